/-! class and reference, call by call: those that change little -/
def j_E (c : Nat) (M : QP) (ra : List QV) : Option QV → QM → Prop := fun o μ1 => ∃ z : Int, o = some (.inl z) ∧ q_r z ∧ M (ra ++ [.inr (.inr 85)]) μ1 (fun o' μ2 => o' = some (.inl z) ∧ J (c + 1) μ2)
theorem J9_bok {P Q w h n : Int} {μ : QM} (hJ : J9 P Q w h n μ) : m_bok μ := by
  obtain ⟨k1, ⟨⟨a1, a2, a3, a4⟩, ⟨a5, a6, a7, a8⟩, -⟩, k3, -, k5, -⟩ := hJ
  have hn := k1.1.2.2.2.2.2.2.2.1
  have hd := k1.1.2.2.1
  refine ⟨by rw [a7, a8]; exact hd, by rw [a6]; exact hn, fun b b0 b1 => ?_, fun s u v s0 s1 q => ?_⟩
  · rw [a6] at b1
    obtain ⟨r1, r2, r3, r4, r5, r6, r7, r8, r9⟩ := k1.1.2.2.2.2.2.2.2.2 b b0 b1
    obtain ⟨p1, p2, p3, p4, p5, p6⟩ := k5.1 b b0 b1
    rw [p1] at r1 r2 r3 r4 r5 r6 r8
    rw [p2] at r3 r4 r5 r9
    rw [p3] at r2
    have hm := m_mn_b (μ 89 b)
    refine ⟨⟨r1, r2, fun k k0 k1' => ?_, r4, r3, r9, p5⟩, r5⟩
    have a := r7 k k0 (by omega)
    have b' := r8 k k0 (by omega)
    rw [p6 k k0 k1'] at a b'
    exact ⟨a.1, b'⟩
  · rw [a7, a8] at q
    have e := k3.1 s u v s0 (by omega) (by omega) (by omega) (by omega) (by omega)
    rw [← e]
    exact k1.2.1.2 s u v s0 (by omega) q
theorem J9_rok {P Q w h n : Int} {μ : QM} (hJ : J9 P Q w h n μ) : m_rok (μ 89) (μ 91) (μ 93) (fun b k => μ 92 (3 * b + k)) (μ 85 7) := m_bok_rok (J9_bok hJ) (Int.le_refl _)
theorem J9_from {P Q w h n : Int} {μ : QM} (hJ : J9 P Q w h n μ) {b t s : Int} (b1 : b < n) : m_from w h (c_kM μ P) (c_rM μ P) (c_mM μ P) (c_oM μ P) b t s = m_from w h (μ 89) (μ 91) (μ 93) (fun b k => μ 92 (3 * b + k)) b t s := by
  obtain ⟨k1, -, -, -, k5, -⟩ := hJ
  refine m_from_cg (fun c c0 c1 => ?_) (fun c c0 c1 => ?_)
  · obtain ⟨p1, p2, p3, p4, p5, p6⟩ := k5.1 c c0 (by omega)
    exact ⟨p1, p3, p6⟩
  · obtain ⟨p1, p2, p3, p4, p5, p6⟩ := k5.1 c c0 (by omega)
    exact p2
theorem J9_nd {P Q w h n : Int} {μ : QM} (hJ : J9 P Q w h n μ) {b t : Int} (b1 : b < n) : m_nd w h (c_kM μ P) (c_mM μ P) (c_oM μ P) b t = m_nd w h (μ 89) (μ 93) (fun b k => μ 92 (3 * b + k)) b t := by
  obtain ⟨k1, -, -, -, k5, -⟩ := hJ
  refine m_nd_cg (fun c c0 c1 => ?_)
  obtain ⟨p1, p2, p3, p4, p5, p6⟩ := k5.1 c c0 (by omega)
  exact ⟨p1, p3, p6⟩
/-- fresh tiles are tiles -/
theorem J9_ft {P Q w h n : Int} {μ : QM} (hJ : J9 P Q w h n μ) : ∀ b t : Int, 0 ≤ b → b < μ 85 7 → 0 ≤ t → t < 9 → μ 94 (9 * b + t) = 0 ∨ (μ 94 (9 * b + t) = 1 ∧ m_tl (μ 85 2) (μ 85 3) t) := by
  obtain ⟨k1, ⟨-, ⟨a5, a6, a7, a8⟩, -⟩, -, -, -, k6⟩ := hJ
  have hn := k1.1.2.2.2.2.2.2.2.1
  intro b t b0 b1 t0 t1
  have e := k6.1 b t b0 (by omega) t0 t1
  rw [e, a7, a8]
  by_cases c : q_bit (μ 21 b) t.toNat = true
  · rw [q_bt c]
    have := (k1.2.2.1.2.1 b t.toNat b0 (by omega) c).2
    rw [show ((t.toNat : Nat) : Int) = t by omega] at this
    exact Or.inr ⟨rfl, this⟩
  · rw [q_bf c]
    exact Or.inl rfl
theorem J_of {c : Nat} {μ ν : QM} (hJ : J c μ) (f : ∀ a j : Int, ¬ j_jk a j → ν a j = μ a j) : J (c + 1) ν := by
  obtain ⟨h1, P, Q, w, h, n, hJ⟩ := hJ
  have e : ν 85 14 = μ 85 14 := f 85 14 (by unfold j_jk; omega)
  exact ⟨by rw [e]; omega, P, Q, w, h, n, J9_jk f hJ⟩
theorem j_up0 {μ : QM} {a j : Int} (q : ¬ j_jk a j) : q_up μ 85 0 0 a j = μ a j := by
  rw [u_app, if_neg]
  rintro ⟨rfl, rfl⟩
  exact q (Or.inl ⟨rfl, Or.inl rfl⟩)
theorem J_status {c : Nat} {μ : QM} (hJ : J c μ) : sp_X10_status ([] ++ [.inr (.inr 0)]) μ (j_E c sp_X11_status []) := by
  show sp_X10_status [.inr (.inr 0)] μ _
  rw [sp_X10_status_e]
  obtain ⟨h1, P, Q, w, h, n, hj⟩ := id hJ
  obtain ⟨-, ⟨-, -, -, ⟨a11, a12⟩, -⟩, -⟩ := hj
  refine ⟨rfl, _, rfl, by rw [a11]; exact a12, ?_⟩
  show sp_X11_status [.inr (.inr 85)] μ _
  rw [sp_X11_status_e]
  exact ⟨rfl, by rw [a11], J_of hJ (fun a j q => j_up0 q)⟩
theorem J_fault {c : Nat} {μ : QM} (hJ : J c μ) : sp_X10_fault ([] ++ [.inr (.inr 0)]) μ (j_E c sp_X11_fault []) := by
  show sp_X10_fault [.inr (.inr 0)] μ _
  rw [sp_X10_fault_e]
  obtain ⟨h1, P, Q, w, h, n, hj⟩ := id hJ
  obtain ⟨-, ⟨-, -, ⟨a9, a10⟩, -⟩, -⟩ := hj
  refine ⟨rfl, _, rfl, by rw [a9]; exact a10, ?_⟩
  show sp_X11_fault [.inr (.inr 85)] μ _
  rw [sp_X11_fault_e]
  exact ⟨rfl, by rw [a9], J_of hJ (fun a j q => j_up0 q)⟩
theorem J_made {c : Nat} (hc : c ≤ 512) {μ : QM} (hJ : J c μ) : sp_X10_made ([] ++ [.inr (.inr 0)]) μ (j_E c sp_X11_made []) := by
  show sp_X10_made [.inr (.inr 0)] μ _
  rw [sp_X10_made_e]
  obtain ⟨h1, P, Q, w, h, n, hj⟩ := id hJ
  obtain ⟨-, ⟨-, -, -, -, a13, -⟩, -⟩ := hj
  refine ⟨rfl, _, rfl, by rw [a13]; omega, ?_⟩
  show sp_X11_made [.inr (.inr 85)] μ _
  rw [sp_X11_made_e]
  exact ⟨rfl, by rw [a13], J_of hJ (fun a j q => j_up0 q)⟩
theorem J_told {c : Nat} {μ : QM} {s x y : Int} (hs : q_r s) (hx : q_r x) (hy : q_r y) (hJ : J c μ) : sp_X10_told ([.inl y, .inl x, .inl s] ++ [.inr (.inr 0)]) μ (j_E c sp_X11_told [.inl y, .inl x, .inl s]) := by
  show sp_X10_told [.inl y, .inl x, .inl s, .inr (.inr 0)] μ _
  rw [sp_X10_told_e]
  obtain ⟨h1, P, Q, w, h, n, hj⟩ := id hJ
  obtain ⟨k1, ⟨-, ⟨a5, a6, a7, a8⟩, -⟩, k3, -⟩ := hj
  have hd := k1.1.2.2.1
  have ew := k1.1.2.2.2.1
  have eh := k1.1.2.2.2.2.1
  rw [ew, eh]
  have hv : (if (0 ≤ s ∧ s < 4) ∧ m_in w h x y then μ (4 + s) (c_p x y) else -2000000000) = (if (0 ≤ s ∧ s ≤ 3) ∧ (0 ≤ x ∧ x < w ∧ 0 ≤ y ∧ y < h) then μ 86 (144 * s + 12 * y + x) else -2000000000) := by
    by_cases c : (0 ≤ s ∧ s < 4) ∧ m_in w h x y
    · rw [if_pos c, if_pos (by omega)]
      exact k3.1 s x y c.1.1 c.1.2 (by omega) (by omega) (by omega) (by omega)
    · rw [if_neg c, if_neg (by omega)]
  refine ⟨rfl, ⟨hs, hx, hy⟩, hd, _, rfl, ?_, ?_⟩
  · split
    · rename_i c
      have : m_vr (μ (4 + s) (c_p x y)) := k1.2.1.2 s x y c.1.1 c.1.2 c.2
      omega
    · decide
  · show sp_X11_told [.inl y, .inl x, .inl s, .inr (.inr 85)] μ _
    rw [sp_X11_told_e, a7, a8]
    exact ⟨rfl, ⟨hs, hx, hy⟩, hd, by rw [hv], J_of hJ (fun a j q => j_up0 q)⟩
theorem j_tl {w h t : Int} : (0 ≤ t ∧ t < 9 ∧ q_bit (q_tm w h) t.toNat = true) ↔ m_tl w h t := by
  constructor
  · intro q
    have q1 := q.2.2
    rw [q_tm_bit] at q1
    have q2 := of_decide_eq_true q1
    rw [show ((t.toNat : Nat) : Int) = t by omega] at q2
    exact q2
  · intro q
    refine ⟨by omega, by omega, ?_⟩
    rw [q_tm_bit, show ((t.toNat : Nat) : Int) = t by omega]
    exact decide_eq_true q
theorem J_fresh {c : Nat} {μ : QM} {b t : Int} (hb : q_r b) (ht : q_r t) (hJ : J c μ) : sp_X10_fresh ([.inl t, .inl b] ++ [.inr (.inr 0)]) μ (j_E c sp_X11_fresh [.inl t, .inl b]) := by
  show sp_X10_fresh [.inl t, .inl b, .inr (.inr 0)] μ _
  rw [sp_X10_fresh_e]
  obtain ⟨h1, P, Q, w, h, n, hj⟩ := id hJ
  obtain ⟨k1, ⟨⟨a1, -⟩, ⟨a5, a6, a7, a8⟩, -⟩, k3, k4, k5, k6⟩ := hj
  have hd := k1.1.2.2.1
  have hn := k1.1.2.2.2.2.2.2.2.1
  have et := k1.1.2.2.2.2.2.1
  refine ⟨rfl, ⟨hb, ht⟩, P, k1.1.1, a1, by omega, by rw [et]; exact q_mk_tm w h, k1.2.2.1.1, _, rfl, ?_, ?_⟩
  · unfold q_b
    (repeat' split) <;> decide
  · show sp_X11_fresh [.inl t, .inl b, .inr (.inr 85)] μ _
    rw [sp_X11_fresh_e, a6, a7, a8]
    refine ⟨rfl, ⟨hb, ht⟩, hd, hn, fun j => by have := k6.2 j; omega, ?_, J_of hJ (fun a j q => j_up0 q)⟩
    rw [a5, et]
    by_cases c : (0 ≤ b ∧ b < n) ∧ m_tl w h t
    · have c9 : (0 ≤ b ∧ b < n) ∧ 0 ≤ t ∧ t < 9 ∧ q_bit (q_tm w h) t.toNat = true := ⟨c.1, j_tl.mpr c.2⟩
      rw [if_pos c, if_pos c9, k6.1 b t c.1.1 (by omega) (by omega) (by omega)]
      by_cases c2 : q_bit (μ 21 b) t.toNat = true
      · rw [q_bt c2]; rfl
      · rw [q_bf c2]; rfl
    · rw [if_neg c, if_neg (fun q => c ⟨q.1, j_tl.mp q.2⟩)]
theorem J_from {c : Nat} {μ : QM} {b t s : Int} (hb : q_r b) (ht : q_r t) (hs : q_r s) (hJ : J c μ) : sp_X10_from ([.inl s, .inl t, .inl b] ++ [.inr (.inr 0)]) μ (j_E c sp_X11_from [.inl s, .inl t, .inl b]) := by
  show sp_X10_from [.inl s, .inl t, .inl b, .inr (.inr 0)] μ _
  rw [sp_X10_from_e]
  obtain ⟨h1, P, Q, w, h, n, hj⟩ := id hJ
  obtain ⟨k1, ⟨⟨a1, a2, a3, a4⟩, ⟨a5, a6, a7, a8⟩, a9⟩, k3, k4, k5, k6⟩ := id hj
  have hd := k1.1.2.2.1
  have hn := k1.1.2.2.2.2.2.2.2.1
  have hro := J9_rok hj
  refine ⟨rfl, ⟨hb, ht, hs⟩, P, w, h, c_ok_wk k1.1 (by omega), a1, by omega, fun q => ?_, fun q => ?_⟩
  · refine ⟨_, rfl, by decide, ?_⟩
    show sp_X11_from [.inl s, .inl t, .inl b, .inr (.inr 85)] μ _
    rw [sp_X11_from_e, a6, a7, a8, if_neg (by rw [a5] at q; omega)]
    exact ⟨rfl, ⟨hb, ht, hs⟩, hd, hn, by rw [← a6]; exact hro, rfl, J_of hJ (fun a j q => j_up0 q)⟩
  · rw [a5] at q
    have hsub := m_from_sub (kd := c_kM μ P) (rn := c_rM μ P) (mn := c_mM μ P) (of := c_oM μ P) (board := b) (sheet := s) q.2.1
    refine ⟨_, rfl, hsub.1.1, ?_⟩
    show sp_X11_from [.inl s, .inl t, .inl b, .inr (.inr 85)] _ _
    have e : ∀ a j : Int, ¬ a = 22 → q_blk μ 22 10 (m_nd w h (c_kM μ P) (c_mM μ P) (c_oM μ P) b t) a j = μ a j := fun a j q => by rw [u_blk, if_neg (by omega)]
    have e89 : q_blk μ 22 10 (m_nd w h (c_kM μ P) (c_mM μ P) (c_oM μ P) b t) 89 = μ 89 := funext fun j => e 89 j (by omega)
    have e91 : q_blk μ 22 10 (m_nd w h (c_kM μ P) (c_mM μ P) (c_oM μ P) b t) 91 = μ 91 := funext fun j => e 91 j (by omega)
    have e92 : q_blk μ 22 10 (m_nd w h (c_kM μ P) (c_mM μ P) (c_oM μ P) b t) 92 = μ 92 := funext fun j => e 92 j (by omega)
    have e93 : q_blk μ 22 10 (m_nd w h (c_kM μ P) (c_mM μ P) (c_oM μ P) b t) 93 = μ 93 := funext fun j => e 93 j (by omega)
    rw [sp_X11_from_e, e 85 2 (by omega), e 85 3 (by omega), e 85 7 (by omega), e89, e91, e92, e93, a6, a7, a8, if_pos (by omega)]
    refine ⟨rfl, ⟨hb, ht, hs⟩, hd, hn, by rw [← a6]; exact hro, fun g => ⟨by rw [J9_from hj q.1.2], ?_⟩⟩
    have hsub2 : ∀ j, q_mk (m_nd w h (c_kM μ P) (c_mM μ P) (c_oM μ P) b t j) := fun j => (m_nd_sub q.2.1 j).1
    have step : J9 P Q w h n (q_blk μ 22 10 (m_nd w h (c_kM μ P) (c_mM μ P) (c_oM μ P) b t)) := by
      refine ⟨c_ok_cg (fun a j q => e a j (by have := k1.1.1; omega)) k1, ⟨⟨?_, ?_, a3, a4⟩, ⟨?_, ?_, ?_, ?_⟩, ?_, ?_, ?_, fun j j0 j1 => ?_, fun j q9 => ?_⟩, j_s_jk (fun a j q => e a j (by omega)) k3, j_t_cg (fun a j q => e a j (by omega)) k4, j_p_jk k1.1.1 a3 hn.2 (fun a j q => e a j (by have := k1.1.1; omega)) k5, j_f_cg (fun a j q => e a j (by omega)) k6⟩
      · rw [e 0 5 (by omega)]; exact a1
      · rw [e 0 6 (by omega)]; exact a2
      · rw [e P 2 (by have := k1.1.1; omega)]; exact a5
      · rw [e 85 7 (by omega)]; exact a6
      · rw [e 85 2 (by omega)]; exact a7
      · rw [e 85 3 (by omega)]; exact a8
      · rw [e 0 7 (by omega), e 85 36 (by omega)]; exact a9.1
      · rw [e 0 8 (by omega), e 85 1 (by omega)]; exact a9.2.1
      · rw [e 20 6 (by omega), e 85 14 (by omega)]; exact a9.2.2.1
      · rw [u_blk, if_pos ⟨rfl, j0, j1⟩]; exact hsub2 j
      · rw [e 104 j (by omega)]; exact a9.2.2.2.2 j q9
    refine J_of ⟨?_, P, Q, w, h, n, step⟩ (fun a j q => ?_)
    · rw [e 85 14 (by omega)]; exact h1
    · rw [u_blk, if_neg (fun q9 => q (by unfold j_jk; omega)), j_up0 q]
theorem j_cnt {w h : Int} : ∀ n : Nat, n ≤ 9 → c_bc (q_tm w h) n = m_tcn w h n
  | 0, _ => rfl
  | n + 1, hn => by
    show c_bc (q_tm w h) n + (if q_bit (q_tm w h) n = true then 1 else 0) = m_tcn w h n + (if m_tl w h (n : Int) then 1 else 0)
    rw [j_cnt n (by omega), q_tm_bit]
    by_cases c : m_tl w h (n : Int)
    · rw [if_pos c, if_pos (decide_eq_true c)]
    · rw [if_neg c, if_neg (by rw [decide_eq_false c]; decide)]
theorem j_row {μ : QM} {b : Int} (hf : ∀ t : Int, 0 ≤ t → t < 9 → μ 94 (9 * b + t) = q_b (q_bit (μ 21 b) t.toNat = true)) (b0 : 0 ≤ b) : ∀ t : Nat, t ≤ 9 → m_fcn (μ 94) ((9 * b).toNat + t) = m_fcn (μ 94) (9 * b).toNat + c_bc (μ 21 b) t
  | 0, _ => by
    show m_fcn (μ 94) (9 * b).toNat = m_fcn (μ 94) (9 * b).toNat + 0
    omega
  | t + 1, ht => by
    have ih := j_row hf b0 t (by omega)
    have e := hf t (by omega) (by omega)
    show m_fcn (μ 94) ((9 * b).toNat + t) + (if μ 94 (((9 * b).toNat + t : Nat) : Int) = 0 then 0 else 1) = m_fcn (μ 94) (9 * b).toNat + (c_bc (μ 21 b) t + (if q_bit (μ 21 b) t = true then 1 else 0))
    rw [show (((9 * b).toNat + t : Nat) : Int) = 9 * b + t by omega, e, ih, show ((t : Int).toNat) = t by omega]
    by_cases c : q_bit (μ 21 b) t = true
    · rw [q_bt c, if_pos c, if_neg (by decide)]
      omega
    · rw [q_bf c, if_neg c, if_pos rfl]
      omega
theorem j_fa {μ : QM} (hf : ∀ b t : Int, 0 ≤ b → b < 10 → 0 ≤ t → t < 9 → μ 94 (9 * b + t) = q_b (q_bit (μ 21 b) t.toNat = true)) : ∀ n : Nat, n ≤ 10 → c_fa (μ 21) n = m_fcn (μ 94) (9 * n)
  | 0, _ => rfl
  | n + 1, hn => by
    have e := j_row (μ := μ) (b := n) (fun t t0 t1 => hf n t (by omega) (by omega) t0 t1) (by omega) 9 (by omega)
    show c_fa (μ 21) n + c_bc (μ 21 n) 9 = m_fcn (μ 94) (9 * (n + 1))
    rw [j_fa hf n (by omega), show 9 * (n + 1) = (9 * (n : Int)).toNat + 9 by omega, e, show (9 * (n : Int)).toNat = 9 * n by omega]
theorem m_fcn_0 {f : Int → Int} : ∀ (d n : Nat), (∀ j : Int, n ≤ j → j < n + d → f j = 0) → m_fcn f (n + d) = m_fcn f n
  | 0, _, _ => rfl
  | d + 1, n, hf => by
    show m_fcn f (n + d) + (if f ((n + d : Nat) : Int) = 0 then 0 else 1) = m_fcn f n
    rw [m_fcn_0 d n (fun j a b => hf j a (by omega)), hf _ (by omega) (by omega), if_pos rfl]
    omega
theorem m_fcn_b (f : Int → Int) : ∀ n : Nat, 0 ≤ m_fcn f n ∧ m_fcn f n ≤ n
  | 0 => ⟨Int.le_refl _, Int.le_refl _⟩
  | n + 1 => by
    have := m_fcn_b f n
    show 0 ≤ m_fcn f n + (if f (n : Int) = 0 then 0 else 1) ∧ m_fcn f n + (if f (n : Int) = 0 then 0 else 1) ≤ ((n + 1 : Nat) : Int)
    split <;> omega
theorem m_tcn_b (w h : Int) : ∀ n : Nat, 0 ≤ m_tcn w h n ∧ m_tcn w h n ≤ n
  | 0 => ⟨Int.le_refl _, Int.le_refl _⟩
  | n + 1 => by
    have := m_tcn_b w h n
    show 0 ≤ m_tcn w h n + (if m_tl w h (n : Int) then 1 else 0) ∧ m_tcn w h n + (if m_tl w h (n : Int) then 1 else 0) ≤ ((n + 1 : Nat) : Int)
    split <;> omega
theorem J_count {c : Nat} {μ : QM} {k : Int} (hk : q_r k) (hJ : J c μ) : sp_X10_count ([.inl k] ++ [.inr (.inr 0)]) μ (j_E c sp_X11_count [.inl k]) := by
  show sp_X10_count [.inl k, .inr (.inr 0)] μ _
  rw [sp_X10_count_e]
  obtain ⟨h1, P, Q, w, h, n, hj⟩ := id hJ
  obtain ⟨k1, ⟨⟨a1, a2, a3, a4⟩, ⟨a5, a6, a7, a8⟩, a9⟩, k3, k4, k5, k6⟩ := id hj
  have hd := k1.1.2.2.1
  have hn := k1.1.2.2.2.2.2.2.2.1
  have ew := k1.1.2.2.2.1
  have eh := k1.1.2.2.2.2.1
  have et := k1.1.2.2.2.2.2.1
  have e3 : c_bc (μ 1 2) 9 = m_tcn w h 9 := by rw [et]; exact j_cnt 9 (by omega)
  have e5 : c_fa (μ 21) 10 = m_fcn (μ 94) (9 * n).toNat := by
    rw [j_fa k6.1 10 (by omega)]
    have := m_fcn_0 (f := μ 94) (90 - (9 * n).toNat) (9 * n).toNat (fun j j0 j1 => by
      have e := k6.1 (j / 9) (j % 9) (by omega) (by omega) (by omega) (by omega)
      rw [show 9 * (j / 9) + j % 9 = j by omega] at e
      rw [e]
      refine q_bf (fun q => ?_)
      have := (k1.2.2.1.2.1 (j / 9) _ (by omega) (by omega) q).1
      omega)
    rw [← this, show (9 * n).toNat + (90 - (9 * n).toNat) = 9 * 10 by omega]
  have b3 := m_tcn_b w h 9
  have b5 := m_fcn_b (μ 94) (9 * n).toNat
  have bt := k4.2.1.1
  refine ⟨rfl, hk, by rw [a1]; exact k1.1.1, by rw [et]; exact q_mk_tm w h, k1.2.2.1.1, _, rfl, ?_, ?_⟩
  · rw [a1, a5, ew, eh, e3, e5, k4.1]
    (repeat' split) <;> omega
  · show sp_X11_count [.inl k, .inr (.inr 85)] μ _
    rw [sp_X11_count_e, a6, a7, a8]
    refine ⟨rfl, hk, ⟨by omega, by omega⟩, hn, fun j => by have := k6.2 j; omega, ?_, J_of hJ (fun a j q => j_up0 q)⟩
    rw [a1, a5, ew, eh, e3, e5, k4.1]

