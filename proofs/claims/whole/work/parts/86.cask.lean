/-! the class: ask -/
/-- values change only where what they come from changes -/
theorem n_V_loc {w h : Int} {kd hw rn kd' hw' rn' : Int → Int} {of of' : Int → Int → Int} {sh sh' : Int → Int → Int → Int} {n : Int} {L : Int → Nat → Prop} (hd : m_dim w h) (hn : n ≤ 10) (hk : ∀ b : Int, 0 ≤ b → b < n → kd' b = kd b ∧ hw' b = hw b ∧ rn' b = rn b ∧ ∀ k : Int, 0 ≤ k → k < m_mn (kd b) → of' b k = of b k ∧ 0 ≤ of b k ∧ of b k < b) (h10 : ∀ b : Int, 0 ≤ b → b < n → kd b = 10 → 1 ≤ rn b ∧ rn b ≤ 3) (hs : ∀ b x y : Int, 0 ≤ b → b < n → kd b = 0 → m_in w h x y → ¬ L b (c_ti x y).toNat → sh' (rn b) x y = sh (rn b) x y) (hL : ∀ (b k : Int) (t u : Nat), 0 ≤ b → b < n → 0 ≤ k → k < m_mn (kd b) → m_tl w h (t : Int) → n_st w h (kd b) t u → ¬ L b t → ¬ L (of b k) u) : ∀ (d : Nat) (b x y : Int), b < d → 0 ≤ b → b < n → m_in w h x y → ¬ L b (c_ti x y).toNat → n_V w h kd' hw' rn' of' sh' b x y = n_V w h kd hw rn of sh b x y := by
  intro d
  induction d with
  | zero => intro b x y h1 h2; omega
  | succ d ih =>
    intro b x y h1 b0 b1 hxy hn'
    obtain ⟨e1, e2, e3, e4⟩ := hk b b0 b1
    rw [n_V_eq hd b0 (by omega) (fun k k0 k1 => by rw [e1] at k1; rw [(e4 k k0 k1).1]; exact (e4 k k0 k1).2.2) hxy, n_V_eq hd b0 (by omega) (fun k k0 k1 => (e4 k k0 k1).2.2) hxy, e1, e2, e3]
    have key : ∀ k : Int, 0 ≤ k → k < m_mn (kd b) → ∀ u v : Int, m_in w h u v → n_st w h (kd b) (c_ti x y).toNat (c_ti u v).toNat → n_V w h kd' hw' rn' of' sh' (of' b k) u v = n_V w h kd hw rn of sh (of b k) u v := fun k k0 k1 u v q st => by
      obtain ⟨a1, a2, a3⟩ := e4 k k0 k1
      rw [a1]
      exact ih _ u v (by omega) a2 (by omega) q (hL b k _ _ b0 b1 k0 k1 (n_tl hd hxy) st hn')
    exact m_val_loc hd hxy (h10 b b0 b1) (fun c => hs b x y b0 b1 c hxy hn') (fun c => key 0 (by omega) (mn_1 c)) (fun c0 c1 c2 c3 => key 1 (by omega) (mn_2 c0 c1 c2 c3)) (fun c => key 2 (by omega) (mn_3 c))
theorem bt_m1 : ∀ t : Nat, t < 32 → q_bit (-1) t = true := by decide +kernel
theorem n_andn (x y : Int) (t : Nat) : q_bit (q_and x (q_xor y (-1))) t = (q_bit x t && !q_bit y t) := by
  rw [bt_and, bt_xor]
  by_cases c : t < 32
  · rw [bt_m1 t c, Bool.xor_true]
  · rw [bt_big x (by omega), Bool.false_and, Bool.false_and]
/-- what making tiles leaves as it was -/
def c_af (μ ν : QM) : Prop := ∀ a j : Int, ¬ a = 21 → ¬ a = 22 → ¬ a = 35 → ¬ a = 37 → ¬ a = 38 → ¬ (24 ≤ a ∧ a < 34) → ¬ (a = 20 ∧ j = 6) → ν a j = μ a j
/-- how many are made -/
def c_mc (μ : QM) (nd : Int → Int) : Nat → Int
  | 0 => 0
  | b + 1 => c_mc μ nd b + c_bc (q_and (nd b) (q_xor (μ 21 b) (-1))) 9
theorem c_bs_af {μ ν : QM} {P w h n : Int} (f : c_af μ ν) (hb : c_bs μ P w h n) : c_bs ν P w h n := by
  obtain ⟨hP, h5, hd, ew, eh, et, hs, hn, hr⟩ := hb
  refine ⟨hP, (f 20 5 (by omega) (by omega) (by omega) (by omega) (by omega) (by omega) (by omega)).trans h5, hd, (f 1 0 (by omega) (by omega) (by omega) (by omega) (by omega) (by omega) (by omega)).trans ew, (f 1 1 (by omega) (by omega) (by omega) (by omega) (by omega) (by omega) (by omega)).trans eh, (f 1 2 (by omega) (by omega) (by omega) (by omega) (by omega) (by omega) (by omega)).trans et, ?_, hn, fun b b0 b1 => ?_⟩
  · have e : ∀ j : Int, ν 36 j = μ 36 j := fun j => f 36 j (by omega) (by omega) (by omega) (by omega) (by omega) (by omega) (by omega)
    rw [c_sd, e, e, e, e]
    exact hs
  · have e : ∀ j : Int, ν (P + 3 + b) j = μ (P + 3 + b) j := fun j => f _ j (by omega) (by omega) (by omega) (by omega) (by omega) (by omega) (by omega)
    have e2 : ∀ j : Int, ν (P + 3 + b + 10) j = μ (P + 3 + b + 10) j := fun j => f _ j (by omega) (by omega) (by omega) (by omega) (by omega) (by omega) (by omega)
    have := hr b b0 b1
    unfold c_ro at this ⊢
    simp only [e, e2]
    exact this
theorem c_vM_af {μ ν : QM} {P w h n b x y : Int} (f : c_af μ ν) (hb : c_bs μ P w h n) (b0 : 0 ≤ b) (b1 : b < n) (hxy : m_in w h x y) : c_vM ν P w h b x y = c_vM μ P w h b x y := by
  obtain ⟨hP, h5, hd, ew, eh, et, hs, hn, hr⟩ := hb
  refine n_V_loc (n := n) (L := fun _ _ => False) hd (by omega) (fun c c0 c1 => ?_) (fun c c0 c1 => (hr c c0 c1).2.2.2.1) (fun c x y c0 c1 ck q _ => ?_) (fun _ _ _ _ _ _ _ _ _ _ _ q => q) (b + 1).toNat b x y (by omega) b0 b1 hxy (fun q => q)
  · have e : ∀ j : Int, ν (P + 3 + c) j = μ (P + 3 + c) j := fun j => f _ j (by omega) (by omega) (by omega) (by omega) (by omega) (by omega) (by omega)
    have e2 : ∀ j : Int, ν (P + 3 + c + 10) j = μ (P + 3 + c + 10) j := fun j => f _ j (by omega) (by omega) (by omega) (by omega) (by omega) (by omega) (by omega)
    obtain ⟨r1, r2, r3, r4, r5, r6, r7, r8, r9⟩ := hr c c0 c1
    have := m_mn_b (μ (P + 3 + c) 2)
    exact ⟨e 2, e 3, e 4, fun k k0 k1 => ⟨e2 k, (r7 k k0 (by have k1 : k < m_mn (μ (P + 3 + c) 2) := k1; omega)).1, r8 k k0 k1⟩⟩
  · obtain ⟨r1, r2, r3, -⟩ := hr c c0 c1
    have := r3 ck
    exact f _ _ (by omega) (by omega) (by omega) (by omega) (by omega) (by omega) (by omega)
def sp_X9_ask : QP := fun ra μ K => match ra with
  | [.inl tile, .inl board, .inr (.inr this)] => this = 20 ∧ ∃ P w h n : Int, c_ok μ P w h n ∧ (0 ≤ board ∧ board < n) ∧ m_tl w h tile ∧ (∀ j : Int, 0 ≤ j → j < 10 → q_mk (μ 22 j)) ∧ ∀ ν : QM, c_af μ ν → c_ok ν P w h n → (∀ (b : Int) (t : Nat), 0 ≤ b → b < 10 → (q_bit (ν 21 b) t = true ↔ q_bit (μ 21 b) t = true ∨ q_bit (m_nd w h (c_kM μ P) (c_mM μ P) (c_oM μ P) board tile b) t = true)) → ν 20 6 = μ 20 6 + c_mc μ (m_nd w h (c_kM μ P) (c_mM μ P) (c_oM μ P) board tile) (board + 1).toNat → (∀ j : Int, 0 ≤ j → j < 10 → q_mk (ν 22 j)) → K none ν
  | _ => False
theorem sp_X9_ask_e (this board tile : Int) (μ : QM) (K : Option QV → QM → Prop) : sp_X9_ask [.inl tile, .inl board, .inr (.inr this)] μ K = (this = 20 ∧ ∃ P w h n : Int, c_ok μ P w h n ∧ (0 ≤ board ∧ board < n) ∧ m_tl w h tile ∧ (∀ j : Int, 0 ≤ j → j < 10 → q_mk (μ 22 j)) ∧ ∀ ν : QM, c_af μ ν → c_ok ν P w h n → (∀ (b : Int) (t : Nat), 0 ≤ b → b < 10 → (q_bit (ν 21 b) t = true ↔ q_bit (μ 21 b) t = true ∨ q_bit (m_nd w h (c_kM μ P) (c_mM μ P) (c_oM μ P) board tile b) t = true)) → ν 20 6 = μ 20 6 + c_mc μ (m_nd w h (c_kM μ P) (c_mM μ P) (c_oM μ P) board tile) (board + 1).toNat → (∀ j : Int, 0 ≤ j → j < 10 → q_mk (ν 22 j)) → K none ν) := propext Iff.rfl
theorem sp_X9_ask_i {ra : List QV} {μ : QM} {K : Option QV → QM → Prop} (h : sp_X9_ask ra μ K) : ∃ this board tile : Int, ra = [.inl tile, .inl board, .inr (.inr this)] ∧ (this = 20 ∧ ∃ P w h n : Int, c_ok μ P w h n ∧ (0 ≤ board ∧ board < n) ∧ m_tl w h tile ∧ (∀ j : Int, 0 ≤ j → j < 10 → q_mk (μ 22 j)) ∧ ∀ ν : QM, c_af μ ν → c_ok ν P w h n → (∀ (b : Int) (t : Nat), 0 ≤ b → b < 10 → (q_bit (ν 21 b) t = true ↔ q_bit (μ 21 b) t = true ∨ q_bit (m_nd w h (c_kM μ P) (c_mM μ P) (c_oM μ P) board tile b) t = true)) → ν 20 6 = μ 20 6 + c_mc μ (m_nd w h (c_kM μ P) (c_mM μ P) (c_oM μ P) board tile) (board + 1).toNat → (∀ j : Int, 0 ≤ j → j < 10 → q_mk (ν 22 j)) → K none ν) := by
  unfold sp_X9_ask at h
  split at h
  · exact ⟨_, _, _, rfl, h⟩
  · exact h.elim
def rm_X9_ask : Room := { frames := 5, cells := 0, slots := 0, locals := 123 }
def G_X9_ask : Nat → Nat × QP := fun i => match i with
  | 56 => (3, sp_X9_isFresh)
  | 60 => (3, sp_X9_reachNeeded)
  | 64 => (3, sp_X9_makeTiles)
  | _ => (0, fun _ _ _ => False)
theorem G_X9_ask_56 : G_X9_ask 56 = (3, sp_X9_isFresh) := id rfl
theorem G_X9_ask_60 : G_X9_ask 60 = (3, sp_X9_reachNeeded) := id rfl
theorem G_X9_ask_64 : G_X9_ask 64 = (3, sp_X9_makeTiles) := id rfl
def ak_in (μ : QM) (P w h n : Int) (nd : Int → Int) (b : Int) (ν : QM) : Prop := c_af μ ν ∧ c_ok ν P w h n ∧ (∀ c : Int, 0 ≤ c → c < 10 → ν 22 c = nd c) ∧ (∀ (c : Int) (t : Nat), 0 ≤ c → c < 10 → c < b → (q_bit (ν 21 c) t = true ↔ q_bit (μ 21 c) t = true ∨ q_bit (nd c) t = true)) ∧ (∀ c : Int, ¬ c < b → ν 21 c = μ 21 c) ∧ ν 20 6 = μ 20 6 + c_mc μ nd b.toNat
theorem ak_0 {μ ν : QM} {P w h n b : Int} {nd : Int → Int} (hs : ∀ j, m_sub w h (nd j)) (b0 : 0 ≤ b) (b1 : b < 10) (hi : ak_in μ P w h n nd b ν) (ht : q_and (nd b) (q_xor (ν 21 b) (-1)) = 0) : ak_in μ P w h n nd (b + 1) ν := by
  obtain ⟨i1, i2, i3, i4, i5, i6⟩ := hi
  have e := i5 b (by omega)
  refine ⟨i1, i2, i3, fun c t c0 c1 c2 => ?_, fun c c2 => i5 c (by omega), ?_⟩
  · by_cases q : c = b
    · subst q
      rw [e]
      refine ⟨Or.inl, ?_⟩
      rintro (q | q)
      · exact q
      · have : q_bit (q_and (nd c) (q_xor (ν 21 c) (-1))) t = false := by rw [ht]; exact bt_0 t
        rw [n_andn, q, e] at this
        cases e2 : q_bit (μ 21 c) t with
        | true => rfl
        | false => rw [e2] at this; cases this
    · exact i4 c t c0 c1 (by omega)
  · rw [show (b + 1).toNat = b.toNat + 1 by omega]
    show _ = _ + (c_mc μ nd b.toNat + c_bc (q_and (nd (b.toNat : Nat)) (q_xor (μ 21 (b.toNat : Nat)) (-1))) 9)
    rw [show ((b.toNat : Nat) : Int) = b by omega, ← e, ht, i6]
    have : c_bc 0 9 = 0 := by
      have : ∀ k : Nat, c_bc 0 k = 0 := fun k => by
        induction k with
        | zero => rfl
        | succ k ih =>
          show c_bc 0 k + (if q_bit 0 k = true then 1 else 0) = 0
          rw [ih, bt_0]
          rfl
      exact this 9
    omega
theorem ak_1 {μ ν ν2 : QM} {P w h n b B tile : Int} {nd : Int → Int} (en : nd = m_nd w h (c_kM μ P) (c_mM μ P) (c_oM μ P) B tile) (hB : 0 ≤ B ∧ B < n) (hr0 : m_rok (c_kM μ P) (c_rM μ P) (c_mM μ P) (c_oM μ P) (B + 1)) (htl : m_tl w h tile) (b0 : 0 ≤ b) (b1 : b ≤ B) (hi : ak_in μ P w h n nd b ν) (ht : ¬ q_and (nd b) (q_xor (ν 21 b) (-1)) = 0)
    (f : ∀ c j : Int, ¬ c = 35 → ¬ c = 37 → ¬ c = 38 → ¬ c = 24 + b → ¬ (c = 21 ∧ j = b) → ¬ (c = 20 ∧ j = 6) → ν2 c j = ν c j) (g1 : ν2 21 b = q_or (ν 21 b) (q_and (nd b) (q_xor (ν 21 b) (-1)))) (g2 : ν2 20 6 = ν 20 6 + c_bc (q_and (nd b) (q_xor (ν 21 b) (-1))) 9) (g3 : c_gp ν2 (24 + b) w h) (g4 : c_wh ν (P + 3 + b) → ν 21 b = 0 → ∀ x y : Int, m_in w h x y → ν2 (24 + b) (c_p x y) = c_V ν (P + 3 + b) w h x y) (g5 : c_wh ν (P + 3 + b) → ¬ ν 21 b = 0 → ∀ j : Int, ν2 (24 + b) j = ν (24 + b) j) (g6 : ¬ c_wh ν (P + 3 + b) → (∀ x y : Int, c_in w h (q_and (nd b) (q_xor (ν 21 b) (-1))) x y → ν2 (24 + b) (c_p x y) = c_V ν (P + 3 + b) w h x y) ∧ ∀ x y : Int, m_in w h x y → ¬ c_in w h (q_and (nd b) (q_xor (ν 21 b) (-1))) x y → ν2 (24 + b) (c_p x y) = ν (24 + b) (c_p x y)) : ak_in μ P w h n nd (b + 1) ν2 := by
  obtain ⟨i1, ⟨kb, kv, kf, kr⟩, i3, i4, i5, i6⟩ := hi
  have hn := kb.2.2.2.2.2.2.2.1
  have hP := kb.1
  have hd := kb.2.2.1
  have e := i5 b (by omega)
  have fa : c_af ν ν2 := fun a j n1 n2 n3 n4 n5 n6 n7 => f a j n3 n4 n5 (by omega) (by omega) n7
  have f21 : ∀ c : Int, ¬ c = b → ν2 21 c = ν 21 c := fun c q => f 21 c (by omega) (by omega) (by omega) (by omega) (by omega) (by omega)
  have fm : ∀ c j : Int, 0 ≤ c → c < 10 → ν2 (P + 3 + c) j = ν (P + 3 + c) j := fun c j c0 c1 => f _ j (by omega) (by omega) (by omega) (by omega) (by omega) (by omega)
  have fn : ∀ c j : Int, 0 ≤ c → c < 10 → ν2 (P + 3 + c + 10) j = ν (P + 3 + c + 10) j := fun c j c0 c1 => f _ j (by omega) (by omega) (by omega) (by omega) (by omega) (by omega)
  have fm0 : ∀ c j : Int, 0 ≤ c → c < 10 → ν (P + 3 + c) j = μ (P + 3 + c) j := fun c j c0 c1 => i1 _ j (by omega) (by omega) (by omega) (by omega) (by omega) (by omega) (by omega)
  have fn0 : ∀ c j : Int, 0 ≤ c → c < 10 → ν (P + 3 + c + 10) j = μ (P + 3 + c + 10) j := fun c j c0 c1 => i1 _ j (by omega) (by omega) (by omega) (by omega) (by omega) (by omega) (by omega)
  have bit2 : ∀ t : Nat, q_bit (ν2 21 b) t = true ↔ q_bit (ν 21 b) t = true ∨ q_bit (nd b) t = true := fun t => by
    rw [g1, bt_or, n_andn]
    cases q_bit (ν 21 b) t <;> cases q_bit (nd b) t <;> simp
  have hrb := kb.2.2.2.2.2.2.2.2 b b0 (by omega)
  have ro := fun c c0 c1 => kb.2.2.2.2.2.2.2.2 c c0 c1
  have need : ∀ (k : Int) (t u : Nat), 0 ≤ k → k < c_mM ν P b → q_bit (nd b) t = true → n_st w h (c_kM ν P b) t u → q_bit (ν 21 (c_oM ν P b k)) u = true := fun k t u k0 k1 q st => by
    have k1 : k < ν (P + 3 + b) 1 := k1
    have st : n_st w h (ν (P + 3 + b) 2) t u := st
    show q_bit (ν 21 (ν (P + 3 + b + 10) k)) u = true
    have hk : k < m_mn (ν (P + 3 + b) 2) := by have := hrb.2.1; omega
    have o1 := hrb.2.2.2.2.2.2.2.1 k k0 hk
    have hmb := m_mn_b (ν (P + 3 + b) 2)
    have o2 := hrb.2.2.2.2.2.2.1 k k0 (by omega)
    refine (i4 _ u o2.1 (by omega) o1).mpr (Or.inr ?_)
    rw [fm0 b 1 b0 (by omega)] at k1
    rw [fm0 b 2 b0 (by omega)] at st
    rw [fn0 b k b0 (by omega), en]
    rw [en] at q
    exact n_step hB.1 htl hr0 b0 b1 k0 k1 q st
  have eV : ∀ c x y : Int, 0 ≤ c → c < n → m_in w h x y → c_vM ν2 P w h c x y = c_vM ν P w h c x y := fun c x y c0 c1 q => c_vM_af fa kb c0 c1 q
  have hsub : m_sub w h (nd b) := by rw [en]; exact m_nd_sub htl b
  refine ⟨fun a j n1 n2 n3 n4 n5 n6 n7 => (fa a j n1 n2 n3 n4 n5 n6 n7).trans (i1 a j n1 n2 n3 n4 n5 n6 n7), ⟨c_bs_af fa kb, ⟨fun i q0 q1 => ?_, fun s u v s0 s1 q => ?_⟩, ⟨fun c c0 c1 => ?_, fun c t c0 c1 q => ?_, fun c k t u c0 c1 q k0 k1 st => ?_⟩, fun c x y c0 c1 q st => ?_⟩, fun c c0 c1 => ?_, fun c t c0 c1 c2 => ?_, fun c c2 => ?_, ?_⟩
  · by_cases q : i = b
    · subst q
      refine ⟨g3, fun u v huv => ?_⟩
      have old := (kv.1 i q0 q1).2 u v huv
      have new := c_V_vr kb kv q0 (show i < n by omega) huv
      show m_vr (ν2 (24 + i) (c_p u v))
      by_cases c : c_wh ν (P + 3 + i)
      · by_cases c2 : ν 21 i = 0
        · rw [g4 c c2 u v huv]; exact new
        · rw [g5 c c2]; exact old
      · by_cases c2 : c_in w h (q_and (nd i) (q_xor (ν 21 i) (-1))) u v
        · rw [(g6 c).1 u v c2]; exact new
        · rw [(g6 c).2 u v huv c2]; exact old
    · have fr : ∀ j : Int, ν2 (24 + i) j = ν (24 + i) j := fun j => f _ j (by omega) (by omega) (by omega) (by omega) (by omega) (by omega)
      obtain ⟨v1, v2⟩ := kv.1 i q0 q1
      exact ⟨fun u v u0 u1 v0 v1' hn' => by rw [fr]; exact v1 u v u0 u1 v0 v1' hn', fun u v huv => by show m_vr (ν2 (24 + i) (c_p u v)); rw [fr]; exact v2 u v huv⟩
  · show m_vr (ν2 (4 + s) (c_p u v))
    rw [f _ _ (by omega) (by omega) (by omega) (by omega) (by omega) (by omega)]
    exact kv.2 s u v s0 s1 q
  · by_cases q : c = b
    · subst q
      rw [g1]
      exact q_mk_or (kf.1 c c0 c1) (q_mk_and hsub.1)
    · rw [f21 c q]
      exact kf.1 c c0 c1
  · by_cases q2 : c = b
    · subst q2
      rcases (bit2 t).mp q with q | q
      · exact kf.2.1 c t c0 c1 q
      · exact ⟨by omega, hsub.2 t q⟩
    · rw [f21 c q2] at q
      exact kf.2.1 c t c0 c1 q
  · have k1 : k < ν2 (P + 3 + c) 1 := k1
    have st : n_st w h (ν2 (P + 3 + c) 2) t u := st
    show q_bit (ν2 21 (ν2 (P + 3 + c + 10) k)) u = true
    rw [fm c 1 c0 (by omega)] at k1
    rw [fm c 2 c0 (by omega)] at st
    rw [fn c k c0 (by omega)]
    have mono : ∀ (a : Int), q_bit (ν 21 a) u = true → q_bit (ν2 21 a) u = true := fun a qa => by
      by_cases q2 : a = b
      · subst q2
        exact (bit2 u).mpr (Or.inl qa)
      · rw [f21 a q2]; exact qa
    by_cases q2 : c = b
    · subst q2
      rcases (bit2 t).mp q with q | q
      · exact mono _ (kf.2.2 c k t u c0 c1 q k0 k1 st)
      · exact mono _ (need k t u k0 k1 q st)
    · rw [f21 c q2] at q
      exact mono _ (kf.2.2 c k t u c0 c1 q k0 k1 st)
  · rw [eV c x y c0 c1 q]
    by_cases q2 : c = b
    · subst q2
      have st : (n_wh (ν2 (P + 3 + c) 2) → ¬ ν2 21 c = 0) ∧ (¬ n_wh (ν2 (P + 3 + c) 2) → q_bit (ν2 21 c) (c_ti x y).toNat = true) := st
      rw [fm c 2 c0 (by omega)] at st
      show ν2 (24 + c) (c_p x y) = _
      by_cases cw : c_wh ν (P + 3 + c)
      · by_cases c2 : ν 21 c = 0
        · rw [g4 cw c2 x y q]
          obtain ⟨t0, q0⟩ := n_nz (q_mk_and hsub.1) ht
          rw [n_andn, Bool.and_eq_true] at q0
          exact c_V_rt kb kr c0 c1 q (fun k u k0 k1 s => need k t0 u k0 k1 q0.1 ⟨s.1, Or.inl cw⟩)
        · rw [g5 cw c2]
          exact kr c x y c0 c1 q ⟨fun _ => c2, fun q9 => absurd cw q9⟩
      · by_cases c2 : c_in w h (q_and (nd c) (q_xor (ν 21 c) (-1))) x y
        · rw [(g6 cw).1 x y c2]
          have q0 := c2.2
          rw [n_andn, Bool.and_eq_true] at q0
          exact c_V_rt kb kr c0 c1 q (fun k u k0 k1 s => need k _ u k0 k1 q0.1 s)
        · rw [(g6 cw).2 x y q c2]
          refine kr c x y c0 c1 q ⟨fun q9 => absurd q9 cw, fun _ => ?_⟩
          have b2 := st.2 cw
          rw [g1, bt_or, Bool.or_eq_true] at b2
          rcases b2 with b2 | b2
          · exact b2
          · exact absurd ⟨q, b2⟩ c2
    · have fr : ∀ j : Int, ν2 (24 + c) j = ν (24 + c) j := fun j => f _ j (by omega) (by omega) (by omega) (by omega) (by omega) (by omega)
      have st : (n_wh (ν2 (P + 3 + c) 2) → ¬ ν2 21 c = 0) ∧ (¬ n_wh (ν2 (P + 3 + c) 2) → q_bit (ν2 21 c) (c_ti x y).toNat = true) := st
      rw [fm c 2 c0 (by omega), f21 c q2] at st
      show ν2 (24 + c) (c_p x y) = _
      rw [fr]
      exact kr c x y c0 c1 q st
  · rw [f 22 c (by omega) (by omega) (by omega) (by omega) (by omega) (by omega)]
    exact i3 c c0 c1
  · by_cases q : c = b
    · subst q
      rw [bit2, e]
    · rw [f21 c q]
      exact i4 c t c0 c1 (by omega)
  · rw [f21 c (by omega)]
    exact i5 c (by omega)
  · rw [show (b + 1).toNat = b.toNat + 1 by omega]
    show _ = _ + (c_mc μ nd b.toNat + c_bc (q_and (nd (b.toNat : Nat)) (q_xor (μ 21 (b.toNat : Nat)) (-1))) 9)
    rw [show ((b.toNat : Nat) : Int) = b by omega, g2, i6, e]
    omega
theorem ak_18 {Rt : Option QV → QM → Prop} {S : Nat → QL → List QV → QM → Prop} (hR : q_Rule cX9_ask 4 u_X9_ask fl_X9 ld_X9 G_X9_ask q_T 4 s_X9_ask Rt S) {μ : QM} {P w h n B tile : Int} {nd : Int → Int} (en : nd = m_nd w h (c_kM μ P) (c_mM μ P) (c_oM μ P) B tile) (hB : 0 ≤ B ∧ B < n) (hn : n ≤ 10) (hr0 : m_rok (c_kM μ P) (c_rM μ P) (c_mM μ P) (c_oM μ P) (B + 1)) (htl : m_tl w h tile) (hk : ∀ ν : QM, ak_in μ P w h n nd (B + 1) ν → Rt none ν) : ∀ (d : Nat) (b : Int) (ν : QM), b + d = B + 1 → 0 ≤ b → ak_in μ P w h n nd b ν → S 18 [some (.inr (.inr 20)), some (.inl B), some (.inl tile), some (.inl b)] [] ν := by
  intro d
  have hsub : ∀ j, m_sub w h (nd j) := fun j => by rw [en]; exact m_nd_sub htl j
  induction d with
  | zero =>
    intro b ν h1 h2 hi
    obtain rfl : b = B + 1 := by omega
    refine hR 60 b_X9_ask_18 18 _ _ _ o_X9_ask_18 ?_
    simp only [v_opt_n, v_opt_s, v_nil, v_iconst, v_bipush, v_sipush, v_lconst0, v_lconst1, v_ldc, v_ldcw, v_ldc2, v_iload0, v_iload1, v_iload2, v_iload3, v_iload, v_lload0, v_lload1, v_lload2, v_lload3, v_lload, v_aload0, v_aload1, v_aload2, v_aload3, v_aload, v_istore0, v_istore1, v_istore2, v_istore3, v_istore, v_lstore0, v_lstore1, v_lstore2, v_lstore3, v_lstore, v_astore0, v_astore1, v_astore2, v_astore3, v_astore, v_iinc, v_iadd, v_isub, v_imul, v_iand, v_ior, v_ixor, v_ishl, v_ishr, v_iushr, v_ineg, v_idiv, v_irem, v_ladd, v_lsub, v_lmul, v_lcmp, v_i2l, v_l2i, v_i2c, v_dup, v_dup2, v_if_eq, v_if_ne, v_if_lt, v_if_ge, v_if_gt, v_if_le, v_ic_eq, v_ic_ne, v_ic_lt, v_ic_ge, v_ic_gt, v_ic_le, v_goto, v_tsw, v_lsw, v_ireturn, v_areturn, v_return, v_iaload, v_laload, v_baload, v_caload, v_aaload, v_iastore, v_lastore, v_bastore, v_castore, v_alen, v_invvi, v_invst, v_invsp, e_int, e_lng, e_ref, e_lg0, e_lg1, e_lg2, e_lg3, e_lg4, e_lg5, e_lg6, e_lg7, e_lg8, e_lg9, e_lg10, e_lg11, e_lg12, e_lg13, e_clrI, e_clrJ, e_clrP, e_clrN, e_s0, e_s1, e_s2, e_s3, e_s4, e_s5, e_s6, e_s7, e_s8, e_s9, e_s10, e_s11, e_s12, e_s13, e_t0, e_t1, e_t2, e_t3, e_t4, e_t5, e_t6, e_t7, e_t8, e_t9, e_t10, e_t11, e_t12, e_t13, e_fd, e_kk, e_k0, e_k1, e_k2, e_k3, e_k4, e_k5, e_k6, e_k7, e_k8, e_k9, e_sv0, e_sv1, e_sv2, e_sv3, e_svc, e_pf0, e_pf1, e_pf2, e_pf3, e_ar, e_aa, e_al, e_sw1, e_sw2, e_ct0, e_ct1, e_ct2, e_cat0, e_cat1, e_rk0, e_rk1, e_rk2, e_inv0, e_inv1, e_inv2, e_inv3, e_inv4, e_inv5, e_inv6, e_o0, e_o1, e_cl, e_cle, e_cg, e_cge, e_ce, e_cr1, e_cr2, e_r, e_R, e_up, Int.cast_ofNat_Int, u_app, false_and, and_false, e_b0, e_b1, e_bn, e_bl, e_bu, Int.reduceLE, Int.reduceLT, Int.reduceEq, Int.reduceNeg, Int.reduceAdd, Int.reduceSub, Int.reduceMul, Nat.reduceLeDiff, Nat.reduceLT, Nat.reduceAdd, Nat.reduceEqDiff, true_and, and_true, true_or, or_true, false_or, or_false, forall_const, not_true_eq_false, not_false_eq_true, true_implies, false_implies, implies_true, and_self, zero_ne_one, one_ne_zero, eq_self, reduceIte, s_X9_ask_0, b_X9_ask_0, s_X9_ask_9, b_X9_ask_9, s_X9_ask_10, b_X9_ask_10, s_X9_ask_18, b_X9_ask_18, s_X9_ask_23, b_X9_ask_23, s_X9_ask_49, b_X9_ask_49, g_X9_15, g_X9_9, G_X9_ask_56, sp_X9_isFresh_e, G_X9_ask_60, sp_X9_reachNeeded_e, G_X9_ask_64, sp_X9_makeTiles_e]
    exact ⟨by omega, fun _ => hk ν hi, fun c => by omega⟩
  | succ d ih =>
    intro b ν h1 h2 hi
    have e22 := hi.2.2.1 b h2 (by omega)
    obtain ⟨kb, kv, kf, kr⟩ := hi.2.1
    refine hR 60 b_X9_ask_18 18 _ _ _ o_X9_ask_18 ?_
    simp only [v_opt_n, v_opt_s, v_nil, v_iconst, v_bipush, v_sipush, v_lconst0, v_lconst1, v_ldc, v_ldcw, v_ldc2, v_iload0, v_iload1, v_iload2, v_iload3, v_iload, v_lload0, v_lload1, v_lload2, v_lload3, v_lload, v_aload0, v_aload1, v_aload2, v_aload3, v_aload, v_istore0, v_istore1, v_istore2, v_istore3, v_istore, v_lstore0, v_lstore1, v_lstore2, v_lstore3, v_lstore, v_astore0, v_astore1, v_astore2, v_astore3, v_astore, v_iinc, v_iadd, v_isub, v_imul, v_iand, v_ior, v_ixor, v_ishl, v_ishr, v_iushr, v_ineg, v_idiv, v_irem, v_ladd, v_lsub, v_lmul, v_lcmp, v_i2l, v_l2i, v_i2c, v_dup, v_dup2, v_if_eq, v_if_ne, v_if_lt, v_if_ge, v_if_gt, v_if_le, v_ic_eq, v_ic_ne, v_ic_lt, v_ic_ge, v_ic_gt, v_ic_le, v_goto, v_tsw, v_lsw, v_ireturn, v_areturn, v_return, v_iaload, v_laload, v_baload, v_caload, v_aaload, v_iastore, v_lastore, v_bastore, v_castore, v_alen, v_invvi, v_invst, v_invsp, e_int, e_lng, e_ref, e_lg0, e_lg1, e_lg2, e_lg3, e_lg4, e_lg5, e_lg6, e_lg7, e_lg8, e_lg9, e_lg10, e_lg11, e_lg12, e_lg13, e_clrI, e_clrJ, e_clrP, e_clrN, e_s0, e_s1, e_s2, e_s3, e_s4, e_s5, e_s6, e_s7, e_s8, e_s9, e_s10, e_s11, e_s12, e_s13, e_t0, e_t1, e_t2, e_t3, e_t4, e_t5, e_t6, e_t7, e_t8, e_t9, e_t10, e_t11, e_t12, e_t13, e_fd, e_kk, e_k0, e_k1, e_k2, e_k3, e_k4, e_k5, e_k6, e_k7, e_k8, e_k9, e_sv0, e_sv1, e_sv2, e_sv3, e_svc, e_pf0, e_pf1, e_pf2, e_pf3, e_ar, e_aa, e_al, e_sw1, e_sw2, e_ct0, e_ct1, e_ct2, e_cat0, e_cat1, e_rk0, e_rk1, e_rk2, e_inv0, e_inv1, e_inv2, e_inv3, e_inv4, e_inv5, e_inv6, e_o0, e_o1, e_cl, e_cle, e_cg, e_cge, e_ce, e_cr1, e_cr2, e_r, e_R, e_up, Int.cast_ofNat_Int, u_app, false_and, and_false, e_b0, e_b1, e_bn, e_bl, e_bu, Int.reduceLE, Int.reduceLT, Int.reduceEq, Int.reduceNeg, Int.reduceAdd, Int.reduceSub, Int.reduceMul, Nat.reduceLeDiff, Nat.reduceLT, Nat.reduceAdd, Nat.reduceEqDiff, true_and, and_true, true_or, or_true, false_or, or_false, forall_const, not_true_eq_false, not_false_eq_true, true_implies, false_implies, implies_true, and_self, zero_ne_one, one_ne_zero, eq_self, reduceIte, s_X9_ask_0, b_X9_ask_0, s_X9_ask_9, b_X9_ask_9, s_X9_ask_10, b_X9_ask_10, s_X9_ask_18, b_X9_ask_18, s_X9_ask_23, b_X9_ask_23, s_X9_ask_49, b_X9_ask_49, g_X9_15, g_X9_9, G_X9_ask_56, sp_X9_isFresh_e, G_X9_ask_60, sp_X9_reachNeeded_e, G_X9_ask_64, sp_X9_makeTiles_e, T_21, T_22, e22]
    refine ⟨by omega, fun c => by omega, fun c => ⟨h2, by omega, h2, by omega, ⟨h2, by omega⟩, P, w, h, c_ok_wm kb kv h2 (by omega), ⟨q_mk_and (hsub b).1, fun t q => ?_⟩, kf.1 b h2 (by omega), fun ht => ?_, fun ht ν2 f g1 g2 g3 g4 g5 g6 => ?_⟩⟩
    · rw [bt_and, Bool.and_eq_true] at q
      exact (hsub b).2 t q.1
    · exact ih (b + 1) ν (by omega) (by omega) (ak_0 hsub h2 (by omega) hi ht)
    · exact ih (b + 1) ν2 (by omega) (by omega) (ak_1 en hB hr0 htl h2 (by omega) hi ht f g1 g2 g3 g4 g5 g6)
theorem c_mc_0 {μ : QM} {nd : Int → Int} : ∀ n : Nat, (∀ c : Int, 0 ≤ c → c < n → ∀ t : Nat, q_bit (nd c) t = true → q_bit (μ 21 c) t = true) → c_mc μ nd n = 0
  | 0, _ => rfl
  | n + 1, h => by
    show c_mc μ nd n + c_bc (q_and (nd n) (q_xor (μ 21 n) (-1))) 9 = 0
    rw [c_mc_0 n (fun c c0 c1 => h c c0 (by omega))]
    have : ∀ k : Nat, c_bc (q_and (nd n) (q_xor (μ 21 n) (-1))) k = 0 := fun k => by
      induction k with
      | zero => rfl
      | succ k ih =>
        show c_bc _ k + (if q_bit (q_and (nd n) (q_xor (μ 21 n) (-1))) k = true then 1 else 0) = 0
        rw [ih, if_neg]
        · rfl
        · rw [n_andn, Bool.and_eq_true]
          rintro ⟨q1, q2⟩
          rw [h n (by omega) (by omega) k q1] at q2
          cases q2
    rw [this 9]
    rfl
set_option maxRecDepth 100000 in
set_option maxHeartbeats 4000000 in
theorem B_X9_ask : q_Body cX9_ask 4 u_X9_ask fl_X9 ld_X9 G_X9_ask q_T 4 s_X9_ask sp_X9_ask := by
  intro S Rt hR ra μ h
  obtain ⟨this, board, tile, rfl, h⟩ := sp_X9_ask_i h
  refine ⟨by simp [q_sl, q_ct], ?_⟩
  show S 0 [some (.inr (.inr this)), some (.inl board), some (.inl tile), none] [] μ
  obtain ⟨rfl, P, w, h9, n, hok, hB, htl, h22, hk⟩ := h
  obtain ⟨kb, kv, kf, kr⟩ := id hok
  have hP := kb.1
  have hn := kb.2.2.2.2.2.2.2.1
  have hr0 : m_rok (c_kM μ P) (c_rM μ P) (c_mM μ P) (c_oM μ P) (board + 1) := c_ro_rok kb (by omega)
  have hsub : ∀ j, m_sub w h9 (m_nd w h9 (c_kM μ P) (c_mM μ P) (c_oM μ P) board tile j) := fun j => m_nd_sub htl j
  refine hR 60 [] 0 _ _ _ rfl ?_
  simp only [v_opt_n, v_opt_s, v_nil, v_iconst, v_bipush, v_sipush, v_lconst0, v_lconst1, v_ldc, v_ldcw, v_ldc2, v_iload0, v_iload1, v_iload2, v_iload3, v_iload, v_lload0, v_lload1, v_lload2, v_lload3, v_lload, v_aload0, v_aload1, v_aload2, v_aload3, v_aload, v_istore0, v_istore1, v_istore2, v_istore3, v_istore, v_lstore0, v_lstore1, v_lstore2, v_lstore3, v_lstore, v_astore0, v_astore1, v_astore2, v_astore3, v_astore, v_iinc, v_iadd, v_isub, v_imul, v_iand, v_ior, v_ixor, v_ishl, v_ishr, v_iushr, v_ineg, v_idiv, v_irem, v_ladd, v_lsub, v_lmul, v_lcmp, v_i2l, v_l2i, v_i2c, v_dup, v_dup2, v_if_eq, v_if_ne, v_if_lt, v_if_ge, v_if_gt, v_if_le, v_ic_eq, v_ic_ne, v_ic_lt, v_ic_ge, v_ic_gt, v_ic_le, v_goto, v_tsw, v_lsw, v_ireturn, v_areturn, v_return, v_iaload, v_laload, v_baload, v_caload, v_aaload, v_iastore, v_lastore, v_bastore, v_castore, v_alen, v_invvi, v_invst, v_invsp, e_int, e_lng, e_ref, e_lg0, e_lg1, e_lg2, e_lg3, e_lg4, e_lg5, e_lg6, e_lg7, e_lg8, e_lg9, e_lg10, e_lg11, e_lg12, e_lg13, e_clrI, e_clrJ, e_clrP, e_clrN, e_s0, e_s1, e_s2, e_s3, e_s4, e_s5, e_s6, e_s7, e_s8, e_s9, e_s10, e_s11, e_s12, e_s13, e_t0, e_t1, e_t2, e_t3, e_t4, e_t5, e_t6, e_t7, e_t8, e_t9, e_t10, e_t11, e_t12, e_t13, e_fd, e_kk, e_k0, e_k1, e_k2, e_k3, e_k4, e_k5, e_k6, e_k7, e_k8, e_k9, e_sv0, e_sv1, e_sv2, e_sv3, e_svc, e_pf0, e_pf1, e_pf2, e_pf3, e_ar, e_aa, e_al, e_sw1, e_sw2, e_ct0, e_ct1, e_ct2, e_cat0, e_cat1, e_rk0, e_rk1, e_rk2, e_inv0, e_inv1, e_inv2, e_inv3, e_inv4, e_inv5, e_inv6, e_o0, e_o1, e_cl, e_cle, e_cg, e_cge, e_ce, e_cr1, e_cr2, e_r, e_R, e_up, Int.cast_ofNat_Int, u_app, false_and, and_false, e_b0, e_b1, e_bn, e_bl, e_bu, Int.reduceLE, Int.reduceLT, Int.reduceEq, Int.reduceNeg, Int.reduceAdd, Int.reduceSub, Int.reduceMul, Nat.reduceLeDiff, Nat.reduceLT, Nat.reduceAdd, Nat.reduceEqDiff, true_and, and_true, true_or, or_true, false_or, or_false, forall_const, not_true_eq_false, not_false_eq_true, true_implies, false_implies, implies_true, and_self, zero_ne_one, one_ne_zero, eq_self, reduceIte, s_X9_ask_0, b_X9_ask_0, s_X9_ask_9, b_X9_ask_9, s_X9_ask_10, b_X9_ask_10, s_X9_ask_18, b_X9_ask_18, s_X9_ask_23, b_X9_ask_23, s_X9_ask_49, b_X9_ask_49, g_X9_15, g_X9_9, G_X9_ask_56, sp_X9_isFresh_e, G_X9_ask_60, sp_X9_reachNeeded_e, G_X9_ask_64, sp_X9_makeTiles_e]
  refine ⟨⟨hB.1, by omega, htl.1, by omega⟩, kf.1 board hB.1 (by omega), fun c => ⟨⟨hB.1, by omega⟩, P, w, h9, c_ok_wk kb (by omega), htl, ?_⟩, fun c => ?_⟩
  · have f9 : c_af μ (q_blk μ 22 10 (m_nd w h9 (c_kM μ P) (c_mM μ P) (c_oM μ P) board tile)) := fun a j n1 n2 _ _ _ _ _ => by rw [u_blk, if_neg (by omega)]
    have e21 : ∀ a j : Int, ¬ a = 22 → q_blk μ 22 10 (m_nd w h9 (c_kM μ P) (c_mM μ P) (c_oM μ P) board tile) a j = μ a j := fun a j n2 => by rw [u_blk, if_neg (by omega)]
    refine ak_18 hR (μ := μ) rfl hB hn.2 hr0 htl (fun ν hi => ?_) (board + 1).toNat 0 _ (by omega) (by omega) ⟨f9, ?_, fun c c0 c1 => ?_, fun c t c0 c1 c2 => by omega, fun c _ => e21 21 c (by omega), ?_⟩
    · obtain ⟨i1, i2, i3, i4, i5, i6⟩ := hi
      refine hk ν i1 i2 (fun b t b0 b1 => ?_) i6 (fun j j0 j1 => by rw [i3 j j0 j1]; exact (hsub j).1)
      by_cases q : b < board + 1
      · exact i4 b t b0 b1 q
      · rw [i5 b q]
        refine ⟨Or.inl, ?_⟩
        rintro (q9 | q9)
        · exact q9
        · have := n_in hB.1 htl hr0 q9
          omega
    · refine ⟨c_bs_af f9 kb, ⟨fun i q0 q1 => ?_, fun s u v s0 s1 q => ?_⟩, ⟨fun c c0 c1 => ?_, fun c t c0 c1 q => ?_, fun c k t u c0 c1 q k0 k1 st => ?_⟩, fun c x y c0 c1 q st => ?_⟩
      · obtain ⟨v1, v2⟩ := kv.1 i q0 q1
        exact ⟨fun u v u0 u1 v0 v1' hn' => by rw [e21 _ _ (by omega)]; exact v1 u v u0 u1 v0 v1' hn', fun u v huv => by rw [c_A, e21 _ _ (by omega)]; exact v2 u v huv⟩
      · rw [c_A, e21 _ _ (by omega)]
        exact kv.2 s u v s0 s1 q
      · rw [e21 _ _ (by omega)]
        exact kf.1 c c0 c1
      · rw [e21 _ _ (by omega)] at q
        exact kf.2.1 c t c0 c1 q
      · rw [e21 _ _ (by omega)] at q
        rw [c_mM, e21 _ _ (by omega)] at k1
        rw [c_kM, e21 _ _ (by omega)] at st
        rw [c_oM, e21 (P + 3 + c + 10) _ (by omega), e21 _ _ (by omega)]
        exact kf.2.2 c k t u c0 c1 q k0 k1 st
      · rw [c_vM_af f9 kb c0 c1 q, c_A, e21 _ _ (by omega)]
        refine kr c x y c0 c1 q ?_
        unfold c_sts at st ⊢
        rw [c_kM, e21 (P + 3 + c) _ (by omega), e21 21 _ (by omega)] at st
        exact st
    · rw [u_blk, if_pos (by omega)]
    · rw [e21 _ _ (by omega)]
      show _ = _ + 0
      omega
  · have c := Classical.not_not.mp c
    have hF : ∀ (b : Int) (t : Nat), q_bit (m_nd w h9 (c_kM μ P) (c_mM μ P) (c_oM μ P) board tile b) t = true → q_bit (μ 21 b) t = true := fun b t q => n_min hB.1 htl hr0 (F := fun b t => q_bit (μ 21 b) t = true) c (fun b k t u b0 b1 k0 k1 ht hF st => kf.2.2 b k t u b0 (by omega) hF k0 k1 st) (board - b + 1).toNat b t (by omega) q
    refine hk μ (fun _ _ _ _ _ _ _ _ _ => rfl) hok (fun b t b0 b1 => ⟨Or.inl, fun q => ?_⟩) ?_ h22
    · rcases q with q | q
      · exact q
      · exact hF b t q
    · rw [c_mc_0 _ (fun b _ _ t q => hF b t q)]
      omega
set_option maxRecDepth 100000 in
theorem C_X9_ask {l : Launch} {ad : Int → Nat} {D : va_G} {cy : Nat → ClassId} {Z : State → Prop} (hZ : q_Zg ad Z) : q_Ct l q_T q_N ad D cy Z yX9_ask cX9_ask 4 none rm_X9_ask sp_X9_ask := by
  obtain ⟨hf, hg, hld⟩ := q_chkS k_X9_ask
  refine q_met (rk := 4) q_wokT (by decide) rfl hf hg hld rfl (q_skS L_X9_ask o_X9_ask) ?_ ?_ ?_ ?_ B_X9_ask
  · intro i hi; exact absurd hi List.not_mem_nil
  · intro i hi
    have hi : i = 56 ∨ i = 60 ∨ i = 64 := by simpa [u_X9_ask] using hi
    rcases hi with rfl | rfl | rfl
    · exact q_crV hZ.1 (C_X9_isFresh hZ) rv_X9_isFresh cm_X9_isFresh (by decide +kernel) (by decide +kernel) (by decide +kernel) (by decide +kernel) (by decide +kernel) ⟨rfl, rfl⟩ (by decide)
    · exact q_crV hZ.1 (C_X9_reachNeeded hZ) rv_X9_reachNeeded cm_X9_reachNeeded (by decide +kernel) (by decide +kernel) (by decide +kernel) (by decide +kernel) (by decide +kernel) ⟨rfl, rfl⟩ (by decide)
    · exact q_crV hZ.1 (C_X9_makeTiles hZ) rv_X9_makeTiles cm_X9_makeTiles (by decide +kernel) (by decide +kernel) (by decide +kernel) (by decide +kernel) (by decide +kernel) ⟨rfl, rfl⟩ (by decide)
  · intro i hi; exact absurd hi List.not_mem_nil
  · intro i hi; exact absurd hi List.not_mem_nil
theorem rv_X9_ask : q_rcv q_T yX9_ask.cls sp_X9_ask := by
  intro ra μ K h
  obtain ⟨this, board, tile, rfl, h⟩ := sp_X9_ask_i h
  obtain rfl := h.1
  exact ⟨[.inl tile, .inl board], 20, 9, _, _, rfl, T_20, rfl, rfl⟩
theorem cm_X9_ask : Cond.code yX9_ask cX9_ask 4 none ∈ q_tb := by decide +kernel

