/-! needs and sources by boards that are alike -/
theorem m_ndx_cg {its : Int} {of of' : Int → Int} : ∀ (d : Nat) (k : Int) (n : Int → Int), (∀ i : Int, k ≤ i → i < k + d → of' i = of i) → m_ndx its of' d k n = m_ndx its of d k n
  | 0, _, _, _ => rfl
  | d + 1, k, n, h => by
    show m_ndx its of' d (k + 1) (fun j => if j = of' k then q_or (n j) its else n j) = m_ndx its of d (k + 1) (fun j => if j = of k then q_or (n j) its else n j)
    rw [h k (by omega) (by omega)]
    exact m_ndx_cg d (k + 1) _ (fun i a b => h i (by omega) (by omega))
theorem m_ndr_cg {w h : Int} {kd kd' mn mn' : Int → Int} {of of' : Int → Int → Int} : ∀ (b : Nat) (n : Int → Int), (∀ c : Int, 0 ≤ c → c < b → kd' c = kd c ∧ mn' c = mn c ∧ ∀ k : Int, 0 ≤ k → k < mn c → of' c k = of c k) → m_ndr w h kd' mn' of' b n = m_ndr w h kd mn of b n
  | 0, _, _ => rfl
  | b + 1, n, hc => by
    obtain ⟨e1, e2, e3⟩ := hc b (by omega) (by omega)
    show m_ndr w h kd' mn' of' b (m_nds w h kd' mn' of' (b : Int) n) = m_ndr w h kd mn of b (m_nds w h kd mn of (b : Int) n)
    have : m_nds w h kd' mn' of' (b : Int) n = m_nds w h kd mn of (b : Int) n := by
      unfold m_nds
      rw [e1, e2]
      exact m_ndx_cg _ _ _ (fun i a b => e3 i a (by omega))
    rw [this]
    exact m_ndr_cg b _ (fun c c0 c1 => hc c c0 (by omega))
theorem m_nd_cg {w h : Int} {kd kd' mn mn' : Int → Int} {of of' : Int → Int → Int} {board tile : Int} (hc : ∀ c : Int, 0 ≤ c → c < board + 1 → kd' c = kd c ∧ mn' c = mn c ∧ ∀ k : Int, 0 ≤ k → k < mn c → of' c k = of c k) : m_nd w h kd' mn' of' board tile = m_nd w h kd mn of board tile := by
  unfold m_nd
  exact m_ndr_cg _ _ (fun c c0 c1 => hc c c0 (by omega))
theorem m_frn_cg {kd kd' rn rn' nd : Int → Int} {s : Int} : ∀ n : Nat, (∀ c : Int, 0 ≤ c → c < n → kd' c = kd c ∧ rn' c = rn c) → m_frn kd' rn' nd s n = m_frn kd rn nd s n
  | 0, _ => rfl
  | n + 1, hc => by
    obtain ⟨e1, e2⟩ := hc n (by omega) (by omega)
    show q_or (m_frn kd' rn' nd s n) (if kd' (n : Int) = 0 ∧ rn' (n : Int) = s then nd (n : Int) else 0) = q_or (m_frn kd rn nd s n) (if kd (n : Int) = 0 ∧ rn (n : Int) = s then nd (n : Int) else 0)
    rw [e1, e2, m_frn_cg n (fun c c0 c1 => hc c c0 (by omega))]
theorem m_from_cg {w h : Int} {kd kd' rn rn' mn mn' : Int → Int} {of of' : Int → Int → Int} {board tile s : Int} (hc : ∀ c : Int, 0 ≤ c → c < board + 1 → kd' c = kd c ∧ mn' c = mn c ∧ ∀ k : Int, 0 ≤ k → k < mn c → of' c k = of c k) (hr : ∀ c : Int, 0 ≤ c → c < board + 1 → rn' c = rn c) : m_from w h kd' rn' mn' of' board tile s = m_from w h kd rn mn of board tile s := by
  unfold m_from
  rw [m_nd_cg hc]
  exact m_frn_cg _ (fun c c0 c1 => ⟨(hc c c0 (by omega)).1, hr c c0 (by omega)⟩)
theorem c_oN_cf {n of of' : Int → Int} : ∀ k : Nat, (∀ i : Nat, i < k → of' i = of i) → c_oN n of' k = c_oN n of k
  | 0, _ => rfl
  | k + 1, h => by
    show q_or (c_oN n of' k) (n (of' k)) = q_or (c_oN n of k) (n (of k))
    rw [c_oN_cf k (fun i hi => h i (by omega)), h k (by omega)]
/-! the class: put -/
/-- tile t of board b comes from tile T of sheet s -/
abbrev c_fr (μ : QM) (P w h b t s T : Int) : Int := q_and (m_from w h (c_kM μ P) (c_rM μ P) (c_mM μ P) (c_oM μ P) b t s) (q_shl 1 T)
def sp_X10_put : QP := fun ra μ K => match ra with
  | [.inl value, .inl place, .inl sheet, .inr (.inr this)] => this = 0 ∧ (0 ≤ sheet ∧ sheet < 4) ∧ ∃ P w h n x y : Int, c_ok μ P w h n ∧ μ P 2 = n ∧ m_in w h x y ∧ place = c_p x y ∧ m_vr value ∧ (∀ j : Int, 0 ≤ j → j < 10 → q_mk (μ 22 j)) ∧ ∀ ν : QM, (∀ a j : Int, ¬ a = 21 → ¬ a = 22 → ¬ (a = 4 + sheet ∧ j = place) → ν a j = μ a j) → ν (4 + sheet) place = value → c_ok ν P w h n → (∀ (b : Int) (t : Nat), 0 ≤ b → b < 10 → (q_bit (ν 21 b) t = true ↔ q_bit (μ 21 b) t = true ∧ c_fr μ P w h b t sheet (c_ti x y) = 0)) → (∀ j : Int, 0 ≤ j → j < 10 → q_mk (ν 22 j)) → K none ν
  | _ => False
theorem sp_X10_put_e (this sheet place value : Int) (μ : QM) (K : Option QV → QM → Prop) : sp_X10_put [.inl value, .inl place, .inl sheet, .inr (.inr this)] μ K = (this = 0 ∧ (0 ≤ sheet ∧ sheet < 4) ∧ ∃ P w h n x y : Int, c_ok μ P w h n ∧ μ P 2 = n ∧ m_in w h x y ∧ place = c_p x y ∧ m_vr value ∧ (∀ j : Int, 0 ≤ j → j < 10 → q_mk (μ 22 j)) ∧ ∀ ν : QM, (∀ a j : Int, ¬ a = 21 → ¬ a = 22 → ¬ (a = 4 + sheet ∧ j = place) → ν a j = μ a j) → ν (4 + sheet) place = value → c_ok ν P w h n → (∀ (b : Int) (t : Nat), 0 ≤ b → b < 10 → (q_bit (ν 21 b) t = true ↔ q_bit (μ 21 b) t = true ∧ c_fr μ P w h b t sheet (c_ti x y) = 0)) → (∀ j : Int, 0 ≤ j → j < 10 → q_mk (ν 22 j)) → K none ν) := propext Iff.rfl
theorem sp_X10_put_i {ra : List QV} {μ : QM} {K : Option QV → QM → Prop} (h : sp_X10_put ra μ K) : ∃ this sheet place value : Int, ra = [.inl value, .inl place, .inl sheet, .inr (.inr this)] ∧ (this = 0 ∧ (0 ≤ sheet ∧ sheet < 4) ∧ ∃ P w h n x y : Int, c_ok μ P w h n ∧ μ P 2 = n ∧ m_in w h x y ∧ place = c_p x y ∧ m_vr value ∧ (∀ j : Int, 0 ≤ j → j < 10 → q_mk (μ 22 j)) ∧ ∀ ν : QM, (∀ a j : Int, ¬ a = 21 → ¬ a = 22 → ¬ (a = 4 + sheet ∧ j = place) → ν a j = μ a j) → ν (4 + sheet) place = value → c_ok ν P w h n → (∀ (b : Int) (t : Nat), 0 ≤ b → b < 10 → (q_bit (ν 21 b) t = true ↔ q_bit (μ 21 b) t = true ∧ c_fr μ P w h b t sheet (c_ti x y) = 0)) → (∀ j : Int, 0 ≤ j → j < 10 → q_mk (ν 22 j)) → K none ν) := by
  unfold sp_X10_put at h
  split at h
  · exact ⟨_, _, _, _, rfl, h⟩
  · exact h.elim
def rm_X10_put : Room := { frames := 4, cells := 0, slots := 0, locals := 92 }
def G_X10_put : Nat → Nat × QP := fun i => match i with
  | 182 => (3, sp_X9_lose)
  | 129 => (2, sp_X10_tileOf)
  | _ => (0, fun _ _ _ => False)
theorem G_X10_put_182 : G_X10_put 182 = (3, sp_X9_lose) := id rfl
theorem G_X10_put_129 : G_X10_put 129 = (2, sp_X10_tileOf) := id rfl
theorem pu_ok {μ ν : QM} {P w h n s x y value : Int} (hok : c_ok μ P w h n) (hs : 0 ≤ s ∧ s < 4) (hxy : m_in w h x y) (hv : m_vr value) (f : ∀ a j : Int, ¬ a = 21 → ¬ a = 22 → ¬ (a = 4 + s ∧ j = c_p x y) → ν a j = μ a j) (e : ν (4 + s) (c_p x y) = value) (hL : ∀ b : Int, 0 ≤ b → b < n → ν 22 b = c_lo w h (c_kM μ P) (c_rM μ P) (c_mM μ P) (c_oM μ P) s (q_shl 1 (c_ti x y)) (ν 22) b ∧ ν 21 b = q_and (μ 21 b) (q_xor (ν 22 b) (-1))) (h21 : ∀ b : Int, ¬ (0 ≤ b ∧ b < n) → ν 21 b = μ 21 b) : c_ok ν P w h n ∧ ∀ (b : Int) (t : Nat), 0 ≤ b → b < 10 → (q_bit (ν 21 b) t = true ↔ q_bit (μ 21 b) t = true ∧ c_fr μ P w h b t s (c_ti x y) = 0) := by
  obtain ⟨kb, kv, kf, kr⟩ := hok
  have hn := kb.2.2.2.2.2.2.2.1
  have hP := kb.1
  have hd := kb.2.2.1
  have hr := c_ro_rok kb (Int.le_refl n)
  have hT := n_tl hd hxy
  have ec := c_ti_e x y
  rw [show (((c_ti x y).toNat : Nat) : Int) = c_ti x y by omega] at hT
  have hp : 15 ≤ c_p x y ∧ c_p x y ≤ 180 := by show 15 ≤ (y + 1) * 14 + x + 1 ∧ (y + 1) * 14 + x + 1 ≤ 180; omega
  have hLo := fun b b0 b1 => (hL b b0 b1).1
  have bit : ∀ (b : Int) (t : Nat), 0 ≤ b → b < n → (q_bit (ν 21 b) t = true ↔ q_bit (μ 21 b) t = true ∧ ¬ q_bit (ν 22 b) t = true) := fun b t b0 b1 => by
    rw [(hL b b0 b1).2, n_andn]
    cases q_bit (μ 21 b) t <;> cases q_bit (ν 22 b) t <;> simp
  have bit2 : ∀ (b : Int) (t : Nat), 0 ≤ b → b < 10 → q_bit (ν 21 b) t = true → q_bit (μ 21 b) t = true ∧ b < n := fun b t b0 b1 q => by
    by_cases c : b < n
    · exact ⟨((bit b t b0 c).mp q).1, c⟩
    · rw [h21 b (by omega)] at q
      exact ⟨q, (kf.2.1 b t b0 b1 q).1⟩
  have fa : ∀ b j : Int, 0 ≤ b → b < 10 → ν (P + 3 + b) j = μ (P + 3 + b) j := fun b j b0 b1 => f _ j (by omega) (by omega) (by omega)
  have fb : ∀ b j : Int, 0 ≤ b → b < 10 → ν (P + 3 + b + 10) j = μ (P + 3 + b + 10) j := fun b j b0 b1 => f _ j (by omega) (by omega) (by omega)
  have eV : ∀ b u v : Int, 0 ≤ b → b < n → m_in w h u v → ¬ q_bit (ν 22 b) (c_ti u v).toNat = true → c_vM ν P w h b u v = c_vM μ P w h b u v := fun b u v b0 b1 q hnl => by
    refine n_V_loc (n := n) (L := fun b t => q_bit (ν 22 b) t = true) hd hn.2 (fun c c0 c1 => ?_) (fun c c0 c1 => (kb.2.2.2.2.2.2.2.2 c c0 c1).2.2.2.1) (fun c u v c0 c1 ck q nl => ?_) (fun c k t u c0 c1 k0 k1 ht st nl q => nl (n_L_st hT hr hLo c0 c1 k0 (by rw [show c_mM μ P c = m_mn (c_kM μ P c) from (kb.2.2.2.2.2.2.2.2 c c0 c1).2.1]; exact k1) ht st q)) (b + 1).toNat b u v (by omega) b0 b1 q hnl
    · obtain ⟨r1, r2, r3, r4, r5, r6, r7, r8, r9⟩ := kb.2.2.2.2.2.2.2.2 c c0 c1
      have := m_mn_b (μ (P + 3 + c) 2)
      exact ⟨fa c 2 c0 (by omega), fa c 3 c0 (by omega), fa c 4 c0 (by omega), fun k k0 k1 => ⟨fb c k c0 (by omega), (r7 k k0 (by have k1 : k < m_mn (μ (P + 3 + c) 2) := k1; omega)).1, r8 k k0 k1⟩⟩
    · obtain ⟨r1, r2, r3, -⟩ := kb.2.2.2.2.2.2.2.2 c c0 c1
      have := r3 ck
      refine f _ _ (by omega) (by omega) (fun q9 => nl ?_)
      obtain ⟨e1, e2⟩ := c_p_inj (y := v) (v := y) (by omega) (by omega) q9.2
      refine (n_L hT hr hLo c0 c1).mpr (Or.inl ⟨ck, ?_, ?_⟩)
      · have q1 := q9.1
        show μ (P + 3 + c) 4 = s
        omega
      · rw [e1, e2]
        omega
  refine ⟨⟨?_, ⟨fun i i0 i1 => ?_, fun s' u v s0 s1 q => ?_⟩, ⟨fun b b0 b1 => ?_, fun b t b0 b1 q => ?_, fun b k t u b0 b1 q k0 k1 st => ?_⟩, fun b u v b0 b1 q st => ?_⟩, fun b t b0 b1 => ?_⟩
  · obtain ⟨hP, h5, hd, ew, eh, et, hs, hn, hr⟩ := kb
    refine ⟨hP, (f 20 5 (by omega) (by omega) (by omega)).trans h5, hd, (f 1 0 (by omega) (by omega) (by omega)).trans ew, (f 1 1 (by omega) (by omega) (by omega)).trans eh, (f 1 2 (by omega) (by omega) (by omega)).trans et, ?_, hn, fun b b0 b1 => ?_⟩
    · have e : ∀ j : Int, ν 36 j = μ 36 j := fun j => f 36 j (by omega) (by omega) (by omega)
      rw [c_sd, e, e, e, e]
      exact hs
    · have := hr b b0 b1
      unfold c_ro at this ⊢
      have e1 : ∀ j : Int, ν (P + 3 + b) j = μ (P + 3 + b) j := fun j => fa b j b0 (by omega)
      have e2 : ∀ j : Int, ν (P + 3 + b + 10) j = μ (P + 3 + b + 10) j := fun j => fb b j b0 (by omega)
      simp only [e1, e2]
      exact this
  · have fr : ∀ j : Int, ν (24 + i) j = μ (24 + i) j := fun j => f _ j (by omega) (by omega) (by omega)
    obtain ⟨v1, v2⟩ := kv.1 i i0 i1
    exact ⟨fun u v u0 u1 v0 v1' hn' => by rw [fr]; exact v1 u v u0 u1 v0 v1' hn', fun u v huv => by show m_vr (ν (24 + i) (c_p u v)); rw [fr]; exact v2 u v huv⟩
  · show m_vr (ν (4 + s') (c_p u v))
    by_cases c : 4 + s' = 4 + s ∧ c_p u v = c_p x y
    · rw [c.1, c.2, e]
      exact hv
    · rw [f _ _ (by omega) (by omega) c]
      exact kv.2 s' u v s0 s1 q
  · by_cases c : b < n
    · rw [(hL b b0 c).2]
      exact q_mk_and (kf.1 b b0 b1)
    · rw [h21 b (by omega)]
      exact kf.1 b b0 b1
  · have := bit2 b t b0 b1 q
    exact kf.2.1 b t b0 b1 this.1
  · have k1 : k < ν (P + 3 + b) 1 := k1
    have st : n_st w h (ν (P + 3 + b) 2) t u := st
    show q_bit (ν 21 (ν (P + 3 + b + 10) k)) u = true
    rw [fa b 1 b0 (by omega)] at k1
    rw [fa b 2 b0 (by omega)] at st
    rw [fb b k b0 (by omega)]
    obtain ⟨q1, q2⟩ := (bit b t b0 b1).mp q
    have htl := (kf.2.1 b t b0 (by omega) q1).2
    have o := hr b b0 b1
    have o := o.2.2.1 k k0 k1
    have o : 0 ≤ μ (P + 3 + b + 10) k ∧ μ (P + 3 + b + 10) k < b := o
    exact (bit _ u o.1 (by omega)).mpr ⟨kf.2.2 b k t u b0 b1 q1 k0 k1 st, fun q9 => q2 (n_L_st hT hr hLo b0 b1 k0 k1 htl st q9)⟩
  · have st : (n_wh (ν (P + 3 + b) 2) → ¬ ν 21 b = 0) ∧ (¬ n_wh (ν (P + 3 + b) 2) → q_bit (ν 21 b) (c_ti u v).toNat = true) := st
    rw [fa b 2 b0 (by omega)] at st
    have fr : ∀ j : Int, ν (24 + b) j = μ (24 + b) j := fun j => f _ j (by omega) (by omega) (by omega)
    show ν (24 + b) (c_p u v) = _
    rw [fr]
    by_cases cw : n_wh (μ (P + 3 + b) 2)
    · obtain ⟨t0, q0⟩ := n_nz (by rw [(hL b b0 b1).2]; exact q_mk_and (kf.1 b b0 (by omega))) (st.1 cw)
      obtain ⟨q1, q2⟩ := (bit b t0 b0 b1).mp q0
      have ht0 := (kf.2.1 b t0 b0 (by omega) q1).2
      have nl : ¬ q_bit (ν 22 b) (c_ti u v).toNat = true := fun q9 => q2 (by
        rcases (n_L hT hr hLo b0 b1).mp q9 with ⟨z1, -⟩ | ⟨z1, k, k0, k1, u', z2, z3⟩
        · have z1 : μ (P + 3 + b) 2 = 0 := z1
          omega
        · exact (n_L hT hr hLo b0 b1).mpr (Or.inr ⟨z1, k, k0, k1, u', z2, ht0, Or.inl cw⟩))
      rw [eV b u v b0 b1 q nl]
      refine kr b u v b0 b1 q ⟨fun _ e9 => ?_, fun q9 => absurd cw q9⟩
      rw [e9, bt_0] at q1
      cases q1
    · obtain ⟨q1, q2⟩ := (bit b _ b0 b1).mp (st.2 cw)
      rw [eV b u v b0 b1 q q2]
      exact kr b u v b0 b1 q ⟨fun q9 => absurd q9 cw, fun _ => q1⟩
  · by_cases c : b < n
    · rw [bit b t b0 c]
      constructor
      · rintro ⟨q1, q2⟩
        exact ⟨q1, (n_lose hT hr hLo b0 c (kf.2.1 b t b0 b1 q1).2).mpr q2⟩
      · rintro ⟨q1, q2⟩
        exact ⟨q1, (n_lose hT hr hLo b0 c (kf.2.1 b t b0 b1 q1).2).mp q2⟩
    · rw [h21 b (by omega)]
      refine ⟨fun q => ?_, fun q => q.1⟩
      have := (kf.2.1 b t b0 b1 q).1
      omega
set_option maxRecDepth 100000 in
set_option maxHeartbeats 4000000 in
theorem B_X10_put : q_Body cX10_put 4 u_X10_put fl_X10 ld_X10 G_X10_put q_T 4 s_X10_put sp_X10_put := by
  intro S Rt hR ra μ h
  obtain ⟨this, sheet, place, value, rfl, h⟩ := sp_X10_put_i h
  refine ⟨by simp [q_sl, q_ct], ?_⟩
  show S 0 [some (.inr (.inr this)), some (.inl sheet), some (.inl place), some (.inl value)] [] μ
  obtain ⟨rfl, hs, P, w, h9, n, x, y, hok, hn, hxy, rfl, hv, h22, hk⟩ := h
  obtain ⟨kb, kv, kf, kr⟩ := id hok
  have hnn := kb.2.2.2.2.2.2.2.1
  have hP := kb.1
  have hd := kb.2.2.1
  have ep : c_p x y = (y + 1) * 14 + x + 1 := rfl
  have ec := c_ti_e x y
  have hr := c_ro_rok kb (Int.le_refl n)
  have em : ∀ j : Int, q_up μ (4 + sheet) (c_p x y) value 22 j = μ 22 j := fun j => by rw [u_app, if_neg (by omega)]
  have eo : ∀ a j : Int, ¬ a = 4 + sheet → q_up μ (4 + sheet) (c_p x y) value a j = μ a j := fun a j q => by rw [u_app, if_neg (by omega)]
  have er : ∀ c j : Int, 0 ≤ c → c < n → q_up μ (4 + sheet) (c_p x y) value (P + 3 + c) j = μ (P + 3 + c) j := fun c j c0 c1 => eo _ _ (by omega)
  have er2 : ∀ c j : Int, 0 ≤ c → c < n → q_up μ (4 + sheet) (c_p x y) value (P + 3 + c + 10) j = μ (P + 3 + c + 10) j := fun c j c0 c1 => eo _ _ (by omega)
  have tc := T_cell hs.1 hs.2
  have eT : (c_p x y / 14 - 1) / 4 * 3 + (c_p x y % 14 - 1) / 4 = c_ti x y := by omega
  refine hR 60 [] 0 _ _ _ rfl ?_
  simp only [v_opt_n, v_opt_s, v_nil, v_iconst, v_bipush, v_sipush, v_lconst0, v_lconst1, v_ldc, v_ldcw, v_ldc2, v_iload0, v_iload1, v_iload2, v_iload3, v_iload, v_lload0, v_lload1, v_lload2, v_lload3, v_lload, v_aload0, v_aload1, v_aload2, v_aload3, v_aload, v_istore0, v_istore1, v_istore2, v_istore3, v_istore, v_lstore0, v_lstore1, v_lstore2, v_lstore3, v_lstore, v_astore0, v_astore1, v_astore2, v_astore3, v_astore, v_iinc, v_iadd, v_isub, v_imul, v_iand, v_ior, v_ixor, v_ishl, v_ishr, v_iushr, v_ineg, v_idiv, v_irem, v_ladd, v_lsub, v_lmul, v_lcmp, v_i2l, v_l2i, v_i2c, v_dup, v_dup2, v_if_eq, v_if_ne, v_if_lt, v_if_ge, v_if_gt, v_if_le, v_ic_eq, v_ic_ne, v_ic_lt, v_ic_ge, v_ic_gt, v_ic_le, v_goto, v_tsw, v_lsw, v_ireturn, v_areturn, v_return, v_iaload, v_laload, v_baload, v_caload, v_aaload, v_iastore, v_lastore, v_bastore, v_castore, v_alen, v_invvi, v_invst, v_invsp, e_int, e_lng, e_ref, e_lg0, e_lg1, e_lg2, e_lg3, e_lg4, e_lg5, e_lg6, e_lg7, e_lg8, e_lg9, e_lg10, e_lg11, e_lg12, e_lg13, e_clrI, e_clrJ, e_clrP, e_clrN, e_s0, e_s1, e_s2, e_s3, e_s4, e_s5, e_s6, e_s7, e_s8, e_s9, e_s10, e_s11, e_s12, e_s13, e_t0, e_t1, e_t2, e_t3, e_t4, e_t5, e_t6, e_t7, e_t8, e_t9, e_t10, e_t11, e_t12, e_t13, e_fd, e_kk, e_k0, e_k1, e_k2, e_k3, e_k4, e_k5, e_k6, e_k7, e_k8, e_k9, e_sv0, e_sv1, e_sv2, e_sv3, e_svc, e_pf0, e_pf1, e_pf2, e_pf3, e_ar, e_aa, e_al, e_sw1, e_sw2, e_ct0, e_ct1, e_ct2, e_cat0, e_cat1, e_rk0, e_rk1, e_rk2, e_inv0, e_inv1, e_inv2, e_inv3, e_inv4, e_inv5, e_inv6, e_o0, e_o1, e_cl, e_cle, e_cg, e_cge, e_ce, e_cr1, e_cr2, e_r, e_R, e_up, Int.cast_ofNat_Int, u_app, false_and, and_false, e_b0, e_b1, e_bn, e_bl, e_bu, Int.reduceLE, Int.reduceLT, Int.reduceEq, Int.reduceNeg, Int.reduceAdd, Int.reduceSub, Int.reduceMul, Nat.reduceLeDiff, Nat.reduceLT, Nat.reduceAdd, Nat.reduceEqDiff, true_and, and_true, true_or, or_true, false_or, or_false, forall_const, not_true_eq_false, not_false_eq_true, true_implies, false_implies, implies_true, and_self, zero_ne_one, one_ne_zero, eq_self, reduceIte, s_X10_put_0, b_X10_put_0, g_X10_19, g_X10_103, g_X10_54, G_X10_put_182, sp_X9_lose_e, G_X10_put_129, sp_X10_tileOf_e, T_3, tc, eT]
  have eP : (if P = 4 + sheet ∧ 2 = c_p x y then value else μ P 2) = n := by rw [if_neg (by omega)]; exact hn
  have e21 : ∀ b : Int, (if 21 = 4 + sheet ∧ b = c_p x y then value else μ 21 b) = μ 21 b := fun b => if_neg (by omega)
  refine ⟨hs.1, hs.2, by omega, by omega, by omega, by omega, by omega, by omega, by omega, fun j j0 j1 => by rw [if_neg (by omega)]; exact h22 j j0 j1, P, w, h9, ?_, by rw [eP]; exact hnn, fun ν f g1 g2 g3 => ?_⟩
  · rw [eP]
    refine ⟨hP, (eo 20 5 (by omega)).trans kb.2.1, (eo 1 2 (by omega)).trans kb.2.2.2.2.2.1, fun b b0 b1 => ?_⟩
    have := hr b b0 b1
    simp only [er b _ b0 b1, er2 b _ b0 b1]
    exact this
  · rw [eP] at g1 g2
    simp only [e21] at g1 g2
    have f' : ∀ a j : Int, ¬ a = 21 → ¬ a = 22 → ¬ (a = 4 + sheet ∧ j = c_p x y) → ν a j = μ a j := fun a j n1 n2 n3 => by rw [f a j n1 n2, if_neg n3]
    have ev : ν (4 + sheet) (c_p x y) = value := by rw [f _ _ (by omega) (by omega), if_pos ⟨rfl, rfl⟩]
    have hL : ∀ b : Int, 0 ≤ b → b < n → ν 22 b = c_lo w h9 (c_kM μ P) (c_rM μ P) (c_mM μ P) (c_oM μ P) sheet (q_shl 1 (c_ti x y)) (ν 22) b ∧ ν 21 b = q_and (μ 21 b) (q_xor (ν 22 b) (-1)) := fun b b0 b1 => by
      obtain ⟨w1, w2⟩ := g1 b b0 b1
      refine ⟨w1.trans ?_, w2⟩
      unfold c_lo
      have e1 : c_kM (q_up μ (4 + sheet) (c_p x y) value) P b = c_kM μ P b := er b 2 b0 b1
      have e2 : c_rM (q_up μ (4 + sheet) (c_p x y) value) P b = c_rM μ P b := er b 4 b0 b1
      have e3 : c_mM (q_up μ (4 + sheet) (c_p x y) value) P b = c_mM μ P b := er b 1 b0 b1
      rw [e1, e2, e3, c_oN_cf (of := c_oM μ P b) _ (fun i _ => er2 b i b0 b1)]
    obtain ⟨z1, z2⟩ := pu_ok hok hs hxy hv f' ev hL g2
    exact hk ν f' ev z1 z2 g3
set_option maxRecDepth 100000 in
theorem C_X10_put {l : Launch} {ad : Int → Nat} {D : va_G} {cy : Nat → ClassId} {Z : State → Prop} (hZ : q_Zg ad Z) : q_Ct l q_T q_N ad D cy Z yX10_put cX10_put 4 none rm_X10_put sp_X10_put := by
  obtain ⟨hf, hg, hld⟩ := q_chkS k_X10_put
  refine q_met (rk := 4) q_wokT (by decide) rfl hf hg hld rfl (q_skS L_X10_put o_X10_put) ?_ ?_ ?_ ?_ B_X10_put
  · intro i hi; exact absurd hi List.not_mem_nil
  · intro i hi
    have hi : i = 182 := by simpa [u_X10_put] using hi
    rcases hi with rfl
    · exact q_crV hZ.1 (C_X9_lose hZ) rv_X9_lose cm_X9_lose (by decide +kernel) (by decide +kernel) (by decide +kernel) (by decide +kernel) (by decide +kernel) ⟨rfl, rfl⟩ (by decide)
  · intro i hi
    have hi : i = 129 := by simpa [u_X10_put] using hi
    rcases hi with rfl
    · exact q_crS hZ.1 (C_X10_tileOf hZ) cm_X10_tileOf (by decide +kernel) (by decide +kernel) (by decide +kernel) (by decide +kernel) ⟨rfl, rfl⟩ (by decide)
  · intro i hi; exact absurd hi List.not_mem_nil
theorem rv_X10_put : q_rcv q_T yX10_put.cls sp_X10_put := by
  intro ra μ K h
  obtain ⟨this, sheet, place, value, rfl, h⟩ := sp_X10_put_i h
  obtain rfl := h.1
  exact ⟨[.inl value, .inl place, .inl sheet], 0, 10, _, _, rfl, T_0, rfl, rfl⟩
theorem cm_X10_put : Cond.code yX10_put cX10_put 4 none ∈ q_tb := by decide +kernel
def sp_X10_tell : QP := fun ra μ K => match ra with
  | [.inl value, .inl y, .inl x, .inl sheet, .inr (.inr this)] => this = 0 ∧ (q_r sheet ∧ q_r x ∧ q_r y ∧ q_r value) ∧ ∃ P w h n : Int, c_ok μ P w h n ∧ μ P 2 = n ∧ (∀ j : Int, 0 ≤ j → j < 10 → q_mk (μ 22 j)) ∧ (if ¬ (0 ≤ sheet ∧ sheet < 4) ∨ ¬ (value = -2000000000 ∨ (-1000000 ≤ value ∧ value ≤ 1000000)) then K (some (.inl (-1))) (q_up μ 0 8 (-1)) else if ¬ m_in w h x y then K (some (.inl (-2))) (q_up μ 0 8 (-2)) else ∀ ν : QM, (∀ a j : Int, ¬ a = 21 → ¬ a = 22 → ¬ (a = 4 + sheet ∧ j = c_p x y) → ν a j = μ a j) → ν (4 + sheet) (c_p x y) = value → c_ok ν P w h n → (∀ (b : Int) (t : Nat), 0 ≤ b → b < 10 → (q_bit (ν 21 b) t = true ↔ q_bit (μ 21 b) t = true ∧ c_fr μ P w h b t sheet (c_ti x y) = 0)) → (∀ j : Int, 0 ≤ j → j < 10 → q_mk (ν 22 j)) → K (some (.inl 0)) (q_up ν 0 8 0))
  | _ => False
theorem sp_X10_tell_e (this sheet x y value : Int) (μ : QM) (K : Option QV → QM → Prop) : sp_X10_tell [.inl value, .inl y, .inl x, .inl sheet, .inr (.inr this)] μ K = (this = 0 ∧ (q_r sheet ∧ q_r x ∧ q_r y ∧ q_r value) ∧ ∃ P w h n : Int, c_ok μ P w h n ∧ μ P 2 = n ∧ (∀ j : Int, 0 ≤ j → j < 10 → q_mk (μ 22 j)) ∧ (if ¬ (0 ≤ sheet ∧ sheet < 4) ∨ ¬ (value = -2000000000 ∨ (-1000000 ≤ value ∧ value ≤ 1000000)) then K (some (.inl (-1))) (q_up μ 0 8 (-1)) else if ¬ m_in w h x y then K (some (.inl (-2))) (q_up μ 0 8 (-2)) else ∀ ν : QM, (∀ a j : Int, ¬ a = 21 → ¬ a = 22 → ¬ (a = 4 + sheet ∧ j = c_p x y) → ν a j = μ a j) → ν (4 + sheet) (c_p x y) = value → c_ok ν P w h n → (∀ (b : Int) (t : Nat), 0 ≤ b → b < 10 → (q_bit (ν 21 b) t = true ↔ q_bit (μ 21 b) t = true ∧ c_fr μ P w h b t sheet (c_ti x y) = 0)) → (∀ j : Int, 0 ≤ j → j < 10 → q_mk (ν 22 j)) → K (some (.inl 0)) (q_up ν 0 8 0))) := propext Iff.rfl
theorem sp_X10_tell_i {ra : List QV} {μ : QM} {K : Option QV → QM → Prop} (h : sp_X10_tell ra μ K) : ∃ this sheet x y value : Int, ra = [.inl value, .inl y, .inl x, .inl sheet, .inr (.inr this)] ∧ (this = 0 ∧ (q_r sheet ∧ q_r x ∧ q_r y ∧ q_r value) ∧ ∃ P w h n : Int, c_ok μ P w h n ∧ μ P 2 = n ∧ (∀ j : Int, 0 ≤ j → j < 10 → q_mk (μ 22 j)) ∧ (if ¬ (0 ≤ sheet ∧ sheet < 4) ∨ ¬ (value = -2000000000 ∨ (-1000000 ≤ value ∧ value ≤ 1000000)) then K (some (.inl (-1))) (q_up μ 0 8 (-1)) else if ¬ m_in w h x y then K (some (.inl (-2))) (q_up μ 0 8 (-2)) else ∀ ν : QM, (∀ a j : Int, ¬ a = 21 → ¬ a = 22 → ¬ (a = 4 + sheet ∧ j = c_p x y) → ν a j = μ a j) → ν (4 + sheet) (c_p x y) = value → c_ok ν P w h n → (∀ (b : Int) (t : Nat), 0 ≤ b → b < 10 → (q_bit (ν 21 b) t = true ↔ q_bit (μ 21 b) t = true ∧ c_fr μ P w h b t sheet (c_ti x y) = 0)) → (∀ j : Int, 0 ≤ j → j < 10 → q_mk (ν 22 j)) → K (some (.inl 0)) (q_up ν 0 8 0))) := by
  unfold sp_X10_tell at h
  split at h
  · exact ⟨_, _, _, _, _, rfl, h⟩
  · exact h.elim
def rm_X10_tell : Room := { frames := 5, cells := 0, slots := 0, locals := 115 }
def G_X10_tell : Nat → Nat × QP := fun i => match i with
  | 69 => (2, sp_X10_refuse)
  | 90 => (3, sp_X0_hasCell)
  | 98 => (4, sp_X10_put)
  | 81 => (2, sp_X10_accept)
  | 84 => (1, sp_X10_isSheet)
  | 87 => (1, sp_X10_isTellable)
  | 94 => (2, sp_X10_placeOf)
  | _ => (0, fun _ _ _ => False)
theorem G_X10_tell_69 : G_X10_tell 69 = (2, sp_X10_refuse) := id rfl
theorem G_X10_tell_90 : G_X10_tell 90 = (3, sp_X0_hasCell) := id rfl
theorem G_X10_tell_98 : G_X10_tell 98 = (4, sp_X10_put) := id rfl
theorem G_X10_tell_81 : G_X10_tell 81 = (2, sp_X10_accept) := id rfl
theorem G_X10_tell_84 : G_X10_tell 84 = (1, sp_X10_isSheet) := id rfl
theorem G_X10_tell_87 : G_X10_tell 87 = (1, sp_X10_isTellable) := id rfl
theorem G_X10_tell_94 : G_X10_tell 94 = (2, sp_X10_placeOf) := id rfl
set_option maxRecDepth 100000 in
set_option maxHeartbeats 4000000 in
theorem B_X10_tell : q_Body cX10_tell 5 u_X10_tell fl_X10 ld_X10 G_X10_tell q_T 0 s_X10_tell sp_X10_tell := by
  intro S Rt hR ra μ h
  obtain ⟨this, sheet, x, y, value, rfl, h⟩ := sp_X10_tell_i h
  refine ⟨by simp [q_sl, q_ct], ?_⟩
  show S 0 [some (.inr (.inr this)), some (.inl sheet), some (.inl x), some (.inl y), some (.inl value)] [] μ
  obtain ⟨rfl, ⟨h1, h2, h3, h4⟩, P, w, h9, n, hok, hn, h22, hk⟩ := h
  have ew := hok.1.2.2.2.1
  have eh := hok.1.2.2.2.2.1
  have hd := hok.1.2.2.1
  refine hR 60 [] 0 _ _ _ rfl ?_
  simp only [v_opt_n, v_opt_s, v_nil, v_iconst, v_bipush, v_sipush, v_lconst0, v_lconst1, v_ldc, v_ldcw, v_ldc2, v_iload0, v_iload1, v_iload2, v_iload3, v_iload, v_lload0, v_lload1, v_lload2, v_lload3, v_lload, v_aload0, v_aload1, v_aload2, v_aload3, v_aload, v_istore0, v_istore1, v_istore2, v_istore3, v_istore, v_lstore0, v_lstore1, v_lstore2, v_lstore3, v_lstore, v_astore0, v_astore1, v_astore2, v_astore3, v_astore, v_iinc, v_iadd, v_isub, v_imul, v_iand, v_ior, v_ixor, v_ishl, v_ishr, v_iushr, v_ineg, v_idiv, v_irem, v_ladd, v_lsub, v_lmul, v_lcmp, v_i2l, v_l2i, v_i2c, v_dup, v_dup2, v_if_eq, v_if_ne, v_if_lt, v_if_ge, v_if_gt, v_if_le, v_ic_eq, v_ic_ne, v_ic_lt, v_ic_ge, v_ic_gt, v_ic_le, v_goto, v_tsw, v_lsw, v_ireturn, v_areturn, v_return, v_iaload, v_laload, v_baload, v_caload, v_aaload, v_iastore, v_lastore, v_bastore, v_castore, v_alen, v_invvi, v_invst, v_invsp, e_int, e_lng, e_ref, e_lg0, e_lg1, e_lg2, e_lg3, e_lg4, e_lg5, e_lg6, e_lg7, e_lg8, e_lg9, e_lg10, e_lg11, e_lg12, e_lg13, e_clrI, e_clrJ, e_clrP, e_clrN, e_s0, e_s1, e_s2, e_s3, e_s4, e_s5, e_s6, e_s7, e_s8, e_s9, e_s10, e_s11, e_s12, e_s13, e_t0, e_t1, e_t2, e_t3, e_t4, e_t5, e_t6, e_t7, e_t8, e_t9, e_t10, e_t11, e_t12, e_t13, e_fd, e_kk, e_k0, e_k1, e_k2, e_k3, e_k4, e_k5, e_k6, e_k7, e_k8, e_k9, e_sv0, e_sv1, e_sv2, e_sv3, e_svc, e_pf0, e_pf1, e_pf2, e_pf3, e_ar, e_aa, e_al, e_sw1, e_sw2, e_ct0, e_ct1, e_ct2, e_cat0, e_cat1, e_rk0, e_rk1, e_rk2, e_inv0, e_inv1, e_inv2, e_inv3, e_inv4, e_inv5, e_inv6, e_o0, e_o1, e_cl, e_cle, e_cg, e_cge, e_ce, e_cr1, e_cr2, e_r, e_R, e_up, Int.cast_ofNat_Int, u_app, false_and, and_false, e_b0, e_b1, e_bn, e_bl, e_bu, Int.reduceLE, Int.reduceLT, Int.reduceEq, Int.reduceNeg, Int.reduceAdd, Int.reduceSub, Int.reduceMul, Nat.reduceLeDiff, Nat.reduceLT, Nat.reduceAdd, Nat.reduceEqDiff, true_and, and_true, true_or, or_true, false_or, or_false, forall_const, not_true_eq_false, not_false_eq_true, true_implies, false_implies, implies_true, and_self, zero_ne_one, one_ne_zero, eq_self, reduceIte, s_X10_tell_0, b_X10_tell_0, s_X10_tell_7, b_X10_tell_7, s_X10_tell_15, b_X10_tell_15, s_X10_tell_21, b_X10_tell_21, s_X10_tell_33, b_X10_tell_33, s_X10_tell_40, b_X10_tell_40, g_X10_12, G_X10_tell_69, sp_X10_refuse_e, G_X10_tell_90, sp_X0_hasCell_e, G_X10_tell_98, sp_X10_put_e, G_X10_tell_81, sp_X10_accept_e, G_X10_tell_84, sp_X10_isSheet_e, G_X10_tell_87, sp_X10_isTellable_e, G_X10_tell_94, sp_X10_placeOf_e, ew, eh]
  refine ⟨h1, fun c => ?_, fun c => ⟨h4, fun c1 => ⟨⟨h2, h3, by omega, by omega⟩, fun c2 => ?_, fun c2 => ?_⟩, fun c1 => ?_⟩⟩
  · rw [if_pos (Or.inl c)] at hk
    exact hk
  · have c := Classical.not_not.mp c
    have c1 := Classical.not_not.mp c1
    have c2 := Classical.not_not.mp c2
    rw [if_neg (by rintro (q | q); exact q c; exact q c1), if_neg (fun q => q c2)] at hk
    exact ⟨c, P, w, h9, n, x, y, hok, hn, c2, rfl, by omega, h22, hk⟩
  · have c := Classical.not_not.mp c
    have c1 := Classical.not_not.mp c1
    rw [if_neg (by rintro (q | q); exact q c; exact q c1), if_pos c2] at hk
    exact hk
  · rw [if_pos (Or.inr c1)] at hk
    exact hk
set_option maxRecDepth 100000 in
theorem C_X10_tell {l : Launch} {ad : Int → Nat} {D : va_G} {cy : Nat → ClassId} {Z : State → Prop} (hZ : q_Zg ad Z) : q_Ct l q_T q_N ad D cy Z yX10_tell cX10_tell 5 (some .int) rm_X10_tell sp_X10_tell := by
  obtain ⟨hf, hg, hld⟩ := q_chkS k_X10_tell
  refine q_met (rk := 0) q_wokT (by decide) rfl hf hg hld rfl (q_skS L_X10_tell o_X10_tell) ?_ ?_ ?_ ?_ B_X10_tell
  · intro i hi; exact absurd hi List.not_mem_nil
  · intro i hi
    have hi : i = 69 ∨ i = 90 ∨ i = 98 ∨ i = 81 := by simpa [u_X10_tell] using hi
    rcases hi with rfl | rfl | rfl | rfl
    · exact q_crV hZ.1 (C_X10_refuse hZ) rv_X10_refuse cm_X10_refuse (by decide +kernel) (by decide +kernel) (by decide +kernel) (by decide +kernel) (by decide +kernel) ⟨rfl, rfl⟩ (by decide)
    · exact q_crV hZ.1 (C_X0_hasCell hZ) rv_X0_hasCell cm_X0_hasCell (by decide +kernel) (by decide +kernel) (by decide +kernel) (by decide +kernel) (by decide +kernel) ⟨rfl, rfl⟩ (by decide)
    · exact q_crV hZ.1 (C_X10_put hZ) rv_X10_put cm_X10_put (by decide +kernel) (by decide +kernel) (by decide +kernel) (by decide +kernel) (by decide +kernel) ⟨rfl, rfl⟩ (by decide)
    · exact q_crV hZ.1 (C_X10_accept hZ) rv_X10_accept cm_X10_accept (by decide +kernel) (by decide +kernel) (by decide +kernel) (by decide +kernel) (by decide +kernel) ⟨rfl, rfl⟩ (by decide)
  · intro i hi
    have hi : i = 84 ∨ i = 87 ∨ i = 94 := by simpa [u_X10_tell] using hi
    rcases hi with rfl | rfl | rfl
    · exact q_crS hZ.1 (C_X10_isSheet hZ) cm_X10_isSheet (by decide +kernel) (by decide +kernel) (by decide +kernel) (by decide +kernel) ⟨rfl, rfl⟩ (by decide)
    · exact q_crS hZ.1 (C_X10_isTellable hZ) cm_X10_isTellable (by decide +kernel) (by decide +kernel) (by decide +kernel) (by decide +kernel) ⟨rfl, rfl⟩ (by decide)
    · exact q_crS hZ.1 (C_X10_placeOf hZ) cm_X10_placeOf (by decide +kernel) (by decide +kernel) (by decide +kernel) (by decide +kernel) ⟨rfl, rfl⟩ (by decide)
  · intro i hi; exact absurd hi List.not_mem_nil
theorem rv_X10_tell : q_rcv q_T yX10_tell.cls sp_X10_tell := by
  intro ra μ K h
  obtain ⟨this, sheet, x, y, value, rfl, h⟩ := sp_X10_tell_i h
  obtain rfl := h.1
  exact ⟨[.inl value, .inl y, .inl x, .inl sheet], 0, 10, _, _, rfl, T_0, rfl, rfl⟩
theorem cm_X10_tell : Cond.code yX10_tell cX10_tell 5 (some .int) ∈ q_tb := by decide +kernel
def sp_X10_cell : QP := fun ra μ K => match ra with
  | [.inl y, .inl x, .inl board, .inr (.inr this)] => this = 0 ∧ (q_r board ∧ q_r x ∧ q_r y) ∧ ∃ P w h n : Int, c_ok μ P w h n ∧ μ 0 5 = P ∧ μ P 2 = n ∧ (∀ j : Int, 0 ≤ j → j < 10 → q_mk (μ 22 j)) ∧ (¬ ((0 ≤ board ∧ board < n) ∧ m_in w h x y) → K (some (.inl (-2000000000))) μ) ∧ ((0 ≤ board ∧ board < n) ∧ m_in w h x y → ∀ ν : QM, c_af μ ν → c_ok ν P w h n → (∀ (b : Int) (t : Nat), 0 ≤ b → b < 10 → (q_bit (ν 21 b) t = true ↔ q_bit (μ 21 b) t = true ∨ q_bit (m_nd w h (c_kM μ P) (c_mM μ P) (c_oM μ P) board (c_ti x y) b) t = true)) → ν 20 6 = μ 20 6 + c_mc μ (m_nd w h (c_kM μ P) (c_mM μ P) (c_oM μ P) board (c_ti x y)) (board + 1).toNat → (∀ j : Int, 0 ≤ j → j < 10 → q_mk (ν 22 j)) → K (some (.inl (c_vM μ P w h board x y))) ν)
  | _ => False
theorem sp_X10_cell_e (this board x y : Int) (μ : QM) (K : Option QV → QM → Prop) : sp_X10_cell [.inl y, .inl x, .inl board, .inr (.inr this)] μ K = (this = 0 ∧ (q_r board ∧ q_r x ∧ q_r y) ∧ ∃ P w h n : Int, c_ok μ P w h n ∧ μ 0 5 = P ∧ μ P 2 = n ∧ (∀ j : Int, 0 ≤ j → j < 10 → q_mk (μ 22 j)) ∧ (¬ ((0 ≤ board ∧ board < n) ∧ m_in w h x y) → K (some (.inl (-2000000000))) μ) ∧ ((0 ≤ board ∧ board < n) ∧ m_in w h x y → ∀ ν : QM, c_af μ ν → c_ok ν P w h n → (∀ (b : Int) (t : Nat), 0 ≤ b → b < 10 → (q_bit (ν 21 b) t = true ↔ q_bit (μ 21 b) t = true ∨ q_bit (m_nd w h (c_kM μ P) (c_mM μ P) (c_oM μ P) board (c_ti x y) b) t = true)) → ν 20 6 = μ 20 6 + c_mc μ (m_nd w h (c_kM μ P) (c_mM μ P) (c_oM μ P) board (c_ti x y)) (board + 1).toNat → (∀ j : Int, 0 ≤ j → j < 10 → q_mk (ν 22 j)) → K (some (.inl (c_vM μ P w h board x y))) ν)) := propext Iff.rfl
theorem sp_X10_cell_i {ra : List QV} {μ : QM} {K : Option QV → QM → Prop} (h : sp_X10_cell ra μ K) : ∃ this board x y : Int, ra = [.inl y, .inl x, .inl board, .inr (.inr this)] ∧ (this = 0 ∧ (q_r board ∧ q_r x ∧ q_r y) ∧ ∃ P w h n : Int, c_ok μ P w h n ∧ μ 0 5 = P ∧ μ P 2 = n ∧ (∀ j : Int, 0 ≤ j → j < 10 → q_mk (μ 22 j)) ∧ (¬ ((0 ≤ board ∧ board < n) ∧ m_in w h x y) → K (some (.inl (-2000000000))) μ) ∧ ((0 ≤ board ∧ board < n) ∧ m_in w h x y → ∀ ν : QM, c_af μ ν → c_ok ν P w h n → (∀ (b : Int) (t : Nat), 0 ≤ b → b < 10 → (q_bit (ν 21 b) t = true ↔ q_bit (μ 21 b) t = true ∨ q_bit (m_nd w h (c_kM μ P) (c_mM μ P) (c_oM μ P) board (c_ti x y) b) t = true)) → ν 20 6 = μ 20 6 + c_mc μ (m_nd w h (c_kM μ P) (c_mM μ P) (c_oM μ P) board (c_ti x y)) (board + 1).toNat → (∀ j : Int, 0 ≤ j → j < 10 → q_mk (ν 22 j)) → K (some (.inl (c_vM μ P w h board x y))) ν)) := by
  unfold sp_X10_cell at h
  split at h
  · exact ⟨_, _, _, _, rfl, h⟩
  · exact h.elim
def rm_X10_cell : Room := { frames := 6, cells := 0, slots := 0, locals := 146 }
def G_X10_cell : Nat → Nat × QP := fun i => match i with
  | 126 => (2, sp_X2_has)
  | 90 => (3, sp_X0_hasCell)
  | 132 => (3, sp_X9_ask)
  | 129 => (2, sp_X10_tileOf)
  | 94 => (2, sp_X10_placeOf)
  | _ => (0, fun _ _ _ => False)
theorem G_X10_cell_126 : G_X10_cell 126 = (2, sp_X2_has) := id rfl
theorem G_X10_cell_90 : G_X10_cell 90 = (3, sp_X0_hasCell) := id rfl
theorem G_X10_cell_132 : G_X10_cell 132 = (3, sp_X9_ask) := id rfl
theorem G_X10_cell_129 : G_X10_cell 129 = (2, sp_X10_tileOf) := id rfl
theorem G_X10_cell_94 : G_X10_cell 94 = (2, sp_X10_placeOf) := id rfl
set_option maxRecDepth 100000 in
set_option maxHeartbeats 4000000 in
theorem B_X10_cell : q_Body cX10_cell 4 u_X10_cell fl_X10 ld_X10 G_X10_cell q_T 0 s_X10_cell sp_X10_cell := by
  intro S Rt hR ra μ h
  obtain ⟨this, board, x, y, rfl, h⟩ := sp_X10_cell_i h
  refine ⟨by simp [q_sl, q_ct], ?_⟩
  show S 0 [some (.inr (.inr this)), some (.inl board), some (.inl x), some (.inl y)] [] μ
  obtain ⟨rfl, ⟨h1, h2, h3⟩, P, w, h9, n, hok, e5, hn, h22, hk0, hk⟩ := h
  obtain ⟨kb, kv, kf, kr⟩ := id hok
  have ew := kb.2.2.2.1
  have eh := kb.2.2.2.2.1
  have hd := kb.2.2.1
  have hP := kb.1
  have hnn := kb.2.2.2.2.2.2.2.1
  refine hR 60 [] 0 _ _ _ rfl ?_
  simp only [v_opt_n, v_opt_s, v_nil, v_iconst, v_bipush, v_sipush, v_lconst0, v_lconst1, v_ldc, v_ldcw, v_ldc2, v_iload0, v_iload1, v_iload2, v_iload3, v_iload, v_lload0, v_lload1, v_lload2, v_lload3, v_lload, v_aload0, v_aload1, v_aload2, v_aload3, v_aload, v_istore0, v_istore1, v_istore2, v_istore3, v_istore, v_lstore0, v_lstore1, v_lstore2, v_lstore3, v_lstore, v_astore0, v_astore1, v_astore2, v_astore3, v_astore, v_iinc, v_iadd, v_isub, v_imul, v_iand, v_ior, v_ixor, v_ishl, v_ishr, v_iushr, v_ineg, v_idiv, v_irem, v_ladd, v_lsub, v_lmul, v_lcmp, v_i2l, v_l2i, v_i2c, v_dup, v_dup2, v_if_eq, v_if_ne, v_if_lt, v_if_ge, v_if_gt, v_if_le, v_ic_eq, v_ic_ne, v_ic_lt, v_ic_ge, v_ic_gt, v_ic_le, v_goto, v_tsw, v_lsw, v_ireturn, v_areturn, v_return, v_iaload, v_laload, v_baload, v_caload, v_aaload, v_iastore, v_lastore, v_bastore, v_castore, v_alen, v_invvi, v_invst, v_invsp, e_int, e_lng, e_ref, e_lg0, e_lg1, e_lg2, e_lg3, e_lg4, e_lg5, e_lg6, e_lg7, e_lg8, e_lg9, e_lg10, e_lg11, e_lg12, e_lg13, e_clrI, e_clrJ, e_clrP, e_clrN, e_s0, e_s1, e_s2, e_s3, e_s4, e_s5, e_s6, e_s7, e_s8, e_s9, e_s10, e_s11, e_s12, e_s13, e_t0, e_t1, e_t2, e_t3, e_t4, e_t5, e_t6, e_t7, e_t8, e_t9, e_t10, e_t11, e_t12, e_t13, e_fd, e_kk, e_k0, e_k1, e_k2, e_k3, e_k4, e_k5, e_k6, e_k7, e_k8, e_k9, e_sv0, e_sv1, e_sv2, e_sv3, e_svc, e_pf0, e_pf1, e_pf2, e_pf3, e_ar, e_aa, e_al, e_sw1, e_sw2, e_ct0, e_ct1, e_ct2, e_cat0, e_cat1, e_rk0, e_rk1, e_rk2, e_inv0, e_inv1, e_inv2, e_inv3, e_inv4, e_inv5, e_inv6, e_o0, e_o1, e_cl, e_cle, e_cg, e_cge, e_ce, e_cr1, e_cr2, e_r, e_R, e_up, Int.cast_ofNat_Int, u_app, false_and, and_false, e_b0, e_b1, e_bn, e_bl, e_bu, Int.reduceLE, Int.reduceLT, Int.reduceEq, Int.reduceNeg, Int.reduceAdd, Int.reduceSub, Int.reduceMul, Nat.reduceLeDiff, Nat.reduceLT, Nat.reduceAdd, Nat.reduceEqDiff, true_and, and_true, true_or, or_true, false_or, or_false, forall_const, not_true_eq_false, not_false_eq_true, true_implies, false_implies, implies_true, and_self, zero_ne_one, one_ne_zero, eq_self, reduceIte, s_X10_cell_0, b_X10_cell_0, s_X10_cell_11, b_X10_cell_11, s_X10_cell_23, b_X10_cell_23, s_X10_cell_26, b_X10_cell_26, g_X10_33, g_X10_12, g_X10_54, g_X10_135, ld_X10_102, G_X10_cell_126, sp_X2_has_e, G_X10_cell_90, sp_X0_hasCell_e, G_X10_cell_132, sp_X9_ask_e, G_X10_cell_129, sp_X10_tileOf_e, G_X10_cell_94, sp_X10_placeOf_e, e5, hn, ew, eh, T_23]
  refine ⟨hP, ⟨h1, by omega⟩, fun c => hk0 (fun q => c q.1), fun c => ⟨⟨h2, h3, by omega, by omega⟩, fun c1 => ?_, fun c1 => hk0 (fun q => c1 q.2)⟩⟩
  have c := Classical.not_not.mp c
  have c1 : m_in w h9 x y := Classical.not_not.mp c1
  have tl := n_tl hd c1
  have ec := c_ti_e x y
  rw [show (((c_ti x y).toNat : Nat) : Int) = y / 4 * 3 + x / 4 by omega] at tl
  have tv := T_val c.1 (show board < 10 by omega)
  refine ⟨by omega, P, w, h9, n, hok, c, tl, h22, fun ν f g1 g2 g3 g4 => ⟨c.1, by omega, by omega, ?_⟩⟩
  rw [tv]
  refine ⟨rfl, by omega, by omega, by omega, ?_⟩
  have hbit : q_bit (ν 21 board) (c_ti x y).toNat = true := (g2 board _ c.1 (by omega)).mpr (Or.inr (by
    have := n_self (kd := c_kM μ P) (rn := c_rM μ P) (mn := c_mM μ P) (of := c_oM μ P) c.1 tl (c_ro_rok kb (by omega))
    exact this))
  have e := g1.2.2.2 board x y c.1 c.2 c1 ⟨fun _ e0 => (by rw [e0, bt_0] at hbit; cases hbit), fun _ => hbit⟩
  rw [c_vM_af f kb c.1 c.2 c1] at e
  have e : ν (24 + board) ((y + 1) * 14 + x + 1) = c_vM μ P w h9 board x y := e
  rw [e]
  exact hk ⟨c, c1⟩ ν f g1 g2 g3 g4
set_option maxRecDepth 100000 in
theorem C_X10_cell {l : Launch} {ad : Int → Nat} {D : va_G} {cy : Nat → ClassId} {Z : State → Prop} (hZ : q_Zg ad Z) : q_Ct l q_T q_N ad D cy Z yX10_cell cX10_cell 4 (some .int) rm_X10_cell sp_X10_cell := by
  obtain ⟨hf, hg, hld⟩ := q_chkS k_X10_cell
  refine q_met (rk := 0) q_wokT (by decide) rfl hf hg hld rfl (q_skS L_X10_cell o_X10_cell) ?_ ?_ ?_ ?_ B_X10_cell
  · intro i hi; exact absurd hi List.not_mem_nil
  · intro i hi
    have hi : i = 126 ∨ i = 90 ∨ i = 132 := by simpa [u_X10_cell] using hi
    rcases hi with rfl | rfl | rfl
    · exact q_crV hZ.1 (C_X2_has hZ) rv_X2_has cm_X2_has (by decide +kernel) (by decide +kernel) (by decide +kernel) (by decide +kernel) (by decide +kernel) ⟨rfl, rfl⟩ (by decide)
    · exact q_crV hZ.1 (C_X0_hasCell hZ) rv_X0_hasCell cm_X0_hasCell (by decide +kernel) (by decide +kernel) (by decide +kernel) (by decide +kernel) (by decide +kernel) ⟨rfl, rfl⟩ (by decide)
    · exact q_crV hZ.1 (C_X9_ask hZ) rv_X9_ask cm_X9_ask (by decide +kernel) (by decide +kernel) (by decide +kernel) (by decide +kernel) (by decide +kernel) ⟨rfl, rfl⟩ (by decide)
  · intro i hi
    have hi : i = 129 ∨ i = 94 := by simpa [u_X10_cell] using hi
    rcases hi with rfl | rfl
    · exact q_crS hZ.1 (C_X10_tileOf hZ) cm_X10_tileOf (by decide +kernel) (by decide +kernel) (by decide +kernel) (by decide +kernel) ⟨rfl, rfl⟩ (by decide)
    · exact q_crS hZ.1 (C_X10_placeOf hZ) cm_X10_placeOf (by decide +kernel) (by decide +kernel) (by decide +kernel) (by decide +kernel) ⟨rfl, rfl⟩ (by decide)
  · intro i hi; exact absurd hi List.not_mem_nil
theorem rv_X10_cell : q_rcv q_T yX10_cell.cls sp_X10_cell := by
  intro ra μ K h
  obtain ⟨this, board, x, y, rfl, h⟩ := sp_X10_cell_i h
  obtain rfl := h.1
  exact ⟨[.inl y, .inl x, .inl board], 0, 10, _, _, rfl, T_0, rfl, rfl⟩
theorem cm_X10_cell : Cond.code yX10_cell cX10_cell 4 (some .int) ∈ q_tb := by decide +kernel

