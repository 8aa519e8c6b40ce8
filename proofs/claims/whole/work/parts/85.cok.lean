/-! the class: what holds between calls -/
def c_ro (μ : QM) (r b : Int) : Prop := (0 ≤ μ r 2 ∧ μ r 2 ≤ 12) ∧ μ r 1 = m_mn (μ r 2) ∧ (μ r 2 = 0 → 0 ≤ μ r 4 ∧ μ r 4 ≤ 3) ∧ (μ r 2 = 10 → 1 ≤ μ r 4 ∧ μ r 4 ≤ 3) ∧ (μ r 2 = 9 → m_vr (μ r 4)) ∧ (μ r 2 = 10 ∨ μ r 2 = 11 → μ r 3 = 4 ∨ μ r 3 = 5 ∨ μ r 3 = 13 ∨ μ r 3 = 14) ∧ (∀ k : Int, 0 ≤ k → k < 3 → 0 ≤ μ (r + 10) k ∧ μ (r + 10) k < 10) ∧ (∀ k : Int, 0 ≤ k → k < m_mn (μ r 2) → μ (r + 10) k < b) ∧ q_r (μ r 4)
abbrev c_hM (μ : QM) (P : Int) : Int → Int := fun b => μ (P + 3 + b) 3
abbrev c_sM (μ : QM) : Int → Int → Int → Int := fun s => c_A μ (4 + s)
noncomputable abbrev c_vM (μ : QM) (P w h : Int) : Int → Int → Int → Int := n_V w h (c_kM μ P) (c_hM μ P) (c_rM μ P) (c_oM μ P) (c_sM μ)
/-- the cell's value stands -/
def c_sts (μ : QM) (P b x y : Int) : Prop := (n_wh (c_kM μ P b) → ¬ μ 21 b = 0) ∧ (¬ n_wh (c_kM μ P b) → q_bit (μ 21 b) (c_ti x y).toNat = true)
def c_bs (μ : QM) (P w h n : Int) : Prop := q_pl P ∧ μ 20 5 = P ∧ m_dim w h ∧ μ 1 0 = w ∧ μ 1 1 = h ∧ μ 1 2 = q_tm w h ∧ c_sd μ ∧ (0 ≤ n ∧ n ≤ 10) ∧ (∀ b : Int, 0 ≤ b → b < n → c_ro μ (P + 3 + b) b)
def c_vs (μ : QM) (w h : Int) : Prop := (∀ i : Int, 0 ≤ i → i < 10 → c_gp μ (24 + i) w h ∧ ∀ u v : Int, m_in w h u v → m_vr (c_A μ (24 + i) u v)) ∧ (∀ s u v : Int, 0 ≤ s → s < 4 → m_in w h u v → m_vr (c_A μ (4 + s) u v))
def c_fs (μ : QM) (P w h n : Int) : Prop := (∀ b : Int, 0 ≤ b → b < 10 → q_mk (μ 21 b)) ∧ (∀ (b : Int) (t : Nat), 0 ≤ b → b < 10 → q_bit (μ 21 b) t = true → b < n ∧ m_tl w h (t : Int)) ∧ (∀ (b k : Int) (t u : Nat), 0 ≤ b → b < n → q_bit (μ 21 b) t = true → 0 ≤ k → k < c_mM μ P b → n_st w h (c_kM μ P b) t u → q_bit (μ 21 (c_oM μ P b k)) u = true)
def c_rt (μ : QM) (P w h n : Int) : Prop := ∀ b x y : Int, 0 ≤ b → b < n → m_in w h x y → c_sts μ P b x y → c_A μ (24 + b) x y = c_vM μ P w h b x y
def c_ok (μ : QM) (P w h n : Int) : Prop := c_bs μ P w h n ∧ c_vs μ w h ∧ c_fs μ P w h n ∧ c_rt μ P w h n
theorem c_ro_rok {μ : QM} {P w h n : Int} (hb : c_bs μ P w h n) {m : Int} (hm : m ≤ n) : m_rok (c_kM μ P) (c_rM μ P) (c_mM μ P) (c_oM μ P) m := by
  intro b b0 b1
  obtain ⟨r1, r2, r3, r4, r5, r6, r7, r8, r9⟩ := hb.2.2.2.2.2.2.2.2 b b0 (by omega)
  have := m_mn_b (μ (P + 3 + b) 2)
  refine ⟨r1, ?_, fun k k0 k1 => ?_, r4, fun e => ⟨?_, r3 e⟩, r9⟩
  · show 0 ≤ μ (P + 3 + b) 1 ∧ μ (P + 3 + b) 1 ≤ 3
    omega
  · have k1 : k < μ (P + 3 + b) 1 := k1
    exact ⟨(r7 k k0 (by omega)).1, r8 k k0 (by omega)⟩
  · show μ (P + 3 + b) 1 = 0
    rw [r2, show μ (P + 3 + b) 2 = 0 from e]
    rfl
theorem c_ok_wk {μ : QM} {P w h n m : Int} (hb : c_bs μ P w h n) (hm : m ≤ n) : c_wk μ P w h m := ⟨hb.1, hb.2.1, hb.2.2.2.2.2.1, c_ro_rok hb hm⟩
theorem c_ok_mr {μ : QM} {P w h n b : Int} (hb : c_bs μ P w h n) (hv : c_vs μ w h) (b0 : 0 ≤ b) (b1 : b < n) : c_mr μ (P + 3 + b) b w h := by
  obtain ⟨r1, r2, r3, r4, r5, r6, r7, r8, r9⟩ := hb.2.2.2.2.2.2.2.2 b b0 b1
  have := m_mn_b (μ (P + 3 + b) 2)
  refine ⟨r1, r3, r4, r6, r7, r8, fun k u v k0 k1 q => ?_⟩
  have a := r7 k k0 (by omega)
  exact (hv.1 _ a.1 a.2).2 u v q
theorem c_ok_wm {μ : QM} {P w h n b : Int} (hb : c_bs μ P w h n) (hv : c_vs μ w h) (b0 : 0 ≤ b) (b1 : b < n) : c_wm μ P b w h := ⟨hb.1, hb.2.1, hb.2.2.1, hb.2.2.2.1, hb.2.2.2.2.1, c_ok_mr hb hv b0 b1, hb.2.2.2.2.2.2.1, fun i i0 i1 => (hv.1 i i0 i1).1⟩
theorem c_V_vr {μ : QM} {P w h n b x y : Int} (hb : c_bs μ P w h n) (hv : c_vs μ w h) (b0 : 0 ≤ b) (b1 : b < n) (hxy : m_in w h x y) : m_vr (c_V μ (P + 3 + b) w h x y) := by
  obtain ⟨r1, r2, r3, r4, r5, r6, r7, r8, r9⟩ := hb.2.2.2.2.2.2.2.2 b b0 b1
  have a := fun k k0 k1 => r7 k k0 k1
  exact m_val_vr hb.2.2.1 hxy r5 r4 (fun c u v q => hv.2 _ u v (r3 c).1 (by have := (r3 c).2; omega) q) (fun _ u v q => (hv.1 _ (a 0 (by omega) (by omega)).1 (a 0 (by omega) (by omega)).2).2 u v q) (fun _ _ _ _ u v q => (hv.1 _ (a 1 (by omega) (by omega)).1 (a 1 (by omega) (by omega)).2).2 u v q) (fun _ u v q => (hv.1 _ (a 2 (by omega) (by omega)).1 (a 2 (by omega) (by omega)).2).2 u v q)
/-- where all that a tile needs stands, its value comes out right -/
theorem c_V_rt {μ : QM} {P w h n b x y : Int} (hb : c_bs μ P w h n) (hr : c_rt μ P w h n) (b0 : 0 ≤ b) (b1 : b < n) (hxy : m_in w h x y) (hf : ∀ (k : Int) (u : Nat), 0 ≤ k → k < c_mM μ P b → n_st w h (c_kM μ P b) (c_ti x y).toNat u → q_bit (μ 21 (c_oM μ P b k)) u = true) : c_V μ (P + 3 + b) w h x y = c_vM μ P w h b x y := by
  obtain ⟨r1, r2, r3, r4, r5, r6, r7, r8, r9⟩ := hb.2.2.2.2.2.2.2.2 b b0 b1
  have hmb := m_mn_b (μ (P + 3 + b) 2)
  have hn := hb.2.2.2.2.2.2.2.1
  refine Eq.trans ?_ (n_V_eq (w := w) (h := h) (kd := c_kM μ P) (hw := c_hM μ P) (rn := c_rM μ P) (of := c_oM μ P) (sh := c_sM μ) hb.2.2.1 b0 (by omega) r8 hxy).symm
  have key : ∀ k : Int, 0 ≤ k → k < m_mn (μ (P + 3 + b) 2) → ∀ u v : Int, m_in w h u v → n_st w h (μ (P + 3 + b) 2) (c_ti x y).toNat (c_ti u v).toNat → c_A μ (24 + μ (P + 3 + b + 10) k) u v = c_vM μ P w h (μ (P + 3 + b + 10) k) u v := fun k k0 k1 u v q hs => by
    have a := r7 k k0 (by omega)
    have a2 := r8 k k0 k1
    have hbit := hf k (c_ti u v).toNat k0 (by show k < μ (P + 3 + b) 1; omega) hs
    have hbit : q_bit (μ 21 (μ (P + 3 + b + 10) k)) (c_ti u v).toNat = true := hbit
    refine hr _ u v a.1 (by omega) q ⟨fun _ e => ?_, fun _ => hbit⟩
    rw [e, bt_0] at hbit
    cases hbit
  exact m_val_loc hb.2.2.1 hxy r4 (fun _ => rfl) (fun c => key 0 (by omega) (mn_1 c)) (fun c0 c1 c2 c3 => key 1 (by omega) (mn_2 c0 c1 c2 c3)) (fun c => key 2 (by omega) (mn_3 c))

