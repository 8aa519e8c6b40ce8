/-! the document's words over numbers: memory filled, tiles, needs -/
def q_fill (μ : QM) (a i n v : Int) : QM := fun b j => if b = a ∧ i ≤ j ∧ j < n then v else μ b j
theorem q_fill_e {μ : QM} {a i n v : Int} (h : n ≤ i) : q_fill μ a i n v = μ := by
  funext b j
  exact if_neg (by omega)
theorem q_fill_s {μ : QM} {a i n v : Int} (h : i < n) : q_fill (q_up μ a i v) a (i + 1) n v = q_fill μ a i n v := by
  funext b j
  unfold q_fill q_up
  by_cases c1 : b = a ∧ i ≤ j ∧ j < n
  · rw [if_pos c1]
    by_cases c2 : j = i
    · rw [if_neg (by omega), if_pos ⟨c1.1, c2⟩]
    · rw [if_pos (by omega)]
  · rw [if_neg c1, if_neg (by omega), if_neg (by omega)]
theorem u_fill (μ : QM) (a i n v b j : Int) : q_fill μ a i n v b j = if b = a ∧ i ≤ j ∧ j < n then v else μ b j := id rfl
/-- there is a tile t -/
abbrev m_tl (w h t : Int) : Prop := 0 ≤ t ∧ t ≤ 8 ∧ t % 3 * 4 < w ∧ t / 3 * 4 < h
def q_tmn (w h : Int) : Nat → Int
  | 0 => 0
  | n + 1 => q_or (q_tmn w h n) (if m_tl w h (n : Int) then q_shl 1 (n : Int) else 0)
def q_tm (w h : Int) : Int := q_tmn w h 9
theorem q_tmn_bit (w h : Int) : ∀ (n : Nat), n ≤ 9 → ∀ t : Nat, q_bit (q_tmn w h n) t = decide (t < n ∧ m_tl w h (t : Int))
  | 0, _, t => by
    show q_bit 0 t = _
    rw [bt_0]
    simp
  | n + 1, hn, t => by
    show q_bit (q_or (q_tmn w h n) (if m_tl w h (n : Int) then q_shl 1 (n : Int) else 0)) t = _
    rw [bt_or, q_tmn_bit w h n (by omega) t]
    by_cases c : m_tl w h (n : Int)
    · rw [if_pos c, bt_one (by omega) (by omega)]
      by_cases e : t = n
      · subst e
        simp [c]
      · have e2 : ¬ (t : Int) = (n : Int) := by omega
        have e3 : t < n + 1 ↔ t < n := by omega
        simp [e2, e3]
    · rw [if_neg c, bt_0]
      by_cases e : t = n
      · subst e
        simp [c]
      · have e3 : t < n + 1 ↔ t < n := by omega
        simp [e3]
theorem q_tm_bit (w h : Int) (t : Nat) : q_bit (q_tm w h) t = decide (m_tl w h (t : Int)) := by
  unfold q_tm
  rw [q_tmn_bit w h 9 (by omega)]
  by_cases c : t < 9
  · simp [c]
  · have : ¬ m_tl w h (t : Int) := by omega
    simp [c, this]
theorem q_or_r {a b : Int} : q_r (q_or a b) := bt_r_or a b
theorem q_tmn_r (w h : Int) : ∀ n, q_r (q_tmn w h n)
  | 0 => q_r0
  | n + 1 => bt_r_or _ _
theorem q_tm_r (w h : Int) : q_r (q_tm w h) := q_tmn_r w h 9
/-- a mask of tiles: bits 0 to 8 alone -/
def q_mk (m : Int) : Prop := q_r m ∧ ∀ t : Nat, 9 ≤ t → q_bit m t = false
theorem q_mk_nn {m : Int} (h : q_mk m) : 0 ≤ m := bt_nn (h.2 31 (by omega)) h.1
theorem q_mk_le {m : Int} (h : q_mk m) : m ≤ 2147483647 := h.1.2
theorem q_mk_ext {a b : Int} (ha : q_mk a) (hb : q_mk b) (h : ∀ t : Nat, t < 9 → q_bit a t = q_bit b t) : a = b := bt_ext ha.1 hb.1 (fun t _ => by
  by_cases c : t < 9
  · exact h t c
  · rw [ha.2 t (by omega), hb.2 t (by omega)])
theorem q_mk_0 : q_mk 0 := ⟨by decide, fun t _ => bt_0 t⟩
theorem q_mk_or {a b : Int} (ha : q_mk a) (hb : q_mk b) : q_mk (q_or a b) := ⟨bt_r_or a b, fun t h => by rw [bt_or, ha.2 t h, hb.2 t h]; rfl⟩
theorem q_mk_and {a b : Int} (ha : q_mk a) : q_mk (q_and a b) := ⟨bt_r_and a b, fun t h => by rw [bt_and, ha.2 t h]; rfl⟩
theorem q_mk_one {k : Int} (h0 : 0 ≤ k) (h1 : k ≤ 8) : q_mk (q_shl 1 k) := ⟨bt_r_shl 1 k, fun t h => by rw [bt_one h0 (by omega)]; simp; omega⟩
theorem q_mk_tm (w h : Int) : q_mk (q_tm w h) := ⟨q_tm_r w h, fun t c => by rw [q_tm_bit]; simp; omega⟩
/-- the tiles that touch -/
def q_row (s : Int) : Int := q_or (q_or s (q_shl (q_and s (-293)) 1)) (q_shr (q_and s (-74)) 1)
def q_arn (w h s : Int) : Int := q_and (q_or (q_or (q_row s) (q_shl (q_row s) 3)) (q_shr (q_row s) 3)) (q_tm w h)
/-- what tiles of a board named these tiles need -/
def q_need (w h kind s : Int) : Int := if kind = 7 ∨ kind = 11 ∨ kind = 12 then (if s = 0 then 0 else q_tm w h) else if kind = 10 then q_arn w h s else s
theorem q_mk_arn (w h s : Int) : q_mk (q_arn w h s) := ⟨bt_r_and _ _, fun t c => by unfold q_arn; rw [bt_and, (q_mk_tm w h).2 t c, Bool.and_false]⟩
theorem q_mk_need {w h kind s : Int} (hs : q_mk s) : q_mk (q_need w h kind s) := by
  unfold q_need
  split
  · split
    · exact q_mk_0
    · exact q_mk_tm w h
  · split
    · exact q_mk_arn w h s
    · exact hs
theorem q_m293 : ∀ t : Nat, t < 32 → q_bit (-293) t = !(decide (t = 2) || decide (t = 5) || decide (t = 8)) := by decide +kernel
theorem q_m74 : ∀ t : Nat, t < 32 → q_bit (-74) t = !(decide (t = 0) || decide (t = 3) || decide (t = 6)) := by decide +kernel
theorem q_row_mk {s : Int} (hs : q_mk s) : ∀ t : Nat, q_bit (q_row s) t = (q_bit s t || (decide (0 < t) && decide (t % 3 ≠ 0) && q_bit s (t - 1)) || (decide (t % 3 ≠ 2) && q_bit s (t + 1))) := by
  intro t
  unfold q_row
  have hn := q_mk_nn (q_mk_and (b := -74) hs)
  have hu := q_mk_le (q_mk_and (b := -74) hs)
  rw [bt_or, bt_or, bt_shl _ (by omega) (by omega), bt_shr hn hu (by omega) (by omega), bt_and, bt_and]
  by_cases h9 : 10 ≤ t
  · have a1 := hs.2 t (by omega)
    have a2 := hs.2 (t - 1) (by omega)
    have a3 := hs.2 (t + 1) (by omega)
    have e1 : (1 : Int).toNat = 1 := rfl
    rw [e1, a1, a2, a3]
    simp
  · have e1 : (1 : Int).toNat = 1 := rfl
    rw [e1, q_m293 (t - 1) (by omega), q_m74 (t + 1) (by omega)]
    have : t = 0 ∨ t = 1 ∨ t = 2 ∨ t = 3 ∨ t = 4 ∨ t = 5 ∨ t = 6 ∨ t = 7 ∨ t = 8 ∨ t = 9 := by omega
    have b9 := hs.2 9 (by omega)
    have b10 := hs.2 10 (by omega)
    rcases this with rfl | rfl | rfl | rfl | rfl | rfl | rfl | rfl | rfl | rfl <;> simp [b9, b10]
theorem q_arn_bit {w h s : Int} (hs : q_mk s) (t : Nat) : q_bit (q_arn w h s) t = true ↔ m_tl w h (t : Int) ∧ ∃ u : Nat, u ≤ 8 ∧ q_bit s u = true ∧ ((t : Int) % 3 - (u : Int) % 3 ≤ 1 ∧ (u : Int) % 3 - (t : Int) % 3 ≤ 1) ∧ ((t : Int) / 3 - (u : Int) / 3 ≤ 1 ∧ (u : Int) / 3 - (t : Int) / 3 ≤ 1) := by
  unfold q_arn
  rw [bt_and, q_tm_bit]
  by_cases c : m_tl w h (t : Int)
  · have ht : t ≤ 8 := by omega
    have hr31 : q_bit (q_row s) 31 = false := by
      rw [q_row_mk hs, hs.2 31 (by omega), hs.2 30 (by omega), hs.2 32 (by omega)]; rfl
    have hrr : q_r (q_row s) := bt_r_or _ _
    have hr0 := bt_nn hr31 hrr
    have key : (q_bit (q_or (q_or (q_row s) (q_shl (q_row s) 3)) (q_shr (q_row s) 3)) t && decide (m_tl w h (t : Int))) = (q_bit (q_row s) t || (decide (3 ≤ t) && q_bit (q_row s) (t - 3)) || q_bit (q_row s) (t + 3)) := by
      rw [bt_or, bt_or, bt_shl _ (by omega) (by omega), bt_shr hr0 hrr.2 (by omega) (by omega)]
      have e3 : (3 : Int).toNat = 3 := rfl
      have e4 : t < 32 := by omega
      have e5 : (!decide ((t : Int) < 3)) = decide (3 ≤ t) := by
        by_cases x : 3 ≤ t
        · have : ¬ (t : Int) < 3 := by omega
          simp [x, this]
        · have : (t : Int) < 3 := by omega
          simp [x, this]
      simp [c, e3, e4, e5]
    rw [key, q_row_mk hs, q_row_mk hs, q_row_mk hs]
    have b9 := hs.2 9 (by omega)
    have b10 := hs.2 10 (by omega)
    have b11 := hs.2 11 (by omega)
    have b12 := hs.2 12 (by omega)
    constructor
    · intro h1
      refine ⟨c, ?_⟩
      have hh : t = 0 ∨ t = 1 ∨ t = 2 ∨ t = 3 ∨ t = 4 ∨ t = 5 ∨ t = 6 ∨ t = 7 ∨ t = 8 := by omega
      have fin : ∀ u : Nat, u ≤ 8 → q_bit s u = true → (((t : Int) % 3 - (u : Int) % 3 ≤ 1 ∧ (u : Int) % 3 - (t : Int) % 3 ≤ 1) ∧ ((t : Int) / 3 - (u : Int) / 3 ≤ 1 ∧ (u : Int) / 3 - (t : Int) / 3 ≤ 1)) → ∃ u : Nat, u ≤ 8 ∧ q_bit s u = true ∧ ((t : Int) % 3 - (u : Int) % 3 ≤ 1 ∧ (u : Int) % 3 - (t : Int) % 3 ≤ 1) ∧ ((t : Int) / 3 - (u : Int) / 3 ≤ 1 ∧ (u : Int) / 3 - (t : Int) / 3 ≤ 1) := fun u a b d => ⟨u, a, b, d⟩
      rcases hh with rfl | rfl | rfl | rfl | rfl | rfl | rfl | rfl | rfl <;> simp [b9, b10, b11, b12] at h1 <;> (repeat' (rcases h1 with h1 | h1)) <;> first | exact fin _ (by omega) h1 (by omega) | exact fin 0 (by omega) h1 (by omega) | exact fin 1 (by omega) h1 (by omega) | exact fin 2 (by omega) h1 (by omega) | exact fin 3 (by omega) h1 (by omega) | exact fin 4 (by omega) h1 (by omega) | exact fin 5 (by omega) h1 (by omega) | exact fin 6 (by omega) h1 (by omega) | exact fin 7 (by omega) h1 (by omega) | exact fin 8 (by omega) h1 (by omega)
    · rintro ⟨-, u, hu, hb, h1, h2⟩
      have hh : t = 0 ∨ t = 1 ∨ t = 2 ∨ t = 3 ∨ t = 4 ∨ t = 5 ∨ t = 6 ∨ t = 7 ∨ t = 8 := by omega
      have hu' : u = 0 ∨ u = 1 ∨ u = 2 ∨ u = 3 ∨ u = 4 ∨ u = 5 ∨ u = 6 ∨ u = 7 ∨ u = 8 := by omega
      rcases hh with rfl | rfl | rfl | rfl | rfl | rfl | rfl | rfl | rfl <;> rcases hu' with rfl | rfl | rfl | rfl | rfl | rfl | rfl | rfl | rfl <;> first | (exfalso; omega) | simp [hb]
  · simp [c]

