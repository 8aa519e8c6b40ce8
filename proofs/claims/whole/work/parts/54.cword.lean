/-! the class: words -/
def c_ws : List (List Int) := [[115, 104, 101, 101, 116], [97, 100, 100], [108, 101, 115, 115], [116, 105, 109, 101, 115], [108, 101, 97, 115, 116], [109, 111, 115, 116], [119, 104, 101, 114, 101], [119, 97, 121], [105, 102], [102, 105, 108, 108], [110, 101, 97, 114], [122, 111, 110, 101], [102, 108, 111, 119], [115, 117, 109], [99, 111, 117, 110, 116]]
def c_len (w : Nat) : Int := ((c_ws.getD w []).length : Int)
def c_ch (w i : Nat) : Int := (c_ws.getD w []).getD i 0
/-- the word w stands there -/
abbrev c_spl (T : Int → Int) (w : Nat) (start after : Int) : Prop := after - start = c_len w ∧ ∀ i : Nat, i < (c_ws.getD w []).length → T (start + i) = c_ch w i
def c_wv (T : Int → Int) (st : Int) : Nat → Int
  | 0 => 0
  | n + 1 => if (n : Int) < 6 then c_wv T st n * 32 + T (st + n) - 96 else -1
theorem c_wv_s (T : Int → Int) (st : Int) (n : Nat) : c_wv T st (n + 1) = if (n : Int) < 6 then c_wv T st n * 32 + T (st + n) - 96 else -1 := id rfl
theorem c_wdv (T : Int → Int) (st : Int) : ∀ (n k : Nat), (m_wd T st n (st + k) (c_wv T st k)).2 = c_wv T st ((m_wd T st n (st + k) (c_wv T st k)).1 - st).toNat
  | 0, k => by
    show c_wv T st k = c_wv T st (st + k - st).toNat
    congr 1
    omega
  | n + 1, k => by
    have ih := c_wdv T st n (k + 1)
    unfold m_wd
    by_cases c : m_sml (T (st + k))
    · rw [if_pos c]
      rw [c_wv_s, show st + ((k + 1 : Nat) : Int) = st + k + 1 by omega] at ih
      rw [show st + (k : Int) - st = k by omega]
      exact ih
    · rw [if_neg c]
      show c_wv T st k = c_wv T st (st + k - st).toNat
      congr 1
      omega
theorem c_wv_m (T : Int → Int) (st : Int) (n : Nat) (h : 7 ≤ n) : c_wv T st n = -1 := by
  obtain ⟨m, rfl⟩ : ∃ m, n = m + 1 := ⟨n - 1, by omega⟩
  rw [c_wv_s, if_neg (by omega)]
theorem c_wv_c {T : Int → Int} {st : Int} {n : Nat} (hn : 2 ≤ n) (hs : ∀ j : Int, st ≤ j → j < st + n → m_sml (T j)) : (n = 2 ∧ m_sml (T st) ∧ m_sml (T (st + 1)) ∧ c_wv T st n = (T st - 96) * 32 + T (st + 1) - 96) ∨ (n = 3 ∧ m_sml (T st) ∧ m_sml (T (st + 1)) ∧ m_sml (T (st + 2)) ∧ c_wv T st n = ((T st - 96) * 32 + T (st + 1) - 96) * 32 + T (st + 2) - 96) ∨ (n = 4 ∧ m_sml (T st) ∧ m_sml (T (st + 1)) ∧ m_sml (T (st + 2)) ∧ m_sml (T (st + 3)) ∧ c_wv T st n = (((T st - 96) * 32 + T (st + 1) - 96) * 32 + T (st + 2) - 96) * 32 + T (st + 3) - 96) ∨ (n = 5 ∧ m_sml (T st) ∧ m_sml (T (st + 1)) ∧ m_sml (T (st + 2)) ∧ m_sml (T (st + 3)) ∧ m_sml (T (st + 4)) ∧ c_wv T st n = ((((T st - 96) * 32 + T (st + 1) - 96) * 32 + T (st + 2) - 96) * 32 + T (st + 3) - 96) * 32 + T (st + 4) - 96) ∨ (n = 6 ∧ 33554432 ≤ c_wv T st n) ∨ (7 ≤ n ∧ c_wv T st n = -1) := by
  have e0 : c_wv T st 0 = 0 := rfl
  have e1 : c_wv T st 1 = T st - 96 := by
    rw [c_wv_s, e0, if_pos (by omega)]
    rw [show st + ((0 : Nat) : Int) = st by omega]
    omega
  have e2 : c_wv T st 2 = (T st - 96) * 32 + T (st + 1) - 96 := by
    rw [c_wv_s, e1, if_pos (by omega)]
    rfl
  have e3 : c_wv T st 3 = ((T st - 96) * 32 + T (st + 1) - 96) * 32 + T (st + 2) - 96 := by
    rw [c_wv_s, e2, if_pos (by omega)]
    rfl
  have e4 : c_wv T st 4 = (((T st - 96) * 32 + T (st + 1) - 96) * 32 + T (st + 2) - 96) * 32 + T (st + 3) - 96 := by
    rw [c_wv_s, e3, if_pos (by omega)]
    rfl
  have e5 : c_wv T st 5 = ((((T st - 96) * 32 + T (st + 1) - 96) * 32 + T (st + 2) - 96) * 32 + T (st + 3) - 96) * 32 + T (st + 4) - 96 := by
    rw [c_wv_s, e4, if_pos (by omega)]
    rfl
  have e6 : c_wv T st 6 = (((((T st - 96) * 32 + T (st + 1) - 96) * 32 + T (st + 2) - 96) * 32 + T (st + 3) - 96) * 32 + T (st + 4) - 96) * 32 + T (st + 5) - 96 := by
    rw [c_wv_s, e5, if_pos (by omega)]
    rfl
  have : n = 2 ∨ n = 3 ∨ n = 4 ∨ n = 5 ∨ n = 6 ∨ 7 ≤ n := by omega
  rcases this with rfl | rfl | rfl | rfl | rfl | q
  · exact Or.inl ⟨rfl, hs st (by omega) (by omega), hs (st + 1) (by omega) (by omega), e2⟩
  · exact Or.inr (Or.inl ⟨rfl, hs st (by omega) (by omega), hs (st + 1) (by omega) (by omega), hs (st + 2) (by omega) (by omega), e3⟩)
  · exact Or.inr (Or.inr (Or.inl ⟨rfl, hs st (by omega) (by omega), hs (st + 1) (by omega) (by omega), hs (st + 2) (by omega) (by omega), hs (st + 3) (by omega) (by omega), e4⟩))
  · exact Or.inr (Or.inr (Or.inr (Or.inl ⟨rfl, hs st (by omega) (by omega), hs (st + 1) (by omega) (by omega), hs (st + 2) (by omega) (by omega), hs (st + 3) (by omega) (by omega), hs (st + 4) (by omega) (by omega), e5⟩)))
  · refine Or.inr (Or.inr (Or.inr (Or.inr (Or.inl ⟨rfl, ?_⟩))))
    have a0 := hs st (by omega) (by omega)
    have a1 := hs (st + 1) (by omega) (by omega)
    have a2 := hs (st + 2) (by omega) (by omega)
    have a3 := hs (st + 3) (by omega) (by omega)
    have a4 := hs (st + 4) (by omega) (by omega)
    have a5 := hs (st + 5) (by omega) (by omega)
    omega
  · exact Or.inr (Or.inr (Or.inr (Or.inr (Or.inr ⟨q, c_wv_m T st n q⟩))))
theorem c_sw0 {T : Int → Int} {st : Int} {n : Nat} (hn : 2 ≤ n) (hs : ∀ j : Int, st ≤ j → j < st + n → m_sml (T j)) : c_spl T 0 st (st + n) ↔ c_wv T st n = 20190388 := by
  have hc := c_wv_c hn hs
  have e : c_spl T 0 st (st + n) ↔ (n = 5 ∧ T st = 115 ∧ T (st + 1) = 104 ∧ T (st + 2) = 101 ∧ T (st + 3) = 101 ∧ T (st + 4) = 116) := by
    constructor
    · rintro ⟨h1, h2⟩
      have h1 : st + (n : Int) - st = 5 := h1
      have g0 : T (st + ((0 : Nat) : Int)) = 115 := h2 0 (by decide)
      have g1 : T (st + ((1 : Nat) : Int)) = 104 := h2 1 (by decide)
      have g2 : T (st + ((2 : Nat) : Int)) = 101 := h2 2 (by decide)
      have g3 : T (st + ((3 : Nat) : Int)) = 101 := h2 3 (by decide)
      have g4 : T (st + ((4 : Nat) : Int)) = 116 := h2 4 (by decide)
      rw [show st + ((0 : Nat) : Int) = st by omega] at g0
      exact ⟨by omega, g0, g1, g2, g3, g4⟩
    · rintro ⟨h1, g0, g1, g2, g3, g4⟩
      refine ⟨by show st + (n : Int) - st = 5; omega, fun i hi => ?_⟩
      have hi : i < 5 := hi
      have : i = 0 ∨ i = 1 ∨ i = 2 ∨ i = 3 ∨ i = 4 := by omega
      rcases this with rfl | rfl | rfl | rfl | rfl
      · rw [show st + ((0 : Nat) : Int) = st by omega]; exact g0
      · exact g1
      · exact g2
      · exact g3
      · exact g4
  rw [e]
  rcases hc with q | q | q | q | q | q
  all_goals (constructor <;> intro z <;> omega)
theorem c_sw1 {T : Int → Int} {st : Int} {n : Nat} (hn : 2 ≤ n) (hs : ∀ j : Int, st ≤ j → j < st + n → m_sml (T j)) : c_spl T 1 st (st + n) ↔ c_wv T st n = 1156 := by
  have hc := c_wv_c hn hs
  have e : c_spl T 1 st (st + n) ↔ (n = 3 ∧ T st = 97 ∧ T (st + 1) = 100 ∧ T (st + 2) = 100) := by
    constructor
    · rintro ⟨h1, h2⟩
      have h1 : st + (n : Int) - st = 3 := h1
      have g0 : T (st + ((0 : Nat) : Int)) = 97 := h2 0 (by decide)
      have g1 : T (st + ((1 : Nat) : Int)) = 100 := h2 1 (by decide)
      have g2 : T (st + ((2 : Nat) : Int)) = 100 := h2 2 (by decide)
      rw [show st + ((0 : Nat) : Int) = st by omega] at g0
      exact ⟨by omega, g0, g1, g2⟩
    · rintro ⟨h1, g0, g1, g2⟩
      refine ⟨by show st + (n : Int) - st = 3; omega, fun i hi => ?_⟩
      have hi : i < 3 := hi
      have : i = 0 ∨ i = 1 ∨ i = 2 := by omega
      rcases this with rfl | rfl | rfl
      · rw [show st + ((0 : Nat) : Int) = st by omega]; exact g0
      · exact g1
      · exact g2
  rw [e]
  rcases hc with q | q | q | q | q | q
  all_goals (constructor <;> intro z <;> omega)
theorem c_sw2 {T : Int → Int} {st : Int} {n : Nat} (hn : 2 ≤ n) (hs : ∀ j : Int, st ≤ j → j < st + n → m_sml (T j)) : c_spl T 2 st (st + n) ↔ c_wv T st n = 398963 := by
  have hc := c_wv_c hn hs
  have e : c_spl T 2 st (st + n) ↔ (n = 4 ∧ T st = 108 ∧ T (st + 1) = 101 ∧ T (st + 2) = 115 ∧ T (st + 3) = 115) := by
    constructor
    · rintro ⟨h1, h2⟩
      have h1 : st + (n : Int) - st = 4 := h1
      have g0 : T (st + ((0 : Nat) : Int)) = 108 := h2 0 (by decide)
      have g1 : T (st + ((1 : Nat) : Int)) = 101 := h2 1 (by decide)
      have g2 : T (st + ((2 : Nat) : Int)) = 115 := h2 2 (by decide)
      have g3 : T (st + ((3 : Nat) : Int)) = 115 := h2 3 (by decide)
      rw [show st + ((0 : Nat) : Int) = st by omega] at g0
      exact ⟨by omega, g0, g1, g2, g3⟩
    · rintro ⟨h1, g0, g1, g2, g3⟩
      refine ⟨by show st + (n : Int) - st = 4; omega, fun i hi => ?_⟩
      have hi : i < 4 := hi
      have : i = 0 ∨ i = 1 ∨ i = 2 ∨ i = 3 := by omega
      rcases this with rfl | rfl | rfl | rfl
      · rw [show st + ((0 : Nat) : Int) = st by omega]; exact g0
      · exact g1
      · exact g2
      · exact g3
  rw [e]
  rcases hc with q | q | q | q | q | q
  all_goals (constructor <;> intro z <;> omega)
theorem c_sw3 {T : Int → Int} {st : Int} {n : Nat} (hn : 2 ≤ n) (hs : ∀ j : Int, st ≤ j → j < st + n → m_sml (T j)) : c_spl T 3 st (st + n) ↔ c_wv T st n = 21279923 := by
  have hc := c_wv_c hn hs
  have e : c_spl T 3 st (st + n) ↔ (n = 5 ∧ T st = 116 ∧ T (st + 1) = 105 ∧ T (st + 2) = 109 ∧ T (st + 3) = 101 ∧ T (st + 4) = 115) := by
    constructor
    · rintro ⟨h1, h2⟩
      have h1 : st + (n : Int) - st = 5 := h1
      have g0 : T (st + ((0 : Nat) : Int)) = 116 := h2 0 (by decide)
      have g1 : T (st + ((1 : Nat) : Int)) = 105 := h2 1 (by decide)
      have g2 : T (st + ((2 : Nat) : Int)) = 109 := h2 2 (by decide)
      have g3 : T (st + ((3 : Nat) : Int)) = 101 := h2 3 (by decide)
      have g4 : T (st + ((4 : Nat) : Int)) = 115 := h2 4 (by decide)
      rw [show st + ((0 : Nat) : Int) = st by omega] at g0
      exact ⟨by omega, g0, g1, g2, g3, g4⟩
    · rintro ⟨h1, g0, g1, g2, g3, g4⟩
      refine ⟨by show st + (n : Int) - st = 5; omega, fun i hi => ?_⟩
      have hi : i < 5 := hi
      have : i = 0 ∨ i = 1 ∨ i = 2 ∨ i = 3 ∨ i = 4 := by omega
      rcases this with rfl | rfl | rfl | rfl | rfl
      · rw [show st + ((0 : Nat) : Int) = st by omega]; exact g0
      · exact g1
      · exact g2
      · exact g3
      · exact g4
  rw [e]
  rcases hc with q | q | q | q | q | q
  all_goals (constructor <;> intro z <;> omega)
theorem c_sw4 {T : Int → Int} {st : Int} {n : Nat} (hn : 2 ≤ n) (hs : ∀ j : Int, st ≤ j → j < st + n → m_sml (T j)) : c_spl T 4 st (st + n) ↔ c_wv T st n = 12748404 := by
  have hc := c_wv_c hn hs
  have e : c_spl T 4 st (st + n) ↔ (n = 5 ∧ T st = 108 ∧ T (st + 1) = 101 ∧ T (st + 2) = 97 ∧ T (st + 3) = 115 ∧ T (st + 4) = 116) := by
    constructor
    · rintro ⟨h1, h2⟩
      have h1 : st + (n : Int) - st = 5 := h1
      have g0 : T (st + ((0 : Nat) : Int)) = 108 := h2 0 (by decide)
      have g1 : T (st + ((1 : Nat) : Int)) = 101 := h2 1 (by decide)
      have g2 : T (st + ((2 : Nat) : Int)) = 97 := h2 2 (by decide)
      have g3 : T (st + ((3 : Nat) : Int)) = 115 := h2 3 (by decide)
      have g4 : T (st + ((4 : Nat) : Int)) = 116 := h2 4 (by decide)
      rw [show st + ((0 : Nat) : Int) = st by omega] at g0
      exact ⟨by omega, g0, g1, g2, g3, g4⟩
    · rintro ⟨h1, g0, g1, g2, g3, g4⟩
      refine ⟨by show st + (n : Int) - st = 5; omega, fun i hi => ?_⟩
      have hi : i < 5 := hi
      have : i = 0 ∨ i = 1 ∨ i = 2 ∨ i = 3 ∨ i = 4 := by omega
      rcases this with rfl | rfl | rfl | rfl | rfl
      · rw [show st + ((0 : Nat) : Int) = st by omega]; exact g0
      · exact g1
      · exact g2
      · exact g3
      · exact g4
  rw [e]
  rcases hc with q | q | q | q | q | q
  all_goals (constructor <;> intro z <;> omega)
theorem c_sw5 {T : Int → Int} {st : Int} {n : Nat} (hn : 2 ≤ n) (hs : ∀ j : Int, st ≤ j → j < st + n → m_sml (T j)) : c_spl T 5 st (st + n) ↔ c_wv T st n = 441972 := by
  have hc := c_wv_c hn hs
  have e : c_spl T 5 st (st + n) ↔ (n = 4 ∧ T st = 109 ∧ T (st + 1) = 111 ∧ T (st + 2) = 115 ∧ T (st + 3) = 116) := by
    constructor
    · rintro ⟨h1, h2⟩
      have h1 : st + (n : Int) - st = 4 := h1
      have g0 : T (st + ((0 : Nat) : Int)) = 109 := h2 0 (by decide)
      have g1 : T (st + ((1 : Nat) : Int)) = 111 := h2 1 (by decide)
      have g2 : T (st + ((2 : Nat) : Int)) = 115 := h2 2 (by decide)
      have g3 : T (st + ((3 : Nat) : Int)) = 116 := h2 3 (by decide)
      rw [show st + ((0 : Nat) : Int) = st by omega] at g0
      exact ⟨by omega, g0, g1, g2, g3⟩
    · rintro ⟨h1, g0, g1, g2, g3⟩
      refine ⟨by show st + (n : Int) - st = 4; omega, fun i hi => ?_⟩
      have hi : i < 4 := hi
      have : i = 0 ∨ i = 1 ∨ i = 2 ∨ i = 3 := by omega
      rcases this with rfl | rfl | rfl | rfl
      · rw [show st + ((0 : Nat) : Int) = st by omega]; exact g0
      · exact g1
      · exact g2
      · exact g3
  rw [e]
  rcases hc with q | q | q | q | q | q
  all_goals (constructor <;> intro z <;> omega)
theorem c_sw6 {T : Int → Int} {st : Int} {n : Nat} (hn : 2 ≤ n) (hs : ∀ j : Int, st ≤ j → j < st + n → m_sml (T j)) : c_spl T 6 st (st + n) ↔ c_wv T st n = 24385093 := by
  have hc := c_wv_c hn hs
  have e : c_spl T 6 st (st + n) ↔ (n = 5 ∧ T st = 119 ∧ T (st + 1) = 104 ∧ T (st + 2) = 101 ∧ T (st + 3) = 114 ∧ T (st + 4) = 101) := by
    constructor
    · rintro ⟨h1, h2⟩
      have h1 : st + (n : Int) - st = 5 := h1
      have g0 : T (st + ((0 : Nat) : Int)) = 119 := h2 0 (by decide)
      have g1 : T (st + ((1 : Nat) : Int)) = 104 := h2 1 (by decide)
      have g2 : T (st + ((2 : Nat) : Int)) = 101 := h2 2 (by decide)
      have g3 : T (st + ((3 : Nat) : Int)) = 114 := h2 3 (by decide)
      have g4 : T (st + ((4 : Nat) : Int)) = 101 := h2 4 (by decide)
      rw [show st + ((0 : Nat) : Int) = st by omega] at g0
      exact ⟨by omega, g0, g1, g2, g3, g4⟩
    · rintro ⟨h1, g0, g1, g2, g3, g4⟩
      refine ⟨by show st + (n : Int) - st = 5; omega, fun i hi => ?_⟩
      have hi : i < 5 := hi
      have : i = 0 ∨ i = 1 ∨ i = 2 ∨ i = 3 ∨ i = 4 := by omega
      rcases this with rfl | rfl | rfl | rfl | rfl
      · rw [show st + ((0 : Nat) : Int) = st by omega]; exact g0
      · exact g1
      · exact g2
      · exact g3
      · exact g4
  rw [e]
  rcases hc with q | q | q | q | q | q
  all_goals (constructor <;> intro z <;> omega)
theorem c_sw7 {T : Int → Int} {st : Int} {n : Nat} (hn : 2 ≤ n) (hs : ∀ j : Int, st ≤ j → j < st + n → m_sml (T j)) : c_spl T 7 st (st + n) ↔ c_wv T st n = 23609 := by
  have hc := c_wv_c hn hs
  have e : c_spl T 7 st (st + n) ↔ (n = 3 ∧ T st = 119 ∧ T (st + 1) = 97 ∧ T (st + 2) = 121) := by
    constructor
    · rintro ⟨h1, h2⟩
      have h1 : st + (n : Int) - st = 3 := h1
      have g0 : T (st + ((0 : Nat) : Int)) = 119 := h2 0 (by decide)
      have g1 : T (st + ((1 : Nat) : Int)) = 97 := h2 1 (by decide)
      have g2 : T (st + ((2 : Nat) : Int)) = 121 := h2 2 (by decide)
      rw [show st + ((0 : Nat) : Int) = st by omega] at g0
      exact ⟨by omega, g0, g1, g2⟩
    · rintro ⟨h1, g0, g1, g2⟩
      refine ⟨by show st + (n : Int) - st = 3; omega, fun i hi => ?_⟩
      have hi : i < 3 := hi
      have : i = 0 ∨ i = 1 ∨ i = 2 := by omega
      rcases this with rfl | rfl | rfl
      · rw [show st + ((0 : Nat) : Int) = st by omega]; exact g0
      · exact g1
      · exact g2
  rw [e]
  rcases hc with q | q | q | q | q | q
  all_goals (constructor <;> intro z <;> omega)
theorem c_sw8 {T : Int → Int} {st : Int} {n : Nat} (hn : 2 ≤ n) (hs : ∀ j : Int, st ≤ j → j < st + n → m_sml (T j)) : c_spl T 8 st (st + n) ↔ c_wv T st n = 294 := by
  have hc := c_wv_c hn hs
  have e : c_spl T 8 st (st + n) ↔ (n = 2 ∧ T st = 105 ∧ T (st + 1) = 102) := by
    constructor
    · rintro ⟨h1, h2⟩
      have h1 : st + (n : Int) - st = 2 := h1
      have g0 : T (st + ((0 : Nat) : Int)) = 105 := h2 0 (by decide)
      have g1 : T (st + ((1 : Nat) : Int)) = 102 := h2 1 (by decide)
      rw [show st + ((0 : Nat) : Int) = st by omega] at g0
      exact ⟨by omega, g0, g1⟩
    · rintro ⟨h1, g0, g1⟩
      refine ⟨by show st + (n : Int) - st = 2; omega, fun i hi => ?_⟩
      have hi : i < 2 := hi
      have : i = 0 ∨ i = 1 := by omega
      rcases this with rfl | rfl
      · rw [show st + ((0 : Nat) : Int) = st by omega]; exact g0
      · exact g1
  rw [e]
  rcases hc with q | q | q | q | q | q
  all_goals (constructor <;> intro z <;> omega)
theorem c_sw9 {T : Int → Int} {st : Int} {n : Nat} (hn : 2 ≤ n) (hs : ∀ j : Int, st ≤ j → j < st + n → m_sml (T j)) : c_spl T 9 st (st + n) ↔ c_wv T st n = 206220 := by
  have hc := c_wv_c hn hs
  have e : c_spl T 9 st (st + n) ↔ (n = 4 ∧ T st = 102 ∧ T (st + 1) = 105 ∧ T (st + 2) = 108 ∧ T (st + 3) = 108) := by
    constructor
    · rintro ⟨h1, h2⟩
      have h1 : st + (n : Int) - st = 4 := h1
      have g0 : T (st + ((0 : Nat) : Int)) = 102 := h2 0 (by decide)
      have g1 : T (st + ((1 : Nat) : Int)) = 105 := h2 1 (by decide)
      have g2 : T (st + ((2 : Nat) : Int)) = 108 := h2 2 (by decide)
      have g3 : T (st + ((3 : Nat) : Int)) = 108 := h2 3 (by decide)
      rw [show st + ((0 : Nat) : Int) = st by omega] at g0
      exact ⟨by omega, g0, g1, g2, g3⟩
    · rintro ⟨h1, g0, g1, g2, g3⟩
      refine ⟨by show st + (n : Int) - st = 4; omega, fun i hi => ?_⟩
      have hi : i < 4 := hi
      have : i = 0 ∨ i = 1 ∨ i = 2 ∨ i = 3 := by omega
      rcases this with rfl | rfl | rfl | rfl
      · rw [show st + ((0 : Nat) : Int) = st by omega]; exact g0
      · exact g1
      · exact g2
      · exact g3
  rw [e]
  rcases hc with q | q | q | q | q | q
  all_goals (constructor <;> intro z <;> omega)
theorem c_sw10 {T : Int → Int} {st : Int} {n : Nat} (hn : 2 ≤ n) (hs : ∀ j : Int, st ≤ j → j < st + n → m_sml (T j)) : c_spl T 10 st (st + n) ↔ c_wv T st n = 463922 := by
  have hc := c_wv_c hn hs
  have e : c_spl T 10 st (st + n) ↔ (n = 4 ∧ T st = 110 ∧ T (st + 1) = 101 ∧ T (st + 2) = 97 ∧ T (st + 3) = 114) := by
    constructor
    · rintro ⟨h1, h2⟩
      have h1 : st + (n : Int) - st = 4 := h1
      have g0 : T (st + ((0 : Nat) : Int)) = 110 := h2 0 (by decide)
      have g1 : T (st + ((1 : Nat) : Int)) = 101 := h2 1 (by decide)
      have g2 : T (st + ((2 : Nat) : Int)) = 97 := h2 2 (by decide)
      have g3 : T (st + ((3 : Nat) : Int)) = 114 := h2 3 (by decide)
      rw [show st + ((0 : Nat) : Int) = st by omega] at g0
      exact ⟨by omega, g0, g1, g2, g3⟩
    · rintro ⟨h1, g0, g1, g2, g3⟩
      refine ⟨by show st + (n : Int) - st = 4; omega, fun i hi => ?_⟩
      have hi : i < 4 := hi
      have : i = 0 ∨ i = 1 ∨ i = 2 ∨ i = 3 := by omega
      rcases this with rfl | rfl | rfl | rfl
      · rw [show st + ((0 : Nat) : Int) = st by omega]; exact g0
      · exact g1
      · exact g2
      · exact g3
  rw [e]
  rcases hc with q | q | q | q | q | q
  all_goals (constructor <;> intro z <;> omega)
theorem c_sw11 {T : Int → Int} {st : Int} {n : Nat} (hn : 2 ≤ n) (hs : ∀ j : Int, st ≤ j → j < st + n → m_sml (T j)) : c_spl T 11 st (st + n) ↔ c_wv T st n = 867781 := by
  have hc := c_wv_c hn hs
  have e : c_spl T 11 st (st + n) ↔ (n = 4 ∧ T st = 122 ∧ T (st + 1) = 111 ∧ T (st + 2) = 110 ∧ T (st + 3) = 101) := by
    constructor
    · rintro ⟨h1, h2⟩
      have h1 : st + (n : Int) - st = 4 := h1
      have g0 : T (st + ((0 : Nat) : Int)) = 122 := h2 0 (by decide)
      have g1 : T (st + ((1 : Nat) : Int)) = 111 := h2 1 (by decide)
      have g2 : T (st + ((2 : Nat) : Int)) = 110 := h2 2 (by decide)
      have g3 : T (st + ((3 : Nat) : Int)) = 101 := h2 3 (by decide)
      rw [show st + ((0 : Nat) : Int) = st by omega] at g0
      exact ⟨by omega, g0, g1, g2, g3⟩
    · rintro ⟨h1, g0, g1, g2, g3⟩
      refine ⟨by show st + (n : Int) - st = 4; omega, fun i hi => ?_⟩
      have hi : i < 4 := hi
      have : i = 0 ∨ i = 1 ∨ i = 2 ∨ i = 3 := by omega
      rcases this with rfl | rfl | rfl | rfl
      · rw [show st + ((0 : Nat) : Int) = st by omega]; exact g0
      · exact g1
      · exact g2
      · exact g3
  rw [e]
  rcases hc with q | q | q | q | q | q
  all_goals (constructor <;> intro z <;> omega)
theorem c_sw12 {T : Int → Int} {st : Int} {n : Nat} (hn : 2 ≤ n) (hs : ∀ j : Int, st ≤ j → j < st + n → m_sml (T j)) : c_spl T 12 st (st + n) ↔ c_wv T st n = 209399 := by
  have hc := c_wv_c hn hs
  have e : c_spl T 12 st (st + n) ↔ (n = 4 ∧ T st = 102 ∧ T (st + 1) = 108 ∧ T (st + 2) = 111 ∧ T (st + 3) = 119) := by
    constructor
    · rintro ⟨h1, h2⟩
      have h1 : st + (n : Int) - st = 4 := h1
      have g0 : T (st + ((0 : Nat) : Int)) = 102 := h2 0 (by decide)
      have g1 : T (st + ((1 : Nat) : Int)) = 108 := h2 1 (by decide)
      have g2 : T (st + ((2 : Nat) : Int)) = 111 := h2 2 (by decide)
      have g3 : T (st + ((3 : Nat) : Int)) = 119 := h2 3 (by decide)
      rw [show st + ((0 : Nat) : Int) = st by omega] at g0
      exact ⟨by omega, g0, g1, g2, g3⟩
    · rintro ⟨h1, g0, g1, g2, g3⟩
      refine ⟨by show st + (n : Int) - st = 4; omega, fun i hi => ?_⟩
      have hi : i < 4 := hi
      have : i = 0 ∨ i = 1 ∨ i = 2 ∨ i = 3 := by omega
      rcases this with rfl | rfl | rfl | rfl
      · rw [show st + ((0 : Nat) : Int) = st by omega]; exact g0
      · exact g1
      · exact g2
      · exact g3
  rw [e]
  rcases hc with q | q | q | q | q | q
  all_goals (constructor <;> intro z <;> omega)
theorem c_sw13 {T : Int → Int} {st : Int} {n : Nat} (hn : 2 ≤ n) (hs : ∀ j : Int, st ≤ j → j < st + n → m_sml (T j)) : c_spl T 13 st (st + n) ↔ c_wv T st n = 20141 := by
  have hc := c_wv_c hn hs
  have e : c_spl T 13 st (st + n) ↔ (n = 3 ∧ T st = 115 ∧ T (st + 1) = 117 ∧ T (st + 2) = 109) := by
    constructor
    · rintro ⟨h1, h2⟩
      have h1 : st + (n : Int) - st = 3 := h1
      have g0 : T (st + ((0 : Nat) : Int)) = 115 := h2 0 (by decide)
      have g1 : T (st + ((1 : Nat) : Int)) = 117 := h2 1 (by decide)
      have g2 : T (st + ((2 : Nat) : Int)) = 109 := h2 2 (by decide)
      rw [show st + ((0 : Nat) : Int) = st by omega] at g0
      exact ⟨by omega, g0, g1, g2⟩
    · rintro ⟨h1, g0, g1, g2⟩
      refine ⟨by show st + (n : Int) - st = 3; omega, fun i hi => ?_⟩
      have hi : i < 3 := hi
      have : i = 0 ∨ i = 1 ∨ i = 2 := by omega
      rcases this with rfl | rfl | rfl
      · rw [show st + ((0 : Nat) : Int) = st by omega]; exact g0
      · exact g1
      · exact g2
  rw [e]
  rcases hc with q | q | q | q | q | q
  all_goals (constructor <;> intro z <;> omega)
theorem c_sw14 {T : Int → Int} {st : Int} {n : Nat} (hn : 2 ≤ n) (hs : ∀ j : Int, st ≤ j → j < st + n → m_sml (T j)) : c_spl T 14 st (st + n) ↔ c_wv T st n = 3659220 := by
  have hc := c_wv_c hn hs
  have e : c_spl T 14 st (st + n) ↔ (n = 5 ∧ T st = 99 ∧ T (st + 1) = 111 ∧ T (st + 2) = 117 ∧ T (st + 3) = 110 ∧ T (st + 4) = 116) := by
    constructor
    · rintro ⟨h1, h2⟩
      have h1 : st + (n : Int) - st = 5 := h1
      have g0 : T (st + ((0 : Nat) : Int)) = 99 := h2 0 (by decide)
      have g1 : T (st + ((1 : Nat) : Int)) = 111 := h2 1 (by decide)
      have g2 : T (st + ((2 : Nat) : Int)) = 117 := h2 2 (by decide)
      have g3 : T (st + ((3 : Nat) : Int)) = 110 := h2 3 (by decide)
      have g4 : T (st + ((4 : Nat) : Int)) = 116 := h2 4 (by decide)
      rw [show st + ((0 : Nat) : Int) = st by omega] at g0
      exact ⟨by omega, g0, g1, g2, g3, g4⟩
    · rintro ⟨h1, g0, g1, g2, g3, g4⟩
      refine ⟨by show st + (n : Int) - st = 5; omega, fun i hi => ?_⟩
      have hi : i < 5 := hi
      have : i = 0 ∨ i = 1 ∨ i = 2 ∨ i = 3 ∨ i = 4 := by omega
      rcases this with rfl | rfl | rfl | rfl | rfl
      · rw [show st + ((0 : Nat) : Int) = st by omega]; exact g0
      · exact g1
      · exact g2
      · exact g3
      · exact g4
  rw [e]
  rcases hc with q | q | q | q | q | q
  all_goals (constructor <;> intro z <;> omega)
theorem c_spw {T : Int → Int} {st : Int} {n w : Nat} (hn : 2 ≤ n) (hs : ∀ j : Int, st ≤ j → j < st + n → m_sml (T j)) (hw : w < 15) : c_spl T w st (st + n) ↔ m_wx (c_wv T st n) = w := by
  have hx := m_wx_n (v := c_wv T st n)
  have : w = 0 ∨ w = 1 ∨ w = 2 ∨ w = 3 ∨ w = 4 ∨ w = 5 ∨ w = 6 ∨ w = 7 ∨ w = 8 ∨ w = 9 ∨ w = 10 ∨ w = 11 ∨ w = 12 ∨ w = 13 ∨ w = 14 := by omega
  rcases this with rfl | rfl | rfl | rfl | rfl | rfl | rfl | rfl | rfl | rfl | rfl | rfl | rfl | rfl | rfl
  · rw [c_sw0 hn hs]
    constructor
    · intro z; rw [z]; decide
    · intro z; rcases hx with q | q | q | q | q | q | q | q | q | q | q | q | q | q | q | q <;> omega
  · rw [c_sw1 hn hs]
    constructor
    · intro z; rw [z]; decide
    · intro z; rcases hx with q | q | q | q | q | q | q | q | q | q | q | q | q | q | q | q <;> omega
  · rw [c_sw2 hn hs]
    constructor
    · intro z; rw [z]; decide
    · intro z; rcases hx with q | q | q | q | q | q | q | q | q | q | q | q | q | q | q | q <;> omega
  · rw [c_sw3 hn hs]
    constructor
    · intro z; rw [z]; decide
    · intro z; rcases hx with q | q | q | q | q | q | q | q | q | q | q | q | q | q | q | q <;> omega
  · rw [c_sw4 hn hs]
    constructor
    · intro z; rw [z]; decide
    · intro z; rcases hx with q | q | q | q | q | q | q | q | q | q | q | q | q | q | q | q <;> omega
  · rw [c_sw5 hn hs]
    constructor
    · intro z; rw [z]; decide
    · intro z; rcases hx with q | q | q | q | q | q | q | q | q | q | q | q | q | q | q | q <;> omega
  · rw [c_sw6 hn hs]
    constructor
    · intro z; rw [z]; decide
    · intro z; rcases hx with q | q | q | q | q | q | q | q | q | q | q | q | q | q | q | q <;> omega
  · rw [c_sw7 hn hs]
    constructor
    · intro z; rw [z]; decide
    · intro z; rcases hx with q | q | q | q | q | q | q | q | q | q | q | q | q | q | q | q <;> omega
  · rw [c_sw8 hn hs]
    constructor
    · intro z; rw [z]; decide
    · intro z; rcases hx with q | q | q | q | q | q | q | q | q | q | q | q | q | q | q | q <;> omega
  · rw [c_sw9 hn hs]
    constructor
    · intro z; rw [z]; decide
    · intro z; rcases hx with q | q | q | q | q | q | q | q | q | q | q | q | q | q | q | q <;> omega
  · rw [c_sw10 hn hs]
    constructor
    · intro z; rw [z]; decide
    · intro z; rcases hx with q | q | q | q | q | q | q | q | q | q | q | q | q | q | q | q <;> omega
  · rw [c_sw11 hn hs]
    constructor
    · intro z; rw [z]; decide
    · intro z; rcases hx with q | q | q | q | q | q | q | q | q | q | q | q | q | q | q | q <;> omega
  · rw [c_sw12 hn hs]
    constructor
    · intro z; rw [z]; decide
    · intro z; rcases hx with q | q | q | q | q | q | q | q | q | q | q | q | q | q | q | q <;> omega
  · rw [c_sw13 hn hs]
    constructor
    · intro z; rw [z]; decide
    · intro z; rcases hx with q | q | q | q | q | q | q | q | q | q | q | q | q | q | q | q <;> omega
  · rw [c_sw14 hn hs]
    constructor
    · intro z; rw [z]; decide
    · intro z; rcases hx with q | q | q | q | q | q | q | q | q | q | q | q | q | q | q | q <;> omega

