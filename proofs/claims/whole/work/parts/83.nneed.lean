/-! needs: tile by tile -/
abbrev n_wh (k : Int) : Prop := k = 7 ∨ k = 11 ∨ k = 12
/-- tile t of a board of kind k needs tile u of the boards named -/
def n_st (w h k : Int) (t u : Nat) : Prop := m_tl w h (u : Int) ∧ (n_wh k ∨ (k = 10 ∧ ((u : Int) % 3 - (t : Int) % 3 ≤ 1 ∧ (t : Int) % 3 - (u : Int) % 3 ≤ 1) ∧ ((u : Int) / 3 - (t : Int) / 3 ≤ 1 ∧ (t : Int) / 3 - (u : Int) / 3 ≤ 1)) ∨ (¬ n_wh k ∧ ¬ k = 10 ∧ u = t))
theorem n_st_sym {w h k : Int} {t u : Nat} (ht : m_tl w h (t : Int)) (hs : n_st w h k t u) : n_st w h k u t := by
  obtain ⟨h1, h2⟩ := hs
  refine ⟨ht, ?_⟩
  rcases h2 with q | ⟨q1, q2, q3⟩ | ⟨q1, q2, q3⟩
  · exact Or.inl q
  · exact Or.inr (Or.inl ⟨q1, ⟨q2.2, q2.1⟩, ⟨q3.2, q3.1⟩⟩)
  · exact Or.inr (Or.inr ⟨q1, q2, q3.symm⟩)
theorem n_nz {s : Int} (hs : q_mk s) (h : ¬ s = 0) : ∃ t : Nat, q_bit s t = true := by
  apply Classical.byContradiction
  intro c
  apply h
  refine q_mk_ext hs q_mk_0 (fun t _ => ?_)
  rw [bt_0]
  cases e : q_bit s t with
  | false => rfl
  | true => exact absurd ⟨t, e⟩ c
theorem n_need {w h k s : Int} (hs : m_sub w h s) (u : Nat) : q_bit (q_need w h k s) u = true ↔ ∃ t : Nat, q_bit s t = true ∧ n_st w h k t u := by
  unfold q_need
  by_cases c : k = 7 ∨ k = 11 ∨ k = 12
  · rw [if_pos c]
    by_cases c0 : s = 0
    · rw [if_pos c0, bt_0]
      constructor
      · intro q; cases q
      · rintro ⟨t, q, -⟩
        rw [c0, bt_0] at q
        cases q
    · rw [if_neg c0, q_tm_bit]
      constructor
      · intro q
        obtain ⟨t, e⟩ := n_nz hs.1 c0
        exact ⟨t, e, of_decide_eq_true q, Or.inl c⟩
      · rintro ⟨t, -, q⟩
        exact decide_eq_true q.1
  · rw [if_neg c]
    by_cases c1 : k = 10
    · rw [if_pos c1, q_arn_bit hs.1]
      constructor
      · rintro ⟨q1, t, q2, q3, q4, q5⟩
        exact ⟨t, q3, q1, Or.inr (Or.inl ⟨c1, q4, q5⟩)⟩
      · rintro ⟨t, q1, q2, q3⟩
        have := hs.2 t q1
        rcases q3 with q | ⟨-, q4, q5⟩ | ⟨-, q, -⟩
        · exact absurd q c
        · exact ⟨q2, t, by omega, q1, q4, q5⟩
        · exact absurd c1 q
    · rw [if_neg c1]
      constructor
      · intro q
        exact ⟨u, q, hs.2 u q, Or.inr (Or.inr ⟨c, c1, rfl⟩)⟩
      · rintro ⟨t, q1, q2, q3⟩
        rcases q3 with q | ⟨q, -⟩ | ⟨-, -, q⟩
        · exact absurd q c
        · exact absurd q c1
        · rw [q]; exact q1
theorem n_ndx {its : Int} {of : Int → Int} : ∀ (d : Nat) (k : Int) (n : Int → Int) (j : Int) (u : Nat), q_bit (m_ndx its of d k n j) u = true ↔ q_bit (n j) u = true ∨ ((∃ i : Int, k ≤ i ∧ i < k + d ∧ of i = j) ∧ q_bit its u = true)
  | 0, k, n, j, u => by
    constructor
    · intro q; exact Or.inl q
    · rintro (q | ⟨⟨i, q1, q2, -⟩, -⟩)
      · exact q
      · omega
  | d + 1, k, n, j, u => by
    show q_bit (m_ndx its of d (k + 1) (fun j => if j = of k then q_or (n j) its else n j) j) u = true ↔ _
    rw [n_ndx d (k + 1) _ j u]
    show q_bit (if j = of k then q_or (n j) its else n j) u = true ∨ _ ↔ _
    constructor
    · rintro (q | ⟨⟨i, q1, q2, q3⟩, q⟩)
      · by_cases c : j = of k
        · rw [if_pos c, bt_or, Bool.or_eq_true] at q
          rcases q with q | q
          · exact Or.inl q
          · exact Or.inr ⟨⟨k, by omega, by omega, c.symm⟩, q⟩
        · rw [if_neg c] at q
          exact Or.inl q
      · exact Or.inr ⟨⟨i, by omega, by omega, q3⟩, q⟩
    · rintro (q | ⟨⟨i, q1, q2, q3⟩, q⟩)
      · left
        by_cases c : j = of k
        · rw [if_pos c, bt_or, q, Bool.true_or]
        · rw [if_neg c]; exact q
      · by_cases c : i = k
        · left
          rw [c] at q3
          rw [if_pos q3.symm, bt_or, q, Bool.or_true]
        · exact Or.inr ⟨⟨i, by omega, by omega, q3⟩, q⟩
theorem n_ndx_ne {its : Int} {of : Int → Int} : ∀ (d : Nat) (k : Int) (n : Int → Int) (j : Int), (∀ i : Int, k ≤ i → i < k + d → ¬ of i = j) → m_ndx its of d k n j = n j
  | 0, k, n, j, _ => rfl
  | d + 1, k, n, j, h => by
    show m_ndx its of d (k + 1) (fun j => if j = of k then q_or (n j) its else n j) j = n j
    rw [n_ndx_ne d (k + 1) _ j (fun i a b => h i (by omega) (by omega))]
    exact if_neg (fun q => h k (by omega) (by omega) q.symm)
section NN
variable {w h : Int} {kd rn mn : Int → Int} {of : Int → Int → Int}
theorem n_ndr_ge : ∀ (b : Nat) (n : Int → Int) (j : Int), m_rok kd rn mn of (b : Int) → (b : Int) ≤ j + 1 → m_ndr w h kd mn of b n j = n j
  | 0, n, j, _, _ => rfl
  | b + 1, n, j, hr, hj => by
    show m_ndr w h kd mn of b (m_nds w h kd mn of (b : Int) n) j = n j
    rw [n_ndr_ge b _ j (fun c c0 c1 => hr c c0 (by omega)) (by omega)]
    obtain ⟨-, r2, r3, -⟩ := hr b (by omega) (by omega)
    refine n_ndx_ne _ _ _ _ (fun i a b => ?_)
    have := r3 i a (by omega)
    omega
theorem n_ndr : ∀ (b : Nat) (n : Int → Int), m_rok kd rn mn of (b : Int) → ∀ (j : Int) (u : Nat), q_bit (m_ndr w h kd mn of b n j) u = true ↔ q_bit (n j) u = true ∨ ∃ c k : Int, 0 ≤ c ∧ c < b ∧ 0 ≤ k ∧ k < mn c ∧ of c k = j ∧ q_bit (q_need w h (kd c) (m_ndr w h kd mn of b n c)) u = true
  | 0, n, _, j, u => by
    constructor
    · intro q; exact Or.inl q
    · rintro (q | ⟨c, k, q0, q1, -⟩)
      · exact q
      · omega
  | b + 1, n, hr, j, u => by
    obtain ⟨-, r2, r3, -⟩ := hr b (by omega) (by omega)
    have hr' : m_rok kd rn mn of (b : Int) := fun c c0 c1 => hr c c0 (by omega)
    have ih := n_ndr b (m_nds w h kd mn of (b : Int) n) hr' j u
    have eb : m_ndr w h kd mn of (b + 1) n (b : Int) = n b := by
      exact n_ndr_ge (b + 1) n b hr (by omega)
    have es : q_bit (m_nds w h kd mn of (b : Int) n j) u = true ↔ q_bit (n j) u = true ∨ ((∃ i : Int, 0 ≤ i ∧ i < 0 + ((mn b).toNat : Nat) ∧ of b i = j) ∧ q_bit (q_need w h (kd b) (n b)) u = true) := n_ndx _ _ _ _ _
    show q_bit (m_ndr w h kd mn of b (m_nds w h kd mn of (b : Int) n) j) u = true ↔ _
    rw [ih, es]
    constructor
    · rintro ((q | ⟨⟨i, q1, q2, q3⟩, q⟩) | ⟨c, k, q1, q2, q3⟩)
      · exact Or.inl q
      · exact Or.inr ⟨b, i, by omega, by omega, q1, by omega, q3, by rw [eb]; exact q⟩
      · exact Or.inr ⟨c, k, q1, by omega, q3⟩
    · rintro (q | ⟨c, k, q1, q2, q3, q4, q5, q6⟩)
      · exact Or.inl (Or.inl q)
      · by_cases e : c = b
        · subst e
          rw [eb] at q6
          exact Or.inl (Or.inr ⟨⟨k, q3, by omega, q5⟩, q6⟩)
        · exact Or.inr ⟨c, k, q1, by omega, q3, q4, q5, q6⟩
theorem n_nd {board tile : Int} (hB : 0 ≤ board) (ht : m_tl w h tile) (hr : m_rok kd rn mn of (board + 1)) (j : Int) (u : Nat) : q_bit (m_nd w h kd mn of board tile j) u = true ↔ (j = board ∧ (u : Int) = tile) ∨ ∃ c k : Int, 0 ≤ c ∧ c ≤ board ∧ 0 ≤ k ∧ k < mn c ∧ of c k = j ∧ ∃ t : Nat, q_bit (m_nd w h kd mn of board tile c) t = true ∧ n_st w h (kd c) t u := by
  have e := n_ndr (w := w) (h := h) (board + 1).toNat (fun j => if j = board then q_shl 1 tile else 0) (fun c c0 c1 => hr c c0 (by omega)) j u
  have hsub := m_nd_sub (kd := kd) (mn := mn) (of := of) (board := board) ht
  unfold m_nd at hsub ⊢
  rw [e]
  have e1 : q_bit (if j = board then q_shl 1 tile else 0) u = true ↔ j = board ∧ (u : Int) = tile := by
    by_cases c : j = board
    · rw [if_pos c, bt_one (by omega) (by omega)]
      exact ⟨fun q => ⟨c, of_decide_eq_true q⟩, fun q => decide_eq_true q.2⟩
    · rw [if_neg c, bt_0]
      exact ⟨fun q => (by cases q), fun q => absurd q.1 c⟩
  rw [e1]
  constructor
  · rintro (q | ⟨c, k, q1, q2, q3, q4, q5, q6⟩)
    · exact Or.inl q
    · exact Or.inr ⟨c, k, q1, by omega, q3, q4, q5, (n_need (hsub c) u).mp q6⟩
  · rintro (q | ⟨c, k, q1, q2, q3, q4, q5, q6⟩)
    · exact Or.inl q
    · exact Or.inr ⟨c, k, q1, by omega, q3, q4, q5, (n_need (hsub c) u).mpr q6⟩
theorem n_self {board tile : Int} (hB : 0 ≤ board) (ht : m_tl w h tile) (hr : m_rok kd rn mn of (board + 1)) : q_bit (m_nd w h kd mn of board tile board) tile.toNat = true := (n_nd hB ht hr _ _).mpr (Or.inl ⟨rfl, by omega⟩)
theorem n_step {board tile : Int} (hB : 0 ≤ board) (ht : m_tl w h tile) (hr : m_rok kd rn mn of (board + 1)) {c k : Int} {t u : Nat} (c0 : 0 ≤ c) (c1 : c ≤ board) (k0 : 0 ≤ k) (k1 : k < mn c) (hb : q_bit (m_nd w h kd mn of board tile c) t = true) (hs : n_st w h (kd c) t u) : q_bit (m_nd w h kd mn of board tile (of c k)) u = true := (n_nd hB ht hr _ _).mpr (Or.inr ⟨c, k, c0, c1, k0, k1, rfl, t, hb, hs⟩)
theorem n_in {board tile : Int} (hB : 0 ≤ board) (ht : m_tl w h tile) (hr : m_rok kd rn mn of (board + 1)) {j : Int} {u : Nat} (hb : q_bit (m_nd w h kd mn of board tile j) u = true) : 0 ≤ j ∧ j ≤ board := by
  rcases (n_nd hB ht hr j u).mp hb with q | ⟨c, k, q1, q2, q3, q4, q5, -⟩
  · omega
  · obtain ⟨-, -, r3, -⟩ := hr c q1 (by omega)
    have := r3 k q3 q4
    omega
theorem n_min {board tile : Int} (hB : 0 ≤ board) (ht : m_tl w h tile) (hr : m_rok kd rn mn of (board + 1)) {F : Int → Nat → Prop} (h0 : F board tile.toNat) (hs : ∀ (c k : Int) (t u : Nat), 0 ≤ c → c ≤ board → 0 ≤ k → k < mn c → m_tl w h (t : Int) → F c t → n_st w h (kd c) t u → F (of c k) u) : ∀ (d : Nat) (j : Int) (u : Nat), board - j < d → q_bit (m_nd w h kd mn of board tile j) u = true → F j u := by
  intro d
  induction d with
  | zero =>
    intro j u hd hb
    have := n_in hB ht hr hb
    omega
  | succ d ih =>
    intro j u hd hb
    rcases (n_nd hB ht hr j u).mp hb with ⟨q1, q2⟩ | ⟨c, k, q1, q2, q3, q4, q5, t, q6, q7⟩
    · rw [q1, show u = tile.toNat by omega]
      exact h0
    · obtain ⟨-, -, r3, -⟩ := hr c q1 (by omega)
      have := r3 k q3 q4
      rw [← q5]
      exact hs c k t u q1 q2 q3 q4 ((m_nd_sub ht c).2 t q6) (ih c t (by omega) q6) q7
theorem n_frn {nd : Int → Int} {s : Int} : ∀ (n : Nat) (u : Nat), q_bit (m_frn kd rn nd s n) u = true ↔ ∃ c : Int, 0 ≤ c ∧ c < n ∧ kd c = 0 ∧ rn c = s ∧ q_bit (nd c) u = true
  | 0, u => by
    show q_bit 0 u = true ↔ _
    rw [bt_0]
    constructor
    · intro q; cases q
    · rintro ⟨c, q0, q1, -⟩; omega
  | n + 1, u => by
    show q_bit (q_or (m_frn kd rn nd s n) (if kd (n : Int) = 0 ∧ rn (n : Int) = s then nd (n : Int) else 0)) u = true ↔ _
    rw [bt_or, Bool.or_eq_true, n_frn n u]
    constructor
    · rintro (⟨c, q0, q1, q2⟩ | q)
      · exact ⟨c, q0, by omega, q2⟩
      · by_cases e : kd (n : Int) = 0 ∧ rn (n : Int) = s
        · rw [if_pos e] at q
          exact ⟨n, by omega, by omega, e.1, e.2, q⟩
        · rw [if_neg e, bt_0] at q
          cases q
    · rintro ⟨c, q0, q1, q2, q3, q4⟩
      by_cases e : c = n
      · subst e
        right
        rw [if_pos ⟨q2, q3⟩]
        exact q4
      · exact Or.inl ⟨c, q0, by omega, q2, q3, q4⟩
theorem n_oN {n of : Int → Int} : ∀ (k : Nat) (u : Nat), q_bit (c_oN n of k) u = true ↔ ∃ i : Int, 0 ≤ i ∧ i < k ∧ q_bit (n (of i)) u = true
  | 0, u => by
    show q_bit 0 u = true ↔ _
    rw [bt_0]
    constructor
    · intro q; cases q
    · rintro ⟨c, q0, q1, -⟩; omega
  | k + 1, u => by
    show q_bit (q_or (c_oN n of k) (n (of k))) u = true ↔ _
    rw [bt_or, Bool.or_eq_true, n_oN k u]
    constructor
    · rintro (⟨c, q0, q1, q2⟩ | q)
      · exact ⟨c, q0, by omega, q2⟩
      · exact ⟨k, by omega, by omega, q⟩
    · rintro ⟨c, q0, q1, q2⟩
      by_cases e : c = k
      · subst e
        exact Or.inr q2
      · exact Or.inl ⟨c, q0, by omega, q2⟩
theorem n_oN_sub {n of : Int → Int} : ∀ (k : Nat), (∀ i : Int, 0 ≤ i → i < k → m_sub w h (n (of i))) → m_sub w h (c_oN n of k)
  | 0, _ => m_sub_0 w h
  | k + 1, hk => m_sub_or (n_oN_sub k (fun i a b => hk i a (by omega))) (hk k (by omega) (by omega))
/-! what a telling loses -/
variable {L : Int → Int} {s T n : Int}
theorem n_L_sub (hT : m_tl w h T) (hr : m_rok kd rn mn of n) (hL : ∀ b : Int, 0 ≤ b → b < n → L b = c_lo w h kd rn mn of s (q_shl 1 T) L b) : ∀ (d : Nat) (b : Int), b < d → 0 ≤ b → b < n → m_sub w h (L b) := by
  intro d
  induction d with
  | zero => intro b h1 h2; omega
  | succ d ih =>
    intro b h1 h2 h3
    obtain ⟨-, r2, r3, -⟩ := hr b h2 h3
    rw [hL b h2 h3]
    unfold c_lo
    split
    · split
      · exact m_sub_one hT
      · exact m_sub_0 w h
    · refine m_sub_need (n_oN_sub _ (fun i a c => ?_))
      have := r3 i a (by omega)
      exact ih _ (by omega) this.1 (by omega)
/-- tile t of board b comes from tile T of the sheet -/
theorem n_L {b : Int} {t : Nat} (hT : m_tl w h T) (hr : m_rok kd rn mn of n) (hL : ∀ b : Int, 0 ≤ b → b < n → L b = c_lo w h kd rn mn of s (q_shl 1 T) L b) (b0 : 0 ≤ b) (b1 : b < n) : q_bit (L b) t = true ↔ (kd b = 0 ∧ rn b = s ∧ (t : Int) = T) ∨ (¬ kd b = 0 ∧ ∃ k : Int, 0 ≤ k ∧ k < mn b ∧ ∃ u : Nat, q_bit (L (of b k)) u = true ∧ n_st w h (kd b) u t) := by
  obtain ⟨-, r2, r3, -⟩ := hr b b0 b1
  rw [hL b b0 b1]
  unfold c_lo
  by_cases c : kd b = 0
  · rw [if_pos c]
    by_cases e : rn b = s
    · rw [if_pos e, bt_one (by omega) (by omega)]
      constructor
      · intro q; exact Or.inl ⟨c, e, of_decide_eq_true q⟩
      · rintro (q | q)
        · exact decide_eq_true q.2.2
        · exact absurd c q.1
    · rw [if_neg e, bt_0]
      constructor
      · intro q; cases q
      · rintro (q | q)
        · exact absurd q.2.1 e
        · exact absurd c q.1
  · rw [if_neg c, n_need (n_oN_sub _ (fun i a d => by
      have := r3 i a (by omega)
      exact n_L_sub hT hr hL (of b i + 1).toNat _ (by omega) this.1 (by omega)))]
    constructor
    · rintro ⟨u, q1, q2⟩
      obtain ⟨i, i0, i1, i2⟩ := (n_oN _ _).mp q1
      exact Or.inr ⟨c, i, i0, by omega, u, i2, q2⟩
    · rintro (q | ⟨-, k, k0, k1, u, q1, q2⟩)
      · exact absurd q.1 c
      · exact ⟨u, (n_oN _ _).mpr ⟨k, k0, by omega, q1⟩, q2⟩
theorem n_L_st {b k : Int} {t u : Nat} (hT : m_tl w h T) (hr : m_rok kd rn mn of n) (hL : ∀ b : Int, 0 ≤ b → b < n → L b = c_lo w h kd rn mn of s (q_shl 1 T) L b) (b0 : 0 ≤ b) (b1 : b < n) (k0 : 0 ≤ k) (k1 : k < mn b) (ht : m_tl w h (t : Int)) (hs : n_st w h (kd b) t u) (hu : q_bit (L (of b k)) u = true) : q_bit (L b) t = true := by
  obtain ⟨-, -, -, -, r5, -⟩ := hr b b0 b1
  refine (n_L hT hr hL b0 b1).mpr (Or.inr ⟨fun c => ?_, k, k0, k1, u, hu, n_st_sym ht hs⟩)
  have := (r5 c).1
  omega
theorem n_and1 {x T : Int} (h0 : 0 ≤ T) (h1 : T < 32) : q_and x (q_shl 1 T) = 0 ↔ ¬ q_bit x T.toNat = true := by
  constructor
  · intro e q
    have : q_bit (q_and x (q_shl 1 T)) T.toNat = false := by rw [e]; exact bt_0 _
    rw [bt_and, q, bt_one h0 h1] at this
    simp only [Bool.true_and, decide_eq_false_iff_not] at this
    omega
  · intro q
    refine bt_ext (bt_r_and _ _) (by decide) (fun t _ => ?_)
    rw [bt_and, bt_one h0 h1, bt_0]
    by_cases c : (t : Int) = T
    · rw [show t = T.toNat by omega]
      cases e : q_bit x T.toNat with
      | false => rfl
      | true => exact absurd e q
    · rw [decide_eq_false c, Bool.and_false]
/-- what the class loses is what the reference loses -/
theorem n_lose {b : Int} {t : Nat} (hT : m_tl w h T) (hr : m_rok kd rn mn of n) (hL : ∀ b : Int, 0 ≤ b → b < n → L b = c_lo w h kd rn mn of s (q_shl 1 T) L b) (b0 : 0 ≤ b) (b1 : b < n) (ht : m_tl w h (t : Int)) : q_and (m_from w h kd rn mn of b t s) (q_shl 1 T) = 0 ↔ ¬ q_bit (L b) t = true := by
  have hr' : m_rok kd rn mn of (b + 1) := fun c c0 c1 => hr c c0 (by omega)
  rw [n_and1 (by omega) (by omega)]
  refine not_congr ?_
  unfold m_from
  rw [n_frn]
  constructor
  · rintro ⟨c, c0, c1, c2, c3, c4⟩
    have := n_min b0 ht hr' (F := fun c u => q_bit (L c) u = true → q_bit (L b) t = true) (fun q => by
      rw [show ((t : Int).toNat) = t by omega] at q
      exact q) (fun c k t' u c0 c1 k0 k1 ht' hF hs q => hF (n_L_st hT hr hL c0 (by omega) k0 k1 ht' hs q)) (b - c + 1).toNat c T.toNat (by omega) c4
    exact this ((n_L hT hr hL c0 (by omega)).mpr (Or.inl ⟨c2, c3, by omega⟩))
  · have key : ∀ (d : Nat) (c : Int) (u : Nat), c < d → q_bit (m_nd w h kd mn of b t c) u = true → q_bit (L c) u = true → ∃ c : Int, 0 ≤ c ∧ c < ((b + 1).toNat : Nat) ∧ kd c = 0 ∧ rn c = s ∧ q_bit (m_nd w h kd mn of b t c) T.toNat = true := by
      intro d
      induction d with
      | zero =>
        intro c u hd hb
        have := n_in b0 ht hr' hb
        omega
      | succ d ih =>
        intro c u hd hb hl
        have hc := n_in b0 ht hr' hb
        obtain ⟨-, r2, r3, -⟩ := hr c hc.1 (by omega)
        have hu := (m_nd_sub ht c).2 u hb
        rcases (n_L hT hr hL hc.1 (by omega)).mp hl with ⟨q1, q2, q3⟩ | ⟨q1, k, k0, k1, v, q2, q3⟩
        · exact ⟨c, hc.1, by omega, q1, q2, by rw [show T.toNat = u by omega]; exact hb⟩
        · have := r3 k k0 k1
          have hv := (n_L_sub hT hr hL (of c k + 1).toNat _ (by omega) this.1 (by omega)).2 v q2
          exact ih (of c k) v (by omega) (n_step b0 ht hr' hc.1 hc.2 k0 k1 hb (n_st_sym hv q3)) q2
    intro q
    have e := n_self b0 ht hr'
    rw [show ((t : Int).toNat) = t by omega] at e
    exact key (b + 1).toNat b t (by omega) e q
end NN

