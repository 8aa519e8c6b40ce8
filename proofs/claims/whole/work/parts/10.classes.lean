def q_chk (own : String) (fl : Nat → Nat × Nat) (ld : Nat → QV) (u : QU) : Bool :=
  u.1.all (fun i => match vwCl[(fl i).1]? with
    | some q => decide ((fl i).2 < q.2.2) && decide (q.1 = (q.2.1 (fl i).2).1) && decide (Cond.fieldLink own i (q.2.1 (fl i).2).1 (q.2.1 (fl i).2).2.1 (q.2.1 (fl i).2).2.2.1 ∈ q_tb)
    | none => false) &&
  u.2.1.all (fun i => match vwCl[(fl i).1]? with
    | some q => !(q.2.1 (fl i).2).2.2.2
    | none => false) &&
  u.2.2.1.all (fun i => match ld i with
    | .inl z => decide (Cond.constant own i (Int32.ofInt z) ∈ q_tb)
    | .inr (.inl z) => decide (Cond.constantLong own i (Int64.ofInt z) ∈ q_tb)
    | _ => false)
theorem q_chkS {own : String} {fl : Nat → Nat × Nat} {ld : Nat → QV} {u : QU} (h : q_chk own fl ld u = true) : q_fok own fl u.1 ∧ q_fokP own fl u.2.1 ∧ q_ldk own ld u.2.2.1 := by
  simp only [q_chk, Bool.and_eq_true, List.all_eq_true] at h
  obtain ⟨⟨h1, h2⟩, h3⟩ := h
  refine ⟨fun i hi => ?_, fun i hi => ?_, fun i hi => ?_⟩
  · have := h1 i hi
    cases hq : vwCl[(fl i).1]? with
    | none => rw [hq] at this; cases this
    | some q =>
      rw [hq] at this
      simp only [Bool.and_eq_true, decide_eq_true_eq] at this
      exact ⟨q, rfl, this.1.1, this.1.2, this.2⟩
  · have := h2 i hi
    cases hq : vwCl[(fl i).1]? with
    | none => rw [hq] at this; cases this
    | some q =>
      rw [hq] at this
      exact ⟨q, rfl, by simpa using this⟩
  · have := h3 i hi
    rcases hq : ld i with z | z | z
    · rw [hq] at this; exact of_decide_eq_true this
    · rw [hq] at this; exact of_decide_eq_true this
    · rw [hq] at this; cases this

def fl_X0 : Nat → Nat × Nat := fun i => match i with
  | 15 => (0, 0)
  | 19 => (0, 1)
  | 22 => (0, 2)
  | _ => (99, 0)
def ld_X0 : Nat → QV := fun i => match i with
  | _ => .inl 0
theorem g_X0_15 {ld : Nat → QV} {Γ : Nat → Nat × QP} {rk : Nat} {Rt : Option QV → QM → Prop} {sk : Nat → Option (List QE)} {S : Nat → QL → List QV → QM → Prop} {n pc nx : Nat} {tg : List (Int × Nat)} {r : List QE} {ls : QL} {st : List QV} {μ : QM} : q_vc fl_X0 ld Γ q_T rk Rt sk S (n + 1) ((.getfield 15, nx, tg) :: r) pc ls (.inr (.inr 1) :: st) μ = q_vc fl_X0 ld Γ q_T rk Rt sk S n r nx ls (.inl (μ 1 0) :: st) μ := propext ⟨fun h => h.2, fun h => ⟨rfl, h⟩⟩
theorem p_X0_15 {ld : Nat → QV} {Γ : Nat → Nat × QP} {rk : Nat} {Rt : Option QV → QM → Prop} {sk : Nat → Option (List QE)} {S : Nat → QL → List QV → QM → Prop} {n pc nx : Nat} {tg : List (Int × Nat)} {r : List QE} {ls : QL} {st : List QV} {μ : QM} {z : Int} : q_vc fl_X0 ld Γ q_T rk Rt sk S (n + 1) ((.putfield 15, nx, tg) :: r) pc ls (.inl z :: .inr (.inr 1) :: st) μ = (q_vc fl_X0 ld Γ q_T rk Rt sk S n r nx ls st (q_up μ 1 0 z)) := propext ⟨fun h => h.2, fun h => ⟨rfl, h⟩⟩
theorem fl_X0_15 : fl_X0 15 = (0, 0) := id rfl
theorem g_X0_19 {ld : Nat → QV} {Γ : Nat → Nat × QP} {rk : Nat} {Rt : Option QV → QM → Prop} {sk : Nat → Option (List QE)} {S : Nat → QL → List QV → QM → Prop} {n pc nx : Nat} {tg : List (Int × Nat)} {r : List QE} {ls : QL} {st : List QV} {μ : QM} : q_vc fl_X0 ld Γ q_T rk Rt sk S (n + 1) ((.getfield 19, nx, tg) :: r) pc ls (.inr (.inr 1) :: st) μ = q_vc fl_X0 ld Γ q_T rk Rt sk S n r nx ls (.inl (μ 1 1) :: st) μ := propext ⟨fun h => h.2, fun h => ⟨rfl, h⟩⟩
theorem p_X0_19 {ld : Nat → QV} {Γ : Nat → Nat × QP} {rk : Nat} {Rt : Option QV → QM → Prop} {sk : Nat → Option (List QE)} {S : Nat → QL → List QV → QM → Prop} {n pc nx : Nat} {tg : List (Int × Nat)} {r : List QE} {ls : QL} {st : List QV} {μ : QM} {z : Int} : q_vc fl_X0 ld Γ q_T rk Rt sk S (n + 1) ((.putfield 19, nx, tg) :: r) pc ls (.inl z :: .inr (.inr 1) :: st) μ = (q_vc fl_X0 ld Γ q_T rk Rt sk S n r nx ls st (q_up μ 1 1 z)) := propext ⟨fun h => h.2, fun h => ⟨rfl, h⟩⟩
theorem fl_X0_19 : fl_X0 19 = (0, 1) := id rfl
theorem g_X0_22 {ld : Nat → QV} {Γ : Nat → Nat × QP} {rk : Nat} {Rt : Option QV → QM → Prop} {sk : Nat → Option (List QE)} {S : Nat → QL → List QV → QM → Prop} {n pc nx : Nat} {tg : List (Int × Nat)} {r : List QE} {ls : QL} {st : List QV} {μ : QM} : q_vc fl_X0 ld Γ q_T rk Rt sk S (n + 1) ((.getfield 22, nx, tg) :: r) pc ls (.inr (.inr 1) :: st) μ = q_vc fl_X0 ld Γ q_T rk Rt sk S n r nx ls (.inl (μ 1 2) :: st) μ := propext ⟨fun h => h.2, fun h => ⟨rfl, h⟩⟩
theorem p_X0_22 {ld : Nat → QV} {Γ : Nat → Nat × QP} {rk : Nat} {Rt : Option QV → QM → Prop} {sk : Nat → Option (List QE)} {S : Nat → QL → List QV → QM → Prop} {n pc nx : Nat} {tg : List (Int × Nat)} {r : List QE} {ls : QL} {st : List QV} {μ : QM} {z : Int} : q_vc fl_X0 ld Γ q_T rk Rt sk S (n + 1) ((.putfield 22, nx, tg) :: r) pc ls (.inl z :: .inr (.inr 1) :: st) μ = (q_vc fl_X0 ld Γ q_T rk Rt sk S n r nx ls st (q_up μ 1 2 z)) := propext ⟨fun h => h.2, fun h => ⟨rfl, h⟩⟩
theorem fl_X0_22 : fl_X0 22 = (0, 2) := id rfl
def fl_X1 : Nat → Nat × Nat := fun i => match i with
  | 12 => (1, 3)
  | 18 => (1, 4)
  | 22 => (1, 5)
  | 25 => (1, 6)
  | 29 => (1, 0)
  | 33 => (1, 1)
  | 37 => (1, 2)
  | 60 => (4, 2)
  | 74 => (4, 0)
  | 77 => (4, 3)
  | 92 => (5, 0)
  | 97 => (4, 4)
  | 117 => (0, 0)
  | 120 => (0, 1)
  | _ => (99, 0)
def ld_X1 : Nat → QV := fun i => match i with
  | 100 => .inl (-2000000000)
  | 145 => .inl (1000000001)
  | _ => .inl 0
theorem ld_X1_100 : ld_X1 100 = .inl (-2000000000) := id rfl
theorem ld_X1_145 : ld_X1 145 = .inl (1000000001) := id rfl
theorem g_X1_12 {ld : Nat → QV} {Γ : Nat → Nat × QP} {rk : Nat} {Rt : Option QV → QM → Prop} {sk : Nat → Option (List QE)} {S : Nat → QL → List QV → QM → Prop} {n pc nx : Nat} {tg : List (Int × Nat)} {r : List QE} {ls : QL} {st : List QV} {μ : QM} : q_vc fl_X1 ld Γ q_T rk Rt sk S (n + 1) ((.getfield 12, nx, tg) :: r) pc ls (.inr (.inr 34) :: st) μ = q_vc fl_X1 ld Γ q_T rk Rt sk S n r nx ls (.inr (.inr 35) :: st) μ := propext ⟨fun h => h.2, fun h => ⟨rfl, h⟩⟩
theorem fl_X1_12 : fl_X1 12 = (1, 3) := id rfl
theorem g_X1_18 {ld : Nat → QV} {Γ : Nat → Nat × QP} {rk : Nat} {Rt : Option QV → QM → Prop} {sk : Nat → Option (List QE)} {S : Nat → QL → List QV → QM → Prop} {n pc nx : Nat} {tg : List (Int × Nat)} {r : List QE} {ls : QL} {st : List QV} {μ : QM} : q_vc fl_X1 ld Γ q_T rk Rt sk S (n + 1) ((.getfield 18, nx, tg) :: r) pc ls (.inr (.inr 34) :: st) μ = q_vc fl_X1 ld Γ q_T rk Rt sk S n r nx ls (.inr (.inr 36) :: st) μ := propext ⟨fun h => h.2, fun h => ⟨rfl, h⟩⟩
theorem fl_X1_18 : fl_X1 18 = (1, 4) := id rfl
theorem g_X1_22 {ld : Nat → QV} {Γ : Nat → Nat × QP} {rk : Nat} {Rt : Option QV → QM → Prop} {sk : Nat → Option (List QE)} {S : Nat → QL → List QV → QM → Prop} {n pc nx : Nat} {tg : List (Int × Nat)} {r : List QE} {ls : QL} {st : List QV} {μ : QM} : q_vc fl_X1 ld Γ q_T rk Rt sk S (n + 1) ((.getfield 22, nx, tg) :: r) pc ls (.inr (.inr 34) :: st) μ = q_vc fl_X1 ld Γ q_T rk Rt sk S n r nx ls (.inr (.inr 37) :: st) μ := propext ⟨fun h => h.2, fun h => ⟨rfl, h⟩⟩
theorem fl_X1_22 : fl_X1 22 = (1, 5) := id rfl
theorem g_X1_25 {ld : Nat → QV} {Γ : Nat → Nat × QP} {rk : Nat} {Rt : Option QV → QM → Prop} {sk : Nat → Option (List QE)} {S : Nat → QL → List QV → QM → Prop} {n pc nx : Nat} {tg : List (Int × Nat)} {r : List QE} {ls : QL} {st : List QV} {μ : QM} : q_vc fl_X1 ld Γ q_T rk Rt sk S (n + 1) ((.getfield 25, nx, tg) :: r) pc ls (.inr (.inr 34) :: st) μ = q_vc fl_X1 ld Γ q_T rk Rt sk S n r nx ls (.inr (.inr 38) :: st) μ := propext ⟨fun h => h.2, fun h => ⟨rfl, h⟩⟩
theorem fl_X1_25 : fl_X1 25 = (1, 6) := id rfl
theorem g_X1_29 {ld : Nat → QV} {Γ : Nat → Nat × QP} {rk : Nat} {Rt : Option QV → QM → Prop} {sk : Nat → Option (List QE)} {S : Nat → QL → List QV → QM → Prop} {n pc nx : Nat} {tg : List (Int × Nat)} {r : List QE} {ls : QL} {st : List QV} {μ : QM} : q_vc fl_X1 ld Γ q_T rk Rt sk S (n + 1) ((.getfield 29, nx, tg) :: r) pc ls (.inr (.inr 34) :: st) μ = q_vc fl_X1 ld Γ q_T rk Rt sk S n r nx ls (.inr (.inr 1) :: st) μ := propext ⟨fun h => h.2, fun h => ⟨rfl, h⟩⟩
theorem fl_X1_29 : fl_X1 29 = (1, 0) := id rfl
theorem g_X1_33 {ld : Nat → QV} {Γ : Nat → Nat × QP} {rk : Nat} {Rt : Option QV → QM → Prop} {sk : Nat → Option (List QE)} {S : Nat → QL → List QV → QM → Prop} {n pc nx : Nat} {tg : List (Int × Nat)} {r : List QE} {ls : QL} {st : List QV} {μ : QM} : q_vc fl_X1 ld Γ q_T rk Rt sk S (n + 1) ((.getfield 33, nx, tg) :: r) pc ls (.inr (.inr 34) :: st) μ = q_vc fl_X1 ld Γ q_T rk Rt sk S n r nx ls (.inr (.inr 2) :: st) μ := propext ⟨fun h => h.2, fun h => ⟨rfl, h⟩⟩
theorem fl_X1_33 : fl_X1 33 = (1, 1) := id rfl
theorem g_X1_37 {ld : Nat → QV} {Γ : Nat → Nat × QP} {rk : Nat} {Rt : Option QV → QM → Prop} {sk : Nat → Option (List QE)} {S : Nat → QL → List QV → QM → Prop} {n pc nx : Nat} {tg : List (Int × Nat)} {r : List QE} {ls : QL} {st : List QV} {μ : QM} : q_vc fl_X1 ld Γ q_T rk Rt sk S (n + 1) ((.getfield 37, nx, tg) :: r) pc ls (.inr (.inr 34) :: st) μ = q_vc fl_X1 ld Γ q_T rk Rt sk S n r nx ls (.inr (.inr 23) :: st) μ := propext ⟨fun h => h.2, fun h => ⟨rfl, h⟩⟩
theorem fl_X1_37 : fl_X1 37 = (1, 2) := id rfl
theorem fl_X1_60 : fl_X1 60 = (4, 2) := id rfl
theorem fl_X1_74 : fl_X1 74 = (4, 0) := id rfl
theorem fl_X1_77 : fl_X1 77 = (4, 3) := id rfl
theorem g_X1_92 {ld : Nat → QV} {Γ : Nat → Nat × QP} {rk : Nat} {Rt : Option QV → QM → Prop} {sk : Nat → Option (List QE)} {S : Nat → QL → List QV → QM → Prop} {n pc nx : Nat} {tg : List (Int × Nat)} {r : List QE} {ls : QL} {st : List QV} {μ : QM} : q_vc fl_X1 ld Γ q_T rk Rt sk S (n + 1) ((.getfield 92, nx, tg) :: r) pc ls (.inr (.inr 2) :: st) μ = q_vc fl_X1 ld Γ q_T rk Rt sk S n r nx ls (.inr (.inr 3) :: st) μ := propext ⟨fun h => h.2, fun h => ⟨rfl, h⟩⟩
theorem fl_X1_92 : fl_X1 92 = (5, 0) := id rfl
theorem fl_X1_97 : fl_X1 97 = (4, 4) := id rfl
theorem g_X1_117 {ld : Nat → QV} {Γ : Nat → Nat × QP} {rk : Nat} {Rt : Option QV → QM → Prop} {sk : Nat → Option (List QE)} {S : Nat → QL → List QV → QM → Prop} {n pc nx : Nat} {tg : List (Int × Nat)} {r : List QE} {ls : QL} {st : List QV} {μ : QM} : q_vc fl_X1 ld Γ q_T rk Rt sk S (n + 1) ((.getfield 117, nx, tg) :: r) pc ls (.inr (.inr 1) :: st) μ = q_vc fl_X1 ld Γ q_T rk Rt sk S n r nx ls (.inl (μ 1 0) :: st) μ := propext ⟨fun h => h.2, fun h => ⟨rfl, h⟩⟩
theorem p_X1_117 {ld : Nat → QV} {Γ : Nat → Nat × QP} {rk : Nat} {Rt : Option QV → QM → Prop} {sk : Nat → Option (List QE)} {S : Nat → QL → List QV → QM → Prop} {n pc nx : Nat} {tg : List (Int × Nat)} {r : List QE} {ls : QL} {st : List QV} {μ : QM} {z : Int} : q_vc fl_X1 ld Γ q_T rk Rt sk S (n + 1) ((.putfield 117, nx, tg) :: r) pc ls (.inl z :: .inr (.inr 1) :: st) μ = (q_vc fl_X1 ld Γ q_T rk Rt sk S n r nx ls st (q_up μ 1 0 z)) := propext ⟨fun h => h.2, fun h => ⟨rfl, h⟩⟩
theorem fl_X1_117 : fl_X1 117 = (0, 0) := id rfl
theorem g_X1_120 {ld : Nat → QV} {Γ : Nat → Nat × QP} {rk : Nat} {Rt : Option QV → QM → Prop} {sk : Nat → Option (List QE)} {S : Nat → QL → List QV → QM → Prop} {n pc nx : Nat} {tg : List (Int × Nat)} {r : List QE} {ls : QL} {st : List QV} {μ : QM} : q_vc fl_X1 ld Γ q_T rk Rt sk S (n + 1) ((.getfield 120, nx, tg) :: r) pc ls (.inr (.inr 1) :: st) μ = q_vc fl_X1 ld Γ q_T rk Rt sk S n r nx ls (.inl (μ 1 1) :: st) μ := propext ⟨fun h => h.2, fun h => ⟨rfl, h⟩⟩
theorem p_X1_120 {ld : Nat → QV} {Γ : Nat → Nat × QP} {rk : Nat} {Rt : Option QV → QM → Prop} {sk : Nat → Option (List QE)} {S : Nat → QL → List QV → QM → Prop} {n pc nx : Nat} {tg : List (Int × Nat)} {r : List QE} {ls : QL} {st : List QV} {μ : QM} {z : Int} : q_vc fl_X1 ld Γ q_T rk Rt sk S (n + 1) ((.putfield 120, nx, tg) :: r) pc ls (.inl z :: .inr (.inr 1) :: st) μ = (q_vc fl_X1 ld Γ q_T rk Rt sk S n r nx ls st (q_up μ 1 1 z)) := propext ⟨fun h => h.2, fun h => ⟨rfl, h⟩⟩
theorem fl_X1_120 : fl_X1 120 = (0, 1) := id rfl
def fl_X2 : Nat → Nat × Nat := fun i => match i with
  | 11 => (2, 0)
  | 17 => (2, 1)
  | 25 => (2, 2)
  | _ => (99, 0)
def ld_X2 : Nat → QV := fun i => match i with
  | _ => .inl 0
theorem fl_X2_11 : fl_X2 11 = (2, 0) := id rfl
theorem fl_X2_17 : fl_X2 17 = (2, 1) := id rfl
theorem fl_X2_25 : fl_X2 25 = (2, 2) := id rfl
def fl_X3 : Nat → Nat × Nat := fun i => match i with
  | 14 => (3, 0)
  | 20 => (3, 1)
  | 60 => (2, 0)
  | 64 => (2, 2)
  | 95 => (4, 3)
  | 101 => (4, 4)
  | _ => (99, 0)
def ld_X3 : Nat → QV := fun i => match i with
  | 104 => .inl (1000000)
  | _ => .inl 0
theorem ld_X3_104 : ld_X3 104 = .inl (1000000) := id rfl
theorem g_X3_14 {ld : Nat → QV} {Γ : Nat → Nat × QP} {rk : Nat} {Rt : Option QV → QM → Prop} {sk : Nat → Option (List QE)} {S : Nat → QL → List QV → QM → Prop} {n pc nx : Nat} {tg : List (Int × Nat)} {r : List QE} {ls : QL} {st : List QV} {μ : QM} : q_vc fl_X3 ld Γ q_T rk Rt sk S (n + 1) ((.getfield 14, nx, tg) :: r) pc ls (.inr (.inr 15) :: st) μ = q_vc fl_X3 ld Γ q_T rk Rt sk S n r nx ls (.inr (.inr 16) :: st) μ := propext ⟨fun h => h.2, fun h => ⟨rfl, h⟩⟩
theorem fl_X3_14 : fl_X3 14 = (3, 0) := id rfl
theorem g_X3_20 {ld : Nat → QV} {Γ : Nat → Nat × QP} {rk : Nat} {Rt : Option QV → QM → Prop} {sk : Nat → Option (List QE)} {S : Nat → QL → List QV → QM → Prop} {n pc nx : Nat} {tg : List (Int × Nat)} {r : List QE} {ls : QL} {st : List QV} {μ : QM} : q_vc fl_X3 ld Γ q_T rk Rt sk S (n + 1) ((.getfield 20, nx, tg) :: r) pc ls (.inr (.inr 15) :: st) μ = q_vc fl_X3 ld Γ q_T rk Rt sk S n r nx ls (.inr (.inr (μ 15 1)) :: st) μ := propext ⟨fun h => h.2, fun h => ⟨rfl, h⟩⟩
theorem p_X3_20 {ld : Nat → QV} {Γ : Nat → Nat × QP} {rk : Nat} {Rt : Option QV → QM → Prop} {sk : Nat → Option (List QE)} {S : Nat → QL → List QV → QM → Prop} {n pc nx : Nat} {tg : List (Int × Nat)} {r : List QE} {ls : QL} {st : List QV} {μ : QM} {z : Int} : q_vc fl_X3 ld Γ q_T rk Rt sk S (n + 1) ((.putfield 20, nx, tg) :: r) pc ls (.inr (.inr z) :: .inr (.inr 15) :: st) μ = (q_vc fl_X3 ld Γ q_T rk Rt sk S n r nx ls st (q_up μ 15 1 z)) := propext ⟨fun h => h.2, fun h => ⟨rfl, h⟩⟩
theorem fl_X3_20 : fl_X3 20 = (3, 1) := id rfl
theorem fl_X3_60 : fl_X3 60 = (2, 0) := id rfl
theorem fl_X3_64 : fl_X3 64 = (2, 2) := id rfl
theorem fl_X3_95 : fl_X3 95 = (4, 3) := id rfl
theorem fl_X3_101 : fl_X3 101 = (4, 4) := id rfl
def fl_X4 : Nat → Nat × Nat := fun i => match i with
  | 9 => (4, 0)
  | 15 => (4, 2)
  | 19 => (4, 1)
  | 22 => (4, 3)
  | 25 => (4, 4)
  | _ => (99, 0)
def ld_X4 : Nat → QV := fun i => match i with
  | _ => .inl 0
theorem fl_X4_9 : fl_X4 9 = (4, 0) := id rfl
theorem fl_X4_15 : fl_X4 15 = (4, 2) := id rfl
theorem fl_X4_19 : fl_X4 19 = (4, 1) := id rfl
theorem fl_X4_22 : fl_X4 22 = (4, 3) := id rfl
theorem fl_X4_25 : fl_X4 25 = (4, 4) := id rfl
def fl_X5 : Nat → Nat × Nat := fun i => match i with
  | 11 => (5, 0)
  | 16 => (5, 1)
  | 19 => (5, 2)
  | _ => (99, 0)
def ld_X5 : Nat → QV := fun i => match i with
  | 26 => .inl (-2000000000)
  | _ => .inl 0
theorem ld_X5_26 : ld_X5 26 = .inl (-2000000000) := id rfl
theorem g_X5_11 {ld : Nat → QV} {Γ : Nat → Nat × QP} {rk : Nat} {Rt : Option QV → QM → Prop} {sk : Nat → Option (List QE)} {S : Nat → QL → List QV → QM → Prop} {n pc nx : Nat} {tg : List (Int × Nat)} {r : List QE} {ls : QL} {st : List QV} {μ : QM} : q_vc fl_X5 ld Γ q_T rk Rt sk S (n + 1) ((.getfield 11, nx, tg) :: r) pc ls (.inr (.inr 2) :: st) μ = q_vc fl_X5 ld Γ q_T rk Rt sk S n r nx ls (.inr (.inr 3) :: st) μ := propext ⟨fun h => h.2, fun h => ⟨rfl, h⟩⟩
theorem fl_X5_11 : fl_X5 11 = (5, 0) := id rfl
theorem g_X5_16 {ld : Nat → QV} {Γ : Nat → Nat × QP} {rk : Nat} {Rt : Option QV → QM → Prop} {sk : Nat → Option (List QE)} {S : Nat → QL → List QV → QM → Prop} {n pc nx : Nat} {tg : List (Int × Nat)} {r : List QE} {ls : QL} {st : List QV} {μ : QM} : q_vc fl_X5 ld Γ q_T rk Rt sk S (n + 1) ((.getfield 16, nx, tg) :: r) pc ls (.inr (.inr 2) :: st) μ = q_vc fl_X5 ld Γ q_T rk Rt sk S n r nx ls (.inr (.inr 8) :: st) μ := propext ⟨fun h => h.2, fun h => ⟨rfl, h⟩⟩
theorem fl_X5_16 : fl_X5 16 = (5, 1) := id rfl
theorem g_X5_19 {ld : Nat → QV} {Γ : Nat → Nat × QP} {rk : Nat} {Rt : Option QV → QM → Prop} {sk : Nat → Option (List QE)} {S : Nat → QL → List QV → QM → Prop} {n pc nx : Nat} {tg : List (Int × Nat)} {r : List QE} {ls : QL} {st : List QV} {μ : QM} : q_vc fl_X5 ld Γ q_T rk Rt sk S (n + 1) ((.getfield 19, nx, tg) :: r) pc ls (.inr (.inr 2) :: st) μ = q_vc fl_X5 ld Γ q_T rk Rt sk S n r nx ls (.inr (.inr 12) :: st) μ := propext ⟨fun h => h.2, fun h => ⟨rfl, h⟩⟩
theorem fl_X5_19 : fl_X5 19 = (5, 2) := id rfl
def fl_X6 : Nat → Nat × Nat := fun i => match i with
  | 9 => (6, 0)
  | 16 => (6, 1)
  | 21 => (6, 2)
  | 24 => (6, 3)
  | _ => (99, 0)
def ld_X6 : Nat → QV := fun i => match i with
  | 15 => .inl (-1000000000)
  | 20 => .inl (1000000000)
  | 27 => .inl (-2000000000)
  | _ => .inl 0
theorem ld_X6_15 : ld_X6 15 = .inl (-1000000000) := id rfl
theorem ld_X6_20 : ld_X6 20 = .inl (1000000000) := id rfl
theorem ld_X6_27 : ld_X6 27 = .inl (-2000000000) := id rfl
theorem g_X6_9 {ld : Nat → QV} {Γ : Nat → Nat × QP} {rk : Nat} {Rt : Option QV → QM → Prop} {sk : Nat → Option (List QE)} {S : Nat → QL → List QV → QM → Prop} {n pc nx : Nat} {tg : List (Int × Nat)} {r : List QE} {ls : QL} {st : List QV} {μ : QM} : q_vc fl_X6 ld Γ q_T rk Rt sk S (n + 1) ((.getfield 9, nx, tg) :: r) pc ls (.inr (.inr 35) :: st) μ = q_vc fl_X6 ld Γ q_T rk Rt sk S n r nx ls (.inr (.inl (μ 35 0)) :: st) μ := propext ⟨fun h => h.2, fun h => ⟨rfl, h⟩⟩
theorem p_X6_9 {ld : Nat → QV} {Γ : Nat → Nat × QP} {rk : Nat} {Rt : Option QV → QM → Prop} {sk : Nat → Option (List QE)} {S : Nat → QL → List QV → QM → Prop} {n pc nx : Nat} {tg : List (Int × Nat)} {r : List QE} {ls : QL} {st : List QV} {μ : QM} {z : Int} : q_vc fl_X6 ld Γ q_T rk Rt sk S (n + 1) ((.putfield 9, nx, tg) :: r) pc ls (.inr (.inl z) :: .inr (.inr 35) :: st) μ = (q_vc fl_X6 ld Γ q_T rk Rt sk S n r nx ls st (q_up μ 35 0 z)) := propext ⟨fun h => h.2, fun h => ⟨rfl, h⟩⟩
theorem fl_X6_9 : fl_X6 9 = (6, 0) := id rfl
theorem g_X6_16 {ld : Nat → QV} {Γ : Nat → Nat × QP} {rk : Nat} {Rt : Option QV → QM → Prop} {sk : Nat → Option (List QE)} {S : Nat → QL → List QV → QM → Prop} {n pc nx : Nat} {tg : List (Int × Nat)} {r : List QE} {ls : QL} {st : List QV} {μ : QM} : q_vc fl_X6 ld Γ q_T rk Rt sk S (n + 1) ((.getfield 16, nx, tg) :: r) pc ls (.inr (.inr 35) :: st) μ = q_vc fl_X6 ld Γ q_T rk Rt sk S n r nx ls (.inl (μ 35 1) :: st) μ := propext ⟨fun h => h.2, fun h => ⟨rfl, h⟩⟩
theorem p_X6_16 {ld : Nat → QV} {Γ : Nat → Nat × QP} {rk : Nat} {Rt : Option QV → QM → Prop} {sk : Nat → Option (List QE)} {S : Nat → QL → List QV → QM → Prop} {n pc nx : Nat} {tg : List (Int × Nat)} {r : List QE} {ls : QL} {st : List QV} {μ : QM} {z : Int} : q_vc fl_X6 ld Γ q_T rk Rt sk S (n + 1) ((.putfield 16, nx, tg) :: r) pc ls (.inl z :: .inr (.inr 35) :: st) μ = (q_vc fl_X6 ld Γ q_T rk Rt sk S n r nx ls st (q_up μ 35 1 z)) := propext ⟨fun h => h.2, fun h => ⟨rfl, h⟩⟩
theorem fl_X6_16 : fl_X6 16 = (6, 1) := id rfl
theorem g_X6_21 {ld : Nat → QV} {Γ : Nat → Nat × QP} {rk : Nat} {Rt : Option QV → QM → Prop} {sk : Nat → Option (List QE)} {S : Nat → QL → List QV → QM → Prop} {n pc nx : Nat} {tg : List (Int × Nat)} {r : List QE} {ls : QL} {st : List QV} {μ : QM} : q_vc fl_X6 ld Γ q_T rk Rt sk S (n + 1) ((.getfield 21, nx, tg) :: r) pc ls (.inr (.inr 35) :: st) μ = q_vc fl_X6 ld Γ q_T rk Rt sk S n r nx ls (.inl (μ 35 2) :: st) μ := propext ⟨fun h => h.2, fun h => ⟨rfl, h⟩⟩
theorem p_X6_21 {ld : Nat → QV} {Γ : Nat → Nat × QP} {rk : Nat} {Rt : Option QV → QM → Prop} {sk : Nat → Option (List QE)} {S : Nat → QL → List QV → QM → Prop} {n pc nx : Nat} {tg : List (Int × Nat)} {r : List QE} {ls : QL} {st : List QV} {μ : QM} {z : Int} : q_vc fl_X6 ld Γ q_T rk Rt sk S (n + 1) ((.putfield 21, nx, tg) :: r) pc ls (.inl z :: .inr (.inr 35) :: st) μ = (q_vc fl_X6 ld Γ q_T rk Rt sk S n r nx ls st (q_up μ 35 2 z)) := propext ⟨fun h => h.2, fun h => ⟨rfl, h⟩⟩
theorem fl_X6_21 : fl_X6 21 = (6, 2) := id rfl
theorem g_X6_24 {ld : Nat → QV} {Γ : Nat → Nat × QP} {rk : Nat} {Rt : Option QV → QM → Prop} {sk : Nat → Option (List QE)} {S : Nat → QL → List QV → QM → Prop} {n pc nx : Nat} {tg : List (Int × Nat)} {r : List QE} {ls : QL} {st : List QV} {μ : QM} : q_vc fl_X6 ld Γ q_T rk Rt sk S (n + 1) ((.getfield 24, nx, tg) :: r) pc ls (.inr (.inr 35) :: st) μ = q_vc fl_X6 ld Γ q_T rk Rt sk S n r nx ls (.inl (μ 35 3) :: st) μ := propext ⟨fun h => h.2, fun h => ⟨rfl, h⟩⟩
theorem p_X6_24 {ld : Nat → QV} {Γ : Nat → Nat × QP} {rk : Nat} {Rt : Option QV → QM → Prop} {sk : Nat → Option (List QE)} {S : Nat → QL → List QV → QM → Prop} {n pc nx : Nat} {tg : List (Int × Nat)} {r : List QE} {ls : QL} {st : List QV} {μ : QM} {z : Int} : q_vc fl_X6 ld Γ q_T rk Rt sk S (n + 1) ((.putfield 24, nx, tg) :: r) pc ls (.inl z :: .inr (.inr 35) :: st) μ = (q_vc fl_X6 ld Γ q_T rk Rt sk S n r nx ls st (q_up μ 35 3 z)) := propext ⟨fun h => h.2, fun h => ⟨rfl, h⟩⟩
theorem fl_X6_24 : fl_X6 24 = (6, 3) := id rfl
def fl_X7 : Nat → Nat × Nat := fun i => match i with
  | 9 => (7, 0)
  | 15 => (7, 1)
  | _ => (99, 0)
def ld_X7 : Nat → QV := fun i => match i with
  | _ => .inl 0
theorem g_X7_9 {ld : Nat → QV} {Γ : Nat → Nat × QP} {rk : Nat} {Rt : Option QV → QM → Prop} {sk : Nat → Option (List QE)} {S : Nat → QL → List QV → QM → Prop} {n pc nx : Nat} {tg : List (Int × Nat)} {r : List QE} {ls : QL} {st : List QV} {μ : QM} : q_vc fl_X7 ld Γ q_T rk Rt sk S (n + 1) ((.getfield 9, nx, tg) :: r) pc ls (.inr (.inr 13) :: st) μ = q_vc fl_X7 ld Γ q_T rk Rt sk S n r nx ls (.inr (.inr 14) :: st) μ := propext ⟨fun h => h.2, fun h => ⟨rfl, h⟩⟩
theorem fl_X7_9 : fl_X7 9 = (7, 0) := id rfl
theorem g_X7_15 {ld : Nat → QV} {Γ : Nat → Nat × QP} {rk : Nat} {Rt : Option QV → QM → Prop} {sk : Nat → Option (List QE)} {S : Nat → QL → List QV → QM → Prop} {n pc nx : Nat} {tg : List (Int × Nat)} {r : List QE} {ls : QL} {st : List QV} {μ : QM} : q_vc fl_X7 ld Γ q_T rk Rt sk S (n + 1) ((.getfield 15, nx, tg) :: r) pc ls (.inr (.inr 13) :: st) μ = q_vc fl_X7 ld Γ q_T rk Rt sk S n r nx ls (.inl (μ 13 1) :: st) μ := propext ⟨fun h => h.2, fun h => ⟨rfl, h⟩⟩
theorem p_X7_15 {ld : Nat → QV} {Γ : Nat → Nat × QP} {rk : Nat} {Rt : Option QV → QM → Prop} {sk : Nat → Option (List QE)} {S : Nat → QL → List QV → QM → Prop} {n pc nx : Nat} {tg : List (Int × Nat)} {r : List QE} {ls : QL} {st : List QV} {μ : QM} {z : Int} : q_vc fl_X7 ld Γ q_T rk Rt sk S (n + 1) ((.putfield 15, nx, tg) :: r) pc ls (.inl z :: .inr (.inr 13) :: st) μ = (q_vc fl_X7 ld Γ q_T rk Rt sk S n r nx ls st (q_up μ 13 1 z)) := propext ⟨fun h => h.2, fun h => ⟨rfl, h⟩⟩
theorem fl_X7_15 : fl_X7 15 = (7, 1) := id rfl
def fl_X8 : Nat → Nat × Nat := fun i => match i with
  | 9 => (8, 1)
  | 15 => (8, 2)
  | 18 => (8, 3)
  | 21 => (8, 0)
  | 25 => (8, 5)
  | 29 => (8, 4)
  | 32 => (7, 1)
  | _ => (99, 0)
def ld_X8 : Nat → QV := fun i => match i with
  | 71 => .inl (1000001)
  | 86 => .inr (.inr (1000))
  | 88 => .inr (.inr (1001))
  | 90 => .inr (.inr (1002))
  | 92 => .inr (.inr (1003))
  | 94 => .inr (.inr (1004))
  | 96 => .inr (.inr (1005))
  | 98 => .inr (.inr (1006))
  | 100 => .inr (.inr (1007))
  | 102 => .inr (.inr (1008))
  | 104 => .inr (.inr (1009))
  | 106 => .inr (.inr (1010))
  | 108 => .inr (.inr (1011))
  | 110 => .inr (.inr (1012))
  | 112 => .inr (.inr (1013))
  | 114 => .inr (.inr (1014))
  | 116 => .inr (.inr (1015))
  | _ => .inl 0
theorem ld_X8_71 : ld_X8 71 = .inl (1000001) := id rfl
theorem ld_X8_86 : ld_X8 86 = .inr (.inr (1000)) := id rfl
theorem ld_X8_88 : ld_X8 88 = .inr (.inr (1001)) := id rfl
theorem ld_X8_90 : ld_X8 90 = .inr (.inr (1002)) := id rfl
theorem ld_X8_92 : ld_X8 92 = .inr (.inr (1003)) := id rfl
theorem ld_X8_94 : ld_X8 94 = .inr (.inr (1004)) := id rfl
theorem ld_X8_96 : ld_X8 96 = .inr (.inr (1005)) := id rfl
theorem ld_X8_98 : ld_X8 98 = .inr (.inr (1006)) := id rfl
theorem ld_X8_100 : ld_X8 100 = .inr (.inr (1007)) := id rfl
theorem ld_X8_102 : ld_X8 102 = .inr (.inr (1008)) := id rfl
theorem ld_X8_104 : ld_X8 104 = .inr (.inr (1009)) := id rfl
theorem ld_X8_106 : ld_X8 106 = .inr (.inr (1010)) := id rfl
theorem ld_X8_108 : ld_X8 108 = .inr (.inr (1011)) := id rfl
theorem ld_X8_110 : ld_X8 110 = .inr (.inr (1012)) := id rfl
theorem ld_X8_112 : ld_X8 112 = .inr (.inr (1013)) := id rfl
theorem ld_X8_114 : ld_X8 114 = .inr (.inr (1014)) := id rfl
theorem ld_X8_116 : ld_X8 116 = .inr (.inr (1015)) := id rfl
theorem g_X8_9 {ld : Nat → QV} {Γ : Nat → Nat × QP} {rk : Nat} {Rt : Option QV → QM → Prop} {sk : Nat → Option (List QE)} {S : Nat → QL → List QV → QM → Prop} {n pc nx : Nat} {tg : List (Int × Nat)} {r : List QE} {ls : QL} {st : List QV} {μ : QM} : q_vc fl_X8 ld Γ q_T rk Rt sk S (n + 1) ((.getfield 9, nx, tg) :: r) pc ls (.inr (.inr 16) :: st) μ = q_vc fl_X8 ld Γ q_T rk Rt sk S n r nx ls (.inr (.inr 17) :: st) μ := propext ⟨fun h => h.2, fun h => ⟨rfl, h⟩⟩
theorem fl_X8_9 : fl_X8 9 = (8, 1) := id rfl
theorem g_X8_15 {ld : Nat → QV} {Γ : Nat → Nat × QP} {rk : Nat} {Rt : Option QV → QM → Prop} {sk : Nat → Option (List QE)} {S : Nat → QL → List QV → QM → Prop} {n pc nx : Nat} {tg : List (Int × Nat)} {r : List QE} {ls : QL} {st : List QV} {μ : QM} : q_vc fl_X8 ld Γ q_T rk Rt sk S (n + 1) ((.getfield 15, nx, tg) :: r) pc ls (.inr (.inr 16) :: st) μ = q_vc fl_X8 ld Γ q_T rk Rt sk S n r nx ls (.inr (.inr 18) :: st) μ := propext ⟨fun h => h.2, fun h => ⟨rfl, h⟩⟩
theorem fl_X8_15 : fl_X8 15 = (8, 2) := id rfl
theorem g_X8_18 {ld : Nat → QV} {Γ : Nat → Nat × QP} {rk : Nat} {Rt : Option QV → QM → Prop} {sk : Nat → Option (List QE)} {S : Nat → QL → List QV → QM → Prop} {n pc nx : Nat} {tg : List (Int × Nat)} {r : List QE} {ls : QL} {st : List QV} {μ : QM} : q_vc fl_X8 ld Γ q_T rk Rt sk S (n + 1) ((.getfield 18, nx, tg) :: r) pc ls (.inr (.inr 16) :: st) μ = q_vc fl_X8 ld Γ q_T rk Rt sk S n r nx ls (.inr (.inr 19) :: st) μ := propext ⟨fun h => h.2, fun h => ⟨rfl, h⟩⟩
theorem fl_X8_18 : fl_X8 18 = (8, 3) := id rfl
theorem g_X8_21 {ld : Nat → QV} {Γ : Nat → Nat × QP} {rk : Nat} {Rt : Option QV → QM → Prop} {sk : Nat → Option (List QE)} {S : Nat → QL → List QV → QM → Prop} {n pc nx : Nat} {tg : List (Int × Nat)} {r : List QE} {ls : QL} {st : List QV} {μ : QM} : q_vc fl_X8 ld Γ q_T rk Rt sk S (n + 1) ((.getfield 21, nx, tg) :: r) pc ls (.inr (.inr 16) :: st) μ = q_vc fl_X8 ld Γ q_T rk Rt sk S n r nx ls (.inr (.inr 13) :: st) μ := propext ⟨fun h => h.2, fun h => ⟨rfl, h⟩⟩
theorem fl_X8_21 : fl_X8 21 = (8, 0) := id rfl
theorem g_X8_25 {ld : Nat → QV} {Γ : Nat → Nat × QP} {rk : Nat} {Rt : Option QV → QM → Prop} {sk : Nat → Option (List QE)} {S : Nat → QL → List QV → QM → Prop} {n pc nx : Nat} {tg : List (Int × Nat)} {r : List QE} {ls : QL} {st : List QV} {μ : QM} : q_vc fl_X8 ld Γ q_T rk Rt sk S (n + 1) ((.getfield 25, nx, tg) :: r) pc ls (.inr (.inr 16) :: st) μ = q_vc fl_X8 ld Γ q_T rk Rt sk S n r nx ls (.inl (μ 16 5) :: st) μ := propext ⟨fun h => h.2, fun h => ⟨rfl, h⟩⟩
theorem p_X8_25 {ld : Nat → QV} {Γ : Nat → Nat × QP} {rk : Nat} {Rt : Option QV → QM → Prop} {sk : Nat → Option (List QE)} {S : Nat → QL → List QV → QM → Prop} {n pc nx : Nat} {tg : List (Int × Nat)} {r : List QE} {ls : QL} {st : List QV} {μ : QM} {z : Int} : q_vc fl_X8 ld Γ q_T rk Rt sk S (n + 1) ((.putfield 25, nx, tg) :: r) pc ls (.inl z :: .inr (.inr 16) :: st) μ = (q_vc fl_X8 ld Γ q_T rk Rt sk S n r nx ls st (q_up μ 16 5 z)) := propext ⟨fun h => h.2, fun h => ⟨rfl, h⟩⟩
theorem fl_X8_25 : fl_X8 25 = (8, 5) := id rfl
theorem g_X8_29 {ld : Nat → QV} {Γ : Nat → Nat × QP} {rk : Nat} {Rt : Option QV → QM → Prop} {sk : Nat → Option (List QE)} {S : Nat → QL → List QV → QM → Prop} {n pc nx : Nat} {tg : List (Int × Nat)} {r : List QE} {ls : QL} {st : List QV} {μ : QM} : q_vc fl_X8 ld Γ q_T rk Rt sk S (n + 1) ((.getfield 29, nx, tg) :: r) pc ls (.inr (.inr 16) :: st) μ = q_vc fl_X8 ld Γ q_T rk Rt sk S n r nx ls (.inl (μ 16 4) :: st) μ := propext ⟨fun h => h.2, fun h => ⟨rfl, h⟩⟩
theorem p_X8_29 {ld : Nat → QV} {Γ : Nat → Nat × QP} {rk : Nat} {Rt : Option QV → QM → Prop} {sk : Nat → Option (List QE)} {S : Nat → QL → List QV → QM → Prop} {n pc nx : Nat} {tg : List (Int × Nat)} {r : List QE} {ls : QL} {st : List QV} {μ : QM} {z : Int} : q_vc fl_X8 ld Γ q_T rk Rt sk S (n + 1) ((.putfield 29, nx, tg) :: r) pc ls (.inl z :: .inr (.inr 16) :: st) μ = (q_vc fl_X8 ld Γ q_T rk Rt sk S n r nx ls st (q_up μ 16 4 z)) := propext ⟨fun h => h.2, fun h => ⟨rfl, h⟩⟩
theorem fl_X8_29 : fl_X8 29 = (8, 4) := id rfl
theorem g_X8_32 {ld : Nat → QV} {Γ : Nat → Nat × QP} {rk : Nat} {Rt : Option QV → QM → Prop} {sk : Nat → Option (List QE)} {S : Nat → QL → List QV → QM → Prop} {n pc nx : Nat} {tg : List (Int × Nat)} {r : List QE} {ls : QL} {st : List QV} {μ : QM} : q_vc fl_X8 ld Γ q_T rk Rt sk S (n + 1) ((.getfield 32, nx, tg) :: r) pc ls (.inr (.inr 13) :: st) μ = q_vc fl_X8 ld Γ q_T rk Rt sk S n r nx ls (.inl (μ 13 1) :: st) μ := propext ⟨fun h => h.2, fun h => ⟨rfl, h⟩⟩
theorem p_X8_32 {ld : Nat → QV} {Γ : Nat → Nat × QP} {rk : Nat} {Rt : Option QV → QM → Prop} {sk : Nat → Option (List QE)} {S : Nat → QL → List QV → QM → Prop} {n pc nx : Nat} {tg : List (Int × Nat)} {r : List QE} {ls : QL} {st : List QV} {μ : QM} {z : Int} : q_vc fl_X8 ld Γ q_T rk Rt sk S (n + 1) ((.putfield 32, nx, tg) :: r) pc ls (.inl z :: .inr (.inr 13) :: st) μ = (q_vc fl_X8 ld Γ q_T rk Rt sk S n r nx ls st (q_up μ 13 1 z)) := propext ⟨fun h => h.2, fun h => ⟨rfl, h⟩⟩
theorem fl_X8_32 : fl_X8 32 = (7, 1) := id rfl
def fl_X9 : Nat → Nat × Nat := fun i => match i with
  | 9 => (9, 2)
  | 15 => (9, 3)
  | 20 => (9, 4)
  | 23 => (9, 0)
  | 27 => (9, 5)
  | 36 => (9, 1)
  | 67 => (2, 0)
  | 73 => (4, 2)
  | 79 => (4, 4)
  | 82 => (2, 2)
  | 89 => (4, 1)
  | 92 => (4, 0)
  | 103 => (0, 2)
  | 119 => (9, 6)
  | _ => (99, 0)
def ld_X9 : Nat → QV := fun i => match i with
  | 49 => .inl (-2000000000)
  | _ => .inl 0
theorem ld_X9_49 : ld_X9 49 = .inl (-2000000000) := id rfl
theorem g_X9_9 {ld : Nat → QV} {Γ : Nat → Nat × QP} {rk : Nat} {Rt : Option QV → QM → Prop} {sk : Nat → Option (List QE)} {S : Nat → QL → List QV → QM → Prop} {n pc nx : Nat} {tg : List (Int × Nat)} {r : List QE} {ls : QL} {st : List QV} {μ : QM} : q_vc fl_X9 ld Γ q_T rk Rt sk S (n + 1) ((.getfield 9, nx, tg) :: r) pc ls (.inr (.inr 20) :: st) μ = q_vc fl_X9 ld Γ q_T rk Rt sk S n r nx ls (.inr (.inr 21) :: st) μ := propext ⟨fun h => h.2, fun h => ⟨rfl, h⟩⟩
theorem fl_X9_9 : fl_X9 9 = (9, 2) := id rfl
theorem g_X9_15 {ld : Nat → QV} {Γ : Nat → Nat × QP} {rk : Nat} {Rt : Option QV → QM → Prop} {sk : Nat → Option (List QE)} {S : Nat → QL → List QV → QM → Prop} {n pc nx : Nat} {tg : List (Int × Nat)} {r : List QE} {ls : QL} {st : List QV} {μ : QM} : q_vc fl_X9 ld Γ q_T rk Rt sk S (n + 1) ((.getfield 15, nx, tg) :: r) pc ls (.inr (.inr 20) :: st) μ = q_vc fl_X9 ld Γ q_T rk Rt sk S n r nx ls (.inr (.inr 22) :: st) μ := propext ⟨fun h => h.2, fun h => ⟨rfl, h⟩⟩
theorem fl_X9_15 : fl_X9 15 = (9, 3) := id rfl
theorem g_X9_20 {ld : Nat → QV} {Γ : Nat → Nat × QP} {rk : Nat} {Rt : Option QV → QM → Prop} {sk : Nat → Option (List QE)} {S : Nat → QL → List QV → QM → Prop} {n pc nx : Nat} {tg : List (Int × Nat)} {r : List QE} {ls : QL} {st : List QV} {μ : QM} : q_vc fl_X9 ld Γ q_T rk Rt sk S (n + 1) ((.getfield 20, nx, tg) :: r) pc ls (.inr (.inr 20) :: st) μ = q_vc fl_X9 ld Γ q_T rk Rt sk S n r nx ls (.inr (.inr 23) :: st) μ := propext ⟨fun h => h.2, fun h => ⟨rfl, h⟩⟩
theorem fl_X9_20 : fl_X9 20 = (9, 4) := id rfl
theorem g_X9_23 {ld : Nat → QV} {Γ : Nat → Nat × QP} {rk : Nat} {Rt : Option QV → QM → Prop} {sk : Nat → Option (List QE)} {S : Nat → QL → List QV → QM → Prop} {n pc nx : Nat} {tg : List (Int × Nat)} {r : List QE} {ls : QL} {st : List QV} {μ : QM} : q_vc fl_X9 ld Γ q_T rk Rt sk S (n + 1) ((.getfield 23, nx, tg) :: r) pc ls (.inr (.inr 20) :: st) μ = q_vc fl_X9 ld Γ q_T rk Rt sk S n r nx ls (.inr (.inr 1) :: st) μ := propext ⟨fun h => h.2, fun h => ⟨rfl, h⟩⟩
theorem fl_X9_23 : fl_X9 23 = (9, 0) := id rfl
theorem g_X9_27 {ld : Nat → QV} {Γ : Nat → Nat × QP} {rk : Nat} {Rt : Option QV → QM → Prop} {sk : Nat → Option (List QE)} {S : Nat → QL → List QV → QM → Prop} {n pc nx : Nat} {tg : List (Int × Nat)} {r : List QE} {ls : QL} {st : List QV} {μ : QM} : q_vc fl_X9 ld Γ q_T rk Rt sk S (n + 1) ((.getfield 27, nx, tg) :: r) pc ls (.inr (.inr 20) :: st) μ = q_vc fl_X9 ld Γ q_T rk Rt sk S n r nx ls (.inr (.inr (μ 20 5)) :: st) μ := propext ⟨fun h => h.2, fun h => ⟨rfl, h⟩⟩
theorem p_X9_27 {ld : Nat → QV} {Γ : Nat → Nat × QP} {rk : Nat} {Rt : Option QV → QM → Prop} {sk : Nat → Option (List QE)} {S : Nat → QL → List QV → QM → Prop} {n pc nx : Nat} {tg : List (Int × Nat)} {r : List QE} {ls : QL} {st : List QV} {μ : QM} {z : Int} : q_vc fl_X9 ld Γ q_T rk Rt sk S (n + 1) ((.putfield 27, nx, tg) :: r) pc ls (.inr (.inr z) :: .inr (.inr 20) :: st) μ = (q_vc fl_X9 ld Γ q_T rk Rt sk S n r nx ls st (q_up μ 20 5 z)) := propext ⟨fun h => h.2, fun h => ⟨rfl, h⟩⟩
theorem fl_X9_27 : fl_X9 27 = (9, 5) := id rfl
theorem g_X9_36 {ld : Nat → QV} {Γ : Nat → Nat × QP} {rk : Nat} {Rt : Option QV → QM → Prop} {sk : Nat → Option (List QE)} {S : Nat → QL → List QV → QM → Prop} {n pc nx : Nat} {tg : List (Int × Nat)} {r : List QE} {ls : QL} {st : List QV} {μ : QM} : q_vc fl_X9 ld Γ q_T rk Rt sk S (n + 1) ((.getfield 36, nx, tg) :: r) pc ls (.inr (.inr 20) :: st) μ = q_vc fl_X9 ld Γ q_T rk Rt sk S n r nx ls (.inr (.inr 34) :: st) μ := propext ⟨fun h => h.2, fun h => ⟨rfl, h⟩⟩
theorem fl_X9_36 : fl_X9 36 = (9, 1) := id rfl
theorem fl_X9_67 : fl_X9 67 = (2, 0) := id rfl
theorem fl_X9_73 : fl_X9 73 = (4, 2) := id rfl
theorem fl_X9_79 : fl_X9 79 = (4, 4) := id rfl
theorem fl_X9_82 : fl_X9 82 = (2, 2) := id rfl
theorem fl_X9_89 : fl_X9 89 = (4, 1) := id rfl
theorem fl_X9_92 : fl_X9 92 = (4, 0) := id rfl
theorem g_X9_103 {ld : Nat → QV} {Γ : Nat → Nat × QP} {rk : Nat} {Rt : Option QV → QM → Prop} {sk : Nat → Option (List QE)} {S : Nat → QL → List QV → QM → Prop} {n pc nx : Nat} {tg : List (Int × Nat)} {r : List QE} {ls : QL} {st : List QV} {μ : QM} : q_vc fl_X9 ld Γ q_T rk Rt sk S (n + 1) ((.getfield 103, nx, tg) :: r) pc ls (.inr (.inr 1) :: st) μ = q_vc fl_X9 ld Γ q_T rk Rt sk S n r nx ls (.inl (μ 1 2) :: st) μ := propext ⟨fun h => h.2, fun h => ⟨rfl, h⟩⟩
theorem p_X9_103 {ld : Nat → QV} {Γ : Nat → Nat × QP} {rk : Nat} {Rt : Option QV → QM → Prop} {sk : Nat → Option (List QE)} {S : Nat → QL → List QV → QM → Prop} {n pc nx : Nat} {tg : List (Int × Nat)} {r : List QE} {ls : QL} {st : List QV} {μ : QM} {z : Int} : q_vc fl_X9 ld Γ q_T rk Rt sk S (n + 1) ((.putfield 103, nx, tg) :: r) pc ls (.inl z :: .inr (.inr 1) :: st) μ = (q_vc fl_X9 ld Γ q_T rk Rt sk S n r nx ls st (q_up μ 1 2 z)) := propext ⟨fun h => h.2, fun h => ⟨rfl, h⟩⟩
theorem fl_X9_103 : fl_X9 103 = (0, 2) := id rfl
theorem g_X9_119 {ld : Nat → QV} {Γ : Nat → Nat × QP} {rk : Nat} {Rt : Option QV → QM → Prop} {sk : Nat → Option (List QE)} {S : Nat → QL → List QV → QM → Prop} {n pc nx : Nat} {tg : List (Int × Nat)} {r : List QE} {ls : QL} {st : List QV} {μ : QM} : q_vc fl_X9 ld Γ q_T rk Rt sk S (n + 1) ((.getfield 119, nx, tg) :: r) pc ls (.inr (.inr 20) :: st) μ = q_vc fl_X9 ld Γ q_T rk Rt sk S n r nx ls (.inl (μ 20 6) :: st) μ := propext ⟨fun h => h.2, fun h => ⟨rfl, h⟩⟩
theorem p_X9_119 {ld : Nat → QV} {Γ : Nat → Nat × QP} {rk : Nat} {Rt : Option QV → QM → Prop} {sk : Nat → Option (List QE)} {S : Nat → QL → List QV → QM → Prop} {n pc nx : Nat} {tg : List (Int × Nat)} {r : List QE} {ls : QL} {st : List QV} {μ : QM} {z : Int} : q_vc fl_X9 ld Γ q_T rk Rt sk S (n + 1) ((.putfield 119, nx, tg) :: r) pc ls (.inl z :: .inr (.inr 20) :: st) μ = (q_vc fl_X9 ld Γ q_T rk Rt sk S n r nx ls st (q_up μ 20 6 z)) := propext ⟨fun h => h.2, fun h => ⟨rfl, h⟩⟩
theorem fl_X9_119 : fl_X9 119 = (9, 6) := id rfl
def fl_X10 : Nat → Nat × Nat := fun i => match i with
  | 12 => (10, 0)
  | 19 => (10, 1)
  | 26 => (10, 2)
  | 33 => (10, 5)
  | 37 => (10, 6)
  | 45 => (10, 3)
  | 54 => (10, 4)
  | 58 => (10, 7)
  | 62 => (10, 8)
  | 103 => (5, 0)
  | 114 => (7, 1)
  | 125 => (2, 2)
  | 135 => (9, 4)
  | 148 => (9, 6)
  | 157 => (5, 2)
  | 164 => (0, 0)
  | 167 => (0, 1)
  | 170 => (0, 2)
  | 185 => (5, 1)
  | _ => (99, 0)
def ld_X10 : Nat → QV := fun i => match i with
  | 102 => .inl (-2000000000)
  | 188 => .inl (-1000000)
  | 189 => .inl (1000000)
  | 190 => .inr (.inl (-1000000000))
  | 192 => .inr (.inl (1000000000))
  | _ => .inl 0
theorem ld_X10_102 : ld_X10 102 = .inl (-2000000000) := id rfl
theorem ld_X10_188 : ld_X10 188 = .inl (-1000000) := id rfl
theorem ld_X10_189 : ld_X10 189 = .inl (1000000) := id rfl
theorem ld_X10_190 : ld_X10 190 = .inr (.inl (-1000000000)) := id rfl
theorem ld_X10_192 : ld_X10 192 = .inr (.inl (1000000000)) := id rfl
theorem g_X10_12 {ld : Nat → QV} {Γ : Nat → Nat × QP} {rk : Nat} {Rt : Option QV → QM → Prop} {sk : Nat → Option (List QE)} {S : Nat → QL → List QV → QM → Prop} {n pc nx : Nat} {tg : List (Int × Nat)} {r : List QE} {ls : QL} {st : List QV} {μ : QM} : q_vc fl_X10 ld Γ q_T rk Rt sk S (n + 1) ((.getfield 12, nx, tg) :: r) pc ls (.inr (.inr 0) :: st) μ = q_vc fl_X10 ld Γ q_T rk Rt sk S n r nx ls (.inr (.inr 1) :: st) μ := propext ⟨fun h => h.2, fun h => ⟨rfl, h⟩⟩
theorem fl_X10_12 : fl_X10 12 = (10, 0) := id rfl
theorem g_X10_19 {ld : Nat → QV} {Γ : Nat → Nat × QP} {rk : Nat} {Rt : Option QV → QM → Prop} {sk : Nat → Option (List QE)} {S : Nat → QL → List QV → QM → Prop} {n pc nx : Nat} {tg : List (Int × Nat)} {r : List QE} {ls : QL} {st : List QV} {μ : QM} : q_vc fl_X10 ld Γ q_T rk Rt sk S (n + 1) ((.getfield 19, nx, tg) :: r) pc ls (.inr (.inr 0) :: st) μ = q_vc fl_X10 ld Γ q_T rk Rt sk S n r nx ls (.inr (.inr 2) :: st) μ := propext ⟨fun h => h.2, fun h => ⟨rfl, h⟩⟩
theorem fl_X10_19 : fl_X10 19 = (10, 1) := id rfl
theorem g_X10_26 {ld : Nat → QV} {Γ : Nat → Nat × QP} {rk : Nat} {Rt : Option QV → QM → Prop} {sk : Nat → Option (List QE)} {S : Nat → QL → List QV → QM → Prop} {n pc nx : Nat} {tg : List (Int × Nat)} {r : List QE} {ls : QL} {st : List QV} {μ : QM} : q_vc fl_X10 ld Γ q_T rk Rt sk S (n + 1) ((.getfield 26, nx, tg) :: r) pc ls (.inr (.inr 0) :: st) μ = q_vc fl_X10 ld Γ q_T rk Rt sk S n r nx ls (.inr (.inr 13) :: st) μ := propext ⟨fun h => h.2, fun h => ⟨rfl, h⟩⟩
theorem fl_X10_26 : fl_X10 26 = (10, 2) := id rfl
theorem g_X10_33 {ld : Nat → QV} {Γ : Nat → Nat × QP} {rk : Nat} {Rt : Option QV → QM → Prop} {sk : Nat → Option (List QE)} {S : Nat → QL → List QV → QM → Prop} {n pc nx : Nat} {tg : List (Int × Nat)} {r : List QE} {ls : QL} {st : List QV} {μ : QM} : q_vc fl_X10 ld Γ q_T rk Rt sk S (n + 1) ((.getfield 33, nx, tg) :: r) pc ls (.inr (.inr 0) :: st) μ = q_vc fl_X10 ld Γ q_T rk Rt sk S n r nx ls (.inr (.inr (μ 0 5)) :: st) μ := propext ⟨fun h => h.2, fun h => ⟨rfl, h⟩⟩
theorem p_X10_33 {ld : Nat → QV} {Γ : Nat → Nat × QP} {rk : Nat} {Rt : Option QV → QM → Prop} {sk : Nat → Option (List QE)} {S : Nat → QL → List QV → QM → Prop} {n pc nx : Nat} {tg : List (Int × Nat)} {r : List QE} {ls : QL} {st : List QV} {μ : QM} {z : Int} : q_vc fl_X10 ld Γ q_T rk Rt sk S (n + 1) ((.putfield 33, nx, tg) :: r) pc ls (.inr (.inr z) :: .inr (.inr 0) :: st) μ = (q_vc fl_X10 ld Γ q_T rk Rt sk S n r nx ls st (q_up μ 0 5 z)) := propext ⟨fun h => h.2, fun h => ⟨rfl, h⟩⟩
theorem fl_X10_33 : fl_X10 33 = (10, 5) := id rfl
theorem g_X10_37 {ld : Nat → QV} {Γ : Nat → Nat × QP} {rk : Nat} {Rt : Option QV → QM → Prop} {sk : Nat → Option (List QE)} {S : Nat → QL → List QV → QM → Prop} {n pc nx : Nat} {tg : List (Int × Nat)} {r : List QE} {ls : QL} {st : List QV} {μ : QM} : q_vc fl_X10 ld Γ q_T rk Rt sk S (n + 1) ((.getfield 37, nx, tg) :: r) pc ls (.inr (.inr 0) :: st) μ = q_vc fl_X10 ld Γ q_T rk Rt sk S n r nx ls (.inr (.inr (μ 0 6)) :: st) μ := propext ⟨fun h => h.2, fun h => ⟨rfl, h⟩⟩
theorem p_X10_37 {ld : Nat → QV} {Γ : Nat → Nat × QP} {rk : Nat} {Rt : Option QV → QM → Prop} {sk : Nat → Option (List QE)} {S : Nat → QL → List QV → QM → Prop} {n pc nx : Nat} {tg : List (Int × Nat)} {r : List QE} {ls : QL} {st : List QV} {μ : QM} {z : Int} : q_vc fl_X10 ld Γ q_T rk Rt sk S (n + 1) ((.putfield 37, nx, tg) :: r) pc ls (.inr (.inr z) :: .inr (.inr 0) :: st) μ = (q_vc fl_X10 ld Γ q_T rk Rt sk S n r nx ls st (q_up μ 0 6 z)) := propext ⟨fun h => h.2, fun h => ⟨rfl, h⟩⟩
theorem fl_X10_37 : fl_X10 37 = (10, 6) := id rfl
theorem g_X10_45 {ld : Nat → QV} {Γ : Nat → Nat × QP} {rk : Nat} {Rt : Option QV → QM → Prop} {sk : Nat → Option (List QE)} {S : Nat → QL → List QV → QM → Prop} {n pc nx : Nat} {tg : List (Int × Nat)} {r : List QE} {ls : QL} {st : List QV} {μ : QM} : q_vc fl_X10 ld Γ q_T rk Rt sk S (n + 1) ((.getfield 45, nx, tg) :: r) pc ls (.inr (.inr 0) :: st) μ = q_vc fl_X10 ld Γ q_T rk Rt sk S n r nx ls (.inr (.inr 15) :: st) μ := propext ⟨fun h => h.2, fun h => ⟨rfl, h⟩⟩
theorem fl_X10_45 : fl_X10 45 = (10, 3) := id rfl
theorem g_X10_54 {ld : Nat → QV} {Γ : Nat → Nat × QP} {rk : Nat} {Rt : Option QV → QM → Prop} {sk : Nat → Option (List QE)} {S : Nat → QL → List QV → QM → Prop} {n pc nx : Nat} {tg : List (Int × Nat)} {r : List QE} {ls : QL} {st : List QV} {μ : QM} : q_vc fl_X10 ld Γ q_T rk Rt sk S (n + 1) ((.getfield 54, nx, tg) :: r) pc ls (.inr (.inr 0) :: st) μ = q_vc fl_X10 ld Γ q_T rk Rt sk S n r nx ls (.inr (.inr 20) :: st) μ := propext ⟨fun h => h.2, fun h => ⟨rfl, h⟩⟩
theorem fl_X10_54 : fl_X10 54 = (10, 4) := id rfl
theorem g_X10_58 {ld : Nat → QV} {Γ : Nat → Nat × QP} {rk : Nat} {Rt : Option QV → QM → Prop} {sk : Nat → Option (List QE)} {S : Nat → QL → List QV → QM → Prop} {n pc nx : Nat} {tg : List (Int × Nat)} {r : List QE} {ls : QL} {st : List QV} {μ : QM} : q_vc fl_X10 ld Γ q_T rk Rt sk S (n + 1) ((.getfield 58, nx, tg) :: r) pc ls (.inr (.inr 0) :: st) μ = q_vc fl_X10 ld Γ q_T rk Rt sk S n r nx ls (.inl (μ 0 7) :: st) μ := propext ⟨fun h => h.2, fun h => ⟨rfl, h⟩⟩
theorem p_X10_58 {ld : Nat → QV} {Γ : Nat → Nat × QP} {rk : Nat} {Rt : Option QV → QM → Prop} {sk : Nat → Option (List QE)} {S : Nat → QL → List QV → QM → Prop} {n pc nx : Nat} {tg : List (Int × Nat)} {r : List QE} {ls : QL} {st : List QV} {μ : QM} {z : Int} : q_vc fl_X10 ld Γ q_T rk Rt sk S (n + 1) ((.putfield 58, nx, tg) :: r) pc ls (.inl z :: .inr (.inr 0) :: st) μ = (q_vc fl_X10 ld Γ q_T rk Rt sk S n r nx ls st (q_up μ 0 7 z)) := propext ⟨fun h => h.2, fun h => ⟨rfl, h⟩⟩
theorem fl_X10_58 : fl_X10 58 = (10, 7) := id rfl
theorem g_X10_62 {ld : Nat → QV} {Γ : Nat → Nat × QP} {rk : Nat} {Rt : Option QV → QM → Prop} {sk : Nat → Option (List QE)} {S : Nat → QL → List QV → QM → Prop} {n pc nx : Nat} {tg : List (Int × Nat)} {r : List QE} {ls : QL} {st : List QV} {μ : QM} : q_vc fl_X10 ld Γ q_T rk Rt sk S (n + 1) ((.getfield 62, nx, tg) :: r) pc ls (.inr (.inr 0) :: st) μ = q_vc fl_X10 ld Γ q_T rk Rt sk S n r nx ls (.inl (μ 0 8) :: st) μ := propext ⟨fun h => h.2, fun h => ⟨rfl, h⟩⟩
theorem p_X10_62 {ld : Nat → QV} {Γ : Nat → Nat × QP} {rk : Nat} {Rt : Option QV → QM → Prop} {sk : Nat → Option (List QE)} {S : Nat → QL → List QV → QM → Prop} {n pc nx : Nat} {tg : List (Int × Nat)} {r : List QE} {ls : QL} {st : List QV} {μ : QM} {z : Int} : q_vc fl_X10 ld Γ q_T rk Rt sk S (n + 1) ((.putfield 62, nx, tg) :: r) pc ls (.inl z :: .inr (.inr 0) :: st) μ = (q_vc fl_X10 ld Γ q_T rk Rt sk S n r nx ls st (q_up μ 0 8 z)) := propext ⟨fun h => h.2, fun h => ⟨rfl, h⟩⟩
theorem fl_X10_62 : fl_X10 62 = (10, 8) := id rfl
theorem g_X10_103 {ld : Nat → QV} {Γ : Nat → Nat × QP} {rk : Nat} {Rt : Option QV → QM → Prop} {sk : Nat → Option (List QE)} {S : Nat → QL → List QV → QM → Prop} {n pc nx : Nat} {tg : List (Int × Nat)} {r : List QE} {ls : QL} {st : List QV} {μ : QM} : q_vc fl_X10 ld Γ q_T rk Rt sk S (n + 1) ((.getfield 103, nx, tg) :: r) pc ls (.inr (.inr 2) :: st) μ = q_vc fl_X10 ld Γ q_T rk Rt sk S n r nx ls (.inr (.inr 3) :: st) μ := propext ⟨fun h => h.2, fun h => ⟨rfl, h⟩⟩
theorem fl_X10_103 : fl_X10 103 = (5, 0) := id rfl
theorem g_X10_114 {ld : Nat → QV} {Γ : Nat → Nat × QP} {rk : Nat} {Rt : Option QV → QM → Prop} {sk : Nat → Option (List QE)} {S : Nat → QL → List QV → QM → Prop} {n pc nx : Nat} {tg : List (Int × Nat)} {r : List QE} {ls : QL} {st : List QV} {μ : QM} : q_vc fl_X10 ld Γ q_T rk Rt sk S (n + 1) ((.getfield 114, nx, tg) :: r) pc ls (.inr (.inr 13) :: st) μ = q_vc fl_X10 ld Γ q_T rk Rt sk S n r nx ls (.inl (μ 13 1) :: st) μ := propext ⟨fun h => h.2, fun h => ⟨rfl, h⟩⟩
theorem p_X10_114 {ld : Nat → QV} {Γ : Nat → Nat × QP} {rk : Nat} {Rt : Option QV → QM → Prop} {sk : Nat → Option (List QE)} {S : Nat → QL → List QV → QM → Prop} {n pc nx : Nat} {tg : List (Int × Nat)} {r : List QE} {ls : QL} {st : List QV} {μ : QM} {z : Int} : q_vc fl_X10 ld Γ q_T rk Rt sk S (n + 1) ((.putfield 114, nx, tg) :: r) pc ls (.inl z :: .inr (.inr 13) :: st) μ = (q_vc fl_X10 ld Γ q_T rk Rt sk S n r nx ls st (q_up μ 13 1 z)) := propext ⟨fun h => h.2, fun h => ⟨rfl, h⟩⟩
theorem fl_X10_114 : fl_X10 114 = (7, 1) := id rfl
theorem fl_X10_125 : fl_X10 125 = (2, 2) := id rfl
theorem g_X10_135 {ld : Nat → QV} {Γ : Nat → Nat × QP} {rk : Nat} {Rt : Option QV → QM → Prop} {sk : Nat → Option (List QE)} {S : Nat → QL → List QV → QM → Prop} {n pc nx : Nat} {tg : List (Int × Nat)} {r : List QE} {ls : QL} {st : List QV} {μ : QM} : q_vc fl_X10 ld Γ q_T rk Rt sk S (n + 1) ((.getfield 135, nx, tg) :: r) pc ls (.inr (.inr 20) :: st) μ = q_vc fl_X10 ld Γ q_T rk Rt sk S n r nx ls (.inr (.inr 23) :: st) μ := propext ⟨fun h => h.2, fun h => ⟨rfl, h⟩⟩
theorem fl_X10_135 : fl_X10 135 = (9, 4) := id rfl
theorem g_X10_148 {ld : Nat → QV} {Γ : Nat → Nat × QP} {rk : Nat} {Rt : Option QV → QM → Prop} {sk : Nat → Option (List QE)} {S : Nat → QL → List QV → QM → Prop} {n pc nx : Nat} {tg : List (Int × Nat)} {r : List QE} {ls : QL} {st : List QV} {μ : QM} : q_vc fl_X10 ld Γ q_T rk Rt sk S (n + 1) ((.getfield 148, nx, tg) :: r) pc ls (.inr (.inr 20) :: st) μ = q_vc fl_X10 ld Γ q_T rk Rt sk S n r nx ls (.inl (μ 20 6) :: st) μ := propext ⟨fun h => h.2, fun h => ⟨rfl, h⟩⟩
theorem p_X10_148 {ld : Nat → QV} {Γ : Nat → Nat × QP} {rk : Nat} {Rt : Option QV → QM → Prop} {sk : Nat → Option (List QE)} {S : Nat → QL → List QV → QM → Prop} {n pc nx : Nat} {tg : List (Int × Nat)} {r : List QE} {ls : QL} {st : List QV} {μ : QM} {z : Int} : q_vc fl_X10 ld Γ q_T rk Rt sk S (n + 1) ((.putfield 148, nx, tg) :: r) pc ls (.inl z :: .inr (.inr 20) :: st) μ = (q_vc fl_X10 ld Γ q_T rk Rt sk S n r nx ls st (q_up μ 20 6 z)) := propext ⟨fun h => h.2, fun h => ⟨rfl, h⟩⟩
theorem fl_X10_148 : fl_X10 148 = (9, 6) := id rfl
theorem g_X10_157 {ld : Nat → QV} {Γ : Nat → Nat × QP} {rk : Nat} {Rt : Option QV → QM → Prop} {sk : Nat → Option (List QE)} {S : Nat → QL → List QV → QM → Prop} {n pc nx : Nat} {tg : List (Int × Nat)} {r : List QE} {ls : QL} {st : List QV} {μ : QM} : q_vc fl_X10 ld Γ q_T rk Rt sk S (n + 1) ((.getfield 157, nx, tg) :: r) pc ls (.inr (.inr 2) :: st) μ = q_vc fl_X10 ld Γ q_T rk Rt sk S n r nx ls (.inr (.inr 12) :: st) μ := propext ⟨fun h => h.2, fun h => ⟨rfl, h⟩⟩
theorem fl_X10_157 : fl_X10 157 = (5, 2) := id rfl
theorem g_X10_164 {ld : Nat → QV} {Γ : Nat → Nat × QP} {rk : Nat} {Rt : Option QV → QM → Prop} {sk : Nat → Option (List QE)} {S : Nat → QL → List QV → QM → Prop} {n pc nx : Nat} {tg : List (Int × Nat)} {r : List QE} {ls : QL} {st : List QV} {μ : QM} : q_vc fl_X10 ld Γ q_T rk Rt sk S (n + 1) ((.getfield 164, nx, tg) :: r) pc ls (.inr (.inr 1) :: st) μ = q_vc fl_X10 ld Γ q_T rk Rt sk S n r nx ls (.inl (μ 1 0) :: st) μ := propext ⟨fun h => h.2, fun h => ⟨rfl, h⟩⟩
theorem p_X10_164 {ld : Nat → QV} {Γ : Nat → Nat × QP} {rk : Nat} {Rt : Option QV → QM → Prop} {sk : Nat → Option (List QE)} {S : Nat → QL → List QV → QM → Prop} {n pc nx : Nat} {tg : List (Int × Nat)} {r : List QE} {ls : QL} {st : List QV} {μ : QM} {z : Int} : q_vc fl_X10 ld Γ q_T rk Rt sk S (n + 1) ((.putfield 164, nx, tg) :: r) pc ls (.inl z :: .inr (.inr 1) :: st) μ = (q_vc fl_X10 ld Γ q_T rk Rt sk S n r nx ls st (q_up μ 1 0 z)) := propext ⟨fun h => h.2, fun h => ⟨rfl, h⟩⟩
theorem fl_X10_164 : fl_X10 164 = (0, 0) := id rfl
theorem g_X10_167 {ld : Nat → QV} {Γ : Nat → Nat × QP} {rk : Nat} {Rt : Option QV → QM → Prop} {sk : Nat → Option (List QE)} {S : Nat → QL → List QV → QM → Prop} {n pc nx : Nat} {tg : List (Int × Nat)} {r : List QE} {ls : QL} {st : List QV} {μ : QM} : q_vc fl_X10 ld Γ q_T rk Rt sk S (n + 1) ((.getfield 167, nx, tg) :: r) pc ls (.inr (.inr 1) :: st) μ = q_vc fl_X10 ld Γ q_T rk Rt sk S n r nx ls (.inl (μ 1 1) :: st) μ := propext ⟨fun h => h.2, fun h => ⟨rfl, h⟩⟩
theorem p_X10_167 {ld : Nat → QV} {Γ : Nat → Nat × QP} {rk : Nat} {Rt : Option QV → QM → Prop} {sk : Nat → Option (List QE)} {S : Nat → QL → List QV → QM → Prop} {n pc nx : Nat} {tg : List (Int × Nat)} {r : List QE} {ls : QL} {st : List QV} {μ : QM} {z : Int} : q_vc fl_X10 ld Γ q_T rk Rt sk S (n + 1) ((.putfield 167, nx, tg) :: r) pc ls (.inl z :: .inr (.inr 1) :: st) μ = (q_vc fl_X10 ld Γ q_T rk Rt sk S n r nx ls st (q_up μ 1 1 z)) := propext ⟨fun h => h.2, fun h => ⟨rfl, h⟩⟩
theorem fl_X10_167 : fl_X10 167 = (0, 1) := id rfl
theorem g_X10_170 {ld : Nat → QV} {Γ : Nat → Nat × QP} {rk : Nat} {Rt : Option QV → QM → Prop} {sk : Nat → Option (List QE)} {S : Nat → QL → List QV → QM → Prop} {n pc nx : Nat} {tg : List (Int × Nat)} {r : List QE} {ls : QL} {st : List QV} {μ : QM} : q_vc fl_X10 ld Γ q_T rk Rt sk S (n + 1) ((.getfield 170, nx, tg) :: r) pc ls (.inr (.inr 1) :: st) μ = q_vc fl_X10 ld Γ q_T rk Rt sk S n r nx ls (.inl (μ 1 2) :: st) μ := propext ⟨fun h => h.2, fun h => ⟨rfl, h⟩⟩
theorem p_X10_170 {ld : Nat → QV} {Γ : Nat → Nat × QP} {rk : Nat} {Rt : Option QV → QM → Prop} {sk : Nat → Option (List QE)} {S : Nat → QL → List QV → QM → Prop} {n pc nx : Nat} {tg : List (Int × Nat)} {r : List QE} {ls : QL} {st : List QV} {μ : QM} {z : Int} : q_vc fl_X10 ld Γ q_T rk Rt sk S (n + 1) ((.putfield 170, nx, tg) :: r) pc ls (.inl z :: .inr (.inr 1) :: st) μ = (q_vc fl_X10 ld Γ q_T rk Rt sk S n r nx ls st (q_up μ 1 2 z)) := propext ⟨fun h => h.2, fun h => ⟨rfl, h⟩⟩
theorem fl_X10_170 : fl_X10 170 = (0, 2) := id rfl
theorem g_X10_185 {ld : Nat → QV} {Γ : Nat → Nat × QP} {rk : Nat} {Rt : Option QV → QM → Prop} {sk : Nat → Option (List QE)} {S : Nat → QL → List QV → QM → Prop} {n pc nx : Nat} {tg : List (Int × Nat)} {r : List QE} {ls : QL} {st : List QV} {μ : QM} : q_vc fl_X10 ld Γ q_T rk Rt sk S (n + 1) ((.getfield 185, nx, tg) :: r) pc ls (.inr (.inr 2) :: st) μ = q_vc fl_X10 ld Γ q_T rk Rt sk S n r nx ls (.inr (.inr 8) :: st) μ := propext ⟨fun h => h.2, fun h => ⟨rfl, h⟩⟩
theorem fl_X10_185 : fl_X10 185 = (5, 1) := id rfl
def fl_X11 : Nat → Nat × Nat := fun i => match i with
  | 7 => (11, 2)
  | 13 => (11, 3)
  | 16 => (11, 4)
  | 20 => (11, 5)
  | 23 => (11, 6)
  | 27 => (11, 8)
  | 30 => (11, 9)
  | 33 => (11, 10)
  | 36 => (11, 11)
  | 39 => (11, 12)
  | 42 => (11, 13)
  | 45 => (11, 15)
  | 48 => (11, 16)
  | 51 => (11, 21)
  | 55 => (11, 22)
  | 58 => (11, 24)
  | 61 => (11, 25)
  | 64 => (11, 26)
  | 67 => (11, 27)
  | 70 => (11, 28)
  | 73 => (11, 29)
  | 76 => (11, 30)
  | 79 => (11, 36)
  | 85 => (11, 0)
  | 88 => (11, 1)
  | 125 => (11, 7)
  | 152 => (11, 14)
  | 155 => (11, 17)
  | 158 => (11, 18)
  | 162 => (11, 19)
  | 165 => (11, 20)
  | 218 => (11, 31)
  | 224 => (11, 33)
  | 227 => (11, 32)
  | 230 => (11, 35)
  | 239 => (11, 34)
  | 250 => (11, 37)
  | 269 => (11, 23)
  | _ => (99, 0)
def ld_X11 : Nat → QV := fun i => match i with
  | 91 => .inl (-2000000000)
  | 99 => .inr (.inl (2))
  | 101 => .inr (.inl (12))
  | 107 => .inr (.inl (3))
  | 109 => .inr (.inl (-1000000))
  | 111 => .inr (.inl (1000000))
  | 132 => .inr (.inl (8))
  | 168 => .inr (.inl (-1000000000))
  | 170 => .inr (.inl (1000000000))
  | 204 => .inr (.inl (-1))
  | 242 => .inr (.inl (32))
  | 244 => .inr (.inl (96))
  | 246 => .inr (.inl (10))
  | 248 => .inr (.inl (48))
  | _ => .inl 0
theorem ld_X11_91 : ld_X11 91 = .inl (-2000000000) := id rfl
theorem ld_X11_99 : ld_X11 99 = .inr (.inl (2)) := id rfl
theorem ld_X11_101 : ld_X11 101 = .inr (.inl (12)) := id rfl
theorem ld_X11_107 : ld_X11 107 = .inr (.inl (3)) := id rfl
theorem ld_X11_109 : ld_X11 109 = .inr (.inl (-1000000)) := id rfl
theorem ld_X11_111 : ld_X11 111 = .inr (.inl (1000000)) := id rfl
theorem ld_X11_132 : ld_X11 132 = .inr (.inl (8)) := id rfl
theorem ld_X11_168 : ld_X11 168 = .inr (.inl (-1000000000)) := id rfl
theorem ld_X11_170 : ld_X11 170 = .inr (.inl (1000000000)) := id rfl
theorem ld_X11_204 : ld_X11 204 = .inr (.inl (-1)) := id rfl
theorem ld_X11_242 : ld_X11 242 = .inr (.inl (32)) := id rfl
theorem ld_X11_244 : ld_X11 244 = .inr (.inl (96)) := id rfl
theorem ld_X11_246 : ld_X11 246 = .inr (.inl (10)) := id rfl
theorem ld_X11_248 : ld_X11 248 = .inr (.inl (48)) := id rfl
theorem g_X11_7 {ld : Nat → QV} {Γ : Nat → Nat × QP} {rk : Nat} {Rt : Option QV → QM → Prop} {sk : Nat → Option (List QE)} {S : Nat → QL → List QV → QM → Prop} {n pc nx : Nat} {tg : List (Int × Nat)} {r : List QE} {ls : QL} {st : List QV} {μ : QM} : q_vc fl_X11 ld Γ q_T rk Rt sk S (n + 1) ((.getfield 7, nx, tg) :: r) pc ls (.inr (.inr 85) :: st) μ = q_vc fl_X11 ld Γ q_T rk Rt sk S n r nx ls (.inl (μ 85 2) :: st) μ := propext ⟨fun h => h.2, fun h => ⟨rfl, h⟩⟩
theorem p_X11_7 {ld : Nat → QV} {Γ : Nat → Nat × QP} {rk : Nat} {Rt : Option QV → QM → Prop} {sk : Nat → Option (List QE)} {S : Nat → QL → List QV → QM → Prop} {n pc nx : Nat} {tg : List (Int × Nat)} {r : List QE} {ls : QL} {st : List QV} {μ : QM} {z : Int} : q_vc fl_X11 ld Γ q_T rk Rt sk S (n + 1) ((.putfield 7, nx, tg) :: r) pc ls (.inl z :: .inr (.inr 85) :: st) μ = (q_vc fl_X11 ld Γ q_T rk Rt sk S n r nx ls st (q_up μ 85 2 z)) := propext ⟨fun h => h.2, fun h => ⟨rfl, h⟩⟩
theorem fl_X11_7 : fl_X11 7 = (11, 2) := id rfl
theorem g_X11_13 {ld : Nat → QV} {Γ : Nat → Nat × QP} {rk : Nat} {Rt : Option QV → QM → Prop} {sk : Nat → Option (List QE)} {S : Nat → QL → List QV → QM → Prop} {n pc nx : Nat} {tg : List (Int × Nat)} {r : List QE} {ls : QL} {st : List QV} {μ : QM} : q_vc fl_X11 ld Γ q_T rk Rt sk S (n + 1) ((.getfield 13, nx, tg) :: r) pc ls (.inr (.inr 85) :: st) μ = q_vc fl_X11 ld Γ q_T rk Rt sk S n r nx ls (.inl (μ 85 3) :: st) μ := propext ⟨fun h => h.2, fun h => ⟨rfl, h⟩⟩
theorem p_X11_13 {ld : Nat → QV} {Γ : Nat → Nat × QP} {rk : Nat} {Rt : Option QV → QM → Prop} {sk : Nat → Option (List QE)} {S : Nat → QL → List QV → QM → Prop} {n pc nx : Nat} {tg : List (Int × Nat)} {r : List QE} {ls : QL} {st : List QV} {μ : QM} {z : Int} : q_vc fl_X11 ld Γ q_T rk Rt sk S (n + 1) ((.putfield 13, nx, tg) :: r) pc ls (.inl z :: .inr (.inr 85) :: st) μ = (q_vc fl_X11 ld Γ q_T rk Rt sk S n r nx ls st (q_up μ 85 3 z)) := propext ⟨fun h => h.2, fun h => ⟨rfl, h⟩⟩
theorem fl_X11_13 : fl_X11 13 = (11, 3) := id rfl
theorem g_X11_16 {ld : Nat → QV} {Γ : Nat → Nat × QP} {rk : Nat} {Rt : Option QV → QM → Prop} {sk : Nat → Option (List QE)} {S : Nat → QL → List QV → QM → Prop} {n pc nx : Nat} {tg : List (Int × Nat)} {r : List QE} {ls : QL} {st : List QV} {μ : QM} : q_vc fl_X11 ld Γ q_T rk Rt sk S (n + 1) ((.getfield 16, nx, tg) :: r) pc ls (.inr (.inr 85) :: st) μ = q_vc fl_X11 ld Γ q_T rk Rt sk S n r nx ls (.inr (.inr 86) :: st) μ := propext ⟨fun h => h.2, fun h => ⟨rfl, h⟩⟩
theorem fl_X11_16 : fl_X11 16 = (11, 4) := id rfl
theorem g_X11_20 {ld : Nat → QV} {Γ : Nat → Nat × QP} {rk : Nat} {Rt : Option QV → QM → Prop} {sk : Nat → Option (List QE)} {S : Nat → QL → List QV → QM → Prop} {n pc nx : Nat} {tg : List (Int × Nat)} {r : List QE} {ls : QL} {st : List QV} {μ : QM} : q_vc fl_X11 ld Γ q_T rk Rt sk S (n + 1) ((.getfield 20, nx, tg) :: r) pc ls (.inr (.inr 85) :: st) μ = q_vc fl_X11 ld Γ q_T rk Rt sk S n r nx ls (.inr (.inr 87) :: st) μ := propext ⟨fun h => h.2, fun h => ⟨rfl, h⟩⟩
theorem fl_X11_20 : fl_X11 20 = (11, 5) := id rfl
theorem g_X11_23 {ld : Nat → QV} {Γ : Nat → Nat × QP} {rk : Nat} {Rt : Option QV → QM → Prop} {sk : Nat → Option (List QE)} {S : Nat → QL → List QV → QM → Prop} {n pc nx : Nat} {tg : List (Int × Nat)} {r : List QE} {ls : QL} {st : List QV} {μ : QM} : q_vc fl_X11 ld Γ q_T rk Rt sk S (n + 1) ((.getfield 23, nx, tg) :: r) pc ls (.inr (.inr 85) :: st) μ = q_vc fl_X11 ld Γ q_T rk Rt sk S n r nx ls (.inr (.inr 88) :: st) μ := propext ⟨fun h => h.2, fun h => ⟨rfl, h⟩⟩
theorem fl_X11_23 : fl_X11 23 = (11, 6) := id rfl
theorem g_X11_27 {ld : Nat → QV} {Γ : Nat → Nat × QP} {rk : Nat} {Rt : Option QV → QM → Prop} {sk : Nat → Option (List QE)} {S : Nat → QL → List QV → QM → Prop} {n pc nx : Nat} {tg : List (Int × Nat)} {r : List QE} {ls : QL} {st : List QV} {μ : QM} : q_vc fl_X11 ld Γ q_T rk Rt sk S (n + 1) ((.getfield 27, nx, tg) :: r) pc ls (.inr (.inr 85) :: st) μ = q_vc fl_X11 ld Γ q_T rk Rt sk S n r nx ls (.inr (.inr 89) :: st) μ := propext ⟨fun h => h.2, fun h => ⟨rfl, h⟩⟩
theorem fl_X11_27 : fl_X11 27 = (11, 8) := id rfl
theorem g_X11_30 {ld : Nat → QV} {Γ : Nat → Nat × QP} {rk : Nat} {Rt : Option QV → QM → Prop} {sk : Nat → Option (List QE)} {S : Nat → QL → List QV → QM → Prop} {n pc nx : Nat} {tg : List (Int × Nat)} {r : List QE} {ls : QL} {st : List QV} {μ : QM} : q_vc fl_X11 ld Γ q_T rk Rt sk S (n + 1) ((.getfield 30, nx, tg) :: r) pc ls (.inr (.inr 85) :: st) μ = q_vc fl_X11 ld Γ q_T rk Rt sk S n r nx ls (.inr (.inr 90) :: st) μ := propext ⟨fun h => h.2, fun h => ⟨rfl, h⟩⟩
theorem fl_X11_30 : fl_X11 30 = (11, 9) := id rfl
theorem g_X11_33 {ld : Nat → QV} {Γ : Nat → Nat × QP} {rk : Nat} {Rt : Option QV → QM → Prop} {sk : Nat → Option (List QE)} {S : Nat → QL → List QV → QM → Prop} {n pc nx : Nat} {tg : List (Int × Nat)} {r : List QE} {ls : QL} {st : List QV} {μ : QM} : q_vc fl_X11 ld Γ q_T rk Rt sk S (n + 1) ((.getfield 33, nx, tg) :: r) pc ls (.inr (.inr 85) :: st) μ = q_vc fl_X11 ld Γ q_T rk Rt sk S n r nx ls (.inr (.inr 91) :: st) μ := propext ⟨fun h => h.2, fun h => ⟨rfl, h⟩⟩
theorem fl_X11_33 : fl_X11 33 = (11, 10) := id rfl
theorem g_X11_36 {ld : Nat → QV} {Γ : Nat → Nat × QP} {rk : Nat} {Rt : Option QV → QM → Prop} {sk : Nat → Option (List QE)} {S : Nat → QL → List QV → QM → Prop} {n pc nx : Nat} {tg : List (Int × Nat)} {r : List QE} {ls : QL} {st : List QV} {μ : QM} : q_vc fl_X11 ld Γ q_T rk Rt sk S (n + 1) ((.getfield 36, nx, tg) :: r) pc ls (.inr (.inr 85) :: st) μ = q_vc fl_X11 ld Γ q_T rk Rt sk S n r nx ls (.inr (.inr 92) :: st) μ := propext ⟨fun h => h.2, fun h => ⟨rfl, h⟩⟩
theorem fl_X11_36 : fl_X11 36 = (11, 11) := id rfl
theorem g_X11_39 {ld : Nat → QV} {Γ : Nat → Nat × QP} {rk : Nat} {Rt : Option QV → QM → Prop} {sk : Nat → Option (List QE)} {S : Nat → QL → List QV → QM → Prop} {n pc nx : Nat} {tg : List (Int × Nat)} {r : List QE} {ls : QL} {st : List QV} {μ : QM} : q_vc fl_X11 ld Γ q_T rk Rt sk S (n + 1) ((.getfield 39, nx, tg) :: r) pc ls (.inr (.inr 85) :: st) μ = q_vc fl_X11 ld Γ q_T rk Rt sk S n r nx ls (.inr (.inr 93) :: st) μ := propext ⟨fun h => h.2, fun h => ⟨rfl, h⟩⟩
theorem fl_X11_39 : fl_X11 39 = (11, 12) := id rfl
theorem g_X11_42 {ld : Nat → QV} {Γ : Nat → Nat × QP} {rk : Nat} {Rt : Option QV → QM → Prop} {sk : Nat → Option (List QE)} {S : Nat → QL → List QV → QM → Prop} {n pc nx : Nat} {tg : List (Int × Nat)} {r : List QE} {ls : QL} {st : List QV} {μ : QM} : q_vc fl_X11 ld Γ q_T rk Rt sk S (n + 1) ((.getfield 42, nx, tg) :: r) pc ls (.inr (.inr 85) :: st) μ = q_vc fl_X11 ld Γ q_T rk Rt sk S n r nx ls (.inr (.inr 94) :: st) μ := propext ⟨fun h => h.2, fun h => ⟨rfl, h⟩⟩
theorem fl_X11_42 : fl_X11 42 = (11, 13) := id rfl
theorem g_X11_45 {ld : Nat → QV} {Γ : Nat → Nat × QP} {rk : Nat} {Rt : Option QV → QM → Prop} {sk : Nat → Option (List QE)} {S : Nat → QL → List QV → QM → Prop} {n pc nx : Nat} {tg : List (Int × Nat)} {r : List QE} {ls : QL} {st : List QV} {μ : QM} : q_vc fl_X11 ld Γ q_T rk Rt sk S (n + 1) ((.getfield 45, nx, tg) :: r) pc ls (.inr (.inr 85) :: st) μ = q_vc fl_X11 ld Γ q_T rk Rt sk S n r nx ls (.inr (.inr 95) :: st) μ := propext ⟨fun h => h.2, fun h => ⟨rfl, h⟩⟩
theorem fl_X11_45 : fl_X11 45 = (11, 15) := id rfl
theorem g_X11_48 {ld : Nat → QV} {Γ : Nat → Nat × QP} {rk : Nat} {Rt : Option QV → QM → Prop} {sk : Nat → Option (List QE)} {S : Nat → QL → List QV → QM → Prop} {n pc nx : Nat} {tg : List (Int × Nat)} {r : List QE} {ls : QL} {st : List QV} {μ : QM} : q_vc fl_X11 ld Γ q_T rk Rt sk S (n + 1) ((.getfield 48, nx, tg) :: r) pc ls (.inr (.inr 85) :: st) μ = q_vc fl_X11 ld Γ q_T rk Rt sk S n r nx ls (.inr (.inr 96) :: st) μ := propext ⟨fun h => h.2, fun h => ⟨rfl, h⟩⟩
theorem fl_X11_48 : fl_X11 48 = (11, 16) := id rfl
theorem g_X11_51 {ld : Nat → QV} {Γ : Nat → Nat × QP} {rk : Nat} {Rt : Option QV → QM → Prop} {sk : Nat → Option (List QE)} {S : Nat → QL → List QV → QM → Prop} {n pc nx : Nat} {tg : List (Int × Nat)} {r : List QE} {ls : QL} {st : List QV} {μ : QM} : q_vc fl_X11 ld Γ q_T rk Rt sk S (n + 1) ((.getfield 51, nx, tg) :: r) pc ls (.inr (.inr 85) :: st) μ = q_vc fl_X11 ld Γ q_T rk Rt sk S n r nx ls (.inr (.inr 97) :: st) μ := propext ⟨fun h => h.2, fun h => ⟨rfl, h⟩⟩
theorem fl_X11_51 : fl_X11 51 = (11, 21) := id rfl
theorem g_X11_55 {ld : Nat → QV} {Γ : Nat → Nat × QP} {rk : Nat} {Rt : Option QV → QM → Prop} {sk : Nat → Option (List QE)} {S : Nat → QL → List QV → QM → Prop} {n pc nx : Nat} {tg : List (Int × Nat)} {r : List QE} {ls : QL} {st : List QV} {μ : QM} : q_vc fl_X11 ld Γ q_T rk Rt sk S (n + 1) ((.getfield 55, nx, tg) :: r) pc ls (.inr (.inr 85) :: st) μ = q_vc fl_X11 ld Γ q_T rk Rt sk S n r nx ls (.inr (.inr 98) :: st) μ := propext ⟨fun h => h.2, fun h => ⟨rfl, h⟩⟩
theorem fl_X11_55 : fl_X11 55 = (11, 22) := id rfl
theorem g_X11_58 {ld : Nat → QV} {Γ : Nat → Nat × QP} {rk : Nat} {Rt : Option QV → QM → Prop} {sk : Nat → Option (List QE)} {S : Nat → QL → List QV → QM → Prop} {n pc nx : Nat} {tg : List (Int × Nat)} {r : List QE} {ls : QL} {st : List QV} {μ : QM} : q_vc fl_X11 ld Γ q_T rk Rt sk S (n + 1) ((.getfield 58, nx, tg) :: r) pc ls (.inr (.inr 85) :: st) μ = q_vc fl_X11 ld Γ q_T rk Rt sk S n r nx ls (.inr (.inr 99) :: st) μ := propext ⟨fun h => h.2, fun h => ⟨rfl, h⟩⟩
theorem fl_X11_58 : fl_X11 58 = (11, 24) := id rfl
theorem g_X11_61 {ld : Nat → QV} {Γ : Nat → Nat × QP} {rk : Nat} {Rt : Option QV → QM → Prop} {sk : Nat → Option (List QE)} {S : Nat → QL → List QV → QM → Prop} {n pc nx : Nat} {tg : List (Int × Nat)} {r : List QE} {ls : QL} {st : List QV} {μ : QM} : q_vc fl_X11 ld Γ q_T rk Rt sk S (n + 1) ((.getfield 61, nx, tg) :: r) pc ls (.inr (.inr 85) :: st) μ = q_vc fl_X11 ld Γ q_T rk Rt sk S n r nx ls (.inr (.inr 100) :: st) μ := propext ⟨fun h => h.2, fun h => ⟨rfl, h⟩⟩
theorem fl_X11_61 : fl_X11 61 = (11, 25) := id rfl
theorem g_X11_64 {ld : Nat → QV} {Γ : Nat → Nat × QP} {rk : Nat} {Rt : Option QV → QM → Prop} {sk : Nat → Option (List QE)} {S : Nat → QL → List QV → QM → Prop} {n pc nx : Nat} {tg : List (Int × Nat)} {r : List QE} {ls : QL} {st : List QV} {μ : QM} : q_vc fl_X11 ld Γ q_T rk Rt sk S (n + 1) ((.getfield 64, nx, tg) :: r) pc ls (.inr (.inr 85) :: st) μ = q_vc fl_X11 ld Γ q_T rk Rt sk S n r nx ls (.inr (.inr 101) :: st) μ := propext ⟨fun h => h.2, fun h => ⟨rfl, h⟩⟩
theorem fl_X11_64 : fl_X11 64 = (11, 26) := id rfl
theorem g_X11_67 {ld : Nat → QV} {Γ : Nat → Nat × QP} {rk : Nat} {Rt : Option QV → QM → Prop} {sk : Nat → Option (List QE)} {S : Nat → QL → List QV → QM → Prop} {n pc nx : Nat} {tg : List (Int × Nat)} {r : List QE} {ls : QL} {st : List QV} {μ : QM} : q_vc fl_X11 ld Γ q_T rk Rt sk S (n + 1) ((.getfield 67, nx, tg) :: r) pc ls (.inr (.inr 85) :: st) μ = q_vc fl_X11 ld Γ q_T rk Rt sk S n r nx ls (.inr (.inr 102) :: st) μ := propext ⟨fun h => h.2, fun h => ⟨rfl, h⟩⟩
theorem fl_X11_67 : fl_X11 67 = (11, 27) := id rfl
theorem g_X11_70 {ld : Nat → QV} {Γ : Nat → Nat × QP} {rk : Nat} {Rt : Option QV → QM → Prop} {sk : Nat → Option (List QE)} {S : Nat → QL → List QV → QM → Prop} {n pc nx : Nat} {tg : List (Int × Nat)} {r : List QE} {ls : QL} {st : List QV} {μ : QM} : q_vc fl_X11 ld Γ q_T rk Rt sk S (n + 1) ((.getfield 70, nx, tg) :: r) pc ls (.inr (.inr 85) :: st) μ = q_vc fl_X11 ld Γ q_T rk Rt sk S n r nx ls (.inr (.inr 103) :: st) μ := propext ⟨fun h => h.2, fun h => ⟨rfl, h⟩⟩
theorem fl_X11_70 : fl_X11 70 = (11, 28) := id rfl
theorem g_X11_73 {ld : Nat → QV} {Γ : Nat → Nat × QP} {rk : Nat} {Rt : Option QV → QM → Prop} {sk : Nat → Option (List QE)} {S : Nat → QL → List QV → QM → Prop} {n pc nx : Nat} {tg : List (Int × Nat)} {r : List QE} {ls : QL} {st : List QV} {μ : QM} : q_vc fl_X11 ld Γ q_T rk Rt sk S (n + 1) ((.getfield 73, nx, tg) :: r) pc ls (.inr (.inr 85) :: st) μ = q_vc fl_X11 ld Γ q_T rk Rt sk S n r nx ls (.inr (.inr 104) :: st) μ := propext ⟨fun h => h.2, fun h => ⟨rfl, h⟩⟩
theorem fl_X11_73 : fl_X11 73 = (11, 29) := id rfl
theorem g_X11_76 {ld : Nat → QV} {Γ : Nat → Nat × QP} {rk : Nat} {Rt : Option QV → QM → Prop} {sk : Nat → Option (List QE)} {S : Nat → QL → List QV → QM → Prop} {n pc nx : Nat} {tg : List (Int × Nat)} {r : List QE} {ls : QL} {st : List QV} {μ : QM} : q_vc fl_X11 ld Γ q_T rk Rt sk S (n + 1) ((.getfield 76, nx, tg) :: r) pc ls (.inr (.inr 85) :: st) μ = q_vc fl_X11 ld Γ q_T rk Rt sk S n r nx ls (.inr (.inr 105) :: st) μ := propext ⟨fun h => h.2, fun h => ⟨rfl, h⟩⟩
theorem fl_X11_76 : fl_X11 76 = (11, 30) := id rfl
theorem g_X11_79 {ld : Nat → QV} {Γ : Nat → Nat × QP} {rk : Nat} {Rt : Option QV → QM → Prop} {sk : Nat → Option (List QE)} {S : Nat → QL → List QV → QM → Prop} {n pc nx : Nat} {tg : List (Int × Nat)} {r : List QE} {ls : QL} {st : List QV} {μ : QM} : q_vc fl_X11 ld Γ q_T rk Rt sk S (n + 1) ((.getfield 79, nx, tg) :: r) pc ls (.inr (.inr 85) :: st) μ = q_vc fl_X11 ld Γ q_T rk Rt sk S n r nx ls (.inl (μ 85 36) :: st) μ := propext ⟨fun h => h.2, fun h => ⟨rfl, h⟩⟩
theorem p_X11_79 {ld : Nat → QV} {Γ : Nat → Nat × QP} {rk : Nat} {Rt : Option QV → QM → Prop} {sk : Nat → Option (List QE)} {S : Nat → QL → List QV → QM → Prop} {n pc nx : Nat} {tg : List (Int × Nat)} {r : List QE} {ls : QL} {st : List QV} {μ : QM} {z : Int} : q_vc fl_X11 ld Γ q_T rk Rt sk S (n + 1) ((.putfield 79, nx, tg) :: r) pc ls (.inl z :: .inr (.inr 85) :: st) μ = (q_vc fl_X11 ld Γ q_T rk Rt sk S n r nx ls st (q_up μ 85 36 z)) := propext ⟨fun h => h.2, fun h => ⟨rfl, h⟩⟩
theorem fl_X11_79 : fl_X11 79 = (11, 36) := id rfl
theorem g_X11_85 {ld : Nat → QV} {Γ : Nat → Nat × QP} {rk : Nat} {Rt : Option QV → QM → Prop} {sk : Nat → Option (List QE)} {S : Nat → QL → List QV → QM → Prop} {n pc nx : Nat} {tg : List (Int × Nat)} {r : List QE} {ls : QL} {st : List QV} {μ : QM} : q_vc fl_X11 ld Γ q_T rk Rt sk S (n + 1) ((.getfield 85, nx, tg) :: r) pc ls (.inr (.inr 85) :: st) μ = q_vc fl_X11 ld Γ q_T rk Rt sk S n r nx ls (.inl (μ 85 0) :: st) μ := propext ⟨fun h => h.2, fun h => ⟨rfl, h⟩⟩
theorem p_X11_85 {ld : Nat → QV} {Γ : Nat → Nat × QP} {rk : Nat} {Rt : Option QV → QM → Prop} {sk : Nat → Option (List QE)} {S : Nat → QL → List QV → QM → Prop} {n pc nx : Nat} {tg : List (Int × Nat)} {r : List QE} {ls : QL} {st : List QV} {μ : QM} {z : Int} : q_vc fl_X11 ld Γ q_T rk Rt sk S (n + 1) ((.putfield 85, nx, tg) :: r) pc ls (.inl z :: .inr (.inr 85) :: st) μ = (q_vc fl_X11 ld Γ q_T rk Rt sk S n r nx ls st (q_up μ 85 0 z)) := propext ⟨fun h => h.2, fun h => ⟨rfl, h⟩⟩
theorem fl_X11_85 : fl_X11 85 = (11, 0) := id rfl
theorem g_X11_88 {ld : Nat → QV} {Γ : Nat → Nat × QP} {rk : Nat} {Rt : Option QV → QM → Prop} {sk : Nat → Option (List QE)} {S : Nat → QL → List QV → QM → Prop} {n pc nx : Nat} {tg : List (Int × Nat)} {r : List QE} {ls : QL} {st : List QV} {μ : QM} : q_vc fl_X11 ld Γ q_T rk Rt sk S (n + 1) ((.getfield 88, nx, tg) :: r) pc ls (.inr (.inr 85) :: st) μ = q_vc fl_X11 ld Γ q_T rk Rt sk S n r nx ls (.inl (μ 85 1) :: st) μ := propext ⟨fun h => h.2, fun h => ⟨rfl, h⟩⟩
theorem p_X11_88 {ld : Nat → QV} {Γ : Nat → Nat × QP} {rk : Nat} {Rt : Option QV → QM → Prop} {sk : Nat → Option (List QE)} {S : Nat → QL → List QV → QM → Prop} {n pc nx : Nat} {tg : List (Int × Nat)} {r : List QE} {ls : QL} {st : List QV} {μ : QM} {z : Int} : q_vc fl_X11 ld Γ q_T rk Rt sk S (n + 1) ((.putfield 88, nx, tg) :: r) pc ls (.inl z :: .inr (.inr 85) :: st) μ = (q_vc fl_X11 ld Γ q_T rk Rt sk S n r nx ls st (q_up μ 85 1 z)) := propext ⟨fun h => h.2, fun h => ⟨rfl, h⟩⟩
theorem fl_X11_88 : fl_X11 88 = (11, 1) := id rfl
theorem g_X11_125 {ld : Nat → QV} {Γ : Nat → Nat × QP} {rk : Nat} {Rt : Option QV → QM → Prop} {sk : Nat → Option (List QE)} {S : Nat → QL → List QV → QM → Prop} {n pc nx : Nat} {tg : List (Int × Nat)} {r : List QE} {ls : QL} {st : List QV} {μ : QM} : q_vc fl_X11 ld Γ q_T rk Rt sk S (n + 1) ((.getfield 125, nx, tg) :: r) pc ls (.inr (.inr 85) :: st) μ = q_vc fl_X11 ld Γ q_T rk Rt sk S n r nx ls (.inl (μ 85 7) :: st) μ := propext ⟨fun h => h.2, fun h => ⟨rfl, h⟩⟩
theorem p_X11_125 {ld : Nat → QV} {Γ : Nat → Nat × QP} {rk : Nat} {Rt : Option QV → QM → Prop} {sk : Nat → Option (List QE)} {S : Nat → QL → List QV → QM → Prop} {n pc nx : Nat} {tg : List (Int × Nat)} {r : List QE} {ls : QL} {st : List QV} {μ : QM} {z : Int} : q_vc fl_X11 ld Γ q_T rk Rt sk S (n + 1) ((.putfield 125, nx, tg) :: r) pc ls (.inl z :: .inr (.inr 85) :: st) μ = (q_vc fl_X11 ld Γ q_T rk Rt sk S n r nx ls st (q_up μ 85 7 z)) := propext ⟨fun h => h.2, fun h => ⟨rfl, h⟩⟩
theorem fl_X11_125 : fl_X11 125 = (11, 7) := id rfl
theorem g_X11_152 {ld : Nat → QV} {Γ : Nat → Nat × QP} {rk : Nat} {Rt : Option QV → QM → Prop} {sk : Nat → Option (List QE)} {S : Nat → QL → List QV → QM → Prop} {n pc nx : Nat} {tg : List (Int × Nat)} {r : List QE} {ls : QL} {st : List QV} {μ : QM} : q_vc fl_X11 ld Γ q_T rk Rt sk S (n + 1) ((.getfield 152, nx, tg) :: r) pc ls (.inr (.inr 85) :: st) μ = q_vc fl_X11 ld Γ q_T rk Rt sk S n r nx ls (.inl (μ 85 14) :: st) μ := propext ⟨fun h => h.2, fun h => ⟨rfl, h⟩⟩
theorem p_X11_152 {ld : Nat → QV} {Γ : Nat → Nat × QP} {rk : Nat} {Rt : Option QV → QM → Prop} {sk : Nat → Option (List QE)} {S : Nat → QL → List QV → QM → Prop} {n pc nx : Nat} {tg : List (Int × Nat)} {r : List QE} {ls : QL} {st : List QV} {μ : QM} {z : Int} : q_vc fl_X11 ld Γ q_T rk Rt sk S (n + 1) ((.putfield 152, nx, tg) :: r) pc ls (.inl z :: .inr (.inr 85) :: st) μ = (q_vc fl_X11 ld Γ q_T rk Rt sk S n r nx ls st (q_up μ 85 14 z)) := propext ⟨fun h => h.2, fun h => ⟨rfl, h⟩⟩
theorem fl_X11_152 : fl_X11 152 = (11, 14) := id rfl
theorem g_X11_155 {ld : Nat → QV} {Γ : Nat → Nat × QP} {rk : Nat} {Rt : Option QV → QM → Prop} {sk : Nat → Option (List QE)} {S : Nat → QL → List QV → QM → Prop} {n pc nx : Nat} {tg : List (Int × Nat)} {r : List QE} {ls : QL} {st : List QV} {μ : QM} : q_vc fl_X11 ld Γ q_T rk Rt sk S (n + 1) ((.getfield 155, nx, tg) :: r) pc ls (.inr (.inr 85) :: st) μ = q_vc fl_X11 ld Γ q_T rk Rt sk S n r nx ls (.inl (μ 85 17) :: st) μ := propext ⟨fun h => h.2, fun h => ⟨rfl, h⟩⟩
theorem p_X11_155 {ld : Nat → QV} {Γ : Nat → Nat × QP} {rk : Nat} {Rt : Option QV → QM → Prop} {sk : Nat → Option (List QE)} {S : Nat → QL → List QV → QM → Prop} {n pc nx : Nat} {tg : List (Int × Nat)} {r : List QE} {ls : QL} {st : List QV} {μ : QM} {z : Int} : q_vc fl_X11 ld Γ q_T rk Rt sk S (n + 1) ((.putfield 155, nx, tg) :: r) pc ls (.inl z :: .inr (.inr 85) :: st) μ = (q_vc fl_X11 ld Γ q_T rk Rt sk S n r nx ls st (q_up μ 85 17 z)) := propext ⟨fun h => h.2, fun h => ⟨rfl, h⟩⟩
theorem fl_X11_155 : fl_X11 155 = (11, 17) := id rfl
theorem g_X11_158 {ld : Nat → QV} {Γ : Nat → Nat × QP} {rk : Nat} {Rt : Option QV → QM → Prop} {sk : Nat → Option (List QE)} {S : Nat → QL → List QV → QM → Prop} {n pc nx : Nat} {tg : List (Int × Nat)} {r : List QE} {ls : QL} {st : List QV} {μ : QM} : q_vc fl_X11 ld Γ q_T rk Rt sk S (n + 1) ((.getfield 158, nx, tg) :: r) pc ls (.inr (.inr 85) :: st) μ = q_vc fl_X11 ld Γ q_T rk Rt sk S n r nx ls (.inr (.inl (μ 85 18)) :: st) μ := propext ⟨fun h => h.2, fun h => ⟨rfl, h⟩⟩
theorem p_X11_158 {ld : Nat → QV} {Γ : Nat → Nat × QP} {rk : Nat} {Rt : Option QV → QM → Prop} {sk : Nat → Option (List QE)} {S : Nat → QL → List QV → QM → Prop} {n pc nx : Nat} {tg : List (Int × Nat)} {r : List QE} {ls : QL} {st : List QV} {μ : QM} {z : Int} : q_vc fl_X11 ld Γ q_T rk Rt sk S (n + 1) ((.putfield 158, nx, tg) :: r) pc ls (.inr (.inl z) :: .inr (.inr 85) :: st) μ = (q_vc fl_X11 ld Γ q_T rk Rt sk S n r nx ls st (q_up μ 85 18 z)) := propext ⟨fun h => h.2, fun h => ⟨rfl, h⟩⟩
theorem fl_X11_158 : fl_X11 158 = (11, 18) := id rfl
theorem g_X11_162 {ld : Nat → QV} {Γ : Nat → Nat × QP} {rk : Nat} {Rt : Option QV → QM → Prop} {sk : Nat → Option (List QE)} {S : Nat → QL → List QV → QM → Prop} {n pc nx : Nat} {tg : List (Int × Nat)} {r : List QE} {ls : QL} {st : List QV} {μ : QM} : q_vc fl_X11 ld Γ q_T rk Rt sk S (n + 1) ((.getfield 162, nx, tg) :: r) pc ls (.inr (.inr 85) :: st) μ = q_vc fl_X11 ld Γ q_T rk Rt sk S n r nx ls (.inr (.inl (μ 85 19)) :: st) μ := propext ⟨fun h => h.2, fun h => ⟨rfl, h⟩⟩
theorem p_X11_162 {ld : Nat → QV} {Γ : Nat → Nat × QP} {rk : Nat} {Rt : Option QV → QM → Prop} {sk : Nat → Option (List QE)} {S : Nat → QL → List QV → QM → Prop} {n pc nx : Nat} {tg : List (Int × Nat)} {r : List QE} {ls : QL} {st : List QV} {μ : QM} {z : Int} : q_vc fl_X11 ld Γ q_T rk Rt sk S (n + 1) ((.putfield 162, nx, tg) :: r) pc ls (.inr (.inl z) :: .inr (.inr 85) :: st) μ = (q_vc fl_X11 ld Γ q_T rk Rt sk S n r nx ls st (q_up μ 85 19 z)) := propext ⟨fun h => h.2, fun h => ⟨rfl, h⟩⟩
theorem fl_X11_162 : fl_X11 162 = (11, 19) := id rfl
theorem g_X11_165 {ld : Nat → QV} {Γ : Nat → Nat × QP} {rk : Nat} {Rt : Option QV → QM → Prop} {sk : Nat → Option (List QE)} {S : Nat → QL → List QV → QM → Prop} {n pc nx : Nat} {tg : List (Int × Nat)} {r : List QE} {ls : QL} {st : List QV} {μ : QM} : q_vc fl_X11 ld Γ q_T rk Rt sk S (n + 1) ((.getfield 165, nx, tg) :: r) pc ls (.inr (.inr 85) :: st) μ = q_vc fl_X11 ld Γ q_T rk Rt sk S n r nx ls (.inr (.inl (μ 85 20)) :: st) μ := propext ⟨fun h => h.2, fun h => ⟨rfl, h⟩⟩
theorem p_X11_165 {ld : Nat → QV} {Γ : Nat → Nat × QP} {rk : Nat} {Rt : Option QV → QM → Prop} {sk : Nat → Option (List QE)} {S : Nat → QL → List QV → QM → Prop} {n pc nx : Nat} {tg : List (Int × Nat)} {r : List QE} {ls : QL} {st : List QV} {μ : QM} {z : Int} : q_vc fl_X11 ld Γ q_T rk Rt sk S (n + 1) ((.putfield 165, nx, tg) :: r) pc ls (.inr (.inl z) :: .inr (.inr 85) :: st) μ = (q_vc fl_X11 ld Γ q_T rk Rt sk S n r nx ls st (q_up μ 85 20 z)) := propext ⟨fun h => h.2, fun h => ⟨rfl, h⟩⟩
theorem fl_X11_165 : fl_X11 165 = (11, 20) := id rfl
theorem g_X11_218 {ld : Nat → QV} {Γ : Nat → Nat × QP} {rk : Nat} {Rt : Option QV → QM → Prop} {sk : Nat → Option (List QE)} {S : Nat → QL → List QV → QM → Prop} {n pc nx : Nat} {tg : List (Int × Nat)} {r : List QE} {ls : QL} {st : List QV} {μ : QM} : q_vc fl_X11 ld Γ q_T rk Rt sk S (n + 1) ((.getfield 218, nx, tg) :: r) pc ls (.inr (.inr 85) :: st) μ = q_vc fl_X11 ld Γ q_T rk Rt sk S n r nx ls (.inl (μ 85 31) :: st) μ := propext ⟨fun h => h.2, fun h => ⟨rfl, h⟩⟩
theorem p_X11_218 {ld : Nat → QV} {Γ : Nat → Nat × QP} {rk : Nat} {Rt : Option QV → QM → Prop} {sk : Nat → Option (List QE)} {S : Nat → QL → List QV → QM → Prop} {n pc nx : Nat} {tg : List (Int × Nat)} {r : List QE} {ls : QL} {st : List QV} {μ : QM} {z : Int} : q_vc fl_X11 ld Γ q_T rk Rt sk S (n + 1) ((.putfield 218, nx, tg) :: r) pc ls (.inl z :: .inr (.inr 85) :: st) μ = (q_vc fl_X11 ld Γ q_T rk Rt sk S n r nx ls st (q_up μ 85 31 z)) := propext ⟨fun h => h.2, fun h => ⟨rfl, h⟩⟩
theorem fl_X11_218 : fl_X11 218 = (11, 31) := id rfl
theorem g_X11_224 {ld : Nat → QV} {Γ : Nat → Nat × QP} {rk : Nat} {Rt : Option QV → QM → Prop} {sk : Nat → Option (List QE)} {S : Nat → QL → List QV → QM → Prop} {n pc nx : Nat} {tg : List (Int × Nat)} {r : List QE} {ls : QL} {st : List QV} {μ : QM} : q_vc fl_X11 ld Γ q_T rk Rt sk S (n + 1) ((.getfield 224, nx, tg) :: r) pc ls (.inr (.inr 85) :: st) μ = q_vc fl_X11 ld Γ q_T rk Rt sk S n r nx ls (.inl (μ 85 33) :: st) μ := propext ⟨fun h => h.2, fun h => ⟨rfl, h⟩⟩
theorem p_X11_224 {ld : Nat → QV} {Γ : Nat → Nat × QP} {rk : Nat} {Rt : Option QV → QM → Prop} {sk : Nat → Option (List QE)} {S : Nat → QL → List QV → QM → Prop} {n pc nx : Nat} {tg : List (Int × Nat)} {r : List QE} {ls : QL} {st : List QV} {μ : QM} {z : Int} : q_vc fl_X11 ld Γ q_T rk Rt sk S (n + 1) ((.putfield 224, nx, tg) :: r) pc ls (.inl z :: .inr (.inr 85) :: st) μ = (q_vc fl_X11 ld Γ q_T rk Rt sk S n r nx ls st (q_up μ 85 33 z)) := propext ⟨fun h => h.2, fun h => ⟨rfl, h⟩⟩
theorem fl_X11_224 : fl_X11 224 = (11, 33) := id rfl
theorem g_X11_227 {ld : Nat → QV} {Γ : Nat → Nat × QP} {rk : Nat} {Rt : Option QV → QM → Prop} {sk : Nat → Option (List QE)} {S : Nat → QL → List QV → QM → Prop} {n pc nx : Nat} {tg : List (Int × Nat)} {r : List QE} {ls : QL} {st : List QV} {μ : QM} : q_vc fl_X11 ld Γ q_T rk Rt sk S (n + 1) ((.getfield 227, nx, tg) :: r) pc ls (.inr (.inr 85) :: st) μ = q_vc fl_X11 ld Γ q_T rk Rt sk S n r nx ls (.inl (μ 85 32) :: st) μ := propext ⟨fun h => h.2, fun h => ⟨rfl, h⟩⟩
theorem p_X11_227 {ld : Nat → QV} {Γ : Nat → Nat × QP} {rk : Nat} {Rt : Option QV → QM → Prop} {sk : Nat → Option (List QE)} {S : Nat → QL → List QV → QM → Prop} {n pc nx : Nat} {tg : List (Int × Nat)} {r : List QE} {ls : QL} {st : List QV} {μ : QM} {z : Int} : q_vc fl_X11 ld Γ q_T rk Rt sk S (n + 1) ((.putfield 227, nx, tg) :: r) pc ls (.inl z :: .inr (.inr 85) :: st) μ = (q_vc fl_X11 ld Γ q_T rk Rt sk S n r nx ls st (q_up μ 85 32 z)) := propext ⟨fun h => h.2, fun h => ⟨rfl, h⟩⟩
theorem fl_X11_227 : fl_X11 227 = (11, 32) := id rfl
theorem g_X11_230 {ld : Nat → QV} {Γ : Nat → Nat × QP} {rk : Nat} {Rt : Option QV → QM → Prop} {sk : Nat → Option (List QE)} {S : Nat → QL → List QV → QM → Prop} {n pc nx : Nat} {tg : List (Int × Nat)} {r : List QE} {ls : QL} {st : List QV} {μ : QM} : q_vc fl_X11 ld Γ q_T rk Rt sk S (n + 1) ((.getfield 230, nx, tg) :: r) pc ls (.inr (.inr 85) :: st) μ = q_vc fl_X11 ld Γ q_T rk Rt sk S n r nx ls (.inr (.inl (μ 85 35)) :: st) μ := propext ⟨fun h => h.2, fun h => ⟨rfl, h⟩⟩
theorem p_X11_230 {ld : Nat → QV} {Γ : Nat → Nat × QP} {rk : Nat} {Rt : Option QV → QM → Prop} {sk : Nat → Option (List QE)} {S : Nat → QL → List QV → QM → Prop} {n pc nx : Nat} {tg : List (Int × Nat)} {r : List QE} {ls : QL} {st : List QV} {μ : QM} {z : Int} : q_vc fl_X11 ld Γ q_T rk Rt sk S (n + 1) ((.putfield 230, nx, tg) :: r) pc ls (.inr (.inl z) :: .inr (.inr 85) :: st) μ = (q_vc fl_X11 ld Γ q_T rk Rt sk S n r nx ls st (q_up μ 85 35 z)) := propext ⟨fun h => h.2, fun h => ⟨rfl, h⟩⟩
theorem fl_X11_230 : fl_X11 230 = (11, 35) := id rfl
theorem g_X11_239 {ld : Nat → QV} {Γ : Nat → Nat × QP} {rk : Nat} {Rt : Option QV → QM → Prop} {sk : Nat → Option (List QE)} {S : Nat → QL → List QV → QM → Prop} {n pc nx : Nat} {tg : List (Int × Nat)} {r : List QE} {ls : QL} {st : List QV} {μ : QM} : q_vc fl_X11 ld Γ q_T rk Rt sk S (n + 1) ((.getfield 239, nx, tg) :: r) pc ls (.inr (.inr 85) :: st) μ = q_vc fl_X11 ld Γ q_T rk Rt sk S n r nx ls (.inl (μ 85 34) :: st) μ := propext ⟨fun h => h.2, fun h => ⟨rfl, h⟩⟩
theorem p_X11_239 {ld : Nat → QV} {Γ : Nat → Nat × QP} {rk : Nat} {Rt : Option QV → QM → Prop} {sk : Nat → Option (List QE)} {S : Nat → QL → List QV → QM → Prop} {n pc nx : Nat} {tg : List (Int × Nat)} {r : List QE} {ls : QL} {st : List QV} {μ : QM} {z : Int} : q_vc fl_X11 ld Γ q_T rk Rt sk S (n + 1) ((.putfield 239, nx, tg) :: r) pc ls (.inl z :: .inr (.inr 85) :: st) μ = (q_vc fl_X11 ld Γ q_T rk Rt sk S n r nx ls st (q_up μ 85 34 z)) := propext ⟨fun h => h.2, fun h => ⟨rfl, h⟩⟩
theorem fl_X11_239 : fl_X11 239 = (11, 34) := id rfl
theorem g_X11_250 {ld : Nat → QV} {Γ : Nat → Nat × QP} {rk : Nat} {Rt : Option QV → QM → Prop} {sk : Nat → Option (List QE)} {S : Nat → QL → List QV → QM → Prop} {n pc nx : Nat} {tg : List (Int × Nat)} {r : List QE} {ls : QL} {st : List QV} {μ : QM} : q_vc fl_X11 ld Γ q_T rk Rt sk S (n + 1) ((.getfield 250, nx, tg) :: r) pc ls (.inr (.inr 85) :: st) μ = q_vc fl_X11 ld Γ q_T rk Rt sk S n r nx ls (.inl (μ 85 37) :: st) μ := propext ⟨fun h => h.2, fun h => ⟨rfl, h⟩⟩
theorem p_X11_250 {ld : Nat → QV} {Γ : Nat → Nat × QP} {rk : Nat} {Rt : Option QV → QM → Prop} {sk : Nat → Option (List QE)} {S : Nat → QL → List QV → QM → Prop} {n pc nx : Nat} {tg : List (Int × Nat)} {r : List QE} {ls : QL} {st : List QV} {μ : QM} {z : Int} : q_vc fl_X11 ld Γ q_T rk Rt sk S (n + 1) ((.putfield 250, nx, tg) :: r) pc ls (.inl z :: .inr (.inr 85) :: st) μ = ((z = 0 ∨ z = 1) ∧ q_vc fl_X11 ld Γ q_T rk Rt sk S n r nx ls st (q_up μ 85 37 z)) := propext ⟨fun h => h.2, fun h => ⟨rfl, h⟩⟩
theorem fl_X11_250 : fl_X11 250 = (11, 37) := id rfl
theorem g_X11_269 {ld : Nat → QV} {Γ : Nat → Nat × QP} {rk : Nat} {Rt : Option QV → QM → Prop} {sk : Nat → Option (List QE)} {S : Nat → QL → List QV → QM → Prop} {n pc nx : Nat} {tg : List (Int × Nat)} {r : List QE} {ls : QL} {st : List QV} {μ : QM} : q_vc fl_X11 ld Γ q_T rk Rt sk S (n + 1) ((.getfield 269, nx, tg) :: r) pc ls (.inr (.inr 85) :: st) μ = q_vc fl_X11 ld Γ q_T rk Rt sk S n r nx ls (.inl (μ 85 23) :: st) μ := propext ⟨fun h => h.2, fun h => ⟨rfl, h⟩⟩
theorem p_X11_269 {ld : Nat → QV} {Γ : Nat → Nat × QP} {rk : Nat} {Rt : Option QV → QM → Prop} {sk : Nat → Option (List QE)} {S : Nat → QL → List QV → QM → Prop} {n pc nx : Nat} {tg : List (Int × Nat)} {r : List QE} {ls : QL} {st : List QV} {μ : QM} {z : Int} : q_vc fl_X11 ld Γ q_T rk Rt sk S (n + 1) ((.putfield 269, nx, tg) :: r) pc ls (.inl z :: .inr (.inr 85) :: st) μ = (q_vc fl_X11 ld Γ q_T rk Rt sk S n r nx ls st (q_up μ 85 23 z)) := propext ⟨fun h => h.2, fun h => ⟨rfl, h⟩⟩
theorem fl_X11_269 : fl_X11 269 = (11, 23) := id rfl
def fl_J6 : Nat → Nat × Nat := fun i => match i with
  | _ => (99, 0)
def ld_J6 : Nat → QV := fun i => match i with
  | 265 => .inl (1431655765)
  | 266 => .inl (858993459)
  | 267 => .inl (252645135)
  | _ => .inl 0
theorem ld_J6_265 : ld_J6 265 = .inl (1431655765) := id rfl
theorem ld_J6_266 : ld_J6 266 = .inl (858993459) := id rfl
theorem ld_J6_267 : ld_J6 267 = .inl (252645135) := id rfl
def fl_J7 : Nat → Nat × Nat := fun i => match i with
  | _ => (99, 0)
def ld_J7 : Nat → QV := fun i => match i with
  | _ => .inl 0
def fl_J9 : Nat → Nat × Nat := fun i => match i with
  | _ => (99, 0)
def ld_J9 : Nat → QV := fun i => match i with
  | _ => .inl 0
