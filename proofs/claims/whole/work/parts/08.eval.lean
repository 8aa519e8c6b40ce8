section QV8
variable {fl : Nat → Nat × Nat} {ld : Nat → QV} {Γ : Nat → Nat × QP} {T : Int → Option QS} {rk : Nat} {Rt : Option QV → QM → Prop} {sk : Nat → Option (List QE)} {S : Nat → QL → List QV → QM → Prop} {n pc nx t9 : Nat} {tg : List (Int × Nat)} {r : List QE} {ls : QL} {st : List QV} {μ : QM}
def q_opt (o : Option (List QE)) (f : List QE → Prop) (g : Prop) : Prop := match o with
  | none => g
  | some b => f b
theorem v_opt_n (f : List QE → Prop) (g : Prop) : q_opt none f g = g := propext Iff.rfl
theorem v_opt_s (b : List QE) (f : List QE → Prop) (g : Prop) : q_opt (some b) f g = f b := propext Iff.rfl
theorem v_nil : q_vc fl ld Γ T rk Rt sk S (n + 1) [] pc ls st μ = q_opt (sk pc) (fun b => q_vc fl ld Γ T rk Rt sk S n b pc ls st μ) (S pc ls st μ) := by show (match sk pc with | none => _ | some b => _) = _; cases sk pc <;> rfl
theorem v_iconst {v : Int} : q_vc fl ld Γ T rk Rt sk S (n + 1) ((.iconst v, nx, tg) :: r) pc ls (st) μ = (q_vc fl ld Γ T rk Rt sk S n r nx ls (.inl v :: st) μ) := propext Iff.rfl
theorem v_bipush {v : Int} : q_vc fl ld Γ T rk Rt sk S (n + 1) ((.bipush v, nx, tg) :: r) pc ls (st) μ = ((-128 ≤ v ∧ v < 128) ∧ q_vc fl ld Γ T rk Rt sk S n r nx ls (.inl v :: st) μ) := propext Iff.rfl
theorem v_sipush {v : Int} : q_vc fl ld Γ T rk Rt sk S (n + 1) ((.sipush v, nx, tg) :: r) pc ls (st) μ = ((-32768 ≤ v ∧ v < 32768) ∧ q_vc fl ld Γ T rk Rt sk S n r nx ls (.inl v :: st) μ) := propext Iff.rfl
theorem v_lconst0  : q_vc fl ld Γ T rk Rt sk S (n + 1) ((.lconst 0, nx, tg) :: r) pc ls (st) μ = (q_vc fl ld Γ T rk Rt sk S n r nx ls (.inr (.inl 0) :: st) μ) := propext Iff.rfl
theorem v_lconst1  : q_vc fl ld Γ T rk Rt sk S (n + 1) ((.lconst 1, nx, tg) :: r) pc ls (st) μ = (q_vc fl ld Γ T rk Rt sk S n r nx ls (.inr (.inl 1) :: st) μ) := propext Iff.rfl
theorem v_ldc {i : Nat} : q_vc fl ld Γ T rk Rt sk S (n + 1) ((.ldc i, nx, tg) :: r) pc ls (st) μ = (q_ct (ld i) = 1 ∧ q_vc fl ld Γ T rk Rt sk S n r nx ls (ld i :: st) μ) := propext Iff.rfl
theorem v_ldcw {i : Nat} : q_vc fl ld Γ T rk Rt sk S (n + 1) ((.ldc_w i, nx, tg) :: r) pc ls (st) μ = (q_int (some (ld i)) (fun z => q_vc fl ld Γ T rk Rt sk S n r nx ls (.inl z :: st) μ)) := propext Iff.rfl
theorem v_ldc2 {i : Nat} : q_vc fl ld Γ T rk Rt sk S (n + 1) ((.ldc2_w i, nx, tg) :: r) pc ls (st) μ = (q_lng (some (ld i)) (fun z => q_vc fl ld Γ T rk Rt sk S n r nx ls (.inr (.inl z) :: st) μ)) := propext Iff.rfl
theorem v_iload0  : q_vc fl ld Γ T rk Rt sk S (n + 1) ((.iload_n 0, nx, tg) :: r) pc ls (st) μ = (q_int (q_lg ls 0) (fun z => q_vc fl ld Γ T rk Rt sk S n r nx ls (.inl z :: st) μ)) := propext Iff.rfl
theorem v_iload1  : q_vc fl ld Γ T rk Rt sk S (n + 1) ((.iload_n 1, nx, tg) :: r) pc ls (st) μ = (q_int (q_lg ls 1) (fun z => q_vc fl ld Γ T rk Rt sk S n r nx ls (.inl z :: st) μ)) := propext Iff.rfl
theorem v_iload2  : q_vc fl ld Γ T rk Rt sk S (n + 1) ((.iload_n 2, nx, tg) :: r) pc ls (st) μ = (q_int (q_lg ls 2) (fun z => q_vc fl ld Γ T rk Rt sk S n r nx ls (.inl z :: st) μ)) := propext Iff.rfl
theorem v_iload3  : q_vc fl ld Γ T rk Rt sk S (n + 1) ((.iload_n 3, nx, tg) :: r) pc ls (st) μ = (q_int (q_lg ls 3) (fun z => q_vc fl ld Γ T rk Rt sk S n r nx ls (.inl z :: st) μ)) := propext Iff.rfl
theorem v_iload {i : Nat} : q_vc fl ld Γ T rk Rt sk S (n + 1) ((.iload i, nx, tg) :: r) pc ls (st) μ = (q_int (q_lg ls i) (fun z => q_vc fl ld Γ T rk Rt sk S n r nx ls (.inl z :: st) μ)) := propext Iff.rfl
theorem v_lload0  : q_vc fl ld Γ T rk Rt sk S (n + 1) ((.lload_n 0, nx, tg) :: r) pc ls (st) μ = (q_lng (q_lg ls 0) (fun z => q_vc fl ld Γ T rk Rt sk S n r nx ls (.inr (.inl z) :: st) μ)) := propext Iff.rfl
theorem v_lload1  : q_vc fl ld Γ T rk Rt sk S (n + 1) ((.lload_n 1, nx, tg) :: r) pc ls (st) μ = (q_lng (q_lg ls 1) (fun z => q_vc fl ld Γ T rk Rt sk S n r nx ls (.inr (.inl z) :: st) μ)) := propext Iff.rfl
theorem v_lload2  : q_vc fl ld Γ T rk Rt sk S (n + 1) ((.lload_n 2, nx, tg) :: r) pc ls (st) μ = (q_lng (q_lg ls 2) (fun z => q_vc fl ld Γ T rk Rt sk S n r nx ls (.inr (.inl z) :: st) μ)) := propext Iff.rfl
theorem v_lload3  : q_vc fl ld Γ T rk Rt sk S (n + 1) ((.lload_n 3, nx, tg) :: r) pc ls (st) μ = (q_lng (q_lg ls 3) (fun z => q_vc fl ld Γ T rk Rt sk S n r nx ls (.inr (.inl z) :: st) μ)) := propext Iff.rfl
theorem v_lload {i : Nat} : q_vc fl ld Γ T rk Rt sk S (n + 1) ((.lload i, nx, tg) :: r) pc ls (st) μ = (q_lng (q_lg ls i) (fun z => q_vc fl ld Γ T rk Rt sk S n r nx ls (.inr (.inl z) :: st) μ)) := propext Iff.rfl
theorem v_aload0  : q_vc fl ld Γ T rk Rt sk S (n + 1) ((.aload_n 0, nx, tg) :: r) pc ls (st) μ = (q_ref (q_lg ls 0) (fun z => q_vc fl ld Γ T rk Rt sk S n r nx ls (.inr (.inr z) :: st) μ)) := propext Iff.rfl
theorem v_aload1  : q_vc fl ld Γ T rk Rt sk S (n + 1) ((.aload_n 1, nx, tg) :: r) pc ls (st) μ = (q_ref (q_lg ls 1) (fun z => q_vc fl ld Γ T rk Rt sk S n r nx ls (.inr (.inr z) :: st) μ)) := propext Iff.rfl
theorem v_aload2  : q_vc fl ld Γ T rk Rt sk S (n + 1) ((.aload_n 2, nx, tg) :: r) pc ls (st) μ = (q_ref (q_lg ls 2) (fun z => q_vc fl ld Γ T rk Rt sk S n r nx ls (.inr (.inr z) :: st) μ)) := propext Iff.rfl
theorem v_aload3  : q_vc fl ld Γ T rk Rt sk S (n + 1) ((.aload_n 3, nx, tg) :: r) pc ls (st) μ = (q_ref (q_lg ls 3) (fun z => q_vc fl ld Γ T rk Rt sk S n r nx ls (.inr (.inr z) :: st) μ)) := propext Iff.rfl
theorem v_aload {i : Nat} : q_vc fl ld Γ T rk Rt sk S (n + 1) ((.aload i, nx, tg) :: r) pc ls (st) μ = (q_ref (q_lg ls i) (fun z => q_vc fl ld Γ T rk Rt sk S n r nx ls (.inr (.inr z) :: st) μ)) := propext Iff.rfl
theorem v_istore0 {z : Int} : q_vc fl ld Γ T rk Rt sk S (n + 1) ((.istore_n 0, nx, tg) :: r) pc ls (.inl z :: st) μ = (q_vc fl ld Γ T rk Rt sk S n r nx (q_l1 ls 0 (.inl z)) (st) μ) := propext Iff.rfl
theorem v_istore1 {z : Int} : q_vc fl ld Γ T rk Rt sk S (n + 1) ((.istore_n 1, nx, tg) :: r) pc ls (.inl z :: st) μ = (q_vc fl ld Γ T rk Rt sk S n r nx (q_l1 ls 1 (.inl z)) (st) μ) := propext Iff.rfl
theorem v_istore2 {z : Int} : q_vc fl ld Γ T rk Rt sk S (n + 1) ((.istore_n 2, nx, tg) :: r) pc ls (.inl z :: st) μ = (q_vc fl ld Γ T rk Rt sk S n r nx (q_l1 ls 2 (.inl z)) (st) μ) := propext Iff.rfl
theorem v_istore3 {z : Int} : q_vc fl ld Γ T rk Rt sk S (n + 1) ((.istore_n 3, nx, tg) :: r) pc ls (.inl z :: st) μ = (q_vc fl ld Γ T rk Rt sk S n r nx (q_l1 ls 3 (.inl z)) (st) μ) := propext Iff.rfl
theorem v_istore {z : Int} {i : Nat} : q_vc fl ld Γ T rk Rt sk S (n + 1) ((.istore i, nx, tg) :: r) pc ls (.inl z :: st) μ = (q_vc fl ld Γ T rk Rt sk S n r nx (q_l1 ls i (.inl z)) (st) μ) := propext Iff.rfl
theorem v_lstore0 {z : Int} : q_vc fl ld Γ T rk Rt sk S (n + 1) ((.lstore_n 0, nx, tg) :: r) pc ls (.inr (.inl z) :: st) μ = (q_vc fl ld Γ T rk Rt sk S n r nx (q_l2 ls 0 (.inr (.inl z))) (st) μ) := propext Iff.rfl
theorem v_lstore1 {z : Int} : q_vc fl ld Γ T rk Rt sk S (n + 1) ((.lstore_n 1, nx, tg) :: r) pc ls (.inr (.inl z) :: st) μ = (q_vc fl ld Γ T rk Rt sk S n r nx (q_l2 ls 1 (.inr (.inl z))) (st) μ) := propext Iff.rfl
theorem v_lstore2 {z : Int} : q_vc fl ld Γ T rk Rt sk S (n + 1) ((.lstore_n 2, nx, tg) :: r) pc ls (.inr (.inl z) :: st) μ = (q_vc fl ld Γ T rk Rt sk S n r nx (q_l2 ls 2 (.inr (.inl z))) (st) μ) := propext Iff.rfl
theorem v_lstore3 {z : Int} : q_vc fl ld Γ T rk Rt sk S (n + 1) ((.lstore_n 3, nx, tg) :: r) pc ls (.inr (.inl z) :: st) μ = (q_vc fl ld Γ T rk Rt sk S n r nx (q_l2 ls 3 (.inr (.inl z))) (st) μ) := propext Iff.rfl
theorem v_lstore {z : Int} {i : Nat} : q_vc fl ld Γ T rk Rt sk S (n + 1) ((.lstore i, nx, tg) :: r) pc ls (.inr (.inl z) :: st) μ = (q_vc fl ld Γ T rk Rt sk S n r nx (q_l2 ls i (.inr (.inl z))) (st) μ) := propext Iff.rfl
theorem v_astore0 {z : Int} : q_vc fl ld Γ T rk Rt sk S (n + 1) ((.astore_n 0, nx, tg) :: r) pc ls (.inr (.inr z) :: st) μ = (0 ≤ z ∧ q_vc fl ld Γ T rk Rt sk S n r nx (q_l1 ls 0 (.inr (.inr z))) (st) μ) := propext Iff.rfl
theorem v_astore1 {z : Int} : q_vc fl ld Γ T rk Rt sk S (n + 1) ((.astore_n 1, nx, tg) :: r) pc ls (.inr (.inr z) :: st) μ = (0 ≤ z ∧ q_vc fl ld Γ T rk Rt sk S n r nx (q_l1 ls 1 (.inr (.inr z))) (st) μ) := propext Iff.rfl
theorem v_astore2 {z : Int} : q_vc fl ld Γ T rk Rt sk S (n + 1) ((.astore_n 2, nx, tg) :: r) pc ls (.inr (.inr z) :: st) μ = (0 ≤ z ∧ q_vc fl ld Γ T rk Rt sk S n r nx (q_l1 ls 2 (.inr (.inr z))) (st) μ) := propext Iff.rfl
theorem v_astore3 {z : Int} : q_vc fl ld Γ T rk Rt sk S (n + 1) ((.astore_n 3, nx, tg) :: r) pc ls (.inr (.inr z) :: st) μ = (0 ≤ z ∧ q_vc fl ld Γ T rk Rt sk S n r nx (q_l1 ls 3 (.inr (.inr z))) (st) μ) := propext Iff.rfl
theorem v_astore {z : Int} {i : Nat} : q_vc fl ld Γ T rk Rt sk S (n + 1) ((.astore i, nx, tg) :: r) pc ls (.inr (.inr z) :: st) μ = (0 ≤ z ∧ q_vc fl ld Γ T rk Rt sk S n r nx (q_l1 ls i (.inr (.inr z))) (st) μ) := propext Iff.rfl
theorem v_iinc {i : Nat} {v : Int} : q_vc fl ld Γ T rk Rt sk S (n + 1) ((.iinc i v, nx, tg) :: r) pc ls (st) μ = (q_int (q_lg ls i) (fun z => q_vc fl ld Γ T rk Rt sk S n r nx (q_l1 ls i (.inl (z + v))) (st) μ)) := propext Iff.rfl
theorem v_iadd {a b : Int} : q_vc fl ld Γ T rk Rt sk S (n + 1) ((.iadd, nx, tg) :: r) pc ls (.inl b :: .inl a :: st) μ = (q_vc fl ld Γ T rk Rt sk S n r nx ls (.inl (a + b) :: st) μ) := propext Iff.rfl
theorem v_isub {a b : Int} : q_vc fl ld Γ T rk Rt sk S (n + 1) ((.isub, nx, tg) :: r) pc ls (.inl b :: .inl a :: st) μ = (q_vc fl ld Γ T rk Rt sk S n r nx ls (.inl (a - b) :: st) μ) := propext Iff.rfl
theorem v_imul {a b : Int} : q_vc fl ld Γ T rk Rt sk S (n + 1) ((.imul, nx, tg) :: r) pc ls (.inl b :: .inl a :: st) μ = (q_vc fl ld Γ T rk Rt sk S n r nx ls (.inl (a * b) :: st) μ) := propext Iff.rfl
theorem v_iand {a b : Int} : q_vc fl ld Γ T rk Rt sk S (n + 1) ((.iand, nx, tg) :: r) pc ls (.inl b :: .inl a :: st) μ = (q_vc fl ld Γ T rk Rt sk S n r nx ls (.inl (q_and a b) :: st) μ) := propext Iff.rfl
theorem v_ior {a b : Int} : q_vc fl ld Γ T rk Rt sk S (n + 1) ((.ior, nx, tg) :: r) pc ls (.inl b :: .inl a :: st) μ = (q_vc fl ld Γ T rk Rt sk S n r nx ls (.inl (q_or a b) :: st) μ) := propext Iff.rfl
theorem v_ixor {a b : Int} : q_vc fl ld Γ T rk Rt sk S (n + 1) ((.ixor, nx, tg) :: r) pc ls (.inl b :: .inl a :: st) μ = (q_vc fl ld Γ T rk Rt sk S n r nx ls (.inl (q_xor a b) :: st) μ) := propext Iff.rfl
theorem v_ishl {a b : Int} : q_vc fl ld Γ T rk Rt sk S (n + 1) ((.ishl, nx, tg) :: r) pc ls (.inl b :: .inl a :: st) μ = (q_vc fl ld Γ T rk Rt sk S n r nx ls (.inl (q_shl a b) :: st) μ) := propext Iff.rfl
theorem v_ishr {a b : Int} : q_vc fl ld Γ T rk Rt sk S (n + 1) ((.ishr, nx, tg) :: r) pc ls (.inl b :: .inl a :: st) μ = (q_vc fl ld Γ T rk Rt sk S n r nx ls (.inl (q_shr a b) :: st) μ) := propext Iff.rfl
theorem v_iushr {a b : Int} : q_vc fl ld Γ T rk Rt sk S (n + 1) ((.iushr, nx, tg) :: r) pc ls (.inl b :: .inl a :: st) μ = (q_vc fl ld Γ T rk Rt sk S n r nx ls (.inl (q_ush a b) :: st) μ) := propext Iff.rfl
theorem v_ineg {a : Int} : q_vc fl ld Γ T rk Rt sk S (n + 1) ((.ineg, nx, tg) :: r) pc ls (.inl a :: st) μ = (q_vc fl ld Γ T rk Rt sk S n r nx ls (.inl (-a) :: st) μ) := propext Iff.rfl
theorem v_idiv {a b : Int} : q_vc fl ld Γ T rk Rt sk S (n + 1) ((.idiv, nx, tg) :: r) pc ls (.inl b :: .inl a :: st) μ = ((0 ≤ a ∧ a ≤ 2147483647 ∧ 0 < b ∧ b ≤ 2147483647) ∧ q_vc fl ld Γ T rk Rt sk S n r nx ls (.inl (a / b) :: st) μ) := propext Iff.rfl
theorem v_irem {a b : Int} : q_vc fl ld Γ T rk Rt sk S (n + 1) ((.irem, nx, tg) :: r) pc ls (.inl b :: .inl a :: st) μ = ((0 ≤ a ∧ a ≤ 2147483647 ∧ 0 < b ∧ b ≤ 2147483647) ∧ q_vc fl ld Γ T rk Rt sk S n r nx ls (.inl (a % b) :: st) μ) := propext Iff.rfl
theorem v_ladd {a b : Int} : q_vc fl ld Γ T rk Rt sk S (n + 1) ((.ladd, nx, tg) :: r) pc ls (.inr (.inl b) :: .inr (.inl a) :: st) μ = (q_vc fl ld Γ T rk Rt sk S n r nx ls (.inr (.inl (a + b)) :: st) μ) := propext Iff.rfl
theorem v_lsub {a b : Int} : q_vc fl ld Γ T rk Rt sk S (n + 1) ((.lsub, nx, tg) :: r) pc ls (.inr (.inl b) :: .inr (.inl a) :: st) μ = (q_vc fl ld Γ T rk Rt sk S n r nx ls (.inr (.inl (a - b)) :: st) μ) := propext Iff.rfl
theorem v_lmul {a b : Int} : q_vc fl ld Γ T rk Rt sk S (n + 1) ((.lmul, nx, tg) :: r) pc ls (.inr (.inl b) :: .inr (.inl a) :: st) μ = (q_vc fl ld Γ T rk Rt sk S n r nx ls (.inr (.inl (a * b)) :: st) μ) := propext Iff.rfl
theorem v_lcmp {a b : Int} : q_vc fl ld Γ T rk Rt sk S (n + 1) ((.lcmp, nx, tg) :: r) pc ls (.inr (.inl b) :: .inr (.inl a) :: st) μ = ((q_R a ∧ q_R b) ∧ q_vc fl ld Γ T rk Rt sk S n r nx ls (.inl (q_cmp a b) :: st) μ) := propext Iff.rfl
theorem v_i2l {a : Int} : q_vc fl ld Γ T rk Rt sk S (n + 1) ((.i2l, nx, tg) :: r) pc ls (.inl a :: st) μ = (q_r a ∧ q_vc fl ld Γ T rk Rt sk S n r nx ls (.inr (.inl a) :: st) μ) := propext Iff.rfl
theorem v_l2i {a : Int} : q_vc fl ld Γ T rk Rt sk S (n + 1) ((.l2i, nx, tg) :: r) pc ls (.inr (.inl a) :: st) μ = (q_vc fl ld Γ T rk Rt sk S n r nx ls (.inl a :: st) μ) := propext Iff.rfl
theorem v_i2c {a : Int} : q_vc fl ld Γ T rk Rt sk S (n + 1) ((.i2c, nx, tg) :: r) pc ls (.inl a :: st) μ = ((0 ≤ a ∧ a < 65536) ∧ q_vc fl ld Γ T rk Rt sk S n r nx ls (.inl a :: st) μ) := propext Iff.rfl
theorem v_dup {v : QV} : q_vc fl ld Γ T rk Rt sk S (n + 1) ((.dup, nx, tg) :: r) pc ls (v :: st) μ = (q_ct v = 1 ∧ q_vc fl ld Γ T rk Rt sk S n r nx ls (v :: v :: st) μ) := propext Iff.rfl
theorem v_dup2 {v w : QV} : q_vc fl ld Γ T rk Rt sk S (n + 1) ((.dup2, nx, tg) :: r) pc ls (v :: w :: st) μ = ((q_ct v = 1 ∧ q_ct w = 1) ∧ q_vc fl ld Γ T rk Rt sk S n r nx ls (v :: w :: v :: w :: st) μ) := propext Iff.rfl
theorem v_if_eq {a o x9 : Int} : q_vc fl ld Γ T rk Rt sk S (n + 1) ((.ifCond .eq o, nx, [(x9, t9)]) :: r) pc ls (.inl a :: st) μ = (q_r a ∧ (a = 0 → q_vc fl ld Γ T rk Rt sk S n [] t9 ls st μ) ∧ (¬ a = 0 → q_vc fl ld Γ T rk Rt sk S n r nx ls st μ)) := propext Iff.rfl
theorem v_if_ne {a o x9 : Int} : q_vc fl ld Γ T rk Rt sk S (n + 1) ((.ifCond .ne o, nx, [(x9, t9)]) :: r) pc ls (.inl a :: st) μ = (q_r a ∧ (¬ a = 0 → q_vc fl ld Γ T rk Rt sk S n [] t9 ls st μ) ∧ (a = 0 → q_vc fl ld Γ T rk Rt sk S n r nx ls st μ)) := propext Iff.rfl
theorem v_if_lt {a o x9 : Int} : q_vc fl ld Γ T rk Rt sk S (n + 1) ((.ifCond .lt o, nx, [(x9, t9)]) :: r) pc ls (.inl a :: st) μ = (q_r a ∧ (a < 0 → q_vc fl ld Γ T rk Rt sk S n [] t9 ls st μ) ∧ (¬ a < 0 → q_vc fl ld Γ T rk Rt sk S n r nx ls st μ)) := propext Iff.rfl
theorem v_if_ge {a o x9 : Int} : q_vc fl ld Γ T rk Rt sk S (n + 1) ((.ifCond .ge o, nx, [(x9, t9)]) :: r) pc ls (.inl a :: st) μ = (q_r a ∧ (0 ≤ a → q_vc fl ld Γ T rk Rt sk S n [] t9 ls st μ) ∧ (¬ 0 ≤ a → q_vc fl ld Γ T rk Rt sk S n r nx ls st μ)) := propext Iff.rfl
theorem v_if_gt {a o x9 : Int} : q_vc fl ld Γ T rk Rt sk S (n + 1) ((.ifCond .gt o, nx, [(x9, t9)]) :: r) pc ls (.inl a :: st) μ = (q_r a ∧ (0 < a → q_vc fl ld Γ T rk Rt sk S n [] t9 ls st μ) ∧ (¬ 0 < a → q_vc fl ld Γ T rk Rt sk S n r nx ls st μ)) := propext Iff.rfl
theorem v_if_le {a o x9 : Int} : q_vc fl ld Γ T rk Rt sk S (n + 1) ((.ifCond .le o, nx, [(x9, t9)]) :: r) pc ls (.inl a :: st) μ = (q_r a ∧ (a ≤ 0 → q_vc fl ld Γ T rk Rt sk S n [] t9 ls st μ) ∧ (¬ a ≤ 0 → q_vc fl ld Γ T rk Rt sk S n r nx ls st μ)) := propext Iff.rfl
theorem v_ic_eq {a b o x9 : Int} : q_vc fl ld Γ T rk Rt sk S (n + 1) ((.if_icmp .eq o, nx, [(x9, t9)]) :: r) pc ls (.inl b :: .inl a :: st) μ = ((q_r a ∧ q_r b) ∧ (a = b → q_vc fl ld Γ T rk Rt sk S n [] t9 ls st μ) ∧ (¬ a = b → q_vc fl ld Γ T rk Rt sk S n r nx ls st μ)) := propext Iff.rfl
theorem v_ic_ne {a b o x9 : Int} : q_vc fl ld Γ T rk Rt sk S (n + 1) ((.if_icmp .ne o, nx, [(x9, t9)]) :: r) pc ls (.inl b :: .inl a :: st) μ = ((q_r a ∧ q_r b) ∧ (¬ a = b → q_vc fl ld Γ T rk Rt sk S n [] t9 ls st μ) ∧ (a = b → q_vc fl ld Γ T rk Rt sk S n r nx ls st μ)) := propext Iff.rfl
theorem v_ic_lt {a b o x9 : Int} : q_vc fl ld Γ T rk Rt sk S (n + 1) ((.if_icmp .lt o, nx, [(x9, t9)]) :: r) pc ls (.inl b :: .inl a :: st) μ = ((q_r a ∧ q_r b) ∧ (a < b → q_vc fl ld Γ T rk Rt sk S n [] t9 ls st μ) ∧ (¬ a < b → q_vc fl ld Γ T rk Rt sk S n r nx ls st μ)) := propext Iff.rfl
theorem v_ic_ge {a b o x9 : Int} : q_vc fl ld Γ T rk Rt sk S (n + 1) ((.if_icmp .ge o, nx, [(x9, t9)]) :: r) pc ls (.inl b :: .inl a :: st) μ = ((q_r a ∧ q_r b) ∧ (b ≤ a → q_vc fl ld Γ T rk Rt sk S n [] t9 ls st μ) ∧ (¬ b ≤ a → q_vc fl ld Γ T rk Rt sk S n r nx ls st μ)) := propext Iff.rfl
theorem v_ic_gt {a b o x9 : Int} : q_vc fl ld Γ T rk Rt sk S (n + 1) ((.if_icmp .gt o, nx, [(x9, t9)]) :: r) pc ls (.inl b :: .inl a :: st) μ = ((q_r a ∧ q_r b) ∧ (b < a → q_vc fl ld Γ T rk Rt sk S n [] t9 ls st μ) ∧ (¬ b < a → q_vc fl ld Γ T rk Rt sk S n r nx ls st μ)) := propext Iff.rfl
theorem v_ic_le {a b o x9 : Int} : q_vc fl ld Γ T rk Rt sk S (n + 1) ((.if_icmp .le o, nx, [(x9, t9)]) :: r) pc ls (.inl b :: .inl a :: st) μ = ((q_r a ∧ q_r b) ∧ (a ≤ b → q_vc fl ld Γ T rk Rt sk S n [] t9 ls st μ) ∧ (¬ a ≤ b → q_vc fl ld Γ T rk Rt sk S n r nx ls st μ)) := propext Iff.rfl
theorem v_goto {o x9 : Int} : q_vc fl ld Γ T rk Rt sk S (n + 1) ((.goto o, nx, [(x9, t9)]) :: r) pc ls (st) μ = (q_vc fl ld Γ T rk Rt sk S n [] t9 ls st μ) := propext Iff.rfl
theorem v_tsw {a d lo hi : Int} {offs : Array Int} : q_vc fl ld Γ T rk Rt sk S (n + 1) ((.tableswitch d lo hi offs, nx, tg) :: r) pc ls (.inl a :: st) μ = (q_r a ∧ q_sw a (fun t => q_vc fl ld Γ T rk Rt sk S n [] t ls st μ) tg) := propext Iff.rfl
theorem v_lsw {a d : Int} {ps : Array (Int × Int)} : q_vc fl ld Γ T rk Rt sk S (n + 1) ((.lookupswitch d ps, nx, tg) :: r) pc ls (.inl a :: st) μ = (q_r a ∧ q_sw a (fun t => q_vc fl ld Γ T rk Rt sk S n [] t ls st μ) tg) := propext Iff.rfl
theorem v_ireturn {a : Int} : q_vc fl ld Γ T rk Rt sk S (n + 1) ((.ireturn, nx, tg) :: r) pc ls ([.inl a]) μ = (q_rk rk a ∧ Rt (some (.inl a)) μ) := propext Iff.rfl
theorem v_areturn {a : Int} : q_vc fl ld Γ T rk Rt sk S (n + 1) ((.areturn, nx, tg) :: r) pc ls ([.inr (.inr a)]) μ = (rk = 3 ∧ 0 ≤ a ∧ Rt (some (.inr (.inr a))) μ) := propext Iff.rfl
theorem v_return  : q_vc fl ld Γ T rk Rt sk S (n + 1) ((.return_, nx, tg) :: r) pc ls ([]) μ = (rk = 4 ∧ Rt none μ) := propext Iff.rfl
theorem v_getf {a : Int} {i : Nat} : q_vc fl ld Γ T rk Rt sk S (n + 1) ((.getfield i, nx, tg) :: r) pc ls (.inr (.inr a) :: st) μ = (q_fd (T a) (fl i).1 (fl i).2 (fun sk9 => q_vc fl ld Γ T rk Rt sk S n r nx ls (q_sv μ a (fl i).2 sk9 :: st) μ)) := propext Iff.rfl
theorem v_putf {a : Int} {v : QV} {i : Nat} : q_vc fl ld Γ T rk Rt sk S (n + 1) ((.putfield i, nx, tg) :: r) pc ls (v :: .inr (.inr a) :: st) μ = (q_fd (T a) (fl i).1 (fl i).2 (fun sk9 => q_pf sk9 v (fun z => q_vc fl ld Γ T rk Rt sk S n r nx ls (st) (q_up μ a (fl i).2 z)))) := propext Iff.rfl
theorem v_iaload {a i : Int} : q_vc fl ld Γ T rk Rt sk S (n + 1) ((.iaload, nx, tg) :: r) pc ls (.inl i :: .inr (.inr a) :: st) μ = (q_ar (T a) 0 i (q_vc fl ld Γ T rk Rt sk S n r nx ls (.inl (μ a i) :: st) μ)) := propext Iff.rfl
theorem v_laload {a i : Int} : q_vc fl ld Γ T rk Rt sk S (n + 1) ((.laload, nx, tg) :: r) pc ls (.inl i :: .inr (.inr a) :: st) μ = (q_ar (T a) 1 i (q_vc fl ld Γ T rk Rt sk S n r nx ls (.inr (.inl (μ a i)) :: st) μ)) := propext Iff.rfl
theorem v_baload {a i : Int} : q_vc fl ld Γ T rk Rt sk S (n + 1) ((.baload, nx, tg) :: r) pc ls (.inl i :: .inr (.inr a) :: st) μ = (q_ar (T a) 2 i (q_vc fl ld Γ T rk Rt sk S n r nx ls (.inl (μ a i) :: st) μ)) := propext Iff.rfl
theorem v_caload {a i : Int} : q_vc fl ld Γ T rk Rt sk S (n + 1) ((.caload, nx, tg) :: r) pc ls (.inl i :: .inr (.inr a) :: st) μ = (q_ar (T a) 3 i (q_vc fl ld Γ T rk Rt sk S n r nx ls (.inl (μ a i) :: st) μ)) := propext Iff.rfl
theorem v_aaload {a i : Int} : q_vc fl ld Γ T rk Rt sk S (n + 1) ((.aaload, nx, tg) :: r) pc ls (.inl i :: .inr (.inr a) :: st) μ = (q_aa (T a) i (fun b => 0 ≤ b ∧ q_vc fl ld Γ T rk Rt sk S n r nx ls (.inr (.inr b) :: st) μ)) := propext Iff.rfl
theorem v_iastore {a i v : Int} : q_vc fl ld Γ T rk Rt sk S (n + 1) ((.iastore, nx, tg) :: r) pc ls (.inl v :: .inl i :: .inr (.inr a) :: st) μ = (q_ar (T a) 0 i (q_vc fl ld Γ T rk Rt sk S n r nx ls (st) (q_up μ a i v))) := propext Iff.rfl
theorem v_lastore {a i v : Int} : q_vc fl ld Γ T rk Rt sk S (n + 1) ((.lastore, nx, tg) :: r) pc ls (.inr (.inl v) :: .inl i :: .inr (.inr a) :: st) μ = (q_ar (T a) 1 i (q_vc fl ld Γ T rk Rt sk S n r nx ls (st) (q_up μ a i v))) := propext Iff.rfl
theorem v_bastore {a i v : Int} : q_vc fl ld Γ T rk Rt sk S (n + 1) ((.bastore, nx, tg) :: r) pc ls (.inl v :: .inl i :: .inr (.inr a) :: st) μ = (q_ar (T a) 2 i ((v = 0 ∨ v = 1) ∧ q_vc fl ld Γ T rk Rt sk S n r nx ls (st) (q_up μ a i v))) := propext Iff.rfl
theorem v_castore {a i v : Int} : q_vc fl ld Γ T rk Rt sk S (n + 1) ((.castore, nx, tg) :: r) pc ls (.inl v :: .inl i :: .inr (.inr a) :: st) μ = (q_ar (T a) 3 i ((0 ≤ v ∧ v < 65536) ∧ q_vc fl ld Γ T rk Rt sk S n r nx ls (st) (q_up μ a i v))) := propext Iff.rfl
theorem v_alen {a : Int} : q_vc fl ld Γ T rk Rt sk S (n + 1) ((.arraylength, nx, tg) :: r) pc ls (.inr (.inr a) :: st) μ = (q_al (T a) (fun m9 => q_vc fl ld Γ T rk Rt sk S n r nx ls (.inl m9 :: st) μ)) := propext Iff.rfl
theorem v_invvi {i : Nat} : q_vc fl ld Γ T rk Rt sk S (n + 1) ((.invokevirtual i, nx, tg) :: r) pc ls (st) μ = (q_inv (Γ i) st μ (fun st9 μ9 => q_vc fl ld Γ T rk Rt sk S n r nx ls (st9) μ9)) := propext Iff.rfl
theorem v_invst {i : Nat} : q_vc fl ld Γ T rk Rt sk S (n + 1) ((.invokestatic i, nx, tg) :: r) pc ls (st) μ = (q_inv (Γ i) st μ (fun st9 μ9 => q_vc fl ld Γ T rk Rt sk S n r nx ls (st9) μ9)) := propext Iff.rfl
theorem v_invsp {i : Nat} : q_vc fl ld Γ T rk Rt sk S (n + 1) ((.invokespecial i, nx, tg) :: r) pc ls (st) μ = (q_inv (Γ i) st μ (fun st9 μ9 => q_vc fl ld Γ T rk Rt sk S n r nx ls (st9) μ9)) := propext Iff.rfl
end QV8
theorem e_int (z : Int) (f : Int → Prop) : q_int (some (.inl z)) f = f z := id rfl
theorem e_lng (z : Int) (f : Int → Prop) : q_lng (some (.inr (.inl z))) f = f z := id rfl
theorem e_ref (z : Int) (f : Int → Prop) : q_ref (some (.inr (.inr z))) f = (0 ≤ z ∧ f z) := id rfl
theorem e_lg0 (x : Option QV) (t : QL) : q_lg (x :: t) 0 = x := id rfl
theorem e_lg1 (x0 x1 : Option QV) (t : QL) : q_lg (x0 :: x1 :: t) 1 = x1 := id rfl
theorem e_lg2 (x0 x1 x2 : Option QV) (t : QL) : q_lg (x0 :: x1 :: x2 :: t) 2 = x2 := id rfl
theorem e_lg3 (x0 x1 x2 x3 : Option QV) (t : QL) : q_lg (x0 :: x1 :: x2 :: x3 :: t) 3 = x3 := id rfl
theorem e_lg4 (x0 x1 x2 x3 x4 : Option QV) (t : QL) : q_lg (x0 :: x1 :: x2 :: x3 :: x4 :: t) 4 = x4 := id rfl
theorem e_lg5 (x0 x1 x2 x3 x4 x5 : Option QV) (t : QL) : q_lg (x0 :: x1 :: x2 :: x3 :: x4 :: x5 :: t) 5 = x5 := id rfl
theorem e_lg6 (x0 x1 x2 x3 x4 x5 x6 : Option QV) (t : QL) : q_lg (x0 :: x1 :: x2 :: x3 :: x4 :: x5 :: x6 :: t) 6 = x6 := id rfl
theorem e_lg7 (x0 x1 x2 x3 x4 x5 x6 x7 : Option QV) (t : QL) : q_lg (x0 :: x1 :: x2 :: x3 :: x4 :: x5 :: x6 :: x7 :: t) 7 = x7 := id rfl
theorem e_lg8 (x0 x1 x2 x3 x4 x5 x6 x7 x8 : Option QV) (t : QL) : q_lg (x0 :: x1 :: x2 :: x3 :: x4 :: x5 :: x6 :: x7 :: x8 :: t) 8 = x8 := id rfl
theorem e_lg9 (x0 x1 x2 x3 x4 x5 x6 x7 x8 x9 : Option QV) (t : QL) : q_lg (x0 :: x1 :: x2 :: x3 :: x4 :: x5 :: x6 :: x7 :: x8 :: x9 :: t) 9 = x9 := id rfl
theorem e_lg10 (x0 x1 x2 x3 x4 x5 x6 x7 x8 x9 x10 : Option QV) (t : QL) : q_lg (x0 :: x1 :: x2 :: x3 :: x4 :: x5 :: x6 :: x7 :: x8 :: x9 :: x10 :: t) 10 = x10 := id rfl
theorem e_lg11 (x0 x1 x2 x3 x4 x5 x6 x7 x8 x9 x10 x11 : Option QV) (t : QL) : q_lg (x0 :: x1 :: x2 :: x3 :: x4 :: x5 :: x6 :: x7 :: x8 :: x9 :: x10 :: x11 :: t) 11 = x11 := id rfl
theorem e_lg12 (x0 x1 x2 x3 x4 x5 x6 x7 x8 x9 x10 x11 x12 : Option QV) (t : QL) : q_lg (x0 :: x1 :: x2 :: x3 :: x4 :: x5 :: x6 :: x7 :: x8 :: x9 :: x10 :: x11 :: x12 :: t) 12 = x12 := id rfl
theorem e_lg13 (x0 x1 x2 x3 x4 x5 x6 x7 x8 x9 x10 x11 x12 x13 : Option QV) (t : QL) : q_lg (x0 :: x1 :: x2 :: x3 :: x4 :: x5 :: x6 :: x7 :: x8 :: x9 :: x10 :: x11 :: x12 :: x13 :: t) 13 = x13 := id rfl
theorem e_clrI (z : Int) : q_clr (some (.inl z)) = some (.inl z) := id rfl
theorem e_clrJ (z : Int) : q_clr (some (.inr (.inl z))) = none := id rfl
theorem e_clrP (z : Int) : q_clr (some (.inr (.inr z))) = some (.inr (.inr z)) := id rfl
theorem e_clrN : q_clr none = none := id rfl
theorem e_s0 (y : Option QV) (t : QL) (v : QV) : q_l1 (y :: t) 0 v = some v :: t := id rfl
theorem e_s1 (x0 y : Option QV) (t : QL) (v : QV) : q_l1 (x0 :: y :: t) 1 v = q_clr x0 :: some v :: t := id rfl
theorem e_s2 (x0 x1 y : Option QV) (t : QL) (v : QV) : q_l1 (x0 :: x1 :: y :: t) 2 v = x0 :: q_clr x1 :: some v :: t := id rfl
theorem e_s3 (x0 x1 x2 y : Option QV) (t : QL) (v : QV) : q_l1 (x0 :: x1 :: x2 :: y :: t) 3 v = x0 :: x1 :: q_clr x2 :: some v :: t := id rfl
theorem e_s4 (x0 x1 x2 x3 y : Option QV) (t : QL) (v : QV) : q_l1 (x0 :: x1 :: x2 :: x3 :: y :: t) 4 v = x0 :: x1 :: x2 :: q_clr x3 :: some v :: t := id rfl
theorem e_s5 (x0 x1 x2 x3 x4 y : Option QV) (t : QL) (v : QV) : q_l1 (x0 :: x1 :: x2 :: x3 :: x4 :: y :: t) 5 v = x0 :: x1 :: x2 :: x3 :: q_clr x4 :: some v :: t := id rfl
theorem e_s6 (x0 x1 x2 x3 x4 x5 y : Option QV) (t : QL) (v : QV) : q_l1 (x0 :: x1 :: x2 :: x3 :: x4 :: x5 :: y :: t) 6 v = x0 :: x1 :: x2 :: x3 :: x4 :: q_clr x5 :: some v :: t := id rfl
theorem e_s7 (x0 x1 x2 x3 x4 x5 x6 y : Option QV) (t : QL) (v : QV) : q_l1 (x0 :: x1 :: x2 :: x3 :: x4 :: x5 :: x6 :: y :: t) 7 v = x0 :: x1 :: x2 :: x3 :: x4 :: x5 :: q_clr x6 :: some v :: t := id rfl
theorem e_s8 (x0 x1 x2 x3 x4 x5 x6 x7 y : Option QV) (t : QL) (v : QV) : q_l1 (x0 :: x1 :: x2 :: x3 :: x4 :: x5 :: x6 :: x7 :: y :: t) 8 v = x0 :: x1 :: x2 :: x3 :: x4 :: x5 :: x6 :: q_clr x7 :: some v :: t := id rfl
theorem e_s9 (x0 x1 x2 x3 x4 x5 x6 x7 x8 y : Option QV) (t : QL) (v : QV) : q_l1 (x0 :: x1 :: x2 :: x3 :: x4 :: x5 :: x6 :: x7 :: x8 :: y :: t) 9 v = x0 :: x1 :: x2 :: x3 :: x4 :: x5 :: x6 :: x7 :: q_clr x8 :: some v :: t := id rfl
theorem e_s10 (x0 x1 x2 x3 x4 x5 x6 x7 x8 x9 y : Option QV) (t : QL) (v : QV) : q_l1 (x0 :: x1 :: x2 :: x3 :: x4 :: x5 :: x6 :: x7 :: x8 :: x9 :: y :: t) 10 v = x0 :: x1 :: x2 :: x3 :: x4 :: x5 :: x6 :: x7 :: x8 :: q_clr x9 :: some v :: t := id rfl
theorem e_s11 (x0 x1 x2 x3 x4 x5 x6 x7 x8 x9 x10 y : Option QV) (t : QL) (v : QV) : q_l1 (x0 :: x1 :: x2 :: x3 :: x4 :: x5 :: x6 :: x7 :: x8 :: x9 :: x10 :: y :: t) 11 v = x0 :: x1 :: x2 :: x3 :: x4 :: x5 :: x6 :: x7 :: x8 :: x9 :: q_clr x10 :: some v :: t := id rfl
theorem e_s12 (x0 x1 x2 x3 x4 x5 x6 x7 x8 x9 x10 x11 y : Option QV) (t : QL) (v : QV) : q_l1 (x0 :: x1 :: x2 :: x3 :: x4 :: x5 :: x6 :: x7 :: x8 :: x9 :: x10 :: x11 :: y :: t) 12 v = x0 :: x1 :: x2 :: x3 :: x4 :: x5 :: x6 :: x7 :: x8 :: x9 :: x10 :: q_clr x11 :: some v :: t := id rfl
theorem e_s13 (x0 x1 x2 x3 x4 x5 x6 x7 x8 x9 x10 x11 x12 y : Option QV) (t : QL) (v : QV) : q_l1 (x0 :: x1 :: x2 :: x3 :: x4 :: x5 :: x6 :: x7 :: x8 :: x9 :: x10 :: x11 :: x12 :: y :: t) 13 v = x0 :: x1 :: x2 :: x3 :: x4 :: x5 :: x6 :: x7 :: x8 :: x9 :: x10 :: x11 :: q_clr x12 :: some v :: t := id rfl
theorem e_t0 (y z : Option QV) (t : QL) (v : QV) : q_l2 (y :: z :: t) 0 v = some v :: none :: t := id rfl
theorem e_t1 (x0 y z : Option QV) (t : QL) (v : QV) : q_l2 (x0 :: y :: z :: t) 1 v = q_clr x0 :: some v :: none :: t := id rfl
theorem e_t2 (x0 x1 y z : Option QV) (t : QL) (v : QV) : q_l2 (x0 :: x1 :: y :: z :: t) 2 v = x0 :: q_clr x1 :: some v :: none :: t := id rfl
theorem e_t3 (x0 x1 x2 y z : Option QV) (t : QL) (v : QV) : q_l2 (x0 :: x1 :: x2 :: y :: z :: t) 3 v = x0 :: x1 :: q_clr x2 :: some v :: none :: t := id rfl
theorem e_t4 (x0 x1 x2 x3 y z : Option QV) (t : QL) (v : QV) : q_l2 (x0 :: x1 :: x2 :: x3 :: y :: z :: t) 4 v = x0 :: x1 :: x2 :: q_clr x3 :: some v :: none :: t := id rfl
theorem e_t5 (x0 x1 x2 x3 x4 y z : Option QV) (t : QL) (v : QV) : q_l2 (x0 :: x1 :: x2 :: x3 :: x4 :: y :: z :: t) 5 v = x0 :: x1 :: x2 :: x3 :: q_clr x4 :: some v :: none :: t := id rfl
theorem e_t6 (x0 x1 x2 x3 x4 x5 y z : Option QV) (t : QL) (v : QV) : q_l2 (x0 :: x1 :: x2 :: x3 :: x4 :: x5 :: y :: z :: t) 6 v = x0 :: x1 :: x2 :: x3 :: x4 :: q_clr x5 :: some v :: none :: t := id rfl
theorem e_t7 (x0 x1 x2 x3 x4 x5 x6 y z : Option QV) (t : QL) (v : QV) : q_l2 (x0 :: x1 :: x2 :: x3 :: x4 :: x5 :: x6 :: y :: z :: t) 7 v = x0 :: x1 :: x2 :: x3 :: x4 :: x5 :: q_clr x6 :: some v :: none :: t := id rfl
theorem e_t8 (x0 x1 x2 x3 x4 x5 x6 x7 y z : Option QV) (t : QL) (v : QV) : q_l2 (x0 :: x1 :: x2 :: x3 :: x4 :: x5 :: x6 :: x7 :: y :: z :: t) 8 v = x0 :: x1 :: x2 :: x3 :: x4 :: x5 :: x6 :: q_clr x7 :: some v :: none :: t := id rfl
theorem e_t9 (x0 x1 x2 x3 x4 x5 x6 x7 x8 y z : Option QV) (t : QL) (v : QV) : q_l2 (x0 :: x1 :: x2 :: x3 :: x4 :: x5 :: x6 :: x7 :: x8 :: y :: z :: t) 9 v = x0 :: x1 :: x2 :: x3 :: x4 :: x5 :: x6 :: x7 :: q_clr x8 :: some v :: none :: t := id rfl
theorem e_t10 (x0 x1 x2 x3 x4 x5 x6 x7 x8 x9 y z : Option QV) (t : QL) (v : QV) : q_l2 (x0 :: x1 :: x2 :: x3 :: x4 :: x5 :: x6 :: x7 :: x8 :: x9 :: y :: z :: t) 10 v = x0 :: x1 :: x2 :: x3 :: x4 :: x5 :: x6 :: x7 :: x8 :: q_clr x9 :: some v :: none :: t := id rfl
theorem e_t11 (x0 x1 x2 x3 x4 x5 x6 x7 x8 x9 x10 y z : Option QV) (t : QL) (v : QV) : q_l2 (x0 :: x1 :: x2 :: x3 :: x4 :: x5 :: x6 :: x7 :: x8 :: x9 :: x10 :: y :: z :: t) 11 v = x0 :: x1 :: x2 :: x3 :: x4 :: x5 :: x6 :: x7 :: x8 :: x9 :: q_clr x10 :: some v :: none :: t := id rfl
theorem e_t12 (x0 x1 x2 x3 x4 x5 x6 x7 x8 x9 x10 x11 y z : Option QV) (t : QL) (v : QV) : q_l2 (x0 :: x1 :: x2 :: x3 :: x4 :: x5 :: x6 :: x7 :: x8 :: x9 :: x10 :: x11 :: y :: z :: t) 12 v = x0 :: x1 :: x2 :: x3 :: x4 :: x5 :: x6 :: x7 :: x8 :: x9 :: x10 :: q_clr x11 :: some v :: none :: t := id rfl
theorem e_t13 (x0 x1 x2 x3 x4 x5 x6 x7 x8 x9 x10 x11 x12 y z : Option QV) (t : QL) (v : QV) : q_l2 (x0 :: x1 :: x2 :: x3 :: x4 :: x5 :: x6 :: x7 :: x8 :: x9 :: x10 :: x11 :: x12 :: y :: z :: t) 13 v = x0 :: x1 :: x2 :: x3 :: x4 :: x5 :: x6 :: x7 :: x8 :: x9 :: x10 :: x11 :: q_clr x12 :: some v :: none :: t := id rfl
def q_kk (o : Option QK) (f : QK → Prop) : Prop := match o with
  | some sk => f sk
  | none => False
theorem e_fd (cj : Nat) (ks : List QK) (ci k : Nat) (f : QK → Prop) : q_fd (some (.inl (cj, ks))) ci k f = (ci = cj ∧ q_kk ks[k]? f) := by show (ci = cj ∧ (match ks[k]? with | some sk => f sk | none => False)) = _; unfold q_kk; cases ks[k]? <;> rfl
theorem e_kk (sk : QK) (f : QK → Prop) : q_kk (some sk) f = f sk := id rfl
theorem e_k0 (x : QK) (t : List QK) : (x :: t)[0]? = some x := id rfl
theorem e_k1 (x0 x1 : QK) (t : List QK) : (x0 :: x1 :: t)[1]? = some x1 := id rfl
theorem e_k2 (x0 x1 x2 : QK) (t : List QK) : (x0 :: x1 :: x2 :: t)[2]? = some x2 := id rfl
theorem e_k3 (x0 x1 x2 x3 : QK) (t : List QK) : (x0 :: x1 :: x2 :: x3 :: t)[3]? = some x3 := id rfl
theorem e_k4 (x0 x1 x2 x3 x4 : QK) (t : List QK) : (x0 :: x1 :: x2 :: x3 :: x4 :: t)[4]? = some x4 := id rfl
theorem e_k5 (x0 x1 x2 x3 x4 x5 : QK) (t : List QK) : (x0 :: x1 :: x2 :: x3 :: x4 :: x5 :: t)[5]? = some x5 := id rfl
theorem e_k6 (x0 x1 x2 x3 x4 x5 x6 : QK) (t : List QK) : (x0 :: x1 :: x2 :: x3 :: x4 :: x5 :: x6 :: t)[6]? = some x6 := id rfl
theorem e_k7 (x0 x1 x2 x3 x4 x5 x6 x7 : QK) (t : List QK) : (x0 :: x1 :: x2 :: x3 :: x4 :: x5 :: x6 :: x7 :: t)[7]? = some x7 := id rfl
theorem e_k8 (x0 x1 x2 x3 x4 x5 x6 x7 x8 : QK) (t : List QK) : (x0 :: x1 :: x2 :: x3 :: x4 :: x5 :: x6 :: x7 :: x8 :: t)[8]? = some x8 := id rfl
theorem e_k9 (x0 x1 x2 x3 x4 x5 x6 x7 x8 x9 : QK) (t : List QK) : (x0 :: x1 :: x2 :: x3 :: x4 :: x5 :: x6 :: x7 :: x8 :: x9 :: t)[9]? = some x9 := id rfl
theorem e_sv0 (μ : QM) (a : Int) (k : Nat) : q_sv μ a k (.inl 0) = .inl (μ a k) := id rfl
theorem e_sv1 (μ : QM) (a : Int) (k : Nat) : q_sv μ a k (.inl 1) = .inr (.inl (μ a k)) := id rfl
theorem e_sv2 (μ : QM) (a : Int) (k : Nat) : q_sv μ a k (.inl 2) = .inl (μ a k) := id rfl
theorem e_sv3 (μ : QM) (a : Int) (k : Nat) : q_sv μ a k (.inl 3) = .inr (.inr (μ a k)) := id rfl
theorem e_svc (μ : QM) (a : Int) (k : Nat) (m : Int) : q_sv μ a k (.inr m) = .inr (.inr m) := id rfl
theorem e_pf0 (z : Int) (f : Int → Prop) : q_pf (.inl 0) (.inl z) f = f z := id rfl
theorem e_pf1 (z : Int) (f : Int → Prop) : q_pf (.inl 1) (.inr (.inl z)) f = f z := id rfl
theorem e_pf2 (z : Int) (f : Int → Prop) : q_pf (.inl 2) (.inl z) f = ((z = 0 ∨ z = 1) ∧ f z) := id rfl
theorem e_pf3 (z : Int) (f : Int → Prop) : q_pf (.inl 3) (.inr (.inr z)) f = f z := id rfl
theorem e_ar (u n t : Nat) (i : Int) (f : Prop) : q_ar (some (.inr (.inl u, n))) t i f = (t = u ∧ n ≤ 2147483647 ∧ 0 ≤ i ∧ i < (n : Int) ∧ f) := id rfl
theorem e_aa (t n : Nat) (b i : Int) (f : Int → Prop) : q_aa (some (.inr (.inr (t, b), n))) i f = ((t = 4 ∨ t = 5) ∧ n ≤ 2147483647 ∧ 0 ≤ i ∧ i < (n : Int) ∧ f (b + i)) := id rfl
theorem e_al (u n : Nat) (f : Int → Prop) : q_al (some (.inr (.inl u, n))) f = (u ≤ 5 ∧ f (n : Int)) := id rfl
theorem e_sw1 (a v : Int) (g : Nat → Prop) (t : Nat) : q_sw a g [(v, t)] = g t := id rfl
theorem e_sw2 (a v : Int) (g : Nat → Prop) (t : Nat) (q : Int × Nat) (r : List (Int × Nat)) : q_sw a g ((v, t) :: q :: r) = ((a = v → g t) ∧ (¬ a = v → q_sw a g (q :: r))) := id rfl
theorem e_ct0 (z : Int) : q_ct (.inl z) = 1 := id rfl
theorem e_ct1 (z : Int) : q_ct (.inr (.inl z)) = 2 := id rfl
theorem e_ct2 (z : Int) : q_ct (.inr (.inr z)) = 1 := id rfl
theorem e_cat0 : q_cats [] = 0 := id rfl
theorem e_cat1 (v : QV) (st : List QV) : q_cats (v :: st) = q_ct v + q_cats st := by simp [q_cats]
theorem e_rk0 (a : Int) : q_rk 0 a = True := id rfl
theorem e_rk1 (a : Int) : q_rk 1 a = (a = 0 ∨ a = 1) := id rfl
theorem e_rk2 (a : Int) : q_rk 2 a = (0 ≤ a ∧ a < 65536) := id rfl
theorem e_inv0 (sp : QP) (st : List QV) (μ : QM) (f : List QV → QM → Prop) : q_inv (0, sp) (st) μ f = (q_cats st ≤ 8 ∧ sp [] μ (fun o μ9 => f (o.toList ++ st) μ9)) := by simp [q_inv]
theorem e_inv1 (sp : QP) (a0 : QV) (st : List QV) (μ : QM) (f : List QV → QM → Prop) : q_inv (1, sp) (a0 :: st) μ f = (q_cats st ≤ 8 ∧ sp [a0] μ (fun o μ9 => f (o.toList ++ st) μ9)) := by simp [q_inv]
theorem e_inv2 (sp : QP) (a0 a1 : QV) (st : List QV) (μ : QM) (f : List QV → QM → Prop) : q_inv (2, sp) (a0 :: a1 :: st) μ f = (q_cats st ≤ 8 ∧ sp [a0, a1] μ (fun o μ9 => f (o.toList ++ st) μ9)) := by simp [q_inv]
theorem e_inv3 (sp : QP) (a0 a1 a2 : QV) (st : List QV) (μ : QM) (f : List QV → QM → Prop) : q_inv (3, sp) (a0 :: a1 :: a2 :: st) μ f = (q_cats st ≤ 8 ∧ sp [a0, a1, a2] μ (fun o μ9 => f (o.toList ++ st) μ9)) := by simp [q_inv]
theorem e_inv4 (sp : QP) (a0 a1 a2 a3 : QV) (st : List QV) (μ : QM) (f : List QV → QM → Prop) : q_inv (4, sp) (a0 :: a1 :: a2 :: a3 :: st) μ f = (q_cats st ≤ 8 ∧ sp [a0, a1, a2, a3] μ (fun o μ9 => f (o.toList ++ st) μ9)) := by simp [q_inv]
theorem e_inv5 (sp : QP) (a0 a1 a2 a3 a4 : QV) (st : List QV) (μ : QM) (f : List QV → QM → Prop) : q_inv (5, sp) (a0 :: a1 :: a2 :: a3 :: a4 :: st) μ f = (q_cats st ≤ 8 ∧ sp [a0, a1, a2, a3, a4] μ (fun o μ9 => f (o.toList ++ st) μ9)) := by simp [q_inv]
theorem e_inv6 (sp : QP) (a0 a1 a2 a3 a4 a5 : QV) (st : List QV) (μ : QM) (f : List QV → QM → Prop) : q_inv (6, sp) (a0 :: a1 :: a2 :: a3 :: a4 :: a5 :: st) μ f = (q_cats st ≤ 8 ∧ sp [a0, a1, a2, a3, a4, a5] μ (fun o μ9 => f (o.toList ++ st) μ9)) := by simp [q_inv]
theorem e_o0 (st : List QV) : (none : Option QV).toList ++ st = st := id rfl
theorem e_o1 (v : QV) (st : List QV) : (some v).toList ++ st = v :: st := id rfl
theorem e_cl (a b : Int) : (q_cmp a b < 0) = (a < b) := by unfold q_cmp; split <;> (try split) <;> simp <;> omega
theorem e_cle (a b : Int) : (q_cmp a b ≤ 0) = (a ≤ b) := by unfold q_cmp; split <;> (try split) <;> simp <;> omega
theorem e_cg (a b : Int) : (0 < q_cmp a b) = (b < a) := by unfold q_cmp; split <;> (try split) <;> simp <;> omega
theorem e_cge (a b : Int) : (0 ≤ q_cmp a b) = (b ≤ a) := by unfold q_cmp; split <;> (try split) <;> simp <;> omega
theorem e_ce (a b : Int) : (q_cmp a b = 0) = (a = b) := by unfold q_cmp; split <;> (try split) <;> simp <;> omega
theorem e_cr1 (a b : Int) : (-2147483648 ≤ q_cmp a b) = True := by unfold q_cmp; split <;> (try split) <;> simp
theorem e_cr2 (a b : Int) : (q_cmp a b ≤ 2147483647) = True := by unfold q_cmp; split <;> (try split) <;> simp
theorem e_r (a : Int) : q_r a = (-2147483648 ≤ a ∧ a ≤ 2147483647) := id rfl
theorem e_R (a : Int) : q_R a = (-9223372036854775808 ≤ a ∧ a ≤ 9223372036854775807) := id rfl
theorem e_up (μ : QM) (a k z : Int) : q_up μ a k z a k = z := by simp [q_up]
theorem u_ne {μ : QM} {a k z b j : Int} (h : ¬ (b = a ∧ j = k)) : q_up μ a k z b j = μ b j := if_neg h
theorem u_na {μ : QM} {a k z b j : Int} (h : ¬ b = a) : q_up μ a k z b j = μ b j := u_ne (fun q => h q.1)
theorem u_nk {μ : QM} {a k z b j : Int} (h : ¬ j = k) : q_up μ a k z b j = μ b j := u_ne (fun q => h q.2)
def q_look : List (Nat × Option (List QE)) → Nat → Option (List QE)
  | [], _ => none
  | (k, b) :: t, pc => if pc = k then b else q_look t pc
def q_skok (cc : ByteArray) (nL : Nat) (u : QU) : List (Nat × Option (List QE)) → Bool
  | [] => true
  | (k, none) :: t => q_skok cc nL u t
  | (k, some b) :: t => q_ok cc nL u k b && q_skok cc nL u t
theorem q_skS {cc : ByteArray} {nL : Nat} {u : QU} : ∀ (L : List (Nat × Option (List QE))), q_skok cc nL u L = true → ∀ (pc : Nat) (b : List QE), q_look L pc = some b → q_ok cc nL u pc b = true
  | [], _, _, _, h => by cases h
  | (k, none) :: t, ho, pc, b, h => by
    unfold q_look at h
    split at h
    · cases h
    · exact q_skS t ho pc b h
  | (k, some x) :: t, ho, pc, b, h => by
    have ho : q_ok cc nL u k x = true ∧ q_skok cc nL u t = true := by simpa [q_skok] using ho
    unfold q_look at h
    split at h
    · rename_i e
      cases h
      rw [e]
      exact ho.1
    · exact q_skS t ho.2 pc b h
