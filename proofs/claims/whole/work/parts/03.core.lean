/-! THE ABSTRACT MACHINE: values over Int, names for cells, a memory of Ints; q_vc computes what must hold; q_rule (part 04) says that it is enough -/
abbrev QV : Type := Int ⊕ Int ⊕ Int
abbrev QM : Type := Int → Int → Int
abbrev QK : Type := Nat ⊕ Int
abbrev QS : Type := (Nat × List QK) ⊕ ((Nat ⊕ (Nat × Int)) × Nat)
abbrev QL : Type := List (Option QV)
abbrev QP : Type := List QV → QM → (Option QV → QM → Prop) → Prop
abbrev QE : Type := Instr × Nat × List (Int × Nat)
def q_rf (ad : Int → Nat) (a : Int) : Option Nat := if a < 0 then none else some (ad a)
def q_cv (ad : Int → Nat) : QV → Value
  | .inl z => .int (Int32.ofInt z)
  | .inr (.inl z) => .long (Int64.ofInt z)
  | .inr (.inr a) => va_rf (q_rf ad a)
def q_ct : QV → Nat
  | .inl _ => 1
  | .inr (.inl _) => 2
  | .inr (.inr _) => 1
def q_sv (μ : QM) (a : Int) (k : Nat) : QK → QV
  | .inl 0 => .inl (μ a k)
  | .inl 1 => .inr (.inl (μ a k))
  | .inl 2 => .inl (μ a k)
  | .inl _ => .inr (.inr (μ a k))
  | .inr n => .inr (.inr n)
def q_arr (ad : Int → Nat) (μ : QM) (a : Int) : Nat ⊕ (Nat × Int) → (Nat → Int32) ⊕ (Nat → Int64) ⊕ (Nat → UInt32) ⊕ (Nat → UInt64) ⊕ (Nat → Option Nat)
  | .inl 1 => .inr (.inl (fun j => Int64.ofInt (μ a j)))
  | .inl 4 => .inr (.inr (.inr (.inr (fun j => q_rf ad (μ a j)))))
  | .inl 5 => .inr (.inr (.inr (.inr (fun j => q_rf ad (μ a j)))))
  | .inl _ => .inl (fun j => Int32.ofInt (μ a j))
  | .inr (_, b) => .inr (.inr (.inr (.inr (fun j => q_rf ad (b + j)))))
def q_akd : Nat ⊕ (Nat × Int) → Nat
  | .inl t => t
  | .inr (t, _) => t
def q_ent (ad : Int → Nat) (cy : Nat → ClassId) (μ : QM) (a : Int) : Option QS → va_E
  | some (.inl (ci, ks)) => .inr (ci, ks.mapIdx (fun k sk => q_cv ad (q_sv μ a k sk)))
  | some (.inr (t, n)) => .inl (cy (q_akd t), n, q_arr ad μ a t)
  | none => .inr (0, [])
def q_ws (T : Int → Option QS) (N : List Int) (ad : Int → Nat) (cy : Nat → ClassId) (μ : QM) : va_W := N.map (fun a => (ad a, q_ent ad cy μ a (T a)))
abbrev q_tys (cy : Nat → ClassId) : List (ClassId × FieldType) := [(cy 0, .int), (cy 1, .long), (cy 2, .boolean), (cy 3, .char), (cy 4, .object RX4), (cy 5, .array .int)]
def q_up (μ : QM) (a k z : Int) : QM := fun b j => if b = a ∧ j = k then z else μ b j
/-! locals -/
def q_lg : QL → Nat → Option QV
  | [], _ => none
  | x :: _, 0 => x
  | _ :: t, k + 1 => q_lg t k
def q_clr : Option QV → Option QV
  | some (.inr (.inl _)) => none
  | x => x
def q_l1 : QL → Nat → QV → QL
  | [], _, _ => []
  | _ :: t, 0, v => some v :: t
  | x :: t, k + 1, v => (match k with | 0 => q_clr x | _ => x) :: q_l1 t k v
def q_dr : QL → QL
  | [] => []
  | _ :: t => none :: t
def q_l2 : QL → Nat → QV → QL
  | [], _, _ => []
  | _ :: t, 0, v => some v :: q_dr t
  | x :: t, k + 1, v => (match k with | 0 => q_clr x | _ => x) :: q_l2 t k v
def q_prs (ad : Int → Nat) (ls : QL) : List (Nat × Value) := (List.range ls.length).filterMap (fun i => (q_lg ls i).map (fun v => (i, q_cv ad v)))
/-! operations on bits -/
def q_and (a b : Int) : Int := (Int32.ofInt a &&& Int32.ofInt b).toInt
def q_or (a b : Int) : Int := (Int32.ofInt a ||| Int32.ofInt b).toInt
def q_xor (a b : Int) : Int := (Int32.ofInt a ^^^ Int32.ofInt b).toInt
def q_shl (a b : Int) : Int := (Int32.ofInt a <<< (Int32.ofInt b &&& 31)).toInt
def q_shr (a b : Int) : Int := (Int32.ofInt a >>> (Int32.ofInt b &&& 31)).toInt
def q_ush (a b : Int) : Int := ((Int32.ofInt a).toUInt32 >>> ((Int32.ofInt b).toUInt32 &&& Int32.toUInt32 31)).toInt32.toInt
def q_cmp (a b : Int) : Int := if b < a then 1 else if a = b then 0 else -1
abbrev q_r (a : Int) : Prop := -2147483648 ≤ a ∧ a ≤ 2147483647
abbrev q_R (a : Int) : Prop := -9223372036854775808 ≤ a ∧ a ≤ 9223372036854775807
/-! pieces of the step -/
def q_int (o : Option QV) (f : Int → Prop) : Prop := match o with
  | some (.inl z) => f z
  | _ => False
def q_lng (o : Option QV) (f : Int → Prop) : Prop := match o with
  | some (.inr (.inl z)) => f z
  | _ => False
def q_ref (o : Option QV) (f : Int → Prop) : Prop := match o with
  | some (.inr (.inr z)) => 0 ≤ z ∧ f z
  | _ => False
def q_fd (o : Option QS) (ci k : Nat) (f : QK → Prop) : Prop := match o with
  | some (.inl (cj, ks)) => ci = cj ∧ (match ks[k]? with
    | some sk => f sk
    | none => False)
  | _ => False
def q_pf (sk : QK) (v : QV) (f : Int → Prop) : Prop := match sk, v with
  | .inl 0, .inl z => f z
  | .inl 1, .inr (.inl z) => f z
  | .inl 2, .inl z => (z = 0 ∨ z = 1) ∧ f z
  | .inl 3, .inr (.inr z) => f z
  | _, _ => False
def q_ar (o : Option QS) (t : Nat) (i : Int) (f : Prop) : Prop := match o with
  | some (.inr (.inl u, n)) => t = u ∧ n ≤ 2147483647 ∧ 0 ≤ i ∧ i < (n : Int) ∧ f
  | _ => False
def q_aa (o : Option QS) (i : Int) (f : Int → Prop) : Prop := match o with
  | some (.inr (.inr (t, b), n)) => (t = 4 ∨ t = 5) ∧ n ≤ 2147483647 ∧ 0 ≤ i ∧ i < (n : Int) ∧ f (b + i)
  | _ => False
def q_al (o : Option QS) (f : Int → Prop) : Prop := match o with
  | some (.inr (t, n)) => q_akd t ≤ 5 ∧ f (n : Int)
  | _ => False
def q_sw (a : Int) (g : Nat → Prop) : List (Int × Nat) → Prop
  | [] => False
  | (v, t) :: r => match r with
    | [] => g t
    | _ => (a = v → g t) ∧ (¬ a = v → q_sw a g r)
def q_br (tg : List (Int × Nat)) (g : Nat → Prop) : Prop := match tg with
  | [(_, t)] => g t
  | _ => False
def q_cats (st : List QV) : Nat := (st.map q_ct).sum
def q_rk (rk : Nat) (a : Int) : Prop := match rk with
  | 0 => True
  | 1 => a = 0 ∨ a = 1
  | 2 => 0 ≤ a ∧ a < 65536
  | _ => False
def q_inv (G : Nat × QP) (st : List QV) (μ : QM) (f : List QV → QM → Prop) : Prop := G.1 ≤ st.length ∧ q_cats (st.drop G.1) ≤ 8 ∧ G.2 (st.take G.1) μ (fun o μ' => f (o.toList ++ st.drop G.1) μ')
section QST
variable (fl : Nat → Nat × Nat) (ld : Nat → QV) (Γ : Nat → Nat × QP) (T : Int → Option QS) (rk : Nat) (Rt : Option QV → QM → Prop)
def q_stp (go : List QE → Nat → QL → List QV → QM → Prop) (ins : Instr) (nx : Nat) (tg : List (Int × Nat)) (r : List QE) (ls : QL) (st : List QV) (μ : QM) : Prop := match ins, st with
  | .iconst v, st => go r nx ls (.inl v :: st) μ
  | .bipush v, st => (-128 ≤ v ∧ v < 128) ∧ go r nx ls (.inl v :: st) μ
  | .sipush v, st => (-32768 ≤ v ∧ v < 32768) ∧ go r nx ls (.inl v :: st) μ
  | .lconst v, st => go r nx ls (.inr (.inl (v : Nat)) :: st) μ
  | .ldc i, st => q_ct (ld i) = 1 ∧ go r nx ls (ld i :: st) μ
  | .ldc_w i, st => q_int (some (ld i)) (fun z => go r nx ls (.inl z :: st) μ)
  | .ldc2_w i, st => q_lng (some (ld i)) (fun z => go r nx ls (.inr (.inl z) :: st) μ)
  | .iload_n k, st => q_int (q_lg ls k) (fun z => go r nx ls (.inl z :: st) μ)
  | .iload k, st => q_int (q_lg ls k) (fun z => go r nx ls (.inl z :: st) μ)
  | .lload_n k, st => q_lng (q_lg ls k) (fun z => go r nx ls (.inr (.inl z) :: st) μ)
  | .lload k, st => q_lng (q_lg ls k) (fun z => go r nx ls (.inr (.inl z) :: st) μ)
  | .aload_n k, st => q_ref (q_lg ls k) (fun z => go r nx ls (.inr (.inr z) :: st) μ)
  | .aload k, st => q_ref (q_lg ls k) (fun z => go r nx ls (.inr (.inr z) :: st) μ)
  | .istore_n k, .inl z :: st => go r nx (q_l1 ls k (.inl z)) st μ
  | .istore k, .inl z :: st => go r nx (q_l1 ls k (.inl z)) st μ
  | .lstore_n k, .inr (.inl z) :: st => go r nx (q_l2 ls k (.inr (.inl z))) st μ
  | .lstore k, .inr (.inl z) :: st => go r nx (q_l2 ls k (.inr (.inl z))) st μ
  | .astore_n k, .inr (.inr z) :: st => 0 ≤ z ∧ go r nx (q_l1 ls k (.inr (.inr z))) st μ
  | .astore k, .inr (.inr z) :: st => 0 ≤ z ∧ go r nx (q_l1 ls k (.inr (.inr z))) st μ
  | .iinc k v, st => q_int (q_lg ls k) (fun z => go r nx (q_l1 ls k (.inl (z + v))) st μ)
  | .iadd, .inl b :: .inl a :: st => go r nx ls (.inl (a + b) :: st) μ
  | .isub, .inl b :: .inl a :: st => go r nx ls (.inl (a - b) :: st) μ
  | .imul, .inl b :: .inl a :: st => go r nx ls (.inl (a * b) :: st) μ
  | .ineg, .inl a :: st => go r nx ls (.inl (-a) :: st) μ
  | .iand, .inl b :: .inl a :: st => go r nx ls (.inl (q_and a b) :: st) μ
  | .ior, .inl b :: .inl a :: st => go r nx ls (.inl (q_or a b) :: st) μ
  | .ixor, .inl b :: .inl a :: st => go r nx ls (.inl (q_xor a b) :: st) μ
  | .ishl, .inl b :: .inl a :: st => go r nx ls (.inl (q_shl a b) :: st) μ
  | .ishr, .inl b :: .inl a :: st => go r nx ls (.inl (q_shr a b) :: st) μ
  | .iushr, .inl b :: .inl a :: st => go r nx ls (.inl (q_ush a b) :: st) μ
  | .idiv, .inl b :: .inl a :: st => (0 ≤ a ∧ a ≤ 2147483647 ∧ 0 < b ∧ b ≤ 2147483647) ∧ go r nx ls (.inl (a / b) :: st) μ
  | .irem, .inl b :: .inl a :: st => (0 ≤ a ∧ a ≤ 2147483647 ∧ 0 < b ∧ b ≤ 2147483647) ∧ go r nx ls (.inl (a % b) :: st) μ
  | .ladd, .inr (.inl b) :: .inr (.inl a) :: st => go r nx ls (.inr (.inl (a + b)) :: st) μ
  | .lsub, .inr (.inl b) :: .inr (.inl a) :: st => go r nx ls (.inr (.inl (a - b)) :: st) μ
  | .lmul, .inr (.inl b) :: .inr (.inl a) :: st => go r nx ls (.inr (.inl (a * b)) :: st) μ
  | .lcmp, .inr (.inl b) :: .inr (.inl a) :: st => (q_R a ∧ q_R b) ∧ go r nx ls (.inl (q_cmp a b) :: st) μ
  | .i2l, .inl a :: st => q_r a ∧ go r nx ls (.inr (.inl a) :: st) μ
  | .l2i, .inr (.inl a) :: st => go r nx ls (.inl a :: st) μ
  | .i2c, .inl a :: st => (0 ≤ a ∧ a < 65536) ∧ go r nx ls (.inl a :: st) μ
  | .dup, v :: st => q_ct v = 1 ∧ go r nx ls (v :: v :: st) μ
  | .dup2, v :: w :: st => (q_ct v = 1 ∧ q_ct w = 1) ∧ go r nx ls (v :: w :: v :: w :: st) μ
  | .ifCond .eq _, .inl a :: st => q_r a ∧ (a = 0 → q_br tg (fun t => go [] t ls st μ)) ∧ (¬ a = 0 → go r nx ls st μ)
  | .ifCond .ne _, .inl a :: st => q_r a ∧ (¬ a = 0 → q_br tg (fun t => go [] t ls st μ)) ∧ (a = 0 → go r nx ls st μ)
  | .ifCond .lt _, .inl a :: st => q_r a ∧ (a < 0 → q_br tg (fun t => go [] t ls st μ)) ∧ (¬ a < 0 → go r nx ls st μ)
  | .ifCond .ge _, .inl a :: st => q_r a ∧ (0 ≤ a → q_br tg (fun t => go [] t ls st μ)) ∧ (¬ 0 ≤ a → go r nx ls st μ)
  | .ifCond .gt _, .inl a :: st => q_r a ∧ (0 < a → q_br tg (fun t => go [] t ls st μ)) ∧ (¬ 0 < a → go r nx ls st μ)
  | .ifCond .le _, .inl a :: st => q_r a ∧ (a ≤ 0 → q_br tg (fun t => go [] t ls st μ)) ∧ (¬ a ≤ 0 → go r nx ls st μ)
  | .if_icmp .eq _, .inl b :: .inl a :: st => (q_r a ∧ q_r b) ∧ (a = b → q_br tg (fun t => go [] t ls st μ)) ∧ (¬ a = b → go r nx ls st μ)
  | .if_icmp .ne _, .inl b :: .inl a :: st => (q_r a ∧ q_r b) ∧ (¬ a = b → q_br tg (fun t => go [] t ls st μ)) ∧ (a = b → go r nx ls st μ)
  | .if_icmp .lt _, .inl b :: .inl a :: st => (q_r a ∧ q_r b) ∧ (a < b → q_br tg (fun t => go [] t ls st μ)) ∧ (¬ a < b → go r nx ls st μ)
  | .if_icmp .ge _, .inl b :: .inl a :: st => (q_r a ∧ q_r b) ∧ (b ≤ a → q_br tg (fun t => go [] t ls st μ)) ∧ (¬ b ≤ a → go r nx ls st μ)
  | .if_icmp .gt _, .inl b :: .inl a :: st => (q_r a ∧ q_r b) ∧ (b < a → q_br tg (fun t => go [] t ls st μ)) ∧ (¬ b < a → go r nx ls st μ)
  | .if_icmp .le _, .inl b :: .inl a :: st => (q_r a ∧ q_r b) ∧ (a ≤ b → q_br tg (fun t => go [] t ls st μ)) ∧ (¬ a ≤ b → go r nx ls st μ)
  | .goto _, st => q_br tg (fun t => go [] t ls st μ)
  | .tableswitch _ _ _ _, .inl a :: st => q_r a ∧ q_sw a (fun t => go [] t ls st μ) tg
  | .lookupswitch _ _, .inl a :: st => q_r a ∧ q_sw a (fun t => go [] t ls st μ) tg
  | .ireturn, [.inl a] => q_rk rk a ∧ Rt (some (.inl a)) μ
  | .areturn, [.inr (.inr a)] => rk = 3 ∧ 0 ≤ a ∧ Rt (some (.inr (.inr a))) μ
  | .return_, [] => rk = 4 ∧ Rt none μ
  | .getfield i, .inr (.inr a) :: st => q_fd (T a) (fl i).1 (fl i).2 (fun sk => go r nx ls (q_sv μ a (fl i).2 sk :: st) μ)
  | .putfield i, v :: .inr (.inr a) :: st => q_fd (T a) (fl i).1 (fl i).2 (fun sk => q_pf sk v (fun z => go r nx ls st (q_up μ a (fl i).2 z)))
  | .iaload, .inl i :: .inr (.inr a) :: st => q_ar (T a) 0 i (go r nx ls (.inl (μ a i) :: st) μ)
  | .laload, .inl i :: .inr (.inr a) :: st => q_ar (T a) 1 i (go r nx ls (.inr (.inl (μ a i)) :: st) μ)
  | .baload, .inl i :: .inr (.inr a) :: st => q_ar (T a) 2 i (go r nx ls (.inl (μ a i) :: st) μ)
  | .caload, .inl i :: .inr (.inr a) :: st => q_ar (T a) 3 i (go r nx ls (.inl (μ a i) :: st) μ)
  | .aaload, .inl i :: .inr (.inr a) :: st => q_aa (T a) i (fun b => 0 ≤ b ∧ go r nx ls (.inr (.inr b) :: st) μ)
  | .iastore, .inl v :: .inl i :: .inr (.inr a) :: st => q_ar (T a) 0 i (go r nx ls st (q_up μ a i v))
  | .lastore, .inr (.inl v) :: .inl i :: .inr (.inr a) :: st => q_ar (T a) 1 i (go r nx ls st (q_up μ a i v))
  | .bastore, .inl v :: .inl i :: .inr (.inr a) :: st => q_ar (T a) 2 i ((v = 0 ∨ v = 1) ∧ go r nx ls st (q_up μ a i v))
  | .castore, .inl v :: .inl i :: .inr (.inr a) :: st => q_ar (T a) 3 i ((0 ≤ v ∧ v < 65536) ∧ go r nx ls st (q_up μ a i v))
  | .arraylength, .inr (.inr a) :: st => q_al (T a) (fun n => go r nx ls (.inl n :: st) μ)
  | .invokevirtual i, st => q_inv (Γ i) st μ (fun st' μ' => go r nx ls st' μ')
  | .invokestatic i, st => q_inv (Γ i) st μ (fun st' μ' => go r nx ls st' μ')
  | .invokespecial i, st => q_inv (Γ i) st μ (fun st' μ' => go r nx ls st' μ')
  | _, _ => False
def q_vc (sk : Nat → Option (List QE)) (S : Nat → QL → List QV → QM → Prop) : Nat → List QE → Nat → QL → List QV → QM → Prop
  | 0, _, _, _, _, _ => False
  | n + 1, [], pc, ls, st, μ => match sk pc with
    | none => S pc ls st μ
    | some b => q_vc sk S n b pc ls st μ
  | n + 1, (ins, nx, tg) :: r, _, ls, st, μ => q_stp fl ld Γ T rk Rt (q_vc sk S n) ins nx tg r ls st μ
end QST
/-! the table against the bytes -/
def q_sto (nL : Nat) : Instr → Bool
  | .istore_n k => decide ((k : Nat) < nL)
  | .istore k => decide (k < nL)
  | .astore_n k => decide ((k : Nat) < nL)
  | .astore k => decide (k < nL)
  | .lstore_n k => decide ((k : Nat) + 1 < nL)
  | .lstore k => decide (k + 1 < nL)
  | .iinc k _ => decide (k < nL)
  | _ => true
def q_tgt (pc : Nat) (tg : List (Int × Nat)) : Instr → Bool
  | .goto o => decide (tg.map (fun q => (q.2 : Int)) = [(pc : Int) + o])
  | .ifCond _ o => decide (tg.map (fun q => (q.2 : Int)) = [(pc : Int) + o])
  | .if_icmp _ o => decide (tg.map (fun q => (q.2 : Int)) = [(pc : Int) + o])
  | .tableswitch d lo hi offs => decide (tg.map (fun q => (q.1, (q.2 : Int))) = ((List.range offs.size).map (fun (i : Nat) => (lo + (i : Int), (pc : Int) + offs.getD i 0))) ++ [((0 : Int), (pc : Int) + d)] ∧ (offs.size : Int) = hi - lo + 1)
  | .lookupswitch d ps => decide (tg.map (fun q => (q.1, (q.2 : Int))) = (ps.toList.map (fun q => (q.1, (pc : Int) + q.2))) ++ [((0 : Int), (pc : Int) + d)] ∧ (ps.toList.zip (ps.toList.drop 1)).all (fun (a, next) => a.1 < next.1) = true)
  | _ => true
def q_len : Instr → Nat
  | .bipush _ => 2
  | .sipush _ => 3
  | .ldc _ => 2
  | .ldc_w _ => 3
  | .ldc2_w _ => 3
  | .iload _ => 2
  | .lload _ => 2
  | .aload _ => 2
  | .istore _ => 2
  | .lstore _ => 2
  | .astore _ => 2
  | .iinc _ _ => 3
  | .ifCond _ _ => 3
  | .if_icmp _ _ => 3
  | .goto _ => 3
  | .getfield _ => 3
  | .putfield _ => 3
  | .invokevirtual _ => 3
  | .invokestatic _ => 3
  | .invokespecial _ => 3
  | _ => 1
def q_dec (cc : ByteArray) (pc nx : Nat) (ins : Instr) : Bool := match ins with
  | .tableswitch a b c d => decide (decode cc pc = .ok (.tableswitch a b c d, nx - pc))
  | .lookupswitch a b => decide (decode cc pc = .ok (.lookupswitch a b, nx - pc))
  | i => decide (decode cc pc = .ok (i, q_len i) ∧ nx = pc + q_len i)
/-- fields read, fields written, numbers of the pool, texts of the pool, calls: virtual, static, special -/
abbrev QU : Type := List Nat × List Nat × List Nat × List Nat × List Nat × List Nat × List Nat
def q_use (u : QU) : Instr → Bool
  | .getfield i => decide (i ∈ u.1)
  | .putfield i => decide (i ∈ u.1 ∧ i ∈ u.2.1)
  | .ldc i => decide (i ∈ u.2.2.1 ∨ i ∈ u.2.2.2.1)
  | .ldc_w i => decide (i ∈ u.2.2.1)
  | .ldc2_w i => decide (i ∈ u.2.2.1)
  | .invokevirtual i => decide (i ∈ u.2.2.2.2.1)
  | .invokestatic i => decide (i ∈ u.2.2.2.2.2.1)
  | .invokespecial i => decide (i ∈ u.2.2.2.2.2.2)
  | _ => true
def q_ok (cc : ByteArray) (nL : Nat) (u : QU) : Nat → List QE → Bool
  | _, [] => true
  | pc, (ins, nx, tg) :: r => q_dec cc pc nx ins && q_sto nL ins && q_tgt pc tg ins && q_use u ins && q_ok cc nL u nx r
