/-! bits of an int -/
def q_bit (z : Int) (t : Nat) : Bool := (BitVec.ofInt 32 z).getLsbD t
theorem q_bv (x : Int32) : BitVec.ofInt 32 x.toInt = x.toBitVec := by
  show BitVec.ofInt 32 x.toBitVec.toInt = x.toBitVec
  exact BitVec.ofInt_toInt
theorem q_bvo (a : Int) : (Int32.ofInt a).toBitVec = BitVec.ofInt 32 a := rfl
theorem bt_and (a b : Int) (t : Nat) : q_bit (q_and a b) t = (q_bit a t && q_bit b t) := by
  unfold q_bit q_and
  rw [q_bv, Int32.toBitVec_and, BitVec.getLsbD_and]
  rfl
theorem bt_or (a b : Int) (t : Nat) : q_bit (q_or a b) t = (q_bit a t || q_bit b t) := by
  unfold q_bit q_or
  rw [q_bv, Int32.toBitVec_or, BitVec.getLsbD_or]
  rfl
theorem bt_xor (a b : Int) (t : Nat) : q_bit (q_xor a b) t = (q_bit a t ^^ q_bit b t) := by
  unfold q_bit q_xor
  rw [q_bv, Int32.toBitVec_xor, BitVec.getLsbD_xor]
  rfl
theorem bt_r_and (a b : Int) : q_r (q_and a b) := ⟨by have := Int32.le_toInt (Int32.ofInt a &&& Int32.ofInt b); unfold q_and; omega, by have := Int32.toInt_lt (Int32.ofInt a &&& Int32.ofInt b); unfold q_and; omega⟩
theorem bt_r_or (a b : Int) : q_r (q_or a b) := ⟨by have := Int32.le_toInt (Int32.ofInt a ||| Int32.ofInt b); unfold q_or; omega, by have := Int32.toInt_lt (Int32.ofInt a ||| Int32.ofInt b); unfold q_or; omega⟩
theorem bt_r_xor (a b : Int) : q_r (q_xor a b) := ⟨by have := Int32.le_toInt (Int32.ofInt a ^^^ Int32.ofInt b); unfold q_xor; omega, by have := Int32.toInt_lt (Int32.ofInt a ^^^ Int32.ofInt b); unfold q_xor; omega⟩
theorem bt_r_shl (a b : Int) : q_r (q_shl a b) := ⟨by have := Int32.le_toInt (Int32.ofInt a <<< (Int32.ofInt b &&& 31)); unfold q_shl; omega, by have := Int32.toInt_lt (Int32.ofInt a <<< (Int32.ofInt b &&& 31)); unfold q_shl; omega⟩
theorem bt_r_shr (a b : Int) : q_r (q_shr a b) := ⟨by have := Int32.le_toInt (Int32.ofInt a >>> (Int32.ofInt b &&& 31)); unfold q_shr; omega, by have := Int32.toInt_lt (Int32.ofInt a >>> (Int32.ofInt b &&& 31)); unfold q_shr; omega⟩
theorem bt_r_ush (a b : Int) : q_r (q_ush a b) := ⟨by have := Int32.le_toInt ((Int32.ofInt a).toUInt32 >>> ((Int32.ofInt b).toUInt32 &&& Int32.toUInt32 31)).toInt32; unfold q_ush; omega, by have := Int32.toInt_lt ((Int32.ofInt a).toUInt32 >>> ((Int32.ofInt b).toUInt32 &&& Int32.toUInt32 31)).toInt32; unfold q_ush; omega⟩
theorem bt_ext {a b : Int} (ha : q_r a) (hb : q_r b) (h : ∀ t, t < 32 → q_bit a t = q_bit b t) : a = b := by
  have h1 : BitVec.ofInt 32 a = BitVec.ofInt 32 b := BitVec.eq_of_getLsbD_eq (fun i hi => h i hi)
  have h2 : Int32.ofInt a = Int32.ofInt b := Int32.toBitVec.inj h1
  exact (q_eq ha hb).mp h2
theorem bt_big (a : Int) {t : Nat} (h : 32 ≤ t) : q_bit a t = false := by
  unfold q_bit
  exact BitVec.getLsbD_of_ge _ _ h
theorem bt_0 (t : Nat) : q_bit 0 t = false := by
  unfold q_bit
  simp
theorem q_sh : ∀ n : Nat, n < 32 → ((Int32.ofInt (n : Int) &&& 31).toBitVec.smod 32).toNat = n := by decide +kernel
theorem bt_shl (a : Int) {k : Int} (h0 : 0 ≤ k) (h1 : k < 32) (t : Nat) : q_bit (q_shl a k) t = (decide (t < 32) && !decide ((t : Int) < k) && q_bit a (t - k.toNat)) := by
  obtain ⟨n, rfl⟩ : ∃ n : Nat, k = (n : Int) := ⟨k.toNat, by omega⟩
  have hs := q_sh n (by omega)
  unfold q_bit q_shl
  rw [q_bv]
  show ((Int32.ofInt a).toBitVec <<< ((Int32.ofInt (n : Int) &&& 31).toBitVec.smod 32)).getLsbD t = _
  rw [BitVec.shiftLeft_eq', hs, BitVec.getLsbD_shiftLeft, q_bvo, Int.toNat_natCast]
  have e : decide ((t : Int) < (n : Int)) = decide (t < n) := by
    by_cases c : t < n
    · simp [c]
    · simp [c]
  rw [e]
theorem bt_shr {a k : Int} (ha : 0 ≤ a) (hb : a ≤ 2147483647) (h0 : 0 ≤ k) (h1 : k < 32) (t : Nat) : q_bit (q_shr a k) t = (decide (t < 32) && q_bit a (t + k.toNat)) := by
  obtain ⟨n, rfl⟩ : ∃ n : Nat, k = (n : Int) := ⟨k.toNat, by omega⟩
  have hs := q_sh n (by omega)
  unfold q_bit q_shr
  rw [q_bv]
  show (((Int32.ofInt a).toBitVec).sshiftRight' ((Int32.ofInt (n : Int) &&& 31).toBitVec.smod 32)).getLsbD t = _
  rw [BitVec.sshiftRight_eq', hs, BitVec.getLsbD_sshiftRight, q_bvo, Int.toNat_natCast]
  have hm : (BitVec.ofInt 32 a).msb = false := by
    rw [BitVec.msb_eq_toInt]
    have : (BitVec.ofInt 32 a).toInt = a := q_ti ⟨by omega, hb⟩
    rw [this]
    simp; omega
  rw [hm]
  by_cases c : t < 32
  · by_cases c2 : n + t < 32
    · have c3 : ¬ 32 ≤ t := by omega
      simp [c, c2, c3, Nat.add_comm]
      intro _
      omega
    · have c3 : ¬ 32 ≤ t := by omega
      have := BitVec.getLsbD_of_ge (BitVec.ofInt 32 a) (t + n) (by omega)
      simp [c, c2, c3, this]
  · have c3 : 32 ≤ t := by omega
    simp [c, c3]
theorem bt_nn {a : Int} (h : q_bit a 31 = false) (hr : q_r a) : 0 ≤ a := by
  have hm : (BitVec.ofInt 32 a).msb = false := by rw [BitVec.msb_eq_getLsbD_last]; exact h
  rw [BitVec.msb_eq_toInt] at hm
  have : (BitVec.ofInt 32 a).toInt = a := q_ti hr
  rw [this] at hm
  simpa using hm
theorem bt_1 (t : Nat) : q_bit 1 t = decide (t = 0) := by
  unfold q_bit
  by_cases h : t < 32
  · have : ∀ t : Nat, t < 32 → (BitVec.ofInt 32 1).getLsbD t = decide (t = 0) := by decide
    exact this t h
  · rw [BitVec.getLsbD_of_ge _ _ (by omega)]
    simp; omega
/-- one bit, as the code asks for it -/
theorem bt_get {a k : Int} (ha : 0 ≤ a) (hb : a ≤ 2147483647) (h0 : 0 ≤ k) (h1 : k < 32) : q_and (q_shr a k) 1 = q_b (q_bit a k.toNat = true) := by
  refine bt_ext (bt_r_and _ _) (by unfold q_b; split <;> decide) (fun t ht => ?_)
  rw [bt_and, bt_shr ha hb h0 h1, bt_1]
  unfold q_b
  by_cases c : t = 0
  · subst c
    by_cases d : q_bit a k.toNat = true
    · rw [if_pos d, bt_1]; simp [d]
    · rw [if_neg d, bt_0]; simp [d]
  · by_cases d : q_bit a k.toNat = true
    · rw [if_pos d, bt_1]; simp [c]
    · rw [if_neg d, bt_0]; simp [c]
theorem bt_one {k : Int} (h0 : 0 ≤ k) (h1 : k < 32) (t : Nat) : q_bit (q_shl 1 k) t = decide ((t : Int) = k) := by
  rw [bt_shl 1 h0 h1, bt_1]
  by_cases c : (t : Int) = k
  · subst c
    have : (t : Nat) < 32 := by omega
    simp [this]
  · by_cases d : (t : Int) < k
    · simp [c, d]
    · have : ¬ t - k.toNat = 0 := by omega
      simp [c, d, this]

