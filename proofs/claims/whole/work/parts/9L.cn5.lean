/-! constructors: the reference -/
theorem cn_8 : (8 : Int32) = Int32.ofInt 8 := by decide +kernel
theorem cn_m1 : (-1 : Int32) = Int32.ofInt (-1) := by decide +kernel
theorem cn_104 (j : Nat) (hj : j < 26) : (0 : Int32) = Int32.ofInt (k_M 104 j) := by
  show (0 : Int32) = Int32.ofInt (q_fill (q_fill (q_fill k_N 86 0 576 (-2000000000)) 88 0 3 0) 94 0 90 0 104 j)
  rw [u_fill, if_neg (by omega), u_fill, if_neg (by omega), u_fill, if_neg (by omega)]
  unfold k_N
  rw [if_neg (by omega), if_pos rfl, if_pos (by omega)]
  rfl
def w_X11_init (cy : Nat → ClassId) (h0 : Nat) (r : Nat → Nat) : va_W := [(h0, .inr (11, [.int (Int32.ofInt (k_M 85 0)), .int (Int32.ofInt (k_M 85 1)), .int (Int32.ofInt (k_M 85 2)), .int (Int32.ofInt (k_M 85 3)), .ref (r 0), .ref (r 1), .ref (r 2), .int (Int32.ofInt (k_M 85 7)), .ref (r 3), .ref (r 4), .ref (r 5), .ref (r 6), .ref (r 7), .ref (r 8), .int (Int32.ofInt (k_M 85 14)), .ref (r 9), .ref (r 10), .int (Int32.ofInt (k_M 85 17)), .long 0, .long 0, .long 0, .ref (r 11), .ref (r 12), .int (Int32.ofInt (k_M 85 23)), .ref (r 13), .ref (r 14), .ref (r 15), .ref (r 16), .ref (r 17), .ref (r 18), .ref (r 19), .int (Int32.ofInt (k_M 85 31)), .int (Int32.ofInt (k_M 85 32)), .int (Int32.ofInt (k_M 85 33)), .int (Int32.ofInt (k_M 85 34)), .long 0, .int (Int32.ofInt (k_M 85 36)), .int 0])), (r 0, .inl (cy 0, 576, .inl (fun j => Int32.ofInt (k_M 86 j)))), (r 1, .inl (cy 0, 1728, .inl (fun _ => 0))), (r 2, .inl (cy 2, 3, .inl (fun j => Int32.ofInt (k_M 88 j)))), (r 3, .inl (cy 0, 10, .inl (fun _ => 0))), (r 4, .inl (cy 0, 10, .inl (fun _ => 0))), (r 5, .inl (cy 0, 10, .inl (fun _ => 0))), (r 6, .inl (cy 0, 30, .inl (fun _ => 0))), (r 7, .inl (cy 0, 10, .inl (fun _ => 0))), (r 8, .inl (cy 2, 90, .inl (fun j => Int32.ofInt (k_M 94 j)))), (r 9, .inl (cy 0, 100, .inl (fun _ => 0))), (r 10, .inl (cy 0, 1440, .inl (fun _ => 0))), (r 11, .inl (cy 1, 144, .inr (.inl (fun _ => 0)))), (r 12, .inl (cy 0, 144, .inl (fun _ => 0))), (r 13, .inl (cy 0, 10, .inl (fun _ => 0))), (r 14, .inl (cy 0, 10, .inl (fun _ => 0))), (r 15, .inl (cy 0, 10, .inl (fun _ => 0))), (r 16, .inl (cy 0, 30, .inl (fun _ => 0))), (r 17, .inl (cy 0, 10, .inl (fun _ => 0))), (r 18, .inl (cy 0, 26, .inl (fun j => Int32.ofInt (k_M 104 j)))), (r 19, .inl (cy 0, 300, .inl (fun _ => 0)))]
theorem dn_X11_init_0 : decode cX11_init 0 = .ok (.aload_n 0, 1) := by decide +kernel
theorem dn_X11_init_1 : decode cX11_init 1 = .ok (.invokespecial 1, 3) := by decide +kernel
theorem dn_X11_init_4 : decode cX11_init 4 = .ok (.aload_n 0, 1) := by decide +kernel
theorem dn_X11_init_5 : decode cX11_init 5 = .ok (.bipush 8, 2) := by decide +kernel
theorem dn_X11_init_7 : decode cX11_init 7 = .ok (.putfield 7, 3) := by decide +kernel
theorem dn_X11_init_10 : decode cX11_init 10 = .ok (.aload_n 0, 1) := by decide +kernel
theorem dn_X11_init_11 : decode cX11_init 11 = .ok (.bipush 8, 2) := by decide +kernel
theorem dn_X11_init_13 : decode cX11_init 13 = .ok (.putfield 13, 3) := by decide +kernel
theorem dn_X11_init_16 : decode cX11_init 16 = .ok (.aload_n 0, 1) := by decide +kernel
theorem dn_X11_init_17 : decode cX11_init 17 = .ok (.sipush 576, 3) := by decide +kernel
theorem dn_X11_init_20 : decode cX11_init 20 = .ok (.newarray .int, 2) := by decide +kernel
theorem dn_X11_init_22 : decode cX11_init 22 = .ok (.putfield 16, 3) := by decide +kernel
theorem dn_X11_init_25 : decode cX11_init 25 = .ok (.aload_n 0, 1) := by decide +kernel
theorem dn_X11_init_26 : decode cX11_init 26 = .ok (.sipush 1728, 3) := by decide +kernel
theorem dn_X11_init_29 : decode cX11_init 29 = .ok (.newarray .int, 2) := by decide +kernel
theorem dn_X11_init_31 : decode cX11_init 31 = .ok (.putfield 20, 3) := by decide +kernel
theorem dn_X11_init_34 : decode cX11_init 34 = .ok (.aload_n 0, 1) := by decide +kernel
theorem dn_X11_init_35 : decode cX11_init 35 = .ok (.iconst 3, 1) := by decide +kernel
theorem dn_X11_init_36 : decode cX11_init 36 = .ok (.newarray .boolean, 2) := by decide +kernel
theorem dn_X11_init_38 : decode cX11_init 38 = .ok (.putfield 23, 3) := by decide +kernel
theorem dn_X11_init_41 : decode cX11_init 41 = .ok (.aload_n 0, 1) := by decide +kernel
theorem dn_X11_init_42 : decode cX11_init 42 = .ok (.bipush 10, 2) := by decide +kernel
theorem dn_X11_init_44 : decode cX11_init 44 = .ok (.newarray .int, 2) := by decide +kernel
theorem dn_X11_init_46 : decode cX11_init 46 = .ok (.putfield 27, 3) := by decide +kernel
theorem dn_X11_init_49 : decode cX11_init 49 = .ok (.aload_n 0, 1) := by decide +kernel
theorem dn_X11_init_50 : decode cX11_init 50 = .ok (.bipush 10, 2) := by decide +kernel
theorem dn_X11_init_52 : decode cX11_init 52 = .ok (.newarray .int, 2) := by decide +kernel
theorem dn_X11_init_54 : decode cX11_init 54 = .ok (.putfield 30, 3) := by decide +kernel
theorem dn_X11_init_57 : decode cX11_init 57 = .ok (.aload_n 0, 1) := by decide +kernel
theorem dn_X11_init_58 : decode cX11_init 58 = .ok (.bipush 10, 2) := by decide +kernel
theorem dn_X11_init_60 : decode cX11_init 60 = .ok (.newarray .int, 2) := by decide +kernel
theorem dn_X11_init_62 : decode cX11_init 62 = .ok (.putfield 33, 3) := by decide +kernel
theorem dn_X11_init_65 : decode cX11_init 65 = .ok (.aload_n 0, 1) := by decide +kernel
theorem dn_X11_init_66 : decode cX11_init 66 = .ok (.bipush 30, 2) := by decide +kernel
theorem dn_X11_init_68 : decode cX11_init 68 = .ok (.newarray .int, 2) := by decide +kernel
theorem dn_X11_init_70 : decode cX11_init 70 = .ok (.putfield 36, 3) := by decide +kernel
theorem dn_X11_init_73 : decode cX11_init 73 = .ok (.aload_n 0, 1) := by decide +kernel
theorem dn_X11_init_74 : decode cX11_init 74 = .ok (.bipush 10, 2) := by decide +kernel
theorem dn_X11_init_76 : decode cX11_init 76 = .ok (.newarray .int, 2) := by decide +kernel
theorem dn_X11_init_78 : decode cX11_init 78 = .ok (.putfield 39, 3) := by decide +kernel
theorem dn_X11_init_81 : decode cX11_init 81 = .ok (.aload_n 0, 1) := by decide +kernel
theorem dn_X11_init_82 : decode cX11_init 82 = .ok (.bipush 90, 2) := by decide +kernel
theorem dn_X11_init_84 : decode cX11_init 84 = .ok (.newarray .boolean, 2) := by decide +kernel
theorem dn_X11_init_86 : decode cX11_init 86 = .ok (.putfield 42, 3) := by decide +kernel
theorem dn_X11_init_89 : decode cX11_init 89 = .ok (.aload_n 0, 1) := by decide +kernel
theorem dn_X11_init_90 : decode cX11_init 90 = .ok (.bipush 100, 2) := by decide +kernel
theorem dn_X11_init_92 : decode cX11_init 92 = .ok (.newarray .int, 2) := by decide +kernel
theorem dn_X11_init_94 : decode cX11_init 94 = .ok (.putfield 45, 3) := by decide +kernel
theorem dn_X11_init_97 : decode cX11_init 97 = .ok (.aload_n 0, 1) := by decide +kernel
theorem dn_X11_init_98 : decode cX11_init 98 = .ok (.sipush 1440, 3) := by decide +kernel
theorem dn_X11_init_101 : decode cX11_init 101 = .ok (.newarray .int, 2) := by decide +kernel
theorem dn_X11_init_103 : decode cX11_init 103 = .ok (.putfield 48, 3) := by decide +kernel
theorem dn_X11_init_106 : decode cX11_init 106 = .ok (.aload_n 0, 1) := by decide +kernel
theorem dn_X11_init_107 : decode cX11_init 107 = .ok (.sipush 144, 3) := by decide +kernel
theorem dn_X11_init_110 : decode cX11_init 110 = .ok (.newarray .long, 2) := by decide +kernel
theorem dn_X11_init_112 : decode cX11_init 112 = .ok (.putfield 51, 3) := by decide +kernel
theorem dn_X11_init_115 : decode cX11_init 115 = .ok (.aload_n 0, 1) := by decide +kernel
theorem dn_X11_init_116 : decode cX11_init 116 = .ok (.sipush 144, 3) := by decide +kernel
theorem dn_X11_init_119 : decode cX11_init 119 = .ok (.newarray .int, 2) := by decide +kernel
theorem dn_X11_init_121 : decode cX11_init 121 = .ok (.putfield 55, 3) := by decide +kernel
theorem dn_X11_init_124 : decode cX11_init 124 = .ok (.aload_n 0, 1) := by decide +kernel
theorem dn_X11_init_125 : decode cX11_init 125 = .ok (.bipush 10, 2) := by decide +kernel
theorem dn_X11_init_127 : decode cX11_init 127 = .ok (.newarray .int, 2) := by decide +kernel
theorem dn_X11_init_129 : decode cX11_init 129 = .ok (.putfield 58, 3) := by decide +kernel
theorem dn_X11_init_132 : decode cX11_init 132 = .ok (.aload_n 0, 1) := by decide +kernel
theorem dn_X11_init_133 : decode cX11_init 133 = .ok (.bipush 10, 2) := by decide +kernel
theorem dn_X11_init_135 : decode cX11_init 135 = .ok (.newarray .int, 2) := by decide +kernel
theorem dn_X11_init_137 : decode cX11_init 137 = .ok (.putfield 61, 3) := by decide +kernel
theorem dn_X11_init_140 : decode cX11_init 140 = .ok (.aload_n 0, 1) := by decide +kernel
theorem dn_X11_init_141 : decode cX11_init 141 = .ok (.bipush 10, 2) := by decide +kernel
theorem dn_X11_init_143 : decode cX11_init 143 = .ok (.newarray .int, 2) := by decide +kernel
theorem dn_X11_init_145 : decode cX11_init 145 = .ok (.putfield 64, 3) := by decide +kernel
theorem dn_X11_init_148 : decode cX11_init 148 = .ok (.aload_n 0, 1) := by decide +kernel
theorem dn_X11_init_149 : decode cX11_init 149 = .ok (.bipush 30, 2) := by decide +kernel
theorem dn_X11_init_151 : decode cX11_init 151 = .ok (.newarray .int, 2) := by decide +kernel
theorem dn_X11_init_153 : decode cX11_init 153 = .ok (.putfield 67, 3) := by decide +kernel
theorem dn_X11_init_156 : decode cX11_init 156 = .ok (.aload_n 0, 1) := by decide +kernel
theorem dn_X11_init_157 : decode cX11_init 157 = .ok (.bipush 10, 2) := by decide +kernel
theorem dn_X11_init_159 : decode cX11_init 159 = .ok (.newarray .int, 2) := by decide +kernel
theorem dn_X11_init_161 : decode cX11_init 161 = .ok (.putfield 70, 3) := by decide +kernel
theorem dn_X11_init_164 : decode cX11_init 164 = .ok (.aload_n 0, 1) := by decide +kernel
theorem dn_X11_init_165 : decode cX11_init 165 = .ok (.bipush 26, 2) := by decide +kernel
theorem dn_X11_init_167 : decode cX11_init 167 = .ok (.newarray .int, 2) := by decide +kernel
theorem dn_X11_init_169 : decode cX11_init 169 = .ok (.putfield 73, 3) := by decide +kernel
theorem dn_X11_init_172 : decode cX11_init 172 = .ok (.aload_n 0, 1) := by decide +kernel
theorem dn_X11_init_173 : decode cX11_init 173 = .ok (.sipush 300, 3) := by decide +kernel
theorem dn_X11_init_176 : decode cX11_init 176 = .ok (.newarray .int, 2) := by decide +kernel
theorem dn_X11_init_178 : decode cX11_init 178 = .ok (.putfield 76, 3) := by decide +kernel
theorem dn_X11_init_181 : decode cX11_init 181 = .ok (.aload_n 0, 1) := by decide +kernel
theorem dn_X11_init_182 : decode cX11_init 182 = .ok (.iconst (-1), 1) := by decide +kernel
theorem dn_X11_init_183 : decode cX11_init 183 = .ok (.putfield 79, 3) := by decide +kernel
theorem dn_X11_init_186 : decode cX11_init 186 = .ok (.aload_n 0, 1) := by decide +kernel
theorem dn_X11_init_187 : decode cX11_init 187 = .ok (.invokevirtual 82, 3) := by decide +kernel
theorem dn_X11_init_190 : decode cX11_init 190 = .ok (.return_, 1) := by decide +kernel
def rn_X11_init : Room := { frames := 2, cells := 20, slots := 4691, locals := 42 }
set_option maxHeartbeats 1500000 in
set_option maxRecDepth 100000 in
theorem Cn_X11_init {l : Launch} {D : va_G} {cy : Nat → ClassId} (h0 sz : Nat) : Met l yX11_init (.code yX11_init cX11_init 1 none :: q_tb) rn_X11_init (va_Pc [.ref h0] (fun U => U.heap.size = sz ∧ va_P D vwCl [(h0, .inr (11, [.int 0, .int 0, .int 0, .int 0, .null, .null, .null, .int 0, .null, .null, .null, .null, .null, .null, .int 0, .null, .null, .int 0, .long 0, .long 0, .long 0, .null, .null, .int 0, .null, .null, .null, .null, .null, .null, .null, .int 0, .int 0, .int 0, .int 0, .long 0, .int 0, .int 0]))] U.heap ∧ va_K D vwCl (q_tys cy) U ∧ va_D (fun _ => True) [(h0, .inr (11, [.int 0, .int 0, .int 0, .int 0, .null, .null, .null, .int 0, .null, .null, .null, .null, .null, .null, .int 0, .null, .null, .int 0, .long 0, .long 0, .long 0, .null, .null, .int 0, .null, .null, .null, .null, .null, .null, .null, .int 0, .int 0, .int 0, .int 0, .long 0, .int 0, .int 0]))] ∧ q_Zc U)) (va_Qv (fun _ : Nat → Nat => True) (fun r t => va_P D vwCl (w_X11_init cy h0 r) t.heap ∧ va_D (va_A [(h0, .inr (11, [.int 0, .int 0, .int 0, .int 0, .null, .null, .null, .int 0, .null, .null, .null, .null, .null, .null, .int 0, .null, .null, .int 0, .long 0, .long 0, .long 0, .null, .null, .int 0, .null, .null, .null, .null, .null, .null, .null, .int 0, .int 0, .int 0, .int 0, .long 0, .int 0, .int 0]))] sz) (w_X11_init cy h0 r)) (va_A [(h0, .inr (11, [.int 0, .int 0, .int 0, .int 0, .null, .null, .null, .int 0, .null, .null, .null, .null, .null, .null, .int 0, .null, .null, .int 0, .long 0, .long 0, .long 0, .null, .null, .int 0, .null, .null, .null, .null, .null, .null, .null, .int 0, .int 0, .int 0, .int 0, .long 0, .int 0, .int 0]))] sz)) 20 4691 (va_A [(h0, .inr (11, [.int 0, .int 0, .int 0, .int 0, .null, .null, .null, .int 0, .null, .null, .null, .null, .null, .null, .int 0, .null, .null, .int 0, .long 0, .long 0, .long 0, .null, .null, .int 0, .null, .null, .null, .null, .null, .null, .null, .int 0, .int 0, .int 0, .int 0, .long 0, .int 0, .int 0]))] sz) := by
  sorry

