def b_X11_in_0 : List QE := [(.lload_n 0, 1, []), (.lload_n 2, 2, []), (.lcmp, 3, []), (.ifCond .lt 14, 6, [(0, 17)])]
def b_X11_in_6 : List QE := [(.lload_n 0, 7, []), (.lload 4, 9, []), (.lcmp, 10, []), (.ifCond .gt 7, 13, [(0, 17)])]
def b_X11_in_13 : List QE := [(.iconst 1, 14, []), (.goto 4, 17, [(0, 18)])]
def b_X11_in_17 : List QE := [(.iconst 0, 18, [])]
def b_X11_in_18 : List QE := [(.ireturn, 19, [])]
def L_X11_in : List (Nat × Option (List QE)) := [(0, some b_X11_in_0), (6, some b_X11_in_6), (13, some b_X11_in_13), (17, some b_X11_in_17), (18, some b_X11_in_18)]
def s_X11_in : Nat → Option (List QE) := q_look L_X11_in
theorem s_X11_in_0 : s_X11_in 0 = some b_X11_in_0 := id rfl
theorem s_X11_in_6 : s_X11_in 6 = some b_X11_in_6 := id rfl
theorem s_X11_in_13 : s_X11_in 13 = some b_X11_in_13 := id rfl
theorem s_X11_in_17 : s_X11_in 17 = some b_X11_in_17 := id rfl
theorem s_X11_in_18 : s_X11_in 18 = some b_X11_in_18 := id rfl
def u_X11_in : QU := ([], [], [], [], [], [], [])
theorem o_X11_in : q_skok cX11_in 6 u_X11_in L_X11_in = true := by decide +kernel
theorem k_X11_in : q_chk RX11 fl_X11 ld_X11 u_X11_in = true := by decide +kernel
def b_X11_answer_0 : List QE := [(.aload_n 0, 1, []), (.iload_n 1, 2, []), (.ifCond .ge 7, 5, [(0, 9)])]
def b_X11_answer_5 : List QE := [(.iload_n 1, 6, []), (.goto 4, 9, [(0, 10)])]
def b_X11_answer_9 : List QE := [(.iconst 0, 10, [])]
def b_X11_answer_10 : List QE := [(.putfield 88, 13, []), (.iload_n 1, 14, []), (.ireturn, 15, [])]
def L_X11_answer : List (Nat × Option (List QE)) := [(0, some b_X11_answer_0), (5, some b_X11_answer_5), (9, some b_X11_answer_9), (10, some b_X11_answer_10)]
def s_X11_answer : Nat → Option (List QE) := q_look L_X11_answer
theorem s_X11_answer_0 : s_X11_answer 0 = some b_X11_answer_0 := id rfl
theorem s_X11_answer_5 : s_X11_answer 5 = some b_X11_answer_5 := id rfl
theorem s_X11_answer_9 : s_X11_answer 9 = some b_X11_answer_9 := id rfl
theorem s_X11_answer_10 : s_X11_answer 10 = some b_X11_answer_10 := id rfl
def u_X11_answer : QU := ([88], [88], [], [], [], [], [])
theorem o_X11_answer : q_skok cX11_answer 2 u_X11_answer L_X11_answer = true := by decide +kernel
theorem k_X11_answer : q_chk RX11 fl_X11 ld_X11 u_X11_answer = true := by decide +kernel
def b_X11_clearSheets_0 : List QE := [(.iconst 0, 1, []), (.istore_n 1, 2, [])]
def b_X11_clearSheets_2 : List QE := [(.iload_n 1, 3, []), (.sipush 576, 6, []), (.if_icmp .ge 17, 9, [(0, 23)])]
def b_X11_clearSheets_9 : List QE := [(.aload_n 0, 10, []), (.getfield 16, 13, []), (.iload_n 1, 14, []), (.ldc 91, 16, []), (.iastore, 17, []), (.iinc 1 1, 20, []), (.goto (-18), 23, [(0, 2)])]
def b_X11_clearSheets_23 : List QE := [(.iconst 0, 24, []), (.istore_n 1, 25, [])]
def b_X11_clearSheets_25 : List QE := [(.iload_n 1, 26, []), (.iconst 3, 27, []), (.if_icmp .ge 16, 30, [(0, 43)])]
def b_X11_clearSheets_30 : List QE := [(.aload_n 0, 31, []), (.getfield 23, 34, []), (.iload_n 1, 35, []), (.iconst 0, 36, []), (.bastore, 37, []), (.iinc 1 1, 40, []), (.goto (-15), 43, [(0, 25)])]
def b_X11_clearSheets_43 : List QE := [(.aload_n 0, 44, []), (.invokevirtual 92, 47, []), (.return_, 48, [])]
def L_X11_clearSheets : List (Nat × Option (List QE)) := [(0, some b_X11_clearSheets_0), (2, none), (9, some b_X11_clearSheets_9), (23, some b_X11_clearSheets_23), (25, none), (30, some b_X11_clearSheets_30), (43, some b_X11_clearSheets_43)]
def s_X11_clearSheets : Nat → Option (List QE) := q_look L_X11_clearSheets
theorem s_X11_clearSheets_0 : s_X11_clearSheets 0 = some b_X11_clearSheets_0 := id rfl
theorem s_X11_clearSheets_2 : s_X11_clearSheets 2 = none := id rfl
theorem s_X11_clearSheets_9 : s_X11_clearSheets 9 = some b_X11_clearSheets_9 := id rfl
theorem s_X11_clearSheets_23 : s_X11_clearSheets 23 = some b_X11_clearSheets_23 := id rfl
theorem s_X11_clearSheets_25 : s_X11_clearSheets 25 = none := id rfl
theorem s_X11_clearSheets_30 : s_X11_clearSheets 30 = some b_X11_clearSheets_30 := id rfl
theorem s_X11_clearSheets_43 : s_X11_clearSheets 43 = some b_X11_clearSheets_43 := id rfl
def u_X11_clearSheets : QU := ([16, 23], [], [91], [], [92], [], [])
theorem o_X11_clearSheets : q_skok cX11_clearSheets 2 u_X11_clearSheets L_X11_clearSheets = true := by decide +kernel
theorem o_X11_clearSheets_25 : q_ok cX11_clearSheets 2 u_X11_clearSheets 25 b_X11_clearSheets_25 = true := by decide +kernel
theorem o_X11_clearSheets_2 : q_ok cX11_clearSheets 2 u_X11_clearSheets 2 b_X11_clearSheets_2 = true := by decide +kernel
theorem k_X11_clearSheets : q_chk RX11 fl_X11 ld_X11 u_X11_clearSheets = true := by decide +kernel
def b_X11_isCell_0 : List QE := [(.iload_n 1, 1, []), (.i2l, 2, []), (.lconst 0, 3, []), (.aload_n 0, 4, []), (.getfield 7, 7, []), (.i2l, 8, []), (.lconst 1, 9, []), (.lsub, 10, []), (.invokestatic 95, 13, []), (.ifCond .eq 23, 16, [(0, 36)])]
def b_X11_isCell_16 : List QE := [(.iload_n 2, 17, []), (.i2l, 18, []), (.lconst 0, 19, []), (.aload_n 0, 20, []), (.getfield 13, 23, []), (.i2l, 24, []), (.lconst 1, 25, []), (.lsub, 26, []), (.invokestatic 95, 29, []), (.ifCond .eq 7, 32, [(0, 36)])]
def b_X11_isCell_32 : List QE := [(.iconst 1, 33, []), (.goto 4, 36, [(0, 37)])]
def b_X11_isCell_36 : List QE := [(.iconst 0, 37, [])]
def b_X11_isCell_37 : List QE := [(.ireturn, 38, [])]
def L_X11_isCell : List (Nat × Option (List QE)) := [(0, some b_X11_isCell_0), (16, some b_X11_isCell_16), (32, some b_X11_isCell_32), (36, some b_X11_isCell_36), (37, some b_X11_isCell_37)]
def s_X11_isCell : Nat → Option (List QE) := q_look L_X11_isCell
theorem s_X11_isCell_0 : s_X11_isCell 0 = some b_X11_isCell_0 := id rfl
theorem s_X11_isCell_16 : s_X11_isCell 16 = some b_X11_isCell_16 := id rfl
theorem s_X11_isCell_32 : s_X11_isCell 32 = some b_X11_isCell_32 := id rfl
theorem s_X11_isCell_36 : s_X11_isCell 36 = some b_X11_isCell_36 := id rfl
theorem s_X11_isCell_37 : s_X11_isCell 37 = some b_X11_isCell_37 := id rfl
def u_X11_isCell : QU := ([7, 13], [], [], [], [], [95], [])
theorem o_X11_isCell : q_skok cX11_isCell 3 u_X11_isCell L_X11_isCell = true := by decide +kernel
theorem k_X11_isCell : q_chk RX11 fl_X11 ld_X11 u_X11_isCell = true := by decide +kernel
def b_X11_size_0 : List QE := [(.aload_n 0, 1, []), (.iconst 0, 2, []), (.putfield 85, 5, []), (.iload_n 1, 6, []), (.i2l, 7, []), (.ldc2_w 99, 10, []), (.ldc2_w 101, 13, []), (.invokestatic 95, 16, []), (.ifCond .eq 17, 19, [(0, 33)])]
def b_X11_size_19 : List QE := [(.iload_n 2, 20, []), (.i2l, 21, []), (.ldc2_w 99, 24, []), (.ldc2_w 101, 27, []), (.invokestatic 95, 30, []), (.ifCond .ne 9, 33, [(0, 39)])]
def b_X11_size_33 : List QE := [(.aload_n 0, 34, []), (.iconst (-1), 35, []), (.invokevirtual 103, 38, []), (.ireturn, 39, [])]
def b_X11_size_39 : List QE := [(.aload_n 0, 40, []), (.iload_n 1, 41, []), (.putfield 7, 44, []), (.aload_n 0, 45, []), (.iload_n 2, 46, []), (.putfield 13, 49, []), (.aload_n 0, 50, []), (.invokevirtual 82, 53, []), (.aload_n 0, 54, []), (.iconst 0, 55, []), (.invokevirtual 103, 58, []), (.ireturn, 59, [])]
def L_X11_size : List (Nat × Option (List QE)) := [(0, some b_X11_size_0), (19, some b_X11_size_19), (33, some b_X11_size_33), (39, some b_X11_size_39)]
def s_X11_size : Nat → Option (List QE) := q_look L_X11_size
theorem s_X11_size_0 : s_X11_size 0 = some b_X11_size_0 := id rfl
theorem s_X11_size_19 : s_X11_size 19 = some b_X11_size_19 := id rfl
theorem s_X11_size_33 : s_X11_size 33 = some b_X11_size_33 := id rfl
theorem s_X11_size_39 : s_X11_size 39 = some b_X11_size_39 := id rfl
def u_X11_size : QU := ([85, 7, 13], [85, 7, 13], [99, 101], [], [103, 82], [95], [])
theorem o_X11_size : q_skok cX11_size 3 u_X11_size L_X11_size = true := by decide +kernel
theorem k_X11_size : q_chk RX11 fl_X11 ld_X11 u_X11_size = true := by decide +kernel
def b_X11_tell_0 : List QE := [(.aload_n 0, 1, []), (.iconst 0, 2, []), (.putfield 85, 5, []), (.iload_n 1, 6, []), (.i2l, 7, []), (.lconst 0, 8, []), (.ldc2_w 107, 11, []), (.invokestatic 95, 14, []), (.ifCond .eq 25, 17, [(0, 39)])]
def b_X11_tell_17 : List QE := [(.iload 4, 19, []), (.ldc 91, 21, []), (.if_icmp .eq 24, 24, [(0, 45)])]
def b_X11_tell_24 : List QE := [(.iload 4, 26, []), (.i2l, 27, []), (.ldc2_w 109, 30, []), (.ldc2_w 111, 33, []), (.invokestatic 95, 36, []), (.ifCond .ne 9, 39, [(0, 45)])]
def b_X11_tell_39 : List QE := [(.aload_n 0, 40, []), (.iconst (-1), 41, []), (.invokevirtual 103, 44, []), (.ireturn, 45, [])]
def b_X11_tell_45 : List QE := [(.aload_n 0, 46, []), (.iload_n 2, 47, []), (.iload_n 3, 48, []), (.invokevirtual 113, 51, []), (.ifCond .ne 10, 54, [(0, 61)])]
def b_X11_tell_54 : List QE := [(.aload_n 0, 55, []), (.bipush (-2), 57, []), (.invokevirtual 103, 60, []), (.ireturn, 61, [])]
def b_X11_tell_61 : List QE := [(.aload_n 0, 62, []), (.iload_n 1, 63, []), (.iload_n 2, 64, []), (.iload_n 3, 65, []), (.iload 4, 67, []), (.invokevirtual 117, 70, []), (.aload_n 0, 71, []), (.iconst 0, 72, []), (.invokevirtual 103, 75, []), (.ireturn, 76, [])]
def L_X11_tell : List (Nat × Option (List QE)) := [(0, some b_X11_tell_0), (17, some b_X11_tell_17), (24, some b_X11_tell_24), (39, some b_X11_tell_39), (45, some b_X11_tell_45), (54, some b_X11_tell_54), (61, some b_X11_tell_61)]
def s_X11_tell : Nat → Option (List QE) := q_look L_X11_tell
theorem s_X11_tell_0 : s_X11_tell 0 = some b_X11_tell_0 := id rfl
theorem s_X11_tell_17 : s_X11_tell 17 = some b_X11_tell_17 := id rfl
theorem s_X11_tell_24 : s_X11_tell 24 = some b_X11_tell_24 := id rfl
theorem s_X11_tell_39 : s_X11_tell 39 = some b_X11_tell_39 := id rfl
theorem s_X11_tell_45 : s_X11_tell 45 = some b_X11_tell_45 := id rfl
theorem s_X11_tell_54 : s_X11_tell 54 = some b_X11_tell_54 := id rfl
theorem s_X11_tell_61 : s_X11_tell 61 = some b_X11_tell_61 := id rfl
def u_X11_tell : QU := ([85], [85], [107, 91, 109, 111], [], [103, 113, 117], [95], [])
theorem o_X11_tell : q_skok cX11_tell 5 u_X11_tell L_X11_tell = true := by decide +kernel
theorem k_X11_tell : q_chk RX11 fl_X11 ld_X11 u_X11_tell = true := by decide +kernel
def b_X11_tileOf_0 : List QE := [(.iload_n 1, 1, []), (.iconst 4, 2, []), (.idiv, 3, []), (.iconst 3, 4, []), (.imul, 5, []), (.iload_n 0, 6, []), (.iconst 4, 7, []), (.idiv, 8, []), (.iadd, 9, []), (.ireturn, 10, [])]
def L_X11_tileOf : List (Nat × Option (List QE)) := [(0, some b_X11_tileOf_0)]
def s_X11_tileOf : Nat → Option (List QE) := q_look L_X11_tileOf
theorem s_X11_tileOf_0 : s_X11_tileOf 0 = some b_X11_tileOf_0 := id rfl
def u_X11_tileOf : QU := ([], [], [], [], [], [], [])
theorem o_X11_tileOf : q_skok cX11_tileOf 2 u_X11_tileOf L_X11_tileOf = true := by decide +kernel
theorem k_X11_tileOf : q_chk RX11 fl_X11 ld_X11 u_X11_tileOf = true := by decide +kernel
def b_X11_put_0 : List QE := [(.aload_n 0, 1, []), (.getfield 16, 4, []), (.sipush 144, 7, []), (.iload_n 1, 8, []), (.imul, 9, []), (.bipush 12, 11, []), (.iload_n 3, 12, []), (.imul, 13, []), (.iadd, 14, []), (.iload_n 2, 15, []), (.iadd, 16, []), (.iload 4, 18, []), (.iastore, 19, []), (.iconst 1, 20, []), (.iload_n 2, 21, []), (.iload_n 3, 22, []), (.invokestatic 121, 25, []), (.ishl, 26, []), (.istore 5, 28, []), (.iconst 0, 29, []), (.istore 6, 31, [])]
def b_X11_put_31 : List QE := [(.iload 6, 33, []), (.aload_n 0, 34, []), (.getfield 125, 37, []), (.if_icmp .ge 74, 40, [(0, 111)])]
def b_X11_put_40 : List QE := [(.iconst 0, 41, []), (.istore 7, 43, [])]
def b_X11_put_43 : List QE := [(.iload 7, 45, []), (.bipush 9, 47, []), (.if_icmp .ge 58, 50, [(0, 105)])]
def b_X11_put_50 : List QE := [(.aload_n 0, 51, []), (.getfield 42, 54, []), (.bipush 9, 56, []), (.iload 6, 58, []), (.imul, 59, []), (.iload 7, 61, []), (.iadd, 62, []), (.aload_n 0, 63, []), (.getfield 42, 66, []), (.bipush 9, 68, []), (.iload 6, 70, []), (.imul, 71, []), (.iload 7, 73, []), (.iadd, 74, []), (.baload, 75, []), (.ifCond .eq 22, 78, [(0, 97)])]
def b_X11_put_78 : List QE := [(.aload_n 0, 79, []), (.iload 6, 81, []), (.iload 7, 83, []), (.iload_n 1, 84, []), (.invokevirtual 128, 87, []), (.iload 5, 89, []), (.iand, 90, []), (.ifCond .ne 7, 93, [(0, 97)])]
def b_X11_put_93 : List QE := [(.iconst 1, 94, []), (.goto 4, 97, [(0, 98)])]
def b_X11_put_97 : List QE := [(.iconst 0, 98, [])]
def b_X11_put_98 : List QE := [(.bastore, 99, []), (.iinc 7 1, 102, []), (.goto (-59), 105, [(0, 43)])]
def b_X11_put_105 : List QE := [(.iinc 6 1, 108, []), (.goto (-77), 111, [(0, 31)])]
def b_X11_put_111 : List QE := [(.return_, 112, [])]
def L_X11_put : List (Nat × Option (List QE)) := [(0, some b_X11_put_0), (31, none), (40, some b_X11_put_40), (43, none), (50, some b_X11_put_50), (78, some b_X11_put_78), (93, some b_X11_put_93), (97, some b_X11_put_97), (98, some b_X11_put_98), (105, some b_X11_put_105), (111, some b_X11_put_111)]
def s_X11_put : Nat → Option (List QE) := q_look L_X11_put
theorem s_X11_put_0 : s_X11_put 0 = some b_X11_put_0 := id rfl
theorem s_X11_put_31 : s_X11_put 31 = none := id rfl
theorem s_X11_put_40 : s_X11_put 40 = some b_X11_put_40 := id rfl
theorem s_X11_put_43 : s_X11_put 43 = none := id rfl
theorem s_X11_put_50 : s_X11_put 50 = some b_X11_put_50 := id rfl
theorem s_X11_put_78 : s_X11_put 78 = some b_X11_put_78 := id rfl
theorem s_X11_put_93 : s_X11_put 93 = some b_X11_put_93 := id rfl
theorem s_X11_put_97 : s_X11_put 97 = some b_X11_put_97 := id rfl
theorem s_X11_put_98 : s_X11_put 98 = some b_X11_put_98 := id rfl
theorem s_X11_put_105 : s_X11_put 105 = some b_X11_put_105 := id rfl
theorem s_X11_put_111 : s_X11_put 111 = some b_X11_put_111 := id rfl
def u_X11_put : QU := ([16, 125, 42], [], [], [], [128], [121], [])
theorem o_X11_put : q_skok cX11_put 8 u_X11_put L_X11_put = true := by decide +kernel
theorem o_X11_put_43 : q_ok cX11_put 8 u_X11_put 43 b_X11_put_43 = true := by decide +kernel
theorem o_X11_put_31 : q_ok cX11_put 8 u_X11_put 31 b_X11_put_31 = true := by decide +kernel
theorem k_X11_put : q_chk RX11 fl_X11 ld_X11 u_X11_put = true := by decide +kernel
def b_X11_told_0 : List QE := [(.aload_n 0, 1, []), (.iconst 0, 2, []), (.putfield 85, 5, []), (.iload_n 1, 6, []), (.i2l, 7, []), (.lconst 0, 8, []), (.ldc2_w 107, 11, []), (.invokestatic 95, 14, []), (.ifCond .eq 32, 17, [(0, 46)])]
def b_X11_told_17 : List QE := [(.aload_n 0, 18, []), (.iload_n 2, 19, []), (.iload_n 3, 20, []), (.invokevirtual 113, 23, []), (.ifCond .eq 23, 26, [(0, 46)])]
def b_X11_told_26 : List QE := [(.aload_n 0, 27, []), (.getfield 16, 30, []), (.sipush 144, 33, []), (.iload_n 1, 34, []), (.imul, 35, []), (.bipush 12, 37, []), (.iload_n 3, 38, []), (.imul, 39, []), (.iadd, 40, []), (.iload_n 2, 41, []), (.iadd, 42, []), (.iaload, 43, []), (.goto 5, 46, [(0, 48)])]
def b_X11_told_46 : List QE := [(.ldc 91, 48, [])]
def b_X11_told_48 : List QE := [(.ireturn, 49, [])]
def L_X11_told : List (Nat × Option (List QE)) := [(0, some b_X11_told_0), (17, some b_X11_told_17), (26, some b_X11_told_26), (46, some b_X11_told_46), (48, some b_X11_told_48)]
def s_X11_told : Nat → Option (List QE) := q_look L_X11_told
theorem s_X11_told_0 : s_X11_told 0 = some b_X11_told_0 := id rfl
theorem s_X11_told_17 : s_X11_told 17 = some b_X11_told_17 := id rfl
theorem s_X11_told_26 : s_X11_told 26 = some b_X11_told_26 := id rfl
theorem s_X11_told_46 : s_X11_told 46 = some b_X11_told_46 := id rfl
theorem s_X11_told_48 : s_X11_told 48 = some b_X11_told_48 := id rfl
def u_X11_told : QU := ([85, 16], [85], [107, 91], [], [113], [95], [])
theorem o_X11_told : q_skok cX11_told 4 u_X11_told L_X11_told = true := by decide +kernel
theorem k_X11_told : q_chk RX11 fl_X11 ld_X11 u_X11_told = true := by decide +kernel
def b_X11_staleAll_0 : List QE := [(.iconst 0, 1, []), (.istore_n 1, 2, [])]
def b_X11_staleAll_2 : List QE := [(.iload_n 1, 3, []), (.bipush 90, 5, []), (.if_icmp .ge 16, 8, [(0, 21)])]
def b_X11_staleAll_8 : List QE := [(.aload_n 0, 9, []), (.getfield 42, 12, []), (.iload_n 1, 13, []), (.iconst 0, 14, []), (.bastore, 15, []), (.iinc 1 1, 18, []), (.goto (-16), 21, [(0, 2)])]
def b_X11_staleAll_21 : List QE := [(.return_, 22, [])]
def L_X11_staleAll : List (Nat × Option (List QE)) := [(0, some b_X11_staleAll_0), (2, none), (8, some b_X11_staleAll_8), (21, some b_X11_staleAll_21)]
def s_X11_staleAll : Nat → Option (List QE) := q_look L_X11_staleAll
theorem s_X11_staleAll_0 : s_X11_staleAll 0 = some b_X11_staleAll_0 := id rfl
theorem s_X11_staleAll_2 : s_X11_staleAll 2 = none := id rfl
theorem s_X11_staleAll_8 : s_X11_staleAll 8 = some b_X11_staleAll_8 := id rfl
theorem s_X11_staleAll_21 : s_X11_staleAll 21 = some b_X11_staleAll_21 := id rfl
def u_X11_staleAll : QU := ([42], [], [], [], [], [], [])
theorem o_X11_staleAll : q_skok cX11_staleAll 2 u_X11_staleAll L_X11_staleAll = true := by decide +kernel
theorem o_X11_staleAll_2 : q_ok cX11_staleAll 2 u_X11_staleAll 2 b_X11_staleAll_2 = true := by decide +kernel
theorem k_X11_staleAll : q_chk RX11 fl_X11 ld_X11 u_X11_staleAll = true := by decide +kernel
def b_X11_isTile_0 : List QE := [(.iload_n 1, 1, []), (.i2l, 2, []), (.lconst 0, 3, []), (.ldc2_w 132, 6, []), (.invokestatic 95, 9, []), (.ifCond .eq 31, 12, [(0, 40)])]
def b_X11_isTile_12 : List QE := [(.iload_n 1, 13, []), (.iconst 3, 14, []), (.irem, 15, []), (.iconst 4, 16, []), (.imul, 17, []), (.aload_n 0, 18, []), (.getfield 7, 21, []), (.if_icmp .ge 19, 24, [(0, 40)])]
def b_X11_isTile_24 : List QE := [(.iload_n 1, 25, []), (.iconst 3, 26, []), (.idiv, 27, []), (.iconst 4, 28, []), (.imul, 29, []), (.aload_n 0, 30, []), (.getfield 13, 33, []), (.if_icmp .ge 7, 36, [(0, 40)])]
def b_X11_isTile_36 : List QE := [(.iconst 1, 37, []), (.goto 4, 40, [(0, 41)])]
def b_X11_isTile_40 : List QE := [(.iconst 0, 41, [])]
def b_X11_isTile_41 : List QE := [(.ireturn, 42, [])]
def L_X11_isTile : List (Nat × Option (List QE)) := [(0, some b_X11_isTile_0), (12, some b_X11_isTile_12), (24, some b_X11_isTile_24), (36, some b_X11_isTile_36), (40, some b_X11_isTile_40), (41, some b_X11_isTile_41)]
def s_X11_isTile : Nat → Option (List QE) := q_look L_X11_isTile
theorem s_X11_isTile_0 : s_X11_isTile 0 = some b_X11_isTile_0 := id rfl
theorem s_X11_isTile_12 : s_X11_isTile 12 = some b_X11_isTile_12 := id rfl
theorem s_X11_isTile_24 : s_X11_isTile 24 = some b_X11_isTile_24 := id rfl
theorem s_X11_isTile_36 : s_X11_isTile 36 = some b_X11_isTile_36 := id rfl
theorem s_X11_isTile_40 : s_X11_isTile 40 = some b_X11_isTile_40 := id rfl
theorem s_X11_isTile_41 : s_X11_isTile 41 = some b_X11_isTile_41 := id rfl
def u_X11_isTile : QU := ([7, 13], [], [132], [], [], [95], [])
theorem o_X11_isTile : q_skok cX11_isTile 2 u_X11_isTile L_X11_isTile = true := by decide +kernel
theorem k_X11_isTile : q_chk RX11 fl_X11 ld_X11 u_X11_isTile = true := by decide +kernel
def b_X11_allTiles_0 : List QE := [(.iconst 0, 1, []), (.istore_n 1, 2, []), (.iconst 0, 3, []), (.istore_n 2, 4, [])]
def b_X11_allTiles_4 : List QE := [(.iload_n 2, 5, []), (.bipush 9, 7, []), (.if_icmp .ge 27, 10, [(0, 34)])]
def b_X11_allTiles_10 : List QE := [(.iload_n 1, 11, []), (.aload_n 0, 12, []), (.iload_n 2, 13, []), (.invokevirtual 134, 16, []), (.ifCond .eq 9, 19, [(0, 25)])]
def b_X11_allTiles_19 : List QE := [(.iconst 1, 20, []), (.iload_n 2, 21, []), (.ishl, 22, []), (.goto 4, 25, [(0, 26)])]
def b_X11_allTiles_25 : List QE := [(.iconst 0, 26, [])]
def b_X11_allTiles_26 : List QE := [(.ior, 27, []), (.istore_n 1, 28, []), (.iinc 2 1, 31, []), (.goto (-27), 34, [(0, 4)])]
def b_X11_allTiles_34 : List QE := [(.iload_n 1, 35, []), (.ireturn, 36, [])]
def L_X11_allTiles : List (Nat × Option (List QE)) := [(0, some b_X11_allTiles_0), (4, none), (10, some b_X11_allTiles_10), (19, some b_X11_allTiles_19), (25, some b_X11_allTiles_25), (26, some b_X11_allTiles_26), (34, some b_X11_allTiles_34)]
def s_X11_allTiles : Nat → Option (List QE) := q_look L_X11_allTiles
theorem s_X11_allTiles_0 : s_X11_allTiles 0 = some b_X11_allTiles_0 := id rfl
theorem s_X11_allTiles_4 : s_X11_allTiles 4 = none := id rfl
theorem s_X11_allTiles_10 : s_X11_allTiles 10 = some b_X11_allTiles_10 := id rfl
theorem s_X11_allTiles_19 : s_X11_allTiles 19 = some b_X11_allTiles_19 := id rfl
theorem s_X11_allTiles_25 : s_X11_allTiles 25 = some b_X11_allTiles_25 := id rfl
theorem s_X11_allTiles_26 : s_X11_allTiles 26 = some b_X11_allTiles_26 := id rfl
theorem s_X11_allTiles_34 : s_X11_allTiles 34 = some b_X11_allTiles_34 := id rfl
def u_X11_allTiles : QU := ([], [], [], [], [134], [], [])
theorem o_X11_allTiles : q_skok cX11_allTiles 3 u_X11_allTiles L_X11_allTiles = true := by decide +kernel
theorem o_X11_allTiles_4 : q_ok cX11_allTiles 3 u_X11_allTiles 4 b_X11_allTiles_4 = true := by decide +kernel
theorem k_X11_allTiles : q_chk RX11 fl_X11 ld_X11 u_X11_allTiles = true := by decide +kernel
def b_X11_needOf_0 : List QE := [(.iload_n 2, 1, []), (.ifCond .eq 12, 4, [(0, 13)])]
def b_X11_needOf_4 : List QE := [(.aload_n 0, 5, []), (.getfield 27, 8, []), (.iload_n 1, 9, []), (.iaload, 10, []), (.ifCond .ne 5, 13, [(0, 15)])]
def b_X11_needOf_13 : List QE := [(.iconst 0, 14, []), (.ireturn, 15, [])]
def b_X11_needOf_15 : List QE := [(.aload_n 0, 16, []), (.getfield 27, 19, []), (.iload_n 1, 20, []), (.iaload, 21, []), (.bipush 11, 23, []), (.if_icmp .eq 25, 26, [(0, 48)])]
def b_X11_needOf_26 : List QE := [(.aload_n 0, 27, []), (.getfield 27, 30, []), (.iload_n 1, 31, []), (.iaload, 32, []), (.bipush 7, 34, []), (.if_icmp .eq 14, 37, [(0, 48)])]
def b_X11_needOf_37 : List QE := [(.aload_n 0, 38, []), (.getfield 27, 41, []), (.iload_n 1, 42, []), (.iaload, 43, []), (.bipush 12, 45, []), (.if_icmp .ne 8, 48, [(0, 53)])]
def b_X11_needOf_48 : List QE := [(.aload_n 0, 49, []), (.invokevirtual 138, 52, []), (.ireturn, 53, [])]
def b_X11_needOf_53 : List QE := [(.aload_n 0, 54, []), (.getfield 27, 57, []), (.iload_n 1, 58, []), (.iaload, 59, []), (.bipush 10, 61, []), (.if_icmp .eq 5, 64, [(0, 66)])]
def b_X11_needOf_64 : List QE := [(.iload_n 2, 65, []), (.ireturn, 66, [])]
def b_X11_needOf_66 : List QE := [(.iconst 0, 67, []), (.istore_n 3, 68, []), (.aload_n 0, 69, []), (.getfield 33, 72, []), (.iload_n 1, 73, []), (.iaload, 74, []), (.istore 4, 76, []), (.iconst 0, 77, []), (.istore 5, 79, [])]
def b_X11_needOf_79 : List QE := [(.iload 5, 81, []), (.aload_n 0, 82, []), (.getfield 13, 85, []), (.if_icmp .ge 115, 88, [(0, 200)])]
def b_X11_needOf_88 : List QE := [(.iconst 0, 89, []), (.istore 6, 91, [])]
def b_X11_needOf_91 : List QE := [(.iload 6, 93, []), (.aload_n 0, 94, []), (.getfield 7, 97, []), (.if_icmp .ge 97, 100, [(0, 194)])]
def b_X11_needOf_100 : List QE := [(.iload 5, 102, []), (.iload 4, 104, []), (.isub, 105, []), (.istore 7, 107, [])]
def b_X11_needOf_107 : List QE := [(.iload 7, 109, []), (.iload 5, 111, []), (.iload 4, 113, []), (.iadd, 114, []), (.if_icmp .gt 74, 117, [(0, 188)])]
def b_X11_needOf_117 : List QE := [(.iload_n 2, 118, []), (.iload 6, 120, []), (.iload 5, 122, []), (.invokestatic 121, 125, []), (.ishr, 126, []), (.iconst 1, 127, []), (.iand, 128, []), (.iconst 1, 129, []), (.if_icmp .ne 59, 132, [(0, 188)])]
def b_X11_needOf_132 : List QE := [(.iload 6, 134, []), (.iload 4, 136, []), (.isub, 137, []), (.istore 8, 139, [])]
def b_X11_needOf_139 : List QE := [(.iload 8, 141, []), (.iload 6, 143, []), (.iload 4, 145, []), (.iadd, 146, []), (.if_icmp .gt 36, 149, [(0, 182)])]
def b_X11_needOf_149 : List QE := [(.iload_n 3, 150, []), (.aload_n 0, 151, []), (.iload 8, 153, []), (.iload 7, 155, []), (.invokevirtual 113, 158, []), (.ifCond .eq 15, 161, [(0, 173)])]
def b_X11_needOf_161 : List QE := [(.iconst 1, 162, []), (.iload 8, 164, []), (.iload 7, 166, []), (.invokestatic 121, 169, []), (.ishl, 170, []), (.goto 4, 173, [(0, 174)])]
def b_X11_needOf_173 : List QE := [(.iconst 0, 174, [])]
def b_X11_needOf_174 : List QE := [(.ior, 175, []), (.istore_n 3, 176, []), (.iinc 8 1, 179, []), (.goto (-40), 182, [(0, 139)])]
def b_X11_needOf_182 : List QE := [(.iinc 7 1, 185, []), (.goto (-78), 188, [(0, 107)])]
def b_X11_needOf_188 : List QE := [(.iinc 6 1, 191, []), (.goto (-100), 194, [(0, 91)])]
def b_X11_needOf_194 : List QE := [(.iinc 5 1, 197, []), (.goto (-118), 200, [(0, 79)])]
def b_X11_needOf_200 : List QE := [(.iload_n 3, 201, []), (.ireturn, 202, [])]
def L_X11_needOf : List (Nat × Option (List QE)) := [(0, some b_X11_needOf_0), (4, some b_X11_needOf_4), (13, some b_X11_needOf_13), (15, some b_X11_needOf_15), (26, some b_X11_needOf_26), (37, some b_X11_needOf_37), (48, some b_X11_needOf_48), (53, some b_X11_needOf_53), (64, some b_X11_needOf_64), (66, some b_X11_needOf_66), (79, none), (88, some b_X11_needOf_88), (91, none), (100, some b_X11_needOf_100), (107, none), (117, some b_X11_needOf_117), (132, some b_X11_needOf_132), (139, none), (149, some b_X11_needOf_149), (161, some b_X11_needOf_161), (173, some b_X11_needOf_173), (174, some b_X11_needOf_174), (182, some b_X11_needOf_182), (188, some b_X11_needOf_188), (194, some b_X11_needOf_194), (200, some b_X11_needOf_200)]
def s_X11_needOf : Nat → Option (List QE) := q_look L_X11_needOf
theorem s_X11_needOf_0 : s_X11_needOf 0 = some b_X11_needOf_0 := id rfl
theorem s_X11_needOf_4 : s_X11_needOf 4 = some b_X11_needOf_4 := id rfl
theorem s_X11_needOf_13 : s_X11_needOf 13 = some b_X11_needOf_13 := id rfl
theorem s_X11_needOf_15 : s_X11_needOf 15 = some b_X11_needOf_15 := id rfl
theorem s_X11_needOf_26 : s_X11_needOf 26 = some b_X11_needOf_26 := id rfl
theorem s_X11_needOf_37 : s_X11_needOf 37 = some b_X11_needOf_37 := id rfl
theorem s_X11_needOf_48 : s_X11_needOf 48 = some b_X11_needOf_48 := id rfl
theorem s_X11_needOf_53 : s_X11_needOf 53 = some b_X11_needOf_53 := id rfl
theorem s_X11_needOf_64 : s_X11_needOf 64 = some b_X11_needOf_64 := id rfl
theorem s_X11_needOf_66 : s_X11_needOf 66 = some b_X11_needOf_66 := id rfl
theorem s_X11_needOf_79 : s_X11_needOf 79 = none := id rfl
theorem s_X11_needOf_88 : s_X11_needOf 88 = some b_X11_needOf_88 := id rfl
theorem s_X11_needOf_91 : s_X11_needOf 91 = none := id rfl
theorem s_X11_needOf_100 : s_X11_needOf 100 = some b_X11_needOf_100 := id rfl
theorem s_X11_needOf_107 : s_X11_needOf 107 = none := id rfl
theorem s_X11_needOf_117 : s_X11_needOf 117 = some b_X11_needOf_117 := id rfl
theorem s_X11_needOf_132 : s_X11_needOf 132 = some b_X11_needOf_132 := id rfl
theorem s_X11_needOf_139 : s_X11_needOf 139 = none := id rfl
theorem s_X11_needOf_149 : s_X11_needOf 149 = some b_X11_needOf_149 := id rfl
theorem s_X11_needOf_161 : s_X11_needOf 161 = some b_X11_needOf_161 := id rfl
theorem s_X11_needOf_173 : s_X11_needOf 173 = some b_X11_needOf_173 := id rfl
theorem s_X11_needOf_174 : s_X11_needOf 174 = some b_X11_needOf_174 := id rfl
theorem s_X11_needOf_182 : s_X11_needOf 182 = some b_X11_needOf_182 := id rfl
theorem s_X11_needOf_188 : s_X11_needOf 188 = some b_X11_needOf_188 := id rfl
theorem s_X11_needOf_194 : s_X11_needOf 194 = some b_X11_needOf_194 := id rfl
theorem s_X11_needOf_200 : s_X11_needOf 200 = some b_X11_needOf_200 := id rfl
def u_X11_needOf : QU := ([27, 33, 13, 7], [], [], [], [138, 113], [121], [])
theorem o_X11_needOf : q_skok cX11_needOf 9 u_X11_needOf L_X11_needOf = true := by decide +kernel
theorem o_X11_needOf_107 : q_ok cX11_needOf 9 u_X11_needOf 107 b_X11_needOf_107 = true := by decide +kernel
theorem o_X11_needOf_91 : q_ok cX11_needOf 9 u_X11_needOf 91 b_X11_needOf_91 = true := by decide +kernel
theorem o_X11_needOf_139 : q_ok cX11_needOf 9 u_X11_needOf 139 b_X11_needOf_139 = true := by decide +kernel
theorem o_X11_needOf_79 : q_ok cX11_needOf 9 u_X11_needOf 79 b_X11_needOf_79 = true := by decide +kernel
theorem k_X11_needOf : q_chk RX11 fl_X11 ld_X11 u_X11_needOf = true := by decide +kernel
def b_X11_findNeeds_0 : List QE := [(.iconst 0, 1, []), (.istore_n 3, 2, [])]
def b_X11_findNeeds_2 : List QE := [(.iload_n 3, 3, []), (.bipush 10, 5, []), (.if_icmp .ge 16, 8, [(0, 21)])]
def b_X11_findNeeds_8 : List QE := [(.aload_n 0, 9, []), (.getfield 45, 12, []), (.iload_n 3, 13, []), (.iconst 0, 14, []), (.iastore, 15, []), (.iinc 3 1, 18, []), (.goto (-16), 21, [(0, 2)])]
def b_X11_findNeeds_21 : List QE := [(.aload_n 0, 22, []), (.getfield 45, 25, []), (.iload_n 1, 26, []), (.iconst 1, 27, []), (.iload_n 2, 28, []), (.ishl, 29, []), (.iastore, 30, []), (.iload_n 1, 31, []), (.istore_n 3, 32, [])]
def b_X11_findNeeds_32 : List QE := [(.iload_n 3, 33, []), (.ifCond .lt 63, 36, [(0, 96)])]
def b_X11_findNeeds_36 : List QE := [(.aload_n 0, 37, []), (.iload_n 3, 38, []), (.aload_n 0, 39, []), (.getfield 45, 42, []), (.iload_n 3, 43, []), (.iaload, 44, []), (.invokevirtual 142, 47, []), (.istore 4, 49, []), (.iconst 0, 50, []), (.istore 5, 52, [])]
def b_X11_findNeeds_52 : List QE := [(.iload 5, 54, []), (.aload_n 0, 55, []), (.getfield 39, 58, []), (.iload_n 3, 59, []), (.iaload, 60, []), (.if_icmp .ge 30, 63, [(0, 90)])]
def b_X11_findNeeds_63 : List QE := [(.aload_n 0, 64, []), (.getfield 45, 67, []), (.aload_n 0, 68, []), (.getfield 36, 71, []), (.iconst 3, 72, []), (.iload_n 3, 73, []), (.imul, 74, []), (.iload 5, 76, []), (.iadd, 77, []), (.iaload, 78, []), (.dup2, 79, []), (.iaload, 80, []), (.iload 4, 82, []), (.ior, 83, []), (.iastore, 84, []), (.iinc 5 1, 87, []), (.goto (-35), 90, [(0, 52)])]
def b_X11_findNeeds_90 : List QE := [(.iinc 3 (-1), 93, []), (.goto (-61), 96, [(0, 32)])]
def b_X11_findNeeds_96 : List QE := [(.return_, 97, [])]
def L_X11_findNeeds : List (Nat × Option (List QE)) := [(0, some b_X11_findNeeds_0), (2, none), (8, some b_X11_findNeeds_8), (21, some b_X11_findNeeds_21), (32, none), (36, some b_X11_findNeeds_36), (52, none), (63, some b_X11_findNeeds_63), (90, some b_X11_findNeeds_90), (96, some b_X11_findNeeds_96)]
def s_X11_findNeeds : Nat → Option (List QE) := q_look L_X11_findNeeds
theorem s_X11_findNeeds_0 : s_X11_findNeeds 0 = some b_X11_findNeeds_0 := id rfl
theorem s_X11_findNeeds_2 : s_X11_findNeeds 2 = none := id rfl
theorem s_X11_findNeeds_8 : s_X11_findNeeds 8 = some b_X11_findNeeds_8 := id rfl
theorem s_X11_findNeeds_21 : s_X11_findNeeds 21 = some b_X11_findNeeds_21 := id rfl
theorem s_X11_findNeeds_32 : s_X11_findNeeds 32 = none := id rfl
theorem s_X11_findNeeds_36 : s_X11_findNeeds 36 = some b_X11_findNeeds_36 := id rfl
theorem s_X11_findNeeds_52 : s_X11_findNeeds 52 = none := id rfl
theorem s_X11_findNeeds_63 : s_X11_findNeeds 63 = some b_X11_findNeeds_63 := id rfl
theorem s_X11_findNeeds_90 : s_X11_findNeeds 90 = some b_X11_findNeeds_90 := id rfl
theorem s_X11_findNeeds_96 : s_X11_findNeeds 96 = some b_X11_findNeeds_96 := id rfl
def u_X11_findNeeds : QU := ([45, 39, 36], [], [], [], [142], [], [])
theorem o_X11_findNeeds : q_skok cX11_findNeeds 6 u_X11_findNeeds L_X11_findNeeds = true := by decide +kernel
theorem o_X11_findNeeds_32 : q_ok cX11_findNeeds 6 u_X11_findNeeds 32 b_X11_findNeeds_32 = true := by decide +kernel
theorem o_X11_findNeeds_2 : q_ok cX11_findNeeds 6 u_X11_findNeeds 2 b_X11_findNeeds_2 = true := by decide +kernel
theorem o_X11_findNeeds_52 : q_ok cX11_findNeeds 6 u_X11_findNeeds 52 b_X11_findNeeds_52 = true := by decide +kernel
theorem k_X11_findNeeds : q_chk RX11 fl_X11 ld_X11 u_X11_findNeeds = true := by decide +kernel
def b_X11_fromOf_0 : List QE := [(.aload_n 0, 1, []), (.iload_n 1, 2, []), (.iload_n 2, 3, []), (.invokevirtual 145, 6, []), (.iconst 0, 7, []), (.istore 4, 9, []), (.iconst 0, 10, []), (.istore 5, 12, [])]
def b_X11_fromOf_12 : List QE := [(.iload 5, 14, []), (.iload_n 1, 15, []), (.if_icmp .gt 46, 18, [(0, 61)])]
def b_X11_fromOf_18 : List QE := [(.iload 4, 20, []), (.aload_n 0, 21, []), (.getfield 27, 24, []), (.iload 5, 26, []), (.iaload, 27, []), (.ifCond .ne 24, 30, [(0, 51)])]
def b_X11_fromOf_30 : List QE := [(.aload_n 0, 31, []), (.getfield 33, 34, []), (.iload 5, 36, []), (.iaload, 37, []), (.iload_n 3, 38, []), (.if_icmp .ne 13, 41, [(0, 51)])]
def b_X11_fromOf_41 : List QE := [(.aload_n 0, 42, []), (.getfield 45, 45, []), (.iload 5, 47, []), (.iaload, 48, []), (.goto 4, 51, [(0, 52)])]
def b_X11_fromOf_51 : List QE := [(.iconst 0, 52, [])]
def b_X11_fromOf_52 : List QE := [(.ior, 53, []), (.istore 4, 55, []), (.iinc 5 1, 58, []), (.goto (-46), 61, [(0, 12)])]
def b_X11_fromOf_61 : List QE := [(.iload 4, 63, []), (.ireturn, 64, [])]
def L_X11_fromOf : List (Nat × Option (List QE)) := [(0, some b_X11_fromOf_0), (12, none), (18, some b_X11_fromOf_18), (30, some b_X11_fromOf_30), (41, some b_X11_fromOf_41), (51, some b_X11_fromOf_51), (52, some b_X11_fromOf_52), (61, some b_X11_fromOf_61)]
def s_X11_fromOf : Nat → Option (List QE) := q_look L_X11_fromOf
theorem s_X11_fromOf_0 : s_X11_fromOf 0 = some b_X11_fromOf_0 := id rfl
theorem s_X11_fromOf_12 : s_X11_fromOf 12 = none := id rfl
theorem s_X11_fromOf_18 : s_X11_fromOf 18 = some b_X11_fromOf_18 := id rfl
theorem s_X11_fromOf_30 : s_X11_fromOf 30 = some b_X11_fromOf_30 := id rfl
theorem s_X11_fromOf_41 : s_X11_fromOf 41 = some b_X11_fromOf_41 := id rfl
theorem s_X11_fromOf_51 : s_X11_fromOf 51 = some b_X11_fromOf_51 := id rfl
theorem s_X11_fromOf_52 : s_X11_fromOf 52 = some b_X11_fromOf_52 := id rfl
theorem s_X11_fromOf_61 : s_X11_fromOf 61 = some b_X11_fromOf_61 := id rfl
def u_X11_fromOf : QU := ([27, 33, 45], [], [], [], [145], [], [])
theorem o_X11_fromOf : q_skok cX11_fromOf 6 u_X11_fromOf L_X11_fromOf = true := by decide +kernel
theorem o_X11_fromOf_12 : q_ok cX11_fromOf 6 u_X11_fromOf 12 b_X11_fromOf_12 = true := by decide +kernel
theorem k_X11_fromOf : q_chk RX11 fl_X11 ld_X11 u_X11_fromOf = true := by decide +kernel
def b_X11_from_0 : List QE := [(.aload_n 0, 1, []), (.iconst 0, 2, []), (.putfield 85, 5, []), (.aload_n 0, 6, []), (.iload_n 1, 7, []), (.invokevirtual 149, 10, []), (.ifCond .eq 33, 13, [(0, 43)])]
def b_X11_from_13 : List QE := [(.aload_n 0, 14, []), (.iload_n 2, 15, []), (.invokevirtual 134, 18, []), (.ifCond .eq 25, 21, [(0, 43)])]
def b_X11_from_21 : List QE := [(.iload_n 3, 22, []), (.i2l, 23, []), (.lconst 0, 24, []), (.ldc2_w 107, 27, []), (.invokestatic 95, 30, []), (.ifCond .eq 13, 33, [(0, 43)])]
def b_X11_from_33 : List QE := [(.aload_n 0, 34, []), (.iload_n 1, 35, []), (.iload_n 2, 36, []), (.iload_n 3, 37, []), (.invokevirtual 128, 40, []), (.goto 4, 43, [(0, 44)])]
def b_X11_from_43 : List QE := [(.iconst (-1), 44, [])]
def b_X11_from_44 : List QE := [(.ireturn, 45, [])]
def L_X11_from : List (Nat × Option (List QE)) := [(0, some b_X11_from_0), (13, some b_X11_from_13), (21, some b_X11_from_21), (33, some b_X11_from_33), (43, some b_X11_from_43), (44, some b_X11_from_44)]
def s_X11_from : Nat → Option (List QE) := q_look L_X11_from
theorem s_X11_from_0 : s_X11_from 0 = some b_X11_from_0 := id rfl
theorem s_X11_from_13 : s_X11_from 13 = some b_X11_from_13 := id rfl
theorem s_X11_from_21 : s_X11_from 21 = some b_X11_from_21 := id rfl
theorem s_X11_from_33 : s_X11_from 33 = some b_X11_from_33 := id rfl
theorem s_X11_from_43 : s_X11_from 43 = some b_X11_from_43 := id rfl
theorem s_X11_from_44 : s_X11_from 44 = some b_X11_from_44 := id rfl
def u_X11_from : QU := ([85], [85], [107], [], [149, 134, 128], [95], [])
theorem o_X11_from : q_skok cX11_from 4 u_X11_from L_X11_from = true := by decide +kernel
theorem k_X11_from : q_chk RX11 fl_X11 ld_X11 u_X11_from = true := by decide +kernel
def b_X11_isBoard_0 : List QE := [(.iload_n 1, 1, []), (.i2l, 2, []), (.lconst 0, 3, []), (.aload_n 0, 4, []), (.getfield 125, 7, []), (.i2l, 8, []), (.lconst 1, 9, []), (.lsub, 10, []), (.invokestatic 95, 13, []), (.ireturn, 14, [])]
def L_X11_isBoard : List (Nat × Option (List QE)) := [(0, some b_X11_isBoard_0)]
def s_X11_isBoard : Nat → Option (List QE) := q_look L_X11_isBoard
theorem s_X11_isBoard_0 : s_X11_isBoard 0 = some b_X11_isBoard_0 := id rfl
def u_X11_isBoard : QU := ([125], [], [], [], [], [95], [])
theorem o_X11_isBoard : q_skok cX11_isBoard 2 u_X11_isBoard L_X11_isBoard = true := by decide +kernel
theorem k_X11_isBoard : q_chk RX11 fl_X11 ld_X11 u_X11_isBoard = true := by decide +kernel
def b_X11_fresh_0 : List QE := [(.aload_n 0, 1, []), (.iconst 0, 2, []), (.putfield 85, 5, []), (.aload_n 0, 6, []), (.iload_n 1, 7, []), (.invokevirtual 149, 10, []), (.ifCond .eq 33, 13, [(0, 43)])]
def b_X11_fresh_13 : List QE := [(.aload_n 0, 14, []), (.iload_n 2, 15, []), (.invokevirtual 134, 18, []), (.ifCond .eq 25, 21, [(0, 43)])]
def b_X11_fresh_21 : List QE := [(.aload_n 0, 22, []), (.getfield 42, 25, []), (.bipush 9, 27, []), (.iload_n 1, 28, []), (.imul, 29, []), (.iload_n 2, 30, []), (.iadd, 31, []), (.baload, 32, []), (.ifCond .eq 7, 35, [(0, 39)])]
def b_X11_fresh_35 : List QE := [(.iconst 1, 36, []), (.goto 8, 39, [(0, 44)])]
def b_X11_fresh_39 : List QE := [(.iconst 0, 40, []), (.goto 4, 43, [(0, 44)])]
def b_X11_fresh_43 : List QE := [(.iconst (-1), 44, [])]
def b_X11_fresh_44 : List QE := [(.ireturn, 45, [])]
def L_X11_fresh : List (Nat × Option (List QE)) := [(0, some b_X11_fresh_0), (13, some b_X11_fresh_13), (21, some b_X11_fresh_21), (35, some b_X11_fresh_35), (39, some b_X11_fresh_39), (43, some b_X11_fresh_43), (44, some b_X11_fresh_44)]
def s_X11_fresh : Nat → Option (List QE) := q_look L_X11_fresh
theorem s_X11_fresh_0 : s_X11_fresh 0 = some b_X11_fresh_0 := id rfl
theorem s_X11_fresh_13 : s_X11_fresh 13 = some b_X11_fresh_13 := id rfl
theorem s_X11_fresh_21 : s_X11_fresh 21 = some b_X11_fresh_21 := id rfl
theorem s_X11_fresh_35 : s_X11_fresh 35 = some b_X11_fresh_35 := id rfl
theorem s_X11_fresh_39 : s_X11_fresh 39 = some b_X11_fresh_39 := id rfl
theorem s_X11_fresh_43 : s_X11_fresh 43 = some b_X11_fresh_43 := id rfl
theorem s_X11_fresh_44 : s_X11_fresh 44 = some b_X11_fresh_44 := id rfl
def u_X11_fresh : QU := ([85, 42], [85], [], [], [149, 134], [], [])
theorem o_X11_fresh : q_skok cX11_fresh 3 u_X11_fresh L_X11_fresh = true := by decide +kernel
theorem k_X11_fresh : q_chk RX11 fl_X11 ld_X11 u_X11_fresh = true := by decide +kernel
def b_X11_made_0 : List QE := [(.aload_n 0, 1, []), (.iconst 0, 2, []), (.putfield 85, 5, []), (.aload_n 0, 6, []), (.getfield 152, 9, []), (.ireturn, 10, [])]
def L_X11_made : List (Nat × Option (List QE)) := [(0, some b_X11_made_0)]
def s_X11_made : Nat → Option (List QE) := q_look L_X11_made
theorem s_X11_made_0 : s_X11_made 0 = some b_X11_made_0 := id rfl
def u_X11_made : QU := ([85, 152], [85], [], [], [], [], [])
theorem o_X11_made : q_skok cX11_made 1 u_X11_made L_X11_made = true := by decide +kernel
theorem k_X11_made : q_chk RX11 fl_X11 ld_X11 u_X11_made = true := by decide +kernel
def b_X11_begin_0 : List QE := [(.aload_n 0, 1, []), (.iconst 0, 2, []), (.putfield 155, 5, []), (.aload_n 0, 6, []), (.lconst 0, 7, []), (.putfield 158, 10, []), (.aload_n 0, 11, []), (.lconst 0, 12, []), (.putfield 162, 15, []), (.aload_n 0, 16, []), (.lconst 0, 17, []), (.putfield 165, 20, []), (.return_, 21, [])]
def L_X11_begin : List (Nat × Option (List QE)) := [(0, some b_X11_begin_0)]
def s_X11_begin : Nat → Option (List QE) := q_look L_X11_begin
theorem s_X11_begin_0 : s_X11_begin 0 = some b_X11_begin_0 := id rfl
def u_X11_begin : QU := ([155, 158, 162, 165], [155, 158, 162, 165], [], [], [], [], [])
theorem o_X11_begin : q_skok cX11_begin 1 u_X11_begin L_X11_begin = true := by decide +kernel
theorem k_X11_begin : q_chk RX11 fl_X11 ld_X11 u_X11_begin = true := by decide +kernel
def b_X11_take_0 : List QE := [(.iload_n 1, 1, []), (.ldc 91, 3, []), (.if_icmp .ne 4, 6, [(0, 7)])]
def b_X11_take_6 : List QE := [(.return_, 7, [])]
def b_X11_take_7 : List QE := [(.aload_n 0, 8, []), (.aload_n 0, 9, []), (.getfield 155, 12, []), (.ifCond .eq 13, 15, [(0, 25)])]
def b_X11_take_15 : List QE := [(.iload_n 1, 16, []), (.i2l, 17, []), (.aload_n 0, 18, []), (.getfield 162, 21, []), (.lcmp, 22, []), (.ifCond .ge 8, 25, [(0, 30)])]
def b_X11_take_25 : List QE := [(.iload_n 1, 26, []), (.i2l, 27, []), (.goto 7, 30, [(0, 34)])]
def b_X11_take_30 : List QE := [(.aload_n 0, 31, []), (.getfield 162, 34, [])]
def b_X11_take_34 : List QE := [(.putfield 162, 37, []), (.aload_n 0, 38, []), (.aload_n 0, 39, []), (.getfield 155, 42, []), (.ifCond .eq 13, 45, [(0, 55)])]
def b_X11_take_45 : List QE := [(.iload_n 1, 46, []), (.i2l, 47, []), (.aload_n 0, 48, []), (.getfield 165, 51, []), (.lcmp, 52, []), (.ifCond .le 8, 55, [(0, 60)])]
def b_X11_take_55 : List QE := [(.iload_n 1, 56, []), (.i2l, 57, []), (.goto 7, 60, [(0, 64)])]
def b_X11_take_60 : List QE := [(.aload_n 0, 61, []), (.getfield 165, 64, [])]
def b_X11_take_64 : List QE := [(.putfield 165, 67, []), (.aload_n 0, 68, []), (.dup, 69, []), (.getfield 158, 72, []), (.iload_n 1, 73, []), (.i2l, 74, []), (.ladd, 75, []), (.putfield 158, 78, []), (.aload_n 0, 79, []), (.dup, 80, []), (.getfield 155, 83, []), (.iconst 1, 84, []), (.iadd, 85, []), (.putfield 155, 88, []), (.return_, 89, [])]
def L_X11_take : List (Nat × Option (List QE)) := [(0, some b_X11_take_0), (6, some b_X11_take_6), (7, some b_X11_take_7), (15, some b_X11_take_15), (25, some b_X11_take_25), (30, some b_X11_take_30), (34, some b_X11_take_34), (45, some b_X11_take_45), (55, some b_X11_take_55), (60, some b_X11_take_60), (64, some b_X11_take_64)]
def s_X11_take : Nat → Option (List QE) := q_look L_X11_take
theorem s_X11_take_0 : s_X11_take 0 = some b_X11_take_0 := id rfl
theorem s_X11_take_6 : s_X11_take 6 = some b_X11_take_6 := id rfl
theorem s_X11_take_7 : s_X11_take 7 = some b_X11_take_7 := id rfl
theorem s_X11_take_15 : s_X11_take 15 = some b_X11_take_15 := id rfl
theorem s_X11_take_25 : s_X11_take 25 = some b_X11_take_25 := id rfl
theorem s_X11_take_30 : s_X11_take 30 = some b_X11_take_30 := id rfl
theorem s_X11_take_34 : s_X11_take 34 = some b_X11_take_34 := id rfl
theorem s_X11_take_45 : s_X11_take 45 = some b_X11_take_45 := id rfl
theorem s_X11_take_55 : s_X11_take 55 = some b_X11_take_55 := id rfl
theorem s_X11_take_60 : s_X11_take 60 = some b_X11_take_60 := id rfl
theorem s_X11_take_64 : s_X11_take 64 = some b_X11_take_64 := id rfl
def u_X11_take : QU := ([155, 162, 165, 158], [162, 165, 158, 155], [91], [], [], [], [])
theorem o_X11_take : q_skok cX11_take 2 u_X11_take L_X11_take = true := by decide +kernel
theorem k_X11_take : q_chk RX11 fl_X11 ld_X11 u_X11_take = true := by decide +kernel
def b_X11_kept_0 : List QE := [(.lload_n 0, 1, []), (.ldc2_w 168, 4, []), (.ldc2_w 170, 7, []), (.invokestatic 95, 10, []), (.ifCond .eq 8, 13, [(0, 18)])]
def b_X11_kept_13 : List QE := [(.lload_n 0, 14, []), (.l2i, 15, []), (.goto 5, 18, [(0, 20)])]
def b_X11_kept_18 : List QE := [(.ldc 91, 20, [])]
def b_X11_kept_20 : List QE := [(.ireturn, 21, [])]
def L_X11_kept : List (Nat × Option (List QE)) := [(0, some b_X11_kept_0), (13, some b_X11_kept_13), (18, some b_X11_kept_18), (20, some b_X11_kept_20)]
def s_X11_kept : Nat → Option (List QE) := q_look L_X11_kept
theorem s_X11_kept_0 : s_X11_kept 0 = some b_X11_kept_0 := id rfl
theorem s_X11_kept_13 : s_X11_kept 13 = some b_X11_kept_13 := id rfl
theorem s_X11_kept_18 : s_X11_kept 18 = some b_X11_kept_18 := id rfl
theorem s_X11_kept_20 : s_X11_kept 20 = some b_X11_kept_20 := id rfl
def u_X11_kept : QU := ([], [], [168, 170, 91], [], [], [95], [])
theorem o_X11_kept : q_skok cX11_kept 2 u_X11_kept L_X11_kept = true := by decide +kernel
theorem k_X11_kept : q_chk RX11 fl_X11 ld_X11 u_X11_kept = true := by decide +kernel
def b_X11_taken_0 : List QE := [(.iload_n 1, 1, []), (.bipush 14, 3, []), (.if_icmp .ne 8, 6, [(0, 11)])]
def b_X11_taken_6 : List QE := [(.aload_n 0, 7, []), (.getfield 155, 10, []), (.ireturn, 11, [])]
def b_X11_taken_11 : List QE := [(.aload_n 0, 12, []), (.getfield 155, 15, []), (.ifCond .ne 8, 18, [(0, 23)])]
def b_X11_taken_18 : List QE := [(.ldc 91, 20, []), (.goto 35, 23, [(0, 55)])]
def b_X11_taken_23 : List QE := [(.iload_n 1, 24, []), (.bipush 13, 26, []), (.if_icmp .ne 10, 29, [(0, 36)])]
def b_X11_taken_29 : List QE := [(.aload_n 0, 30, []), (.getfield 158, 33, []), (.goto 19, 36, [(0, 52)])]
def b_X11_taken_36 : List QE := [(.iload_n 1, 37, []), (.iconst 4, 38, []), (.if_icmp .ne 10, 41, [(0, 48)])]
def b_X11_taken_41 : List QE := [(.aload_n 0, 42, []), (.getfield 162, 45, []), (.goto 7, 48, [(0, 52)])]
def b_X11_taken_48 : List QE := [(.aload_n 0, 49, []), (.getfield 165, 52, [])]
def b_X11_taken_52 : List QE := [(.invokestatic 172, 55, [])]
def b_X11_taken_55 : List QE := [(.ireturn, 56, [])]
def L_X11_taken : List (Nat × Option (List QE)) := [(0, some b_X11_taken_0), (6, some b_X11_taken_6), (11, some b_X11_taken_11), (18, some b_X11_taken_18), (23, some b_X11_taken_23), (29, some b_X11_taken_29), (36, some b_X11_taken_36), (41, some b_X11_taken_41), (48, some b_X11_taken_48), (52, some b_X11_taken_52), (55, some b_X11_taken_55)]
def s_X11_taken : Nat → Option (List QE) := q_look L_X11_taken
theorem s_X11_taken_0 : s_X11_taken 0 = some b_X11_taken_0 := id rfl
theorem s_X11_taken_6 : s_X11_taken 6 = some b_X11_taken_6 := id rfl
theorem s_X11_taken_11 : s_X11_taken 11 = some b_X11_taken_11 := id rfl
theorem s_X11_taken_18 : s_X11_taken 18 = some b_X11_taken_18 := id rfl
theorem s_X11_taken_23 : s_X11_taken 23 = some b_X11_taken_23 := id rfl
theorem s_X11_taken_29 : s_X11_taken 29 = some b_X11_taken_29 := id rfl
theorem s_X11_taken_36 : s_X11_taken 36 = some b_X11_taken_36 := id rfl
theorem s_X11_taken_41 : s_X11_taken 41 = some b_X11_taken_41 := id rfl
theorem s_X11_taken_48 : s_X11_taken 48 = some b_X11_taken_48 := id rfl
theorem s_X11_taken_52 : s_X11_taken 52 = some b_X11_taken_52 := id rfl
theorem s_X11_taken_55 : s_X11_taken 55 = some b_X11_taken_55 := id rfl
def u_X11_taken : QU := ([155, 158, 162, 165], [], [91], [], [], [172], [])
theorem o_X11_taken : q_skok cX11_taken 2 u_X11_taken L_X11_taken = true := by decide +kernel
theorem k_X11_taken : q_chk RX11 fl_X11 ld_X11 u_X11_taken = true := by decide +kernel
def b_X11_at_0 : List QE := [(.aload_n 0, 1, []), (.getfield 48, 4, []), (.sipush 144, 7, []), (.iload_n 1, 8, []), (.imul, 9, []), (.bipush 12, 11, []), (.iload_n 3, 12, []), (.imul, 13, []), (.iadd, 14, []), (.iload_n 2, 15, []), (.iadd, 16, []), (.iaload, 17, []), (.ireturn, 18, [])]
def L_X11_at : List (Nat × Option (List QE)) := [(0, some b_X11_at_0)]
def s_X11_at : Nat → Option (List QE) := q_look L_X11_at
theorem s_X11_at_0 : s_X11_at 0 = some b_X11_at_0 := id rfl
def u_X11_at : QU := ([48], [], [], [], [], [], [])
theorem o_X11_at : q_skok cX11_at 4 u_X11_at L_X11_at = true := by decide +kernel
theorem k_X11_at : q_chk RX11 fl_X11 ld_X11 u_X11_at = true := by decide +kernel
def b_X11_set_0 : List QE := [(.aload_n 0, 1, []), (.getfield 48, 4, []), (.sipush 144, 7, []), (.iload_n 1, 8, []), (.imul, 9, []), (.bipush 12, 11, []), (.iload_n 3, 12, []), (.imul, 13, []), (.iadd, 14, []), (.iload_n 2, 15, []), (.iadd, 16, []), (.iload 4, 18, []), (.iastore, 19, []), (.return_, 20, [])]
def L_X11_set : List (Nat × Option (List QE)) := [(0, some b_X11_set_0)]
def s_X11_set : Nat → Option (List QE) := q_look L_X11_set
theorem s_X11_set_0 : s_X11_set 0 = some b_X11_set_0 := id rfl
def u_X11_set : QU := ([48], [], [], [], [], [], [])
theorem o_X11_set : q_skok cX11_set 5 u_X11_set L_X11_set = true := by decide +kernel
theorem k_X11_set : q_chk RX11 fl_X11 ld_X11 u_X11_set = true := by decide +kernel
def b_X11_cellOf_0 : List QE := [(.iload_n 2, 1, []), (.ldc 91, 3, []), (.if_icmp .eq 9, 6, [(0, 12)])]
def b_X11_cellOf_6 : List QE := [(.iload_n 3, 7, []), (.ldc 91, 9, []), (.if_icmp .ne 6, 12, [(0, 15)])]
def b_X11_cellOf_12 : List QE := [(.ldc 91, 14, []), (.ireturn, 15, [])]
def b_X11_cellOf_15 : List QE := [(.iload_n 1, 16, []), (.tableswitch 85 1 5 #[36, 45, 54, 63, 74], 52, [(1, 52), (2, 61), (3, 70), (4, 79), (5, 90), (0, 101)])]
def b_X11_cellOf_52 : List QE := [(.iload_n 2, 53, []), (.i2l, 54, []), (.iload_n 3, 55, []), (.i2l, 56, []), (.ladd, 57, []), (.invokestatic 172, 60, []), (.ireturn, 61, [])]
def b_X11_cellOf_61 : List QE := [(.iload_n 2, 62, []), (.i2l, 63, []), (.iload_n 3, 64, []), (.i2l, 65, []), (.lsub, 66, []), (.invokestatic 172, 69, []), (.ireturn, 70, [])]
def b_X11_cellOf_70 : List QE := [(.iload_n 2, 71, []), (.i2l, 72, []), (.iload_n 3, 73, []), (.i2l, 74, []), (.lmul, 75, []), (.invokestatic 172, 78, []), (.ireturn, 79, [])]
def b_X11_cellOf_79 : List QE := [(.iload_n 2, 80, []), (.iload_n 3, 81, []), (.if_icmp .ge 7, 84, [(0, 88)])]
def b_X11_cellOf_84 : List QE := [(.iload_n 2, 85, []), (.goto 4, 88, [(0, 89)])]
def b_X11_cellOf_88 : List QE := [(.iload_n 3, 89, [])]
def b_X11_cellOf_89 : List QE := [(.ireturn, 90, [])]
def b_X11_cellOf_90 : List QE := [(.iload_n 2, 91, []), (.iload_n 3, 92, []), (.if_icmp .le 7, 95, [(0, 99)])]
def b_X11_cellOf_95 : List QE := [(.iload_n 2, 96, []), (.goto 4, 99, [(0, 100)])]
def b_X11_cellOf_99 : List QE := [(.iload_n 3, 100, [])]
def b_X11_cellOf_100 : List QE := [(.ireturn, 101, [])]
def b_X11_cellOf_101 : List QE := [(.iload_n 3, 102, []), (.ifCond .le 7, 105, [(0, 109)])]
def b_X11_cellOf_105 : List QE := [(.iload_n 2, 106, []), (.goto 5, 109, [(0, 111)])]
def b_X11_cellOf_109 : List QE := [(.ldc 91, 111, [])]
def b_X11_cellOf_111 : List QE := [(.ireturn, 112, [])]
def L_X11_cellOf : List (Nat × Option (List QE)) := [(0, some b_X11_cellOf_0), (6, some b_X11_cellOf_6), (12, some b_X11_cellOf_12), (15, some b_X11_cellOf_15), (52, some b_X11_cellOf_52), (61, some b_X11_cellOf_61), (70, some b_X11_cellOf_70), (79, some b_X11_cellOf_79), (84, some b_X11_cellOf_84), (88, some b_X11_cellOf_88), (89, some b_X11_cellOf_89), (90, some b_X11_cellOf_90), (95, some b_X11_cellOf_95), (99, some b_X11_cellOf_99), (100, some b_X11_cellOf_100), (101, some b_X11_cellOf_101), (105, some b_X11_cellOf_105), (109, some b_X11_cellOf_109), (111, some b_X11_cellOf_111)]
def s_X11_cellOf : Nat → Option (List QE) := q_look L_X11_cellOf
theorem s_X11_cellOf_0 : s_X11_cellOf 0 = some b_X11_cellOf_0 := id rfl
theorem s_X11_cellOf_6 : s_X11_cellOf 6 = some b_X11_cellOf_6 := id rfl
theorem s_X11_cellOf_12 : s_X11_cellOf 12 = some b_X11_cellOf_12 := id rfl
theorem s_X11_cellOf_15 : s_X11_cellOf 15 = some b_X11_cellOf_15 := id rfl
theorem s_X11_cellOf_52 : s_X11_cellOf 52 = some b_X11_cellOf_52 := id rfl
theorem s_X11_cellOf_61 : s_X11_cellOf 61 = some b_X11_cellOf_61 := id rfl
theorem s_X11_cellOf_70 : s_X11_cellOf 70 = some b_X11_cellOf_70 := id rfl
theorem s_X11_cellOf_79 : s_X11_cellOf 79 = some b_X11_cellOf_79 := id rfl
theorem s_X11_cellOf_84 : s_X11_cellOf 84 = some b_X11_cellOf_84 := id rfl
theorem s_X11_cellOf_88 : s_X11_cellOf 88 = some b_X11_cellOf_88 := id rfl
theorem s_X11_cellOf_89 : s_X11_cellOf 89 = some b_X11_cellOf_89 := id rfl
theorem s_X11_cellOf_90 : s_X11_cellOf 90 = some b_X11_cellOf_90 := id rfl
theorem s_X11_cellOf_95 : s_X11_cellOf 95 = some b_X11_cellOf_95 := id rfl
theorem s_X11_cellOf_99 : s_X11_cellOf 99 = some b_X11_cellOf_99 := id rfl
theorem s_X11_cellOf_100 : s_X11_cellOf 100 = some b_X11_cellOf_100 := id rfl
theorem s_X11_cellOf_101 : s_X11_cellOf 101 = some b_X11_cellOf_101 := id rfl
theorem s_X11_cellOf_105 : s_X11_cellOf 105 = some b_X11_cellOf_105 := id rfl
theorem s_X11_cellOf_109 : s_X11_cellOf 109 = some b_X11_cellOf_109 := id rfl
theorem s_X11_cellOf_111 : s_X11_cellOf 111 = some b_X11_cellOf_111 := id rfl
def u_X11_cellOf : QU := ([], [], [91], [], [], [172], [])
theorem o_X11_cellOf : q_skok cX11_cellOf 4 u_X11_cellOf L_X11_cellOf = true := by decide +kernel
theorem k_X11_cellOf : q_chk RX11 fl_X11 ld_X11 u_X11_cellOf = true := by decide +kernel
def b_X11_workOut_0 : List QE := [(.aload_n 0, 1, []), (.getfield 27, 4, []), (.iload_n 1, 5, []), (.iaload, 6, []), (.bipush 7, 8, []), (.if_icmp .ne 9, 11, [(0, 17)])]
def b_X11_workOut_11 : List QE := [(.aload_n 0, 12, []), (.iload_n 1, 13, []), (.invokevirtual 176, 16, []), (.return_, 17, [])]
def b_X11_workOut_17 : List QE := [(.aload_n 0, 18, []), (.getfield 27, 21, []), (.iload_n 1, 22, []), (.iaload, 23, []), (.bipush 12, 25, []), (.if_icmp .ne 9, 28, [(0, 34)])]
def b_X11_workOut_28 : List QE := [(.aload_n 0, 29, []), (.iload_n 1, 30, []), (.invokevirtual 180, 33, []), (.return_, 34, [])]
def b_X11_workOut_34 : List QE := [(.iconst 0, 35, []), (.istore_n 2, 36, [])]
def b_X11_workOut_36 : List QE := [(.iload_n 2, 37, []), (.aload_n 0, 38, []), (.getfield 13, 41, []), (.if_icmp .ge 39, 44, [(0, 80)])]
def b_X11_workOut_44 : List QE := [(.iconst 0, 45, []), (.istore_n 3, 46, [])]
def b_X11_workOut_46 : List QE := [(.iload_n 3, 47, []), (.aload_n 0, 48, []), (.getfield 7, 51, []), (.if_icmp .ge 23, 54, [(0, 74)])]
def b_X11_workOut_54 : List QE := [(.aload_n 0, 55, []), (.iload_n 1, 56, []), (.iload_n 3, 57, []), (.iload_n 2, 58, []), (.aload_n 0, 59, []), (.iload_n 1, 60, []), (.iload_n 3, 61, []), (.iload_n 2, 62, []), (.invokevirtual 183, 65, []), (.invokevirtual 186, 68, []), (.iinc 3 1, 71, []), (.goto (-25), 74, [(0, 46)])]
def b_X11_workOut_74 : List QE := [(.iinc 2 1, 77, []), (.goto (-41), 80, [(0, 36)])]
def b_X11_workOut_80 : List QE := [(.return_, 81, [])]
def L_X11_workOut : List (Nat × Option (List QE)) := [(0, some b_X11_workOut_0), (11, some b_X11_workOut_11), (17, some b_X11_workOut_17), (28, some b_X11_workOut_28), (34, some b_X11_workOut_34), (36, none), (44, some b_X11_workOut_44), (46, none), (54, some b_X11_workOut_54), (74, some b_X11_workOut_74), (80, some b_X11_workOut_80)]
def s_X11_workOut : Nat → Option (List QE) := q_look L_X11_workOut
theorem s_X11_workOut_0 : s_X11_workOut 0 = some b_X11_workOut_0 := id rfl
theorem s_X11_workOut_11 : s_X11_workOut 11 = some b_X11_workOut_11 := id rfl
theorem s_X11_workOut_17 : s_X11_workOut 17 = some b_X11_workOut_17 := id rfl
theorem s_X11_workOut_28 : s_X11_workOut 28 = some b_X11_workOut_28 := id rfl
theorem s_X11_workOut_34 : s_X11_workOut 34 = some b_X11_workOut_34 := id rfl
theorem s_X11_workOut_36 : s_X11_workOut 36 = none := id rfl
theorem s_X11_workOut_44 : s_X11_workOut 44 = some b_X11_workOut_44 := id rfl
theorem s_X11_workOut_46 : s_X11_workOut 46 = none := id rfl
theorem s_X11_workOut_54 : s_X11_workOut 54 = some b_X11_workOut_54 := id rfl
theorem s_X11_workOut_74 : s_X11_workOut 74 = some b_X11_workOut_74 := id rfl
theorem s_X11_workOut_80 : s_X11_workOut 80 = some b_X11_workOut_80 := id rfl
def u_X11_workOut : QU := ([27, 13, 7], [], [], [], [176, 180, 183, 186], [], [])
theorem o_X11_workOut : q_skok cX11_workOut 4 u_X11_workOut L_X11_workOut = true := by decide +kernel
theorem o_X11_workOut_36 : q_ok cX11_workOut 4 u_X11_workOut 36 b_X11_workOut_36 = true := by decide +kernel
theorem o_X11_workOut_46 : q_ok cX11_workOut 4 u_X11_workOut 46 b_X11_workOut_46 = true := by decide +kernel
theorem k_X11_workOut : q_chk RX11 fl_X11 ld_X11 u_X11_workOut = true := by decide +kernel
def b_X11_valueOf_0 : List QE := [(.aload_n 0, 1, []), (.getfield 39, 4, []), (.iload_n 1, 5, []), (.iaload, 6, []), (.ifCond .le 20, 9, [(0, 26)])]
def b_X11_valueOf_9 : List QE := [(.aload_n 0, 10, []), (.aload_n 0, 11, []), (.getfield 36, 14, []), (.iconst 3, 15, []), (.iload_n 1, 16, []), (.imul, 17, []), (.iaload, 18, []), (.iload_n 2, 19, []), (.iload_n 3, 20, []), (.invokevirtual 189, 23, []), (.goto 5, 26, [(0, 28)])]
def b_X11_valueOf_26 : List QE := [(.ldc 91, 28, [])]
def b_X11_valueOf_28 : List QE := [(.istore 4, 30, []), (.aload_n 0, 31, []), (.getfield 39, 34, []), (.iload_n 1, 35, []), (.iaload, 36, []), (.iconst 1, 37, []), (.if_icmp .le 22, 40, [(0, 59)])]
def b_X11_valueOf_40 : List QE := [(.aload_n 0, 41, []), (.aload_n 0, 42, []), (.getfield 36, 45, []), (.iconst 3, 46, []), (.iload_n 1, 47, []), (.imul, 48, []), (.iconst 1, 49, []), (.iadd, 50, []), (.iaload, 51, []), (.iload_n 2, 52, []), (.iload_n 3, 53, []), (.invokevirtual 189, 56, []), (.goto 5, 59, [(0, 61)])]
def b_X11_valueOf_59 : List QE := [(.ldc 91, 61, [])]
def b_X11_valueOf_61 : List QE := [(.istore 5, 63, []), (.aload_n 0, 64, []), (.getfield 27, 67, []), (.iload_n 1, 68, []), (.iaload, 69, []), (.tableswitch 354 0 11 #[63, 354, 354, 354, 354, 354, 354, 354, 86, 125, 144, 245], 132, [(0, 132), (1, 423), (2, 423), (3, 423), (4, 423), (5, 423), (6, 423), (7, 423), (8, 155), (9, 194), (10, 213), (11, 314), (0, 423)])]
def b_X11_valueOf_132 : List QE := [(.aload_n 0, 133, []), (.getfield 16, 136, []), (.sipush 144, 139, []), (.aload_n 0, 140, []), (.getfield 33, 143, []), (.iload_n 1, 144, []), (.iaload, 145, []), (.imul, 146, []), (.bipush 12, 148, []), (.iload_n 3, 149, []), (.imul, 150, []), (.iadd, 151, []), (.iload_n 2, 152, []), (.iadd, 153, []), (.iaload, 154, []), (.ireturn, 155, [])]
def b_X11_valueOf_155 : List QE := [(.iload 4, 157, []), (.ldc 91, 159, []), (.if_icmp .ne 8, 162, [(0, 167)])]
def b_X11_valueOf_162 : List QE := [(.ldc 91, 164, []), (.goto 29, 167, [(0, 193)])]
def b_X11_valueOf_167 : List QE := [(.iload 4, 169, []), (.ifCond .le 8, 172, [(0, 177)])]
def b_X11_valueOf_172 : List QE := [(.iload 5, 174, []), (.goto 19, 177, [(0, 193)])]
def b_X11_valueOf_177 : List QE := [(.aload_n 0, 178, []), (.aload_n 0, 179, []), (.getfield 36, 182, []), (.iconst 3, 183, []), (.iload_n 1, 184, []), (.imul, 185, []), (.iconst 2, 186, []), (.iadd, 187, []), (.iaload, 188, []), (.iload_n 2, 189, []), (.iload_n 3, 190, []), (.invokevirtual 189, 193, [])]
def b_X11_valueOf_193 : List QE := [(.ireturn, 194, [])]
def b_X11_valueOf_194 : List QE := [(.iload 4, 196, []), (.ldc 91, 198, []), (.if_icmp .ne 12, 201, [(0, 210)])]
def b_X11_valueOf_201 : List QE := [(.aload_n 0, 202, []), (.getfield 33, 205, []), (.iload_n 1, 206, []), (.iaload, 207, []), (.goto 5, 210, [(0, 212)])]
def b_X11_valueOf_210 : List QE := [(.iload 4, 212, [])]
def b_X11_valueOf_212 : List QE := [(.ireturn, 213, [])]
def b_X11_valueOf_213 : List QE := [(.aload_n 0, 214, []), (.getfield 33, 217, []), (.iload_n 1, 218, []), (.iaload, 219, []), (.istore 6, 221, []), (.aload_n 0, 222, []), (.invokevirtual 192, 225, []), (.iload_n 3, 226, []), (.iload 6, 228, []), (.isub, 229, []), (.istore 7, 231, [])]
def b_X11_valueOf_231 : List QE := [(.iload 7, 233, []), (.iload_n 3, 234, []), (.iload 6, 236, []), (.iadd, 237, []), (.if_icmp .gt 66, 240, [(0, 303)])]
def b_X11_valueOf_240 : List QE := [(.iload_n 2, 241, []), (.iload 6, 243, []), (.isub, 244, []), (.istore 8, 246, [])]
def b_X11_valueOf_246 : List QE := [(.iload 8, 248, []), (.iload_n 2, 249, []), (.iload 6, 251, []), (.iadd, 252, []), (.if_icmp .gt 45, 255, [(0, 297)])]
def b_X11_valueOf_255 : List QE := [(.aload_n 0, 256, []), (.aload_n 0, 257, []), (.iload 8, 259, []), (.iload 7, 261, []), (.invokevirtual 113, 264, []), (.ifCond .eq 22, 267, [(0, 286)])]
def b_X11_valueOf_267 : List QE := [(.aload_n 0, 268, []), (.aload_n 0, 269, []), (.getfield 36, 272, []), (.iconst 3, 273, []), (.iload_n 1, 274, []), (.imul, 275, []), (.iaload, 276, []), (.iload 8, 278, []), (.iload 7, 280, []), (.invokevirtual 189, 283, []), (.goto 5, 286, [(0, 288)])]
def b_X11_valueOf_286 : List QE := [(.ldc 91, 288, [])]
def b_X11_valueOf_288 : List QE := [(.invokevirtual 195, 291, []), (.iinc 8 1, 294, []), (.goto (-48), 297, [(0, 246)])]
def b_X11_valueOf_297 : List QE := [(.iinc 7 1, 300, []), (.goto (-69), 303, [(0, 231)])]
def b_X11_valueOf_303 : List QE := [(.aload_n 0, 304, []), (.aload_n 0, 305, []), (.getfield 30, 308, []), (.iload_n 1, 309, []), (.iaload, 310, []), (.invokevirtual 198, 313, []), (.ireturn, 314, [])]
def b_X11_valueOf_314 : List QE := [(.iload 5, 316, []), (.ldc 91, 318, []), (.if_icmp .ne 6, 321, [(0, 324)])]
def b_X11_valueOf_321 : List QE := [(.ldc 91, 323, []), (.ireturn, 324, [])]
def b_X11_valueOf_324 : List QE := [(.aload_n 0, 325, []), (.invokevirtual 192, 328, []), (.iconst 0, 329, []), (.istore 6, 331, [])]
def b_X11_valueOf_331 : List QE := [(.iload 6, 333, []), (.aload_n 0, 334, []), (.getfield 13, 337, []), (.if_icmp .ge 75, 340, [(0, 412)])]
def b_X11_valueOf_340 : List QE := [(.iconst 0, 341, []), (.istore 7, 343, [])]
def b_X11_valueOf_343 : List QE := [(.iload 7, 345, []), (.aload_n 0, 346, []), (.getfield 7, 349, []), (.if_icmp .ge 57, 352, [(0, 406)])]
def b_X11_valueOf_352 : List QE := [(.aload_n 0, 353, []), (.aload_n 0, 354, []), (.aload_n 0, 355, []), (.getfield 36, 358, []), (.iconst 3, 359, []), (.iload_n 1, 360, []), (.imul, 361, []), (.iconst 1, 362, []), (.iadd, 363, []), (.iaload, 364, []), (.iload 7, 366, []), (.iload 6, 368, []), (.invokevirtual 189, 371, []), (.iload 5, 373, []), (.if_icmp .ne 22, 376, [(0, 395)])]
def b_X11_valueOf_376 : List QE := [(.aload_n 0, 377, []), (.aload_n 0, 378, []), (.getfield 36, 381, []), (.iconst 3, 382, []), (.iload_n 1, 383, []), (.imul, 384, []), (.iaload, 385, []), (.iload 7, 387, []), (.iload 6, 389, []), (.invokevirtual 189, 392, []), (.goto 5, 395, [(0, 397)])]
def b_X11_valueOf_395 : List QE := [(.ldc 91, 397, [])]
def b_X11_valueOf_397 : List QE := [(.invokevirtual 195, 400, []), (.iinc 7 1, 403, []), (.goto (-60), 406, [(0, 343)])]
def b_X11_valueOf_406 : List QE := [(.iinc 6 1, 409, []), (.goto (-78), 412, [(0, 331)])]
def b_X11_valueOf_412 : List QE := [(.aload_n 0, 413, []), (.aload_n 0, 414, []), (.getfield 30, 417, []), (.iload_n 1, 418, []), (.iaload, 419, []), (.invokevirtual 198, 422, []), (.ireturn, 423, [])]
def b_X11_valueOf_423 : List QE := [(.aload_n 0, 424, []), (.aload_n 0, 425, []), (.getfield 27, 428, []), (.iload_n 1, 429, []), (.iaload, 430, []), (.iload 4, 432, []), (.iload 5, 434, []), (.invokevirtual 201, 437, []), (.ireturn, 438, [])]
def L_X11_valueOf : List (Nat × Option (List QE)) := [(0, some b_X11_valueOf_0), (9, some b_X11_valueOf_9), (26, some b_X11_valueOf_26), (28, some b_X11_valueOf_28), (40, some b_X11_valueOf_40), (59, some b_X11_valueOf_59), (61, some b_X11_valueOf_61), (132, some b_X11_valueOf_132), (155, some b_X11_valueOf_155), (162, some b_X11_valueOf_162), (167, some b_X11_valueOf_167), (172, some b_X11_valueOf_172), (177, some b_X11_valueOf_177), (193, some b_X11_valueOf_193), (194, some b_X11_valueOf_194), (201, some b_X11_valueOf_201), (210, some b_X11_valueOf_210), (212, some b_X11_valueOf_212), (213, some b_X11_valueOf_213), (231, none), (240, some b_X11_valueOf_240), (246, none), (255, some b_X11_valueOf_255), (267, some b_X11_valueOf_267), (286, some b_X11_valueOf_286), (288, some b_X11_valueOf_288), (297, some b_X11_valueOf_297), (303, some b_X11_valueOf_303), (314, some b_X11_valueOf_314), (321, some b_X11_valueOf_321), (324, some b_X11_valueOf_324), (331, none), (340, some b_X11_valueOf_340), (343, none), (352, some b_X11_valueOf_352), (376, some b_X11_valueOf_376), (395, some b_X11_valueOf_395), (397, some b_X11_valueOf_397), (406, some b_X11_valueOf_406), (412, some b_X11_valueOf_412), (423, some b_X11_valueOf_423)]
def s_X11_valueOf : Nat → Option (List QE) := q_look L_X11_valueOf
theorem s_X11_valueOf_0 : s_X11_valueOf 0 = some b_X11_valueOf_0 := id rfl
theorem s_X11_valueOf_9 : s_X11_valueOf 9 = some b_X11_valueOf_9 := id rfl
theorem s_X11_valueOf_26 : s_X11_valueOf 26 = some b_X11_valueOf_26 := id rfl
theorem s_X11_valueOf_28 : s_X11_valueOf 28 = some b_X11_valueOf_28 := id rfl
theorem s_X11_valueOf_40 : s_X11_valueOf 40 = some b_X11_valueOf_40 := id rfl
theorem s_X11_valueOf_59 : s_X11_valueOf 59 = some b_X11_valueOf_59 := id rfl
theorem s_X11_valueOf_61 : s_X11_valueOf 61 = some b_X11_valueOf_61 := id rfl
theorem s_X11_valueOf_132 : s_X11_valueOf 132 = some b_X11_valueOf_132 := id rfl
theorem s_X11_valueOf_155 : s_X11_valueOf 155 = some b_X11_valueOf_155 := id rfl
theorem s_X11_valueOf_162 : s_X11_valueOf 162 = some b_X11_valueOf_162 := id rfl
theorem s_X11_valueOf_167 : s_X11_valueOf 167 = some b_X11_valueOf_167 := id rfl
theorem s_X11_valueOf_172 : s_X11_valueOf 172 = some b_X11_valueOf_172 := id rfl
theorem s_X11_valueOf_177 : s_X11_valueOf 177 = some b_X11_valueOf_177 := id rfl
theorem s_X11_valueOf_193 : s_X11_valueOf 193 = some b_X11_valueOf_193 := id rfl
theorem s_X11_valueOf_194 : s_X11_valueOf 194 = some b_X11_valueOf_194 := id rfl
theorem s_X11_valueOf_201 : s_X11_valueOf 201 = some b_X11_valueOf_201 := id rfl
theorem s_X11_valueOf_210 : s_X11_valueOf 210 = some b_X11_valueOf_210 := id rfl
theorem s_X11_valueOf_212 : s_X11_valueOf 212 = some b_X11_valueOf_212 := id rfl
theorem s_X11_valueOf_213 : s_X11_valueOf 213 = some b_X11_valueOf_213 := id rfl
theorem s_X11_valueOf_231 : s_X11_valueOf 231 = none := id rfl
theorem s_X11_valueOf_240 : s_X11_valueOf 240 = some b_X11_valueOf_240 := id rfl
theorem s_X11_valueOf_246 : s_X11_valueOf 246 = none := id rfl
theorem s_X11_valueOf_255 : s_X11_valueOf 255 = some b_X11_valueOf_255 := id rfl
theorem s_X11_valueOf_267 : s_X11_valueOf 267 = some b_X11_valueOf_267 := id rfl
theorem s_X11_valueOf_286 : s_X11_valueOf 286 = some b_X11_valueOf_286 := id rfl
theorem s_X11_valueOf_288 : s_X11_valueOf 288 = some b_X11_valueOf_288 := id rfl
theorem s_X11_valueOf_297 : s_X11_valueOf 297 = some b_X11_valueOf_297 := id rfl
theorem s_X11_valueOf_303 : s_X11_valueOf 303 = some b_X11_valueOf_303 := id rfl
theorem s_X11_valueOf_314 : s_X11_valueOf 314 = some b_X11_valueOf_314 := id rfl
theorem s_X11_valueOf_321 : s_X11_valueOf 321 = some b_X11_valueOf_321 := id rfl
theorem s_X11_valueOf_324 : s_X11_valueOf 324 = some b_X11_valueOf_324 := id rfl
theorem s_X11_valueOf_331 : s_X11_valueOf 331 = none := id rfl
theorem s_X11_valueOf_340 : s_X11_valueOf 340 = some b_X11_valueOf_340 := id rfl
theorem s_X11_valueOf_343 : s_X11_valueOf 343 = none := id rfl
theorem s_X11_valueOf_352 : s_X11_valueOf 352 = some b_X11_valueOf_352 := id rfl
theorem s_X11_valueOf_376 : s_X11_valueOf 376 = some b_X11_valueOf_376 := id rfl
theorem s_X11_valueOf_395 : s_X11_valueOf 395 = some b_X11_valueOf_395 := id rfl
theorem s_X11_valueOf_397 : s_X11_valueOf 397 = some b_X11_valueOf_397 := id rfl
theorem s_X11_valueOf_406 : s_X11_valueOf 406 = some b_X11_valueOf_406 := id rfl
theorem s_X11_valueOf_412 : s_X11_valueOf 412 = some b_X11_valueOf_412 := id rfl
theorem s_X11_valueOf_423 : s_X11_valueOf 423 = some b_X11_valueOf_423 := id rfl
def u_X11_valueOf : QU := ([39, 36, 27, 16, 33, 30, 13, 7], [], [91], [], [189, 192, 113, 195, 198, 201], [], [])
theorem o_X11_valueOf : q_skok cX11_valueOf 9 u_X11_valueOf L_X11_valueOf = true := by decide +kernel
theorem o_X11_valueOf_331 : q_ok cX11_valueOf 9 u_X11_valueOf 331 b_X11_valueOf_331 = true := by decide +kernel
theorem o_X11_valueOf_343 : q_ok cX11_valueOf 9 u_X11_valueOf 343 b_X11_valueOf_343 = true := by decide +kernel
theorem o_X11_valueOf_246 : q_ok cX11_valueOf 9 u_X11_valueOf 246 b_X11_valueOf_246 = true := by decide +kernel
theorem o_X11_valueOf_231 : q_ok cX11_valueOf 9 u_X11_valueOf 231 b_X11_valueOf_231 = true := by decide +kernel
theorem k_X11_valueOf : q_chk RX11 fl_X11 ld_X11 u_X11_valueOf = true := by decide +kernel
def b_X11_stepX_0 : List QE := [(.iload_n 0, 1, []), (.ifCond .ne 7, 4, [(0, 8)])]
def b_X11_stepX_4 : List QE := [(.iconst 1, 5, []), (.goto 13, 8, [(0, 18)])]
def b_X11_stepX_8 : List QE := [(.iload_n 0, 9, []), (.iconst 2, 10, []), (.if_icmp .ne 7, 13, [(0, 17)])]
def b_X11_stepX_13 : List QE := [(.iconst (-1), 14, []), (.goto 4, 17, [(0, 18)])]
def b_X11_stepX_17 : List QE := [(.iconst 0, 18, [])]
def b_X11_stepX_18 : List QE := [(.ireturn, 19, [])]
def L_X11_stepX : List (Nat × Option (List QE)) := [(0, some b_X11_stepX_0), (4, some b_X11_stepX_4), (8, some b_X11_stepX_8), (13, some b_X11_stepX_13), (17, some b_X11_stepX_17), (18, some b_X11_stepX_18)]
def s_X11_stepX : Nat → Option (List QE) := q_look L_X11_stepX
theorem s_X11_stepX_0 : s_X11_stepX 0 = some b_X11_stepX_0 := id rfl
theorem s_X11_stepX_4 : s_X11_stepX 4 = some b_X11_stepX_4 := id rfl
theorem s_X11_stepX_8 : s_X11_stepX 8 = some b_X11_stepX_8 := id rfl
theorem s_X11_stepX_13 : s_X11_stepX 13 = some b_X11_stepX_13 := id rfl
theorem s_X11_stepX_17 : s_X11_stepX 17 = some b_X11_stepX_17 := id rfl
theorem s_X11_stepX_18 : s_X11_stepX 18 = some b_X11_stepX_18 := id rfl
def u_X11_stepX : QU := ([], [], [], [], [], [], [])
theorem o_X11_stepX : q_skok cX11_stepX 1 u_X11_stepX L_X11_stepX = true := by decide +kernel
theorem k_X11_stepX : q_chk RX11 fl_X11 ld_X11 u_X11_stepX = true := by decide +kernel
def b_X11_stepY_0 : List QE := [(.iload_n 0, 1, []), (.iconst 1, 2, []), (.if_icmp .ne 7, 5, [(0, 9)])]
def b_X11_stepY_5 : List QE := [(.iconst 1, 6, []), (.goto 13, 9, [(0, 19)])]
def b_X11_stepY_9 : List QE := [(.iload_n 0, 10, []), (.iconst 3, 11, []), (.if_icmp .ne 7, 14, [(0, 18)])]
def b_X11_stepY_14 : List QE := [(.iconst (-1), 15, []), (.goto 4, 18, [(0, 19)])]
def b_X11_stepY_18 : List QE := [(.iconst 0, 19, [])]
def b_X11_stepY_19 : List QE := [(.ireturn, 20, [])]
def L_X11_stepY : List (Nat × Option (List QE)) := [(0, some b_X11_stepY_0), (5, some b_X11_stepY_5), (9, some b_X11_stepY_9), (14, some b_X11_stepY_14), (18, some b_X11_stepY_18), (19, some b_X11_stepY_19)]
def s_X11_stepY : Nat → Option (List QE) := q_look L_X11_stepY
theorem s_X11_stepY_0 : s_X11_stepY 0 = some b_X11_stepY_0 := id rfl
theorem s_X11_stepY_5 : s_X11_stepY 5 = some b_X11_stepY_5 := id rfl
theorem s_X11_stepY_9 : s_X11_stepY 9 = some b_X11_stepY_9 := id rfl
theorem s_X11_stepY_14 : s_X11_stepY 14 = some b_X11_stepY_14 := id rfl
theorem s_X11_stepY_18 : s_X11_stepY 18 = some b_X11_stepY_18 := id rfl
theorem s_X11_stepY_19 : s_X11_stepY 19 = some b_X11_stepY_19 := id rfl
def u_X11_stepY : QU := ([], [], [], [], [], [], [])
theorem o_X11_stepY : q_skok cX11_stepY 1 u_X11_stepY L_X11_stepY = true := by decide +kernel
theorem k_X11_stepY : q_chk RX11 fl_X11 ld_X11 u_X11_stepY = true := by decide +kernel
def b_X11_workWay_0 : List QE := [(.aload_n 0, 1, []), (.getfield 36, 4, []), (.iconst 3, 5, []), (.iload_n 1, 6, []), (.imul, 7, []), (.iaload, 8, []), (.istore_n 2, 9, []), (.aload_n 0, 10, []), (.getfield 36, 13, []), (.iconst 3, 14, []), (.iload_n 1, 15, []), (.imul, 16, []), (.iconst 1, 17, []), (.iadd, 18, []), (.iaload, 19, []), (.istore_n 3, 20, []), (.iconst 0, 21, []), (.istore 4, 23, [])]
def b_X11_workWay_23 : List QE := [(.iload 4, 25, []), (.aload_n 0, 26, []), (.getfield 13, 29, []), (.if_icmp .ge 87, 32, [(0, 116)])]
def b_X11_workWay_32 : List QE := [(.iconst 0, 33, []), (.istore 5, 35, [])]
def b_X11_workWay_35 : List QE := [(.iload 5, 37, []), (.aload_n 0, 38, []), (.getfield 7, 41, []), (.if_icmp .ge 69, 44, [(0, 110)])]
def b_X11_workWay_44 : List QE := [(.aload_n 0, 45, []), (.getfield 51, 48, []), (.bipush 12, 50, []), (.iload 4, 52, []), (.imul, 53, []), (.iload 5, 55, []), (.iadd, 56, []), (.aload_n 0, 57, []), (.iload_n 3, 58, []), (.iload 5, 60, []), (.iload 4, 62, []), (.invokevirtual 189, 65, []), (.ldc 91, 67, []), (.if_icmp .eq 33, 70, [(0, 100)])]
def b_X11_workWay_70 : List QE := [(.aload_n 0, 71, []), (.iload_n 2, 72, []), (.iload 5, 74, []), (.iload 4, 76, []), (.invokevirtual 189, 79, []), (.ldc 91, 81, []), (.if_icmp .eq 19, 84, [(0, 100)])]
def b_X11_workWay_84 : List QE := [(.aload_n 0, 85, []), (.iload_n 2, 86, []), (.iload 5, 88, []), (.iload 4, 90, []), (.invokevirtual 189, 93, []), (.ifCond .le 7, 96, [(0, 100)])]
def b_X11_workWay_96 : List QE := [(.lconst 0, 97, []), (.goto 6, 100, [(0, 103)])]
def b_X11_workWay_100 : List QE := [(.ldc2_w 204, 103, [])]
def b_X11_workWay_103 : List QE := [(.lastore, 104, []), (.iinc 5 1, 107, []), (.goto (-72), 110, [(0, 35)])]
def b_X11_workWay_110 : List QE := [(.iinc 4 1, 113, []), (.goto (-90), 116, [(0, 23)])]
def b_X11_workWay_116 : List QE := [(.iconst 1, 117, []), (.istore 4, 119, [])]
def b_X11_workWay_119 : List QE := [(.iload 4, 121, []), (.ifCond .eq 220, 124, [(0, 341)])]
def b_X11_workWay_124 : List QE := [(.iconst 0, 125, []), (.istore 4, 127, []), (.iconst 0, 128, []), (.istore 5, 130, [])]
def b_X11_workWay_130 : List QE := [(.iload 5, 132, []), (.sipush 576, 135, []), (.if_icmp .ge 203, 138, [(0, 338)])]
def b_X11_workWay_138 : List QE := [(.iload 5, 140, []), (.iconst 4, 141, []), (.idiv, 142, []), (.bipush 12, 144, []), (.irem, 145, []), (.istore 6, 147, []), (.iload 5, 149, []), (.bipush 48, 151, []), (.idiv, 152, []), (.istore 7, 154, []), (.iload 6, 156, []), (.iload 5, 158, []), (.iconst 4, 159, []), (.irem, 160, []), (.invokestatic 206, 163, []), (.iadd, 164, []), (.istore 8, 166, []), (.iload 7, 168, []), (.iload 5, 170, []), (.iconst 4, 171, []), (.irem, 172, []), (.invokestatic 209, 175, []), (.iadd, 176, []), (.istore 9, 178, []), (.aload_n 0, 179, []), (.iload 6, 181, []), (.iload 7, 183, []), (.invokevirtual 113, 186, []), (.ifCond .eq 146, 189, [(0, 332)])]
def b_X11_workWay_189 : List QE := [(.aload_n 0, 190, []), (.iload 8, 192, []), (.iload 9, 194, []), (.invokevirtual 113, 197, []), (.ifCond .eq 135, 200, [(0, 332)])]
def b_X11_workWay_200 : List QE := [(.aload_n 0, 201, []), (.getfield 51, 204, []), (.bipush 12, 206, []), (.iload 7, 208, []), (.imul, 209, []), (.iload 6, 211, []), (.iadd, 212, []), (.laload, 213, []), (.lconst 0, 214, []), (.lcmp, 215, []), (.ifCond .lt 117, 218, [(0, 332)])]
def b_X11_workWay_218 : List QE := [(.aload_n 0, 219, []), (.iload_n 3, 220, []), (.iload 8, 222, []), (.iload 9, 224, []), (.invokevirtual 189, 227, []), (.ldc 91, 229, []), (.if_icmp .ne 6, 232, [(0, 235)])]
def b_X11_workWay_232 : List QE := [(.goto 100, 235, [(0, 332)])]
def b_X11_workWay_235 : List QE := [(.aload_n 0, 236, []), (.getfield 51, 239, []), (.bipush 12, 241, []), (.iload 7, 243, []), (.imul, 244, []), (.iload 6, 246, []), (.iadd, 247, []), (.laload, 248, []), (.aload_n 0, 249, []), (.iload_n 3, 250, []), (.iload 8, 252, []), (.iload 9, 254, []), (.invokevirtual 189, 257, []), (.ifCond .ge 7, 260, [(0, 264)])]
def b_X11_workWay_260 : List QE := [(.iconst 0, 261, []), (.goto 12, 264, [(0, 273)])]
def b_X11_workWay_264 : List QE := [(.aload_n 0, 265, []), (.iload_n 3, 266, []), (.iload 8, 268, []), (.iload 9, 270, []), (.invokevirtual 189, 273, [])]
def b_X11_workWay_273 : List QE := [(.i2l, 274, []), (.ladd, 275, []), (.lstore 10, 277, []), (.aload_n 0, 278, []), (.getfield 51, 281, []), (.bipush 12, 283, []), (.iload 9, 285, []), (.imul, 286, []), (.iload 8, 288, []), (.iadd, 289, []), (.laload, 290, []), (.lconst 0, 291, []), (.lcmp, 292, []), (.ifCond .lt 22, 295, [(0, 314)])]
def b_X11_workWay_295 : List QE := [(.lload 10, 297, []), (.aload_n 0, 298, []), (.getfield 51, 301, []), (.bipush 12, 303, []), (.iload 9, 305, []), (.imul, 306, []), (.iload 8, 308, []), (.iadd, 309, []), (.laload, 310, []), (.lcmp, 311, []), (.ifCond .ge 21, 314, [(0, 332)])]
def b_X11_workWay_314 : List QE := [(.aload_n 0, 315, []), (.getfield 51, 318, []), (.bipush 12, 320, []), (.iload 9, 322, []), (.imul, 323, []), (.iload 8, 325, []), (.iadd, 326, []), (.lload 10, 328, []), (.lastore, 329, []), (.iconst 1, 330, []), (.istore 4, 332, [])]
def b_X11_workWay_332 : List QE := [(.iinc 5 1, 335, []), (.goto (-205), 338, [(0, 130)])]
def b_X11_workWay_338 : List QE := [(.goto (-219), 341, [(0, 119)])]
def b_X11_workWay_341 : List QE := [(.iconst 0, 342, []), (.istore 5, 344, [])]
def b_X11_workWay_344 : List QE := [(.iload 5, 346, []), (.aload_n 0, 347, []), (.getfield 13, 350, []), (.if_icmp .ge 75, 353, [(0, 425)])]
def b_X11_workWay_353 : List QE := [(.iconst 0, 354, []), (.istore 6, 356, [])]
def b_X11_workWay_356 : List QE := [(.iload 6, 358, []), (.aload_n 0, 359, []), (.getfield 7, 362, []), (.if_icmp .ge 57, 365, [(0, 419)])]
def b_X11_workWay_365 : List QE := [(.aload_n 0, 366, []), (.iload_n 1, 367, []), (.iload 6, 369, []), (.iload 5, 371, []), (.aload_n 0, 372, []), (.getfield 51, 375, []), (.bipush 12, 377, []), (.iload 5, 379, []), (.imul, 380, []), (.iload 6, 382, []), (.iadd, 383, []), (.laload, 384, []), (.lconst 0, 385, []), (.lcmp, 386, []), (.ifCond .ge 8, 389, [(0, 394)])]
def b_X11_workWay_389 : List QE := [(.ldc 91, 391, []), (.goto 19, 394, [(0, 410)])]
def b_X11_workWay_394 : List QE := [(.aload_n 0, 395, []), (.getfield 51, 398, []), (.bipush 12, 400, []), (.iload 5, 402, []), (.imul, 403, []), (.iload 6, 405, []), (.iadd, 406, []), (.laload, 407, []), (.invokestatic 172, 410, [])]
def b_X11_workWay_410 : List QE := [(.invokevirtual 186, 413, []), (.iinc 6 1, 416, []), (.goto (-60), 419, [(0, 356)])]
def b_X11_workWay_419 : List QE := [(.iinc 5 1, 422, []), (.goto (-78), 425, [(0, 344)])]
def b_X11_workWay_425 : List QE := [(.return_, 426, [])]
def L_X11_workWay : List (Nat × Option (List QE)) := [(0, some b_X11_workWay_0), (23, none), (32, some b_X11_workWay_32), (35, none), (44, some b_X11_workWay_44), (70, some b_X11_workWay_70), (84, some b_X11_workWay_84), (96, some b_X11_workWay_96), (100, some b_X11_workWay_100), (103, some b_X11_workWay_103), (110, some b_X11_workWay_110), (116, some b_X11_workWay_116), (119, none), (124, some b_X11_workWay_124), (130, none), (138, some b_X11_workWay_138), (189, some b_X11_workWay_189), (200, some b_X11_workWay_200), (218, some b_X11_workWay_218), (232, some b_X11_workWay_232), (235, some b_X11_workWay_235), (260, some b_X11_workWay_260), (264, some b_X11_workWay_264), (273, some b_X11_workWay_273), (295, some b_X11_workWay_295), (314, some b_X11_workWay_314), (332, some b_X11_workWay_332), (338, some b_X11_workWay_338), (341, some b_X11_workWay_341), (344, none), (353, some b_X11_workWay_353), (356, none), (365, some b_X11_workWay_365), (389, some b_X11_workWay_389), (394, some b_X11_workWay_394), (410, some b_X11_workWay_410), (419, some b_X11_workWay_419), (425, some b_X11_workWay_425)]
def s_X11_workWay : Nat → Option (List QE) := q_look L_X11_workWay
theorem s_X11_workWay_0 : s_X11_workWay 0 = some b_X11_workWay_0 := id rfl
theorem s_X11_workWay_23 : s_X11_workWay 23 = none := id rfl
theorem s_X11_workWay_32 : s_X11_workWay 32 = some b_X11_workWay_32 := id rfl
theorem s_X11_workWay_35 : s_X11_workWay 35 = none := id rfl
theorem s_X11_workWay_44 : s_X11_workWay 44 = some b_X11_workWay_44 := id rfl
theorem s_X11_workWay_70 : s_X11_workWay 70 = some b_X11_workWay_70 := id rfl
theorem s_X11_workWay_84 : s_X11_workWay 84 = some b_X11_workWay_84 := id rfl
theorem s_X11_workWay_96 : s_X11_workWay 96 = some b_X11_workWay_96 := id rfl
theorem s_X11_workWay_100 : s_X11_workWay 100 = some b_X11_workWay_100 := id rfl
theorem s_X11_workWay_103 : s_X11_workWay 103 = some b_X11_workWay_103 := id rfl
theorem s_X11_workWay_110 : s_X11_workWay 110 = some b_X11_workWay_110 := id rfl
theorem s_X11_workWay_116 : s_X11_workWay 116 = some b_X11_workWay_116 := id rfl
theorem s_X11_workWay_119 : s_X11_workWay 119 = none := id rfl
theorem s_X11_workWay_124 : s_X11_workWay 124 = some b_X11_workWay_124 := id rfl
theorem s_X11_workWay_130 : s_X11_workWay 130 = none := id rfl
theorem s_X11_workWay_138 : s_X11_workWay 138 = some b_X11_workWay_138 := id rfl
theorem s_X11_workWay_189 : s_X11_workWay 189 = some b_X11_workWay_189 := id rfl
theorem s_X11_workWay_200 : s_X11_workWay 200 = some b_X11_workWay_200 := id rfl
theorem s_X11_workWay_218 : s_X11_workWay 218 = some b_X11_workWay_218 := id rfl
theorem s_X11_workWay_232 : s_X11_workWay 232 = some b_X11_workWay_232 := id rfl
theorem s_X11_workWay_235 : s_X11_workWay 235 = some b_X11_workWay_235 := id rfl
theorem s_X11_workWay_260 : s_X11_workWay 260 = some b_X11_workWay_260 := id rfl
theorem s_X11_workWay_264 : s_X11_workWay 264 = some b_X11_workWay_264 := id rfl
theorem s_X11_workWay_273 : s_X11_workWay 273 = some b_X11_workWay_273 := id rfl
theorem s_X11_workWay_295 : s_X11_workWay 295 = some b_X11_workWay_295 := id rfl
theorem s_X11_workWay_314 : s_X11_workWay 314 = some b_X11_workWay_314 := id rfl
theorem s_X11_workWay_332 : s_X11_workWay 332 = some b_X11_workWay_332 := id rfl
theorem s_X11_workWay_338 : s_X11_workWay 338 = some b_X11_workWay_338 := id rfl
theorem s_X11_workWay_341 : s_X11_workWay 341 = some b_X11_workWay_341 := id rfl
theorem s_X11_workWay_344 : s_X11_workWay 344 = none := id rfl
theorem s_X11_workWay_353 : s_X11_workWay 353 = some b_X11_workWay_353 := id rfl
theorem s_X11_workWay_356 : s_X11_workWay 356 = none := id rfl
theorem s_X11_workWay_365 : s_X11_workWay 365 = some b_X11_workWay_365 := id rfl
theorem s_X11_workWay_389 : s_X11_workWay 389 = some b_X11_workWay_389 := id rfl
theorem s_X11_workWay_394 : s_X11_workWay 394 = some b_X11_workWay_394 := id rfl
theorem s_X11_workWay_410 : s_X11_workWay 410 = some b_X11_workWay_410 := id rfl
theorem s_X11_workWay_419 : s_X11_workWay 419 = some b_X11_workWay_419 := id rfl
theorem s_X11_workWay_425 : s_X11_workWay 425 = some b_X11_workWay_425 := id rfl
def u_X11_workWay : QU := ([36, 13, 7, 51], [], [91, 204], [], [189, 113, 186], [206, 209, 172], [])
theorem o_X11_workWay : q_skok cX11_workWay 12 u_X11_workWay L_X11_workWay = true := by decide +kernel
theorem o_X11_workWay_130 : q_ok cX11_workWay 12 u_X11_workWay 130 b_X11_workWay_130 = true := by decide +kernel
theorem o_X11_workWay_35 : q_ok cX11_workWay 12 u_X11_workWay 35 b_X11_workWay_35 = true := by decide +kernel
theorem o_X11_workWay_356 : q_ok cX11_workWay 12 u_X11_workWay 356 b_X11_workWay_356 = true := by decide +kernel
theorem o_X11_workWay_23 : q_ok cX11_workWay 12 u_X11_workWay 23 b_X11_workWay_23 = true := by decide +kernel
theorem o_X11_workWay_119 : q_ok cX11_workWay 12 u_X11_workWay 119 b_X11_workWay_119 = true := by decide +kernel
theorem o_X11_workWay_344 : q_ok cX11_workWay 12 u_X11_workWay 344 b_X11_workWay_344 = true := by decide +kernel
theorem k_X11_workWay : q_chk RX11 fl_X11 ld_X11 u_X11_workWay = true := by decide +kernel
def b_X11_flowOf_0 : List QE := [(.iconst (-1), 1, []), (.istore 4, 3, []), (.aload_n 0, 4, []), (.iload_n 1, 5, []), (.iload_n 2, 6, []), (.iload_n 3, 7, []), (.invokevirtual 189, 10, []), (.istore 5, 12, []), (.iconst 0, 13, []), (.istore 6, 15, [])]
def b_X11_flowOf_15 : List QE := [(.iload 6, 17, []), (.iconst 4, 18, []), (.if_icmp .ge 87, 21, [(0, 105)])]
def b_X11_flowOf_21 : List QE := [(.iload_n 2, 22, []), (.iload 6, 24, []), (.invokestatic 206, 27, []), (.iadd, 28, []), (.istore 7, 30, []), (.iload_n 3, 31, []), (.iload 6, 33, []), (.invokestatic 209, 36, []), (.iadd, 37, []), (.istore 8, 39, []), (.aload_n 0, 40, []), (.iload 7, 42, []), (.iload 8, 44, []), (.invokevirtual 113, 47, []), (.ifCond .eq 52, 50, [(0, 99)])]
def b_X11_flowOf_50 : List QE := [(.aload_n 0, 51, []), (.iload_n 1, 52, []), (.iload 7, 54, []), (.iload 8, 56, []), (.invokevirtual 189, 59, []), (.ldc 91, 61, []), (.if_icmp .eq 38, 64, [(0, 99)])]
def b_X11_flowOf_64 : List QE := [(.aload_n 0, 65, []), (.iload_n 1, 66, []), (.iload 7, 68, []), (.iload 8, 70, []), (.invokevirtual 189, 73, []), (.iload 5, 75, []), (.if_icmp .ge 24, 78, [(0, 99)])]
def b_X11_flowOf_78 : List QE := [(.aload_n 0, 79, []), (.iload_n 1, 80, []), (.iload 7, 82, []), (.iload 8, 84, []), (.invokevirtual 189, 87, []), (.istore 5, 89, []), (.bipush 12, 91, []), (.iload 8, 93, []), (.imul, 94, []), (.iload 7, 96, []), (.iadd, 97, []), (.istore 4, 99, [])]
def b_X11_flowOf_99 : List QE := [(.iinc 6 1, 102, []), (.goto (-87), 105, [(0, 15)])]
def b_X11_flowOf_105 : List QE := [(.iload 4, 107, []), (.ireturn, 108, [])]
def L_X11_flowOf : List (Nat × Option (List QE)) := [(0, some b_X11_flowOf_0), (15, none), (21, some b_X11_flowOf_21), (50, some b_X11_flowOf_50), (64, some b_X11_flowOf_64), (78, some b_X11_flowOf_78), (99, some b_X11_flowOf_99), (105, some b_X11_flowOf_105)]
def s_X11_flowOf : Nat → Option (List QE) := q_look L_X11_flowOf
theorem s_X11_flowOf_0 : s_X11_flowOf 0 = some b_X11_flowOf_0 := id rfl
theorem s_X11_flowOf_15 : s_X11_flowOf 15 = none := id rfl
theorem s_X11_flowOf_21 : s_X11_flowOf 21 = some b_X11_flowOf_21 := id rfl
theorem s_X11_flowOf_50 : s_X11_flowOf 50 = some b_X11_flowOf_50 := id rfl
theorem s_X11_flowOf_64 : s_X11_flowOf 64 = some b_X11_flowOf_64 := id rfl
theorem s_X11_flowOf_78 : s_X11_flowOf 78 = some b_X11_flowOf_78 := id rfl
theorem s_X11_flowOf_99 : s_X11_flowOf 99 = some b_X11_flowOf_99 := id rfl
theorem s_X11_flowOf_105 : s_X11_flowOf 105 = some b_X11_flowOf_105 := id rfl
def u_X11_flowOf : QU := ([], [], [91], [], [189, 113], [206, 209], [])
theorem o_X11_flowOf : q_skok cX11_flowOf 9 u_X11_flowOf L_X11_flowOf = true := by decide +kernel
theorem o_X11_flowOf_15 : q_ok cX11_flowOf 9 u_X11_flowOf 15 b_X11_flowOf_15 = true := by decide +kernel
theorem k_X11_flowOf : q_chk RX11 fl_X11 ld_X11 u_X11_flowOf = true := by decide +kernel
def b_X11_workFlow_0 : List QE := [(.aload_n 0, 1, []), (.getfield 36, 4, []), (.iconst 3, 5, []), (.iload_n 1, 6, []), (.imul, 7, []), (.iaload, 8, []), (.istore_n 2, 9, []), (.iconst 0, 10, []), (.istore_n 3, 11, [])]
def b_X11_workFlow_11 : List QE := [(.iload_n 3, 12, []), (.aload_n 0, 13, []), (.getfield 13, 16, []), (.if_icmp .ge 91, 19, [(0, 107)])]
def b_X11_workFlow_19 : List QE := [(.iconst 0, 20, []), (.istore 4, 22, [])]
def b_X11_workFlow_22 : List QE := [(.iload 4, 24, []), (.aload_n 0, 25, []), (.getfield 7, 28, []), (.if_icmp .ge 73, 31, [(0, 101)])]
def b_X11_workFlow_31 : List QE := [(.aload_n 0, 32, []), (.iload_n 1, 33, []), (.iload 4, 35, []), (.iload_n 3, 36, []), (.aload_n 0, 37, []), (.iload_n 2, 38, []), (.iload 4, 40, []), (.iload_n 3, 41, []), (.invokevirtual 189, 44, []), (.ldc 91, 46, []), (.if_icmp .ne 8, 49, [(0, 54)])]
def b_X11_workFlow_49 : List QE := [(.ldc 91, 51, []), (.goto 4, 54, [(0, 55)])]
def b_X11_workFlow_54 : List QE := [(.iconst 0, 55, [])]
def b_X11_workFlow_55 : List QE := [(.invokevirtual 186, 58, []), (.aload_n 0, 59, []), (.getfield 55, 62, []), (.bipush 12, 64, []), (.iload_n 3, 65, []), (.imul, 66, []), (.iload 4, 68, []), (.iadd, 69, []), (.aload_n 0, 70, []), (.iload_n 2, 71, []), (.iload 4, 73, []), (.iload_n 3, 74, []), (.invokevirtual 189, 77, []), (.ldc 91, 79, []), (.if_icmp .ne 7, 82, [(0, 86)])]
def b_X11_workFlow_82 : List QE := [(.iconst (-1), 83, []), (.goto 11, 86, [(0, 94)])]
def b_X11_workFlow_86 : List QE := [(.aload_n 0, 87, []), (.iload_n 2, 88, []), (.iload 4, 90, []), (.iload_n 3, 91, []), (.invokevirtual 212, 94, [])]
def b_X11_workFlow_94 : List QE := [(.iastore, 95, []), (.iinc 4 1, 98, []), (.goto (-76), 101, [(0, 22)])]
def b_X11_workFlow_101 : List QE := [(.iinc 3 1, 104, []), (.goto (-93), 107, [(0, 11)])]
def b_X11_workFlow_107 : List QE := [(.iconst 0, 108, []), (.istore_n 3, 109, [])]
def b_X11_workFlow_109 : List QE := [(.iload_n 3, 110, []), (.aload_n 0, 111, []), (.getfield 13, 114, []), (.if_icmp .ge 88, 117, [(0, 202)])]
def b_X11_workFlow_117 : List QE := [(.iconst 0, 118, []), (.istore 4, 120, [])]
def b_X11_workFlow_120 : List QE := [(.iload 4, 122, []), (.aload_n 0, 123, []), (.getfield 7, 126, []), (.if_icmp .ge 70, 129, [(0, 196)])]
def b_X11_workFlow_129 : List QE := [(.aload_n 0, 130, []), (.iload_n 2, 131, []), (.iload 4, 133, []), (.iload_n 3, 134, []), (.invokevirtual 189, 137, []), (.ldc 91, 139, []), (.if_icmp .ne 7, 142, [(0, 146)])]
def b_X11_workFlow_142 : List QE := [(.iconst (-1), 143, []), (.goto 10, 146, [(0, 153)])]
def b_X11_workFlow_146 : List QE := [(.bipush 12, 148, []), (.iload_n 3, 149, []), (.imul, 150, []), (.iload 4, 152, []), (.iadd, 153, [])]
def b_X11_workFlow_153 : List QE := [(.istore 5, 155, [])]
def b_X11_workFlow_155 : List QE := [(.iload 5, 157, []), (.iconst (-1), 158, []), (.if_icmp .eq 32, 161, [(0, 190)])]
def b_X11_workFlow_161 : List QE := [(.aload_n 0, 162, []), (.getfield 48, 165, []), (.sipush 144, 168, []), (.iload_n 1, 169, []), (.imul, 170, []), (.iload 5, 172, []), (.iadd, 173, []), (.dup2, 174, []), (.iaload, 175, []), (.iconst 1, 176, []), (.iadd, 177, []), (.iastore, 178, []), (.aload_n 0, 179, []), (.getfield 55, 182, []), (.iload 5, 184, []), (.iaload, 185, []), (.istore 5, 187, []), (.goto (-32), 190, [(0, 155)])]
def b_X11_workFlow_190 : List QE := [(.iinc 4 1, 193, []), (.goto (-73), 196, [(0, 120)])]
def b_X11_workFlow_196 : List QE := [(.iinc 3 1, 199, []), (.goto (-90), 202, [(0, 109)])]
def b_X11_workFlow_202 : List QE := [(.return_, 203, [])]
def L_X11_workFlow : List (Nat × Option (List QE)) := [(0, some b_X11_workFlow_0), (11, none), (19, some b_X11_workFlow_19), (22, none), (31, some b_X11_workFlow_31), (49, some b_X11_workFlow_49), (54, some b_X11_workFlow_54), (55, some b_X11_workFlow_55), (82, some b_X11_workFlow_82), (86, some b_X11_workFlow_86), (94, some b_X11_workFlow_94), (101, some b_X11_workFlow_101), (107, some b_X11_workFlow_107), (109, none), (117, some b_X11_workFlow_117), (120, none), (129, some b_X11_workFlow_129), (142, some b_X11_workFlow_142), (146, some b_X11_workFlow_146), (153, some b_X11_workFlow_153), (155, none), (161, some b_X11_workFlow_161), (190, some b_X11_workFlow_190), (196, some b_X11_workFlow_196), (202, some b_X11_workFlow_202)]
def s_X11_workFlow : Nat → Option (List QE) := q_look L_X11_workFlow
theorem s_X11_workFlow_0 : s_X11_workFlow 0 = some b_X11_workFlow_0 := id rfl
theorem s_X11_workFlow_11 : s_X11_workFlow 11 = none := id rfl
theorem s_X11_workFlow_19 : s_X11_workFlow 19 = some b_X11_workFlow_19 := id rfl
theorem s_X11_workFlow_22 : s_X11_workFlow 22 = none := id rfl
theorem s_X11_workFlow_31 : s_X11_workFlow 31 = some b_X11_workFlow_31 := id rfl
theorem s_X11_workFlow_49 : s_X11_workFlow 49 = some b_X11_workFlow_49 := id rfl
theorem s_X11_workFlow_54 : s_X11_workFlow 54 = some b_X11_workFlow_54 := id rfl
theorem s_X11_workFlow_55 : s_X11_workFlow 55 = some b_X11_workFlow_55 := id rfl
theorem s_X11_workFlow_82 : s_X11_workFlow 82 = some b_X11_workFlow_82 := id rfl
theorem s_X11_workFlow_86 : s_X11_workFlow 86 = some b_X11_workFlow_86 := id rfl
theorem s_X11_workFlow_94 : s_X11_workFlow 94 = some b_X11_workFlow_94 := id rfl
theorem s_X11_workFlow_101 : s_X11_workFlow 101 = some b_X11_workFlow_101 := id rfl
theorem s_X11_workFlow_107 : s_X11_workFlow 107 = some b_X11_workFlow_107 := id rfl
theorem s_X11_workFlow_109 : s_X11_workFlow 109 = none := id rfl
theorem s_X11_workFlow_117 : s_X11_workFlow 117 = some b_X11_workFlow_117 := id rfl
theorem s_X11_workFlow_120 : s_X11_workFlow 120 = none := id rfl
theorem s_X11_workFlow_129 : s_X11_workFlow 129 = some b_X11_workFlow_129 := id rfl
theorem s_X11_workFlow_142 : s_X11_workFlow 142 = some b_X11_workFlow_142 := id rfl
theorem s_X11_workFlow_146 : s_X11_workFlow 146 = some b_X11_workFlow_146 := id rfl
theorem s_X11_workFlow_153 : s_X11_workFlow 153 = some b_X11_workFlow_153 := id rfl
theorem s_X11_workFlow_155 : s_X11_workFlow 155 = none := id rfl
theorem s_X11_workFlow_161 : s_X11_workFlow 161 = some b_X11_workFlow_161 := id rfl
theorem s_X11_workFlow_190 : s_X11_workFlow 190 = some b_X11_workFlow_190 := id rfl
theorem s_X11_workFlow_196 : s_X11_workFlow 196 = some b_X11_workFlow_196 := id rfl
theorem s_X11_workFlow_202 : s_X11_workFlow 202 = some b_X11_workFlow_202 := id rfl
def u_X11_workFlow : QU := ([36, 13, 7, 55, 48], [], [91], [], [189, 186, 212], [], [])
theorem o_X11_workFlow : q_skok cX11_workFlow 6 u_X11_workFlow L_X11_workFlow = true := by decide +kernel
theorem o_X11_workFlow_11 : q_ok cX11_workFlow 6 u_X11_workFlow 11 b_X11_workFlow_11 = true := by decide +kernel
theorem o_X11_workFlow_109 : q_ok cX11_workFlow 6 u_X11_workFlow 109 b_X11_workFlow_109 = true := by decide +kernel
theorem o_X11_workFlow_22 : q_ok cX11_workFlow 6 u_X11_workFlow 22 b_X11_workFlow_22 = true := by decide +kernel
theorem o_X11_workFlow_120 : q_ok cX11_workFlow 6 u_X11_workFlow 120 b_X11_workFlow_120 = true := by decide +kernel
theorem o_X11_workFlow_155 : q_ok cX11_workFlow 6 u_X11_workFlow 155 b_X11_workFlow_155 = true := by decide +kernel
theorem k_X11_workFlow : q_chk RX11 fl_X11 ld_X11 u_X11_workFlow = true := by decide +kernel
def b_X11_cell_0 : List QE := [(.aload_n 0, 1, []), (.iconst 0, 2, []), (.putfield 85, 5, []), (.aload_n 0, 6, []), (.iload_n 1, 7, []), (.invokevirtual 149, 10, []), (.ifCond .eq 12, 13, [(0, 22)])]
def b_X11_cell_13 : List QE := [(.aload_n 0, 14, []), (.iload_n 2, 15, []), (.iload_n 3, 16, []), (.invokevirtual 113, 19, []), (.ifCond .ne 6, 22, [(0, 25)])]
def b_X11_cell_22 : List QE := [(.ldc 91, 24, []), (.ireturn, 25, [])]
def b_X11_cell_25 : List QE := [(.iload_n 2, 26, []), (.iload_n 3, 27, []), (.invokestatic 121, 30, []), (.istore 4, 32, []), (.aload_n 0, 33, []), (.iload_n 1, 34, []), (.iload 4, 36, []), (.invokevirtual 145, 39, []), (.iconst 0, 40, []), (.istore 5, 42, [])]
def b_X11_cell_42 : List QE := [(.iload 5, 44, []), (.iload_n 1, 45, []), (.if_icmp .gt 81, 48, [(0, 126)])]
def b_X11_cell_48 : List QE := [(.iconst 0, 49, []), (.istore 6, 51, [])]
def b_X11_cell_51 : List QE := [(.iload 6, 53, []), (.bipush 9, 55, []), (.if_icmp .ge 65, 58, [(0, 120)])]
def b_X11_cell_58 : List QE := [(.aload_n 0, 59, []), (.getfield 45, 62, []), (.iload 5, 64, []), (.iaload, 65, []), (.iload 6, 67, []), (.ishr, 68, []), (.iconst 1, 69, []), (.iand, 70, []), (.iconst 1, 71, []), (.if_icmp .ne 43, 74, [(0, 114)])]
def b_X11_cell_74 : List QE := [(.aload_n 0, 75, []), (.getfield 42, 78, []), (.bipush 9, 80, []), (.iload 5, 82, []), (.imul, 83, []), (.iload 6, 85, []), (.iadd, 86, []), (.baload, 87, []), (.ifCond .ne 27, 90, [(0, 114)])]
def b_X11_cell_90 : List QE := [(.aload_n 0, 91, []), (.getfield 42, 94, []), (.bipush 9, 96, []), (.iload 5, 98, []), (.imul, 99, []), (.iload 6, 101, []), (.iadd, 102, []), (.iconst 1, 103, []), (.bastore, 104, []), (.aload_n 0, 105, []), (.dup, 106, []), (.getfield 152, 109, []), (.iconst 1, 110, []), (.iadd, 111, []), (.putfield 152, 114, [])]
def b_X11_cell_114 : List QE := [(.iinc 6 1, 117, []), (.goto (-66), 120, [(0, 51)])]
def b_X11_cell_120 : List QE := [(.iinc 5 1, 123, []), (.goto (-81), 126, [(0, 42)])]
def b_X11_cell_126 : List QE := [(.iconst 0, 127, []), (.istore 5, 129, [])]
def b_X11_cell_129 : List QE := [(.iload 5, 131, []), (.iload_n 1, 132, []), (.if_icmp .gt 15, 135, [(0, 147)])]
def b_X11_cell_135 : List QE := [(.aload_n 0, 136, []), (.iload 5, 138, []), (.invokevirtual 215, 141, []), (.iinc 5 1, 144, []), (.goto (-15), 147, [(0, 129)])]
def b_X11_cell_147 : List QE := [(.aload_n 0, 148, []), (.iload_n 1, 149, []), (.iload_n 2, 150, []), (.iload_n 3, 151, []), (.invokevirtual 189, 154, []), (.ireturn, 155, [])]
def L_X11_cell : List (Nat × Option (List QE)) := [(0, some b_X11_cell_0), (13, some b_X11_cell_13), (22, some b_X11_cell_22), (25, some b_X11_cell_25), (42, none), (48, some b_X11_cell_48), (51, none), (58, some b_X11_cell_58), (74, some b_X11_cell_74), (90, some b_X11_cell_90), (114, some b_X11_cell_114), (120, some b_X11_cell_120), (126, some b_X11_cell_126), (129, none), (135, some b_X11_cell_135), (147, some b_X11_cell_147)]
def s_X11_cell : Nat → Option (List QE) := q_look L_X11_cell
theorem s_X11_cell_0 : s_X11_cell 0 = some b_X11_cell_0 := id rfl
theorem s_X11_cell_13 : s_X11_cell 13 = some b_X11_cell_13 := id rfl
theorem s_X11_cell_22 : s_X11_cell 22 = some b_X11_cell_22 := id rfl
theorem s_X11_cell_25 : s_X11_cell 25 = some b_X11_cell_25 := id rfl
theorem s_X11_cell_42 : s_X11_cell 42 = none := id rfl
theorem s_X11_cell_48 : s_X11_cell 48 = some b_X11_cell_48 := id rfl
theorem s_X11_cell_51 : s_X11_cell 51 = none := id rfl
theorem s_X11_cell_58 : s_X11_cell 58 = some b_X11_cell_58 := id rfl
theorem s_X11_cell_74 : s_X11_cell 74 = some b_X11_cell_74 := id rfl
theorem s_X11_cell_90 : s_X11_cell 90 = some b_X11_cell_90 := id rfl
theorem s_X11_cell_114 : s_X11_cell 114 = some b_X11_cell_114 := id rfl
theorem s_X11_cell_120 : s_X11_cell 120 = some b_X11_cell_120 := id rfl
theorem s_X11_cell_126 : s_X11_cell 126 = some b_X11_cell_126 := id rfl
theorem s_X11_cell_129 : s_X11_cell 129 = none := id rfl
theorem s_X11_cell_135 : s_X11_cell 135 = some b_X11_cell_135 := id rfl
theorem s_X11_cell_147 : s_X11_cell 147 = some b_X11_cell_147 := id rfl
def u_X11_cell : QU := ([85, 45, 42, 152], [85, 152], [91], [], [149, 113, 145, 215, 189], [121], [])
theorem o_X11_cell : q_skok cX11_cell 7 u_X11_cell L_X11_cell = true := by decide +kernel
theorem o_X11_cell_129 : q_ok cX11_cell 7 u_X11_cell 129 b_X11_cell_129 = true := by decide +kernel
theorem o_X11_cell_42 : q_ok cX11_cell 7 u_X11_cell 42 b_X11_cell_42 = true := by decide +kernel
theorem o_X11_cell_51 : q_ok cX11_cell 7 u_X11_cell 51 b_X11_cell_51 = true := by decide +kernel
theorem k_X11_cell : q_chk RX11 fl_X11 ld_X11 u_X11_cell = true := by decide +kernel
def b_X11_four_0 : List QE := [(.bipush 24, 2, []), (.istore_n 2, 3, [])]
def b_X11_four_3 : List QE := [(.iload_n 2, 4, []), (.ifCond .lt 35, 7, [(0, 39)])]
def b_X11_four_7 : List QE := [(.aload_n 0, 8, []), (.getfield 76, 11, []), (.aload_n 0, 12, []), (.getfield 218, 15, []), (.iload_n 1, 16, []), (.iload_n 2, 17, []), (.ishr, 18, []), (.sipush 255, 21, []), (.iand, 22, []), (.iastore, 23, []), (.aload_n 0, 24, []), (.dup, 25, []), (.getfield 218, 28, []), (.iconst 1, 29, []), (.iadd, 30, []), (.putfield 218, 33, []), (.iinc 2 (-8), 36, []), (.goto (-33), 39, [(0, 3)])]
def b_X11_four_39 : List QE := [(.return_, 40, [])]
def L_X11_four : List (Nat × Option (List QE)) := [(0, some b_X11_four_0), (3, none), (7, some b_X11_four_7), (39, some b_X11_four_39)]
def s_X11_four : Nat → Option (List QE) := q_look L_X11_four
theorem s_X11_four_0 : s_X11_four 0 = some b_X11_four_0 := id rfl
theorem s_X11_four_3 : s_X11_four 3 = none := id rfl
theorem s_X11_four_7 : s_X11_four 7 = some b_X11_four_7 := id rfl
theorem s_X11_four_39 : s_X11_four 39 = some b_X11_four_39 := id rfl
def u_X11_four : QU := ([76, 218], [218], [], [], [], [], [])
theorem o_X11_four : q_skok cX11_four 3 u_X11_four L_X11_four = true := by decide +kernel
theorem o_X11_four_3 : q_ok cX11_four 3 u_X11_four 3 b_X11_four_3 = true := by decide +kernel
theorem k_X11_four : q_chk RX11 fl_X11 ld_X11 u_X11_four = true := by decide +kernel
def b_X11_feed_0 : List QE := [(.aload_n 0, 1, []), (.iconst 0, 2, []), (.putfield 85, 5, []), (.aload_n 0, 6, []), (.getfield 218, 9, []), (.bipush 20, 11, []), (.iadd, 12, []), (.sipush 300, 15, []), (.if_icmp .le 5, 18, [(0, 20)])]
def b_X11_feed_18 : List QE := [(.iconst (-1), 19, []), (.ireturn, 20, [])]
def b_X11_feed_20 : List QE := [(.aload_n 0, 21, []), (.iload_n 1, 22, []), (.invokevirtual 221, 25, []), (.aload_n 0, 26, []), (.iload_n 2, 27, []), (.invokevirtual 221, 30, []), (.aload_n 0, 31, []), (.iload_n 3, 32, []), (.invokevirtual 221, 35, []), (.aload_n 0, 36, []), (.iload 4, 38, []), (.invokevirtual 221, 41, []), (.aload_n 0, 42, []), (.iload 5, 44, []), (.invokevirtual 221, 47, []), (.aload_n 0, 48, []), (.getfield 218, 51, []), (.ireturn, 52, [])]
def L_X11_feed : List (Nat × Option (List QE)) := [(0, some b_X11_feed_0), (18, some b_X11_feed_18), (20, some b_X11_feed_20)]
def s_X11_feed : Nat → Option (List QE) := q_look L_X11_feed
theorem s_X11_feed_0 : s_X11_feed 0 = some b_X11_feed_0 := id rfl
theorem s_X11_feed_18 : s_X11_feed 18 = some b_X11_feed_18 := id rfl
theorem s_X11_feed_20 : s_X11_feed 20 = some b_X11_feed_20 := id rfl
def u_X11_feed : QU := ([85, 218], [85], [], [], [221], [], [])
theorem o_X11_feed : q_skok cX11_feed 6 u_X11_feed L_X11_feed = true := by decide +kernel
theorem k_X11_feed : q_chk RX11 fl_X11 ld_X11 u_X11_feed = true := by decide +kernel
def b_X11_end_0 : List QE := [(.aload_n 0, 1, []), (.iconst 0, 2, []), (.putfield 85, 5, []), (.iload_n 1, 6, []), (.ifCond .lt 11, 9, [(0, 17)])]
def b_X11_end_9 : List QE := [(.iload_n 1, 10, []), (.aload_n 0, 11, []), (.getfield 218, 14, []), (.if_icmp .le 5, 17, [(0, 19)])]
def b_X11_end_17 : List QE := [(.iconst (-1), 18, []), (.ireturn, 19, [])]
def b_X11_end_19 : List QE := [(.aload_n 0, 20, []), (.iload_n 1, 21, []), (.putfield 218, 24, []), (.iload_n 1, 25, []), (.ireturn, 26, [])]
def L_X11_end : List (Nat × Option (List QE)) := [(0, some b_X11_end_0), (9, some b_X11_end_9), (17, some b_X11_end_17), (19, some b_X11_end_19)]
def s_X11_end : Nat → Option (List QE) := q_look L_X11_end
theorem s_X11_end_0 : s_X11_end 0 = some b_X11_end_0 := id rfl
theorem s_X11_end_9 : s_X11_end 9 = some b_X11_end_9 := id rfl
theorem s_X11_end_17 : s_X11_end 17 = some b_X11_end_17 := id rfl
theorem s_X11_end_19 : s_X11_end 19 = some b_X11_end_19 := id rfl
def u_X11_end : QU := ([85, 218], [85, 218], [], [], [], [], [])
theorem o_X11_end : q_skok cX11_end 2 u_X11_end L_X11_end = true := by decide +kernel
theorem k_X11_end : q_chk RX11 fl_X11 ld_X11 u_X11_end = true := by decide +kernel
def b_X11_isSmall_0 : List QE := [(.iload_n 0, 1, []), (.bipush 97, 3, []), (.if_icmp .lt 13, 6, [(0, 16)])]
def b_X11_isSmall_6 : List QE := [(.iload_n 0, 7, []), (.bipush 122, 9, []), (.if_icmp .gt 7, 12, [(0, 16)])]
def b_X11_isSmall_12 : List QE := [(.iconst 1, 13, []), (.goto 4, 16, [(0, 17)])]
def b_X11_isSmall_16 : List QE := [(.iconst 0, 17, [])]
def b_X11_isSmall_17 : List QE := [(.ireturn, 18, [])]
def L_X11_isSmall : List (Nat × Option (List QE)) := [(0, some b_X11_isSmall_0), (6, some b_X11_isSmall_6), (12, some b_X11_isSmall_12), (16, some b_X11_isSmall_16), (17, some b_X11_isSmall_17)]
def s_X11_isSmall : Nat → Option (List QE) := q_look L_X11_isSmall
theorem s_X11_isSmall_0 : s_X11_isSmall 0 = some b_X11_isSmall_0 := id rfl
theorem s_X11_isSmall_6 : s_X11_isSmall 6 = some b_X11_isSmall_6 := id rfl
theorem s_X11_isSmall_12 : s_X11_isSmall 12 = some b_X11_isSmall_12 := id rfl
theorem s_X11_isSmall_16 : s_X11_isSmall 16 = some b_X11_isSmall_16 := id rfl
theorem s_X11_isSmall_17 : s_X11_isSmall 17 = some b_X11_isSmall_17 := id rfl
def u_X11_isSmall : QU := ([], [], [], [], [], [], [])
theorem o_X11_isSmall : q_skok cX11_isSmall 1 u_X11_isSmall L_X11_isSmall = true := by decide +kernel
theorem k_X11_isSmall : q_chk RX11 fl_X11 ld_X11 u_X11_isSmall = true := by decide +kernel
def b_X11_isDigit_0 : List QE := [(.iload_n 0, 1, []), (.bipush 48, 3, []), (.if_icmp .lt 13, 6, [(0, 16)])]
def b_X11_isDigit_6 : List QE := [(.iload_n 0, 7, []), (.bipush 57, 9, []), (.if_icmp .gt 7, 12, [(0, 16)])]
def b_X11_isDigit_12 : List QE := [(.iconst 1, 13, []), (.goto 4, 16, [(0, 17)])]
def b_X11_isDigit_16 : List QE := [(.iconst 0, 17, [])]
def b_X11_isDigit_17 : List QE := [(.ireturn, 18, [])]
def L_X11_isDigit : List (Nat × Option (List QE)) := [(0, some b_X11_isDigit_0), (6, some b_X11_isDigit_6), (12, some b_X11_isDigit_12), (16, some b_X11_isDigit_16), (17, some b_X11_isDigit_17)]
def s_X11_isDigit : Nat → Option (List QE) := q_look L_X11_isDigit
theorem s_X11_isDigit_0 : s_X11_isDigit 0 = some b_X11_isDigit_0 := id rfl
theorem s_X11_isDigit_6 : s_X11_isDigit 6 = some b_X11_isDigit_6 := id rfl
theorem s_X11_isDigit_12 : s_X11_isDigit 12 = some b_X11_isDigit_12 := id rfl
theorem s_X11_isDigit_16 : s_X11_isDigit 16 = some b_X11_isDigit_16 := id rfl
theorem s_X11_isDigit_17 : s_X11_isDigit 17 = some b_X11_isDigit_17 := id rfl
def u_X11_isDigit : QU := ([], [], [], [], [], [], [])
theorem o_X11_isDigit : q_skok cX11_isDigit 1 u_X11_isDigit L_X11_isDigit = true := by decide +kernel
theorem k_X11_isDigit : q_chk RX11 fl_X11 ld_X11 u_X11_isDigit = true := by decide +kernel
def b_X11_next_0 : List QE := [(.aload_n 0, 1, []), (.aload_n 0, 2, []), (.getfield 224, 5, []), (.putfield 227, 8, [])]
def b_X11_next_8 : List QE := [(.aload_n 0, 9, []), (.getfield 227, 12, []), (.aload_n 0, 13, []), (.getfield 218, 16, []), (.if_icmp .ge 30, 19, [(0, 46)])]
def b_X11_next_19 : List QE := [(.aload_n 0, 20, []), (.getfield 76, 23, []), (.aload_n 0, 24, []), (.getfield 227, 27, []), (.iaload, 28, []), (.bipush 32, 30, []), (.if_icmp .ne 16, 33, [(0, 46)])]
def b_X11_next_33 : List QE := [(.aload_n 0, 34, []), (.dup, 35, []), (.getfield 227, 38, []), (.iconst 1, 39, []), (.iadd, 40, []), (.putfield 227, 43, []), (.goto (-35), 46, [(0, 8)])]
def b_X11_next_46 : List QE := [(.aload_n 0, 47, []), (.aload_n 0, 48, []), (.getfield 227, 51, []), (.putfield 224, 54, []), (.aload_n 0, 55, []), (.lconst 0, 56, []), (.putfield 230, 59, []), (.aload_n 0, 60, []), (.aload_n 0, 61, []), (.getfield 227, 64, []), (.aload_n 0, 65, []), (.getfield 218, 68, []), (.if_icmp .ne 7, 71, [(0, 75)])]
def b_X11_next_71 : List QE := [(.iconst 0, 72, []), (.goto 42, 75, [(0, 114)])]
def b_X11_next_75 : List QE := [(.aload_n 0, 76, []), (.getfield 76, 79, []), (.aload_n 0, 80, []), (.getfield 227, 83, []), (.iaload, 84, []), (.invokestatic 233, 87, []), (.ifCond .eq 7, 90, [(0, 94)])]
def b_X11_next_90 : List QE := [(.iconst 1, 91, []), (.goto 23, 94, [(0, 114)])]
def b_X11_next_94 : List QE := [(.aload_n 0, 95, []), (.getfield 76, 98, []), (.aload_n 0, 99, []), (.getfield 227, 102, []), (.iaload, 103, []), (.invokestatic 236, 106, []), (.ifCond .eq 7, 109, [(0, 113)])]
def b_X11_next_109 : List QE := [(.iconst 2, 110, []), (.goto 4, 113, [(0, 114)])]
def b_X11_next_113 : List QE := [(.iconst 3, 114, [])]
def b_X11_next_114 : List QE := [(.putfield 239, 117, []), (.aload_n 0, 118, []), (.getfield 239, 121, []), (.iconst 3, 122, []), (.if_icmp .ne 27, 125, [(0, 149)])]
def b_X11_next_125 : List QE := [(.aload_n 0, 126, []), (.aload_n 0, 127, []), (.getfield 76, 130, []), (.aload_n 0, 131, []), (.getfield 227, 134, []), (.iaload, 135, []), (.i2l, 136, []), (.putfield 230, 139, []), (.aload_n 0, 140, []), (.dup, 141, []), (.getfield 224, 144, []), (.iconst 1, 145, []), (.iadd, 146, []), (.putfield 224, 149, [])]
def b_X11_next_149 : List QE := [(.aload_n 0, 150, []), (.getfield 239, 153, []), (.iconst 1, 154, []), (.if_icmp .ne 89, 157, [(0, 243)])]
def b_X11_next_157 : List QE := [(.aload_n 0, 158, []), (.getfield 224, 161, []), (.aload_n 0, 162, []), (.getfield 218, 165, []), (.if_icmp .ge 78, 168, [(0, 243)])]
def b_X11_next_168 : List QE := [(.aload_n 0, 169, []), (.getfield 76, 172, []), (.aload_n 0, 173, []), (.getfield 224, 176, []), (.iaload, 177, []), (.invokestatic 233, 180, []), (.ifCond .eq 63, 183, [(0, 243)])]
def b_X11_next_183 : List QE := [(.aload_n 0, 184, []), (.aload_n 0, 185, []), (.getfield 224, 188, []), (.aload_n 0, 189, []), (.getfield 227, 192, []), (.isub, 193, []), (.bipush 6, 195, []), (.if_icmp .ge 29, 198, [(0, 224)])]
def b_X11_next_198 : List QE := [(.aload_n 0, 199, []), (.getfield 230, 202, []), (.ldc2_w 242, 205, []), (.lmul, 206, []), (.aload_n 0, 207, []), (.getfield 76, 210, []), (.aload_n 0, 211, []), (.getfield 224, 214, []), (.iaload, 215, []), (.i2l, 216, []), (.ladd, 217, []), (.ldc2_w 244, 220, []), (.lsub, 221, []), (.goto 6, 224, [(0, 227)])]
def b_X11_next_224 : List QE := [(.ldc2_w 204, 227, [])]
def b_X11_next_227 : List QE := [(.putfield 230, 230, []), (.aload_n 0, 231, []), (.dup, 232, []), (.getfield 224, 235, []), (.iconst 1, 236, []), (.iadd, 237, []), (.putfield 224, 240, []), (.goto (-91), 243, [(0, 149)])]
def b_X11_next_243 : List QE := [(.aload_n 0, 244, []), (.getfield 239, 247, []), (.iconst 2, 248, []), (.if_icmp .ne 87, 251, [(0, 335)])]
def b_X11_next_251 : List QE := [(.aload_n 0, 252, []), (.getfield 224, 255, []), (.aload_n 0, 256, []), (.getfield 218, 259, []), (.if_icmp .ge 76, 262, [(0, 335)])]
def b_X11_next_262 : List QE := [(.aload_n 0, 263, []), (.getfield 76, 266, []), (.aload_n 0, 267, []), (.getfield 224, 270, []), (.iaload, 271, []), (.invokestatic 236, 274, []), (.ifCond .eq 61, 277, [(0, 335)])]
def b_X11_next_277 : List QE := [(.aload_n 0, 278, []), (.aload_n 0, 279, []), (.getfield 230, 282, []), (.ldc2_w 111, 285, []), (.lcmp, 286, []), (.ifCond .le 10, 289, [(0, 296)])]
def b_X11_next_289 : List QE := [(.aload_n 0, 290, []), (.getfield 230, 293, []), (.goto 26, 296, [(0, 319)])]
def b_X11_next_296 : List QE := [(.aload_n 0, 297, []), (.getfield 230, 300, []), (.ldc2_w 246, 303, []), (.lmul, 304, []), (.aload_n 0, 305, []), (.getfield 76, 308, []), (.aload_n 0, 309, []), (.getfield 224, 312, []), (.iaload, 313, []), (.i2l, 314, []), (.ladd, 315, []), (.ldc2_w 248, 318, []), (.lsub, 319, [])]
def b_X11_next_319 : List QE := [(.putfield 230, 322, []), (.aload_n 0, 323, []), (.dup, 324, []), (.getfield 224, 327, []), (.iconst 1, 328, []), (.iadd, 329, []), (.putfield 224, 332, []), (.goto (-89), 335, [(0, 243)])]
def b_X11_next_335 : List QE := [(.return_, 336, [])]
def L_X11_next : List (Nat × Option (List QE)) := [(0, some b_X11_next_0), (8, none), (19, some b_X11_next_19), (33, some b_X11_next_33), (46, some b_X11_next_46), (71, some b_X11_next_71), (75, some b_X11_next_75), (90, some b_X11_next_90), (94, some b_X11_next_94), (109, some b_X11_next_109), (113, some b_X11_next_113), (114, some b_X11_next_114), (125, some b_X11_next_125), (149, none), (157, some b_X11_next_157), (168, some b_X11_next_168), (183, some b_X11_next_183), (198, some b_X11_next_198), (224, some b_X11_next_224), (227, some b_X11_next_227), (243, none), (251, some b_X11_next_251), (262, some b_X11_next_262), (277, some b_X11_next_277), (289, some b_X11_next_289), (296, some b_X11_next_296), (319, some b_X11_next_319), (335, some b_X11_next_335)]
def s_X11_next : Nat → Option (List QE) := q_look L_X11_next
theorem s_X11_next_0 : s_X11_next 0 = some b_X11_next_0 := id rfl
theorem s_X11_next_8 : s_X11_next 8 = none := id rfl
theorem s_X11_next_19 : s_X11_next 19 = some b_X11_next_19 := id rfl
theorem s_X11_next_33 : s_X11_next 33 = some b_X11_next_33 := id rfl
theorem s_X11_next_46 : s_X11_next 46 = some b_X11_next_46 := id rfl
theorem s_X11_next_71 : s_X11_next 71 = some b_X11_next_71 := id rfl
theorem s_X11_next_75 : s_X11_next 75 = some b_X11_next_75 := id rfl
theorem s_X11_next_90 : s_X11_next 90 = some b_X11_next_90 := id rfl
theorem s_X11_next_94 : s_X11_next 94 = some b_X11_next_94 := id rfl
theorem s_X11_next_109 : s_X11_next 109 = some b_X11_next_109 := id rfl
theorem s_X11_next_113 : s_X11_next 113 = some b_X11_next_113 := id rfl
theorem s_X11_next_114 : s_X11_next 114 = some b_X11_next_114 := id rfl
theorem s_X11_next_125 : s_X11_next 125 = some b_X11_next_125 := id rfl
theorem s_X11_next_149 : s_X11_next 149 = none := id rfl
theorem s_X11_next_157 : s_X11_next 157 = some b_X11_next_157 := id rfl
theorem s_X11_next_168 : s_X11_next 168 = some b_X11_next_168 := id rfl
theorem s_X11_next_183 : s_X11_next 183 = some b_X11_next_183 := id rfl
theorem s_X11_next_198 : s_X11_next 198 = some b_X11_next_198 := id rfl
theorem s_X11_next_224 : s_X11_next 224 = some b_X11_next_224 := id rfl
theorem s_X11_next_227 : s_X11_next 227 = some b_X11_next_227 := id rfl
theorem s_X11_next_243 : s_X11_next 243 = none := id rfl
theorem s_X11_next_251 : s_X11_next 251 = some b_X11_next_251 := id rfl
theorem s_X11_next_262 : s_X11_next 262 = some b_X11_next_262 := id rfl
theorem s_X11_next_277 : s_X11_next 277 = some b_X11_next_277 := id rfl
theorem s_X11_next_289 : s_X11_next 289 = some b_X11_next_289 := id rfl
theorem s_X11_next_296 : s_X11_next 296 = some b_X11_next_296 := id rfl
theorem s_X11_next_319 : s_X11_next 319 = some b_X11_next_319 := id rfl
theorem s_X11_next_335 : s_X11_next 335 = some b_X11_next_335 := id rfl
def u_X11_next : QU := ([224, 227, 218, 76, 230, 239], [227, 224, 230, 239], [242, 244, 204, 111, 246, 248], [], [], [233, 236], [])
theorem o_X11_next : q_skok cX11_next 1 u_X11_next L_X11_next = true := by decide +kernel
theorem o_X11_next_8 : q_ok cX11_next 1 u_X11_next 8 b_X11_next_8 = true := by decide +kernel
theorem o_X11_next_243 : q_ok cX11_next 1 u_X11_next 243 b_X11_next_243 = true := by decide +kernel
theorem o_X11_next_149 : q_ok cX11_next 1 u_X11_next 149 b_X11_next_149 = true := by decide +kernel
theorem k_X11_next : q_chk RX11 fl_X11 ld_X11 u_X11_next = true := by decide +kernel
def b_X11_isWord_0 : List QE := [(.iload_n 1, 1, []), (.i2l, 2, []), (.ldc2_w 244, 5, []), (.lsub, 6, []), (.ldc2_w 242, 9, []), (.lmul, 10, []), (.iload_n 2, 11, []), (.i2l, 12, []), (.ladd, 13, []), (.ldc2_w 244, 16, []), (.lsub, 17, []), (.lstore 6, 19, []), (.iload_n 3, 20, []), (.ifCond .ne 8, 23, [(0, 28)])]
def b_X11_isWord_23 : List QE := [(.lload 6, 25, []), (.goto 16, 28, [(0, 41)])]
def b_X11_isWord_28 : List QE := [(.lload 6, 30, []), (.ldc2_w 242, 33, []), (.lmul, 34, []), (.iload_n 3, 35, []), (.i2l, 36, []), (.ladd, 37, []), (.ldc2_w 244, 40, []), (.lsub, 41, [])]
def b_X11_isWord_41 : List QE := [(.lstore 6, 43, []), (.iload 4, 45, []), (.ifCond .ne 8, 48, [(0, 53)])]
def b_X11_isWord_48 : List QE := [(.lload 6, 50, []), (.goto 17, 53, [(0, 67)])]
def b_X11_isWord_53 : List QE := [(.lload 6, 55, []), (.ldc2_w 242, 58, []), (.lmul, 59, []), (.iload 4, 61, []), (.i2l, 62, []), (.ladd, 63, []), (.ldc2_w 244, 66, []), (.lsub, 67, [])]
def b_X11_isWord_67 : List QE := [(.lstore 6, 69, []), (.iload 5, 71, []), (.ifCond .ne 8, 74, [(0, 79)])]
def b_X11_isWord_74 : List QE := [(.lload 6, 76, []), (.goto 17, 79, [(0, 93)])]
def b_X11_isWord_79 : List QE := [(.lload 6, 81, []), (.ldc2_w 242, 84, []), (.lmul, 85, []), (.iload 5, 87, []), (.i2l, 88, []), (.ladd, 89, []), (.ldc2_w 244, 92, []), (.lsub, 93, [])]
def b_X11_isWord_93 : List QE := [(.lstore 6, 95, []), (.aload_n 0, 96, []), (.getfield 239, 99, []), (.iconst 1, 100, []), (.if_icmp .ne 17, 103, [(0, 117)])]
def b_X11_isWord_103 : List QE := [(.aload_n 0, 104, []), (.getfield 230, 107, []), (.lload 6, 109, []), (.lcmp, 110, []), (.ifCond .ne 7, 113, [(0, 117)])]
def b_X11_isWord_113 : List QE := [(.iconst 1, 114, []), (.goto 4, 117, [(0, 118)])]
def b_X11_isWord_117 : List QE := [(.iconst 0, 118, [])]
def b_X11_isWord_118 : List QE := [(.ireturn, 119, [])]
def L_X11_isWord : List (Nat × Option (List QE)) := [(0, some b_X11_isWord_0), (23, some b_X11_isWord_23), (28, some b_X11_isWord_28), (41, some b_X11_isWord_41), (48, some b_X11_isWord_48), (53, some b_X11_isWord_53), (67, some b_X11_isWord_67), (74, some b_X11_isWord_74), (79, some b_X11_isWord_79), (93, some b_X11_isWord_93), (103, some b_X11_isWord_103), (113, some b_X11_isWord_113), (117, some b_X11_isWord_117), (118, some b_X11_isWord_118)]
def s_X11_isWord : Nat → Option (List QE) := q_look L_X11_isWord
theorem s_X11_isWord_0 : s_X11_isWord 0 = some b_X11_isWord_0 := id rfl
theorem s_X11_isWord_23 : s_X11_isWord 23 = some b_X11_isWord_23 := id rfl
theorem s_X11_isWord_28 : s_X11_isWord 28 = some b_X11_isWord_28 := id rfl
theorem s_X11_isWord_41 : s_X11_isWord 41 = some b_X11_isWord_41 := id rfl
theorem s_X11_isWord_48 : s_X11_isWord 48 = some b_X11_isWord_48 := id rfl
theorem s_X11_isWord_53 : s_X11_isWord 53 = some b_X11_isWord_53 := id rfl
theorem s_X11_isWord_67 : s_X11_isWord 67 = some b_X11_isWord_67 := id rfl
theorem s_X11_isWord_74 : s_X11_isWord 74 = some b_X11_isWord_74 := id rfl
theorem s_X11_isWord_79 : s_X11_isWord 79 = some b_X11_isWord_79 := id rfl
theorem s_X11_isWord_93 : s_X11_isWord 93 = some b_X11_isWord_93 := id rfl
theorem s_X11_isWord_103 : s_X11_isWord 103 = some b_X11_isWord_103 := id rfl
theorem s_X11_isWord_113 : s_X11_isWord 113 = some b_X11_isWord_113 := id rfl
theorem s_X11_isWord_117 : s_X11_isWord 117 = some b_X11_isWord_117 := id rfl
theorem s_X11_isWord_118 : s_X11_isWord 118 = some b_X11_isWord_118 := id rfl
def u_X11_isWord : QU := ([239, 230], [], [244, 242], [], [], [], [])
theorem o_X11_isWord : q_skok cX11_isWord 8 u_X11_isWord L_X11_isWord = true := by decide +kernel
theorem k_X11_isWord : q_chk RX11 fl_X11 ld_X11 u_X11_isWord = true := by decide +kernel
def b_X11_isSign_0 : List QE := [(.aload_n 0, 1, []), (.getfield 239, 4, []), (.iconst 3, 5, []), (.if_icmp .ne 17, 8, [(0, 22)])]
def b_X11_isSign_8 : List QE := [(.aload_n 0, 9, []), (.getfield 230, 12, []), (.iload_n 1, 13, []), (.i2l, 14, []), (.lcmp, 15, []), (.ifCond .ne 7, 18, [(0, 22)])]
def b_X11_isSign_18 : List QE := [(.iconst 1, 19, []), (.goto 4, 22, [(0, 23)])]
def b_X11_isSign_22 : List QE := [(.iconst 0, 23, [])]
def b_X11_isSign_23 : List QE := [(.ireturn, 24, [])]
def L_X11_isSign : List (Nat × Option (List QE)) := [(0, some b_X11_isSign_0), (8, some b_X11_isSign_8), (18, some b_X11_isSign_18), (22, some b_X11_isSign_22), (23, some b_X11_isSign_23)]
def s_X11_isSign : Nat → Option (List QE) := q_look L_X11_isSign
theorem s_X11_isSign_0 : s_X11_isSign 0 = some b_X11_isSign_0 := id rfl
theorem s_X11_isSign_8 : s_X11_isSign 8 = some b_X11_isSign_8 := id rfl
theorem s_X11_isSign_18 : s_X11_isSign 18 = some b_X11_isSign_18 := id rfl
theorem s_X11_isSign_22 : s_X11_isSign 22 = some b_X11_isSign_22 := id rfl
theorem s_X11_isSign_23 : s_X11_isSign 23 = some b_X11_isSign_23 := id rfl
def u_X11_isSign : QU := ([239, 230], [], [], [], [], [], [])
theorem o_X11_isSign : q_skok cX11_isSign 2 u_X11_isSign L_X11_isSign = true := by decide +kernel
theorem k_X11_isSign : q_chk RX11 fl_X11 ld_X11 u_X11_isSign = true := by decide +kernel
def b_X11_must_0 : List QE := [(.aload_n 0, 1, []), (.getfield 250, 4, []), (.ifCond .ne 20, 7, [(0, 24)])]
def b_X11_must_7 : List QE := [(.iload_n 1, 8, []), (.ifCond .ne 16, 11, [(0, 24)])]
def b_X11_must_11 : List QE := [(.aload_n 0, 12, []), (.iconst 1, 13, []), (.putfield 250, 16, []), (.aload_n 0, 17, []), (.aload_n 0, 18, []), (.getfield 227, 21, []), (.putfield 79, 24, [])]
def b_X11_must_24 : List QE := [(.aload_n 0, 25, []), (.getfield 250, 28, []), (.ifCond .ne 7, 31, [(0, 35)])]
def b_X11_must_31 : List QE := [(.aload_n 0, 32, []), (.invokevirtual 254, 35, [])]
def b_X11_must_35 : List QE := [(.return_, 36, [])]
def L_X11_must : List (Nat × Option (List QE)) := [(0, some b_X11_must_0), (7, some b_X11_must_7), (11, some b_X11_must_11), (24, some b_X11_must_24), (31, some b_X11_must_31), (35, some b_X11_must_35)]
def s_X11_must : Nat → Option (List QE) := q_look L_X11_must
theorem s_X11_must_0 : s_X11_must 0 = some b_X11_must_0 := id rfl
theorem s_X11_must_7 : s_X11_must 7 = some b_X11_must_7 := id rfl
theorem s_X11_must_11 : s_X11_must 11 = some b_X11_must_11 := id rfl
theorem s_X11_must_24 : s_X11_must 24 = some b_X11_must_24 := id rfl
theorem s_X11_must_31 : s_X11_must 31 = some b_X11_must_31 := id rfl
theorem s_X11_must_35 : s_X11_must 35 = some b_X11_must_35 := id rfl
def u_X11_must : QU := ([250, 227, 79], [250, 79], [], [], [254], [], [])
theorem o_X11_must : q_skok cX11_must 2 u_X11_must L_X11_must = true := by decide +kernel
theorem k_X11_must : q_chk RX11 fl_X11 ld_X11 u_X11_must = true := by decide +kernel
def b_X11_number_0 : List QE := [(.aload_n 0, 1, []), (.getfield 230, 4, []), (.l2i, 5, []), (.istore 5, 7, []), (.aload_n 0, 8, []), (.aload_n 0, 9, []), (.getfield 239, 12, []), (.iconst 2, 13, []), (.if_icmp .ne 19, 16, [(0, 32)])]
def b_X11_number_16 : List QE := [(.aload_n 0, 17, []), (.getfield 230, 20, []), (.lload_n 1, 21, []), (.lload_n 3, 22, []), (.invokestatic 95, 25, []), (.ifCond .eq 7, 28, [(0, 32)])]
def b_X11_number_28 : List QE := [(.iconst 1, 29, []), (.goto 4, 32, [(0, 33)])]
def b_X11_number_32 : List QE := [(.iconst 0, 33, [])]
def b_X11_number_33 : List QE := [(.invokevirtual 257, 36, []), (.iload 5, 38, []), (.ireturn, 39, [])]
def L_X11_number : List (Nat × Option (List QE)) := [(0, some b_X11_number_0), (16, some b_X11_number_16), (28, some b_X11_number_28), (32, some b_X11_number_32), (33, some b_X11_number_33)]
def s_X11_number : Nat → Option (List QE) := q_look L_X11_number
theorem s_X11_number_0 : s_X11_number 0 = some b_X11_number_0 := id rfl
theorem s_X11_number_16 : s_X11_number 16 = some b_X11_number_16 := id rfl
theorem s_X11_number_28 : s_X11_number 28 = some b_X11_number_28 := id rfl
theorem s_X11_number_32 : s_X11_number 32 = some b_X11_number_32 := id rfl
theorem s_X11_number_33 : s_X11_number 33 = some b_X11_number_33 := id rfl
def u_X11_number : QU := ([230, 239], [], [], [], [257], [95], [])
theorem o_X11_number : q_skok cX11_number 6 u_X11_number L_X11_number = true := by decide +kernel
theorem k_X11_number : q_chk RX11 fl_X11 ld_X11 u_X11_number = true := by decide +kernel
def b_X11_isName_0 : List QE := [(.aload_n 0, 1, []), (.getfield 239, 4, []), (.iconst 1, 5, []), (.if_icmp .ne 20, 8, [(0, 25)])]
def b_X11_isName_8 : List QE := [(.aload_n 0, 9, []), (.getfield 224, 12, []), (.aload_n 0, 13, []), (.getfield 227, 16, []), (.isub, 17, []), (.iconst 1, 18, []), (.if_icmp .ne 7, 21, [(0, 25)])]
def b_X11_isName_21 : List QE := [(.iconst 1, 22, []), (.goto 4, 25, [(0, 26)])]
def b_X11_isName_25 : List QE := [(.iconst 0, 26, [])]
def b_X11_isName_26 : List QE := [(.ireturn, 27, [])]
def L_X11_isName : List (Nat × Option (List QE)) := [(0, some b_X11_isName_0), (8, some b_X11_isName_8), (21, some b_X11_isName_21), (25, some b_X11_isName_25), (26, some b_X11_isName_26)]
def s_X11_isName : Nat → Option (List QE) := q_look L_X11_isName
theorem s_X11_isName_0 : s_X11_isName 0 = some b_X11_isName_0 := id rfl
theorem s_X11_isName_8 : s_X11_isName 8 = some b_X11_isName_8 := id rfl
theorem s_X11_isName_21 : s_X11_isName 21 = some b_X11_isName_21 := id rfl
theorem s_X11_isName_25 : s_X11_isName 25 = some b_X11_isName_25 := id rfl
theorem s_X11_isName_26 : s_X11_isName 26 = some b_X11_isName_26 := id rfl
def u_X11_isName : QU := ([239, 224, 227], [], [], [], [], [], [])
theorem o_X11_isName : q_skok cX11_isName 1 u_X11_isName L_X11_isName = true := by decide +kernel
theorem k_X11_isName : q_chk RX11 fl_X11 ld_X11 u_X11_isName = true := by decide +kernel
def b_X11_name_0 : List QE := [(.aload_n 0, 1, []), (.invokevirtual 261, 4, []), (.ifCond .eq 23, 7, [(0, 27)])]
def b_X11_name_7 : List QE := [(.aload_n 0, 8, []), (.getfield 73, 11, []), (.aload_n 0, 12, []), (.getfield 76, 15, []), (.aload_n 0, 16, []), (.getfield 227, 19, []), (.iaload, 20, []), (.bipush 97, 22, []), (.isub, 23, []), (.iaload, 24, []), (.goto 4, 27, [(0, 28)])]
def b_X11_name_27 : List QE := [(.iconst (-1), 28, [])]
def b_X11_name_28 : List QE := [(.istore_n 3, 29, []), (.aload_n 0, 30, []), (.iload_n 3, 31, []), (.iconst (-1), 32, []), (.if_icmp .eq 7, 35, [(0, 39)])]
def b_X11_name_35 : List QE := [(.iconst 1, 36, []), (.goto 4, 39, [(0, 40)])]
def b_X11_name_39 : List QE := [(.iconst 0, 40, [])]
def b_X11_name_40 : List QE := [(.invokevirtual 257, 43, []), (.aload_n 0, 44, []), (.getfield 250, 47, []), (.ifCond .ne 23, 50, [(0, 70)])]
def b_X11_name_50 : List QE := [(.aload_n 0, 51, []), (.getfield 67, 54, []), (.iconst 3, 55, []), (.iload_n 1, 56, []), (.imul, 57, []), (.iload_n 2, 58, []), (.iadd, 59, []), (.iload_n 3, 60, []), (.iastore, 61, []), (.aload_n 0, 62, []), (.getfield 70, 65, []), (.iload_n 1, 66, []), (.iload_n 2, 67, []), (.iconst 1, 68, []), (.iadd, 69, []), (.iastore, 70, [])]
def b_X11_name_70 : List QE := [(.return_, 71, [])]
def L_X11_name : List (Nat × Option (List QE)) := [(0, some b_X11_name_0), (7, some b_X11_name_7), (27, some b_X11_name_27), (28, some b_X11_name_28), (35, some b_X11_name_35), (39, some b_X11_name_39), (40, some b_X11_name_40), (50, some b_X11_name_50), (70, some b_X11_name_70)]
def s_X11_name : Nat → Option (List QE) := q_look L_X11_name
theorem s_X11_name_0 : s_X11_name 0 = some b_X11_name_0 := id rfl
theorem s_X11_name_7 : s_X11_name 7 = some b_X11_name_7 := id rfl
theorem s_X11_name_27 : s_X11_name 27 = some b_X11_name_27 := id rfl
theorem s_X11_name_28 : s_X11_name 28 = some b_X11_name_28 := id rfl
theorem s_X11_name_35 : s_X11_name 35 = some b_X11_name_35 := id rfl
theorem s_X11_name_39 : s_X11_name 39 = some b_X11_name_39 := id rfl
theorem s_X11_name_40 : s_X11_name 40 = some b_X11_name_40 := id rfl
theorem s_X11_name_50 : s_X11_name 50 = some b_X11_name_50 := id rfl
theorem s_X11_name_70 : s_X11_name 70 = some b_X11_name_70 := id rfl
def u_X11_name : QU := ([73, 76, 227, 250, 67, 70], [], [], [], [261, 257], [], [])
theorem o_X11_name : q_skok cX11_name 4 u_X11_name L_X11_name = true := by decide +kernel
theorem k_X11_name : q_chk RX11 fl_X11 ld_X11 u_X11_name = true := by decide +kernel
def b_X11_kindAt_0 : List QE := [(.aload_n 0, 1, []), (.bipush 115, 3, []), (.bipush 104, 5, []), (.bipush 101, 7, []), (.bipush 101, 9, []), (.bipush 116, 11, []), (.invokevirtual 265, 14, []), (.ifCond .ne 34, 17, [(0, 48)])]
def b_X11_kindAt_17 : List QE := [(.aload_n 0, 18, []), (.bipush 97, 20, []), (.bipush 100, 22, []), (.bipush 100, 24, []), (.iconst 0, 25, []), (.iconst 0, 26, []), (.invokevirtual 265, 29, []), (.ifCond .ne 19, 32, [(0, 48)])]
def b_X11_kindAt_32 : List QE := [(.aload_n 0, 33, []), (.bipush 108, 35, []), (.bipush 101, 37, []), (.bipush 115, 39, []), (.bipush 115, 41, []), (.iconst 0, 42, []), (.invokevirtual 265, 45, []), (.ifCond .eq 45, 48, [(0, 90)])]
def b_X11_kindAt_48 : List QE := [(.aload_n 0, 49, []), (.bipush 115, 51, []), (.bipush 104, 53, []), (.bipush 101, 55, []), (.bipush 101, 57, []), (.bipush 116, 59, []), (.invokevirtual 265, 62, []), (.ifCond .eq 7, 65, [(0, 69)])]
def b_X11_kindAt_65 : List QE := [(.iconst 0, 66, []), (.goto 23, 69, [(0, 89)])]
def b_X11_kindAt_69 : List QE := [(.aload_n 0, 70, []), (.bipush 97, 72, []), (.bipush 100, 74, []), (.bipush 100, 76, []), (.iconst 0, 77, []), (.iconst 0, 78, []), (.invokevirtual 265, 81, []), (.ifCond .eq 7, 84, [(0, 88)])]
def b_X11_kindAt_84 : List QE := [(.iconst 1, 85, []), (.goto 4, 88, [(0, 89)])]
def b_X11_kindAt_88 : List QE := [(.iconst 2, 89, [])]
def b_X11_kindAt_89 : List QE := [(.ireturn, 90, [])]
def b_X11_kindAt_90 : List QE := [(.aload_n 0, 91, []), (.bipush 116, 93, []), (.bipush 105, 95, []), (.bipush 109, 97, []), (.bipush 101, 99, []), (.bipush 115, 101, []), (.invokevirtual 265, 104, []), (.ifCond .ne 36, 107, [(0, 140)])]
def b_X11_kindAt_107 : List QE := [(.aload_n 0, 108, []), (.bipush 108, 110, []), (.bipush 101, 112, []), (.bipush 97, 114, []), (.bipush 115, 116, []), (.bipush 116, 118, []), (.invokevirtual 265, 121, []), (.ifCond .ne 19, 124, [(0, 140)])]
def b_X11_kindAt_124 : List QE := [(.aload_n 0, 125, []), (.bipush 109, 127, []), (.bipush 111, 129, []), (.bipush 115, 131, []), (.bipush 116, 133, []), (.iconst 0, 134, []), (.invokevirtual 265, 137, []), (.ifCond .eq 46, 140, [(0, 183)])]
def b_X11_kindAt_140 : List QE := [(.aload_n 0, 141, []), (.bipush 116, 143, []), (.bipush 105, 145, []), (.bipush 109, 147, []), (.bipush 101, 149, []), (.bipush 115, 151, []), (.invokevirtual 265, 154, []), (.ifCond .eq 7, 157, [(0, 161)])]
def b_X11_kindAt_157 : List QE := [(.iconst 3, 158, []), (.goto 24, 161, [(0, 182)])]
def b_X11_kindAt_161 : List QE := [(.aload_n 0, 162, []), (.bipush 109, 164, []), (.bipush 111, 166, []), (.bipush 115, 168, []), (.bipush 116, 170, []), (.iconst 0, 171, []), (.invokevirtual 265, 174, []), (.ifCond .eq 7, 177, [(0, 181)])]
def b_X11_kindAt_177 : List QE := [(.iconst 5, 178, []), (.goto 4, 181, [(0, 182)])]
def b_X11_kindAt_181 : List QE := [(.iconst 4, 182, [])]
def b_X11_kindAt_182 : List QE := [(.ireturn, 183, [])]
def b_X11_kindAt_183 : List QE := [(.aload_n 0, 184, []), (.bipush 119, 186, []), (.bipush 104, 188, []), (.bipush 101, 190, []), (.bipush 114, 192, []), (.bipush 101, 194, []), (.invokevirtual 265, 197, []), (.ifCond .ne 32, 200, [(0, 229)])]
def b_X11_kindAt_200 : List QE := [(.aload_n 0, 201, []), (.bipush 119, 203, []), (.bipush 97, 205, []), (.bipush 121, 207, []), (.iconst 0, 208, []), (.iconst 0, 209, []), (.invokevirtual 265, 212, []), (.ifCond .ne 17, 215, [(0, 229)])]
def b_X11_kindAt_215 : List QE := [(.aload_n 0, 216, []), (.bipush 105, 218, []), (.bipush 102, 220, []), (.iconst 0, 221, []), (.iconst 0, 222, []), (.iconst 0, 223, []), (.invokevirtual 265, 226, []), (.ifCond .eq 48, 229, [(0, 274)])]
def b_X11_kindAt_229 : List QE := [(.aload_n 0, 230, []), (.bipush 119, 232, []), (.bipush 104, 234, []), (.bipush 101, 236, []), (.bipush 114, 238, []), (.bipush 101, 240, []), (.invokevirtual 265, 243, []), (.ifCond .eq 8, 246, [(0, 251)])]
def b_X11_kindAt_246 : List QE := [(.bipush 6, 248, []), (.goto 25, 251, [(0, 273)])]
def b_X11_kindAt_251 : List QE := [(.aload_n 0, 252, []), (.bipush 119, 254, []), (.bipush 97, 256, []), (.bipush 121, 258, []), (.iconst 0, 259, []), (.iconst 0, 260, []), (.invokevirtual 265, 263, []), (.ifCond .eq 8, 266, [(0, 271)])]
def b_X11_kindAt_266 : List QE := [(.bipush 7, 268, []), (.goto 5, 271, [(0, 273)])]
def b_X11_kindAt_271 : List QE := [(.bipush 8, 273, [])]
def b_X11_kindAt_273 : List QE := [(.ireturn, 274, [])]
def b_X11_kindAt_274 : List QE := [(.aload_n 0, 275, []), (.bipush 102, 277, []), (.bipush 105, 279, []), (.bipush 108, 281, []), (.bipush 108, 283, []), (.iconst 0, 284, []), (.invokevirtual 265, 287, []), (.ifCond .ne 19, 290, [(0, 306)])]
def b_X11_kindAt_290 : List QE := [(.aload_n 0, 291, []), (.bipush 110, 293, []), (.bipush 101, 295, []), (.bipush 97, 297, []), (.bipush 114, 299, []), (.iconst 0, 300, []), (.invokevirtual 265, 303, []), (.ifCond .eq 27, 306, [(0, 330)])]
def b_X11_kindAt_306 : List QE := [(.aload_n 0, 307, []), (.bipush 102, 309, []), (.bipush 105, 311, []), (.bipush 108, 313, []), (.bipush 108, 315, []), (.iconst 0, 316, []), (.invokevirtual 265, 319, []), (.ifCond .eq 8, 322, [(0, 327)])]
def b_X11_kindAt_322 : List QE := [(.bipush 9, 324, []), (.goto 5, 327, [(0, 329)])]
def b_X11_kindAt_327 : List QE := [(.bipush 10, 329, [])]
def b_X11_kindAt_329 : List QE := [(.ireturn, 330, [])]
def b_X11_kindAt_330 : List QE := [(.aload_n 0, 331, []), (.bipush 122, 333, []), (.bipush 111, 335, []), (.bipush 110, 337, []), (.bipush 101, 339, []), (.iconst 0, 340, []), (.invokevirtual 265, 343, []), (.ifCond .eq 8, 346, [(0, 351)])]
def b_X11_kindAt_346 : List QE := [(.bipush 11, 348, []), (.goto 25, 351, [(0, 373)])]
def b_X11_kindAt_351 : List QE := [(.aload_n 0, 352, []), (.bipush 102, 354, []), (.bipush 108, 356, []), (.bipush 111, 358, []), (.bipush 119, 360, []), (.iconst 0, 361, []), (.invokevirtual 265, 364, []), (.ifCond .eq 8, 367, [(0, 372)])]
def b_X11_kindAt_367 : List QE := [(.bipush 12, 369, []), (.goto 4, 372, [(0, 373)])]
def b_X11_kindAt_372 : List QE := [(.iconst (-1), 373, [])]
def b_X11_kindAt_373 : List QE := [(.ireturn, 374, [])]
def L_X11_kindAt : List (Nat × Option (List QE)) := [(0, some b_X11_kindAt_0), (17, some b_X11_kindAt_17), (32, some b_X11_kindAt_32), (48, some b_X11_kindAt_48), (65, some b_X11_kindAt_65), (69, some b_X11_kindAt_69), (84, some b_X11_kindAt_84), (88, some b_X11_kindAt_88), (89, some b_X11_kindAt_89), (90, some b_X11_kindAt_90), (107, some b_X11_kindAt_107), (124, some b_X11_kindAt_124), (140, some b_X11_kindAt_140), (157, some b_X11_kindAt_157), (161, some b_X11_kindAt_161), (177, some b_X11_kindAt_177), (181, some b_X11_kindAt_181), (182, some b_X11_kindAt_182), (183, some b_X11_kindAt_183), (200, some b_X11_kindAt_200), (215, some b_X11_kindAt_215), (229, some b_X11_kindAt_229), (246, some b_X11_kindAt_246), (251, some b_X11_kindAt_251), (266, some b_X11_kindAt_266), (271, some b_X11_kindAt_271), (273, some b_X11_kindAt_273), (274, some b_X11_kindAt_274), (290, some b_X11_kindAt_290), (306, some b_X11_kindAt_306), (322, some b_X11_kindAt_322), (327, some b_X11_kindAt_327), (329, some b_X11_kindAt_329), (330, some b_X11_kindAt_330), (346, some b_X11_kindAt_346), (351, some b_X11_kindAt_351), (367, some b_X11_kindAt_367), (372, some b_X11_kindAt_372), (373, some b_X11_kindAt_373)]
def s_X11_kindAt : Nat → Option (List QE) := q_look L_X11_kindAt
theorem s_X11_kindAt_0 : s_X11_kindAt 0 = some b_X11_kindAt_0 := id rfl
theorem s_X11_kindAt_17 : s_X11_kindAt 17 = some b_X11_kindAt_17 := id rfl
theorem s_X11_kindAt_32 : s_X11_kindAt 32 = some b_X11_kindAt_32 := id rfl
theorem s_X11_kindAt_48 : s_X11_kindAt 48 = some b_X11_kindAt_48 := id rfl
theorem s_X11_kindAt_65 : s_X11_kindAt 65 = some b_X11_kindAt_65 := id rfl
theorem s_X11_kindAt_69 : s_X11_kindAt 69 = some b_X11_kindAt_69 := id rfl
theorem s_X11_kindAt_84 : s_X11_kindAt 84 = some b_X11_kindAt_84 := id rfl
theorem s_X11_kindAt_88 : s_X11_kindAt 88 = some b_X11_kindAt_88 := id rfl
theorem s_X11_kindAt_89 : s_X11_kindAt 89 = some b_X11_kindAt_89 := id rfl
theorem s_X11_kindAt_90 : s_X11_kindAt 90 = some b_X11_kindAt_90 := id rfl
theorem s_X11_kindAt_107 : s_X11_kindAt 107 = some b_X11_kindAt_107 := id rfl
theorem s_X11_kindAt_124 : s_X11_kindAt 124 = some b_X11_kindAt_124 := id rfl
theorem s_X11_kindAt_140 : s_X11_kindAt 140 = some b_X11_kindAt_140 := id rfl
theorem s_X11_kindAt_157 : s_X11_kindAt 157 = some b_X11_kindAt_157 := id rfl
theorem s_X11_kindAt_161 : s_X11_kindAt 161 = some b_X11_kindAt_161 := id rfl
theorem s_X11_kindAt_177 : s_X11_kindAt 177 = some b_X11_kindAt_177 := id rfl
theorem s_X11_kindAt_181 : s_X11_kindAt 181 = some b_X11_kindAt_181 := id rfl
theorem s_X11_kindAt_182 : s_X11_kindAt 182 = some b_X11_kindAt_182 := id rfl
theorem s_X11_kindAt_183 : s_X11_kindAt 183 = some b_X11_kindAt_183 := id rfl
theorem s_X11_kindAt_200 : s_X11_kindAt 200 = some b_X11_kindAt_200 := id rfl
theorem s_X11_kindAt_215 : s_X11_kindAt 215 = some b_X11_kindAt_215 := id rfl
theorem s_X11_kindAt_229 : s_X11_kindAt 229 = some b_X11_kindAt_229 := id rfl
theorem s_X11_kindAt_246 : s_X11_kindAt 246 = some b_X11_kindAt_246 := id rfl
theorem s_X11_kindAt_251 : s_X11_kindAt 251 = some b_X11_kindAt_251 := id rfl
theorem s_X11_kindAt_266 : s_X11_kindAt 266 = some b_X11_kindAt_266 := id rfl
theorem s_X11_kindAt_271 : s_X11_kindAt 271 = some b_X11_kindAt_271 := id rfl
theorem s_X11_kindAt_273 : s_X11_kindAt 273 = some b_X11_kindAt_273 := id rfl
theorem s_X11_kindAt_274 : s_X11_kindAt 274 = some b_X11_kindAt_274 := id rfl
theorem s_X11_kindAt_290 : s_X11_kindAt 290 = some b_X11_kindAt_290 := id rfl
theorem s_X11_kindAt_306 : s_X11_kindAt 306 = some b_X11_kindAt_306 := id rfl
theorem s_X11_kindAt_322 : s_X11_kindAt 322 = some b_X11_kindAt_322 := id rfl
theorem s_X11_kindAt_327 : s_X11_kindAt 327 = some b_X11_kindAt_327 := id rfl
theorem s_X11_kindAt_329 : s_X11_kindAt 329 = some b_X11_kindAt_329 := id rfl
theorem s_X11_kindAt_330 : s_X11_kindAt 330 = some b_X11_kindAt_330 := id rfl
theorem s_X11_kindAt_346 : s_X11_kindAt 346 = some b_X11_kindAt_346 := id rfl
theorem s_X11_kindAt_351 : s_X11_kindAt 351 = some b_X11_kindAt_351 := id rfl
theorem s_X11_kindAt_367 : s_X11_kindAt 367 = some b_X11_kindAt_367 := id rfl
theorem s_X11_kindAt_372 : s_X11_kindAt 372 = some b_X11_kindAt_372 := id rfl
theorem s_X11_kindAt_373 : s_X11_kindAt 373 = some b_X11_kindAt_373 := id rfl
def u_X11_kindAt : QU := ([], [], [], [], [265], [], [])
theorem o_X11_kindAt : q_skok cX11_kindAt 1 u_X11_kindAt L_X11_kindAt = true := by decide +kernel
theorem k_X11_kindAt : q_chk RX11 fl_X11 ld_X11 u_X11_kindAt = true := by decide +kernel
def b_X11_how_0 : List QE := [(.aload_n 0, 1, []), (.bipush 115, 3, []), (.bipush 117, 5, []), (.bipush 109, 7, []), (.iconst 0, 8, []), (.iconst 0, 9, []), (.invokevirtual 265, 12, []), (.ifCond .eq 8, 15, [(0, 20)])]
def b_X11_how_15 : List QE := [(.bipush 13, 17, []), (.goto 67, 20, [(0, 84)])]
def b_X11_how_20 : List QE := [(.aload_n 0, 21, []), (.bipush 109, 23, []), (.bipush 111, 25, []), (.bipush 115, 27, []), (.bipush 116, 29, []), (.iconst 0, 30, []), (.invokevirtual 265, 33, []), (.ifCond .eq 7, 36, [(0, 40)])]
def b_X11_how_36 : List QE := [(.iconst 5, 37, []), (.goto 47, 40, [(0, 84)])]
def b_X11_how_40 : List QE := [(.aload_n 0, 41, []), (.bipush 108, 43, []), (.bipush 101, 45, []), (.bipush 97, 47, []), (.bipush 115, 49, []), (.bipush 116, 51, []), (.invokevirtual 265, 54, []), (.ifCond .eq 7, 57, [(0, 61)])]
def b_X11_how_57 : List QE := [(.iconst 4, 58, []), (.goto 26, 61, [(0, 84)])]
def b_X11_how_61 : List QE := [(.aload_n 0, 62, []), (.bipush 99, 64, []), (.bipush 111, 66, []), (.bipush 117, 68, []), (.bipush 110, 70, []), (.bipush 116, 72, []), (.invokevirtual 265, 75, []), (.ifCond .eq 8, 78, [(0, 83)])]
def b_X11_how_78 : List QE := [(.bipush 14, 80, []), (.goto 4, 83, [(0, 84)])]
def b_X11_how_83 : List QE := [(.iconst (-1), 84, [])]
def b_X11_how_84 : List QE := [(.istore_n 1, 85, []), (.aload_n 0, 86, []), (.iload_n 1, 87, []), (.iconst (-1), 88, []), (.if_icmp .eq 7, 91, [(0, 95)])]
def b_X11_how_91 : List QE := [(.iconst 1, 92, []), (.goto 4, 95, [(0, 96)])]
def b_X11_how_95 : List QE := [(.iconst 0, 96, [])]
def b_X11_how_96 : List QE := [(.invokevirtual 257, 99, []), (.iload_n 1, 100, []), (.ireturn, 101, [])]
def L_X11_how : List (Nat × Option (List QE)) := [(0, some b_X11_how_0), (15, some b_X11_how_15), (20, some b_X11_how_20), (36, some b_X11_how_36), (40, some b_X11_how_40), (57, some b_X11_how_57), (61, some b_X11_how_61), (78, some b_X11_how_78), (83, some b_X11_how_83), (84, some b_X11_how_84), (91, some b_X11_how_91), (95, some b_X11_how_95), (96, some b_X11_how_96)]
def s_X11_how : Nat → Option (List QE) := q_look L_X11_how
theorem s_X11_how_0 : s_X11_how 0 = some b_X11_how_0 := id rfl
theorem s_X11_how_15 : s_X11_how 15 = some b_X11_how_15 := id rfl
theorem s_X11_how_20 : s_X11_how 20 = some b_X11_how_20 := id rfl
theorem s_X11_how_36 : s_X11_how 36 = some b_X11_how_36 := id rfl
theorem s_X11_how_40 : s_X11_how 40 = some b_X11_how_40 := id rfl
theorem s_X11_how_57 : s_X11_how 57 = some b_X11_how_57 := id rfl
theorem s_X11_how_61 : s_X11_how 61 = some b_X11_how_61 := id rfl
theorem s_X11_how_78 : s_X11_how 78 = some b_X11_how_78 := id rfl
theorem s_X11_how_83 : s_X11_how 83 = some b_X11_how_83 := id rfl
theorem s_X11_how_84 : s_X11_how 84 = some b_X11_how_84 := id rfl
theorem s_X11_how_91 : s_X11_how 91 = some b_X11_how_91 := id rfl
theorem s_X11_how_95 : s_X11_how 95 = some b_X11_how_95 := id rfl
theorem s_X11_how_96 : s_X11_how 96 = some b_X11_how_96 := id rfl
def u_X11_how : QU := ([], [], [], [], [265, 257], [], [])
theorem o_X11_how : q_skok cX11_how 2 u_X11_how L_X11_how = true := by decide +kernel
theorem k_X11_how : q_chk RX11 fl_X11 ld_X11 u_X11_how = true := by decide +kernel
def b_X11_readBoard_0 : List QE := [(.aload_n 0, 1, []), (.invokevirtual 261, 4, []), (.ifCond .eq 18, 7, [(0, 22)])]
def b_X11_readBoard_7 : List QE := [(.aload_n 0, 8, []), (.getfield 76, 11, []), (.aload_n 0, 12, []), (.getfield 227, 15, []), (.iaload, 16, []), (.bipush 97, 18, []), (.isub, 19, []), (.goto 4, 22, [(0, 23)])]
def b_X11_readBoard_22 : List QE := [(.iconst (-1), 23, [])]
def b_X11_readBoard_23 : List QE := [(.istore_n 1, 24, []), (.aload_n 0, 25, []), (.iload_n 1, 26, []), (.iconst (-1), 27, []), (.if_icmp .eq 26, 30, [(0, 53)])]
def b_X11_readBoard_30 : List QE := [(.aload_n 0, 31, []), (.getfield 73, 34, []), (.iload_n 1, 35, []), (.iaload, 36, []), (.iconst (-1), 37, []), (.if_icmp .ne 16, 40, [(0, 53)])]
def b_X11_readBoard_40 : List QE := [(.aload_n 0, 41, []), (.getfield 269, 44, []), (.bipush 10, 46, []), (.if_icmp .ge 7, 49, [(0, 53)])]
def b_X11_readBoard_49 : List QE := [(.iconst 1, 50, []), (.goto 4, 53, [(0, 54)])]
def b_X11_readBoard_53 : List QE := [(.iconst 0, 54, [])]
def b_X11_readBoard_54 : List QE := [(.invokevirtual 257, 57, []), (.aload_n 0, 58, []), (.aload_n 0, 59, []), (.bipush 61, 61, []), (.invokevirtual 272, 64, []), (.invokevirtual 257, 67, []), (.aload_n 0, 68, []), (.invokevirtual 275, 71, []), (.istore_n 2, 72, []), (.aload_n 0, 73, []), (.iload_n 2, 74, []), (.iconst (-1), 75, []), (.if_icmp .eq 7, 78, [(0, 82)])]
def b_X11_readBoard_78 : List QE := [(.iconst 1, 79, []), (.goto 4, 82, [(0, 83)])]
def b_X11_readBoard_82 : List QE := [(.iconst 0, 83, [])]
def b_X11_readBoard_83 : List QE := [(.invokevirtual 257, 86, []), (.aload_n 0, 87, []), (.getfield 250, 90, []), (.ifCond .eq 4, 93, [(0, 94)])]
def b_X11_readBoard_93 : List QE := [(.return_, 94, [])]
def b_X11_readBoard_94 : List QE := [(.aload_n 0, 95, []), (.getfield 269, 98, []), (.istore_n 3, 99, []), (.aload_n 0, 100, []), (.getfield 58, 103, []), (.iload_n 3, 104, []), (.iload_n 2, 105, []), (.iastore, 106, []), (.aload_n 0, 107, []), (.getfield 70, 110, []), (.iload_n 3, 111, []), (.iconst 0, 112, []), (.iastore, 113, []), (.aload_n 0, 114, []), (.getfield 64, 117, []), (.iload_n 3, 118, []), (.iconst 0, 119, []), (.iastore, 120, []), (.aload_n 0, 121, []), (.getfield 61, 124, []), (.iload_n 3, 125, []), (.iconst (-1), 126, []), (.iastore, 127, []), (.iload_n 2, 128, []), (.ifCond .ne 20, 131, [(0, 148)])]
def b_X11_readBoard_131 : List QE := [(.aload_n 0, 132, []), (.getfield 64, 135, []), (.iload_n 3, 136, []), (.aload_n 0, 137, []), (.lconst 0, 138, []), (.ldc2_w 107, 141, []), (.invokevirtual 278, 144, []), (.iastore, 145, []), (.goto 165, 148, [(0, 310)])]
def b_X11_readBoard_148 : List QE := [(.iload_n 2, 149, []), (.bipush 10, 151, []), (.if_icmp .ne 36, 154, [(0, 187)])]
def b_X11_readBoard_154 : List QE := [(.aload_n 0, 155, []), (.getfield 64, 158, []), (.iload_n 3, 159, []), (.aload_n 0, 160, []), (.lconst 1, 161, []), (.ldc2_w 107, 164, []), (.invokevirtual 278, 167, []), (.iastore, 168, []), (.aload_n 0, 169, []), (.getfield 61, 172, []), (.iload_n 3, 173, []), (.aload_n 0, 174, []), (.invokevirtual 282, 177, []), (.iastore, 178, []), (.aload_n 0, 179, []), (.iload_n 3, 180, []), (.iconst 0, 181, []), (.invokevirtual 285, 184, []), (.goto 126, 187, [(0, 310)])]
def b_X11_readBoard_187 : List QE := [(.aload_n 0, 188, []), (.getfield 61, 191, []), (.iload_n 3, 192, []), (.iload_n 2, 193, []), (.bipush 11, 195, []), (.if_icmp .ne 10, 198, [(0, 205)])]
def b_X11_readBoard_198 : List QE := [(.aload_n 0, 199, []), (.invokevirtual 282, 202, []), (.goto 4, 205, [(0, 206)])]
def b_X11_readBoard_205 : List QE := [(.iconst (-1), 206, [])]
def b_X11_readBoard_206 : List QE := [(.iastore, 207, []), (.aload_n 0, 208, []), (.iload_n 3, 209, []), (.iconst 0, 210, []), (.invokevirtual 285, 213, []), (.iload_n 2, 214, []), (.bipush 9, 216, []), (.if_icmp .eq 15, 219, [(0, 231)])]
def b_X11_readBoard_219 : List QE := [(.iload_n 2, 220, []), (.bipush 12, 222, []), (.if_icmp .eq 9, 225, [(0, 231)])]
def b_X11_readBoard_225 : List QE := [(.aload_n 0, 226, []), (.iload_n 3, 227, []), (.iconst 1, 228, []), (.invokevirtual 285, 231, [])]
def b_X11_readBoard_231 : List QE := [(.iload_n 2, 232, []), (.bipush 8, 234, []), (.if_icmp .ne 9, 237, [(0, 243)])]
def b_X11_readBoard_237 : List QE := [(.aload_n 0, 238, []), (.iload_n 3, 239, []), (.iconst 2, 240, []), (.invokevirtual 285, 243, [])]
def b_X11_readBoard_243 : List QE := [(.iload_n 2, 244, []), (.bipush 9, 246, []), (.if_icmp .ne 64, 249, [(0, 310)])]
def b_X11_readBoard_249 : List QE := [(.aload_n 0, 250, []), (.getfield 250, 253, []), (.ifCond .ne 16, 256, [(0, 269)])]
def b_X11_readBoard_256 : List QE := [(.aload_n 0, 257, []), (.bipush 45, 259, []), (.invokevirtual 272, 262, []), (.ifCond .eq 7, 265, [(0, 269)])]
def b_X11_readBoard_265 : List QE := [(.iconst 1, 266, []), (.goto 4, 269, [(0, 270)])]
def b_X11_readBoard_269 : List QE := [(.iconst 0, 270, [])]
def b_X11_readBoard_270 : List QE := [(.istore 4, 272, []), (.iload 4, 274, []), (.ifCond .eq 7, 277, [(0, 281)])]
def b_X11_readBoard_277 : List QE := [(.aload_n 0, 278, []), (.invokevirtual 254, 281, [])]
def b_X11_readBoard_281 : List QE := [(.aload_n 0, 282, []), (.lconst 0, 283, []), (.ldc2_w 111, 286, []), (.invokevirtual 278, 289, []), (.istore 5, 291, []), (.aload_n 0, 292, []), (.getfield 64, 295, []), (.iload_n 3, 296, []), (.iload 4, 298, []), (.ifCond .eq 9, 301, [(0, 307)])]
def b_X11_readBoard_301 : List QE := [(.iload 5, 303, []), (.ineg, 304, []), (.goto 5, 307, [(0, 309)])]
def b_X11_readBoard_307 : List QE := [(.iload 5, 309, [])]
def b_X11_readBoard_309 : List QE := [(.iastore, 310, [])]
def b_X11_readBoard_310 : List QE := [(.aload_n 0, 311, []), (.getfield 250, 314, []), (.ifCond .ne 20, 317, [(0, 334)])]
def b_X11_readBoard_317 : List QE := [(.aload_n 0, 318, []), (.getfield 73, 321, []), (.iload_n 1, 322, []), (.iload_n 3, 323, []), (.iastore, 324, []), (.aload_n 0, 325, []), (.dup, 326, []), (.getfield 269, 329, []), (.iconst 1, 330, []), (.iadd, 331, []), (.putfield 269, 334, [])]
def b_X11_readBoard_334 : List QE := [(.return_, 335, [])]
def L_X11_readBoard : List (Nat × Option (List QE)) := [(0, some b_X11_readBoard_0), (7, some b_X11_readBoard_7), (22, some b_X11_readBoard_22), (23, some b_X11_readBoard_23), (30, some b_X11_readBoard_30), (40, some b_X11_readBoard_40), (49, some b_X11_readBoard_49), (53, some b_X11_readBoard_53), (54, some b_X11_readBoard_54), (78, some b_X11_readBoard_78), (82, some b_X11_readBoard_82), (83, some b_X11_readBoard_83), (93, some b_X11_readBoard_93), (94, some b_X11_readBoard_94), (131, some b_X11_readBoard_131), (148, some b_X11_readBoard_148), (154, some b_X11_readBoard_154), (187, some b_X11_readBoard_187), (198, some b_X11_readBoard_198), (205, some b_X11_readBoard_205), (206, some b_X11_readBoard_206), (219, some b_X11_readBoard_219), (225, some b_X11_readBoard_225), (231, some b_X11_readBoard_231), (237, some b_X11_readBoard_237), (243, some b_X11_readBoard_243), (249, some b_X11_readBoard_249), (256, some b_X11_readBoard_256), (265, some b_X11_readBoard_265), (269, some b_X11_readBoard_269), (270, some b_X11_readBoard_270), (277, some b_X11_readBoard_277), (281, some b_X11_readBoard_281), (301, some b_X11_readBoard_301), (307, some b_X11_readBoard_307), (309, some b_X11_readBoard_309), (310, some b_X11_readBoard_310), (317, some b_X11_readBoard_317), (334, some b_X11_readBoard_334)]
def s_X11_readBoard : Nat → Option (List QE) := q_look L_X11_readBoard
theorem s_X11_readBoard_0 : s_X11_readBoard 0 = some b_X11_readBoard_0 := id rfl
theorem s_X11_readBoard_7 : s_X11_readBoard 7 = some b_X11_readBoard_7 := id rfl
theorem s_X11_readBoard_22 : s_X11_readBoard 22 = some b_X11_readBoard_22 := id rfl
theorem s_X11_readBoard_23 : s_X11_readBoard 23 = some b_X11_readBoard_23 := id rfl
theorem s_X11_readBoard_30 : s_X11_readBoard 30 = some b_X11_readBoard_30 := id rfl
theorem s_X11_readBoard_40 : s_X11_readBoard 40 = some b_X11_readBoard_40 := id rfl
theorem s_X11_readBoard_49 : s_X11_readBoard 49 = some b_X11_readBoard_49 := id rfl
theorem s_X11_readBoard_53 : s_X11_readBoard 53 = some b_X11_readBoard_53 := id rfl
theorem s_X11_readBoard_54 : s_X11_readBoard 54 = some b_X11_readBoard_54 := id rfl
theorem s_X11_readBoard_78 : s_X11_readBoard 78 = some b_X11_readBoard_78 := id rfl
theorem s_X11_readBoard_82 : s_X11_readBoard 82 = some b_X11_readBoard_82 := id rfl
theorem s_X11_readBoard_83 : s_X11_readBoard 83 = some b_X11_readBoard_83 := id rfl
theorem s_X11_readBoard_93 : s_X11_readBoard 93 = some b_X11_readBoard_93 := id rfl
theorem s_X11_readBoard_94 : s_X11_readBoard 94 = some b_X11_readBoard_94 := id rfl
theorem s_X11_readBoard_131 : s_X11_readBoard 131 = some b_X11_readBoard_131 := id rfl
theorem s_X11_readBoard_148 : s_X11_readBoard 148 = some b_X11_readBoard_148 := id rfl
theorem s_X11_readBoard_154 : s_X11_readBoard 154 = some b_X11_readBoard_154 := id rfl
theorem s_X11_readBoard_187 : s_X11_readBoard 187 = some b_X11_readBoard_187 := id rfl
theorem s_X11_readBoard_198 : s_X11_readBoard 198 = some b_X11_readBoard_198 := id rfl
theorem s_X11_readBoard_205 : s_X11_readBoard 205 = some b_X11_readBoard_205 := id rfl
theorem s_X11_readBoard_206 : s_X11_readBoard 206 = some b_X11_readBoard_206 := id rfl
theorem s_X11_readBoard_219 : s_X11_readBoard 219 = some b_X11_readBoard_219 := id rfl
theorem s_X11_readBoard_225 : s_X11_readBoard 225 = some b_X11_readBoard_225 := id rfl
theorem s_X11_readBoard_231 : s_X11_readBoard 231 = some b_X11_readBoard_231 := id rfl
theorem s_X11_readBoard_237 : s_X11_readBoard 237 = some b_X11_readBoard_237 := id rfl
theorem s_X11_readBoard_243 : s_X11_readBoard 243 = some b_X11_readBoard_243 := id rfl
theorem s_X11_readBoard_249 : s_X11_readBoard 249 = some b_X11_readBoard_249 := id rfl
theorem s_X11_readBoard_256 : s_X11_readBoard 256 = some b_X11_readBoard_256 := id rfl
theorem s_X11_readBoard_265 : s_X11_readBoard 265 = some b_X11_readBoard_265 := id rfl
theorem s_X11_readBoard_269 : s_X11_readBoard 269 = some b_X11_readBoard_269 := id rfl
theorem s_X11_readBoard_270 : s_X11_readBoard 270 = some b_X11_readBoard_270 := id rfl
theorem s_X11_readBoard_277 : s_X11_readBoard 277 = some b_X11_readBoard_277 := id rfl
theorem s_X11_readBoard_281 : s_X11_readBoard 281 = some b_X11_readBoard_281 := id rfl
theorem s_X11_readBoard_301 : s_X11_readBoard 301 = some b_X11_readBoard_301 := id rfl
theorem s_X11_readBoard_307 : s_X11_readBoard 307 = some b_X11_readBoard_307 := id rfl
theorem s_X11_readBoard_309 : s_X11_readBoard 309 = some b_X11_readBoard_309 := id rfl
theorem s_X11_readBoard_310 : s_X11_readBoard 310 = some b_X11_readBoard_310 := id rfl
theorem s_X11_readBoard_317 : s_X11_readBoard 317 = some b_X11_readBoard_317 := id rfl
theorem s_X11_readBoard_334 : s_X11_readBoard 334 = some b_X11_readBoard_334 := id rfl
def u_X11_readBoard : QU := ([76, 227, 73, 269, 250, 58, 70, 64, 61], [269], [107, 111], [], [261, 257, 272, 275, 278, 282, 285, 254], [], [])
theorem o_X11_readBoard : q_skok cX11_readBoard 6 u_X11_readBoard L_X11_readBoard = true := by decide +kernel
theorem k_X11_readBoard : q_chk RX11 fl_X11 ld_X11 u_X11_readBoard = true := by decide +kernel
def b_X11_boards_0 : List QE := [(.aload_n 0, 1, []), (.iconst 0, 2, []), (.putfield 85, 5, []), (.aload_n 0, 6, []), (.iconst 0, 7, []), (.putfield 224, 10, []), (.aload_n 0, 11, []), (.iconst 0, 12, []), (.putfield 250, 15, []), (.aload_n 0, 16, []), (.iconst (-1), 17, []), (.putfield 79, 20, []), (.aload_n 0, 21, []), (.iconst 0, 22, []), (.putfield 269, 25, []), (.iconst 0, 26, []), (.istore_n 1, 27, [])]
def b_X11_boards_27 : List QE := [(.iload_n 1, 28, []), (.bipush 26, 30, []), (.if_icmp .ge 16, 33, [(0, 46)])]
def b_X11_boards_33 : List QE := [(.aload_n 0, 34, []), (.getfield 73, 37, []), (.iload_n 1, 38, []), (.iconst (-1), 39, []), (.iastore, 40, []), (.iinc 1 1, 43, []), (.goto (-16), 46, [(0, 27)])]
def b_X11_boards_46 : List QE := [(.aload_n 0, 47, []), (.invokevirtual 254, 50, []), (.aload_n 0, 51, []), (.invokevirtual 288, 54, [])]
def b_X11_boards_54 : List QE := [(.aload_n 0, 55, []), (.getfield 250, 58, []), (.ifCond .ne 23, 61, [(0, 81)])]
def b_X11_boards_61 : List QE := [(.aload_n 0, 62, []), (.bipush 59, 64, []), (.invokevirtual 272, 67, []), (.ifCond .eq 14, 70, [(0, 81)])]
def b_X11_boards_70 : List QE := [(.aload_n 0, 71, []), (.invokevirtual 254, 74, []), (.aload_n 0, 75, []), (.invokevirtual 288, 78, []), (.goto (-24), 81, [(0, 54)])]
def b_X11_boards_81 : List QE := [(.aload_n 0, 82, []), (.getfield 250, 85, []), (.ifCond .ne 15, 88, [(0, 100)])]
def b_X11_boards_88 : List QE := [(.aload_n 0, 89, []), (.getfield 239, 92, []), (.ifCond .eq 8, 95, [(0, 100)])]
def b_X11_boards_95 : List QE := [(.aload_n 0, 96, []), (.iconst 0, 97, []), (.invokevirtual 257, 100, [])]
def b_X11_boards_100 : List QE := [(.aload_n 0, 101, []), (.iconst 0, 102, []), (.putfield 218, 105, []), (.aload_n 0, 106, []), (.getfield 250, 109, []), (.ifCond .eq 10, 112, [(0, 119)])]
def b_X11_boards_112 : List QE := [(.aload_n 0, 113, []), (.bipush (-6), 115, []), (.invokevirtual 103, 118, []), (.ireturn, 119, [])]
def b_X11_boards_119 : List QE := [(.aload_n 0, 120, []), (.aload_n 0, 121, []), (.getfield 269, 124, []), (.putfield 125, 127, []), (.iconst 0, 128, []), (.istore_n 1, 129, [])]
def b_X11_boards_129 : List QE := [(.iload_n 1, 130, []), (.aload_n 0, 131, []), (.getfield 125, 134, []), (.if_icmp .ge 95, 137, [(0, 229)])]
def b_X11_boards_137 : List QE := [(.aload_n 0, 138, []), (.getfield 27, 141, []), (.iload_n 1, 142, []), (.aload_n 0, 143, []), (.getfield 58, 146, []), (.iload_n 1, 147, []), (.iaload, 148, []), (.iastore, 149, []), (.aload_n 0, 150, []), (.getfield 30, 153, []), (.iload_n 1, 154, []), (.aload_n 0, 155, []), (.getfield 61, 158, []), (.iload_n 1, 159, []), (.iaload, 160, []), (.iastore, 161, []), (.aload_n 0, 162, []), (.getfield 33, 165, []), (.iload_n 1, 166, []), (.aload_n 0, 167, []), (.getfield 64, 170, []), (.iload_n 1, 171, []), (.iaload, 172, []), (.iastore, 173, []), (.aload_n 0, 174, []), (.getfield 39, 177, []), (.iload_n 1, 178, []), (.aload_n 0, 179, []), (.getfield 70, 182, []), (.iload_n 1, 183, []), (.iaload, 184, []), (.iastore, 185, []), (.iconst 0, 186, []), (.istore_n 2, 187, [])]
def b_X11_boards_187 : List QE := [(.iload_n 2, 188, []), (.aload_n 0, 189, []), (.getfield 70, 192, []), (.iload_n 1, 193, []), (.iaload, 194, []), (.if_icmp .ge 29, 197, [(0, 223)])]
def b_X11_boards_197 : List QE := [(.aload_n 0, 198, []), (.getfield 36, 201, []), (.iconst 3, 202, []), (.iload_n 1, 203, []), (.imul, 204, []), (.iload_n 2, 205, []), (.iadd, 206, []), (.aload_n 0, 207, []), (.getfield 67, 210, []), (.iconst 3, 211, []), (.iload_n 1, 212, []), (.imul, 213, []), (.iload_n 2, 214, []), (.iadd, 215, []), (.iaload, 216, []), (.iastore, 217, []), (.iinc 2 1, 220, []), (.goto (-33), 223, [(0, 187)])]
def b_X11_boards_223 : List QE := [(.iinc 1 1, 226, []), (.goto (-97), 229, [(0, 129)])]
def b_X11_boards_229 : List QE := [(.aload_n 0, 230, []), (.invokevirtual 92, 233, []), (.aload_n 0, 234, []), (.aload_n 0, 235, []), (.getfield 125, 238, []), (.invokevirtual 103, 241, []), (.ireturn, 242, [])]
def L_X11_boards : List (Nat × Option (List QE)) := [(0, some b_X11_boards_0), (27, none), (33, some b_X11_boards_33), (46, some b_X11_boards_46), (54, none), (61, some b_X11_boards_61), (70, some b_X11_boards_70), (81, some b_X11_boards_81), (88, some b_X11_boards_88), (95, some b_X11_boards_95), (100, some b_X11_boards_100), (112, some b_X11_boards_112), (119, some b_X11_boards_119), (129, none), (137, some b_X11_boards_137), (187, none), (197, some b_X11_boards_197), (223, some b_X11_boards_223), (229, some b_X11_boards_229)]
def s_X11_boards : Nat → Option (List QE) := q_look L_X11_boards
theorem s_X11_boards_0 : s_X11_boards 0 = some b_X11_boards_0 := id rfl
theorem s_X11_boards_27 : s_X11_boards 27 = none := id rfl
theorem s_X11_boards_33 : s_X11_boards 33 = some b_X11_boards_33 := id rfl
theorem s_X11_boards_46 : s_X11_boards 46 = some b_X11_boards_46 := id rfl
theorem s_X11_boards_54 : s_X11_boards 54 = none := id rfl
theorem s_X11_boards_61 : s_X11_boards 61 = some b_X11_boards_61 := id rfl
theorem s_X11_boards_70 : s_X11_boards 70 = some b_X11_boards_70 := id rfl
theorem s_X11_boards_81 : s_X11_boards 81 = some b_X11_boards_81 := id rfl
theorem s_X11_boards_88 : s_X11_boards 88 = some b_X11_boards_88 := id rfl
theorem s_X11_boards_95 : s_X11_boards 95 = some b_X11_boards_95 := id rfl
theorem s_X11_boards_100 : s_X11_boards 100 = some b_X11_boards_100 := id rfl
theorem s_X11_boards_112 : s_X11_boards 112 = some b_X11_boards_112 := id rfl
theorem s_X11_boards_119 : s_X11_boards 119 = some b_X11_boards_119 := id rfl
theorem s_X11_boards_129 : s_X11_boards 129 = none := id rfl
theorem s_X11_boards_137 : s_X11_boards 137 = some b_X11_boards_137 := id rfl
theorem s_X11_boards_187 : s_X11_boards 187 = none := id rfl
theorem s_X11_boards_197 : s_X11_boards 197 = some b_X11_boards_197 := id rfl
theorem s_X11_boards_223 : s_X11_boards 223 = some b_X11_boards_223 := id rfl
theorem s_X11_boards_229 : s_X11_boards 229 = some b_X11_boards_229 := id rfl
def u_X11_boards : QU := ([85, 224, 250, 79, 269, 73, 239, 218, 125, 27, 58, 30, 61, 33, 64, 39, 70, 36, 67], [85, 224, 250, 79, 269, 218, 125], [], [], [254, 288, 272, 257, 103, 92], [], [])
theorem o_X11_boards : q_skok cX11_boards 3 u_X11_boards L_X11_boards = true := by decide +kernel
theorem o_X11_boards_129 : q_ok cX11_boards 3 u_X11_boards 129 b_X11_boards_129 = true := by decide +kernel
theorem o_X11_boards_27 : q_ok cX11_boards 3 u_X11_boards 27 b_X11_boards_27 = true := by decide +kernel
theorem o_X11_boards_187 : q_ok cX11_boards 3 u_X11_boards 187 b_X11_boards_187 = true := by decide +kernel
theorem o_X11_boards_54 : q_ok cX11_boards 3 u_X11_boards 54 b_X11_boards_54 = true := by decide +kernel
theorem k_X11_boards : q_chk RX11 fl_X11 ld_X11 u_X11_boards = true := by decide +kernel
def b_X11_fault_0 : List QE := [(.aload_n 0, 1, []), (.iconst 0, 2, []), (.putfield 85, 5, []), (.aload_n 0, 6, []), (.getfield 79, 9, []), (.ireturn, 10, [])]
def L_X11_fault : List (Nat × Option (List QE)) := [(0, some b_X11_fault_0)]
def s_X11_fault : Nat → Option (List QE) := q_look L_X11_fault
theorem s_X11_fault_0 : s_X11_fault 0 = some b_X11_fault_0 := id rfl
def u_X11_fault : QU := ([85, 79], [85], [], [], [], [], [])
theorem o_X11_fault : q_skok cX11_fault 1 u_X11_fault L_X11_fault = true := by decide +kernel
theorem k_X11_fault : q_chk RX11 fl_X11 ld_X11 u_X11_fault = true := by decide +kernel
def b_X11_image_0 : List QE := [(.aload_n 0, 1, []), (.iconst 0, 2, []), (.putfield 85, 5, []), (.iload_n 1, 6, []), (.i2l, 7, []), (.lconst 0, 8, []), (.ldc2_w 99, 11, []), (.invokestatic 95, 14, []), (.ifCond .ne 9, 17, [(0, 23)])]
def b_X11_image_17 : List QE := [(.aload_n 0, 18, []), (.iconst (-1), 19, []), (.invokevirtual 103, 22, []), (.ireturn, 23, [])]
def b_X11_image_23 : List QE := [(.iconst 0, 24, []), (.istore_n 2, 25, [])]
def b_X11_image_25 : List QE := [(.iload_n 2, 26, []), (.sipush 576, 29, []), (.if_icmp .ge 27, 32, [(0, 56)])]
def b_X11_image_32 : List QE := [(.aload_n 0, 33, []), (.getfield 20, 36, []), (.sipush 576, 39, []), (.iload_n 1, 40, []), (.imul, 41, []), (.iload_n 2, 42, []), (.iadd, 43, []), (.aload_n 0, 44, []), (.getfield 16, 47, []), (.iload_n 2, 48, []), (.iaload, 49, []), (.iastore, 50, []), (.iinc 2 1, 53, []), (.goto (-28), 56, [(0, 25)])]
def b_X11_image_56 : List QE := [(.aload_n 0, 57, []), (.getfield 23, 60, []), (.iload_n 1, 61, []), (.iconst 1, 62, []), (.bastore, 63, []), (.aload_n 0, 64, []), (.iconst 0, 65, []), (.invokevirtual 103, 68, []), (.ireturn, 69, [])]
def L_X11_image : List (Nat × Option (List QE)) := [(0, some b_X11_image_0), (17, some b_X11_image_17), (23, some b_X11_image_23), (25, none), (32, some b_X11_image_32), (56, some b_X11_image_56)]
def s_X11_image : Nat → Option (List QE) := q_look L_X11_image
theorem s_X11_image_0 : s_X11_image 0 = some b_X11_image_0 := id rfl
theorem s_X11_image_17 : s_X11_image 17 = some b_X11_image_17 := id rfl
theorem s_X11_image_23 : s_X11_image 23 = some b_X11_image_23 := id rfl
theorem s_X11_image_25 : s_X11_image 25 = none := id rfl
theorem s_X11_image_32 : s_X11_image 32 = some b_X11_image_32 := id rfl
theorem s_X11_image_56 : s_X11_image 56 = some b_X11_image_56 := id rfl
def u_X11_image : QU := ([85, 20, 16, 23], [85], [99], [], [103], [95], [])
theorem o_X11_image : q_skok cX11_image 3 u_X11_image L_X11_image = true := by decide +kernel
theorem o_X11_image_25 : q_ok cX11_image 3 u_X11_image 25 b_X11_image_25 = true := by decide +kernel
theorem k_X11_image : q_chk RX11 fl_X11 ld_X11 u_X11_image = true := by decide +kernel
def b_X11_back_0 : List QE := [(.aload_n 0, 1, []), (.iconst 0, 2, []), (.putfield 85, 5, []), (.iload_n 1, 6, []), (.i2l, 7, []), (.lconst 0, 8, []), (.ldc2_w 99, 11, []), (.invokestatic 95, 14, []), (.ifCond .ne 9, 17, [(0, 23)])]
def b_X11_back_17 : List QE := [(.aload_n 0, 18, []), (.iconst (-1), 19, []), (.invokevirtual 103, 22, []), (.ireturn, 23, [])]
def b_X11_back_23 : List QE := [(.aload_n 0, 24, []), (.getfield 23, 27, []), (.iload_n 1, 28, []), (.baload, 29, []), (.ifCond .ne 10, 32, [(0, 39)])]
def b_X11_back_32 : List QE := [(.aload_n 0, 33, []), (.bipush (-6), 35, []), (.invokevirtual 103, 38, []), (.ireturn, 39, [])]
def b_X11_back_39 : List QE := [(.iconst 0, 40, []), (.istore_n 2, 41, []), (.iconst 0, 42, []), (.istore_n 3, 43, [])]
def b_X11_back_43 : List QE := [(.iload_n 3, 44, []), (.sipush 576, 47, []), (.if_icmp .ge 65, 50, [(0, 112)])]
def b_X11_back_50 : List QE := [(.aload_n 0, 51, []), (.getfield 16, 54, []), (.iload_n 3, 55, []), (.iaload, 56, []), (.aload_n 0, 57, []), (.getfield 20, 60, []), (.sipush 576, 63, []), (.iload_n 1, 64, []), (.imul, 65, []), (.iload_n 3, 66, []), (.iadd, 67, []), (.iaload, 68, []), (.if_icmp .eq 38, 71, [(0, 106)])]
def b_X11_back_71 : List QE := [(.aload_n 0, 72, []), (.iload_n 3, 73, []), (.sipush 144, 76, []), (.idiv, 77, []), (.iload_n 3, 78, []), (.bipush 12, 80, []), (.irem, 81, []), (.iload_n 3, 82, []), (.bipush 12, 84, []), (.idiv, 85, []), (.bipush 12, 87, []), (.irem, 88, []), (.aload_n 0, 89, []), (.getfield 20, 92, []), (.sipush 576, 95, []), (.iload_n 1, 96, []), (.imul, 97, []), (.iload_n 3, 98, []), (.iadd, 99, []), (.iaload, 100, []), (.invokevirtual 117, 103, []), (.iinc 2 1, 106, [])]
def b_X11_back_106 : List QE := [(.iinc 3 1, 109, []), (.goto (-66), 112, [(0, 43)])]
def b_X11_back_112 : List QE := [(.aload_n 0, 113, []), (.iload_n 2, 114, []), (.invokevirtual 103, 117, []), (.ireturn, 118, [])]
def L_X11_back : List (Nat × Option (List QE)) := [(0, some b_X11_back_0), (17, some b_X11_back_17), (23, some b_X11_back_23), (32, some b_X11_back_32), (39, some b_X11_back_39), (43, none), (50, some b_X11_back_50), (71, some b_X11_back_71), (106, some b_X11_back_106), (112, some b_X11_back_112)]
def s_X11_back : Nat → Option (List QE) := q_look L_X11_back
theorem s_X11_back_0 : s_X11_back 0 = some b_X11_back_0 := id rfl
theorem s_X11_back_17 : s_X11_back 17 = some b_X11_back_17 := id rfl
theorem s_X11_back_23 : s_X11_back 23 = some b_X11_back_23 := id rfl
theorem s_X11_back_32 : s_X11_back 32 = some b_X11_back_32 := id rfl
theorem s_X11_back_39 : s_X11_back 39 = some b_X11_back_39 := id rfl
theorem s_X11_back_43 : s_X11_back 43 = none := id rfl
theorem s_X11_back_50 : s_X11_back 50 = some b_X11_back_50 := id rfl
theorem s_X11_back_71 : s_X11_back 71 = some b_X11_back_71 := id rfl
theorem s_X11_back_106 : s_X11_back 106 = some b_X11_back_106 := id rfl
theorem s_X11_back_112 : s_X11_back 112 = some b_X11_back_112 := id rfl
def u_X11_back : QU := ([85, 23, 16, 20], [85], [99], [], [103, 117], [95], [])
theorem o_X11_back : q_skok cX11_back 4 u_X11_back L_X11_back = true := by decide +kernel
theorem o_X11_back_43 : q_ok cX11_back 4 u_X11_back 43 b_X11_back_43 = true := by decide +kernel
theorem k_X11_back : q_chk RX11 fl_X11 ld_X11 u_X11_back = true := by decide +kernel
def b_X11_count_0 : List QE := [(.aload_n 0, 1, []), (.iconst 0, 2, []), (.putfield 85, 5, []), (.iconst 0, 6, []), (.istore_n 2, 7, []), (.iload_n 1, 8, []), (.tableswitch 130 0 5 #[40, 45, 50, 55, 87, 92], 48, [(0, 48), (1, 53), (2, 58), (3, 63), (4, 95), (5, 100), (0, 138)])]
def b_X11_count_48 : List QE := [(.aload_n 0, 49, []), (.getfield 7, 52, []), (.ireturn, 53, [])]
def b_X11_count_53 : List QE := [(.aload_n 0, 54, []), (.getfield 13, 57, []), (.ireturn, 58, [])]
def b_X11_count_58 : List QE := [(.aload_n 0, 59, []), (.getfield 125, 62, []), (.ireturn, 63, [])]
def b_X11_count_63 : List QE := [(.iconst 0, 64, []), (.istore_n 3, 65, [])]
def b_X11_count_65 : List QE := [(.iload_n 3, 66, []), (.bipush 9, 68, []), (.if_icmp .ge 25, 71, [(0, 93)])]
def b_X11_count_71 : List QE := [(.iload_n 2, 72, []), (.aload_n 0, 73, []), (.iload_n 3, 74, []), (.invokevirtual 134, 77, []), (.ifCond .eq 7, 80, [(0, 84)])]
def b_X11_count_80 : List QE := [(.iconst 1, 81, []), (.goto 4, 84, [(0, 85)])]
def b_X11_count_84 : List QE := [(.iconst 0, 85, [])]
def b_X11_count_85 : List QE := [(.iadd, 86, []), (.istore_n 2, 87, []), (.iinc 3 1, 90, []), (.goto (-25), 93, [(0, 65)])]
def b_X11_count_93 : List QE := [(.iload_n 2, 94, []), (.ireturn, 95, [])]
def b_X11_count_95 : List QE := [(.aload_n 0, 96, []), (.getfield 218, 99, []), (.ireturn, 100, [])]
def b_X11_count_100 : List QE := [(.iconst 0, 101, []), (.istore_n 3, 102, [])]
def b_X11_count_102 : List QE := [(.iload_n 3, 103, []), (.bipush 9, 105, []), (.aload_n 0, 106, []), (.getfield 125, 109, []), (.imul, 110, []), (.if_icmp .ge 26, 113, [(0, 136)])]
def b_X11_count_113 : List QE := [(.iload_n 2, 114, []), (.aload_n 0, 115, []), (.getfield 42, 118, []), (.iload_n 3, 119, []), (.baload, 120, []), (.ifCond .eq 7, 123, [(0, 127)])]
def b_X11_count_123 : List QE := [(.iconst 1, 124, []), (.goto 4, 127, [(0, 128)])]
def b_X11_count_127 : List QE := [(.iconst 0, 128, [])]
def b_X11_count_128 : List QE := [(.iadd, 129, []), (.istore_n 2, 130, []), (.iinc 3 1, 133, []), (.goto (-31), 136, [(0, 102)])]
def b_X11_count_136 : List QE := [(.iload_n 2, 137, []), (.ireturn, 138, [])]
def b_X11_count_138 : List QE := [(.iconst (-1), 139, []), (.ireturn, 140, [])]
def L_X11_count : List (Nat × Option (List QE)) := [(0, some b_X11_count_0), (48, some b_X11_count_48), (53, some b_X11_count_53), (58, some b_X11_count_58), (63, some b_X11_count_63), (65, none), (71, some b_X11_count_71), (80, some b_X11_count_80), (84, some b_X11_count_84), (85, some b_X11_count_85), (93, some b_X11_count_93), (95, some b_X11_count_95), (100, some b_X11_count_100), (102, none), (113, some b_X11_count_113), (123, some b_X11_count_123), (127, some b_X11_count_127), (128, some b_X11_count_128), (136, some b_X11_count_136), (138, some b_X11_count_138)]
def s_X11_count : Nat → Option (List QE) := q_look L_X11_count
theorem s_X11_count_0 : s_X11_count 0 = some b_X11_count_0 := id rfl
theorem s_X11_count_48 : s_X11_count 48 = some b_X11_count_48 := id rfl
theorem s_X11_count_53 : s_X11_count 53 = some b_X11_count_53 := id rfl
theorem s_X11_count_58 : s_X11_count 58 = some b_X11_count_58 := id rfl
theorem s_X11_count_63 : s_X11_count 63 = some b_X11_count_63 := id rfl
theorem s_X11_count_65 : s_X11_count 65 = none := id rfl
theorem s_X11_count_71 : s_X11_count 71 = some b_X11_count_71 := id rfl
theorem s_X11_count_80 : s_X11_count 80 = some b_X11_count_80 := id rfl
theorem s_X11_count_84 : s_X11_count 84 = some b_X11_count_84 := id rfl
theorem s_X11_count_85 : s_X11_count 85 = some b_X11_count_85 := id rfl
theorem s_X11_count_93 : s_X11_count 93 = some b_X11_count_93 := id rfl
theorem s_X11_count_95 : s_X11_count 95 = some b_X11_count_95 := id rfl
theorem s_X11_count_100 : s_X11_count 100 = some b_X11_count_100 := id rfl
theorem s_X11_count_102 : s_X11_count 102 = none := id rfl
theorem s_X11_count_113 : s_X11_count 113 = some b_X11_count_113 := id rfl
theorem s_X11_count_123 : s_X11_count 123 = some b_X11_count_123 := id rfl
theorem s_X11_count_127 : s_X11_count 127 = some b_X11_count_127 := id rfl
theorem s_X11_count_128 : s_X11_count 128 = some b_X11_count_128 := id rfl
theorem s_X11_count_136 : s_X11_count 136 = some b_X11_count_136 := id rfl
theorem s_X11_count_138 : s_X11_count 138 = some b_X11_count_138 := id rfl
def u_X11_count : QU := ([85, 7, 13, 125, 218, 42], [85], [], [], [134], [], [])
theorem o_X11_count : q_skok cX11_count 4 u_X11_count L_X11_count = true := by decide +kernel
theorem o_X11_count_65 : q_ok cX11_count 4 u_X11_count 65 b_X11_count_65 = true := by decide +kernel
theorem o_X11_count_102 : q_ok cX11_count 4 u_X11_count 102 b_X11_count_102 = true := by decide +kernel
theorem k_X11_count : q_chk RX11 fl_X11 ld_X11 u_X11_count = true := by decide +kernel
def b_X11_status_0 : List QE := [(.aload_n 0, 1, []), (.iconst 0, 2, []), (.putfield 85, 5, []), (.aload_n 0, 6, []), (.getfield 88, 9, []), (.ireturn, 10, [])]
def L_X11_status : List (Nat × Option (List QE)) := [(0, some b_X11_status_0)]
def s_X11_status : Nat → Option (List QE) := q_look L_X11_status
theorem s_X11_status_0 : s_X11_status 0 = some b_X11_status_0 := id rfl
def u_X11_status : QU := ([85, 88], [85], [], [], [], [], [])
theorem o_X11_status : q_skok cX11_status 1 u_X11_status L_X11_status = true := by decide +kernel
theorem k_X11_status : q_chk RX11 fl_X11 ld_X11 u_X11_status = true := by decide +kernel
