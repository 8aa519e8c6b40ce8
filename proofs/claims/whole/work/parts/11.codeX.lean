def b_X0_shape_0 : List QE := [(.aload_n 0, 1, []), (.iload_n 1, 2, []), (.putfield 15, 5, []), (.aload_n 0, 6, []), (.iload_n 2, 7, []), (.putfield 19, 10, []), (.aload_n 0, 11, []), (.iconst 0, 12, []), (.putfield 22, 15, []), (.iconst 0, 16, []), (.istore_n 3, 17, [])]
def b_X0_shape_17 : List QE := [(.iload_n 3, 18, []), (.iload_n 2, 19, []), (.if_icmp .ge 41, 22, [(0, 60)])]
def b_X0_shape_22 : List QE := [(.iconst 0, 23, []), (.istore 4, 25, [])]
def b_X0_shape_25 : List QE := [(.iload 4, 27, []), (.iload_n 1, 28, []), (.if_icmp .ge 26, 31, [(0, 54)])]
def b_X0_shape_31 : List QE := [(.aload_n 0, 32, []), (.dup, 33, []), (.getfield 22, 36, []), (.iconst 1, 37, []), (.iload 4, 39, []), (.iload_n 3, 40, []), (.invokestatic 25, 43, []), (.ishl, 44, []), (.ior, 45, []), (.putfield 22, 48, []), (.iinc 4 4, 51, []), (.goto (-26), 54, [(0, 25)])]
def b_X0_shape_54 : List QE := [(.iinc 3 4, 57, []), (.goto (-40), 60, [(0, 17)])]
def b_X0_shape_60 : List QE := [(.return_, 61, [])]
def L_X0_shape : List (Nat × Option (List QE)) := [(0, some b_X0_shape_0), (17, none), (22, some b_X0_shape_22), (25, none), (31, some b_X0_shape_31), (54, some b_X0_shape_54), (60, some b_X0_shape_60)]
def s_X0_shape : Nat → Option (List QE) := q_look L_X0_shape
theorem s_X0_shape_0 : s_X0_shape 0 = some b_X0_shape_0 := id rfl
theorem s_X0_shape_17 : s_X0_shape 17 = none := id rfl
theorem s_X0_shape_22 : s_X0_shape 22 = some b_X0_shape_22 := id rfl
theorem s_X0_shape_25 : s_X0_shape 25 = none := id rfl
theorem s_X0_shape_31 : s_X0_shape 31 = some b_X0_shape_31 := id rfl
theorem s_X0_shape_54 : s_X0_shape 54 = some b_X0_shape_54 := id rfl
theorem s_X0_shape_60 : s_X0_shape 60 = some b_X0_shape_60 := id rfl
def u_X0_shape : QU := ([15, 19, 22], [15, 19, 22], [], [], [], [25], [])
theorem o_X0_shape : q_skok cX0_shape 5 u_X0_shape L_X0_shape = true := by decide +kernel
theorem o_X0_shape_25 : q_ok cX0_shape 5 u_X0_shape 25 b_X0_shape_25 = true := by decide +kernel
theorem o_X0_shape_17 : q_ok cX0_shape 5 u_X0_shape 17 b_X0_shape_17 = true := by decide +kernel
theorem k_X0_shape : q_chk RX0 fl_X0 ld_X0 u_X0_shape = true := by decide +kernel
def b_X0_hasCell_0 : List QE := [(.iload_n 1, 1, []), (.ifCond .lt 27, 4, [(0, 28)])]
def b_X0_hasCell_4 : List QE := [(.iload_n 1, 5, []), (.aload_n 0, 6, []), (.getfield 15, 9, []), (.if_icmp .ge 19, 12, [(0, 28)])]
def b_X0_hasCell_12 : List QE := [(.iload_n 2, 13, []), (.ifCond .lt 15, 16, [(0, 28)])]
def b_X0_hasCell_16 : List QE := [(.iload_n 2, 17, []), (.aload_n 0, 18, []), (.getfield 19, 21, []), (.if_icmp .ge 7, 24, [(0, 28)])]
def b_X0_hasCell_24 : List QE := [(.iconst 1, 25, []), (.goto 4, 28, [(0, 29)])]
def b_X0_hasCell_28 : List QE := [(.iconst 0, 29, [])]
def b_X0_hasCell_29 : List QE := [(.ireturn, 30, [])]
def L_X0_hasCell : List (Nat × Option (List QE)) := [(0, some b_X0_hasCell_0), (4, some b_X0_hasCell_4), (12, some b_X0_hasCell_12), (16, some b_X0_hasCell_16), (24, some b_X0_hasCell_24), (28, some b_X0_hasCell_28), (29, some b_X0_hasCell_29)]
def s_X0_hasCell : Nat → Option (List QE) := q_look L_X0_hasCell
theorem s_X0_hasCell_0 : s_X0_hasCell 0 = some b_X0_hasCell_0 := id rfl
theorem s_X0_hasCell_4 : s_X0_hasCell 4 = some b_X0_hasCell_4 := id rfl
theorem s_X0_hasCell_12 : s_X0_hasCell 12 = some b_X0_hasCell_12 := id rfl
theorem s_X0_hasCell_16 : s_X0_hasCell 16 = some b_X0_hasCell_16 := id rfl
theorem s_X0_hasCell_24 : s_X0_hasCell 24 = some b_X0_hasCell_24 := id rfl
theorem s_X0_hasCell_28 : s_X0_hasCell 28 = some b_X0_hasCell_28 := id rfl
theorem s_X0_hasCell_29 : s_X0_hasCell 29 = some b_X0_hasCell_29 := id rfl
def u_X0_hasCell : QU := ([15, 19], [], [], [], [], [], [])
theorem o_X0_hasCell : q_skok cX0_hasCell 3 u_X0_hasCell L_X0_hasCell = true := by decide +kernel
theorem k_X0_hasCell : q_chk RX0 fl_X0 ld_X0 u_X0_hasCell = true := by decide +kernel
def b_X0_hasTile_0 : List QE := [(.iload_n 1, 1, []), (.ifCond .lt 24, 4, [(0, 25)])]
def b_X0_hasTile_4 : List QE := [(.iload_n 1, 5, []), (.bipush 9, 7, []), (.if_icmp .ge 18, 10, [(0, 25)])]
def b_X0_hasTile_10 : List QE := [(.aload_n 0, 11, []), (.getfield 22, 14, []), (.iload_n 1, 15, []), (.ishr, 16, []), (.iconst 1, 17, []), (.iand, 18, []), (.ifCond .eq 7, 21, [(0, 25)])]
def b_X0_hasTile_21 : List QE := [(.iconst 1, 22, []), (.goto 4, 25, [(0, 26)])]
def b_X0_hasTile_25 : List QE := [(.iconst 0, 26, [])]
def b_X0_hasTile_26 : List QE := [(.ireturn, 27, [])]
def L_X0_hasTile : List (Nat × Option (List QE)) := [(0, some b_X0_hasTile_0), (4, some b_X0_hasTile_4), (10, some b_X0_hasTile_10), (21, some b_X0_hasTile_21), (25, some b_X0_hasTile_25), (26, some b_X0_hasTile_26)]
def s_X0_hasTile : Nat → Option (List QE) := q_look L_X0_hasTile
theorem s_X0_hasTile_0 : s_X0_hasTile 0 = some b_X0_hasTile_0 := id rfl
theorem s_X0_hasTile_4 : s_X0_hasTile 4 = some b_X0_hasTile_4 := id rfl
theorem s_X0_hasTile_10 : s_X0_hasTile 10 = some b_X0_hasTile_10 := id rfl
theorem s_X0_hasTile_21 : s_X0_hasTile 21 = some b_X0_hasTile_21 := id rfl
theorem s_X0_hasTile_25 : s_X0_hasTile 25 = some b_X0_hasTile_25 := id rfl
theorem s_X0_hasTile_26 : s_X0_hasTile 26 = some b_X0_hasTile_26 := id rfl
def u_X0_hasTile : QU := ([22], [], [], [], [], [], [])
theorem o_X0_hasTile : q_skok cX0_hasTile 2 u_X0_hasTile L_X0_hasTile = true := by decide +kernel
theorem k_X0_hasTile : q_chk RX0 fl_X0 ld_X0 u_X0_hasTile = true := by decide +kernel
def b_X0_leftOf_0 : List QE := [(.iload_n 1, 1, []), (.iconst 3, 2, []), (.irem, 3, []), (.iconst 4, 4, []), (.imul, 5, []), (.ireturn, 6, [])]
def L_X0_leftOf : List (Nat × Option (List QE)) := [(0, some b_X0_leftOf_0)]
def s_X0_leftOf : Nat → Option (List QE) := q_look L_X0_leftOf
theorem s_X0_leftOf_0 : s_X0_leftOf 0 = some b_X0_leftOf_0 := id rfl
def u_X0_leftOf : QU := ([], [], [], [], [], [], [])
theorem o_X0_leftOf : q_skok cX0_leftOf 2 u_X0_leftOf L_X0_leftOf = true := by decide +kernel
theorem k_X0_leftOf : q_chk RX0 fl_X0 ld_X0 u_X0_leftOf = true := by decide +kernel
def b_X0_rightOf_0 : List QE := [(.aload_n 0, 1, []), (.getfield 15, 4, []), (.aload_n 0, 5, []), (.iload_n 1, 6, []), (.invokevirtual 29, 9, []), (.iconst 4, 10, []), (.iadd, 11, []), (.invokestatic 33, 14, []), (.ireturn, 15, [])]
def L_X0_rightOf : List (Nat × Option (List QE)) := [(0, some b_X0_rightOf_0)]
def s_X0_rightOf : Nat → Option (List QE) := q_look L_X0_rightOf
theorem s_X0_rightOf_0 : s_X0_rightOf 0 = some b_X0_rightOf_0 := id rfl
def u_X0_rightOf : QU := ([15], [], [], [], [29], [33], [])
theorem o_X0_rightOf : q_skok cX0_rightOf 2 u_X0_rightOf L_X0_rightOf = true := by decide +kernel
theorem k_X0_rightOf : q_chk RX0 fl_X0 ld_X0 u_X0_rightOf = true := by decide +kernel
def b_X0_bottomOf_0 : List QE := [(.iload_n 1, 1, []), (.iconst 3, 2, []), (.idiv, 3, []), (.iconst 4, 4, []), (.imul, 5, []), (.ireturn, 6, [])]
def L_X0_bottomOf : List (Nat × Option (List QE)) := [(0, some b_X0_bottomOf_0)]
def s_X0_bottomOf : Nat → Option (List QE) := q_look L_X0_bottomOf
theorem s_X0_bottomOf_0 : s_X0_bottomOf 0 = some b_X0_bottomOf_0 := id rfl
def u_X0_bottomOf : QU := ([], [], [], [], [], [], [])
theorem o_X0_bottomOf : q_skok cX0_bottomOf 2 u_X0_bottomOf L_X0_bottomOf = true := by decide +kernel
theorem k_X0_bottomOf : q_chk RX0 fl_X0 ld_X0 u_X0_bottomOf = true := by decide +kernel
def b_X0_topOf_0 : List QE := [(.aload_n 0, 1, []), (.getfield 19, 4, []), (.aload_n 0, 5, []), (.iload_n 1, 6, []), (.invokevirtual 38, 9, []), (.iconst 4, 10, []), (.iadd, 11, []), (.invokestatic 33, 14, []), (.ireturn, 15, [])]
def L_X0_topOf : List (Nat × Option (List QE)) := [(0, some b_X0_topOf_0)]
def s_X0_topOf : Nat → Option (List QE) := q_look L_X0_topOf
theorem s_X0_topOf_0 : s_X0_topOf 0 = some b_X0_topOf_0 := id rfl
def u_X0_topOf : QU := ([19], [], [], [], [38], [33], [])
theorem o_X0_topOf : q_skok cX0_topOf 2 u_X0_topOf L_X0_topOf = true := by decide +kernel
theorem k_X0_topOf : q_chk RX0 fl_X0 ld_X0 u_X0_topOf = true := by decide +kernel
def b_X0_around_0 : List QE := [(.iload_n 1, 1, []), (.iload_n 1, 2, []), (.sipush (-293), 5, []), (.iand, 6, []), (.iconst 1, 7, []), (.ishl, 8, []), (.ior, 9, []), (.iload_n 1, 10, []), (.bipush (-74), 12, []), (.iand, 13, []), (.iconst 1, 14, []), (.ishr, 15, []), (.ior, 16, []), (.istore_n 2, 17, []), (.iload_n 2, 18, []), (.iload_n 2, 19, []), (.iconst 3, 20, []), (.ishl, 21, []), (.ior, 22, []), (.iload_n 2, 23, []), (.iconst 3, 24, []), (.ishr, 25, []), (.ior, 26, []), (.aload_n 0, 27, []), (.getfield 22, 30, []), (.iand, 31, []), (.ireturn, 32, [])]
def L_X0_around : List (Nat × Option (List QE)) := [(0, some b_X0_around_0)]
def s_X0_around : Nat → Option (List QE) := q_look L_X0_around
theorem s_X0_around_0 : s_X0_around 0 = some b_X0_around_0 := id rfl
def u_X0_around : QU := ([22], [], [], [], [], [], [])
theorem o_X0_around : q_skok cX0_around 3 u_X0_around L_X0_around = true := by decide +kernel
theorem k_X0_around : q_chk RX0 fl_X0 ld_X0 u_X0_around = true := by decide +kernel
def b_X1_makeTile_0 : List QE := [(.aload_n 0, 1, []), (.getfield 29, 4, []), (.iload_n 2, 5, []), (.invokevirtual 41, 8, []), (.istore 4, 10, []), (.aload_n 0, 11, []), (.getfield 29, 14, []), (.iload_n 2, 15, []), (.invokevirtual 47, 18, []), (.istore 5, 20, []), (.aload_n 0, 21, []), (.getfield 29, 24, []), (.iload_n 2, 25, []), (.invokevirtual 50, 28, []), (.istore 6, 30, [])]
def b_X1_makeTile_30 : List QE := [(.iload 6, 32, []), (.iload 5, 34, []), (.if_icmp .ge 74, 37, [(0, 108)])]
def b_X1_makeTile_37 : List QE := [(.aload_n 0, 38, []), (.getfield 29, 41, []), (.iload_n 2, 42, []), (.invokevirtual 53, 45, []), (.istore 7, 47, [])]
def b_X1_makeTile_47 : List QE := [(.iload 7, 49, []), (.iload 4, 51, []), (.if_icmp .ge 51, 54, [(0, 102)])]
def b_X1_makeTile_54 : List QE := [(.aload_n 3, 55, []), (.iload 7, 57, []), (.iload 6, 59, []), (.invokestatic 56, 62, []), (.aload_n 1, 63, []), (.getfield 60, 66, []), (.bipush 10, 68, []), (.if_icmp .ne 15, 71, [(0, 83)])]
def b_X1_makeTile_71 : List QE := [(.aload_n 0, 72, []), (.aload_n 1, 73, []), (.iload 7, 75, []), (.iload 6, 77, []), (.invokevirtual 66, 80, []), (.goto 15, 83, [(0, 95)])]
def b_X1_makeTile_83 : List QE := [(.aload_n 0, 84, []), (.aload_n 1, 85, []), (.iload 7, 87, []), (.iload 6, 89, []), (.invokestatic 56, 92, []), (.invokevirtual 70, 95, [])]
def b_X1_makeTile_95 : List QE := [(.iastore, 96, []), (.iinc 7 1, 99, []), (.goto (-52), 102, [(0, 47)])]
def b_X1_makeTile_102 : List QE := [(.iinc 6 1, 105, []), (.goto (-75), 108, [(0, 30)])]
def b_X1_makeTile_108 : List QE := [(.return_, 109, [])]
def L_X1_makeTile : List (Nat × Option (List QE)) := [(0, some b_X1_makeTile_0), (30, none), (37, some b_X1_makeTile_37), (47, none), (54, some b_X1_makeTile_54), (71, some b_X1_makeTile_71), (83, some b_X1_makeTile_83), (95, some b_X1_makeTile_95), (102, some b_X1_makeTile_102), (108, some b_X1_makeTile_108)]
def s_X1_makeTile : Nat → Option (List QE) := q_look L_X1_makeTile
theorem s_X1_makeTile_0 : s_X1_makeTile 0 = some b_X1_makeTile_0 := id rfl
theorem s_X1_makeTile_30 : s_X1_makeTile 30 = none := id rfl
theorem s_X1_makeTile_37 : s_X1_makeTile 37 = some b_X1_makeTile_37 := id rfl
theorem s_X1_makeTile_47 : s_X1_makeTile 47 = none := id rfl
theorem s_X1_makeTile_54 : s_X1_makeTile 54 = some b_X1_makeTile_54 := id rfl
theorem s_X1_makeTile_71 : s_X1_makeTile 71 = some b_X1_makeTile_71 := id rfl
theorem s_X1_makeTile_83 : s_X1_makeTile 83 = some b_X1_makeTile_83 := id rfl
theorem s_X1_makeTile_95 : s_X1_makeTile 95 = some b_X1_makeTile_95 := id rfl
theorem s_X1_makeTile_102 : s_X1_makeTile 102 = some b_X1_makeTile_102 := id rfl
theorem s_X1_makeTile_108 : s_X1_makeTile 108 = some b_X1_makeTile_108 := id rfl
def u_X1_makeTile : QU := ([29, 60], [], [], [], [41, 47, 50, 53, 66, 70], [56], [])
theorem o_X1_makeTile : q_skok cX1_makeTile 8 u_X1_makeTile L_X1_makeTile = true := by decide +kernel
theorem o_X1_makeTile_30 : q_ok cX1_makeTile 8 u_X1_makeTile 30 b_X1_makeTile_30 = true := by decide +kernel
theorem o_X1_makeTile_47 : q_ok cX1_makeTile 8 u_X1_makeTile 47 b_X1_makeTile_47 = true := by decide +kernel
theorem k_X1_makeTile : q_chk RX1 fl_X1 ld_X1 u_X1_makeTile = true := by decide +kernel
def b_X1_makeWhole_0 : List QE := [(.aload_n 0, 1, []), (.getfield 37, 4, []), (.aload_n 1, 5, []), (.getfield 74, 8, []), (.iconst 0, 9, []), (.iaload, 10, []), (.aaload, 11, []), (.astore_n 3, 12, []), (.aload_n 0, 13, []), (.getfield 37, 16, []), (.aload_n 1, 17, []), (.getfield 74, 20, []), (.iconst 1, 21, []), (.iaload, 22, []), (.aaload, 23, []), (.astore 4, 25, []), (.aload_n 1, 26, []), (.getfield 60, 29, []), (.lookupswitch 53 #[(7, 42), (11, 27)], 56, [(7, 71), (11, 56), (0, 82)])]
def b_X1_makeWhole_56 : List QE := [(.aload_n 0, 57, []), (.aload_n 1, 58, []), (.getfield 77, 61, []), (.aload_n 3, 62, []), (.aload 4, 64, []), (.aload_n 2, 65, []), (.invokevirtual 80, 68, []), (.goto 20, 71, [(0, 88)])]
def b_X1_makeWhole_71 : List QE := [(.aload_n 0, 72, []), (.aload_n 3, 73, []), (.aload 4, 75, []), (.aload_n 2, 76, []), (.invokevirtual 84, 79, []), (.goto 9, 82, [(0, 88)])]
def b_X1_makeWhole_82 : List QE := [(.aload_n 0, 83, []), (.aload_n 3, 84, []), (.aload_n 2, 85, []), (.invokevirtual 88, 88, [])]
def b_X1_makeWhole_88 : List QE := [(.return_, 89, [])]
def L_X1_makeWhole : List (Nat × Option (List QE)) := [(0, some b_X1_makeWhole_0), (56, some b_X1_makeWhole_56), (71, some b_X1_makeWhole_71), (82, some b_X1_makeWhole_82), (88, some b_X1_makeWhole_88)]
def s_X1_makeWhole : Nat → Option (List QE) := q_look L_X1_makeWhole
theorem s_X1_makeWhole_0 : s_X1_makeWhole 0 = some b_X1_makeWhole_0 := id rfl
theorem s_X1_makeWhole_56 : s_X1_makeWhole 56 = some b_X1_makeWhole_56 := id rfl
theorem s_X1_makeWhole_71 : s_X1_makeWhole 71 = some b_X1_makeWhole_71 := id rfl
theorem s_X1_makeWhole_82 : s_X1_makeWhole 82 = some b_X1_makeWhole_82 := id rfl
theorem s_X1_makeWhole_88 : s_X1_makeWhole 88 = some b_X1_makeWhole_88 := id rfl
def u_X1_makeWhole : QU := ([37, 74, 60, 77], [], [], [], [80, 84, 88], [], [])
theorem o_X1_makeWhole : q_skok cX1_makeWhole 5 u_X1_makeWhole L_X1_makeWhole = true := by decide +kernel
theorem k_X1_makeWhole : q_chk RX1 fl_X1 ld_X1 u_X1_makeWhole = true := by decide +kernel
def b_X1_single_0 : List QE := [(.aload_n 1, 1, []), (.getfield 60, 4, []), (.ifCond .ne 18, 7, [(0, 22)])]
def b_X1_single_7 : List QE := [(.aload_n 0, 8, []), (.getfield 33, 11, []), (.getfield 92, 14, []), (.aload_n 1, 15, []), (.getfield 97, 18, []), (.aaload, 19, []), (.iload_n 2, 20, []), (.iaload, 21, []), (.ireturn, 22, [])]
def b_X1_single_22 : List QE := [(.aload_n 0, 23, []), (.getfield 37, 26, []), (.aload_n 1, 27, []), (.getfield 74, 30, []), (.iconst 0, 31, []), (.iaload, 32, []), (.aaload, 33, []), (.iload_n 2, 34, []), (.iaload, 35, []), (.istore_n 3, 36, []), (.aload_n 1, 37, []), (.getfield 60, 40, []), (.bipush 9, 42, []), (.if_icmp .ne 18, 45, [(0, 60)])]
def b_X1_single_45 : List QE := [(.iload_n 3, 46, []), (.ldc 100, 48, []), (.if_icmp .ne 10, 51, [(0, 58)])]
def b_X1_single_51 : List QE := [(.aload_n 1, 52, []), (.getfield 97, 55, []), (.goto 4, 58, [(0, 59)])]
def b_X1_single_58 : List QE := [(.iload_n 3, 59, [])]
def b_X1_single_59 : List QE := [(.ireturn, 60, [])]
def b_X1_single_60 : List QE := [(.aload_n 0, 61, []), (.getfield 37, 64, []), (.aload_n 1, 65, []), (.getfield 74, 68, []), (.iconst 1, 69, []), (.iaload, 70, []), (.aaload, 71, []), (.iload_n 2, 72, []), (.iaload, 73, []), (.istore 4, 75, []), (.aload_n 1, 76, []), (.getfield 60, 79, []), (.bipush 8, 81, []), (.if_icmp .ne 41, 84, [(0, 122)])]
def b_X1_single_84 : List QE := [(.aload_n 0, 85, []), (.getfield 37, 88, []), (.aload_n 1, 89, []), (.getfield 74, 92, []), (.iconst 2, 93, []), (.iaload, 94, []), (.aaload, 95, []), (.iload_n 2, 96, []), (.iaload, 97, []), (.istore 5, 99, []), (.iload_n 3, 100, []), (.ldc 100, 102, []), (.if_icmp .ne 8, 105, [(0, 110)])]
def b_X1_single_105 : List QE := [(.ldc 100, 107, []), (.goto 14, 110, [(0, 121)])]
def b_X1_single_110 : List QE := [(.iload_n 3, 111, []), (.ifCond .le 8, 114, [(0, 119)])]
def b_X1_single_114 : List QE := [(.iload 4, 116, []), (.goto 5, 119, [(0, 121)])]
def b_X1_single_119 : List QE := [(.iload 5, 121, [])]
def b_X1_single_121 : List QE := [(.ireturn, 122, [])]
def b_X1_single_122 : List QE := [(.iload_n 3, 123, []), (.ldc 100, 125, []), (.if_icmp .eq 10, 128, [(0, 135)])]
def b_X1_single_128 : List QE := [(.iload 4, 130, []), (.ldc 100, 132, []), (.if_icmp .ne 8, 135, [(0, 140)])]
def b_X1_single_135 : List QE := [(.ldc 100, 137, []), (.goto 13, 140, [(0, 150)])]
def b_X1_single_140 : List QE := [(.aload_n 1, 141, []), (.getfield 60, 144, []), (.iload_n 3, 145, []), (.iload 4, 147, []), (.invokestatic 101, 150, [])]
def b_X1_single_150 : List QE := [(.ireturn, 151, [])]
def L_X1_single : List (Nat × Option (List QE)) := [(0, some b_X1_single_0), (7, some b_X1_single_7), (22, some b_X1_single_22), (45, some b_X1_single_45), (51, some b_X1_single_51), (58, some b_X1_single_58), (59, some b_X1_single_59), (60, some b_X1_single_60), (84, some b_X1_single_84), (105, some b_X1_single_105), (110, some b_X1_single_110), (114, some b_X1_single_114), (119, some b_X1_single_119), (121, some b_X1_single_121), (122, some b_X1_single_122), (128, some b_X1_single_128), (135, some b_X1_single_135), (140, some b_X1_single_140), (150, some b_X1_single_150)]
def s_X1_single : Nat → Option (List QE) := q_look L_X1_single
theorem s_X1_single_0 : s_X1_single 0 = some b_X1_single_0 := id rfl
theorem s_X1_single_7 : s_X1_single 7 = some b_X1_single_7 := id rfl
theorem s_X1_single_22 : s_X1_single 22 = some b_X1_single_22 := id rfl
theorem s_X1_single_45 : s_X1_single 45 = some b_X1_single_45 := id rfl
theorem s_X1_single_51 : s_X1_single 51 = some b_X1_single_51 := id rfl
theorem s_X1_single_58 : s_X1_single 58 = some b_X1_single_58 := id rfl
theorem s_X1_single_59 : s_X1_single 59 = some b_X1_single_59 := id rfl
theorem s_X1_single_60 : s_X1_single 60 = some b_X1_single_60 := id rfl
theorem s_X1_single_84 : s_X1_single 84 = some b_X1_single_84 := id rfl
theorem s_X1_single_105 : s_X1_single 105 = some b_X1_single_105 := id rfl
theorem s_X1_single_110 : s_X1_single 110 = some b_X1_single_110 := id rfl
theorem s_X1_single_114 : s_X1_single 114 = some b_X1_single_114 := id rfl
theorem s_X1_single_119 : s_X1_single 119 = some b_X1_single_119 := id rfl
theorem s_X1_single_121 : s_X1_single 121 = some b_X1_single_121 := id rfl
theorem s_X1_single_122 : s_X1_single 122 = some b_X1_single_122 := id rfl
theorem s_X1_single_128 : s_X1_single 128 = some b_X1_single_128 := id rfl
theorem s_X1_single_135 : s_X1_single 135 = some b_X1_single_135 := id rfl
theorem s_X1_single_140 : s_X1_single 140 = some b_X1_single_140 := id rfl
theorem s_X1_single_150 : s_X1_single 150 = some b_X1_single_150 := id rfl
def u_X1_single : QU := ([60, 33, 92, 97, 37, 74], [], [100], [], [], [101], [])
theorem o_X1_single : q_skok cX1_single 6 u_X1_single L_X1_single = true := by decide +kernel
theorem k_X1_single : q_chk RX1 fl_X1 ld_X1 u_X1_single = true := by decide +kernel
def b_X1_ofBoth_0 : List QE := [(.iload_n 0, 1, []), (.tableswitch 83 1 6 #[50, 59, 68, 77, 83, 39], 40, [(1, 51), (2, 60), (3, 69), (4, 78), (5, 84), (6, 40), (0, 84)])]
def b_X1_ofBoth_40 : List QE := [(.iload_n 2, 41, []), (.ifCond .le 7, 44, [(0, 48)])]
def b_X1_ofBoth_44 : List QE := [(.iload_n 1, 45, []), (.goto 5, 48, [(0, 50)])]
def b_X1_ofBoth_48 : List QE := [(.ldc 100, 50, [])]
def b_X1_ofBoth_50 : List QE := [(.ireturn, 51, [])]
def b_X1_ofBoth_51 : List QE := [(.iload_n 1, 52, []), (.i2l, 53, []), (.iload_n 2, 54, []), (.i2l, 55, []), (.ladd, 56, []), (.invokestatic 105, 59, []), (.ireturn, 60, [])]
def b_X1_ofBoth_60 : List QE := [(.iload_n 1, 61, []), (.i2l, 62, []), (.iload_n 2, 63, []), (.i2l, 64, []), (.lsub, 65, []), (.invokestatic 105, 68, []), (.ireturn, 69, [])]
def b_X1_ofBoth_69 : List QE := [(.iload_n 1, 70, []), (.i2l, 71, []), (.iload_n 2, 72, []), (.i2l, 73, []), (.lmul, 74, []), (.invokestatic 105, 77, []), (.ireturn, 78, [])]
def b_X1_ofBoth_78 : List QE := [(.iload_n 1, 79, []), (.iload_n 2, 80, []), (.invokestatic 109, 83, []), (.ireturn, 84, [])]
def b_X1_ofBoth_84 : List QE := [(.iload_n 1, 85, []), (.iload_n 2, 86, []), (.invokestatic 114, 89, []), (.ireturn, 90, [])]
def L_X1_ofBoth : List (Nat × Option (List QE)) := [(0, some b_X1_ofBoth_0), (40, some b_X1_ofBoth_40), (44, some b_X1_ofBoth_44), (48, some b_X1_ofBoth_48), (50, some b_X1_ofBoth_50), (51, some b_X1_ofBoth_51), (60, some b_X1_ofBoth_60), (69, some b_X1_ofBoth_69), (78, some b_X1_ofBoth_78), (84, some b_X1_ofBoth_84)]
def s_X1_ofBoth : Nat → Option (List QE) := q_look L_X1_ofBoth
theorem s_X1_ofBoth_0 : s_X1_ofBoth 0 = some b_X1_ofBoth_0 := id rfl
theorem s_X1_ofBoth_40 : s_X1_ofBoth 40 = some b_X1_ofBoth_40 := id rfl
theorem s_X1_ofBoth_44 : s_X1_ofBoth 44 = some b_X1_ofBoth_44 := id rfl
theorem s_X1_ofBoth_48 : s_X1_ofBoth 48 = some b_X1_ofBoth_48 := id rfl
theorem s_X1_ofBoth_50 : s_X1_ofBoth 50 = some b_X1_ofBoth_50 := id rfl
theorem s_X1_ofBoth_51 : s_X1_ofBoth 51 = some b_X1_ofBoth_51 := id rfl
theorem s_X1_ofBoth_60 : s_X1_ofBoth 60 = some b_X1_ofBoth_60 := id rfl
theorem s_X1_ofBoth_69 : s_X1_ofBoth 69 = some b_X1_ofBoth_69 := id rfl
theorem s_X1_ofBoth_78 : s_X1_ofBoth 78 = some b_X1_ofBoth_78 := id rfl
theorem s_X1_ofBoth_84 : s_X1_ofBoth 84 = some b_X1_ofBoth_84 := id rfl
def u_X1_ofBoth : QU := ([], [], [100], [], [], [105, 109, 114], [])
theorem o_X1_ofBoth : q_skok cX1_ofBoth 3 u_X1_ofBoth L_X1_ofBoth = true := by decide +kernel
theorem k_X1_ofBoth : q_chk RX1 fl_X1 ld_X1 u_X1_ofBoth = true := by decide +kernel
def b_X1_near_0 : List QE := [(.aload_n 0, 1, []), (.getfield 37, 4, []), (.aload_n 1, 5, []), (.getfield 74, 8, []), (.iconst 0, 9, []), (.iaload, 10, []), (.aaload, 11, []), (.astore 4, 13, []), (.aload_n 1, 14, []), (.getfield 97, 17, []), (.istore 5, 19, []), (.aload_n 0, 20, []), (.getfield 29, 23, []), (.getfield 117, 26, []), (.iconst 1, 27, []), (.isub, 28, []), (.iload_n 2, 29, []), (.iload 5, 31, []), (.iadd, 32, []), (.invokestatic 109, 35, []), (.istore 6, 37, []), (.aload_n 0, 38, []), (.getfield 29, 41, []), (.getfield 120, 44, []), (.iconst 1, 45, []), (.isub, 46, []), (.iload_n 3, 47, []), (.iload 5, 49, []), (.iadd, 50, []), (.invokestatic 109, 53, []), (.istore 7, 55, []), (.aload_n 0, 56, []), (.getfield 12, 59, []), (.invokevirtual 123, 62, []), (.iconst 0, 63, []), (.iload_n 3, 64, []), (.iload 5, 66, []), (.isub, 67, []), (.invokestatic 114, 70, []), (.istore 8, 72, [])]
def b_X1_near_72 : List QE := [(.iload 8, 74, []), (.iload 7, 76, []), (.if_icmp .gt 49, 79, [(0, 125)])]
def b_X1_near_79 : List QE := [(.iconst 0, 80, []), (.iload_n 2, 81, []), (.iload 5, 83, []), (.isub, 84, []), (.invokestatic 114, 87, []), (.istore 9, 89, [])]
def b_X1_near_89 : List QE := [(.iload 9, 91, []), (.iload 6, 93, []), (.if_icmp .gt 26, 96, [(0, 119)])]
def b_X1_near_96 : List QE := [(.aload_n 0, 97, []), (.getfield 12, 100, []), (.aload 4, 102, []), (.iload 9, 104, []), (.iload 8, 106, []), (.invokestatic 56, 109, []), (.iaload, 110, []), (.invokevirtual 126, 113, []), (.iinc 9 1, 116, []), (.goto (-27), 119, [(0, 89)])]
def b_X1_near_119 : List QE := [(.iinc 8 1, 122, []), (.goto (-50), 125, [(0, 72)])]
def b_X1_near_125 : List QE := [(.aload_n 0, 126, []), (.getfield 12, 129, []), (.aload_n 1, 130, []), (.getfield 77, 133, []), (.invokevirtual 130, 136, []), (.ireturn, 137, [])]
def L_X1_near : List (Nat × Option (List QE)) := [(0, some b_X1_near_0), (72, none), (79, some b_X1_near_79), (89, none), (96, some b_X1_near_96), (119, some b_X1_near_119), (125, some b_X1_near_125)]
def s_X1_near : Nat → Option (List QE) := q_look L_X1_near
theorem s_X1_near_0 : s_X1_near 0 = some b_X1_near_0 := id rfl
theorem s_X1_near_72 : s_X1_near 72 = none := id rfl
theorem s_X1_near_79 : s_X1_near 79 = some b_X1_near_79 := id rfl
theorem s_X1_near_89 : s_X1_near 89 = none := id rfl
theorem s_X1_near_96 : s_X1_near 96 = some b_X1_near_96 := id rfl
theorem s_X1_near_119 : s_X1_near 119 = some b_X1_near_119 := id rfl
theorem s_X1_near_125 : s_X1_near 125 = some b_X1_near_125 := id rfl
def u_X1_near : QU := ([37, 74, 97, 29, 117, 120, 12, 77], [], [], [], [123, 126, 130], [109, 114, 56], [])
theorem o_X1_near : q_skok cX1_near 10 u_X1_near L_X1_near = true := by decide +kernel
theorem o_X1_near_72 : q_ok cX1_near 10 u_X1_near 72 b_X1_near_72 = true := by decide +kernel
theorem o_X1_near_89 : q_ok cX1_near 10 u_X1_near 89 b_X1_near_89 = true := by decide +kernel
theorem k_X1_near : q_chk RX1 fl_X1 ld_X1 u_X1_near = true := by decide +kernel
def b_X1_zones_0 : List QE := [(.bipush 15, 2, []), (.istore 5, 4, [])]
def b_X1_zones_4 : List QE := [(.iload 5, 6, []), (.sipush 180, 9, []), (.if_icmp .gt 37, 12, [(0, 46)])]
def b_X1_zones_12 : List QE := [(.aload_n 0, 13, []), (.getfield 25, 16, []), (.iload 5, 18, []), (.aload_n 3, 19, []), (.iload 5, 21, []), (.iaload, 22, []), (.ldc 100, 24, []), (.if_icmp .ne 7, 27, [(0, 31)])]
def b_X1_zones_27 : List QE := [(.iconst 1, 28, []), (.goto 4, 31, [(0, 32)])]
def b_X1_zones_31 : List QE := [(.iconst 0, 32, [])]
def b_X1_zones_32 : List QE := [(.bastore, 33, []), (.aload 4, 35, []), (.iload 5, 37, []), (.ldc 100, 39, []), (.iastore, 40, []), (.iinc 5 1, 43, []), (.goto (-39), 46, [(0, 4)])]
def b_X1_zones_46 : List QE := [(.bipush 15, 48, []), (.istore 5, 50, [])]
def b_X1_zones_50 : List QE := [(.iload 5, 52, []), (.sipush 180, 55, []), (.if_icmp .gt 44, 58, [(0, 99)])]
def b_X1_zones_58 : List QE := [(.aload_n 0, 59, []), (.getfield 25, 62, []), (.iload 5, 64, []), (.baload, 65, []), (.ifCond .ne 28, 68, [(0, 93)])]
def b_X1_zones_68 : List QE := [(.aload_n 0, 69, []), (.aload_n 2, 70, []), (.aload_n 3, 71, []), (.iload 5, 73, []), (.invokevirtual 133, 76, []), (.aload_n 0, 77, []), (.aload_n 0, 78, []), (.getfield 12, 81, []), (.iload_n 1, 82, []), (.invokevirtual 130, 85, []), (.aload_n 3, 86, []), (.iload 5, 88, []), (.aload 4, 90, []), (.invokevirtual 137, 93, [])]
def b_X1_zones_93 : List QE := [(.iinc 5 1, 96, []), (.goto (-46), 99, [(0, 50)])]
def b_X1_zones_99 : List QE := [(.return_, 100, [])]
def L_X1_zones : List (Nat × Option (List QE)) := [(0, some b_X1_zones_0), (4, none), (12, some b_X1_zones_12), (27, some b_X1_zones_27), (31, some b_X1_zones_31), (32, some b_X1_zones_32), (46, some b_X1_zones_46), (50, none), (58, some b_X1_zones_58), (68, some b_X1_zones_68), (93, some b_X1_zones_93), (99, some b_X1_zones_99)]
def s_X1_zones : Nat → Option (List QE) := q_look L_X1_zones
theorem s_X1_zones_0 : s_X1_zones 0 = some b_X1_zones_0 := id rfl
theorem s_X1_zones_4 : s_X1_zones 4 = none := id rfl
theorem s_X1_zones_12 : s_X1_zones 12 = some b_X1_zones_12 := id rfl
theorem s_X1_zones_27 : s_X1_zones 27 = some b_X1_zones_27 := id rfl
theorem s_X1_zones_31 : s_X1_zones 31 = some b_X1_zones_31 := id rfl
theorem s_X1_zones_32 : s_X1_zones 32 = some b_X1_zones_32 := id rfl
theorem s_X1_zones_46 : s_X1_zones 46 = some b_X1_zones_46 := id rfl
theorem s_X1_zones_50 : s_X1_zones 50 = none := id rfl
theorem s_X1_zones_58 : s_X1_zones 58 = some b_X1_zones_58 := id rfl
theorem s_X1_zones_68 : s_X1_zones 68 = some b_X1_zones_68 := id rfl
theorem s_X1_zones_93 : s_X1_zones 93 = some b_X1_zones_93 := id rfl
theorem s_X1_zones_99 : s_X1_zones 99 = some b_X1_zones_99 := id rfl
def u_X1_zones : QU := ([25, 12], [], [100], [], [133, 130, 137], [], [])
theorem o_X1_zones : q_skok cX1_zones 6 u_X1_zones L_X1_zones = true := by decide +kernel
theorem o_X1_zones_50 : q_ok cX1_zones 6 u_X1_zones 50 b_X1_zones_50 = true := by decide +kernel
theorem o_X1_zones_4 : q_ok cX1_zones 6 u_X1_zones 4 b_X1_zones_4 = true := by decide +kernel
theorem k_X1_zones : q_chk RX1 fl_X1 ld_X1 u_X1_zones = true := by decide +kernel
def b_X1_tallyZone_0 : List QE := [(.aload_n 0, 1, []), (.getfield 12, 4, []), (.invokevirtual 123, 7, []), (.iload_n 3, 8, []), (.istore 4, 10, [])]
def b_X1_tallyZone_10 : List QE := [(.iload 4, 12, []), (.sipush 180, 15, []), (.if_icmp .gt 30, 18, [(0, 45)])]
def b_X1_tallyZone_18 : List QE := [(.aload_n 2, 19, []), (.iload 4, 21, []), (.iaload, 22, []), (.aload_n 2, 23, []), (.iload_n 3, 24, []), (.iaload, 25, []), (.if_icmp .ne 14, 28, [(0, 39)])]
def b_X1_tallyZone_28 : List QE := [(.aload_n 0, 29, []), (.getfield 12, 32, []), (.aload_n 1, 33, []), (.iload 4, 35, []), (.iaload, 36, []), (.invokevirtual 126, 39, [])]
def b_X1_tallyZone_39 : List QE := [(.iinc 4 1, 42, []), (.goto (-32), 45, [(0, 10)])]
def b_X1_tallyZone_45 : List QE := [(.return_, 46, [])]
def L_X1_tallyZone : List (Nat × Option (List QE)) := [(0, some b_X1_tallyZone_0), (10, none), (18, some b_X1_tallyZone_18), (28, some b_X1_tallyZone_28), (39, some b_X1_tallyZone_39), (45, some b_X1_tallyZone_45)]
def s_X1_tallyZone : Nat → Option (List QE) := q_look L_X1_tallyZone
theorem s_X1_tallyZone_0 : s_X1_tallyZone 0 = some b_X1_tallyZone_0 := id rfl
theorem s_X1_tallyZone_10 : s_X1_tallyZone 10 = none := id rfl
theorem s_X1_tallyZone_18 : s_X1_tallyZone 18 = some b_X1_tallyZone_18 := id rfl
theorem s_X1_tallyZone_28 : s_X1_tallyZone 28 = some b_X1_tallyZone_28 := id rfl
theorem s_X1_tallyZone_39 : s_X1_tallyZone 39 = some b_X1_tallyZone_39 := id rfl
theorem s_X1_tallyZone_45 : s_X1_tallyZone 45 = some b_X1_tallyZone_45 := id rfl
def u_X1_tallyZone : QU := ([12], [], [], [], [123, 126], [], [])
theorem o_X1_tallyZone : q_skok cX1_tallyZone 5 u_X1_tallyZone L_X1_tallyZone = true := by decide +kernel
theorem o_X1_tallyZone_10 : q_ok cX1_tallyZone 5 u_X1_tallyZone 10 b_X1_tallyZone_10 = true := by decide +kernel
theorem k_X1_tallyZone : q_chk RX1 fl_X1 ld_X1 u_X1_tallyZone = true := by decide +kernel
def b_X1_fillZone_0 : List QE := [(.iload_n 3, 1, []), (.istore 5, 3, [])]
def b_X1_fillZone_3 : List QE := [(.iload 5, 5, []), (.sipush 180, 8, []), (.if_icmp .gt 33, 11, [(0, 41)])]
def b_X1_fillZone_11 : List QE := [(.aload_n 2, 12, []), (.iload 5, 14, []), (.iaload, 15, []), (.aload_n 2, 16, []), (.iload_n 3, 17, []), (.iaload, 18, []), (.if_icmp .ne 17, 21, [(0, 35)])]
def b_X1_fillZone_21 : List QE := [(.aload 4, 23, []), (.iload 5, 25, []), (.iload_n 1, 26, []), (.iastore, 27, []), (.aload_n 0, 28, []), (.getfield 25, 31, []), (.iload 5, 33, []), (.iconst 1, 34, []), (.bastore, 35, [])]
def b_X1_fillZone_35 : List QE := [(.iinc 5 1, 38, []), (.goto (-35), 41, [(0, 3)])]
def b_X1_fillZone_41 : List QE := [(.return_, 42, [])]
def L_X1_fillZone : List (Nat × Option (List QE)) := [(0, some b_X1_fillZone_0), (3, none), (11, some b_X1_fillZone_11), (21, some b_X1_fillZone_21), (35, some b_X1_fillZone_35), (41, some b_X1_fillZone_41)]
def s_X1_fillZone : Nat → Option (List QE) := q_look L_X1_fillZone
theorem s_X1_fillZone_0 : s_X1_fillZone 0 = some b_X1_fillZone_0 := id rfl
theorem s_X1_fillZone_3 : s_X1_fillZone 3 = none := id rfl
theorem s_X1_fillZone_11 : s_X1_fillZone 11 = some b_X1_fillZone_11 := id rfl
theorem s_X1_fillZone_21 : s_X1_fillZone 21 = some b_X1_fillZone_21 := id rfl
theorem s_X1_fillZone_35 : s_X1_fillZone 35 = some b_X1_fillZone_35 := id rfl
theorem s_X1_fillZone_41 : s_X1_fillZone 41 = some b_X1_fillZone_41 := id rfl
def u_X1_fillZone : QU := ([25], [], [], [], [], [], [])
theorem o_X1_fillZone : q_skok cX1_fillZone 6 u_X1_fillZone L_X1_fillZone = true := by decide +kernel
theorem o_X1_fillZone_3 : q_ok cX1_fillZone 6 u_X1_fillZone 3 b_X1_fillZone_3 = true := by decide +kernel
theorem k_X1_fillZone : q_chk RX1 fl_X1 ld_X1 u_X1_fillZone = true := by decide +kernel
def b_X1_ways_0 : List QE := [(.bipush 15, 2, []), (.istore 4, 4, [])]
def b_X1_ways_4 : List QE := [(.iload 4, 6, []), (.sipush 180, 9, []), (.if_icmp .gt 35, 12, [(0, 44)])]
def b_X1_ways_12 : List QE := [(.aload_n 3, 13, []), (.iload 4, 15, []), (.aload_n 2, 16, []), (.iload 4, 18, []), (.iaload, 19, []), (.ldc 100, 21, []), (.if_icmp .eq 14, 24, [(0, 35)])]
def b_X1_ways_24 : List QE := [(.aload_n 1, 25, []), (.iload 4, 27, []), (.iaload, 28, []), (.ifCond .le 7, 31, [(0, 35)])]
def b_X1_ways_31 : List QE := [(.iconst 0, 32, []), (.goto 5, 35, [(0, 37)])]
def b_X1_ways_35 : List QE := [(.ldc 100, 37, [])]
def b_X1_ways_37 : List QE := [(.iastore, 38, []), (.iinc 4 1, 41, []), (.goto (-37), 44, [(0, 4)])]
def b_X1_ways_44 : List QE := [(.iconst 1, 45, []), (.istore 4, 47, []), (.iconst 0, 48, []), (.istore 5, 50, [])]
def b_X1_ways_50 : List QE := [(.iload 4, 52, []), (.ifCond .eq 102, 55, [(0, 154)])]
def b_X1_ways_55 : List QE := [(.iload 5, 57, []), (.sipush 196, 60, []), (.if_icmp .ge 94, 63, [(0, 154)])]
def b_X1_ways_63 : List QE := [(.iconst 0, 64, []), (.istore 4, 66, []), (.bipush 15, 68, []), (.istore 6, 70, [])]
def b_X1_ways_70 : List QE := [(.iload 6, 72, []), (.sipush 180, 75, []), (.if_icmp .gt 32, 78, [(0, 107)])]
def b_X1_ways_78 : List QE := [(.aload_n 0, 79, []), (.aload_n 2, 80, []), (.aload_n 3, 81, []), (.iload 6, 83, []), (.invokevirtual 141, 86, []), (.ifCond .ne 8, 89, [(0, 94)])]
def b_X1_ways_89 : List QE := [(.iload 4, 91, []), (.ifCond .eq 7, 94, [(0, 98)])]
def b_X1_ways_94 : List QE := [(.iconst 1, 95, []), (.goto 4, 98, [(0, 99)])]
def b_X1_ways_98 : List QE := [(.iconst 0, 99, [])]
def b_X1_ways_99 : List QE := [(.istore 4, 101, []), (.iinc 6 1, 104, []), (.goto (-34), 107, [(0, 70)])]
def b_X1_ways_107 : List QE := [(.sipush 180, 110, []), (.istore 6, 112, [])]
def b_X1_ways_112 : List QE := [(.iload 6, 114, []), (.bipush 15, 116, []), (.if_icmp .lt 32, 119, [(0, 148)])]
def b_X1_ways_119 : List QE := [(.aload_n 0, 120, []), (.aload_n 2, 121, []), (.aload_n 3, 122, []), (.iload 6, 124, []), (.invokevirtual 141, 127, []), (.ifCond .ne 8, 130, [(0, 135)])]
def b_X1_ways_130 : List QE := [(.iload 4, 132, []), (.ifCond .eq 7, 135, [(0, 139)])]
def b_X1_ways_135 : List QE := [(.iconst 1, 136, []), (.goto 4, 139, [(0, 140)])]
def b_X1_ways_139 : List QE := [(.iconst 0, 140, [])]
def b_X1_ways_140 : List QE := [(.istore 4, 142, []), (.iinc 6 (-1), 145, []), (.goto (-33), 148, [(0, 112)])]
def b_X1_ways_148 : List QE := [(.iinc 5 1, 151, []), (.goto (-101), 154, [(0, 50)])]
def b_X1_ways_154 : List QE := [(.return_, 155, [])]
def L_X1_ways : List (Nat × Option (List QE)) := [(0, some b_X1_ways_0), (4, none), (12, some b_X1_ways_12), (24, some b_X1_ways_24), (31, some b_X1_ways_31), (35, some b_X1_ways_35), (37, some b_X1_ways_37), (44, some b_X1_ways_44), (50, none), (55, some b_X1_ways_55), (63, some b_X1_ways_63), (70, none), (78, some b_X1_ways_78), (89, some b_X1_ways_89), (94, some b_X1_ways_94), (98, some b_X1_ways_98), (99, some b_X1_ways_99), (107, some b_X1_ways_107), (112, none), (119, some b_X1_ways_119), (130, some b_X1_ways_130), (135, some b_X1_ways_135), (139, some b_X1_ways_139), (140, some b_X1_ways_140), (148, some b_X1_ways_148), (154, some b_X1_ways_154)]
def s_X1_ways : Nat → Option (List QE) := q_look L_X1_ways
theorem s_X1_ways_0 : s_X1_ways 0 = some b_X1_ways_0 := id rfl
theorem s_X1_ways_4 : s_X1_ways 4 = none := id rfl
theorem s_X1_ways_12 : s_X1_ways 12 = some b_X1_ways_12 := id rfl
theorem s_X1_ways_24 : s_X1_ways 24 = some b_X1_ways_24 := id rfl
theorem s_X1_ways_31 : s_X1_ways 31 = some b_X1_ways_31 := id rfl
theorem s_X1_ways_35 : s_X1_ways 35 = some b_X1_ways_35 := id rfl
theorem s_X1_ways_37 : s_X1_ways 37 = some b_X1_ways_37 := id rfl
theorem s_X1_ways_44 : s_X1_ways 44 = some b_X1_ways_44 := id rfl
theorem s_X1_ways_50 : s_X1_ways 50 = none := id rfl
theorem s_X1_ways_55 : s_X1_ways 55 = some b_X1_ways_55 := id rfl
theorem s_X1_ways_63 : s_X1_ways 63 = some b_X1_ways_63 := id rfl
theorem s_X1_ways_70 : s_X1_ways 70 = none := id rfl
theorem s_X1_ways_78 : s_X1_ways 78 = some b_X1_ways_78 := id rfl
theorem s_X1_ways_89 : s_X1_ways 89 = some b_X1_ways_89 := id rfl
theorem s_X1_ways_94 : s_X1_ways 94 = some b_X1_ways_94 := id rfl
theorem s_X1_ways_98 : s_X1_ways 98 = some b_X1_ways_98 := id rfl
theorem s_X1_ways_99 : s_X1_ways 99 = some b_X1_ways_99 := id rfl
theorem s_X1_ways_107 : s_X1_ways 107 = some b_X1_ways_107 := id rfl
theorem s_X1_ways_112 : s_X1_ways 112 = none := id rfl
theorem s_X1_ways_119 : s_X1_ways 119 = some b_X1_ways_119 := id rfl
theorem s_X1_ways_130 : s_X1_ways 130 = some b_X1_ways_130 := id rfl
theorem s_X1_ways_135 : s_X1_ways 135 = some b_X1_ways_135 := id rfl
theorem s_X1_ways_139 : s_X1_ways 139 = some b_X1_ways_139 := id rfl
theorem s_X1_ways_140 : s_X1_ways 140 = some b_X1_ways_140 := id rfl
theorem s_X1_ways_148 : s_X1_ways 148 = some b_X1_ways_148 := id rfl
theorem s_X1_ways_154 : s_X1_ways 154 = some b_X1_ways_154 := id rfl
def u_X1_ways : QU := ([], [], [100], [], [141], [], [])
theorem o_X1_ways : q_skok cX1_ways 7 u_X1_ways L_X1_ways = true := by decide +kernel
theorem o_X1_ways_112 : q_ok cX1_ways 7 u_X1_ways 112 b_X1_ways_112 = true := by decide +kernel
theorem o_X1_ways_50 : q_ok cX1_ways 7 u_X1_ways 50 b_X1_ways_50 = true := by decide +kernel
theorem o_X1_ways_4 : q_ok cX1_ways 7 u_X1_ways 4 b_X1_ways_4 = true := by decide +kernel
theorem o_X1_ways_70 : q_ok cX1_ways 7 u_X1_ways 70 b_X1_ways_70 = true := by decide +kernel
theorem k_X1_ways : q_chk RX1 fl_X1 ld_X1 u_X1_ways = true := by decide +kernel
def b_X1_shorten_0 : List QE := [(.aload_n 1, 1, []), (.iload_n 3, 2, []), (.iaload, 3, []), (.ldc 100, 5, []), (.if_icmp .eq 9, 8, [(0, 14)])]
def b_X1_shorten_8 : List QE := [(.aload_n 2, 9, []), (.iload_n 3, 10, []), (.iaload, 11, []), (.ifCond .ne 5, 14, [(0, 16)])]
def b_X1_shorten_14 : List QE := [(.iconst 0, 15, []), (.ireturn, 16, [])]
def b_X1_shorten_16 : List QE := [(.aload_n 2, 17, []), (.iload_n 3, 18, []), (.iaload, 19, []), (.ldc 100, 21, []), (.if_icmp .ne 8, 24, [(0, 29)])]
def b_X1_shorten_24 : List QE := [(.ldc 145, 26, []), (.goto 6, 29, [(0, 32)])]
def b_X1_shorten_29 : List QE := [(.aload_n 2, 30, []), (.iload_n 3, 31, []), (.iaload, 32, [])]
def b_X1_shorten_32 : List QE := [(.istore 4, 34, []), (.iload 4, 36, []), (.istore 5, 38, []), (.iconst 0, 39, []), (.aload_n 1, 40, []), (.iload_n 3, 41, []), (.iaload, 42, []), (.invokestatic 114, 45, []), (.istore 6, 47, []), (.iconst 0, 48, []), (.istore 7, 50, [])]
def b_X1_shorten_50 : List QE := [(.iload 7, 52, []), (.aload_n 0, 53, []), (.getfield 18, 56, []), (.arraylength, 57, []), (.if_icmp .ge 46, 60, [(0, 103)])]
def b_X1_shorten_60 : List QE := [(.aload_n 2, 61, []), (.iload_n 3, 62, []), (.aload_n 0, 63, []), (.getfield 18, 66, []), (.iload 7, 68, []), (.iaload, 69, []), (.iadd, 70, []), (.iaload, 71, []), (.istore 8, 73, []), (.iload 8, 75, []), (.ldc 100, 77, []), (.if_icmp .eq 20, 80, [(0, 97)])]
def b_X1_shorten_80 : List QE := [(.iload 8, 82, []), (.iload 6, 84, []), (.iadd, 85, []), (.iload 5, 87, []), (.if_icmp .ge 10, 90, [(0, 97)])]
def b_X1_shorten_90 : List QE := [(.iload 8, 92, []), (.iload 6, 94, []), (.iadd, 95, []), (.istore 5, 97, [])]
def b_X1_shorten_97 : List QE := [(.iinc 7 1, 100, []), (.goto (-50), 103, [(0, 50)])]
def b_X1_shorten_103 : List QE := [(.iload 5, 105, []), (.iload 4, 107, []), (.if_icmp .ge 8, 110, [(0, 115)])]
def b_X1_shorten_110 : List QE := [(.aload_n 2, 111, []), (.iload_n 3, 112, []), (.iload 5, 114, []), (.iastore, 115, [])]
def b_X1_shorten_115 : List QE := [(.iload 5, 117, []), (.iload 4, 119, []), (.if_icmp .ge 7, 122, [(0, 126)])]
def b_X1_shorten_122 : List QE := [(.iconst 1, 123, []), (.goto 4, 126, [(0, 127)])]
def b_X1_shorten_126 : List QE := [(.iconst 0, 127, [])]
def b_X1_shorten_127 : List QE := [(.ireturn, 128, [])]
def L_X1_shorten : List (Nat × Option (List QE)) := [(0, some b_X1_shorten_0), (8, some b_X1_shorten_8), (14, some b_X1_shorten_14), (16, some b_X1_shorten_16), (24, some b_X1_shorten_24), (29, some b_X1_shorten_29), (32, some b_X1_shorten_32), (50, none), (60, some b_X1_shorten_60), (80, some b_X1_shorten_80), (90, some b_X1_shorten_90), (97, some b_X1_shorten_97), (103, some b_X1_shorten_103), (110, some b_X1_shorten_110), (115, some b_X1_shorten_115), (122, some b_X1_shorten_122), (126, some b_X1_shorten_126), (127, some b_X1_shorten_127)]
def s_X1_shorten : Nat → Option (List QE) := q_look L_X1_shorten
theorem s_X1_shorten_0 : s_X1_shorten 0 = some b_X1_shorten_0 := id rfl
theorem s_X1_shorten_8 : s_X1_shorten 8 = some b_X1_shorten_8 := id rfl
theorem s_X1_shorten_14 : s_X1_shorten 14 = some b_X1_shorten_14 := id rfl
theorem s_X1_shorten_16 : s_X1_shorten 16 = some b_X1_shorten_16 := id rfl
theorem s_X1_shorten_24 : s_X1_shorten 24 = some b_X1_shorten_24 := id rfl
theorem s_X1_shorten_29 : s_X1_shorten 29 = some b_X1_shorten_29 := id rfl
theorem s_X1_shorten_32 : s_X1_shorten 32 = some b_X1_shorten_32 := id rfl
theorem s_X1_shorten_50 : s_X1_shorten 50 = none := id rfl
theorem s_X1_shorten_60 : s_X1_shorten 60 = some b_X1_shorten_60 := id rfl
theorem s_X1_shorten_80 : s_X1_shorten 80 = some b_X1_shorten_80 := id rfl
theorem s_X1_shorten_90 : s_X1_shorten 90 = some b_X1_shorten_90 := id rfl
theorem s_X1_shorten_97 : s_X1_shorten 97 = some b_X1_shorten_97 := id rfl
theorem s_X1_shorten_103 : s_X1_shorten 103 = some b_X1_shorten_103 := id rfl
theorem s_X1_shorten_110 : s_X1_shorten 110 = some b_X1_shorten_110 := id rfl
theorem s_X1_shorten_115 : s_X1_shorten 115 = some b_X1_shorten_115 := id rfl
theorem s_X1_shorten_122 : s_X1_shorten 122 = some b_X1_shorten_122 := id rfl
theorem s_X1_shorten_126 : s_X1_shorten 126 = some b_X1_shorten_126 := id rfl
theorem s_X1_shorten_127 : s_X1_shorten 127 = some b_X1_shorten_127 := id rfl
def u_X1_shorten : QU := ([18], [], [100, 145], [], [], [114], [])
theorem o_X1_shorten : q_skok cX1_shorten 9 u_X1_shorten L_X1_shorten = true := by decide +kernel
theorem o_X1_shorten_50 : q_ok cX1_shorten 9 u_X1_shorten 50 b_X1_shorten_50 = true := by decide +kernel
theorem k_X1_shorten : q_chk RX1 fl_X1 ld_X1 u_X1_shorten = true := by decide +kernel
def b_X1_flows_0 : List QE := [(.bipush 15, 2, []), (.istore_n 3, 3, [])]
def b_X1_flows_3 : List QE := [(.iload_n 3, 4, []), (.sipush 180, 7, []), (.if_icmp .gt 50, 10, [(0, 57)])]
def b_X1_flows_10 : List QE := [(.aload_n 2, 11, []), (.iload_n 3, 12, []), (.aload_n 1, 13, []), (.iload_n 3, 14, []), (.iaload, 15, []), (.ldc 100, 17, []), (.if_icmp .ne 8, 20, [(0, 25)])]
def b_X1_flows_20 : List QE := [(.ldc 100, 22, []), (.goto 4, 25, [(0, 26)])]
def b_X1_flows_25 : List QE := [(.iconst 0, 26, [])]
def b_X1_flows_26 : List QE := [(.iastore, 27, []), (.aload_n 0, 28, []), (.getfield 22, 31, []), (.iload_n 3, 32, []), (.aload_n 1, 33, []), (.iload_n 3, 34, []), (.iaload, 35, []), (.ldc 100, 37, []), (.if_icmp .ne 7, 40, [(0, 44)])]
def b_X1_flows_40 : List QE := [(.iconst (-1), 41, []), (.goto 9, 44, [(0, 50)])]
def b_X1_flows_44 : List QE := [(.aload_n 0, 45, []), (.aload_n 1, 46, []), (.iload_n 3, 47, []), (.invokevirtual 146, 50, [])]
def b_X1_flows_50 : List QE := [(.iastore, 51, []), (.iinc 3 1, 54, []), (.goto (-51), 57, [(0, 3)])]
def b_X1_flows_57 : List QE := [(.bipush 15, 59, []), (.istore_n 3, 60, [])]
def b_X1_flows_60 : List QE := [(.iload_n 3, 61, []), (.sipush 180, 64, []), (.if_icmp .gt 23, 67, [(0, 87)])]
def b_X1_flows_67 : List QE := [(.aload_n 1, 68, []), (.iload_n 3, 69, []), (.iaload, 70, []), (.ldc 100, 72, []), (.if_icmp .eq 9, 75, [(0, 81)])]
def b_X1_flows_75 : List QE := [(.aload_n 0, 76, []), (.aload_n 2, 77, []), (.iload_n 3, 78, []), (.invokevirtual 150, 81, [])]
def b_X1_flows_81 : List QE := [(.iinc 3 1, 84, []), (.goto (-24), 87, [(0, 60)])]
def b_X1_flows_87 : List QE := [(.return_, 88, [])]
def L_X1_flows : List (Nat × Option (List QE)) := [(0, some b_X1_flows_0), (3, none), (10, some b_X1_flows_10), (20, some b_X1_flows_20), (25, some b_X1_flows_25), (26, some b_X1_flows_26), (40, some b_X1_flows_40), (44, some b_X1_flows_44), (50, some b_X1_flows_50), (57, some b_X1_flows_57), (60, none), (67, some b_X1_flows_67), (75, some b_X1_flows_75), (81, some b_X1_flows_81), (87, some b_X1_flows_87)]
def s_X1_flows : Nat → Option (List QE) := q_look L_X1_flows
theorem s_X1_flows_0 : s_X1_flows 0 = some b_X1_flows_0 := id rfl
theorem s_X1_flows_3 : s_X1_flows 3 = none := id rfl
theorem s_X1_flows_10 : s_X1_flows 10 = some b_X1_flows_10 := id rfl
theorem s_X1_flows_20 : s_X1_flows 20 = some b_X1_flows_20 := id rfl
theorem s_X1_flows_25 : s_X1_flows 25 = some b_X1_flows_25 := id rfl
theorem s_X1_flows_26 : s_X1_flows 26 = some b_X1_flows_26 := id rfl
theorem s_X1_flows_40 : s_X1_flows 40 = some b_X1_flows_40 := id rfl
theorem s_X1_flows_44 : s_X1_flows 44 = some b_X1_flows_44 := id rfl
theorem s_X1_flows_50 : s_X1_flows 50 = some b_X1_flows_50 := id rfl
theorem s_X1_flows_57 : s_X1_flows 57 = some b_X1_flows_57 := id rfl
theorem s_X1_flows_60 : s_X1_flows 60 = none := id rfl
theorem s_X1_flows_67 : s_X1_flows 67 = some b_X1_flows_67 := id rfl
theorem s_X1_flows_75 : s_X1_flows 75 = some b_X1_flows_75 := id rfl
theorem s_X1_flows_81 : s_X1_flows 81 = some b_X1_flows_81 := id rfl
theorem s_X1_flows_87 : s_X1_flows 87 = some b_X1_flows_87 := id rfl
def u_X1_flows : QU := ([22], [], [100], [], [146, 150], [], [])
theorem o_X1_flows : q_skok cX1_flows 4 u_X1_flows L_X1_flows = true := by decide +kernel
theorem o_X1_flows_3 : q_ok cX1_flows 4 u_X1_flows 3 b_X1_flows_3 = true := by decide +kernel
theorem o_X1_flows_60 : q_ok cX1_flows 4 u_X1_flows 60 b_X1_flows_60 = true := by decide +kernel
theorem k_X1_flows : q_chk RX1 fl_X1 ld_X1 u_X1_flows = true := by decide +kernel
def b_X1_lowestSide_0 : List QE := [(.aload_n 1, 1, []), (.iload_n 2, 2, []), (.iaload, 3, []), (.istore_n 3, 4, []), (.iconst (-1), 5, []), (.istore 4, 7, []), (.iconst 0, 8, []), (.istore 5, 10, [])]
def b_X1_lowestSide_10 : List QE := [(.iload 5, 12, []), (.aload_n 0, 13, []), (.getfield 18, 16, []), (.arraylength, 17, []), (.if_icmp .ge 46, 20, [(0, 63)])]
def b_X1_lowestSide_20 : List QE := [(.iload_n 2, 21, []), (.aload_n 0, 22, []), (.getfield 18, 25, []), (.iload 5, 27, []), (.iaload, 28, []), (.iadd, 29, []), (.istore 6, 31, []), (.aload_n 1, 32, []), (.iload 6, 34, []), (.iaload, 35, []), (.ldc 100, 37, []), (.if_icmp .eq 20, 40, [(0, 57)])]
def b_X1_lowestSide_40 : List QE := [(.aload_n 1, 41, []), (.iload 6, 43, []), (.iaload, 44, []), (.iload_n 3, 45, []), (.if_icmp .ge 12, 48, [(0, 57)])]
def b_X1_lowestSide_48 : List QE := [(.aload_n 1, 49, []), (.iload 6, 51, []), (.iaload, 52, []), (.istore_n 3, 53, []), (.iload 6, 55, []), (.istore 4, 57, [])]
def b_X1_lowestSide_57 : List QE := [(.iinc 5 1, 60, []), (.goto (-50), 63, [(0, 10)])]
def b_X1_lowestSide_63 : List QE := [(.iload 4, 65, []), (.ireturn, 66, [])]
def L_X1_lowestSide : List (Nat × Option (List QE)) := [(0, some b_X1_lowestSide_0), (10, none), (20, some b_X1_lowestSide_20), (40, some b_X1_lowestSide_40), (48, some b_X1_lowestSide_48), (57, some b_X1_lowestSide_57), (63, some b_X1_lowestSide_63)]
def s_X1_lowestSide : Nat → Option (List QE) := q_look L_X1_lowestSide
theorem s_X1_lowestSide_0 : s_X1_lowestSide 0 = some b_X1_lowestSide_0 := id rfl
theorem s_X1_lowestSide_10 : s_X1_lowestSide 10 = none := id rfl
theorem s_X1_lowestSide_20 : s_X1_lowestSide 20 = some b_X1_lowestSide_20 := id rfl
theorem s_X1_lowestSide_40 : s_X1_lowestSide 40 = some b_X1_lowestSide_40 := id rfl
theorem s_X1_lowestSide_48 : s_X1_lowestSide 48 = some b_X1_lowestSide_48 := id rfl
theorem s_X1_lowestSide_57 : s_X1_lowestSide 57 = some b_X1_lowestSide_57 := id rfl
theorem s_X1_lowestSide_63 : s_X1_lowestSide 63 = some b_X1_lowestSide_63 := id rfl
def u_X1_lowestSide : QU := ([18], [], [100], [], [], [], [])
theorem o_X1_lowestSide : q_skok cX1_lowestSide 7 u_X1_lowestSide L_X1_lowestSide = true := by decide +kernel
theorem o_X1_lowestSide_10 : q_ok cX1_lowestSide 7 u_X1_lowestSide 10 b_X1_lowestSide_10 = true := by decide +kernel
theorem k_X1_lowestSide : q_chk RX1 fl_X1 ld_X1 u_X1_lowestSide = true := by decide +kernel
def b_X1_runDown_0 : List QE := [(.iload_n 2, 1, []), (.istore_n 3, 2, []), (.iconst 0, 3, []), (.istore 4, 5, [])]
def b_X1_runDown_5 : List QE := [(.iload_n 3, 6, []), (.iconst (-1), 7, []), (.if_icmp .eq 31, 10, [(0, 38)])]
def b_X1_runDown_10 : List QE := [(.iload 4, 12, []), (.sipush 196, 15, []), (.if_icmp .ge 23, 18, [(0, 38)])]
def b_X1_runDown_18 : List QE := [(.aload_n 1, 19, []), (.iload_n 3, 20, []), (.dup2, 21, []), (.iaload, 22, []), (.iconst 1, 23, []), (.iadd, 24, []), (.iastore, 25, []), (.aload_n 0, 26, []), (.getfield 22, 29, []), (.iload_n 3, 30, []), (.iaload, 31, []), (.istore_n 3, 32, []), (.iinc 4 1, 35, []), (.goto (-30), 38, [(0, 5)])]
def b_X1_runDown_38 : List QE := [(.return_, 39, [])]
def L_X1_runDown : List (Nat × Option (List QE)) := [(0, some b_X1_runDown_0), (5, none), (10, some b_X1_runDown_10), (18, some b_X1_runDown_18), (38, some b_X1_runDown_38)]
def s_X1_runDown : Nat → Option (List QE) := q_look L_X1_runDown
theorem s_X1_runDown_0 : s_X1_runDown 0 = some b_X1_runDown_0 := id rfl
theorem s_X1_runDown_5 : s_X1_runDown 5 = none := id rfl
theorem s_X1_runDown_10 : s_X1_runDown 10 = some b_X1_runDown_10 := id rfl
theorem s_X1_runDown_18 : s_X1_runDown 18 = some b_X1_runDown_18 := id rfl
theorem s_X1_runDown_38 : s_X1_runDown 38 = some b_X1_runDown_38 := id rfl
def u_X1_runDown : QU := ([22], [], [], [], [], [], [])
theorem o_X1_runDown : q_skok cX1_runDown 5 u_X1_runDown L_X1_runDown = true := by decide +kernel
theorem o_X1_runDown_5 : q_ok cX1_runDown 5 u_X1_runDown 5 b_X1_runDown_5 = true := by decide +kernel
theorem k_X1_runDown : q_chk RX1 fl_X1 ld_X1 u_X1_runDown = true := by decide +kernel
def b_X2_clear_0 : List QE := [(.aload_n 0, 1, []), (.iconst 0, 2, []), (.putfield 25, 5, []), (.aload_n 0, 6, []), (.getfield 17, 9, []), (.iconst (-1), 10, []), (.invokestatic 29, 13, []), (.return_, 14, [])]
def L_X2_clear : List (Nat × Option (List QE)) := [(0, some b_X2_clear_0)]
def s_X2_clear : Nat → Option (List QE) := q_look L_X2_clear
theorem s_X2_clear_0 : s_X2_clear 0 = some b_X2_clear_0 := id rfl
def u_X2_clear : QU := ([25, 17], [25], [], [], [], [29], [])
theorem o_X2_clear : q_skok cX2_clear 1 u_X2_clear L_X2_clear = true := by decide +kernel
theorem k_X2_clear : q_chk RX2 fl_X2 ld_X2 u_X2_clear = true := by decide +kernel
def b_X2_has_0 : List QE := [(.iload_n 1, 1, []), (.ifCond .lt 15, 4, [(0, 16)])]
def b_X2_has_4 : List QE := [(.iload_n 1, 5, []), (.aload_n 0, 6, []), (.getfield 25, 9, []), (.if_icmp .ge 7, 12, [(0, 16)])]
def b_X2_has_12 : List QE := [(.iconst 1, 13, []), (.goto 4, 16, [(0, 17)])]
def b_X2_has_16 : List QE := [(.iconst 0, 17, [])]
def b_X2_has_17 : List QE := [(.ireturn, 18, [])]
def L_X2_has : List (Nat × Option (List QE)) := [(0, some b_X2_has_0), (4, some b_X2_has_4), (12, some b_X2_has_12), (16, some b_X2_has_16), (17, some b_X2_has_17)]
def s_X2_has : Nat → Option (List QE) := q_look L_X2_has
theorem s_X2_has_0 : s_X2_has 0 = some b_X2_has_0 := id rfl
theorem s_X2_has_4 : s_X2_has 4 = some b_X2_has_4 := id rfl
theorem s_X2_has_12 : s_X2_has 12 = some b_X2_has_12 := id rfl
theorem s_X2_has_16 : s_X2_has 16 = some b_X2_has_16 := id rfl
theorem s_X2_has_17 : s_X2_has 17 = some b_X2_has_17 := id rfl
def u_X2_has : QU := ([25], [], [], [], [], [], [])
theorem o_X2_has : q_skok cX2_has 2 u_X2_has L_X2_has = true := by decide +kernel
theorem k_X2_has : q_chk RX2 fl_X2 ld_X2 u_X2_has = true := by decide +kernel
def b_X2_isFull_0 : List QE := [(.aload_n 0, 1, []), (.getfield 25, 4, []), (.bipush 10, 6, []), (.if_icmp .lt 7, 9, [(0, 13)])]
def b_X2_isFull_9 : List QE := [(.iconst 1, 10, []), (.goto 4, 13, [(0, 14)])]
def b_X2_isFull_13 : List QE := [(.iconst 0, 14, [])]
def b_X2_isFull_14 : List QE := [(.ireturn, 15, [])]
def L_X2_isFull : List (Nat × Option (List QE)) := [(0, some b_X2_isFull_0), (9, some b_X2_isFull_9), (13, some b_X2_isFull_13), (14, some b_X2_isFull_14)]
def s_X2_isFull : Nat → Option (List QE) := q_look L_X2_isFull
theorem s_X2_isFull_0 : s_X2_isFull 0 = some b_X2_isFull_0 := id rfl
theorem s_X2_isFull_9 : s_X2_isFull 9 = some b_X2_isFull_9 := id rfl
theorem s_X2_isFull_13 : s_X2_isFull 13 = some b_X2_isFull_13 := id rfl
theorem s_X2_isFull_14 : s_X2_isFull 14 = some b_X2_isFull_14 := id rfl
def u_X2_isFull : QU := ([25], [], [], [], [], [], [])
theorem o_X2_isFull : q_skok cX2_isFull 1 u_X2_isFull L_X2_isFull = true := by decide +kernel
theorem k_X2_isFull : q_chk RX2 fl_X2 ld_X2 u_X2_isFull = true := by decide +kernel
def b_X2_boardNamed_0 : List QE := [(.iload_n 1, 1, []), (.ifCond .lt 18, 4, [(0, 19)])]
def b_X2_boardNamed_4 : List QE := [(.iload_n 1, 5, []), (.bipush 26, 7, []), (.if_icmp .ge 12, 10, [(0, 19)])]
def b_X2_boardNamed_10 : List QE := [(.aload_n 0, 11, []), (.getfield 17, 14, []), (.iload_n 1, 15, []), (.iaload, 16, []), (.goto 4, 19, [(0, 20)])]
def b_X2_boardNamed_19 : List QE := [(.iconst (-1), 20, [])]
def b_X2_boardNamed_20 : List QE := [(.ireturn, 21, [])]
def L_X2_boardNamed : List (Nat × Option (List QE)) := [(0, some b_X2_boardNamed_0), (4, some b_X2_boardNamed_4), (10, some b_X2_boardNamed_10), (19, some b_X2_boardNamed_19), (20, some b_X2_boardNamed_20)]
def s_X2_boardNamed : Nat → Option (List QE) := q_look L_X2_boardNamed
theorem s_X2_boardNamed_0 : s_X2_boardNamed 0 = some b_X2_boardNamed_0 := id rfl
theorem s_X2_boardNamed_4 : s_X2_boardNamed 4 = some b_X2_boardNamed_4 := id rfl
theorem s_X2_boardNamed_10 : s_X2_boardNamed 10 = some b_X2_boardNamed_10 := id rfl
theorem s_X2_boardNamed_19 : s_X2_boardNamed 19 = some b_X2_boardNamed_19 := id rfl
theorem s_X2_boardNamed_20 : s_X2_boardNamed 20 = some b_X2_boardNamed_20 := id rfl
def u_X2_boardNamed : QU := ([17], [], [], [], [], [], [])
theorem o_X2_boardNamed : q_skok cX2_boardNamed 2 u_X2_boardNamed L_X2_boardNamed = true := by decide +kernel
theorem k_X2_boardNamed : q_chk RX2 fl_X2 ld_X2 u_X2_boardNamed = true := by decide +kernel
def b_X2_close_0 : List QE := [(.iload_n 1, 1, []), (.ifCond .lt 36, 4, [(0, 37)])]
def b_X2_close_4 : List QE := [(.iload_n 1, 5, []), (.bipush 26, 7, []), (.if_icmp .ge 30, 10, [(0, 37)])]
def b_X2_close_10 : List QE := [(.aload_n 0, 11, []), (.invokevirtual 35, 14, []), (.ifCond .ne 23, 17, [(0, 37)])]
def b_X2_close_17 : List QE := [(.aload_n 0, 18, []), (.getfield 17, 21, []), (.iload_n 1, 22, []), (.aload_n 0, 23, []), (.getfield 25, 26, []), (.iastore, 27, []), (.aload_n 0, 28, []), (.dup, 29, []), (.getfield 25, 32, []), (.iconst 1, 33, []), (.iadd, 34, []), (.putfield 25, 37, [])]
def b_X2_close_37 : List QE := [(.return_, 38, [])]
def L_X2_close : List (Nat × Option (List QE)) := [(0, some b_X2_close_0), (4, some b_X2_close_4), (10, some b_X2_close_10), (17, some b_X2_close_17), (37, some b_X2_close_37)]
def s_X2_close : Nat → Option (List QE) := q_look L_X2_close
theorem s_X2_close_0 : s_X2_close 0 = some b_X2_close_0 := id rfl
theorem s_X2_close_4 : s_X2_close 4 = some b_X2_close_4 := id rfl
theorem s_X2_close_10 : s_X2_close 10 = some b_X2_close_10 := id rfl
theorem s_X2_close_17 : s_X2_close 17 = some b_X2_close_17 := id rfl
theorem s_X2_close_37 : s_X2_close 37 = some b_X2_close_37 := id rfl
def u_X2_close : QU := ([17, 25], [25], [], [], [35], [], [])
theorem o_X2_close : q_skok cX2_close 2 u_X2_close L_X2_close = true := by decide +kernel
theorem k_X2_close : q_chk RX2 fl_X2 ld_X2 u_X2_close = true := by decide +kernel
def b_X3_read_0 : List QE := [(.aload_n 0, 1, []), (.aload_n 1, 2, []), (.putfield 20, 5, []), (.aload_n 0, 6, []), (.getfield 20, 9, []), (.invokevirtual 24, 12, []), (.aload_n 0, 13, []), (.getfield 14, 16, []), (.invokevirtual 29, 19, []), (.iconst 0, 20, []), (.istore_n 2, 21, [])]
def b_X3_read_21 : List QE := [(.iload_n 2, 22, []), (.bipush 10, 24, []), (.if_icmp .gt 56, 27, [(0, 80)])]
def b_X3_read_27 : List QE := [(.aload_n 0, 28, []), (.invokevirtual 32, 31, []), (.ifCond .ne 11, 34, [(0, 42)])]
def b_X3_read_34 : List QE := [(.aload_n 0, 35, []), (.getfield 14, 38, []), (.invokevirtual 36, 41, []), (.ireturn, 42, [])]
def b_X3_read_42 : List QE := [(.aload_n 0, 43, []), (.getfield 14, 46, []), (.invokevirtual 40, 49, []), (.ifCond .eq 5, 52, [(0, 54)])]
def b_X3_read_52 : List QE := [(.iconst (-1), 53, []), (.ireturn, 54, [])]
def b_X3_read_54 : List QE := [(.aload_n 0, 55, []), (.getfield 14, 58, []), (.bipush 59, 60, []), (.invokevirtual 43, 63, []), (.ifCond .ne 11, 66, [(0, 74)])]
def b_X3_read_66 : List QE := [(.aload_n 0, 67, []), (.getfield 14, 70, []), (.invokevirtual 36, 73, []), (.ireturn, 74, [])]
def b_X3_read_74 : List QE := [(.iinc 2 1, 77, []), (.goto (-56), 80, [(0, 21)])]
def b_X3_read_80 : List QE := [(.aload_n 0, 81, []), (.getfield 14, 84, []), (.invokevirtual 36, 87, []), (.ireturn, 88, [])]
def L_X3_read : List (Nat × Option (List QE)) := [(0, some b_X3_read_0), (21, none), (27, some b_X3_read_27), (34, some b_X3_read_34), (42, some b_X3_read_42), (52, some b_X3_read_52), (54, some b_X3_read_54), (66, some b_X3_read_66), (74, some b_X3_read_74), (80, some b_X3_read_80)]
def s_X3_read : Nat → Option (List QE) := q_look L_X3_read
theorem s_X3_read_0 : s_X3_read 0 = some b_X3_read_0 := id rfl
theorem s_X3_read_21 : s_X3_read 21 = none := id rfl
theorem s_X3_read_27 : s_X3_read 27 = some b_X3_read_27 := id rfl
theorem s_X3_read_34 : s_X3_read 34 = some b_X3_read_34 := id rfl
theorem s_X3_read_42 : s_X3_read 42 = some b_X3_read_42 := id rfl
theorem s_X3_read_52 : s_X3_read 52 = some b_X3_read_52 := id rfl
theorem s_X3_read_54 : s_X3_read 54 = some b_X3_read_54 := id rfl
theorem s_X3_read_66 : s_X3_read 66 = some b_X3_read_66 := id rfl
theorem s_X3_read_74 : s_X3_read 74 = some b_X3_read_74 := id rfl
theorem s_X3_read_80 : s_X3_read 80 = some b_X3_read_80 := id rfl
def u_X3_read : QU := ([20, 14], [20], [], [], [24, 29, 32, 36, 40, 43], [], [])
theorem o_X3_read : q_skok cX3_read 3 u_X3_read L_X3_read = true := by decide +kernel
theorem o_X3_read_21 : q_ok cX3_read 3 u_X3_read 21 b_X3_read_21 = true := by decide +kernel
theorem k_X3_read : q_chk RX3 fl_X3 ld_X3 u_X3_read = true := by decide +kernel
def b_X3_readBoard_0 : List QE := [(.aload_n 0, 1, []), (.getfield 14, 4, []), (.iconst 1, 5, []), (.invokevirtual 47, 8, []), (.istore_n 1, 9, []), (.iload_n 1, 10, []), (.iconst (-1), 11, []), (.if_icmp .eq 25, 14, [(0, 36)])]
def b_X3_readBoard_14 : List QE := [(.aload_n 0, 15, []), (.getfield 20, 18, []), (.iload_n 1, 19, []), (.invokevirtual 51, 22, []), (.iconst (-1), 23, []), (.if_icmp .ne 13, 26, [(0, 36)])]
def b_X3_readBoard_26 : List QE := [(.aload_n 0, 27, []), (.getfield 20, 30, []), (.invokevirtual 54, 33, []), (.ifCond .eq 5, 36, [(0, 38)])]
def b_X3_readBoard_36 : List QE := [(.iconst 0, 37, []), (.ireturn, 38, [])]
def b_X3_readBoard_38 : List QE := [(.aload_n 0, 39, []), (.getfield 14, 42, []), (.invokevirtual 57, 45, []), (.aload_n 0, 46, []), (.getfield 14, 49, []), (.bipush 61, 51, []), (.invokevirtual 43, 54, []), (.ifCond .eq 25, 57, [(0, 79)])]
def b_X3_readBoard_57 : List QE := [(.aload_n 0, 58, []), (.aload_n 0, 59, []), (.getfield 20, 62, []), (.getfield 60, 65, []), (.aload_n 0, 66, []), (.getfield 20, 69, []), (.getfield 64, 72, []), (.aaload, 73, []), (.invokevirtual 68, 76, []), (.ifCond .ne 5, 79, [(0, 81)])]
def b_X3_readBoard_79 : List QE := [(.iconst 0, 80, []), (.ireturn, 81, [])]
def b_X3_readBoard_81 : List QE := [(.aload_n 0, 82, []), (.getfield 20, 85, []), (.iload_n 1, 86, []), (.invokevirtual 72, 89, []), (.iconst 1, 90, []), (.ireturn, 91, [])]
def L_X3_readBoard : List (Nat × Option (List QE)) := [(0, some b_X3_readBoard_0), (14, some b_X3_readBoard_14), (26, some b_X3_readBoard_26), (36, some b_X3_readBoard_36), (38, some b_X3_readBoard_38), (57, some b_X3_readBoard_57), (79, some b_X3_readBoard_79), (81, some b_X3_readBoard_81)]
def s_X3_readBoard : Nat → Option (List QE) := q_look L_X3_readBoard
theorem s_X3_readBoard_0 : s_X3_readBoard 0 = some b_X3_readBoard_0 := id rfl
theorem s_X3_readBoard_14 : s_X3_readBoard 14 = some b_X3_readBoard_14 := id rfl
theorem s_X3_readBoard_26 : s_X3_readBoard 26 = some b_X3_readBoard_26 := id rfl
theorem s_X3_readBoard_36 : s_X3_readBoard 36 = some b_X3_readBoard_36 := id rfl
theorem s_X3_readBoard_38 : s_X3_readBoard 38 = some b_X3_readBoard_38 := id rfl
theorem s_X3_readBoard_57 : s_X3_readBoard 57 = some b_X3_readBoard_57 := id rfl
theorem s_X3_readBoard_79 : s_X3_readBoard 79 = some b_X3_readBoard_79 := id rfl
theorem s_X3_readBoard_81 : s_X3_readBoard 81 = some b_X3_readBoard_81 := id rfl
def u_X3_readBoard : QU := ([14, 20, 60, 64], [], [], [], [47, 51, 54, 57, 43, 68, 72], [], [])
theorem o_X3_readBoard : q_skok cX3_readBoard 2 u_X3_readBoard L_X3_readBoard = true := by decide +kernel
theorem k_X3_readBoard : q_chk RX3 fl_X3 ld_X3 u_X3_readBoard = true := by decide +kernel
def b_X3_readMaking_0 : List QE := [(.aload_n 0, 1, []), (.getfield 14, 4, []), (.iconst 2, 5, []), (.invokevirtual 47, 8, []), (.istore_n 2, 9, []), (.iload_n 2, 10, []), (.ifCond .lt 9, 13, [(0, 19)])]
def b_X3_readMaking_13 : List QE := [(.iload_n 2, 14, []), (.bipush 12, 16, []), (.if_icmp .le 5, 19, [(0, 21)])]
def b_X3_readMaking_19 : List QE := [(.iconst 0, 20, []), (.ireturn, 21, [])]
def b_X3_readMaking_21 : List QE := [(.aload_n 0, 22, []), (.getfield 14, 25, []), (.invokevirtual 57, 28, []), (.aload_n 1, 29, []), (.iload_n 2, 30, []), (.invokevirtual 76, 33, []), (.iload_n 2, 34, []), (.tableswitch 167 0 12 #[66, 167, 167, 167, 167, 167, 167, 167, 74, 81, 104, 137, 160], 100, [(0, 100), (1, 201), (2, 201), (3, 201), (4, 201), (5, 201), (6, 201), (7, 201), (8, 108), (9, 115), (10, 138), (11, 171), (12, 194), (0, 201)])]
def b_X3_readMaking_100 : List QE := [(.aload_n 0, 101, []), (.aload_n 1, 102, []), (.iconst 0, 103, []), (.iconst 3, 104, []), (.invokevirtual 81, 107, []), (.ireturn, 108, [])]
def b_X3_readMaking_108 : List QE := [(.aload_n 0, 109, []), (.aload_n 1, 110, []), (.iconst 3, 111, []), (.invokevirtual 85, 114, []), (.ireturn, 115, [])]
def b_X3_readMaking_115 : List QE := [(.aload_n 0, 116, []), (.aload_n 1, 117, []), (.iconst 1, 118, []), (.invokevirtual 85, 121, []), (.ifCond .eq 15, 124, [(0, 136)])]
def b_X3_readMaking_124 : List QE := [(.aload_n 0, 125, []), (.aload_n 1, 126, []), (.invokevirtual 89, 129, []), (.ifCond .eq 7, 132, [(0, 136)])]
def b_X3_readMaking_132 : List QE := [(.iconst 1, 133, []), (.goto 4, 136, [(0, 137)])]
def b_X3_readMaking_136 : List QE := [(.iconst 0, 137, [])]
def b_X3_readMaking_137 : List QE := [(.ireturn, 138, [])]
def b_X3_readMaking_138 : List QE := [(.aload_n 0, 139, []), (.aload_n 1, 140, []), (.iconst 1, 141, []), (.iconst 3, 142, []), (.invokevirtual 81, 145, []), (.ifCond .eq 24, 148, [(0, 169)])]
def b_X3_readMaking_148 : List QE := [(.aload_n 0, 149, []), (.aload_n 1, 150, []), (.invokevirtual 92, 153, []), (.ifCond .eq 16, 156, [(0, 169)])]
def b_X3_readMaking_156 : List QE := [(.aload_n 0, 157, []), (.aload_n 1, 158, []), (.iconst 1, 159, []), (.invokevirtual 85, 162, []), (.ifCond .eq 7, 165, [(0, 169)])]
def b_X3_readMaking_165 : List QE := [(.iconst 1, 166, []), (.goto 4, 169, [(0, 170)])]
def b_X3_readMaking_169 : List QE := [(.iconst 0, 170, [])]
def b_X3_readMaking_170 : List QE := [(.ireturn, 171, [])]
def b_X3_readMaking_171 : List QE := [(.aload_n 0, 172, []), (.aload_n 1, 173, []), (.invokevirtual 92, 176, []), (.ifCond .eq 16, 179, [(0, 192)])]
def b_X3_readMaking_179 : List QE := [(.aload_n 0, 180, []), (.aload_n 1, 181, []), (.iconst 2, 182, []), (.invokevirtual 85, 185, []), (.ifCond .eq 7, 188, [(0, 192)])]
def b_X3_readMaking_188 : List QE := [(.iconst 1, 189, []), (.goto 4, 192, [(0, 193)])]
def b_X3_readMaking_192 : List QE := [(.iconst 0, 193, [])]
def b_X3_readMaking_193 : List QE := [(.ireturn, 194, [])]
def b_X3_readMaking_194 : List QE := [(.aload_n 0, 195, []), (.aload_n 1, 196, []), (.iconst 1, 197, []), (.invokevirtual 85, 200, []), (.ireturn, 201, [])]
def b_X3_readMaking_201 : List QE := [(.aload_n 0, 202, []), (.aload_n 1, 203, []), (.iconst 2, 204, []), (.invokevirtual 85, 207, []), (.ireturn, 208, [])]
def L_X3_readMaking : List (Nat × Option (List QE)) := [(0, some b_X3_readMaking_0), (13, some b_X3_readMaking_13), (19, some b_X3_readMaking_19), (21, some b_X3_readMaking_21), (100, some b_X3_readMaking_100), (108, some b_X3_readMaking_108), (115, some b_X3_readMaking_115), (124, some b_X3_readMaking_124), (132, some b_X3_readMaking_132), (136, some b_X3_readMaking_136), (137, some b_X3_readMaking_137), (138, some b_X3_readMaking_138), (148, some b_X3_readMaking_148), (156, some b_X3_readMaking_156), (165, some b_X3_readMaking_165), (169, some b_X3_readMaking_169), (170, some b_X3_readMaking_170), (171, some b_X3_readMaking_171), (179, some b_X3_readMaking_179), (188, some b_X3_readMaking_188), (192, some b_X3_readMaking_192), (193, some b_X3_readMaking_193), (194, some b_X3_readMaking_194), (201, some b_X3_readMaking_201)]
def s_X3_readMaking : Nat → Option (List QE) := q_look L_X3_readMaking
theorem s_X3_readMaking_0 : s_X3_readMaking 0 = some b_X3_readMaking_0 := id rfl
theorem s_X3_readMaking_13 : s_X3_readMaking 13 = some b_X3_readMaking_13 := id rfl
theorem s_X3_readMaking_19 : s_X3_readMaking 19 = some b_X3_readMaking_19 := id rfl
theorem s_X3_readMaking_21 : s_X3_readMaking 21 = some b_X3_readMaking_21 := id rfl
theorem s_X3_readMaking_100 : s_X3_readMaking 100 = some b_X3_readMaking_100 := id rfl
theorem s_X3_readMaking_108 : s_X3_readMaking 108 = some b_X3_readMaking_108 := id rfl
theorem s_X3_readMaking_115 : s_X3_readMaking 115 = some b_X3_readMaking_115 := id rfl
theorem s_X3_readMaking_124 : s_X3_readMaking 124 = some b_X3_readMaking_124 := id rfl
theorem s_X3_readMaking_132 : s_X3_readMaking 132 = some b_X3_readMaking_132 := id rfl
theorem s_X3_readMaking_136 : s_X3_readMaking 136 = some b_X3_readMaking_136 := id rfl
theorem s_X3_readMaking_137 : s_X3_readMaking 137 = some b_X3_readMaking_137 := id rfl
theorem s_X3_readMaking_138 : s_X3_readMaking 138 = some b_X3_readMaking_138 := id rfl
theorem s_X3_readMaking_148 : s_X3_readMaking 148 = some b_X3_readMaking_148 := id rfl
theorem s_X3_readMaking_156 : s_X3_readMaking 156 = some b_X3_readMaking_156 := id rfl
theorem s_X3_readMaking_165 : s_X3_readMaking 165 = some b_X3_readMaking_165 := id rfl
theorem s_X3_readMaking_169 : s_X3_readMaking 169 = some b_X3_readMaking_169 := id rfl
theorem s_X3_readMaking_170 : s_X3_readMaking 170 = some b_X3_readMaking_170 := id rfl
theorem s_X3_readMaking_171 : s_X3_readMaking 171 = some b_X3_readMaking_171 := id rfl
theorem s_X3_readMaking_179 : s_X3_readMaking 179 = some b_X3_readMaking_179 := id rfl
theorem s_X3_readMaking_188 : s_X3_readMaking 188 = some b_X3_readMaking_188 := id rfl
theorem s_X3_readMaking_192 : s_X3_readMaking 192 = some b_X3_readMaking_192 := id rfl
theorem s_X3_readMaking_193 : s_X3_readMaking 193 = some b_X3_readMaking_193 := id rfl
theorem s_X3_readMaking_194 : s_X3_readMaking 194 = some b_X3_readMaking_194 := id rfl
theorem s_X3_readMaking_201 : s_X3_readMaking 201 = some b_X3_readMaking_201 := id rfl
def u_X3_readMaking : QU := ([14], [], [], [], [47, 57, 76, 81, 85, 89, 92], [], [])
theorem o_X3_readMaking : q_skok cX3_readMaking 3 u_X3_readMaking L_X3_readMaking = true := by decide +kernel
theorem k_X3_readMaking : q_chk RX3 fl_X3 ld_X3 u_X3_readMaking = true := by decide +kernel
def b_X3_readHow_0 : List QE := [(.aload_n 0, 1, []), (.getfield 14, 4, []), (.iconst 2, 5, []), (.invokevirtual 47, 8, []), (.istore_n 2, 9, []), (.iload_n 2, 10, []), (.bipush 13, 12, []), (.if_icmp .eq 21, 15, [(0, 33)])]
def b_X3_readHow_15 : List QE := [(.iload_n 2, 16, []), (.iconst 5, 17, []), (.if_icmp .eq 16, 20, [(0, 33)])]
def b_X3_readHow_20 : List QE := [(.iload_n 2, 21, []), (.iconst 4, 22, []), (.if_icmp .eq 11, 25, [(0, 33)])]
def b_X3_readHow_25 : List QE := [(.iload_n 2, 26, []), (.bipush 14, 28, []), (.if_icmp .eq 5, 31, [(0, 33)])]
def b_X3_readHow_31 : List QE := [(.iconst 0, 32, []), (.ireturn, 33, [])]
def b_X3_readHow_33 : List QE := [(.aload_n 1, 34, []), (.iload_n 2, 35, []), (.putfield 95, 38, []), (.aload_n 0, 39, []), (.getfield 14, 42, []), (.invokevirtual 57, 45, []), (.iconst 1, 46, []), (.ireturn, 47, [])]
def L_X3_readHow : List (Nat × Option (List QE)) := [(0, some b_X3_readHow_0), (15, some b_X3_readHow_15), (20, some b_X3_readHow_20), (25, some b_X3_readHow_25), (31, some b_X3_readHow_31), (33, some b_X3_readHow_33)]
def s_X3_readHow : Nat → Option (List QE) := q_look L_X3_readHow
theorem s_X3_readHow_0 : s_X3_readHow 0 = some b_X3_readHow_0 := id rfl
theorem s_X3_readHow_15 : s_X3_readHow 15 = some b_X3_readHow_15 := id rfl
theorem s_X3_readHow_20 : s_X3_readHow 20 = some b_X3_readHow_20 := id rfl
theorem s_X3_readHow_25 : s_X3_readHow 25 = some b_X3_readHow_25 := id rfl
theorem s_X3_readHow_31 : s_X3_readHow 31 = some b_X3_readHow_31 := id rfl
theorem s_X3_readHow_33 : s_X3_readHow 33 = some b_X3_readHow_33 := id rfl
def u_X3_readHow : QU := ([14, 95], [95], [], [], [47, 57], [], [])
theorem o_X3_readHow : q_skok cX3_readHow 3 u_X3_readHow L_X3_readHow = true := by decide +kernel
theorem k_X3_readHow : q_chk RX3 fl_X3 ld_X3 u_X3_readHow = true := by decide +kernel
def b_X3_readNames_0 : List QE := [(.iconst 0, 1, []), (.istore_n 3, 2, [])]
def b_X3_readNames_2 : List QE := [(.iload_n 3, 3, []), (.iload_n 2, 4, []), (.if_icmp .ge 47, 7, [(0, 51)])]
def b_X3_readNames_7 : List QE := [(.aload_n 0, 8, []), (.getfield 20, 11, []), (.aload_n 0, 12, []), (.getfield 14, 15, []), (.iconst 1, 16, []), (.invokevirtual 47, 19, []), (.invokevirtual 51, 22, []), (.istore 4, 24, []), (.iload 4, 26, []), (.iconst (-1), 27, []), (.if_icmp .ne 5, 30, [(0, 32)])]
def b_X3_readNames_30 : List QE := [(.iconst 0, 31, []), (.ireturn, 32, [])]
def b_X3_readNames_32 : List QE := [(.aload_n 1, 33, []), (.iload 4, 35, []), (.invokevirtual 98, 38, []), (.aload_n 0, 39, []), (.getfield 14, 42, []), (.invokevirtual 57, 45, []), (.iinc 3 1, 48, []), (.goto (-46), 51, [(0, 2)])]
def b_X3_readNames_51 : List QE := [(.iconst 1, 52, []), (.ireturn, 53, [])]
def L_X3_readNames : List (Nat × Option (List QE)) := [(0, some b_X3_readNames_0), (2, none), (7, some b_X3_readNames_7), (30, some b_X3_readNames_30), (32, some b_X3_readNames_32), (51, some b_X3_readNames_51)]
def s_X3_readNames : Nat → Option (List QE) := q_look L_X3_readNames
theorem s_X3_readNames_0 : s_X3_readNames 0 = some b_X3_readNames_0 := id rfl
theorem s_X3_readNames_2 : s_X3_readNames 2 = none := id rfl
theorem s_X3_readNames_7 : s_X3_readNames 7 = some b_X3_readNames_7 := id rfl
theorem s_X3_readNames_30 : s_X3_readNames 30 = some b_X3_readNames_30 := id rfl
theorem s_X3_readNames_32 : s_X3_readNames 32 = some b_X3_readNames_32 := id rfl
theorem s_X3_readNames_51 : s_X3_readNames 51 = some b_X3_readNames_51 := id rfl
def u_X3_readNames : QU := ([20, 14], [], [], [], [47, 51, 98, 57], [], [])
theorem o_X3_readNames : q_skok cX3_readNames 5 u_X3_readNames L_X3_readNames = true := by decide +kernel
theorem o_X3_readNames_2 : q_ok cX3_readNames 5 u_X3_readNames 2 b_X3_readNames_2 = true := by decide +kernel
theorem k_X3_readNames : q_chk RX3 fl_X3 ld_X3 u_X3_readNames = true := by decide +kernel
def b_X3_readNumber_0 : List QE := [(.aload_n 0, 1, []), (.getfield 14, 4, []), (.iconst 3, 5, []), (.invokevirtual 47, 8, []), (.istore 4, 10, []), (.iload 4, 12, []), (.iload_n 2, 13, []), (.if_icmp .lt 9, 16, [(0, 22)])]
def b_X3_readNumber_16 : List QE := [(.iload 4, 18, []), (.iload_n 3, 19, []), (.if_icmp .le 5, 22, [(0, 24)])]
def b_X3_readNumber_22 : List QE := [(.iconst 0, 23, []), (.ireturn, 24, [])]
def b_X3_readNumber_24 : List QE := [(.aload_n 1, 25, []), (.iload 4, 27, []), (.putfield 101, 30, []), (.aload_n 0, 31, []), (.getfield 14, 34, []), (.invokevirtual 57, 37, []), (.iconst 1, 38, []), (.ireturn, 39, [])]
def L_X3_readNumber : List (Nat × Option (List QE)) := [(0, some b_X3_readNumber_0), (16, some b_X3_readNumber_16), (22, some b_X3_readNumber_22), (24, some b_X3_readNumber_24)]
def s_X3_readNumber : Nat → Option (List QE) := q_look L_X3_readNumber
theorem s_X3_readNumber_0 : s_X3_readNumber 0 = some b_X3_readNumber_0 := id rfl
theorem s_X3_readNumber_16 : s_X3_readNumber 16 = some b_X3_readNumber_16 := id rfl
theorem s_X3_readNumber_22 : s_X3_readNumber 22 = some b_X3_readNumber_22 := id rfl
theorem s_X3_readNumber_24 : s_X3_readNumber 24 = some b_X3_readNumber_24 := id rfl
def u_X3_readNumber : QU := ([14, 101], [101], [], [], [47, 57], [], [])
theorem o_X3_readNumber : q_skok cX3_readNumber 5 u_X3_readNumber L_X3_readNumber = true := by decide +kernel
theorem k_X3_readNumber : q_chk RX3 fl_X3 ld_X3 u_X3_readNumber = true := by decide +kernel
def b_X3_readSigned_0 : List QE := [(.aload_n 0, 1, []), (.getfield 14, 4, []), (.bipush 45, 6, []), (.invokevirtual 43, 9, []), (.istore_n 2, 10, []), (.aload_n 0, 11, []), (.aload_n 1, 12, []), (.iconst 0, 13, []), (.ldc 104, 15, []), (.invokevirtual 81, 18, []), (.ifCond .ne 5, 21, [(0, 23)])]
def b_X3_readSigned_21 : List QE := [(.iconst 0, 22, []), (.ireturn, 23, [])]
def b_X3_readSigned_23 : List QE := [(.iload_n 2, 24, []), (.ifCond .eq 12, 27, [(0, 36)])]
def b_X3_readSigned_27 : List QE := [(.aload_n 1, 28, []), (.aload_n 1, 29, []), (.getfield 101, 32, []), (.ineg, 33, []), (.putfield 101, 36, [])]
def b_X3_readSigned_36 : List QE := [(.iconst 1, 37, []), (.ireturn, 38, [])]
def L_X3_readSigned : List (Nat × Option (List QE)) := [(0, some b_X3_readSigned_0), (21, some b_X3_readSigned_21), (23, some b_X3_readSigned_23), (27, some b_X3_readSigned_27), (36, some b_X3_readSigned_36)]
def s_X3_readSigned : Nat → Option (List QE) := q_look L_X3_readSigned
theorem s_X3_readSigned_0 : s_X3_readSigned 0 = some b_X3_readSigned_0 := id rfl
theorem s_X3_readSigned_21 : s_X3_readSigned 21 = some b_X3_readSigned_21 := id rfl
theorem s_X3_readSigned_23 : s_X3_readSigned 23 = some b_X3_readSigned_23 := id rfl
theorem s_X3_readSigned_27 : s_X3_readSigned 27 = some b_X3_readSigned_27 := id rfl
theorem s_X3_readSigned_36 : s_X3_readSigned 36 = some b_X3_readSigned_36 := id rfl
def u_X3_readSigned : QU := ([14, 101], [101], [104], [], [43, 81], [], [])
theorem o_X3_readSigned : q_skok cX3_readSigned 3 u_X3_readSigned L_X3_readSigned = true := by decide +kernel
theorem k_X3_readSigned : q_chk RX3 fl_X3 ld_X3 u_X3_readSigned = true := by decide +kernel
def b_X4_begin_0 : List QE := [(.aload_n 0, 1, []), (.iload_n 1, 2, []), (.putfield 15, 5, []), (.aload_n 0, 6, []), (.iconst 0, 7, []), (.putfield 19, 10, []), (.aload_n 0, 11, []), (.bipush 13, 13, []), (.putfield 22, 16, []), (.aload_n 0, 17, []), (.iconst 0, 18, []), (.putfield 25, 21, []), (.return_, 22, [])]
def L_X4_begin : List (Nat × Option (List QE)) := [(0, some b_X4_begin_0)]
def s_X4_begin : Nat → Option (List QE) := q_look L_X4_begin
theorem s_X4_begin_0 : s_X4_begin 0 = some b_X4_begin_0 := id rfl
def u_X4_begin : QU := ([15, 19, 22, 25], [15, 19, 22, 25], [], [], [], [], [])
theorem o_X4_begin : q_skok cX4_begin 2 u_X4_begin L_X4_begin = true := by decide +kernel
theorem k_X4_begin : q_chk RX4 fl_X4 ld_X4 u_X4_begin = true := by decide +kernel
def b_X4_name_0 : List QE := [(.aload_n 0, 1, []), (.getfield 19, 4, []), (.iconst 3, 5, []), (.if_icmp .ge 23, 8, [(0, 28)])]
def b_X4_name_8 : List QE := [(.aload_n 0, 9, []), (.getfield 9, 12, []), (.aload_n 0, 13, []), (.getfield 19, 16, []), (.iload_n 1, 17, []), (.iastore, 18, []), (.aload_n 0, 19, []), (.dup, 20, []), (.getfield 19, 23, []), (.iconst 1, 24, []), (.iadd, 25, []), (.putfield 19, 28, [])]
def b_X4_name_28 : List QE := [(.return_, 29, [])]
def L_X4_name : List (Nat × Option (List QE)) := [(0, some b_X4_name_0), (8, some b_X4_name_8), (28, some b_X4_name_28)]
def s_X4_name : Nat → Option (List QE) := q_look L_X4_name
theorem s_X4_name_0 : s_X4_name 0 = some b_X4_name_0 := id rfl
theorem s_X4_name_8 : s_X4_name 8 = some b_X4_name_8 := id rfl
theorem s_X4_name_28 : s_X4_name 28 = some b_X4_name_28 := id rfl
def u_X4_name : QU := ([19, 9], [19], [], [], [], [], [])
theorem o_X4_name : q_skok cX4_name 2 u_X4_name L_X4_name = true := by decide +kernel
theorem k_X4_name : q_chk RX4 fl_X4 ld_X4 u_X4_name = true := by decide +kernel
def b_X4_isWhole_0 : List QE := [(.aload_n 0, 1, []), (.getfield 15, 4, []), (.bipush 11, 6, []), (.if_icmp .eq 21, 9, [(0, 27)])]
def b_X4_isWhole_9 : List QE := [(.aload_n 0, 10, []), (.getfield 15, 13, []), (.bipush 7, 15, []), (.if_icmp .eq 12, 18, [(0, 27)])]
def b_X4_isWhole_18 : List QE := [(.aload_n 0, 19, []), (.getfield 15, 22, []), (.bipush 12, 24, []), (.if_icmp .ne 7, 27, [(0, 31)])]
def b_X4_isWhole_27 : List QE := [(.iconst 1, 28, []), (.goto 4, 31, [(0, 32)])]
def b_X4_isWhole_31 : List QE := [(.iconst 0, 32, [])]
def b_X4_isWhole_32 : List QE := [(.ireturn, 33, [])]
def L_X4_isWhole : List (Nat × Option (List QE)) := [(0, some b_X4_isWhole_0), (9, some b_X4_isWhole_9), (18, some b_X4_isWhole_18), (27, some b_X4_isWhole_27), (31, some b_X4_isWhole_31), (32, some b_X4_isWhole_32)]
def s_X4_isWhole : Nat → Option (List QE) := q_look L_X4_isWhole
theorem s_X4_isWhole_0 : s_X4_isWhole 0 = some b_X4_isWhole_0 := id rfl
theorem s_X4_isWhole_9 : s_X4_isWhole 9 = some b_X4_isWhole_9 := id rfl
theorem s_X4_isWhole_18 : s_X4_isWhole 18 = some b_X4_isWhole_18 := id rfl
theorem s_X4_isWhole_27 : s_X4_isWhole 27 = some b_X4_isWhole_27 := id rfl
theorem s_X4_isWhole_31 : s_X4_isWhole 31 = some b_X4_isWhole_31 := id rfl
theorem s_X4_isWhole_32 : s_X4_isWhole 32 = some b_X4_isWhole_32 := id rfl
def u_X4_isWhole : QU := ([15], [], [], [], [], [], [])
theorem o_X4_isWhole : q_skok cX4_isWhole 1 u_X4_isWhole L_X4_isWhole = true := by decide +kernel
theorem k_X4_isWhole : q_chk RX4 fl_X4 ld_X4 u_X4_isWhole = true := by decide +kernel
def b_X5_empty_0 : List QE := [(.iconst 0, 1, []), (.istore_n 1, 2, [])]
def b_X5_empty_2 : List QE := [(.iload_n 1, 3, []), (.iconst 4, 4, []), (.if_icmp .ge 20, 7, [(0, 24)])]
def b_X5_empty_7 : List QE := [(.aload_n 0, 8, []), (.getfield 11, 11, []), (.iload_n 1, 12, []), (.aaload, 13, []), (.ldc 26, 15, []), (.invokestatic 27, 18, []), (.iinc 1 1, 21, []), (.goto (-19), 24, [(0, 2)])]
def b_X5_empty_24 : List QE := [(.iconst 0, 25, []), (.istore_n 1, 26, [])]
def b_X5_empty_26 : List QE := [(.iload_n 1, 27, []), (.iconst 3, 28, []), (.if_icmp .ge 16, 31, [(0, 44)])]
def b_X5_empty_31 : List QE := [(.aload_n 0, 32, []), (.getfield 19, 35, []), (.iload_n 1, 36, []), (.iconst 0, 37, []), (.bastore, 38, []), (.iinc 1 1, 41, []), (.goto (-15), 44, [(0, 26)])]
def b_X5_empty_44 : List QE := [(.return_, 45, [])]
def L_X5_empty : List (Nat × Option (List QE)) := [(0, some b_X5_empty_0), (2, none), (7, some b_X5_empty_7), (24, some b_X5_empty_24), (26, none), (31, some b_X5_empty_31), (44, some b_X5_empty_44)]
def s_X5_empty : Nat → Option (List QE) := q_look L_X5_empty
theorem s_X5_empty_0 : s_X5_empty 0 = some b_X5_empty_0 := id rfl
theorem s_X5_empty_2 : s_X5_empty 2 = none := id rfl
theorem s_X5_empty_7 : s_X5_empty 7 = some b_X5_empty_7 := id rfl
theorem s_X5_empty_24 : s_X5_empty 24 = some b_X5_empty_24 := id rfl
theorem s_X5_empty_26 : s_X5_empty 26 = none := id rfl
theorem s_X5_empty_31 : s_X5_empty 31 = some b_X5_empty_31 := id rfl
theorem s_X5_empty_44 : s_X5_empty 44 = some b_X5_empty_44 := id rfl
def u_X5_empty : QU := ([11, 19], [], [26], [], [], [27], [])
theorem o_X5_empty : q_skok cX5_empty 2 u_X5_empty L_X5_empty = true := by decide +kernel
theorem o_X5_empty_2 : q_ok cX5_empty 2 u_X5_empty 2 b_X5_empty_2 = true := by decide +kernel
theorem o_X5_empty_26 : q_ok cX5_empty 2 u_X5_empty 26 b_X5_empty_26 = true := by decide +kernel
theorem k_X5_empty : q_chk RX5 fl_X5 ld_X5 u_X5_empty = true := by decide +kernel
def b_X5_keep_0 : List QE := [(.iconst 0, 1, []), (.istore_n 2, 2, [])]
def b_X5_keep_2 : List QE := [(.iload_n 2, 3, []), (.iconst 4, 4, []), (.if_icmp .ge 33, 7, [(0, 37)])]
def b_X5_keep_7 : List QE := [(.aload_n 0, 8, []), (.getfield 11, 11, []), (.iload_n 2, 12, []), (.aaload, 13, []), (.iconst 0, 14, []), (.aload_n 0, 15, []), (.getfield 16, 18, []), (.iload_n 1, 19, []), (.aaload, 20, []), (.iload_n 2, 21, []), (.sipush 196, 24, []), (.imul, 25, []), (.sipush 196, 28, []), (.invokestatic 33, 31, []), (.iinc 2 1, 34, []), (.goto (-32), 37, [(0, 2)])]
def b_X5_keep_37 : List QE := [(.aload_n 0, 38, []), (.getfield 19, 41, []), (.iload_n 1, 42, []), (.iconst 1, 43, []), (.bastore, 44, []), (.return_, 45, [])]
def L_X5_keep : List (Nat × Option (List QE)) := [(0, some b_X5_keep_0), (2, none), (7, some b_X5_keep_7), (37, some b_X5_keep_37)]
def s_X5_keep : Nat → Option (List QE) := q_look L_X5_keep
theorem s_X5_keep_0 : s_X5_keep 0 = some b_X5_keep_0 := id rfl
theorem s_X5_keep_2 : s_X5_keep 2 = none := id rfl
theorem s_X5_keep_7 : s_X5_keep 7 = some b_X5_keep_7 := id rfl
theorem s_X5_keep_37 : s_X5_keep 37 = some b_X5_keep_37 := id rfl
def u_X5_keep : QU := ([11, 16, 19], [], [], [], [], [33], [])
theorem o_X5_keep : q_skok cX5_keep 3 u_X5_keep L_X5_keep = true := by decide +kernel
theorem o_X5_keep_2 : q_ok cX5_keep 3 u_X5_keep 2 b_X5_keep_2 = true := by decide +kernel
theorem k_X5_keep : q_chk RX5 fl_X5 ld_X5 u_X5_keep = true := by decide +kernel
def b_X6_clear_0 : List QE := [(.aload_n 0, 1, []), (.lconst 0, 2, []), (.putfield 9, 5, []), (.aload_n 0, 6, []), (.ldc 15, 8, []), (.putfield 16, 11, []), (.aload_n 0, 12, []), (.ldc 20, 14, []), (.putfield 21, 17, []), (.aload_n 0, 18, []), (.iconst 0, 19, []), (.putfield 24, 22, []), (.return_, 23, [])]
def L_X6_clear : List (Nat × Option (List QE)) := [(0, some b_X6_clear_0)]
def s_X6_clear : Nat → Option (List QE) := q_look L_X6_clear
theorem s_X6_clear_0 : s_X6_clear 0 = some b_X6_clear_0 := id rfl
def u_X6_clear : QU := ([9, 16, 21, 24], [9, 16, 21, 24], [15, 20], [], [], [], [])
theorem o_X6_clear : q_skok cX6_clear 1 u_X6_clear L_X6_clear = true := by decide +kernel
theorem k_X6_clear : q_chk RX6 fl_X6 ld_X6 u_X6_clear = true := by decide +kernel
def b_X6_take_0 : List QE := [(.iload_n 1, 1, []), (.ldc 27, 3, []), (.if_icmp .ne 4, 6, [(0, 7)])]
def b_X6_take_6 : List QE := [(.return_, 7, [])]
def b_X6_take_7 : List QE := [(.aload_n 0, 8, []), (.dup, 9, []), (.getfield 9, 12, []), (.iload_n 1, 13, []), (.i2l, 14, []), (.ladd, 15, []), (.putfield 9, 18, []), (.iload_n 1, 19, []), (.aload_n 0, 20, []), (.getfield 16, 23, []), (.if_icmp .le 8, 26, [(0, 31)])]
def b_X6_take_26 : List QE := [(.aload_n 0, 27, []), (.iload_n 1, 28, []), (.putfield 16, 31, [])]
def b_X6_take_31 : List QE := [(.iload_n 1, 32, []), (.aload_n 0, 33, []), (.getfield 21, 36, []), (.if_icmp .ge 8, 39, [(0, 44)])]
def b_X6_take_39 : List QE := [(.aload_n 0, 40, []), (.iload_n 1, 41, []), (.putfield 21, 44, [])]
def b_X6_take_44 : List QE := [(.aload_n 0, 45, []), (.dup, 46, []), (.getfield 24, 49, []), (.iconst 1, 50, []), (.iadd, 51, []), (.putfield 24, 54, []), (.return_, 55, [])]
def L_X6_take : List (Nat × Option (List QE)) := [(0, some b_X6_take_0), (6, some b_X6_take_6), (7, some b_X6_take_7), (26, some b_X6_take_26), (31, some b_X6_take_31), (39, some b_X6_take_39), (44, some b_X6_take_44)]
def s_X6_take : Nat → Option (List QE) := q_look L_X6_take
theorem s_X6_take_0 : s_X6_take 0 = some b_X6_take_0 := id rfl
theorem s_X6_take_6 : s_X6_take 6 = some b_X6_take_6 := id rfl
theorem s_X6_take_7 : s_X6_take 7 = some b_X6_take_7 := id rfl
theorem s_X6_take_26 : s_X6_take 26 = some b_X6_take_26 := id rfl
theorem s_X6_take_31 : s_X6_take 31 = some b_X6_take_31 := id rfl
theorem s_X6_take_39 : s_X6_take 39 = some b_X6_take_39 := id rfl
theorem s_X6_take_44 : s_X6_take 44 = some b_X6_take_44 := id rfl
def u_X6_take : QU := ([9, 16, 21, 24], [9, 16, 21, 24], [27], [], [], [], [])
theorem o_X6_take : q_skok cX6_take 2 u_X6_take L_X6_take = true := by decide +kernel
theorem k_X6_take : q_chk RX6 fl_X6 ld_X6 u_X6_take = true := by decide +kernel
def b_X6_answer_0 : List QE := [(.iload_n 1, 1, []), (.bipush 14, 3, []), (.if_icmp .ne 8, 6, [(0, 11)])]
def b_X6_answer_6 : List QE := [(.aload_n 0, 7, []), (.getfield 24, 10, []), (.ireturn, 11, [])]
def b_X6_answer_11 : List QE := [(.aload_n 0, 12, []), (.getfield 24, 15, []), (.ifCond .ne 6, 18, [(0, 21)])]
def b_X6_answer_18 : List QE := [(.ldc 27, 20, []), (.ireturn, 21, [])]
def b_X6_answer_21 : List QE := [(.iload_n 1, 22, []), (.lookupswitch 36 #[(4, 31), (5, 26)], 48, [(4, 53), (5, 48), (0, 58)])]
def b_X6_answer_48 : List QE := [(.aload_n 0, 49, []), (.getfield 16, 52, []), (.ireturn, 53, [])]
def b_X6_answer_53 : List QE := [(.aload_n 0, 54, []), (.getfield 21, 57, []), (.ireturn, 58, [])]
def b_X6_answer_58 : List QE := [(.aload_n 0, 59, []), (.getfield 9, 62, []), (.invokestatic 28, 65, []), (.ireturn, 66, [])]
def L_X6_answer : List (Nat × Option (List QE)) := [(0, some b_X6_answer_0), (6, some b_X6_answer_6), (11, some b_X6_answer_11), (18, some b_X6_answer_18), (21, some b_X6_answer_21), (48, some b_X6_answer_48), (53, some b_X6_answer_53), (58, some b_X6_answer_58)]
def s_X6_answer : Nat → Option (List QE) := q_look L_X6_answer
theorem s_X6_answer_0 : s_X6_answer 0 = some b_X6_answer_0 := id rfl
theorem s_X6_answer_6 : s_X6_answer 6 = some b_X6_answer_6 := id rfl
theorem s_X6_answer_11 : s_X6_answer 11 = some b_X6_answer_11 := id rfl
theorem s_X6_answer_18 : s_X6_answer 18 = some b_X6_answer_18 := id rfl
theorem s_X6_answer_21 : s_X6_answer 21 = some b_X6_answer_21 := id rfl
theorem s_X6_answer_48 : s_X6_answer 48 = some b_X6_answer_48 := id rfl
theorem s_X6_answer_53 : s_X6_answer 53 = some b_X6_answer_53 := id rfl
theorem s_X6_answer_58 : s_X6_answer 58 = some b_X6_answer_58 := id rfl
def u_X6_answer : QU := ([24, 16, 21, 9], [], [27], [], [], [28], [])
theorem o_X6_answer : q_skok cX6_answer 2 u_X6_answer L_X6_answer = true := by decide +kernel
theorem k_X6_answer : q_chk RX6 fl_X6 ld_X6 u_X6_answer = true := by decide +kernel
def b_X7_hasRoom_0 : List QE := [(.aload_n 0, 1, []), (.getfield 15, 4, []), (.iload_n 1, 5, []), (.iadd, 6, []), (.sipush 300, 9, []), (.if_icmp .gt 7, 12, [(0, 16)])]
def b_X7_hasRoom_12 : List QE := [(.iconst 1, 13, []), (.goto 4, 16, [(0, 17)])]
def b_X7_hasRoom_16 : List QE := [(.iconst 0, 17, [])]
def b_X7_hasRoom_17 : List QE := [(.ireturn, 18, [])]
def L_X7_hasRoom : List (Nat × Option (List QE)) := [(0, some b_X7_hasRoom_0), (12, some b_X7_hasRoom_12), (16, some b_X7_hasRoom_16), (17, some b_X7_hasRoom_17)]
def s_X7_hasRoom : Nat → Option (List QE) := q_look L_X7_hasRoom
theorem s_X7_hasRoom_0 : s_X7_hasRoom 0 = some b_X7_hasRoom_0 := id rfl
theorem s_X7_hasRoom_12 : s_X7_hasRoom 12 = some b_X7_hasRoom_12 := id rfl
theorem s_X7_hasRoom_16 : s_X7_hasRoom 16 = some b_X7_hasRoom_16 := id rfl
theorem s_X7_hasRoom_17 : s_X7_hasRoom 17 = some b_X7_hasRoom_17 := id rfl
def u_X7_hasRoom : QU := ([15], [], [], [], [], [], [])
theorem o_X7_hasRoom : q_skok cX7_hasRoom 2 u_X7_hasRoom L_X7_hasRoom = true := by decide +kernel
theorem k_X7_hasRoom : q_chk RX7 fl_X7 ld_X7 u_X7_hasRoom = true := by decide +kernel
def b_X7_append_0 : List QE := [(.bipush 24, 2, []), (.istore_n 2, 3, [])]
def b_X7_append_3 : List QE := [(.iload_n 2, 4, []), (.ifCond .lt 46, 7, [(0, 50)])]
def b_X7_append_7 : List QE := [(.aload_n 0, 8, []), (.getfield 15, 11, []), (.sipush 300, 14, []), (.if_icmp .ge 30, 17, [(0, 44)])]
def b_X7_append_17 : List QE := [(.aload_n 0, 18, []), (.getfield 9, 21, []), (.aload_n 0, 22, []), (.getfield 15, 25, []), (.iload_n 1, 26, []), (.iload_n 2, 27, []), (.iushr, 28, []), (.sipush 255, 31, []), (.iand, 32, []), (.i2c, 33, []), (.castore, 34, []), (.aload_n 0, 35, []), (.dup, 36, []), (.getfield 15, 39, []), (.iconst 1, 40, []), (.iadd, 41, []), (.putfield 15, 44, [])]
def b_X7_append_44 : List QE := [(.iinc 2 (-8), 47, []), (.goto (-44), 50, [(0, 3)])]
def b_X7_append_50 : List QE := [(.return_, 51, [])]
def L_X7_append : List (Nat × Option (List QE)) := [(0, some b_X7_append_0), (3, none), (7, some b_X7_append_7), (17, some b_X7_append_17), (44, some b_X7_append_44), (50, some b_X7_append_50)]
def s_X7_append : Nat → Option (List QE) := q_look L_X7_append
theorem s_X7_append_0 : s_X7_append 0 = some b_X7_append_0 := id rfl
theorem s_X7_append_3 : s_X7_append 3 = none := id rfl
theorem s_X7_append_7 : s_X7_append 7 = some b_X7_append_7 := id rfl
theorem s_X7_append_17 : s_X7_append 17 = some b_X7_append_17 := id rfl
theorem s_X7_append_44 : s_X7_append 44 = some b_X7_append_44 := id rfl
theorem s_X7_append_50 : s_X7_append 50 = some b_X7_append_50 := id rfl
def u_X7_append : QU := ([15, 9], [15], [], [], [], [], [])
theorem o_X7_append : q_skok cX7_append 3 u_X7_append L_X7_append = true := by decide +kernel
theorem o_X7_append_3 : q_ok cX7_append 3 u_X7_append 3 b_X7_append_3 = true := by decide +kernel
theorem k_X7_append : q_chk RX7 fl_X7 ld_X7 u_X7_append = true := by decide +kernel
def b_X7_byteAt_0 : List QE := [(.iload_n 1, 1, []), (.ifCond .lt 20, 4, [(0, 21)])]
def b_X7_byteAt_4 : List QE := [(.iload_n 1, 5, []), (.aload_n 0, 6, []), (.getfield 15, 9, []), (.if_icmp .ge 12, 12, [(0, 21)])]
def b_X7_byteAt_12 : List QE := [(.aload_n 0, 13, []), (.getfield 9, 16, []), (.iload_n 1, 17, []), (.caload, 18, []), (.goto 4, 21, [(0, 22)])]
def b_X7_byteAt_21 : List QE := [(.iconst 0, 22, [])]
def b_X7_byteAt_22 : List QE := [(.ireturn, 23, [])]
def L_X7_byteAt : List (Nat × Option (List QE)) := [(0, some b_X7_byteAt_0), (4, some b_X7_byteAt_4), (12, some b_X7_byteAt_12), (21, some b_X7_byteAt_21), (22, some b_X7_byteAt_22)]
def s_X7_byteAt : Nat → Option (List QE) := q_look L_X7_byteAt
theorem s_X7_byteAt_0 : s_X7_byteAt 0 = some b_X7_byteAt_0 := id rfl
theorem s_X7_byteAt_4 : s_X7_byteAt 4 = some b_X7_byteAt_4 := id rfl
theorem s_X7_byteAt_12 : s_X7_byteAt 12 = some b_X7_byteAt_12 := id rfl
theorem s_X7_byteAt_21 : s_X7_byteAt 21 = some b_X7_byteAt_21 := id rfl
theorem s_X7_byteAt_22 : s_X7_byteAt 22 = some b_X7_byteAt_22 := id rfl
def u_X7_byteAt : QU := ([15, 9], [], [], [], [], [], [])
theorem o_X7_byteAt : q_skok cX7_byteAt 2 u_X7_byteAt L_X7_byteAt = true := by decide +kernel
theorem k_X7_byteAt : q_chk RX7 fl_X7 ld_X7 u_X7_byteAt = true := by decide +kernel
def b_X7_isLetter_0 : List QE := [(.aload_n 0, 1, []), (.iload_n 1, 2, []), (.invokevirtual 19, 5, []), (.bipush 97, 7, []), (.if_icmp .lt 17, 10, [(0, 24)])]
def b_X7_isLetter_10 : List QE := [(.aload_n 0, 11, []), (.iload_n 1, 12, []), (.invokevirtual 19, 15, []), (.bipush 122, 17, []), (.if_icmp .gt 7, 20, [(0, 24)])]
def b_X7_isLetter_20 : List QE := [(.iconst 1, 21, []), (.goto 4, 24, [(0, 25)])]
def b_X7_isLetter_24 : List QE := [(.iconst 0, 25, [])]
def b_X7_isLetter_25 : List QE := [(.ireturn, 26, [])]
def L_X7_isLetter : List (Nat × Option (List QE)) := [(0, some b_X7_isLetter_0), (10, some b_X7_isLetter_10), (20, some b_X7_isLetter_20), (24, some b_X7_isLetter_24), (25, some b_X7_isLetter_25)]
def s_X7_isLetter : Nat → Option (List QE) := q_look L_X7_isLetter
theorem s_X7_isLetter_0 : s_X7_isLetter 0 = some b_X7_isLetter_0 := id rfl
theorem s_X7_isLetter_10 : s_X7_isLetter 10 = some b_X7_isLetter_10 := id rfl
theorem s_X7_isLetter_20 : s_X7_isLetter 20 = some b_X7_isLetter_20 := id rfl
theorem s_X7_isLetter_24 : s_X7_isLetter 24 = some b_X7_isLetter_24 := id rfl
theorem s_X7_isLetter_25 : s_X7_isLetter 25 = some b_X7_isLetter_25 := id rfl
def u_X7_isLetter : QU := ([], [], [], [], [19], [], [])
theorem o_X7_isLetter : q_skok cX7_isLetter 2 u_X7_isLetter L_X7_isLetter = true := by decide +kernel
theorem k_X7_isLetter : q_chk RX7 fl_X7 ld_X7 u_X7_isLetter = true := by decide +kernel
def b_X7_isDigit_0 : List QE := [(.aload_n 0, 1, []), (.iload_n 1, 2, []), (.invokevirtual 19, 5, []), (.bipush 48, 7, []), (.if_icmp .lt 17, 10, [(0, 24)])]
def b_X7_isDigit_10 : List QE := [(.aload_n 0, 11, []), (.iload_n 1, 12, []), (.invokevirtual 19, 15, []), (.bipush 57, 17, []), (.if_icmp .gt 7, 20, [(0, 24)])]
def b_X7_isDigit_20 : List QE := [(.iconst 1, 21, []), (.goto 4, 24, [(0, 25)])]
def b_X7_isDigit_24 : List QE := [(.iconst 0, 25, [])]
def b_X7_isDigit_25 : List QE := [(.ireturn, 26, [])]
def L_X7_isDigit : List (Nat × Option (List QE)) := [(0, some b_X7_isDigit_0), (10, some b_X7_isDigit_10), (20, some b_X7_isDigit_20), (24, some b_X7_isDigit_24), (25, some b_X7_isDigit_25)]
def s_X7_isDigit : Nat → Option (List QE) := q_look L_X7_isDigit
theorem s_X7_isDigit_0 : s_X7_isDigit 0 = some b_X7_isDigit_0 := id rfl
theorem s_X7_isDigit_10 : s_X7_isDigit 10 = some b_X7_isDigit_10 := id rfl
theorem s_X7_isDigit_20 : s_X7_isDigit 20 = some b_X7_isDigit_20 := id rfl
theorem s_X7_isDigit_24 : s_X7_isDigit 24 = some b_X7_isDigit_24 := id rfl
theorem s_X7_isDigit_25 : s_X7_isDigit 25 = some b_X7_isDigit_25 := id rfl
def u_X7_isDigit : QU := ([], [], [], [], [19], [], [])
theorem o_X7_isDigit : q_skok cX7_isDigit 2 u_X7_isDigit L_X7_isDigit = true := by decide +kernel
theorem k_X7_isDigit : q_chk RX7 fl_X7 ld_X7 u_X7_isDigit = true := by decide +kernel
def b_X8_cut_0 : List QE := [(.aload_n 0, 1, []), (.iconst 0, 2, []), (.putfield 25, 5, []), (.aload_n 0, 6, []), (.iconst 0, 7, []), (.putfield 29, 10, []), (.iconst 0, 11, []), (.istore_n 1, 12, [])]
def b_X8_cut_12 : List QE := [(.iload_n 1, 13, []), (.aload_n 0, 14, []), (.getfield 21, 17, []), (.getfield 32, 20, []), (.if_icmp .ge 22, 23, [(0, 42)])]
def b_X8_cut_23 : List QE := [(.aload_n 0, 24, []), (.iload_n 1, 25, []), (.invokevirtual 35, 28, []), (.ifCond .eq 8, 31, [(0, 36)])]
def b_X8_cut_31 : List QE := [(.aload_n 0, 32, []), (.iload_n 1, 33, []), (.invokevirtual 39, 36, [])]
def b_X8_cut_36 : List QE := [(.iinc 1 1, 39, []), (.goto (-27), 42, [(0, 12)])]
def b_X8_cut_42 : List QE := [(.aload_n 0, 43, []), (.iconst 0, 44, []), (.iconst 0, 45, []), (.aload_n 0, 46, []), (.getfield 21, 49, []), (.getfield 32, 52, []), (.invokevirtual 43, 55, []), (.return_, 56, [])]
def L_X8_cut : List (Nat × Option (List QE)) := [(0, some b_X8_cut_0), (12, none), (23, some b_X8_cut_23), (31, some b_X8_cut_31), (36, some b_X8_cut_36), (42, some b_X8_cut_42)]
def s_X8_cut : Nat → Option (List QE) := q_look L_X8_cut
theorem s_X8_cut_0 : s_X8_cut 0 = some b_X8_cut_0 := id rfl
theorem s_X8_cut_12 : s_X8_cut 12 = none := id rfl
theorem s_X8_cut_23 : s_X8_cut 23 = some b_X8_cut_23 := id rfl
theorem s_X8_cut_31 : s_X8_cut 31 = some b_X8_cut_31 := id rfl
theorem s_X8_cut_36 : s_X8_cut 36 = some b_X8_cut_36 := id rfl
theorem s_X8_cut_42 : s_X8_cut 42 = some b_X8_cut_42 := id rfl
def u_X8_cut : QU := ([25, 29, 21, 32], [25, 29], [], [], [35, 39, 43], [], [])
theorem o_X8_cut : q_skok cX8_cut 2 u_X8_cut L_X8_cut = true := by decide +kernel
theorem o_X8_cut_12 : q_ok cX8_cut 2 u_X8_cut 12 b_X8_cut_12 = true := by decide +kernel
theorem k_X8_cut : q_chk RX8 fl_X8 ld_X8 u_X8_cut = true := by decide +kernel
def b_X8_isStart_0 : List QE := [(.aload_n 0, 1, []), (.getfield 21, 4, []), (.iload_n 1, 5, []), (.invokevirtual 47, 8, []), (.ifCond .eq 22, 11, [(0, 30)])]
def b_X8_isStart_11 : List QE := [(.aload_n 0, 12, []), (.getfield 21, 15, []), (.iload_n 1, 16, []), (.iconst 1, 17, []), (.isub, 18, []), (.invokevirtual 47, 21, []), (.ifCond .ne 7, 24, [(0, 28)])]
def b_X8_isStart_24 : List QE := [(.iconst 1, 25, []), (.goto 4, 28, [(0, 29)])]
def b_X8_isStart_28 : List QE := [(.iconst 0, 29, [])]
def b_X8_isStart_29 : List QE := [(.ireturn, 30, [])]
def b_X8_isStart_30 : List QE := [(.aload_n 0, 31, []), (.getfield 21, 34, []), (.iload_n 1, 35, []), (.invokevirtual 50, 38, []), (.ifCond .eq 22, 41, [(0, 60)])]
def b_X8_isStart_41 : List QE := [(.aload_n 0, 42, []), (.getfield 21, 45, []), (.iload_n 1, 46, []), (.iconst 1, 47, []), (.isub, 48, []), (.invokevirtual 50, 51, []), (.ifCond .ne 7, 54, [(0, 58)])]
def b_X8_isStart_54 : List QE := [(.iconst 1, 55, []), (.goto 4, 58, [(0, 59)])]
def b_X8_isStart_58 : List QE := [(.iconst 0, 59, [])]
def b_X8_isStart_59 : List QE := [(.ireturn, 60, [])]
def b_X8_isStart_60 : List QE := [(.aload_n 0, 61, []), (.getfield 21, 64, []), (.iload_n 1, 65, []), (.invokevirtual 53, 68, []), (.bipush 32, 70, []), (.if_icmp .eq 7, 73, [(0, 77)])]
def b_X8_isStart_73 : List QE := [(.iconst 1, 74, []), (.goto 4, 77, [(0, 78)])]
def b_X8_isStart_77 : List QE := [(.iconst 0, 78, [])]
def b_X8_isStart_78 : List QE := [(.ireturn, 79, [])]
def L_X8_isStart : List (Nat × Option (List QE)) := [(0, some b_X8_isStart_0), (11, some b_X8_isStart_11), (24, some b_X8_isStart_24), (28, some b_X8_isStart_28), (29, some b_X8_isStart_29), (30, some b_X8_isStart_30), (41, some b_X8_isStart_41), (54, some b_X8_isStart_54), (58, some b_X8_isStart_58), (59, some b_X8_isStart_59), (60, some b_X8_isStart_60), (73, some b_X8_isStart_73), (77, some b_X8_isStart_77), (78, some b_X8_isStart_78)]
def s_X8_isStart : Nat → Option (List QE) := q_look L_X8_isStart
theorem s_X8_isStart_0 : s_X8_isStart 0 = some b_X8_isStart_0 := id rfl
theorem s_X8_isStart_11 : s_X8_isStart 11 = some b_X8_isStart_11 := id rfl
theorem s_X8_isStart_24 : s_X8_isStart 24 = some b_X8_isStart_24 := id rfl
theorem s_X8_isStart_28 : s_X8_isStart 28 = some b_X8_isStart_28 := id rfl
theorem s_X8_isStart_29 : s_X8_isStart 29 = some b_X8_isStart_29 := id rfl
theorem s_X8_isStart_30 : s_X8_isStart 30 = some b_X8_isStart_30 := id rfl
theorem s_X8_isStart_41 : s_X8_isStart 41 = some b_X8_isStart_41 := id rfl
theorem s_X8_isStart_54 : s_X8_isStart 54 = some b_X8_isStart_54 := id rfl
theorem s_X8_isStart_58 : s_X8_isStart 58 = some b_X8_isStart_58 := id rfl
theorem s_X8_isStart_59 : s_X8_isStart 59 = some b_X8_isStart_59 := id rfl
theorem s_X8_isStart_60 : s_X8_isStart 60 = some b_X8_isStart_60 := id rfl
theorem s_X8_isStart_73 : s_X8_isStart 73 = some b_X8_isStart_73 := id rfl
theorem s_X8_isStart_77 : s_X8_isStart 77 = some b_X8_isStart_77 := id rfl
theorem s_X8_isStart_78 : s_X8_isStart 78 = some b_X8_isStart_78 := id rfl
def u_X8_isStart : QU := ([21], [], [], [], [47, 50, 53], [], [])
theorem o_X8_isStart : q_skok cX8_isStart 2 u_X8_isStart L_X8_isStart = true := by decide +kernel
theorem k_X8_isStart : q_chk RX8 fl_X8 ld_X8 u_X8_isStart = true := by decide +kernel
def b_X8_holdAt_0 : List QE := [(.aload_n 0, 1, []), (.getfield 21, 4, []), (.iload_n 1, 5, []), (.invokevirtual 47, 8, []), (.ifCond .eq 11, 11, [(0, 19)])]
def b_X8_holdAt_11 : List QE := [(.aload_n 0, 12, []), (.iload_n 1, 13, []), (.invokevirtual 57, 16, []), (.goto 36, 19, [(0, 52)])]
def b_X8_holdAt_19 : List QE := [(.aload_n 0, 20, []), (.getfield 21, 23, []), (.iload_n 1, 24, []), (.invokevirtual 50, 27, []), (.ifCond .eq 11, 30, [(0, 38)])]
def b_X8_holdAt_30 : List QE := [(.aload_n 0, 31, []), (.iload_n 1, 32, []), (.invokevirtual 60, 35, []), (.goto 17, 38, [(0, 52)])]
def b_X8_holdAt_38 : List QE := [(.aload_n 0, 39, []), (.iconst 4, 40, []), (.aload_n 0, 41, []), (.getfield 21, 44, []), (.iload_n 1, 45, []), (.invokevirtual 53, 48, []), (.iload_n 1, 49, []), (.invokevirtual 43, 52, [])]
def b_X8_holdAt_52 : List QE := [(.return_, 53, [])]
def L_X8_holdAt : List (Nat × Option (List QE)) := [(0, some b_X8_holdAt_0), (11, some b_X8_holdAt_11), (19, some b_X8_holdAt_19), (30, some b_X8_holdAt_30), (38, some b_X8_holdAt_38), (52, some b_X8_holdAt_52)]
def s_X8_holdAt : Nat → Option (List QE) := q_look L_X8_holdAt
theorem s_X8_holdAt_0 : s_X8_holdAt 0 = some b_X8_holdAt_0 := id rfl
theorem s_X8_holdAt_11 : s_X8_holdAt 11 = some b_X8_holdAt_11 := id rfl
theorem s_X8_holdAt_19 : s_X8_holdAt 19 = some b_X8_holdAt_19 := id rfl
theorem s_X8_holdAt_30 : s_X8_holdAt 30 = some b_X8_holdAt_30 := id rfl
theorem s_X8_holdAt_38 : s_X8_holdAt 38 = some b_X8_holdAt_38 := id rfl
theorem s_X8_holdAt_52 : s_X8_holdAt 52 = some b_X8_holdAt_52 := id rfl
def u_X8_holdAt : QU := ([21], [], [], [], [47, 57, 50, 60, 53, 43], [], [])
theorem o_X8_holdAt : q_skok cX8_holdAt 2 u_X8_holdAt L_X8_holdAt = true := by decide +kernel
theorem k_X8_holdAt : q_chk RX8 fl_X8 ld_X8 u_X8_holdAt = true := by decide +kernel
def b_X8_hold_0 : List QE := [(.aload_n 0, 1, []), (.getfield 29, 4, []), (.sipush 300, 7, []), (.if_icmp .gt 43, 10, [(0, 50)])]
def b_X8_hold_10 : List QE := [(.aload_n 0, 11, []), (.getfield 9, 14, []), (.aload_n 0, 15, []), (.getfield 29, 18, []), (.iload_n 1, 19, []), (.iastore, 20, []), (.aload_n 0, 21, []), (.getfield 15, 24, []), (.aload_n 0, 25, []), (.getfield 29, 28, []), (.iload_n 2, 29, []), (.iastore, 30, []), (.aload_n 0, 31, []), (.getfield 18, 34, []), (.aload_n 0, 35, []), (.getfield 29, 38, []), (.iload_n 3, 39, []), (.iastore, 40, []), (.aload_n 0, 41, []), (.dup, 42, []), (.getfield 29, 45, []), (.iconst 1, 46, []), (.iadd, 47, []), (.putfield 29, 50, [])]
def b_X8_hold_50 : List QE := [(.return_, 51, [])]
def L_X8_hold : List (Nat × Option (List QE)) := [(0, some b_X8_hold_0), (10, some b_X8_hold_10), (50, some b_X8_hold_50)]
def s_X8_hold : Nat → Option (List QE) := q_look L_X8_hold
theorem s_X8_hold_0 : s_X8_hold 0 = some b_X8_hold_0 := id rfl
theorem s_X8_hold_10 : s_X8_hold 10 = some b_X8_hold_10 := id rfl
theorem s_X8_hold_50 : s_X8_hold 50 = some b_X8_hold_50 := id rfl
def u_X8_hold : QU := ([29, 9, 15, 18], [29], [], [], [], [], [])
theorem o_X8_hold : q_skok cX8_hold 4 u_X8_hold L_X8_hold = true := by decide +kernel
theorem k_X8_hold : q_chk RX8 fl_X8 ld_X8 u_X8_hold = true := by decide +kernel
def b_X8_holdLetters_0 : List QE := [(.iload_n 1, 1, []), (.iconst 1, 2, []), (.iadd, 3, []), (.istore_n 2, 4, [])]
def b_X8_holdLetters_4 : List QE := [(.iload_n 2, 5, []), (.aload_n 0, 6, []), (.getfield 21, 9, []), (.getfield 32, 12, []), (.if_icmp .ge 20, 15, [(0, 32)])]
def b_X8_holdLetters_15 : List QE := [(.aload_n 0, 16, []), (.getfield 21, 19, []), (.iload_n 2, 20, []), (.invokevirtual 47, 23, []), (.ifCond .eq 9, 26, [(0, 32)])]
def b_X8_holdLetters_26 : List QE := [(.iinc 2 1, 29, []), (.goto (-25), 32, [(0, 4)])]
def b_X8_holdLetters_32 : List QE := [(.iload_n 2, 33, []), (.iload_n 1, 34, []), (.isub, 35, []), (.iconst 1, 36, []), (.if_icmp .ne 21, 39, [(0, 57)])]
def b_X8_holdLetters_39 : List QE := [(.aload_n 0, 40, []), (.iconst 1, 41, []), (.aload_n 0, 42, []), (.getfield 21, 45, []), (.iload_n 1, 46, []), (.invokevirtual 53, 49, []), (.bipush 97, 51, []), (.isub, 52, []), (.iload_n 1, 53, []), (.invokevirtual 43, 56, []), (.return_, 57, [])]
def b_X8_holdLetters_57 : List QE := [(.iconst 0, 58, []), (.istore_n 3, 59, [])]
def b_X8_holdLetters_59 : List QE := [(.iload_n 3, 60, []), (.bipush 15, 62, []), (.if_icmp .ge 30, 65, [(0, 92)])]
def b_X8_holdLetters_65 : List QE := [(.aload_n 0, 66, []), (.iload_n 3, 67, []), (.invokestatic 63, 70, []), (.iload_n 1, 71, []), (.iload_n 2, 72, []), (.invokevirtual 67, 75, []), (.ifCond .eq 11, 78, [(0, 86)])]
def b_X8_holdLetters_78 : List QE := [(.aload_n 0, 79, []), (.iconst 2, 80, []), (.iload_n 3, 81, []), (.iload_n 1, 82, []), (.invokevirtual 43, 85, []), (.return_, 86, [])]
def b_X8_holdLetters_86 : List QE := [(.iinc 3 1, 89, []), (.goto (-30), 92, [(0, 59)])]
def b_X8_holdLetters_92 : List QE := [(.aload_n 0, 93, []), (.iconst 5, 94, []), (.iconst 0, 95, []), (.iload_n 1, 96, []), (.invokevirtual 43, 99, []), (.return_, 100, [])]
def L_X8_holdLetters : List (Nat × Option (List QE)) := [(0, some b_X8_holdLetters_0), (4, none), (15, some b_X8_holdLetters_15), (26, some b_X8_holdLetters_26), (32, some b_X8_holdLetters_32), (39, some b_X8_holdLetters_39), (57, some b_X8_holdLetters_57), (59, none), (65, some b_X8_holdLetters_65), (78, some b_X8_holdLetters_78), (86, some b_X8_holdLetters_86), (92, some b_X8_holdLetters_92)]
def s_X8_holdLetters : Nat → Option (List QE) := q_look L_X8_holdLetters
theorem s_X8_holdLetters_0 : s_X8_holdLetters 0 = some b_X8_holdLetters_0 := id rfl
theorem s_X8_holdLetters_4 : s_X8_holdLetters 4 = none := id rfl
theorem s_X8_holdLetters_15 : s_X8_holdLetters 15 = some b_X8_holdLetters_15 := id rfl
theorem s_X8_holdLetters_26 : s_X8_holdLetters 26 = some b_X8_holdLetters_26 := id rfl
theorem s_X8_holdLetters_32 : s_X8_holdLetters 32 = some b_X8_holdLetters_32 := id rfl
theorem s_X8_holdLetters_39 : s_X8_holdLetters 39 = some b_X8_holdLetters_39 := id rfl
theorem s_X8_holdLetters_57 : s_X8_holdLetters 57 = some b_X8_holdLetters_57 := id rfl
theorem s_X8_holdLetters_59 : s_X8_holdLetters 59 = none := id rfl
theorem s_X8_holdLetters_65 : s_X8_holdLetters 65 = some b_X8_holdLetters_65 := id rfl
theorem s_X8_holdLetters_78 : s_X8_holdLetters 78 = some b_X8_holdLetters_78 := id rfl
theorem s_X8_holdLetters_86 : s_X8_holdLetters 86 = some b_X8_holdLetters_86 := id rfl
theorem s_X8_holdLetters_92 : s_X8_holdLetters 92 = some b_X8_holdLetters_92 := id rfl
def u_X8_holdLetters : QU := ([21, 32], [], [], [], [47, 53, 43, 67], [63], [])
theorem o_X8_holdLetters : q_skok cX8_holdLetters 4 u_X8_holdLetters L_X8_holdLetters = true := by decide +kernel
theorem o_X8_holdLetters_59 : q_ok cX8_holdLetters 4 u_X8_holdLetters 59 b_X8_holdLetters_59 = true := by decide +kernel
theorem o_X8_holdLetters_4 : q_ok cX8_holdLetters 4 u_X8_holdLetters 4 b_X8_holdLetters_4 = true := by decide +kernel
theorem k_X8_holdLetters : q_chk RX8 fl_X8 ld_X8 u_X8_holdLetters = true := by decide +kernel
def b_X8_holdDigits_0 : List QE := [(.iconst 0, 1, []), (.istore_n 2, 2, []), (.iload_n 1, 3, []), (.istore_n 3, 4, [])]
def b_X8_holdDigits_4 : List QE := [(.iload_n 3, 5, []), (.aload_n 0, 6, []), (.getfield 21, 9, []), (.getfield 32, 12, []), (.if_icmp .ge 42, 15, [(0, 54)])]
def b_X8_holdDigits_15 : List QE := [(.aload_n 0, 16, []), (.getfield 21, 19, []), (.iload_n 3, 20, []), (.invokevirtual 50, 23, []), (.ifCond .eq 31, 26, [(0, 54)])]
def b_X8_holdDigits_26 : List QE := [(.iload_n 2, 27, []), (.bipush 10, 29, []), (.imul, 30, []), (.aload_n 0, 31, []), (.getfield 21, 34, []), (.iload_n 3, 35, []), (.invokevirtual 53, 38, []), (.iadd, 39, []), (.bipush 48, 41, []), (.isub, 42, []), (.ldc 71, 44, []), (.invokestatic 72, 47, []), (.istore_n 2, 48, []), (.iinc 3 1, 51, []), (.goto (-47), 54, [(0, 4)])]
def b_X8_holdDigits_54 : List QE := [(.aload_n 0, 55, []), (.iconst 3, 56, []), (.iload_n 2, 57, []), (.iload_n 1, 58, []), (.invokevirtual 43, 61, []), (.return_, 62, [])]
def L_X8_holdDigits : List (Nat × Option (List QE)) := [(0, some b_X8_holdDigits_0), (4, none), (15, some b_X8_holdDigits_15), (26, some b_X8_holdDigits_26), (54, some b_X8_holdDigits_54)]
def s_X8_holdDigits : Nat → Option (List QE) := q_look L_X8_holdDigits
theorem s_X8_holdDigits_0 : s_X8_holdDigits 0 = some b_X8_holdDigits_0 := id rfl
theorem s_X8_holdDigits_4 : s_X8_holdDigits 4 = none := id rfl
theorem s_X8_holdDigits_15 : s_X8_holdDigits 15 = some b_X8_holdDigits_15 := id rfl
theorem s_X8_holdDigits_26 : s_X8_holdDigits 26 = some b_X8_holdDigits_26 := id rfl
theorem s_X8_holdDigits_54 : s_X8_holdDigits 54 = some b_X8_holdDigits_54 := id rfl
def u_X8_holdDigits : QU := ([21, 32], [], [71], [], [50, 53, 43], [72], [])
theorem o_X8_holdDigits : q_skok cX8_holdDigits 4 u_X8_holdDigits L_X8_holdDigits = true := by decide +kernel
theorem o_X8_holdDigits_4 : q_ok cX8_holdDigits 4 u_X8_holdDigits 4 b_X8_holdDigits_4 = true := by decide +kernel
theorem k_X8_holdDigits : q_chk RX8 fl_X8 ld_X8 u_X8_holdDigits = true := by decide +kernel
def b_X8_isSpelled_0 : List QE := [(.iload_n 3, 1, []), (.iload_n 2, 2, []), (.isub, 3, []), (.aload_n 1, 4, []), (.invokevirtual 78, 7, []), (.if_icmp .eq 5, 10, [(0, 12)])]
def b_X8_isSpelled_10 : List QE := [(.iconst 0, 11, []), (.ireturn, 12, [])]
def b_X8_isSpelled_12 : List QE := [(.iconst 0, 13, []), (.istore 4, 15, [])]
def b_X8_isSpelled_15 : List QE := [(.iload 4, 17, []), (.aload_n 1, 18, []), (.invokevirtual 78, 21, []), (.if_icmp .ge 31, 24, [(0, 52)])]
def b_X8_isSpelled_24 : List QE := [(.aload_n 0, 25, []), (.getfield 21, 28, []), (.iload_n 2, 29, []), (.iload 4, 31, []), (.iadd, 32, []), (.invokevirtual 53, 35, []), (.aload_n 1, 36, []), (.iload 4, 38, []), (.invokevirtual 83, 41, []), (.if_icmp .eq 5, 44, [(0, 46)])]
def b_X8_isSpelled_44 : List QE := [(.iconst 0, 45, []), (.ireturn, 46, [])]
def b_X8_isSpelled_46 : List QE := [(.iinc 4 1, 49, []), (.goto (-34), 52, [(0, 15)])]
def b_X8_isSpelled_52 : List QE := [(.iconst 1, 53, []), (.ireturn, 54, [])]
def L_X8_isSpelled : List (Nat × Option (List QE)) := [(0, some b_X8_isSpelled_0), (10, some b_X8_isSpelled_10), (12, some b_X8_isSpelled_12), (15, none), (24, some b_X8_isSpelled_24), (44, some b_X8_isSpelled_44), (46, some b_X8_isSpelled_46), (52, some b_X8_isSpelled_52)]
def s_X8_isSpelled : Nat → Option (List QE) := q_look L_X8_isSpelled
theorem s_X8_isSpelled_0 : s_X8_isSpelled 0 = some b_X8_isSpelled_0 := id rfl
theorem s_X8_isSpelled_10 : s_X8_isSpelled 10 = some b_X8_isSpelled_10 := id rfl
theorem s_X8_isSpelled_12 : s_X8_isSpelled 12 = some b_X8_isSpelled_12 := id rfl
theorem s_X8_isSpelled_15 : s_X8_isSpelled 15 = none := id rfl
theorem s_X8_isSpelled_24 : s_X8_isSpelled 24 = some b_X8_isSpelled_24 := id rfl
theorem s_X8_isSpelled_44 : s_X8_isSpelled 44 = some b_X8_isSpelled_44 := id rfl
theorem s_X8_isSpelled_46 : s_X8_isSpelled 46 = some b_X8_isSpelled_46 := id rfl
theorem s_X8_isSpelled_52 : s_X8_isSpelled 52 = some b_X8_isSpelled_52 := id rfl
def u_X8_isSpelled : QU := ([21], [], [], [], [78, 53, 83], [], [])
theorem o_X8_isSpelled : q_skok cX8_isSpelled 5 u_X8_isSpelled L_X8_isSpelled = true := by decide +kernel
theorem o_X8_isSpelled_15 : q_ok cX8_isSpelled 5 u_X8_isSpelled 15 b_X8_isSpelled_15 = true := by decide +kernel
theorem k_X8_isSpelled : q_chk RX8 fl_X8 ld_X8 u_X8_isSpelled = true := by decide +kernel
def b_X8_spelling_0 : List QE := [(.iload_n 0, 1, []), (.tableswitch 120 0 14 #[75, 78, 81, 84, 87, 90, 93, 96, 99, 102, 105, 108, 111, 114, 117], 76, [(0, 76), (1, 79), (2, 82), (3, 85), (4, 88), (5, 91), (6, 94), (7, 97), (8, 100), (9, 103), (10, 106), (11, 109), (12, 112), (13, 115), (14, 118), (0, 121)])]
def b_X8_spelling_76 : List QE := [(.ldc 86, 78, []), (.areturn, 79, [])]
def b_X8_spelling_79 : List QE := [(.ldc 88, 81, []), (.areturn, 82, [])]
def b_X8_spelling_82 : List QE := [(.ldc 90, 84, []), (.areturn, 85, [])]
def b_X8_spelling_85 : List QE := [(.ldc 92, 87, []), (.areturn, 88, [])]
def b_X8_spelling_88 : List QE := [(.ldc 94, 90, []), (.areturn, 91, [])]
def b_X8_spelling_91 : List QE := [(.ldc 96, 93, []), (.areturn, 94, [])]
def b_X8_spelling_94 : List QE := [(.ldc 98, 96, []), (.areturn, 97, [])]
def b_X8_spelling_97 : List QE := [(.ldc 100, 99, []), (.areturn, 100, [])]
def b_X8_spelling_100 : List QE := [(.ldc 102, 102, []), (.areturn, 103, [])]
def b_X8_spelling_103 : List QE := [(.ldc 104, 105, []), (.areturn, 106, [])]
def b_X8_spelling_106 : List QE := [(.ldc 106, 108, []), (.areturn, 109, [])]
def b_X8_spelling_109 : List QE := [(.ldc 108, 111, []), (.areturn, 112, [])]
def b_X8_spelling_112 : List QE := [(.ldc 110, 114, []), (.areturn, 115, [])]
def b_X8_spelling_115 : List QE := [(.ldc 112, 117, []), (.areturn, 118, [])]
def b_X8_spelling_118 : List QE := [(.ldc 114, 120, []), (.areturn, 121, [])]
def b_X8_spelling_121 : List QE := [(.ldc 116, 123, []), (.areturn, 124, [])]
def L_X8_spelling : List (Nat × Option (List QE)) := [(0, some b_X8_spelling_0), (76, some b_X8_spelling_76), (79, some b_X8_spelling_79), (82, some b_X8_spelling_82), (85, some b_X8_spelling_85), (88, some b_X8_spelling_88), (91, some b_X8_spelling_91), (94, some b_X8_spelling_94), (97, some b_X8_spelling_97), (100, some b_X8_spelling_100), (103, some b_X8_spelling_103), (106, some b_X8_spelling_106), (109, some b_X8_spelling_109), (112, some b_X8_spelling_112), (115, some b_X8_spelling_115), (118, some b_X8_spelling_118), (121, some b_X8_spelling_121)]
def s_X8_spelling : Nat → Option (List QE) := q_look L_X8_spelling
theorem s_X8_spelling_0 : s_X8_spelling 0 = some b_X8_spelling_0 := id rfl
theorem s_X8_spelling_76 : s_X8_spelling 76 = some b_X8_spelling_76 := id rfl
theorem s_X8_spelling_79 : s_X8_spelling 79 = some b_X8_spelling_79 := id rfl
theorem s_X8_spelling_82 : s_X8_spelling 82 = some b_X8_spelling_82 := id rfl
theorem s_X8_spelling_85 : s_X8_spelling 85 = some b_X8_spelling_85 := id rfl
theorem s_X8_spelling_88 : s_X8_spelling 88 = some b_X8_spelling_88 := id rfl
theorem s_X8_spelling_91 : s_X8_spelling 91 = some b_X8_spelling_91 := id rfl
theorem s_X8_spelling_94 : s_X8_spelling 94 = some b_X8_spelling_94 := id rfl
theorem s_X8_spelling_97 : s_X8_spelling 97 = some b_X8_spelling_97 := id rfl
theorem s_X8_spelling_100 : s_X8_spelling 100 = some b_X8_spelling_100 := id rfl
theorem s_X8_spelling_103 : s_X8_spelling 103 = some b_X8_spelling_103 := id rfl
theorem s_X8_spelling_106 : s_X8_spelling 106 = some b_X8_spelling_106 := id rfl
theorem s_X8_spelling_109 : s_X8_spelling 109 = some b_X8_spelling_109 := id rfl
theorem s_X8_spelling_112 : s_X8_spelling 112 = some b_X8_spelling_112 := id rfl
theorem s_X8_spelling_115 : s_X8_spelling 115 = some b_X8_spelling_115 := id rfl
theorem s_X8_spelling_118 : s_X8_spelling 118 = some b_X8_spelling_118 := id rfl
theorem s_X8_spelling_121 : s_X8_spelling 121 = some b_X8_spelling_121 := id rfl
def u_X8_spelling : QU := ([], [], [], [86, 88, 90, 92, 94, 96, 98, 100, 102, 104, 106, 108, 110, 112, 114, 116], [], [], [])
theorem o_X8_spelling : q_skok cX8_spelling 1 u_X8_spelling L_X8_spelling = true := by decide +kernel
theorem k_X8_spelling : q_chk RX8 fl_X8 ld_X8 u_X8_spelling = true := by decide +kernel
def b_X8_place_0 : List QE := [(.aload_n 0, 1, []), (.getfield 18, 4, []), (.aload_n 0, 5, []), (.getfield 25, 8, []), (.iaload, 9, []), (.ireturn, 10, [])]
def L_X8_place : List (Nat × Option (List QE)) := [(0, some b_X8_place_0)]
def s_X8_place : Nat → Option (List QE) := q_look L_X8_place
theorem s_X8_place_0 : s_X8_place 0 = some b_X8_place_0 := id rfl
def u_X8_place : QU := ([18, 25], [], [], [], [], [], [])
theorem o_X8_place : q_skok cX8_place 1 u_X8_place L_X8_place = true := by decide +kernel
theorem k_X8_place : q_chk RX8 fl_X8 ld_X8 u_X8_place = true := by decide +kernel
def b_X8_isEnd_0 : List QE := [(.aload_n 0, 1, []), (.getfield 9, 4, []), (.aload_n 0, 5, []), (.getfield 25, 8, []), (.iaload, 9, []), (.ifCond .ne 7, 12, [(0, 16)])]
def b_X8_isEnd_12 : List QE := [(.iconst 1, 13, []), (.goto 4, 16, [(0, 17)])]
def b_X8_isEnd_16 : List QE := [(.iconst 0, 17, [])]
def b_X8_isEnd_17 : List QE := [(.ireturn, 18, [])]
def L_X8_isEnd : List (Nat × Option (List QE)) := [(0, some b_X8_isEnd_0), (12, some b_X8_isEnd_12), (16, some b_X8_isEnd_16), (17, some b_X8_isEnd_17)]
def s_X8_isEnd : Nat → Option (List QE) := q_look L_X8_isEnd
theorem s_X8_isEnd_0 : s_X8_isEnd 0 = some b_X8_isEnd_0 := id rfl
theorem s_X8_isEnd_12 : s_X8_isEnd 12 = some b_X8_isEnd_12 := id rfl
theorem s_X8_isEnd_16 : s_X8_isEnd 16 = some b_X8_isEnd_16 := id rfl
theorem s_X8_isEnd_17 : s_X8_isEnd 17 = some b_X8_isEnd_17 := id rfl
def u_X8_isEnd : QU := ([9, 25], [], [], [], [], [], [])
theorem o_X8_isEnd : q_skok cX8_isEnd 1 u_X8_isEnd L_X8_isEnd = true := by decide +kernel
theorem k_X8_isEnd : q_chk RX8 fl_X8 ld_X8 u_X8_isEnd = true := by decide +kernel
def b_X8_look_0 : List QE := [(.aload_n 0, 1, []), (.getfield 9, 4, []), (.aload_n 0, 5, []), (.getfield 25, 8, []), (.iaload, 9, []), (.iload_n 1, 10, []), (.if_icmp .ne 15, 13, [(0, 25)])]
def b_X8_look_13 : List QE := [(.aload_n 0, 14, []), (.getfield 15, 17, []), (.aload_n 0, 18, []), (.getfield 25, 21, []), (.iaload, 22, []), (.goto 4, 25, [(0, 26)])]
def b_X8_look_25 : List QE := [(.iconst (-1), 26, [])]
def b_X8_look_26 : List QE := [(.ireturn, 27, [])]
def L_X8_look : List (Nat × Option (List QE)) := [(0, some b_X8_look_0), (13, some b_X8_look_13), (25, some b_X8_look_25), (26, some b_X8_look_26)]
def s_X8_look : Nat → Option (List QE) := q_look L_X8_look
theorem s_X8_look_0 : s_X8_look 0 = some b_X8_look_0 := id rfl
theorem s_X8_look_13 : s_X8_look 13 = some b_X8_look_13 := id rfl
theorem s_X8_look_25 : s_X8_look 25 = some b_X8_look_25 := id rfl
theorem s_X8_look_26 : s_X8_look 26 = some b_X8_look_26 := id rfl
def u_X8_look : QU := ([9, 25, 15], [], [], [], [], [], [])
theorem o_X8_look : q_skok cX8_look 2 u_X8_look L_X8_look = true := by decide +kernel
theorem k_X8_look : q_chk RX8 fl_X8 ld_X8 u_X8_look = true := by decide +kernel
def b_X8_step_0 : List QE := [(.aload_n 0, 1, []), (.getfield 25, 4, []), (.aload_n 0, 5, []), (.getfield 29, 8, []), (.iconst 1, 9, []), (.isub, 10, []), (.if_icmp .ge 13, 13, [(0, 23)])]
def b_X8_step_13 : List QE := [(.aload_n 0, 14, []), (.dup, 15, []), (.getfield 25, 18, []), (.iconst 1, 19, []), (.iadd, 20, []), (.putfield 25, 23, [])]
def b_X8_step_23 : List QE := [(.return_, 24, [])]
def L_X8_step : List (Nat × Option (List QE)) := [(0, some b_X8_step_0), (13, some b_X8_step_13), (23, some b_X8_step_23)]
def s_X8_step : Nat → Option (List QE) := q_look L_X8_step
theorem s_X8_step_0 : s_X8_step 0 = some b_X8_step_0 := id rfl
theorem s_X8_step_13 : s_X8_step 13 = some b_X8_step_13 := id rfl
theorem s_X8_step_23 : s_X8_step 23 = some b_X8_step_23 := id rfl
def u_X8_step : QU := ([25, 29], [25], [], [], [], [], [])
theorem o_X8_step : q_skok cX8_step 1 u_X8_step L_X8_step = true := by decide +kernel
theorem k_X8_step : q_chk RX8 fl_X8 ld_X8 u_X8_step = true := by decide +kernel
def b_X8_pass_0 : List QE := [(.aload_n 0, 1, []), (.iconst 4, 2, []), (.invokevirtual 118, 5, []), (.iload_n 1, 6, []), (.if_icmp .ne 7, 9, [(0, 13)])]
def b_X8_pass_9 : List QE := [(.iconst 1, 10, []), (.goto 4, 13, [(0, 14)])]
def b_X8_pass_13 : List QE := [(.iconst 0, 14, [])]
def b_X8_pass_14 : List QE := [(.istore_n 2, 15, []), (.iload_n 2, 16, []), (.ifCond .eq 7, 19, [(0, 23)])]
def b_X8_pass_19 : List QE := [(.aload_n 0, 20, []), (.invokevirtual 122, 23, [])]
def b_X8_pass_23 : List QE := [(.iload_n 2, 24, []), (.ireturn, 25, [])]
def L_X8_pass : List (Nat × Option (List QE)) := [(0, some b_X8_pass_0), (9, some b_X8_pass_9), (13, some b_X8_pass_13), (14, some b_X8_pass_14), (19, some b_X8_pass_19), (23, some b_X8_pass_23)]
def s_X8_pass : Nat → Option (List QE) := q_look L_X8_pass
theorem s_X8_pass_0 : s_X8_pass 0 = some b_X8_pass_0 := id rfl
theorem s_X8_pass_9 : s_X8_pass 9 = some b_X8_pass_9 := id rfl
theorem s_X8_pass_13 : s_X8_pass 13 = some b_X8_pass_13 := id rfl
theorem s_X8_pass_14 : s_X8_pass 14 = some b_X8_pass_14 := id rfl
theorem s_X8_pass_19 : s_X8_pass 19 = some b_X8_pass_19 := id rfl
theorem s_X8_pass_23 : s_X8_pass 23 = some b_X8_pass_23 := id rfl
def u_X8_pass : QU := ([], [], [], [], [118, 122], [], [])
theorem o_X8_pass : q_skok cX8_pass 3 u_X8_pass L_X8_pass = true := by decide +kernel
theorem k_X8_pass : q_chk RX8 fl_X8 ld_X8 u_X8_pass = true := by decide +kernel
def b_X9_follow_0 : List QE := [(.aload_n 0, 1, []), (.aload_n 1, 2, []), (.putfield 27, 5, []), (.aload_n 0, 6, []), (.getfield 9, 9, []), (.iconst 0, 10, []), (.invokestatic 43, 13, []), (.return_, 14, [])]
def L_X9_follow : List (Nat × Option (List QE)) := [(0, some b_X9_follow_0)]
def s_X9_follow : Nat → Option (List QE) := q_look L_X9_follow
theorem s_X9_follow_0 : s_X9_follow 0 = some b_X9_follow_0 := id rfl
def u_X9_follow : QU := ([27, 9], [27], [], [], [], [43], [])
theorem o_X9_follow : q_skok cX9_follow 2 u_X9_follow L_X9_follow = true := by decide +kernel
theorem k_X9_follow : q_chk RX9 fl_X9 ld_X9 u_X9_follow = true := by decide +kernel
def b_X9_empty_0 : List QE := [(.aload_n 0, 1, []), (.getfield 9, 4, []), (.iconst 0, 5, []), (.invokestatic 43, 8, []), (.iconst 0, 9, []), (.istore_n 1, 10, [])]
def b_X9_empty_10 : List QE := [(.iload_n 1, 11, []), (.bipush 10, 13, []), (.if_icmp .ge 20, 16, [(0, 33)])]
def b_X9_empty_16 : List QE := [(.aload_n 0, 17, []), (.getfield 20, 20, []), (.iload_n 1, 21, []), (.aaload, 22, []), (.ldc 49, 24, []), (.invokestatic 43, 27, []), (.iinc 1 1, 30, []), (.goto (-20), 33, [(0, 10)])]
def b_X9_empty_33 : List QE := [(.return_, 34, [])]
def L_X9_empty : List (Nat × Option (List QE)) := [(0, some b_X9_empty_0), (10, none), (16, some b_X9_empty_16), (33, some b_X9_empty_33)]
def s_X9_empty : Nat → Option (List QE) := q_look L_X9_empty
theorem s_X9_empty_0 : s_X9_empty 0 = some b_X9_empty_0 := id rfl
theorem s_X9_empty_10 : s_X9_empty 10 = none := id rfl
theorem s_X9_empty_16 : s_X9_empty 16 = some b_X9_empty_16 := id rfl
theorem s_X9_empty_33 : s_X9_empty 33 = some b_X9_empty_33 := id rfl
def u_X9_empty : QU := ([9, 20], [], [49], [], [], [43], [])
theorem o_X9_empty : q_skok cX9_empty 2 u_X9_empty L_X9_empty = true := by decide +kernel
theorem o_X9_empty_10 : q_ok cX9_empty 2 u_X9_empty 10 b_X9_empty_10 = true := by decide +kernel
theorem k_X9_empty : q_chk RX9 fl_X9 ld_X9 u_X9_empty = true := by decide +kernel
def b_X9_isFresh_0 : List QE := [(.aload_n 0, 1, []), (.getfield 9, 4, []), (.iload_n 1, 5, []), (.iaload, 6, []), (.iload_n 2, 7, []), (.ishr, 8, []), (.iconst 1, 9, []), (.iand, 10, []), (.ifCond .eq 7, 13, [(0, 17)])]
def b_X9_isFresh_13 : List QE := [(.iconst 1, 14, []), (.goto 4, 17, [(0, 18)])]
def b_X9_isFresh_17 : List QE := [(.iconst 0, 18, [])]
def b_X9_isFresh_18 : List QE := [(.ireturn, 19, [])]
def L_X9_isFresh : List (Nat × Option (List QE)) := [(0, some b_X9_isFresh_0), (13, some b_X9_isFresh_13), (17, some b_X9_isFresh_17), (18, some b_X9_isFresh_18)]
def s_X9_isFresh : Nat → Option (List QE) := q_look L_X9_isFresh
theorem s_X9_isFresh_0 : s_X9_isFresh 0 = some b_X9_isFresh_0 := id rfl
theorem s_X9_isFresh_13 : s_X9_isFresh 13 = some b_X9_isFresh_13 := id rfl
theorem s_X9_isFresh_17 : s_X9_isFresh 17 = some b_X9_isFresh_17 := id rfl
theorem s_X9_isFresh_18 : s_X9_isFresh 18 = some b_X9_isFresh_18 := id rfl
def u_X9_isFresh : QU := ([9], [], [], [], [], [], [])
theorem o_X9_isFresh : q_skok cX9_isFresh 3 u_X9_isFresh L_X9_isFresh = true := by decide +kernel
theorem k_X9_isFresh : q_chk RX9 fl_X9 ld_X9 u_X9_isFresh = true := by decide +kernel
def b_X9_freshInAll_0 : List QE := [(.iconst 0, 1, []), (.istore_n 1, 2, []), (.iconst 0, 3, []), (.istore_n 2, 4, [])]
def b_X9_freshInAll_4 : List QE := [(.iload_n 2, 5, []), (.bipush 10, 7, []), (.if_icmp .ge 21, 10, [(0, 28)])]
def b_X9_freshInAll_10 : List QE := [(.iload_n 1, 11, []), (.aload_n 0, 12, []), (.getfield 9, 15, []), (.iload_n 2, 16, []), (.iaload, 17, []), (.invokestatic 50, 20, []), (.iadd, 21, []), (.istore_n 1, 22, []), (.iinc 2 1, 25, []), (.goto (-21), 28, [(0, 4)])]
def b_X9_freshInAll_28 : List QE := [(.iload_n 1, 29, []), (.ireturn, 30, [])]
def L_X9_freshInAll : List (Nat × Option (List QE)) := [(0, some b_X9_freshInAll_0), (4, none), (10, some b_X9_freshInAll_10), (28, some b_X9_freshInAll_28)]
def s_X9_freshInAll : Nat → Option (List QE) := q_look L_X9_freshInAll
theorem s_X9_freshInAll_0 : s_X9_freshInAll 0 = some b_X9_freshInAll_0 := id rfl
theorem s_X9_freshInAll_4 : s_X9_freshInAll 4 = none := id rfl
theorem s_X9_freshInAll_10 : s_X9_freshInAll 10 = some b_X9_freshInAll_10 := id rfl
theorem s_X9_freshInAll_28 : s_X9_freshInAll 28 = some b_X9_freshInAll_28 := id rfl
def u_X9_freshInAll : QU := ([9], [], [], [], [], [50], [])
theorem o_X9_freshInAll : q_skok cX9_freshInAll 3 u_X9_freshInAll L_X9_freshInAll = true := by decide +kernel
theorem o_X9_freshInAll_4 : q_ok cX9_freshInAll 3 u_X9_freshInAll 4 b_X9_freshInAll_4 = true := by decide +kernel
theorem k_X9_freshInAll : q_chk RX9 fl_X9 ld_X9 u_X9_freshInAll = true := by decide +kernel
def b_X9_ask_0 : List QE := [(.aload_n 0, 1, []), (.iload_n 1, 2, []), (.iload_n 2, 3, []), (.invokevirtual 56, 6, []), (.ifCond .eq 4, 9, [(0, 10)])]
def b_X9_ask_9 : List QE := [(.return_, 10, [])]
def b_X9_ask_10 : List QE := [(.aload_n 0, 11, []), (.iload_n 1, 12, []), (.iload_n 2, 13, []), (.invokevirtual 60, 16, []), (.iconst 0, 17, []), (.istore_n 3, 18, [])]
def b_X9_ask_18 : List QE := [(.iload_n 3, 19, []), (.iload_n 1, 20, []), (.if_icmp .gt 29, 23, [(0, 49)])]
def b_X9_ask_23 : List QE := [(.aload_n 0, 24, []), (.iload_n 3, 25, []), (.aload_n 0, 26, []), (.getfield 15, 29, []), (.iload_n 3, 30, []), (.iaload, 31, []), (.aload_n 0, 32, []), (.getfield 9, 35, []), (.iload_n 3, 36, []), (.iaload, 37, []), (.iconst (-1), 38, []), (.ixor, 39, []), (.iand, 40, []), (.invokevirtual 64, 43, []), (.iinc 3 1, 46, []), (.goto (-28), 49, [(0, 18)])]
def b_X9_ask_49 : List QE := [(.return_, 50, [])]
def L_X9_ask : List (Nat × Option (List QE)) := [(0, some b_X9_ask_0), (9, some b_X9_ask_9), (10, some b_X9_ask_10), (18, none), (23, some b_X9_ask_23), (49, some b_X9_ask_49)]
def s_X9_ask : Nat → Option (List QE) := q_look L_X9_ask
theorem s_X9_ask_0 : s_X9_ask 0 = some b_X9_ask_0 := id rfl
theorem s_X9_ask_9 : s_X9_ask 9 = some b_X9_ask_9 := id rfl
theorem s_X9_ask_10 : s_X9_ask 10 = some b_X9_ask_10 := id rfl
theorem s_X9_ask_18 : s_X9_ask 18 = none := id rfl
theorem s_X9_ask_23 : s_X9_ask 23 = some b_X9_ask_23 := id rfl
theorem s_X9_ask_49 : s_X9_ask 49 = some b_X9_ask_49 := id rfl
def u_X9_ask : QU := ([15, 9], [], [], [], [56, 60, 64], [], [])
theorem o_X9_ask : q_skok cX9_ask 4 u_X9_ask L_X9_ask = true := by decide +kernel
theorem o_X9_ask_18 : q_ok cX9_ask 4 u_X9_ask 18 b_X9_ask_18 = true := by decide +kernel
theorem k_X9_ask : q_chk RX9 fl_X9 ld_X9 u_X9_ask = true := by decide +kernel
def b_X9_sources_0 : List QE := [(.aload_n 0, 1, []), (.iload_n 1, 2, []), (.iload_n 2, 3, []), (.invokevirtual 60, 6, []), (.iconst 0, 7, []), (.istore 4, 9, []), (.iconst 0, 10, []), (.istore 5, 12, [])]
def b_X9_sources_12 : List QE := [(.iload 5, 14, []), (.iload_n 1, 15, []), (.if_icmp .gt 50, 18, [(0, 65)])]
def b_X9_sources_18 : List QE := [(.aload_n 0, 19, []), (.getfield 27, 22, []), (.getfield 67, 25, []), (.iload 5, 27, []), (.aaload, 28, []), (.astore 6, 30, []), (.aload 6, 32, []), (.getfield 73, 35, []), (.ifCond .ne 24, 38, [(0, 59)])]
def b_X9_sources_38 : List QE := [(.aload 6, 40, []), (.getfield 79, 43, []), (.iload_n 3, 44, []), (.if_icmp .ne 15, 47, [(0, 59)])]
def b_X9_sources_47 : List QE := [(.iload 4, 49, []), (.aload_n 0, 50, []), (.getfield 15, 53, []), (.iload 5, 55, []), (.iaload, 56, []), (.ior, 57, []), (.istore 4, 59, [])]
def b_X9_sources_59 : List QE := [(.iinc 5 1, 62, []), (.goto (-50), 65, [(0, 12)])]
def b_X9_sources_65 : List QE := [(.iload 4, 67, []), (.ireturn, 68, [])]
def L_X9_sources : List (Nat × Option (List QE)) := [(0, some b_X9_sources_0), (12, none), (18, some b_X9_sources_18), (38, some b_X9_sources_38), (47, some b_X9_sources_47), (59, some b_X9_sources_59), (65, some b_X9_sources_65)]
def s_X9_sources : Nat → Option (List QE) := q_look L_X9_sources
theorem s_X9_sources_0 : s_X9_sources 0 = some b_X9_sources_0 := id rfl
theorem s_X9_sources_12 : s_X9_sources 12 = none := id rfl
theorem s_X9_sources_18 : s_X9_sources 18 = some b_X9_sources_18 := id rfl
theorem s_X9_sources_38 : s_X9_sources 38 = some b_X9_sources_38 := id rfl
theorem s_X9_sources_47 : s_X9_sources 47 = some b_X9_sources_47 := id rfl
theorem s_X9_sources_59 : s_X9_sources 59 = some b_X9_sources_59 := id rfl
theorem s_X9_sources_65 : s_X9_sources 65 = some b_X9_sources_65 := id rfl
def u_X9_sources : QU := ([27, 67, 73, 79, 15], [], [], [], [60], [], [])
theorem o_X9_sources : q_skok cX9_sources 7 u_X9_sources L_X9_sources = true := by decide +kernel
theorem o_X9_sources_12 : q_ok cX9_sources 7 u_X9_sources 12 b_X9_sources_12 = true := by decide +kernel
theorem k_X9_sources : q_chk RX9 fl_X9 ld_X9 u_X9_sources = true := by decide +kernel
def b_X9_lose_0 : List QE := [(.iconst 0, 1, []), (.istore_n 3, 2, [])]
def b_X9_lose_2 : List QE := [(.iload_n 3, 3, []), (.aload_n 0, 4, []), (.getfield 27, 7, []), (.getfield 82, 10, []), (.if_icmp .ge 49, 13, [(0, 59)])]
def b_X9_lose_13 : List QE := [(.aload_n 0, 14, []), (.getfield 15, 17, []), (.iload_n 3, 18, []), (.aload_n 0, 19, []), (.aload_n 0, 20, []), (.getfield 27, 23, []), (.getfield 67, 26, []), (.iload_n 3, 27, []), (.aaload, 28, []), (.iload_n 1, 29, []), (.iconst 1, 30, []), (.iload_n 2, 31, []), (.ishl, 32, []), (.invokevirtual 85, 35, []), (.iastore, 36, []), (.aload_n 0, 37, []), (.getfield 9, 40, []), (.iload_n 3, 41, []), (.dup2, 42, []), (.iaload, 43, []), (.aload_n 0, 44, []), (.getfield 15, 47, []), (.iload_n 3, 48, []), (.iaload, 49, []), (.iconst (-1), 50, []), (.ixor, 51, []), (.iand, 52, []), (.iastore, 53, []), (.iinc 3 1, 56, []), (.goto (-54), 59, [(0, 2)])]
def b_X9_lose_59 : List QE := [(.return_, 60, [])]
def L_X9_lose : List (Nat × Option (List QE)) := [(0, some b_X9_lose_0), (2, none), (13, some b_X9_lose_13), (59, some b_X9_lose_59)]
def s_X9_lose : Nat → Option (List QE) := q_look L_X9_lose
theorem s_X9_lose_0 : s_X9_lose 0 = some b_X9_lose_0 := id rfl
theorem s_X9_lose_2 : s_X9_lose 2 = none := id rfl
theorem s_X9_lose_13 : s_X9_lose 13 = some b_X9_lose_13 := id rfl
theorem s_X9_lose_59 : s_X9_lose 59 = some b_X9_lose_59 := id rfl
def u_X9_lose : QU := ([27, 82, 15, 67, 9], [], [], [], [85], [], [])
theorem o_X9_lose : q_skok cX9_lose 4 u_X9_lose L_X9_lose = true := by decide +kernel
theorem o_X9_lose_2 : q_ok cX9_lose 4 u_X9_lose 2 b_X9_lose_2 = true := by decide +kernel
theorem k_X9_lose : q_chk RX9 fl_X9 ld_X9 u_X9_lose = true := by decide +kernel
def b_X9_tilesFrom_0 : List QE := [(.aload_n 1, 1, []), (.getfield 73, 4, []), (.ifCond .ne 17, 7, [(0, 21)])]
def b_X9_tilesFrom_7 : List QE := [(.aload_n 1, 8, []), (.getfield 79, 11, []), (.iload_n 2, 12, []), (.if_icmp .ne 7, 15, [(0, 19)])]
def b_X9_tilesFrom_15 : List QE := [(.iload_n 3, 16, []), (.goto 4, 19, [(0, 20)])]
def b_X9_tilesFrom_19 : List QE := [(.iconst 0, 20, [])]
def b_X9_tilesFrom_20 : List QE := [(.ireturn, 21, [])]
def b_X9_tilesFrom_21 : List QE := [(.iconst 0, 22, []), (.istore 4, 24, []), (.iconst 0, 25, []), (.istore 5, 27, [])]
def b_X9_tilesFrom_27 : List QE := [(.iload 5, 29, []), (.aload_n 1, 30, []), (.getfield 89, 33, []), (.if_icmp .ge 26, 36, [(0, 59)])]
def b_X9_tilesFrom_36 : List QE := [(.iload 4, 38, []), (.aload_n 0, 39, []), (.getfield 15, 42, []), (.aload_n 1, 43, []), (.getfield 92, 46, []), (.iload 5, 48, []), (.iaload, 49, []), (.iaload, 50, []), (.ior, 51, []), (.istore 4, 53, []), (.iinc 5 1, 56, []), (.goto (-29), 59, [(0, 27)])]
def b_X9_tilesFrom_59 : List QE := [(.aload_n 0, 60, []), (.aload_n 1, 61, []), (.iload 4, 63, []), (.invokevirtual 95, 66, []), (.ireturn, 67, [])]
def L_X9_tilesFrom : List (Nat × Option (List QE)) := [(0, some b_X9_tilesFrom_0), (7, some b_X9_tilesFrom_7), (15, some b_X9_tilesFrom_15), (19, some b_X9_tilesFrom_19), (20, some b_X9_tilesFrom_20), (21, some b_X9_tilesFrom_21), (27, none), (36, some b_X9_tilesFrom_36), (59, some b_X9_tilesFrom_59)]
def s_X9_tilesFrom : Nat → Option (List QE) := q_look L_X9_tilesFrom
theorem s_X9_tilesFrom_0 : s_X9_tilesFrom 0 = some b_X9_tilesFrom_0 := id rfl
theorem s_X9_tilesFrom_7 : s_X9_tilesFrom 7 = some b_X9_tilesFrom_7 := id rfl
theorem s_X9_tilesFrom_15 : s_X9_tilesFrom 15 = some b_X9_tilesFrom_15 := id rfl
theorem s_X9_tilesFrom_19 : s_X9_tilesFrom 19 = some b_X9_tilesFrom_19 := id rfl
theorem s_X9_tilesFrom_20 : s_X9_tilesFrom 20 = some b_X9_tilesFrom_20 := id rfl
theorem s_X9_tilesFrom_21 : s_X9_tilesFrom 21 = some b_X9_tilesFrom_21 := id rfl
theorem s_X9_tilesFrom_27 : s_X9_tilesFrom 27 = none := id rfl
theorem s_X9_tilesFrom_36 : s_X9_tilesFrom 36 = some b_X9_tilesFrom_36 := id rfl
theorem s_X9_tilesFrom_59 : s_X9_tilesFrom 59 = some b_X9_tilesFrom_59 := id rfl
def u_X9_tilesFrom : QU := ([73, 79, 89, 15, 92], [], [], [], [95], [], [])
theorem o_X9_tilesFrom : q_skok cX9_tilesFrom 6 u_X9_tilesFrom L_X9_tilesFrom = true := by decide +kernel
theorem o_X9_tilesFrom_27 : q_ok cX9_tilesFrom 6 u_X9_tilesFrom 27 b_X9_tilesFrom_27 = true := by decide +kernel
theorem k_X9_tilesFrom : q_chk RX9 fl_X9 ld_X9 u_X9_tilesFrom = true := by decide +kernel
def b_X9_reachNeeded_0 : List QE := [(.aload_n 0, 1, []), (.getfield 15, 4, []), (.iconst 0, 5, []), (.invokestatic 43, 8, []), (.aload_n 0, 9, []), (.getfield 15, 12, []), (.iload_n 1, 13, []), (.iconst 1, 14, []), (.iload_n 2, 15, []), (.ishl, 16, []), (.iastore, 17, []), (.iload_n 1, 18, []), (.istore_n 3, 19, [])]
def b_X9_reachNeeded_19 : List QE := [(.iload_n 3, 20, []), (.ifCond .lt 71, 23, [(0, 91)])]
def b_X9_reachNeeded_23 : List QE := [(.aload_n 0, 24, []), (.getfield 27, 27, []), (.getfield 67, 30, []), (.iload_n 3, 31, []), (.aaload, 32, []), (.astore 4, 34, []), (.aload_n 0, 35, []), (.aload 4, 37, []), (.aload_n 0, 38, []), (.getfield 15, 41, []), (.iload_n 3, 42, []), (.iaload, 43, []), (.invokevirtual 95, 46, []), (.istore 5, 48, []), (.iconst 0, 49, []), (.istore 6, 51, [])]
def b_X9_reachNeeded_51 : List QE := [(.iload 6, 53, []), (.aload 4, 55, []), (.getfield 89, 58, []), (.if_icmp .ge 27, 61, [(0, 85)])]
def b_X9_reachNeeded_61 : List QE := [(.aload_n 0, 62, []), (.getfield 15, 65, []), (.aload 4, 67, []), (.getfield 92, 70, []), (.iload 6, 72, []), (.iaload, 73, []), (.dup2, 74, []), (.iaload, 75, []), (.iload 5, 77, []), (.ior, 78, []), (.iastore, 79, []), (.iinc 6 1, 82, []), (.goto (-31), 85, [(0, 51)])]
def b_X9_reachNeeded_85 : List QE := [(.iinc 3 (-1), 88, []), (.goto (-69), 91, [(0, 19)])]
def b_X9_reachNeeded_91 : List QE := [(.return_, 92, [])]
def L_X9_reachNeeded : List (Nat × Option (List QE)) := [(0, some b_X9_reachNeeded_0), (19, none), (23, some b_X9_reachNeeded_23), (51, none), (61, some b_X9_reachNeeded_61), (85, some b_X9_reachNeeded_85), (91, some b_X9_reachNeeded_91)]
def s_X9_reachNeeded : Nat → Option (List QE) := q_look L_X9_reachNeeded
theorem s_X9_reachNeeded_0 : s_X9_reachNeeded 0 = some b_X9_reachNeeded_0 := id rfl
theorem s_X9_reachNeeded_19 : s_X9_reachNeeded 19 = none := id rfl
theorem s_X9_reachNeeded_23 : s_X9_reachNeeded 23 = some b_X9_reachNeeded_23 := id rfl
theorem s_X9_reachNeeded_51 : s_X9_reachNeeded 51 = none := id rfl
theorem s_X9_reachNeeded_61 : s_X9_reachNeeded 61 = some b_X9_reachNeeded_61 := id rfl
theorem s_X9_reachNeeded_85 : s_X9_reachNeeded 85 = some b_X9_reachNeeded_85 := id rfl
theorem s_X9_reachNeeded_91 : s_X9_reachNeeded 91 = some b_X9_reachNeeded_91 := id rfl
def u_X9_reachNeeded : QU := ([15, 27, 67, 89, 92], [], [], [], [95], [43], [])
theorem o_X9_reachNeeded : q_skok cX9_reachNeeded 7 u_X9_reachNeeded L_X9_reachNeeded = true := by decide +kernel
theorem o_X9_reachNeeded_19 : q_ok cX9_reachNeeded 7 u_X9_reachNeeded 19 b_X9_reachNeeded_19 = true := by decide +kernel
theorem o_X9_reachNeeded_51 : q_ok cX9_reachNeeded 7 u_X9_reachNeeded 51 b_X9_reachNeeded_51 = true := by decide +kernel
theorem k_X9_reachNeeded : q_chk RX9 fl_X9 ld_X9 u_X9_reachNeeded = true := by decide +kernel
def b_X9_across_0 : List QE := [(.aload_n 1, 1, []), (.invokevirtual 99, 4, []), (.ifCond .eq 19, 7, [(0, 23)])]
def b_X9_across_7 : List QE := [(.iload_n 2, 8, []), (.ifCond .ne 7, 11, [(0, 15)])]
def b_X9_across_11 : List QE := [(.iconst 0, 12, []), (.goto 10, 15, [(0, 22)])]
def b_X9_across_15 : List QE := [(.aload_n 0, 16, []), (.getfield 23, 19, []), (.getfield 103, 22, [])]
def b_X9_across_22 : List QE := [(.ireturn, 23, [])]
def b_X9_across_23 : List QE := [(.aload_n 1, 24, []), (.getfield 73, 27, []), (.bipush 10, 29, []), (.if_icmp .ne 14, 32, [(0, 43)])]
def b_X9_across_32 : List QE := [(.aload_n 0, 33, []), (.getfield 23, 36, []), (.iload_n 2, 37, []), (.invokevirtual 108, 40, []), (.goto 4, 43, [(0, 44)])]
def b_X9_across_43 : List QE := [(.iload_n 2, 44, [])]
def b_X9_across_44 : List QE := [(.ireturn, 45, [])]
def L_X9_across : List (Nat × Option (List QE)) := [(0, some b_X9_across_0), (7, some b_X9_across_7), (11, some b_X9_across_11), (15, some b_X9_across_15), (22, some b_X9_across_22), (23, some b_X9_across_23), (32, some b_X9_across_32), (43, some b_X9_across_43), (44, some b_X9_across_44)]
def s_X9_across : Nat → Option (List QE) := q_look L_X9_across
theorem s_X9_across_0 : s_X9_across 0 = some b_X9_across_0 := id rfl
theorem s_X9_across_7 : s_X9_across 7 = some b_X9_across_7 := id rfl
theorem s_X9_across_11 : s_X9_across 11 = some b_X9_across_11 := id rfl
theorem s_X9_across_15 : s_X9_across 15 = some b_X9_across_15 := id rfl
theorem s_X9_across_22 : s_X9_across 22 = some b_X9_across_22 := id rfl
theorem s_X9_across_23 : s_X9_across 23 = some b_X9_across_23 := id rfl
theorem s_X9_across_32 : s_X9_across 32 = some b_X9_across_32 := id rfl
theorem s_X9_across_43 : s_X9_across 43 = some b_X9_across_43 := id rfl
theorem s_X9_across_44 : s_X9_across 44 = some b_X9_across_44 := id rfl
def u_X9_across : QU := ([23, 103, 73], [], [], [], [99, 108], [], [])
theorem o_X9_across : q_skok cX9_across 3 u_X9_across L_X9_across = true := by decide +kernel
theorem k_X9_across : q_chk RX9 fl_X9 ld_X9 u_X9_across = true := by decide +kernel
def b_X9_makeTiles_0 : List QE := [(.iload_n 2, 1, []), (.ifCond .ne 4, 4, [(0, 5)])]
def b_X9_makeTiles_4 : List QE := [(.return_, 5, [])]
def b_X9_makeTiles_5 : List QE := [(.aload_n 0, 6, []), (.getfield 27, 9, []), (.getfield 67, 12, []), (.iload_n 1, 13, []), (.aaload, 14, []), (.astore_n 3, 15, []), (.aload_n 3, 16, []), (.invokevirtual 99, 19, []), (.ifCond .eq 29, 22, [(0, 48)])]
def b_X9_makeTiles_22 : List QE := [(.aload_n 0, 23, []), (.getfield 9, 26, []), (.iload_n 1, 27, []), (.iaload, 28, []), (.ifCond .ne 61, 31, [(0, 89)])]
def b_X9_makeTiles_31 : List QE := [(.aload_n 0, 32, []), (.getfield 36, 35, []), (.aload_n 3, 36, []), (.aload_n 0, 37, []), (.getfield 20, 40, []), (.iload_n 1, 41, []), (.aaload, 42, []), (.invokevirtual 111, 45, []), (.goto 44, 48, [(0, 89)])]
def b_X9_makeTiles_48 : List QE := [(.iconst 0, 49, []), (.istore 4, 51, [])]
def b_X9_makeTiles_51 : List QE := [(.iload 4, 53, []), (.bipush 9, 55, []), (.if_icmp .ge 34, 58, [(0, 89)])]
def b_X9_makeTiles_58 : List QE := [(.iload_n 2, 59, []), (.iload 4, 61, []), (.ishr, 62, []), (.iconst 1, 63, []), (.iand, 64, []), (.ifCond .eq 19, 67, [(0, 83)])]
def b_X9_makeTiles_67 : List QE := [(.aload_n 0, 68, []), (.getfield 36, 71, []), (.aload_n 3, 72, []), (.iload 4, 74, []), (.aload_n 0, 75, []), (.getfield 20, 78, []), (.iload_n 1, 79, []), (.aaload, 80, []), (.invokevirtual 115, 83, [])]
def b_X9_makeTiles_83 : List QE := [(.iinc 4 1, 86, []), (.goto (-35), 89, [(0, 51)])]
def b_X9_makeTiles_89 : List QE := [(.aload_n 0, 90, []), (.getfield 9, 93, []), (.iload_n 1, 94, []), (.dup2, 95, []), (.iaload, 96, []), (.iload_n 2, 97, []), (.ior, 98, []), (.iastore, 99, []), (.aload_n 0, 100, []), (.dup, 101, []), (.getfield 119, 104, []), (.iload_n 2, 105, []), (.invokestatic 50, 108, []), (.iadd, 109, []), (.putfield 119, 112, []), (.return_, 113, [])]
def L_X9_makeTiles : List (Nat × Option (List QE)) := [(0, some b_X9_makeTiles_0), (4, some b_X9_makeTiles_4), (5, some b_X9_makeTiles_5), (22, some b_X9_makeTiles_22), (31, some b_X9_makeTiles_31), (48, some b_X9_makeTiles_48), (51, none), (58, some b_X9_makeTiles_58), (67, some b_X9_makeTiles_67), (83, some b_X9_makeTiles_83), (89, some b_X9_makeTiles_89)]
def s_X9_makeTiles : Nat → Option (List QE) := q_look L_X9_makeTiles
theorem s_X9_makeTiles_0 : s_X9_makeTiles 0 = some b_X9_makeTiles_0 := id rfl
theorem s_X9_makeTiles_4 : s_X9_makeTiles 4 = some b_X9_makeTiles_4 := id rfl
theorem s_X9_makeTiles_5 : s_X9_makeTiles 5 = some b_X9_makeTiles_5 := id rfl
theorem s_X9_makeTiles_22 : s_X9_makeTiles 22 = some b_X9_makeTiles_22 := id rfl
theorem s_X9_makeTiles_31 : s_X9_makeTiles 31 = some b_X9_makeTiles_31 := id rfl
theorem s_X9_makeTiles_48 : s_X9_makeTiles 48 = some b_X9_makeTiles_48 := id rfl
theorem s_X9_makeTiles_51 : s_X9_makeTiles 51 = none := id rfl
theorem s_X9_makeTiles_58 : s_X9_makeTiles 58 = some b_X9_makeTiles_58 := id rfl
theorem s_X9_makeTiles_67 : s_X9_makeTiles 67 = some b_X9_makeTiles_67 := id rfl
theorem s_X9_makeTiles_83 : s_X9_makeTiles 83 = some b_X9_makeTiles_83 := id rfl
theorem s_X9_makeTiles_89 : s_X9_makeTiles 89 = some b_X9_makeTiles_89 := id rfl
def u_X9_makeTiles : QU := ([27, 67, 9, 36, 20, 119], [119], [], [], [99, 111, 115], [50], [])
theorem o_X9_makeTiles : q_skok cX9_makeTiles 5 u_X9_makeTiles L_X9_makeTiles = true := by decide +kernel
theorem o_X9_makeTiles_51 : q_ok cX9_makeTiles 5 u_X9_makeTiles 51 b_X9_makeTiles_51 = true := by decide +kernel
theorem k_X9_makeTiles : q_chk RX9 fl_X9 ld_X9 u_X9_makeTiles = true := by decide +kernel
def b_X10_size_0 : List QE := [(.iload_n 1, 1, []), (.invokestatic 65, 4, []), (.ifCond .eq 10, 7, [(0, 14)])]
def b_X10_size_7 : List QE := [(.iload_n 2, 8, []), (.invokestatic 65, 11, []), (.ifCond .ne 9, 14, [(0, 20)])]
def b_X10_size_14 : List QE := [(.aload_n 0, 15, []), (.iconst (-1), 16, []), (.invokevirtual 69, 19, []), (.ireturn, 20, [])]
def b_X10_size_20 : List QE := [(.aload_n 0, 21, []), (.getfield 12, 24, []), (.iload_n 1, 25, []), (.iload_n 2, 26, []), (.invokevirtual 73, 29, []), (.aload_n 0, 30, []), (.getfield 19, 33, []), (.invokevirtual 77, 36, []), (.aload_n 0, 37, []), (.getfield 54, 40, []), (.invokevirtual 80, 43, []), (.aload_n 0, 44, []), (.iconst 0, 45, []), (.invokevirtual 81, 48, []), (.ireturn, 49, [])]
def L_X10_size : List (Nat × Option (List QE)) := [(0, some b_X10_size_0), (7, some b_X10_size_7), (14, some b_X10_size_14), (20, some b_X10_size_20)]
def s_X10_size : Nat → Option (List QE) := q_look L_X10_size
theorem s_X10_size_0 : s_X10_size 0 = some b_X10_size_0 := id rfl
theorem s_X10_size_7 : s_X10_size 7 = some b_X10_size_7 := id rfl
theorem s_X10_size_14 : s_X10_size 14 = some b_X10_size_14 := id rfl
theorem s_X10_size_20 : s_X10_size 20 = some b_X10_size_20 := id rfl
def u_X10_size : QU := ([12, 19, 54], [], [], [], [69, 73, 77, 80, 81], [65], [])
theorem o_X10_size : q_skok cX10_size 3 u_X10_size L_X10_size = true := by decide +kernel
theorem k_X10_size : q_chk RX10 fl_X10 ld_X10 u_X10_size = true := by decide +kernel
def b_X10_tell_0 : List QE := [(.iload_n 1, 1, []), (.invokestatic 84, 4, []), (.ifCond .eq 11, 7, [(0, 15)])]
def b_X10_tell_7 : List QE := [(.iload 4, 9, []), (.invokestatic 87, 12, []), (.ifCond .ne 9, 15, [(0, 21)])]
def b_X10_tell_15 : List QE := [(.aload_n 0, 16, []), (.iconst (-1), 17, []), (.invokevirtual 69, 20, []), (.ireturn, 21, [])]
def b_X10_tell_21 : List QE := [(.aload_n 0, 22, []), (.getfield 12, 25, []), (.iload_n 2, 26, []), (.iload_n 3, 27, []), (.invokevirtual 90, 30, []), (.ifCond .ne 10, 33, [(0, 40)])]
def b_X10_tell_33 : List QE := [(.aload_n 0, 34, []), (.bipush (-2), 36, []), (.invokevirtual 69, 39, []), (.ireturn, 40, [])]
def b_X10_tell_40 : List QE := [(.aload_n 0, 41, []), (.iload_n 1, 42, []), (.iload_n 2, 43, []), (.iload_n 3, 44, []), (.invokestatic 94, 47, []), (.iload 4, 49, []), (.invokevirtual 98, 52, []), (.aload_n 0, 53, []), (.iconst 0, 54, []), (.invokevirtual 81, 57, []), (.ireturn, 58, [])]
def L_X10_tell : List (Nat × Option (List QE)) := [(0, some b_X10_tell_0), (7, some b_X10_tell_7), (15, some b_X10_tell_15), (21, some b_X10_tell_21), (33, some b_X10_tell_33), (40, some b_X10_tell_40)]
def s_X10_tell : Nat → Option (List QE) := q_look L_X10_tell
theorem s_X10_tell_0 : s_X10_tell 0 = some b_X10_tell_0 := id rfl
theorem s_X10_tell_7 : s_X10_tell 7 = some b_X10_tell_7 := id rfl
theorem s_X10_tell_15 : s_X10_tell 15 = some b_X10_tell_15 := id rfl
theorem s_X10_tell_21 : s_X10_tell 21 = some b_X10_tell_21 := id rfl
theorem s_X10_tell_33 : s_X10_tell 33 = some b_X10_tell_33 := id rfl
theorem s_X10_tell_40 : s_X10_tell 40 = some b_X10_tell_40 := id rfl
def u_X10_tell : QU := ([12], [], [], [], [69, 90, 98, 81], [84, 87, 94], [])
theorem o_X10_tell : q_skok cX10_tell 5 u_X10_tell L_X10_tell = true := by decide +kernel
theorem k_X10_tell : q_chk RX10 fl_X10 ld_X10 u_X10_tell = true := by decide +kernel
def b_X10_told_0 : List QE := [(.iload_n 1, 1, []), (.invokestatic 84, 4, []), (.ifCond .eq 15, 7, [(0, 19)])]
def b_X10_told_7 : List QE := [(.aload_n 0, 8, []), (.getfield 12, 11, []), (.iload_n 2, 12, []), (.iload_n 3, 13, []), (.invokevirtual 90, 16, []), (.ifCond .ne 6, 19, [(0, 22)])]
def b_X10_told_19 : List QE := [(.ldc 102, 21, []), (.ireturn, 22, [])]
def b_X10_told_22 : List QE := [(.aload_n 0, 23, []), (.getfield 19, 26, []), (.getfield 103, 29, []), (.iload_n 1, 30, []), (.aaload, 31, []), (.iload_n 2, 32, []), (.iload_n 3, 33, []), (.invokestatic 94, 36, []), (.iaload, 37, []), (.ireturn, 38, [])]
def L_X10_told : List (Nat × Option (List QE)) := [(0, some b_X10_told_0), (7, some b_X10_told_7), (19, some b_X10_told_19), (22, some b_X10_told_22)]
def s_X10_told : Nat → Option (List QE) := q_look L_X10_told
theorem s_X10_told_0 : s_X10_told 0 = some b_X10_told_0 := id rfl
theorem s_X10_told_7 : s_X10_told 7 = some b_X10_told_7 := id rfl
theorem s_X10_told_19 : s_X10_told 19 = some b_X10_told_19 := id rfl
theorem s_X10_told_22 : s_X10_told 22 = some b_X10_told_22 := id rfl
def u_X10_told : QU := ([12, 19, 103], [], [102], [], [90], [84, 94], [])
theorem o_X10_told : q_skok cX10_told 4 u_X10_told L_X10_told = true := by decide +kernel
theorem k_X10_told : q_chk RX10 fl_X10 ld_X10 u_X10_told = true := by decide +kernel
def b_X10_feed_0 : List QE := [(.aload_n 0, 1, []), (.getfield 26, 4, []), (.bipush 20, 6, []), (.invokevirtual 107, 9, []), (.ifCond .ne 5, 12, [(0, 14)])]
def b_X10_feed_12 : List QE := [(.iconst (-1), 13, []), (.ireturn, 14, [])]
def b_X10_feed_14 : List QE := [(.aload_n 0, 15, []), (.getfield 26, 18, []), (.iload_n 1, 19, []), (.invokevirtual 110, 22, []), (.aload_n 0, 23, []), (.getfield 26, 26, []), (.iload_n 2, 27, []), (.invokevirtual 110, 30, []), (.aload_n 0, 31, []), (.getfield 26, 34, []), (.iload_n 3, 35, []), (.invokevirtual 110, 38, []), (.aload_n 0, 39, []), (.getfield 26, 42, []), (.iload 4, 44, []), (.invokevirtual 110, 47, []), (.aload_n 0, 48, []), (.getfield 26, 51, []), (.iload 5, 53, []), (.invokevirtual 110, 56, []), (.aload_n 0, 57, []), (.getfield 26, 60, []), (.getfield 114, 63, []), (.ireturn, 64, [])]
def L_X10_feed : List (Nat × Option (List QE)) := [(0, some b_X10_feed_0), (12, some b_X10_feed_12), (14, some b_X10_feed_14)]
def s_X10_feed : Nat → Option (List QE) := q_look L_X10_feed
theorem s_X10_feed_0 : s_X10_feed 0 = some b_X10_feed_0 := id rfl
theorem s_X10_feed_12 : s_X10_feed 12 = some b_X10_feed_12 := id rfl
theorem s_X10_feed_14 : s_X10_feed 14 = some b_X10_feed_14 := id rfl
def u_X10_feed : QU := ([26, 114], [], [], [], [107, 110], [], [])
theorem o_X10_feed : q_skok cX10_feed 6 u_X10_feed L_X10_feed = true := by decide +kernel
theorem k_X10_feed : q_chk RX10 fl_X10 ld_X10 u_X10_feed = true := by decide +kernel
def b_X10_end_0 : List QE := [(.iload_n 1, 1, []), (.ifCond .lt 14, 4, [(0, 15)])]
def b_X10_end_4 : List QE := [(.iload_n 1, 5, []), (.aload_n 0, 6, []), (.getfield 26, 9, []), (.getfield 114, 12, []), (.if_icmp .le 5, 15, [(0, 17)])]
def b_X10_end_15 : List QE := [(.iconst (-1), 16, []), (.ireturn, 17, [])]
def b_X10_end_17 : List QE := [(.aload_n 0, 18, []), (.getfield 26, 21, []), (.iload_n 1, 22, []), (.putfield 114, 25, []), (.iload_n 1, 26, []), (.ireturn, 27, [])]
def L_X10_end : List (Nat × Option (List QE)) := [(0, some b_X10_end_0), (4, some b_X10_end_4), (15, some b_X10_end_15), (17, some b_X10_end_17)]
def s_X10_end : Nat → Option (List QE) := q_look L_X10_end
theorem s_X10_end_0 : s_X10_end 0 = some b_X10_end_0 := id rfl
theorem s_X10_end_4 : s_X10_end 4 = some b_X10_end_4 := id rfl
theorem s_X10_end_15 : s_X10_end 15 = some b_X10_end_15 := id rfl
theorem s_X10_end_17 : s_X10_end 17 = some b_X10_end_17 := id rfl
def u_X10_end : QU := ([26, 114], [114], [], [], [], [], [])
theorem o_X10_end : q_skok cX10_end 2 u_X10_end L_X10_end = true := by decide +kernel
theorem k_X10_end : q_chk RX10 fl_X10 ld_X10 u_X10_end = true := by decide +kernel
def b_X10_boards_0 : List QE := [(.aload_n 0, 1, []), (.aload_n 0, 2, []), (.getfield 45, 5, []), (.aload_n 0, 6, []), (.getfield 37, 9, []), (.invokevirtual 117, 12, []), (.putfield 58, 15, []), (.aload_n 0, 16, []), (.getfield 26, 19, []), (.iconst 0, 20, []), (.putfield 114, 23, []), (.aload_n 0, 24, []), (.getfield 58, 27, []), (.iconst (-1), 28, []), (.if_icmp .eq 10, 31, [(0, 38)])]
def b_X10_boards_31 : List QE := [(.aload_n 0, 32, []), (.bipush (-6), 34, []), (.invokevirtual 69, 37, []), (.ireturn, 38, [])]
def b_X10_boards_38 : List QE := [(.aload_n 0, 39, []), (.getfield 33, 42, []), (.astore_n 1, 43, []), (.aload_n 0, 44, []), (.aload_n 0, 45, []), (.getfield 37, 48, []), (.putfield 33, 51, []), (.aload_n 0, 52, []), (.aload_n 1, 53, []), (.putfield 37, 56, []), (.aload_n 0, 57, []), (.getfield 54, 60, []), (.aload_n 0, 61, []), (.getfield 33, 64, []), (.invokevirtual 121, 67, []), (.aload_n 0, 68, []), (.aload_n 0, 69, []), (.getfield 33, 72, []), (.getfield 125, 75, []), (.invokevirtual 81, 78, []), (.ireturn, 79, [])]
def L_X10_boards : List (Nat × Option (List QE)) := [(0, some b_X10_boards_0), (31, some b_X10_boards_31), (38, some b_X10_boards_38)]
def s_X10_boards : Nat → Option (List QE) := q_look L_X10_boards
theorem s_X10_boards_0 : s_X10_boards 0 = some b_X10_boards_0 := id rfl
theorem s_X10_boards_31 : s_X10_boards 31 = some b_X10_boards_31 := id rfl
theorem s_X10_boards_38 : s_X10_boards 38 = some b_X10_boards_38 := id rfl
def u_X10_boards : QU := ([45, 37, 58, 26, 114, 33, 54, 125], [58, 114, 33, 37], [], [], [117, 69, 121, 81], [], [])
theorem o_X10_boards : q_skok cX10_boards 2 u_X10_boards L_X10_boards = true := by decide +kernel
theorem k_X10_boards : q_chk RX10 fl_X10 ld_X10 u_X10_boards = true := by decide +kernel
def b_X10_fault_0 : List QE := [(.aload_n 0, 1, []), (.getfield 58, 4, []), (.ireturn, 5, [])]
def L_X10_fault : List (Nat × Option (List QE)) := [(0, some b_X10_fault_0)]
def s_X10_fault : Nat → Option (List QE) := q_look L_X10_fault
theorem s_X10_fault_0 : s_X10_fault 0 = some b_X10_fault_0 := id rfl
def u_X10_fault : QU := ([58], [], [], [], [], [], [])
theorem o_X10_fault : q_skok cX10_fault 1 u_X10_fault L_X10_fault = true := by decide +kernel
theorem k_X10_fault : q_chk RX10 fl_X10 ld_X10 u_X10_fault = true := by decide +kernel
def b_X10_cell_0 : List QE := [(.aload_n 0, 1, []), (.getfield 33, 4, []), (.iload_n 1, 5, []), (.invokevirtual 126, 8, []), (.ifCond .eq 15, 11, [(0, 23)])]
def b_X10_cell_11 : List QE := [(.aload_n 0, 12, []), (.getfield 12, 15, []), (.iload_n 2, 16, []), (.iload_n 3, 17, []), (.invokevirtual 90, 20, []), (.ifCond .ne 6, 23, [(0, 26)])]
def b_X10_cell_23 : List QE := [(.ldc 102, 25, []), (.ireturn, 26, [])]
def b_X10_cell_26 : List QE := [(.aload_n 0, 27, []), (.getfield 54, 30, []), (.iload_n 1, 31, []), (.iload_n 2, 32, []), (.iload_n 3, 33, []), (.invokestatic 129, 36, []), (.invokevirtual 132, 39, []), (.aload_n 0, 40, []), (.getfield 54, 43, []), (.getfield 135, 46, []), (.iload_n 1, 47, []), (.aaload, 48, []), (.iload_n 2, 49, []), (.iload_n 3, 50, []), (.invokestatic 94, 53, []), (.iaload, 54, []), (.ireturn, 55, [])]
def L_X10_cell : List (Nat × Option (List QE)) := [(0, some b_X10_cell_0), (11, some b_X10_cell_11), (23, some b_X10_cell_23), (26, some b_X10_cell_26)]
def s_X10_cell : Nat → Option (List QE) := q_look L_X10_cell
theorem s_X10_cell_0 : s_X10_cell 0 = some b_X10_cell_0 := id rfl
theorem s_X10_cell_11 : s_X10_cell 11 = some b_X10_cell_11 := id rfl
theorem s_X10_cell_23 : s_X10_cell 23 = some b_X10_cell_23 := id rfl
theorem s_X10_cell_26 : s_X10_cell 26 = some b_X10_cell_26 := id rfl
def u_X10_cell : QU := ([33, 12, 54, 135], [], [102], [], [126, 90, 132], [129, 94], [])
theorem o_X10_cell : q_skok cX10_cell 4 u_X10_cell L_X10_cell = true := by decide +kernel
theorem k_X10_cell : q_chk RX10 fl_X10 ld_X10 u_X10_cell = true := by decide +kernel
def b_X10_fresh_0 : List QE := [(.aload_n 0, 1, []), (.getfield 33, 4, []), (.iload_n 1, 5, []), (.invokevirtual 126, 8, []), (.ifCond .eq 14, 11, [(0, 22)])]
def b_X10_fresh_11 : List QE := [(.aload_n 0, 12, []), (.getfield 12, 15, []), (.iload_n 2, 16, []), (.invokevirtual 138, 19, []), (.ifCond .ne 5, 22, [(0, 24)])]
def b_X10_fresh_22 : List QE := [(.iconst (-1), 23, []), (.ireturn, 24, [])]
def b_X10_fresh_24 : List QE := [(.aload_n 0, 25, []), (.getfield 54, 28, []), (.iload_n 1, 29, []), (.iload_n 2, 30, []), (.invokevirtual 141, 33, []), (.ifCond .eq 7, 36, [(0, 40)])]
def b_X10_fresh_36 : List QE := [(.iconst 1, 37, []), (.goto 4, 40, [(0, 41)])]
def b_X10_fresh_40 : List QE := [(.iconst 0, 41, [])]
def b_X10_fresh_41 : List QE := [(.ireturn, 42, [])]
def L_X10_fresh : List (Nat × Option (List QE)) := [(0, some b_X10_fresh_0), (11, some b_X10_fresh_11), (22, some b_X10_fresh_22), (24, some b_X10_fresh_24), (36, some b_X10_fresh_36), (40, some b_X10_fresh_40), (41, some b_X10_fresh_41)]
def s_X10_fresh : Nat → Option (List QE) := q_look L_X10_fresh
theorem s_X10_fresh_0 : s_X10_fresh 0 = some b_X10_fresh_0 := id rfl
theorem s_X10_fresh_11 : s_X10_fresh 11 = some b_X10_fresh_11 := id rfl
theorem s_X10_fresh_22 : s_X10_fresh 22 = some b_X10_fresh_22 := id rfl
theorem s_X10_fresh_24 : s_X10_fresh 24 = some b_X10_fresh_24 := id rfl
theorem s_X10_fresh_36 : s_X10_fresh 36 = some b_X10_fresh_36 := id rfl
theorem s_X10_fresh_40 : s_X10_fresh 40 = some b_X10_fresh_40 := id rfl
theorem s_X10_fresh_41 : s_X10_fresh 41 = some b_X10_fresh_41 := id rfl
def u_X10_fresh : QU := ([33, 12, 54], [], [], [], [126, 138, 141], [], [])
theorem o_X10_fresh : q_skok cX10_fresh 3 u_X10_fresh L_X10_fresh = true := by decide +kernel
theorem k_X10_fresh : q_chk RX10 fl_X10 ld_X10 u_X10_fresh = true := by decide +kernel
def b_X10_from_0 : List QE := [(.aload_n 0, 1, []), (.getfield 33, 4, []), (.iload_n 1, 5, []), (.invokevirtual 126, 8, []), (.ifCond .eq 21, 11, [(0, 29)])]
def b_X10_from_11 : List QE := [(.aload_n 0, 12, []), (.getfield 12, 15, []), (.iload_n 2, 16, []), (.invokevirtual 138, 19, []), (.ifCond .eq 10, 22, [(0, 29)])]
def b_X10_from_22 : List QE := [(.iload_n 3, 23, []), (.invokestatic 84, 26, []), (.ifCond .ne 5, 29, [(0, 31)])]
def b_X10_from_29 : List QE := [(.iconst (-1), 30, []), (.ireturn, 31, [])]
def b_X10_from_31 : List QE := [(.aload_n 0, 32, []), (.getfield 54, 35, []), (.iload_n 1, 36, []), (.iload_n 2, 37, []), (.iload_n 3, 38, []), (.invokevirtual 144, 41, []), (.ireturn, 42, [])]
def L_X10_from : List (Nat × Option (List QE)) := [(0, some b_X10_from_0), (11, some b_X10_from_11), (22, some b_X10_from_22), (29, some b_X10_from_29), (31, some b_X10_from_31)]
def s_X10_from : Nat → Option (List QE) := q_look L_X10_from
theorem s_X10_from_0 : s_X10_from 0 = some b_X10_from_0 := id rfl
theorem s_X10_from_11 : s_X10_from 11 = some b_X10_from_11 := id rfl
theorem s_X10_from_22 : s_X10_from 22 = some b_X10_from_22 := id rfl
theorem s_X10_from_29 : s_X10_from 29 = some b_X10_from_29 := id rfl
theorem s_X10_from_31 : s_X10_from 31 = some b_X10_from_31 := id rfl
def u_X10_from : QU := ([33, 12, 54], [], [], [], [126, 138, 144], [84], [])
theorem o_X10_from : q_skok cX10_from 4 u_X10_from L_X10_from = true := by decide +kernel
theorem k_X10_from : q_chk RX10 fl_X10 ld_X10 u_X10_from = true := by decide +kernel
def b_X10_made_0 : List QE := [(.aload_n 0, 1, []), (.getfield 54, 4, []), (.getfield 148, 7, []), (.ireturn, 8, [])]
def L_X10_made : List (Nat × Option (List QE)) := [(0, some b_X10_made_0)]
def s_X10_made : Nat → Option (List QE) := q_look L_X10_made
theorem s_X10_made_0 : s_X10_made 0 = some b_X10_made_0 := id rfl
def u_X10_made : QU := ([54, 148], [], [], [], [], [], [])
theorem o_X10_made : q_skok cX10_made 1 u_X10_made L_X10_made = true := by decide +kernel
theorem k_X10_made : q_chk RX10 fl_X10 ld_X10 u_X10_made = true := by decide +kernel
def b_X10_image_0 : List QE := [(.iload_n 1, 1, []), (.invokestatic 151, 4, []), (.ifCond .ne 9, 7, [(0, 13)])]
def b_X10_image_7 : List QE := [(.aload_n 0, 8, []), (.iconst (-1), 9, []), (.invokevirtual 69, 12, []), (.ireturn, 13, [])]
def b_X10_image_13 : List QE := [(.aload_n 0, 14, []), (.getfield 19, 17, []), (.iload_n 1, 18, []), (.invokevirtual 154, 21, []), (.aload_n 0, 22, []), (.iconst 0, 23, []), (.invokevirtual 81, 26, []), (.ireturn, 27, [])]
def L_X10_image : List (Nat × Option (List QE)) := [(0, some b_X10_image_0), (7, some b_X10_image_7), (13, some b_X10_image_13)]
def s_X10_image : Nat → Option (List QE) := q_look L_X10_image
theorem s_X10_image_0 : s_X10_image 0 = some b_X10_image_0 := id rfl
theorem s_X10_image_7 : s_X10_image 7 = some b_X10_image_7 := id rfl
theorem s_X10_image_13 : s_X10_image 13 = some b_X10_image_13 := id rfl
def u_X10_image : QU := ([19], [], [], [], [69, 154, 81], [151], [])
theorem o_X10_image : q_skok cX10_image 2 u_X10_image L_X10_image = true := by decide +kernel
theorem k_X10_image : q_chk RX10 fl_X10 ld_X10 u_X10_image = true := by decide +kernel
def b_X10_back_0 : List QE := [(.iload_n 1, 1, []), (.invokestatic 151, 4, []), (.ifCond .ne 9, 7, [(0, 13)])]
def b_X10_back_7 : List QE := [(.aload_n 0, 8, []), (.iconst (-1), 9, []), (.invokevirtual 69, 12, []), (.ireturn, 13, [])]
def b_X10_back_13 : List QE := [(.aload_n 0, 14, []), (.getfield 19, 17, []), (.getfield 157, 20, []), (.iload_n 1, 21, []), (.baload, 22, []), (.ifCond .ne 10, 25, [(0, 32)])]
def b_X10_back_25 : List QE := [(.aload_n 0, 26, []), (.bipush (-6), 28, []), (.invokevirtual 69, 31, []), (.ireturn, 32, [])]
def b_X10_back_32 : List QE := [(.iconst 0, 33, []), (.istore_n 2, 34, []), (.iconst 0, 35, []), (.istore_n 3, 36, [])]
def b_X10_back_36 : List QE := [(.iload_n 3, 37, []), (.iconst 4, 38, []), (.if_icmp .ge 18, 41, [(0, 56)])]
def b_X10_back_41 : List QE := [(.iload_n 2, 42, []), (.aload_n 0, 43, []), (.iload_n 1, 44, []), (.iload_n 3, 45, []), (.invokevirtual 161, 48, []), (.iadd, 49, []), (.istore_n 2, 50, []), (.iinc 3 1, 53, []), (.goto (-17), 56, [(0, 36)])]
def b_X10_back_56 : List QE := [(.aload_n 0, 57, []), (.iload_n 2, 58, []), (.invokevirtual 81, 61, []), (.ireturn, 62, [])]
def L_X10_back : List (Nat × Option (List QE)) := [(0, some b_X10_back_0), (7, some b_X10_back_7), (13, some b_X10_back_13), (25, some b_X10_back_25), (32, some b_X10_back_32), (36, none), (41, some b_X10_back_41), (56, some b_X10_back_56)]
def s_X10_back : Nat → Option (List QE) := q_look L_X10_back
theorem s_X10_back_0 : s_X10_back 0 = some b_X10_back_0 := id rfl
theorem s_X10_back_7 : s_X10_back 7 = some b_X10_back_7 := id rfl
theorem s_X10_back_13 : s_X10_back 13 = some b_X10_back_13 := id rfl
theorem s_X10_back_25 : s_X10_back 25 = some b_X10_back_25 := id rfl
theorem s_X10_back_32 : s_X10_back 32 = some b_X10_back_32 := id rfl
theorem s_X10_back_36 : s_X10_back 36 = none := id rfl
theorem s_X10_back_41 : s_X10_back 41 = some b_X10_back_41 := id rfl
theorem s_X10_back_56 : s_X10_back 56 = some b_X10_back_56 := id rfl
def u_X10_back : QU := ([19, 157], [], [], [], [69, 161, 81], [151], [])
theorem o_X10_back : q_skok cX10_back 4 u_X10_back L_X10_back = true := by decide +kernel
theorem o_X10_back_36 : q_ok cX10_back 4 u_X10_back 36 b_X10_back_36 = true := by decide +kernel
theorem k_X10_back : q_chk RX10 fl_X10 ld_X10 u_X10_back = true := by decide +kernel
def b_X10_count_0 : List QE := [(.iload_n 1, 1, []), (.tableswitch 90 0 5 #[39, 47, 55, 63, 74, 82], 40, [(0, 40), (1, 48), (2, 56), (3, 64), (4, 75), (5, 83), (0, 91)])]
def b_X10_count_40 : List QE := [(.aload_n 0, 41, []), (.getfield 12, 44, []), (.getfield 164, 47, []), (.ireturn, 48, [])]
def b_X10_count_48 : List QE := [(.aload_n 0, 49, []), (.getfield 12, 52, []), (.getfield 167, 55, []), (.ireturn, 56, [])]
def b_X10_count_56 : List QE := [(.aload_n 0, 57, []), (.getfield 33, 60, []), (.getfield 125, 63, []), (.ireturn, 64, [])]
def b_X10_count_64 : List QE := [(.aload_n 0, 65, []), (.getfield 12, 68, []), (.getfield 170, 71, []), (.invokestatic 173, 74, []), (.ireturn, 75, [])]
def b_X10_count_75 : List QE := [(.aload_n 0, 76, []), (.getfield 26, 79, []), (.getfield 114, 82, []), (.ireturn, 83, [])]
def b_X10_count_83 : List QE := [(.aload_n 0, 84, []), (.getfield 54, 87, []), (.invokevirtual 178, 90, []), (.ireturn, 91, [])]
def b_X10_count_91 : List QE := [(.iconst (-1), 92, []), (.ireturn, 93, [])]
def L_X10_count : List (Nat × Option (List QE)) := [(0, some b_X10_count_0), (40, some b_X10_count_40), (48, some b_X10_count_48), (56, some b_X10_count_56), (64, some b_X10_count_64), (75, some b_X10_count_75), (83, some b_X10_count_83), (91, some b_X10_count_91)]
def s_X10_count : Nat → Option (List QE) := q_look L_X10_count
theorem s_X10_count_0 : s_X10_count 0 = some b_X10_count_0 := id rfl
theorem s_X10_count_40 : s_X10_count 40 = some b_X10_count_40 := id rfl
theorem s_X10_count_48 : s_X10_count 48 = some b_X10_count_48 := id rfl
theorem s_X10_count_56 : s_X10_count 56 = some b_X10_count_56 := id rfl
theorem s_X10_count_64 : s_X10_count 64 = some b_X10_count_64 := id rfl
theorem s_X10_count_75 : s_X10_count 75 = some b_X10_count_75 := id rfl
theorem s_X10_count_83 : s_X10_count 83 = some b_X10_count_83 := id rfl
theorem s_X10_count_91 : s_X10_count 91 = some b_X10_count_91 := id rfl
def u_X10_count : QU := ([12, 164, 167, 33, 125, 170, 26, 114, 54], [], [], [], [178], [173], [])
theorem o_X10_count : q_skok cX10_count 2 u_X10_count L_X10_count = true := by decide +kernel
theorem k_X10_count : q_chk RX10 fl_X10 ld_X10 u_X10_count = true := by decide +kernel
def b_X10_status_0 : List QE := [(.aload_n 0, 1, []), (.getfield 62, 4, []), (.ireturn, 5, [])]
def L_X10_status : List (Nat × Option (List QE)) := [(0, some b_X10_status_0)]
def s_X10_status : Nat → Option (List QE) := q_look L_X10_status
theorem s_X10_status_0 : s_X10_status 0 = some b_X10_status_0 := id rfl
def u_X10_status : QU := ([62], [], [], [], [], [], [])
theorem o_X10_status : q_skok cX10_status 1 u_X10_status L_X10_status = true := by decide +kernel
theorem k_X10_status : q_chk RX10 fl_X10 ld_X10 u_X10_status = true := by decide +kernel
def b_X10_refuse_0 : List QE := [(.aload_n 0, 1, []), (.iload_n 1, 2, []), (.putfield 62, 5, []), (.iload_n 1, 6, []), (.ireturn, 7, [])]
def L_X10_refuse : List (Nat × Option (List QE)) := [(0, some b_X10_refuse_0)]
def s_X10_refuse : Nat → Option (List QE) := q_look L_X10_refuse
theorem s_X10_refuse_0 : s_X10_refuse 0 = some b_X10_refuse_0 := id rfl
def u_X10_refuse : QU := ([62], [62], [], [], [], [], [])
theorem o_X10_refuse : q_skok cX10_refuse 2 u_X10_refuse L_X10_refuse = true := by decide +kernel
theorem k_X10_refuse : q_chk RX10 fl_X10 ld_X10 u_X10_refuse = true := by decide +kernel
def b_X10_accept_0 : List QE := [(.aload_n 0, 1, []), (.iconst 0, 2, []), (.putfield 62, 5, []), (.iload_n 1, 6, []), (.ireturn, 7, [])]
def L_X10_accept : List (Nat × Option (List QE)) := [(0, some b_X10_accept_0)]
def s_X10_accept : Nat → Option (List QE) := q_look L_X10_accept
theorem s_X10_accept_0 : s_X10_accept 0 = some b_X10_accept_0 := id rfl
def u_X10_accept : QU := ([62], [62], [], [], [], [], [])
theorem o_X10_accept : q_skok cX10_accept 2 u_X10_accept L_X10_accept = true := by decide +kernel
theorem k_X10_accept : q_chk RX10 fl_X10 ld_X10 u_X10_accept = true := by decide +kernel
def b_X10_put_0 : List QE := [(.aload_n 0, 1, []), (.getfield 19, 4, []), (.getfield 103, 7, []), (.iload_n 1, 8, []), (.aaload, 9, []), (.iload_n 2, 10, []), (.iload_n 3, 11, []), (.iastore, 12, []), (.aload_n 0, 13, []), (.getfield 54, 16, []), (.iload_n 1, 17, []), (.iload_n 2, 18, []), (.bipush 14, 20, []), (.irem, 21, []), (.iconst 1, 22, []), (.isub, 23, []), (.iload_n 2, 24, []), (.bipush 14, 26, []), (.idiv, 27, []), (.iconst 1, 28, []), (.isub, 29, []), (.invokestatic 129, 32, []), (.invokevirtual 182, 35, []), (.return_, 36, [])]
def L_X10_put : List (Nat × Option (List QE)) := [(0, some b_X10_put_0)]
def s_X10_put : Nat → Option (List QE) := q_look L_X10_put
theorem s_X10_put_0 : s_X10_put 0 = some b_X10_put_0 := id rfl
def u_X10_put : QU := ([19, 103, 54], [], [], [], [182], [129], [])
theorem o_X10_put : q_skok cX10_put 4 u_X10_put L_X10_put = true := by decide +kernel
theorem k_X10_put : q_chk RX10 fl_X10 ld_X10 u_X10_put = true := by decide +kernel
def b_X10_bringBack_0 : List QE := [(.iconst 0, 1, []), (.istore_n 3, 2, []), (.bipush 15, 4, []), (.istore 4, 6, [])]
def b_X10_bringBack_6 : List QE := [(.iload 4, 8, []), (.sipush 180, 11, []), (.if_icmp .gt 58, 14, [(0, 69)])]
def b_X10_bringBack_14 : List QE := [(.aload_n 0, 15, []), (.getfield 19, 18, []), (.getfield 185, 21, []), (.iload_n 1, 22, []), (.aaload, 23, []), (.iload_n 2, 24, []), (.sipush 196, 27, []), (.imul, 28, []), (.iload 4, 30, []), (.iadd, 31, []), (.iaload, 32, []), (.istore 5, 34, []), (.iload 5, 36, []), (.aload_n 0, 37, []), (.getfield 19, 40, []), (.getfield 103, 43, []), (.iload_n 2, 44, []), (.aaload, 45, []), (.iload 4, 47, []), (.iaload, 48, []), (.if_icmp .eq 15, 51, [(0, 63)])]
def b_X10_bringBack_51 : List QE := [(.aload_n 0, 52, []), (.iload_n 2, 53, []), (.iload 4, 55, []), (.iload 5, 57, []), (.invokevirtual 98, 60, []), (.iinc 3 1, 63, [])]
def b_X10_bringBack_63 : List QE := [(.iinc 4 1, 66, []), (.goto (-60), 69, [(0, 6)])]
def b_X10_bringBack_69 : List QE := [(.iload_n 3, 70, []), (.ireturn, 71, [])]
def L_X10_bringBack : List (Nat × Option (List QE)) := [(0, some b_X10_bringBack_0), (6, none), (14, some b_X10_bringBack_14), (51, some b_X10_bringBack_51), (63, some b_X10_bringBack_63), (69, some b_X10_bringBack_69)]
def s_X10_bringBack : Nat → Option (List QE) := q_look L_X10_bringBack
theorem s_X10_bringBack_0 : s_X10_bringBack 0 = some b_X10_bringBack_0 := id rfl
theorem s_X10_bringBack_6 : s_X10_bringBack 6 = none := id rfl
theorem s_X10_bringBack_14 : s_X10_bringBack 14 = some b_X10_bringBack_14 := id rfl
theorem s_X10_bringBack_51 : s_X10_bringBack 51 = some b_X10_bringBack_51 := id rfl
theorem s_X10_bringBack_63 : s_X10_bringBack 63 = some b_X10_bringBack_63 := id rfl
theorem s_X10_bringBack_69 : s_X10_bringBack 69 = some b_X10_bringBack_69 := id rfl
def u_X10_bringBack : QU := ([19, 185, 103], [], [], [], [98], [], [])
theorem o_X10_bringBack : q_skok cX10_bringBack 6 u_X10_bringBack L_X10_bringBack = true := by decide +kernel
theorem o_X10_bringBack_6 : q_ok cX10_bringBack 6 u_X10_bringBack 6 b_X10_bringBack_6 = true := by decide +kernel
theorem k_X10_bringBack : q_chk RX10 fl_X10 ld_X10 u_X10_bringBack = true := by decide +kernel
def b_X10_isSide_0 : List QE := [(.iload_n 0, 1, []), (.iconst 2, 2, []), (.if_icmp .lt 13, 5, [(0, 15)])]
def b_X10_isSide_5 : List QE := [(.iload_n 0, 6, []), (.bipush 12, 8, []), (.if_icmp .gt 7, 11, [(0, 15)])]
def b_X10_isSide_11 : List QE := [(.iconst 1, 12, []), (.goto 4, 15, [(0, 16)])]
def b_X10_isSide_15 : List QE := [(.iconst 0, 16, [])]
def b_X10_isSide_16 : List QE := [(.ireturn, 17, [])]
def L_X10_isSide : List (Nat × Option (List QE)) := [(0, some b_X10_isSide_0), (5, some b_X10_isSide_5), (11, some b_X10_isSide_11), (15, some b_X10_isSide_15), (16, some b_X10_isSide_16)]
def s_X10_isSide : Nat → Option (List QE) := q_look L_X10_isSide
theorem s_X10_isSide_0 : s_X10_isSide 0 = some b_X10_isSide_0 := id rfl
theorem s_X10_isSide_5 : s_X10_isSide 5 = some b_X10_isSide_5 := id rfl
theorem s_X10_isSide_11 : s_X10_isSide 11 = some b_X10_isSide_11 := id rfl
theorem s_X10_isSide_15 : s_X10_isSide 15 = some b_X10_isSide_15 := id rfl
theorem s_X10_isSide_16 : s_X10_isSide 16 = some b_X10_isSide_16 := id rfl
def u_X10_isSide : QU := ([], [], [], [], [], [], [])
theorem o_X10_isSide : q_skok cX10_isSide 1 u_X10_isSide L_X10_isSide = true := by decide +kernel
theorem k_X10_isSide : q_chk RX10 fl_X10 ld_X10 u_X10_isSide = true := by decide +kernel
def b_X10_isSheet_0 : List QE := [(.iload_n 0, 1, []), (.ifCond .lt 12, 4, [(0, 13)])]
def b_X10_isSheet_4 : List QE := [(.iload_n 0, 5, []), (.iconst 4, 6, []), (.if_icmp .ge 7, 9, [(0, 13)])]
def b_X10_isSheet_9 : List QE := [(.iconst 1, 10, []), (.goto 4, 13, [(0, 14)])]
def b_X10_isSheet_13 : List QE := [(.iconst 0, 14, [])]
def b_X10_isSheet_14 : List QE := [(.ireturn, 15, [])]
def L_X10_isSheet : List (Nat × Option (List QE)) := [(0, some b_X10_isSheet_0), (4, some b_X10_isSheet_4), (9, some b_X10_isSheet_9), (13, some b_X10_isSheet_13), (14, some b_X10_isSheet_14)]
def s_X10_isSheet : Nat → Option (List QE) := q_look L_X10_isSheet
theorem s_X10_isSheet_0 : s_X10_isSheet 0 = some b_X10_isSheet_0 := id rfl
theorem s_X10_isSheet_4 : s_X10_isSheet 4 = some b_X10_isSheet_4 := id rfl
theorem s_X10_isSheet_9 : s_X10_isSheet 9 = some b_X10_isSheet_9 := id rfl
theorem s_X10_isSheet_13 : s_X10_isSheet 13 = some b_X10_isSheet_13 := id rfl
theorem s_X10_isSheet_14 : s_X10_isSheet 14 = some b_X10_isSheet_14 := id rfl
def u_X10_isSheet : QU := ([], [], [], [], [], [], [])
theorem o_X10_isSheet : q_skok cX10_isSheet 1 u_X10_isSheet L_X10_isSheet = true := by decide +kernel
theorem k_X10_isSheet : q_chk RX10 fl_X10 ld_X10 u_X10_isSheet = true := by decide +kernel
def b_X10_isImage_0 : List QE := [(.iload_n 0, 1, []), (.ifCond .lt 12, 4, [(0, 13)])]
def b_X10_isImage_4 : List QE := [(.iload_n 0, 5, []), (.iconst 3, 6, []), (.if_icmp .ge 7, 9, [(0, 13)])]
def b_X10_isImage_9 : List QE := [(.iconst 1, 10, []), (.goto 4, 13, [(0, 14)])]
def b_X10_isImage_13 : List QE := [(.iconst 0, 14, [])]
def b_X10_isImage_14 : List QE := [(.ireturn, 15, [])]
def L_X10_isImage : List (Nat × Option (List QE)) := [(0, some b_X10_isImage_0), (4, some b_X10_isImage_4), (9, some b_X10_isImage_9), (13, some b_X10_isImage_13), (14, some b_X10_isImage_14)]
def s_X10_isImage : Nat → Option (List QE) := q_look L_X10_isImage
theorem s_X10_isImage_0 : s_X10_isImage 0 = some b_X10_isImage_0 := id rfl
theorem s_X10_isImage_4 : s_X10_isImage 4 = some b_X10_isImage_4 := id rfl
theorem s_X10_isImage_9 : s_X10_isImage 9 = some b_X10_isImage_9 := id rfl
theorem s_X10_isImage_13 : s_X10_isImage 13 = some b_X10_isImage_13 := id rfl
theorem s_X10_isImage_14 : s_X10_isImage 14 = some b_X10_isImage_14 := id rfl
def u_X10_isImage : QU := ([], [], [], [], [], [], [])
theorem o_X10_isImage : q_skok cX10_isImage 1 u_X10_isImage L_X10_isImage = true := by decide +kernel
theorem k_X10_isImage : q_chk RX10 fl_X10 ld_X10 u_X10_isImage = true := by decide +kernel
def b_X10_isTellable_0 : List QE := [(.iload_n 0, 1, []), (.ldc 102, 3, []), (.if_icmp .eq 15, 6, [(0, 18)])]
def b_X10_isTellable_6 : List QE := [(.iload_n 0, 7, []), (.ldc 188, 9, []), (.if_icmp .lt 13, 12, [(0, 22)])]
def b_X10_isTellable_12 : List QE := [(.iload_n 0, 13, []), (.ldc 189, 15, []), (.if_icmp .gt 7, 18, [(0, 22)])]
def b_X10_isTellable_18 : List QE := [(.iconst 1, 19, []), (.goto 4, 22, [(0, 23)])]
def b_X10_isTellable_22 : List QE := [(.iconst 0, 23, [])]
def b_X10_isTellable_23 : List QE := [(.ireturn, 24, [])]
def L_X10_isTellable : List (Nat × Option (List QE)) := [(0, some b_X10_isTellable_0), (6, some b_X10_isTellable_6), (12, some b_X10_isTellable_12), (18, some b_X10_isTellable_18), (22, some b_X10_isTellable_22), (23, some b_X10_isTellable_23)]
def s_X10_isTellable : Nat → Option (List QE) := q_look L_X10_isTellable
theorem s_X10_isTellable_0 : s_X10_isTellable 0 = some b_X10_isTellable_0 := id rfl
theorem s_X10_isTellable_6 : s_X10_isTellable 6 = some b_X10_isTellable_6 := id rfl
theorem s_X10_isTellable_12 : s_X10_isTellable 12 = some b_X10_isTellable_12 := id rfl
theorem s_X10_isTellable_18 : s_X10_isTellable 18 = some b_X10_isTellable_18 := id rfl
theorem s_X10_isTellable_22 : s_X10_isTellable 22 = some b_X10_isTellable_22 := id rfl
theorem s_X10_isTellable_23 : s_X10_isTellable 23 = some b_X10_isTellable_23 := id rfl
def u_X10_isTellable : QU := ([], [], [102, 188, 189], [], [], [], [])
theorem o_X10_isTellable : q_skok cX10_isTellable 1 u_X10_isTellable L_X10_isTellable = true := by decide +kernel
theorem k_X10_isTellable : q_chk RX10 fl_X10 ld_X10 u_X10_isTellable = true := by decide +kernel
def b_X10_placeOf_0 : List QE := [(.iload_n 1, 1, []), (.iconst 1, 2, []), (.iadd, 3, []), (.bipush 14, 5, []), (.imul, 6, []), (.iload_n 0, 7, []), (.iadd, 8, []), (.iconst 1, 9, []), (.iadd, 10, []), (.ireturn, 11, [])]
def L_X10_placeOf : List (Nat × Option (List QE)) := [(0, some b_X10_placeOf_0)]
def s_X10_placeOf : Nat → Option (List QE) := q_look L_X10_placeOf
theorem s_X10_placeOf_0 : s_X10_placeOf 0 = some b_X10_placeOf_0 := id rfl
def u_X10_placeOf : QU := ([], [], [], [], [], [], [])
theorem o_X10_placeOf : q_skok cX10_placeOf 2 u_X10_placeOf L_X10_placeOf = true := by decide +kernel
theorem k_X10_placeOf : q_chk RX10 fl_X10 ld_X10 u_X10_placeOf = true := by decide +kernel
def b_X10_tileOf_0 : List QE := [(.iload_n 1, 1, []), (.iconst 4, 2, []), (.idiv, 3, []), (.iconst 3, 4, []), (.imul, 5, []), (.iload_n 0, 6, []), (.iconst 4, 7, []), (.idiv, 8, []), (.iadd, 9, []), (.ireturn, 10, [])]
def L_X10_tileOf : List (Nat × Option (List QE)) := [(0, some b_X10_tileOf_0)]
def s_X10_tileOf : Nat → Option (List QE) := q_look L_X10_tileOf
theorem s_X10_tileOf_0 : s_X10_tileOf 0 = some b_X10_tileOf_0 := id rfl
def u_X10_tileOf : QU := ([], [], [], [], [], [], [])
theorem o_X10_tileOf : q_skok cX10_tileOf 2 u_X10_tileOf L_X10_tileOf = true := by decide +kernel
theorem k_X10_tileOf : q_chk RX10 fl_X10 ld_X10 u_X10_tileOf = true := by decide +kernel
def b_X10_orGap_0 : List QE := [(.lload_n 0, 1, []), (.ldc2_w 190, 4, []), (.lcmp, 5, []), (.ifCond .lt 11, 8, [(0, 16)])]
def b_X10_orGap_8 : List QE := [(.lload_n 0, 9, []), (.ldc2_w 192, 12, []), (.lcmp, 13, []), (.ifCond .le 8, 16, [(0, 21)])]
def b_X10_orGap_16 : List QE := [(.ldc 102, 18, []), (.goto 5, 21, [(0, 23)])]
def b_X10_orGap_21 : List QE := [(.lload_n 0, 22, []), (.l2i, 23, [])]
def b_X10_orGap_23 : List QE := [(.ireturn, 24, [])]
def L_X10_orGap : List (Nat × Option (List QE)) := [(0, some b_X10_orGap_0), (8, some b_X10_orGap_8), (16, some b_X10_orGap_16), (21, some b_X10_orGap_21), (23, some b_X10_orGap_23)]
def s_X10_orGap : Nat → Option (List QE) := q_look L_X10_orGap
theorem s_X10_orGap_0 : s_X10_orGap 0 = some b_X10_orGap_0 := id rfl
theorem s_X10_orGap_8 : s_X10_orGap 8 = some b_X10_orGap_8 := id rfl
theorem s_X10_orGap_16 : s_X10_orGap 16 = some b_X10_orGap_16 := id rfl
theorem s_X10_orGap_21 : s_X10_orGap 21 = some b_X10_orGap_21 := id rfl
theorem s_X10_orGap_23 : s_X10_orGap 23 = some b_X10_orGap_23 := id rfl
def u_X10_orGap : QU := ([], [], [190, 192, 102], [], [], [], [])
theorem o_X10_orGap : q_skok cX10_orGap 2 u_X10_orGap L_X10_orGap = true := by decide +kernel
theorem k_X10_orGap : q_chk RX10 fl_X10 ld_X10 u_X10_orGap = true := by decide +kernel
def b_J6_bitCount_0f7a4_0 : List QE := [(.iload_n 0, 1, []), (.iload_n 0, 2, []), (.iconst 1, 3, []), (.iushr, 4, []), (.ldc_w 265, 7, []), (.iand, 8, []), (.isub, 9, []), (.istore_n 0, 10, []), (.iload_n 0, 11, []), (.ldc_w 266, 14, []), (.iand, 15, []), (.iload_n 0, 16, []), (.iconst 2, 17, []), (.iushr, 18, []), (.ldc_w 266, 21, []), (.iand, 22, []), (.iadd, 23, []), (.istore_n 0, 24, []), (.iload_n 0, 25, []), (.iload_n 0, 26, []), (.iconst 4, 27, []), (.iushr, 28, []), (.iadd, 29, []), (.ldc_w 267, 32, []), (.iand, 33, []), (.istore_n 0, 34, []), (.iload_n 0, 35, []), (.iload_n 0, 36, []), (.bipush 8, 38, []), (.iushr, 39, []), (.iadd, 40, []), (.istore_n 0, 41, []), (.iload_n 0, 42, []), (.iload_n 0, 43, []), (.bipush 16, 45, []), (.iushr, 46, []), (.iadd, 47, []), (.istore_n 0, 48, []), (.iload_n 0, 49, []), (.bipush 63, 51, []), (.iand, 52, []), (.ireturn, 53, [])]
def L_J6_bitCount_0f7a4 : List (Nat × Option (List QE)) := [(0, some b_J6_bitCount_0f7a4_0)]
def s_J6_bitCount_0f7a4 : Nat → Option (List QE) := q_look L_J6_bitCount_0f7a4
theorem s_J6_bitCount_0f7a4_0 : s_J6_bitCount_0f7a4 0 = some b_J6_bitCount_0f7a4_0 := id rfl
def u_J6_bitCount_0f7a4 : QU := ([], [], [265, 266, 267], [], [], [], [])
theorem o_J6_bitCount_0f7a4 : q_skok cJ6_bitCount_0f7a4 1 u_J6_bitCount_0f7a4 L_J6_bitCount_0f7a4 = true := by decide +kernel
theorem k_J6_bitCount_0f7a4 : q_chk RJ6 fl_J6 ld_J6 u_J6_bitCount_0f7a4 = true := by decide +kernel
def b_J9_max_7cf53_0 : List QE := [(.iload_n 0, 1, []), (.iload_n 1, 2, []), (.if_icmp .lt 7, 5, [(0, 9)])]
def b_J9_max_7cf53_5 : List QE := [(.iload_n 0, 6, []), (.goto 4, 9, [(0, 10)])]
def b_J9_max_7cf53_9 : List QE := [(.iload_n 1, 10, [])]
def b_J9_max_7cf53_10 : List QE := [(.ireturn, 11, [])]
def L_J9_max_7cf53 : List (Nat × Option (List QE)) := [(0, some b_J9_max_7cf53_0), (5, some b_J9_max_7cf53_5), (9, some b_J9_max_7cf53_9), (10, some b_J9_max_7cf53_10)]
def s_J9_max_7cf53 : Nat → Option (List QE) := q_look L_J9_max_7cf53
theorem s_J9_max_7cf53_0 : s_J9_max_7cf53 0 = some b_J9_max_7cf53_0 := id rfl
theorem s_J9_max_7cf53_5 : s_J9_max_7cf53 5 = some b_J9_max_7cf53_5 := id rfl
theorem s_J9_max_7cf53_9 : s_J9_max_7cf53 9 = some b_J9_max_7cf53_9 := id rfl
theorem s_J9_max_7cf53_10 : s_J9_max_7cf53 10 = some b_J9_max_7cf53_10 := id rfl
def u_J9_max_7cf53 : QU := ([], [], [], [], [], [], [])
theorem o_J9_max_7cf53 : q_skok cJ9_max_7cf53 2 u_J9_max_7cf53 L_J9_max_7cf53 = true := by decide +kernel
theorem k_J9_max_7cf53 : q_chk RJ9 fl_J9 ld_J9 u_J9_max_7cf53 = true := by decide +kernel
def b_J9_min_7cf53_0 : List QE := [(.iload_n 0, 1, []), (.iload_n 1, 2, []), (.if_icmp .gt 7, 5, [(0, 9)])]
def b_J9_min_7cf53_5 : List QE := [(.iload_n 0, 6, []), (.goto 4, 9, [(0, 10)])]
def b_J9_min_7cf53_9 : List QE := [(.iload_n 1, 10, [])]
def b_J9_min_7cf53_10 : List QE := [(.ireturn, 11, [])]
def L_J9_min_7cf53 : List (Nat × Option (List QE)) := [(0, some b_J9_min_7cf53_0), (5, some b_J9_min_7cf53_5), (9, some b_J9_min_7cf53_9), (10, some b_J9_min_7cf53_10)]
def s_J9_min_7cf53 : Nat → Option (List QE) := q_look L_J9_min_7cf53
theorem s_J9_min_7cf53_0 : s_J9_min_7cf53 0 = some b_J9_min_7cf53_0 := id rfl
theorem s_J9_min_7cf53_5 : s_J9_min_7cf53 5 = some b_J9_min_7cf53_5 := id rfl
theorem s_J9_min_7cf53_9 : s_J9_min_7cf53 9 = some b_J9_min_7cf53_9 := id rfl
theorem s_J9_min_7cf53_10 : s_J9_min_7cf53 10 = some b_J9_min_7cf53_10 := id rfl
def u_J9_min_7cf53 : QU := ([], [], [], [], [], [], [])
theorem o_J9_min_7cf53 : q_skok cJ9_min_7cf53 2 u_J9_min_7cf53 L_J9_min_7cf53 = true := by decide +kernel
theorem k_J9_min_7cf53 : q_chk RJ9 fl_J9 ld_J9 u_J9_min_7cf53 = true := by decide +kernel
def b_J7_fill_53178_0 : List QE := [(.iconst 0, 1, []), (.istore_n 2, 2, []), (.aload_n 0, 3, []), (.arraylength, 4, []), (.istore_n 3, 5, [])]
def b_J7_fill_53178_5 : List QE := [(.iload_n 2, 6, []), (.iload_n 3, 7, []), (.if_icmp .ge 13, 10, [(0, 20)])]
def b_J7_fill_53178_10 : List QE := [(.aload_n 0, 11, []), (.iload_n 2, 12, []), (.iload_n 1, 13, []), (.iastore, 14, []), (.iinc 2 1, 17, []), (.goto (-12), 20, [(0, 5)])]
def b_J7_fill_53178_20 : List QE := [(.return_, 21, [])]
def L_J7_fill_53178 : List (Nat × Option (List QE)) := [(0, some b_J7_fill_53178_0), (5, none), (10, some b_J7_fill_53178_10), (20, some b_J7_fill_53178_20)]
def s_J7_fill_53178 : Nat → Option (List QE) := q_look L_J7_fill_53178
theorem s_J7_fill_53178_0 : s_J7_fill_53178 0 = some b_J7_fill_53178_0 := id rfl
theorem s_J7_fill_53178_5 : s_J7_fill_53178 5 = none := id rfl
theorem s_J7_fill_53178_10 : s_J7_fill_53178 10 = some b_J7_fill_53178_10 := id rfl
theorem s_J7_fill_53178_20 : s_J7_fill_53178 20 = some b_J7_fill_53178_20 := id rfl
def u_J7_fill_53178 : QU := ([], [], [], [], [], [], [])
theorem o_J7_fill_53178 : q_skok cJ7_fill_53178 4 u_J7_fill_53178 L_J7_fill_53178 = true := by decide +kernel
theorem o_J7_fill_53178_5 : q_ok cJ7_fill_53178 4 u_J7_fill_53178 5 b_J7_fill_53178_5 = true := by decide +kernel
theorem k_J7_fill_53178 : q_chk RJ7 fl_J7 ld_J7 u_J7_fill_53178 = true := by decide +kernel
