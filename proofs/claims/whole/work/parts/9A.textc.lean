/-! contracts that stand on the texts -/
set_option maxRecDepth 100000 in
theorem C_X8_spelling {l : Launch} {ad : Int → Nat} {D : va_G} {cy : Nat → ClassId} {Z : State → Prop} (hZ : q_Zs ad Z) : q_Ct l q_T q_N ad D cy Z yX8_spelling cX8_spelling 1 (some (.object "java/lang/String")) rm_X8_spelling sp_X8_spelling := by
  obtain ⟨hf, hg, hld⟩ := q_chkS k_X8_spelling
  refine q_met (rk := 3) q_wokT (by decide) rfl hf hg hld ⟨_, rfl⟩ (q_skS L_X8_spelling o_X8_spelling) ?_ ?_ ?_ ?_ B_X8_spelling
  · intro i hi
    have hi : i = 86 ∨ i = 88 ∨ i = 90 ∨ i = 92 ∨ i = 94 ∨ i = 96 ∨ i = 98 ∨ i = 100 ∨ i = 102 ∨ i = 104 ∨ i = 106 ∨ i = 108 ∨ i = 110 ∨ i = 112 ∨ i = 114 ∨ i = 116 := by simpa [u_X8_spelling] using hi
    rcases hi with rfl | rfl | rfl | rfl | rfl | rfl | rfl | rfl | rfl | rfl | rfl | rfl | rfl | rfl | rfl | rfl
    · exact q_ldT (a := 1000) (tx := "sheet") hZ (by decide) (by decide)
    · exact q_ldT (a := 1001) (tx := "add") hZ (by decide) (by decide)
    · exact q_ldT (a := 1002) (tx := "less") hZ (by decide) (by decide)
    · exact q_ldT (a := 1003) (tx := "times") hZ (by decide) (by decide)
    · exact q_ldT (a := 1004) (tx := "least") hZ (by decide) (by decide)
    · exact q_ldT (a := 1005) (tx := "most") hZ (by decide) (by decide)
    · exact q_ldT (a := 1006) (tx := "where") hZ (by decide) (by decide)
    · exact q_ldT (a := 1007) (tx := "way") hZ (by decide) (by decide)
    · exact q_ldT (a := 1008) (tx := "if") hZ (by decide) (by decide)
    · exact q_ldT (a := 1009) (tx := "fill") hZ (by decide) (by decide)
    · exact q_ldT (a := 1010) (tx := "near") hZ (by decide) (by decide)
    · exact q_ldT (a := 1011) (tx := "zone") hZ (by decide) (by decide)
    · exact q_ldT (a := 1012) (tx := "flow") hZ (by decide) (by decide)
    · exact q_ldT (a := 1013) (tx := "sum") hZ (by decide) (by decide)
    · exact q_ldT (a := 1014) (tx := "count") hZ (by decide) (by decide)
    · exact q_ldT (a := 1015) (tx := "") hZ (by decide) (by decide)
  · intro i hi; exact absurd hi List.not_mem_nil
  · intro i hi; exact absurd hi List.not_mem_nil
  · intro i hi; exact absurd hi List.not_mem_nil
theorem cm_X8_spelling : Cond.code yX8_spelling cX8_spelling 1 (some (.object "java/lang/String")) ∈ q_tb := by decide +kernel
set_option maxRecDepth 100000 in
theorem C_X8_isSpelled {l : Launch} {ad : Int → Nat} {D : va_G} {cy : Nat → ClassId} {Z : State → Prop} (hZ : q_Zs ad Z) : q_Ct l q_T q_N ad D cy Z yX8_isSpelled cX8_isSpelled 5 (some .boolean) rm_X8_isSpelled sp_X8_isSpelled := by
  obtain ⟨hf, hg, hld⟩ := q_chkS k_X8_isSpelled
  refine q_met (rk := 1) q_wokT (by decide) rfl hf hg hld rfl (q_skS L_X8_isSpelled o_X8_isSpelled) ?_ ?_ ?_ ?_ B_X8_isSpelled
  · intro i hi; exact absurd hi List.not_mem_nil
  · intro i hi
    have hi : i = 78 ∨ i = 53 ∨ i = 83 := by simpa [u_X8_isSpelled] using hi
    rcases hi with rfl | rfl | rfl
    · exact q_crVs hZ (C_J0_length_8abf5 hZ) rfl (fun ra μ K h => by obtain ⟨_, rfl, w, rfl, hw, _⟩ := sp_J0_length_8abf5_i h; exact ⟨[], w, rfl, hw⟩) (by decide +kernel) (by decide +kernel) (by decide +kernel) (by decide +kernel) (by decide +kernel) (by decide +kernel) ⟨rfl, rfl⟩ (by decide)
    · exact q_crV hZ.1.1 (C_X7_byteAt hZ.1) rv_X7_byteAt cm_X7_byteAt (by decide +kernel) (by decide +kernel) (by decide +kernel) (by decide +kernel) (by decide +kernel) ⟨rfl, rfl⟩ (by decide)
    · exact q_crVs hZ (C_J0_charAt_5068e hZ) rfl (fun ra μ K h => by obtain ⟨_, _, rfl, w, k, rfl, hw, rfl, _, _⟩ := sp_J0_charAt_5068e_i h; exact ⟨[.inl (k : Int)], w, rfl, hw⟩) (by decide +kernel) (by decide +kernel) (by decide +kernel) (by decide +kernel) (by decide +kernel) (by decide +kernel) ⟨rfl, rfl⟩ (by decide)
  · intro i hi; exact absurd hi List.not_mem_nil
  · intro i hi; exact absurd hi List.not_mem_nil
theorem rv_X8_isSpelled : q_rcv q_T yX8_isSpelled.cls sp_X8_isSpelled := by
  intro ra μ K h
  obtain ⟨this, word, start, after, rfl, h⟩ := sp_X8_isSpelled_i h
  obtain rfl := h.1
  exact ⟨[.inl after, .inl start, .inr (.inr word)], 16, 8, _, _, rfl, T_16, rfl, rfl⟩
theorem cm_X8_isSpelled : Cond.code yX8_isSpelled cX8_isSpelled 5 (some .boolean) ∈ q_tb := by decide +kernel
set_option maxRecDepth 100000 in
theorem C_X8_holdLetters {l : Launch} {ad : Int → Nat} {D : va_G} {cy : Nat → ClassId} {Z : State → Prop} (hZ : q_Zs ad Z) : q_Ct l q_T q_N ad D cy Z yX8_holdLetters cX8_holdLetters 4 none rm_X8_holdLetters sp_X8_holdLetters := by
  obtain ⟨hf, hg, hld⟩ := q_chkS k_X8_holdLetters
  refine q_met (rk := 4) q_wokT (by decide) rfl hf hg hld rfl (q_skS L_X8_holdLetters o_X8_holdLetters) ?_ ?_ ?_ ?_ B_X8_holdLetters
  · intro i hi; exact absurd hi List.not_mem_nil
  · intro i hi
    have hi : i = 47 ∨ i = 53 ∨ i = 43 ∨ i = 67 := by simpa [u_X8_holdLetters] using hi
    rcases hi with rfl | rfl | rfl | rfl
    · exact q_crV hZ.1.1 (C_X7_isLetter hZ.1) rv_X7_isLetter cm_X7_isLetter (by decide +kernel) (by decide +kernel) (by decide +kernel) (by decide +kernel) (by decide +kernel) ⟨rfl, rfl⟩ (by decide)
    · exact q_crV hZ.1.1 (C_X7_byteAt hZ.1) rv_X7_byteAt cm_X7_byteAt (by decide +kernel) (by decide +kernel) (by decide +kernel) (by decide +kernel) (by decide +kernel) ⟨rfl, rfl⟩ (by decide)
    · exact q_crV hZ.1.1 (C_X8_hold hZ.1) rv_X8_hold cm_X8_hold (by decide +kernel) (by decide +kernel) (by decide +kernel) (by decide +kernel) (by decide +kernel) ⟨rfl, rfl⟩ (by decide)
    · exact q_crV hZ.1.1 (C_X8_isSpelled hZ) rv_X8_isSpelled cm_X8_isSpelled (by decide +kernel) (by decide +kernel) (by decide +kernel) (by decide +kernel) (by decide +kernel) ⟨rfl, rfl⟩ (by decide)
  · intro i hi
    have hi : i = 63 := by simpa [u_X8_holdLetters] using hi
    rcases hi with rfl
    · exact q_crS hZ.1.1 (C_X8_spelling hZ) cm_X8_spelling (by decide +kernel) (by decide +kernel) (by decide +kernel) (by decide +kernel) ⟨rfl, rfl⟩ (by decide)
  · intro i hi; exact absurd hi List.not_mem_nil
theorem rv_X8_holdLetters : q_rcv q_T yX8_holdLetters.cls sp_X8_holdLetters := by
  intro ra μ K h
  obtain ⟨this, start, rfl, h⟩ := sp_X8_holdLetters_i h
  obtain rfl := h.1
  exact ⟨[.inl start], 16, 8, _, _, rfl, T_16, rfl, rfl⟩
theorem cm_X8_holdLetters : Cond.code yX8_holdLetters cX8_holdLetters 4 none ∈ q_tb := by decide +kernel
set_option maxRecDepth 100000 in
theorem C_X8_holdAt {l : Launch} {ad : Int → Nat} {D : va_G} {cy : Nat → ClassId} {Z : State → Prop} (hZ : q_Zs ad Z) : q_Ct l q_T q_N ad D cy Z yX8_holdAt cX8_holdAt 2 none rm_X8_holdAt sp_X8_holdAt := by
  obtain ⟨hf, hg, hld⟩ := q_chkS k_X8_holdAt
  refine q_met (rk := 4) q_wokT (by decide) rfl hf hg hld rfl (q_skS L_X8_holdAt o_X8_holdAt) ?_ ?_ ?_ ?_ B_X8_holdAt
  · intro i hi; exact absurd hi List.not_mem_nil
  · intro i hi
    have hi : i = 47 ∨ i = 57 ∨ i = 50 ∨ i = 60 ∨ i = 53 ∨ i = 43 := by simpa [u_X8_holdAt] using hi
    rcases hi with rfl | rfl | rfl | rfl | rfl | rfl
    · exact q_crV hZ.1.1 (C_X7_isLetter hZ.1) rv_X7_isLetter cm_X7_isLetter (by decide +kernel) (by decide +kernel) (by decide +kernel) (by decide +kernel) (by decide +kernel) ⟨rfl, rfl⟩ (by decide)
    · exact q_crV hZ.1.1 (C_X8_holdLetters hZ) rv_X8_holdLetters cm_X8_holdLetters (by decide +kernel) (by decide +kernel) (by decide +kernel) (by decide +kernel) (by decide +kernel) ⟨rfl, rfl⟩ (by decide)
    · exact q_crV hZ.1.1 (C_X7_isDigit hZ.1) rv_X7_isDigit cm_X7_isDigit (by decide +kernel) (by decide +kernel) (by decide +kernel) (by decide +kernel) (by decide +kernel) ⟨rfl, rfl⟩ (by decide)
    · exact q_crV hZ.1.1 (C_X8_holdDigits hZ.1) rv_X8_holdDigits cm_X8_holdDigits (by decide +kernel) (by decide +kernel) (by decide +kernel) (by decide +kernel) (by decide +kernel) ⟨rfl, rfl⟩ (by decide)
    · exact q_crV hZ.1.1 (C_X7_byteAt hZ.1) rv_X7_byteAt cm_X7_byteAt (by decide +kernel) (by decide +kernel) (by decide +kernel) (by decide +kernel) (by decide +kernel) ⟨rfl, rfl⟩ (by decide)
    · exact q_crV hZ.1.1 (C_X8_hold hZ.1) rv_X8_hold cm_X8_hold (by decide +kernel) (by decide +kernel) (by decide +kernel) (by decide +kernel) (by decide +kernel) ⟨rfl, rfl⟩ (by decide)
  · intro i hi; exact absurd hi List.not_mem_nil
  · intro i hi; exact absurd hi List.not_mem_nil
theorem rv_X8_holdAt : q_rcv q_T yX8_holdAt.cls sp_X8_holdAt := by
  intro ra μ K h
  obtain ⟨this, start, rfl, h⟩ := sp_X8_holdAt_i h
  obtain rfl := h.1
  exact ⟨[.inl start], 16, 8, _, _, rfl, T_16, rfl, rfl⟩
theorem cm_X8_holdAt : Cond.code yX8_holdAt cX8_holdAt 2 none ∈ q_tb := by decide +kernel
set_option maxRecDepth 100000 in
theorem C_X8_cut {l : Launch} {ad : Int → Nat} {D : va_G} {cy : Nat → ClassId} {Z : State → Prop} (hZ : q_Zs ad Z) : q_Ct l q_T q_N ad D cy Z yX8_cut cX8_cut 2 none rm_X8_cut sp_X8_cut := by
  obtain ⟨hf, hg, hld⟩ := q_chkS k_X8_cut
  refine q_met (rk := 4) q_wokT (by decide) rfl hf hg hld rfl (q_skS L_X8_cut o_X8_cut) ?_ ?_ ?_ ?_ B_X8_cut
  · intro i hi; exact absurd hi List.not_mem_nil
  · intro i hi
    have hi : i = 35 ∨ i = 39 ∨ i = 43 := by simpa [u_X8_cut] using hi
    rcases hi with rfl | rfl | rfl
    · exact q_crV hZ.1.1 (C_X8_isStart hZ.1) rv_X8_isStart cm_X8_isStart (by decide +kernel) (by decide +kernel) (by decide +kernel) (by decide +kernel) (by decide +kernel) ⟨rfl, rfl⟩ (by decide)
    · exact q_crV hZ.1.1 (C_X8_holdAt hZ) rv_X8_holdAt cm_X8_holdAt (by decide +kernel) (by decide +kernel) (by decide +kernel) (by decide +kernel) (by decide +kernel) ⟨rfl, rfl⟩ (by decide)
    · exact q_crV hZ.1.1 (C_X8_hold hZ.1) rv_X8_hold cm_X8_hold (by decide +kernel) (by decide +kernel) (by decide +kernel) (by decide +kernel) (by decide +kernel) ⟨rfl, rfl⟩ (by decide)
  · intro i hi; exact absurd hi List.not_mem_nil
  · intro i hi; exact absurd hi List.not_mem_nil
theorem rv_X8_cut : q_rcv q_T yX8_cut.cls sp_X8_cut := by
  intro ra μ K h
  obtain ⟨this, rfl, h⟩ := sp_X8_cut_i h
  obtain rfl := h.1
  exact ⟨[], 16, 8, _, _, rfl, T_16, rfl, rfl⟩
theorem cm_X8_cut : Cond.code yX8_cut cX8_cut 2 none ∈ q_tb := by decide +kernel
set_option maxRecDepth 100000 in
theorem C_X3_read {l : Launch} {ad : Int → Nat} {D : va_G} {cy : Nat → ClassId} {Z : State → Prop} (hZ : q_Zs ad Z) : q_Ct l q_T q_N ad D cy Z yX3_read cX3_read 3 (some .int) rm_X3_read sp_X3_read := by
  obtain ⟨hf, hg, hld⟩ := q_chkS k_X3_read
  refine q_met (rk := 0) q_wokT (by decide) rfl hf hg hld rfl (q_skS L_X3_read o_X3_read) ?_ ?_ ?_ ?_ B_X3_read
  · intro i hi; exact absurd hi List.not_mem_nil
  · intro i hi
    have hi : i = 24 ∨ i = 29 ∨ i = 32 ∨ i = 36 ∨ i = 40 ∨ i = 43 := by simpa [u_X3_read] using hi
    rcases hi with rfl | rfl | rfl | rfl | rfl | rfl
    · exact q_crV hZ.1.1 (C_X2_clear hZ.1) rv_X2_clear cm_X2_clear (by decide +kernel) (by decide +kernel) (by decide +kernel) (by decide +kernel) (by decide +kernel) ⟨rfl, rfl⟩ (by decide)
    · exact q_crV hZ.1.1 (C_X8_cut hZ) rv_X8_cut cm_X8_cut (by decide +kernel) (by decide +kernel) (by decide +kernel) (by decide +kernel) (by decide +kernel) ⟨rfl, rfl⟩ (by decide)
    · exact q_crV hZ.1.1 (C_X3_readBoard hZ.1) rv_X3_readBoard cm_X3_readBoard (by decide +kernel) (by decide +kernel) (by decide +kernel) (by decide +kernel) (by decide +kernel) ⟨rfl, rfl⟩ (by decide)
    · exact q_crV hZ.1.1 (C_X8_place hZ.1) rv_X8_place cm_X8_place (by decide +kernel) (by decide +kernel) (by decide +kernel) (by decide +kernel) (by decide +kernel) ⟨rfl, rfl⟩ (by decide)
    · exact q_crV hZ.1.1 (C_X8_isEnd hZ.1) rv_X8_isEnd cm_X8_isEnd (by decide +kernel) (by decide +kernel) (by decide +kernel) (by decide +kernel) (by decide +kernel) ⟨rfl, rfl⟩ (by decide)
    · exact q_crV hZ.1.1 (C_X8_pass hZ.1) rv_X8_pass cm_X8_pass (by decide +kernel) (by decide +kernel) (by decide +kernel) (by decide +kernel) (by decide +kernel) ⟨rfl, rfl⟩ (by decide)
  · intro i hi; exact absurd hi List.not_mem_nil
  · intro i hi; exact absurd hi List.not_mem_nil
theorem rv_X3_read : q_rcv q_T yX3_read.cls sp_X3_read := by
  intro ra μ K h
  obtain ⟨this, into, rfl, h⟩ := sp_X3_read_i h
  obtain rfl := h.1
  exact ⟨[.inr (.inr into)], 15, 3, _, _, rfl, T_15, rfl, rfl⟩
theorem cm_X3_read : Cond.code yX3_read cX3_read 3 (some .int) ∈ q_tb := by decide +kernel
set_option maxRecDepth 100000 in
theorem C_X10_boards {l : Launch} {ad : Int → Nat} {D : va_G} {cy : Nat → ClassId} {Z : State → Prop} (hZ : q_Zs ad Z) : q_Ct l q_T q_N ad D cy Z yX10_boards cX10_boards 2 (some .int) rm_X10_boards sp_X10_boards := by
  obtain ⟨hf, hg, hld⟩ := q_chkS k_X10_boards
  refine q_met (rk := 0) q_wokT (by decide) rfl hf hg hld rfl (q_skS L_X10_boards o_X10_boards) ?_ ?_ ?_ ?_ B_X10_boards
  · intro i hi; exact absurd hi List.not_mem_nil
  · intro i hi
    have hi : i = 117 ∨ i = 69 ∨ i = 121 ∨ i = 81 := by simpa [u_X10_boards] using hi
    rcases hi with rfl | rfl | rfl | rfl
    · exact q_crV hZ.1.1 (C_X3_read hZ) rv_X3_read cm_X3_read (by decide +kernel) (by decide +kernel) (by decide +kernel) (by decide +kernel) (by decide +kernel) ⟨rfl, rfl⟩ (by decide)
    · exact q_crV hZ.1.1 (C_X10_refuse hZ.1) rv_X10_refuse cm_X10_refuse (by decide +kernel) (by decide +kernel) (by decide +kernel) (by decide +kernel) (by decide +kernel) ⟨rfl, rfl⟩ (by decide)
    · exact q_crV hZ.1.1 (C_X9_follow hZ.1) rv_X9_follow cm_X9_follow (by decide +kernel) (by decide +kernel) (by decide +kernel) (by decide +kernel) (by decide +kernel) ⟨rfl, rfl⟩ (by decide)
    · exact q_crV hZ.1.1 (C_X10_accept hZ.1) rv_X10_accept cm_X10_accept (by decide +kernel) (by decide +kernel) (by decide +kernel) (by decide +kernel) (by decide +kernel) ⟨rfl, rfl⟩ (by decide)
  · intro i hi; exact absurd hi List.not_mem_nil
  · intro i hi; exact absurd hi List.not_mem_nil
theorem rv_X10_boards : q_rcv q_T yX10_boards.cls sp_X10_boards := by
  intro ra μ K h
  obtain ⟨this, rfl, h⟩ := sp_X10_boards_i h
  obtain rfl := h.1
  exact ⟨[], 0, 10, _, _, rfl, T_0, rfl, rfl⟩
theorem cm_X10_boards : Cond.code yX10_boards cX10_boards 2 (some .int) ∈ q_tb := by decide +kernel

