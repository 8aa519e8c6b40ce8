/-! texts: String.length, String.charAt, ldc -/
def q_txt : List (Nat × String × Int) := [(86, "sheet", 1000), (88, "add", 1001), (90, "less", 1002), (92, "times", 1003), (94, "least", 1004), (96, "most", 1005), (98, "where", 1006), (100, "way", 1007), (102, "if", 1008), (104, "fill", 1009), (106, "near", 1010), (108, "zone", 1011), (110, "flow", 1012), (112, "sum", 1013), (114, "count", 1014), (116, "", 1015)]
def c_lns : List Nat := [5, 3, 4, 5, 5, 4, 5, 3, 2, 4, 4, 4, 4, 3, 5]
def c_byt : List (List Int32) := [[115, 104, 101, 101, 116], [97, 100, 100], [108, 101, 115, 115], [116, 105, 109, 101, 115], [108, 101, 97, 115, 116], [109, 111, 115, 116], [119, 104, 101, 114, 101], [119, 97, 121], [105, 102], [102, 105, 108, 108], [110, 101, 97, 114], [122, 111, 110, 101], [102, 108, 111, 119], [115, 117, 109], [99, 111, 117, 110, 116]]
/-- what is known of the texts, and that it lasts -/
def q_Zs (ad : Int → Nat) (Z : State → Prop) : Prop := q_Zg ad Z ∧ ∀ s : State, Z s → (∀ q ∈ q_txt, vk_R RX8 q.1 q.2.1 (ad q.2.2) s) ∧ vk_S 15 c_lns c_byt (fun i => ad (1000 + (i : Int))) (fun i => ad (2000 + (i : Int))) (q_A q_N ad) s s.heap ∧ va_Z "java/lang/String" "COMPACT_STRINGS" "Z" (.int 1) (q_A q_N ad) s s.heap ∧ ∃ f : Int, va_Z "jdk/internal/util/Preconditions" "SIOOBE_FORMATTER" "Ljava/util/function/BiFunction;" (q_cv ad (.inr (.inr f))) (q_A q_N ad) s s.heap
theorem q_ldT {l : Launch} {ad : Int → Nat} {D : va_G} {cy : Nat → ClassId} {Z : State → Prop} (hZ : q_Zs ad Z) {cc : ByteArray} {nL : Nat} {rm : Room} {i : Nat} {a : Int} {tx : String} (h0 : 0 ≤ a) (hq : (i, tx, a) ∈ q_txt) : q_LR l q_T q_N ad D cy Z RX8 cc nL rm (.inr (.inr a)) i := by
  intro Rt p e s m args below meth c F hml hz pc ls st μ hd K hn H locs la hP hD hS hl
  have K := K hn H locs la hP hD hS hl
  rw [List.map_cons, q_refv h0] at K
  exact va_ldcS F.1 F.2.1 F.2.2.1 ((hZ.2 s hz).1 _ hq) hd K
/-- a call upon a text -/
theorem q_crVs {l : Launch} {ad : Int → Nat} {D : va_G} {cy : Nat → ClassId} {Z : State → Prop} (hZ : q_Zs ad Z) {y : MethodName} {own : String} {cc bytes : ByteArray} {nL maxL i n : Nat} {ret : Option FieldType} {R rm : Room} {sp : QP} (hC : q_Ct l q_T q_N ad D cy Z y bytes maxL ret rm sp) (hcls : y.cls = "java/lang/String") (hrc : ∀ (ra : List QV) (μ : QM) (K : Option QV → QM → Prop), sp ra μ K → ∃ (rA : List QV) (w : Nat), ra = rA ++ [.inr (.inr (1000 + (w : Int)))] ∧ w < 15) (hm : Cond.code y bytes maxL ret ∈ q_tb) (h1 : Cond.methodLink own i y ∈ q_tb) (h2 : Cond.instanceMethod y ∈ q_tb) (h4 : Cond.selects y.cls y y ∈ q_tb) (h3 : Cond.initialized y.cls ∈ q_tb)
    (hd : y.cls ≠ "java/lang/invoke/MethodHandle" ∧ y.cls ≠ "java/lang/invoke/VarHandle" ∧ (parseMethodDescriptor y.desc).map (fun d => d.parameters.length) = some n) (hc : rm.cells = 0 ∧ rm.slots = 0) (hR : rm.frames + 1 ≤ R.frames ∧ 8 + (maxL + 11) + rm.locals ≤ R.locals) : q_CR l q_T q_N ad D cy Z own cc nL R (n + 1, sp) (.invokevirtual i) := by
  intro Rt p e s m args below meth c F hml hz pc ls st μ K hdg hlen hcat hsp hk hn H locs la hP hD hS hl
  have hts := F.2.2.2.1
  have hM := hC (st.take (n + 1)) μ K hsp
  obtain ⟨rA, w, e1, hw⟩ := hrc _ _ _ hsp
  have cw := callB_of (R := R) (own := own) (index := i) (mc := 0) (ms := 0) n hts (q_goodW hm) rfl hc.1 hc.2 (hts _ h3) (hts _ h1) hd hR
  have h0 : 0 ≤ 1000 + (w : Int) := by omega
  have hrev : (st.take (n + 1)).reverse.map (q_cv ad) = .ref (ad (1000 + (w : Int))) :: rA.reverse.map (q_cv ad) := by rw [e1, List.reverse_append, List.reverse_singleton, List.singleton_append, List.map_cons, q_refv h0]
  have hlA : rA.length = n := by
    have := congrArg List.length e1
    rw [List.length_take, List.length_append, List.length_singleton] at this
    omega
  have hp : PreV s H y.cls (ad (1000 + (w : Int))) (q_Pc q_T q_N ad D cy Z (st.take (n + 1)) μ) (rA.reverse.map (q_cv ad)) := ⟨q_blind hZ.1.1, by rw [hcls]; exact vk_recv (hZ.2 s hz).2.1 hw hS, fun U hU hW => by rw [← hrev]; exact q_pre hZ.1.1 F hz hP hD hS U hU hW⟩
  exact q_back (va_runV (rest := (st.drop (n + 1)).map (q_cv ad)) ⟨F.1, F.2.1, hml, F.2.2.1, hts⟩ hM ⟨cw, hts _ h2, hts _ h4⟩ hp rfl (by rw [List.length_map, List.length_reverse]; exact hlA) hl.1 (by
    show st.map (q_cv ad) = _
    rw [q_split (n := n + 1), e1, ← List.map_reverse, List.reverse_reverse, List.map_append, List.map_singleton, q_refv h0, List.append_assoc]
    rfl) (q_roomS hcat) hdg ⟨Nat.zero_le _, Nat.zero_le _⟩) hn hD hS hl hk
theorem dt_prc_0 : decode cJ3_checkIndex_8e157 0 = .ok (.iload_n 0, 1) := by decide +kernel
theorem dt_prc_1 : decode cJ3_checkIndex_8e157 1 = .ok (.ifCond .lt 8, 3) := by decide +kernel
theorem dt_prc_4 : decode cJ3_checkIndex_8e157 4 = .ok (.iload_n 0, 1) := by decide +kernel
theorem dt_prc_5 : decode cJ3_checkIndex_8e157 5 = .ok (.iload_n 1, 1) := by decide +kernel
theorem dt_prc_6 : decode cJ3_checkIndex_8e157 6 = .ok (.if_icmp .lt 10, 3) := by decide +kernel
theorem dt_prc_16 : decode cJ3_checkIndex_8e157 16 = .ok (.iload_n 0, 1) := by decide +kernel
theorem dt_prc_17 : decode cJ3_checkIndex_8e157 17 = .ok (.ireturn, 1) := by decide +kernel
theorem dt_chk_0 : decode cJ0_checkIndex_df160 0 = .ok (.iload_n 0, 1) := by decide +kernel
theorem dt_chk_1 : decode cJ0_checkIndex_df160 1 = .ok (.iload_n 1, 1) := by decide +kernel
theorem dt_chk_2 : decode cJ0_checkIndex_df160 2 = .ok (.getstatic 1053, 3) := by decide +kernel
theorem dt_chk_5 : decode cJ0_checkIndex_df160 5 = .ok (.invokestatic 1059, 3) := by decide +kernel
theorem dt_chk_8 : decode cJ0_checkIndex_df160 8 = .ok (.pop, 1) := by decide +kernel
theorem dt_chk_9 : decode cJ0_checkIndex_df160 9 = .ok (.return_, 1) := by decide +kernel
theorem dt_cod_0 : decode cJ0_coder_7d493 0 = .ok (.getstatic 38, 3) := by decide +kernel
theorem dt_cod_3 : decode cJ0_coder_7d493 3 = .ok (.ifCond .eq 10, 3) := by decide +kernel
theorem dt_cod_6 : decode cJ0_coder_7d493 6 = .ok (.aload_n 0, 1) := by decide +kernel
theorem dt_cod_7 : decode cJ0_coder_7d493 7 = .ok (.getfield 15, 3) := by decide +kernel
theorem dt_cod_10 : decode cJ0_coder_7d493 10 = .ok (.goto 4, 3) := by decide +kernel
theorem dt_cod_13 : decode cJ0_coder_7d493 13 = .ok (.iconst 1, 1) := by decide +kernel
theorem dt_cod_14 : decode cJ0_coder_7d493 14 = .ok (.ireturn, 1) := by decide +kernel
theorem dt_lat_0 : decode cJ0_isLatin1_aae02 0 = .ok (.getstatic 38, 3) := by decide +kernel
theorem dt_lat_3 : decode cJ0_isLatin1_aae02 3 = .ok (.ifCond .eq 14, 3) := by decide +kernel
theorem dt_lat_6 : decode cJ0_isLatin1_aae02 6 = .ok (.aload_n 0, 1) := by decide +kernel
theorem dt_lat_7 : decode cJ0_isLatin1_aae02 7 = .ok (.getfield 15, 3) := by decide +kernel
theorem dt_lat_10 : decode cJ0_isLatin1_aae02 10 = .ok (.ifCond .ne 7, 3) := by decide +kernel
theorem dt_lat_13 : decode cJ0_isLatin1_aae02 13 = .ok (.iconst 1, 1) := by decide +kernel
theorem dt_lat_14 : decode cJ0_isLatin1_aae02 14 = .ok (.goto 4, 3) := by decide +kernel
theorem dt_lat_17 : decode cJ0_isLatin1_aae02 17 = .ok (.iconst 0, 1) := by decide +kernel
theorem dt_lat_18 : decode cJ0_isLatin1_aae02 18 = .ok (.ireturn, 1) := by decide +kernel
theorem dt_la1_0 : decode cJ1_charAt_3b067 0 = .ok (.iload_n 1, 1) := by decide +kernel
theorem dt_la1_1 : decode cJ1_charAt_3b067 1 = .ok (.aload_n 0, 1) := by decide +kernel
theorem dt_la1_2 : decode cJ1_charAt_3b067 2 = .ok (.arraylength, 1) := by decide +kernel
theorem dt_la1_3 : decode cJ1_charAt_3b067 3 = .ok (.invokestatic 9, 3) := by decide +kernel
theorem dt_la1_6 : decode cJ1_charAt_3b067 6 = .ok (.aload_n 0, 1) := by decide +kernel
theorem dt_la1_7 : decode cJ1_charAt_3b067 7 = .ok (.iload_n 1, 1) := by decide +kernel
theorem dt_la1_8 : decode cJ1_charAt_3b067 8 = .ok (.baload, 1) := by decide +kernel
theorem dt_la1_9 : decode cJ1_charAt_3b067 9 = .ok (.sipush 255, 3) := by decide +kernel
theorem dt_la1_12 : decode cJ1_charAt_3b067 12 = .ok (.iand, 1) := by decide +kernel
theorem dt_la1_13 : decode cJ1_charAt_3b067 13 = .ok (.i2c, 1) := by decide +kernel
theorem dt_la1_14 : decode cJ1_charAt_3b067 14 = .ok (.ireturn, 1) := by decide +kernel
theorem dt_len_0 : decode cJ0_length_8abf5 0 = .ok (.aload_n 0, 1) := by decide +kernel
theorem dt_len_1 : decode cJ0_length_8abf5 1 = .ok (.getfield 9, 3) := by decide +kernel
theorem dt_len_4 : decode cJ0_length_8abf5 4 = .ok (.arraylength, 1) := by decide +kernel
theorem dt_len_5 : decode cJ0_length_8abf5 5 = .ok (.aload_n 0, 1) := by decide +kernel
theorem dt_len_6 : decode cJ0_length_8abf5 6 = .ok (.invokevirtual 335, 3) := by decide +kernel
theorem dt_len_9 : decode cJ0_length_8abf5 9 = .ok (.ishr, 1) := by decide +kernel
theorem dt_len_10 : decode cJ0_length_8abf5 10 = .ok (.ireturn, 1) := by decide +kernel
theorem dt_cha_0 : decode cJ0_charAt_5068e 0 = .ok (.aload_n 0, 1) := by decide +kernel
theorem dt_cha_1 : decode cJ0_charAt_5068e 1 = .ok (.invokevirtual 492, 3) := by decide +kernel
theorem dt_cha_4 : decode cJ0_charAt_5068e 4 = .ok (.ifCond .eq 12, 3) := by decide +kernel
theorem dt_cha_7 : decode cJ0_charAt_5068e 7 = .ok (.aload_n 0, 1) := by decide +kernel
theorem dt_cha_8 : decode cJ0_charAt_5068e 8 = .ok (.getfield 9, 3) := by decide +kernel
theorem dt_cha_11 : decode cJ0_charAt_5068e 11 = .ok (.iload_n 1, 1) := by decide +kernel
theorem dt_cha_12 : decode cJ0_charAt_5068e 12 = .ok (.invokestatic 495, 3) := by decide +kernel
theorem dt_cha_15 : decode cJ0_charAt_5068e 15 = .ok (.ireturn, 1) := by decide +kernel
theorem dt_cha_16 : decode cJ0_charAt_5068e 16 = .ok (.aload_n 0, 1) := by decide +kernel
theorem dt_cha_17 : decode cJ0_charAt_5068e 17 = .ok (.getfield 9, 3) := by decide +kernel
theorem dt_cha_20 : decode cJ0_charAt_5068e 20 = .ok (.iload_n 1, 1) := by decide +kernel
theorem dt_cha_21 : decode cJ0_charAt_5068e 21 = .ok (.invokestatic 498, 3) := by decide +kernel
theorem dt_cha_24 : decode cJ0_charAt_5068e 24 = .ok (.ireturn, 1) := by decide +kernel
def sp_J3_checkIndex_8e157 : QP := fun ra μ K => match ra with
  | [.inr (.inr f), .inl n, .inl k] => (0 ≤ k ∧ k < n ∧ n ≤ 1000) ∧ K (some (.inl k)) μ
  | _ => False
theorem sp_J3_checkIndex_8e157_e (k n f : Int) (μ : QM) (K : Option QV → QM → Prop) : sp_J3_checkIndex_8e157 [.inr (.inr f), .inl n, .inl k] μ K = ((0 ≤ k ∧ k < n ∧ n ≤ 1000) ∧ K (some (.inl k)) μ) := propext Iff.rfl
theorem sp_J3_checkIndex_8e157_i {ra : List QV} {μ : QM} {K : Option QV → QM → Prop} (h : sp_J3_checkIndex_8e157 ra μ K) : ∃ k n f : Int, ra = [.inr (.inr f), .inl n, .inl k] ∧ ((0 ≤ k ∧ k < n ∧ n ≤ 1000) ∧ K (some (.inl k)) μ) := by
  unfold sp_J3_checkIndex_8e157 at h
  split at h
  · exact ⟨_, _, _, rfl, h⟩
  · exact h.elim
def sp_J0_checkIndex_df160 : QP := fun ra μ K => match ra with
  | [.inl n, .inl k] => (0 ≤ k ∧ k < n ∧ n ≤ 1000) ∧ K none μ
  | _ => False
theorem sp_J0_checkIndex_df160_e (k n : Int) (μ : QM) (K : Option QV → QM → Prop) : sp_J0_checkIndex_df160 [.inl n, .inl k] μ K = ((0 ≤ k ∧ k < n ∧ n ≤ 1000) ∧ K none μ) := propext Iff.rfl
theorem sp_J0_checkIndex_df160_i {ra : List QV} {μ : QM} {K : Option QV → QM → Prop} (h : sp_J0_checkIndex_df160 ra μ K) : ∃ k n : Int, ra = [.inl n, .inl k] ∧ ((0 ≤ k ∧ k < n ∧ n ≤ 1000) ∧ K none μ) := by
  unfold sp_J0_checkIndex_df160 at h
  split at h
  · exact ⟨_, _, rfl, h⟩
  · exact h.elim
def sp_J0_coder_7d493 : QP := fun ra μ K => match ra with
  | [.inr (.inr this)] => ∃ w : Nat, this = 1000 + (w : Int) ∧ w < 15 ∧ K (some (.inl 0)) μ
  | _ => False
theorem sp_J0_coder_7d493_e (this : Int) (μ : QM) (K : Option QV → QM → Prop) : sp_J0_coder_7d493 [.inr (.inr this)] μ K = (∃ w : Nat, this = 1000 + (w : Int) ∧ w < 15 ∧ K (some (.inl 0)) μ) := propext Iff.rfl
theorem sp_J0_coder_7d493_i {ra : List QV} {μ : QM} {K : Option QV → QM → Prop} (h : sp_J0_coder_7d493 ra μ K) : ∃ this : Int, ra = [.inr (.inr this)] ∧ (∃ w : Nat, this = 1000 + (w : Int) ∧ w < 15 ∧ K (some (.inl 0)) μ) := by
  unfold sp_J0_coder_7d493 at h
  split at h
  · exact ⟨_, rfl, h⟩
  · exact h.elim
def sp_J0_isLatin1_aae02 : QP := fun ra μ K => match ra with
  | [.inr (.inr this)] => ∃ w : Nat, this = 1000 + (w : Int) ∧ w < 15 ∧ K (some (.inl 1)) μ
  | _ => False
theorem sp_J0_isLatin1_aae02_e (this : Int) (μ : QM) (K : Option QV → QM → Prop) : sp_J0_isLatin1_aae02 [.inr (.inr this)] μ K = (∃ w : Nat, this = 1000 + (w : Int) ∧ w < 15 ∧ K (some (.inl 1)) μ) := propext Iff.rfl
theorem sp_J0_isLatin1_aae02_i {ra : List QV} {μ : QM} {K : Option QV → QM → Prop} (h : sp_J0_isLatin1_aae02 ra μ K) : ∃ this : Int, ra = [.inr (.inr this)] ∧ (∃ w : Nat, this = 1000 + (w : Int) ∧ w < 15 ∧ K (some (.inl 1)) μ) := by
  unfold sp_J0_isLatin1_aae02 at h
  split at h
  · exact ⟨_, rfl, h⟩
  · exact h.elim
def sp_J1_charAt_3b067 : QP := fun ra μ K => match ra with
  | [.inl i, .inr (.inr a)] => ∃ w k : Nat, a = 2000 + (w : Int) ∧ w < 15 ∧ i = (k : Int) ∧ k < (c_ws.getD w []).length ∧ K (some (.inl (c_ch w k))) μ
  | _ => False
theorem sp_J1_charAt_3b067_e (a i : Int) (μ : QM) (K : Option QV → QM → Prop) : sp_J1_charAt_3b067 [.inl i, .inr (.inr a)] μ K = (∃ w k : Nat, a = 2000 + (w : Int) ∧ w < 15 ∧ i = (k : Int) ∧ k < (c_ws.getD w []).length ∧ K (some (.inl (c_ch w k))) μ) := propext Iff.rfl
theorem sp_J1_charAt_3b067_i {ra : List QV} {μ : QM} {K : Option QV → QM → Prop} (h : sp_J1_charAt_3b067 ra μ K) : ∃ a i : Int, ra = [.inl i, .inr (.inr a)] ∧ (∃ w k : Nat, a = 2000 + (w : Int) ∧ w < 15 ∧ i = (k : Int) ∧ k < (c_ws.getD w []).length ∧ K (some (.inl (c_ch w k))) μ) := by
  unfold sp_J1_charAt_3b067 at h
  split at h
  · exact ⟨_, _, rfl, h⟩
  · exact h.elim
def rm_t0 : Room := { frames := 0, cells := 0, slots := 0, locals := 0 }
def rm_t1 : Room := { frames := 1, cells := 0, slots := 0, locals := 22 }
def rm_t2 : Room := { frames := 2, cells := 0, slots := 0, locals := 43 }
def rm_t3 : Room := { frames := 3, cells := 0, slots := 0, locals := 64 }
theorem tx_len : ∀ w : Nat, w < 15 → Int32.ofNat (c_lns.getD w 0) = Int32.ofInt (c_len w) := by decide +kernel
theorem tx_shr : ∀ w : Nat, w < 15 → (Int32.ofInt (c_len w) >>> (Int32.ofInt 0 &&& 31)) = Int32.ofInt (c_len w) := by decide +kernel
theorem tx_ln : ∀ w : Nat, w < 15 → c_lns.getD w 0 = (c_ws.getD w []).length ∧ c_lns.getD w 0 ≤ 5 := by decide +kernel
theorem tx_ch : ∀ w : Nat, w < 15 → ∀ k : Nat, k < 5 → (((((c_byt.getD w []).getD k 0) &&& 255).toUInt32 % 65536).toInt32 = Int32.ofInt (c_ch w k)) ∧ (0 ≤ c_ch w k ∧ c_ch w k < 65536) := by decide +kernel
theorem tx_neg : ∀ k : Nat, k < 5 → ¬ (Int32.ofInt (k : Int) < 0) := by decide +kernel
theorem tx_lt : ∀ n : Nat, n ≤ 5 → ∀ k : Nat, k < n → Int32.ofInt (k : Int) < Int32.ofNat n := by decide +kernel
section TX
variable {l : Launch} {ad : Int → Nat} {D : va_G} {cy : Nat → ClassId} {Z : State → Prop}
theorem C_J3_checkIndex_8e157 (hZ : q_Zs ad Z) : q_Ct l q_T q_N ad D cy Z yJ3_checkIndex_8e157 cJ3_checkIndex_8e157 3 (some .int) rm_t0 sp_J3_checkIndex_8e157 := by
  intro ra μ K hsp
  obtain ⟨k, n, f, rfl, hb9, hk⟩ := sp_J3_checkIndex_8e157_i hsp
  refine Met.ofW (cc := cJ3_checkIndex_8e157) (maxL := 3) (ret := (some .int)) (by decide) rfl ?_
  intro p e s m args below meth c s₁ B hml hv
  obtain ⟨rfl, hP0, hK, hD0, hz⟩ := hv
  have hx := B.exec
  have hb := B.bytes
  have hr := B.returns
  have hts0 := atoms_spec (ws := .code yJ3_checkIndex_8e157 cJ3_checkIndex_8e157 3 (some .int) :: q_tb) B.pre
  have hts : ∀ w ∈ q_tb, w.before _ s = true := fun w h => hts0 w (List.mem_cons_of_mem _ h)
  have hown : s.vm.findClass "jdk/internal/util/Preconditions" = some m.cls := findClass_of_methodNamed B.named
  have F : q_Fix p s m ((([.inr (.inr f), .inl n, .inl k] : List QV).reverse.map (q_cv ad)).toArray) meth c q_T q_N D cy "jdk/internal/util/Preconditions" cJ3_checkIndex_8e157 := ⟨hx, hb, hown, hts, hK, B.notSynchronized, q_wokT.1, q_wokT.2.1, q_wokT.2.2⟩
  obtain ⟨-, hE, hC, f9, hF9⟩ := hZ.2 s hz
  have key : q_SB l q_T q_N ad D cy K p e rm_t0 s m ((([.inr (.inr f), .inl n, .inl k] : List QV).reverse.map (q_cv ad)).toArray) below meth c 3 0 [some (.inl k), some (.inl n), some (.inr (.inr f))] [] μ := by
    intro hn H locs la hP hD hS hl
    have a0 := q_get hl (i := 0) (v := .inl k) rfl
    have a1 := q_get hl (i := 1) (v := .inl n) rfl
    refine lv_iload_n hx hb dt_prc_0 rfl a0 ?_
    refine lv_if_lt hx hb dt_prc_1 (tgt := 9) (by decide) (fun c9 => absurd ((q_lt0 (by omega)).mp c9) (by omega)) (fun _ => ?_)
    refine lv_iload_n hx hb dt_prc_4 rfl a0 ?_
    refine lv_iload_n hx hb dt_prc_5 rfl a1 ?_
    refine lv_icmp_lt hx hb dt_prc_6 (tgt := 16) (by decide) (fun _ => ?_) (fun c9 => absurd ((q_lt (by omega) (by omega)).mpr hb9.2.1) c9)
    refine lv_iload_n hx hb dt_prc_16 rfl a0 ?_
    exact W.iret hx hb hr (fun t ht hW => ⟨⟨some (.inl k), μ, rfl, hk, by rw [ht]; exact hP⟩, hS.F ht⟩) hS.2.2 dt_prc_17
  rw [lg_entry_eq]
  exact key rfl s.heap [] _ hP0 hD0 va_S.rf (q_slS ad (ra := [.inr (.inr f), .inl n, .inl k]) (by simp [q_sl, q_ct]))
theorem C_J0_checkIndex_df160 (hZ : q_Zs ad Z) : q_Ct l q_T q_N ad D cy Z yJ0_checkIndex_df160 cJ0_checkIndex_df160 2 none rm_t1 sp_J0_checkIndex_df160 := by
  intro ra μ K hsp
  obtain ⟨k, n, rfl, hb9, hk⟩ := sp_J0_checkIndex_df160_i hsp
  refine Met.ofW (cc := cJ0_checkIndex_df160) (maxL := 2) (ret := none) (by decide) rfl ?_
  intro p e s m args below meth c s₁ B hml hv
  obtain ⟨rfl, hP0, hK, hD0, hz⟩ := hv
  have hx := B.exec
  have hb := B.bytes
  have hr := B.returns
  have hts0 := atoms_spec (ws := .code yJ0_checkIndex_df160 cJ0_checkIndex_df160 2 none :: q_tb) B.pre
  have hts : ∀ w ∈ q_tb, w.before _ s = true := fun w h => hts0 w (List.mem_cons_of_mem _ h)
  have hown : s.vm.findClass "java/lang/String" = some m.cls := findClass_of_methodNamed B.named
  have F : q_Fix p s m ((([.inl n, .inl k] : List QV).reverse.map (q_cv ad)).toArray) meth c q_T q_N D cy "java/lang/String" cJ0_checkIndex_df160 := ⟨hx, hb, hown, hts, hK, B.notSynchronized, q_wokT.1, q_wokT.2.1, q_wokT.2.2⟩
  obtain ⟨-, hE, hC, f9, hF9⟩ := hZ.2 s hz
  have key : q_SB l q_T q_N ad D cy K p e rm_t1 s m ((([.inl n, .inl k] : List QV).reverse.map (q_cv ad)).toArray) below meth c 2 0 [some (.inl k), some (.inl n)] [] μ := by
    intro hn H locs la hP hD hS hl
    have a0 := q_get hl (i := 0) (v := .inl k) rfl
    have a1 := q_get hl (i := 1) (v := .inl n) rfl
    refine lv_iload_n hx hb dt_chk_0 rfl a0 ?_
    refine lv_iload_n hx hb dt_chk_1 rfl a1 ?_
    refine va_gets hx hb hF9 hS hown (hts (.fieldLink "java/lang/String" 1053 "jdk/internal/util/Preconditions" "SIOOBE_FORMATTER" "Ljava/util/function/BiFunction;") (by decide +kernel)) (fun _ h => h) dt_chk_2 ?_
    have G9 := q_crS (l := l) (T := q_T) (N := q_N) (ad := ad) (D := D) (cy := cy) (Z := Z) hZ.1.1 (own := "java/lang/String") (cc := cJ0_checkIndex_df160) (nL := 2) (i := 1059) (n := 3) (R := rm_t1) (C_J3_checkIndex_8e157 hZ) (by decide +kernel) (by decide +kernel) (by decide +kernel) (by decide +kernel) (by decide +kernel) ⟨rfl, rfl⟩ (by decide)
    exact G9 K p e s m _ below meth c F hml hz 5 [some (.inl k), some (.inl n)] [.inr (.inr f9), .inl n, .inl k] μ (fun o μ2 => o = some (.inl k) ∧ μ2 = μ) dt_chk_5 (by simp) (by simp [q_cats, q_ct]) (by simp only [List.take, Nat.zero_add, sp_J3_checkIndex_8e157_e]; exact ⟨hb9, trivial, trivial⟩) (fun o μ2 h => by
      obtain ⟨rfl, rfl⟩ := h
      intro hn H locs la hP hD hS hl
      refine lv_pop hx hb dt_chk_8 rfl ?_
      exact W.vret hx hb hr (fun t ht hW => ⟨⟨none, μ2, rfl, hk, by rw [ht]; exact hP⟩, hS.F ht⟩) hS.2.2 dt_chk_9) rfl H locs la hP hD hS hl
  rw [lg_entry_eq]
  exact key rfl s.heap [] _ hP0 hD0 va_S.rf (q_slS ad (ra := [.inl n, .inl k]) (by simp [q_sl, q_ct]))
theorem C_J0_coder_7d493 (hZ : q_Zs ad Z) : q_Ct l q_T q_N ad D cy Z yJ0_coder_7d493 cJ0_coder_7d493 1 (some .byte) rm_t0 sp_J0_coder_7d493 := by
  intro ra μ K hsp
  obtain ⟨this, rfl, w, rfl, hw, hk⟩ := sp_J0_coder_7d493_i hsp
  refine Met.ofW (cc := cJ0_coder_7d493) (maxL := 1) (ret := (some .byte)) (by decide) rfl ?_
  intro p e s m args below meth c s₁ B hml hv
  obtain ⟨rfl, hP0, hK, hD0, hz⟩ := hv
  have hx := B.exec
  have hb := B.bytes
  have hr := B.returns
  have hts0 := atoms_spec (ws := .code yJ0_coder_7d493 cJ0_coder_7d493 1 (some .byte) :: q_tb) B.pre
  have hts : ∀ w ∈ q_tb, w.before _ s = true := fun w h => hts0 w (List.mem_cons_of_mem _ h)
  have hown : s.vm.findClass "java/lang/String" = some m.cls := findClass_of_methodNamed B.named
  have F : q_Fix p s m ((([.inr (.inr (1000 + (w : Int)))] : List QV).reverse.map (q_cv ad)).toArray) meth c q_T q_N D cy "java/lang/String" cJ0_coder_7d493 := ⟨hx, hb, hown, hts, hK, B.notSynchronized, q_wokT.1, q_wokT.2.1, q_wokT.2.2⟩
  obtain ⟨-, hE, hC, f9, hF9⟩ := hZ.2 s hz
  have h1 : 0 ≤ 1000 + (w : Int) := by omega
  have h2 : 0 ≤ 2000 + (w : Int) := by omega
  have key : q_SB l q_T q_N ad D cy K p e rm_t0 s m ((([.inr (.inr (1000 + (w : Int)))] : List QV).reverse.map (q_cv ad)).toArray) below meth c 1 0 [some (.inr (.inr (1000 + (w : Int))))] [] μ := by
    intro hn H locs la hP hD hS hl
    have a0 := q_get hl (i := 0) (v := .inr (.inr (1000 + (w : Int)))) rfl
    rw [q_refv h1] at a0
    refine va_gets hx hb hC hS hown (hts (.fieldLink "java/lang/String" 38 "java/lang/String" "COMPACT_STRINGS" "Z") (by decide +kernel)) (fun _ h => h) dt_cod_0 ?_
    refine lv_if_eq hx hb dt_cod_3 (tgt := 13) (by decide) (fun c9 => absurd c9 (by decide)) (fun _ => ?_)
    refine lv_aload_n hx hb dt_cod_6 rfl a0 ?_
    refine vk_getf hx hb (hE.1 w hw).2.1 hS hown (hts (.fieldLink "java/lang/String" 15 "java/lang/String" "coder" "B") (by decide +kernel)) (fun _ h => h) dt_cod_7 ?_
    refine lv_goto hx hb dt_cod_10 (tgt := 14) (by decide) ?_
    exact W.zret hx hb hr rfl (fun t ht hW => ⟨⟨some (.inl 0), μ, rfl, hk, by rw [ht]; exact hP⟩, hS.F ht⟩) hS.2.2 dt_cod_14
  rw [lg_entry_eq]
  exact key rfl s.heap [] _ hP0 hD0 va_S.rf (q_slS ad (ra := [.inr (.inr (1000 + (w : Int)))]) (by simp [q_sl, q_ct]))
theorem C_J0_isLatin1_aae02 (hZ : q_Zs ad Z) : q_Ct l q_T q_N ad D cy Z yJ0_isLatin1_aae02 cJ0_isLatin1_aae02 1 (some .boolean) rm_t0 sp_J0_isLatin1_aae02 := by
  intro ra μ K hsp
  obtain ⟨this, rfl, w, rfl, hw, hk⟩ := sp_J0_isLatin1_aae02_i hsp
  refine Met.ofW (cc := cJ0_isLatin1_aae02) (maxL := 1) (ret := (some .boolean)) (by decide) rfl ?_
  intro p e s m args below meth c s₁ B hml hv
  obtain ⟨rfl, hP0, hK, hD0, hz⟩ := hv
  have hx := B.exec
  have hb := B.bytes
  have hr := B.returns
  have hts0 := atoms_spec (ws := .code yJ0_isLatin1_aae02 cJ0_isLatin1_aae02 1 (some .boolean) :: q_tb) B.pre
  have hts : ∀ w ∈ q_tb, w.before _ s = true := fun w h => hts0 w (List.mem_cons_of_mem _ h)
  have hown : s.vm.findClass "java/lang/String" = some m.cls := findClass_of_methodNamed B.named
  have F : q_Fix p s m ((([.inr (.inr (1000 + (w : Int)))] : List QV).reverse.map (q_cv ad)).toArray) meth c q_T q_N D cy "java/lang/String" cJ0_isLatin1_aae02 := ⟨hx, hb, hown, hts, hK, B.notSynchronized, q_wokT.1, q_wokT.2.1, q_wokT.2.2⟩
  obtain ⟨-, hE, hC, f9, hF9⟩ := hZ.2 s hz
  have h1 : 0 ≤ 1000 + (w : Int) := by omega
  have h2 : 0 ≤ 2000 + (w : Int) := by omega
  have key : q_SB l q_T q_N ad D cy K p e rm_t0 s m ((([.inr (.inr (1000 + (w : Int)))] : List QV).reverse.map (q_cv ad)).toArray) below meth c 1 0 [some (.inr (.inr (1000 + (w : Int))))] [] μ := by
    intro hn H locs la hP hD hS hl
    have a0 := q_get hl (i := 0) (v := .inr (.inr (1000 + (w : Int)))) rfl
    rw [q_refv h1] at a0
    refine va_gets hx hb hC hS hown (hts (.fieldLink "java/lang/String" 38 "java/lang/String" "COMPACT_STRINGS" "Z") (by decide +kernel)) (fun _ h => h) dt_lat_0 ?_
    refine lv_if_eq hx hb dt_lat_3 (tgt := 17) (by decide) (fun c9 => absurd c9 (by decide)) (fun _ => ?_)
    refine lv_aload_n hx hb dt_lat_6 rfl a0 ?_
    refine vk_getf hx hb (hE.1 w hw).2.1 hS hown (hts (.fieldLink "java/lang/String" 15 "java/lang/String" "coder" "B") (by decide +kernel)) (fun _ h => h) dt_lat_7 ?_
    refine lv_if_ne hx hb dt_lat_10 (tgt := 17) (by decide) (fun c9 => absurd rfl c9) (fun _ => ?_)
    refine lv_iconst hx hb dt_lat_13 rfl ?_
    refine lv_goto hx hb dt_lat_14 (tgt := 18) (by decide) ?_
    exact W.zret hx hb hr rfl (fun t ht hW => ⟨⟨some (.inl 1), μ, rfl, hk, by rw [ht]; exact hP⟩, hS.F ht⟩) hS.2.2 dt_lat_18
  rw [lg_entry_eq]
  exact key rfl s.heap [] _ hP0 hD0 va_S.rf (q_slS ad (ra := [.inr (.inr (1000 + (w : Int)))]) (by simp [q_sl, q_ct]))
theorem C_J1_charAt_3b067 (hZ : q_Zs ad Z) : q_Ct l q_T q_N ad D cy Z yJ1_charAt_3b067 cJ1_charAt_3b067 2 (some .char) rm_t2 sp_J1_charAt_3b067 := by
  intro ra μ K hsp
  obtain ⟨a, i, rfl, w, k, rfl, hw, rfl, hk1, hk⟩ := sp_J1_charAt_3b067_i hsp
  refine Met.ofW (cc := cJ1_charAt_3b067) (maxL := 2) (ret := (some .char)) (by decide) rfl ?_
  intro p e s m args below meth c s₁ B hml hv
  obtain ⟨rfl, hP0, hK, hD0, hz⟩ := hv
  have hx := B.exec
  have hb := B.bytes
  have hr := B.returns
  have hts0 := atoms_spec (ws := .code yJ1_charAt_3b067 cJ1_charAt_3b067 2 (some .char) :: q_tb) B.pre
  have hts : ∀ w ∈ q_tb, w.before _ s = true := fun w h => hts0 w (List.mem_cons_of_mem _ h)
  have hown : s.vm.findClass "java/lang/StringLatin1" = some m.cls := findClass_of_methodNamed B.named
  have F : q_Fix p s m ((([.inl (k : Int), .inr (.inr (2000 + (w : Int)))] : List QV).reverse.map (q_cv ad)).toArray) meth c q_T q_N D cy "java/lang/StringLatin1" cJ1_charAt_3b067 := ⟨hx, hb, hown, hts, hK, B.notSynchronized, q_wokT.1, q_wokT.2.1, q_wokT.2.2⟩
  obtain ⟨-, hE, hC, f9, hF9⟩ := hZ.2 s hz
  have h1 : 0 ≤ 1000 + (w : Int) := by omega
  have h2 : 0 ≤ 2000 + (w : Int) := by omega
  have key : q_SB l q_T q_N ad D cy K p e rm_t2 s m ((([.inl (k : Int), .inr (.inr (2000 + (w : Int)))] : List QV).reverse.map (q_cv ad)).toArray) below meth c 2 0 [some (.inr (.inr (2000 + (w : Int)))), some (.inl (k : Int))] [] μ := by
    intro hn H locs la hP hD hS hl
    have hln := tx_ln w hw
    have hk5 : k < 5 := by omega
    have a0 := q_get hl (i := 0) (v := .inr (.inr (2000 + (w : Int)))) rfl
    rw [q_refv h2] at a0
    have a1 := q_get hl (i := 1) (v := .inl (k : Int)) rfl
    refine lv_iload_n hx hb dt_la1_0 rfl a1 ?_
    refine lv_aload_n hx hb dt_la1_1 rfl a0 ?_
    refine va_tlen hx hb (hE.1 w hw).2.2.2 hS (tx_len w hw) dt_la1_2 ?_
    have ecl : c_len w = ((c_ws.getD w []).length : Int) := rfl
    have G9 := q_crS (l := l) (T := q_T) (N := q_N) (ad := ad) (D := D) (cy := cy) (Z := Z) hZ.1.1 (own := "java/lang/StringLatin1") (cc := cJ1_charAt_3b067) (nL := 2) (i := 9) (n := 2) (R := rm_t2) (C_J0_checkIndex_df160 hZ) (by decide +kernel) (by decide +kernel) (by decide +kernel) (by decide +kernel) (by decide +kernel) ⟨rfl, rfl⟩ (by decide)
    exact G9 K p e s m _ below meth c F hml hz 3 [some (.inr (.inr (2000 + (w : Int)))), some (.inl (k : Int))] [.inl (c_len w), .inl (k : Int)] μ (fun o μ2 => o = none ∧ μ2 = μ) dt_la1_3 (by simp) (by simp [q_cats, q_ct]) (by simp only [List.take, Nat.zero_add, sp_J0_checkIndex_df160_e]; exact ⟨by omega, trivial, trivial⟩) (fun o μ2 h => by
      obtain ⟨rfl, rfl⟩ := h
      intro hn H locs la hP hD hS hl
      have a0 := q_get hl (i := 0) (v := .inr (.inr (2000 + (w : Int)))) rfl
      rw [q_refv h2] at a0
      have a1 := q_get hl (i := 1) (v := .inl (k : Int)) rfl
      refine lv_aload_n hx hb dt_la1_6 rfl a0 ?_
      refine lv_iload_n hx hb dt_la1_7 rfl a1 ?_
      refine va_tb hx hb (hE.1 w hw).2.2.2 hS (q_in (by omega) (by omega) (by omega)) (v := .int ((c_byt.getD w []).getD k 0)) (by
        show Value.int ((c_byt.getD w []).getD (Int32.ofInt (k : Int)).toNatClampNeg 0) = _
        rw [q_cl (by omega) (by omega), show ((k : Int).toNat) = k by omega]) dt_la1_8 ?_
      refine lv_sipush hx hb dt_la1_9 rfl ?_
      refine lv_iand hx hb dt_la1_12 ?_
      refine lv_i2c hx hb dt_la1_13 (tx_ch w hw k hk5).1 ?_
      exact W.zret hx hb hr (by
        have := q_nc (tx_ch w hw k hk5).2.1 (tx_ch w hw k hk5).2.2
        show Value.int (vp_nar .char _) = _
        rw [this]) (fun t ht hW => ⟨⟨some (.inl (c_ch w k)), μ2, rfl, hk, by rw [ht]; exact hP⟩, hS.F ht⟩) hS.2.2 dt_la1_14) rfl H locs la hP hD hS hl
  rw [lg_entry_eq]
  exact key rfl s.heap [] _ hP0 hD0 va_S.rf (q_slS ad (ra := [.inl (k : Int), .inr (.inr (2000 + (w : Int)))]) (by simp [q_sl, q_ct]))
theorem C_J0_length_8abf5 (hZ : q_Zs ad Z) : q_Ct l q_T q_N ad D cy Z yJ0_length_8abf5 cJ0_length_8abf5 1 (some .int) rm_t1 sp_J0_length_8abf5 := by
  intro ra μ K hsp
  obtain ⟨this, rfl, w, rfl, hw, hk⟩ := sp_J0_length_8abf5_i hsp
  refine Met.ofW (cc := cJ0_length_8abf5) (maxL := 1) (ret := (some .int)) (by decide) rfl ?_
  intro p e s m args below meth c s₁ B hml hv
  obtain ⟨rfl, hP0, hK, hD0, hz⟩ := hv
  have hx := B.exec
  have hb := B.bytes
  have hr := B.returns
  have hts0 := atoms_spec (ws := .code yJ0_length_8abf5 cJ0_length_8abf5 1 (some .int) :: q_tb) B.pre
  have hts : ∀ w ∈ q_tb, w.before _ s = true := fun w h => hts0 w (List.mem_cons_of_mem _ h)
  have hown : s.vm.findClass "java/lang/String" = some m.cls := findClass_of_methodNamed B.named
  have F : q_Fix p s m ((([.inr (.inr (1000 + (w : Int)))] : List QV).reverse.map (q_cv ad)).toArray) meth c q_T q_N D cy "java/lang/String" cJ0_length_8abf5 := ⟨hx, hb, hown, hts, hK, B.notSynchronized, q_wokT.1, q_wokT.2.1, q_wokT.2.2⟩
  obtain ⟨-, hE, hC, f9, hF9⟩ := hZ.2 s hz
  have h1 : 0 ≤ 1000 + (w : Int) := by omega
  have h2 : 0 ≤ 2000 + (w : Int) := by omega
  have key : q_SB l q_T q_N ad D cy K p e rm_t1 s m ((([.inr (.inr (1000 + (w : Int)))] : List QV).reverse.map (q_cv ad)).toArray) below meth c 1 0 [some (.inr (.inr (1000 + (w : Int))))] [] μ := by
    intro hn H locs la hP hD hS hl
    have a0 := q_get hl (i := 0) (v := .inr (.inr (1000 + (w : Int)))) rfl
    rw [q_refv h1] at a0
    refine lv_aload_n hx hb dt_len_0 rfl a0 ?_
    refine vk_getf hx hb (hE.1 w hw).2.2.1 hS hown (hts (.fieldLink "java/lang/String" 9 "java/lang/String" "value" "[B") (by decide +kernel)) (fun _ h => h) dt_len_1 ?_
    refine va_tlen hx hb (hE.1 w hw).2.2.2 hS (tx_len w hw) dt_len_4 ?_
    refine lv_aload_n hx hb dt_len_5 rfl a0 ?_
    have G := q_crVs (l := l) (D := D) (cy := cy) hZ (own := "java/lang/String") (cc := cJ0_length_8abf5) (nL := 1) (i := 335) (n := 0) (R := rm_t1) (C_J0_coder_7d493 hZ) rfl (fun ra μ K h => by
      obtain ⟨_, rfl, w, rfl, hw, _⟩ := sp_J0_coder_7d493_i h
      exact ⟨[], w, rfl, hw⟩) (by decide +kernel) (by decide +kernel) (by decide +kernel) (by decide +kernel) (by decide +kernel) (by decide +kernel) ⟨rfl, rfl⟩ (by decide)
    have G2 := G K p e s m _ below meth c F hml hz 6 [some (.inr (.inr (1000 + (w : Int))))] [.inr (.inr (1000 + (w : Int))), .inl (c_len w)] μ (fun o μ' => o = some (.inl 0) ∧ μ' = μ) dt_len_6 (by simp) (by simp [q_cats, q_ct]) (by simp only [List.take, Nat.zero_add, sp_J0_coder_7d493_e]; exact ⟨w, rfl, hw, trivial, trivial⟩) (fun o μ' h => by
      obtain ⟨rfl, rfl⟩ := h
      intro hn H locs la hP hD hS hl
      refine lv_ishr hx hb dt_len_9 ?_
      rw [tx_shr w hw]
      exact W.iret hx hb hr (fun t ht hW => ⟨⟨some (.inl (c_len w)), μ', rfl, hk, by rw [ht]; exact hP⟩, hS.F ht⟩) hS.2.2 dt_len_10) rfl H locs la hP hD hS hl
    rw [List.map_cons, q_refv h1] at G2
    exact G2
  rw [lg_entry_eq]
  exact key rfl s.heap [] _ hP0 hD0 va_S.rf (q_slS ad (ra := [.inr (.inr (1000 + (w : Int)))]) (by simp [q_sl, q_ct]))
theorem C_J0_charAt_5068e (hZ : q_Zs ad Z) : q_Ct l q_T q_N ad D cy Z yJ0_charAt_5068e cJ0_charAt_5068e 2 (some .char) rm_t3 sp_J0_charAt_5068e := by
  intro ra μ K hsp
  obtain ⟨this, i, rfl, w, k, rfl, hw, rfl, hk1, hk⟩ := sp_J0_charAt_5068e_i hsp
  refine Met.ofW (cc := cJ0_charAt_5068e) (maxL := 2) (ret := (some .char)) (by decide) rfl ?_
  intro p e s m args below meth c s₁ B hml hv
  obtain ⟨rfl, hP0, hK, hD0, hz⟩ := hv
  have hx := B.exec
  have hb := B.bytes
  have hr := B.returns
  have hts0 := atoms_spec (ws := .code yJ0_charAt_5068e cJ0_charAt_5068e 2 (some .char) :: q_tb) B.pre
  have hts : ∀ w ∈ q_tb, w.before _ s = true := fun w h => hts0 w (List.mem_cons_of_mem _ h)
  have hown : s.vm.findClass "java/lang/String" = some m.cls := findClass_of_methodNamed B.named
  have F : q_Fix p s m ((([.inl (k : Int), .inr (.inr (1000 + (w : Int)))] : List QV).reverse.map (q_cv ad)).toArray) meth c q_T q_N D cy "java/lang/String" cJ0_charAt_5068e := ⟨hx, hb, hown, hts, hK, B.notSynchronized, q_wokT.1, q_wokT.2.1, q_wokT.2.2⟩
  obtain ⟨-, hE, hC, f9, hF9⟩ := hZ.2 s hz
  have h1 : 0 ≤ 1000 + (w : Int) := by omega
  have h2 : 0 ≤ 2000 + (w : Int) := by omega
  have key : q_SB l q_T q_N ad D cy K p e rm_t3 s m ((([.inl (k : Int), .inr (.inr (1000 + (w : Int)))] : List QV).reverse.map (q_cv ad)).toArray) below meth c 2 0 [some (.inr (.inr (1000 + (w : Int)))), some (.inl (k : Int))] [] μ := by
    intro hn H locs la hP hD hS hl
    have a0 := q_get hl (i := 0) (v := .inr (.inr (1000 + (w : Int)))) rfl
    rw [q_refv h1] at a0
    refine lv_aload_n hx hb dt_cha_0 rfl a0 ?_
    have G := q_crVs (l := l) (D := D) (cy := cy) hZ (own := "java/lang/String") (cc := cJ0_charAt_5068e) (nL := 2) (i := 492) (n := 0) (R := rm_t3) (C_J0_isLatin1_aae02 hZ) rfl (fun ra μ K h => by
      obtain ⟨_, rfl, w, rfl, hw, _⟩ := sp_J0_isLatin1_aae02_i h
      exact ⟨[], w, rfl, hw⟩) (by decide +kernel) (by decide +kernel) (by decide +kernel) (by decide +kernel) (by decide +kernel) (by decide +kernel) ⟨rfl, rfl⟩ (by decide)
    have G9 := q_crS (l := l) (T := q_T) (N := q_N) (ad := ad) (D := D) (cy := cy) (Z := Z) hZ.1.1 (own := "java/lang/String") (cc := cJ0_charAt_5068e) (nL := 2) (i := 495) (n := 2) (R := rm_t3) (C_J1_charAt_3b067 hZ) (by decide +kernel) (by decide +kernel) (by decide +kernel) (by decide +kernel) (by decide +kernel) ⟨rfl, rfl⟩ (by decide)
    have G2 := G K p e s m _ below meth c F hml hz 1 [some (.inr (.inr (1000 + (w : Int)))), some (.inl (k : Int))] [.inr (.inr (1000 + (w : Int)))] μ (fun o μ' => o = some (.inl 1) ∧ μ' = μ) dt_cha_1 (by simp) (by simp [q_cats, q_ct]) (by simp only [List.take, Nat.zero_add, sp_J0_isLatin1_aae02_e]; exact ⟨w, rfl, hw, trivial, trivial⟩) (fun o μ' h => by
      obtain ⟨rfl, rfl⟩ := h
      intro hn H locs la hP hD hS hl
      have a0 := q_get hl (i := 0) (v := .inr (.inr (1000 + (w : Int)))) rfl
      rw [q_refv h1] at a0
      have a1 := q_get hl (i := 1) (v := .inl (k : Int)) rfl
      refine lv_if_eq hx hb dt_cha_4 (tgt := 16) (by decide) (fun c9 => absurd c9 (by decide)) (fun _ => ?_)
      refine lv_aload_n hx hb dt_cha_7 rfl a0 ?_
      refine vk_getf hx hb (hE.1 w hw).2.2.1 hS hown (hts (.fieldLink "java/lang/String" 9 "java/lang/String" "value" "[B") (by decide +kernel)) (fun _ h => h) dt_cha_8 ?_
      refine lv_iload_n hx hb dt_cha_11 rfl a1 ?_
      have G3 := G9 K p e s m _ below meth c F hml hz 12 [some (.inr (.inr (1000 + (w : Int)))), some (.inl (k : Int))] [.inl (k : Int), .inr (.inr (2000 + (w : Int)))] μ' (fun o μ2 => o = some (.inl (c_ch w k)) ∧ μ2 = μ') dt_cha_12 (by simp) (by simp [q_cats, q_ct]) (by simp only [List.take, Nat.zero_add, sp_J1_charAt_3b067_e]; exact ⟨w, k, rfl, hw, rfl, hk1, rfl, trivial⟩) (fun o μ2 h => by
        obtain ⟨rfl, rfl⟩ := h
        intro hn H locs la hP hD hS hl
        have hln := tx_ln w hw
        have hk5 : k < 5 := by omega
        exact W.zret hx hb hr (by
          have := q_nc (tx_ch w hw k hk5).2.1 (tx_ch w hw k hk5).2.2
          show Value.int (vp_nar .char _) = _
          rw [this]) (fun t ht hW => ⟨⟨some (.inl (c_ch w k)), μ2, rfl, hk, by rw [ht]; exact hP⟩, hS.F ht⟩) hS.2.2 dt_cha_15) rfl H locs la hP hD hS hl
      rw [List.map_cons, List.map_cons, q_refv h2] at G3
      exact G3) rfl H locs la hP hD hS hl
    rw [List.map_cons, q_refv h1] at G2
    exact G2
  rw [lg_entry_eq]
  exact key rfl s.heap [] _ hP0 hD0 va_S.rf (q_slS ad (ra := [.inl (k : Int), .inr (.inr (1000 + (w : Int)))]) (by simp [q_sl, q_ct]))
end TX

