/-! the law: its loop -/
section LL
variable {p : Program} {l : Launch} {e : Env} {s : State} {m : MethodId} {below : List Frame} {meth : Method} {c : Code} {b L : Nat} {xs : Nat → Int32} {ad : Int → Nat} {D : va_G} {cy : Nat → ClassId} {Z : State → Prop} {cl sl : Nat}
set_option maxRecDepth 100000 in
theorem ll_size (C : l_C p l s m meth c b L xs ad D cy Z) (hcs : cl ≤ 600000 ∧ sl ≤ 7302250) {iv : Int} {n : Nat} {μ : QM} (h0 : 0 ≤ iv) (h1 : iv + 6 ≤ L) (hc : n ≤ 512) (hJ : J n μ) (K : ∀ μ' : QM, J (n + 1) μ' → l_W p l e s m below meth c b ad D cy cl sl iv 563 [] μ') : l_W p l e s m below meth c b ad D cy cl sl iv 108 [] μ := by
  have hL := C.2.1
  have r1 := l_rx (xs (iv + 1).toNat)
  have r2 := l_rx (xs (iv + 2).toNat)
  intro H locs la hP hD hS hl
  refine l_a1 C hl dl_108 ?_
  refine l_ld C hS hl dl_109 dl_110 dl_111 dl_112 dl_113 h0 (by decide) (by omega) ?_
  refine l_ld C hS hl dl_114 dl_115 dl_116 dl_117 dl_118 h0 (by decide) (by omega) ?_
  refine l_crV (n := 2) (st := [.inl (xs (iv + 2).toNat).toInt, .inl (xs (iv + 1).toNat).toInt, .inr (.inr 0)]) (K := j_E n sp_X11_size [.inl (xs (iv + 2).toNat).toInt, .inl (xs (iv + 1).toNat).toInt]) C (C_X10_size C.2.2.2.1.1) rv_X10_size cm_X10_size (by decide +kernel) (by decide +kernel) (by decide +kernel) (by decide +kernel) (by decide +kernel) ⟨rfl, rfl⟩ (by decide) hcs dl_119 (by simp) (by simp [q_cats, q_ct]) (J_size r1 r2 hJ) (fun o μ1 hE => ?_) H locs la hP hD hS hl
  obtain ⟨z, rfl, hz, hM⟩ := hE
  intro H locs la hP hD hS hl
  refine l_a2 C hl dl_122 ?_
  refine l_ld C hS hl dl_123 dl_124 dl_125 dl_126 dl_127 h0 (by decide) (by omega) ?_
  refine l_ld C hS hl dl_128 dl_129 dl_130 dl_131 dl_132 h0 (by decide) (by omega) ?_
  refine l_crV (n := 2) (st := [.inl (xs (iv + 2).toNat).toInt, .inl (xs (iv + 1).toNat).toInt, .inr (.inr 85), .inl z]) C (C_X11_size C.2.2.2.1.1) rv_X11_size cm_X11_size (by decide +kernel) (by decide +kernel) (by decide +kernel) (by decide +kernel) (by decide +kernel) ⟨rfl, rfl⟩ (by decide) hcs dl_133 (by simp) (by simp [q_cats, q_ct]) hM (fun o μ2 hE => ?_) H locs la hP hD hS hl
  obtain ⟨rfl, hJ2⟩ := hE
  intro H locs la hP hD hS hl
  exact lv_icmp_eq C.1.1 C.1.2.1 dl_136 (tgt := 563) (by decide) (fun _ => K μ2 hJ2 H locs la hP hD hS hl) (fun q => absurd rfl q)
set_option maxRecDepth 100000 in
theorem ll_tell (C : l_C p l s m meth c b L xs ad D cy Z) (hcs : cl ≤ 600000 ∧ sl ≤ 7302250) {iv : Int} {n : Nat} {μ : QM} (h0 : 0 ≤ iv) (h1 : iv + 6 ≤ L) (hc : n ≤ 512) (hJ : J n μ) (K : ∀ μ' : QM, J (n + 1) μ' → l_W p l e s m below meth c b ad D cy cl sl iv 563 [] μ') : l_W p l e s m below meth c b ad D cy cl sl iv 141 [] μ := by
  have hL := C.2.1
  have r1 := l_rx (xs (iv + 1).toNat)
  have r2 := l_rx (xs (iv + 2).toNat)
  have r3 := l_rx (xs (iv + 3).toNat)
  have r4 := l_rx (xs (iv + 4).toNat)
  intro H locs la hP hD hS hl
  refine l_a1 C hl dl_141 ?_
  refine l_ld C hS hl dl_142 dl_143 dl_144 dl_145 dl_146 h0 (by decide) (by omega) ?_
  refine l_ld C hS hl dl_147 dl_148 dl_149 dl_150 dl_151 h0 (by decide) (by omega) ?_
  refine l_ld C hS hl dl_152 dl_153 dl_154 dl_155 dl_156 h0 (by decide) (by omega) ?_
  refine l_ld C hS hl dl_157 dl_158 dl_159 dl_160 dl_161 h0 (by decide) (by omega) ?_
  refine l_crV (n := 4) (st := [.inl (xs (iv + 4).toNat).toInt, .inl (xs (iv + 3).toNat).toInt, .inl (xs (iv + 2).toNat).toInt, .inl (xs (iv + 1).toNat).toInt, .inr (.inr 0)]) (K := j_E n sp_X11_tell [.inl (xs (iv + 4).toNat).toInt, .inl (xs (iv + 3).toNat).toInt, .inl (xs (iv + 2).toNat).toInt, .inl (xs (iv + 1).toNat).toInt]) C (C_X10_tell C.2.2.2.1.1) rv_X10_tell cm_X10_tell (by decide +kernel) (by decide +kernel) (by decide +kernel) (by decide +kernel) (by decide +kernel) ⟨rfl, rfl⟩ (by decide) hcs dl_162 (by simp) (by simp [q_cats, q_ct]) (J_tell r1 r2 r3 r4 hJ) (fun o μ1 hE => ?_) H locs la hP hD hS hl
  obtain ⟨z, rfl, hz, hM⟩ := hE
  intro H locs la hP hD hS hl
  refine l_a2 C hl dl_165 ?_
  refine l_ld C hS hl dl_166 dl_167 dl_168 dl_169 dl_170 h0 (by decide) (by omega) ?_
  refine l_ld C hS hl dl_171 dl_172 dl_173 dl_174 dl_175 h0 (by decide) (by omega) ?_
  refine l_ld C hS hl dl_176 dl_177 dl_178 dl_179 dl_180 h0 (by decide) (by omega) ?_
  refine l_ld C hS hl dl_181 dl_182 dl_183 dl_184 dl_185 h0 (by decide) (by omega) ?_
  refine l_crV (n := 4) (st := [.inl (xs (iv + 4).toNat).toInt, .inl (xs (iv + 3).toNat).toInt, .inl (xs (iv + 2).toNat).toInt, .inl (xs (iv + 1).toNat).toInt, .inr (.inr 85), .inl z]) C (C_X11_tell C.2.2.2.1.1) rv_X11_tell cm_X11_tell (by decide +kernel) (by decide +kernel) (by decide +kernel) (by decide +kernel) (by decide +kernel) ⟨rfl, rfl⟩ (by decide) hcs dl_186 (by simp) (by simp [q_cats, q_ct]) hM (fun o μ2 hE => ?_) H locs la hP hD hS hl
  obtain ⟨rfl, hJ2⟩ := hE
  intro H locs la hP hD hS hl
  exact lv_icmp_eq C.1.1 C.1.2.1 dl_189 (tgt := 563) (by decide) (fun _ => K μ2 hJ2 H locs la hP hD hS hl) (fun q => absurd rfl q)
set_option maxRecDepth 100000 in
theorem ll_told (C : l_C p l s m meth c b L xs ad D cy Z) (hcs : cl ≤ 600000 ∧ sl ≤ 7302250) {iv : Int} {n : Nat} {μ : QM} (h0 : 0 ≤ iv) (h1 : iv + 6 ≤ L) (hc : n ≤ 512) (hJ : J n μ) (K : ∀ μ' : QM, J (n + 1) μ' → l_W p l e s m below meth c b ad D cy cl sl iv 563 [] μ') : l_W p l e s m below meth c b ad D cy cl sl iv 194 [] μ := by
  have hL := C.2.1
  have r1 := l_rx (xs (iv + 1).toNat)
  have r2 := l_rx (xs (iv + 2).toNat)
  have r3 := l_rx (xs (iv + 3).toNat)
  intro H locs la hP hD hS hl
  refine l_a1 C hl dl_194 ?_
  refine l_ld C hS hl dl_195 dl_196 dl_197 dl_198 dl_199 h0 (by decide) (by omega) ?_
  refine l_ld C hS hl dl_200 dl_201 dl_202 dl_203 dl_204 h0 (by decide) (by omega) ?_
  refine l_ld C hS hl dl_205 dl_206 dl_207 dl_208 dl_209 h0 (by decide) (by omega) ?_
  refine l_crV (n := 3) (st := [.inl (xs (iv + 3).toNat).toInt, .inl (xs (iv + 2).toNat).toInt, .inl (xs (iv + 1).toNat).toInt, .inr (.inr 0)]) (K := j_E n sp_X11_told [.inl (xs (iv + 3).toNat).toInt, .inl (xs (iv + 2).toNat).toInt, .inl (xs (iv + 1).toNat).toInt]) C (C_X10_told C.2.2.2.1.1) rv_X10_told cm_X10_told (by decide +kernel) (by decide +kernel) (by decide +kernel) (by decide +kernel) (by decide +kernel) ⟨rfl, rfl⟩ (by decide) hcs dl_210 (by simp) (by simp [q_cats, q_ct]) (J_told r1 r2 r3 hJ) (fun o μ1 hE => ?_) H locs la hP hD hS hl
  obtain ⟨z, rfl, hz, hM⟩ := hE
  intro H locs la hP hD hS hl
  refine l_a2 C hl dl_213 ?_
  refine l_ld C hS hl dl_214 dl_215 dl_216 dl_217 dl_218 h0 (by decide) (by omega) ?_
  refine l_ld C hS hl dl_219 dl_220 dl_221 dl_222 dl_223 h0 (by decide) (by omega) ?_
  refine l_ld C hS hl dl_224 dl_225 dl_226 dl_227 dl_228 h0 (by decide) (by omega) ?_
  refine l_crV (n := 3) (st := [.inl (xs (iv + 3).toNat).toInt, .inl (xs (iv + 2).toNat).toInt, .inl (xs (iv + 1).toNat).toInt, .inr (.inr 85), .inl z]) C (C_X11_told C.2.2.2.1.1) rv_X11_told cm_X11_told (by decide +kernel) (by decide +kernel) (by decide +kernel) (by decide +kernel) (by decide +kernel) ⟨rfl, rfl⟩ (by decide) hcs dl_229 (by simp) (by simp [q_cats, q_ct]) hM (fun o μ2 hE => ?_) H locs la hP hD hS hl
  obtain ⟨rfl, hJ2⟩ := hE
  intro H locs la hP hD hS hl
  exact lv_icmp_eq C.1.1 C.1.2.1 dl_232 (tgt := 563) (by decide) (fun _ => K μ2 hJ2 H locs la hP hD hS hl) (fun q => absurd rfl q)
set_option maxRecDepth 100000 in
theorem ll_feed (C : l_C p l s m meth c b L xs ad D cy Z) (hcs : cl ≤ 600000 ∧ sl ≤ 7302250) {iv : Int} {n : Nat} {μ : QM} (h0 : 0 ≤ iv) (h1 : iv + 6 ≤ L) (hc : n ≤ 512) (hJ : J n μ) (K : ∀ μ' : QM, J (n + 1) μ' → l_W p l e s m below meth c b ad D cy cl sl iv 563 [] μ') : l_W p l e s m below meth c b ad D cy cl sl iv 237 [] μ := by
  have hL := C.2.1
  have r1 := l_rx (xs (iv + 1).toNat)
  have r2 := l_rx (xs (iv + 2).toNat)
  have r3 := l_rx (xs (iv + 3).toNat)
  have r4 := l_rx (xs (iv + 4).toNat)
  have r5 := l_rx (xs (iv + 5).toNat)
  intro H locs la hP hD hS hl
  refine l_a1 C hl dl_237 ?_
  refine l_ld C hS hl dl_238 dl_239 dl_240 dl_241 dl_242 h0 (by decide) (by omega) ?_
  refine l_ld C hS hl dl_243 dl_244 dl_245 dl_246 dl_247 h0 (by decide) (by omega) ?_
  refine l_ld C hS hl dl_248 dl_249 dl_250 dl_251 dl_252 h0 (by decide) (by omega) ?_
  refine l_ld C hS hl dl_253 dl_254 dl_255 dl_256 dl_257 h0 (by decide) (by omega) ?_
  refine l_ld C hS hl dl_258 dl_259 dl_260 dl_261 dl_262 h0 (by decide) (by omega) ?_
  refine l_crV (n := 5) (st := [.inl (xs (iv + 5).toNat).toInt, .inl (xs (iv + 4).toNat).toInt, .inl (xs (iv + 3).toNat).toInt, .inl (xs (iv + 2).toNat).toInt, .inl (xs (iv + 1).toNat).toInt, .inr (.inr 0)]) (K := j_E n sp_X11_feed [.inl (xs (iv + 5).toNat).toInt, .inl (xs (iv + 4).toNat).toInt, .inl (xs (iv + 3).toNat).toInt, .inl (xs (iv + 2).toNat).toInt, .inl (xs (iv + 1).toNat).toInt]) C (C_X10_feed C.2.2.2.1.1) rv_X10_feed cm_X10_feed (by decide +kernel) (by decide +kernel) (by decide +kernel) (by decide +kernel) (by decide +kernel) ⟨rfl, rfl⟩ (by decide) hcs dl_263 (by simp) (by simp [q_cats, q_ct]) (J_feed hJ) (fun o μ1 hE => ?_) H locs la hP hD hS hl
  obtain ⟨z, rfl, hz, hM⟩ := hE
  intro H locs la hP hD hS hl
  refine l_a2 C hl dl_266 ?_
  refine l_ld C hS hl dl_267 dl_268 dl_269 dl_270 dl_271 h0 (by decide) (by omega) ?_
  refine l_ld C hS hl dl_272 dl_273 dl_274 dl_275 dl_276 h0 (by decide) (by omega) ?_
  refine l_ld C hS hl dl_277 dl_278 dl_279 dl_280 dl_281 h0 (by decide) (by omega) ?_
  refine l_ld C hS hl dl_282 dl_283 dl_284 dl_285 dl_286 h0 (by decide) (by omega) ?_
  refine l_ld C hS hl dl_287 dl_288 dl_289 dl_290 dl_291 h0 (by decide) (by omega) ?_
  refine l_crV (n := 5) (st := [.inl (xs (iv + 5).toNat).toInt, .inl (xs (iv + 4).toNat).toInt, .inl (xs (iv + 3).toNat).toInt, .inl (xs (iv + 2).toNat).toInt, .inl (xs (iv + 1).toNat).toInt, .inr (.inr 85), .inl z]) C (C_X11_feed C.2.2.2.1.1) rv_X11_feed cm_X11_feed (by decide +kernel) (by decide +kernel) (by decide +kernel) (by decide +kernel) (by decide +kernel) ⟨rfl, rfl⟩ (by decide) hcs dl_292 (by simp) (by simp [q_cats, q_ct]) hM (fun o μ2 hE => ?_) H locs la hP hD hS hl
  obtain ⟨rfl, hJ2⟩ := hE
  intro H locs la hP hD hS hl
  exact lv_icmp_eq C.1.1 C.1.2.1 dl_295 (tgt := 563) (by decide) (fun _ => K μ2 hJ2 H locs la hP hD hS hl) (fun q => absurd rfl q)
set_option maxRecDepth 100000 in
theorem ll_end (C : l_C p l s m meth c b L xs ad D cy Z) (hcs : cl ≤ 600000 ∧ sl ≤ 7302250) {iv : Int} {n : Nat} {μ : QM} (h0 : 0 ≤ iv) (h1 : iv + 6 ≤ L) (hc : n ≤ 512) (hJ : J n μ) (K : ∀ μ' : QM, J (n + 1) μ' → l_W p l e s m below meth c b ad D cy cl sl iv 563 [] μ') : l_W p l e s m below meth c b ad D cy cl sl iv 300 [] μ := by
  have hL := C.2.1
  have r1 := l_rx (xs (iv + 1).toNat)
  intro H locs la hP hD hS hl
  refine l_a1 C hl dl_300 ?_
  refine l_ld C hS hl dl_301 dl_302 dl_303 dl_304 dl_305 h0 (by decide) (by omega) ?_
  refine l_crV (n := 1) (st := [.inl (xs (iv + 1).toNat).toInt, .inr (.inr 0)]) (K := j_E n sp_X11_end [.inl (xs (iv + 1).toNat).toInt]) C (C_X10_end C.2.2.2.1.1) rv_X10_end cm_X10_end (by decide +kernel) (by decide +kernel) (by decide +kernel) (by decide +kernel) (by decide +kernel) ⟨rfl, rfl⟩ (by decide) hcs dl_306 (by simp) (by simp [q_cats, q_ct]) (J_end r1 hJ) (fun o μ1 hE => ?_) H locs la hP hD hS hl
  obtain ⟨z, rfl, hz, hM⟩ := hE
  intro H locs la hP hD hS hl
  refine l_a2 C hl dl_309 ?_
  refine l_ld C hS hl dl_310 dl_311 dl_312 dl_313 dl_314 h0 (by decide) (by omega) ?_
  refine l_crV (n := 1) (st := [.inl (xs (iv + 1).toNat).toInt, .inr (.inr 85), .inl z]) C (C_X11_end C.2.2.2.1.1) rv_X11_end cm_X11_end (by decide +kernel) (by decide +kernel) (by decide +kernel) (by decide +kernel) (by decide +kernel) ⟨rfl, rfl⟩ (by decide) hcs dl_315 (by simp) (by simp [q_cats, q_ct]) hM (fun o μ2 hE => ?_) H locs la hP hD hS hl
  obtain ⟨rfl, hJ2⟩ := hE
  intro H locs la hP hD hS hl
  exact lv_icmp_eq C.1.1 C.1.2.1 dl_318 (tgt := 563) (by decide) (fun _ => K μ2 hJ2 H locs la hP hD hS hl) (fun q => absurd rfl q)
set_option maxRecDepth 100000 in
theorem ll_boards (C : l_C p l s m meth c b L xs ad D cy Z) (hcs : cl ≤ 600000 ∧ sl ≤ 7302250) {iv : Int} {n : Nat} {μ : QM} (h0 : 0 ≤ iv) (h1 : iv + 6 ≤ L) (hc : n ≤ 512) (hJ : J n μ) (K : ∀ μ' : QM, J (n + 1) μ' → l_W p l e s m below meth c b ad D cy cl sl iv 563 [] μ') : l_W p l e s m below meth c b ad D cy cl sl iv 323 [] μ := by
  have hL := C.2.1
  intro H locs la hP hD hS hl
  refine l_a1 C hl dl_323 ?_
  refine l_crV (n := 0) (st := [.inr (.inr 0)]) (K := j_E n sp_X11_boards []) C (C_X10_boards C.2.2.2.1) rv_X10_boards cm_X10_boards (by decide +kernel) (by decide +kernel) (by decide +kernel) (by decide +kernel) (by decide +kernel) ⟨rfl, rfl⟩ (by decide) hcs dl_324 (by simp) (by simp [q_cats, q_ct]) (J_boards hJ) (fun o μ1 hE => ?_) H locs la hP hD hS hl
  obtain ⟨z, rfl, hz, hM⟩ := hE
  intro H locs la hP hD hS hl
  refine l_a2 C hl dl_327 ?_
  refine l_crV (n := 0) (st := [.inr (.inr 85), .inl z]) C (C_X11_boards C.2.2.2.1.1) rv_X11_boards cm_X11_boards (by decide +kernel) (by decide +kernel) (by decide +kernel) (by decide +kernel) (by decide +kernel) ⟨rfl, rfl⟩ (by decide) hcs dl_328 (by simp) (by simp [q_cats, q_ct]) hM (fun o μ2 hE => ?_) H locs la hP hD hS hl
  obtain ⟨rfl, hJ2⟩ := hE
  intro H locs la hP hD hS hl
  exact lv_icmp_eq C.1.1 C.1.2.1 dl_331 (tgt := 563) (by decide) (fun _ => K μ2 hJ2 H locs la hP hD hS hl) (fun q => absurd rfl q)
set_option maxRecDepth 100000 in
theorem ll_fault (C : l_C p l s m meth c b L xs ad D cy Z) (hcs : cl ≤ 600000 ∧ sl ≤ 7302250) {iv : Int} {n : Nat} {μ : QM} (h0 : 0 ≤ iv) (h1 : iv + 6 ≤ L) (hc : n ≤ 512) (hJ : J n μ) (K : ∀ μ' : QM, J (n + 1) μ' → l_W p l e s m below meth c b ad D cy cl sl iv 563 [] μ') : l_W p l e s m below meth c b ad D cy cl sl iv 336 [] μ := by
  have hL := C.2.1
  intro H locs la hP hD hS hl
  refine l_a1 C hl dl_336 ?_
  refine l_crV (n := 0) (st := [.inr (.inr 0)]) (K := j_E n sp_X11_fault []) C (C_X10_fault C.2.2.2.1.1) rv_X10_fault cm_X10_fault (by decide +kernel) (by decide +kernel) (by decide +kernel) (by decide +kernel) (by decide +kernel) ⟨rfl, rfl⟩ (by decide) hcs dl_337 (by simp) (by simp [q_cats, q_ct]) (J_fault hJ) (fun o μ1 hE => ?_) H locs la hP hD hS hl
  obtain ⟨z, rfl, hz, hM⟩ := hE
  intro H locs la hP hD hS hl
  refine l_a2 C hl dl_340 ?_
  refine l_crV (n := 0) (st := [.inr (.inr 85), .inl z]) C (C_X11_fault C.2.2.2.1.1) rv_X11_fault cm_X11_fault (by decide +kernel) (by decide +kernel) (by decide +kernel) (by decide +kernel) (by decide +kernel) ⟨rfl, rfl⟩ (by decide) hcs dl_341 (by simp) (by simp [q_cats, q_ct]) hM (fun o μ2 hE => ?_) H locs la hP hD hS hl
  obtain ⟨rfl, hJ2⟩ := hE
  intro H locs la hP hD hS hl
  exact lv_icmp_eq C.1.1 C.1.2.1 dl_344 (tgt := 563) (by decide) (fun _ => K μ2 hJ2 H locs la hP hD hS hl) (fun q => absurd rfl q)
set_option maxRecDepth 100000 in
theorem ll_cell (C : l_C p l s m meth c b L xs ad D cy Z) (hcs : cl ≤ 600000 ∧ sl ≤ 7302250) {iv : Int} {n : Nat} {μ : QM} (h0 : 0 ≤ iv) (h1 : iv + 6 ≤ L) (hc : n ≤ 512) (hJ : J n μ) (K : ∀ μ' : QM, J (n + 1) μ' → l_W p l e s m below meth c b ad D cy cl sl iv 563 [] μ') : l_W p l e s m below meth c b ad D cy cl sl iv 349 [] μ := by
  have hL := C.2.1
  have r1 := l_rx (xs (iv + 1).toNat)
  have r2 := l_rx (xs (iv + 2).toNat)
  have r3 := l_rx (xs (iv + 3).toNat)
  intro H locs la hP hD hS hl
  refine l_a1 C hl dl_349 ?_
  refine l_ld C hS hl dl_350 dl_351 dl_352 dl_353 dl_354 h0 (by decide) (by omega) ?_
  refine l_ld C hS hl dl_355 dl_356 dl_357 dl_358 dl_359 h0 (by decide) (by omega) ?_
  refine l_ld C hS hl dl_360 dl_361 dl_362 dl_363 dl_364 h0 (by decide) (by omega) ?_
  refine l_crV (n := 3) (st := [.inl (xs (iv + 3).toNat).toInt, .inl (xs (iv + 2).toNat).toInt, .inl (xs (iv + 1).toNat).toInt, .inr (.inr 0)]) (K := j_E n sp_X11_cell [.inl (xs (iv + 3).toNat).toInt, .inl (xs (iv + 2).toNat).toInt, .inl (xs (iv + 1).toNat).toInt]) C (C_X10_cell C.2.2.2.1.1) rv_X10_cell cm_X10_cell (by decide +kernel) (by decide +kernel) (by decide +kernel) (by decide +kernel) (by decide +kernel) ⟨rfl, rfl⟩ (by decide) hcs dl_365 (by simp) (by simp [q_cats, q_ct]) (J_cell r1 r2 r3 hJ) (fun o μ1 hE => ?_) H locs la hP hD hS hl
  obtain ⟨z, rfl, hz, hM⟩ := hE
  intro H locs la hP hD hS hl
  refine l_a2 C hl dl_368 ?_
  refine l_ld C hS hl dl_369 dl_370 dl_371 dl_372 dl_373 h0 (by decide) (by omega) ?_
  refine l_ld C hS hl dl_374 dl_375 dl_376 dl_377 dl_378 h0 (by decide) (by omega) ?_
  refine l_ld C hS hl dl_379 dl_380 dl_381 dl_382 dl_383 h0 (by decide) (by omega) ?_
  refine l_crV (n := 3) (st := [.inl (xs (iv + 3).toNat).toInt, .inl (xs (iv + 2).toNat).toInt, .inl (xs (iv + 1).toNat).toInt, .inr (.inr 85), .inl z]) C (C_X11_cell C.2.2.2.1.1) rv_X11_cell cm_X11_cell (by decide +kernel) (by decide +kernel) (by decide +kernel) (by decide +kernel) (by decide +kernel) ⟨rfl, rfl⟩ (by decide) hcs dl_384 (by simp) (by simp [q_cats, q_ct]) hM (fun o μ2 hE => ?_) H locs la hP hD hS hl
  obtain ⟨rfl, hJ2⟩ := hE
  intro H locs la hP hD hS hl
  exact lv_icmp_eq C.1.1 C.1.2.1 dl_387 (tgt := 563) (by decide) (fun _ => K μ2 hJ2 H locs la hP hD hS hl) (fun q => absurd rfl q)
set_option maxRecDepth 100000 in
theorem ll_fresh (C : l_C p l s m meth c b L xs ad D cy Z) (hcs : cl ≤ 600000 ∧ sl ≤ 7302250) {iv : Int} {n : Nat} {μ : QM} (h0 : 0 ≤ iv) (h1 : iv + 6 ≤ L) (hc : n ≤ 512) (hJ : J n μ) (K : ∀ μ' : QM, J (n + 1) μ' → l_W p l e s m below meth c b ad D cy cl sl iv 563 [] μ') : l_W p l e s m below meth c b ad D cy cl sl iv 392 [] μ := by
  have hL := C.2.1
  have r1 := l_rx (xs (iv + 1).toNat)
  have r2 := l_rx (xs (iv + 2).toNat)
  intro H locs la hP hD hS hl
  refine l_a1 C hl dl_392 ?_
  refine l_ld C hS hl dl_393 dl_394 dl_395 dl_396 dl_397 h0 (by decide) (by omega) ?_
  refine l_ld C hS hl dl_398 dl_399 dl_400 dl_401 dl_402 h0 (by decide) (by omega) ?_
  refine l_crV (n := 2) (st := [.inl (xs (iv + 2).toNat).toInt, .inl (xs (iv + 1).toNat).toInt, .inr (.inr 0)]) (K := j_E n sp_X11_fresh [.inl (xs (iv + 2).toNat).toInt, .inl (xs (iv + 1).toNat).toInt]) C (C_X10_fresh C.2.2.2.1.1) rv_X10_fresh cm_X10_fresh (by decide +kernel) (by decide +kernel) (by decide +kernel) (by decide +kernel) (by decide +kernel) ⟨rfl, rfl⟩ (by decide) hcs dl_403 (by simp) (by simp [q_cats, q_ct]) (J_fresh r1 r2 hJ) (fun o μ1 hE => ?_) H locs la hP hD hS hl
  obtain ⟨z, rfl, hz, hM⟩ := hE
  intro H locs la hP hD hS hl
  refine l_a2 C hl dl_406 ?_
  refine l_ld C hS hl dl_407 dl_408 dl_409 dl_410 dl_411 h0 (by decide) (by omega) ?_
  refine l_ld C hS hl dl_412 dl_413 dl_414 dl_415 dl_416 h0 (by decide) (by omega) ?_
  refine l_crV (n := 2) (st := [.inl (xs (iv + 2).toNat).toInt, .inl (xs (iv + 1).toNat).toInt, .inr (.inr 85), .inl z]) C (C_X11_fresh C.2.2.2.1.1) rv_X11_fresh cm_X11_fresh (by decide +kernel) (by decide +kernel) (by decide +kernel) (by decide +kernel) (by decide +kernel) ⟨rfl, rfl⟩ (by decide) hcs dl_417 (by simp) (by simp [q_cats, q_ct]) hM (fun o μ2 hE => ?_) H locs la hP hD hS hl
  obtain ⟨rfl, hJ2⟩ := hE
  intro H locs la hP hD hS hl
  exact lv_icmp_eq C.1.1 C.1.2.1 dl_420 (tgt := 563) (by decide) (fun _ => K μ2 hJ2 H locs la hP hD hS hl) (fun q => absurd rfl q)
set_option maxRecDepth 100000 in
theorem ll_from (C : l_C p l s m meth c b L xs ad D cy Z) (hcs : cl ≤ 600000 ∧ sl ≤ 7302250) {iv : Int} {n : Nat} {μ : QM} (h0 : 0 ≤ iv) (h1 : iv + 6 ≤ L) (hc : n ≤ 512) (hJ : J n μ) (K : ∀ μ' : QM, J (n + 1) μ' → l_W p l e s m below meth c b ad D cy cl sl iv 563 [] μ') : l_W p l e s m below meth c b ad D cy cl sl iv 425 [] μ := by
  have hL := C.2.1
  have r1 := l_rx (xs (iv + 1).toNat)
  have r2 := l_rx (xs (iv + 2).toNat)
  have r3 := l_rx (xs (iv + 3).toNat)
  intro H locs la hP hD hS hl
  refine l_a1 C hl dl_425 ?_
  refine l_ld C hS hl dl_426 dl_427 dl_428 dl_429 dl_430 h0 (by decide) (by omega) ?_
  refine l_ld C hS hl dl_431 dl_432 dl_433 dl_434 dl_435 h0 (by decide) (by omega) ?_
  refine l_ld C hS hl dl_436 dl_437 dl_438 dl_439 dl_440 h0 (by decide) (by omega) ?_
  refine l_crV (n := 3) (st := [.inl (xs (iv + 3).toNat).toInt, .inl (xs (iv + 2).toNat).toInt, .inl (xs (iv + 1).toNat).toInt, .inr (.inr 0)]) (K := j_E n sp_X11_from [.inl (xs (iv + 3).toNat).toInt, .inl (xs (iv + 2).toNat).toInt, .inl (xs (iv + 1).toNat).toInt]) C (C_X10_from C.2.2.2.1.1) rv_X10_from cm_X10_from (by decide +kernel) (by decide +kernel) (by decide +kernel) (by decide +kernel) (by decide +kernel) ⟨rfl, rfl⟩ (by decide) hcs dl_441 (by simp) (by simp [q_cats, q_ct]) (J_from r1 r2 r3 hJ) (fun o μ1 hE => ?_) H locs la hP hD hS hl
  obtain ⟨z, rfl, hz, hM⟩ := hE
  intro H locs la hP hD hS hl
  refine l_a2 C hl dl_444 ?_
  refine l_ld C hS hl dl_445 dl_446 dl_447 dl_448 dl_449 h0 (by decide) (by omega) ?_
  refine l_ld C hS hl dl_450 dl_451 dl_452 dl_453 dl_454 h0 (by decide) (by omega) ?_
  refine l_ld C hS hl dl_455 dl_456 dl_457 dl_458 dl_459 h0 (by decide) (by omega) ?_
  refine l_crV (n := 3) (st := [.inl (xs (iv + 3).toNat).toInt, .inl (xs (iv + 2).toNat).toInt, .inl (xs (iv + 1).toNat).toInt, .inr (.inr 85), .inl z]) C (C_X11_from C.2.2.2.1.1) rv_X11_from cm_X11_from (by decide +kernel) (by decide +kernel) (by decide +kernel) (by decide +kernel) (by decide +kernel) ⟨rfl, rfl⟩ (by decide) hcs dl_460 (by simp) (by simp [q_cats, q_ct]) hM (fun o μ2 hE => ?_) H locs la hP hD hS hl
  obtain ⟨rfl, hJ2⟩ := hE
  intro H locs la hP hD hS hl
  exact lv_icmp_eq C.1.1 C.1.2.1 dl_463 (tgt := 563) (by decide) (fun _ => K μ2 hJ2 H locs la hP hD hS hl) (fun q => absurd rfl q)
set_option maxRecDepth 100000 in
theorem ll_made (C : l_C p l s m meth c b L xs ad D cy Z) (hcs : cl ≤ 600000 ∧ sl ≤ 7302250) {iv : Int} {n : Nat} {μ : QM} (h0 : 0 ≤ iv) (h1 : iv + 6 ≤ L) (hc : n ≤ 512) (hJ : J n μ) (K : ∀ μ' : QM, J (n + 1) μ' → l_W p l e s m below meth c b ad D cy cl sl iv 563 [] μ') : l_W p l e s m below meth c b ad D cy cl sl iv 468 [] μ := by
  have hL := C.2.1
  intro H locs la hP hD hS hl
  refine l_a1 C hl dl_468 ?_
  refine l_crV (n := 0) (st := [.inr (.inr 0)]) (K := j_E n sp_X11_made []) C (C_X10_made C.2.2.2.1.1) rv_X10_made cm_X10_made (by decide +kernel) (by decide +kernel) (by decide +kernel) (by decide +kernel) (by decide +kernel) ⟨rfl, rfl⟩ (by decide) hcs dl_469 (by simp) (by simp [q_cats, q_ct]) (J_made hc hJ) (fun o μ1 hE => ?_) H locs la hP hD hS hl
  obtain ⟨z, rfl, hz, hM⟩ := hE
  intro H locs la hP hD hS hl
  refine l_a2 C hl dl_472 ?_
  refine l_crV (n := 0) (st := [.inr (.inr 85), .inl z]) C (C_X11_made C.2.2.2.1.1) rv_X11_made cm_X11_made (by decide +kernel) (by decide +kernel) (by decide +kernel) (by decide +kernel) (by decide +kernel) ⟨rfl, rfl⟩ (by decide) hcs dl_473 (by simp) (by simp [q_cats, q_ct]) hM (fun o μ2 hE => ?_) H locs la hP hD hS hl
  obtain ⟨rfl, hJ2⟩ := hE
  intro H locs la hP hD hS hl
  exact lv_icmp_eq C.1.1 C.1.2.1 dl_476 (tgt := 563) (by decide) (fun _ => K μ2 hJ2 H locs la hP hD hS hl) (fun q => absurd rfl q)
set_option maxRecDepth 100000 in
theorem ll_image (C : l_C p l s m meth c b L xs ad D cy Z) (hcs : cl ≤ 600000 ∧ sl ≤ 7302250) {iv : Int} {n : Nat} {μ : QM} (h0 : 0 ≤ iv) (h1 : iv + 6 ≤ L) (hc : n ≤ 512) (hJ : J n μ) (K : ∀ μ' : QM, J (n + 1) μ' → l_W p l e s m below meth c b ad D cy cl sl iv 563 [] μ') : l_W p l e s m below meth c b ad D cy cl sl iv 481 [] μ := by
  have hL := C.2.1
  have r1 := l_rx (xs (iv + 1).toNat)
  intro H locs la hP hD hS hl
  refine l_a1 C hl dl_481 ?_
  refine l_ld C hS hl dl_482 dl_483 dl_484 dl_485 dl_486 h0 (by decide) (by omega) ?_
  refine l_crV (n := 1) (st := [.inl (xs (iv + 1).toNat).toInt, .inr (.inr 0)]) (K := j_E n sp_X11_image [.inl (xs (iv + 1).toNat).toInt]) C (C_X10_image C.2.2.2.1.1) rv_X10_image cm_X10_image (by decide +kernel) (by decide +kernel) (by decide +kernel) (by decide +kernel) (by decide +kernel) ⟨rfl, rfl⟩ (by decide) hcs dl_487 (by simp) (by simp [q_cats, q_ct]) (J_image r1 hJ) (fun o μ1 hE => ?_) H locs la hP hD hS hl
  obtain ⟨z, rfl, hz, hM⟩ := hE
  intro H locs la hP hD hS hl
  refine l_a2 C hl dl_490 ?_
  refine l_ld C hS hl dl_491 dl_492 dl_493 dl_494 dl_495 h0 (by decide) (by omega) ?_
  refine l_crV (n := 1) (st := [.inl (xs (iv + 1).toNat).toInt, .inr (.inr 85), .inl z]) C (C_X11_image C.2.2.2.1.1) rv_X11_image cm_X11_image (by decide +kernel) (by decide +kernel) (by decide +kernel) (by decide +kernel) (by decide +kernel) ⟨rfl, rfl⟩ (by decide) hcs dl_496 (by simp) (by simp [q_cats, q_ct]) hM (fun o μ2 hE => ?_) H locs la hP hD hS hl
  obtain ⟨rfl, hJ2⟩ := hE
  intro H locs la hP hD hS hl
  exact lv_icmp_eq C.1.1 C.1.2.1 dl_499 (tgt := 563) (by decide) (fun _ => K μ2 hJ2 H locs la hP hD hS hl) (fun q => absurd rfl q)
set_option maxRecDepth 100000 in
theorem ll_back (C : l_C p l s m meth c b L xs ad D cy Z) (hcs : cl ≤ 600000 ∧ sl ≤ 7302250) {iv : Int} {n : Nat} {μ : QM} (h0 : 0 ≤ iv) (h1 : iv + 6 ≤ L) (hc : n ≤ 512) (hJ : J n μ) (K : ∀ μ' : QM, J (n + 1) μ' → l_W p l e s m below meth c b ad D cy cl sl iv 563 [] μ') : l_W p l e s m below meth c b ad D cy cl sl iv 504 [] μ := by
  have hL := C.2.1
  have r1 := l_rx (xs (iv + 1).toNat)
  intro H locs la hP hD hS hl
  refine l_a1 C hl dl_504 ?_
  refine l_ld C hS hl dl_505 dl_506 dl_507 dl_508 dl_509 h0 (by decide) (by omega) ?_
  refine l_crV (n := 1) (st := [.inl (xs (iv + 1).toNat).toInt, .inr (.inr 0)]) (K := j_E n sp_X11_back [.inl (xs (iv + 1).toNat).toInt]) C (C_X10_back C.2.2.2.1.1) rv_X10_back cm_X10_back (by decide +kernel) (by decide +kernel) (by decide +kernel) (by decide +kernel) (by decide +kernel) ⟨rfl, rfl⟩ (by decide) hcs dl_510 (by simp) (by simp [q_cats, q_ct]) (J_back r1 hJ) (fun o μ1 hE => ?_) H locs la hP hD hS hl
  obtain ⟨z, rfl, hz, hM⟩ := hE
  intro H locs la hP hD hS hl
  refine l_a2 C hl dl_513 ?_
  refine l_ld C hS hl dl_514 dl_515 dl_516 dl_517 dl_518 h0 (by decide) (by omega) ?_
  refine l_crV (n := 1) (st := [.inl (xs (iv + 1).toNat).toInt, .inr (.inr 85), .inl z]) C (C_X11_back C.2.2.2.1.1) rv_X11_back cm_X11_back (by decide +kernel) (by decide +kernel) (by decide +kernel) (by decide +kernel) (by decide +kernel) ⟨rfl, rfl⟩ (by decide) hcs dl_519 (by simp) (by simp [q_cats, q_ct]) hM (fun o μ2 hE => ?_) H locs la hP hD hS hl
  obtain ⟨rfl, hJ2⟩ := hE
  intro H locs la hP hD hS hl
  exact lv_icmp_eq C.1.1 C.1.2.1 dl_522 (tgt := 563) (by decide) (fun _ => K μ2 hJ2 H locs la hP hD hS hl) (fun q => absurd rfl q)
set_option maxRecDepth 100000 in
theorem ll_count (C : l_C p l s m meth c b L xs ad D cy Z) (hcs : cl ≤ 600000 ∧ sl ≤ 7302250) {iv : Int} {n : Nat} {μ : QM} (h0 : 0 ≤ iv) (h1 : iv + 6 ≤ L) (hc : n ≤ 512) (hJ : J n μ) (K : ∀ μ' : QM, J (n + 1) μ' → l_W p l e s m below meth c b ad D cy cl sl iv 563 [] μ') : l_W p l e s m below meth c b ad D cy cl sl iv 527 [] μ := by
  have hL := C.2.1
  have r1 := l_rx (xs (iv + 1).toNat)
  intro H locs la hP hD hS hl
  refine l_a1 C hl dl_527 ?_
  refine l_ld C hS hl dl_528 dl_529 dl_530 dl_531 dl_532 h0 (by decide) (by omega) ?_
  refine l_crV (n := 1) (st := [.inl (xs (iv + 1).toNat).toInt, .inr (.inr 0)]) (K := j_E n sp_X11_count [.inl (xs (iv + 1).toNat).toInt]) C (C_X10_count C.2.2.2.1.1) rv_X10_count cm_X10_count (by decide +kernel) (by decide +kernel) (by decide +kernel) (by decide +kernel) (by decide +kernel) ⟨rfl, rfl⟩ (by decide) hcs dl_533 (by simp) (by simp [q_cats, q_ct]) (J_count r1 hJ) (fun o μ1 hE => ?_) H locs la hP hD hS hl
  obtain ⟨z, rfl, hz, hM⟩ := hE
  intro H locs la hP hD hS hl
  refine l_a2 C hl dl_536 ?_
  refine l_ld C hS hl dl_537 dl_538 dl_539 dl_540 dl_541 h0 (by decide) (by omega) ?_
  refine l_crV (n := 1) (st := [.inl (xs (iv + 1).toNat).toInt, .inr (.inr 85), .inl z]) C (C_X11_count C.2.2.2.1.1) rv_X11_count cm_X11_count (by decide +kernel) (by decide +kernel) (by decide +kernel) (by decide +kernel) (by decide +kernel) ⟨rfl, rfl⟩ (by decide) hcs dl_542 (by simp) (by simp [q_cats, q_ct]) hM (fun o μ2 hE => ?_) H locs la hP hD hS hl
  obtain ⟨rfl, hJ2⟩ := hE
  intro H locs la hP hD hS hl
  exact lv_icmp_eq C.1.1 C.1.2.1 dl_545 (tgt := 563) (by decide) (fun _ => K μ2 hJ2 H locs la hP hD hS hl) (fun q => absurd rfl q)
set_option maxRecDepth 100000 in
theorem ll_status (C : l_C p l s m meth c b L xs ad D cy Z) (hcs : cl ≤ 600000 ∧ sl ≤ 7302250) {iv : Int} {n : Nat} {μ : QM} (h0 : 0 ≤ iv) (h1 : iv + 6 ≤ L) (hc : n ≤ 512) (hJ : J n μ) (K : ∀ μ' : QM, J (n + 1) μ' → l_W p l e s m below meth c b ad D cy cl sl iv 563 [] μ') : l_W p l e s m below meth c b ad D cy cl sl iv 550 [] μ := by
  have hL := C.2.1
  intro H locs la hP hD hS hl
  refine l_a1 C hl dl_550 ?_
  refine l_crV (n := 0) (st := [.inr (.inr 0)]) (K := j_E n sp_X11_status []) C (C_X10_status C.2.2.2.1.1) rv_X10_status cm_X10_status (by decide +kernel) (by decide +kernel) (by decide +kernel) (by decide +kernel) (by decide +kernel) ⟨rfl, rfl⟩ (by decide) hcs dl_551 (by simp) (by simp [q_cats, q_ct]) (J_status hJ) (fun o μ1 hE => ?_) H locs la hP hD hS hl
  obtain ⟨z, rfl, hz, hM⟩ := hE
  intro H locs la hP hD hS hl
  refine l_a2 C hl dl_554 ?_
  refine l_crV (n := 0) (st := [.inr (.inr 85), .inl z]) C (C_X11_status C.2.2.2.1.1) rv_X11_status cm_X11_status (by decide +kernel) (by decide +kernel) (by decide +kernel) (by decide +kernel) (by decide +kernel) ⟨rfl, rfl⟩ (by decide) hcs dl_555 (by simp) (by simp [q_cats, q_ct]) hM (fun o μ2 hE => ?_) H locs la hP hD hS hl
  obtain ⟨rfl, hJ2⟩ := hE
  intro H locs la hP hD hS hl
  exact lv_icmp_eq C.1.1 C.1.2.1 dl_558 (tgt := 563) (by decide) (fun _ => K μ2 hJ2 H locs la hP hD hS hl) (fun q => absurd rfl q)
theorem ll_k (x : Int32) : ∃ k : Nat, k < 16 ∧ x &&& 15 = Int32.ofInt (k : Int) := by
  have h : x &&& Int32.ofInt 15 = nI (x.toBitVec.toNat % 2 ^ 4) := pk_and _ 4 (by decide)
  have h9 : (15 : Int32) = Int32.ofInt 15 := rfl
  refine ⟨x.toBitVec.toNat % 16, Nat.mod_lt _ (by decide), ?_⟩
  rw [h9, h]
  rfl
set_option maxRecDepth 100000 in
theorem ll_27 (C : l_C p l s m meth c b L xs ad D cy Z) (hcs : cl ≤ 600000 ∧ sl ≤ 7302250) {iv : Int} {n : Nat} {μ : QM} (h0 : 0 ≤ iv) (h1 : iv + 6 ≤ L) (hc : n ≤ 512) (hJ : J n μ) (K : ∀ μ' : QM, J (n + 1) μ' → l_W p l e s m below meth c b ad D cy cl sl iv 563 [] μ') : l_W p l e s m below meth c b ad D cy cl sl iv 27 [] μ := by
  have hL := C.2.1
  intro H locs la hP hD hS hl
  have hx := C.1.1
  have hb := C.1.2.1
  have hX := C.1.2.2.2.2.2.2.1
  have hbl := C.1.2.2.2.2.2.2.2.1
  refine lv_aload_n hx hb dl_27 rfl (lv_at hl 0 rfl) ?_
  refine lv_iload_n hx hb dl_28 rfl (lv_at hl 3 rfl) ?_
  refine va_sld hx hb hX hbl (Nat.not_le.mpr hbl) hS (q_in (by omega) h0 (by omega)) dl_29 ?_
  refine lv_bipush hx hb dl_30 (v := 15) rfl ?_
  refine lv_iand hx hb dl_32 ?_
  obtain ⟨k, hk, ek⟩ := ll_k (xs (Int32.ofInt iv).toNatClampNeg)
  rw [ek]
  have ti : (Int32.ofInt (k : Int)).toInt = k := q_ti (by omega)
  rcases (show k = 0 ∨ k = 1 ∨ k = 2 ∨ k = 3 ∨ k = 4 ∨ k = 5 ∨ k = 6 ∨ k = 7 ∨ k = 8 ∨ k = 9 ∨ k = 10 ∨ k = 11 ∨ k = 12 ∨ k = 13 ∨ k = 14 ∨ k = 15 by omega) with rfl | rfl | rfl | rfl | rfl | rfl | rfl | rfl | rfl | rfl | rfl | rfl | rfl | rfl | rfl | rfl
  · exact lv_tableIn hx hb dl_33 (off := 75) (tgt := 108) (by rw [ti]; decide) (by rw [ti]; decide) (by rw [ti]; rfl) (by decide) (ll_size C hcs h0 h1 hc hJ K H locs la hP hD hS hl)
  · exact lv_tableIn hx hb dl_33 (off := 108) (tgt := 141) (by rw [ti]; decide) (by rw [ti]; decide) (by rw [ti]; rfl) (by decide) (ll_tell C hcs h0 h1 hc hJ K H locs la hP hD hS hl)
  · exact lv_tableIn hx hb dl_33 (off := 161) (tgt := 194) (by rw [ti]; decide) (by rw [ti]; decide) (by rw [ti]; rfl) (by decide) (ll_told C hcs h0 h1 hc hJ K H locs la hP hD hS hl)
  · exact lv_tableIn hx hb dl_33 (off := 204) (tgt := 237) (by rw [ti]; decide) (by rw [ti]; decide) (by rw [ti]; rfl) (by decide) (ll_feed C hcs h0 h1 hc hJ K H locs la hP hD hS hl)
  · exact lv_tableIn hx hb dl_33 (off := 267) (tgt := 300) (by rw [ti]; decide) (by rw [ti]; decide) (by rw [ti]; rfl) (by decide) (ll_end C hcs h0 h1 hc hJ K H locs la hP hD hS hl)
  · exact lv_tableIn hx hb dl_33 (off := 290) (tgt := 323) (by rw [ti]; decide) (by rw [ti]; decide) (by rw [ti]; rfl) (by decide) (ll_boards C hcs h0 h1 hc hJ K H locs la hP hD hS hl)
  · exact lv_tableIn hx hb dl_33 (off := 303) (tgt := 336) (by rw [ti]; decide) (by rw [ti]; decide) (by rw [ti]; rfl) (by decide) (ll_fault C hcs h0 h1 hc hJ K H locs la hP hD hS hl)
  · exact lv_tableIn hx hb dl_33 (off := 316) (tgt := 349) (by rw [ti]; decide) (by rw [ti]; decide) (by rw [ti]; rfl) (by decide) (ll_cell C hcs h0 h1 hc hJ K H locs la hP hD hS hl)
  · exact lv_tableIn hx hb dl_33 (off := 359) (tgt := 392) (by rw [ti]; decide) (by rw [ti]; decide) (by rw [ti]; rfl) (by decide) (ll_fresh C hcs h0 h1 hc hJ K H locs la hP hD hS hl)
  · exact lv_tableIn hx hb dl_33 (off := 392) (tgt := 425) (by rw [ti]; decide) (by rw [ti]; decide) (by rw [ti]; rfl) (by decide) (ll_from C hcs h0 h1 hc hJ K H locs la hP hD hS hl)
  · exact lv_tableIn hx hb dl_33 (off := 435) (tgt := 468) (by rw [ti]; decide) (by rw [ti]; decide) (by rw [ti]; rfl) (by decide) (ll_made C hcs h0 h1 hc hJ K H locs la hP hD hS hl)
  · exact lv_tableIn hx hb dl_33 (off := 448) (tgt := 481) (by rw [ti]; decide) (by rw [ti]; decide) (by rw [ti]; rfl) (by decide) (ll_image C hcs h0 h1 hc hJ K H locs la hP hD hS hl)
  · exact lv_tableIn hx hb dl_33 (off := 471) (tgt := 504) (by rw [ti]; decide) (by rw [ti]; decide) (by rw [ti]; rfl) (by decide) (ll_back C hcs h0 h1 hc hJ K H locs la hP hD hS hl)
  · exact lv_tableIn hx hb dl_33 (off := 494) (tgt := 527) (by rw [ti]; decide) (by rw [ti]; decide) (by rw [ti]; rfl) (by decide) (ll_count C hcs h0 h1 hc hJ K H locs la hP hD hS hl)
  · exact lv_tableIn hx hb dl_33 (off := 517) (tgt := 550) (by rw [ti]; decide) (by rw [ti]; decide) (by rw [ti]; rfl) (by decide) (ll_status C hcs h0 h1 hc hJ K H locs la hP hD hS hl)
  · exact lv_tableOut hx hb dl_33 (tgt := 563) (by rw [ti]; decide) (by decide) (K μ (J_of hJ (fun _ _ _ => rfl)) H locs la hP hD hS hl)
/-- the loop: from each of its turns the law comes to its end -/
theorem ll_18 (C : l_C p l s m meth c b L xs ad D cy Z) (hcs : cl ≤ 600000 ∧ sl ≤ 7302250) : ∀ (d n : Nat) (μ : QM), L < 6 * n + d → n ≤ 512 + 1 → 6 * (n : Int) ≤ L + 6 → J n μ → l_W p l e s m below meth c b ad D cy cl sl (6 * (n : Int)) 18 [] μ := by
  intro d
  have hL := C.2.1
  induction d with
  | zero =>
    intro n μ h1 h2 h3 hJ H locs la hP hD hS hl
    have hx := C.1.1
    have hb := C.1.2.1
    have hX := C.1.2.2.2.2.2.2.1
    have hbl := C.1.2.2.2.2.2.2.2.1
    refine lv_iload_n hx hb dl_18 rfl (lv_at hl 3 rfl) ?_
    refine lv_aload_n hx hb dl_19 rfl (lv_at hl 0 rfl) ?_
    refine va_slen hx hb hX hbl (Nat.not_le.mpr hbl) hS dl_20 ?_
    refine lv_bipush hx hb dl_21 (v := Int32.ofInt 6) rfl ?_
    refine lv_isub hx hb dl_23 ?_
    rw [show (L.toInt32 - Int32.ofInt 6) = Int32.ofInt ((L : Int) - 6) by rw [Int32.ofInt_sub, Int32.ofInt_eq_ofNat]]
    refine lv_icmp_gt hx hb dl_24 (tgt := 569) (by decide) (fun _ => ?_) (fun q => absurd ((q_lt (by omega) (by omega)).mpr (by omega)) q)
    refine lv_iconst hx hb dl_569 (v := 1) rfl ?_
    refine va_forget hS.2.2 ?_
    exact W.widen hcs.1 hcs.2 (lw_ret hx hb C.1.2.2.1 C.1.2.2.2.2.2.2.2.2.1 dl_570)
  | succ d ih =>
    intro n μ h1 h2 h3 hJ H locs la hP hD hS hl
    have hx := C.1.1
    have hb := C.1.2.1
    have hX := C.1.2.2.2.2.2.2.1
    have hbl := C.1.2.2.2.2.2.2.2.1
    refine lv_iload_n hx hb dl_18 rfl (lv_at hl 3 rfl) ?_
    refine lv_aload_n hx hb dl_19 rfl (lv_at hl 0 rfl) ?_
    refine va_slen hx hb hX hbl (Nat.not_le.mpr hbl) hS dl_20 ?_
    refine lv_bipush hx hb dl_21 (v := Int32.ofInt 6) rfl ?_
    refine lv_isub hx hb dl_23 ?_
    rw [show (L.toInt32 - Int32.ofInt 6) = Int32.ofInt ((L : Int) - 6) by rw [Int32.ofInt_sub, Int32.ofInt_eq_ofNat]]
    refine lv_icmp_gt hx hb dl_24 (tgt := 569) (by decide) (fun _ => ?_) (fun q => ?_)
    · refine lv_iconst hx hb dl_569 (v := 1) rfl ?_
      refine va_forget hS.2.2 ?_
      exact W.widen hcs.1 hcs.2 (lw_ret hx hb C.1.2.2.1 C.1.2.2.2.2.2.2.2.2.1 dl_570)
    · have q : ¬ (L : Int) - 6 < 6 * (n : Int) := fun z => q ((q_lt (by omega) (by omega)).mpr z)
      refine ll_27 C hcs (by omega) (by omega) (by omega) hJ (fun μ' hJ' => ?_) H locs la hP hD hS hl
      intro H locs la hP hD hS hl
      refine lv_iinc hx hb dl_563 hl (k := 3) (v := Int32.ofInt (6 * ((n + 1 : Nat) : Int))) rfl (by rw [← Int32.ofInt_add]; congr 1) (by decide) rfl (fun la hl => ?_)
      refine lv_goto hx hb dl_566 (tgt := 18) (by decide) ?_
      exact ih (n + 1) μ' (by omega) (by omega) (by omega) hJ' H locs la hP hD hS (lv_sub hl [1, 2, 3, 0] rfl)
end LL

