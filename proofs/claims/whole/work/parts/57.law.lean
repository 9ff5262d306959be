theorem vin {L0 i : Nat} (hL : L0 ≤ 3072) (hi : i + 6 ≤ L0) (j : Nat) (hj : j < 6) : vp_in (nI i + nI j) L0 := by
  rw [nI_add]
  exact vp_in_nI (by omega) (by omega)

set_option maxRecDepth 100000 in
set_option maxHeartbeats 1000000 in
theorem case_0 {p : Program} {l : Launch} {e : Env} {s : State} {m : MethodId} {below : List Frame} {meth : Method} {c : Code} {b L0 : Nat} {xs : Nat → Int32} (C0 : lw_At p s m meth c b L0 xs) (hL : L0 ≤ 3072) {i : Nat} (hi : i + 6 ≤ L0) {w g : kW} {n c9 q9 : Nat} (hh : Rel n c9 q9 w g) (kk : ∀ (w1 g1 : kW) (n1 c1 q1 : Nat), Rel n1 c1 q1 w1 g1 → LB p l e s m below meth c b 1145 [(0, .ref 0), (1, .ref 1), (2, .ref 2), (3, .int (nI i))] [] w1 g1) : LB p l e s m below meth c b 164 [(0, .ref 0), (1, .ref 1), (2, .ref 2), (3, .int (nI i))] [] w g := by
  have hin1 : vp_in (nI i + 1) L0 := vin hL hi 1 (by decide)
  have hin2 : vp_in (nI i + 2) L0 := vin hL hi 2 (by decide)
  have hin3 : vp_in (nI i + 3) L0 := vin hL hi 3 (by decide)
  have hin4 : vp_in (nI i + 4) L0 := vin hL hi 4 (by decide)
  refine l_aload C0 dL_law_164 rfl ?_
  refine l_aload C0 dL_law_165 rfl ?_
  refine l_iload C0 dL_law_166 rfl ?_
  refine l_iconst (v := 1) C0 dL_law_167 (by decide) ?_
  refine l_iadd C0 dL_law_168 ?_
  refine l_sld C0 dL_law_169 hin1 ?_
  refine l_aload C0 dL_law_170 rfl ?_
  refine l_iload C0 dL_law_171 rfl ?_
  refine l_iconst (v := 2) C0 dL_law_172 (by decide) ?_
  refine l_iadd C0 dL_law_173 ?_
  refine l_sld C0 dL_law_174 hin2 ?_
  refine l_aload C0 dL_law_175 rfl ?_
  refine l_iload C0 dL_law_176 rfl ?_
  refine l_iconst (v := 3) C0 dL_law_177 (by decide) ?_
  refine l_iadd C0 dL_law_178 ?_
  refine l_sld C0 dL_law_179 hin3 ?_
  refine l_aload C0 dL_law_180 rfl ?_
  refine l_iload C0 dL_law_181 rfl ?_
  refine l_iconst (v := 4) C0 dL_law_182 (by decide) ?_
  refine l_iadd C0 dL_law_183 ?_
  refine l_sld C0 dL_law_184 hin4 ?_
  have PR := pair_coast (x := (xs (Int32.toNatClampNeg (nI i + 1)))) (sort := (xs (Int32.toNatClampNeg (nI i + 2)))) (i := (xs (Int32.toNatClampNeg (nI i + 3)))) (m := (xs (Int32.toNatClampNeg (nI i + 4)))) hh
  refine l_callC (As := [.int (xs (Int32.toNatClampNeg (nI i + 1))), .int (xs (Int32.toNatClampNeg (nI i + 2))), .int (xs (Int32.toNatClampNeg (nI i + 3))), .int (xs (Int32.toNatClampNeg (nI i + 4)))]) (st := []) C0 dL_law_185 lk_L_13 rfl rfl ⟨by decide, by decide⟩ (Nat.le_of_ble_eq_true rfl) (by simp [k_v]) (hwI PR) (s_X7_coast hh) (fun v w1 hc => ?_)
  obtain ⟨r1, e1⟩ := PR.1 _ _ hc
  cases e1
  refine l_aload C0 dL_law_188 rfl ?_
  refine l_aload C0 dL_law_189 rfl ?_
  refine l_iload C0 dL_law_190 rfl ?_
  refine l_iconst (v := 1) C0 dL_law_191 (by decide) ?_
  refine l_iadd C0 dL_law_192 ?_
  refine l_sld C0 dL_law_193 hin1 ?_
  refine l_aload C0 dL_law_194 rfl ?_
  refine l_iload C0 dL_law_195 rfl ?_
  refine l_iconst (v := 2) C0 dL_law_196 (by decide) ?_
  refine l_iadd C0 dL_law_197 ?_
  refine l_sld C0 dL_law_198 hin2 ?_
  refine l_aload C0 dL_law_199 rfl ?_
  refine l_iload C0 dL_law_200 rfl ?_
  refine l_iconst (v := 3) C0 dL_law_201 (by decide) ?_
  refine l_iadd C0 dL_law_202 ?_
  refine l_sld C0 dL_law_203 hin3 ?_
  refine l_aload C0 dL_law_204 rfl ?_
  refine l_iload C0 dL_law_205 rfl ?_
  refine l_iconst (v := 4) C0 dL_law_206 (by decide) ?_
  refine l_iadd C0 dL_law_207 ?_
  refine l_sld C0 dL_law_208 hin4 ?_
  refine l_callM (As := [.int (xs (Int32.toNatClampNeg (nI i + 1))), .int (xs (Int32.toNatClampNeg (nI i + 2))), .int (xs (Int32.toNatClampNeg (nI i + 3))), .int (xs (Int32.toNatClampNeg (nI i + 4)))]) (st := [.int r1]) C0 dL_law_209 lk_L_17 rfl rfl ⟨by decide, by decide⟩ (Nat.le_of_ble_eq_true rfl) (by simp [k_v]) (hwI2 PR hc) (s_X8_coast hh.1.2.2.2.2.2) (fun v g1 hm => ?_)
  obtain ⟨e2, n1, c1, q1, hr⟩ := PR.2 _ _ _ _ hc hm
  cases e2
  refine l_icmp_eq (tgt := 1145) C0 dL_law_212 (by decide) (fun _ => ?_) (fun h => absurd rfl h)
  exact kk _ _ _ _ _ hr

set_option maxRecDepth 100000 in
set_option maxHeartbeats 1000000 in
theorem case_1 {p : Program} {l : Launch} {e : Env} {s : State} {m : MethodId} {below : List Frame} {meth : Method} {c : Code} {b L0 : Nat} {xs : Nat → Int32} (C0 : lw_At p s m meth c b L0 xs) (hL : L0 ≤ 3072) {i : Nat} (hi : i + 6 ≤ L0) {w g : kW} {n c9 q9 : Nat} (hh : Rel n c9 q9 w g) (kk : ∀ (w1 g1 : kW) (n1 c1 q1 : Nat), Rel n1 c1 q1 w1 g1 → LB p l e s m below meth c b 1145 [(0, .ref 0), (1, .ref 1), (2, .ref 2), (3, .int (nI i))] [] w1 g1) : LB p l e s m below meth c b 217 [(0, .ref 0), (1, .ref 1), (2, .ref 2), (3, .int (nI i))] [] w g := by
  have hin1 : vp_in (nI i + 1) L0 := vin hL hi 1 (by decide)
  have hin2 : vp_in (nI i + 2) L0 := vin hL hi 2 (by decide)
  refine l_aload C0 dL_law_217 rfl ?_
  refine l_aload C0 dL_law_218 rfl ?_
  refine l_iload C0 dL_law_219 rfl ?_
  refine l_iconst (v := 1) C0 dL_law_220 (by decide) ?_
  refine l_iadd C0 dL_law_221 ?_
  refine l_sld C0 dL_law_222 hin1 ?_
  refine l_aload C0 dL_law_223 rfl ?_
  refine l_iload C0 dL_law_224 rfl ?_
  refine l_iconst (v := 2) C0 dL_law_225 (by decide) ?_
  refine l_iadd C0 dL_law_226 ?_
  refine l_sld C0 dL_law_227 hin2 ?_
  have PR := pairR (R := R_ofPerson g (xs (Int32.toNatClampNeg (nI i + 1))) (xs (Int32.toNatClampNeg (nI i + 2))))
  refine l_callC (As := [.int (xs (Int32.toNatClampNeg (nI i + 1))), .int (xs (Int32.toNatClampNeg (nI i + 2)))]) (st := []) C0 dL_law_228 lk_L_18 rfl rfl ⟨by decide, by decide⟩ (Nat.le_of_ble_eq_true rfl) (by simp [k_v]) (hwI PR) (s_X7_ofPerson hh) (fun v w1 hc => ?_)
  obtain ⟨r1, e1⟩ := PR.1 _ _ hc
  cases e1
  refine l_aload C0 dL_law_231 rfl ?_
  refine l_aload C0 dL_law_232 rfl ?_
  refine l_iload C0 dL_law_233 rfl ?_
  refine l_iconst (v := 1) C0 dL_law_234 (by decide) ?_
  refine l_iadd C0 dL_law_235 ?_
  refine l_sld C0 dL_law_236 hin1 ?_
  refine l_aload C0 dL_law_237 rfl ?_
  refine l_iload C0 dL_law_238 rfl ?_
  refine l_iconst (v := 2) C0 dL_law_239 (by decide) ?_
  refine l_iadd C0 dL_law_240 ?_
  refine l_sld C0 dL_law_241 hin2 ?_
  refine l_callM (As := [.int (xs (Int32.toNatClampNeg (nI i + 1))), .int (xs (Int32.toNatClampNeg (nI i + 2)))]) (st := [.int r1]) C0 dL_law_242 lk_L_22 rfl rfl ⟨by decide, by decide⟩ (Nat.le_of_ble_eq_true rfl) (by simp [k_v]) (hwI2 PR hc) (s_X8_ofPerson hh.1) (fun v g1 hm => ?_)
  obtain ⟨e2, n1, c1, q1, hr⟩ := PR.2 _ _ _ _ hc hm
  cases e2
  refine l_icmp_eq (tgt := 1145) C0 dL_law_245 (by decide) (fun _ => ?_) (fun h => absurd rfl h)
  exact kk _ _ _ _ _ hr

set_option maxRecDepth 100000 in
set_option maxHeartbeats 1000000 in
theorem case_2 {p : Program} {l : Launch} {e : Env} {s : State} {m : MethodId} {below : List Frame} {meth : Method} {c : Code} {b L0 : Nat} {xs : Nat → Int32} (C0 : lw_At p s m meth c b L0 xs) (hL : L0 ≤ 3072) {i : Nat} (hi : i + 6 ≤ L0) {w g : kW} {n c9 q9 : Nat} (hh : Rel n c9 q9 w g) (kk : ∀ (w1 g1 : kW) (n1 c1 q1 : Nat), Rel n1 c1 q1 w1 g1 → LB p l e s m below meth c b 1145 [(0, .ref 0), (1, .ref 1), (2, .ref 2), (3, .int (nI i))] [] w1 g1) : LB p l e s m below meth c b 250 [(0, .ref 0), (1, .ref 1), (2, .ref 2), (3, .int (nI i))] [] w g := by
  have hin1 : vp_in (nI i + 1) L0 := vin hL hi 1 (by decide)
  have hin2 : vp_in (nI i + 2) L0 := vin hL hi 2 (by decide)
  have hin3 : vp_in (nI i + 3) L0 := vin hL hi 3 (by decide)
  have hin4 : vp_in (nI i + 4) L0 := vin hL hi 4 (by decide)
  refine l_aload C0 dL_law_250 rfl ?_
  refine l_aload C0 dL_law_251 rfl ?_
  refine l_iload C0 dL_law_252 rfl ?_
  refine l_iconst (v := 1) C0 dL_law_253 (by decide) ?_
  refine l_iadd C0 dL_law_254 ?_
  refine l_sld C0 dL_law_255 hin1 ?_
  refine l_aload C0 dL_law_256 rfl ?_
  refine l_iload C0 dL_law_257 rfl ?_
  refine l_iconst (v := 2) C0 dL_law_258 (by decide) ?_
  refine l_iadd C0 dL_law_259 ?_
  refine l_sld C0 dL_law_260 hin2 ?_
  refine l_aload C0 dL_law_261 rfl ?_
  refine l_iload C0 dL_law_262 rfl ?_
  refine l_iconst (v := 3) C0 dL_law_263 (by decide) ?_
  refine l_iadd C0 dL_law_264 ?_
  refine l_sld C0 dL_law_265 hin3 ?_
  refine l_aload C0 dL_law_266 rfl ?_
  refine l_iload C0 dL_law_267 rfl ?_
  refine l_iconst (v := 4) C0 dL_law_268 (by decide) ?_
  refine l_iadd C0 dL_law_269 ?_
  refine l_sld C0 dL_law_270 hin4 ?_
  have PR := pairR (R := R_insult g (xs (Int32.toNatClampNeg (nI i + 1))) (xs (Int32.toNatClampNeg (nI i + 2))) (xs (Int32.toNatClampNeg (nI i + 3))) (xs (Int32.toNatClampNeg (nI i + 4))))
  refine l_callC (As := [.int (xs (Int32.toNatClampNeg (nI i + 1))), .int (xs (Int32.toNatClampNeg (nI i + 2))), .int (xs (Int32.toNatClampNeg (nI i + 3))), .int (xs (Int32.toNatClampNeg (nI i + 4)))]) (st := []) C0 dL_law_271 lk_L_23 rfl rfl ⟨by decide, by decide⟩ (Nat.le_of_ble_eq_true rfl) (by simp [k_v]) (hwI PR) (s_X7_insult hh) (fun v w1 hc => ?_)
  obtain ⟨r1, e1⟩ := PR.1 _ _ hc
  cases e1
  refine l_aload C0 dL_law_274 rfl ?_
  refine l_aload C0 dL_law_275 rfl ?_
  refine l_iload C0 dL_law_276 rfl ?_
  refine l_iconst (v := 1) C0 dL_law_277 (by decide) ?_
  refine l_iadd C0 dL_law_278 ?_
  refine l_sld C0 dL_law_279 hin1 ?_
  refine l_aload C0 dL_law_280 rfl ?_
  refine l_iload C0 dL_law_281 rfl ?_
  refine l_iconst (v := 2) C0 dL_law_282 (by decide) ?_
  refine l_iadd C0 dL_law_283 ?_
  refine l_sld C0 dL_law_284 hin2 ?_
  refine l_aload C0 dL_law_285 rfl ?_
  refine l_iload C0 dL_law_286 rfl ?_
  refine l_iconst (v := 3) C0 dL_law_287 (by decide) ?_
  refine l_iadd C0 dL_law_288 ?_
  refine l_sld C0 dL_law_289 hin3 ?_
  refine l_aload C0 dL_law_290 rfl ?_
  refine l_iload C0 dL_law_291 rfl ?_
  refine l_iconst (v := 4) C0 dL_law_292 (by decide) ?_
  refine l_iadd C0 dL_law_293 ?_
  refine l_sld C0 dL_law_294 hin4 ?_
  refine l_callM (As := [.int (xs (Int32.toNatClampNeg (nI i + 1))), .int (xs (Int32.toNatClampNeg (nI i + 2))), .int (xs (Int32.toNatClampNeg (nI i + 3))), .int (xs (Int32.toNatClampNeg (nI i + 4)))]) (st := [.int r1]) C0 dL_law_295 lk_L_26 rfl rfl ⟨by decide, by decide⟩ (Nat.le_of_ble_eq_true rfl) (by simp [k_v]) (hwI2 PR hc) (s_X8_insult hh.1) (fun v g1 hm => ?_)
  obtain ⟨e2, n1, c1, q1, hr⟩ := PR.2 _ _ _ _ hc hm
  cases e2
  refine l_icmp_eq (tgt := 1145) C0 dL_law_298 (by decide) (fun _ => ?_) (fun h => absurd rfl h)
  exact kk _ _ _ _ _ hr

set_option maxRecDepth 100000 in
set_option maxHeartbeats 1000000 in
theorem case_3 {p : Program} {l : Launch} {e : Env} {s : State} {m : MethodId} {below : List Frame} {meth : Method} {c : Code} {b L0 : Nat} {xs : Nat → Int32} (C0 : lw_At p s m meth c b L0 xs) (hL : L0 ≤ 3072) {i : Nat} (hi : i + 6 ≤ L0) {w g : kW} {n c9 q9 : Nat} (hh : Rel n c9 q9 w g) (kk : ∀ (w1 g1 : kW) (n1 c1 q1 : Nat), Rel n1 c1 q1 w1 g1 → LB p l e s m below meth c b 1145 [(0, .ref 0), (1, .ref 1), (2, .ref 2), (3, .int (nI i))] [] w1 g1) : LB p l e s m below meth c b 303 [(0, .ref 0), (1, .ref 1), (2, .ref 2), (3, .int (nI i))] [] w g := by
  have hin1 : vp_in (nI i + 1) L0 := vin hL hi 1 (by decide)
  refine l_aload C0 dL_law_303 rfl ?_
  refine l_aload C0 dL_law_304 rfl ?_
  refine l_iload C0 dL_law_305 rfl ?_
  refine l_iconst (v := 1) C0 dL_law_306 (by decide) ?_
  refine l_iadd C0 dL_law_307 ?_
  refine l_sld C0 dL_law_308 hin1 ?_
  have PR := pairR (R := R_sorry g (xs (Int32.toNatClampNeg (nI i + 1))))
  refine l_callC (As := [.int (xs (Int32.toNatClampNeg (nI i + 1)))]) (st := []) C0 dL_law_309 lk_L_27 rfl rfl ⟨by decide, by decide⟩ (Nat.le_of_ble_eq_true rfl) (by simp [k_v]) (hwI PR) (s_X7_sorry hh) (fun v w1 hc => ?_)
  obtain ⟨r1, e1⟩ := PR.1 _ _ hc
  cases e1
  refine l_aload C0 dL_law_312 rfl ?_
  refine l_aload C0 dL_law_313 rfl ?_
  refine l_iload C0 dL_law_314 rfl ?_
  refine l_iconst (v := 1) C0 dL_law_315 (by decide) ?_
  refine l_iadd C0 dL_law_316 ?_
  refine l_sld C0 dL_law_317 hin1 ?_
  refine l_callM (As := [.int (xs (Int32.toNatClampNeg (nI i + 1)))]) (st := [.int r1]) C0 dL_law_318 lk_L_31 rfl rfl ⟨by decide, by decide⟩ (Nat.le_of_ble_eq_true rfl) (by simp [k_v]) (hwI2 PR hc) (s_X8_sorry) (fun v g1 hm => ?_)
  obtain ⟨e2, n1, c1, q1, hr⟩ := PR.2 _ _ _ _ hc hm
  cases e2
  refine l_icmp_eq (tgt := 1145) C0 dL_law_321 (by decide) (fun _ => ?_) (fun h => absurd rfl h)
  exact kk _ _ _ _ _ hr

set_option maxRecDepth 100000 in
set_option maxHeartbeats 1000000 in
theorem case_4 {p : Program} {l : Launch} {e : Env} {s : State} {m : MethodId} {below : List Frame} {meth : Method} {c : Code} {b L0 : Nat} {xs : Nat → Int32} (C0 : lw_At p s m meth c b L0 xs) (hL : L0 ≤ 3072) {i : Nat} (hi : i + 6 ≤ L0) {w g : kW} {n c9 q9 : Nat} (hh : Rel n c9 q9 w g) (kk : ∀ (w1 g1 : kW) (n1 c1 q1 : Nat), Rel n1 c1 q1 w1 g1 → LB p l e s m below meth c b 1145 [(0, .ref 0), (1, .ref 1), (2, .ref 2), (3, .int (nI i))] [] w1 g1) : LB p l e s m below meth c b 326 [(0, .ref 0), (1, .ref 1), (2, .ref 2), (3, .int (nI i))] [] w g := by
  have hin1 : vp_in (nI i + 1) L0 := vin hL hi 1 (by decide)
  have hin2 : vp_in (nI i + 2) L0 := vin hL hi 2 (by decide)
  refine l_aload C0 dL_law_326 rfl ?_
  refine l_aload C0 dL_law_327 rfl ?_
  refine l_iload C0 dL_law_328 rfl ?_
  refine l_iconst (v := 1) C0 dL_law_329 (by decide) ?_
  refine l_iadd C0 dL_law_330 ?_
  refine l_sld C0 dL_law_331 hin1 ?_
  refine l_aload C0 dL_law_332 rfl ?_
  refine l_iload C0 dL_law_333 rfl ?_
  refine l_iconst (v := 2) C0 dL_law_334 (by decide) ?_
  refine l_iadd C0 dL_law_335 ?_
  refine l_sld C0 dL_law_336 hin2 ?_
  refine l_if_eq (tgt := 344) C0 dL_law_337 (by decide) (fun hz => ?_) (fun hz => ?_)
  · refine l_iconst (v := 0) C0 dL_law_344 (by decide) ?_
    have PR := pairR (R := R_arrest g (xs (Int32.toNatClampNeg (nI i + 1))) 0)
    refine l_callC (As := [.int (xs (Int32.toNatClampNeg (nI i + 1))), .int 0]) (st := []) C0 dL_law_345 lk_L_32 rfl rfl ⟨by decide, by decide⟩ (Nat.le_of_ble_eq_true rfl) (by simp [k_v]) (hwI PR) (s_X7_arrest hh (Or.inl rfl)) (fun v w1 hc => ?_)
    obtain ⟨r1, e1⟩ := PR.1 _ _ hc
    cases e1
    refine l_aload C0 dL_law_348 rfl ?_
    refine l_aload C0 dL_law_349 rfl ?_
    refine l_iload C0 dL_law_350 rfl ?_
    refine l_iconst (v := 1) C0 dL_law_351 (by decide) ?_
    refine l_iadd C0 dL_law_352 ?_
    refine l_sld C0 dL_law_353 hin1 ?_
    refine l_aload C0 dL_law_354 rfl ?_
    refine l_iload C0 dL_law_355 rfl ?_
    refine l_iconst (v := 2) C0 dL_law_356 (by decide) ?_
    refine l_iadd C0 dL_law_357 ?_
    refine l_sld C0 dL_law_358 hin2 ?_
    refine l_if_eq (tgt := 366) C0 dL_law_359 (by decide) (fun _ => ?_) (fun h => absurd hz h)
    refine l_iconst (v := 0) C0 dL_law_366 (by decide) ?_
    refine l_callM (As := [.int (xs (Int32.toNatClampNeg (nI i + 1))), .int 0]) (st := [.int r1]) C0 dL_law_367 lk_L_36 rfl rfl ⟨by decide, by decide⟩ (Nat.le_of_ble_eq_true rfl) (by simp [k_v]) (hwI2 PR hc) (s_X8_arrest hh.1 (Or.inl rfl)) (fun v g1 hm => ?_)
    obtain ⟨e2, n1, c1, q1, hr⟩ := PR.2 _ _ _ _ hc hm
    cases e2
    refine l_icmp_eq (tgt := 1145) C0 dL_law_370 (by decide) (fun _ => ?_) (fun h => absurd rfl h)
    exact kk _ _ _ _ _ hr
  · refine l_iconst (v := 1) C0 dL_law_340 (by decide) ?_
    refine l_goto (tgt := 345) C0 dL_law_341 (by decide) ?_
    have PR := pairR (R := R_arrest g (xs (Int32.toNatClampNeg (nI i + 1))) 1)
    refine l_callC (As := [.int (xs (Int32.toNatClampNeg (nI i + 1))), .int 1]) (st := []) C0 dL_law_345 lk_L_32 rfl rfl ⟨by decide, by decide⟩ (Nat.le_of_ble_eq_true rfl) (by simp [k_v]) (hwI PR) (s_X7_arrest hh (Or.inr rfl)) (fun v w1 hc => ?_)
    obtain ⟨r1, e1⟩ := PR.1 _ _ hc
    cases e1
    refine l_aload C0 dL_law_348 rfl ?_
    refine l_aload C0 dL_law_349 rfl ?_
    refine l_iload C0 dL_law_350 rfl ?_
    refine l_iconst (v := 1) C0 dL_law_351 (by decide) ?_
    refine l_iadd C0 dL_law_352 ?_
    refine l_sld C0 dL_law_353 hin1 ?_
    refine l_aload C0 dL_law_354 rfl ?_
    refine l_iload C0 dL_law_355 rfl ?_
    refine l_iconst (v := 2) C0 dL_law_356 (by decide) ?_
    refine l_iadd C0 dL_law_357 ?_
    refine l_sld C0 dL_law_358 hin2 ?_
    refine l_if_eq (tgt := 366) C0 dL_law_359 (by decide) (fun h => absurd h hz) (fun _ => ?_)
    refine l_iconst (v := 1) C0 dL_law_362 (by decide) ?_
    refine l_goto (tgt := 367) C0 dL_law_363 (by decide) ?_
    refine l_callM (As := [.int (xs (Int32.toNatClampNeg (nI i + 1))), .int 1]) (st := [.int r1]) C0 dL_law_367 lk_L_36 rfl rfl ⟨by decide, by decide⟩ (Nat.le_of_ble_eq_true rfl) (by simp [k_v]) (hwI2 PR hc) (s_X8_arrest hh.1 (Or.inr rfl)) (fun v g1 hm => ?_)
    obtain ⟨e2, n1, c1, q1, hr⟩ := PR.2 _ _ _ _ hc hm
    cases e2
    refine l_icmp_eq (tgt := 1145) C0 dL_law_370 (by decide) (fun _ => ?_) (fun h => absurd rfl h)
    exact kk _ _ _ _ _ hr

set_option maxRecDepth 100000 in
set_option maxHeartbeats 1000000 in
theorem case_5 {p : Program} {l : Launch} {e : Env} {s : State} {m : MethodId} {below : List Frame} {meth : Method} {c : Code} {b L0 : Nat} {xs : Nat → Int32} (C0 : lw_At p s m meth c b L0 xs) (hL : L0 ≤ 3072) {i : Nat} (hi : i + 6 ≤ L0) {w g : kW} {n c9 q9 : Nat} (hh : Rel n c9 q9 w g) (kk : ∀ (w1 g1 : kW) (n1 c1 q1 : Nat), Rel n1 c1 q1 w1 g1 → LB p l e s m below meth c b 1145 [(0, .ref 0), (1, .ref 1), (2, .ref 2), (3, .int (nI i))] [] w1 g1) : LB p l e s m below meth c b 375 [(0, .ref 0), (1, .ref 1), (2, .ref 2), (3, .int (nI i))] [] w g := by
  have hin1 : vp_in (nI i + 1) L0 := vin hL hi 1 (by decide)
  refine l_aload C0 dL_law_375 rfl ?_
  refine l_aload C0 dL_law_376 rfl ?_
  refine l_iload C0 dL_law_377 rfl ?_
  refine l_iconst (v := 1) C0 dL_law_378 (by decide) ?_
  refine l_iadd C0 dL_law_379 ?_
  refine l_sld C0 dL_law_380 hin1 ?_
  have PR := pairQ (A := A_meetings n c9 g (xs (Int32.toNatClampNeg (nI i + 1)))) hh
  refine l_callC (As := [.int (xs (Int32.toNatClampNeg (nI i + 1)))]) (st := []) C0 dL_law_381 lk_L_37 rfl rfl ⟨by decide, by decide⟩ (Nat.le_of_ble_eq_true rfl) (by simp [k_v]) (hwI PR) (s_X7_meetings hh) (fun v w1 hc => ?_)
  obtain ⟨r1, e1⟩ := PR.1 _ _ hc
  cases e1
  refine l_aload C0 dL_law_384 rfl ?_
  refine l_aload C0 dL_law_385 rfl ?_
  refine l_iload C0 dL_law_386 rfl ?_
  refine l_iconst (v := 1) C0 dL_law_387 (by decide) ?_
  refine l_iadd C0 dL_law_388 ?_
  refine l_sld C0 dL_law_389 hin1 ?_
  refine l_callM (As := [.int (xs (Int32.toNatClampNeg (nI i + 1)))]) (st := [.int r1]) C0 dL_law_390 lk_L_40 rfl rfl ⟨by decide, by decide⟩ (Nat.le_of_ble_eq_true rfl) (by simp [k_v]) (hwI2 PR hc) (s_X8_meetings hh.1) (fun v g1 hm => ?_)
  obtain ⟨e2, n1, c1, q1, hr⟩ := PR.2 _ _ _ _ hc hm
  cases e2
  refine l_icmp_eq (tgt := 1145) C0 dL_law_393 (by decide) (fun _ => ?_) (fun h => absurd rfl h)
  exact kk _ _ _ _ _ hr

set_option maxRecDepth 100000 in
set_option maxHeartbeats 1000000 in
theorem case_6 {p : Program} {l : Launch} {e : Env} {s : State} {m : MethodId} {below : List Frame} {meth : Method} {c : Code} {b L0 : Nat} {xs : Nat → Int32} (C0 : lw_At p s m meth c b L0 xs) (hL : L0 ≤ 3072) {i : Nat} (hi : i + 6 ≤ L0) {w g : kW} {n c9 q9 : Nat} (hh : Rel n c9 q9 w g) (kk : ∀ (w1 g1 : kW) (n1 c1 q1 : Nat), Rel n1 c1 q1 w1 g1 → LB p l e s m below meth c b 1145 [(0, .ref 0), (1, .ref 1), (2, .ref 2), (3, .int (nI i))] [] w1 g1) : LB p l e s m below meth c b 398 [(0, .ref 0), (1, .ref 1), (2, .ref 2), (3, .int (nI i))] [] w g := by
  have hin1 : vp_in (nI i + 1) L0 := vin hL hi 1 (by decide)
  have hin2 : vp_in (nI i + 2) L0 := vin hL hi 2 (by decide)
  refine l_aload C0 dL_law_398 rfl ?_
  refine l_aload C0 dL_law_399 rfl ?_
  refine l_iload C0 dL_law_400 rfl ?_
  refine l_iconst (v := 1) C0 dL_law_401 (by decide) ?_
  refine l_iadd C0 dL_law_402 ?_
  refine l_sld C0 dL_law_403 hin1 ?_
  refine l_aload C0 dL_law_404 rfl ?_
  refine l_iload C0 dL_law_405 rfl ?_
  refine l_iconst (v := 2) C0 dL_law_406 (by decide) ?_
  refine l_iadd C0 dL_law_407 ?_
  refine l_sld C0 dL_law_408 hin2 ?_
  have PR := pairQ (A := A_met n c9 g (xs (Int32.toNatClampNeg (nI i + 1))) (xs (Int32.toNatClampNeg (nI i + 2)))) hh
  refine l_callC (As := [.int (xs (Int32.toNatClampNeg (nI i + 1))), .int (xs (Int32.toNatClampNeg (nI i + 2)))]) (st := []) C0 dL_law_409 lk_L_41 rfl rfl ⟨by decide, by decide⟩ (Nat.le_of_ble_eq_true rfl) (by simp [k_v]) (hwI PR) (s_X7_met hh) (fun v w1 hc => ?_)
  obtain ⟨r1, e1⟩ := PR.1 _ _ hc
  cases e1
  refine l_aload C0 dL_law_412 rfl ?_
  refine l_aload C0 dL_law_413 rfl ?_
  refine l_iload C0 dL_law_414 rfl ?_
  refine l_iconst (v := 1) C0 dL_law_415 (by decide) ?_
  refine l_iadd C0 dL_law_416 ?_
  refine l_sld C0 dL_law_417 hin1 ?_
  refine l_aload C0 dL_law_418 rfl ?_
  refine l_iload C0 dL_law_419 rfl ?_
  refine l_iconst (v := 2) C0 dL_law_420 (by decide) ?_
  refine l_iadd C0 dL_law_421 ?_
  refine l_sld C0 dL_law_422 hin2 ?_
  refine l_callM (As := [.int (xs (Int32.toNatClampNeg (nI i + 1))), .int (xs (Int32.toNatClampNeg (nI i + 2)))]) (st := [.int r1]) C0 dL_law_423 lk_L_44 rfl rfl ⟨by decide, by decide⟩ (Nat.le_of_ble_eq_true rfl) (by simp [k_v]) (hwI2 PR hc) (s_X8_met hh.1) (fun v g1 hm => ?_)
  obtain ⟨e2, n1, c1, q1, hr⟩ := PR.2 _ _ _ _ hc hm
  cases e2
  refine l_icmp_eq (tgt := 1145) C0 dL_law_426 (by decide) (fun _ => ?_) (fun h => absurd rfl h)
  exact kk _ _ _ _ _ hr

set_option maxRecDepth 100000 in
set_option maxHeartbeats 1000000 in
theorem case_7 {p : Program} {l : Launch} {e : Env} {s : State} {m : MethodId} {below : List Frame} {meth : Method} {c : Code} {b L0 : Nat} {xs : Nat → Int32} (C0 : lw_At p s m meth c b L0 xs) (hL : L0 ≤ 3072) {i : Nat} (hi : i + 6 ≤ L0) {w g : kW} {n c9 q9 : Nat} (hh : Rel n c9 q9 w g) (kk : ∀ (w1 g1 : kW) (n1 c1 q1 : Nat), Rel n1 c1 q1 w1 g1 → LB p l e s m below meth c b 1145 [(0, .ref 0), (1, .ref 1), (2, .ref 2), (3, .int (nI i))] [] w1 g1) : LB p l e s m below meth c b 431 [(0, .ref 0), (1, .ref 1), (2, .ref 2), (3, .int (nI i))] [] w g := by
  have hin1 : vp_in (nI i + 1) L0 := vin hL hi 1 (by decide)
  have hin2 : vp_in (nI i + 2) L0 := vin hL hi 2 (by decide)
  refine l_aload C0 dL_law_431 rfl ?_
  refine l_aload C0 dL_law_432 rfl ?_
  refine l_iload C0 dL_law_433 rfl ?_
  refine l_iconst (v := 1) C0 dL_law_434 (by decide) ?_
  refine l_iadd C0 dL_law_435 ?_
  refine l_sld C0 dL_law_436 hin1 ?_
  refine l_aload C0 dL_law_437 rfl ?_
  refine l_iload C0 dL_law_438 rfl ?_
  refine l_iconst (v := 2) C0 dL_law_439 (by decide) ?_
  refine l_iadd C0 dL_law_440 ?_
  refine l_sld C0 dL_law_441 hin2 ?_
  have PR := pairQ (A := A_free n c9 g (xs (Int32.toNatClampNeg (nI i + 1))) (xs (Int32.toNatClampNeg (nI i + 2)))) hh
  refine l_callC (As := [.int (xs (Int32.toNatClampNeg (nI i + 1))), .int (xs (Int32.toNatClampNeg (nI i + 2)))]) (st := []) C0 dL_law_442 lk_L_45 rfl rfl ⟨by decide, by decide⟩ (Nat.le_of_ble_eq_true rfl) (by simp [k_v]) (hwI PR) (s_X7_free hh) (fun v w1 hc => ?_)
  obtain ⟨r1, e1⟩ := PR.1 _ _ hc
  cases e1
  refine l_aload C0 dL_law_445 rfl ?_
  refine l_aload C0 dL_law_446 rfl ?_
  refine l_iload C0 dL_law_447 rfl ?_
  refine l_iconst (v := 1) C0 dL_law_448 (by decide) ?_
  refine l_iadd C0 dL_law_449 ?_
  refine l_sld C0 dL_law_450 hin1 ?_
  refine l_aload C0 dL_law_451 rfl ?_
  refine l_iload C0 dL_law_452 rfl ?_
  refine l_iconst (v := 2) C0 dL_law_453 (by decide) ?_
  refine l_iadd C0 dL_law_454 ?_
  refine l_sld C0 dL_law_455 hin2 ?_
  refine l_callM (As := [.int (xs (Int32.toNatClampNeg (nI i + 1))), .int (xs (Int32.toNatClampNeg (nI i + 2)))]) (st := [.int r1]) C0 dL_law_456 lk_L_48 rfl rfl ⟨by decide, by decide⟩ (Nat.le_of_ble_eq_true rfl) (by simp [k_v]) (hwI2 PR hc) (s_X8_free hh.1) (fun v g1 hm => ?_)
  obtain ⟨e2, n1, c1, q1, hr⟩ := PR.2 _ _ _ _ hc hm
  cases e2
  refine l_icmp_eq (tgt := 1145) C0 dL_law_459 (by decide) (fun _ => ?_) (fun h => absurd rfl h)
  exact kk _ _ _ _ _ hr

set_option maxRecDepth 100000 in
set_option maxHeartbeats 1000000 in
theorem case_8 {p : Program} {l : Launch} {e : Env} {s : State} {m : MethodId} {below : List Frame} {meth : Method} {c : Code} {b L0 : Nat} {xs : Nat → Int32} (C0 : lw_At p s m meth c b L0 xs) (hL : L0 ≤ 3072) {i : Nat} (hi : i + 6 ≤ L0) {w g : kW} {n c9 q9 : Nat} (hh : Rel n c9 q9 w g) (kk : ∀ (w1 g1 : kW) (n1 c1 q1 : Nat), Rel n1 c1 q1 w1 g1 → LB p l e s m below meth c b 1145 [(0, .ref 0), (1, .ref 1), (2, .ref 2), (3, .int (nI i))] [] w1 g1) : LB p l e s m below meth c b 464 [(0, .ref 0), (1, .ref 1), (2, .ref 2), (3, .int (nI i))] [] w g := by
  have hin1 : vp_in (nI i + 1) L0 := vin hL hi 1 (by decide)
  have hin2 : vp_in (nI i + 2) L0 := vin hL hi 2 (by decide)
  have hin3 : vp_in (nI i + 3) L0 := vin hL hi 3 (by decide)
  refine l_aload C0 dL_law_464 rfl ?_
  refine l_aload C0 dL_law_465 rfl ?_
  refine l_iload C0 dL_law_466 rfl ?_
  refine l_iconst (v := 1) C0 dL_law_467 (by decide) ?_
  refine l_iadd C0 dL_law_468 ?_
  refine l_sld C0 dL_law_469 hin1 ?_
  refine l_aload C0 dL_law_470 rfl ?_
  refine l_iload C0 dL_law_471 rfl ?_
  refine l_iconst (v := 2) C0 dL_law_472 (by decide) ?_
  refine l_iadd C0 dL_law_473 ?_
  refine l_sld C0 dL_law_474 hin2 ?_
  refine l_aload C0 dL_law_475 rfl ?_
  refine l_iload C0 dL_law_476 rfl ?_
  refine l_iconst (v := 3) C0 dL_law_477 (by decide) ?_
  refine l_iadd C0 dL_law_478 ?_
  refine l_sld C0 dL_law_479 hin3 ?_
  have PR := pairQ (A := A_second n c9 g (xs (Int32.toNatClampNeg (nI i + 1))) (xs (Int32.toNatClampNeg (nI i + 2))) (xs (Int32.toNatClampNeg (nI i + 3)))) hh
  refine l_callC (As := [.int (xs (Int32.toNatClampNeg (nI i + 1))), .int (xs (Int32.toNatClampNeg (nI i + 2))), .int (xs (Int32.toNatClampNeg (nI i + 3)))]) (st := []) C0 dL_law_480 lk_L_49 rfl rfl ⟨by decide, by decide⟩ (Nat.le_of_ble_eq_true rfl) (by simp [k_v]) (hwI PR) (s_X7_second hh) (fun v w1 hc => ?_)
  obtain ⟨r1, e1⟩ := PR.1 _ _ hc
  cases e1
  refine l_aload C0 dL_law_483 rfl ?_
  refine l_aload C0 dL_law_484 rfl ?_
  refine l_iload C0 dL_law_485 rfl ?_
  refine l_iconst (v := 1) C0 dL_law_486 (by decide) ?_
  refine l_iadd C0 dL_law_487 ?_
  refine l_sld C0 dL_law_488 hin1 ?_
  refine l_aload C0 dL_law_489 rfl ?_
  refine l_iload C0 dL_law_490 rfl ?_
  refine l_iconst (v := 2) C0 dL_law_491 (by decide) ?_
  refine l_iadd C0 dL_law_492 ?_
  refine l_sld C0 dL_law_493 hin2 ?_
  refine l_aload C0 dL_law_494 rfl ?_
  refine l_iload C0 dL_law_495 rfl ?_
  refine l_iconst (v := 3) C0 dL_law_496 (by decide) ?_
  refine l_iadd C0 dL_law_497 ?_
  refine l_sld C0 dL_law_498 hin3 ?_
  refine l_callM (As := [.int (xs (Int32.toNatClampNeg (nI i + 1))), .int (xs (Int32.toNatClampNeg (nI i + 2))), .int (xs (Int32.toNatClampNeg (nI i + 3)))]) (st := [.int r1]) C0 dL_law_499 lk_L_53 rfl rfl ⟨by decide, by decide⟩ (Nat.le_of_ble_eq_true rfl) (by simp [k_v]) (hwI2 PR hc) (s_X8_second hh.1) (fun v g1 hm => ?_)
  obtain ⟨e2, n1, c1, q1, hr⟩ := PR.2 _ _ _ _ hc hm
  cases e2
  refine l_icmp_eq (tgt := 1145) C0 dL_law_502 (by decide) (fun _ => ?_) (fun h => absurd rfl h)
  exact kk _ _ _ _ _ hr

set_option maxRecDepth 100000 in
set_option maxHeartbeats 1000000 in
theorem case_9 {p : Program} {l : Launch} {e : Env} {s : State} {m : MethodId} {below : List Frame} {meth : Method} {c : Code} {b L0 : Nat} {xs : Nat → Int32} (C0 : lw_At p s m meth c b L0 xs) (hL : L0 ≤ 3072) {i : Nat} (hi : i + 6 ≤ L0) {w g : kW} {n c9 q9 : Nat} (hh : Rel n c9 q9 w g) (kk : ∀ (w1 g1 : kW) (n1 c1 q1 : Nat), Rel n1 c1 q1 w1 g1 → LB p l e s m below meth c b 1145 [(0, .ref 0), (1, .ref 1), (2, .ref 2), (3, .int (nI i))] [] w1 g1) : LB p l e s m below meth c b 507 [(0, .ref 0), (1, .ref 1), (2, .ref 2), (3, .int (nI i))] [] w g := by
  have hin1 : vp_in (nI i + 1) L0 := vin hL hi 1 (by decide)
  refine l_aload C0 dL_law_507 rfl ?_
  refine l_aload C0 dL_law_508 rfl ?_
  refine l_iload C0 dL_law_509 rfl ?_
  refine l_iconst (v := 1) C0 dL_law_510 (by decide) ?_
  refine l_iadd C0 dL_law_511 ?_
  refine l_sld C0 dL_law_512 hin1 ?_
  have PR := pairQ (A := A_worth n c9 g (xs (Int32.toNatClampNeg (nI i + 1)))) hh
  refine l_callC (As := [.int (xs (Int32.toNatClampNeg (nI i + 1)))]) (st := []) C0 dL_law_513 lk_L_54 rfl rfl ⟨by decide, by decide⟩ (Nat.le_of_ble_eq_true rfl) (by simp [k_v]) (hwI PR) (s_X7_worth hh) (fun v w1 hc => ?_)
  obtain ⟨r1, e1⟩ := PR.1 _ _ hc
  cases e1
  refine l_aload C0 dL_law_516 rfl ?_
  refine l_aload C0 dL_law_517 rfl ?_
  refine l_iload C0 dL_law_518 rfl ?_
  refine l_iconst (v := 1) C0 dL_law_519 (by decide) ?_
  refine l_iadd C0 dL_law_520 ?_
  refine l_sld C0 dL_law_521 hin1 ?_
  refine l_callM (As := [.int (xs (Int32.toNatClampNeg (nI i + 1)))]) (st := [.int r1]) C0 dL_law_522 lk_L_57 rfl rfl ⟨by decide, by decide⟩ (Nat.le_of_ble_eq_true rfl) (by simp [k_v]) (hwI2 PR hc) (s_X8_worth hh.1) (fun v g1 hm => ?_)
  obtain ⟨e2, n1, c1, q1, hr⟩ := PR.2 _ _ _ _ hc hm
  cases e2
  refine l_icmp_eq (tgt := 1145) C0 dL_law_525 (by decide) (fun _ => ?_) (fun h => absurd rfl h)
  exact kk _ _ _ _ _ hr

set_option maxRecDepth 100000 in
set_option maxHeartbeats 1000000 in
theorem case_10 {p : Program} {l : Launch} {e : Env} {s : State} {m : MethodId} {below : List Frame} {meth : Method} {c : Code} {b L0 : Nat} {xs : Nat → Int32} (C0 : lw_At p s m meth c b L0 xs) (hL : L0 ≤ 3072) {i : Nat} (hi : i + 6 ≤ L0) {w g : kW} {n c9 q9 : Nat} (hh : Rel n c9 q9 w g) (kk : ∀ (w1 g1 : kW) (n1 c1 q1 : Nat), Rel n1 c1 q1 w1 g1 → LB p l e s m below meth c b 1145 [(0, .ref 0), (1, .ref 1), (2, .ref 2), (3, .int (nI i))] [] w1 g1) : LB p l e s m below meth c b 530 [(0, .ref 0), (1, .ref 1), (2, .ref 2), (3, .int (nI i))] [] w g := by
  have hin1 : vp_in (nI i + 1) L0 := vin hL hi 1 (by decide)
  refine l_aload C0 dL_law_530 rfl ?_
  refine l_aload C0 dL_law_531 rfl ?_
  refine l_iload C0 dL_law_532 rfl ?_
  refine l_iconst (v := 1) C0 dL_law_533 (by decide) ?_
  refine l_iadd C0 dL_law_534 ?_
  refine l_sld C0 dL_law_535 hin1 ?_
  have PR := pairP (A := PA_arr n c9 g (xs (Int32.toNatClampNeg (nI i + 1)))) hh arr_1 arr_2
  refine l_callC (As := [.int (xs (Int32.toNatClampNeg (nI i + 1)))]) (st := []) C0 dL_law_536 lk_L_58 rfl rfl ⟨by decide, by decide⟩ (Nat.le_of_ble_eq_true rfl) (by simp [k_v]) (hwI PR) (s_X7_arrests hh) (fun v w1 hc => ?_)
  obtain ⟨r1, e1⟩ := PR.1 _ _ hc
  cases e1
  refine l_aload C0 dL_law_539 rfl ?_
  refine l_aload C0 dL_law_540 rfl ?_
  refine l_iload C0 dL_law_541 rfl ?_
  refine l_iconst (v := 1) C0 dL_law_542 (by decide) ?_
  refine l_iadd C0 dL_law_543 ?_
  refine l_sld C0 dL_law_544 hin1 ?_
  refine l_callM (As := [.int (xs (Int32.toNatClampNeg (nI i + 1)))]) (st := [.int r1]) C0 dL_law_545 lk_L_61 rfl rfl ⟨by decide, by decide⟩ (Nat.le_of_ble_eq_true rfl) (by simp [k_v]) (hwI2 PR hc) (s_X8_arrests hh.1) (fun v g1 hm => ?_)
  obtain ⟨e2, n1, c1, q1, hr⟩ := PR.2 _ _ _ _ hc hm
  cases e2
  refine l_icmp_eq (tgt := 1145) C0 dL_law_548 (by decide) (fun _ => ?_) (fun h => absurd rfl h)
  exact kk _ _ _ _ _ hr

set_option maxRecDepth 100000 in
set_option maxHeartbeats 1000000 in
theorem case_11 {p : Program} {l : Launch} {e : Env} {s : State} {m : MethodId} {below : List Frame} {meth : Method} {c : Code} {b L0 : Nat} {xs : Nat → Int32} (C0 : lw_At p s m meth c b L0 xs) (hL : L0 ≤ 3072) {i : Nat} (hi : i + 6 ≤ L0) {w g : kW} {n c9 q9 : Nat} (hh : Rel n c9 q9 w g) (kk : ∀ (w1 g1 : kW) (n1 c1 q1 : Nat), Rel n1 c1 q1 w1 g1 → LB p l e s m below meth c b 1145 [(0, .ref 0), (1, .ref 1), (2, .ref 2), (3, .int (nI i))] [] w1 g1) : LB p l e s m below meth c b 553 [(0, .ref 0), (1, .ref 1), (2, .ref 2), (3, .int (nI i))] [] w g := by
  have hin1 : vp_in (nI i + 1) L0 := vin hL hi 1 (by decide)
  have hin2 : vp_in (nI i + 2) L0 := vin hL hi 2 (by decide)
  have hin3 : vp_in (nI i + 3) L0 := vin hL hi 3 (by decide)
  refine l_aload C0 dL_law_553 rfl ?_
  refine l_aload C0 dL_law_554 rfl ?_
  refine l_iload C0 dL_law_555 rfl ?_
  refine l_iconst (v := 1) C0 dL_law_556 (by decide) ?_
  refine l_iadd C0 dL_law_557 ?_
  refine l_sld C0 dL_law_558 hin1 ?_
  refine l_aload C0 dL_law_559 rfl ?_
  refine l_iload C0 dL_law_560 rfl ?_
  refine l_iconst (v := 2) C0 dL_law_561 (by decide) ?_
  refine l_iadd C0 dL_law_562 ?_
  refine l_sld C0 dL_law_563 hin2 ?_
  refine l_aload C0 dL_law_564 rfl ?_
  refine l_iload C0 dL_law_565 rfl ?_
  refine l_iconst (v := 3) C0 dL_law_566 (by decide) ?_
  refine l_iadd C0 dL_law_567 ?_
  refine l_sld C0 dL_law_568 hin3 ?_
  have PR := pairPt (A := PA_prov n c9 g (xs (Int32.toNatClampNeg (nI i + 1))) (xs (Int32.toNatClampNeg (nI i + 2))) (xs (Int32.toNatClampNeg (nI i + 3)))) hh pro_1 (pro_2 hh.1.1.le)
  refine l_callC (As := [.int (xs (Int32.toNatClampNeg (nI i + 1))), .int (xs (Int32.toNatClampNeg (nI i + 2))), .int (xs (Int32.toNatClampNeg (nI i + 3)))]) (st := []) C0 dL_law_569 lk_L_62 rfl rfl ⟨by decide, by decide⟩ (Nat.le_of_ble_eq_true rfl) (by simp [k_v]) (hwI PR) (s_X7_provoked hh) (fun v w1 hc => ?_)
  obtain ⟨r1, e1⟩ := PR.1 _ _ hc
  cases e1
  refine l_aload C0 dL_law_572 rfl ?_
  refine l_aload C0 dL_law_573 rfl ?_
  refine l_iload C0 dL_law_574 rfl ?_
  refine l_iconst (v := 1) C0 dL_law_575 (by decide) ?_
  refine l_iadd C0 dL_law_576 ?_
  refine l_sld C0 dL_law_577 hin1 ?_
  refine l_aload C0 dL_law_578 rfl ?_
  refine l_iload C0 dL_law_579 rfl ?_
  refine l_iconst (v := 2) C0 dL_law_580 (by decide) ?_
  refine l_iadd C0 dL_law_581 ?_
  refine l_sld C0 dL_law_582 hin2 ?_
  refine l_aload C0 dL_law_583 rfl ?_
  refine l_iload C0 dL_law_584 rfl ?_
  refine l_iconst (v := 3) C0 dL_law_585 (by decide) ?_
  refine l_iadd C0 dL_law_586 ?_
  refine l_sld C0 dL_law_587 hin3 ?_
  refine l_callM (As := [.int (xs (Int32.toNatClampNeg (nI i + 1))), .int (xs (Int32.toNatClampNeg (nI i + 2))), .int (xs (Int32.toNatClampNeg (nI i + 3)))]) (st := [.int r1]) C0 dL_law_588 lk_L_65 rfl rfl ⟨by decide, by decide⟩ (Nat.le_of_ble_eq_true rfl) (by simp [k_v]) (hwI2 PR hc) (s_X8_provoked hh.1) (fun v g1 hm => ?_)
  obtain ⟨e2, n1, c1, q1, hr⟩ := PR.2 _ _ _ _ hc hm
  cases e2
  refine l_icmp_eq (tgt := 1145) C0 dL_law_591 (by decide) (fun _ => ?_) (fun h => absurd rfl h)
  exact kk _ _ _ _ _ hr

set_option maxRecDepth 100000 in
set_option maxHeartbeats 1000000 in
theorem case_12 {p : Program} {l : Launch} {e : Env} {s : State} {m : MethodId} {below : List Frame} {meth : Method} {c : Code} {b L0 : Nat} {xs : Nat → Int32} (C0 : lw_At p s m meth c b L0 xs) (hL : L0 ≤ 3072) {i : Nat} (hi : i + 6 ≤ L0) {w g : kW} {n c9 q9 : Nat} (hh : Rel n c9 q9 w g) (kk : ∀ (w1 g1 : kW) (n1 c1 q1 : Nat), Rel n1 c1 q1 w1 g1 → LB p l e s m below meth c b 1145 [(0, .ref 0), (1, .ref 1), (2, .ref 2), (3, .int (nI i))] [] w1 g1) : LB p l e s m below meth c b 596 [(0, .ref 0), (1, .ref 1), (2, .ref 2), (3, .int (nI i))] [] w g := by
  have hin1 : vp_in (nI i + 1) L0 := vin hL hi 1 (by decide)
  have hin2 : vp_in (nI i + 2) L0 := vin hL hi 2 (by decide)
  have hin3 : vp_in (nI i + 3) L0 := vin hL hi 3 (by decide)
  refine l_aload C0 dL_law_596 rfl ?_
  refine l_aload C0 dL_law_597 rfl ?_
  refine l_iload C0 dL_law_598 rfl ?_
  refine l_iconst (v := 1) C0 dL_law_599 (by decide) ?_
  refine l_iadd C0 dL_law_600 ?_
  refine l_sld C0 dL_law_601 hin1 ?_
  refine l_aload C0 dL_law_602 rfl ?_
  refine l_iload C0 dL_law_603 rfl ?_
  refine l_iconst (v := 2) C0 dL_law_604 (by decide) ?_
  refine l_iadd C0 dL_law_605 ?_
  refine l_sld C0 dL_law_606 hin2 ?_
  refine l_aload C0 dL_law_607 rfl ?_
  refine l_iload C0 dL_law_608 rfl ?_
  refine l_iconst (v := 3) C0 dL_law_609 (by decide) ?_
  refine l_iadd C0 dL_law_610 ?_
  refine l_sld C0 dL_law_611 hin3 ?_
  have PR := pairQL (A := A_odds n c9 g (xs (Int32.toNatClampNeg (nI i + 1))) (xs (Int32.toNatClampNeg (nI i + 2))) (xs (Int32.toNatClampNeg (nI i + 3)))) hh
  refine l_callC (As := [.int (xs (Int32.toNatClampNeg (nI i + 1))), .int (xs (Int32.toNatClampNeg (nI i + 2))), .int (xs (Int32.toNatClampNeg (nI i + 3)))]) (st := []) C0 dL_law_612 lk_L_66 rfl rfl ⟨by decide, by decide⟩ (Nat.le_of_ble_eq_true rfl) (by simp [k_v]) (hwL PR) (s_X7_odds hh) (fun v w1 hc => ?_)
  obtain ⟨r1, e1⟩ := PR.1 _ _ hc
  cases e1
  refine l_aload C0 dL_law_615 rfl ?_
  refine l_aload C0 dL_law_616 rfl ?_
  refine l_iload C0 dL_law_617 rfl ?_
  refine l_iconst (v := 1) C0 dL_law_618 (by decide) ?_
  refine l_iadd C0 dL_law_619 ?_
  refine l_sld C0 dL_law_620 hin1 ?_
  refine l_aload C0 dL_law_621 rfl ?_
  refine l_iload C0 dL_law_622 rfl ?_
  refine l_iconst (v := 2) C0 dL_law_623 (by decide) ?_
  refine l_iadd C0 dL_law_624 ?_
  refine l_sld C0 dL_law_625 hin2 ?_
  refine l_aload C0 dL_law_626 rfl ?_
  refine l_iload C0 dL_law_627 rfl ?_
  refine l_iconst (v := 3) C0 dL_law_628 (by decide) ?_
  refine l_iadd C0 dL_law_629 ?_
  refine l_sld C0 dL_law_630 hin3 ?_
  refine l_callM (As := [.int (xs (Int32.toNatClampNeg (nI i + 1))), .int (xs (Int32.toNatClampNeg (nI i + 2))), .int (xs (Int32.toNatClampNeg (nI i + 3)))]) (st := [.long r1]) C0 dL_law_631 lk_L_70 rfl rfl ⟨by decide, by decide⟩ (Nat.le_of_ble_eq_true rfl) (by simp [k_v]) (hwL2 PR hc) (s_X8_odds hh.1) (fun v g1 hm => ?_)
  obtain ⟨e2, n1, c1, q1, hr⟩ := PR.2 _ _ _ _ hc hm
  cases e2
  refine l_lcmp C0 dL_law_634 ?_
  refine l_if_eq (tgt := 1145) C0 dL_law_635 (by decide) (fun _ => ?_) (fun h => absurd (lg_cmp0.mpr rfl) h)
  exact kk _ _ _ _ _ hr

set_option maxRecDepth 100000 in
set_option maxHeartbeats 1000000 in
theorem case_13 {p : Program} {l : Launch} {e : Env} {s : State} {m : MethodId} {below : List Frame} {meth : Method} {c : Code} {b L0 : Nat} {xs : Nat → Int32} (C0 : lw_At p s m meth c b L0 xs) (hL : L0 ≤ 3072) {i : Nat} (hi : i + 6 ≤ L0) {w g : kW} {n c9 q9 : Nat} (hh : Rel n c9 q9 w g) (kk : ∀ (w1 g1 : kW) (n1 c1 q1 : Nat), Rel n1 c1 q1 w1 g1 → LB p l e s m below meth c b 1145 [(0, .ref 0), (1, .ref 1), (2, .ref 2), (3, .int (nI i))] [] w1 g1) : LB p l e s m below meth c b 640 [(0, .ref 0), (1, .ref 1), (2, .ref 2), (3, .int (nI i))] [] w g := by
  have hin1 : vp_in (nI i + 1) L0 := vin hL hi 1 (by decide)
  have hin2 : vp_in (nI i + 2) L0 := vin hL hi 2 (by decide)
  have hin3 : vp_in (nI i + 3) L0 := vin hL hi 3 (by decide)
  refine l_aload C0 dL_law_640 rfl ?_
  refine l_aload C0 dL_law_641 rfl ?_
  refine l_iload C0 dL_law_642 rfl ?_
  refine l_iconst (v := 1) C0 dL_law_643 (by decide) ?_
  refine l_iadd C0 dL_law_644 ?_
  refine l_sld C0 dL_law_645 hin1 ?_
  refine l_aload C0 dL_law_646 rfl ?_
  refine l_iload C0 dL_law_647 rfl ?_
  refine l_iconst (v := 2) C0 dL_law_648 (by decide) ?_
  refine l_iadd C0 dL_law_649 ?_
  refine l_sld C0 dL_law_650 hin2 ?_
  refine l_aload C0 dL_law_651 rfl ?_
  refine l_iload C0 dL_law_652 rfl ?_
  refine l_iconst (v := 3) C0 dL_law_653 (by decide) ?_
  refine l_iadd C0 dL_law_654 ?_
  refine l_sld C0 dL_law_655 hin3 ?_
  refine l_if_eq (tgt := 663) C0 dL_law_656 (by decide) (fun hz => ?_) (fun hz => ?_)
  · refine l_iconst (v := 0) C0 dL_law_663 (by decide) ?_
    have PR := pairR (R := R_reading g (xs (Int32.toNatClampNeg (nI i + 1))) (xs (Int32.toNatClampNeg (nI i + 2))) 0)
    refine l_callC (As := [.int (xs (Int32.toNatClampNeg (nI i + 1))), .int (xs (Int32.toNatClampNeg (nI i + 2))), .int 0]) (st := []) C0 dL_law_664 lk_L_71 rfl rfl ⟨by decide, by decide⟩ (Nat.le_of_ble_eq_true rfl) (by simp [k_v]) (hwI PR) (s_X7_reading hh (Or.inl rfl)) (fun v w1 hc => ?_)
    obtain ⟨r1, e1⟩ := PR.1 _ _ hc
    cases e1
    refine l_aload C0 dL_law_667 rfl ?_
    refine l_aload C0 dL_law_668 rfl ?_
    refine l_iload C0 dL_law_669 rfl ?_
    refine l_iconst (v := 1) C0 dL_law_670 (by decide) ?_
    refine l_iadd C0 dL_law_671 ?_
    refine l_sld C0 dL_law_672 hin1 ?_
    refine l_aload C0 dL_law_673 rfl ?_
    refine l_iload C0 dL_law_674 rfl ?_
    refine l_iconst (v := 2) C0 dL_law_675 (by decide) ?_
    refine l_iadd C0 dL_law_676 ?_
    refine l_sld C0 dL_law_677 hin2 ?_
    refine l_aload C0 dL_law_678 rfl ?_
    refine l_iload C0 dL_law_679 rfl ?_
    refine l_iconst (v := 3) C0 dL_law_680 (by decide) ?_
    refine l_iadd C0 dL_law_681 ?_
    refine l_sld C0 dL_law_682 hin3 ?_
    refine l_if_eq (tgt := 690) C0 dL_law_683 (by decide) (fun _ => ?_) (fun h => absurd hz h)
    refine l_iconst (v := 0) C0 dL_law_690 (by decide) ?_
    refine l_callM (As := [.int (xs (Int32.toNatClampNeg (nI i + 1))), .int (xs (Int32.toNatClampNeg (nI i + 2))), .int 0]) (st := [.int r1]) C0 dL_law_691 lk_L_75 rfl rfl ⟨by decide, by decide⟩ (Nat.le_of_ble_eq_true rfl) (by simp [k_v]) (hwI2 PR hc) (s_X8_reading hh.1 (Or.inl rfl)) (fun v g1 hm => ?_)
    obtain ⟨e2, n1, c1, q1, hr⟩ := PR.2 _ _ _ _ hc hm
    cases e2
    refine l_icmp_eq (tgt := 1145) C0 dL_law_694 (by decide) (fun _ => ?_) (fun h => absurd rfl h)
    exact kk _ _ _ _ _ hr
  · refine l_iconst (v := 1) C0 dL_law_659 (by decide) ?_
    refine l_goto (tgt := 664) C0 dL_law_660 (by decide) ?_
    have PR := pairR (R := R_reading g (xs (Int32.toNatClampNeg (nI i + 1))) (xs (Int32.toNatClampNeg (nI i + 2))) 1)
    refine l_callC (As := [.int (xs (Int32.toNatClampNeg (nI i + 1))), .int (xs (Int32.toNatClampNeg (nI i + 2))), .int 1]) (st := []) C0 dL_law_664 lk_L_71 rfl rfl ⟨by decide, by decide⟩ (Nat.le_of_ble_eq_true rfl) (by simp [k_v]) (hwI PR) (s_X7_reading hh (Or.inr rfl)) (fun v w1 hc => ?_)
    obtain ⟨r1, e1⟩ := PR.1 _ _ hc
    cases e1
    refine l_aload C0 dL_law_667 rfl ?_
    refine l_aload C0 dL_law_668 rfl ?_
    refine l_iload C0 dL_law_669 rfl ?_
    refine l_iconst (v := 1) C0 dL_law_670 (by decide) ?_
    refine l_iadd C0 dL_law_671 ?_
    refine l_sld C0 dL_law_672 hin1 ?_
    refine l_aload C0 dL_law_673 rfl ?_
    refine l_iload C0 dL_law_674 rfl ?_
    refine l_iconst (v := 2) C0 dL_law_675 (by decide) ?_
    refine l_iadd C0 dL_law_676 ?_
    refine l_sld C0 dL_law_677 hin2 ?_
    refine l_aload C0 dL_law_678 rfl ?_
    refine l_iload C0 dL_law_679 rfl ?_
    refine l_iconst (v := 3) C0 dL_law_680 (by decide) ?_
    refine l_iadd C0 dL_law_681 ?_
    refine l_sld C0 dL_law_682 hin3 ?_
    refine l_if_eq (tgt := 690) C0 dL_law_683 (by decide) (fun h => absurd h hz) (fun _ => ?_)
    refine l_iconst (v := 1) C0 dL_law_686 (by decide) ?_
    refine l_goto (tgt := 691) C0 dL_law_687 (by decide) ?_
    refine l_callM (As := [.int (xs (Int32.toNatClampNeg (nI i + 1))), .int (xs (Int32.toNatClampNeg (nI i + 2))), .int 1]) (st := [.int r1]) C0 dL_law_691 lk_L_75 rfl rfl ⟨by decide, by decide⟩ (Nat.le_of_ble_eq_true rfl) (by simp [k_v]) (hwI2 PR hc) (s_X8_reading hh.1 (Or.inr rfl)) (fun v g1 hm => ?_)
    obtain ⟨e2, n1, c1, q1, hr⟩ := PR.2 _ _ _ _ hc hm
    cases e2
    refine l_icmp_eq (tgt := 1145) C0 dL_law_694 (by decide) (fun _ => ?_) (fun h => absurd rfl h)
    exact kk _ _ _ _ _ hr

set_option maxRecDepth 100000 in
set_option maxHeartbeats 1000000 in
theorem case_14 {p : Program} {l : Launch} {e : Env} {s : State} {m : MethodId} {below : List Frame} {meth : Method} {c : Code} {b L0 : Nat} {xs : Nat → Int32} (C0 : lw_At p s m meth c b L0 xs) (hL : L0 ≤ 3072) {i : Nat} (hi : i + 6 ≤ L0) {w g : kW} {n c9 q9 : Nat} (hh : Rel n c9 q9 w g) (kk : ∀ (w1 g1 : kW) (n1 c1 q1 : Nat), Rel n1 c1 q1 w1 g1 → LB p l e s m below meth c b 1145 [(0, .ref 0), (1, .ref 1), (2, .ref 2), (3, .int (nI i))] [] w1 g1) : LB p l e s m below meth c b 699 [(0, .ref 0), (1, .ref 1), (2, .ref 2), (3, .int (nI i))] [] w g := by
  have hin1 : vp_in (nI i + 1) L0 := vin hL hi 1 (by decide)
  refine l_aload C0 dL_law_699 rfl ?_
  refine l_aload C0 dL_law_700 rfl ?_
  refine l_iload C0 dL_law_701 rfl ?_
  refine l_iconst (v := 1) C0 dL_law_702 (by decide) ?_
  refine l_iadd C0 dL_law_703 ?_
  refine l_sld C0 dL_law_704 hin1 ?_
  have PR := pairR (R := R_back g (xs (Int32.toNatClampNeg (nI i + 1))))
  refine l_callC (As := [.int (xs (Int32.toNatClampNeg (nI i + 1)))]) (st := []) C0 dL_law_705 lk_L_76 rfl rfl ⟨by decide, by decide⟩ (Nat.le_of_ble_eq_true rfl) (by simp [k_v]) (hwI PR) (s_X7_back hh) (fun v w1 hc => ?_)
  obtain ⟨r1, e1⟩ := PR.1 _ _ hc
  cases e1
  refine l_aload C0 dL_law_708 rfl ?_
  refine l_aload C0 dL_law_709 rfl ?_
  refine l_iload C0 dL_law_710 rfl ?_
  refine l_iconst (v := 1) C0 dL_law_711 (by decide) ?_
  refine l_iadd C0 dL_law_712 ?_
  refine l_sld C0 dL_law_713 hin1 ?_
  refine l_callM (As := [.int (xs (Int32.toNatClampNeg (nI i + 1)))]) (st := [.int r1]) C0 dL_law_714 lk_L_79 rfl rfl ⟨by decide, by decide⟩ (Nat.le_of_ble_eq_true rfl) (by simp [k_v]) (hwI2 PR hc) (s_X8_back) (fun v g1 hm => ?_)
  obtain ⟨e2, n1, c1, q1, hr⟩ := PR.2 _ _ _ _ hc hm
  cases e2
  refine l_icmp_eq (tgt := 1145) C0 dL_law_717 (by decide) (fun _ => ?_) (fun h => absurd rfl h)
  exact kk _ _ _ _ _ hr

set_option maxRecDepth 100000 in
set_option maxHeartbeats 1000000 in
theorem case_15 {p : Program} {l : Launch} {e : Env} {s : State} {m : MethodId} {below : List Frame} {meth : Method} {c : Code} {b L0 : Nat} {xs : Nat → Int32} (C0 : lw_At p s m meth c b L0 xs) (hL : L0 ≤ 3072) {i : Nat} (hi : i + 6 ≤ L0) {w g : kW} {n c9 q9 : Nat} (hh : Rel n c9 q9 w g) (kk : ∀ (w1 g1 : kW) (n1 c1 q1 : Nat), Rel n1 c1 q1 w1 g1 → LB p l e s m below meth c b 1145 [(0, .ref 0), (1, .ref 1), (2, .ref 2), (3, .int (nI i))] [] w1 g1) : LB p l e s m below meth c b 722 [(0, .ref 0), (1, .ref 1), (2, .ref 2), (3, .int (nI i))] [] w g := by
  refine l_aload C0 dL_law_722 rfl ?_
  have PR := pairP (A := PA_never n c9 g) hh nev_1 nev_2
  refine l_callC (As := []) (st := []) C0 dL_law_723 lk_L_80 rfl rfl ⟨by decide, by decide⟩ (Nat.le_of_ble_eq_true rfl) (by simp [k_v]) (hwI PR) (s_X7_never hh) (fun v w1 hc => ?_)
  obtain ⟨r1, e1⟩ := PR.1 _ _ hc
  cases e1
  refine l_aload C0 dL_law_726 rfl ?_
  refine l_callM (As := []) (st := [.int r1]) C0 dL_law_727 lk_L_84 rfl rfl ⟨by decide, by decide⟩ (Nat.le_of_ble_eq_true rfl) (by simp [k_v]) (hwI2 PR hc) (s_X8_never hh.1) (fun v g1 hm => ?_)
  obtain ⟨e2, n1, c1, q1, hr⟩ := PR.2 _ _ _ _ hc hm
  cases e2
  refine l_icmp_eq (tgt := 1145) C0 dL_law_730 (by decide) (fun _ => ?_) (fun h => absurd rfl h)
  exact kk _ _ _ _ _ hr

set_option maxRecDepth 100000 in
set_option maxHeartbeats 1000000 in
theorem case_16 {p : Program} {l : Launch} {e : Env} {s : State} {m : MethodId} {below : List Frame} {meth : Method} {c : Code} {b L0 : Nat} {xs : Nat → Int32} (C0 : lw_At p s m meth c b L0 xs) (hL : L0 ≤ 3072) {i : Nat} (hi : i + 6 ≤ L0) {w g : kW} {n c9 q9 : Nat} (hh : Rel n c9 q9 w g) (kk : ∀ (w1 g1 : kW) (n1 c1 q1 : Nat), Rel n1 c1 q1 w1 g1 → LB p l e s m below meth c b 1145 [(0, .ref 0), (1, .ref 1), (2, .ref 2), (3, .int (nI i))] [] w1 g1) : LB p l e s m below meth c b 735 [(0, .ref 0), (1, .ref 1), (2, .ref 2), (3, .int (nI i))] [] w g := by
  refine l_aload C0 dL_law_735 rfl ?_
  have PR := pairP (A := PA_caught n c9 g) hh cau_1 cau_2
  refine l_callC (As := []) (st := []) C0 dL_law_736 lk_L_85 rfl rfl ⟨by decide, by decide⟩ (Nat.le_of_ble_eq_true rfl) (by simp [k_v]) (hwI PR) (s_X7_caught hh) (fun v w1 hc => ?_)
  obtain ⟨r1, e1⟩ := PR.1 _ _ hc
  cases e1
  refine l_aload C0 dL_law_739 rfl ?_
  refine l_callM (As := []) (st := [.int r1]) C0 dL_law_740 lk_L_88 rfl rfl ⟨by decide, by decide⟩ (Nat.le_of_ble_eq_true rfl) (by simp [k_v]) (hwI2 PR hc) (s_X8_caught hh.1) (fun v g1 hm => ?_)
  obtain ⟨e2, n1, c1, q1, hr⟩ := PR.2 _ _ _ _ hc hm
  cases e2
  refine l_icmp_eq (tgt := 1145) C0 dL_law_743 (by decide) (fun _ => ?_) (fun h => absurd rfl h)
  exact kk _ _ _ _ _ hr

set_option maxRecDepth 100000 in
set_option maxHeartbeats 1000000 in
theorem case_17 {p : Program} {l : Launch} {e : Env} {s : State} {m : MethodId} {below : List Frame} {meth : Method} {c : Code} {b L0 : Nat} {xs : Nat → Int32} (C0 : lw_At p s m meth c b L0 xs) (hL : L0 ≤ 3072) {i : Nat} (hi : i + 6 ≤ L0) {w g : kW} {n c9 q9 : Nat} (hh : Rel n c9 q9 w g) (kk : ∀ (w1 g1 : kW) (n1 c1 q1 : Nat), Rel n1 c1 q1 w1 g1 → LB p l e s m below meth c b 1145 [(0, .ref 0), (1, .ref 1), (2, .ref 2), (3, .int (nI i))] [] w1 g1) : LB p l e s m below meth c b 748 [(0, .ref 0), (1, .ref 1), (2, .ref 2), (3, .int (nI i))] [] w g := by
  have hin1 : vp_in (nI i + 1) L0 := vin hL hi 1 (by decide)
  have hin2 : vp_in (nI i + 2) L0 := vin hL hi 2 (by decide)
  have hin3 : vp_in (nI i + 3) L0 := vin hL hi 3 (by decide)
  have hin4 : vp_in (nI i + 4) L0 := vin hL hi 4 (by decide)
  refine l_aload C0 dL_law_748 rfl ?_
  refine l_aload C0 dL_law_749 rfl ?_
  refine l_iload C0 dL_law_750 rfl ?_
  refine l_iconst (v := 1) C0 dL_law_751 (by decide) ?_
  refine l_iadd C0 dL_law_752 ?_
  refine l_sld C0 dL_law_753 hin1 ?_
  refine l_aload C0 dL_law_754 rfl ?_
  refine l_iload C0 dL_law_755 rfl ?_
  refine l_iconst (v := 2) C0 dL_law_756 (by decide) ?_
  refine l_iadd C0 dL_law_757 ?_
  refine l_sld C0 dL_law_758 hin2 ?_
  refine l_aload C0 dL_law_759 rfl ?_
  refine l_iload C0 dL_law_760 rfl ?_
  refine l_iconst (v := 3) C0 dL_law_761 (by decide) ?_
  refine l_iadd C0 dL_law_762 ?_
  refine l_sld C0 dL_law_763 hin3 ?_
  refine l_aload C0 dL_law_764 rfl ?_
  refine l_iload C0 dL_law_765 rfl ?_
  refine l_iconst (v := 4) C0 dL_law_766 (by decide) ?_
  refine l_iadd C0 dL_law_767 ?_
  refine l_sld C0 dL_law_768 hin4 ?_
  have PR := pair_row (x := (xs (Int32.toNatClampNeg (nI i + 1)))) (sort := (xs (Int32.toNatClampNeg (nI i + 2)))) (i := (xs (Int32.toNatClampNeg (nI i + 3)))) (m := (xs (Int32.toNatClampNeg (nI i + 4)))) hh
  refine l_callC (As := [.int (xs (Int32.toNatClampNeg (nI i + 1))), .int (xs (Int32.toNatClampNeg (nI i + 2))), .int (xs (Int32.toNatClampNeg (nI i + 3))), .int (xs (Int32.toNatClampNeg (nI i + 4)))]) (st := []) C0 dL_law_769 lk_L_89 rfl rfl ⟨by decide, by decide⟩ (Nat.le_of_ble_eq_true rfl) (by simp [k_v]) (hwI PR) (s_X7_row hh) (fun v w1 hc => ?_)
  obtain ⟨r1, e1⟩ := PR.1 _ _ hc
  cases e1
  refine l_aload C0 dL_law_772 rfl ?_
  refine l_aload C0 dL_law_773 rfl ?_
  refine l_iload C0 dL_law_774 rfl ?_
  refine l_iconst (v := 1) C0 dL_law_775 (by decide) ?_
  refine l_iadd C0 dL_law_776 ?_
  refine l_sld C0 dL_law_777 hin1 ?_
  refine l_aload C0 dL_law_778 rfl ?_
  refine l_iload C0 dL_law_779 rfl ?_
  refine l_iconst (v := 2) C0 dL_law_780 (by decide) ?_
  refine l_iadd C0 dL_law_781 ?_
  refine l_sld C0 dL_law_782 hin2 ?_
  refine l_aload C0 dL_law_783 rfl ?_
  refine l_iload C0 dL_law_784 rfl ?_
  refine l_iconst (v := 3) C0 dL_law_785 (by decide) ?_
  refine l_iadd C0 dL_law_786 ?_
  refine l_sld C0 dL_law_787 hin3 ?_
  refine l_aload C0 dL_law_788 rfl ?_
  refine l_iload C0 dL_law_789 rfl ?_
  refine l_iconst (v := 4) C0 dL_law_790 (by decide) ?_
  refine l_iadd C0 dL_law_791 ?_
  refine l_sld C0 dL_law_792 hin4 ?_
  refine l_callM (As := [.int (xs (Int32.toNatClampNeg (nI i + 1))), .int (xs (Int32.toNatClampNeg (nI i + 2))), .int (xs (Int32.toNatClampNeg (nI i + 3))), .int (xs (Int32.toNatClampNeg (nI i + 4)))]) (st := [.int r1]) C0 dL_law_793 lk_L_92 rfl rfl ⟨by decide, by decide⟩ (Nat.le_of_ble_eq_true rfl) (by simp [k_v]) (hwI2 PR hc) (s_X8_row hh.1) (fun v g1 hm => ?_)
  obtain ⟨e2, n1, c1, q1, hr⟩ := PR.2 _ _ _ _ hc hm
  cases e2
  refine l_icmp_eq (tgt := 1145) C0 dL_law_796 (by decide) (fun _ => ?_) (fun h => absurd rfl h)
  exact kk _ _ _ _ _ hr

set_option maxRecDepth 100000 in
set_option maxHeartbeats 1000000 in
theorem case_18 {p : Program} {l : Launch} {e : Env} {s : State} {m : MethodId} {below : List Frame} {meth : Method} {c : Code} {b L0 : Nat} {xs : Nat → Int32} (C0 : lw_At p s m meth c b L0 xs) (hL : L0 ≤ 3072) {i : Nat} (hi : i + 6 ≤ L0) {w g : kW} {n c9 q9 : Nat} (hh : Rel n c9 q9 w g) (kk : ∀ (w1 g1 : kW) (n1 c1 q1 : Nat), Rel n1 c1 q1 w1 g1 → LB p l e s m below meth c b 1145 [(0, .ref 0), (1, .ref 1), (2, .ref 2), (3, .int (nI i))] [] w1 g1) : LB p l e s m below meth c b 801 [(0, .ref 0), (1, .ref 1), (2, .ref 2), (3, .int (nI i))] [] w g := by
  have hin1 : vp_in (nI i + 1) L0 := vin hL hi 1 (by decide)
  have hin2 : vp_in (nI i + 2) L0 := vin hL hi 2 (by decide)
  have hin3 : vp_in (nI i + 3) L0 := vin hL hi 3 (by decide)
  refine l_aload C0 dL_law_801 rfl ?_
  refine l_aload C0 dL_law_802 rfl ?_
  refine l_iload C0 dL_law_803 rfl ?_
  refine l_iconst (v := 1) C0 dL_law_804 (by decide) ?_
  refine l_iadd C0 dL_law_805 ?_
  refine l_sld C0 dL_law_806 hin1 ?_
  refine l_aload C0 dL_law_807 rfl ?_
  refine l_iload C0 dL_law_808 rfl ?_
  refine l_iconst (v := 2) C0 dL_law_809 (by decide) ?_
  refine l_iadd C0 dL_law_810 ?_
  refine l_sld C0 dL_law_811 hin2 ?_
  refine l_aload C0 dL_law_812 rfl ?_
  refine l_iload C0 dL_law_813 rfl ?_
  refine l_iconst (v := 3) C0 dL_law_814 (by decide) ?_
  refine l_iadd C0 dL_law_815 ?_
  refine l_sld C0 dL_law_816 hin3 ?_
  have PR := pairR (R := R_sheet g (xs (Int32.toNatClampNeg (nI i + 1))) (xs (Int32.toNatClampNeg (nI i + 2))) (xs (Int32.toNatClampNeg (nI i + 3))))
  refine l_callC (As := [.int (xs (Int32.toNatClampNeg (nI i + 1))), .int (xs (Int32.toNatClampNeg (nI i + 2))), .int (xs (Int32.toNatClampNeg (nI i + 3)))]) (st := []) C0 dL_law_817 lk_L_93 rfl rfl ⟨by decide, by decide⟩ (Nat.le_of_ble_eq_true rfl) (by simp [k_v]) (hwI PR) (s_X7_sheet hh) (fun v w1 hc => ?_)
  obtain ⟨r1, e1⟩ := PR.1 _ _ hc
  cases e1
  refine l_aload C0 dL_law_820 rfl ?_
  refine l_aload C0 dL_law_821 rfl ?_
  refine l_iload C0 dL_law_822 rfl ?_
  refine l_iconst (v := 1) C0 dL_law_823 (by decide) ?_
  refine l_iadd C0 dL_law_824 ?_
  refine l_sld C0 dL_law_825 hin1 ?_
  refine l_aload C0 dL_law_826 rfl ?_
  refine l_iload C0 dL_law_827 rfl ?_
  refine l_iconst (v := 2) C0 dL_law_828 (by decide) ?_
  refine l_iadd C0 dL_law_829 ?_
  refine l_sld C0 dL_law_830 hin2 ?_
  refine l_aload C0 dL_law_831 rfl ?_
  refine l_iload C0 dL_law_832 rfl ?_
  refine l_iconst (v := 3) C0 dL_law_833 (by decide) ?_
  refine l_iadd C0 dL_law_834 ?_
  refine l_sld C0 dL_law_835 hin3 ?_
  refine l_callM (As := [.int (xs (Int32.toNatClampNeg (nI i + 1))), .int (xs (Int32.toNatClampNeg (nI i + 2))), .int (xs (Int32.toNatClampNeg (nI i + 3)))]) (st := [.int r1]) C0 dL_law_836 lk_L_96 rfl rfl ⟨by decide, by decide⟩ (Nat.le_of_ble_eq_true rfl) (by simp [k_v]) (hwI2 PR hc) (s_X8_sheet hh.1.2.2.2.2.2) (fun v g1 hm => ?_)
  obtain ⟨e2, n1, c1, q1, hr⟩ := PR.2 _ _ _ _ hc hm
  cases e2
  refine l_icmp_eq (tgt := 1145) C0 dL_law_839 (by decide) (fun _ => ?_) (fun h => absurd rfl h)
  exact kk _ _ _ _ _ hr

set_option maxRecDepth 100000 in
set_option maxHeartbeats 1000000 in
theorem case_19 {p : Program} {l : Launch} {e : Env} {s : State} {m : MethodId} {below : List Frame} {meth : Method} {c : Code} {b L0 : Nat} {xs : Nat → Int32} (C0 : lw_At p s m meth c b L0 xs) (hL : L0 ≤ 3072) {i : Nat} (hi : i + 6 ≤ L0) {w g : kW} {n c9 q9 : Nat} (hh : Rel n c9 q9 w g) (kk : ∀ (w1 g1 : kW) (n1 c1 q1 : Nat), Rel n1 c1 q1 w1 g1 → LB p l e s m below meth c b 1145 [(0, .ref 0), (1, .ref 1), (2, .ref 2), (3, .int (nI i))] [] w1 g1) : LB p l e s m below meth c b 844 [(0, .ref 0), (1, .ref 1), (2, .ref 2), (3, .int (nI i))] [] w g := by
  have hin1 : vp_in (nI i + 1) L0 := vin hL hi 1 (by decide)
  refine l_aload C0 dL_law_844 rfl ?_
  refine l_aload C0 dL_law_845 rfl ?_
  refine l_iload C0 dL_law_846 rfl ?_
  refine l_iconst (v := 1) C0 dL_law_847 (by decide) ?_
  refine l_iadd C0 dL_law_848 ?_
  refine l_sld C0 dL_law_849 hin1 ?_
  have PR := pairR (R := R_lose g (xs (Int32.toNatClampNeg (nI i + 1))))
  refine l_callC (As := [.int (xs (Int32.toNatClampNeg (nI i + 1)))]) (st := []) C0 dL_law_850 lk_L_97 rfl rfl ⟨by decide, by decide⟩ (Nat.le_of_ble_eq_true rfl) (by simp [k_v]) (hwI PR) (s_X7_lose hh) (fun v w1 hc => ?_)
  obtain ⟨r1, e1⟩ := PR.1 _ _ hc
  cases e1
  refine l_aload C0 dL_law_853 rfl ?_
  refine l_aload C0 dL_law_854 rfl ?_
  refine l_iload C0 dL_law_855 rfl ?_
  refine l_iconst (v := 1) C0 dL_law_856 (by decide) ?_
  refine l_iadd C0 dL_law_857 ?_
  refine l_sld C0 dL_law_858 hin1 ?_
  refine l_callM (As := [.int (xs (Int32.toNatClampNeg (nI i + 1)))]) (st := [.int r1]) C0 dL_law_859 lk_L_100 rfl rfl ⟨by decide, by decide⟩ (Nat.le_of_ble_eq_true rfl) (by simp [k_v]) (hwI2 PR hc) (s_X8_lose hh.1.2.2.2.2.2) (fun v g1 hm => ?_)
  obtain ⟨e2, n1, c1, q1, hr⟩ := PR.2 _ _ _ _ hc hm
  cases e2
  refine l_icmp_eq (tgt := 1145) C0 dL_law_862 (by decide) (fun _ => ?_) (fun h => absurd rfl h)
  exact kk _ _ _ _ _ hr

set_option maxRecDepth 100000 in
set_option maxHeartbeats 1000000 in
theorem case_20 {p : Program} {l : Launch} {e : Env} {s : State} {m : MethodId} {below : List Frame} {meth : Method} {c : Code} {b L0 : Nat} {xs : Nat → Int32} (C0 : lw_At p s m meth c b L0 xs) (hL : L0 ≤ 3072) {i : Nat} (hi : i + 6 ≤ L0) {w g : kW} {n c9 q9 : Nat} (hh : Rel n c9 q9 w g) (kk : ∀ (w1 g1 : kW) (n1 c1 q1 : Nat), Rel n1 c1 q1 w1 g1 → LB p l e s m below meth c b 1145 [(0, .ref 0), (1, .ref 1), (2, .ref 2), (3, .int (nI i))] [] w1 g1) : LB p l e s m below meth c b 867 [(0, .ref 0), (1, .ref 1), (2, .ref 2), (3, .int (nI i))] [] w g := by
  have hin1 : vp_in (nI i + 1) L0 := vin hL hi 1 (by decide)
  have hin2 : vp_in (nI i + 2) L0 := vin hL hi 2 (by decide)
  have hin3 : vp_in (nI i + 3) L0 := vin hL hi 3 (by decide)
  refine l_aload C0 dL_law_867 rfl ?_
  refine l_aload C0 dL_law_868 rfl ?_
  refine l_iload C0 dL_law_869 rfl ?_
  refine l_iconst (v := 1) C0 dL_law_870 (by decide) ?_
  refine l_iadd C0 dL_law_871 ?_
  refine l_sld C0 dL_law_872 hin1 ?_
  refine l_aload C0 dL_law_873 rfl ?_
  refine l_iload C0 dL_law_874 rfl ?_
  refine l_iconst (v := 2) C0 dL_law_875 (by decide) ?_
  refine l_iadd C0 dL_law_876 ?_
  refine l_sld C0 dL_law_877 hin2 ?_
  refine l_aload C0 dL_law_878 rfl ?_
  refine l_iload C0 dL_law_879 rfl ?_
  refine l_iconst (v := 3) C0 dL_law_880 (by decide) ?_
  refine l_iadd C0 dL_law_881 ?_
  refine l_sld C0 dL_law_882 hin3 ?_
  have PR := pairR (R := R_put g (xs (Int32.toNatClampNeg (nI i + 1))) (xs (Int32.toNatClampNeg (nI i + 2))) (xs (Int32.toNatClampNeg (nI i + 3))))
  refine l_callC (As := [.int (xs (Int32.toNatClampNeg (nI i + 1))), .int (xs (Int32.toNatClampNeg (nI i + 2))), .int (xs (Int32.toNatClampNeg (nI i + 3)))]) (st := []) C0 dL_law_883 lk_L_101 rfl rfl ⟨by decide, by decide⟩ (Nat.le_of_ble_eq_true rfl) (by simp [k_v]) (hwI PR) (s_X7_put hh) (fun v w1 hc => ?_)
  obtain ⟨r1, e1⟩ := PR.1 _ _ hc
  cases e1
  refine l_aload C0 dL_law_886 rfl ?_
  refine l_aload C0 dL_law_887 rfl ?_
  refine l_iload C0 dL_law_888 rfl ?_
  refine l_iconst (v := 1) C0 dL_law_889 (by decide) ?_
  refine l_iadd C0 dL_law_890 ?_
  refine l_sld C0 dL_law_891 hin1 ?_
  refine l_aload C0 dL_law_892 rfl ?_
  refine l_iload C0 dL_law_893 rfl ?_
  refine l_iconst (v := 2) C0 dL_law_894 (by decide) ?_
  refine l_iadd C0 dL_law_895 ?_
  refine l_sld C0 dL_law_896 hin2 ?_
  refine l_aload C0 dL_law_897 rfl ?_
  refine l_iload C0 dL_law_898 rfl ?_
  refine l_iconst (v := 3) C0 dL_law_899 (by decide) ?_
  refine l_iadd C0 dL_law_900 ?_
  refine l_sld C0 dL_law_901 hin3 ?_
  refine l_callM (As := [.int (xs (Int32.toNatClampNeg (nI i + 1))), .int (xs (Int32.toNatClampNeg (nI i + 2))), .int (xs (Int32.toNatClampNeg (nI i + 3)))]) (st := [.int r1]) C0 dL_law_902 lk_L_104 rfl rfl ⟨by decide, by decide⟩ (Nat.le_of_ble_eq_true rfl) (by simp [k_v]) (hwI2 PR hc) (s_X8_put hh.1.2.2.2.2.2) (fun v g1 hm => ?_)
  obtain ⟨e2, n1, c1, q1, hr⟩ := PR.2 _ _ _ _ hc hm
  cases e2
  refine l_icmp_eq (tgt := 1145) C0 dL_law_905 (by decide) (fun _ => ?_) (fun h => absurd rfl h)
  exact kk _ _ _ _ _ hr

set_option maxRecDepth 100000 in
set_option maxHeartbeats 1000000 in
theorem case_21 {p : Program} {l : Launch} {e : Env} {s : State} {m : MethodId} {below : List Frame} {meth : Method} {c : Code} {b L0 : Nat} {xs : Nat → Int32} (C0 : lw_At p s m meth c b L0 xs) (hL : L0 ≤ 3072) {i : Nat} (hi : i + 6 ≤ L0) {w g : kW} {n c9 q9 : Nat} (hh : Rel n c9 q9 w g) (kk : ∀ (w1 g1 : kW) (n1 c1 q1 : Nat), Rel n1 c1 q1 w1 g1 → LB p l e s m below meth c b 1145 [(0, .ref 0), (1, .ref 1), (2, .ref 2), (3, .int (nI i))] [] w1 g1) : LB p l e s m below meth c b 910 [(0, .ref 0), (1, .ref 1), (2, .ref 2), (3, .int (nI i))] [] w g := by
  have hin1 : vp_in (nI i + 1) L0 := vin hL hi 1 (by decide)
  have hin2 : vp_in (nI i + 2) L0 := vin hL hi 2 (by decide)
  have hin3 : vp_in (nI i + 3) L0 := vin hL hi 3 (by decide)
  refine l_aload C0 dL_law_910 rfl ?_
  refine l_aload C0 dL_law_911 rfl ?_
  refine l_iload C0 dL_law_912 rfl ?_
  refine l_iconst (v := 1) C0 dL_law_913 (by decide) ?_
  refine l_iadd C0 dL_law_914 ?_
  refine l_sld C0 dL_law_915 hin1 ?_
  refine l_aload C0 dL_law_916 rfl ?_
  refine l_iload C0 dL_law_917 rfl ?_
  refine l_iconst (v := 2) C0 dL_law_918 (by decide) ?_
  refine l_iadd C0 dL_law_919 ?_
  refine l_sld C0 dL_law_920 hin2 ?_
  refine l_aload C0 dL_law_921 rfl ?_
  refine l_iload C0 dL_law_922 rfl ?_
  refine l_iconst (v := 3) C0 dL_law_923 (by decide) ?_
  refine l_iadd C0 dL_law_924 ?_
  refine l_sld C0 dL_law_925 hin3 ?_
  have PR := pairRL (R := R_cell g (xs (Int32.toNatClampNeg (nI i + 1))) (xs (Int32.toNatClampNeg (nI i + 2))) (xs (Int32.toNatClampNeg (nI i + 3))))
  refine l_callC (As := [.int (xs (Int32.toNatClampNeg (nI i + 1))), .int (xs (Int32.toNatClampNeg (nI i + 2))), .int (xs (Int32.toNatClampNeg (nI i + 3)))]) (st := []) C0 dL_law_926 lk_L_105 rfl rfl ⟨by decide, by decide⟩ (Nat.le_of_ble_eq_true rfl) (by simp [k_v]) (hwL PR) (s_X7_cell hh) (fun v w1 hc => ?_)
  obtain ⟨r1, e1⟩ := PR.1 _ _ hc
  cases e1
  refine l_aload C0 dL_law_929 rfl ?_
  refine l_aload C0 dL_law_930 rfl ?_
  refine l_iload C0 dL_law_931 rfl ?_
  refine l_iconst (v := 1) C0 dL_law_932 (by decide) ?_
  refine l_iadd C0 dL_law_933 ?_
  refine l_sld C0 dL_law_934 hin1 ?_
  refine l_aload C0 dL_law_935 rfl ?_
  refine l_iload C0 dL_law_936 rfl ?_
  refine l_iconst (v := 2) C0 dL_law_937 (by decide) ?_
  refine l_iadd C0 dL_law_938 ?_
  refine l_sld C0 dL_law_939 hin2 ?_
  refine l_aload C0 dL_law_940 rfl ?_
  refine l_iload C0 dL_law_941 rfl ?_
  refine l_iconst (v := 3) C0 dL_law_942 (by decide) ?_
  refine l_iadd C0 dL_law_943 ?_
  refine l_sld C0 dL_law_944 hin3 ?_
  refine l_callM (As := [.int (xs (Int32.toNatClampNeg (nI i + 1))), .int (xs (Int32.toNatClampNeg (nI i + 2))), .int (xs (Int32.toNatClampNeg (nI i + 3)))]) (st := [.long r1]) C0 dL_law_945 lk_L_108 rfl rfl ⟨by decide, by decide⟩ (Nat.le_of_ble_eq_true rfl) (by simp [k_v]) (hwL2 PR hc) (s_X8_cell hh.1.2.2.2.2.2) (fun v g1 hm => ?_)
  obtain ⟨e2, n1, c1, q1, hr⟩ := PR.2 _ _ _ _ hc hm
  cases e2
  refine l_lcmp C0 dL_law_948 ?_
  refine l_if_eq (tgt := 1145) C0 dL_law_949 (by decide) (fun _ => ?_) (fun h => absurd (lg_cmp0.mpr rfl) h)
  exact kk _ _ _ _ _ hr

set_option maxRecDepth 100000 in
set_option maxHeartbeats 1000000 in
theorem case_22 {p : Program} {l : Launch} {e : Env} {s : State} {m : MethodId} {below : List Frame} {meth : Method} {c : Code} {b L0 : Nat} {xs : Nat → Int32} (C0 : lw_At p s m meth c b L0 xs) (hL : L0 ≤ 3072) {i : Nat} (hi : i + 6 ≤ L0) {w g : kW} {n c9 q9 : Nat} (hh : Rel n c9 q9 w g) (kk : ∀ (w1 g1 : kW) (n1 c1 q1 : Nat), Rel n1 c1 q1 w1 g1 → LB p l e s m below meth c b 1145 [(0, .ref 0), (1, .ref 1), (2, .ref 2), (3, .int (nI i))] [] w1 g1) : LB p l e s m below meth c b 954 [(0, .ref 0), (1, .ref 1), (2, .ref 2), (3, .int (nI i))] [] w g := by
  have hin1 : vp_in (nI i + 1) L0 := vin hL hi 1 (by decide)
  have hin2 : vp_in (nI i + 2) L0 := vin hL hi 2 (by decide)
  have hin3 : vp_in (nI i + 3) L0 := vin hL hi 3 (by decide)
  have hin4 : vp_in (nI i + 4) L0 := vin hL hi 4 (by decide)
  have hin5 : vp_in (nI i + 5) L0 := vin hL hi 5 (by decide)
  refine l_aload C0 dL_law_954 rfl ?_
  refine l_aload C0 dL_law_955 rfl ?_
  refine l_iload C0 dL_law_956 rfl ?_
  refine l_iconst (v := 1) C0 dL_law_957 (by decide) ?_
  refine l_iadd C0 dL_law_958 ?_
  refine l_sld C0 dL_law_959 hin1 ?_
  refine l_aload C0 dL_law_960 rfl ?_
  refine l_iload C0 dL_law_961 rfl ?_
  refine l_iconst (v := 2) C0 dL_law_962 (by decide) ?_
  refine l_iadd C0 dL_law_963 ?_
  refine l_sld C0 dL_law_964 hin2 ?_
  refine l_aload C0 dL_law_965 rfl ?_
  refine l_iload C0 dL_law_966 rfl ?_
  refine l_iconst (v := 3) C0 dL_law_967 (by decide) ?_
  refine l_iadd C0 dL_law_968 ?_
  refine l_sld C0 dL_law_969 hin3 ?_
  refine l_aload C0 dL_law_970 rfl ?_
  refine l_iload C0 dL_law_971 rfl ?_
  refine l_iconst (v := 4) C0 dL_law_972 (by decide) ?_
  refine l_iadd C0 dL_law_973 ?_
  refine l_sld C0 dL_law_974 hin4 ?_
  refine l_aload C0 dL_law_975 rfl ?_
  refine l_iload C0 dL_law_976 rfl ?_
  refine l_iconst (v := 5) C0 dL_law_977 (by decide) ?_
  refine l_iadd C0 dL_law_978 ?_
  refine l_sld C0 dL_law_979 hin5 ?_
  have PR := pairR (R := R_copy g (xs (Int32.toNatClampNeg (nI i + 1))) (xs (Int32.toNatClampNeg (nI i + 2))) (xs (Int32.toNatClampNeg (nI i + 3))) (xs (Int32.toNatClampNeg (nI i + 4))) (xs (Int32.toNatClampNeg (nI i + 5))))
  refine l_callC (As := [.int (xs (Int32.toNatClampNeg (nI i + 1))), .int (xs (Int32.toNatClampNeg (nI i + 2))), .int (xs (Int32.toNatClampNeg (nI i + 3))), .int (xs (Int32.toNatClampNeg (nI i + 4))), .int (xs (Int32.toNatClampNeg (nI i + 5)))]) (st := []) C0 dL_law_980 lk_L_109 rfl rfl ⟨by decide, by decide⟩ (Nat.le_of_ble_eq_true rfl) (by simp [k_v]) (hwI PR) (s_X7_copy hh) (fun v w1 hc => ?_)
  obtain ⟨r1, e1⟩ := PR.1 _ _ hc
  cases e1
  refine l_aload C0 dL_law_983 rfl ?_
  refine l_aload C0 dL_law_984 rfl ?_
  refine l_iload C0 dL_law_985 rfl ?_
  refine l_iconst (v := 1) C0 dL_law_986 (by decide) ?_
  refine l_iadd C0 dL_law_987 ?_
  refine l_sld C0 dL_law_988 hin1 ?_
  refine l_aload C0 dL_law_989 rfl ?_
  refine l_iload C0 dL_law_990 rfl ?_
  refine l_iconst (v := 2) C0 dL_law_991 (by decide) ?_
  refine l_iadd C0 dL_law_992 ?_
  refine l_sld C0 dL_law_993 hin2 ?_
  refine l_aload C0 dL_law_994 rfl ?_
  refine l_iload C0 dL_law_995 rfl ?_
  refine l_iconst (v := 3) C0 dL_law_996 (by decide) ?_
  refine l_iadd C0 dL_law_997 ?_
  refine l_sld C0 dL_law_998 hin3 ?_
  refine l_aload C0 dL_law_999 rfl ?_
  refine l_iload C0 dL_law_1000 rfl ?_
  refine l_iconst (v := 4) C0 dL_law_1001 (by decide) ?_
  refine l_iadd C0 dL_law_1002 ?_
  refine l_sld C0 dL_law_1003 hin4 ?_
  refine l_aload C0 dL_law_1004 rfl ?_
  refine l_iload C0 dL_law_1005 rfl ?_
  refine l_iconst (v := 5) C0 dL_law_1006 (by decide) ?_
  refine l_iadd C0 dL_law_1007 ?_
  refine l_sld C0 dL_law_1008 hin5 ?_
  refine l_callM (As := [.int (xs (Int32.toNatClampNeg (nI i + 1))), .int (xs (Int32.toNatClampNeg (nI i + 2))), .int (xs (Int32.toNatClampNeg (nI i + 3))), .int (xs (Int32.toNatClampNeg (nI i + 4))), .int (xs (Int32.toNatClampNeg (nI i + 5)))]) (st := [.int r1]) C0 dL_law_1009 lk_L_113 rfl rfl ⟨by decide, by decide⟩ (Nat.le_of_ble_eq_true rfl) (by simp [k_v]) (hwI2 PR hc) (s_X8_copy hh.1.2.2.2.2.2) (fun v g1 hm => ?_)
  obtain ⟨e2, n1, c1, q1, hr⟩ := PR.2 _ _ _ _ hc hm
  cases e2
  refine l_icmp_eq (tgt := 1145) C0 dL_law_1012 (by decide) (fun _ => ?_) (fun h => absurd rfl h)
  exact kk _ _ _ _ _ hr

set_option maxRecDepth 100000 in
set_option maxHeartbeats 1000000 in
theorem case_23 {p : Program} {l : Launch} {e : Env} {s : State} {m : MethodId} {below : List Frame} {meth : Method} {c : Code} {b L0 : Nat} {xs : Nat → Int32} (C0 : lw_At p s m meth c b L0 xs) (hL : L0 ≤ 3072) {i : Nat} (hi : i + 6 ≤ L0) {w g : kW} {n c9 q9 : Nat} (hh : Rel n c9 q9 w g) (kk : ∀ (w1 g1 : kW) (n1 c1 q1 : Nat), Rel n1 c1 q1 w1 g1 → LB p l e s m below meth c b 1145 [(0, .ref 0), (1, .ref 1), (2, .ref 2), (3, .int (nI i))] [] w1 g1) : LB p l e s m below meth c b 1017 [(0, .ref 0), (1, .ref 1), (2, .ref 2), (3, .int (nI i))] [] w g := by
  have hin1 : vp_in (nI i + 1) L0 := vin hL hi 1 (by decide)
  refine l_aload C0 dL_law_1017 rfl ?_
  refine l_aload C0 dL_law_1018 rfl ?_
  refine l_iload C0 dL_law_1019 rfl ?_
  refine l_iconst (v := 1) C0 dL_law_1020 (by decide) ?_
  refine l_iadd C0 dL_law_1021 ?_
  refine l_sld C0 dL_law_1022 hin1 ?_
  have PR := pairR (R := R_tell g (xs (Int32.toNatClampNeg (nI i + 1))))
  refine l_callC (As := [.int (xs (Int32.toNatClampNeg (nI i + 1)))]) (st := []) C0 dL_law_1023 lk_L_114 rfl rfl ⟨by decide, by decide⟩ (Nat.le_of_ble_eq_true rfl) (by simp [k_v]) (hwI PR) (s_X7_tell hh) (fun v w1 hc => ?_)
  obtain ⟨r1, e1⟩ := PR.1 _ _ hc
  cases e1
  refine l_aload C0 dL_law_1026 rfl ?_
  refine l_aload C0 dL_law_1027 rfl ?_
  refine l_iload C0 dL_law_1028 rfl ?_
  refine l_iconst (v := 1) C0 dL_law_1029 (by decide) ?_
  refine l_iadd C0 dL_law_1030 ?_
  refine l_sld C0 dL_law_1031 hin1 ?_
  refine l_callM (As := [.int (xs (Int32.toNatClampNeg (nI i + 1)))]) (st := [.int r1]) C0 dL_law_1032 lk_L_117 rfl rfl ⟨by decide, by decide⟩ (Nat.le_of_ble_eq_true rfl) (by simp [k_v]) (hwI2 PR hc) (s_X8_tell hh.1) (fun v g1 hm => ?_)
  obtain ⟨e2, n1, c1, q1, hr⟩ := PR.2 _ _ _ _ hc hm
  cases e2
  refine l_icmp_eq (tgt := 1145) C0 dL_law_1035 (by decide) (fun _ => ?_) (fun h => absurd rfl h)
  exact kk _ _ _ _ _ hr

set_option maxRecDepth 100000 in
set_option maxHeartbeats 1000000 in
theorem case_24 {p : Program} {l : Launch} {e : Env} {s : State} {m : MethodId} {below : List Frame} {meth : Method} {c : Code} {b L0 : Nat} {xs : Nat → Int32} (C0 : lw_At p s m meth c b L0 xs) (hL : L0 ≤ 3072) {i : Nat} (hi : i + 6 ≤ L0) {w g : kW} {n c9 q9 : Nat} (hh : Rel n c9 q9 w g) (kk : ∀ (w1 g1 : kW) (n1 c1 q1 : Nat), Rel n1 c1 q1 w1 g1 → LB p l e s m below meth c b 1145 [(0, .ref 0), (1, .ref 1), (2, .ref 2), (3, .int (nI i))] [] w1 g1) : LB p l e s m below meth c b 1040 [(0, .ref 0), (1, .ref 1), (2, .ref 2), (3, .int (nI i))] [] w g := by
  have hin1 : vp_in (nI i + 1) L0 := vin hL hi 1 (by decide)
  refine l_aload C0 dL_law_1040 rfl ?_
  refine l_aload C0 dL_law_1041 rfl ?_
  refine l_iload C0 dL_law_1042 rfl ?_
  refine l_iconst (v := 1) C0 dL_law_1043 (by decide) ?_
  refine l_iadd C0 dL_law_1044 ?_
  refine l_sld C0 dL_law_1045 hin1 ?_
  have PR := pairR (R := R_salute g (xs (Int32.toNatClampNeg (nI i + 1))))
  refine l_callC (As := [.int (xs (Int32.toNatClampNeg (nI i + 1)))]) (st := []) C0 dL_law_1046 lk_L_118 rfl rfl ⟨by decide, by decide⟩ (Nat.le_of_ble_eq_true rfl) (by simp [k_v]) (hwI PR) (s_X7_salute hh) (fun v w1 hc => ?_)
  obtain ⟨r1, e1⟩ := PR.1 _ _ hc
  cases e1
  refine l_aload C0 dL_law_1049 rfl ?_
  refine l_aload C0 dL_law_1050 rfl ?_
  refine l_iload C0 dL_law_1051 rfl ?_
  refine l_iconst (v := 1) C0 dL_law_1052 (by decide) ?_
  refine l_iadd C0 dL_law_1053 ?_
  refine l_sld C0 dL_law_1054 hin1 ?_
  refine l_callM (As := [.int (xs (Int32.toNatClampNeg (nI i + 1)))]) (st := [.int r1]) C0 dL_law_1055 lk_L_121 rfl rfl ⟨by decide, by decide⟩ (Nat.le_of_ble_eq_true rfl) (by simp [k_v]) (hwI2 PR hc) (s_X8_salute hh.1) (fun v g1 hm => ?_)
  obtain ⟨e2, n1, c1, q1, hr⟩ := PR.2 _ _ _ _ hc hm
  cases e2
  refine l_icmp_eq (tgt := 1145) C0 dL_law_1058 (by decide) (fun _ => ?_) (fun h => absurd rfl h)
  exact kk _ _ _ _ _ hr

set_option maxRecDepth 100000 in
set_option maxHeartbeats 1000000 in
theorem case_25 {p : Program} {l : Launch} {e : Env} {s : State} {m : MethodId} {below : List Frame} {meth : Method} {c : Code} {b L0 : Nat} {xs : Nat → Int32} (C0 : lw_At p s m meth c b L0 xs) (hL : L0 ≤ 3072) {i : Nat} (hi : i + 6 ≤ L0) {w g : kW} {n c9 q9 : Nat} (hh : Rel n c9 q9 w g) (kk : ∀ (w1 g1 : kW) (n1 c1 q1 : Nat), Rel n1 c1 q1 w1 g1 → LB p l e s m below meth c b 1145 [(0, .ref 0), (1, .ref 1), (2, .ref 2), (3, .int (nI i))] [] w1 g1) : LB p l e s m below meth c b 1063 [(0, .ref 0), (1, .ref 1), (2, .ref 2), (3, .int (nI i))] [] w g := by
  have hin1 : vp_in (nI i + 1) L0 := vin hL hi 1 (by decide)
  have hin2 : vp_in (nI i + 2) L0 := vin hL hi 2 (by decide)
  refine l_aload C0 dL_law_1063 rfl ?_
  refine l_aload C0 dL_law_1064 rfl ?_
  refine l_iload C0 dL_law_1065 rfl ?_
  refine l_iconst (v := 1) C0 dL_law_1066 (by decide) ?_
  refine l_iadd C0 dL_law_1067 ?_
  refine l_sld C0 dL_law_1068 hin1 ?_
  refine l_aload C0 dL_law_1069 rfl ?_
  refine l_iload C0 dL_law_1070 rfl ?_
  refine l_iconst (v := 2) C0 dL_law_1071 (by decide) ?_
  refine l_iadd C0 dL_law_1072 ?_
  refine l_sld C0 dL_law_1073 hin2 ?_
  have PR := pairR (R := R_as g (xs (Int32.toNatClampNeg (nI i + 1))) (xs (Int32.toNatClampNeg (nI i + 2))))
  refine l_callC (As := [.int (xs (Int32.toNatClampNeg (nI i + 1))), .int (xs (Int32.toNatClampNeg (nI i + 2)))]) (st := []) C0 dL_law_1074 lk_L_122 rfl rfl ⟨by decide, by decide⟩ (Nat.le_of_ble_eq_true rfl) (by simp [k_v]) (hwI PR) (s_X7_as hh) (fun v w1 hc => ?_)
  obtain ⟨r1, e1⟩ := PR.1 _ _ hc
  cases e1
  refine l_aload C0 dL_law_1077 rfl ?_
  refine l_aload C0 dL_law_1078 rfl ?_
  refine l_iload C0 dL_law_1079 rfl ?_
  refine l_iconst (v := 1) C0 dL_law_1080 (by decide) ?_
  refine l_iadd C0 dL_law_1081 ?_
  refine l_sld C0 dL_law_1082 hin1 ?_
  refine l_aload C0 dL_law_1083 rfl ?_
  refine l_iload C0 dL_law_1084 rfl ?_
  refine l_iconst (v := 2) C0 dL_law_1085 (by decide) ?_
  refine l_iadd C0 dL_law_1086 ?_
  refine l_sld C0 dL_law_1087 hin2 ?_
  refine l_callM (As := [.int (xs (Int32.toNatClampNeg (nI i + 1))), .int (xs (Int32.toNatClampNeg (nI i + 2)))]) (st := [.int r1]) C0 dL_law_1088 lk_L_125 rfl rfl ⟨by decide, by decide⟩ (Nat.le_of_ble_eq_true rfl) (by simp [k_v]) (hwI2 PR hc) (s_X8_as hh.1) (fun v g1 hm => ?_)
  obtain ⟨e2, n1, c1, q1, hr⟩ := PR.2 _ _ _ _ hc hm
  cases e2
  refine l_icmp_eq (tgt := 1145) C0 dL_law_1091 (by decide) (fun _ => ?_) (fun h => absurd rfl h)
  exact kk _ _ _ _ _ hr

set_option maxRecDepth 100000 in
set_option maxHeartbeats 1000000 in
theorem case_26 {p : Program} {l : Launch} {e : Env} {s : State} {m : MethodId} {below : List Frame} {meth : Method} {c : Code} {b L0 : Nat} {xs : Nat → Int32} (C0 : lw_At p s m meth c b L0 xs) (hL : L0 ≤ 3072) {i : Nat} (hi : i + 6 ≤ L0) {w g : kW} {n c9 q9 : Nat} (hh : Rel n c9 q9 w g) (kk : ∀ (w1 g1 : kW) (n1 c1 q1 : Nat), Rel n1 c1 q1 w1 g1 → LB p l e s m below meth c b 1145 [(0, .ref 0), (1, .ref 1), (2, .ref 2), (3, .int (nI i))] [] w1 g1) : LB p l e s m below meth c b 1096 [(0, .ref 0), (1, .ref 1), (2, .ref 2), (3, .int (nI i))] [] w g := by
  refine l_aload C0 dL_law_1096 rfl ?_
  have PR := pairR (R := (g.1 0 1, g))
  refine l_callC (As := []) (st := []) C0 dL_law_1097 lk_L_126 rfl rfl ⟨by decide, by decide⟩ (Nat.le_of_ble_eq_true rfl) (by simp [k_v]) (hwI PR) (s_X7_trace hh) (fun v w1 hc => ?_)
  obtain ⟨r1, e1⟩ := PR.1 _ _ hc
  cases e1
  refine l_aload C0 dL_law_1100 rfl ?_
  refine l_callM (As := []) (st := [.int r1]) C0 dL_law_1101 lk_L_129 rfl rfl ⟨by decide, by decide⟩ (Nat.le_of_ble_eq_true rfl) (by simp [k_v]) (hwI2 PR hc) (s_X8_trace) (fun v g1 hm => ?_)
  obtain ⟨e2, n1, c1, q1, hr⟩ := PR.2 _ _ _ _ hc hm
  cases e2
  refine l_icmp_eq (tgt := 1145) C0 dL_law_1104 (by decide) (fun _ => ?_) (fun h => absurd rfl h)
  exact kk _ _ _ _ _ hr

set_option maxRecDepth 100000 in
set_option maxHeartbeats 1000000 in
theorem case_27 {p : Program} {l : Launch} {e : Env} {s : State} {m : MethodId} {below : List Frame} {meth : Method} {c : Code} {b L0 : Nat} {xs : Nat → Int32} (C0 : lw_At p s m meth c b L0 xs) (hL : L0 ≤ 3072) {i : Nat} (hi : i + 6 ≤ L0) {w g : kW} {n c9 q9 : Nat} (hh : Rel n c9 q9 w g) (kk : ∀ (w1 g1 : kW) (n1 c1 q1 : Nat), Rel n1 c1 q1 w1 g1 → LB p l e s m below meth c b 1145 [(0, .ref 0), (1, .ref 1), (2, .ref 2), (3, .int (nI i))] [] w1 g1) : LB p l e s m below meth c b 1109 [(0, .ref 0), (1, .ref 1), (2, .ref 2), (3, .int (nI i))] [] w g := by
  refine l_aload C0 dL_law_1109 rfl ?_
  have PR := pairR (R := (g.1 0 0, g))
  refine l_callC (As := []) (st := []) C0 dL_law_1110 lk_L_130 rfl rfl ⟨by decide, by decide⟩ (Nat.le_of_ble_eq_true rfl) (by simp [k_v]) (hwI PR) (s_X7_fault hh) (fun v w1 hc => ?_)
  obtain ⟨r1, e1⟩ := PR.1 _ _ hc
  cases e1
  refine l_aload C0 dL_law_1113 rfl ?_
  refine l_callM (As := []) (st := [.int r1]) C0 dL_law_1114 lk_L_133 rfl rfl ⟨by decide, by decide⟩ (Nat.le_of_ble_eq_true rfl) (by simp [k_v]) (hwI2 PR hc) (s_X8_fault) (fun v g1 hm => ?_)
  obtain ⟨e2, n1, c1, q1, hr⟩ := PR.2 _ _ _ _ hc hm
  cases e2
  refine l_icmp_eq (tgt := 1145) C0 dL_law_1117 (by decide) (fun _ => ?_) (fun h => absurd rfl h)
  exact kk _ _ _ _ _ hr

set_option maxRecDepth 100000 in
set_option maxHeartbeats 1000000 in
theorem case_28 {p : Program} {l : Launch} {e : Env} {s : State} {m : MethodId} {below : List Frame} {meth : Method} {c : Code} {b L0 : Nat} {xs : Nat → Int32} (C0 : lw_At p s m meth c b L0 xs) (hL : L0 ≤ 3072) {i : Nat} (hi : i + 6 ≤ L0) {w g : kW} {n c9 q9 : Nat} (hh : Rel n c9 q9 w g) (kk : ∀ (w1 g1 : kW) (n1 c1 q1 : Nat), Rel n1 c1 q1 w1 g1 → LB p l e s m below meth c b 1145 [(0, .ref 0), (1, .ref 1), (2, .ref 2), (3, .int (nI i))] [] w1 g1) : LB p l e s m below meth c b 1122 [(0, .ref 0), (1, .ref 1), (2, .ref 2), (3, .int (nI i))] [] w g := by
  have hin1 : vp_in (nI i + 1) L0 := vin hL hi 1 (by decide)
  refine l_aload C0 dL_law_1122 rfl ?_
  refine l_aload C0 dL_law_1123 rfl ?_
  refine l_iload C0 dL_law_1124 rfl ?_
  refine l_iconst (v := 1) C0 dL_law_1125 (by decide) ?_
  refine l_iadd C0 dL_law_1126 ?_
  refine l_sld C0 dL_law_1127 hin1 ?_
  have PR := pairQ (A := A_many n c9 g (xs (Int32.toNatClampNeg (nI i + 1)))) hh
  refine l_callC (As := [.int (xs (Int32.toNatClampNeg (nI i + 1)))]) (st := []) C0 dL_law_1128 lk_L_134 rfl rfl ⟨by decide, by decide⟩ (Nat.le_of_ble_eq_true rfl) (by simp [k_v]) (hwI PR) (s_X7_many hh) (fun v w1 hc => ?_)
  obtain ⟨r1, e1⟩ := PR.1 _ _ hc
  cases e1
  refine l_aload C0 dL_law_1131 rfl ?_
  refine l_aload C0 dL_law_1132 rfl ?_
  refine l_iload C0 dL_law_1133 rfl ?_
  refine l_iconst (v := 1) C0 dL_law_1134 (by decide) ?_
  refine l_iadd C0 dL_law_1135 ?_
  refine l_sld C0 dL_law_1136 hin1 ?_
  refine l_callM (As := [.int (xs (Int32.toNatClampNeg (nI i + 1)))]) (st := [.int r1]) C0 dL_law_1137 lk_L_137 rfl rfl ⟨by decide, by decide⟩ (Nat.le_of_ble_eq_true rfl) (by simp [k_v]) (hwI2 PR hc) (s_X8_many hh.1) (fun v g1 hm => ?_)
  obtain ⟨e2, n1, c1, q1, hr⟩ := PR.2 _ _ _ _ hc hm
  cases e2
  refine l_icmp_eq (tgt := 1145) C0 dL_law_1140 (by decide) (fun _ => ?_) (fun h => absurd rfl h)
  exact kk _ _ _ _ _ hr

set_option maxRecDepth 100000 in
set_option maxHeartbeats 1000000 in
theorem law_loop {p : Program} {l : Launch} {e : Env} {s : State} {m : MethodId} {below : List Frame} {meth : Method} {c : Code} {b L0 : Nat} {xs : Nat → Int32} (C0 : lw_At p s m meth c b L0 xs) (hL : L0 ≤ 3072) : ∀ (N i : Nat), L0 < i + 6 * N + 6 → i ≤ L0 → ∀ (w g : kW) (n c9 q9 : Nat), Rel n c9 q9 w g → LB p l e s m below meth c b 18 [(0, .ref 0), (1, .ref 1), (2, .ref 2), (3, .int (nI i))] [] w g := by
  intro N
  induction N with
  | zero =>
    intro i h1 h2 w g n c9 q9 hh
    refine l_iload C0 dL_law_18 rfl ?_
    refine l_aload C0 dL_law_19 rfl ?_
    refine l_slen C0 dL_law_20 ?_
    refine l_bipush (v := 6) C0 dL_law_21 (by decide) ?_
    refine l_isub C0 dL_law_23 ?_
    refine l_icmp_gt (tgt := 1151) C0 dL_law_24 (by decide) (fun _ => l_ret C0 dL_law_1151 dL_law_1152) (fun h => absurd ((loop_end hL (by omega)).mpr (by omega)) h)
  | succ N ih =>
    intro i h1 h2 w g n c9 q9 hh
    refine l_iload C0 dL_law_18 rfl ?_
    refine l_aload C0 dL_law_19 rfl ?_
    refine l_slen C0 dL_law_20 ?_
    refine l_bipush (v := 6) C0 dL_law_21 (by decide) ?_
    refine l_isub C0 dL_law_23 ?_
    refine l_icmp_gt (tgt := 1151) C0 dL_law_24 (by decide) (fun _ => l_ret C0 dL_law_1151 dL_law_1152) (fun h => ?_)
    have hi : i + 6 ≤ L0 := Nat.not_lt.mp (fun z => h ((loop_end hL (by omega)).mpr z))
    have kk : ∀ (w1 g1 : kW) (n1 c1 q1 : Nat), Rel n1 c1 q1 w1 g1 → LB p l e s m below meth c b 1145 [(0, .ref 0), (1, .ref 1), (2, .ref 2), (3, .int (nI i))] [] w1 g1 := fun w1 g1 n1 c1 q1 hr => by
      refine l_iinc (a := 0) (L' := []) (v := nI (i + 6)) C0 dL_law_1145 rfl (nI_add i 6) ?_
      refine l_goto (tgt := 18) C0 dL_law_1148 (by decide) ?_
      exact ih (i + 6) (by omega) hi w1 g1 n1 c1 q1 hr
    refine l_aload C0 dL_law_27 rfl ?_
    refine l_iload C0 dL_law_28 rfl ?_
    refine l_sld C0 dL_law_29 (vp_in_nI (by omega) (by omega)) ?_
    refine l_bipush (v := 31) C0 dL_law_30 (by decide) ?_
    refine l_iand C0 dL_law_32 ?_
    obtain ⟨k, hk, ek⟩ := and31 (xs (Int32.toNatClampNeg (nI i)))
    rw [ek]
    have hc : k = 0 ∨ k = 1 ∨ k = 2 ∨ k = 3 ∨ k = 4 ∨ k = 5 ∨ k = 6 ∨ k = 7 ∨ k = 8 ∨ k = 9 ∨ k = 10 ∨ k = 11 ∨ k = 12 ∨ k = 13 ∨ k = 14 ∨ k = 15 ∨ k = 16 ∨ k = 17 ∨ k = 18 ∨ k = 19 ∨ k = 20 ∨ k = 21 ∨ k = 22 ∨ k = 23 ∨ k = 24 ∨ k = 25 ∨ k = 26 ∨ k = 27 ∨ k = 28 ∨ k = 29 ∨ k = 30 ∨ k = 31 := by omega
    rcases hc with rfl | rfl | rfl | rfl | rfl | rfl | rfl | rfl | rfl | rfl | rfl | rfl | rfl | rfl | rfl | rfl | rfl | rfl | rfl | rfl | rfl | rfl | rfl | rfl | rfl | rfl | rfl | rfl | rfl | rfl | rfl | rfl
    · exact l_tsIn (off := 131) (tgt := 164) C0 dL_law_33 (by decide) (by decide) (by decide) (by decide) (case_0 C0 hL hi hh kk)
    · exact l_tsIn (off := 184) (tgt := 217) C0 dL_law_33 (by decide) (by decide) (by decide) (by decide) (case_1 C0 hL hi hh kk)
    · exact l_tsIn (off := 217) (tgt := 250) C0 dL_law_33 (by decide) (by decide) (by decide) (by decide) (case_2 C0 hL hi hh kk)
    · exact l_tsIn (off := 270) (tgt := 303) C0 dL_law_33 (by decide) (by decide) (by decide) (by decide) (case_3 C0 hL hi hh kk)
    · exact l_tsIn (off := 293) (tgt := 326) C0 dL_law_33 (by decide) (by decide) (by decide) (by decide) (case_4 C0 hL hi hh kk)
    · exact l_tsIn (off := 342) (tgt := 375) C0 dL_law_33 (by decide) (by decide) (by decide) (by decide) (case_5 C0 hL hi hh kk)
    · exact l_tsIn (off := 365) (tgt := 398) C0 dL_law_33 (by decide) (by decide) (by decide) (by decide) (case_6 C0 hL hi hh kk)
    · exact l_tsIn (off := 398) (tgt := 431) C0 dL_law_33 (by decide) (by decide) (by decide) (by decide) (case_7 C0 hL hi hh kk)
    · exact l_tsIn (off := 431) (tgt := 464) C0 dL_law_33 (by decide) (by decide) (by decide) (by decide) (case_8 C0 hL hi hh kk)
    · exact l_tsIn (off := 474) (tgt := 507) C0 dL_law_33 (by decide) (by decide) (by decide) (by decide) (case_9 C0 hL hi hh kk)
    · exact l_tsIn (off := 497) (tgt := 530) C0 dL_law_33 (by decide) (by decide) (by decide) (by decide) (case_10 C0 hL hi hh kk)
    · exact l_tsIn (off := 520) (tgt := 553) C0 dL_law_33 (by decide) (by decide) (by decide) (by decide) (case_11 C0 hL hi hh kk)
    · exact l_tsIn (off := 563) (tgt := 596) C0 dL_law_33 (by decide) (by decide) (by decide) (by decide) (case_12 C0 hL hi hh kk)
    · exact l_tsIn (off := 607) (tgt := 640) C0 dL_law_33 (by decide) (by decide) (by decide) (by decide) (case_13 C0 hL hi hh kk)
    · exact l_tsIn (off := 666) (tgt := 699) C0 dL_law_33 (by decide) (by decide) (by decide) (by decide) (case_14 C0 hL hi hh kk)
    · exact l_tsIn (off := 689) (tgt := 722) C0 dL_law_33 (by decide) (by decide) (by decide) (by decide) (case_15 C0 hL hi hh kk)
    · exact l_tsIn (off := 702) (tgt := 735) C0 dL_law_33 (by decide) (by decide) (by decide) (by decide) (case_16 C0 hL hi hh kk)
    · exact l_tsIn (off := 715) (tgt := 748) C0 dL_law_33 (by decide) (by decide) (by decide) (by decide) (case_17 C0 hL hi hh kk)
    · exact l_tsIn (off := 768) (tgt := 801) C0 dL_law_33 (by decide) (by decide) (by decide) (by decide) (case_18 C0 hL hi hh kk)
    · exact l_tsIn (off := 811) (tgt := 844) C0 dL_law_33 (by decide) (by decide) (by decide) (by decide) (case_19 C0 hL hi hh kk)
    · exact l_tsIn (off := 834) (tgt := 867) C0 dL_law_33 (by decide) (by decide) (by decide) (by decide) (case_20 C0 hL hi hh kk)
    · exact l_tsIn (off := 877) (tgt := 910) C0 dL_law_33 (by decide) (by decide) (by decide) (by decide) (case_21 C0 hL hi hh kk)
    · exact l_tsIn (off := 921) (tgt := 954) C0 dL_law_33 (by decide) (by decide) (by decide) (by decide) (case_22 C0 hL hi hh kk)
    · exact l_tsIn (off := 984) (tgt := 1017) C0 dL_law_33 (by decide) (by decide) (by decide) (by decide) (case_23 C0 hL hi hh kk)
    · exact l_tsIn (off := 1007) (tgt := 1040) C0 dL_law_33 (by decide) (by decide) (by decide) (by decide) (case_24 C0 hL hi hh kk)
    · exact l_tsIn (off := 1030) (tgt := 1063) C0 dL_law_33 (by decide) (by decide) (by decide) (by decide) (case_25 C0 hL hi hh kk)
    · exact l_tsIn (off := 1063) (tgt := 1096) C0 dL_law_33 (by decide) (by decide) (by decide) (by decide) (case_26 C0 hL hi hh kk)
    · exact l_tsIn (off := 1076) (tgt := 1109) C0 dL_law_33 (by decide) (by decide) (by decide) (by decide) (case_27 C0 hL hi hh kk)
    · exact l_tsIn (off := 1089) (tgt := 1122) C0 dL_law_33 (by decide) (by decide) (by decide) (by decide) (case_28 C0 hL hi hh kk)
    · exact l_tsOut (tgt := 1145) C0 dL_law_33 (by decide) (by decide) (kk _ _ _ _ _ hh)
    · exact l_tsOut (tgt := 1145) C0 dL_law_33 (by decide) (by decide) (kk _ _ _ _ _ hh)
    · exact l_tsOut (tgt := 1145) C0 dL_law_33 (by decide) (by decide) (kk _ _ _ _ _ hh)
