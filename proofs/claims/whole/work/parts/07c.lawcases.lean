def bz (x : Int32) : Int32 := if x = 0 then 0 else 1
def okI (a : Option (Int32 × vs)) (g : vs → Option (Int32 × vs)) (Inv : vs → Prop) : Prop := ∃ (r : Int32) (S1 S2 : vs), a = some (r, S1) ∧ g S1 = some (r, S2) ∧ Inv S2
def okP (a : Option Int32) (g : Option (Int32 × vs)) (Inv : vs → Prop) : Prop := ∃ (r : Int32) (S2 : vs), a = some r ∧ g = some (r, S2) ∧ Inv S2
section LCases
variable {p : Program} {l : Launch} {e : Env} {s : State} {m : MethodId} {below : List Frame} {meth : Method} {c : Code} {b n : Nat} {G : vg} {xs : Nat → Int32} {pc : Nat} {L : vls} {st : List vv} {w : vw} {cs sl : Nat}
theorem LW.bool (S : LSt G p s m meth c b n xs) {x : Int32} {f1 f2 : Int} (d0 : decode code pc = .ok (.ifCond .eq f1, 3)) (h0 : (pc : Int) + f1 = ((pc + 7 : Nat) : Int)) (d1 : decode code (pc + 3) = .ok (.iconst 1, 1)) (d2 : decode code (pc + 4) = .ok (.goto f2, 3)) (h2 : ((pc + 4 : Nat) : Int) + f2 = ((pc + 8 : Nat) : Int)) (d3 : decode code (pc + 7) = .ok (.iconst 0, 1)) (kk : LW p l e s m below meth c b G (pc + 8) L (vI (bz x) :: st) w cs sl) : LW p l e s m below meth c b G pc L (vI x :: st) w cs sl := by
  refine LW.ifeq S (pc + 7) d0 h0 (fun h => ?_) (fun h => ?_)
  · refine LW.iconst (v := 0) S d3 (by decide) ?_
    rw [show bz x = 0 from if_pos h] at kk
    exact kk
  · refine LW.iconst (v := 1) S d1 (by decide) ?_
    refine LW.goto S (pc + 8) d2 h2 ?_
    rw [show bz x = 1 from if_neg h] at kk
    exact kk

theorem lc_0 (St : LSt G p s m meth c b n xs) {i : Nat} (hi : i + 6 ≤ n) (F : Nat) {S S1 S2 : vs} {r : Int32} (h1 : fX7_side F (xs (i + 1)) (xs (i + 2)) (xs (i + 3)) (xs (i + 4)) S = some (r, S1)) (h2 : fX8_side F (xs (i + 1)) (xs (i + 2)) (xs (i + 3)) (xs (i + 4)) S1 = some (r, S2)) (hcs : cs + 1 ≤ 600000) (hsl : sl + 11 ≤ 7302250) (kk : LW p l e s m below meth c b G 1210 [(1, vR (0, 0)), (2, vR (0, 1)), (3, vI (nI i))] [] (enc S2) (cs + 1) (sl + 11)) : LW p l e s m below meth c b G 168 [(1, vR (0, 0)), (2, vR (0, 1)), (3, vI (nI i))] [] (enc S) cs sl := by
  refine LW.aload St dL_law_168 0 rfl ?_
  refine LW.arg St (i := i) (k := 1) 2 rfl dL_law_169 dL_law_170 dL_law_171 dL_law_172 dL_law_173 (by decide) (by omega) ?_
  refine LW.arg St (i := i) (k := 2) 2 rfl dL_law_174 dL_law_175 dL_law_176 dL_law_177 dL_law_178 (by decide) (by omega) ?_
  refine LW.arg St (i := i) (k := 3) 2 rfl dL_law_179 dL_law_180 dL_law_181 dL_law_182 dL_law_183 (by decide) (by omega) ?_
  refine LW.arg St (i := i) (k := 4) 2 rfl dL_law_184 dL_law_185 dL_law_186 dL_law_187 dL_law_188 (by decide) (by omega) ?_
  refine LW.call St (M' := mX7_side) (o' := oF) (k := (0, 0)) (As := [vI (xs (i + 1)), vI (xs (i + 2)), vI (xs (i + 3)), vI (xs (i + 4))]) (ψ := phI) (a := (r, S1)) (x := r) dL_law_189 ml_L_13 mfX7_side rfl ⟨by decide, by decide⟩ ⟨by show cs + 1 ≤ 600000; omega, by show sl + 11 ≤ 7302250; omega⟩ (enc_at rfl sh0_0) rfl (Nat.le_of_ble_eq_true rfl) rfl rfl rfl (kX7_side l G F (xs (i + 1)) (xs (i + 2)) (xs (i + 3)) (xs (i + 4)) S) h1 bo_oF rfl ?_
  refine LW.aload St dL_law_192 1 rfl ?_
  refine LW.arg St (i := i) (k := 1) 2 rfl dL_law_193 dL_law_194 dL_law_195 dL_law_196 dL_law_197 (by decide) (by omega) ?_
  refine LW.arg St (i := i) (k := 2) 2 rfl dL_law_198 dL_law_199 dL_law_200 dL_law_201 dL_law_202 (by decide) (by omega) ?_
  refine LW.arg St (i := i) (k := 3) 2 rfl dL_law_203 dL_law_204 dL_law_205 dL_law_206 dL_law_207 (by decide) (by omega) ?_
  refine LW.arg St (i := i) (k := 4) 2 rfl dL_law_208 dL_law_209 dL_law_210 dL_law_211 dL_law_212 (by decide) (by omega) ?_
  refine LW.call St (M' := mX8_side) (o' := none) (k := (0, 1)) (As := [vI (xs (i + 1)), vI (xs (i + 2)), vI (xs (i + 3)), vI (xs (i + 4))]) (ψ := phI) (a := (r, S2)) (x := r) dL_law_213 ml_L_17 mfX8_side rfl ⟨by decide, by decide⟩ ⟨by show cs + 1 + 0 ≤ 600000; omega, by show sl + 11 + 0 ≤ 7302250; omega⟩ (enc_at rfl sh0_1) rfl (Nat.le_of_ble_eq_true rfl) rfl rfl rfl (kX8_side l G F (xs (i + 1)) (xs (i + 2)) (xs (i + 3)) (xs (i + 4)) S1) h2 bo_none rfl ?_
  refine LW.icmpeq St 1210 dL_law_216 (by decide) ?_
  exact LW.widen (by show cs + 1 + 0 ≤ cs + 1; omega) (by show sl + 11 + 0 ≤ sl + 11; omega) kk
theorem lc_1 (St : LSt G p s m meth c b n xs) {i : Nat} (hi : i + 6 ≤ n) (F : Nat) {S S1 S2 : vs} {r : Int32} (h1 : fX7_hours F (xs (i + 1)) (xs (i + 2)) (xs (i + 3)) S = some (r, S1)) (h2 : fX8_hours F (xs (i + 1)) (xs (i + 2)) (xs (i + 3)) S1 = some (r, S2)) (hcs : cs + 1 ≤ 600000) (hsl : sl + 11 ≤ 7302250) (kk : LW p l e s m below meth c b G 1210 [(1, vR (0, 0)), (2, vR (0, 1)), (3, vI (nI i))] [] (enc S2) (cs + 1) (sl + 11)) : LW p l e s m below meth c b G 221 [(1, vR (0, 0)), (2, vR (0, 1)), (3, vI (nI i))] [] (enc S) cs sl := by
  refine LW.aload St dL_law_221 0 rfl ?_
  refine LW.arg St (i := i) (k := 1) 2 rfl dL_law_222 dL_law_223 dL_law_224 dL_law_225 dL_law_226 (by decide) (by omega) ?_
  refine LW.arg St (i := i) (k := 2) 2 rfl dL_law_227 dL_law_228 dL_law_229 dL_law_230 dL_law_231 (by decide) (by omega) ?_
  refine LW.arg St (i := i) (k := 3) 2 rfl dL_law_232 dL_law_233 dL_law_234 dL_law_235 dL_law_236 (by decide) (by omega) ?_
  refine LW.call St (M' := mX7_hours) (o' := none) (k := (0, 0)) (As := [vI (xs (i + 1)), vI (xs (i + 2)), vI (xs (i + 3))]) (ψ := phI) (a := (r, S1)) (x := r) dL_law_237 ml_L_18 mfX7_hours rfl ⟨by decide, by decide⟩ ⟨by show cs + 0 ≤ 600000; omega, by show sl + 0 ≤ 7302250; omega⟩ (enc_at rfl sh0_0) rfl (Nat.le_of_ble_eq_true rfl) rfl rfl rfl (kX7_hours l G F (xs (i + 1)) (xs (i + 2)) (xs (i + 3)) S) h1 bo_none rfl ?_
  refine LW.aload St dL_law_240 1 rfl ?_
  refine LW.arg St (i := i) (k := 1) 2 rfl dL_law_241 dL_law_242 dL_law_243 dL_law_244 dL_law_245 (by decide) (by omega) ?_
  refine LW.arg St (i := i) (k := 2) 2 rfl dL_law_246 dL_law_247 dL_law_248 dL_law_249 dL_law_250 (by decide) (by omega) ?_
  refine LW.arg St (i := i) (k := 3) 2 rfl dL_law_251 dL_law_252 dL_law_253 dL_law_254 dL_law_255 (by decide) (by omega) ?_
  refine LW.call St (M' := mX8_hours) (o' := none) (k := (0, 1)) (As := [vI (xs (i + 1)), vI (xs (i + 2)), vI (xs (i + 3))]) (ψ := phI) (a := (r, S2)) (x := r) dL_law_256 ml_L_22 mfX8_hours rfl ⟨by decide, by decide⟩ ⟨by show cs + 0 + 0 ≤ 600000; omega, by show sl + 0 + 0 ≤ 7302250; omega⟩ (enc_at rfl sh0_1) rfl (Nat.le_of_ble_eq_true rfl) rfl rfl rfl (kX8_hours l G F (xs (i + 1)) (xs (i + 2)) (xs (i + 3)) S1) h2 bo_none rfl ?_
  refine LW.icmpeq St 1210 dL_law_259 (by decide) ?_
  exact LW.widen (by show cs + 0 + 0 ≤ cs + 1; omega) (by show sl + 0 + 0 ≤ sl + 11; omega) kk
theorem lc_2 (St : LSt G p s m meth c b n xs) {i : Nat} (hi : i + 6 ≤ n) (F : Nat) {S S2 : vs} {r : Int32} (h1 : fX7_told F (xs (i + 1)) (xs (i + 2)) S = some r) (h2 : fX8_told F (xs (i + 1)) (xs (i + 2)) S = some (r, S2)) (hcs : cs + 1 ≤ 600000) (hsl : sl + 11 ≤ 7302250) (kk : LW p l e s m below meth c b G 1210 [(1, vR (0, 0)), (2, vR (0, 1)), (3, vI (nI i))] [] (enc S2) (cs + 1) (sl + 11)) : LW p l e s m below meth c b G 264 [(1, vR (0, 0)), (2, vR (0, 1)), (3, vI (nI i))] [] (enc S) cs sl := by
  refine LW.aload St dL_law_264 0 rfl ?_
  refine LW.arg St (i := i) (k := 1) 2 rfl dL_law_265 dL_law_266 dL_law_267 dL_law_268 dL_law_269 (by decide) (by omega) ?_
  refine LW.arg St (i := i) (k := 2) 2 rfl dL_law_270 dL_law_271 dL_law_272 dL_law_273 dL_law_274 (by decide) (by omega) ?_
  refine LW.call St (M' := mX7_told) (o' := none) (k := (0, 0)) (As := [vI (xs (i + 1)), vI (xs (i + 2))]) (ψ := (phP S)) (a := r) (x := r) dL_law_275 ml_L_23 mfX7_told rfl ⟨by decide, by decide⟩ ⟨by show cs + 0 ≤ 600000; omega, by show sl + 0 ≤ 7302250; omega⟩ (enc_at rfl sh0_0) rfl (Nat.le_of_ble_eq_true rfl) rfl rfl rfl (kX7_told l G F (xs (i + 1)) (xs (i + 2)) S) h1 bo_none rfl ?_
  refine LW.aload St dL_law_278 1 rfl ?_
  refine LW.arg St (i := i) (k := 1) 2 rfl dL_law_279 dL_law_280 dL_law_281 dL_law_282 dL_law_283 (by decide) (by omega) ?_
  refine LW.arg St (i := i) (k := 2) 2 rfl dL_law_284 dL_law_285 dL_law_286 dL_law_287 dL_law_288 (by decide) (by omega) ?_
  refine LW.call St (M' := mX8_told) (o' := none) (k := (0, 1)) (As := [vI (xs (i + 1)), vI (xs (i + 2))]) (ψ := phI) (a := (r, S2)) (x := r) dL_law_289 ml_L_27 mfX8_told rfl ⟨by decide, by decide⟩ ⟨by show cs + 0 + 0 ≤ 600000; omega, by show sl + 0 + 0 ≤ 7302250; omega⟩ (enc_at rfl sh0_1) rfl (Nat.le_of_ble_eq_true rfl) rfl rfl rfl (kX8_told l G F (xs (i + 1)) (xs (i + 2)) S) h2 bo_none rfl ?_
  refine LW.icmpeq St 1210 dL_law_292 (by decide) ?_
  exact LW.widen (by show cs + 0 + 0 ≤ cs + 1; omega) (by show sl + 0 + 0 ≤ sl + 11; omega) kk
theorem lc_3 (St : LSt G p s m meth c b n xs) {i : Nat} (hi : i + 6 ≤ n) (F : Nat) {S S1 S2 : vs} {r : Int32} (h1 : fX7_read F (xs (i + 1)) (bz (xs (i + 2))) S = some (r, S1)) (h2 : fX8_read F (xs (i + 1)) (bz (xs (i + 2))) S1 = some (r, S2)) (hcs : cs + 1 ≤ 600000) (hsl : sl + 11 ≤ 7302250) (kk : LW p l e s m below meth c b G 1210 [(1, vR (0, 0)), (2, vR (0, 1)), (3, vI (nI i))] [] (enc S2) (cs + 1) (sl + 11)) : LW p l e s m below meth c b G 297 [(1, vR (0, 0)), (2, vR (0, 1)), (3, vI (nI i))] [] (enc S) cs sl := by
  refine LW.aload St dL_law_297 0 rfl ?_
  refine LW.arg St (i := i) (k := 1) 2 rfl dL_law_298 dL_law_299 dL_law_300 dL_law_301 dL_law_302 (by decide) (by omega) ?_
  refine LW.arg St (i := i) (k := 2) 2 rfl dL_law_303 dL_law_304 dL_law_305 dL_law_306 dL_law_307 (by decide) (by omega) ?_
  refine LW.bool St dL_law_308 (by decide) dL_law_311 dL_law_312 (by decide) dL_law_315 ?_
  refine LW.call St (M' := mX7_read) (o' := none) (k := (0, 0)) (As := [vI (xs (i + 1)), vI (bz (xs (i + 2)))]) (ψ := phI) (a := (r, S1)) (x := r) dL_law_316 ml_L_28 mfX7_read rfl ⟨by decide, by decide⟩ ⟨by show cs + 0 ≤ 600000; omega, by show sl + 0 ≤ 7302250; omega⟩ (enc_at rfl sh0_0) rfl (Nat.le_of_ble_eq_true rfl) rfl rfl rfl (kX7_read l G F (xs (i + 1)) (bz (xs (i + 2))) S) h1 bo_none rfl ?_
  refine LW.aload St dL_law_319 1 rfl ?_
  refine LW.arg St (i := i) (k := 1) 2 rfl dL_law_320 dL_law_321 dL_law_322 dL_law_323 dL_law_324 (by decide) (by omega) ?_
  refine LW.arg St (i := i) (k := 2) 2 rfl dL_law_325 dL_law_326 dL_law_327 dL_law_328 dL_law_329 (by decide) (by omega) ?_
  refine LW.bool St dL_law_330 (by decide) dL_law_333 dL_law_334 (by decide) dL_law_337 ?_
  refine LW.call St (M' := mX8_read) (o' := none) (k := (0, 1)) (As := [vI (xs (i + 1)), vI (bz (xs (i + 2)))]) (ψ := phI) (a := (r, S2)) (x := r) dL_law_338 ml_L_32 mfX8_read rfl ⟨by decide, by decide⟩ ⟨by show cs + 0 + 0 ≤ 600000; omega, by show sl + 0 + 0 ≤ 7302250; omega⟩ (enc_at rfl sh0_1) rfl (Nat.le_of_ble_eq_true rfl) rfl rfl rfl (kX8_read l G F (xs (i + 1)) (bz (xs (i + 2))) S1) h2 bo_none rfl ?_
  refine LW.icmpeq St 1210 dL_law_341 (by decide) ?_
  exact LW.widen (by show cs + 0 + 0 ≤ cs + 1; omega) (by show sl + 0 + 0 ≤ sl + 11; omega) kk
theorem lc_4 (St : LSt G p s m meth c b n xs) {i : Nat} (hi : i + 6 ≤ n) (F : Nat) {S S1 S2 : vs} {r : Int32} (h1 : fX7_pass F (xs (i + 1)) S = some (r, S1)) (h2 : fX8_pass F (xs (i + 1)) S1 = some (r, S2)) (hcs : cs + 1 ≤ 600000) (hsl : sl + 11 ≤ 7302250) (kk : LW p l e s m below meth c b G 1210 [(1, vR (0, 0)), (2, vR (0, 1)), (3, vI (nI i))] [] (enc S2) (cs + 1) (sl + 11)) : LW p l e s m below meth c b G 346 [(1, vR (0, 0)), (2, vR (0, 1)), (3, vI (nI i))] [] (enc S) cs sl := by
  refine LW.aload St dL_law_346 0 rfl ?_
  refine LW.arg St (i := i) (k := 1) 2 rfl dL_law_347 dL_law_348 dL_law_349 dL_law_350 dL_law_351 (by decide) (by omega) ?_
  refine LW.call St (M' := mX7_pass) (o' := none) (k := (0, 0)) (As := [vI (xs (i + 1))]) (ψ := phI) (a := (r, S1)) (x := r) dL_law_352 ml_L_33 mfX7_pass rfl ⟨by decide, by decide⟩ ⟨by show cs + 0 ≤ 600000; omega, by show sl + 0 ≤ 7302250; omega⟩ (enc_at rfl sh0_0) rfl (Nat.le_of_ble_eq_true rfl) rfl rfl rfl (kX7_pass l G F (xs (i + 1)) S) h1 bo_none rfl ?_
  refine LW.aload St dL_law_355 1 rfl ?_
  refine LW.arg St (i := i) (k := 1) 2 rfl dL_law_356 dL_law_357 dL_law_358 dL_law_359 dL_law_360 (by decide) (by omega) ?_
  refine LW.call St (M' := mX8_pass) (o' := none) (k := (0, 1)) (As := [vI (xs (i + 1))]) (ψ := phI) (a := (r, S2)) (x := r) dL_law_361 ml_L_37 mfX8_pass rfl ⟨by decide, by decide⟩ ⟨by show cs + 0 + 0 ≤ 600000; omega, by show sl + 0 + 0 ≤ 7302250; omega⟩ (enc_at rfl sh0_1) rfl (Nat.le_of_ble_eq_true rfl) rfl rfl rfl (kX8_pass l G F (xs (i + 1)) S1) h2 bo_none rfl ?_
  refine LW.icmpeq St 1210 dL_law_364 (by decide) ?_
  exact LW.widen (by show cs + 0 + 0 ≤ cs + 1; omega) (by show sl + 0 + 0 ≤ sl + 11; omega) kk
theorem lc_5 (St : LSt G p s m meth c b n xs) {i : Nat} (hi : i + 6 ≤ n) (F : Nat) {S S1 S2 : vs} {r : Int32} (h1 : fX7_best F (xs (i + 1)) (xs (i + 2)) (xs (i + 3)) S = some (r, S1)) (h2 : fX8_best F (xs (i + 1)) (xs (i + 2)) (xs (i + 3)) S1 = some (r, S2)) (hcs : cs + 1 ≤ 600000) (hsl : sl + 11 ≤ 7302250) (kk : LW p l e s m below meth c b G 1210 [(1, vR (0, 0)), (2, vR (0, 1)), (3, vI (nI i))] [] (enc S2) (cs + 1) (sl + 11)) : LW p l e s m below meth c b G 369 [(1, vR (0, 0)), (2, vR (0, 1)), (3, vI (nI i))] [] (enc S) cs sl := by
  refine LW.aload St dL_law_369 0 rfl ?_
  refine LW.arg St (i := i) (k := 1) 2 rfl dL_law_370 dL_law_371 dL_law_372 dL_law_373 dL_law_374 (by decide) (by omega) ?_
  refine LW.arg St (i := i) (k := 2) 2 rfl dL_law_375 dL_law_376 dL_law_377 dL_law_378 dL_law_379 (by decide) (by omega) ?_
  refine LW.arg St (i := i) (k := 3) 2 rfl dL_law_380 dL_law_381 dL_law_382 dL_law_383 dL_law_384 (by decide) (by omega) ?_
  refine LW.call St (M' := mX7_best) (o' := none) (k := (0, 0)) (As := [vI (xs (i + 1)), vI (xs (i + 2)), vI (xs (i + 3))]) (ψ := phI) (a := (r, S1)) (x := r) dL_law_385 ml_L_38 mfX7_best rfl ⟨by decide, by decide⟩ ⟨by show cs + 0 ≤ 600000; omega, by show sl + 0 ≤ 7302250; omega⟩ (enc_at rfl sh0_0) rfl (Nat.le_of_ble_eq_true rfl) rfl rfl rfl (kX7_best l G F (xs (i + 1)) (xs (i + 2)) (xs (i + 3)) S) h1 bo_none rfl ?_
  refine LW.aload St dL_law_388 1 rfl ?_
  refine LW.arg St (i := i) (k := 1) 2 rfl dL_law_389 dL_law_390 dL_law_391 dL_law_392 dL_law_393 (by decide) (by omega) ?_
  refine LW.arg St (i := i) (k := 2) 2 rfl dL_law_394 dL_law_395 dL_law_396 dL_law_397 dL_law_398 (by decide) (by omega) ?_
  refine LW.arg St (i := i) (k := 3) 2 rfl dL_law_399 dL_law_400 dL_law_401 dL_law_402 dL_law_403 (by decide) (by omega) ?_
  refine LW.call St (M' := mX8_best) (o' := none) (k := (0, 1)) (As := [vI (xs (i + 1)), vI (xs (i + 2)), vI (xs (i + 3))]) (ψ := phI) (a := (r, S2)) (x := r) dL_law_404 ml_L_41 mfX8_best rfl ⟨by decide, by decide⟩ ⟨by show cs + 0 + 0 ≤ 600000; omega, by show sl + 0 + 0 ≤ 7302250; omega⟩ (enc_at rfl sh0_1) rfl (Nat.le_of_ble_eq_true rfl) rfl rfl rfl (kX8_best l G F (xs (i + 1)) (xs (i + 2)) (xs (i + 3)) S1) h2 bo_none rfl ?_
  refine LW.icmpeq St 1210 dL_law_407 (by decide) ?_
  exact LW.widen (by show cs + 0 + 0 ≤ cs + 1; omega) (by show sl + 0 + 0 ≤ sl + 11; omega) kk
theorem lc_6 (St : LSt G p s m meth c b n xs) {i : Nat} (hi : i + 6 ≤ n) (F : Nat) {S S1 S2 : vs} {r : Int32} (h1 : fX7_does F (xs (i + 1)) (xs (i + 2)) (xs (i + 3)) (xs (i + 4)) S = some (r, S1)) (h2 : fX8_does F (xs (i + 1)) (xs (i + 2)) (xs (i + 3)) (xs (i + 4)) S1 = some (r, S2)) (hcs : cs + 1 ≤ 600000) (hsl : sl + 11 ≤ 7302250) (kk : LW p l e s m below meth c b G 1210 [(1, vR (0, 0)), (2, vR (0, 1)), (3, vI (nI i))] [] (enc S2) (cs + 1) (sl + 11)) : LW p l e s m below meth c b G 412 [(1, vR (0, 0)), (2, vR (0, 1)), (3, vI (nI i))] [] (enc S) cs sl := by
  refine LW.aload St dL_law_412 0 rfl ?_
  refine LW.arg St (i := i) (k := 1) 2 rfl dL_law_413 dL_law_414 dL_law_415 dL_law_416 dL_law_417 (by decide) (by omega) ?_
  refine LW.arg St (i := i) (k := 2) 2 rfl dL_law_418 dL_law_419 dL_law_420 dL_law_421 dL_law_422 (by decide) (by omega) ?_
  refine LW.arg St (i := i) (k := 3) 2 rfl dL_law_423 dL_law_424 dL_law_425 dL_law_426 dL_law_427 (by decide) (by omega) ?_
  refine LW.arg St (i := i) (k := 4) 2 rfl dL_law_428 dL_law_429 dL_law_430 dL_law_431 dL_law_432 (by decide) (by omega) ?_
  refine LW.call St (M' := mX7_does) (o' := none) (k := (0, 0)) (As := [vI (xs (i + 1)), vI (xs (i + 2)), vI (xs (i + 3)), vI (xs (i + 4))]) (ψ := phI) (a := (r, S1)) (x := r) dL_law_433 ml_L_42 mfX7_does rfl ⟨by decide, by decide⟩ ⟨by show cs + 0 ≤ 600000; omega, by show sl + 0 ≤ 7302250; omega⟩ (enc_at rfl sh0_0) rfl (Nat.le_of_ble_eq_true rfl) rfl rfl rfl (kX7_does l G F (xs (i + 1)) (xs (i + 2)) (xs (i + 3)) (xs (i + 4)) S) h1 bo_none rfl ?_
  refine LW.aload St dL_law_436 1 rfl ?_
  refine LW.arg St (i := i) (k := 1) 2 rfl dL_law_437 dL_law_438 dL_law_439 dL_law_440 dL_law_441 (by decide) (by omega) ?_
  refine LW.arg St (i := i) (k := 2) 2 rfl dL_law_442 dL_law_443 dL_law_444 dL_law_445 dL_law_446 (by decide) (by omega) ?_
  refine LW.arg St (i := i) (k := 3) 2 rfl dL_law_447 dL_law_448 dL_law_449 dL_law_450 dL_law_451 (by decide) (by omega) ?_
  refine LW.arg St (i := i) (k := 4) 2 rfl dL_law_452 dL_law_453 dL_law_454 dL_law_455 dL_law_456 (by decide) (by omega) ?_
  refine LW.call St (M' := mX8_does) (o' := none) (k := (0, 1)) (As := [vI (xs (i + 1)), vI (xs (i + 2)), vI (xs (i + 3)), vI (xs (i + 4))]) (ψ := phI) (a := (r, S2)) (x := r) dL_law_457 ml_L_45 mfX8_does rfl ⟨by decide, by decide⟩ ⟨by show cs + 0 + 0 ≤ 600000; omega, by show sl + 0 + 0 ≤ 7302250; omega⟩ (enc_at rfl sh0_1) rfl (Nat.le_of_ble_eq_true rfl) rfl rfl rfl (kX8_does l G F (xs (i + 1)) (xs (i + 2)) (xs (i + 3)) (xs (i + 4)) S1) h2 bo_none rfl ?_
  refine LW.icmpeq St 1210 dL_law_460 (by decide) ?_
  exact LW.widen (by show cs + 0 + 0 ≤ cs + 1; omega) (by show sl + 0 + 0 ≤ sl + 11; omega) kk
theorem lc_7 (St : LSt G p s m meth c b n xs) {i : Nat} (hi : i + 6 ≤ n) (F : Nat) {S S1 S2 : vs} {r : Int32} (h1 : fX7_needed F (xs (i + 1)) (xs (i + 2)) (xs (i + 3)) S = some (r, S1)) (h2 : fX8_needed F (xs (i + 1)) (xs (i + 2)) (xs (i + 3)) S1 = some (r, S2)) (hcs : cs + 1 ≤ 600000) (hsl : sl + 11 ≤ 7302250) (kk : LW p l e s m below meth c b G 1210 [(1, vR (0, 0)), (2, vR (0, 1)), (3, vI (nI i))] [] (enc S2) (cs + 1) (sl + 11)) : LW p l e s m below meth c b G 465 [(1, vR (0, 0)), (2, vR (0, 1)), (3, vI (nI i))] [] (enc S) cs sl := by
  refine LW.aload St dL_law_465 0 rfl ?_
  refine LW.arg St (i := i) (k := 1) 2 rfl dL_law_466 dL_law_467 dL_law_468 dL_law_469 dL_law_470 (by decide) (by omega) ?_
  refine LW.arg St (i := i) (k := 2) 2 rfl dL_law_471 dL_law_472 dL_law_473 dL_law_474 dL_law_475 (by decide) (by omega) ?_
  refine LW.arg St (i := i) (k := 3) 2 rfl dL_law_476 dL_law_477 dL_law_478 dL_law_479 dL_law_480 (by decide) (by omega) ?_
  refine LW.call St (M' := mX7_needed) (o' := none) (k := (0, 0)) (As := [vI (xs (i + 1)), vI (xs (i + 2)), vI (xs (i + 3))]) (ψ := phI) (a := (r, S1)) (x := r) dL_law_481 ml_L_46 mfX7_needed rfl ⟨by decide, by decide⟩ ⟨by show cs + 0 ≤ 600000; omega, by show sl + 0 ≤ 7302250; omega⟩ (enc_at rfl sh0_0) rfl (Nat.le_of_ble_eq_true rfl) rfl rfl rfl (kX7_needed l G F (xs (i + 1)) (xs (i + 2)) (xs (i + 3)) S) h1 bo_none rfl ?_
  refine LW.aload St dL_law_484 1 rfl ?_
  refine LW.arg St (i := i) (k := 1) 2 rfl dL_law_485 dL_law_486 dL_law_487 dL_law_488 dL_law_489 (by decide) (by omega) ?_
  refine LW.arg St (i := i) (k := 2) 2 rfl dL_law_490 dL_law_491 dL_law_492 dL_law_493 dL_law_494 (by decide) (by omega) ?_
  refine LW.arg St (i := i) (k := 3) 2 rfl dL_law_495 dL_law_496 dL_law_497 dL_law_498 dL_law_499 (by decide) (by omega) ?_
  refine LW.call St (M' := mX8_needed) (o' := none) (k := (0, 1)) (As := [vI (xs (i + 1)), vI (xs (i + 2)), vI (xs (i + 3))]) (ψ := phI) (a := (r, S2)) (x := r) dL_law_500 ml_L_49 mfX8_needed rfl ⟨by decide, by decide⟩ ⟨by show cs + 0 + 0 ≤ 600000; omega, by show sl + 0 + 0 ≤ 7302250; omega⟩ (enc_at rfl sh0_1) rfl (Nat.le_of_ble_eq_true rfl) rfl rfl rfl (kX8_needed l G F (xs (i + 1)) (xs (i + 2)) (xs (i + 3)) S1) h2 bo_none rfl ?_
  refine LW.icmpeq St 1210 dL_law_503 (by decide) ?_
  exact LW.widen (by show cs + 0 + 0 ≤ cs + 1; omega) (by show sl + 0 + 0 ≤ sl + 11; omega) kk
theorem lc_8 (St : LSt G p s m meth c b n xs) {i : Nat} (hi : i + 6 ≤ n) (F : Nat) {S S1 S2 : vs} {r : Int32} (h1 : fX7_sign F (xs (i + 1)) (xs (i + 2)) (xs (i + 3)) (xs (i + 4)) S = some (r, S1)) (h2 : fX8_sign F (xs (i + 1)) (xs (i + 2)) (xs (i + 3)) (xs (i + 4)) S1 = some (r, S2)) (hcs : cs + 1 ≤ 600000) (hsl : sl + 11 ≤ 7302250) (kk : LW p l e s m below meth c b G 1210 [(1, vR (0, 0)), (2, vR (0, 1)), (3, vI (nI i))] [] (enc S2) (cs + 1) (sl + 11)) : LW p l e s m below meth c b G 508 [(1, vR (0, 0)), (2, vR (0, 1)), (3, vI (nI i))] [] (enc S) cs sl := by
  refine LW.aload St dL_law_508 0 rfl ?_
  refine LW.arg St (i := i) (k := 1) 2 rfl dL_law_509 dL_law_510 dL_law_511 dL_law_512 dL_law_513 (by decide) (by omega) ?_
  refine LW.arg St (i := i) (k := 2) 2 rfl dL_law_514 dL_law_515 dL_law_516 dL_law_517 dL_law_518 (by decide) (by omega) ?_
  refine LW.arg St (i := i) (k := 3) 2 rfl dL_law_519 dL_law_520 dL_law_521 dL_law_522 dL_law_523 (by decide) (by omega) ?_
  refine LW.arg St (i := i) (k := 4) 2 rfl dL_law_524 dL_law_525 dL_law_526 dL_law_527 dL_law_528 (by decide) (by omega) ?_
  refine LW.call St (M' := mX7_sign) (o' := oF) (k := (0, 0)) (As := [vI (xs (i + 1)), vI (xs (i + 2)), vI (xs (i + 3)), vI (xs (i + 4))]) (ψ := phI) (a := (r, S1)) (x := r) dL_law_529 ml_L_50 mfX7_sign rfl ⟨by decide, by decide⟩ ⟨by show cs + 1 ≤ 600000; omega, by show sl + 5 ≤ 7302250; omega⟩ (enc_at rfl sh0_0) rfl (Nat.le_of_ble_eq_true rfl) rfl rfl rfl (kX7_sign l G F (xs (i + 1)) (xs (i + 2)) (xs (i + 3)) (xs (i + 4)) S) h1 bo_oF rfl ?_
  refine LW.aload St dL_law_532 1 rfl ?_
  refine LW.arg St (i := i) (k := 1) 2 rfl dL_law_533 dL_law_534 dL_law_535 dL_law_536 dL_law_537 (by decide) (by omega) ?_
  refine LW.arg St (i := i) (k := 2) 2 rfl dL_law_538 dL_law_539 dL_law_540 dL_law_541 dL_law_542 (by decide) (by omega) ?_
  refine LW.arg St (i := i) (k := 3) 2 rfl dL_law_543 dL_law_544 dL_law_545 dL_law_546 dL_law_547 (by decide) (by omega) ?_
  refine LW.arg St (i := i) (k := 4) 2 rfl dL_law_548 dL_law_549 dL_law_550 dL_law_551 dL_law_552 (by decide) (by omega) ?_
  refine LW.call St (M' := mX8_sign) (o' := none) (k := (0, 1)) (As := [vI (xs (i + 1)), vI (xs (i + 2)), vI (xs (i + 3)), vI (xs (i + 4))]) (ψ := phI) (a := (r, S2)) (x := r) dL_law_553 ml_L_53 mfX8_sign rfl ⟨by decide, by decide⟩ ⟨by show cs + 1 + 0 ≤ 600000; omega, by show sl + 5 + 0 ≤ 7302250; omega⟩ (enc_at rfl sh0_1) rfl (Nat.le_of_ble_eq_true rfl) rfl rfl rfl (kX8_sign l G F (xs (i + 1)) (xs (i + 2)) (xs (i + 3)) (xs (i + 4)) S1) h2 bo_none rfl ?_
  refine LW.icmpeq St 1210 dL_law_556 (by decide) ?_
  exact LW.widen (by show cs + 1 + 0 ≤ cs + 1; omega) (by show sl + 5 + 0 ≤ sl + 11; omega) kk
theorem lc_9 (St : LSt G p s m meth c b n xs) {i : Nat} (hi : i + 6 ≤ n) (F : Nat) {S S1 S2 : vs} {r : Int32} (h1 : fX7_drop F (xs (i + 1)) S = some (r, S1)) (h2 : fX8_drop F (xs (i + 1)) S1 = some (r, S2)) (hcs : cs + 1 ≤ 600000) (hsl : sl + 11 ≤ 7302250) (kk : LW p l e s m below meth c b G 1210 [(1, vR (0, 0)), (2, vR (0, 1)), (3, vI (nI i))] [] (enc S2) (cs + 1) (sl + 11)) : LW p l e s m below meth c b G 561 [(1, vR (0, 0)), (2, vR (0, 1)), (3, vI (nI i))] [] (enc S) cs sl := by
  refine LW.aload St dL_law_561 0 rfl ?_
  refine LW.arg St (i := i) (k := 1) 2 rfl dL_law_562 dL_law_563 dL_law_564 dL_law_565 dL_law_566 (by decide) (by omega) ?_
  refine LW.call St (M' := mX7_drop) (o' := none) (k := (0, 0)) (As := [vI (xs (i + 1))]) (ψ := phI) (a := (r, S1)) (x := r) dL_law_567 ml_L_54 mfX7_drop rfl ⟨by decide, by decide⟩ ⟨by show cs + 0 ≤ 600000; omega, by show sl + 0 ≤ 7302250; omega⟩ (enc_at rfl sh0_0) rfl (Nat.le_of_ble_eq_true rfl) rfl rfl rfl (kX7_drop l G F (xs (i + 1)) S) h1 bo_none rfl ?_
  refine LW.aload St dL_law_570 1 rfl ?_
  refine LW.arg St (i := i) (k := 1) 2 rfl dL_law_571 dL_law_572 dL_law_573 dL_law_574 dL_law_575 (by decide) (by omega) ?_
  refine LW.call St (M' := mX8_drop) (o' := none) (k := (0, 1)) (As := [vI (xs (i + 1))]) (ψ := phI) (a := (r, S2)) (x := r) dL_law_576 ml_L_57 mfX8_drop rfl ⟨by decide, by decide⟩ ⟨by show cs + 0 + 0 ≤ 600000; omega, by show sl + 0 + 0 ≤ 7302250; omega⟩ (enc_at rfl sh0_1) rfl (Nat.le_of_ble_eq_true rfl) rfl rfl rfl (kX8_drop l G F (xs (i + 1)) S1) h2 bo_none rfl ?_
  refine LW.icmpeq St 1210 dL_law_579 (by decide) ?_
  exact LW.widen (by show cs + 0 + 0 ≤ cs + 1; omega) (by show sl + 0 + 0 ≤ sl + 11; omega) kk
theorem lc_10 (St : LSt G p s m meth c b n xs) {i : Nat} (hi : i + 6 ≤ n) (F : Nat) {S S2 : vs} {r : Int32} (h1 : fX7_speed F (xs (i + 1)) S = some r) (h2 : fX8_speed F (xs (i + 1)) S = some (r, S2)) (hcs : cs + 1 ≤ 600000) (hsl : sl + 11 ≤ 7302250) (kk : LW p l e s m below meth c b G 1210 [(1, vR (0, 0)), (2, vR (0, 1)), (3, vI (nI i))] [] (enc S2) (cs + 1) (sl + 11)) : LW p l e s m below meth c b G 584 [(1, vR (0, 0)), (2, vR (0, 1)), (3, vI (nI i))] [] (enc S) cs sl := by
  refine LW.aload St dL_law_584 0 rfl ?_
  refine LW.arg St (i := i) (k := 1) 2 rfl dL_law_585 dL_law_586 dL_law_587 dL_law_588 dL_law_589 (by decide) (by omega) ?_
  refine LW.call St (M' := mX7_speed) (o' := none) (k := (0, 0)) (As := [vI (xs (i + 1))]) (ψ := (phP S)) (a := r) (x := r) dL_law_590 ml_L_58 mfX7_speed rfl ⟨by decide, by decide⟩ ⟨by show cs + 0 ≤ 600000; omega, by show sl + 0 ≤ 7302250; omega⟩ (enc_at rfl sh0_0) rfl (Nat.le_of_ble_eq_true rfl) rfl rfl rfl (kX7_speed l G F (xs (i + 1)) S) h1 bo_none rfl ?_
  refine LW.aload St dL_law_593 1 rfl ?_
  refine LW.arg St (i := i) (k := 1) 2 rfl dL_law_594 dL_law_595 dL_law_596 dL_law_597 dL_law_598 (by decide) (by omega) ?_
  refine LW.call St (M' := mX8_speed) (o' := none) (k := (0, 1)) (As := [vI (xs (i + 1))]) (ψ := phI) (a := (r, S2)) (x := r) dL_law_599 ml_L_61 mfX8_speed rfl ⟨by decide, by decide⟩ ⟨by show cs + 0 + 0 ≤ 600000; omega, by show sl + 0 + 0 ≤ 7302250; omega⟩ (enc_at rfl sh0_1) rfl (Nat.le_of_ble_eq_true rfl) rfl rfl rfl (kX8_speed l G F (xs (i + 1)) S) h2 bo_none rfl ?_
  refine LW.icmpeq St 1210 dL_law_602 (by decide) ?_
  exact LW.widen (by show cs + 0 + 0 ≤ cs + 1; omega) (by show sl + 0 + 0 ≤ sl + 11; omega) kk
theorem lc_11 (St : LSt G p s m meth c b n xs) {i : Nat} (hi : i + 6 ≤ n) (F : Nat) {S S2 : vs} {r : Int32} (h1 : fX7_span F (xs (i + 1)) S = some r) (h2 : fX8_span F (xs (i + 1)) S = some (r, S2)) (hcs : cs + 1 ≤ 600000) (hsl : sl + 11 ≤ 7302250) (kk : LW p l e s m below meth c b G 1210 [(1, vR (0, 0)), (2, vR (0, 1)), (3, vI (nI i))] [] (enc S2) (cs + 1) (sl + 11)) : LW p l e s m below meth c b G 607 [(1, vR (0, 0)), (2, vR (0, 1)), (3, vI (nI i))] [] (enc S) cs sl := by
  refine LW.aload St dL_law_607 0 rfl ?_
  refine LW.arg St (i := i) (k := 1) 2 rfl dL_law_608 dL_law_609 dL_law_610 dL_law_611 dL_law_612 (by decide) (by omega) ?_
  refine LW.call St (M' := mX7_span) (o' := none) (k := (0, 0)) (As := [vI (xs (i + 1))]) (ψ := (phP S)) (a := r) (x := r) dL_law_613 ml_L_62 mfX7_span rfl ⟨by decide, by decide⟩ ⟨by show cs + 0 ≤ 600000; omega, by show sl + 0 ≤ 7302250; omega⟩ (enc_at rfl sh0_0) rfl (Nat.le_of_ble_eq_true rfl) rfl rfl rfl (kX7_span l G F (xs (i + 1)) S) h1 bo_none rfl ?_
  refine LW.aload St dL_law_616 1 rfl ?_
  refine LW.arg St (i := i) (k := 1) 2 rfl dL_law_617 dL_law_618 dL_law_619 dL_law_620 dL_law_621 (by decide) (by omega) ?_
  refine LW.call St (M' := mX8_span) (o' := none) (k := (0, 1)) (As := [vI (xs (i + 1))]) (ψ := phI) (a := (r, S2)) (x := r) dL_law_622 ml_L_65 mfX8_span rfl ⟨by decide, by decide⟩ ⟨by show cs + 0 + 0 ≤ 600000; omega, by show sl + 0 + 0 ≤ 7302250; omega⟩ (enc_at rfl sh0_1) rfl (Nat.le_of_ble_eq_true rfl) rfl rfl rfl (kX8_span l G F (xs (i + 1)) S) h2 bo_none rfl ?_
  refine LW.icmpeq St 1210 dL_law_625 (by decide) ?_
  exact LW.widen (by show cs + 0 + 0 ≤ cs + 1; omega) (by show sl + 0 + 0 ≤ sl + 11; omega) kk
theorem lc_12 (St : LSt G p s m meth c b n xs) {i : Nat} (hi : i + 6 ≤ n) (F : Nat) {S S2 : vs} {r : Int32} (h1 : fX7_weighs F (xs (i + 1)) (xs (i + 2)) S = some r) (h2 : fX8_weighs F (xs (i + 1)) (xs (i + 2)) S = some (r, S2)) (hcs : cs + 1 ≤ 600000) (hsl : sl + 11 ≤ 7302250) (kk : LW p l e s m below meth c b G 1210 [(1, vR (0, 0)), (2, vR (0, 1)), (3, vI (nI i))] [] (enc S2) (cs + 1) (sl + 11)) : LW p l e s m below meth c b G 630 [(1, vR (0, 0)), (2, vR (0, 1)), (3, vI (nI i))] [] (enc S) cs sl := by
  refine LW.aload St dL_law_630 0 rfl ?_
  refine LW.arg St (i := i) (k := 1) 2 rfl dL_law_631 dL_law_632 dL_law_633 dL_law_634 dL_law_635 (by decide) (by omega) ?_
  refine LW.arg St (i := i) (k := 2) 2 rfl dL_law_636 dL_law_637 dL_law_638 dL_law_639 dL_law_640 (by decide) (by omega) ?_
  refine LW.call St (M' := mX7_weighs) (o' := none) (k := (0, 0)) (As := [vI (xs (i + 1)), vI (xs (i + 2))]) (ψ := (phP S)) (a := r) (x := r) dL_law_641 ml_L_66 mfX7_weighs rfl ⟨by decide, by decide⟩ ⟨by show cs + 0 ≤ 600000; omega, by show sl + 0 ≤ 7302250; omega⟩ (enc_at rfl sh0_0) rfl (Nat.le_of_ble_eq_true rfl) rfl rfl rfl (kX7_weighs l G F (xs (i + 1)) (xs (i + 2)) S) h1 bo_none rfl ?_
  refine LW.aload St dL_law_644 1 rfl ?_
  refine LW.arg St (i := i) (k := 1) 2 rfl dL_law_645 dL_law_646 dL_law_647 dL_law_648 dL_law_649 (by decide) (by omega) ?_
  refine LW.arg St (i := i) (k := 2) 2 rfl dL_law_650 dL_law_651 dL_law_652 dL_law_653 dL_law_654 (by decide) (by omega) ?_
  refine LW.call St (M' := mX8_weighs) (o' := none) (k := (0, 1)) (As := [vI (xs (i + 1)), vI (xs (i + 2))]) (ψ := phI) (a := (r, S2)) (x := r) dL_law_655 ml_L_69 mfX8_weighs rfl ⟨by decide, by decide⟩ ⟨by show cs + 0 + 0 ≤ 600000; omega, by show sl + 0 + 0 ≤ 7302250; omega⟩ (enc_at rfl sh0_1) rfl (Nat.le_of_ble_eq_true rfl) rfl rfl rfl (kX8_weighs l G F (xs (i + 1)) (xs (i + 2)) S) h2 bo_none rfl ?_
  refine LW.icmpeq St 1210 dL_law_658 (by decide) ?_
  exact LW.widen (by show cs + 0 + 0 ≤ cs + 1; omega) (by show sl + 0 + 0 ≤ sl + 11; omega) kk
theorem lc_13 (St : LSt G p s m meth c b n xs) {i : Nat} (hi : i + 6 ≤ n) (F : Nat) {S S2 : vs} {r : Int32} (h1 : fX7_quarrels F (xs (i + 1)) S = some r) (h2 : fX8_quarrels F (xs (i + 1)) S = some (r, S2)) (hcs : cs + 1 ≤ 600000) (hsl : sl + 11 ≤ 7302250) (kk : LW p l e s m below meth c b G 1210 [(1, vR (0, 0)), (2, vR (0, 1)), (3, vI (nI i))] [] (enc S2) (cs + 1) (sl + 11)) : LW p l e s m below meth c b G 663 [(1, vR (0, 0)), (2, vR (0, 1)), (3, vI (nI i))] [] (enc S) cs sl := by
  refine LW.aload St dL_law_663 0 rfl ?_
  refine LW.arg St (i := i) (k := 1) 2 rfl dL_law_664 dL_law_665 dL_law_666 dL_law_667 dL_law_668 (by decide) (by omega) ?_
  refine LW.call St (M' := mX7_quarrels) (o' := none) (k := (0, 0)) (As := [vI (xs (i + 1))]) (ψ := (phP S)) (a := r) (x := r) dL_law_669 ml_L_70 mfX7_quarrels rfl ⟨by decide, by decide⟩ ⟨by show cs + 0 ≤ 600000; omega, by show sl + 0 ≤ 7302250; omega⟩ (enc_at rfl sh0_0) rfl (Nat.le_of_ble_eq_true rfl) rfl rfl rfl (kX7_quarrels l G F (xs (i + 1)) S) h1 bo_none rfl ?_
  refine LW.aload St dL_law_672 1 rfl ?_
  refine LW.arg St (i := i) (k := 1) 2 rfl dL_law_673 dL_law_674 dL_law_675 dL_law_676 dL_law_677 (by decide) (by omega) ?_
  refine LW.call St (M' := mX8_quarrels) (o' := none) (k := (0, 1)) (As := [vI (xs (i + 1))]) (ψ := phI) (a := (r, S2)) (x := r) dL_law_678 ml_L_73 mfX8_quarrels rfl ⟨by decide, by decide⟩ ⟨by show cs + 0 + 0 ≤ 600000; omega, by show sl + 0 + 0 ≤ 7302250; omega⟩ (enc_at rfl sh0_1) rfl (Nat.le_of_ble_eq_true rfl) rfl rfl rfl (kX8_quarrels l G F (xs (i + 1)) S) h2 bo_none rfl ?_
  refine LW.icmpeq St 1210 dL_law_681 (by decide) ?_
  exact LW.widen (by show cs + 0 + 0 ≤ cs + 1; omega) (by show sl + 0 + 0 ≤ sl + 11; omega) kk
theorem lc_14 (St : LSt G p s m meth c b n xs) {i : Nat} (hi : i + 6 ≤ n) (F : Nat) {S S1 S2 : vs} {r : Int32} (h1 : fX7_piece F (xs (i + 1)) (xs (i + 2)) S = some (r, S1)) (h2 : fX8_piece F (xs (i + 1)) (xs (i + 2)) S1 = some (r, S2)) (hcs : cs + 1 ≤ 600000) (hsl : sl + 11 ≤ 7302250) (kk : LW p l e s m below meth c b G 1210 [(1, vR (0, 0)), (2, vR (0, 1)), (3, vI (nI i))] [] (enc S2) (cs + 1) (sl + 11)) : LW p l e s m below meth c b G 686 [(1, vR (0, 0)), (2, vR (0, 1)), (3, vI (nI i))] [] (enc S) cs sl := by
  refine LW.aload St dL_law_686 0 rfl ?_
  refine LW.arg St (i := i) (k := 1) 2 rfl dL_law_687 dL_law_688 dL_law_689 dL_law_690 dL_law_691 (by decide) (by omega) ?_
  refine LW.arg St (i := i) (k := 2) 2 rfl dL_law_692 dL_law_693 dL_law_694 dL_law_695 dL_law_696 (by decide) (by omega) ?_
  refine LW.call St (M' := mX7_piece) (o' := none) (k := (0, 0)) (As := [vI (xs (i + 1)), vI (xs (i + 2))]) (ψ := phI) (a := (r, S1)) (x := r) dL_law_697 ml_L_74 mfX7_piece rfl ⟨by decide, by decide⟩ ⟨by show cs + 0 ≤ 600000; omega, by show sl + 0 ≤ 7302250; omega⟩ (enc_at rfl sh0_0) rfl (Nat.le_of_ble_eq_true rfl) rfl rfl rfl (kX7_piece l G F (xs (i + 1)) (xs (i + 2)) S) h1 bo_none rfl ?_
  refine LW.aload St dL_law_700 1 rfl ?_
  refine LW.arg St (i := i) (k := 1) 2 rfl dL_law_701 dL_law_702 dL_law_703 dL_law_704 dL_law_705 (by decide) (by omega) ?_
  refine LW.arg St (i := i) (k := 2) 2 rfl dL_law_706 dL_law_707 dL_law_708 dL_law_709 dL_law_710 (by decide) (by omega) ?_
  refine LW.call St (M' := mX8_piece) (o' := none) (k := (0, 1)) (As := [vI (xs (i + 1)), vI (xs (i + 2))]) (ψ := phI) (a := (r, S2)) (x := r) dL_law_711 ml_L_77 mfX8_piece rfl ⟨by decide, by decide⟩ ⟨by show cs + 0 + 0 ≤ 600000; omega, by show sl + 0 + 0 ≤ 7302250; omega⟩ (enc_at rfl sh0_1) rfl (Nat.le_of_ble_eq_true rfl) rfl rfl rfl (kX8_piece l G F (xs (i + 1)) (xs (i + 2)) S1) h2 bo_none rfl ?_
  refine LW.icmpeq St 1210 dL_law_714 (by decide) ?_
  exact LW.widen (by show cs + 0 + 0 ≤ cs + 1; omega) (by show sl + 0 + 0 ≤ sl + 11; omega) kk
theorem lc_15 (St : LSt G p s m meth c b n xs) {i : Nat} (hi : i + 6 ≤ n) (F : Nat) {S S1 S2 : vs} {r : Int32} (h1 : fX7_sweep F  S = some (r, S1)) (h2 : fX8_sweep F  S1 = some (r, S2)) (hcs : cs + 1 ≤ 600000) (hsl : sl + 11 ≤ 7302250) (kk : LW p l e s m below meth c b G 1210 [(1, vR (0, 0)), (2, vR (0, 1)), (3, vI (nI i))] [] (enc S2) (cs + 1) (sl + 11)) : LW p l e s m below meth c b G 719 [(1, vR (0, 0)), (2, vR (0, 1)), (3, vI (nI i))] [] (enc S) cs sl := by
  refine LW.aload St dL_law_719 0 rfl ?_
  refine LW.call St (M' := mX7_sweep) (o' := none) (k := (0, 0)) (As := []) (ψ := phI) (a := (r, S1)) (x := r) dL_law_720 ml_L_78 mfX7_sweep rfl ⟨by decide, by decide⟩ ⟨by show cs + 0 ≤ 600000; omega, by show sl + 0 ≤ 7302250; omega⟩ (enc_at rfl sh0_0) rfl (Nat.le_of_ble_eq_true rfl) rfl rfl rfl (kX7_sweep l G F  S) h1 bo_none rfl ?_
  refine LW.aload St dL_law_723 1 rfl ?_
  refine LW.call St (M' := mX8_sweep) (o' := none) (k := (0, 1)) (As := []) (ψ := phI) (a := (r, S2)) (x := r) dL_law_724 ml_L_82 mfX8_sweep rfl ⟨by decide, by decide⟩ ⟨by show cs + 0 + 0 ≤ 600000; omega, by show sl + 0 + 0 ≤ 7302250; omega⟩ (enc_at rfl sh0_1) rfl (Nat.le_of_ble_eq_true rfl) rfl rfl rfl (kX8_sweep l G F  S1) h2 bo_none rfl ?_
  refine LW.icmpeq St 1210 dL_law_727 (by decide) ?_
  exact LW.widen (by show cs + 0 + 0 ≤ cs + 1; omega) (by show sl + 0 + 0 ≤ sl + 11; omega) kk
theorem lc_16 (St : LSt G p s m meth c b n xs) {i : Nat} (hi : i + 6 ≤ n) (F : Nat) {S S1 S2 : vs} {r : Int32} (h1 : fX7_tolerance F (xs (i + 1)) S = some (r, S1)) (h2 : fX8_tolerance F (xs (i + 1)) S1 = some (r, S2)) (hcs : cs + 1 ≤ 600000) (hsl : sl + 11 ≤ 7302250) (kk : LW p l e s m below meth c b G 1210 [(1, vR (0, 0)), (2, vR (0, 1)), (3, vI (nI i))] [] (enc S2) (cs + 1) (sl + 11)) : LW p l e s m below meth c b G 732 [(1, vR (0, 0)), (2, vR (0, 1)), (3, vI (nI i))] [] (enc S) cs sl := by
  refine LW.aload St dL_law_732 0 rfl ?_
  refine LW.arg St (i := i) (k := 1) 2 rfl dL_law_733 dL_law_734 dL_law_735 dL_law_736 dL_law_737 (by decide) (by omega) ?_
  refine LW.call St (M' := mX7_tolerance) (o' := none) (k := (0, 0)) (As := [vI (xs (i + 1))]) (ψ := phI) (a := (r, S1)) (x := r) dL_law_738 ml_L_83 mfX7_tolerance rfl ⟨by decide, by decide⟩ ⟨by show cs + 0 ≤ 600000; omega, by show sl + 0 ≤ 7302250; omega⟩ (enc_at rfl sh0_0) rfl (Nat.le_of_ble_eq_true rfl) rfl rfl rfl (kX7_tolerance l G F (xs (i + 1)) S) h1 bo_none rfl ?_
  refine LW.aload St dL_law_741 1 rfl ?_
  refine LW.arg St (i := i) (k := 1) 2 rfl dL_law_742 dL_law_743 dL_law_744 dL_law_745 dL_law_746 (by decide) (by omega) ?_
  refine LW.call St (M' := mX8_tolerance) (o' := none) (k := (0, 1)) (As := [vI (xs (i + 1))]) (ψ := phI) (a := (r, S2)) (x := r) dL_law_747 ml_L_86 mfX8_tolerance rfl ⟨by decide, by decide⟩ ⟨by show cs + 0 + 0 ≤ 600000; omega, by show sl + 0 + 0 ≤ 7302250; omega⟩ (enc_at rfl sh0_1) rfl (Nat.le_of_ble_eq_true rfl) rfl rfl rfl (kX8_tolerance l G F (xs (i + 1)) S1) h2 bo_none rfl ?_
  refine LW.icmpeq St 1210 dL_law_750 (by decide) ?_
  exact LW.widen (by show cs + 0 + 0 ≤ cs + 1; omega) (by show sl + 0 + 0 ≤ sl + 11; omega) kk
theorem lc_17 (St : LSt G p s m meth c b n xs) {i : Nat} (hi : i + 6 ≤ n) (F : Nat) {S S1 S2 : vs} {r : Int32} (h1 : fX7_rows F  S = some (r, S1)) (h2 : fX8_rows F  S1 = some (r, S2)) (hcs : cs + 1 ≤ 600000) (hsl : sl + 11 ≤ 7302250) (kk : LW p l e s m below meth c b G 1210 [(1, vR (0, 0)), (2, vR (0, 1)), (3, vI (nI i))] [] (enc S2) (cs + 1) (sl + 11)) : LW p l e s m below meth c b G 755 [(1, vR (0, 0)), (2, vR (0, 1)), (3, vI (nI i))] [] (enc S) cs sl := by
  refine LW.aload St dL_law_755 0 rfl ?_
  refine LW.call St (M' := mX7_rows) (o' := none) (k := (0, 0)) (As := []) (ψ := phI) (a := (r, S1)) (x := r) dL_law_756 ml_L_87 mfX7_rows rfl ⟨by decide, by decide⟩ ⟨by show cs + 0 ≤ 600000; omega, by show sl + 0 ≤ 7302250; omega⟩ (enc_at rfl sh0_0) rfl (Nat.le_of_ble_eq_true rfl) rfl rfl rfl (kX7_rows l G F  S) h1 bo_none rfl ?_
  refine LW.aload St dL_law_759 1 rfl ?_
  refine LW.call St (M' := mX8_rows) (o' := none) (k := (0, 1)) (As := []) (ψ := phI) (a := (r, S2)) (x := r) dL_law_760 ml_L_90 mfX8_rows rfl ⟨by decide, by decide⟩ ⟨by show cs + 0 + 0 ≤ 600000; omega, by show sl + 0 + 0 ≤ 7302250; omega⟩ (enc_at rfl sh0_1) rfl (Nat.le_of_ble_eq_true rfl) rfl rfl rfl (kX8_rows l G F  S1) h2 bo_none rfl ?_
  refine LW.icmpeq St 1210 dL_law_763 (by decide) ?_
  exact LW.widen (by show cs + 0 + 0 ≤ cs + 1; omega) (by show sl + 0 + 0 ≤ sl + 11; omega) kk
theorem lc_18 (St : LSt G p s m meth c b n xs) {i : Nat} (hi : i + 6 ≤ n) (F : Nat) {S S1 S2 : vs} {r : Int32} (h1 : fX7_misfit F  S = some (r, S1)) (h2 : fX8_misfit F  S1 = some (r, S2)) (hcs : cs + 1 ≤ 600000) (hsl : sl + 11 ≤ 7302250) (kk : LW p l e s m below meth c b G 1210 [(1, vR (0, 0)), (2, vR (0, 1)), (3, vI (nI i))] [] (enc S2) (cs + 1) (sl + 11)) : LW p l e s m below meth c b G 768 [(1, vR (0, 0)), (2, vR (0, 1)), (3, vI (nI i))] [] (enc S) cs sl := by
  refine LW.aload St dL_law_768 0 rfl ?_
  refine LW.call St (M' := mX7_misfit) (o' := none) (k := (0, 0)) (As := []) (ψ := phI) (a := (r, S1)) (x := r) dL_law_769 ml_L_91 mfX7_misfit rfl ⟨by decide, by decide⟩ ⟨by show cs + 0 ≤ 600000; omega, by show sl + 0 ≤ 7302250; omega⟩ (enc_at rfl sh0_0) rfl (Nat.le_of_ble_eq_true rfl) rfl rfl rfl (kX7_misfit l G F  S) h1 bo_none rfl ?_
  refine LW.aload St dL_law_772 1 rfl ?_
  refine LW.call St (M' := mX8_misfit) (o' := none) (k := (0, 1)) (As := []) (ψ := phI) (a := (r, S2)) (x := r) dL_law_773 ml_L_94 mfX8_misfit rfl ⟨by decide, by decide⟩ ⟨by show cs + 0 + 0 ≤ 600000; omega, by show sl + 0 + 0 ≤ 7302250; omega⟩ (enc_at rfl sh0_1) rfl (Nat.le_of_ble_eq_true rfl) rfl rfl rfl (kX8_misfit l G F  S1) h2 bo_none rfl ?_
  refine LW.icmpeq St 1210 dL_law_776 (by decide) ?_
  exact LW.widen (by show cs + 0 + 0 ≤ cs + 1; omega) (by show sl + 0 + 0 ≤ sl + 11; omega) kk
theorem lc_19 (St : LSt G p s m meth c b n xs) {i : Nat} (hi : i + 6 ≤ n) (F : Nat) {S S1 S2 : vs} {r : Int32} (h1 : fX7_inRow F (xs (i + 1)) S = some (r, S1)) (h2 : fX8_inRow F (xs (i + 1)) S1 = some (r, S2)) (hcs : cs + 1 ≤ 600000) (hsl : sl + 11 ≤ 7302250) (kk : LW p l e s m below meth c b G 1210 [(1, vR (0, 0)), (2, vR (0, 1)), (3, vI (nI i))] [] (enc S2) (cs + 1) (sl + 11)) : LW p l e s m below meth c b G 781 [(1, vR (0, 0)), (2, vR (0, 1)), (3, vI (nI i))] [] (enc S) cs sl := by
  refine LW.aload St dL_law_781 0 rfl ?_
  refine LW.arg St (i := i) (k := 1) 2 rfl dL_law_782 dL_law_783 dL_law_784 dL_law_785 dL_law_786 (by decide) (by omega) ?_
  refine LW.call St (M' := mX7_inRow) (o' := none) (k := (0, 0)) (As := [vI (xs (i + 1))]) (ψ := phI) (a := (r, S1)) (x := r) dL_law_787 ml_L_95 mfX7_inRow rfl ⟨by decide, by decide⟩ ⟨by show cs + 0 ≤ 600000; omega, by show sl + 0 ≤ 7302250; omega⟩ (enc_at rfl sh0_0) rfl (Nat.le_of_ble_eq_true rfl) rfl rfl rfl (kX7_inRow l G F (xs (i + 1)) S) h1 bo_none rfl ?_
  refine LW.aload St dL_law_790 1 rfl ?_
  refine LW.arg St (i := i) (k := 1) 2 rfl dL_law_791 dL_law_792 dL_law_793 dL_law_794 dL_law_795 (by decide) (by omega) ?_
  refine LW.call St (M' := mX8_inRow) (o' := none) (k := (0, 1)) (As := [vI (xs (i + 1))]) (ψ := phI) (a := (r, S2)) (x := r) dL_law_796 ml_L_98 mfX8_inRow rfl ⟨by decide, by decide⟩ ⟨by show cs + 0 + 0 ≤ 600000; omega, by show sl + 0 + 0 ≤ 7302250; omega⟩ (enc_at rfl sh0_1) rfl (Nat.le_of_ble_eq_true rfl) rfl rfl rfl (kX8_inRow l G F (xs (i + 1)) S1) h2 bo_none rfl ?_
  refine LW.icmpeq St 1210 dL_law_799 (by decide) ?_
  exact LW.widen (by show cs + 0 + 0 ≤ cs + 1; omega) (by show sl + 0 + 0 ≤ sl + 11; omega) kk
theorem lc_20 (St : LSt G p s m meth c b n xs) {i : Nat} (hi : i + 6 ≤ n) (F : Nat) {S S1 S2 : vs} {r : Int32} (h1 : fX7_sung F (xs (i + 1)) (xs (i + 2)) (xs (i + 3)) S = some (r, S1)) (h2 : fX8_sung F (xs (i + 1)) (xs (i + 2)) (xs (i + 3)) S1 = some (r, S2)) (hcs : cs + 1 ≤ 600000) (hsl : sl + 11 ≤ 7302250) (kk : LW p l e s m below meth c b G 1210 [(1, vR (0, 0)), (2, vR (0, 1)), (3, vI (nI i))] [] (enc S2) (cs + 1) (sl + 11)) : LW p l e s m below meth c b G 804 [(1, vR (0, 0)), (2, vR (0, 1)), (3, vI (nI i))] [] (enc S) cs sl := by
  refine LW.aload St dL_law_804 0 rfl ?_
  refine LW.arg St (i := i) (k := 1) 2 rfl dL_law_805 dL_law_806 dL_law_807 dL_law_808 dL_law_809 (by decide) (by omega) ?_
  refine LW.arg St (i := i) (k := 2) 2 rfl dL_law_810 dL_law_811 dL_law_812 dL_law_813 dL_law_814 (by decide) (by omega) ?_
  refine LW.arg St (i := i) (k := 3) 2 rfl dL_law_815 dL_law_816 dL_law_817 dL_law_818 dL_law_819 (by decide) (by omega) ?_
  refine LW.call St (M' := mX7_sung) (o' := none) (k := (0, 0)) (As := [vI (xs (i + 1)), vI (xs (i + 2)), vI (xs (i + 3))]) (ψ := phI) (a := (r, S1)) (x := r) dL_law_820 ml_L_99 mfX7_sung rfl ⟨by decide, by decide⟩ ⟨by show cs + 0 ≤ 600000; omega, by show sl + 0 ≤ 7302250; omega⟩ (enc_at rfl sh0_0) rfl (Nat.le_of_ble_eq_true rfl) rfl rfl rfl (kX7_sung l G F (xs (i + 1)) (xs (i + 2)) (xs (i + 3)) S) h1 bo_none rfl ?_
  refine LW.aload St dL_law_823 1 rfl ?_
  refine LW.arg St (i := i) (k := 1) 2 rfl dL_law_824 dL_law_825 dL_law_826 dL_law_827 dL_law_828 (by decide) (by omega) ?_
  refine LW.arg St (i := i) (k := 2) 2 rfl dL_law_829 dL_law_830 dL_law_831 dL_law_832 dL_law_833 (by decide) (by omega) ?_
  refine LW.arg St (i := i) (k := 3) 2 rfl dL_law_834 dL_law_835 dL_law_836 dL_law_837 dL_law_838 (by decide) (by omega) ?_
  refine LW.call St (M' := mX8_sung) (o' := none) (k := (0, 1)) (As := [vI (xs (i + 1)), vI (xs (i + 2)), vI (xs (i + 3))]) (ψ := phI) (a := (r, S2)) (x := r) dL_law_839 ml_L_102 mfX8_sung rfl ⟨by decide, by decide⟩ ⟨by show cs + 0 + 0 ≤ 600000; omega, by show sl + 0 + 0 ≤ 7302250; omega⟩ (enc_at rfl sh0_1) rfl (Nat.le_of_ble_eq_true rfl) rfl rfl rfl (kX8_sung l G F (xs (i + 1)) (xs (i + 2)) (xs (i + 3)) S1) h2 bo_none rfl ?_
  refine LW.icmpeq St 1210 dL_law_842 (by decide) ?_
  exact LW.widen (by show cs + 0 + 0 ≤ cs + 1; omega) (by show sl + 0 + 0 ≤ sl + 11; omega) kk
theorem lc_21 (St : LSt G p s m meth c b n xs) {i : Nat} (hi : i + 6 ≤ n) (F : Nat) {S S1 S2 : vs} {r : Int32} (h1 : fX7_text F (xs (i + 1)) (xs (i + 2)) (xs (i + 3)) (xs (i + 4)) (bz (xs (i + 5))) S = some (r, S1)) (h2 : fX8_text F (xs (i + 1)) (xs (i + 2)) (xs (i + 3)) (xs (i + 4)) (bz (xs (i + 5))) S1 = some (r, S2)) (hcs : cs + 1 ≤ 600000) (hsl : sl + 11 ≤ 7302250) (kk : LW p l e s m below meth c b G 1210 [(1, vR (0, 0)), (2, vR (0, 1)), (3, vI (nI i))] [] (enc S2) (cs + 1) (sl + 11)) : LW p l e s m below meth c b G 847 [(1, vR (0, 0)), (2, vR (0, 1)), (3, vI (nI i))] [] (enc S) cs sl := by
  refine LW.aload St dL_law_847 0 rfl ?_
  refine LW.arg St (i := i) (k := 1) 2 rfl dL_law_848 dL_law_849 dL_law_850 dL_law_851 dL_law_852 (by decide) (by omega) ?_
  refine LW.arg St (i := i) (k := 2) 2 rfl dL_law_853 dL_law_854 dL_law_855 dL_law_856 dL_law_857 (by decide) (by omega) ?_
  refine LW.arg St (i := i) (k := 3) 2 rfl dL_law_858 dL_law_859 dL_law_860 dL_law_861 dL_law_862 (by decide) (by omega) ?_
  refine LW.arg St (i := i) (k := 4) 2 rfl dL_law_863 dL_law_864 dL_law_865 dL_law_866 dL_law_867 (by decide) (by omega) ?_
  refine LW.arg St (i := i) (k := 5) 2 rfl dL_law_868 dL_law_869 dL_law_870 dL_law_871 dL_law_872 (by decide) (by omega) ?_
  refine LW.bool St dL_law_873 (by decide) dL_law_876 dL_law_877 (by decide) dL_law_880 ?_
  refine LW.call St (M' := mX7_text) (o' := oF) (k := (0, 0)) (As := [vI (xs (i + 1)), vI (xs (i + 2)), vI (xs (i + 3)), vI (xs (i + 4)), vI (bz (xs (i + 5)))]) (ψ := phI) (a := (r, S1)) (x := r) dL_law_881 ml_L_103 mfX7_text rfl ⟨by decide, by decide⟩ ⟨by show cs + 1 ≤ 600000; omega, by show sl + 5 ≤ 7302250; omega⟩ (enc_at rfl sh0_0) rfl (Nat.le_of_ble_eq_true rfl) rfl rfl rfl (kX7_text l G F (xs (i + 1)) (xs (i + 2)) (xs (i + 3)) (xs (i + 4)) (bz (xs (i + 5))) S) h1 bo_oF rfl ?_
  refine LW.aload St dL_law_884 1 rfl ?_
  refine LW.arg St (i := i) (k := 1) 2 rfl dL_law_885 dL_law_886 dL_law_887 dL_law_888 dL_law_889 (by decide) (by omega) ?_
  refine LW.arg St (i := i) (k := 2) 2 rfl dL_law_890 dL_law_891 dL_law_892 dL_law_893 dL_law_894 (by decide) (by omega) ?_
  refine LW.arg St (i := i) (k := 3) 2 rfl dL_law_895 dL_law_896 dL_law_897 dL_law_898 dL_law_899 (by decide) (by omega) ?_
  refine LW.arg St (i := i) (k := 4) 2 rfl dL_law_900 dL_law_901 dL_law_902 dL_law_903 dL_law_904 (by decide) (by omega) ?_
  refine LW.arg St (i := i) (k := 5) 2 rfl dL_law_905 dL_law_906 dL_law_907 dL_law_908 dL_law_909 (by decide) (by omega) ?_
  refine LW.bool St dL_law_910 (by decide) dL_law_913 dL_law_914 (by decide) dL_law_917 ?_
  refine LW.call St (M' := mX8_text) (o' := none) (k := (0, 1)) (As := [vI (xs (i + 1)), vI (xs (i + 2)), vI (xs (i + 3)), vI (xs (i + 4)), vI (bz (xs (i + 5)))]) (ψ := phI) (a := (r, S2)) (x := r) dL_law_918 ml_L_107 mfX8_text rfl ⟨by decide, by decide⟩ ⟨by show cs + 1 + 0 ≤ 600000; omega, by show sl + 5 + 0 ≤ 7302250; omega⟩ (enc_at rfl sh0_1) rfl (Nat.le_of_ble_eq_true rfl) rfl rfl rfl (kX8_text l G F (xs (i + 1)) (xs (i + 2)) (xs (i + 3)) (xs (i + 4)) (bz (xs (i + 5))) S1) h2 bo_none rfl ?_
  refine LW.icmpeq St 1210 dL_law_921 (by decide) ?_
  exact LW.widen (by show cs + 1 + 0 ≤ cs + 1; omega) (by show sl + 5 + 0 ≤ sl + 11; omega) kk
theorem lc_22 (St : LSt G p s m meth c b n xs) {i : Nat} (hi : i + 6 ≤ n) (F : Nat) {S S2 : vs} {r : Int32} (h1 : fX7_counts F (xs (i + 1)) (xs (i + 2)) (xs (i + 3)) (xs (i + 4)) S = some r) (h2 : fX8_counts F (xs (i + 1)) (xs (i + 2)) (xs (i + 3)) (xs (i + 4)) S = some (r, S2)) (hcs : cs + 1 ≤ 600000) (hsl : sl + 11 ≤ 7302250) (kk : LW p l e s m below meth c b G 1210 [(1, vR (0, 0)), (2, vR (0, 1)), (3, vI (nI i))] [] (enc S2) (cs + 1) (sl + 11)) : LW p l e s m below meth c b G 926 [(1, vR (0, 0)), (2, vR (0, 1)), (3, vI (nI i))] [] (enc S) cs sl := by
  refine LW.aload St dL_law_926 0 rfl ?_
  refine LW.arg St (i := i) (k := 1) 2 rfl dL_law_927 dL_law_928 dL_law_929 dL_law_930 dL_law_931 (by decide) (by omega) ?_
  refine LW.arg St (i := i) (k := 2) 2 rfl dL_law_932 dL_law_933 dL_law_934 dL_law_935 dL_law_936 (by decide) (by omega) ?_
  refine LW.arg St (i := i) (k := 3) 2 rfl dL_law_937 dL_law_938 dL_law_939 dL_law_940 dL_law_941 (by decide) (by omega) ?_
  refine LW.arg St (i := i) (k := 4) 2 rfl dL_law_942 dL_law_943 dL_law_944 dL_law_945 dL_law_946 (by decide) (by omega) ?_
  refine LW.call St (M' := mX7_counts) (o' := none) (k := (0, 0)) (As := [vI (xs (i + 1)), vI (xs (i + 2)), vI (xs (i + 3)), vI (xs (i + 4))]) (ψ := (phP S)) (a := r) (x := r) dL_law_947 ml_L_108 mfX7_counts rfl ⟨by decide, by decide⟩ ⟨by show cs + 0 ≤ 600000; omega, by show sl + 0 ≤ 7302250; omega⟩ (enc_at rfl sh0_0) rfl (Nat.le_of_ble_eq_true rfl) rfl rfl rfl (kX7_counts l G F (xs (i + 1)) (xs (i + 2)) (xs (i + 3)) (xs (i + 4)) S) h1 bo_none rfl ?_
  refine LW.aload St dL_law_950 1 rfl ?_
  refine LW.arg St (i := i) (k := 1) 2 rfl dL_law_951 dL_law_952 dL_law_953 dL_law_954 dL_law_955 (by decide) (by omega) ?_
  refine LW.arg St (i := i) (k := 2) 2 rfl dL_law_956 dL_law_957 dL_law_958 dL_law_959 dL_law_960 (by decide) (by omega) ?_
  refine LW.arg St (i := i) (k := 3) 2 rfl dL_law_961 dL_law_962 dL_law_963 dL_law_964 dL_law_965 (by decide) (by omega) ?_
  refine LW.arg St (i := i) (k := 4) 2 rfl dL_law_966 dL_law_967 dL_law_968 dL_law_969 dL_law_970 (by decide) (by omega) ?_
  refine LW.call St (M' := mX8_counts) (o' := none) (k := (0, 1)) (As := [vI (xs (i + 1)), vI (xs (i + 2)), vI (xs (i + 3)), vI (xs (i + 4))]) (ψ := phI) (a := (r, S2)) (x := r) dL_law_971 ml_L_111 mfX8_counts rfl ⟨by decide, by decide⟩ ⟨by show cs + 0 + 0 ≤ 600000; omega, by show sl + 0 + 0 ≤ 7302250; omega⟩ (enc_at rfl sh0_1) rfl (Nat.le_of_ble_eq_true rfl) rfl rfl rfl (kX8_counts l G F (xs (i + 1)) (xs (i + 2)) (xs (i + 3)) (xs (i + 4)) S) h2 bo_none rfl ?_
  refine LW.icmpeq St 1210 dL_law_974 (by decide) ?_
  exact LW.widen (by show cs + 0 + 0 ≤ cs + 1; omega) (by show sl + 0 + 0 ≤ sl + 11; omega) kk
theorem lc_23 (St : LSt G p s m meth c b n xs) {i : Nat} (hi : i + 6 ≤ n) (F : Nat) {S S2 : vs} {r : Int32} (h1 : fX7_may F (xs (i + 1)) (xs (i + 2)) (xs (i + 3)) S = some r) (h2 : fX8_may F (xs (i + 1)) (xs (i + 2)) (xs (i + 3)) S = some (r, S2)) (hcs : cs + 1 ≤ 600000) (hsl : sl + 11 ≤ 7302250) (kk : LW p l e s m below meth c b G 1210 [(1, vR (0, 0)), (2, vR (0, 1)), (3, vI (nI i))] [] (enc S2) (cs + 1) (sl + 11)) : LW p l e s m below meth c b G 979 [(1, vR (0, 0)), (2, vR (0, 1)), (3, vI (nI i))] [] (enc S) cs sl := by
  refine LW.aload St dL_law_979 0 rfl ?_
  refine LW.arg St (i := i) (k := 1) 2 rfl dL_law_980 dL_law_981 dL_law_982 dL_law_983 dL_law_984 (by decide) (by omega) ?_
  refine LW.arg St (i := i) (k := 2) 2 rfl dL_law_985 dL_law_986 dL_law_987 dL_law_988 dL_law_989 (by decide) (by omega) ?_
  refine LW.arg St (i := i) (k := 3) 2 rfl dL_law_990 dL_law_991 dL_law_992 dL_law_993 dL_law_994 (by decide) (by omega) ?_
  refine LW.call St (M' := mX7_may) (o' := none) (k := (0, 0)) (As := [vI (xs (i + 1)), vI (xs (i + 2)), vI (xs (i + 3))]) (ψ := (phP S)) (a := r) (x := r) dL_law_995 ml_L_112 mfX7_may rfl ⟨by decide, by decide⟩ ⟨by show cs + 0 ≤ 600000; omega, by show sl + 0 ≤ 7302250; omega⟩ (enc_at rfl sh0_0) rfl (Nat.le_of_ble_eq_true rfl) rfl rfl rfl (kX7_may l G F (xs (i + 1)) (xs (i + 2)) (xs (i + 3)) S) h1 bo_none rfl ?_
  refine LW.aload St dL_law_998 1 rfl ?_
  refine LW.arg St (i := i) (k := 1) 2 rfl dL_law_999 dL_law_1000 dL_law_1001 dL_law_1002 dL_law_1003 (by decide) (by omega) ?_
  refine LW.arg St (i := i) (k := 2) 2 rfl dL_law_1004 dL_law_1005 dL_law_1006 dL_law_1007 dL_law_1008 (by decide) (by omega) ?_
  refine LW.arg St (i := i) (k := 3) 2 rfl dL_law_1009 dL_law_1010 dL_law_1011 dL_law_1012 dL_law_1013 (by decide) (by omega) ?_
  refine LW.call St (M' := mX8_may) (o' := none) (k := (0, 1)) (As := [vI (xs (i + 1)), vI (xs (i + 2)), vI (xs (i + 3))]) (ψ := phI) (a := (r, S2)) (x := r) dL_law_1014 ml_L_115 mfX8_may rfl ⟨by decide, by decide⟩ ⟨by show cs + 0 + 0 ≤ 600000; omega, by show sl + 0 + 0 ≤ 7302250; omega⟩ (enc_at rfl sh0_1) rfl (Nat.le_of_ble_eq_true rfl) rfl rfl rfl (kX8_may l G F (xs (i + 1)) (xs (i + 2)) (xs (i + 3)) S) h2 bo_none rfl ?_
  refine LW.icmpeq St 1210 dL_law_1017 (by decide) ?_
  exact LW.widen (by show cs + 0 + 0 ≤ cs + 1; omega) (by show sl + 0 + 0 ≤ sl + 11; omega) kk
theorem lc_24 (St : LSt G p s m meth c b n xs) {i : Nat} (hi : i + 6 ≤ n) (F : Nat) {S S2 : vs} {r : Int32} (h1 : fX7_heard F (xs (i + 1)) (xs (i + 2)) S = some r) (h2 : fX8_heard F (xs (i + 1)) (xs (i + 2)) S = some (r, S2)) (hcs : cs + 1 ≤ 600000) (hsl : sl + 11 ≤ 7302250) (kk : LW p l e s m below meth c b G 1210 [(1, vR (0, 0)), (2, vR (0, 1)), (3, vI (nI i))] [] (enc S2) (cs + 1) (sl + 11)) : LW p l e s m below meth c b G 1022 [(1, vR (0, 0)), (2, vR (0, 1)), (3, vI (nI i))] [] (enc S) cs sl := by
  refine LW.aload St dL_law_1022 0 rfl ?_
  refine LW.arg St (i := i) (k := 1) 2 rfl dL_law_1023 dL_law_1024 dL_law_1025 dL_law_1026 dL_law_1027 (by decide) (by omega) ?_
  refine LW.arg St (i := i) (k := 2) 2 rfl dL_law_1028 dL_law_1029 dL_law_1030 dL_law_1031 dL_law_1032 (by decide) (by omega) ?_
  refine LW.call St (M' := mX7_heard) (o' := none) (k := (0, 0)) (As := [vI (xs (i + 1)), vI (xs (i + 2))]) (ψ := (phP S)) (a := r) (x := r) dL_law_1033 ml_L_116 mfX7_heard rfl ⟨by decide, by decide⟩ ⟨by show cs + 0 ≤ 600000; omega, by show sl + 0 ≤ 7302250; omega⟩ (enc_at rfl sh0_0) rfl (Nat.le_of_ble_eq_true rfl) rfl rfl rfl (kX7_heard l G F (xs (i + 1)) (xs (i + 2)) S) h1 bo_none rfl ?_
  refine LW.aload St dL_law_1036 1 rfl ?_
  refine LW.arg St (i := i) (k := 1) 2 rfl dL_law_1037 dL_law_1038 dL_law_1039 dL_law_1040 dL_law_1041 (by decide) (by omega) ?_
  refine LW.arg St (i := i) (k := 2) 2 rfl dL_law_1042 dL_law_1043 dL_law_1044 dL_law_1045 dL_law_1046 (by decide) (by omega) ?_
  refine LW.call St (M' := mX8_heard) (o' := none) (k := (0, 1)) (As := [vI (xs (i + 1)), vI (xs (i + 2))]) (ψ := phI) (a := (r, S2)) (x := r) dL_law_1047 ml_L_119 mfX8_heard rfl ⟨by decide, by decide⟩ ⟨by show cs + 0 + 0 ≤ 600000; omega, by show sl + 0 + 0 ≤ 7302250; omega⟩ (enc_at rfl sh0_1) rfl (Nat.le_of_ble_eq_true rfl) rfl rfl rfl (kX8_heard l G F (xs (i + 1)) (xs (i + 2)) S) h2 bo_none rfl ?_
  refine LW.icmpeq St 1210 dL_law_1050 (by decide) ?_
  exact LW.widen (by show cs + 0 + 0 ≤ cs + 1; omega) (by show sl + 0 + 0 ≤ sl + 11; omega) kk
theorem lc_25 (St : LSt G p s m meth c b n xs) {i : Nat} (hi : i + 6 ≤ n) (F : Nat) {S S2 : vs} {r : Int32} (h1 : fX7_days F (xs (i + 1)) (xs (i + 2)) (xs (i + 3)) (xs (i + 4)) S = some r) (h2 : fX8_days F (xs (i + 1)) (xs (i + 2)) (xs (i + 3)) (xs (i + 4)) S = some (r, S2)) (hcs : cs + 1 ≤ 600000) (hsl : sl + 11 ≤ 7302250) (kk : LW p l e s m below meth c b G 1210 [(1, vR (0, 0)), (2, vR (0, 1)), (3, vI (nI i))] [] (enc S2) (cs + 1) (sl + 11)) : LW p l e s m below meth c b G 1055 [(1, vR (0, 0)), (2, vR (0, 1)), (3, vI (nI i))] [] (enc S) cs sl := by
  refine LW.aload St dL_law_1055 0 rfl ?_
  refine LW.arg St (i := i) (k := 1) 2 rfl dL_law_1056 dL_law_1057 dL_law_1058 dL_law_1059 dL_law_1060 (by decide) (by omega) ?_
  refine LW.arg St (i := i) (k := 2) 2 rfl dL_law_1061 dL_law_1062 dL_law_1063 dL_law_1064 dL_law_1065 (by decide) (by omega) ?_
  refine LW.arg St (i := i) (k := 3) 2 rfl dL_law_1066 dL_law_1067 dL_law_1068 dL_law_1069 dL_law_1070 (by decide) (by omega) ?_
  refine LW.arg St (i := i) (k := 4) 2 rfl dL_law_1071 dL_law_1072 dL_law_1073 dL_law_1074 dL_law_1075 (by decide) (by omega) ?_
  refine LW.call St (M' := mX7_days) (o' := none) (k := (0, 0)) (As := [vI (xs (i + 1)), vI (xs (i + 2)), vI (xs (i + 3)), vI (xs (i + 4))]) (ψ := (phP S)) (a := r) (x := r) dL_law_1076 ml_L_120 mfX7_days rfl ⟨by decide, by decide⟩ ⟨by show cs + 0 ≤ 600000; omega, by show sl + 0 ≤ 7302250; omega⟩ (enc_at rfl sh0_0) rfl (Nat.le_of_ble_eq_true rfl) rfl rfl rfl (kX7_days l G F (xs (i + 1)) (xs (i + 2)) (xs (i + 3)) (xs (i + 4)) S) h1 bo_none rfl ?_
  refine LW.aload St dL_law_1079 1 rfl ?_
  refine LW.arg St (i := i) (k := 1) 2 rfl dL_law_1080 dL_law_1081 dL_law_1082 dL_law_1083 dL_law_1084 (by decide) (by omega) ?_
  refine LW.arg St (i := i) (k := 2) 2 rfl dL_law_1085 dL_law_1086 dL_law_1087 dL_law_1088 dL_law_1089 (by decide) (by omega) ?_
  refine LW.arg St (i := i) (k := 3) 2 rfl dL_law_1090 dL_law_1091 dL_law_1092 dL_law_1093 dL_law_1094 (by decide) (by omega) ?_
  refine LW.arg St (i := i) (k := 4) 2 rfl dL_law_1095 dL_law_1096 dL_law_1097 dL_law_1098 dL_law_1099 (by decide) (by omega) ?_
  refine LW.call St (M' := mX8_days) (o' := none) (k := (0, 1)) (As := [vI (xs (i + 1)), vI (xs (i + 2)), vI (xs (i + 3)), vI (xs (i + 4))]) (ψ := phI) (a := (r, S2)) (x := r) dL_law_1100 ml_L_123 mfX8_days rfl ⟨by decide, by decide⟩ ⟨by show cs + 0 + 0 ≤ 600000; omega, by show sl + 0 + 0 ≤ 7302250; omega⟩ (enc_at rfl sh0_1) rfl (Nat.le_of_ble_eq_true rfl) rfl rfl rfl (kX8_days l G F (xs (i + 1)) (xs (i + 2)) (xs (i + 3)) (xs (i + 4)) S) h2 bo_none rfl ?_
  refine LW.icmpeq St 1210 dL_law_1103 (by decide) ?_
  exact LW.widen (by show cs + 0 + 0 ≤ cs + 1; omega) (by show sl + 0 + 0 ≤ sl + 11; omega) kk
theorem lc_26 (St : LSt G p s m meth c b n xs) {i : Nat} (hi : i + 6 ≤ n) (F : Nat) {S S1 S2 : vs} {r : Int32} (h1 : fX7_copy F (xs (i + 1)) (xs (i + 2)) S = some (r, S1)) (h2 : fX8_copy F (xs (i + 1)) (xs (i + 2)) S1 = some (r, S2)) (hcs : cs + 1 ≤ 600000) (hsl : sl + 11 ≤ 7302250) (kk : LW p l e s m below meth c b G 1210 [(1, vR (0, 0)), (2, vR (0, 1)), (3, vI (nI i))] [] (enc S2) (cs + 1) (sl + 11)) : LW p l e s m below meth c b G 1108 [(1, vR (0, 0)), (2, vR (0, 1)), (3, vI (nI i))] [] (enc S) cs sl := by
  refine LW.aload St dL_law_1108 0 rfl ?_
  refine LW.arg St (i := i) (k := 1) 2 rfl dL_law_1109 dL_law_1110 dL_law_1111 dL_law_1112 dL_law_1113 (by decide) (by omega) ?_
  refine LW.arg St (i := i) (k := 2) 2 rfl dL_law_1114 dL_law_1115 dL_law_1116 dL_law_1117 dL_law_1118 (by decide) (by omega) ?_
  refine LW.call St (M' := mX7_copy) (o' := none) (k := (0, 0)) (As := [vI (xs (i + 1)), vI (xs (i + 2))]) (ψ := phI) (a := (r, S1)) (x := r) dL_law_1119 ml_L_124 mfX7_copy rfl ⟨by decide, by decide⟩ ⟨by show cs + 0 ≤ 600000; omega, by show sl + 0 ≤ 7302250; omega⟩ (enc_at rfl sh0_0) rfl (Nat.le_of_ble_eq_true rfl) rfl rfl rfl (kX7_copy l G F (xs (i + 1)) (xs (i + 2)) S) h1 bo_none rfl ?_
  refine LW.aload St dL_law_1122 1 rfl ?_
  refine LW.arg St (i := i) (k := 1) 2 rfl dL_law_1123 dL_law_1124 dL_law_1125 dL_law_1126 dL_law_1127 (by decide) (by omega) ?_
  refine LW.arg St (i := i) (k := 2) 2 rfl dL_law_1128 dL_law_1129 dL_law_1130 dL_law_1131 dL_law_1132 (by decide) (by omega) ?_
  refine LW.call St (M' := mX8_copy) (o' := none) (k := (0, 1)) (As := [vI (xs (i + 1)), vI (xs (i + 2))]) (ψ := phI) (a := (r, S2)) (x := r) dL_law_1133 ml_L_127 mfX8_copy rfl ⟨by decide, by decide⟩ ⟨by show cs + 0 + 0 ≤ 600000; omega, by show sl + 0 + 0 ≤ 7302250; omega⟩ (enc_at rfl sh0_1) rfl (Nat.le_of_ble_eq_true rfl) rfl rfl rfl (kX8_copy l G F (xs (i + 1)) (xs (i + 2)) S1) h2 bo_none rfl ?_
  refine LW.icmpeq St 1210 dL_law_1136 (by decide) ?_
  exact LW.widen (by show cs + 0 + 0 ≤ cs + 1; omega) (by show sl + 0 + 0 ≤ sl + 11; omega) kk
theorem lc_27 (St : LSt G p s m meth c b n xs) {i : Nat} (hi : i + 6 ≤ n) (F : Nat) {S S2 : vs} {r : Int32} (h1 : fX7_copies F (xs (i + 1)) S = some r) (h2 : fX8_copies F (xs (i + 1)) S = some (r, S2)) (hcs : cs + 1 ≤ 600000) (hsl : sl + 11 ≤ 7302250) (kk : LW p l e s m below meth c b G 1210 [(1, vR (0, 0)), (2, vR (0, 1)), (3, vI (nI i))] [] (enc S2) (cs + 1) (sl + 11)) : LW p l e s m below meth c b G 1141 [(1, vR (0, 0)), (2, vR (0, 1)), (3, vI (nI i))] [] (enc S) cs sl := by
  refine LW.aload St dL_law_1141 0 rfl ?_
  refine LW.arg St (i := i) (k := 1) 2 rfl dL_law_1142 dL_law_1143 dL_law_1144 dL_law_1145 dL_law_1146 (by decide) (by omega) ?_
  refine LW.call St (M' := mX7_copies) (o' := none) (k := (0, 0)) (As := [vI (xs (i + 1))]) (ψ := (phP S)) (a := r) (x := r) dL_law_1147 ml_L_128 mfX7_copies rfl ⟨by decide, by decide⟩ ⟨by show cs + 0 ≤ 600000; omega, by show sl + 0 ≤ 7302250; omega⟩ (enc_at rfl sh0_0) rfl (Nat.le_of_ble_eq_true rfl) rfl rfl rfl (kX7_copies l G F (xs (i + 1)) S) h1 bo_none rfl ?_
  refine LW.aload St dL_law_1150 1 rfl ?_
  refine LW.arg St (i := i) (k := 1) 2 rfl dL_law_1151 dL_law_1152 dL_law_1153 dL_law_1154 dL_law_1155 (by decide) (by omega) ?_
  refine LW.call St (M' := mX8_copies) (o' := none) (k := (0, 1)) (As := [vI (xs (i + 1))]) (ψ := phI) (a := (r, S2)) (x := r) dL_law_1156 ml_L_131 mfX8_copies rfl ⟨by decide, by decide⟩ ⟨by show cs + 0 + 0 ≤ 600000; omega, by show sl + 0 + 0 ≤ 7302250; omega⟩ (enc_at rfl sh0_1) rfl (Nat.le_of_ble_eq_true rfl) rfl rfl rfl (kX8_copies l G F (xs (i + 1)) S) h2 bo_none rfl ?_
  refine LW.icmpeq St 1210 dL_law_1159 (by decide) ?_
  exact LW.widen (by show cs + 0 + 0 ≤ cs + 1; omega) (by show sl + 0 + 0 ≤ sl + 11; omega) kk
theorem lc_28 (St : LSt G p s m meth c b n xs) {i : Nat} (hi : i + 6 ≤ n) (F : Nat) {S S2 : vs} {r : Int32} (h1 : fX7_clearest F (xs (i + 1)) S = some r) (h2 : fX8_clearest F (xs (i + 1)) S = some (r, S2)) (hcs : cs + 1 ≤ 600000) (hsl : sl + 11 ≤ 7302250) (kk : LW p l e s m below meth c b G 1210 [(1, vR (0, 0)), (2, vR (0, 1)), (3, vI (nI i))] [] (enc S2) (cs + 1) (sl + 11)) : LW p l e s m below meth c b G 1164 [(1, vR (0, 0)), (2, vR (0, 1)), (3, vI (nI i))] [] (enc S) cs sl := by
  refine LW.aload St dL_law_1164 0 rfl ?_
  refine LW.arg St (i := i) (k := 1) 2 rfl dL_law_1165 dL_law_1166 dL_law_1167 dL_law_1168 dL_law_1169 (by decide) (by omega) ?_
  refine LW.call St (M' := mX7_clearest) (o' := none) (k := (0, 0)) (As := [vI (xs (i + 1))]) (ψ := (phP S)) (a := r) (x := r) dL_law_1170 ml_L_132 mfX7_clearest rfl ⟨by decide, by decide⟩ ⟨by show cs + 0 ≤ 600000; omega, by show sl + 0 ≤ 7302250; omega⟩ (enc_at rfl sh0_0) rfl (Nat.le_of_ble_eq_true rfl) rfl rfl rfl (kX7_clearest l G F (xs (i + 1)) S) h1 bo_none rfl ?_
  refine LW.aload St dL_law_1173 1 rfl ?_
  refine LW.arg St (i := i) (k := 1) 2 rfl dL_law_1174 dL_law_1175 dL_law_1176 dL_law_1177 dL_law_1178 (by decide) (by omega) ?_
  refine LW.call St (M' := mX8_clearest) (o' := none) (k := (0, 1)) (As := [vI (xs (i + 1))]) (ψ := phI) (a := (r, S2)) (x := r) dL_law_1179 ml_L_135 mfX8_clearest rfl ⟨by decide, by decide⟩ ⟨by show cs + 0 + 0 ≤ 600000; omega, by show sl + 0 + 0 ≤ 7302250; omega⟩ (enc_at rfl sh0_1) rfl (Nat.le_of_ble_eq_true rfl) rfl rfl rfl (kX8_clearest l G F (xs (i + 1)) S) h2 bo_none rfl ?_
  refine LW.icmpeq St 1210 dL_law_1182 (by decide) ?_
  exact LW.widen (by show cs + 0 + 0 ≤ cs + 1; omega) (by show sl + 0 + 0 ≤ sl + 11; omega) kk
theorem lc_29 (St : LSt G p s m meth c b n xs) {i : Nat} (hi : i + 6 ≤ n) (F : Nat) {S S2 : vs} {r : Int32} (h1 : fX7_total F (xs (i + 1)) S = some r) (h2 : fX8_total F (xs (i + 1)) S = some (r, S2)) (hcs : cs + 1 ≤ 600000) (hsl : sl + 11 ≤ 7302250) (kk : LW p l e s m below meth c b G 1210 [(1, vR (0, 0)), (2, vR (0, 1)), (3, vI (nI i))] [] (enc S2) (cs + 1) (sl + 11)) : LW p l e s m below meth c b G 1187 [(1, vR (0, 0)), (2, vR (0, 1)), (3, vI (nI i))] [] (enc S) cs sl := by
  refine LW.aload St dL_law_1187 0 rfl ?_
  refine LW.arg St (i := i) (k := 1) 2 rfl dL_law_1188 dL_law_1189 dL_law_1190 dL_law_1191 dL_law_1192 (by decide) (by omega) ?_
  refine LW.call St (M' := mX7_total) (o' := none) (k := (0, 0)) (As := [vI (xs (i + 1))]) (ψ := (phP S)) (a := r) (x := r) dL_law_1193 ml_L_136 mfX7_total rfl ⟨by decide, by decide⟩ ⟨by show cs + 0 ≤ 600000; omega, by show sl + 0 ≤ 7302250; omega⟩ (enc_at rfl sh0_0) rfl (Nat.le_of_ble_eq_true rfl) rfl rfl rfl (kX7_total l G F (xs (i + 1)) S) h1 bo_none rfl ?_
  refine LW.aload St dL_law_1196 1 rfl ?_
  refine LW.arg St (i := i) (k := 1) 2 rfl dL_law_1197 dL_law_1198 dL_law_1199 dL_law_1200 dL_law_1201 (by decide) (by omega) ?_
  refine LW.call St (M' := mX8_total) (o' := none) (k := (0, 1)) (As := [vI (xs (i + 1))]) (ψ := phI) (a := (r, S2)) (x := r) dL_law_1202 ml_L_139 mfX8_total rfl ⟨by decide, by decide⟩ ⟨by show cs + 0 + 0 ≤ 600000; omega, by show sl + 0 + 0 ≤ 7302250; omega⟩ (enc_at rfl sh0_1) rfl (Nat.le_of_ble_eq_true rfl) rfl rfl rfl (kX8_total l G F (xs (i + 1)) S) h2 bo_none rfl ?_
  refine LW.icmpeq St 1210 dL_law_1205 (by decide) ?_
  exact LW.widen (by show cs + 0 + 0 ≤ cs + 1; omega) (by show sl + 0 + 0 ≤ sl + 11; omega) kk
/-- side -/
def St0 (F : Nat) (Inv : vs → Prop) : Prop := ∀ S, Inv S → ∀ (x1 x2 x3 x4 : Int32), okI (fX7_side F x1 x2 x3 x4 S) (fun S1 => fX8_side F x1 x2 x3 x4 S1) Inv
/-- hours -/
def St1 (F : Nat) (Inv : vs → Prop) : Prop := ∀ S, Inv S → ∀ (x1 x2 x3 : Int32), okI (fX7_hours F x1 x2 x3 S) (fun S1 => fX8_hours F x1 x2 x3 S1) Inv
/-- told -/
def St2 (F : Nat) (Inv : vs → Prop) : Prop := ∀ S, Inv S → ∀ (x1 x2 : Int32), okP (fX7_told F x1 x2 S) (fX8_told F x1 x2 S) Inv
/-- read -/
def St3 (F : Nat) (Inv : vs → Prop) : Prop := ∀ S, Inv S → ∀ (x1 x2 : Int32), okI (fX7_read F x1 (bz x2) S) (fun S1 => fX8_read F x1 (bz x2) S1) Inv
/-- pass -/
def St4 (F : Nat) (Inv : vs → Prop) : Prop := ∀ S, Inv S → ∀ (x1 : Int32), okI (fX7_pass F x1 S) (fun S1 => fX8_pass F x1 S1) Inv
/-- best -/
def St5 (F : Nat) (Inv : vs → Prop) : Prop := ∀ S, Inv S → ∀ (x1 x2 x3 : Int32), okI (fX7_best F x1 x2 x3 S) (fun S1 => fX8_best F x1 x2 x3 S1) Inv
/-- does -/
def St6 (F : Nat) (Inv : vs → Prop) : Prop := ∀ S, Inv S → ∀ (x1 x2 x3 x4 : Int32), okI (fX7_does F x1 x2 x3 x4 S) (fun S1 => fX8_does F x1 x2 x3 x4 S1) Inv
/-- needed -/
def St7 (F : Nat) (Inv : vs → Prop) : Prop := ∀ S, Inv S → ∀ (x1 x2 x3 : Int32), okI (fX7_needed F x1 x2 x3 S) (fun S1 => fX8_needed F x1 x2 x3 S1) Inv
/-- sign -/
def St8 (F : Nat) (Inv : vs → Prop) : Prop := ∀ S, Inv S → ∀ (x1 x2 x3 x4 : Int32), okI (fX7_sign F x1 x2 x3 x4 S) (fun S1 => fX8_sign F x1 x2 x3 x4 S1) Inv
/-- drop -/
def St9 (F : Nat) (Inv : vs → Prop) : Prop := ∀ S, Inv S → ∀ (x1 : Int32), okI (fX7_drop F x1 S) (fun S1 => fX8_drop F x1 S1) Inv
/-- speed -/
def St10 (F : Nat) (Inv : vs → Prop) : Prop := ∀ S, Inv S → ∀ (x1 : Int32), okP (fX7_speed F x1 S) (fX8_speed F x1 S) Inv
/-- span -/
def St11 (F : Nat) (Inv : vs → Prop) : Prop := ∀ S, Inv S → ∀ (x1 : Int32), okP (fX7_span F x1 S) (fX8_span F x1 S) Inv
/-- weighs -/
def St12 (F : Nat) (Inv : vs → Prop) : Prop := ∀ S, Inv S → ∀ (x1 x2 : Int32), okP (fX7_weighs F x1 x2 S) (fX8_weighs F x1 x2 S) Inv
/-- quarrels -/
def St13 (F : Nat) (Inv : vs → Prop) : Prop := ∀ S, Inv S → ∀ (x1 : Int32), okP (fX7_quarrels F x1 S) (fX8_quarrels F x1 S) Inv
/-- piece -/
def St14 (F : Nat) (Inv : vs → Prop) : Prop := ∀ S, Inv S → ∀ (x1 x2 : Int32), okI (fX7_piece F x1 x2 S) (fun S1 => fX8_piece F x1 x2 S1) Inv
/-- sweep -/
def St15 (F : Nat) (Inv : vs → Prop) : Prop := ∀ S, Inv S → okI (fX7_sweep F S) (fun S1 => fX8_sweep F S1) Inv
/-- tolerance -/
def St16 (F : Nat) (Inv : vs → Prop) : Prop := ∀ S, Inv S → ∀ (x1 : Int32), okI (fX7_tolerance F x1 S) (fun S1 => fX8_tolerance F x1 S1) Inv
/-- rows -/
def St17 (F : Nat) (Inv : vs → Prop) : Prop := ∀ S, Inv S → okI (fX7_rows F S) (fun S1 => fX8_rows F S1) Inv
/-- misfit -/
def St18 (F : Nat) (Inv : vs → Prop) : Prop := ∀ S, Inv S → okI (fX7_misfit F S) (fun S1 => fX8_misfit F S1) Inv
/-- inRow -/
def St19 (F : Nat) (Inv : vs → Prop) : Prop := ∀ S, Inv S → ∀ (x1 : Int32), okI (fX7_inRow F x1 S) (fun S1 => fX8_inRow F x1 S1) Inv
/-- sung -/
def St20 (F : Nat) (Inv : vs → Prop) : Prop := ∀ S, Inv S → ∀ (x1 x2 x3 : Int32), okI (fX7_sung F x1 x2 x3 S) (fun S1 => fX8_sung F x1 x2 x3 S1) Inv
/-- text -/
def St21 (F : Nat) (Inv : vs → Prop) : Prop := ∀ S, Inv S → ∀ (x1 x2 x3 x4 x5 : Int32), okI (fX7_text F x1 x2 x3 x4 (bz x5) S) (fun S1 => fX8_text F x1 x2 x3 x4 (bz x5) S1) Inv
/-- counts -/
def St22 (F : Nat) (Inv : vs → Prop) : Prop := ∀ S, Inv S → ∀ (x1 x2 x3 x4 : Int32), okP (fX7_counts F x1 x2 x3 x4 S) (fX8_counts F x1 x2 x3 x4 S) Inv
/-- may -/
def St23 (F : Nat) (Inv : vs → Prop) : Prop := ∀ S, Inv S → ∀ (x1 x2 x3 : Int32), okP (fX7_may F x1 x2 x3 S) (fX8_may F x1 x2 x3 S) Inv
/-- heard -/
def St24 (F : Nat) (Inv : vs → Prop) : Prop := ∀ S, Inv S → ∀ (x1 x2 : Int32), okP (fX7_heard F x1 x2 S) (fX8_heard F x1 x2 S) Inv
/-- days -/
def St25 (F : Nat) (Inv : vs → Prop) : Prop := ∀ S, Inv S → ∀ (x1 x2 x3 x4 : Int32), okP (fX7_days F x1 x2 x3 x4 S) (fX8_days F x1 x2 x3 x4 S) Inv
/-- copy -/
def St26 (F : Nat) (Inv : vs → Prop) : Prop := ∀ S, Inv S → ∀ (x1 x2 : Int32), okI (fX7_copy F x1 x2 S) (fun S1 => fX8_copy F x1 x2 S1) Inv
/-- copies -/
def St27 (F : Nat) (Inv : vs → Prop) : Prop := ∀ S, Inv S → ∀ (x1 : Int32), okP (fX7_copies F x1 S) (fX8_copies F x1 S) Inv
/-- clearest -/
def St28 (F : Nat) (Inv : vs → Prop) : Prop := ∀ S, Inv S → ∀ (x1 : Int32), okP (fX7_clearest F x1 S) (fX8_clearest F x1 S) Inv
/-- total -/
def St29 (F : Nat) (Inv : vs → Prop) : Prop := ∀ S, Inv S → ∀ (x1 : Int32), okP (fX7_total F x1 S) (fX8_total F x1 S) Inv
/-- every turn of the law keeps the invariant, and both sides answer alike -/
def StAll (F : Nat) (Inv : vs → Prop) : Prop := St0 F Inv ∧ St1 F Inv ∧ St2 F Inv ∧ St3 F Inv ∧ St4 F Inv ∧ St5 F Inv ∧ St6 F Inv ∧ St7 F Inv ∧ St8 F Inv ∧ St9 F Inv ∧ St10 F Inv ∧ St11 F Inv ∧ St12 F Inv ∧ St13 F Inv ∧ St14 F Inv ∧ St15 F Inv ∧ St16 F Inv ∧ St17 F Inv ∧ St18 F Inv ∧ St19 F Inv ∧ St20 F Inv ∧ St21 F Inv ∧ St22 F Inv ∧ St23 F Inv ∧ St24 F Inv ∧ St25 F Inv ∧ St26 F Inv ∧ St27 F Inv ∧ St28 F Inv ∧ St29 F Inv
set_option maxHeartbeats 4000000 in
theorem law_loop (St : LSt G p s m meth c b n xs) (F : Nat) (Inv : vs → Prop) (HA : StAll F Inv) : ∀ (k i t : Nat) (S : vs), Inv S → n - i ≤ k → i ≤ n → i = 6 * t → LW p l e s m below meth c b G 18 [(1, vR (0, 0)), (2, vR (0, 1)), (3, vI (nI i))] [] (enc S) (57 + t) (5046 + 11 * t) := by
  have hn : n ≤ 3072 := St.2.2.2.2.2.2.2.2.2.2.2
  obtain ⟨H0, H1, H2, H3, H4, H5, H6, H7, H8, H9, H10, H11, H12, H13, H14, H15, H16, H17, H18, H19, H20, H21, H22, H23, H24, H25, H26, H27, H28, H29⟩ := HA
  intro k
  induction k with
  | zero =>
    intro i t S hI hk hi ht
    refine LW.head St hi dL_law_18 dL_law_19 dL_law_20 dL_law_21 dL_law_23 1216 dL_law_24 (by decide) dL_law_27 dL_law_28 dL_law_29 2 rfl ?_ (fun h6 => by omega)
    exact LW.done St (by omega) (by omega) dL_law_1216 dL_law_1217
  | succ k ih =>
    intro i t S hI hk hi ht
    refine LW.head St hi dL_law_18 dL_law_19 dL_law_20 dL_law_21 dL_law_23 1216 dL_law_24 (by decide) dL_law_27 dL_law_28 dL_law_29 2 rfl ?_ (fun h6 => ?_)
    · exact LW.done St (by omega) (by omega) dL_law_1216 dL_law_1217
    have nxt : ∀ S2 : vs, Inv S2 → LW p l e s m below meth c b G 1210 [(1, vR (0, 0)), (2, vR (0, 1)), (3, vI (nI i))] [] (enc S2) (57 + t + 1) (5046 + 11 * t + 11) := fun S2 h2 => by
      refine LW.next St h6 dL_law_1210 dL_law_1213 (by decide) ?_
      have := ih (i + 6) (t + 1) S2 h2 (by omega) h6 (by omega)
      rw [show 57 + (t + 1) = 57 + t + 1 by omega, show 5046 + 11 * (t + 1) = 5046 + 11 * t + 11 by omega] at this
      exact this
    have hc1 : 57 + t + 1 ≤ 600000 := by omega
    have hs1 : 5046 + 11 * t + 11 ≤ 7302250 := by omega
    refine LW.and31 St dL_law_30 dL_law_32 ?_
    by_cases g0 : xs i &&& 31 = 0
    · obtain ⟨r, S1, S2, e1, e2, hI2⟩ := H0 S hI (xs (i + 1)) (xs (i + 2)) (xs (i + 3)) (xs (i + 4))
      exact LW.tsI St 0 168 dL_law_33 g0 (by decide) (by decide) rfl (by decide) (lc_0 St h6 F e1 e2 hc1 hs1 (nxt S2 hI2))
    by_cases g1 : xs i &&& 31 = 1
    · obtain ⟨r, S1, S2, e1, e2, hI2⟩ := H1 S hI (xs (i + 1)) (xs (i + 2)) (xs (i + 3))
      exact LW.tsI St 1 221 dL_law_33 g1 (by decide) (by decide) rfl (by decide) (lc_1 St h6 F e1 e2 hc1 hs1 (nxt S2 hI2))
    by_cases g2 : xs i &&& 31 = 2
    · obtain ⟨r, S2, e1, e2, hI2⟩ := H2 S hI (xs (i + 1)) (xs (i + 2))
      exact LW.tsI St 2 264 dL_law_33 g2 (by decide) (by decide) rfl (by decide) (lc_2 St h6 F e1 e2 hc1 hs1 (nxt S2 hI2))
    by_cases g3 : xs i &&& 31 = 3
    · obtain ⟨r, S1, S2, e1, e2, hI2⟩ := H3 S hI (xs (i + 1)) (xs (i + 2))
      exact LW.tsI St 3 297 dL_law_33 g3 (by decide) (by decide) rfl (by decide) (lc_3 St h6 F e1 e2 hc1 hs1 (nxt S2 hI2))
    by_cases g4 : xs i &&& 31 = 4
    · obtain ⟨r, S1, S2, e1, e2, hI2⟩ := H4 S hI (xs (i + 1))
      exact LW.tsI St 4 346 dL_law_33 g4 (by decide) (by decide) rfl (by decide) (lc_4 St h6 F e1 e2 hc1 hs1 (nxt S2 hI2))
    by_cases g5 : xs i &&& 31 = 5
    · obtain ⟨r, S1, S2, e1, e2, hI2⟩ := H5 S hI (xs (i + 1)) (xs (i + 2)) (xs (i + 3))
      exact LW.tsI St 5 369 dL_law_33 g5 (by decide) (by decide) rfl (by decide) (lc_5 St h6 F e1 e2 hc1 hs1 (nxt S2 hI2))
    by_cases g6 : xs i &&& 31 = 6
    · obtain ⟨r, S1, S2, e1, e2, hI2⟩ := H6 S hI (xs (i + 1)) (xs (i + 2)) (xs (i + 3)) (xs (i + 4))
      exact LW.tsI St 6 412 dL_law_33 g6 (by decide) (by decide) rfl (by decide) (lc_6 St h6 F e1 e2 hc1 hs1 (nxt S2 hI2))
    by_cases g7 : xs i &&& 31 = 7
    · obtain ⟨r, S1, S2, e1, e2, hI2⟩ := H7 S hI (xs (i + 1)) (xs (i + 2)) (xs (i + 3))
      exact LW.tsI St 7 465 dL_law_33 g7 (by decide) (by decide) rfl (by decide) (lc_7 St h6 F e1 e2 hc1 hs1 (nxt S2 hI2))
    by_cases g8 : xs i &&& 31 = 8
    · obtain ⟨r, S1, S2, e1, e2, hI2⟩ := H8 S hI (xs (i + 1)) (xs (i + 2)) (xs (i + 3)) (xs (i + 4))
      exact LW.tsI St 8 508 dL_law_33 g8 (by decide) (by decide) rfl (by decide) (lc_8 St h6 F e1 e2 hc1 hs1 (nxt S2 hI2))
    by_cases g9 : xs i &&& 31 = 9
    · obtain ⟨r, S1, S2, e1, e2, hI2⟩ := H9 S hI (xs (i + 1))
      exact LW.tsI St 9 561 dL_law_33 g9 (by decide) (by decide) rfl (by decide) (lc_9 St h6 F e1 e2 hc1 hs1 (nxt S2 hI2))
    by_cases g10 : xs i &&& 31 = 10
    · obtain ⟨r, S2, e1, e2, hI2⟩ := H10 S hI (xs (i + 1))
      exact LW.tsI St 10 584 dL_law_33 g10 (by decide) (by decide) rfl (by decide) (lc_10 St h6 F e1 e2 hc1 hs1 (nxt S2 hI2))
    by_cases g11 : xs i &&& 31 = 11
    · obtain ⟨r, S2, e1, e2, hI2⟩ := H11 S hI (xs (i + 1))
      exact LW.tsI St 11 607 dL_law_33 g11 (by decide) (by decide) rfl (by decide) (lc_11 St h6 F e1 e2 hc1 hs1 (nxt S2 hI2))
    by_cases g12 : xs i &&& 31 = 12
    · obtain ⟨r, S2, e1, e2, hI2⟩ := H12 S hI (xs (i + 1)) (xs (i + 2))
      exact LW.tsI St 12 630 dL_law_33 g12 (by decide) (by decide) rfl (by decide) (lc_12 St h6 F e1 e2 hc1 hs1 (nxt S2 hI2))
    by_cases g13 : xs i &&& 31 = 13
    · obtain ⟨r, S2, e1, e2, hI2⟩ := H13 S hI (xs (i + 1))
      exact LW.tsI St 13 663 dL_law_33 g13 (by decide) (by decide) rfl (by decide) (lc_13 St h6 F e1 e2 hc1 hs1 (nxt S2 hI2))
    by_cases g14 : xs i &&& 31 = 14
    · obtain ⟨r, S1, S2, e1, e2, hI2⟩ := H14 S hI (xs (i + 1)) (xs (i + 2))
      exact LW.tsI St 14 686 dL_law_33 g14 (by decide) (by decide) rfl (by decide) (lc_14 St h6 F e1 e2 hc1 hs1 (nxt S2 hI2))
    by_cases g15 : xs i &&& 31 = 15
    · obtain ⟨r, S1, S2, e1, e2, hI2⟩ := H15 S hI 
      exact LW.tsI St 15 719 dL_law_33 g15 (by decide) (by decide) rfl (by decide) (lc_15 St h6 F e1 e2 hc1 hs1 (nxt S2 hI2))
    by_cases g16 : xs i &&& 31 = 16
    · obtain ⟨r, S1, S2, e1, e2, hI2⟩ := H16 S hI (xs (i + 1))
      exact LW.tsI St 16 732 dL_law_33 g16 (by decide) (by decide) rfl (by decide) (lc_16 St h6 F e1 e2 hc1 hs1 (nxt S2 hI2))
    by_cases g17 : xs i &&& 31 = 17
    · obtain ⟨r, S1, S2, e1, e2, hI2⟩ := H17 S hI 
      exact LW.tsI St 17 755 dL_law_33 g17 (by decide) (by decide) rfl (by decide) (lc_17 St h6 F e1 e2 hc1 hs1 (nxt S2 hI2))
    by_cases g18 : xs i &&& 31 = 18
    · obtain ⟨r, S1, S2, e1, e2, hI2⟩ := H18 S hI 
      exact LW.tsI St 18 768 dL_law_33 g18 (by decide) (by decide) rfl (by decide) (lc_18 St h6 F e1 e2 hc1 hs1 (nxt S2 hI2))
    by_cases g19 : xs i &&& 31 = 19
    · obtain ⟨r, S1, S2, e1, e2, hI2⟩ := H19 S hI (xs (i + 1))
      exact LW.tsI St 19 781 dL_law_33 g19 (by decide) (by decide) rfl (by decide) (lc_19 St h6 F e1 e2 hc1 hs1 (nxt S2 hI2))
    by_cases g20 : xs i &&& 31 = 20
    · obtain ⟨r, S1, S2, e1, e2, hI2⟩ := H20 S hI (xs (i + 1)) (xs (i + 2)) (xs (i + 3))
      exact LW.tsI St 20 804 dL_law_33 g20 (by decide) (by decide) rfl (by decide) (lc_20 St h6 F e1 e2 hc1 hs1 (nxt S2 hI2))
    by_cases g21 : xs i &&& 31 = 21
    · obtain ⟨r, S1, S2, e1, e2, hI2⟩ := H21 S hI (xs (i + 1)) (xs (i + 2)) (xs (i + 3)) (xs (i + 4)) (xs (i + 5))
      exact LW.tsI St 21 847 dL_law_33 g21 (by decide) (by decide) rfl (by decide) (lc_21 St h6 F e1 e2 hc1 hs1 (nxt S2 hI2))
    by_cases g22 : xs i &&& 31 = 22
    · obtain ⟨r, S2, e1, e2, hI2⟩ := H22 S hI (xs (i + 1)) (xs (i + 2)) (xs (i + 3)) (xs (i + 4))
      exact LW.tsI St 22 926 dL_law_33 g22 (by decide) (by decide) rfl (by decide) (lc_22 St h6 F e1 e2 hc1 hs1 (nxt S2 hI2))
    by_cases g23 : xs i &&& 31 = 23
    · obtain ⟨r, S2, e1, e2, hI2⟩ := H23 S hI (xs (i + 1)) (xs (i + 2)) (xs (i + 3))
      exact LW.tsI St 23 979 dL_law_33 g23 (by decide) (by decide) rfl (by decide) (lc_23 St h6 F e1 e2 hc1 hs1 (nxt S2 hI2))
    by_cases g24 : xs i &&& 31 = 24
    · obtain ⟨r, S2, e1, e2, hI2⟩ := H24 S hI (xs (i + 1)) (xs (i + 2))
      exact LW.tsI St 24 1022 dL_law_33 g24 (by decide) (by decide) rfl (by decide) (lc_24 St h6 F e1 e2 hc1 hs1 (nxt S2 hI2))
    by_cases g25 : xs i &&& 31 = 25
    · obtain ⟨r, S2, e1, e2, hI2⟩ := H25 S hI (xs (i + 1)) (xs (i + 2)) (xs (i + 3)) (xs (i + 4))
      exact LW.tsI St 25 1055 dL_law_33 g25 (by decide) (by decide) rfl (by decide) (lc_25 St h6 F e1 e2 hc1 hs1 (nxt S2 hI2))
    by_cases g26 : xs i &&& 31 = 26
    · obtain ⟨r, S1, S2, e1, e2, hI2⟩ := H26 S hI (xs (i + 1)) (xs (i + 2))
      exact LW.tsI St 26 1108 dL_law_33 g26 (by decide) (by decide) rfl (by decide) (lc_26 St h6 F e1 e2 hc1 hs1 (nxt S2 hI2))
    by_cases g27 : xs i &&& 31 = 27
    · obtain ⟨r, S2, e1, e2, hI2⟩ := H27 S hI (xs (i + 1))
      exact LW.tsI St 27 1141 dL_law_33 g27 (by decide) (by decide) rfl (by decide) (lc_27 St h6 F e1 e2 hc1 hs1 (nxt S2 hI2))
    by_cases g28 : xs i &&& 31 = 28
    · obtain ⟨r, S2, e1, e2, hI2⟩ := H28 S hI (xs (i + 1))
      exact LW.tsI St 28 1164 dL_law_33 g28 (by decide) (by decide) rfl (by decide) (lc_28 St h6 F e1 e2 hc1 hs1 (nxt S2 hI2))
    by_cases g29 : xs i &&& 31 = 29
    · obtain ⟨r, S2, e1, e2, hI2⟩ := H29 S hI (xs (i + 1))
      exact LW.tsI St 29 1187 dL_law_33 g29 (by decide) (by decide) rfl (by decide) (lc_29 St h6 F e1 e2 hc1 hs1 (nxt S2 hI2))
    have hh : (xs i &&& 31).toInt ≠ 0 ∧ (xs i &&& 31).toInt ≠ 1 ∧ (xs i &&& 31).toInt ≠ 2 ∧ (xs i &&& 31).toInt ≠ 3 ∧ (xs i &&& 31).toInt ≠ 4 ∧ (xs i &&& 31).toInt ≠ 5 ∧ (xs i &&& 31).toInt ≠ 6 ∧ (xs i &&& 31).toInt ≠ 7 ∧ (xs i &&& 31).toInt ≠ 8 ∧ (xs i &&& 31).toInt ≠ 9 ∧ (xs i &&& 31).toInt ≠ 10 ∧ (xs i &&& 31).toInt ≠ 11 ∧ (xs i &&& 31).toInt ≠ 12 ∧ (xs i &&& 31).toInt ≠ 13 ∧ (xs i &&& 31).toInt ≠ 14 ∧ (xs i &&& 31).toInt ≠ 15 ∧ (xs i &&& 31).toInt ≠ 16 ∧ (xs i &&& 31).toInt ≠ 17 ∧ (xs i &&& 31).toInt ≠ 18 ∧ (xs i &&& 31).toInt ≠ 19 ∧ (xs i &&& 31).toInt ≠ 20 ∧ (xs i &&& 31).toInt ≠ 21 ∧ (xs i &&& 31).toInt ≠ 22 ∧ (xs i &&& 31).toInt ≠ 23 ∧ (xs i &&& 31).toInt ≠ 24 ∧ (xs i &&& 31).toInt ≠ 25 ∧ (xs i &&& 31).toInt ≠ 26 ∧ (xs i &&& 31).toInt ≠ 27 ∧ (xs i &&& 31).toInt ≠ 28 ∧ (xs i &&& 31).toInt ≠ 29 := ⟨i32ne g0, i32ne g1, i32ne g2, i32ne g3, i32ne g4, i32ne g5, i32ne g6, i32ne g7, i32ne g8, i32ne g9, i32ne g10, i32ne g11, i32ne g12, i32ne g13, i32ne g14, i32ne g15, i32ne g16, i32ne g17, i32ne g18, i32ne g19, i32ne g20, i32ne g21, i32ne g22, i32ne g23, i32ne g24, i32ne g25, i32ne g26, i32ne g27, i32ne g28, i32ne g29⟩
    refine LW.tsO St 1210 dL_law_33 (by omega) (by decide) ?_
    exact LW.widen (Nat.le_succ _) (Nat.le_add_right _ _) (nxt S hI)
end LCases
