/-! THE 27 CASES of the law (printed by wip/whole/gen99x.py) -/
section
variable {p : Program} {l : Launch} {e : Env} {s : State} {m : MethodId} {below : List Frame} {meth : Method} {c : Code} {Q : State → Prop}
variable {ad : Nat → Nat} {cy : Nat → ClassId} {D : va_G} {bs L : Nat} {xs : Nat → Int32} {h : xH} {j : Nat} {G t : Nat → Nat → Int}
set_option maxRecDepth 100000 in
theorem w_c0 (C : wC ad cy D p s m meth c bs L xs) (hj : j + 5 ≤ L) (hh : 103 ≤ h.1) (hR : h.1 ≤ 600000 ∧ h.2.1 ≤ 7302250) (ho : oR G t) (kk : ∀ G' t', oR G' t' → vW ad cy D p l e s m below meth c Q bs (wL bs s.heap.size (nI j)) 904 [] (bH h G' t')) : vW ad cy D p l e s m below meth c Q bs (wL bs s.heap.size (nI j)) 156 [] (bH h G t) := by
  obtain ⟨G', t', v, ho', h1, h2⟩ := cal_hall hh (xs (j + 1)) (xs (j + 2)) G t ho
  obtain ⟨r, rfl⟩ := pp_int h1 rfl
  refine w_al1 C dL_law_156 ?_
  refine w_ld C 1 dL_law_157 dL_law_158 dL_law_159 dL_law_160 dL_law_161 rfl (by decide) hj ?_
  refine w_ld C 2 dL_law_162 dL_law_163 dL_law_164 dL_law_165 dL_law_166 rfl (by decide) hj ?_
  refine w_call C (kx := n_X7_hall) (a := 0) (as := [.int (xs (j + 1)), .int (xs (j + 2))]) (rest := []) (by decide) rfl rfl (Nat.le_of_ble_eq_true rfl) h1 rfl rfl hR (w_o7 hh) (x_gm (x_t2 (List.mem_of_getElem? (i := 80) rfl)) rfl) (Nat.le_of_ble_eq_true rfl) dL_law_167 rfl ?_
  refine w_al2 C dL_law_170 ?_
  refine w_ld C 1 dL_law_171 dL_law_172 dL_law_173 dL_law_174 dL_law_175 rfl (by decide) hj ?_
  refine w_ld C 2 dL_law_176 dL_law_177 dL_law_178 dL_law_179 dL_law_180 rfl (by decide) hj ?_
  refine w_call C (kx := n_X8_hall) (a := 91) (as := [.int (xs (j + 1)), .int (xs (j + 2))]) (rest := [.int r]) (by decide) rfl rfl (Nat.le_of_ble_eq_true rfl) h2 rfl rfl hR (w_o8 hh) (x_gm (x_t4 (List.mem_of_getElem? (i := 166) rfl)) rfl) (Nat.le_of_ble_eq_true rfl) dL_law_181 rfl ?_
  exact w_eq C dL_law_184 (by decide) (kk _ _ ho')
set_option maxRecDepth 100000 in
theorem w_c1 (C : wC ad cy D p s m meth c bs L xs) (hj : j + 5 ≤ L) (hh : 103 ≤ h.1) (hR : h.1 ≤ 600000 ∧ h.2.1 ≤ 7302250) (ho : oR G t) (kk : ∀ G' t', oR G' t' → vW ad cy D p l e s m below meth c Q bs (wL bs s.heap.size (nI j)) 904 [] (bH h G' t')) : vW ad cy D p l e s m below meth c Q bs (wL bs s.heap.size (nI j)) 189 [] (bH h G t) := by
  obtain ⟨G', t', v, ho', h1, h2⟩ := cal_shelf hh (xs (j + 1)) (decide (xs (j + 2) ≠ 0)) G t ho
  obtain ⟨r, rfl⟩ := pp_int h1 rfl
  refine w_al1 C dL_law_189 ?_
  refine w_ld C 1 dL_law_190 dL_law_191 dL_law_192 dL_law_193 dL_law_194 rfl (by decide) hj ?_
  refine w_ld C 2 dL_law_195 dL_law_196 dL_law_197 dL_law_198 dL_law_199 rfl (by decide) hj ?_
  refine w_bool C dL_law_200 dL_law_203 dL_law_204 dL_law_207 ?_
  refine w_call C (kx := n_X7_shelf) (a := 0) (as := [.int (xs (j + 1)), .int (zI (bZ (decide (xs (j + 2) ≠ 0) = true)))]) (rest := []) (by decide) rfl rfl (Nat.le_of_ble_eq_true rfl) h1 rfl rfl hR (w_o7 hh) (x_gm (x_t2 (List.mem_of_getElem? (i := 89) rfl)) rfl) (Nat.le_of_ble_eq_true rfl) dL_law_208 rfl ?_
  refine w_al2 C dL_law_211 ?_
  refine w_ld C 1 dL_law_212 dL_law_213 dL_law_214 dL_law_215 dL_law_216 rfl (by decide) hj ?_
  refine w_ld C 2 dL_law_217 dL_law_218 dL_law_219 dL_law_220 dL_law_221 rfl (by decide) hj ?_
  refine w_bool C dL_law_222 dL_law_225 dL_law_226 dL_law_229 ?_
  refine w_call C (kx := n_X8_shelf) (a := 91) (as := [.int (xs (j + 1)), .int (zI (bZ (decide (xs (j + 2) ≠ 0) = true)))]) (rest := [.int r]) (by decide) rfl rfl (Nat.le_of_ble_eq_true rfl) h2 rfl rfl hR (w_o8 hh) (x_gm (x_t4 (List.mem_of_getElem? (i := 183) rfl)) rfl) (Nat.le_of_ble_eq_true rfl) dL_law_230 rfl ?_
  exact w_eq C dL_law_233 (by decide) (kk _ _ ho')
set_option maxRecDepth 100000 in
theorem w_c2 (C : wC ad cy D p s m meth c bs L xs) (hj : j + 5 ≤ L) (hh : 103 ≤ h.1) (hR : h.1 ≤ 600000 ∧ h.2.1 ≤ 7302250) (ho : oR G t) (kk : ∀ G' t', oR G' t' → vW ad cy D p l e s m below meth c Q bs (wL bs s.heap.size (nI j)) 904 [] (bH h G' t')) : vW ad cy D p l e s m below meth c Q bs (wL bs s.heap.size (nI j)) 238 [] (bH h G t) := by
  obtain ⟨G', t', v, ho', h1, h2⟩ := cal_reader hh (xs (j + 1)) (xs (j + 2)) (xs (j + 3)) (xs (j + 4)) G t ho
  obtain ⟨r, rfl⟩ := pp_int h1 rfl
  refine w_al1 C dL_law_238 ?_
  refine w_ld C 1 dL_law_239 dL_law_240 dL_law_241 dL_law_242 dL_law_243 rfl (by decide) hj ?_
  refine w_ld C 2 dL_law_244 dL_law_245 dL_law_246 dL_law_247 dL_law_248 rfl (by decide) hj ?_
  refine w_ld C 3 dL_law_249 dL_law_250 dL_law_251 dL_law_252 dL_law_253 rfl (by decide) hj ?_
  refine w_ld C 4 dL_law_254 dL_law_255 dL_law_256 dL_law_257 dL_law_258 rfl (by decide) hj ?_
  refine w_call C (kx := n_X7_reader) (a := 0) (as := [.int (xs (j + 1)), .int (xs (j + 2)), .int (xs (j + 3)), .int (xs (j + 4))]) (rest := []) (by decide) rfl rfl (Nat.le_of_ble_eq_true rfl) h1 rfl rfl hR (w_o7 hh) (x_gm (x_t2 (List.mem_of_getElem? (i := 109) rfl)) rfl) (Nat.le_of_ble_eq_true rfl) dL_law_259 rfl ?_
  refine w_al2 C dL_law_262 ?_
  refine w_ld C 1 dL_law_263 dL_law_264 dL_law_265 dL_law_266 dL_law_267 rfl (by decide) hj ?_
  refine w_ld C 2 dL_law_268 dL_law_269 dL_law_270 dL_law_271 dL_law_272 rfl (by decide) hj ?_
  refine w_ld C 3 dL_law_273 dL_law_274 dL_law_275 dL_law_276 dL_law_277 rfl (by decide) hj ?_
  refine w_ld C 4 dL_law_278 dL_law_279 dL_law_280 dL_law_281 dL_law_282 rfl (by decide) hj ?_
  refine w_call C (kx := n_X8_reader) (a := 91) (as := [.int (xs (j + 1)), .int (xs (j + 2)), .int (xs (j + 3)), .int (xs (j + 4))]) (rest := [.int r]) (by decide) rfl rfl (Nat.le_of_ble_eq_true rfl) h2 rfl rfl hR (w_o8 hh) (x_gm (x_t4 (List.mem_of_getElem? (i := 206) rfl)) rfl) (Nat.le_of_ble_eq_true rfl) dL_law_283 rfl ?_
  exact w_eq C dL_law_286 (by decide) (kk _ _ ho')
set_option maxRecDepth 100000 in
theorem w_c3 (C : wC ad cy D p s m meth c bs L xs) (hj : j + 5 ≤ L) (hh : 103 ≤ h.1) (hR : h.1 ≤ 600000 ∧ h.2.1 ≤ 7302250) (ho : oR G t) (kk : ∀ G' t', oR G' t' → vW ad cy D p l e s m below meth c Q bs (wL bs s.heap.size (nI j)) 904 [] (bH h G' t')) : vW ad cy D p l e s m below meth c Q bs (wL bs s.heap.size (nI j)) 291 [] (bH h G t) := by
  obtain ⟨G', t', v, ho', h1, h2⟩ := cal_lamp hh (xs (j + 1)) G t ho
  obtain ⟨r, rfl⟩ := pp_int h1 rfl
  refine w_al1 C dL_law_291 ?_
  refine w_ld C 1 dL_law_292 dL_law_293 dL_law_294 dL_law_295 dL_law_296 rfl (by decide) hj ?_
  refine w_call C (kx := n_X7_lamp) (a := 0) (as := [.int (xs (j + 1))]) (rest := []) (by decide) rfl rfl (Nat.le_of_ble_eq_true rfl) h1 rfl rfl hR (w_o7 hh) (x_gm (x_t2 (List.mem_of_getElem? (i := 125) rfl)) rfl) (Nat.le_of_ble_eq_true rfl) dL_law_297 rfl ?_
  refine w_al2 C dL_law_300 ?_
  refine w_ld C 1 dL_law_301 dL_law_302 dL_law_303 dL_law_304 dL_law_305 rfl (by decide) hj ?_
  refine w_call C (kx := n_X8_lamp) (a := 91) (as := [.int (xs (j + 1))]) (rest := [.int r]) (by decide) rfl rfl (Nat.le_of_ble_eq_true rfl) h2 rfl rfl hR (w_o8 hh) (x_gm (x_t4 (List.mem_of_getElem? (i := 216) rfl)) rfl) (Nat.le_of_ble_eq_true rfl) dL_law_306 rfl ?_
  exact w_eq C dL_law_309 (by decide) (kk _ _ ho')
set_option maxRecDepth 100000 in
theorem w_c4 (C : wC ad cy D p s m meth c bs L xs) (hj : j + 5 ≤ L) (hh : 103 ≤ h.1) (hR : h.1 ≤ 600000 ∧ h.2.1 ≤ 7302250) (ho : oR G t) (kk : ∀ G' t', oR G' t' → vW ad cy D p l e s m below meth c Q bs (wL bs s.heap.size (nI j)) 904 [] (bH h G' t')) : vW ad cy D p l e s m below meth c Q bs (wL bs s.heap.size (nI j)) 314 [] (bH h G t) := by
  obtain ⟨G', t', v, ho', h1, h2⟩ := cal_oil hh (xs (j + 1)) G t ho
  obtain ⟨r, rfl⟩ := pp_int h1 rfl
  refine w_al1 C dL_law_314 ?_
  refine w_ld C 1 dL_law_315 dL_law_316 dL_law_317 dL_law_318 dL_law_319 rfl (by decide) hj ?_
  refine w_call C (kx := n_X7_oil) (a := 0) (as := [.int (xs (j + 1))]) (rest := []) (by decide) rfl rfl (Nat.le_of_ble_eq_true rfl) h1 rfl rfl hR (w_o7 hh) (x_gm (x_t2 (List.mem_of_getElem? (i := 136) rfl)) rfl) (Nat.le_of_ble_eq_true rfl) dL_law_320 rfl ?_
  refine w_al2 C dL_law_323 ?_
  refine w_ld C 1 dL_law_324 dL_law_325 dL_law_326 dL_law_327 dL_law_328 rfl (by decide) hj ?_
  refine w_call C (kx := n_X8_oil) (a := 91) (as := [.int (xs (j + 1))]) (rest := [.int r]) (by decide) rfl rfl (Nat.le_of_ble_eq_true rfl) h2 rfl rfl hR (w_o8 hh) (x_gm (x_t4 (List.mem_of_getElem? (i := 228) rfl)) rfl) (Nat.le_of_ble_eq_true rfl) dL_law_329 rfl ?_
  exact w_eq C dL_law_332 (by decide) (kk _ _ ho')
set_option maxRecDepth 100000 in
theorem w_c5 (C : wC ad cy D p s m meth c bs L xs) (hj : j + 5 ≤ L) (hh : 103 ≤ h.1) (hR : h.1 ≤ 600000 ∧ h.2.1 ≤ 7302250) (ho : oR G t) (kk : ∀ G' t', oR G' t' → vW ad cy D p l e s m below meth c Q bs (wL bs s.heap.size (nI j)) 904 [] (bH h G' t')) : vW ad cy D p l e s m below meth c Q bs (wL bs s.heap.size (nI j)) 337 [] (bH h G t) := by
  obtain ⟨G', t', v, ho', h1, h2⟩ := cal_string hh (xs (j + 1)) (xs (j + 2)) G t ho
  obtain ⟨r, rfl⟩ := pp_int h1 rfl
  refine w_al1 C dL_law_337 ?_
  refine w_ld C 1 dL_law_338 dL_law_339 dL_law_340 dL_law_341 dL_law_342 rfl (by decide) hj ?_
  refine w_ld C 2 dL_law_343 dL_law_344 dL_law_345 dL_law_346 dL_law_347 rfl (by decide) hj ?_
  refine w_call C (kx := n_X7_string) (a := 0) (as := [.int (xs (j + 1)), .int (xs (j + 2))]) (rest := []) (by decide) rfl rfl (Nat.le_of_ble_eq_true rfl) h1 rfl rfl hR (w_o7 hh) (x_gm (x_t2 (List.mem_of_getElem? (i := 144) rfl)) rfl) (Nat.le_of_ble_eq_true rfl) dL_law_348 rfl ?_
  refine w_al2 C dL_law_351 ?_
  refine w_ld C 1 dL_law_352 dL_law_353 dL_law_354 dL_law_355 dL_law_356 rfl (by decide) hj ?_
  refine w_ld C 2 dL_law_357 dL_law_358 dL_law_359 dL_law_360 dL_law_361 rfl (by decide) hj ?_
  refine w_call C (kx := n_X8_string) (a := 91) (as := [.int (xs (j + 1)), .int (xs (j + 2))]) (rest := [.int r]) (by decide) rfl rfl (Nat.le_of_ble_eq_true rfl) h2 rfl rfl hR (w_o8 hh) (x_gm (x_t4 (List.mem_of_getElem? (i := 237) rfl)) rfl) (Nat.le_of_ble_eq_true rfl) dL_law_362 rfl ?_
  exact w_eq C dL_law_365 (by decide) (kk _ _ ho')
set_option maxRecDepth 100000 in
theorem w_c6 (C : wC ad cy D p s m meth c bs L xs) (hj : j + 5 ≤ L) (hh : 103 ≤ h.1) (hR : h.1 ≤ 600000 ∧ h.2.1 ≤ 7302250) (ho : oR G t) (kk : ∀ G' t', oR G' t' → vW ad cy D p l e s m below meth c Q bs (wL bs s.heap.size (nI j)) 904 [] (bH h G' t')) : vW ad cy D p l e s m below meth c Q bs (wL bs s.heap.size (nI j)) 370 [] (bH h G t) := by
  obtain ⟨G', t', v, ho', h1, h2⟩ := cal_light hh (xs (j + 1)) (xs (j + 2)) G t ho
  obtain ⟨r, rfl⟩ := pp_int h1 rfl
  refine w_al1 C dL_law_370 ?_
  refine w_ld C 1 dL_law_371 dL_law_372 dL_law_373 dL_law_374 dL_law_375 rfl (by decide) hj ?_
  refine w_ld C 2 dL_law_376 dL_law_377 dL_law_378 dL_law_379 dL_law_380 rfl (by decide) hj ?_
  refine w_call C (kx := n_X7_light) (a := 0) (as := [.int (xs (j + 1)), .int (xs (j + 2))]) (rest := []) (by decide) rfl rfl (Nat.le_of_ble_eq_true rfl) h1 rfl rfl hR (w_o7 hh) (x_gm (x_t2 (List.mem_of_getElem? (i := 156) rfl)) rfl) (Nat.le_of_ble_eq_true rfl) dL_law_381 rfl ?_
  refine w_al2 C dL_law_384 ?_
  refine w_ld C 1 dL_law_385 dL_law_386 dL_law_387 dL_law_388 dL_law_389 rfl (by decide) hj ?_
  refine w_ld C 2 dL_law_390 dL_law_391 dL_law_392 dL_law_393 dL_law_394 rfl (by decide) hj ?_
  refine w_call C (kx := n_X8_light) (a := 91) (as := [.int (xs (j + 1)), .int (xs (j + 2))]) (rest := [.int r]) (by decide) rfl rfl (Nat.le_of_ble_eq_true rfl) h2 rfl rfl hR (w_o8 hh) (x_gm (x_t5 (List.mem_of_getElem? (i := 5) rfl)) rfl) (Nat.le_of_ble_eq_true rfl) dL_law_395 rfl ?_
  exact w_eq C dL_law_398 (by decide) (kk _ _ ho')
set_option maxRecDepth 100000 in
theorem w_c7 (C : wC ad cy D p s m meth c bs L xs) (hj : j + 5 ≤ L) (hh : 103 ≤ h.1) (hR : h.1 ≤ 600000 ∧ h.2.1 ≤ 7302250) (ho : oR G t) (kk : ∀ G' t', oR G' t' → vW ad cy D p l e s m below meth c Q bs (wL bs s.heap.size (nI j)) 904 [] (bH h G' t')) : vW ad cy D p l e s m below meth c Q bs (wL bs s.heap.size (nI j)) 403 [] (bH h G t) := by
  obtain ⟨G', t', v, ho', h1, h2⟩ := cal_type hh (wJ (xs (j + 1)) (xs (j + 2))) (xs (j + 3)) G t ho
  obtain ⟨r, rfl⟩ := pp_int h1 rfl
  refine w_al1 C dL_law_403 ?_
  refine w_ld C 1 dL_law_404 dL_law_405 dL_law_406 dL_law_407 dL_law_408 rfl (by decide) hj ?_
  refine w_j1 C dL_law_409 dL_law_410 dL_law_412 ?_
  refine w_ld C 2 dL_law_413 dL_law_414 dL_law_415 dL_law_416 dL_law_417 rfl (by decide) hj ?_
  refine w_j2 C dL_law_418 dL_law_419 dL_law_422 dL_law_423 ?_
  refine w_ld C 3 dL_law_424 dL_law_425 dL_law_426 dL_law_427 dL_law_428 rfl (by decide) hj ?_
  refine w_call C (kx := n_X7_type) (a := 0) (as := [.long (wJ (xs (j + 1)) (xs (j + 2))), .int (xs (j + 3))]) (rest := []) (by decide) rfl rfl (Nat.le_of_ble_eq_true rfl) h1 rfl rfl hR (w_o7 hh) (x_gm (x_t2 (List.mem_of_getElem? (i := 186) rfl)) rfl) (Nat.le_of_ble_eq_true rfl) dL_law_429 rfl ?_
  refine w_al2 C dL_law_432 ?_
  refine w_ld C 1 dL_law_433 dL_law_434 dL_law_435 dL_law_436 dL_law_437 rfl (by decide) hj ?_
  refine w_j1 C dL_law_438 dL_law_439 dL_law_441 ?_
  refine w_ld C 2 dL_law_442 dL_law_443 dL_law_444 dL_law_445 dL_law_446 rfl (by decide) hj ?_
  refine w_j2 C dL_law_447 dL_law_448 dL_law_451 dL_law_452 ?_
  refine w_ld C 3 dL_law_453 dL_law_454 dL_law_455 dL_law_456 dL_law_457 rfl (by decide) hj ?_
  refine w_call C (kx := n_X8_type) (a := 91) (as := [.long (wJ (xs (j + 1)) (xs (j + 2))), .int (xs (j + 3))]) (rest := [.int r]) (by decide) rfl rfl (Nat.le_of_ble_eq_true rfl) h2 rfl rfl hR (w_o8 hh) (x_gm (x_t5 (List.mem_of_getElem? (i := 22) rfl)) rfl) (Nat.le_of_ble_eq_true rfl) dL_law_458 rfl ?_
  exact w_eq C dL_law_461 (by decide) (kk _ _ ho')
set_option maxRecDepth 100000 in
theorem w_c8 (C : wC ad cy D p s m meth c bs L xs) (hj : j + 5 ≤ L) (hh : 103 ≤ h.1) (hR : h.1 ≤ 600000 ∧ h.2.1 ≤ 7302250) (ho : oR G t) (kk : ∀ G' t', oR G' t' → vW ad cy D p l e s m below meth c Q bs (wL bs s.heap.size (nI j)) 904 [] (bH h G' t')) : vW ad cy D p l e s m below meth c Q bs (wL bs s.heap.size (nI j)) 466 [] (bH h G t) := by
  obtain ⟨G', t', v, ho', h1, h2⟩ := cal_clear hh  G t ho
  obtain ⟨r, rfl⟩ := pp_int h1 rfl
  refine w_al1 C dL_law_466 ?_
  refine w_call C (kx := n_X7_clear) (a := 0) (as := []) (rest := []) (by decide) rfl rfl (Nat.le_of_ble_eq_true rfl) h1 rfl rfl hR (w_o7 hh) (x_gm (x_t2 (List.mem_of_getElem? (i := 194) rfl)) rfl) (Nat.le_of_ble_eq_true rfl) dL_law_467 rfl ?_
  refine w_al2 C dL_law_470 ?_
  refine w_call C (kx := n_X8_clear) (a := 91) (as := []) (rest := [.int r]) (by decide) rfl rfl (Nat.le_of_ble_eq_true rfl) h2 rfl rfl hR (w_o8 hh) (x_gm (x_t5 (List.mem_of_getElem? (i := 28) rfl)) rfl) (Nat.le_of_ble_eq_true rfl) dL_law_471 rfl ?_
  exact w_eq C dL_law_474 (by decide) (kk _ _ ho')
set_option maxRecDepth 100000 in
theorem w_c9 (C : wC ad cy D p s m meth c bs L xs) (hj : j + 5 ≤ L) (hh : 103 ≤ h.1) (hR : h.1 ≤ 600000 ∧ h.2.1 ≤ 7302250) (ho : oR G t) (kk : ∀ G' t', oR G' t' → vW ad cy D p l e s m below meth c Q bs (wL bs s.heap.size (nI j)) 904 [] (bH h G' t')) : vW ad cy D p l e s m below meth c Q bs (wL bs s.heap.size (nI j)) 479 [] (bH h G t) := by
  obtain ⟨G', t', v, ho', h1, h2⟩ := cal_read hh  G t ho
  obtain ⟨r, rfl⟩ := pp_int h1 rfl
  refine w_al1 C dL_law_479 ?_
  refine w_call C (kx := n_X7_read) (a := 0) (as := []) (rest := []) (by decide) rfl rfl (Nat.le_of_ble_eq_true rfl) h1 rfl rfl hR (w_o7 hh) (x_gm (x_t2 (List.mem_of_getElem? (i := 202) rfl)) rfl) (Nat.le_of_ble_eq_true rfl) dL_law_480 rfl ?_
  refine w_al2 C dL_law_483 ?_
  refine w_call C (kx := n_X8_read) (a := 91) (as := []) (rest := [.int r]) (by decide) rfl rfl (Nat.le_of_ble_eq_true rfl) h2 rfl rfl hR (w_o8 hh) (x_gm (x_t5 (List.mem_of_getElem? (i := 32) rfl)) rfl) (Nat.le_of_ble_eq_true rfl) dL_law_484 rfl ?_
  exact w_eq C dL_law_487 (by decide) (kk _ _ ho')
set_option maxRecDepth 100000 in
theorem w_c10 (C : wC ad cy D p s m meth c bs L xs) (hj : j + 5 ≤ L) (hh : 103 ≤ h.1) (hR : h.1 ≤ 600000 ∧ h.2.1 ≤ 7302250) (ho : oR G t) (kk : ∀ G' t', oR G' t' → vW ad cy D p l e s m below meth c Q bs (wL bs s.heap.size (nI j)) 904 [] (bH h G' t')) : vW ad cy D p l e s m below meth c Q bs (wL bs s.heap.size (nI j)) 492 [] (bH h G t) := by
  obtain ⟨G', t', v, ho', h1, h2⟩ := cal_burn hh (xs (j + 1)) G t ho
  obtain ⟨r, rfl⟩ := pp_int h1 rfl
  refine w_al1 C dL_law_492 ?_
  refine w_ld C 1 dL_law_493 dL_law_494 dL_law_495 dL_law_496 dL_law_497 rfl (by decide) hj ?_
  refine w_call C (kx := n_X7_burn) (a := 0) (as := [.int (xs (j + 1))]) (rest := []) (by decide) rfl rfl (Nat.le_of_ble_eq_true rfl) h1 rfl rfl hR (w_o7 hh) (x_gm (x_t3 (List.mem_of_getElem? (i := 99) rfl)) rfl) (Nat.le_of_ble_eq_true rfl) dL_law_498 rfl ?_
  refine w_al2 C dL_law_501 ?_
  refine w_ld C 1 dL_law_502 dL_law_503 dL_law_504 dL_law_505 dL_law_506 rfl (by decide) hj ?_
  refine w_call C (kx := n_X8_burn) (a := 91) (as := [.int (xs (j + 1))]) (rest := [.int r]) (by decide) rfl rfl (Nat.le_of_ble_eq_true rfl) h2 rfl rfl hR (w_o8 hh) (x_gm (x_t5 (List.mem_of_getElem? (i := 74) rfl)) rfl) (Nat.le_of_ble_eq_true rfl) dL_law_507 rfl ?_
  exact w_eq C dL_law_510 (by decide) (kk _ _ ho')
set_option maxRecDepth 100000 in
theorem w_c11 (C : wC ad cy D p s m meth c bs L xs) (hj : j + 5 ≤ L) (hh : 103 ≤ h.1) (hR : h.1 ≤ 600000 ∧ h.2.1 ≤ 7302250) (ho : oR G t) (kk : ∀ G' t', oR G' t' → vW ad cy D p l e s m below meth c Q bs (wL bs s.heap.size (nI j)) 904 [] (bH h G' t')) : vW ad cy D p l e s m below meth c Q bs (wL bs s.heap.size (nI j)) 515 [] (bH h G t) := by
  obtain ⟨G', t', v, ho', h1, h2⟩ := cal_undo hh  G t ho
  obtain ⟨r, rfl⟩ := pp_int h1 rfl
  refine w_al1 C dL_law_515 ?_
  refine w_call C (kx := n_X7_undo) (a := 0) (as := []) (rest := []) (by decide) rfl rfl (Nat.le_of_ble_eq_true rfl) h1 rfl rfl hR (w_o7 hh) (x_gm (x_t3 (List.mem_of_getElem? (i := 131) rfl)) rfl) (Nat.le_of_ble_eq_true rfl) dL_law_516 rfl ?_
  refine w_al2 C dL_law_519 ?_
  refine w_call C (kx := n_X8_undo) (a := 91) (as := []) (rest := [.int r]) (by decide) rfl rfl (Nat.le_of_ble_eq_true rfl) h2 rfl rfl hR (w_o8 hh) (x_gm (x_t5 (List.mem_of_getElem? (i := 98) rfl)) rfl) (Nat.le_of_ble_eq_true rfl) dL_law_520 rfl ?_
  exact w_eq C dL_law_523 (by decide) (kk _ _ ho')
set_option maxRecDepth 100000 in
theorem w_c12 (C : wC ad cy D p s m meth c bs L xs) (hj : j + 5 ≤ L) (hh : 103 ≤ h.1) (hR : h.1 ≤ 600000 ∧ h.2.1 ≤ 7302250) (ho : oR G t) (kk : ∀ G' t', oR G' t' → vW ad cy D p l e s m below meth c Q bs (wL bs s.heap.size (nI j)) 904 [] (bH h G' t')) : vW ad cy D p l e s m below meth c Q bs (wL bs s.heap.size (nI j)) 528 [] (bH h G t) := by
  obtain ⟨G', t', v, ho', h1, h2⟩ := cal_left hh (xs (j + 1)) G t ho
  obtain ⟨r, rfl⟩ := pp_int h1 rfl
  refine w_al1 C dL_law_528 ?_
  refine w_ld C 1 dL_law_529 dL_law_530 dL_law_531 dL_law_532 dL_law_533 rfl (by decide) hj ?_
  refine w_call C (kx := n_X7_left) (a := 0) (as := [.int (xs (j + 1))]) (rest := []) (by decide) rfl rfl (Nat.le_of_ble_eq_true rfl) h1 rfl rfl hR (w_o7 hh) (x_gm (x_t3 (List.mem_of_getElem? (i := 143) rfl)) rfl) (Nat.le_of_ble_eq_true rfl) dL_law_534 rfl ?_
  refine w_al2 C dL_law_537 ?_
  refine w_ld C 1 dL_law_538 dL_law_539 dL_law_540 dL_law_541 dL_law_542 rfl (by decide) hj ?_
  refine w_call C (kx := n_X8_left) (a := 91) (as := [.int (xs (j + 1))]) (rest := [.int r]) (by decide) rfl rfl (Nat.le_of_ble_eq_true rfl) h2 rfl rfl hR (w_o8 hh) (x_gm (x_t5 (List.mem_of_getElem? (i := 102) rfl)) rfl) (Nat.le_of_ble_eq_true rfl) dL_law_543 rfl ?_
  exact w_eq C dL_law_546 (by decide) (kk _ _ ho')
set_option maxRecDepth 100000 in
theorem w_c13 (C : wC ad cy D p s m meth c bs L xs) (hj : j + 5 ≤ L) (hh : 103 ≤ h.1) (hR : h.1 ≤ 600000 ∧ h.2.1 ≤ 7302250) (ho : oR G t) (kk : ∀ G' t', oR G' t' → vW ad cy D p l e s m below meth c Q bs (wL bs s.heap.size (nI j)) 904 [] (bH h G' t')) : vW ad cy D p l e s m below meth c Q bs (wL bs s.heap.size (nI j)) 551 [] (bH h G t) := by
  obtain ⟨G', t', v, ho', h1, h2⟩ := cal_way hh (xs (j + 1)) (xs (j + 2)) G t ho
  obtain ⟨r, rfl⟩ := pp_int h1 rfl
  refine w_al1 C dL_law_551 ?_
  refine w_ld C 1 dL_law_552 dL_law_553 dL_law_554 dL_law_555 dL_law_556 rfl (by decide) hj ?_
  refine w_ld C 2 dL_law_557 dL_law_558 dL_law_559 dL_law_560 dL_law_561 rfl (by decide) hj ?_
  refine w_call C (kx := n_X7_way) (a := 0) (as := [.int (xs (j + 1)), .int (xs (j + 2))]) (rest := []) (by decide) rfl rfl (Nat.le_of_ble_eq_true rfl) h1 rfl rfl hR (w_o7 hh) (x_gm (x_t3 (List.mem_of_getElem? (i := 148) rfl)) rfl) (Nat.le_of_ble_eq_true rfl) dL_law_562 rfl ?_
  refine w_al2 C dL_law_565 ?_
  refine w_ld C 1 dL_law_566 dL_law_567 dL_law_568 dL_law_569 dL_law_570 rfl (by decide) hj ?_
  refine w_ld C 2 dL_law_571 dL_law_572 dL_law_573 dL_law_574 dL_law_575 rfl (by decide) hj ?_
  refine w_call C (kx := n_X8_way) (a := 91) (as := [.int (xs (j + 1)), .int (xs (j + 2))]) (rest := [.int r]) (by decide) rfl rfl (Nat.le_of_ble_eq_true rfl) h2 rfl rfl hR (w_o8 hh) (x_gm (x_t5 (List.mem_of_getElem? (i := 110) rfl)) rfl) (Nat.le_of_ble_eq_true rfl) dL_law_576 rfl ?_
  exact w_eq C dL_law_579 (by decide) (kk _ _ ho')
set_option maxRecDepth 100000 in
theorem w_c14 (C : wC ad cy D p s m meth c bs L xs) (hj : j + 5 ≤ L) (hh : 103 ≤ h.1) (hR : h.1 ≤ 600000 ∧ h.2.1 ≤ 7302250) (ho : oR G t) (kk : ∀ G' t', oR G' t' → vW ad cy D p l e s m below meth c Q bs (wL bs s.heap.size (nI j)) 904 [] (bH h G' t')) : vW ad cy D p l e s m below meth c Q bs (wL bs s.heap.size (nI j)) 584 [] (bH h G t) := by
  obtain ⟨G', t', v, ho', h1, h2⟩ := cal_done hh (xs (j + 1)) (xs (j + 2)) (xs (j + 3)) G t ho
  obtain ⟨r, rfl⟩ := pp_int h1 rfl
  refine w_al1 C dL_law_584 ?_
  refine w_ld C 1 dL_law_585 dL_law_586 dL_law_587 dL_law_588 dL_law_589 rfl (by decide) hj ?_
  refine w_ld C 2 dL_law_590 dL_law_591 dL_law_592 dL_law_593 dL_law_594 rfl (by decide) hj ?_
  refine w_ld C 3 dL_law_595 dL_law_596 dL_law_597 dL_law_598 dL_law_599 rfl (by decide) hj ?_
  refine w_call C (kx := n_X7_done) (a := 0) (as := [.int (xs (j + 1)), .int (xs (j + 2)), .int (xs (j + 3))]) (rest := []) (by decide) rfl rfl (Nat.le_of_ble_eq_true rfl) h1 rfl rfl hR (w_o7 hh) (x_gm (x_t3 (List.mem_of_getElem? (i := 192) rfl)) rfl) (Nat.le_of_ble_eq_true rfl) dL_law_600 rfl ?_
  refine w_al2 C dL_law_603 ?_
  refine w_ld C 1 dL_law_604 dL_law_605 dL_law_606 dL_law_607 dL_law_608 rfl (by decide) hj ?_
  refine w_ld C 2 dL_law_609 dL_law_610 dL_law_611 dL_law_612 dL_law_613 rfl (by decide) hj ?_
  refine w_ld C 3 dL_law_614 dL_law_615 dL_law_616 dL_law_617 dL_law_618 rfl (by decide) hj ?_
  refine w_call C (kx := n_X8_done) (a := 91) (as := [.int (xs (j + 1)), .int (xs (j + 2)), .int (xs (j + 3))]) (rest := [.int r]) (by decide) rfl rfl (Nat.le_of_ble_eq_true rfl) h2 rfl rfl hR (w_o8 hh) (x_gm (x_t5 (List.mem_of_getElem? (i := 127) rfl)) rfl) (Nat.le_of_ble_eq_true rfl) dL_law_619 rfl ?_
  exact w_eq C dL_law_622 (by decide) (kk _ _ ho')
set_option maxRecDepth 100000 in
theorem w_c15 (C : wC ad cy D p s m meth c bs L xs) (hj : j + 5 ≤ L) (hh : 103 ≤ h.1) (hR : h.1 ≤ 600000 ∧ h.2.1 ≤ 7302250) (ho : oR G t) (kk : ∀ G' t', oR G' t' → vW ad cy D p l e s m below meth c Q bs (wL bs s.heap.size (nI j)) 904 [] (bH h G' t')) : vW ad cy D p l e s m below meth c Q bs (wL bs s.heap.size (nI j)) 627 [] (bH h G t) := by
  obtain ⟨G', t', v, ho', h1, h2⟩ := cal_stand hh (xs (j + 1)) G t ho
  obtain ⟨r, rfl⟩ := pp_int h1 rfl
  refine w_al1 C dL_law_627 ?_
  refine w_ld C 1 dL_law_628 dL_law_629 dL_law_630 dL_law_631 dL_law_632 rfl (by decide) hj ?_
  refine w_call C (kx := n_X7_stand) (a := 0) (as := [.int (xs (j + 1))]) (rest := []) (by decide) rfl rfl (Nat.le_of_ble_eq_true rfl) h1 rfl rfl hR (w_o7 hh) (x_gm (x_t3 (List.mem_of_getElem? (i := 196) rfl)) rfl) (Nat.le_of_ble_eq_true rfl) dL_law_633 rfl ?_
  refine w_al2 C dL_law_636 ?_
  refine w_ld C 1 dL_law_637 dL_law_638 dL_law_639 dL_law_640 dL_law_641 rfl (by decide) hj ?_
  refine w_call C (kx := n_X8_stand) (a := 91) (as := [.int (xs (j + 1))]) (rest := [.int r]) (by decide) rfl rfl (Nat.le_of_ble_eq_true rfl) h2 rfl rfl hR (w_o8 hh) (x_gm (x_t5 (List.mem_of_getElem? (i := 131) rfl)) rfl) (Nat.le_of_ble_eq_true rfl) dL_law_642 rfl ?_
  exact w_eq C dL_law_645 (by decide) (kk _ _ ho')
set_option maxRecDepth 100000 in
theorem w_c16 (C : wC ad cy D p s m meth c bs L xs) (hj : j + 5 ≤ L) (hh : 103 ≤ h.1) (hR : h.1 ≤ 600000 ∧ h.2.1 ≤ 7302250) (ho : oR G t) (kk : ∀ G' t', oR G' t' → vW ad cy D p l e s m below meth c Q bs (wL bs s.heap.size (nI j)) 904 [] (bH h G' t')) : vW ad cy D p l e s m below meth c Q bs (wL bs s.heap.size (nI j)) 650 [] (bH h G t) := by
  obtain ⟨G', t', v, ho', h1, h2⟩ := cal_two hh (xs (j + 1)) G t ho
  obtain ⟨r, rfl⟩ := pp_int h1 rfl
  refine w_al1 C dL_law_650 ?_
  refine w_ld C 1 dL_law_651 dL_law_652 dL_law_653 dL_law_654 dL_law_655 rfl (by decide) hj ?_
  refine w_call C (kx := n_X7_two) (a := 0) (as := [.int (xs (j + 1))]) (rest := []) (by decide) rfl rfl (Nat.le_of_ble_eq_true rfl) h1 rfl rfl hR (w_o7 hh) (x_gm (x_t3 (List.mem_of_getElem? (i := 219) rfl)) rfl) (Nat.le_of_ble_eq_true rfl) dL_law_656 rfl ?_
  refine w_al2 C dL_law_659 ?_
  refine w_ld C 1 dL_law_660 dL_law_661 dL_law_662 dL_law_663 dL_law_664 rfl (by decide) hj ?_
  refine w_call C (kx := n_X8_two) (a := 91) (as := [.int (xs (j + 1))]) (rest := [.int r]) (by decide) rfl rfl (Nat.le_of_ble_eq_true rfl) h2 rfl rfl hR (w_o8 hh) (x_gm (x_t5 (List.mem_of_getElem? (i := 139) rfl)) rfl) (Nat.le_of_ble_eq_true rfl) dL_law_665 rfl ?_
  exact w_eq C dL_law_668 (by decide) (kk _ _ ho')
set_option maxRecDepth 100000 in
theorem w_c17 (C : wC ad cy D p s m meth c bs L xs) (hj : j + 5 ≤ L) (hh : 103 ≤ h.1) (hR : h.1 ≤ 600000 ∧ h.2.1 ≤ 7302250) (ho : oR G t) (kk : ∀ G' t', oR G' t' → vW ad cy D p l e s m below meth c Q bs (wL bs s.heap.size (nI j)) 904 [] (bH h G' t')) : vW ad cy D p l e s m below meth c Q bs (wL bs s.heap.size (nI j)) 673 [] (bH h G t) := by
  obtain ⟨G', t', v, ho', h1, h2⟩ := cal_seats hh  G t ho
  obtain ⟨r, rfl⟩ := pp_int h1 rfl
  refine w_al1 C dL_law_673 ?_
  refine w_call C (kx := n_X7_seats) (a := 0) (as := []) (rest := []) (by decide) rfl rfl (Nat.le_of_ble_eq_true rfl) h1 rfl rfl hR (w_o7 hh) (x_gm (x_t3 (List.mem_of_getElem? (i := 238) rfl)) rfl) (Nat.le_of_ble_eq_true rfl) dL_law_674 rfl ?_
  refine w_al2 C dL_law_677 ?_
  refine w_call C (kx := n_X8_seats) (a := 91) (as := []) (rest := [.int r]) (by decide) rfl rfl (Nat.le_of_ble_eq_true rfl) h2 rfl rfl hR (w_o8 hh) (x_gm (x_t5 (List.mem_of_getElem? (i := 143) rfl)) rfl) (Nat.le_of_ble_eq_true rfl) dL_law_678 rfl ?_
  exact w_eq C dL_law_681 (by decide) (kk _ _ ho')
set_option maxRecDepth 100000 in
theorem w_c18 (C : wC ad cy D p s m meth c bs L xs) (hj : j + 5 ≤ L) (hh : 103 ≤ h.1) (hR : h.1 ≤ 600000 ∧ h.2.1 ≤ 7302250) (ho : oR G t) (kk : ∀ G' t', oR G' t' → vW ad cy D p l e s m below meth c Q bs (wL bs s.heap.size (nI j)) 904 [] (bH h G' t')) : vW ad cy D p l e s m below meth c Q bs (wL bs s.heap.size (nI j)) 686 [] (bH h G t) := by
  obtain ⟨G', t', v, ho', h1, h2⟩ := cal_moved hh  G t ho
  obtain ⟨r, rfl⟩ := pp_int h1 rfl
  refine w_al1 C dL_law_686 ?_
  refine w_call C (kx := n_X7_moved) (a := 0) (as := []) (rest := []) (by decide) rfl rfl (Nat.le_of_ble_eq_true rfl) h1 rfl rfl hR (w_o7 hh) (x_gm (x_t4 (List.mem_of_getElem? (i := 17) rfl)) rfl) (Nat.le_of_ble_eq_true rfl) dL_law_687 rfl ?_
  refine w_al2 C dL_law_690 ?_
  refine w_call C (kx := n_X8_moved) (a := 91) (as := []) (rest := [.int r]) (by decide) rfl rfl (Nat.le_of_ble_eq_true rfl) h2 rfl rfl hR (w_o8 hh) (x_gm (x_t5 (List.mem_of_getElem? (i := 147) rfl)) rfl) (Nat.le_of_ble_eq_true rfl) dL_law_691 rfl ?_
  exact w_eq C dL_law_694 (by decide) (kk _ _ ho')
set_option maxRecDepth 100000 in
theorem w_c19 (C : wC ad cy D p s m meth c bs L xs) (hj : j + 5 ≤ L) (hh : 103 ≤ h.1) (hR : h.1 ≤ 600000 ∧ h.2.1 ≤ 7302250) (ho : oR G t) (kk : ∀ G' t', oR G' t' → vW ad cy D p l e s m below meth c Q bs (wL bs s.heap.size (nI j)) 904 [] (bH h G' t')) : vW ad cy D p l e s m below meth c Q bs (wL bs s.heap.size (nI j)) 699 [] (bH h G t) := by
  obtain ⟨G', t', v, ho', h1, h2⟩ := cal_rest hh (xs (j + 1)) G t ho
  obtain ⟨r, rfl⟩ := pp_int h1 rfl
  refine w_al1 C dL_law_699 ?_
  refine w_ld C 1 dL_law_700 dL_law_701 dL_law_702 dL_law_703 dL_law_704 rfl (by decide) hj ?_
  refine w_call C (kx := n_X7_rest) (a := 0) (as := [.int (xs (j + 1))]) (rest := []) (by decide) rfl rfl (Nat.le_of_ble_eq_true rfl) h1 rfl rfl hR (w_o7 hh) (x_gm (x_t4 (List.mem_of_getElem? (i := 26) rfl)) rfl) (Nat.le_of_ble_eq_true rfl) dL_law_705 rfl ?_
  refine w_al2 C dL_law_708 ?_
  refine w_ld C 1 dL_law_709 dL_law_710 dL_law_711 dL_law_712 dL_law_713 rfl (by decide) hj ?_
  refine w_call C (kx := n_X8_rest) (a := 91) (as := [.int (xs (j + 1))]) (rest := [.int r]) (by decide) rfl rfl (Nat.le_of_ble_eq_true rfl) h2 rfl rfl hR (w_o8 hh) (x_gm (x_t5 (List.mem_of_getElem? (i := 151) rfl)) rfl) (Nat.le_of_ble_eq_true rfl) dL_law_714 rfl ?_
  exact w_eq C dL_law_717 (by decide) (kk _ _ ho')
set_option maxRecDepth 100000 in
theorem w_c20 (C : wC ad cy D p s m meth c bs L xs) (hj : j + 5 ≤ L) (hh : 103 ≤ h.1) (hR : h.1 ≤ 600000 ∧ h.2.1 ≤ 7302250) (ho : oR G t) (kk : ∀ G' t', oR G' t' → vW ad cy D p l e s m below meth c Q bs (wL bs s.heap.size (nI j)) 904 [] (bH h G' t')) : vW ad cy D p l e s m below meth c Q bs (wL bs s.heap.size (nI j)) 722 [] (bH h G t) := by
  obtain ⟨G', t', v, ho', h1, h2⟩ := cal_told hh (xs (j + 1)) (xs (j + 2)) G t ho
  obtain ⟨r, rfl⟩ := pp_int h1 rfl
  refine w_al1 C dL_law_722 ?_
  refine w_ld C 1 dL_law_723 dL_law_724 dL_law_725 dL_law_726 dL_law_727 rfl (by decide) hj ?_
  refine w_ld C 2 dL_law_728 dL_law_729 dL_law_730 dL_law_731 dL_law_732 rfl (by decide) hj ?_
  refine w_call C (kx := n_X7_told) (a := 0) (as := [.int (xs (j + 1)), .int (xs (j + 2))]) (rest := []) (by decide) rfl rfl (Nat.le_of_ble_eq_true rfl) h1 rfl rfl hR (w_o7 hh) (x_gm (x_t4 (List.mem_of_getElem? (i := 40) rfl)) rfl) (Nat.le_of_ble_eq_true rfl) dL_law_733 rfl ?_
  refine w_al2 C dL_law_736 ?_
  refine w_ld C 1 dL_law_737 dL_law_738 dL_law_739 dL_law_740 dL_law_741 rfl (by decide) hj ?_
  refine w_ld C 2 dL_law_742 dL_law_743 dL_law_744 dL_law_745 dL_law_746 rfl (by decide) hj ?_
  refine w_call C (kx := n_X8_told) (a := 91) (as := [.int (xs (j + 1)), .int (xs (j + 2))]) (rest := [.int r]) (by decide) rfl rfl (Nat.le_of_ble_eq_true rfl) h2 rfl rfl hR (w_o8 hh) (x_gm (x_t5 (List.mem_of_getElem? (i := 159) rfl)) rfl) (Nat.le_of_ble_eq_true rfl) dL_law_747 rfl ?_
  exact w_eq C dL_law_750 (by decide) (kk _ _ ho')
set_option maxRecDepth 100000 in
theorem w_c21 (C : wC ad cy D p s m meth c bs L xs) (hj : j + 5 ≤ L) (hh : 103 ≤ h.1) (hR : h.1 ≤ 600000 ∧ h.2.1 ≤ 7302250) (ho : oR G t) (kk : ∀ G' t', oR G' t' → vW ad cy D p l e s m below meth c Q bs (wL bs s.heap.size (nI j)) 904 [] (bH h G' t')) : vW ad cy D p l e s m below meth c Q bs (wL bs s.heap.size (nI j)) 755 [] (bH h G t) := by
  obtain ⟨G', t', v, ho', h1, h2⟩ := cal_been hh (xs (j + 1)) (xs (j + 2)) (xs (j + 3)) G t ho
  obtain ⟨r, rfl⟩ := pp_int h1 rfl
  refine w_al1 C dL_law_755 ?_
  refine w_ld C 1 dL_law_756 dL_law_757 dL_law_758 dL_law_759 dL_law_760 rfl (by decide) hj ?_
  refine w_ld C 2 dL_law_761 dL_law_762 dL_law_763 dL_law_764 dL_law_765 rfl (by decide) hj ?_
  refine w_ld C 3 dL_law_766 dL_law_767 dL_law_768 dL_law_769 dL_law_770 rfl (by decide) hj ?_
  refine w_call C (kx := n_X7_been) (a := 0) (as := [.int (xs (j + 1)), .int (xs (j + 2)), .int (xs (j + 3))]) (rest := []) (by decide) rfl rfl (Nat.le_of_ble_eq_true rfl) h1 rfl rfl hR (w_o7 hh) (x_gm (x_t4 (List.mem_of_getElem? (i := 48) rfl)) rfl) (Nat.le_of_ble_eq_true rfl) dL_law_771 rfl ?_
  refine w_al2 C dL_law_774 ?_
  refine w_ld C 1 dL_law_775 dL_law_776 dL_law_777 dL_law_778 dL_law_779 rfl (by decide) hj ?_
  refine w_ld C 2 dL_law_780 dL_law_781 dL_law_782 dL_law_783 dL_law_784 rfl (by decide) hj ?_
  refine w_ld C 3 dL_law_785 dL_law_786 dL_law_787 dL_law_788 dL_law_789 rfl (by decide) hj ?_
  refine w_call C (kx := n_X8_been) (a := 91) (as := [.int (xs (j + 1)), .int (xs (j + 2)), .int (xs (j + 3))]) (rest := [.int r]) (by decide) rfl rfl (Nat.le_of_ble_eq_true rfl) h2 rfl rfl hR (w_o8 hh) (x_gm (x_t5 (List.mem_of_getElem? (i := 163) rfl)) rfl) (Nat.le_of_ble_eq_true rfl) dL_law_790 rfl ?_
  exact w_eq C dL_law_793 (by decide) (kk _ _ ho')
set_option maxRecDepth 100000 in
theorem w_c22 (C : wC ad cy D p s m meth c bs L xs) (hj : j + 5 ≤ L) (hh : 103 ≤ h.1) (hR : h.1 ≤ 600000 ∧ h.2.1 ≤ 7302250) (ho : oR G t) (kk : ∀ G' t', oR G' t' → vW ad cy D p l e s m below meth c Q bs (wL bs s.heap.size (nI j)) 904 [] (bH h G' t')) : vW ad cy D p l e s m below meth c Q bs (wL bs s.heap.size (nI j)) 798 [] (bH h G t) := by
  obtain ⟨G', t', v, ho', h1, h2⟩ := cal_image hh (xs (j + 1)) G t ho
  obtain ⟨r, rfl⟩ := pp_int h1 rfl
  refine w_al1 C dL_law_798 ?_
  refine w_ld C 1 dL_law_799 dL_law_800 dL_law_801 dL_law_802 dL_law_803 rfl (by decide) hj ?_
  refine w_call C (kx := n_X7_image) (a := 0) (as := [.int (xs (j + 1))]) (rest := []) (by decide) rfl rfl (Nat.le_of_ble_eq_true rfl) h1 rfl rfl hR (w_o7 hh) (x_gm (x_t4 (List.mem_of_getElem? (i := 65) rfl)) rfl) (Nat.le_of_ble_eq_true rfl) dL_law_804 rfl ?_
  refine w_al2 C dL_law_807 ?_
  refine w_ld C 1 dL_law_808 dL_law_809 dL_law_810 dL_law_811 dL_law_812 rfl (by decide) hj ?_
  refine w_call C (kx := n_X8_image) (a := 91) (as := [.int (xs (j + 1))]) (rest := [.int r]) (by decide) rfl rfl (Nat.le_of_ble_eq_true rfl) h2 rfl rfl hR (w_o8 hh) (x_gm (x_t5 (List.mem_of_getElem? (i := 167) rfl)) rfl) (Nat.le_of_ble_eq_true rfl) dL_law_813 rfl ?_
  exact w_eq C dL_law_816 (by decide) (kk _ _ ho')
set_option maxRecDepth 100000 in
theorem w_c23 (C : wC ad cy D p s m meth c bs L xs) (hj : j + 5 ≤ L) (hh : 103 ≤ h.1) (hR : h.1 ≤ 600000 ∧ h.2.1 ≤ 7302250) (ho : oR G t) (kk : ∀ G' t', oR G' t' → vW ad cy D p l e s m below meth c Q bs (wL bs s.heap.size (nI j)) 904 [] (bH h G' t')) : vW ad cy D p l e s m below meth c Q bs (wL bs s.heap.size (nI j)) 821 [] (bH h G t) := by
  obtain ⟨G', t', v, ho', h1, h2⟩ := cal_from hh (xs (j + 1)) G t ho
  obtain ⟨r, rfl⟩ := pp_int h1 rfl
  refine w_al1 C dL_law_821 ?_
  refine w_ld C 1 dL_law_822 dL_law_823 dL_law_824 dL_law_825 dL_law_826 rfl (by decide) hj ?_
  refine w_call C (kx := n_X7_from) (a := 0) (as := [.int (xs (j + 1))]) (rest := []) (by decide) rfl rfl (Nat.le_of_ble_eq_true rfl) h1 rfl rfl hR (w_o7 hh) (x_gm (x_t4 (List.mem_of_getElem? (i := 69) rfl)) rfl) (Nat.le_of_ble_eq_true rfl) dL_law_827 rfl ?_
  refine w_al2 C dL_law_830 ?_
  refine w_ld C 1 dL_law_831 dL_law_832 dL_law_833 dL_law_834 dL_law_835 rfl (by decide) hj ?_
  refine w_call C (kx := n_X8_from) (a := 91) (as := [.int (xs (j + 1))]) (rest := [.int r]) (by decide) rfl rfl (Nat.le_of_ble_eq_true rfl) h2 rfl rfl hR (w_o8 hh) (x_gm (x_t5 (List.mem_of_getElem? (i := 171) rfl)) rfl) (Nat.le_of_ble_eq_true rfl) dL_law_836 rfl ?_
  exact w_eq C dL_law_839 (by decide) (kk _ _ ho')
set_option maxRecDepth 100000 in
theorem w_c24 (C : wC ad cy D p s m meth c bs L xs) (hj : j + 5 ≤ L) (hh : 103 ≤ h.1) (hR : h.1 ≤ 600000 ∧ h.2.1 ≤ 7302250) (ho : oR G t) (kk : ∀ G' t', oR G' t' → vW ad cy D p l e s m below meth c Q bs (wL bs s.heap.size (nI j)) 904 [] (bH h G' t')) : vW ad cy D p l e s m below meth c Q bs (wL bs s.heap.size (nI j)) 844 [] (bH h G t) := by
  obtain ⟨G', t', v, ho', h1, h2⟩ := cal_status hh (xs (j + 1)) G t ho
  obtain ⟨r, rfl⟩ := pp_int h1 rfl
  refine w_al1 C dL_law_844 ?_
  refine w_ld C 1 dL_law_845 dL_law_846 dL_law_847 dL_law_848 dL_law_849 rfl (by decide) hj ?_
  refine w_call C (kx := n_X7_status) (a := 0) (as := [.int (xs (j + 1))]) (rest := []) (by decide) rfl rfl (Nat.le_of_ble_eq_true rfl) h1 rfl rfl hR (w_o7 hh) (x_gm (x_t4 (List.mem_of_getElem? (i := 73) rfl)) rfl) (Nat.le_of_ble_eq_true rfl) dL_law_850 rfl ?_
  refine w_al2 C dL_law_853 ?_
  refine w_ld C 1 dL_law_854 dL_law_855 dL_law_856 dL_law_857 dL_law_858 rfl (by decide) hj ?_
  refine w_call C (kx := n_X8_status) (a := 91) (as := [.int (xs (j + 1))]) (rest := [.int r]) (by decide) rfl rfl (Nat.le_of_ble_eq_true rfl) h2 rfl rfl hR (w_o8 hh) (x_gm (x_t5 (List.mem_of_getElem? (i := 175) rfl)) rfl) (Nat.le_of_ble_eq_true rfl) dL_law_859 rfl ?_
  exact w_eq C dL_law_862 (by decide) (kk _ _ ho')
set_option maxRecDepth 100000 in
theorem w_c25 (C : wC ad cy D p s m meth c bs L xs) (hj : j + 5 ≤ L) (hh : 103 ≤ h.1) (hR : h.1 ≤ 600000 ∧ h.2.1 ≤ 7302250) (ho : oR G t) (kk : ∀ G' t', oR G' t' → vW ad cy D p l e s m below meth c Q bs (wL bs s.heap.size (nI j)) 904 [] (bH h G' t')) : vW ad cy D p l e s m below meth c Q bs (wL bs s.heap.size (nI j)) 867 [] (bH h G t) := by
  obtain ⟨G', t', v, ho', h1, h2⟩ := cal_count hh (xs (j + 1)) G t ho
  obtain ⟨r, rfl⟩ := pp_int h1 rfl
  refine w_al1 C dL_law_867 ?_
  refine w_ld C 1 dL_law_868 dL_law_869 dL_law_870 dL_law_871 dL_law_872 rfl (by decide) hj ?_
  refine w_call C (kx := n_X7_count) (a := 0) (as := [.int (xs (j + 1))]) (rest := []) (by decide) rfl rfl (Nat.le_of_ble_eq_true rfl) h1 rfl rfl hR (w_o7 hh) (x_gm (x_t4 (List.mem_of_getElem? (i := 77) rfl)) rfl) (Nat.le_of_ble_eq_true rfl) dL_law_873 rfl ?_
  refine w_al2 C dL_law_876 ?_
  refine w_ld C 1 dL_law_877 dL_law_878 dL_law_879 dL_law_880 dL_law_881 rfl (by decide) hj ?_
  refine w_call C (kx := n_X8_count) (a := 91) (as := [.int (xs (j + 1))]) (rest := [.int r]) (by decide) rfl rfl (Nat.le_of_ble_eq_true rfl) h2 rfl rfl hR (w_o8 hh) (x_gm (x_t5 (List.mem_of_getElem? (i := 179) rfl)) rfl) (Nat.le_of_ble_eq_true rfl) dL_law_882 rfl ?_
  exact w_eq C dL_law_885 (by decide) (kk _ _ ho')
set_option maxRecDepth 100000 in
theorem w_c26 (C : wC ad cy D p s m meth c bs L xs) (hj : j + 5 ≤ L) (hh : 103 ≤ h.1) (hR : h.1 ≤ 600000 ∧ h.2.1 ≤ 7302250) (ho : oR G t) (kk : ∀ G' t', oR G' t' → vW ad cy D p l e s m below meth c Q bs (wL bs s.heap.size (nI j)) 904 [] (bH h G' t')) : vW ad cy D p l e s m below meth c Q bs (wL bs s.heap.size (nI j)) 890 [] (bH h G t) := by
  obtain ⟨G', t', v, ho', h1, h2⟩ := cal_digest hh  G t ho
  obtain ⟨r, rfl⟩ := pp_long h1 rfl
  refine w_al1 C dL_law_890 ?_
  refine w_call C (kx := n_X7_digest) (a := 0) (as := []) (rest := []) (by decide) rfl rfl (Nat.le_of_ble_eq_true rfl) h1 rfl rfl hR (w_o7 hh) (x_gm (x_t4 (List.mem_of_getElem? (i := 85) rfl)) rfl) (Nat.le_of_ble_eq_true rfl) dL_law_891 rfl ?_
  refine w_al2 C dL_law_894 ?_
  refine w_call C (kx := n_X8_digest) (a := 91) (as := []) (rest := [.long r]) (by decide) rfl rfl (Nat.le_of_ble_eq_true rfl) h2 rfl rfl hR (w_o8 hh) (x_gm (x_t5 (List.mem_of_getElem? (i := 187) rfl)) rfl) (Nat.le_of_ble_eq_true rfl) dL_law_895 rfl ?_
  exact w_eql C dL_law_898 dL_law_899 rfl (kk _ _ ho')
end
