/-! ===== THE LAW'S WALK: cases 0 to 10 (written by wip/whole/gen_law.py) ===== -/
theorem w_case_addRule {X : k_X} {la : Launch} {G : k_G} {σ0 : k_S} {nm : String} {b Ln : Nat} {xs : Nat → Int32} (C : w_C X la G σ0 nm b Ln xs) {σ : k_S} {T k n i : Nat} (hI : q_I T σ σ) (hi : i + 6 ≤ Ln) (hk : k + 12 ≤ 603072) (hn : n + 958 ≤ 7198825)
    (K : ∀ (T : Nat) (σ2 : k_S) (k2 n2 : Nat), q_I T σ2 σ2 → k2 ≤ k + 12 → n2 ≤ n + 958 → k_W X σ2 k2 n2 2111 (w_L b i none none none) []) : k_W X σ k n 192 (w_L b i none none none) [] := by
  obtain ⟨hla, h, hMe, hX, hbl, hbA, hLn⟩ := id C
  obtain ⟨kx, σ1, v, σ2, T2, e1, e2, hth, hv, hI2⟩ := g_addRule hI (xs (i + 1)) (w_01 (xs (i + 2))) (xs (i + 3)) (xs (i + 4)) (xs (i + 5)) (w_01_or _)
  have K2 := K T2 σ2 (k + 7 + 0) (n + 336 + 0) hI2 (by omega) (by omega)
  refine r_aload_n h dL_law_192 rfl ?_
  refine w_arg C 1 (by omega) dL_law_193 dL_law_194 dL_law_196 (by decide) dL_law_197 dL_law_198 ?_
  refine w_arg C 2 (by omega) dL_law_199 dL_law_200 dL_law_202 (by decide) dL_law_203 dL_law_204 ?_
  refine w_bool C dL_law_205 dL_law_208 dL_law_209 dL_law_212 ?_
  refine w_arg C 3 (by omega) dL_law_213 dL_law_214 dL_law_216 (by decide) dL_law_217 dL_law_218 ?_
  refine w_arg C 4 (by omega) dL_law_219 dL_law_220 dL_law_222 (by decide) dL_law_223 dL_law_224 ?_
  refine w_arg C 5 (by omega) dL_law_225 dL_law_226 dL_law_228 (by decide) dL_law_229 dL_law_230 ?_
  refine r_aload_n h dL_law_231 rfl ?_
  refine r_callSW h hMe (rest := []) (as := [k_p 0 0, k_i (xs (i + 1)), k_i (w_01 (xs (i + 2))), k_i (xs (i + 3)), k_i (xs (i + 4)), k_i (xs (i + 5)), k_p 18 0]) (oc := .inl (k_mI kx, σ1)) (j_L_addRule la hla G _ 0 (xs (i + 1)) (w_01 (xs (i + 2))) (xs (i + 3)) (xs (i + 4)) (xs (i + 5)) 0 (kx, σ1) e1) kl_L_123 dL_law_232 rfl rfl ⟨rfl, rfl, Nat.le_of_ble_eq_true rfl, Nat.le_of_ble_eq_true rfl, by show k + 7 ≤ 603072; omega, by show n + 336 ≤ 7198825; omega, Nat.le_of_ble_eq_true rfl⟩ (fun E q => by cases q) (fun r s q => ?_)
  cases q
  show k_W X _ _ _ _ _ [k_i kx]
  refine r_istore (L' := w_L b i (some (k_i kx)) none none) h dL_law_235 (by decide) rfl ?_
  refine r_aload_n h dL_law_237 rfl ?_
  refine w_arg C 1 (by omega) dL_law_238 dL_law_239 dL_law_241 (by decide) dL_law_242 dL_law_243 ?_
  refine w_arg C 2 (by omega) dL_law_244 dL_law_245 dL_law_247 (by decide) dL_law_248 dL_law_249 ?_
  refine w_bool C dL_law_250 dL_law_253 dL_law_254 dL_law_257 ?_
  refine w_arg C 3 (by omega) dL_law_258 dL_law_259 dL_law_261 (by decide) dL_law_262 dL_law_263 ?_
  refine w_arg C 4 (by omega) dL_law_264 dL_law_265 dL_law_267 (by decide) dL_law_268 dL_law_269 ?_
  refine w_arg C 5 (by omega) dL_law_270 dL_law_271 dL_law_273 (by decide) dL_law_274 dL_law_275 ?_
  refine r_callV h hMe (rest := []) (as := [k_i (xs (i + 1)), k_i (w_01 (xs (i + 2))), k_i (xs (i + 3)), k_i (xs (i + 4)), k_i (xs (i + 5))]) (oc := .inl (k_mI v, σ2)) (j_X8_addRule la hla G _ 0 (xs (i + 1)) (w_01 (xs (i + 2))) (xs (i + 3)) (xs (i + 4)) (xs (i + 5)) (v, σ2) e2) kl_L_128 dL_law_276 rfl rfl rfl rfl rfl ⟨rfl, rfl, Nat.le_of_ble_eq_true rfl, Nat.le_of_ble_eq_true rfl, by show k + 7 + 0 ≤ 603072; omega, by show n + 336 + 0 ≤ 7198825; omega, Nat.le_of_ble_eq_true rfl⟩ (fun E q => by cases q) (fun r s q => ?_)
  cases q
  show k_W X _ _ _ _ _ [k_i v]
  exact w_tail C ⟨dL_law_279, dL_law_281, dL_law_282, dL_law_285, dL_law_287, dL_law_292, dL_law_294, dL_law_297, dL_law_298, dL_law_299, dL_law_300, dL_law_302, dL_law_303, dL_law_304, dL_law_309, by decide⟩ hth hv ⟨by omega, by omega⟩ K2
theorem w_case_repeal {X : k_X} {la : Launch} {G : k_G} {σ0 : k_S} {nm : String} {b Ln : Nat} {xs : Nat → Int32} (C : w_C X la G σ0 nm b Ln xs) {σ : k_S} {T k n i : Nat} (hI : q_I T σ σ) (hi : i + 6 ≤ Ln) (hk : k + 12 ≤ 603072) (hn : n + 958 ≤ 7198825)
    (K : ∀ (T : Nat) (σ2 : k_S) (k2 n2 : Nat), q_I T σ2 σ2 → k2 ≤ k + 12 → n2 ≤ n + 958 → k_W X σ2 k2 n2 2111 (w_L b i none none none) []) : k_W X σ k n 312 (w_L b i none none none) [] := by
  obtain ⟨hla, h, hMe, hX, hbl, hbA, hLn⟩ := id C
  obtain ⟨kx, σ1, v, σ2, T2, e1, e2, hth, hv, hI2⟩ := g_repeal hI (xs (i + 1)) (xs (i + 2))
  have K2 := K T2 σ2 (k + 3 + 0) (n + 18 + 0) hI2 (by omega) (by omega)
  refine r_aload_n h dL_law_312 rfl ?_
  refine w_arg C 1 (by omega) dL_law_313 dL_law_314 dL_law_316 (by decide) dL_law_317 dL_law_318 ?_
  refine w_arg C 2 (by omega) dL_law_319 dL_law_320 dL_law_322 (by decide) dL_law_323 dL_law_324 ?_
  refine r_aload_n h dL_law_325 rfl ?_
  refine r_callSW h hMe (rest := []) (as := [k_p 0 0, k_i (xs (i + 1)), k_i (xs (i + 2)), k_p 18 0]) (oc := .inl (k_mI kx, σ1)) (j_L_repeal la hla G _ 0 (xs (i + 1)) (xs (i + 2)) 0 (kx, σ1) e1) kl_L_133 dL_law_326 rfl rfl ⟨rfl, rfl, Nat.le_of_ble_eq_true rfl, Nat.le_of_ble_eq_true rfl, by show k + 3 ≤ 603072; omega, by show n + 18 ≤ 7198825; omega, Nat.le_of_ble_eq_true rfl⟩ (fun E q => by cases q) (fun r s q => ?_)
  cases q
  show k_W X _ _ _ _ _ [k_i kx]
  refine r_istore (L' := w_L b i (some (k_i kx)) none none) h dL_law_329 (by decide) rfl ?_
  refine r_aload_n h dL_law_331 rfl ?_
  refine w_arg C 1 (by omega) dL_law_332 dL_law_333 dL_law_335 (by decide) dL_law_336 dL_law_337 ?_
  refine w_arg C 2 (by omega) dL_law_338 dL_law_339 dL_law_341 (by decide) dL_law_342 dL_law_343 ?_
  refine r_callV h hMe (rest := []) (as := [k_i (xs (i + 1)), k_i (xs (i + 2))]) (oc := .inl (k_mI v, σ2)) (j_X8_repeal la hla G _ 0 (xs (i + 1)) (xs (i + 2)) (v, σ2) e2) kl_L_136 dL_law_344 rfl rfl rfl rfl rfl ⟨rfl, rfl, Nat.le_of_ble_eq_true rfl, Nat.le_of_ble_eq_true rfl, by show k + 3 + 0 ≤ 603072; omega, by show n + 18 + 0 ≤ 7198825; omega, Nat.le_of_ble_eq_true rfl⟩ (fun E q => by cases q) (fun r s q => ?_)
  cases q
  show k_W X _ _ _ _ _ [k_i v]
  exact w_tail C ⟨dL_law_347, dL_law_349, dL_law_350, dL_law_353, dL_law_355, dL_law_360, dL_law_362, dL_law_365, dL_law_366, dL_law_367, dL_law_368, dL_law_370, dL_law_371, dL_law_372, dL_law_377, by decide⟩ hth hv ⟨by omega, by omega⟩ K2
theorem w_case_isInForce {X : k_X} {la : Launch} {G : k_G} {σ0 : k_S} {nm : String} {b Ln : Nat} {xs : Nat → Int32} (C : w_C X la G σ0 nm b Ln xs) {σ : k_S} {T k n i : Nat} (hI : q_I T σ σ) (hi : i + 6 ≤ Ln) (hk : k + 12 ≤ 603072) (hn : n + 958 ≤ 7198825)
    (K : ∀ (T : Nat) (σ2 : k_S) (k2 n2 : Nat), q_I T σ2 σ2 → k2 ≤ k + 12 → n2 ≤ n + 958 → k_W X σ2 k2 n2 2111 (w_L b i none none none) []) : k_W X σ k n 380 (w_L b i none none none) [] := by
  obtain ⟨hla, h, hMe, hX, hbl, hbA, hLn⟩ := id C
  obtain ⟨kx, σ1, v, σ2, T2, e1, e2, hth, hv, h01, hI2⟩ := g_isInForce hI (xs (i + 1)) (xs (i + 2))
  have K2 := K T2 σ2 (k + 2 + 0) (n + 12 + 0) hI2 (by omega) (by omega)
  refine r_aload_n h dL_law_380 rfl ?_
  refine w_arg C 1 (by omega) dL_law_381 dL_law_382 dL_law_384 (by decide) dL_law_385 dL_law_386 ?_
  refine w_arg C 2 (by omega) dL_law_387 dL_law_388 dL_law_390 (by decide) dL_law_391 dL_law_392 ?_
  refine r_aload_n h dL_law_393 rfl ?_
  refine r_callSW h hMe (rest := []) (as := [k_p 0 0, k_i (xs (i + 1)), k_i (xs (i + 2)), k_p 18 0]) (oc := .inl (k_mI kx, σ1)) (j_L_isInForce la hla G _ 0 (xs (i + 1)) (xs (i + 2)) 0 (kx, σ1) e1) kl_L_137 dL_law_394 rfl rfl ⟨rfl, rfl, Nat.le_of_ble_eq_true rfl, Nat.le_of_ble_eq_true rfl, by show k + 2 ≤ 603072; omega, by show n + 12 ≤ 7198825; omega, Nat.le_of_ble_eq_true rfl⟩ (fun E q => by cases q) (fun r s q => ?_)
  cases q
  show k_W X _ _ _ _ _ [k_i kx]
  refine r_istore (L' := w_L b i (some (k_i kx)) none none) h dL_law_397 (by decide) rfl ?_
  refine r_aload_n h dL_law_399 rfl ?_
  refine w_arg C 1 (by omega) dL_law_400 dL_law_401 dL_law_403 (by decide) dL_law_404 dL_law_405 ?_
  refine w_arg C 2 (by omega) dL_law_406 dL_law_407 dL_law_409 (by decide) dL_law_410 dL_law_411 ?_
  refine r_callV h hMe (rest := []) (as := [k_i (xs (i + 1)), k_i (xs (i + 2))]) (oc := .inl (k_mI v, σ2)) (j_X8_isInForce la hla G _ 0 (xs (i + 1)) (xs (i + 2)) (v, σ2) e2) kl_L_139 dL_law_412 rfl rfl rfl rfl rfl ⟨rfl, rfl, Nat.le_of_ble_eq_true rfl, Nat.le_of_ble_eq_true rfl, by show k + 2 + 0 ≤ 603072; omega, by show n + 12 + 0 ≤ 7198825; omega, Nat.le_of_ble_eq_true rfl⟩ (fun E q => by cases q) (fun r s q => ?_)
  cases q
  show k_W X _ _ _ _ _ [k_i v]
  exact w_tailB C ⟨dL_law_415, dL_law_417, dL_law_418, dL_law_421, dL_law_423, dL_law_428, dL_law_430, dL_law_433, dL_law_434, dL_law_435, dL_law_436, dL_law_438, dL_law_441, dL_law_442, dL_law_445, dL_law_446, dL_law_447, dL_law_452, by decide⟩ hth hv h01 ⟨by omega, by omega⟩ K2
theorem w_case_applying {X : k_X} {la : Launch} {G : k_G} {σ0 : k_S} {nm : String} {b Ln : Nat} {xs : Nat → Int32} (C : w_C X la G σ0 nm b Ln xs) {σ : k_S} {T k n i : Nat} (hI : q_I T σ σ) (hi : i + 6 ≤ Ln) (hk : k + 12 ≤ 603072) (hn : n + 958 ≤ 7198825)
    (K : ∀ (T : Nat) (σ2 : k_S) (k2 n2 : Nat), q_I T σ2 σ2 → k2 ≤ k + 12 → n2 ≤ n + 958 → k_W X σ2 k2 n2 2111 (w_L b i none none none) []) : k_W X σ k n 455 (w_L b i none none none) [] := by
  obtain ⟨hla, h, hMe, hX, hbl, hbA, hLn⟩ := id C
  obtain ⟨kx, σ1, v, σ2, T2, e1, e2, hth, hv, hI2⟩ := g_applying hI (xs (i + 1))
  have K2 := K T2 σ2 (k + 2 + 0) (n + 12 + 0) hI2 (by omega) (by omega)
  refine r_aload_n h dL_law_455 rfl ?_
  refine w_arg C 1 (by omega) dL_law_456 dL_law_457 dL_law_459 (by decide) dL_law_460 dL_law_461 ?_
  refine r_aload_n h dL_law_462 rfl ?_
  refine r_callSW h hMe (rest := []) (as := [k_p 0 0, k_i (xs (i + 1)), k_p 18 0]) (oc := .inl (k_mI kx, σ1)) (j_L_applying la hla G _ 0 (xs (i + 1)) 0 (kx, σ1) e1) kl_L_140 dL_law_463 rfl rfl ⟨rfl, rfl, Nat.le_of_ble_eq_true rfl, Nat.le_of_ble_eq_true rfl, by show k + 2 ≤ 603072; omega, by show n + 12 ≤ 7198825; omega, Nat.le_of_ble_eq_true rfl⟩ (fun E q => by cases q) (fun r s q => ?_)
  cases q
  show k_W X _ _ _ _ _ [k_i kx]
  refine r_istore (L' := w_L b i (some (k_i kx)) none none) h dL_law_466 (by decide) rfl ?_
  refine r_aload_n h dL_law_468 rfl ?_
  refine w_arg C 1 (by omega) dL_law_469 dL_law_470 dL_law_472 (by decide) dL_law_473 dL_law_474 ?_
  refine r_callV h hMe (rest := []) (as := [k_i (xs (i + 1))]) (oc := .inl (k_mI v, σ2)) (j_X8_applying la hla G _ 0 (xs (i + 1)) (v, σ2) e2) kl_L_143 dL_law_475 rfl rfl rfl rfl rfl ⟨rfl, rfl, Nat.le_of_ble_eq_true rfl, Nat.le_of_ble_eq_true rfl, by show k + 2 + 0 ≤ 603072; omega, by show n + 12 + 0 ≤ 7198825; omega, Nat.le_of_ble_eq_true rfl⟩ (fun E q => by cases q) (fun r s q => ?_)
  cases q
  show k_W X _ _ _ _ _ [k_i v]
  exact w_tail C ⟨dL_law_478, dL_law_480, dL_law_481, dL_law_484, dL_law_486, dL_law_491, dL_law_493, dL_law_496, dL_law_497, dL_law_498, dL_law_499, dL_law_501, dL_law_502, dL_law_503, dL_law_508, by decide⟩ hth hv ⟨by omega, by omega⟩ K2
theorem w_case_conflicts {X : k_X} {la : Launch} {G : k_G} {σ0 : k_S} {nm : String} {b Ln : Nat} {xs : Nat → Int32} (C : w_C X la G σ0 nm b Ln xs) {σ : k_S} {T k n i : Nat} (hI : q_I T σ σ) (hi : i + 6 ≤ Ln) (hk : k + 12 ≤ 603072) (hn : n + 958 ≤ 7198825)
    (K : ∀ (T : Nat) (σ2 : k_S) (k2 n2 : Nat), q_I T σ2 σ2 → k2 ≤ k + 12 → n2 ≤ n + 958 → k_W X σ2 k2 n2 2111 (w_L b i none none none) []) : k_W X σ k n 511 (w_L b i none none none) [] := by
  obtain ⟨hla, h, hMe, hX, hbl, hbA, hLn⟩ := id C
  obtain ⟨kx, σ1, v, σ2, T2, e1, e2, hth, hv, hI2⟩ := g_conflicts hI (xs (i + 1))
  have K2 := K T2 σ2 (k + 1 + 0) (n + 6 + 0) hI2 (by omega) (by omega)
  refine r_aload_n h dL_law_511 rfl ?_
  refine w_arg C 1 (by omega) dL_law_512 dL_law_513 dL_law_515 (by decide) dL_law_516 dL_law_517 ?_
  refine r_aload_n h dL_law_518 rfl ?_
  refine r_callSW h hMe (rest := []) (as := [k_p 0 0, k_i (xs (i + 1)), k_p 18 0]) (oc := .inl (k_mI kx, σ1)) (j_L_conflicts la hla G _ 0 (xs (i + 1)) 0 (kx, σ1) e1) kl_L_144 dL_law_519 rfl rfl ⟨rfl, rfl, Nat.le_of_ble_eq_true rfl, Nat.le_of_ble_eq_true rfl, by show k + 1 ≤ 603072; omega, by show n + 6 ≤ 7198825; omega, Nat.le_of_ble_eq_true rfl⟩ (fun E q => by cases q) (fun r s q => ?_)
  cases q
  show k_W X _ _ _ _ _ [k_i kx]
  refine r_istore (L' := w_L b i (some (k_i kx)) none none) h dL_law_522 (by decide) rfl ?_
  refine r_aload_n h dL_law_524 rfl ?_
  refine w_arg C 1 (by omega) dL_law_525 dL_law_526 dL_law_528 (by decide) dL_law_529 dL_law_530 ?_
  refine r_callV h hMe (rest := []) (as := [k_i (xs (i + 1))]) (oc := .inl (k_mI v, σ2)) (j_X8_conflicts la hla G _ 0 (xs (i + 1)) (v, σ2) e2) kl_L_146 dL_law_531 rfl rfl rfl rfl rfl ⟨rfl, rfl, Nat.le_of_ble_eq_true rfl, Nat.le_of_ble_eq_true rfl, by show k + 1 + 0 ≤ 603072; omega, by show n + 6 + 0 ≤ 7198825; omega, Nat.le_of_ble_eq_true rfl⟩ (fun E q => by cases q) (fun r s q => ?_)
  cases q
  show k_W X _ _ _ _ _ [k_i v]
  exact w_tail C ⟨dL_law_534, dL_law_536, dL_law_537, dL_law_540, dL_law_542, dL_law_547, dL_law_549, dL_law_552, dL_law_553, dL_law_554, dL_law_555, dL_law_557, dL_law_558, dL_law_559, dL_law_564, by decide⟩ hth hv ⟨by omega, by omega⟩ K2
theorem w_case_addUser {X : k_X} {la : Launch} {G : k_G} {σ0 : k_S} {nm : String} {b Ln : Nat} {xs : Nat → Int32} (C : w_C X la G σ0 nm b Ln xs) {σ : k_S} {T k n i : Nat} (hI : q_I T σ σ) (hi : i + 6 ≤ Ln) (hk : k + 12 ≤ 603072) (hn : n + 958 ≤ 7198825)
    (K : ∀ (T : Nat) (σ2 : k_S) (k2 n2 : Nat), q_I T σ2 σ2 → k2 ≤ k + 12 → n2 ≤ n + 958 → k_W X σ2 k2 n2 2111 (w_L b i none none none) []) : k_W X σ k n 567 (w_L b i none none none) [] := by
  obtain ⟨hla, h, hMe, hX, hbl, hbA, hLn⟩ := id C
  obtain ⟨kx, σ1, v, σ2, T2, e1, e2, hth, hv, hI2⟩ := g_addUser hI (xs (i + 1))
  have K2 := K T2 σ2 (k + 4 + 0) (n + 313 + 0) hI2 (by omega) (by omega)
  refine r_aload_n h dL_law_567 rfl ?_
  refine w_arg C 1 (by omega) dL_law_568 dL_law_569 dL_law_571 (by decide) dL_law_572 dL_law_573 ?_
  refine r_aload_n h dL_law_574 rfl ?_
  refine r_callSW h hMe (rest := []) (as := [k_p 0 0, k_i (xs (i + 1)), k_p 18 0]) (oc := .inl (k_mI kx, σ1)) (j_L_addUser la hla G _ 0 (xs (i + 1)) 0 (kx, σ1) e1) kl_L_147 dL_law_575 rfl rfl ⟨rfl, rfl, Nat.le_of_ble_eq_true rfl, Nat.le_of_ble_eq_true rfl, by show k + 4 ≤ 603072; omega, by show n + 313 ≤ 7198825; omega, Nat.le_of_ble_eq_true rfl⟩ (fun E q => by cases q) (fun r s q => ?_)
  cases q
  show k_W X _ _ _ _ _ [k_i kx]
  refine r_istore (L' := w_L b i (some (k_i kx)) none none) h dL_law_578 (by decide) rfl ?_
  refine r_aload_n h dL_law_580 rfl ?_
  refine w_arg C 1 (by omega) dL_law_581 dL_law_582 dL_law_584 (by decide) dL_law_585 dL_law_586 ?_
  refine r_callV h hMe (rest := []) (as := [k_i (xs (i + 1))]) (oc := .inl (k_mI v, σ2)) (j_X8_addUser la hla G _ 0 (xs (i + 1)) (v, σ2) e2) kl_L_149 dL_law_587 rfl rfl rfl rfl rfl ⟨rfl, rfl, Nat.le_of_ble_eq_true rfl, Nat.le_of_ble_eq_true rfl, by show k + 4 + 0 ≤ 603072; omega, by show n + 313 + 0 ≤ 7198825; omega, Nat.le_of_ble_eq_true rfl⟩ (fun E q => by cases q) (fun r s q => ?_)
  cases q
  show k_W X _ _ _ _ _ [k_i v]
  exact w_tail C ⟨dL_law_590, dL_law_592, dL_law_593, dL_law_596, dL_law_598, dL_law_603, dL_law_605, dL_law_608, dL_law_609, dL_law_610, dL_law_611, dL_law_613, dL_law_614, dL_law_615, dL_law_620, by decide⟩ hth hv ⟨by omega, by omega⟩ K2
theorem w_case_setWeight {X : k_X} {la : Launch} {G : k_G} {σ0 : k_S} {nm : String} {b Ln : Nat} {xs : Nat → Int32} (C : w_C X la G σ0 nm b Ln xs) {σ : k_S} {T k n i : Nat} (hI : q_I T σ σ) (hi : i + 6 ≤ Ln) (hk : k + 12 ≤ 603072) (hn : n + 958 ≤ 7198825)
    (K : ∀ (T : Nat) (σ2 : k_S) (k2 n2 : Nat), q_I T σ2 σ2 → k2 ≤ k + 12 → n2 ≤ n + 958 → k_W X σ2 k2 n2 2111 (w_L b i none none none) []) : k_W X σ k n 623 (w_L b i none none none) [] := by
  obtain ⟨hla, h, hMe, hX, hbl, hbA, hLn⟩ := id C
  obtain ⟨kx, σ1, v, σ2, T2, e1, e2, hth, hv, hI2⟩ := g_setWeight hI (xs (i + 1)) (xs (i + 2))
  have K2 := K T2 σ2 (k + 2 + 0) (n + 12 + 0) hI2 (by omega) (by omega)
  refine r_aload_n h dL_law_623 rfl ?_
  refine w_arg C 1 (by omega) dL_law_624 dL_law_625 dL_law_627 (by decide) dL_law_628 dL_law_629 ?_
  refine w_arg C 2 (by omega) dL_law_630 dL_law_631 dL_law_633 (by decide) dL_law_634 dL_law_635 ?_
  refine r_aload_n h dL_law_636 rfl ?_
  refine r_callSW h hMe (rest := []) (as := [k_p 0 0, k_i (xs (i + 1)), k_i (xs (i + 2)), k_p 18 0]) (oc := .inl (k_mI kx, σ1)) (j_L_setWeight la hla G _ 0 (xs (i + 1)) (xs (i + 2)) 0 (kx, σ1) e1) kl_L_150 dL_law_637 rfl rfl ⟨rfl, rfl, Nat.le_of_ble_eq_true rfl, Nat.le_of_ble_eq_true rfl, by show k + 2 ≤ 603072; omega, by show n + 12 ≤ 7198825; omega, Nat.le_of_ble_eq_true rfl⟩ (fun E q => by cases q) (fun r s q => ?_)
  cases q
  show k_W X _ _ _ _ _ [k_i kx]
  refine r_istore (L' := w_L b i (some (k_i kx)) none none) h dL_law_640 (by decide) rfl ?_
  refine r_aload_n h dL_law_642 rfl ?_
  refine w_arg C 1 (by omega) dL_law_643 dL_law_644 dL_law_646 (by decide) dL_law_647 dL_law_648 ?_
  refine w_arg C 2 (by omega) dL_law_649 dL_law_650 dL_law_652 (by decide) dL_law_653 dL_law_654 ?_
  refine r_callV h hMe (rest := []) (as := [k_i (xs (i + 1)), k_i (xs (i + 2))]) (oc := .inl (k_mI v, σ2)) (j_X8_setWeight la hla G _ 0 (xs (i + 1)) (xs (i + 2)) (v, σ2) e2) kl_L_152 dL_law_655 rfl rfl rfl rfl rfl ⟨rfl, rfl, Nat.le_of_ble_eq_true rfl, Nat.le_of_ble_eq_true rfl, by show k + 2 + 0 ≤ 603072; omega, by show n + 12 + 0 ≤ 7198825; omega, Nat.le_of_ble_eq_true rfl⟩ (fun E q => by cases q) (fun r s q => ?_)
  cases q
  show k_W X _ _ _ _ _ [k_i v]
  exact w_tail C ⟨dL_law_658, dL_law_660, dL_law_661, dL_law_664, dL_law_666, dL_law_671, dL_law_673, dL_law_676, dL_law_677, dL_law_678, dL_law_679, dL_law_681, dL_law_682, dL_law_683, dL_law_688, by decide⟩ hth hv ⟨by omega, by omega⟩ K2
theorem w_case_sanctions {X : k_X} {la : Launch} {G : k_G} {σ0 : k_S} {nm : String} {b Ln : Nat} {xs : Nat → Int32} (C : w_C X la G σ0 nm b Ln xs) {σ : k_S} {T k n i : Nat} (hI : q_I T σ σ) (hi : i + 6 ≤ Ln) (hk : k + 12 ≤ 603072) (hn : n + 958 ≤ 7198825)
    (K : ∀ (T : Nat) (σ2 : k_S) (k2 n2 : Nat), q_I T σ2 σ2 → k2 ≤ k + 12 → n2 ≤ n + 958 → k_W X σ2 k2 n2 2111 (w_L b i none none none) []) : k_W X σ k n 691 (w_L b i none none none) [] := by
  obtain ⟨hla, h, hMe, hX, hbl, hbA, hLn⟩ := id C
  obtain ⟨kx, σ1, v, σ2, T2, e1, e2, hth, hv, hI2⟩ := g_sanctions hI (xs (i + 1))
  have K2 := K T2 σ2 (k + 1 + 0) (n + 6 + 0) hI2 (by omega) (by omega)
  refine r_aload_n h dL_law_691 rfl ?_
  refine w_arg C 1 (by omega) dL_law_692 dL_law_693 dL_law_695 (by decide) dL_law_696 dL_law_697 ?_
  refine r_aload_n h dL_law_698 rfl ?_
  refine r_callSW h hMe (rest := []) (as := [k_p 0 0, k_i (xs (i + 1)), k_p 18 0]) (oc := .inl (k_mI kx, σ1)) (j_L_sanctions la hla G _ 0 (xs (i + 1)) 0 (kx, σ1) e1) kl_L_153 dL_law_699 rfl rfl ⟨rfl, rfl, Nat.le_of_ble_eq_true rfl, Nat.le_of_ble_eq_true rfl, by show k + 1 ≤ 603072; omega, by show n + 6 ≤ 7198825; omega, Nat.le_of_ble_eq_true rfl⟩ (fun E q => by cases q) (fun r s q => ?_)
  cases q
  show k_W X _ _ _ _ _ [k_i kx]
  refine r_istore (L' := w_L b i (some (k_i kx)) none none) h dL_law_702 (by decide) rfl ?_
  refine r_aload_n h dL_law_704 rfl ?_
  refine w_arg C 1 (by omega) dL_law_705 dL_law_706 dL_law_708 (by decide) dL_law_709 dL_law_710 ?_
  refine r_callV h hMe (rest := []) (as := [k_i (xs (i + 1))]) (oc := .inl (k_mI v, σ2)) (j_X8_sanctions la hla G _ 0 (xs (i + 1)) (v, σ2) e2) kl_L_155 dL_law_711 rfl rfl rfl rfl rfl ⟨rfl, rfl, Nat.le_of_ble_eq_true rfl, Nat.le_of_ble_eq_true rfl, by show k + 1 + 0 ≤ 603072; omega, by show n + 6 + 0 ≤ 7198825; omega, Nat.le_of_ble_eq_true rfl⟩ (fun E q => by cases q) (fun r s q => ?_)
  cases q
  show k_W X _ _ _ _ _ [k_i v]
  exact w_tail C ⟨dL_law_714, dL_law_716, dL_law_717, dL_law_720, dL_law_722, dL_law_727, dL_law_729, dL_law_732, dL_law_733, dL_law_734, dL_law_735, dL_law_737, dL_law_738, dL_law_739, dL_law_744, by decide⟩ hth hv ⟨by omega, by omega⟩ K2
theorem w_case_sanctionedUntil {X : k_X} {la : Launch} {G : k_G} {σ0 : k_S} {nm : String} {b Ln : Nat} {xs : Nat → Int32} (C : w_C X la G σ0 nm b Ln xs) {σ : k_S} {T k n i : Nat} (hI : q_I T σ σ) (hi : i + 6 ≤ Ln) (hk : k + 12 ≤ 603072) (hn : n + 958 ≤ 7198825)
    (K : ∀ (T : Nat) (σ2 : k_S) (k2 n2 : Nat), q_I T σ2 σ2 → k2 ≤ k + 12 → n2 ≤ n + 958 → k_W X σ2 k2 n2 2111 (w_L b i none none none) []) : k_W X σ k n 747 (w_L b i none none none) [] := by
  obtain ⟨hla, h, hMe, hX, hbl, hbA, hLn⟩ := id C
  obtain ⟨kx, σ1, v, σ2, T2, e1, e2, hth, hv, hI2⟩ := g_sanctionedUntil hI (xs (i + 1))
  have K2 := K T2 σ2 (k + 2 + 0) (n + 12 + 0) hI2 (by omega) (by omega)
  refine r_aload_n h dL_law_747 rfl ?_
  refine w_arg C 1 (by omega) dL_law_748 dL_law_749 dL_law_751 (by decide) dL_law_752 dL_law_753 ?_
  refine r_aload_n h dL_law_754 rfl ?_
  refine r_callSW h hMe (rest := []) (as := [k_p 0 0, k_i (xs (i + 1)), k_p 18 0]) (oc := .inl (k_mI kx, σ1)) (j_L_sanctionedUntil la hla G _ 0 (xs (i + 1)) 0 (kx, σ1) e1) kl_L_156 dL_law_755 rfl rfl ⟨rfl, rfl, Nat.le_of_ble_eq_true rfl, Nat.le_of_ble_eq_true rfl, by show k + 2 ≤ 603072; omega, by show n + 12 ≤ 7198825; omega, Nat.le_of_ble_eq_true rfl⟩ (fun E q => by cases q) (fun r s q => ?_)
  cases q
  show k_W X _ _ _ _ _ [k_i kx]
  refine r_istore (L' := w_L b i (some (k_i kx)) none none) h dL_law_758 (by decide) rfl ?_
  refine r_aload_n h dL_law_760 rfl ?_
  refine w_arg C 1 (by omega) dL_law_761 dL_law_762 dL_law_764 (by decide) dL_law_765 dL_law_766 ?_
  refine r_callV h hMe (rest := []) (as := [k_i (xs (i + 1))]) (oc := .inl (k_mI v, σ2)) (j_X8_sanctionedUntil la hla G _ 0 (xs (i + 1)) (v, σ2) e2) kl_L_158 dL_law_767 rfl rfl rfl rfl rfl ⟨rfl, rfl, Nat.le_of_ble_eq_true rfl, Nat.le_of_ble_eq_true rfl, by show k + 2 + 0 ≤ 603072; omega, by show n + 12 + 0 ≤ 7198825; omega, Nat.le_of_ble_eq_true rfl⟩ (fun E q => by cases q) (fun r s q => ?_)
  cases q
  show k_W X _ _ _ _ _ [k_i v]
  exact w_tail C ⟨dL_law_770, dL_law_772, dL_law_773, dL_law_776, dL_law_778, dL_law_783, dL_law_785, dL_law_788, dL_law_789, dL_law_790, dL_law_791, dL_law_793, dL_law_794, dL_law_795, dL_law_800, by decide⟩ hth hv ⟨by omega, by omega⟩ K2
theorem w_case_addBot {X : k_X} {la : Launch} {G : k_G} {σ0 : k_S} {nm : String} {b Ln : Nat} {xs : Nat → Int32} (C : w_C X la G σ0 nm b Ln xs) {σ : k_S} {T k n i : Nat} (hI : q_I T σ σ) (hi : i + 6 ≤ Ln) (hk : k + 12 ≤ 603072) (hn : n + 958 ≤ 7198825)
    (K : ∀ (T : Nat) (σ2 : k_S) (k2 n2 : Nat), q_I T σ2 σ2 → k2 ≤ k + 12 → n2 ≤ n + 958 → k_W X σ2 k2 n2 2111 (w_L b i none none none) []) : k_W X σ k n 803 (w_L b i none none none) [] := by
  obtain ⟨hla, h, hMe, hX, hbl, hbA, hLn⟩ := id C
  obtain ⟨kx, σ1, v, σ2, T2, e1, e2, hth, hv, hI2⟩ := g_addBot hI (xs (i + 1)) (xs (i + 2))
  have K2 := K T2 σ2 (k + 5 + 0) (n + 320 + 0) hI2 (by omega) (by omega)
  refine r_aload_n h dL_law_803 rfl ?_
  refine w_arg C 1 (by omega) dL_law_804 dL_law_805 dL_law_807 (by decide) dL_law_808 dL_law_809 ?_
  refine w_arg C 2 (by omega) dL_law_810 dL_law_811 dL_law_813 (by decide) dL_law_814 dL_law_815 ?_
  refine r_aload_n h dL_law_816 rfl ?_
  refine r_callSW h hMe (rest := []) (as := [k_p 0 0, k_i (xs (i + 1)), k_i (xs (i + 2)), k_p 18 0]) (oc := .inl (k_mI kx, σ1)) (j_L_addBot la hla G _ 0 (xs (i + 1)) (xs (i + 2)) 0 (kx, σ1) e1) kl_L_159 dL_law_817 rfl rfl ⟨rfl, rfl, Nat.le_of_ble_eq_true rfl, Nat.le_of_ble_eq_true rfl, by show k + 5 ≤ 603072; omega, by show n + 320 ≤ 7198825; omega, Nat.le_of_ble_eq_true rfl⟩ (fun E q => by cases q) (fun r s q => ?_)
  cases q
  show k_W X _ _ _ _ _ [k_i kx]
  refine r_istore (L' := w_L b i (some (k_i kx)) none none) h dL_law_820 (by decide) rfl ?_
  refine r_aload_n h dL_law_822 rfl ?_
  refine w_arg C 1 (by omega) dL_law_823 dL_law_824 dL_law_826 (by decide) dL_law_827 dL_law_828 ?_
  refine w_arg C 2 (by omega) dL_law_829 dL_law_830 dL_law_832 (by decide) dL_law_833 dL_law_834 ?_
  refine r_callV h hMe (rest := []) (as := [k_i (xs (i + 1)), k_i (xs (i + 2))]) (oc := .inl (k_mI v, σ2)) (j_X8_addBot la hla G _ 0 (xs (i + 1)) (xs (i + 2)) (v, σ2) e2) kl_L_161 dL_law_835 rfl rfl rfl rfl rfl ⟨rfl, rfl, Nat.le_of_ble_eq_true rfl, Nat.le_of_ble_eq_true rfl, by show k + 5 + 0 ≤ 603072; omega, by show n + 320 + 0 ≤ 7198825; omega, Nat.le_of_ble_eq_true rfl⟩ (fun E q => by cases q) (fun r s q => ?_)
  cases q
  show k_W X _ _ _ _ _ [k_i v]
  exact w_tail C ⟨dL_law_838, dL_law_840, dL_law_841, dL_law_844, dL_law_846, dL_law_851, dL_law_853, dL_law_856, dL_law_857, dL_law_858, dL_law_859, dL_law_861, dL_law_862, dL_law_863, dL_law_868, by decide⟩ hth hv ⟨by omega, by omega⟩ K2
theorem w_case_threshold {X : k_X} {la : Launch} {G : k_G} {σ0 : k_S} {nm : String} {b Ln : Nat} {xs : Nat → Int32} (C : w_C X la G σ0 nm b Ln xs) {σ : k_S} {T k n i : Nat} (hI : q_I T σ σ) (hi : i + 6 ≤ Ln) (hk : k + 12 ≤ 603072) (hn : n + 958 ≤ 7198825)
    (K : ∀ (T : Nat) (σ2 : k_S) (k2 n2 : Nat), q_I T σ2 σ2 → k2 ≤ k + 12 → n2 ≤ n + 958 → k_W X σ2 k2 n2 2111 (w_L b i none none none) []) : k_W X σ k n 871 (w_L b i none none none) [] := by
  obtain ⟨hla, h, hMe, hX, hbl, hbA, hLn⟩ := id C
  obtain ⟨kx, σ1, v, σ2, T2, e1, e2, hth, hv, hI2⟩ := g_threshold hI (xs (i + 1))
  have K2 := K T2 σ2 (k + 1 + 0) (n + 6 + 0) hI2 (by omega) (by omega)
  refine r_aload_n h dL_law_871 rfl ?_
  refine w_arg C 1 (by omega) dL_law_872 dL_law_873 dL_law_875 (by decide) dL_law_876 dL_law_877 ?_
  refine r_aload_n h dL_law_878 rfl ?_
  refine r_callSW h hMe (rest := []) (as := [k_p 0 0, k_i (xs (i + 1)), k_p 18 0]) (oc := .inl (k_mI kx, σ1)) (j_L_threshold la hla G _ 0 (xs (i + 1)) 0 (kx, σ1) e1) kl_L_162 dL_law_879 rfl rfl ⟨rfl, rfl, Nat.le_of_ble_eq_true rfl, Nat.le_of_ble_eq_true rfl, by show k + 1 ≤ 603072; omega, by show n + 6 ≤ 7198825; omega, Nat.le_of_ble_eq_true rfl⟩ (fun E q => by cases q) (fun r s q => ?_)
  cases q
  show k_W X _ _ _ _ _ [k_i kx]
  refine r_istore (L' := w_L b i (some (k_i kx)) none none) h dL_law_882 (by decide) rfl ?_
  refine r_aload_n h dL_law_884 rfl ?_
  refine w_arg C 1 (by omega) dL_law_885 dL_law_886 dL_law_888 (by decide) dL_law_889 dL_law_890 ?_
  refine r_callV h hMe (rest := []) (as := [k_i (xs (i + 1))]) (oc := .inl (k_mI v, σ2)) (j_X8_threshold la hla G _ 0 (xs (i + 1)) (v, σ2) e2) kl_L_164 dL_law_891 rfl rfl rfl rfl rfl ⟨rfl, rfl, Nat.le_of_ble_eq_true rfl, Nat.le_of_ble_eq_true rfl, by show k + 1 + 0 ≤ 603072; omega, by show n + 6 + 0 ≤ 7198825; omega, Nat.le_of_ble_eq_true rfl⟩ (fun E q => by cases q) (fun r s q => ?_)
  cases q
  show k_W X _ _ _ _ _ [k_i v]
  exact w_tail C ⟨dL_law_894, dL_law_896, dL_law_897, dL_law_900, dL_law_902, dL_law_907, dL_law_909, dL_law_912, dL_law_913, dL_law_914, dL_law_915, dL_law_917, dL_law_918, dL_law_919, dL_law_924, by decide⟩ hth hv ⟨by omega, by omega⟩ K2
