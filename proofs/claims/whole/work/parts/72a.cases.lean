/-! ===== the law, case by case ===== -/
set_option maxRecDepth 100000 in
set_option maxHeartbeats 4000000 in
theorem lc_0 (g : Geo) {p : Program} (l : Launch) {e : Env} {s : State} {m : MethodId} {args : Array Value} {below : List Frame} {meth : Method} {c : Code} {k0 n0 : Nat} {Q : State → Prop} {b L : Nat} {xs : Nat → Int32} (hl9 : l.stackTraces = false) (X : Cx g p l room_1 s m args meth c cL_law 9 RL wsL_law) (hX : va_X b L xs s s.heap) (hbl : b < s.heap.size) (hbA : ¬ gA g b) (hL : L ≤ 2560) (t : Nat) (ht : 5 * t + 5 ≤ L) {σ : St} (hN : Nx σ) (hk9 : k0 + 5 ≤ 601024) (hn9 : n0 + 30 ≤ 7293034) (kk : ∀ u, Nx u → V g p l e room_1 s m args below meth c 9 (k0 + 5) (n0 + 30) Q u 2387 (lvL g b t) []) : V g p l e room_1 s m args below meth c 9 k0 n0 Q σ 212 (lvL g b t) [] := by
  obtain ⟨n, ty, R, D, h, hU⟩ := id hN
  refine V_lv (lv' := [(0, .ref b), (1, .ref (ga g (0))), (2, .ref (ga g (89))), (3, .ref (ga g (110))), (4, .ref (ga g (111))), (5, .int (iN (5 * (t : Int))))]) rfl ?_
  refine V_aload_n X 1 rfl dL_law_212 rfl ?_
  refine V_aload_n X 3 rfl dL_law_213 rfl ?_
  refine V_callS_Iw X (na := 2) (m_L_track g l hl9 σ h.1 h.c1.1 h.c1.2) gL_law_L_track rfl rfl rfl (by decide +kernel) ⟨Nat.le_of_ble_eq_true rfl, Nat.le_of_ble_eq_true rfl⟩ rfl rfl (Nat.le_of_ble_eq_true rfl) ⟨by show k0 + 1 ≤ 601024; omega, by show n0 + 6 ≤ 7293034; omega⟩ dL_law_214 (fun E u hp => hp.elim) (fun z u zr hz => ?_)
  obtain ⟨f, hq⟩ := q_track  h hU  hz
  refine V_istore X [(6, .int (iN (z))), (0, .ref b), (1, .ref (ga g (0))), (2, .ref (ga g (89))), (3, .ref (ga g (110))), (4, .ref (ga g (111))), (5, .int (iN (5 * (t : Int))))] dL_law_217 (by decide) rfl ?_
  refine V_aload_n X 3 rfl dL_law_219 rfl ?_
  refine V_callV_I X (na := 0) (ci := 7) (b0 := 89) (by decide) (rfl) (by decide) rfl (m_X7_track g l hl9 u f.2 (h.f1 f)) gL_law_X7_track rfl rfl rfl (by decide +kernel) ⟨Nat.le_of_ble_eq_true rfl, Nat.le_of_ble_eq_true rfl⟩ rfl rfl (Nat.le_of_ble_eq_true rfl) ⟨by show k0 + 1 + 0 ≤ 601024; omega, by show n0 + 6 + 0 ≤ 7293034; omega⟩ dL_law_220 (fun b9 y9 br hy => ?_)
  obtain ⟨e1, e2, e3⟩ := hq b9 y9 hy
  refine V_istore X [(7, .int (iN (b9))), (6, .int (iN (z))), (0, .ref b), (1, .ref (ga g (0))), (2, .ref (ga g (89))), (3, .ref (ga g (110))), (4, .ref (ga g (111))), (5, .int (iN (5 * (t : Int))))] dL_law_223 (by decide) rfl ?_
  refine V_aload_n X 4 rfl dL_law_225 rfl ?_
  refine V_callV_I X (na := 0) (ci := 7) (b0 := 89) (by decide) (rfl) (by decide) rfl (m_X7_thrown g l hl9 y9 e3.rg) gL_law_X7_thrown rfl rfl rfl (by decide +kernel) ⟨Nat.le_of_ble_eq_true rfl, Nat.le_of_ble_eq_true rfl⟩ rfl rfl (Nat.le_of_ble_eq_true rfl) ⟨by show k0 + 1 + 0 + 0 ≤ 601024; omega, by show n0 + 6 + 0 + 0 ≤ 7293034; omega⟩ dL_law_226 (fun z3 u3 z3r h3 => ?_)
  obtain ⟨h3a, h3b⟩ := h3
  have h3b := h3b.symm
  subst h3b
  refine V_iload X 1 rfl dL_law_229 ?_
  refine V_icmp_eq X 236 z3r zr dL_law_231 (by decide) (fun _ => ?_) (fun h9 => absurd (h3a.trans e1) h9)
  refine V_iload X 1 rfl dL_law_236 ?_
  refine V_if_ne X 253 zr dL_law_238 (by decide) (fun hz9 => ?_) (fun hz9 => ?_)
  · skip
    refine V_goto X 2387 dL_law_253 (by decide) ?_
    refine V_sub (lv' := [(0, .ref b), (1, .ref (ga g (0))), (2, .ref (ga g (89))), (3, .ref (ga g (110))), (4, .ref (ga g (111))), (5, .int (iN (5 * (t : Int))))]) [2, 3, 4, 5, 6, 7] rfl ?_
    exact V_widen (by omega) (by omega) (kk _ e3)
  · skip
    refine V_aload_n X 5 rfl dL_law_241 rfl ?_
    refine V_iconst X dL_law_242 ?_
    refine V_laload X dL_law_243 ?_
    refine V_topl (b := b9) (e2 hz9) ?_
    refine V_iload X 0 rfl dL_law_244 ?_
    refine V_i2l X br dL_law_246 ?_
    refine V_lcmpE X dL_law_247 ?_
    refine V_if_eq X 253 ⟨by decide, by decide⟩ dL_law_248 (by decide) (fun _ => ?_) (fun h9 => absurd h9 (by decide))
    refine V_goto X 2387 dL_law_253 (by decide) ?_
    refine V_sub (lv' := [(0, .ref b), (1, .ref (ga g (0))), (2, .ref (ga g (89))), (3, .ref (ga g (110))), (4, .ref (ga g (111))), (5, .int (iN (5 * (t : Int))))]) [2, 3, 4, 5, 6, 7] rfl ?_
    exact V_widen (by omega) (by omega) (kk _ e3)
set_option maxRecDepth 100000 in
set_option maxHeartbeats 4000000 in
theorem lc_1 (g : Geo) {p : Program} (l : Launch) {e : Env} {s : State} {m : MethodId} {args : Array Value} {below : List Frame} {meth : Method} {c : Code} {k0 n0 : Nat} {Q : State → Prop} {b L : Nat} {xs : Nat → Int32} (hl9 : l.stackTraces = false) (X : Cx g p l room_1 s m args meth c cL_law 9 RL wsL_law) (hX : va_X b L xs s s.heap) (hbl : b < s.heap.size) (hbA : ¬ gA g b) (hL : L ≤ 2560) (t : Nat) (ht : 5 * t + 5 ≤ L) {σ : St} (hN : Nx σ) (hk9 : k0 + 5 ≤ 601024) (hn9 : n0 + 30 ≤ 7293034) (kk : ∀ u, Nx u → V g p l e room_1 s m args below meth c 9 (k0 + 5) (n0 + 30) Q u 2387 (lvL g b t) []) : V g p l e room_1 s m args below meth c 9 k0 n0 Q σ 256 (lvL g b t) [] := by
  obtain ⟨n, ty, R, D, h, hU⟩ := id hN
  refine V_lv (lv' := [(0, .ref b), (1, .ref (ga g (0))), (2, .ref (ga g (89))), (3, .ref (ga g (110))), (4, .ref (ga g (111))), (5, .int (iN (5 * (t : Int))))]) rfl ?_
  refine V_aload_n X 1 rfl dL_law_256 rfl ?_
  refine V_aload_n X 0 rfl dL_law_257 rfl ?_
  refine V_iload X 5 rfl dL_law_258 ?_
  refine V_iconst X dL_law_260 ?_
  refine V_iadd X dL_law_261 ?_
  refine V_sld X hX hbl hbA (5 * t + 1) (by omega) (by omega) (by omega) dL_law_262 ?_
  refine V_aload_n X 0 rfl dL_law_263 rfl ?_
  refine V_iload X 5 rfl dL_law_264 ?_
  refine V_iconst X dL_law_266 ?_
  refine V_iadd X dL_law_267 ?_
  refine V_sld X hX hbl hbA (5 * t + 2) (by omega) (by omega) (by omega) dL_law_268 ?_
  refine V_aload_n X 0 rfl dL_law_269 rfl ?_
  refine V_iload X 5 rfl dL_law_270 ?_
  refine V_iconst X dL_law_272 ?_
  refine V_iadd X dL_law_273 ?_
  refine V_sld X hX hbl hbA (5 * t + 3) (by omega) (by omega) (by omega) dL_law_274 ?_
  refine V_aload_n X 3 rfl dL_law_275 rfl ?_
  refine V_callS_Iw X (na := 5) (m_L_stretch g l hl9 σ h.1 ((xs (5 * t + 1)).toInt) ((xs (5 * t + 2)).toInt) ((xs (5 * t + 3)).toInt) (R32_toI _) (R32_toI _) (R32_toI _) h.c1.2 h.Tk) gL_law_L_stretch rfl rfl rfl (by decide +kernel) ⟨Nat.le_of_ble_eq_true rfl, Nat.le_of_ble_eq_true rfl⟩ rfl rfl (Nat.le_of_ble_eq_true rfl) ⟨by show k0 + 2 ≤ 601024; omega, by show n0 + 12 ≤ 7293034; omega⟩ dL_law_276 (fun E u hp => hp.elim) (fun z u zr hz => ?_)
  obtain ⟨f, hq⟩ := q_stretch ((xs (5 * t + 1)).toInt) ((xs (5 * t + 2)).toInt) ((xs (5 * t + 3)).toInt) h hU  hz
  refine V_istore X [(6, .int (iN (z))), (0, .ref b), (1, .ref (ga g (0))), (2, .ref (ga g (89))), (3, .ref (ga g (110))), (4, .ref (ga g (111))), (5, .int (iN (5 * (t : Int))))] dL_law_279 (by decide) rfl ?_
  refine V_aload_n X 3 rfl dL_law_281 rfl ?_
  refine V_aload_n X 1 rfl dL_law_282 rfl ?_
  refine V_iload X 6 rfl dL_law_283 ?_
  refine V_iconst X dL_law_285 ?_
  refine V_iadd X dL_law_286 ?_
  refine V_sld X hX hbl hbA (5 * t + 1) (by omega) (by omega) (by omega) dL_law_287 ?_
  refine V_aload_n X 1 rfl dL_law_288 rfl ?_
  refine V_iload X 6 rfl dL_law_289 ?_
  refine V_iconst X dL_law_291 ?_
  refine V_iadd X dL_law_292 ?_
  refine V_sld X hX hbl hbA (5 * t + 2) (by omega) (by omega) (by omega) dL_law_293 ?_
  refine V_aload_n X 1 rfl dL_law_294 rfl ?_
  refine V_iload X 6 rfl dL_law_295 ?_
  refine V_iconst X dL_law_297 ?_
  refine V_iadd X dL_law_298 ?_
  refine V_sld X hX hbl hbA (5 * t + 3) (by omega) (by omega) (by omega) dL_law_299 ?_
  refine V_callV_I X (na := 3) (ci := 7) (b0 := 89) (by decide) (rfl) (by decide) rfl (m_X7_stretch g l hl9 u f.2 (f.TM h.2.2.1.1) (h.f1 f) n (h.f11 f) h.n30 ((xs (5 * t + 1)).toInt) ((xs (5 * t + 2)).toInt) ((xs (5 * t + 3)).toInt) (R32_toI _) (R32_toI _) (R32_toI _)) gL_law_X7_stretch rfl rfl rfl (by decide +kernel) ⟨Nat.le_of_ble_eq_true rfl, Nat.le_of_ble_eq_true rfl⟩ rfl rfl (Nat.le_of_ble_eq_true rfl) ⟨by show k0 + 2 + 0 ≤ 601024; omega, by show n0 + 12 + 0 ≤ 7293034; omega⟩ dL_law_300 (fun b9 y9 br hy => ?_)
  obtain ⟨e1, e2, e3⟩ := hq b9 y9 hy
  refine V_istore X [(7, .int (iN (b9))), (6, .int (iN (z))), (0, .ref b), (1, .ref (ga g (0))), (2, .ref (ga g (89))), (3, .ref (ga g (110))), (4, .ref (ga g (111))), (5, .int (iN (5 * (t : Int))))] dL_law_303 (by decide) rfl ?_
  refine V_aload_n X 4 rfl dL_law_305 rfl ?_
  refine V_callV_I X (na := 0) (ci := 7) (b0 := 89) (by decide) (rfl) (by decide) rfl (m_X7_thrown g l hl9 y9 e3.rg) gL_law_X7_thrown rfl rfl rfl (by decide +kernel) ⟨Nat.le_of_ble_eq_true rfl, Nat.le_of_ble_eq_true rfl⟩ rfl rfl (Nat.le_of_ble_eq_true rfl) ⟨by show k0 + 2 + 0 + 0 ≤ 601024; omega, by show n0 + 12 + 0 + 0 ≤ 7293034; omega⟩ dL_law_306 (fun z3 u3 z3r h3 => ?_)
  obtain ⟨h3a, h3b⟩ := h3
  have h3b := h3b.symm
  subst h3b
  refine V_iload X 1 rfl dL_law_309 ?_
  refine V_icmp_eq X 316 z3r zr dL_law_311 (by decide) (fun _ => ?_) (fun h9 => absurd (h3a.trans e1) h9)
  refine V_iload X 1 rfl dL_law_316 ?_
  refine V_if_ne X 333 zr dL_law_318 (by decide) (fun hz9 => ?_) (fun hz9 => ?_)
  · skip
    refine V_goto X 2387 dL_law_333 (by decide) ?_
    refine V_sub (lv' := [(0, .ref b), (1, .ref (ga g (0))), (2, .ref (ga g (89))), (3, .ref (ga g (110))), (4, .ref (ga g (111))), (5, .int (iN (5 * (t : Int))))]) [2, 3, 4, 5, 6, 7] rfl ?_
    exact V_widen (by omega) (by omega) (kk _ e3)
  · skip
    refine V_aload_n X 5 rfl dL_law_321 rfl ?_
    refine V_iconst X dL_law_322 ?_
    refine V_laload X dL_law_323 ?_
    refine V_topl (b := b9) (e2 hz9) ?_
    refine V_iload X 0 rfl dL_law_324 ?_
    refine V_i2l X br dL_law_326 ?_
    refine V_lcmpE X dL_law_327 ?_
    refine V_if_eq X 333 ⟨by decide, by decide⟩ dL_law_328 (by decide) (fun _ => ?_) (fun h9 => absurd h9 (by decide))
    refine V_goto X 2387 dL_law_333 (by decide) ?_
    refine V_sub (lv' := [(0, .ref b), (1, .ref (ga g (0))), (2, .ref (ga g (89))), (3, .ref (ga g (110))), (4, .ref (ga g (111))), (5, .int (iN (5 * (t : Int))))]) [2, 3, 4, 5, 6, 7] rfl ?_
    exact V_widen (by omega) (by omega) (kk _ e3)
set_option maxRecDepth 100000 in
set_option maxHeartbeats 4000000 in
theorem lc_2 (g : Geo) {p : Program} (l : Launch) {e : Env} {s : State} {m : MethodId} {args : Array Value} {below : List Frame} {meth : Method} {c : Code} {k0 n0 : Nat} {Q : State → Prop} {b L : Nat} {xs : Nat → Int32} (hl9 : l.stackTraces = false) (X : Cx g p l room_1 s m args meth c cL_law 9 RL wsL_law) (hX : va_X b L xs s s.heap) (hbl : b < s.heap.size) (hbA : ¬ gA g b) (hL : L ≤ 2560) (t : Nat) (ht : 5 * t + 5 ≤ L) {σ : St} (hN : Nx σ) (hk9 : k0 + 5 ≤ 601024) (hn9 : n0 + 30 ≤ 7293034) (kk : ∀ u, Nx u → V g p l e room_1 s m args below meth c 9 (k0 + 5) (n0 + 30) Q u 2387 (lvL g b t) []) : V g p l e room_1 s m args below meth c 9 k0 n0 Q σ 336 (lvL g b t) [] := by
  obtain ⟨n, ty, R, D, h, hU⟩ := id hN
  refine V_lv (lv' := [(0, .ref b), (1, .ref (ga g (0))), (2, .ref (ga g (89))), (3, .ref (ga g (110))), (4, .ref (ga g (111))), (5, .int (iN (5 * (t : Int))))]) rfl ?_
  refine V_aload_n X 1 rfl dL_law_336 rfl ?_
  refine V_aload_n X 0 rfl dL_law_337 rfl ?_
  refine V_iload X 5 rfl dL_law_338 ?_
  refine V_iconst X dL_law_340 ?_
  refine V_iadd X dL_law_341 ?_
  refine V_sld X hX hbl hbA (5 * t + 1) (by omega) (by omega) (by omega) dL_law_342 ?_
  refine V_aload_n X 0 rfl dL_law_343 rfl ?_
  refine V_iload X 5 rfl dL_law_344 ?_
  refine V_iconst X dL_law_346 ?_
  refine V_iadd X dL_law_347 ?_
  refine V_sld X hX hbl hbA (5 * t + 2) (by omega) (by omega) (by omega) dL_law_348 ?_
  refine V_aload_n X 0 rfl dL_law_349 rfl ?_
  refine V_iload X 5 rfl dL_law_350 ?_
  refine V_iconst X dL_law_352 ?_
  refine V_iadd X dL_law_353 ?_
  refine V_sld X hX hbl hbA (5 * t + 3) (by omega) (by omega) (by omega) dL_law_354 ?_
  refine V_aload_n X 3 rfl dL_law_355 rfl ?_
  refine V_callS_Iw X (na := 5) (m_L_car g l hl9 σ h.1 ((xs (5 * t + 1)).toInt) ((xs (5 * t + 2)).toInt) ((xs (5 * t + 3)).toInt) (R32_toI _) (R32_toI _) (R32_toI _) (σ.1 89 5).toNat h.cc0) gL_law_L_car rfl rfl rfl (by decide +kernel) ⟨Nat.le_of_ble_eq_true rfl, Nat.le_of_ble_eq_true rfl⟩ rfl rfl (Nat.le_of_ble_eq_true rfl) ⟨by show k0 + 1 ≤ 601024; omega, by show n0 + 6 ≤ 7293034; omega⟩ dL_law_356 (fun E u hp => hp.elim) (fun z u zr hz => ?_)
  obtain ⟨f, hq⟩ := q_car ((xs (5 * t + 1)).toInt) ((xs (5 * t + 2)).toInt) ((xs (5 * t + 3)).toInt) h hU  hz
  refine V_istore X [(6, .int (iN (z))), (0, .ref b), (1, .ref (ga g (0))), (2, .ref (ga g (89))), (3, .ref (ga g (110))), (4, .ref (ga g (111))), (5, .int (iN (5 * (t : Int))))] dL_law_359 (by decide) rfl ?_
  refine V_aload_n X 3 rfl dL_law_361 rfl ?_
  refine V_aload_n X 1 rfl dL_law_362 rfl ?_
  refine V_iload X 6 rfl dL_law_363 ?_
  refine V_iconst X dL_law_365 ?_
  refine V_iadd X dL_law_366 ?_
  refine V_sld X hX hbl hbA (5 * t + 1) (by omega) (by omega) (by omega) dL_law_367 ?_
  refine V_aload_n X 1 rfl dL_law_368 rfl ?_
  refine V_iload X 6 rfl dL_law_369 ?_
  refine V_iconst X dL_law_371 ?_
  refine V_iadd X dL_law_372 ?_
  refine V_sld X hX hbl hbA (5 * t + 2) (by omega) (by omega) (by omega) dL_law_373 ?_
  refine V_aload_n X 1 rfl dL_law_374 rfl ?_
  refine V_iload X 6 rfl dL_law_375 ?_
  refine V_iconst X dL_law_377 ?_
  refine V_iadd X dL_law_378 ?_
  refine V_sld X hX hbl hbA (5 * t + 3) (by omega) (by omega) (by omega) dL_law_379 ?_
  refine V_callV_I X (na := 3) (ci := 7) (b0 := 89) (by decide) (rfl) (by decide) rfl (m_X7_car g l hl9 u f.2 (h.f5 f) ((xs (5 * t + 1)).toInt) ((xs (5 * t + 2)).toInt) ((xs (5 * t + 3)).toInt) (R32_toI _) (R32_toI _) (R32_toI _) (σ.1 89 5).toNat (h.fc0 f)) gL_law_X7_car rfl rfl rfl (by decide +kernel) ⟨Nat.le_of_ble_eq_true rfl, Nat.le_of_ble_eq_true rfl⟩ rfl rfl (Nat.le_of_ble_eq_true rfl) ⟨by show k0 + 1 + 0 ≤ 601024; omega, by show n0 + 6 + 0 ≤ 7293034; omega⟩ dL_law_380 (fun b9 y9 br hy => ?_)
  obtain ⟨e1, e2, e3⟩ := hq b9 y9 hy
  refine V_istore X [(7, .int (iN (b9))), (6, .int (iN (z))), (0, .ref b), (1, .ref (ga g (0))), (2, .ref (ga g (89))), (3, .ref (ga g (110))), (4, .ref (ga g (111))), (5, .int (iN (5 * (t : Int))))] dL_law_383 (by decide) rfl ?_
  refine V_aload_n X 4 rfl dL_law_385 rfl ?_
  refine V_callV_I X (na := 0) (ci := 7) (b0 := 89) (by decide) (rfl) (by decide) rfl (m_X7_thrown g l hl9 y9 e3.rg) gL_law_X7_thrown rfl rfl rfl (by decide +kernel) ⟨Nat.le_of_ble_eq_true rfl, Nat.le_of_ble_eq_true rfl⟩ rfl rfl (Nat.le_of_ble_eq_true rfl) ⟨by show k0 + 1 + 0 + 0 ≤ 601024; omega, by show n0 + 6 + 0 + 0 ≤ 7293034; omega⟩ dL_law_386 (fun z3 u3 z3r h3 => ?_)
  obtain ⟨h3a, h3b⟩ := h3
  have h3b := h3b.symm
  subst h3b
  refine V_iload X 1 rfl dL_law_389 ?_
  refine V_icmp_eq X 396 z3r zr dL_law_391 (by decide) (fun _ => ?_) (fun h9 => absurd (h3a.trans e1) h9)
  refine V_iload X 1 rfl dL_law_396 ?_
  refine V_if_ne X 413 zr dL_law_398 (by decide) (fun hz9 => ?_) (fun hz9 => ?_)
  · skip
    refine V_goto X 2387 dL_law_413 (by decide) ?_
    refine V_sub (lv' := [(0, .ref b), (1, .ref (ga g (0))), (2, .ref (ga g (89))), (3, .ref (ga g (110))), (4, .ref (ga g (111))), (5, .int (iN (5 * (t : Int))))]) [2, 3, 4, 5, 6, 7] rfl ?_
    exact V_widen (by omega) (by omega) (kk _ e3)
  · skip
    refine V_aload_n X 5 rfl dL_law_401 rfl ?_
    refine V_iconst X dL_law_402 ?_
    refine V_laload X dL_law_403 ?_
    refine V_topl (b := b9) (e2 hz9) ?_
    refine V_iload X 0 rfl dL_law_404 ?_
    refine V_i2l X br dL_law_406 ?_
    refine V_lcmpE X dL_law_407 ?_
    refine V_if_eq X 413 ⟨by decide, by decide⟩ dL_law_408 (by decide) (fun _ => ?_) (fun h9 => absurd h9 (by decide))
    refine V_goto X 2387 dL_law_413 (by decide) ?_
    refine V_sub (lv' := [(0, .ref b), (1, .ref (ga g (0))), (2, .ref (ga g (89))), (3, .ref (ga g (110))), (4, .ref (ga g (111))), (5, .int (iN (5 * (t : Int))))]) [2, 3, 4, 5, 6, 7] rfl ?_
    exact V_widen (by omega) (by omega) (kk _ e3)
set_option maxRecDepth 100000 in
set_option maxHeartbeats 4000000 in
theorem lc_3 (g : Geo) {p : Program} (l : Launch) {e : Env} {s : State} {m : MethodId} {args : Array Value} {below : List Frame} {meth : Method} {c : Code} {k0 n0 : Nat} {Q : State → Prop} {b L : Nat} {xs : Nat → Int32} (hl9 : l.stackTraces = false) (X : Cx g p l room_1 s m args meth c cL_law 9 RL wsL_law) (hX : va_X b L xs s s.heap) (hbl : b < s.heap.size) (hbA : ¬ gA g b) (hL : L ≤ 2560) (t : Nat) (ht : 5 * t + 5 ≤ L) {σ : St} (hN : Nx σ) (hk9 : k0 + 5 ≤ 601024) (hn9 : n0 + 30 ≤ 7293034) (kk : ∀ u, Nx u → V g p l e room_1 s m args below meth c 9 (k0 + 5) (n0 + 30) Q u 2387 (lvL g b t) []) : V g p l e room_1 s m args below meth c 9 k0 n0 Q σ 416 (lvL g b t) [] := by
  obtain ⟨n, ty, R, D, h, hU⟩ := id hN
  refine V_lv (lv' := [(0, .ref b), (1, .ref (ga g (0))), (2, .ref (ga g (89))), (3, .ref (ga g (110))), (4, .ref (ga g (111))), (5, .int (iN (5 * (t : Int))))]) rfl ?_
  refine V_aload_n X 1 rfl dL_law_416 rfl ?_
  refine V_aload_n X 0 rfl dL_law_417 rfl ?_
  refine V_iload X 5 rfl dL_law_418 ?_
  refine V_iconst X dL_law_420 ?_
  refine V_iadd X dL_law_421 ?_
  refine V_sld X hX hbl hbA (5 * t + 1) (by omega) (by omega) (by omega) dL_law_422 ?_
  refine V_aload_n X 3 rfl dL_law_423 rfl ?_
  refine V_callS_Iw X (na := 3) (m_L_lengthOf g l hl9 σ h.1 ((xs (5 * t + 1)).toInt) (R32_toI _) h.c1.2) gL_law_L_lengthOf rfl rfl rfl (by decide +kernel) ⟨Nat.le_of_ble_eq_true rfl, Nat.le_of_ble_eq_true rfl⟩ rfl rfl (Nat.le_of_ble_eq_true rfl) ⟨by show k0 + 1 ≤ 601024; omega, by show n0 + 6 ≤ 7293034; omega⟩ dL_law_424 (fun E u hp => hp.elim) (fun z u zr hz => ?_)
  obtain ⟨f, hq⟩ := q_lengthOf ((xs (5 * t + 1)).toInt) h hU  hz
  refine V_istore X [(6, .int (iN (z))), (0, .ref b), (1, .ref (ga g (0))), (2, .ref (ga g (89))), (3, .ref (ga g (110))), (4, .ref (ga g (111))), (5, .int (iN (5 * (t : Int))))] dL_law_427 (by decide) rfl ?_
  refine V_aload_n X 3 rfl dL_law_429 rfl ?_
  refine V_aload_n X 1 rfl dL_law_430 rfl ?_
  refine V_iload X 6 rfl dL_law_431 ?_
  refine V_iconst X dL_law_433 ?_
  refine V_iadd X dL_law_434 ?_
  refine V_sld X hX hbl hbA (5 * t + 1) (by omega) (by omega) (by omega) dL_law_435 ?_
  refine V_callV_I X (na := 1) (ci := 7) (b0 := 89) (by decide) (rfl) (by decide) rfl (m_X7_lengthOf g l hl9 u f.2 (f.TM h.2.2.1.1) (h.f1 f) ((xs (5 * t + 1)).toInt) (R32_toI _)) gL_law_X7_lengthOf rfl rfl rfl (by decide +kernel) ⟨Nat.le_of_ble_eq_true rfl, Nat.le_of_ble_eq_true rfl⟩ rfl rfl (Nat.le_of_ble_eq_true rfl) ⟨by show k0 + 1 + 0 ≤ 601024; omega, by show n0 + 6 + 0 ≤ 7293034; omega⟩ dL_law_436 (fun b9 y9 br hy => ?_)
  obtain ⟨e1, e2, e3⟩ := hq b9 y9 hy
  refine V_istore X [(7, .int (iN (b9))), (6, .int (iN (z))), (0, .ref b), (1, .ref (ga g (0))), (2, .ref (ga g (89))), (3, .ref (ga g (110))), (4, .ref (ga g (111))), (5, .int (iN (5 * (t : Int))))] dL_law_439 (by decide) rfl ?_
  refine V_aload_n X 4 rfl dL_law_441 rfl ?_
  refine V_callV_I X (na := 0) (ci := 7) (b0 := 89) (by decide) (rfl) (by decide) rfl (m_X7_thrown g l hl9 y9 e3.rg) gL_law_X7_thrown rfl rfl rfl (by decide +kernel) ⟨Nat.le_of_ble_eq_true rfl, Nat.le_of_ble_eq_true rfl⟩ rfl rfl (Nat.le_of_ble_eq_true rfl) ⟨by show k0 + 1 + 0 + 0 ≤ 601024; omega, by show n0 + 6 + 0 + 0 ≤ 7293034; omega⟩ dL_law_442 (fun z3 u3 z3r h3 => ?_)
  obtain ⟨h3a, h3b⟩ := h3
  have h3b := h3b.symm
  subst h3b
  refine V_iload X 1 rfl dL_law_445 ?_
  refine V_icmp_eq X 452 z3r zr dL_law_447 (by decide) (fun _ => ?_) (fun h9 => absurd (h3a.trans e1) h9)
  refine V_iload X 1 rfl dL_law_452 ?_
  refine V_if_ne X 469 zr dL_law_454 (by decide) (fun hz9 => ?_) (fun hz9 => ?_)
  · skip
    refine V_goto X 2387 dL_law_469 (by decide) ?_
    refine V_sub (lv' := [(0, .ref b), (1, .ref (ga g (0))), (2, .ref (ga g (89))), (3, .ref (ga g (110))), (4, .ref (ga g (111))), (5, .int (iN (5 * (t : Int))))]) [2, 3, 4, 5, 6, 7] rfl ?_
    exact V_widen (by omega) (by omega) (kk _ e3)
  · skip
    refine V_aload_n X 5 rfl dL_law_457 rfl ?_
    refine V_iconst X dL_law_458 ?_
    refine V_laload X dL_law_459 ?_
    refine V_topl (b := b9) (e2 hz9) ?_
    refine V_iload X 0 rfl dL_law_460 ?_
    refine V_i2l X br dL_law_462 ?_
    refine V_lcmpE X dL_law_463 ?_
    refine V_if_eq X 469 ⟨by decide, by decide⟩ dL_law_464 (by decide) (fun _ => ?_) (fun h9 => absurd h9 (by decide))
    refine V_goto X 2387 dL_law_469 (by decide) ?_
    refine V_sub (lv' := [(0, .ref b), (1, .ref (ga g (0))), (2, .ref (ga g (89))), (3, .ref (ga g (110))), (4, .ref (ga g (111))), (5, .int (iN (5 * (t : Int))))]) [2, 3, 4, 5, 6, 7] rfl ?_
    exact V_widen (by omega) (by omega) (kk _ e3)
set_option maxRecDepth 100000 in
set_option maxHeartbeats 4000000 in
theorem lc_4 (g : Geo) {p : Program} (l : Launch) {e : Env} {s : State} {m : MethodId} {args : Array Value} {below : List Frame} {meth : Method} {c : Code} {k0 n0 : Nat} {Q : State → Prop} {b L : Nat} {xs : Nat → Int32} (hl9 : l.stackTraces = false) (X : Cx g p l room_1 s m args meth c cL_law 9 RL wsL_law) (hX : va_X b L xs s s.heap) (hbl : b < s.heap.size) (hbA : ¬ gA g b) (hL : L ≤ 2560) (t : Nat) (ht : 5 * t + 5 ≤ L) {σ : St} (hN : Nx σ) (hk9 : k0 + 5 ≤ 601024) (hn9 : n0 + 30 ≤ 7293034) (kk : ∀ u, Nx u → V g p l e room_1 s m args below meth c 9 (k0 + 5) (n0 + 30) Q u 2387 (lvL g b t) []) : V g p l e room_1 s m args below meth c 9 k0 n0 Q σ 472 (lvL g b t) [] := by
  obtain ⟨n, ty, R, D, h, hU⟩ := id hN
  refine V_lv (lv' := [(0, .ref b), (1, .ref (ga g (0))), (2, .ref (ga g (89))), (3, .ref (ga g (110))), (4, .ref (ga g (111))), (5, .int (iN (5 * (t : Int))))]) rfl ?_
  refine V_aload_n X 1 rfl dL_law_472 rfl ?_
  refine V_aload_n X 0 rfl dL_law_473 rfl ?_
  refine V_iload X 5 rfl dL_law_474 ?_
  refine V_iconst X dL_law_476 ?_
  refine V_iadd X dL_law_477 ?_
  refine V_sld X hX hbl hbA (5 * t + 1) (by omega) (by omega) (by omega) dL_law_478 ?_
  refine V_aload_n X 0 rfl dL_law_479 rfl ?_
  refine V_iload X 5 rfl dL_law_480 ?_
  refine V_iconst X dL_law_482 ?_
  refine V_iadd X dL_law_483 ?_
  refine V_sld X hX hbl hbA (5 * t + 2) (by omega) (by omega) (by omega) dL_law_484 ?_
  refine V_aload_n X 3 rfl dL_law_485 rfl ?_
  refine V_callS_Iw X (na := 4) (m_L_limitAt g l hl9 σ h.1 ((xs (5 * t + 1)).toInt) ((xs (5 * t + 2)).toInt) (R32_toI _) (R32_toI _) h.c1.2 h.t2) gL_law_L_limitAt rfl rfl rfl (by decide +kernel) ⟨Nat.le_of_ble_eq_true rfl, Nat.le_of_ble_eq_true rfl⟩ rfl rfl (Nat.le_of_ble_eq_true rfl) ⟨by show k0 + 2 ≤ 601024; omega, by show n0 + 12 ≤ 7293034; omega⟩ dL_law_486 (fun E u hp => hp.elim) (fun z u zr hz => ?_)
  obtain ⟨f, hq⟩ := q_limitAt ((xs (5 * t + 1)).toInt) ((xs (5 * t + 2)).toInt) h hU  hz
  refine V_istore X [(6, .int (iN (z))), (0, .ref b), (1, .ref (ga g (0))), (2, .ref (ga g (89))), (3, .ref (ga g (110))), (4, .ref (ga g (111))), (5, .int (iN (5 * (t : Int))))] dL_law_489 (by decide) rfl ?_
  refine V_aload_n X 3 rfl dL_law_491 rfl ?_
  refine V_aload_n X 1 rfl dL_law_492 rfl ?_
  refine V_iload X 6 rfl dL_law_493 ?_
  refine V_iconst X dL_law_495 ?_
  refine V_iadd X dL_law_496 ?_
  refine V_sld X hX hbl hbA (5 * t + 1) (by omega) (by omega) (by omega) dL_law_497 ?_
  refine V_aload_n X 1 rfl dL_law_498 rfl ?_
  refine V_iload X 6 rfl dL_law_499 ?_
  refine V_iconst X dL_law_501 ?_
  refine V_iadd X dL_law_502 ?_
  refine V_sld X hX hbl hbA (5 * t + 2) (by omega) (by omega) (by omega) dL_law_503 ?_
  refine V_callV_I X (na := 2) (ci := 7) (b0 := 89) (by decide) (rfl) (by decide) rfl (m_X7_limitAt g l hl9 u f.2 (f.TM h.2.2.1.1) (h.f1 f) ((xs (5 * t + 1)).toInt) ((xs (5 * t + 2)).toInt) (R32_toI _) (R32_toI _)) gL_law_X7_limitAt rfl rfl rfl (by decide +kernel) ⟨Nat.le_of_ble_eq_true rfl, Nat.le_of_ble_eq_true rfl⟩ rfl rfl (Nat.le_of_ble_eq_true rfl) ⟨by show k0 + 2 + 0 ≤ 601024; omega, by show n0 + 12 + 0 ≤ 7293034; omega⟩ dL_law_504 (fun b9 y9 br hy => ?_)
  obtain ⟨e1, e2, e3⟩ := hq b9 y9 hy
  refine V_istore X [(7, .int (iN (b9))), (6, .int (iN (z))), (0, .ref b), (1, .ref (ga g (0))), (2, .ref (ga g (89))), (3, .ref (ga g (110))), (4, .ref (ga g (111))), (5, .int (iN (5 * (t : Int))))] dL_law_507 (by decide) rfl ?_
  refine V_aload_n X 4 rfl dL_law_509 rfl ?_
  refine V_callV_I X (na := 0) (ci := 7) (b0 := 89) (by decide) (rfl) (by decide) rfl (m_X7_thrown g l hl9 y9 e3.rg) gL_law_X7_thrown rfl rfl rfl (by decide +kernel) ⟨Nat.le_of_ble_eq_true rfl, Nat.le_of_ble_eq_true rfl⟩ rfl rfl (Nat.le_of_ble_eq_true rfl) ⟨by show k0 + 2 + 0 + 0 ≤ 601024; omega, by show n0 + 12 + 0 + 0 ≤ 7293034; omega⟩ dL_law_510 (fun z3 u3 z3r h3 => ?_)
  obtain ⟨h3a, h3b⟩ := h3
  have h3b := h3b.symm
  subst h3b
  refine V_iload X 1 rfl dL_law_513 ?_
  refine V_icmp_eq X 520 z3r zr dL_law_515 (by decide) (fun _ => ?_) (fun h9 => absurd (h3a.trans e1) h9)
  refine V_iload X 1 rfl dL_law_520 ?_
  refine V_if_ne X 537 zr dL_law_522 (by decide) (fun hz9 => ?_) (fun hz9 => ?_)
  · skip
    refine V_goto X 2387 dL_law_537 (by decide) ?_
    refine V_sub (lv' := [(0, .ref b), (1, .ref (ga g (0))), (2, .ref (ga g (89))), (3, .ref (ga g (110))), (4, .ref (ga g (111))), (5, .int (iN (5 * (t : Int))))]) [2, 3, 4, 5, 6, 7] rfl ?_
    exact V_widen (by omega) (by omega) (kk _ e3)
  · skip
    refine V_aload_n X 5 rfl dL_law_525 rfl ?_
    refine V_iconst X dL_law_526 ?_
    refine V_laload X dL_law_527 ?_
    refine V_topl (b := b9) (e2 hz9) ?_
    refine V_iload X 0 rfl dL_law_528 ?_
    refine V_i2l X br dL_law_530 ?_
    refine V_lcmpE X dL_law_531 ?_
    refine V_if_eq X 537 ⟨by decide, by decide⟩ dL_law_532 (by decide) (fun _ => ?_) (fun h9 => absurd h9 (by decide))
    refine V_goto X 2387 dL_law_537 (by decide) ?_
    refine V_sub (lv' := [(0, .ref b), (1, .ref (ga g (0))), (2, .ref (ga g (89))), (3, .ref (ga g (110))), (4, .ref (ga g (111))), (5, .int (iN (5 * (t : Int))))]) [2, 3, 4, 5, 6, 7] rfl ?_
    exact V_widen (by omega) (by omega) (kk _ e3)
set_option maxRecDepth 100000 in
set_option maxHeartbeats 4000000 in
theorem lc_5 (g : Geo) {p : Program} (l : Launch) {e : Env} {s : State} {m : MethodId} {args : Array Value} {below : List Frame} {meth : Method} {c : Code} {k0 n0 : Nat} {Q : State → Prop} {b L : Nat} {xs : Nat → Int32} (hl9 : l.stackTraces = false) (X : Cx g p l room_1 s m args meth c cL_law 9 RL wsL_law) (hX : va_X b L xs s s.heap) (hbl : b < s.heap.size) (hbA : ¬ gA g b) (hL : L ≤ 2560) (t : Nat) (ht : 5 * t + 5 ≤ L) {σ : St} (hN : Nx σ) (hk9 : k0 + 5 ≤ 601024) (hn9 : n0 + 30 ≤ 7293034) (kk : ∀ u, Nx u → V g p l e room_1 s m args below meth c 9 (k0 + 5) (n0 + 30) Q u 2387 (lvL g b t) []) : V g p l e room_1 s m args below meth c 9 k0 n0 Q σ 540 (lvL g b t) [] := by
  obtain ⟨n, ty, R, D, h, hU⟩ := id hN
  refine V_lv (lv' := [(0, .ref b), (1, .ref (ga g (0))), (2, .ref (ga g (89))), (3, .ref (ga g (110))), (4, .ref (ga g (111))), (5, .int (iN (5 * (t : Int))))]) rfl ?_
  refine V_aload_n X 1 rfl dL_law_540 rfl ?_
  refine V_aload_n X 0 rfl dL_law_541 rfl ?_
  refine V_iload X 5 rfl dL_law_542 ?_
  refine V_iconst X dL_law_544 ?_
  refine V_iadd X dL_law_545 ?_
  refine V_sld X hX hbl hbA (5 * t + 1) (by omega) (by omega) (by omega) dL_law_546 ?_
  refine V_i2c X (chI_e _) dL_law_547 ?_
  refine V_aload_n X 0 rfl dL_law_548 rfl ?_
  refine V_iload X 5 rfl dL_law_549 ?_
  refine V_iconst X dL_law_551 ?_
  refine V_iadd X dL_law_552 ?_
  refine V_sld X hX hbl hbA (5 * t + 2) (by omega) (by omega) (by omega) dL_law_553 ?_
  refine V_aload_n X 3 rfl dL_law_554 rfl ?_
  refine V_callS_Iw X (na := 4) (m_L_type g l hl9 σ h.1 (chI ((xs (5 * t + 1)).toInt)) ((xs (5 * t + 2)).toInt) (chI_r _) (chI_b _) (R32_toI _) ty h.c5 h.ty60) gL_law_L_type rfl rfl rfl (by decide +kernel) ⟨Nat.le_of_ble_eq_true rfl, Nat.le_of_ble_eq_true rfl⟩ rfl rfl (Nat.le_of_ble_eq_true rfl) ⟨by show k0 + 1 ≤ 601024; omega, by show n0 + 6 ≤ 7293034; omega⟩ dL_law_555 (fun E u hp => hp.elim) (fun z u zr hz => ?_)
  obtain ⟨f, hq⟩ := q_type (chI ((xs (5 * t + 1)).toInt)) ((xs (5 * t + 2)).toInt) h hU (chI_b _) hz
  refine V_istore X [(6, .int (iN (z))), (0, .ref b), (1, .ref (ga g (0))), (2, .ref (ga g (89))), (3, .ref (ga g (110))), (4, .ref (ga g (111))), (5, .int (iN (5 * (t : Int))))] dL_law_558 (by decide) rfl ?_
  refine V_aload_n X 3 rfl dL_law_560 rfl ?_
  refine V_aload_n X 1 rfl dL_law_561 rfl ?_
  refine V_iload X 6 rfl dL_law_562 ?_
  refine V_iconst X dL_law_564 ?_
  refine V_iadd X dL_law_565 ?_
  refine V_sld X hX hbl hbA (5 * t + 1) (by omega) (by omega) (by omega) dL_law_566 ?_
  refine V_i2c X (chI_e _) dL_law_567 ?_
  refine V_aload_n X 1 rfl dL_law_568 rfl ?_
  refine V_iload X 6 rfl dL_law_569 ?_
  refine V_iconst X dL_law_571 ?_
  refine V_iadd X dL_law_572 ?_
  refine V_sld X hX hbl hbA (5 * t + 2) (by omega) (by omega) (by omega) dL_law_573 ?_
  refine V_callV_I X (na := 2) (ci := 7) (b0 := 89) (by decide) (rfl) (by decide) rfl (m_X7_type g l hl9 u f.2 (chI ((xs (5 * t + 1)).toInt)) ((xs (5 * t + 2)).toInt) (chI_r _) (chI_b _) (R32_toI _) ty (h.f9 f) h.ty60) gL_law_X7_type rfl rfl rfl (by decide +kernel) ⟨Nat.le_of_ble_eq_true rfl, Nat.le_of_ble_eq_true rfl⟩ rfl rfl (Nat.le_of_ble_eq_true rfl) ⟨by show k0 + 1 + 0 ≤ 601024; omega, by show n0 + 6 + 0 ≤ 7293034; omega⟩ dL_law_574 (fun b9 y9 br hy => ?_)
  obtain ⟨e1, e2, e3⟩ := hq b9 y9 hy
  refine V_istore X [(7, .int (iN (b9))), (6, .int (iN (z))), (0, .ref b), (1, .ref (ga g (0))), (2, .ref (ga g (89))), (3, .ref (ga g (110))), (4, .ref (ga g (111))), (5, .int (iN (5 * (t : Int))))] dL_law_577 (by decide) rfl ?_
  refine V_aload_n X 4 rfl dL_law_579 rfl ?_
  refine V_callV_I X (na := 0) (ci := 7) (b0 := 89) (by decide) (rfl) (by decide) rfl (m_X7_thrown g l hl9 y9 e3.rg) gL_law_X7_thrown rfl rfl rfl (by decide +kernel) ⟨Nat.le_of_ble_eq_true rfl, Nat.le_of_ble_eq_true rfl⟩ rfl rfl (Nat.le_of_ble_eq_true rfl) ⟨by show k0 + 1 + 0 + 0 ≤ 601024; omega, by show n0 + 6 + 0 + 0 ≤ 7293034; omega⟩ dL_law_580 (fun z3 u3 z3r h3 => ?_)
  obtain ⟨h3a, h3b⟩ := h3
  have h3b := h3b.symm
  subst h3b
  refine V_iload X 1 rfl dL_law_583 ?_
  refine V_icmp_eq X 590 z3r zr dL_law_585 (by decide) (fun _ => ?_) (fun h9 => absurd (h3a.trans e1) h9)
  refine V_iload X 1 rfl dL_law_590 ?_
  refine V_if_ne X 607 zr dL_law_592 (by decide) (fun hz9 => ?_) (fun hz9 => ?_)
  · skip
    refine V_goto X 2387 dL_law_607 (by decide) ?_
    refine V_sub (lv' := [(0, .ref b), (1, .ref (ga g (0))), (2, .ref (ga g (89))), (3, .ref (ga g (110))), (4, .ref (ga g (111))), (5, .int (iN (5 * (t : Int))))]) [2, 3, 4, 5, 6, 7] rfl ?_
    exact V_widen (by omega) (by omega) (kk _ e3)
  · skip
    refine V_aload_n X 5 rfl dL_law_595 rfl ?_
    refine V_iconst X dL_law_596 ?_
    refine V_laload X dL_law_597 ?_
    refine V_topl (b := b9) (e2 hz9) ?_
    refine V_iload X 0 rfl dL_law_598 ?_
    refine V_i2l X br dL_law_600 ?_
    refine V_lcmpE X dL_law_601 ?_
    refine V_if_eq X 607 ⟨by decide, by decide⟩ dL_law_602 (by decide) (fun _ => ?_) (fun h9 => absurd h9 (by decide))
    refine V_goto X 2387 dL_law_607 (by decide) ?_
    refine V_sub (lv' := [(0, .ref b), (1, .ref (ga g (0))), (2, .ref (ga g (89))), (3, .ref (ga g (110))), (4, .ref (ga g (111))), (5, .int (iN (5 * (t : Int))))]) [2, 3, 4, 5, 6, 7] rfl ?_
    exact V_widen (by omega) (by omega) (kk _ e3)
set_option maxRecDepth 100000 in
set_option maxHeartbeats 4000000 in
theorem lc_6 (g : Geo) {p : Program} (l : Launch) {e : Env} {s : State} {m : MethodId} {args : Array Value} {below : List Frame} {meth : Method} {c : Code} {k0 n0 : Nat} {Q : State → Prop} {b L : Nat} {xs : Nat → Int32} (hl9 : l.stackTraces = false) (X : Cx g p l room_1 s m args meth c cL_law 9 RL wsL_law) (hX : va_X b L xs s s.heap) (hbl : b < s.heap.size) (hbA : ¬ gA g b) (hL : L ≤ 2560) (t : Nat) (ht : 5 * t + 5 ≤ L) {σ : St} (hN : Nx σ) (hk9 : k0 + 5 ≤ 601024) (hn9 : n0 + 30 ≤ 7293034) (kk : ∀ u, Nx u → V g p l e room_1 s m args below meth c 9 (k0 + 5) (n0 + 30) Q u 2387 (lvL g b t) []) : V g p l e room_1 s m args below meth c 9 k0 n0 Q σ 610 (lvL g b t) [] := by
  obtain ⟨n, ty, R, D, h, hU⟩ := id hN
  refine V_lv (lv' := [(0, .ref b), (1, .ref (ga g (0))), (2, .ref (ga g (89))), (3, .ref (ga g (110))), (4, .ref (ga g (111))), (5, .int (iN (5 * (t : Int))))]) rfl ?_
  refine V_aload_n X 1 rfl dL_law_610 rfl ?_
  refine V_callV_I X (na := 0) (ci := 6) (b0 := 0) (by decide) (rfl) (by decide) rfl (m_X6_wipe g l hl9 σ h.1) gL_law_X6_wipe rfl rfl rfl (by decide +kernel) ⟨Nat.le_of_ble_eq_true rfl, Nat.le_of_ble_eq_true rfl⟩ rfl rfl (Nat.le_of_ble_eq_true rfl) ⟨by show k0 + 0 ≤ 601024; omega, by show n0 + 0 ≤ 7293034; omega⟩ dL_law_611 (fun z u zr hz => ?_)
  obtain ⟨f, hq⟩ := q_wipe h hU hz
  refine V_aload_n X 2 rfl dL_law_614 rfl ?_
  refine V_callV_I X (na := 0) (ci := 7) (b0 := 89) (by decide) (rfl) (by decide) rfl (m_X7_wipe g l hl9 u f.2) gL_law_X7_wipe rfl rfl rfl (by decide +kernel) ⟨Nat.le_of_ble_eq_true rfl, Nat.le_of_ble_eq_true rfl⟩ rfl rfl (Nat.le_of_ble_eq_true rfl) ⟨by show k0 + 0 + 0 ≤ 601024; omega, by show n0 + 0 + 0 ≤ 7293034; omega⟩ dL_law_615 (fun b9 y9 br hy => ?_)
  obtain ⟨e1, e3⟩ := hq b9 y9 hy
  refine V_icmp_eq X 2387 zr br dL_law_618 (by decide) (fun _ => ?_) (fun h9 => absurd (e1) h9)
  refine V_sub (lv' := [(0, .ref b), (1, .ref (ga g (0))), (2, .ref (ga g (89))), (3, .ref (ga g (110))), (4, .ref (ga g (111))), (5, .int (iN (5 * (t : Int))))]) [0, 1, 2, 3, 4, 5] rfl ?_
  exact V_widen (by omega) (by omega) (kk _ e3)
set_option maxRecDepth 100000 in
set_option maxHeartbeats 4000000 in
theorem lc_7 (g : Geo) {p : Program} (l : Launch) {e : Env} {s : State} {m : MethodId} {args : Array Value} {below : List Frame} {meth : Method} {c : Code} {k0 n0 : Nat} {Q : State → Prop} {b L : Nat} {xs : Nat → Int32} (hl9 : l.stackTraces = false) (X : Cx g p l room_1 s m args meth c cL_law 9 RL wsL_law) (hX : va_X b L xs s s.heap) (hbl : b < s.heap.size) (hbA : ¬ gA g b) (hL : L ≤ 2560) (t : Nat) (ht : 5 * t + 5 ≤ L) {σ : St} (hN : Nx σ) (hk9 : k0 + 5 ≤ 601024) (hn9 : n0 + 30 ≤ 7293034) (kk : ∀ u, Nx u → V g p l e room_1 s m args below meth c 9 (k0 + 5) (n0 + 30) Q u 2387 (lvL g b t) []) : V g p l e room_1 s m args below meth c 9 k0 n0 Q σ 623 (lvL g b t) [] := by
  obtain ⟨n, ty, R, D, h, hU⟩ := id hN
  refine V_lv (lv' := [(0, .ref b), (1, .ref (ga g (0))), (2, .ref (ga g (89))), (3, .ref (ga g (110))), (4, .ref (ga g (111))), (5, .int (iN (5 * (t : Int))))]) rfl ?_
  refine V_aload_n X 1 rfl dL_law_623 rfl ?_
  refine V_aload_n X 0 rfl dL_law_624 rfl ?_
  refine V_iload X 5 rfl dL_law_625 ?_
  refine V_iconst X dL_law_627 ?_
  refine V_iadd X dL_law_628 ?_
  refine V_sld X hX hbl hbA (5 * t + 1) (by omega) (by omega) (by omega) dL_law_629 ?_
  refine V_aload_n X 0 rfl dL_law_630 rfl ?_
  refine V_iload X 5 rfl dL_law_631 ?_
  refine V_iconst X dL_law_633 ?_
  refine V_iadd X dL_law_634 ?_
  refine V_sld X hX hbl hbA (5 * t + 2) (by omega) (by omega) (by omega) dL_law_635 ?_
  refine V_aload_n X 0 rfl dL_law_636 rfl ?_
  refine V_iload X 5 rfl dL_law_637 ?_
  refine V_iconst X dL_law_639 ?_
  refine V_iadd X dL_law_640 ?_
  refine V_sld X hX hbl hbA (5 * t + 3) (by omega) (by omega) (by omega) dL_law_641 ?_
  refine V_aload_n X 0 rfl dL_law_642 rfl ?_
  refine V_iload X 5 rfl dL_law_643 ?_
  refine V_iconst X dL_law_645 ?_
  refine V_iadd X dL_law_646 ?_
  refine V_sld X hX hbl hbA (5 * t + 4) (by omega) (by omega) (by omega) dL_law_647 ?_
  refine V_aload_n X 3 rfl dL_law_648 rfl ?_
  refine V_callS_Iw X (na := 6) (m_L_drive g l hl9 σ h.1 ((xs (5 * t + 1)).toInt) ((xs (5 * t + 2)).toInt) ((xs (5 * t + 3)).toInt) ((xs (5 * t + 4)).toInt) (R32_toI _) (R32_toI _) (R32_toI _) (R32_toI _) n h.LB h.TK h.c1.2 h.c3.2 h.s10 ty h.c5 h.ty60 h.i3) gL_law_L_drive rfl rfl rfl (by decide +kernel) ⟨Nat.le_of_ble_eq_true rfl, Nat.le_of_ble_eq_true rfl⟩ rfl rfl (Nat.le_of_ble_eq_true rfl) ⟨by show k0 + 5 ≤ 601024; omega, by show n0 + 30 ≤ 7293034; omega⟩ dL_law_649 (fun E u hp => hp.elim) (fun z u zr hz => ?_)
  obtain ⟨f, hq⟩ := q_drive ((xs (5 * t + 1)).toInt) ((xs (5 * t + 2)).toInt) ((xs (5 * t + 3)).toInt) ((xs (5 * t + 4)).toInt) h hU (R32_toI _) (R32_toI _) (R32_toI _) (R32_toI _) hz
  refine V_istore X [(6, .int (iN (z))), (0, .ref b), (1, .ref (ga g (0))), (2, .ref (ga g (89))), (3, .ref (ga g (110))), (4, .ref (ga g (111))), (5, .int (iN (5 * (t : Int))))] dL_law_652 (by decide) rfl ?_
  refine V_aload_n X 3 rfl dL_law_654 rfl ?_
  refine V_aload_n X 1 rfl dL_law_655 rfl ?_
  refine V_iload X 6 rfl dL_law_656 ?_
  refine V_iconst X dL_law_658 ?_
  refine V_iadd X dL_law_659 ?_
  refine V_sld X hX hbl hbA (5 * t + 1) (by omega) (by omega) (by omega) dL_law_660 ?_
  refine V_aload_n X 1 rfl dL_law_661 rfl ?_
  refine V_iload X 6 rfl dL_law_662 ?_
  refine V_iconst X dL_law_664 ?_
  refine V_iadd X dL_law_665 ?_
  refine V_sld X hX hbl hbA (5 * t + 2) (by omega) (by omega) (by omega) dL_law_666 ?_
  refine V_aload_n X 1 rfl dL_law_667 rfl ?_
  refine V_iload X 6 rfl dL_law_668 ?_
  refine V_iconst X dL_law_670 ?_
  refine V_iadd X dL_law_671 ?_
  refine V_sld X hX hbl hbA (5 * t + 3) (by omega) (by omega) (by omega) dL_law_672 ?_
  refine V_aload_n X 1 rfl dL_law_673 rfl ?_
  refine V_iload X 6 rfl dL_law_674 ?_
  refine V_iconst X dL_law_676 ?_
  refine V_iadd X dL_law_677 ?_
  refine V_sld X hX hbl hbA (5 * t + 4) (by omega) (by omega) (by omega) dL_law_678 ?_
  refine V_callV_I X (na := 4) (ci := 7) (b0 := 89) (by decide) (rfl) (by decide) rfl (m_X7_drive g l hl9 u f.2 (f.TM h.2.2.1.1) (f.CM h.2.2.1.2) (f.PM h.PM) (h.f1 f) (h.f5 f) n (f.MB h.MB) (dpR σ) (f.MD h.MD) ((xs (5 * t + 1)).toInt) ((xs (5 * t + 2)).toInt) ((xs (5 * t + 3)).toInt) ((xs (5 * t + 4)).toInt) (R32_toI _) (R32_toI _) (R32_toI _) (R32_toI _) ty (h.f9 f) h.ty60 (h.fch f) (h.fop f) (h.f23b f)) gL_law_X7_drive rfl rfl rfl (by decide +kernel) ⟨Nat.le_of_ble_eq_true rfl, Nat.le_of_ble_eq_true rfl⟩ rfl rfl (Nat.le_of_ble_eq_true rfl) ⟨by show k0 + 5 + 0 ≤ 601024; omega, by show n0 + 30 + 0 ≤ 7293034; omega⟩ dL_law_679 (fun b9 y9 br hy => ?_)
  obtain ⟨e1, e2, e3⟩ := hq b9 y9 hy
  refine V_istore X [(7, .int (iN (b9))), (6, .int (iN (z))), (0, .ref b), (1, .ref (ga g (0))), (2, .ref (ga g (89))), (3, .ref (ga g (110))), (4, .ref (ga g (111))), (5, .int (iN (5 * (t : Int))))] dL_law_682 (by decide) rfl ?_
  refine V_aload_n X 4 rfl dL_law_684 rfl ?_
  refine V_callV_I X (na := 0) (ci := 7) (b0 := 89) (by decide) (rfl) (by decide) rfl (m_X7_thrown g l hl9 y9 e3.rg) gL_law_X7_thrown rfl rfl rfl (by decide +kernel) ⟨Nat.le_of_ble_eq_true rfl, Nat.le_of_ble_eq_true rfl⟩ rfl rfl (Nat.le_of_ble_eq_true rfl) ⟨by show k0 + 5 + 0 + 0 ≤ 601024; omega, by show n0 + 30 + 0 + 0 ≤ 7293034; omega⟩ dL_law_685 (fun z3 u3 z3r h3 => ?_)
  obtain ⟨h3a, h3b⟩ := h3
  have h3b := h3b.symm
  subst h3b
  refine V_iload X 1 rfl dL_law_688 ?_
  refine V_icmp_eq X 695 z3r zr dL_law_690 (by decide) (fun _ => ?_) (fun h9 => absurd (h3a.trans e1) h9)
  refine V_iload X 1 rfl dL_law_695 ?_
  refine V_if_ne X 712 zr dL_law_697 (by decide) (fun hz9 => ?_) (fun hz9 => ?_)
  · skip
    refine V_goto X 2387 dL_law_712 (by decide) ?_
    refine V_sub (lv' := [(0, .ref b), (1, .ref (ga g (0))), (2, .ref (ga g (89))), (3, .ref (ga g (110))), (4, .ref (ga g (111))), (5, .int (iN (5 * (t : Int))))]) [2, 3, 4, 5, 6, 7] rfl ?_
    exact V_widen (by omega) (by omega) (kk _ e3)
  · skip
    refine V_aload_n X 5 rfl dL_law_700 rfl ?_
    refine V_iconst X dL_law_701 ?_
    refine V_laload X dL_law_702 ?_
    refine V_topl (b := b9) (e2 hz9) ?_
    refine V_iload X 0 rfl dL_law_703 ?_
    refine V_i2l X br dL_law_705 ?_
    refine V_lcmpE X dL_law_706 ?_
    refine V_if_eq X 712 ⟨by decide, by decide⟩ dL_law_707 (by decide) (fun _ => ?_) (fun h9 => absurd h9 (by decide))
    refine V_goto X 2387 dL_law_712 (by decide) ?_
    refine V_sub (lv' := [(0, .ref b), (1, .ref (ga g (0))), (2, .ref (ga g (89))), (3, .ref (ga g (110))), (4, .ref (ga g (111))), (5, .int (iN (5 * (t : Int))))]) [2, 3, 4, 5, 6, 7] rfl ?_
    exact V_widen (by omega) (by omega) (kk _ e3)
set_option maxRecDepth 100000 in
set_option maxHeartbeats 4000000 in
theorem lc_8 (g : Geo) {p : Program} (l : Launch) {e : Env} {s : State} {m : MethodId} {args : Array Value} {below : List Frame} {meth : Method} {c : Code} {k0 n0 : Nat} {Q : State → Prop} {b L : Nat} {xs : Nat → Int32} (hl9 : l.stackTraces = false) (X : Cx g p l room_1 s m args meth c cL_law 9 RL wsL_law) (hX : va_X b L xs s s.heap) (hbl : b < s.heap.size) (hbA : ¬ gA g b) (hL : L ≤ 2560) (t : Nat) (ht : 5 * t + 5 ≤ L) {σ : St} (hN : Nx σ) (hk9 : k0 + 5 ≤ 601024) (hn9 : n0 + 30 ≤ 7293034) (kk : ∀ u, Nx u → V g p l e room_1 s m args below meth c 9 (k0 + 5) (n0 + 30) Q u 2387 (lvL g b t) []) : V g p l e room_1 s m args below meth c 9 k0 n0 Q σ 715 (lvL g b t) [] := by
  obtain ⟨n, ty, R, D, h, hU⟩ := id hN
  refine V_lv (lv' := [(0, .ref b), (1, .ref (ga g (0))), (2, .ref (ga g (89))), (3, .ref (ga g (110))), (4, .ref (ga g (111))), (5, .int (iN (5 * (t : Int))))]) rfl ?_
  refine V_aload_n X 1 rfl dL_law_715 rfl ?_
  refine V_aload_n X 0 rfl dL_law_716 rfl ?_
  refine V_iload X 5 rfl dL_law_717 ?_
  refine V_iconst X dL_law_719 ?_
  refine V_iadd X dL_law_720 ?_
  refine V_sld X hX hbl hbA (5 * t + 1) (by omega) (by omega) (by omega) dL_law_721 ?_
  refine V_aload_n X 0 rfl dL_law_722 rfl ?_
  refine V_iload X 5 rfl dL_law_723 ?_
  refine V_iconst X dL_law_725 ?_
  refine V_iadd X dL_law_726 ?_
  refine V_sld X hX hbl hbA (5 * t + 2) (by omega) (by omega) (by omega) dL_law_727 ?_
  refine V_aload_n X 3 rfl dL_law_728 rfl ?_
  refine V_callS_Iw X (na := 4) (m_L_tryOut g l hl9 σ h.1 ((xs (5 * t + 1)).toInt) ((xs (5 * t + 2)).toInt) (R32_toI _) (R32_toI _) h.TK h.c1.2 h.c3.2 ty h.c5 h.ty60) gL_law_L_tryOut rfl rfl rfl (by decide +kernel) ⟨Nat.le_of_ble_eq_true rfl, Nat.le_of_ble_eq_true rfl⟩ rfl rfl (Nat.le_of_ble_eq_true rfl) ⟨by show k0 + 3 ≤ 601024; omega, by show n0 + 18 ≤ 7293034; omega⟩ dL_law_729 (fun E u hp => hp.elim) (fun z u zr hz => ?_)
  obtain ⟨f, hq⟩ := q_tryOut ((xs (5 * t + 1)).toInt) ((xs (5 * t + 2)).toInt) h hU  hz
  refine V_istore X [(6, .int (iN (z))), (0, .ref b), (1, .ref (ga g (0))), (2, .ref (ga g (89))), (3, .ref (ga g (110))), (4, .ref (ga g (111))), (5, .int (iN (5 * (t : Int))))] dL_law_732 (by decide) rfl ?_
  refine V_aload_n X 3 rfl dL_law_734 rfl ?_
  refine V_aload_n X 1 rfl dL_law_735 rfl ?_
  refine V_iload X 6 rfl dL_law_736 ?_
  refine V_iconst X dL_law_738 ?_
  refine V_iadd X dL_law_739 ?_
  refine V_sld X hX hbl hbA (5 * t + 1) (by omega) (by omega) (by omega) dL_law_740 ?_
  refine V_aload_n X 1 rfl dL_law_741 rfl ?_
  refine V_iload X 6 rfl dL_law_742 ?_
  refine V_iconst X dL_law_744 ?_
  refine V_iadd X dL_law_745 ?_
  refine V_sld X hX hbl hbA (5 * t + 2) (by omega) (by omega) (by omega) dL_law_746 ?_
  refine V_callV_I X (na := 2) (ci := 7) (b0 := 89) (by decide) (rfl) (by decide) rfl (m_X7_tryOut g l hl9 u f.2 (f.TM h.2.2.1.1) (f.CM h.2.2.1.2) (f.PM h.PM) (h.f1 f) (h.f5 f) ((xs (5 * t + 1)).toInt) ((xs (5 * t + 2)).toInt) (R32_toI _) (R32_toI _) ty (h.f9 f) h.ty60) gL_law_X7_tryOut rfl rfl rfl (by decide +kernel) ⟨Nat.le_of_ble_eq_true rfl, Nat.le_of_ble_eq_true rfl⟩ rfl rfl (Nat.le_of_ble_eq_true rfl) ⟨by show k0 + 3 + 0 ≤ 601024; omega, by show n0 + 18 + 0 ≤ 7293034; omega⟩ dL_law_747 (fun b9 y9 br hy => ?_)
  obtain ⟨e1, e2, e3⟩ := hq b9 y9 hy
  refine V_istore X [(7, .int (iN (b9))), (6, .int (iN (z))), (0, .ref b), (1, .ref (ga g (0))), (2, .ref (ga g (89))), (3, .ref (ga g (110))), (4, .ref (ga g (111))), (5, .int (iN (5 * (t : Int))))] dL_law_750 (by decide) rfl ?_
  refine V_aload_n X 4 rfl dL_law_752 rfl ?_
  refine V_callV_I X (na := 0) (ci := 7) (b0 := 89) (by decide) (rfl) (by decide) rfl (m_X7_thrown g l hl9 y9 e3.rg) gL_law_X7_thrown rfl rfl rfl (by decide +kernel) ⟨Nat.le_of_ble_eq_true rfl, Nat.le_of_ble_eq_true rfl⟩ rfl rfl (Nat.le_of_ble_eq_true rfl) ⟨by show k0 + 3 + 0 + 0 ≤ 601024; omega, by show n0 + 18 + 0 + 0 ≤ 7293034; omega⟩ dL_law_753 (fun z3 u3 z3r h3 => ?_)
  obtain ⟨h3a, h3b⟩ := h3
  have h3b := h3b.symm
  subst h3b
  refine V_iload X 1 rfl dL_law_756 ?_
  refine V_icmp_eq X 763 z3r zr dL_law_758 (by decide) (fun _ => ?_) (fun h9 => absurd (h3a.trans e1) h9)
  refine V_iload X 1 rfl dL_law_763 ?_
  refine V_if_ne X 780 zr dL_law_765 (by decide) (fun hz9 => ?_) (fun hz9 => ?_)
  · skip
    refine V_goto X 2387 dL_law_780 (by decide) ?_
    refine V_sub (lv' := [(0, .ref b), (1, .ref (ga g (0))), (2, .ref (ga g (89))), (3, .ref (ga g (110))), (4, .ref (ga g (111))), (5, .int (iN (5 * (t : Int))))]) [2, 3, 4, 5, 6, 7] rfl ?_
    exact V_widen (by omega) (by omega) (kk _ e3)
  · skip
    refine V_aload_n X 5 rfl dL_law_768 rfl ?_
    refine V_iconst X dL_law_769 ?_
    refine V_laload X dL_law_770 ?_
    refine V_topl (b := b9) (e2 hz9) ?_
    refine V_iload X 0 rfl dL_law_771 ?_
    refine V_i2l X br dL_law_773 ?_
    refine V_lcmpE X dL_law_774 ?_
    refine V_if_eq X 780 ⟨by decide, by decide⟩ dL_law_775 (by decide) (fun _ => ?_) (fun h9 => absurd h9 (by decide))
    refine V_goto X 2387 dL_law_780 (by decide) ?_
    refine V_sub (lv' := [(0, .ref b), (1, .ref (ga g (0))), (2, .ref (ga g (89))), (3, .ref (ga g (110))), (4, .ref (ga g (111))), (5, .int (iN (5 * (t : Int))))]) [2, 3, 4, 5, 6, 7] rfl ?_
    exact V_widen (by omega) (by omega) (kk _ e3)
set_option maxRecDepth 100000 in
set_option maxHeartbeats 4000000 in
theorem lc_9 (g : Geo) {p : Program} (l : Launch) {e : Env} {s : State} {m : MethodId} {args : Array Value} {below : List Frame} {meth : Method} {c : Code} {k0 n0 : Nat} {Q : State → Prop} {b L : Nat} {xs : Nat → Int32} (hl9 : l.stackTraces = false) (X : Cx g p l room_1 s m args meth c cL_law 9 RL wsL_law) (hX : va_X b L xs s s.heap) (hbl : b < s.heap.size) (hbA : ¬ gA g b) (hL : L ≤ 2560) (t : Nat) (ht : 5 * t + 5 ≤ L) {σ : St} (hN : Nx σ) (hk9 : k0 + 5 ≤ 601024) (hn9 : n0 + 30 ≤ 7293034) (kk : ∀ u, Nx u → V g p l e room_1 s m args below meth c 9 (k0 + 5) (n0 + 30) Q u 2387 (lvL g b t) []) : V g p l e room_1 s m args below meth c 9 k0 n0 Q σ 783 (lvL g b t) [] := by
  obtain ⟨n, ty, R, D, h, hU⟩ := id hN
  refine V_lv (lv' := [(0, .ref b), (1, .ref (ga g (0))), (2, .ref (ga g (89))), (3, .ref (ga g (110))), (4, .ref (ga g (111))), (5, .int (iN (5 * (t : Int))))]) rfl ?_
  refine V_aload_n X 1 rfl dL_law_783 rfl ?_
  refine V_callV_I X (na := 0) (ci := 6) (b0 := 0) (by decide) (rfl) (by decide) rfl (m_X6_laps g l hl9 σ h.1) gL_law_X6_laps rfl rfl rfl (by decide +kernel) ⟨Nat.le_of_ble_eq_true rfl, Nat.le_of_ble_eq_true rfl⟩ rfl rfl (Nat.le_of_ble_eq_true rfl) ⟨by show k0 + 0 ≤ 601024; omega, by show n0 + 0 ≤ 7293034; omega⟩ dL_law_784 (fun z u zr hz => ?_)
  obtain ⟨f, hq⟩ := q_laps h hU hz
  refine V_aload_n X 2 rfl dL_law_787 rfl ?_
  refine V_callV_I X (na := 0) (ci := 7) (b0 := 89) (by decide) (rfl) (by decide) rfl (m_X7_laps g l hl9 u f.2) gL_law_X7_laps rfl rfl rfl (by decide +kernel) ⟨Nat.le_of_ble_eq_true rfl, Nat.le_of_ble_eq_true rfl⟩ rfl rfl (Nat.le_of_ble_eq_true rfl) ⟨by show k0 + 0 + 0 ≤ 601024; omega, by show n0 + 0 + 0 ≤ 7293034; omega⟩ dL_law_788 (fun b9 y9 br hy => ?_)
  obtain ⟨e1, e3⟩ := hq b9 y9 hy
  refine V_icmp_eq X 2387 zr br dL_law_791 (by decide) (fun _ => ?_) (fun h9 => absurd (e1) h9)
  refine V_sub (lv' := [(0, .ref b), (1, .ref (ga g (0))), (2, .ref (ga g (89))), (3, .ref (ga g (110))), (4, .ref (ga g (111))), (5, .int (iN (5 * (t : Int))))]) [0, 1, 2, 3, 4, 5] rfl ?_
  exact V_widen (by omega) (by omega) (kk _ e3)
