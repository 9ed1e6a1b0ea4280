/-! THE LAW: one step each, out of what the two calls answer and do -/
set_option maxHeartbeats 4000000 in
set_option maxRecDepth 100000 in
theorem lw_setRooms {p : Program} {l : Launch} {e : Env} {s : State} {m : MethodId} {below : List Frame} {meth : Method} {c : Code} {D : va_G} {cI cZ cJ : ClassId} {A : Nat → Prop} {cells slots : Nat} {Q : State → Prop} {bs L : Nat} {xs : Nat → Int32} {b a : Nat → Nat} {o : Nat} (H : hl_H p s m c D cI cZ cJ A bs L xs) (hf : cells + 1 ≤ room_1.cells ∧ slots + 6 ≤ room_1.slots) {i : Nat} (hi : i + 5 ≤ L) {f f' : Nat → Int64} {g g' t t' : Nat → Nat → Int32} {k r6 : Int32} {rw rm : Room} (hrw : rw.cells = 1 ∧ rw.slots = 6 ∧ rw.frames + 1 ≤ 11 ∧ 8 + (7 + 11) + rw.locals ≤ 394) (hrm : rm.cells = 0 ∧ rm.slots = 0 ∧ rm.frames + 1 ≤ 11 ∧ 8 + (6 + 11) + rm.locals ≤ 394) (hW : hl_KW D (hl_ty cI cZ cJ) l yL_setRooms wsL_setRooms rw [.ref (a 0), .int (xs (i + 1)), .int (xs (i + 2)), .int (xs (i + 3)), .int (xs (i + 4)), .ref o] (hl_WO o cI cZ cJ f a g) (fun r w => r = k ∧ w = hl_WO o cI cZ cJ f' a g')) (hM : hl_KI D (hl_ty cI cZ cJ) l yX6_setRooms wsX6_setRooms rm 0 0 [.ref (b 0), .int (xs (i + 1)), .int (xs (i + 2)), .int (xs (i + 3)), .int (xs (i + 4))] (hl_WM b cI cZ t) (fun r w => r = r6 ∧ w = hl_WM b cI cZ t')) (ht : t' 23 0 = k) (hv : k = 0 → f' 0 = r6.toInt64) (kk : hl_X p l e room_1 s m #[Value.ref bs] below meth c 7 D A (cells + 1) (slots + 6) Q (hl_LW b a cI cZ cJ o f' t' g') 1252 (hl_LS bs b a o (nI i)) []) : hl_X p l e room_1 s m #[Value.ref bs] below meth c 7 D A cells slots Q (hl_LW b a cI cZ cJ o f t g) 132 (hl_LS bs b a o (nI i)) [] := by
  obtain ⟨h, hz, hX, hbl, hbA, hL⟩ := id H
  refine hl_aload_n h 1 dL_law_132 rfl ?_
  refine hl_arg H 0 4 (i := i) (j := 1) rfl rfl (by omega) (by decide) dL_law_133 dL_law_134 dL_law_136 dL_law_137 dL_law_138 ?_
  refine hl_arg H 0 4 (i := i) (j := 2) rfl rfl (by omega) (by decide) dL_law_139 dL_law_140 dL_law_142 dL_law_143 dL_law_144 ?_
  refine hl_arg H 0 4 (i := i) (j := 3) rfl rfl (by omega) (by decide) dL_law_145 dL_law_146 dL_law_148 dL_law_149 dL_law_150 ?_
  refine hl_arg H 0 4 (i := i) (j := 4) rfl rfl (by omega) (by decide) dL_law_151 dL_law_152 dL_law_154 dL_law_155 dL_law_156 ?_
  refine hl_aload_n h 3 dL_law_157 rfl ?_
  refine hl_callW h hz (st := []) (wc := hl_WO o cI cZ cJ f a g) (wr := hl_WM b cI cZ t) [19, 20, 21, 22, 23, 24, 25, 26, 27, 28, 29, 30, 31, 32, 33, 34, 35, 36, 37, 38, 39, 40, 41, 42, 43, 44] [0, 1, 2, 3, 4, 5, 6, 7, 8, 9, 10, 11, 12, 13, 14, 15, 16, 17, 18] rfl rfl (by decide) (by decide) (by decide) hW (vx_cwSW 6 h.2.2.2.2.1 gL_law_L_setRooms rfl hrw.1 hrw.2.1 (by decide +kernel) hrw.2.2) dL_law_158 rfl (Nat.le_of_ble_eq_true rfl) hf rfl (fun r w1 hp => ?_)
  rw [hp.1, hp.2]
  refine hl_wd (w' := hl_LW b a cI cZ cJ o f' t g') rfl ?_
  refine hl_istore h ((5, .int k) :: hl_LS bs b a o (nI i)) dL_law_161 (by decide) rfl ?_
  refine hl_aload_n h 3 dL_law_163 rfl ?_
  refine hl_arg H 1 5 (i := i) (j := 1) rfl rfl (by omega) (by decide) dL_law_164 dL_law_165 dL_law_167 dL_law_168 dL_law_169 ?_
  refine hl_arg H 1 5 (i := i) (j := 2) rfl rfl (by omega) (by decide) dL_law_170 dL_law_171 dL_law_173 dL_law_174 dL_law_175 ?_
  refine hl_arg H 1 5 (i := i) (j := 3) rfl rfl (by omega) (by decide) dL_law_176 dL_law_177 dL_law_179 dL_law_180 dL_law_181 ?_
  refine hl_arg H 1 5 (i := i) (j := 4) rfl rfl (by omega) (by decide) dL_law_182 dL_law_183 dL_law_185 dL_law_186 dL_law_187 ?_
  refine hl_callPViD h (st := []) (wc := hl_WM b cI cZ t) (wr := hl_WO o cI cZ cJ f' a g') [0, 1, 2, 3, 4, 5, 6, 7, 8, 9, 10, 11, 12, 13, 14, 15, 16, 17, 18] [19, 20, 21, 22, 23, 24, 25, 26, 27, 28, 29, 30, 31, 32, 33, 34, 35, 36, 37, 38, 39, 40, 41, 42, 43, 44] rfl rfl (by decide) (by decide) (by decide) hM (cwV 4 h.2.2.2.2.1 gL_law_X6_setRooms rfl hrm.1 hrm.2.1 (by decide +kernel) hrm.2.2) (q0 := 0) rfl rfl dL_law_188 rfl (Nat.le_of_ble_eq_true rfl) hf rfl ?_
  refine hl_wsub [26, 27, 28, 29, 30, 31, 32, 33, 34, 35, 36, 37, 38, 39, 40, 41, 42, 43, 44, 0, 1, 2, 3, 4, 5, 6, 7, 8, 9, 10, 11, 12, 13, 14, 15, 16, 17, 18, 19, 20, 21, 22, 23, 24, 25] (w' := hl_LW b a cI cZ cJ o f' t' g') (by decide) rfl ?_
  exact hl_tail H hf ht hv dL_law_191 dL_law_193 dL_law_194 dL_law_197 dL_law_199 dL_law_204 dL_law_206 dL_law_209 dL_law_210 dL_law_211 dL_law_212 dL_law_214 dL_law_215 dL_law_216 dL_law_221 (by decide) kk

set_option maxHeartbeats 4000000 in
set_option maxRecDepth 100000 in
theorem lw_buyLinen {p : Program} {l : Launch} {e : Env} {s : State} {m : MethodId} {below : List Frame} {meth : Method} {c : Code} {D : va_G} {cI cZ cJ : ClassId} {A : Nat → Prop} {cells slots : Nat} {Q : State → Prop} {bs L : Nat} {xs : Nat → Int32} {b a : Nat → Nat} {o : Nat} (H : hl_H p s m c D cI cZ cJ A bs L xs) (hf : cells + 1 ≤ room_1.cells ∧ slots + 6 ≤ room_1.slots) {i : Nat} (hi : i + 5 ≤ L) {f f' : Nat → Int64} {g g' t t' : Nat → Nat → Int32} {k r6 : Int32} {rw rm : Room} (hrw : rw.cells = 1 ∧ rw.slots = 6 ∧ rw.frames + 1 ≤ 11 ∧ 8 + (5 + 11) + rw.locals ≤ 394) (hrm : rm.cells = 0 ∧ rm.slots = 0 ∧ rm.frames + 1 ≤ 11 ∧ 8 + (3 + 11) + rm.locals ≤ 394) (hW : hl_KW D (hl_ty cI cZ cJ) l yL_buyLinen wsL_buyLinen rw [.ref (a 0), .int (xs (i + 1)), .int (xs (i + 2)), .ref o] (hl_WO o cI cZ cJ f a g) (fun r w => r = k ∧ w = hl_WO o cI cZ cJ f' a g')) (hM : hl_KI D (hl_ty cI cZ cJ) l yX6_buyLinen wsX6_buyLinen rm 0 0 [.ref (b 0), .int (xs (i + 1)), .int (xs (i + 2))] (hl_WM b cI cZ t) (fun r w => r = r6 ∧ w = hl_WM b cI cZ t')) (ht : t' 23 0 = k) (hv : k = 0 → f' 0 = r6.toInt64) (kk : hl_X p l e room_1 s m #[Value.ref bs] below meth c 7 D A (cells + 1) (slots + 6) Q (hl_LW b a cI cZ cJ o f' t' g') 1252 (hl_LS bs b a o (nI i)) []) : hl_X p l e room_1 s m #[Value.ref bs] below meth c 7 D A cells slots Q (hl_LW b a cI cZ cJ o f t g) 224 (hl_LS bs b a o (nI i)) [] := by
  obtain ⟨h, hz, hX, hbl, hbA, hL⟩ := id H
  refine hl_aload_n h 1 dL_law_224 rfl ?_
  refine hl_arg H 0 4 (i := i) (j := 1) rfl rfl (by omega) (by decide) dL_law_225 dL_law_226 dL_law_228 dL_law_229 dL_law_230 ?_
  refine hl_arg H 0 4 (i := i) (j := 2) rfl rfl (by omega) (by decide) dL_law_231 dL_law_232 dL_law_234 dL_law_235 dL_law_236 ?_
  refine hl_aload_n h 3 dL_law_237 rfl ?_
  refine hl_callW h hz (st := []) (wc := hl_WO o cI cZ cJ f a g) (wr := hl_WM b cI cZ t) [19, 20, 21, 22, 23, 24, 25, 26, 27, 28, 29, 30, 31, 32, 33, 34, 35, 36, 37, 38, 39, 40, 41, 42, 43, 44] [0, 1, 2, 3, 4, 5, 6, 7, 8, 9, 10, 11, 12, 13, 14, 15, 16, 17, 18] rfl rfl (by decide) (by decide) (by decide) hW (vx_cwSW 4 h.2.2.2.2.1 gL_law_L_buyLinen rfl hrw.1 hrw.2.1 (by decide +kernel) hrw.2.2) dL_law_238 rfl (Nat.le_of_ble_eq_true rfl) hf rfl (fun r w1 hp => ?_)
  rw [hp.1, hp.2]
  refine hl_wd (w' := hl_LW b a cI cZ cJ o f' t g') rfl ?_
  refine hl_istore h ((5, .int k) :: hl_LS bs b a o (nI i)) dL_law_241 (by decide) rfl ?_
  refine hl_aload_n h 3 dL_law_243 rfl ?_
  refine hl_arg H 1 5 (i := i) (j := 1) rfl rfl (by omega) (by decide) dL_law_244 dL_law_245 dL_law_247 dL_law_248 dL_law_249 ?_
  refine hl_arg H 1 5 (i := i) (j := 2) rfl rfl (by omega) (by decide) dL_law_250 dL_law_251 dL_law_253 dL_law_254 dL_law_255 ?_
  refine hl_callPViD h (st := []) (wc := hl_WM b cI cZ t) (wr := hl_WO o cI cZ cJ f' a g') [0, 1, 2, 3, 4, 5, 6, 7, 8, 9, 10, 11, 12, 13, 14, 15, 16, 17, 18] [19, 20, 21, 22, 23, 24, 25, 26, 27, 28, 29, 30, 31, 32, 33, 34, 35, 36, 37, 38, 39, 40, 41, 42, 43, 44] rfl rfl (by decide) (by decide) (by decide) hM (cwV 2 h.2.2.2.2.1 gL_law_X6_buyLinen rfl hrm.1 hrm.2.1 (by decide +kernel) hrm.2.2) (q0 := 0) rfl rfl dL_law_256 rfl (Nat.le_of_ble_eq_true rfl) hf rfl ?_
  refine hl_wsub [26, 27, 28, 29, 30, 31, 32, 33, 34, 35, 36, 37, 38, 39, 40, 41, 42, 43, 44, 0, 1, 2, 3, 4, 5, 6, 7, 8, 9, 10, 11, 12, 13, 14, 15, 16, 17, 18, 19, 20, 21, 22, 23, 24, 25] (w' := hl_LW b a cI cZ cJ o f' t' g') (by decide) rfl ?_
  exact hl_tail H hf ht hv dL_law_259 dL_law_261 dL_law_262 dL_law_265 dL_law_267 dL_law_272 dL_law_274 dL_law_277 dL_law_278 dL_law_279 dL_law_280 dL_law_282 dL_law_283 dL_law_284 dL_law_289 (by decide) kk

set_option maxHeartbeats 4000000 in
set_option maxRecDepth 100000 in
theorem lw_book {p : Program} {l : Launch} {e : Env} {s : State} {m : MethodId} {below : List Frame} {meth : Method} {c : Code} {D : va_G} {cI cZ cJ : ClassId} {A : Nat → Prop} {cells slots : Nat} {Q : State → Prop} {bs L : Nat} {xs : Nat → Int32} {b a : Nat → Nat} {o : Nat} (H : hl_H p s m c D cI cZ cJ A bs L xs) (hf : cells + 1 ≤ room_1.cells ∧ slots + 6 ≤ room_1.slots) {i : Nat} (hi : i + 5 ≤ L) {f f' : Nat → Int64} {g g' t t' : Nat → Nat → Int32} {k r6 : Int32} {rw rm : Room} (hrw : rw.cells = 1 ∧ rw.slots = 6 ∧ rw.frames + 1 ≤ 11 ∧ 8 + (7 + 11) + rw.locals ≤ 394) (hrm : rm.cells = 0 ∧ rm.slots = 0 ∧ rm.frames + 1 ≤ 11 ∧ 8 + (8 + 11) + rm.locals ≤ 394) (hW : hl_KW D (hl_ty cI cZ cJ) l yL_book wsL_book rw [.ref (a 0), .int (xs (i + 1)), .int (xs (i + 2)), .int (xs (i + 3)), .int (xs (i + 4)), .ref o] (hl_WO o cI cZ cJ f a g) (fun r w => r = k ∧ w = hl_WO o cI cZ cJ f' a g')) (hM : hl_KI D (hl_ty cI cZ cJ) l yX6_book wsX6_book rm 0 0 [.ref (b 0), .int (xs (i + 1)), .int (xs (i + 2)), .int (xs (i + 3)), .int (xs (i + 4))] (hl_WM b cI cZ t) (fun r w => r = r6 ∧ w = hl_WM b cI cZ t')) (ht : t' 23 0 = k) (hv : k = 0 → f' 0 = r6.toInt64) (kk : hl_X p l e room_1 s m #[Value.ref bs] below meth c 7 D A (cells + 1) (slots + 6) Q (hl_LW b a cI cZ cJ o f' t' g') 1252 (hl_LS bs b a o (nI i)) []) : hl_X p l e room_1 s m #[Value.ref bs] below meth c 7 D A cells slots Q (hl_LW b a cI cZ cJ o f t g) 333 (hl_LS bs b a o (nI i)) [] := by
  obtain ⟨h, hz, hX, hbl, hbA, hL⟩ := id H
  refine hl_aload_n h 1 dL_law_333 rfl ?_
  refine hl_arg H 0 4 (i := i) (j := 1) rfl rfl (by omega) (by decide) dL_law_334 dL_law_335 dL_law_337 dL_law_338 dL_law_339 ?_
  refine hl_arg H 0 4 (i := i) (j := 2) rfl rfl (by omega) (by decide) dL_law_340 dL_law_341 dL_law_343 dL_law_344 dL_law_345 ?_
  refine hl_arg H 0 4 (i := i) (j := 3) rfl rfl (by omega) (by decide) dL_law_346 dL_law_347 dL_law_349 dL_law_350 dL_law_351 ?_
  refine hl_arg H 0 4 (i := i) (j := 4) rfl rfl (by omega) (by decide) dL_law_352 dL_law_353 dL_law_355 dL_law_356 dL_law_357 ?_
  refine hl_aload_n h 3 dL_law_358 rfl ?_
  refine hl_callW h hz (st := []) (wc := hl_WO o cI cZ cJ f a g) (wr := hl_WM b cI cZ t) [19, 20, 21, 22, 23, 24, 25, 26, 27, 28, 29, 30, 31, 32, 33, 34, 35, 36, 37, 38, 39, 40, 41, 42, 43, 44] [0, 1, 2, 3, 4, 5, 6, 7, 8, 9, 10, 11, 12, 13, 14, 15, 16, 17, 18] rfl rfl (by decide) (by decide) (by decide) hW (vx_cwSW 6 h.2.2.2.2.1 gL_law_L_book rfl hrw.1 hrw.2.1 (by decide +kernel) hrw.2.2) dL_law_359 rfl (Nat.le_of_ble_eq_true rfl) hf rfl (fun r w1 hp => ?_)
  rw [hp.1, hp.2]
  refine hl_wd (w' := hl_LW b a cI cZ cJ o f' t g') rfl ?_
  refine hl_istore h ((5, .int k) :: hl_LS bs b a o (nI i)) dL_law_362 (by decide) rfl ?_
  refine hl_aload_n h 3 dL_law_364 rfl ?_
  refine hl_arg H 1 5 (i := i) (j := 1) rfl rfl (by omega) (by decide) dL_law_365 dL_law_366 dL_law_368 dL_law_369 dL_law_370 ?_
  refine hl_arg H 1 5 (i := i) (j := 2) rfl rfl (by omega) (by decide) dL_law_371 dL_law_372 dL_law_374 dL_law_375 dL_law_376 ?_
  refine hl_arg H 1 5 (i := i) (j := 3) rfl rfl (by omega) (by decide) dL_law_377 dL_law_378 dL_law_380 dL_law_381 dL_law_382 ?_
  refine hl_arg H 1 5 (i := i) (j := 4) rfl rfl (by omega) (by decide) dL_law_383 dL_law_384 dL_law_386 dL_law_387 dL_law_388 ?_
  refine hl_callPViD h (st := []) (wc := hl_WM b cI cZ t) (wr := hl_WO o cI cZ cJ f' a g') [0, 1, 2, 3, 4, 5, 6, 7, 8, 9, 10, 11, 12, 13, 14, 15, 16, 17, 18] [19, 20, 21, 22, 23, 24, 25, 26, 27, 28, 29, 30, 31, 32, 33, 34, 35, 36, 37, 38, 39, 40, 41, 42, 43, 44] rfl rfl (by decide) (by decide) (by decide) hM (cwV 4 h.2.2.2.2.1 gL_law_X6_book rfl hrm.1 hrm.2.1 (by decide +kernel) hrm.2.2) (q0 := 0) rfl rfl dL_law_389 rfl (Nat.le_of_ble_eq_true rfl) hf rfl ?_
  refine hl_wsub [26, 27, 28, 29, 30, 31, 32, 33, 34, 35, 36, 37, 38, 39, 40, 41, 42, 43, 44, 0, 1, 2, 3, 4, 5, 6, 7, 8, 9, 10, 11, 12, 13, 14, 15, 16, 17, 18, 19, 20, 21, 22, 23, 24, 25] (w' := hl_LW b a cI cZ cJ o f' t' g') (by decide) rfl ?_
  exact hl_tail H hf ht hv dL_law_392 dL_law_394 dL_law_395 dL_law_398 dL_law_400 dL_law_405 dL_law_407 dL_law_410 dL_law_411 dL_law_412 dL_law_413 dL_law_415 dL_law_416 dL_law_417 dL_law_422 (by decide) kk

set_option maxHeartbeats 4000000 in
set_option maxRecDepth 100000 in
theorem lw_come {p : Program} {l : Launch} {e : Env} {s : State} {m : MethodId} {below : List Frame} {meth : Method} {c : Code} {D : va_G} {cI cZ cJ : ClassId} {A : Nat → Prop} {cells slots : Nat} {Q : State → Prop} {bs L : Nat} {xs : Nat → Int32} {b a : Nat → Nat} {o : Nat} (H : hl_H p s m c D cI cZ cJ A bs L xs) (hf : cells + 1 ≤ room_1.cells ∧ slots + 6 ≤ room_1.slots) {i : Nat} (hi : i + 5 ≤ L) {f f' : Nat → Int64} {g g' t t' : Nat → Nat → Int32} {k r6 : Int32} {rw rm : Room} (hrw : rw.cells = 1 ∧ rw.slots = 6 ∧ rw.frames + 1 ≤ 11 ∧ 8 + (4 + 11) + rw.locals ≤ 394) (hrm : rm.cells = 0 ∧ rm.slots = 0 ∧ rm.frames + 1 ≤ 11 ∧ 8 + (5 + 11) + rm.locals ≤ 394) (hW : hl_KW D (hl_ty cI cZ cJ) l yL_come wsL_come rw [.ref (a 0), .int (xs (i + 1)), .ref o] (hl_WO o cI cZ cJ f a g) (fun r w => r = k ∧ w = hl_WO o cI cZ cJ f' a g')) (hM : hl_KI D (hl_ty cI cZ cJ) l yX6_come wsX6_come rm 0 0 [.ref (b 0), .int (xs (i + 1))] (hl_WM b cI cZ t) (fun r w => r = r6 ∧ w = hl_WM b cI cZ t')) (ht : t' 23 0 = k) (hv : k = 0 → f' 0 = r6.toInt64) (kk : hl_X p l e room_1 s m #[Value.ref bs] below meth c 7 D A (cells + 1) (slots + 6) Q (hl_LW b a cI cZ cJ o f' t' g') 1252 (hl_LS bs b a o (nI i)) []) : hl_X p l e room_1 s m #[Value.ref bs] below meth c 7 D A cells slots Q (hl_LW b a cI cZ cJ o f t g) 425 (hl_LS bs b a o (nI i)) [] := by
  obtain ⟨h, hz, hX, hbl, hbA, hL⟩ := id H
  refine hl_aload_n h 1 dL_law_425 rfl ?_
  refine hl_arg H 0 4 (i := i) (j := 1) rfl rfl (by omega) (by decide) dL_law_426 dL_law_427 dL_law_429 dL_law_430 dL_law_431 ?_
  refine hl_aload_n h 3 dL_law_432 rfl ?_
  refine hl_callW h hz (st := []) (wc := hl_WO o cI cZ cJ f a g) (wr := hl_WM b cI cZ t) [19, 20, 21, 22, 23, 24, 25, 26, 27, 28, 29, 30, 31, 32, 33, 34, 35, 36, 37, 38, 39, 40, 41, 42, 43, 44] [0, 1, 2, 3, 4, 5, 6, 7, 8, 9, 10, 11, 12, 13, 14, 15, 16, 17, 18] rfl rfl (by decide) (by decide) (by decide) hW (vx_cwSW 3 h.2.2.2.2.1 gL_law_L_come rfl hrw.1 hrw.2.1 (by decide +kernel) hrw.2.2) dL_law_433 rfl (Nat.le_of_ble_eq_true rfl) hf rfl (fun r w1 hp => ?_)
  rw [hp.1, hp.2]
  refine hl_wd (w' := hl_LW b a cI cZ cJ o f' t g') rfl ?_
  refine hl_istore h ((5, .int k) :: hl_LS bs b a o (nI i)) dL_law_436 (by decide) rfl ?_
  refine hl_aload_n h 3 dL_law_438 rfl ?_
  refine hl_arg H 1 5 (i := i) (j := 1) rfl rfl (by omega) (by decide) dL_law_439 dL_law_440 dL_law_442 dL_law_443 dL_law_444 ?_
  refine hl_callPViD h (st := []) (wc := hl_WM b cI cZ t) (wr := hl_WO o cI cZ cJ f' a g') [0, 1, 2, 3, 4, 5, 6, 7, 8, 9, 10, 11, 12, 13, 14, 15, 16, 17, 18] [19, 20, 21, 22, 23, 24, 25, 26, 27, 28, 29, 30, 31, 32, 33, 34, 35, 36, 37, 38, 39, 40, 41, 42, 43, 44] rfl rfl (by decide) (by decide) (by decide) hM (cwV 1 h.2.2.2.2.1 gL_law_X6_come rfl hrm.1 hrm.2.1 (by decide +kernel) hrm.2.2) (q0 := 0) rfl rfl dL_law_445 rfl (Nat.le_of_ble_eq_true rfl) hf rfl ?_
  refine hl_wsub [26, 27, 28, 29, 30, 31, 32, 33, 34, 35, 36, 37, 38, 39, 40, 41, 42, 43, 44, 0, 1, 2, 3, 4, 5, 6, 7, 8, 9, 10, 11, 12, 13, 14, 15, 16, 17, 18, 19, 20, 21, 22, 23, 24, 25] (w' := hl_LW b a cI cZ cJ o f' t' g') (by decide) rfl ?_
  exact hl_tail H hf ht hv dL_law_448 dL_law_450 dL_law_451 dL_law_454 dL_law_456 dL_law_461 dL_law_463 dL_law_466 dL_law_467 dL_law_468 dL_law_469 dL_law_471 dL_law_472 dL_law_473 dL_law_478 (by decide) kk

set_option maxHeartbeats 4000000 in
set_option maxRecDepth 100000 in
theorem lw_burn {p : Program} {l : Launch} {e : Env} {s : State} {m : MethodId} {below : List Frame} {meth : Method} {c : Code} {D : va_G} {cI cZ cJ : ClassId} {A : Nat → Prop} {cells slots : Nat} {Q : State → Prop} {bs L : Nat} {xs : Nat → Int32} {b a : Nat → Nat} {o : Nat} (H : hl_H p s m c D cI cZ cJ A bs L xs) (hf : cells + 1 ≤ room_1.cells ∧ slots + 6 ≤ room_1.slots) {i : Nat} (hi : i + 5 ≤ L) {f f' : Nat → Int64} {g g' t t' : Nat → Nat → Int32} {k r6 : Int32} {rw rm : Room} (hrw : rw.cells = 1 ∧ rw.slots = 6 ∧ rw.frames + 1 ≤ 11 ∧ 8 + (6 + 11) + rw.locals ≤ 394) (hrm : rm.cells = 0 ∧ rm.slots = 0 ∧ rm.frames + 1 ≤ 11 ∧ 8 + (8 + 11) + rm.locals ≤ 394) (hW : hl_KW D (hl_ty cI cZ cJ) l yL_burn wsL_burn rw [.ref (a 0), .int (xs (i + 1)), .int (xs (i + 2)), .int (xs (i + 3)), .ref o] (hl_WO o cI cZ cJ f a g) (fun r w => r = k ∧ w = hl_WO o cI cZ cJ f' a g')) (hM : hl_KI D (hl_ty cI cZ cJ) l yX6_burn wsX6_burn rm 0 0 [.ref (b 0), .int (xs (i + 1)), .int (xs (i + 2)), .int (xs (i + 3))] (hl_WM b cI cZ t) (fun r w => r = r6 ∧ w = hl_WM b cI cZ t')) (ht : t' 23 0 = k) (hv : k = 0 → f' 0 = r6.toInt64) (kk : hl_X p l e room_1 s m #[Value.ref bs] below meth c 7 D A (cells + 1) (slots + 6) Q (hl_LW b a cI cZ cJ o f' t' g') 1252 (hl_LS bs b a o (nI i)) []) : hl_X p l e room_1 s m #[Value.ref bs] below meth c 7 D A cells slots Q (hl_LW b a cI cZ cJ o f t g) 481 (hl_LS bs b a o (nI i)) [] := by
  obtain ⟨h, hz, hX, hbl, hbA, hL⟩ := id H
  refine hl_aload_n h 1 dL_law_481 rfl ?_
  refine hl_arg H 0 4 (i := i) (j := 1) rfl rfl (by omega) (by decide) dL_law_482 dL_law_483 dL_law_485 dL_law_486 dL_law_487 ?_
  refine hl_arg H 0 4 (i := i) (j := 2) rfl rfl (by omega) (by decide) dL_law_488 dL_law_489 dL_law_491 dL_law_492 dL_law_493 ?_
  refine hl_arg H 0 4 (i := i) (j := 3) rfl rfl (by omega) (by decide) dL_law_494 dL_law_495 dL_law_497 dL_law_498 dL_law_499 ?_
  refine hl_aload_n h 3 dL_law_500 rfl ?_
  refine hl_callW h hz (st := []) (wc := hl_WO o cI cZ cJ f a g) (wr := hl_WM b cI cZ t) [19, 20, 21, 22, 23, 24, 25, 26, 27, 28, 29, 30, 31, 32, 33, 34, 35, 36, 37, 38, 39, 40, 41, 42, 43, 44] [0, 1, 2, 3, 4, 5, 6, 7, 8, 9, 10, 11, 12, 13, 14, 15, 16, 17, 18] rfl rfl (by decide) (by decide) (by decide) hW (vx_cwSW 5 h.2.2.2.2.1 gL_law_L_burn rfl hrw.1 hrw.2.1 (by decide +kernel) hrw.2.2) dL_law_501 rfl (Nat.le_of_ble_eq_true rfl) hf rfl (fun r w1 hp => ?_)
  rw [hp.1, hp.2]
  refine hl_wd (w' := hl_LW b a cI cZ cJ o f' t g') rfl ?_
  refine hl_istore h ((5, .int k) :: hl_LS bs b a o (nI i)) dL_law_504 (by decide) rfl ?_
  refine hl_aload_n h 3 dL_law_506 rfl ?_
  refine hl_arg H 1 5 (i := i) (j := 1) rfl rfl (by omega) (by decide) dL_law_507 dL_law_508 dL_law_510 dL_law_511 dL_law_512 ?_
  refine hl_arg H 1 5 (i := i) (j := 2) rfl rfl (by omega) (by decide) dL_law_513 dL_law_514 dL_law_516 dL_law_517 dL_law_518 ?_
  refine hl_arg H 1 5 (i := i) (j := 3) rfl rfl (by omega) (by decide) dL_law_519 dL_law_520 dL_law_522 dL_law_523 dL_law_524 ?_
  refine hl_callPViD h (st := []) (wc := hl_WM b cI cZ t) (wr := hl_WO o cI cZ cJ f' a g') [0, 1, 2, 3, 4, 5, 6, 7, 8, 9, 10, 11, 12, 13, 14, 15, 16, 17, 18] [19, 20, 21, 22, 23, 24, 25, 26, 27, 28, 29, 30, 31, 32, 33, 34, 35, 36, 37, 38, 39, 40, 41, 42, 43, 44] rfl rfl (by decide) (by decide) (by decide) hM (cwV 3 h.2.2.2.2.1 gL_law_X6_burn rfl hrm.1 hrm.2.1 (by decide +kernel) hrm.2.2) (q0 := 0) rfl rfl dL_law_525 rfl (Nat.le_of_ble_eq_true rfl) hf rfl ?_
  refine hl_wsub [26, 27, 28, 29, 30, 31, 32, 33, 34, 35, 36, 37, 38, 39, 40, 41, 42, 43, 44, 0, 1, 2, 3, 4, 5, 6, 7, 8, 9, 10, 11, 12, 13, 14, 15, 16, 17, 18, 19, 20, 21, 22, 23, 24, 25] (w' := hl_LW b a cI cZ cJ o f' t' g') (by decide) rfl ?_
  exact hl_tail H hf ht hv dL_law_528 dL_law_530 dL_law_531 dL_law_534 dL_law_536 dL_law_541 dL_law_543 dL_law_546 dL_law_547 dL_law_548 dL_law_549 dL_law_551 dL_law_552 dL_law_553 dL_law_558 (by decide) kk

set_option maxHeartbeats 4000000 in
set_option maxRecDepth 100000 in
theorem lw_night {p : Program} {l : Launch} {e : Env} {s : State} {m : MethodId} {below : List Frame} {meth : Method} {c : Code} {D : va_G} {cI cZ cJ : ClassId} {A : Nat → Prop} {cells slots : Nat} {Q : State → Prop} {bs L : Nat} {xs : Nat → Int32} {b a : Nat → Nat} {o : Nat} (H : hl_H p s m c D cI cZ cJ A bs L xs) (hf : cells + 1 ≤ room_1.cells ∧ slots + 6 ≤ room_1.slots) {i : Nat} (hi : i + 5 ≤ L) {f f' : Nat → Int64} {g g' t t' : Nat → Nat → Int32} {k r6 : Int32} {rw rm : Room} (hrw : rw.cells = 1 ∧ rw.slots = 6 ∧ rw.frames + 1 ≤ 11 ∧ 8 + (3 + 11) + rw.locals ≤ 394) (hrm : rm.cells = 0 ∧ rm.slots = 0 ∧ rm.frames + 1 ≤ 11 ∧ 8 + (4 + 11) + rm.locals ≤ 394) (hW : hl_KW D (hl_ty cI cZ cJ) l yL_night wsL_night rw [.ref (a 0), .ref o] (hl_WO o cI cZ cJ f a g) (fun r w => r = k ∧ w = hl_WO o cI cZ cJ f' a g')) (hM : hl_KI D (hl_ty cI cZ cJ) l yX6_night wsX6_night rm 0 0 [.ref (b 0)] (hl_WM b cI cZ t) (fun r w => r = r6 ∧ w = hl_WM b cI cZ t')) (ht : t' 23 0 = k) (hv : k = 0 → f' 0 = r6.toInt64) (kk : hl_X p l e room_1 s m #[Value.ref bs] below meth c 7 D A (cells + 1) (slots + 6) Q (hl_LW b a cI cZ cJ o f' t' g') 1252 (hl_LS bs b a o (nI i)) []) : hl_X p l e room_1 s m #[Value.ref bs] below meth c 7 D A cells slots Q (hl_LW b a cI cZ cJ o f t g) 561 (hl_LS bs b a o (nI i)) [] := by
  obtain ⟨h, hz, hX, hbl, hbA, hL⟩ := id H
  refine hl_aload_n h 1 dL_law_561 rfl ?_
  refine hl_aload_n h 3 dL_law_562 rfl ?_
  refine hl_callW h hz (st := []) (wc := hl_WO o cI cZ cJ f a g) (wr := hl_WM b cI cZ t) [19, 20, 21, 22, 23, 24, 25, 26, 27, 28, 29, 30, 31, 32, 33, 34, 35, 36, 37, 38, 39, 40, 41, 42, 43, 44] [0, 1, 2, 3, 4, 5, 6, 7, 8, 9, 10, 11, 12, 13, 14, 15, 16, 17, 18] rfl rfl (by decide) (by decide) (by decide) hW (vx_cwSW 2 h.2.2.2.2.1 gL_law_L_night rfl hrw.1 hrw.2.1 (by decide +kernel) hrw.2.2) dL_law_563 rfl (Nat.le_of_ble_eq_true rfl) hf rfl (fun r w1 hp => ?_)
  rw [hp.1, hp.2]
  refine hl_wd (w' := hl_LW b a cI cZ cJ o f' t g') rfl ?_
  refine hl_istore h ((5, .int k) :: hl_LS bs b a o (nI i)) dL_law_566 (by decide) rfl ?_
  refine hl_aload_n h 3 dL_law_568 rfl ?_
  refine hl_callPViD h (st := []) (wc := hl_WM b cI cZ t) (wr := hl_WO o cI cZ cJ f' a g') [0, 1, 2, 3, 4, 5, 6, 7, 8, 9, 10, 11, 12, 13, 14, 15, 16, 17, 18] [19, 20, 21, 22, 23, 24, 25, 26, 27, 28, 29, 30, 31, 32, 33, 34, 35, 36, 37, 38, 39, 40, 41, 42, 43, 44] rfl rfl (by decide) (by decide) (by decide) hM (cwV 0 h.2.2.2.2.1 gL_law_X6_night rfl hrm.1 hrm.2.1 (by decide +kernel) hrm.2.2) (q0 := 0) rfl rfl dL_law_569 rfl (Nat.le_of_ble_eq_true rfl) hf rfl ?_
  refine hl_wsub [26, 27, 28, 29, 30, 31, 32, 33, 34, 35, 36, 37, 38, 39, 40, 41, 42, 43, 44, 0, 1, 2, 3, 4, 5, 6, 7, 8, 9, 10, 11, 12, 13, 14, 15, 16, 17, 18, 19, 20, 21, 22, 23, 24, 25] (w' := hl_LW b a cI cZ cJ o f' t' g') (by decide) rfl ?_
  exact hl_tail H hf ht hv dL_law_572 dL_law_574 dL_law_575 dL_law_578 dL_law_580 dL_law_585 dL_law_587 dL_law_590 dL_law_591 dL_law_592 dL_law_593 dL_law_595 dL_law_596 dL_law_597 dL_law_602 (by decide) kk

set_option maxHeartbeats 4000000 in
set_option maxRecDepth 100000 in
theorem lw_free {p : Program} {l : Launch} {e : Env} {s : State} {m : MethodId} {below : List Frame} {meth : Method} {c : Code} {D : va_G} {cI cZ cJ : ClassId} {A : Nat → Prop} {cells slots : Nat} {Q : State → Prop} {bs L : Nat} {xs : Nat → Int32} {b a : Nat → Nat} {o : Nat} (H : hl_H p s m c D cI cZ cJ A bs L xs) (hf : cells + 1 ≤ room_1.cells ∧ slots + 6 ≤ room_1.slots) {i : Nat} (hi : i + 5 ≤ L) {f f' : Nat → Int64} {g g' t t' : Nat → Nat → Int32} {k r6 : Int32} {rw rm : Room} (hrw : rw.cells = 1 ∧ rw.slots = 6 ∧ rw.frames + 1 ≤ 11 ∧ 8 + (5 + 11) + rw.locals ≤ 394) (hrm : rm.cells = 0 ∧ rm.slots = 0 ∧ rm.frames + 1 ≤ 11 ∧ 8 + (4 + 11) + rm.locals ≤ 394) (hW : hl_KW D (hl_ty cI cZ cJ) l yL_free wsL_free rw [.ref (a 0), .int (xs (i + 1)), .int (xs (i + 2)), .ref o] (hl_WO o cI cZ cJ f a g) (fun r w => r = k ∧ w = hl_WO o cI cZ cJ f' a g')) (hM : hl_KI D (hl_ty cI cZ cJ) l yX6_free wsX6_free rm 0 0 [.ref (b 0), .int (xs (i + 1)), .int (xs (i + 2))] (hl_WM b cI cZ t) (fun r w => r = r6 ∧ w = hl_WM b cI cZ t')) (ht : t' 23 0 = k) (hv : k = 0 → f' 0 = r6.toInt64) (kk : hl_X p l e room_1 s m #[Value.ref bs] below meth c 7 D A (cells + 1) (slots + 6) Q (hl_LW b a cI cZ cJ o f' t' g') 1252 (hl_LS bs b a o (nI i)) []) : hl_X p l e room_1 s m #[Value.ref bs] below meth c 7 D A cells slots Q (hl_LW b a cI cZ cJ o f t g) 644 (hl_LS bs b a o (nI i)) [] := by
  obtain ⟨h, hz, hX, hbl, hbA, hL⟩ := id H
  refine hl_aload_n h 1 dL_law_644 rfl ?_
  refine hl_arg H 0 4 (i := i) (j := 1) rfl rfl (by omega) (by decide) dL_law_645 dL_law_646 dL_law_648 dL_law_649 dL_law_650 ?_
  refine hl_arg H 0 4 (i := i) (j := 2) rfl rfl (by omega) (by decide) dL_law_651 dL_law_652 dL_law_654 dL_law_655 dL_law_656 ?_
  refine hl_aload_n h 3 dL_law_657 rfl ?_
  refine hl_callW h hz (st := []) (wc := hl_WO o cI cZ cJ f a g) (wr := hl_WM b cI cZ t) [19, 20, 21, 22, 23, 24, 25, 26, 27, 28, 29, 30, 31, 32, 33, 34, 35, 36, 37, 38, 39, 40, 41, 42, 43, 44] [0, 1, 2, 3, 4, 5, 6, 7, 8, 9, 10, 11, 12, 13, 14, 15, 16, 17, 18] rfl rfl (by decide) (by decide) (by decide) hW (vx_cwSW 4 h.2.2.2.2.1 gL_law_L_free rfl hrw.1 hrw.2.1 (by decide +kernel) hrw.2.2) dL_law_658 rfl (Nat.le_of_ble_eq_true rfl) hf rfl (fun r w1 hp => ?_)
  rw [hp.1, hp.2]
  refine hl_wd (w' := hl_LW b a cI cZ cJ o f' t g') rfl ?_
  refine hl_istore h ((5, .int k) :: hl_LS bs b a o (nI i)) dL_law_661 (by decide) rfl ?_
  refine hl_aload_n h 3 dL_law_663 rfl ?_
  refine hl_arg H 1 5 (i := i) (j := 1) rfl rfl (by omega) (by decide) dL_law_664 dL_law_665 dL_law_667 dL_law_668 dL_law_669 ?_
  refine hl_arg H 1 5 (i := i) (j := 2) rfl rfl (by omega) (by decide) dL_law_670 dL_law_671 dL_law_673 dL_law_674 dL_law_675 ?_
  refine hl_callPViD h (st := []) (wc := hl_WM b cI cZ t) (wr := hl_WO o cI cZ cJ f' a g') [0, 1, 2, 3, 4, 5, 6, 7, 8, 9, 10, 11, 12, 13, 14, 15, 16, 17, 18] [19, 20, 21, 22, 23, 24, 25, 26, 27, 28, 29, 30, 31, 32, 33, 34, 35, 36, 37, 38, 39, 40, 41, 42, 43, 44] rfl rfl (by decide) (by decide) (by decide) hM (cwV 2 h.2.2.2.2.1 gL_law_X6_free rfl hrm.1 hrm.2.1 (by decide +kernel) hrm.2.2) (q0 := 0) rfl rfl dL_law_676 rfl (Nat.le_of_ble_eq_true rfl) hf rfl ?_
  refine hl_wsub [26, 27, 28, 29, 30, 31, 32, 33, 34, 35, 36, 37, 38, 39, 40, 41, 42, 43, 44, 0, 1, 2, 3, 4, 5, 6, 7, 8, 9, 10, 11, 12, 13, 14, 15, 16, 17, 18, 19, 20, 21, 22, 23, 24, 25] (w' := hl_LW b a cI cZ cJ o f' t' g') (by decide) rfl ?_
  exact hl_tail H hf ht hv dL_law_679 dL_law_681 dL_law_682 dL_law_685 dL_law_687 dL_law_692 dL_law_694 dL_law_697 dL_law_698 dL_law_699 dL_law_700 dL_law_702 dL_law_703 dL_law_704 dL_law_709 (by decide) kk

set_option maxHeartbeats 4000000 in
set_option maxRecDepth 100000 in
theorem lw_taken {p : Program} {l : Launch} {e : Env} {s : State} {m : MethodId} {below : List Frame} {meth : Method} {c : Code} {D : va_G} {cI cZ cJ : ClassId} {A : Nat → Prop} {cells slots : Nat} {Q : State → Prop} {bs L : Nat} {xs : Nat → Int32} {b a : Nat → Nat} {o : Nat} (H : hl_H p s m c D cI cZ cJ A bs L xs) (hf : cells + 1 ≤ room_1.cells ∧ slots + 6 ≤ room_1.slots) {i : Nat} (hi : i + 5 ≤ L) {f f' : Nat → Int64} {g g' t t' : Nat → Nat → Int32} {k r6 : Int32} {rw rm : Room} (hrw : rw.cells = 1 ∧ rw.slots = 6 ∧ rw.frames + 1 ≤ 11 ∧ 8 + (5 + 11) + rw.locals ≤ 394) (hrm : rm.cells = 0 ∧ rm.slots = 0 ∧ rm.frames + 1 ≤ 11 ∧ 8 + (3 + 11) + rm.locals ≤ 394) (hW : hl_KW D (hl_ty cI cZ cJ) l yL_taken wsL_taken rw [.ref (a 0), .int (xs (i + 1)), .int (xs (i + 2)), .ref o] (hl_WO o cI cZ cJ f a g) (fun r w => r = k ∧ w = hl_WO o cI cZ cJ f' a g')) (hM : hl_KI D (hl_ty cI cZ cJ) l yX6_taken wsX6_taken rm 0 0 [.ref (b 0), .int (xs (i + 1)), .int (xs (i + 2))] (hl_WM b cI cZ t) (fun r w => r = r6 ∧ w = hl_WM b cI cZ t')) (ht : t' 23 0 = k) (hv : k = 0 → f' 0 = r6.toInt64) (kk : hl_X p l e room_1 s m #[Value.ref bs] below meth c 7 D A (cells + 1) (slots + 6) Q (hl_LW b a cI cZ cJ o f' t' g') 1252 (hl_LS bs b a o (nI i)) []) : hl_X p l e room_1 s m #[Value.ref bs] below meth c 7 D A cells slots Q (hl_LW b a cI cZ cJ o f t g) 712 (hl_LS bs b a o (nI i)) [] := by
  obtain ⟨h, hz, hX, hbl, hbA, hL⟩ := id H
  refine hl_aload_n h 1 dL_law_712 rfl ?_
  refine hl_arg H 0 4 (i := i) (j := 1) rfl rfl (by omega) (by decide) dL_law_713 dL_law_714 dL_law_716 dL_law_717 dL_law_718 ?_
  refine hl_arg H 0 4 (i := i) (j := 2) rfl rfl (by omega) (by decide) dL_law_719 dL_law_720 dL_law_722 dL_law_723 dL_law_724 ?_
  refine hl_aload_n h 3 dL_law_725 rfl ?_
  refine hl_callW h hz (st := []) (wc := hl_WO o cI cZ cJ f a g) (wr := hl_WM b cI cZ t) [19, 20, 21, 22, 23, 24, 25, 26, 27, 28, 29, 30, 31, 32, 33, 34, 35, 36, 37, 38, 39, 40, 41, 42, 43, 44] [0, 1, 2, 3, 4, 5, 6, 7, 8, 9, 10, 11, 12, 13, 14, 15, 16, 17, 18] rfl rfl (by decide) (by decide) (by decide) hW (vx_cwSW 4 h.2.2.2.2.1 gL_law_L_taken rfl hrw.1 hrw.2.1 (by decide +kernel) hrw.2.2) dL_law_726 rfl (Nat.le_of_ble_eq_true rfl) hf rfl (fun r w1 hp => ?_)
  rw [hp.1, hp.2]
  refine hl_wd (w' := hl_LW b a cI cZ cJ o f' t g') rfl ?_
  refine hl_istore h ((5, .int k) :: hl_LS bs b a o (nI i)) dL_law_729 (by decide) rfl ?_
  refine hl_aload_n h 3 dL_law_731 rfl ?_
  refine hl_arg H 1 5 (i := i) (j := 1) rfl rfl (by omega) (by decide) dL_law_732 dL_law_733 dL_law_735 dL_law_736 dL_law_737 ?_
  refine hl_arg H 1 5 (i := i) (j := 2) rfl rfl (by omega) (by decide) dL_law_738 dL_law_739 dL_law_741 dL_law_742 dL_law_743 ?_
  refine hl_callPViD h (st := []) (wc := hl_WM b cI cZ t) (wr := hl_WO o cI cZ cJ f' a g') [0, 1, 2, 3, 4, 5, 6, 7, 8, 9, 10, 11, 12, 13, 14, 15, 16, 17, 18] [19, 20, 21, 22, 23, 24, 25, 26, 27, 28, 29, 30, 31, 32, 33, 34, 35, 36, 37, 38, 39, 40, 41, 42, 43, 44] rfl rfl (by decide) (by decide) (by decide) hM (cwV 2 h.2.2.2.2.1 gL_law_X6_taken rfl hrm.1 hrm.2.1 (by decide +kernel) hrm.2.2) (q0 := 0) rfl rfl dL_law_744 rfl (Nat.le_of_ble_eq_true rfl) hf rfl ?_
  refine hl_wsub [26, 27, 28, 29, 30, 31, 32, 33, 34, 35, 36, 37, 38, 39, 40, 41, 42, 43, 44, 0, 1, 2, 3, 4, 5, 6, 7, 8, 9, 10, 11, 12, 13, 14, 15, 16, 17, 18, 19, 20, 21, 22, 23, 24, 25] (w' := hl_LW b a cI cZ cJ o f' t' g') (by decide) rfl ?_
  exact hl_tail H hf ht hv dL_law_747 dL_law_749 dL_law_750 dL_law_753 dL_law_755 dL_law_760 dL_law_762 dL_law_765 dL_law_766 dL_law_767 dL_law_768 dL_law_770 dL_law_771 dL_law_772 dL_law_777 (by decide) kk

set_option maxHeartbeats 4000000 in
set_option maxRecDepth 100000 in
theorem lw_takenByBookings {p : Program} {l : Launch} {e : Env} {s : State} {m : MethodId} {below : List Frame} {meth : Method} {c : Code} {D : va_G} {cI cZ cJ : ClassId} {A : Nat → Prop} {cells slots : Nat} {Q : State → Prop} {bs L : Nat} {xs : Nat → Int32} {b a : Nat → Nat} {o : Nat} (H : hl_H p s m c D cI cZ cJ A bs L xs) (hf : cells + 1 ≤ room_1.cells ∧ slots + 6 ≤ room_1.slots) {i : Nat} (hi : i + 5 ≤ L) {f f' : Nat → Int64} {g g' t t' : Nat → Nat → Int32} {k r6 : Int32} {rw rm : Room} (hrw : rw.cells = 1 ∧ rw.slots = 6 ∧ rw.frames + 1 ≤ 11 ∧ 8 + (5 + 11) + rw.locals ≤ 394) (hrm : rm.cells = 0 ∧ rm.slots = 0 ∧ rm.frames + 1 ≤ 11 ∧ 8 + (5 + 11) + rm.locals ≤ 394) (hW : hl_KW D (hl_ty cI cZ cJ) l yL_takenByBookings wsL_takenByBookings rw [.ref (a 0), .int (xs (i + 1)), .int (xs (i + 2)), .ref o] (hl_WO o cI cZ cJ f a g) (fun r w => r = k ∧ w = hl_WO o cI cZ cJ f' a g')) (hM : hl_KI D (hl_ty cI cZ cJ) l yX6_takenByBookings wsX6_takenByBookings rm 0 0 [.ref (b 0), .int (xs (i + 1)), .int (xs (i + 2))] (hl_WM b cI cZ t) (fun r w => r = r6 ∧ w = hl_WM b cI cZ t')) (ht : t' 23 0 = k) (hv : k = 0 → f' 0 = r6.toInt64) (kk : hl_X p l e room_1 s m #[Value.ref bs] below meth c 7 D A (cells + 1) (slots + 6) Q (hl_LW b a cI cZ cJ o f' t' g') 1252 (hl_LS bs b a o (nI i)) []) : hl_X p l e room_1 s m #[Value.ref bs] below meth c 7 D A cells slots Q (hl_LW b a cI cZ cJ o f t g) 780 (hl_LS bs b a o (nI i)) [] := by
  obtain ⟨h, hz, hX, hbl, hbA, hL⟩ := id H
  refine hl_aload_n h 1 dL_law_780 rfl ?_
  refine hl_arg H 0 4 (i := i) (j := 1) rfl rfl (by omega) (by decide) dL_law_781 dL_law_782 dL_law_784 dL_law_785 dL_law_786 ?_
  refine hl_arg H 0 4 (i := i) (j := 2) rfl rfl (by omega) (by decide) dL_law_787 dL_law_788 dL_law_790 dL_law_791 dL_law_792 ?_
  refine hl_aload_n h 3 dL_law_793 rfl ?_
  refine hl_callW h hz (st := []) (wc := hl_WO o cI cZ cJ f a g) (wr := hl_WM b cI cZ t) [19, 20, 21, 22, 23, 24, 25, 26, 27, 28, 29, 30, 31, 32, 33, 34, 35, 36, 37, 38, 39, 40, 41, 42, 43, 44] [0, 1, 2, 3, 4, 5, 6, 7, 8, 9, 10, 11, 12, 13, 14, 15, 16, 17, 18] rfl rfl (by decide) (by decide) (by decide) hW (vx_cwSW 4 h.2.2.2.2.1 gL_law_L_takenByBookings rfl hrw.1 hrw.2.1 (by decide +kernel) hrw.2.2) dL_law_794 rfl (Nat.le_of_ble_eq_true rfl) hf rfl (fun r w1 hp => ?_)
  rw [hp.1, hp.2]
  refine hl_wd (w' := hl_LW b a cI cZ cJ o f' t g') rfl ?_
  refine hl_istore h ((5, .int k) :: hl_LS bs b a o (nI i)) dL_law_797 (by decide) rfl ?_
  refine hl_aload_n h 3 dL_law_799 rfl ?_
  refine hl_arg H 1 5 (i := i) (j := 1) rfl rfl (by omega) (by decide) dL_law_800 dL_law_801 dL_law_803 dL_law_804 dL_law_805 ?_
  refine hl_arg H 1 5 (i := i) (j := 2) rfl rfl (by omega) (by decide) dL_law_806 dL_law_807 dL_law_809 dL_law_810 dL_law_811 ?_
  refine hl_callPViD h (st := []) (wc := hl_WM b cI cZ t) (wr := hl_WO o cI cZ cJ f' a g') [0, 1, 2, 3, 4, 5, 6, 7, 8, 9, 10, 11, 12, 13, 14, 15, 16, 17, 18] [19, 20, 21, 22, 23, 24, 25, 26, 27, 28, 29, 30, 31, 32, 33, 34, 35, 36, 37, 38, 39, 40, 41, 42, 43, 44] rfl rfl (by decide) (by decide) (by decide) hM (cwV 2 h.2.2.2.2.1 gL_law_X6_takenByBookings rfl hrm.1 hrm.2.1 (by decide +kernel) hrm.2.2) (q0 := 0) rfl rfl dL_law_812 rfl (Nat.le_of_ble_eq_true rfl) hf rfl ?_
  refine hl_wsub [26, 27, 28, 29, 30, 31, 32, 33, 34, 35, 36, 37, 38, 39, 40, 41, 42, 43, 44, 0, 1, 2, 3, 4, 5, 6, 7, 8, 9, 10, 11, 12, 13, 14, 15, 16, 17, 18, 19, 20, 21, 22, 23, 24, 25] (w' := hl_LW b a cI cZ cJ o f' t' g') (by decide) rfl ?_
  exact hl_tail H hf ht hv dL_law_815 dL_law_817 dL_law_818 dL_law_821 dL_law_823 dL_law_828 dL_law_830 dL_law_833 dL_law_834 dL_law_835 dL_law_836 dL_law_838 dL_law_839 dL_law_840 dL_law_845 (by decide) kk

set_option maxHeartbeats 4000000 in
set_option maxRecDepth 100000 in
theorem lw_extra {p : Program} {l : Launch} {e : Env} {s : State} {m : MethodId} {below : List Frame} {meth : Method} {c : Code} {D : va_G} {cI cZ cJ : ClassId} {A : Nat → Prop} {cells slots : Nat} {Q : State → Prop} {bs L : Nat} {xs : Nat → Int32} {b a : Nat → Nat} {o : Nat} (H : hl_H p s m c D cI cZ cJ A bs L xs) (hf : cells + 1 ≤ room_1.cells ∧ slots + 6 ≤ room_1.slots) {i : Nat} (hi : i + 5 ≤ L) {f f' : Nat → Int64} {g g' t t' : Nat → Nat → Int32} {k r6 : Int32} {rw rm : Room} (hrw : rw.cells = 1 ∧ rw.slots = 6 ∧ rw.frames + 1 ≤ 11 ∧ 8 + (4 + 11) + rw.locals ≤ 394) (hrm : rm.cells = 0 ∧ rm.slots = 0 ∧ rm.frames + 1 ≤ 11 ∧ 8 + (2 + 11) + rm.locals ≤ 394) (hW : hl_KW D (hl_ty cI cZ cJ) l yL_extra wsL_extra rw [.ref (a 0), .int (xs (i + 1)), .ref o] (hl_WO o cI cZ cJ f a g) (fun r w => r = k ∧ w = hl_WO o cI cZ cJ f' a g')) (hM : hl_KI D (hl_ty cI cZ cJ) l yX6_extra wsX6_extra rm 0 0 [.ref (b 0), .int (xs (i + 1))] (hl_WM b cI cZ t) (fun r w => r = r6 ∧ w = hl_WM b cI cZ t')) (ht : t' 23 0 = k) (hv : k = 0 → f' 0 = r6.toInt64) (kk : hl_X p l e room_1 s m #[Value.ref bs] below meth c 7 D A (cells + 1) (slots + 6) Q (hl_LW b a cI cZ cJ o f' t' g') 1252 (hl_LS bs b a o (nI i)) []) : hl_X p l e room_1 s m #[Value.ref bs] below meth c 7 D A cells slots Q (hl_LW b a cI cZ cJ o f t g) 848 (hl_LS bs b a o (nI i)) [] := by
  obtain ⟨h, hz, hX, hbl, hbA, hL⟩ := id H
  refine hl_aload_n h 1 dL_law_848 rfl ?_
  refine hl_arg H 0 4 (i := i) (j := 1) rfl rfl (by omega) (by decide) dL_law_849 dL_law_850 dL_law_852 dL_law_853 dL_law_854 ?_
  refine hl_aload_n h 3 dL_law_855 rfl ?_
  refine hl_callW h hz (st := []) (wc := hl_WO o cI cZ cJ f a g) (wr := hl_WM b cI cZ t) [19, 20, 21, 22, 23, 24, 25, 26, 27, 28, 29, 30, 31, 32, 33, 34, 35, 36, 37, 38, 39, 40, 41, 42, 43, 44] [0, 1, 2, 3, 4, 5, 6, 7, 8, 9, 10, 11, 12, 13, 14, 15, 16, 17, 18] rfl rfl (by decide) (by decide) (by decide) hW (vx_cwSW 3 h.2.2.2.2.1 gL_law_L_extra rfl hrw.1 hrw.2.1 (by decide +kernel) hrw.2.2) dL_law_856 rfl (Nat.le_of_ble_eq_true rfl) hf rfl (fun r w1 hp => ?_)
  rw [hp.1, hp.2]
  refine hl_wd (w' := hl_LW b a cI cZ cJ o f' t g') rfl ?_
  refine hl_istore h ((5, .int k) :: hl_LS bs b a o (nI i)) dL_law_859 (by decide) rfl ?_
  refine hl_aload_n h 3 dL_law_861 rfl ?_
  refine hl_arg H 1 5 (i := i) (j := 1) rfl rfl (by omega) (by decide) dL_law_862 dL_law_863 dL_law_865 dL_law_866 dL_law_867 ?_
  refine hl_callPViD h (st := []) (wc := hl_WM b cI cZ t) (wr := hl_WO o cI cZ cJ f' a g') [0, 1, 2, 3, 4, 5, 6, 7, 8, 9, 10, 11, 12, 13, 14, 15, 16, 17, 18] [19, 20, 21, 22, 23, 24, 25, 26, 27, 28, 29, 30, 31, 32, 33, 34, 35, 36, 37, 38, 39, 40, 41, 42, 43, 44] rfl rfl (by decide) (by decide) (by decide) hM (cwV 1 h.2.2.2.2.1 gL_law_X6_extra rfl hrm.1 hrm.2.1 (by decide +kernel) hrm.2.2) (q0 := 0) rfl rfl dL_law_868 rfl (Nat.le_of_ble_eq_true rfl) hf rfl ?_
  refine hl_wsub [26, 27, 28, 29, 30, 31, 32, 33, 34, 35, 36, 37, 38, 39, 40, 41, 42, 43, 44, 0, 1, 2, 3, 4, 5, 6, 7, 8, 9, 10, 11, 12, 13, 14, 15, 16, 17, 18, 19, 20, 21, 22, 23, 24, 25] (w' := hl_LW b a cI cZ cJ o f' t' g') (by decide) rfl ?_
  exact hl_tail H hf ht hv dL_law_871 dL_law_873 dL_law_874 dL_law_877 dL_law_879 dL_law_884 dL_law_886 dL_law_889 dL_law_890 dL_law_891 dL_law_892 dL_law_894 dL_law_895 dL_law_896 dL_law_901 (by decide) kk

set_option maxHeartbeats 4000000 in
set_option maxRecDepth 100000 in
theorem lw_clean {p : Program} {l : Launch} {e : Env} {s : State} {m : MethodId} {below : List Frame} {meth : Method} {c : Code} {D : va_G} {cI cZ cJ : ClassId} {A : Nat → Prop} {cells slots : Nat} {Q : State → Prop} {bs L : Nat} {xs : Nat → Int32} {b a : Nat → Nat} {o : Nat} (H : hl_H p s m c D cI cZ cJ A bs L xs) (hf : cells + 1 ≤ room_1.cells ∧ slots + 6 ≤ room_1.slots) {i : Nat} (hi : i + 5 ≤ L) {f f' : Nat → Int64} {g g' t t' : Nat → Nat → Int32} {k r6 : Int32} {rw rm : Room} (hrw : rw.cells = 1 ∧ rw.slots = 6 ∧ rw.frames + 1 ≤ 11 ∧ 8 + (4 + 11) + rw.locals ≤ 394) (hrm : rm.cells = 0 ∧ rm.slots = 0 ∧ rm.frames + 1 ≤ 11 ∧ 8 + (2 + 11) + rm.locals ≤ 394) (hW : hl_KW D (hl_ty cI cZ cJ) l yL_clean wsL_clean rw [.ref (a 0), .int (xs (i + 1)), .ref o] (hl_WO o cI cZ cJ f a g) (fun r w => r = k ∧ w = hl_WO o cI cZ cJ f' a g')) (hM : hl_KI D (hl_ty cI cZ cJ) l yX6_clean wsX6_clean rm 0 0 [.ref (b 0), .int (xs (i + 1))] (hl_WM b cI cZ t) (fun r w => r = r6 ∧ w = hl_WM b cI cZ t')) (ht : t' 23 0 = k) (hv : k = 0 → f' 0 = r6.toInt64) (kk : hl_X p l e room_1 s m #[Value.ref bs] below meth c 7 D A (cells + 1) (slots + 6) Q (hl_LW b a cI cZ cJ o f' t' g') 1252 (hl_LS bs b a o (nI i)) []) : hl_X p l e room_1 s m #[Value.ref bs] below meth c 7 D A cells slots Q (hl_LW b a cI cZ cJ o f t g) 904 (hl_LS bs b a o (nI i)) [] := by
  obtain ⟨h, hz, hX, hbl, hbA, hL⟩ := id H
  refine hl_aload_n h 1 dL_law_904 rfl ?_
  refine hl_arg H 0 4 (i := i) (j := 1) rfl rfl (by omega) (by decide) dL_law_905 dL_law_906 dL_law_908 dL_law_909 dL_law_910 ?_
  refine hl_aload_n h 3 dL_law_911 rfl ?_
  refine hl_callW h hz (st := []) (wc := hl_WO o cI cZ cJ f a g) (wr := hl_WM b cI cZ t) [19, 20, 21, 22, 23, 24, 25, 26, 27, 28, 29, 30, 31, 32, 33, 34, 35, 36, 37, 38, 39, 40, 41, 42, 43, 44] [0, 1, 2, 3, 4, 5, 6, 7, 8, 9, 10, 11, 12, 13, 14, 15, 16, 17, 18] rfl rfl (by decide) (by decide) (by decide) hW (vx_cwSW 3 h.2.2.2.2.1 gL_law_L_clean rfl hrw.1 hrw.2.1 (by decide +kernel) hrw.2.2) dL_law_912 rfl (Nat.le_of_ble_eq_true rfl) hf rfl (fun r w1 hp => ?_)
  rw [hp.1, hp.2]
  refine hl_wd (w' := hl_LW b a cI cZ cJ o f' t g') rfl ?_
  refine hl_istore h ((5, .int k) :: hl_LS bs b a o (nI i)) dL_law_915 (by decide) rfl ?_
  refine hl_aload_n h 3 dL_law_917 rfl ?_
  refine hl_arg H 1 5 (i := i) (j := 1) rfl rfl (by omega) (by decide) dL_law_918 dL_law_919 dL_law_921 dL_law_922 dL_law_923 ?_
  refine hl_callPViD h (st := []) (wc := hl_WM b cI cZ t) (wr := hl_WO o cI cZ cJ f' a g') [0, 1, 2, 3, 4, 5, 6, 7, 8, 9, 10, 11, 12, 13, 14, 15, 16, 17, 18] [19, 20, 21, 22, 23, 24, 25, 26, 27, 28, 29, 30, 31, 32, 33, 34, 35, 36, 37, 38, 39, 40, 41, 42, 43, 44] rfl rfl (by decide) (by decide) (by decide) hM (cwV 1 h.2.2.2.2.1 gL_law_X6_clean rfl hrm.1 hrm.2.1 (by decide +kernel) hrm.2.2) (q0 := 0) rfl rfl dL_law_924 rfl (Nat.le_of_ble_eq_true rfl) hf rfl ?_
  refine hl_wsub [26, 27, 28, 29, 30, 31, 32, 33, 34, 35, 36, 37, 38, 39, 40, 41, 42, 43, 44, 0, 1, 2, 3, 4, 5, 6, 7, 8, 9, 10, 11, 12, 13, 14, 15, 16, 17, 18, 19, 20, 21, 22, 23, 24, 25] (w' := hl_LW b a cI cZ cJ o f' t' g') (by decide) rfl ?_
  exact hl_tail H hf ht hv dL_law_927 dL_law_929 dL_law_930 dL_law_933 dL_law_935 dL_law_940 dL_law_942 dL_law_945 dL_law_946 dL_law_947 dL_law_948 dL_law_950 dL_law_951 dL_law_952 dL_law_957 (by decide) kk

set_option maxHeartbeats 4000000 in
set_option maxRecDepth 100000 in
theorem lw_away {p : Program} {l : Launch} {e : Env} {s : State} {m : MethodId} {below : List Frame} {meth : Method} {c : Code} {D : va_G} {cI cZ cJ : ClassId} {A : Nat → Prop} {cells slots : Nat} {Q : State → Prop} {bs L : Nat} {xs : Nat → Int32} {b a : Nat → Nat} {o : Nat} (H : hl_H p s m c D cI cZ cJ A bs L xs) (hf : cells + 1 ≤ room_1.cells ∧ slots + 6 ≤ room_1.slots) {i : Nat} (hi : i + 5 ≤ L) {f f' : Nat → Int64} {g g' t t' : Nat → Nat → Int32} {k r6 : Int32} {rw rm : Room} (hrw : rw.cells = 1 ∧ rw.slots = 6 ∧ rw.frames + 1 ≤ 11 ∧ 8 + (4 + 11) + rw.locals ≤ 394) (hrm : rm.cells = 0 ∧ rm.slots = 0 ∧ rm.frames + 1 ≤ 11 ∧ 8 + (4 + 11) + rm.locals ≤ 394) (hW : hl_KW D (hl_ty cI cZ cJ) l yL_away wsL_away rw [.ref (a 0), .int (xs (i + 1)), .ref o] (hl_WO o cI cZ cJ f a g) (fun r w => r = k ∧ w = hl_WO o cI cZ cJ f' a g')) (hM : hl_KI D (hl_ty cI cZ cJ) l yX6_away wsX6_away rm 0 0 [.ref (b 0), .int (xs (i + 1))] (hl_WM b cI cZ t) (fun r w => r = r6 ∧ w = hl_WM b cI cZ t')) (ht : t' 23 0 = k) (hv : k = 0 → f' 0 = r6.toInt64) (kk : hl_X p l e room_1 s m #[Value.ref bs] below meth c 7 D A (cells + 1) (slots + 6) Q (hl_LW b a cI cZ cJ o f' t' g') 1252 (hl_LS bs b a o (nI i)) []) : hl_X p l e room_1 s m #[Value.ref bs] below meth c 7 D A cells slots Q (hl_LW b a cI cZ cJ o f t g) 960 (hl_LS bs b a o (nI i)) [] := by
  obtain ⟨h, hz, hX, hbl, hbA, hL⟩ := id H
  refine hl_aload_n h 1 dL_law_960 rfl ?_
  refine hl_arg H 0 4 (i := i) (j := 1) rfl rfl (by omega) (by decide) dL_law_961 dL_law_962 dL_law_964 dL_law_965 dL_law_966 ?_
  refine hl_aload_n h 3 dL_law_967 rfl ?_
  refine hl_callW h hz (st := []) (wc := hl_WO o cI cZ cJ f a g) (wr := hl_WM b cI cZ t) [19, 20, 21, 22, 23, 24, 25, 26, 27, 28, 29, 30, 31, 32, 33, 34, 35, 36, 37, 38, 39, 40, 41, 42, 43, 44] [0, 1, 2, 3, 4, 5, 6, 7, 8, 9, 10, 11, 12, 13, 14, 15, 16, 17, 18] rfl rfl (by decide) (by decide) (by decide) hW (vx_cwSW 3 h.2.2.2.2.1 gL_law_L_away rfl hrw.1 hrw.2.1 (by decide +kernel) hrw.2.2) dL_law_968 rfl (Nat.le_of_ble_eq_true rfl) hf rfl (fun r w1 hp => ?_)
  rw [hp.1, hp.2]
  refine hl_wd (w' := hl_LW b a cI cZ cJ o f' t g') rfl ?_
  refine hl_istore h ((5, .int k) :: hl_LS bs b a o (nI i)) dL_law_971 (by decide) rfl ?_
  refine hl_aload_n h 3 dL_law_973 rfl ?_
  refine hl_arg H 1 5 (i := i) (j := 1) rfl rfl (by omega) (by decide) dL_law_974 dL_law_975 dL_law_977 dL_law_978 dL_law_979 ?_
  refine hl_callPViD h (st := []) (wc := hl_WM b cI cZ t) (wr := hl_WO o cI cZ cJ f' a g') [0, 1, 2, 3, 4, 5, 6, 7, 8, 9, 10, 11, 12, 13, 14, 15, 16, 17, 18] [19, 20, 21, 22, 23, 24, 25, 26, 27, 28, 29, 30, 31, 32, 33, 34, 35, 36, 37, 38, 39, 40, 41, 42, 43, 44] rfl rfl (by decide) (by decide) (by decide) hM (cwV 1 h.2.2.2.2.1 gL_law_X6_away rfl hrm.1 hrm.2.1 (by decide +kernel) hrm.2.2) (q0 := 0) rfl rfl dL_law_980 rfl (Nat.le_of_ble_eq_true rfl) hf rfl ?_
  refine hl_wsub [26, 27, 28, 29, 30, 31, 32, 33, 34, 35, 36, 37, 38, 39, 40, 41, 42, 43, 44, 0, 1, 2, 3, 4, 5, 6, 7, 8, 9, 10, 11, 12, 13, 14, 15, 16, 17, 18, 19, 20, 21, 22, 23, 24, 25] (w' := hl_LW b a cI cZ cJ o f' t' g') (by decide) rfl ?_
  exact hl_tail H hf ht hv dL_law_983 dL_law_985 dL_law_986 dL_law_989 dL_law_991 dL_law_996 dL_law_998 dL_law_1001 dL_law_1002 dL_law_1003 dL_law_1004 dL_law_1006 dL_law_1007 dL_law_1008 dL_law_1013 (by decide) kk

set_option maxHeartbeats 4000000 in
set_option maxRecDepth 100000 in
theorem lw_sleeps {p : Program} {l : Launch} {e : Env} {s : State} {m : MethodId} {below : List Frame} {meth : Method} {c : Code} {D : va_G} {cI cZ cJ : ClassId} {A : Nat → Prop} {cells slots : Nat} {Q : State → Prop} {bs L : Nat} {xs : Nat → Int32} {b a : Nat → Nat} {o : Nat} (H : hl_H p s m c D cI cZ cJ A bs L xs) (hf : cells + 1 ≤ room_1.cells ∧ slots + 6 ≤ room_1.slots) {i : Nat} (hi : i + 5 ≤ L) {f f' : Nat → Int64} {g g' t t' : Nat → Nat → Int32} {k r6 : Int32} {rw rm : Room} (hrw : rw.cells = 1 ∧ rw.slots = 6 ∧ rw.frames + 1 ≤ 11 ∧ 8 + (4 + 11) + rw.locals ≤ 394) (hrm : rm.cells = 0 ∧ rm.slots = 0 ∧ rm.frames + 1 ≤ 11 ∧ 8 + (2 + 11) + rm.locals ≤ 394) (hW : hl_KW D (hl_ty cI cZ cJ) l yL_sleeps wsL_sleeps rw [.ref (a 0), .int (xs (i + 1)), .ref o] (hl_WO o cI cZ cJ f a g) (fun r w => r = k ∧ w = hl_WO o cI cZ cJ f' a g')) (hM : hl_KI D (hl_ty cI cZ cJ) l yX6_sleeps wsX6_sleeps rm 0 0 [.ref (b 0), .int (xs (i + 1))] (hl_WM b cI cZ t) (fun r w => r = r6 ∧ w = hl_WM b cI cZ t')) (ht : t' 23 0 = k) (hv : k = 0 → f' 0 = r6.toInt64) (kk : hl_X p l e room_1 s m #[Value.ref bs] below meth c 7 D A (cells + 1) (slots + 6) Q (hl_LW b a cI cZ cJ o f' t' g') 1252 (hl_LS bs b a o (nI i)) []) : hl_X p l e room_1 s m #[Value.ref bs] below meth c 7 D A cells slots Q (hl_LW b a cI cZ cJ o f t g) 1016 (hl_LS bs b a o (nI i)) [] := by
  obtain ⟨h, hz, hX, hbl, hbA, hL⟩ := id H
  refine hl_aload_n h 1 dL_law_1016 rfl ?_
  refine hl_arg H 0 4 (i := i) (j := 1) rfl rfl (by omega) (by decide) dL_law_1017 dL_law_1018 dL_law_1020 dL_law_1021 dL_law_1022 ?_
  refine hl_aload_n h 3 dL_law_1023 rfl ?_
  refine hl_callW h hz (st := []) (wc := hl_WO o cI cZ cJ f a g) (wr := hl_WM b cI cZ t) [19, 20, 21, 22, 23, 24, 25, 26, 27, 28, 29, 30, 31, 32, 33, 34, 35, 36, 37, 38, 39, 40, 41, 42, 43, 44] [0, 1, 2, 3, 4, 5, 6, 7, 8, 9, 10, 11, 12, 13, 14, 15, 16, 17, 18] rfl rfl (by decide) (by decide) (by decide) hW (vx_cwSW 3 h.2.2.2.2.1 gL_law_L_sleeps rfl hrw.1 hrw.2.1 (by decide +kernel) hrw.2.2) dL_law_1024 rfl (Nat.le_of_ble_eq_true rfl) hf rfl (fun r w1 hp => ?_)
  rw [hp.1, hp.2]
  refine hl_wd (w' := hl_LW b a cI cZ cJ o f' t g') rfl ?_
  refine hl_istore h ((5, .int k) :: hl_LS bs b a o (nI i)) dL_law_1027 (by decide) rfl ?_
  refine hl_aload_n h 3 dL_law_1029 rfl ?_
  refine hl_arg H 1 5 (i := i) (j := 1) rfl rfl (by omega) (by decide) dL_law_1030 dL_law_1031 dL_law_1033 dL_law_1034 dL_law_1035 ?_
  refine hl_callPViD h (st := []) (wc := hl_WM b cI cZ t) (wr := hl_WO o cI cZ cJ f' a g') [0, 1, 2, 3, 4, 5, 6, 7, 8, 9, 10, 11, 12, 13, 14, 15, 16, 17, 18] [19, 20, 21, 22, 23, 24, 25, 26, 27, 28, 29, 30, 31, 32, 33, 34, 35, 36, 37, 38, 39, 40, 41, 42, 43, 44] rfl rfl (by decide) (by decide) (by decide) hM (cwV 1 h.2.2.2.2.1 gL_law_X6_sleeps rfl hrm.1 hrm.2.1 (by decide +kernel) hrm.2.2) (q0 := 0) rfl rfl dL_law_1036 rfl (Nat.le_of_ble_eq_true rfl) hf rfl ?_
  refine hl_wsub [26, 27, 28, 29, 30, 31, 32, 33, 34, 35, 36, 37, 38, 39, 40, 41, 42, 43, 44, 0, 1, 2, 3, 4, 5, 6, 7, 8, 9, 10, 11, 12, 13, 14, 15, 16, 17, 18, 19, 20, 21, 22, 23, 24, 25] (w' := hl_LW b a cI cZ cJ o f' t' g') (by decide) rfl ?_
  exact hl_tail H hf ht hv dL_law_1039 dL_law_1041 dL_law_1042 dL_law_1045 dL_law_1047 dL_law_1052 dL_law_1054 dL_law_1057 dL_law_1058 dL_law_1059 dL_law_1060 dL_law_1062 dL_law_1063 dL_law_1064 dL_law_1069 (by decide) kk

set_option maxHeartbeats 4000000 in
set_option maxRecDepth 100000 in
theorem lw_points {p : Program} {l : Launch} {e : Env} {s : State} {m : MethodId} {below : List Frame} {meth : Method} {c : Code} {D : va_G} {cI cZ cJ : ClassId} {A : Nat → Prop} {cells slots : Nat} {Q : State → Prop} {bs L : Nat} {xs : Nat → Int32} {b a : Nat → Nat} {o : Nat} (H : hl_H p s m c D cI cZ cJ A bs L xs) (hf : cells + 1 ≤ room_1.cells ∧ slots + 6 ≤ room_1.slots) {i : Nat} (hi : i + 5 ≤ L) {f f' : Nat → Int64} {g g' t t' : Nat → Nat → Int32} {k r6 : Int32} {rw rm : Room} (hrw : rw.cells = 1 ∧ rw.slots = 6 ∧ rw.frames + 1 ≤ 11 ∧ 8 + (4 + 11) + rw.locals ≤ 394) (hrm : rm.cells = 0 ∧ rm.slots = 0 ∧ rm.frames + 1 ≤ 11 ∧ 8 + (2 + 11) + rm.locals ≤ 394) (hW : hl_KW D (hl_ty cI cZ cJ) l yL_points wsL_points rw [.ref (a 0), .int (xs (i + 1)), .ref o] (hl_WO o cI cZ cJ f a g) (fun r w => r = k ∧ w = hl_WO o cI cZ cJ f' a g')) (hM : hl_KI D (hl_ty cI cZ cJ) l yX6_points wsX6_points rm 0 0 [.ref (b 0), .int (xs (i + 1))] (hl_WM b cI cZ t) (fun r w => r = r6 ∧ w = hl_WM b cI cZ t')) (ht : t' 23 0 = k) (hv : k = 0 → f' 0 = r6.toInt64) (kk : hl_X p l e room_1 s m #[Value.ref bs] below meth c 7 D A (cells + 1) (slots + 6) Q (hl_LW b a cI cZ cJ o f' t' g') 1252 (hl_LS bs b a o (nI i)) []) : hl_X p l e room_1 s m #[Value.ref bs] below meth c 7 D A cells slots Q (hl_LW b a cI cZ cJ o f t g) 1072 (hl_LS bs b a o (nI i)) [] := by
  obtain ⟨h, hz, hX, hbl, hbA, hL⟩ := id H
  refine hl_aload_n h 1 dL_law_1072 rfl ?_
  refine hl_arg H 0 4 (i := i) (j := 1) rfl rfl (by omega) (by decide) dL_law_1073 dL_law_1074 dL_law_1076 dL_law_1077 dL_law_1078 ?_
  refine hl_aload_n h 3 dL_law_1079 rfl ?_
  refine hl_callW h hz (st := []) (wc := hl_WO o cI cZ cJ f a g) (wr := hl_WM b cI cZ t) [19, 20, 21, 22, 23, 24, 25, 26, 27, 28, 29, 30, 31, 32, 33, 34, 35, 36, 37, 38, 39, 40, 41, 42, 43, 44] [0, 1, 2, 3, 4, 5, 6, 7, 8, 9, 10, 11, 12, 13, 14, 15, 16, 17, 18] rfl rfl (by decide) (by decide) (by decide) hW (vx_cwSW 3 h.2.2.2.2.1 gL_law_L_points rfl hrw.1 hrw.2.1 (by decide +kernel) hrw.2.2) dL_law_1080 rfl (Nat.le_of_ble_eq_true rfl) hf rfl (fun r w1 hp => ?_)
  rw [hp.1, hp.2]
  refine hl_wd (w' := hl_LW b a cI cZ cJ o f' t g') rfl ?_
  refine hl_istore h ((5, .int k) :: hl_LS bs b a o (nI i)) dL_law_1083 (by decide) rfl ?_
  refine hl_aload_n h 3 dL_law_1085 rfl ?_
  refine hl_arg H 1 5 (i := i) (j := 1) rfl rfl (by omega) (by decide) dL_law_1086 dL_law_1087 dL_law_1089 dL_law_1090 dL_law_1091 ?_
  refine hl_callPViD h (st := []) (wc := hl_WM b cI cZ t) (wr := hl_WO o cI cZ cJ f' a g') [0, 1, 2, 3, 4, 5, 6, 7, 8, 9, 10, 11, 12, 13, 14, 15, 16, 17, 18] [19, 20, 21, 22, 23, 24, 25, 26, 27, 28, 29, 30, 31, 32, 33, 34, 35, 36, 37, 38, 39, 40, 41, 42, 43, 44] rfl rfl (by decide) (by decide) (by decide) hM (cwV 1 h.2.2.2.2.1 gL_law_X6_points rfl hrm.1 hrm.2.1 (by decide +kernel) hrm.2.2) (q0 := 0) rfl rfl dL_law_1092 rfl (Nat.le_of_ble_eq_true rfl) hf rfl ?_
  refine hl_wsub [26, 27, 28, 29, 30, 31, 32, 33, 34, 35, 36, 37, 38, 39, 40, 41, 42, 43, 44, 0, 1, 2, 3, 4, 5, 6, 7, 8, 9, 10, 11, 12, 13, 14, 15, 16, 17, 18, 19, 20, 21, 22, 23, 24, 25] (w' := hl_LW b a cI cZ cJ o f' t' g') (by decide) rfl ?_
  exact hl_tail H hf ht hv dL_law_1095 dL_law_1097 dL_law_1098 dL_law_1101 dL_law_1103 dL_law_1108 dL_law_1110 dL_law_1113 dL_law_1114 dL_law_1115 dL_law_1116 dL_law_1118 dL_law_1119 dL_law_1120 dL_law_1125 (by decide) kk

set_option maxHeartbeats 4000000 in
set_option maxRecDepth 100000 in
theorem lw_owes {p : Program} {l : Launch} {e : Env} {s : State} {m : MethodId} {below : List Frame} {meth : Method} {c : Code} {D : va_G} {cI cZ cJ : ClassId} {A : Nat → Prop} {cells slots : Nat} {Q : State → Prop} {bs L : Nat} {xs : Nat → Int32} {b a : Nat → Nat} {o : Nat} (H : hl_H p s m c D cI cZ cJ A bs L xs) (hf : cells + 1 ≤ room_1.cells ∧ slots + 6 ≤ room_1.slots) {i : Nat} (hi : i + 5 ≤ L) {f f' : Nat → Int64} {g g' t t' : Nat → Nat → Int32} {k r6 : Int32} {rw rm : Room} (hrw : rw.cells = 1 ∧ rw.slots = 6 ∧ rw.frames + 1 ≤ 11 ∧ 8 + (5 + 11) + rw.locals ≤ 394) (hrm : rm.cells = 0 ∧ rm.slots = 0 ∧ rm.frames + 1 ≤ 11 ∧ 8 + (3 + 11) + rm.locals ≤ 394) (hW : hl_KW D (hl_ty cI cZ cJ) l yL_owes wsL_owes rw [.ref (a 0), .int (xs (i + 1)), .int (xs (i + 2)), .ref o] (hl_WO o cI cZ cJ f a g) (fun r w => r = k ∧ w = hl_WO o cI cZ cJ f' a g')) (hM : hl_KI D (hl_ty cI cZ cJ) l yX6_owes wsX6_owes rm 0 0 [.ref (b 0), .int (xs (i + 1)), .int (xs (i + 2))] (hl_WM b cI cZ t) (fun r w => r = r6 ∧ w = hl_WM b cI cZ t')) (ht : t' 23 0 = k) (hv : k = 0 → f' 0 = r6.toInt64) (kk : hl_X p l e room_1 s m #[Value.ref bs] below meth c 7 D A (cells + 1) (slots + 6) Q (hl_LW b a cI cZ cJ o f' t' g') 1252 (hl_LS bs b a o (nI i)) []) : hl_X p l e room_1 s m #[Value.ref bs] below meth c 7 D A cells slots Q (hl_LW b a cI cZ cJ o f t g) 1128 (hl_LS bs b a o (nI i)) [] := by
  obtain ⟨h, hz, hX, hbl, hbA, hL⟩ := id H
  refine hl_aload_n h 1 dL_law_1128 rfl ?_
  refine hl_arg H 0 4 (i := i) (j := 1) rfl rfl (by omega) (by decide) dL_law_1129 dL_law_1130 dL_law_1132 dL_law_1133 dL_law_1134 ?_
  refine hl_arg H 0 4 (i := i) (j := 2) rfl rfl (by omega) (by decide) dL_law_1135 dL_law_1136 dL_law_1138 dL_law_1139 dL_law_1140 ?_
  refine hl_aload_n h 3 dL_law_1141 rfl ?_
  refine hl_callW h hz (st := []) (wc := hl_WO o cI cZ cJ f a g) (wr := hl_WM b cI cZ t) [19, 20, 21, 22, 23, 24, 25, 26, 27, 28, 29, 30, 31, 32, 33, 34, 35, 36, 37, 38, 39, 40, 41, 42, 43, 44] [0, 1, 2, 3, 4, 5, 6, 7, 8, 9, 10, 11, 12, 13, 14, 15, 16, 17, 18] rfl rfl (by decide) (by decide) (by decide) hW (vx_cwSW 4 h.2.2.2.2.1 gL_law_L_owes rfl hrw.1 hrw.2.1 (by decide +kernel) hrw.2.2) dL_law_1142 rfl (Nat.le_of_ble_eq_true rfl) hf rfl (fun r w1 hp => ?_)
  rw [hp.1, hp.2]
  refine hl_wd (w' := hl_LW b a cI cZ cJ o f' t g') rfl ?_
  refine hl_istore h ((5, .int k) :: hl_LS bs b a o (nI i)) dL_law_1145 (by decide) rfl ?_
  refine hl_aload_n h 3 dL_law_1147 rfl ?_
  refine hl_arg H 1 5 (i := i) (j := 1) rfl rfl (by omega) (by decide) dL_law_1148 dL_law_1149 dL_law_1151 dL_law_1152 dL_law_1153 ?_
  refine hl_arg H 1 5 (i := i) (j := 2) rfl rfl (by omega) (by decide) dL_law_1154 dL_law_1155 dL_law_1157 dL_law_1158 dL_law_1159 ?_
  refine hl_callPViD h (st := []) (wc := hl_WM b cI cZ t) (wr := hl_WO o cI cZ cJ f' a g') [0, 1, 2, 3, 4, 5, 6, 7, 8, 9, 10, 11, 12, 13, 14, 15, 16, 17, 18] [19, 20, 21, 22, 23, 24, 25, 26, 27, 28, 29, 30, 31, 32, 33, 34, 35, 36, 37, 38, 39, 40, 41, 42, 43, 44] rfl rfl (by decide) (by decide) (by decide) hM (cwV 2 h.2.2.2.2.1 gL_law_X6_owes rfl hrm.1 hrm.2.1 (by decide +kernel) hrm.2.2) (q0 := 0) rfl rfl dL_law_1160 rfl (Nat.le_of_ble_eq_true rfl) hf rfl ?_
  refine hl_wsub [26, 27, 28, 29, 30, 31, 32, 33, 34, 35, 36, 37, 38, 39, 40, 41, 42, 43, 44, 0, 1, 2, 3, 4, 5, 6, 7, 8, 9, 10, 11, 12, 13, 14, 15, 16, 17, 18, 19, 20, 21, 22, 23, 24, 25] (w' := hl_LW b a cI cZ cJ o f' t' g') (by decide) rfl ?_
  exact hl_tail H hf ht hv dL_law_1163 dL_law_1165 dL_law_1166 dL_law_1169 dL_law_1171 dL_law_1176 dL_law_1178 dL_law_1181 dL_law_1182 dL_law_1183 dL_law_1184 dL_law_1186 dL_law_1187 dL_law_1188 dL_law_1193 (by decide) kk

set_option maxHeartbeats 4000000 in
set_option maxRecDepth 100000 in
theorem lw_purse {p : Program} {l : Launch} {e : Env} {s : State} {m : MethodId} {below : List Frame} {meth : Method} {c : Code} {D : va_G} {cI cZ cJ : ClassId} {A : Nat → Prop} {cells slots : Nat} {Q : State → Prop} {bs L : Nat} {xs : Nat → Int32} {b a : Nat → Nat} {o : Nat} (H : hl_H p s m c D cI cZ cJ A bs L xs) (hf : cells + 1 ≤ room_1.cells ∧ slots + 6 ≤ room_1.slots) {i : Nat} (hi : i + 5 ≤ L) {f f' : Nat → Int64} {g g' t t' : Nat → Nat → Int32} {k r6 : Int32} {rw rm : Room} (hrw : rw.cells = 1 ∧ rw.slots = 6 ∧ rw.frames + 1 ≤ 11 ∧ 8 + (4 + 11) + rw.locals ≤ 394) (hrm : rm.cells = 0 ∧ rm.slots = 0 ∧ rm.frames + 1 ≤ 11 ∧ 8 + (2 + 11) + rm.locals ≤ 394) (hW : hl_KW D (hl_ty cI cZ cJ) l yL_purse wsL_purse rw [.ref (a 0), .int (xs (i + 1)), .ref o] (hl_WO o cI cZ cJ f a g) (fun r w => r = k ∧ w = hl_WO o cI cZ cJ f' a g')) (hM : hl_KI D (hl_ty cI cZ cJ) l yX6_purse wsX6_purse rm 0 0 [.ref (b 0), .int (xs (i + 1))] (hl_WM b cI cZ t) (fun r w => r = r6 ∧ w = hl_WM b cI cZ t')) (ht : t' 23 0 = k) (hv : k = 0 → f' 0 = r6.toInt64) (kk : hl_X p l e room_1 s m #[Value.ref bs] below meth c 7 D A (cells + 1) (slots + 6) Q (hl_LW b a cI cZ cJ o f' t' g') 1252 (hl_LS bs b a o (nI i)) []) : hl_X p l e room_1 s m #[Value.ref bs] below meth c 7 D A cells slots Q (hl_LW b a cI cZ cJ o f t g) 1196 (hl_LS bs b a o (nI i)) [] := by
  obtain ⟨h, hz, hX, hbl, hbA, hL⟩ := id H
  refine hl_aload_n h 1 dL_law_1196 rfl ?_
  refine hl_arg H 0 4 (i := i) (j := 1) rfl rfl (by omega) (by decide) dL_law_1197 dL_law_1198 dL_law_1200 dL_law_1201 dL_law_1202 ?_
  refine hl_aload_n h 3 dL_law_1203 rfl ?_
  refine hl_callW h hz (st := []) (wc := hl_WO o cI cZ cJ f a g) (wr := hl_WM b cI cZ t) [19, 20, 21, 22, 23, 24, 25, 26, 27, 28, 29, 30, 31, 32, 33, 34, 35, 36, 37, 38, 39, 40, 41, 42, 43, 44] [0, 1, 2, 3, 4, 5, 6, 7, 8, 9, 10, 11, 12, 13, 14, 15, 16, 17, 18] rfl rfl (by decide) (by decide) (by decide) hW (vx_cwSW 3 h.2.2.2.2.1 gL_law_L_purse rfl hrw.1 hrw.2.1 (by decide +kernel) hrw.2.2) dL_law_1204 rfl (Nat.le_of_ble_eq_true rfl) hf rfl (fun r w1 hp => ?_)
  rw [hp.1, hp.2]
  refine hl_wd (w' := hl_LW b a cI cZ cJ o f' t g') rfl ?_
  refine hl_istore h ((5, .int k) :: hl_LS bs b a o (nI i)) dL_law_1207 (by decide) rfl ?_
  refine hl_aload_n h 3 dL_law_1209 rfl ?_
  refine hl_arg H 1 5 (i := i) (j := 1) rfl rfl (by omega) (by decide) dL_law_1210 dL_law_1211 dL_law_1213 dL_law_1214 dL_law_1215 ?_
  refine hl_callPViD h (st := []) (wc := hl_WM b cI cZ t) (wr := hl_WO o cI cZ cJ f' a g') [0, 1, 2, 3, 4, 5, 6, 7, 8, 9, 10, 11, 12, 13, 14, 15, 16, 17, 18] [19, 20, 21, 22, 23, 24, 25, 26, 27, 28, 29, 30, 31, 32, 33, 34, 35, 36, 37, 38, 39, 40, 41, 42, 43, 44] rfl rfl (by decide) (by decide) (by decide) hM (cwV 1 h.2.2.2.2.1 gL_law_X6_purse rfl hrm.1 hrm.2.1 (by decide +kernel) hrm.2.2) (q0 := 0) rfl rfl dL_law_1216 rfl (Nat.le_of_ble_eq_true rfl) hf rfl ?_
  refine hl_wsub [26, 27, 28, 29, 30, 31, 32, 33, 34, 35, 36, 37, 38, 39, 40, 41, 42, 43, 44, 0, 1, 2, 3, 4, 5, 6, 7, 8, 9, 10, 11, 12, 13, 14, 15, 16, 17, 18, 19, 20, 21, 22, 23, 24, 25] (w' := hl_LW b a cI cZ cJ o f' t' g') (by decide) rfl ?_
  exact hl_tail H hf ht hv dL_law_1219 dL_law_1221 dL_law_1222 dL_law_1225 dL_law_1227 dL_law_1232 dL_law_1234 dL_law_1237 dL_law_1238 dL_law_1239 dL_law_1240 dL_law_1242 dL_law_1243 dL_law_1244 dL_law_1249 (by decide) kk
