/-! ===== the law, case by case, 1 ===== -/
section ZCA0
variable {G : zG} {p : Program} {e : Env} {s : State} {m : MethodId} {below : List Frame} {meth : Method} {c : Code} {b L i cells slots : Nat} {xs : Nat → Int32} {phC phR : Nat → Nat → Nat} {C R : zH} {H : Heap} {locs : List Loc} {la : Array Slot} {Q : State → Prop}
theorem lc_0 (X : LX G p s m meth c b L xs) (hw : WW G s.heap.size phC C phR R H) (hS : va_S (fun q => s.heap.size ≤ q) s.heap H locs) (I : Inv C R) (ha : lv_has la 4 [(0, .ref b), (1, .ref (phC 0 0)), (2, .ref (phR 40 0)), (3, .int (nI i))]) (hi : i + 7 ≤ L) (hL : L ≤ 3584) (hc : cells ≤ 10000) (hs : slots ≤ 2000000) (K : KO G p e s m below meth c b Q la (phC 0 0) (phR 40 0) cells slots) : W p G.1 e room_1 s m #[Value.ref b] below meth c H locs cells slots Q (F0 m 180 la []) := by
  have hx := X.1
  have hb := X.2.1
  have z0 : 0 < zN C 0 := (J_al I).2.2.2.1
  have z40 : 0 < zN R 40 := (J_al I).2.2.2.2
  refine lv_aload_n hx hb dl_180 rfl (lv_at ha 1 rfl) ?_
  refine lk_rd (k := 1) X hS ha hi hL (by decide) dl_181 dl_182 dl_183 dl_184 dl_185 ?_
  obtain ⟨r0, C1, R1, e1, e2, I1⟩ := t_days I (xs (i + 1))
  refine lk_callV (n := 1) (q := 0) (i := 0) (D := 10) (kc' := 0) (ks' := 0) (As := [vI (xs (i + 1))]) (M' := M_X9_days) (rest := []) X fok_C dl_186 mk_X9_days ll_186 li_186 ls_186 pc_0 rfl (by simp [Value.category]) (by simp [zo]) z0 (c_X9_days e1) (by decide) (by omega) (by omega) hw hS ha.1 (fun r S1 ph1 H1 locs1 hP _ hw1 hS1 hl1 hn1 => ?_)
  obtain ⟨rfl, rfl⟩ := hP
  show W p G.1 e room_1 s m #[Value.ref b] below meth c H1 locs1 _ _ Q (F0 m 189 la (.int r0 :: []))
  have q1 := hl1 0 0 z0
  clear hl1 hn1
  refine lv_aload_n hx hb dl_189 rfl (lv_at ha 2 rfl) ?_
  refine lk_rd (k := 1) X hS1 ha hi hL (by decide) dl_190 dl_191 dl_192 dl_193 dl_194 ?_
  refine lk_callV (n := 1) (q := 40) (i := 0) (D := 66) (kc' := 0) (ks' := 0) (As := [vI (xs (i + 1))]) (M' := M_X10_days) (rest := [.int r0]) X fok_R dl_195 mk_X10_days ll_195 li_195 ls_195 pc_40 rfl (by simp [Value.category]) (by simp [zo]) z40 (c_X10_days e2) (by decide) (by omega) (by omega) hw1.symm hS1 ha.1 (fun r S1 ph1 H1 locs1 hP _ hw2 hS2 hl1 hn1 => ?_)
  obtain ⟨rfl, rfl⟩ := hP
  show W p G.1 e room_1 s m #[Value.ref b] below meth c H1 locs1 _ _ Q (F0 m 198 la (.int r0 :: [.int r0]))
  have q2 := hl1 40 0 z40
  clear hl1 hn1
  refine lv_icmp_eq (tgt := 1251) hx hb dl_198 (by decide) (fun _ => ?_) (fun h => absurd rfl h)
  refine W.widen (k := cells + 10) (n := slots + 2000) (by omega) (by omega) ?_
  exact K _ _ _ _ _ _ hw2.symm hS2 (Inv_cut I1) q1 q2
theorem lc_1 (X : LX G p s m meth c b L xs) (hw : WW G s.heap.size phC C phR R H) (hS : va_S (fun q => s.heap.size ≤ q) s.heap H locs) (I : Inv C R) (ha : lv_has la 4 [(0, .ref b), (1, .ref (phC 0 0)), (2, .ref (phR 40 0)), (3, .int (nI i))]) (hi : i + 7 ≤ L) (hL : L ≤ 3584) (hc : cells ≤ 10000) (hs : slots ≤ 2000000) (K : KO G p e s m below meth c b Q la (phC 0 0) (phR 40 0) cells slots) : W p G.1 e room_1 s m #[Value.ref b] below meth c H locs cells slots Q (F0 m 203 la []) := by
  have hx := X.1
  have hb := X.2.1
  have z0 : 0 < zN C 0 := (J_al I).2.2.2.1
  have z40 : 0 < zN R 40 := (J_al I).2.2.2.2
  refine lv_aload_n hx hb dl_203 rfl (lv_at ha 1 rfl) ?_
  refine lk_rd (k := 1) X hS ha hi hL (by decide) dl_204 dl_205 dl_206 dl_207 dl_208 ?_
  obtain ⟨r0, C1, R1, e1, e2, I1⟩ := t_holiday I (xs (i + 1))
  refine lk_callV (n := 1) (q := 0) (i := 0) (D := 1) (kc' := 0) (ks' := 0) (As := [vI (xs (i + 1))]) (M' := M_X9_holiday) (rest := []) X fok_C dl_209 mk_X9_holiday ll_209 li_209 ls_209 pc_0 rfl (by simp [Value.category]) (by simp [zo]) z0 (c_X9_holiday e1) (by decide) (by omega) (by omega) hw hS ha.1 (fun r S1 ph1 H1 locs1 hP _ hw1 hS1 hl1 hn1 => ?_)
  obtain ⟨rfl, rfl⟩ := hP
  show W p G.1 e room_1 s m #[Value.ref b] below meth c H1 locs1 _ _ Q (F0 m 212 la (.int r0 :: []))
  have q1 := hl1 0 0 z0
  clear hl1 hn1
  refine lv_aload_n hx hb dl_212 rfl (lv_at ha 2 rfl) ?_
  refine lk_rd (k := 1) X hS1 ha hi hL (by decide) dl_213 dl_214 dl_215 dl_216 dl_217 ?_
  refine lk_callV (n := 1) (q := 40) (i := 0) (D := 1) (kc' := 0) (ks' := 0) (As := [vI (xs (i + 1))]) (M' := M_X10_holiday) (rest := [.int r0]) X fok_R dl_218 mk_X10_holiday ll_218 li_218 ls_218 pc_40 rfl (by simp [Value.category]) (by simp [zo]) z40 (c_X10_holiday e2) (by decide) (by omega) (by omega) hw1.symm hS1 ha.1 (fun r S1 ph1 H1 locs1 hP _ hw2 hS2 hl1 hn1 => ?_)
  obtain ⟨rfl, rfl⟩ := hP
  show W p G.1 e room_1 s m #[Value.ref b] below meth c H1 locs1 _ _ Q (F0 m 221 la (.int r0 :: [.int r0]))
  have q2 := hl1 40 0 z40
  clear hl1 hn1
  refine lv_icmp_eq (tgt := 1251) hx hb dl_221 (by decide) (fun _ => ?_) (fun h => absurd rfl h)
  refine W.widen (k := cells + 10) (n := slots + 2000) (by omega) (by omega) ?_
  exact K _ _ _ _ _ _ hw2.symm hS2 (Inv_cut I1) q1 q2
theorem lc_2 (X : LX G p s m meth c b L xs) (hw : WW G s.heap.size phC C phR R H) (hS : va_S (fun q => s.heap.size ≤ q) s.heap H locs) (I : Inv C R) (ha : lv_has la 4 [(0, .ref b), (1, .ref (phC 0 0)), (2, .ref (phR 40 0)), (3, .int (nI i))]) (hi : i + 7 ≤ L) (hL : L ≤ 3584) (hc : cells ≤ 10000) (hs : slots ≤ 2000000) (K : KO G p e s m below meth c b Q la (phC 0 0) (phR 40 0) cells slots) : W p G.1 e room_1 s m #[Value.ref b] below meth c H locs cells slots Q (F0 m 226 la []) := by
  have hx := X.1
  have hb := X.2.1
  have z0 : 0 < zN C 0 := (J_al I).2.2.2.1
  have z40 : 0 < zN R 40 := (J_al I).2.2.2.2
  refine lv_aload_n hx hb dl_226 rfl (lv_at ha 1 rfl) ?_
  refine lk_rd (k := 1) X hS ha hi hL (by decide) dl_227 dl_228 dl_229 dl_230 dl_231 ?_
  obtain ⟨r0, C1, R1, e1, e2, I1⟩ := t_isWorking I (xs (i + 1))
  refine lk_callV (n := 1) (q := 0) (i := 0) (D := 2) (kc' := 0) (ks' := 0) (As := [vI (xs (i + 1))]) (M' := M_X9_isWorking) (rest := []) X fok_C dl_232 mk_X9_isWorking ll_232 li_232 ls_232 pc_0 rfl (by simp [Value.category]) (by simp [zo]) z0 (c_X9_isWorking e1) (by decide) (by omega) (by omega) hw hS ha.1 (fun r S1 ph1 H1 locs1 hP _ hw1 hS1 hl1 hn1 => ?_)
  obtain ⟨rfl, rfl⟩ := hP
  show W p G.1 e room_1 s m #[Value.ref b] below meth c H1 locs1 _ _ Q (F0 m 235 la (.int r0 :: []))
  have q1 := hl1 0 0 z0
  clear hl1 hn1
  refine lv_aload_n hx hb dl_235 rfl (lv_at ha 2 rfl) ?_
  refine lk_rd (k := 1) X hS1 ha hi hL (by decide) dl_236 dl_237 dl_238 dl_239 dl_240 ?_
  refine lk_callV (n := 1) (q := 40) (i := 0) (D := 1) (kc' := 0) (ks' := 0) (As := [vI (xs (i + 1))]) (M' := M_X10_isWorking) (rest := [.int r0]) X fok_R dl_241 mk_X10_isWorking ll_241 li_241 ls_241 pc_40 rfl (by simp [Value.category]) (by simp [zo]) z40 (c_X10_isWorking e2) (by decide) (by omega) (by omega) hw1.symm hS1 ha.1 (fun r S1 ph1 H1 locs1 hP _ hw2 hS2 hl1 hn1 => ?_)
  obtain ⟨rfl, rfl⟩ := hP
  show W p G.1 e room_1 s m #[Value.ref b] below meth c H1 locs1 _ _ Q (F0 m 244 la (.int r0 :: [.int r0]))
  have q2 := hl1 40 0 z40
  clear hl1 hn1
  refine lv_icmp_eq (tgt := 1251) hx hb dl_244 (by decide) (fun _ => ?_) (fun h => absurd rfl h)
  refine W.widen (k := cells + 10) (n := slots + 2000) (by omega) (by omega) ?_
  exact K _ _ _ _ _ _ hw2.symm hS2 (Inv_cut I1) q1 q2
theorem lc_3 (X : LX G p s m meth c b L xs) (hw : WW G s.heap.size phC C phR R H) (hS : va_S (fun q => s.heap.size ≤ q) s.heap H locs) (I : Inv C R) (ha : lv_has la 4 [(0, .ref b), (1, .ref (phC 0 0)), (2, .ref (phR 40 0)), (3, .int (nI i))]) (hi : i + 7 ≤ L) (hL : L ≤ 3584) (hc : cells ≤ 10000) (hs : slots ≤ 2000000) (K : KO G p e s m below meth c b Q la (phC 0 0) (phR 40 0) cells slots) : W p G.1 e room_1 s m #[Value.ref b] below meth c H locs cells slots Q (F0 m 249 la []) := by
  have hx := X.1
  have hb := X.2.1
  have z0 : 0 < zN C 0 := (J_al I).2.2.2.1
  have z40 : 0 < zN R 40 := (J_al I).2.2.2.2
  refine lv_aload_n hx hb dl_249 rfl (lv_at ha 1 rfl) ?_
  refine lk_rd (k := 1) X hS ha hi hL (by decide) dl_250 dl_251 dl_252 dl_253 dl_254 ?_
  refine lk_rd (k := 2) X hS ha hi hL (by decide) dl_255 dl_256 dl_257 dl_258 dl_259 ?_
  refine lk_rd (k := 3) X hS ha hi hL (by decide) dl_260 dl_261 dl_262 dl_263 dl_264 ?_
  obtain ⟨r0, C1, R1, e1, e2, I1⟩ := t_bank I (xs (i + 1)) (xs (i + 2)) (xs (i + 3))
  refine lk_callV (n := 3) (q := 0) (i := 0) (D := 1) (kc' := 0) (ks' := 0) (As := [vI (xs (i + 1)), vI (xs (i + 2)), vI (xs (i + 3))]) (M' := M_X9_bank) (rest := []) X fok_C dl_265 mk_X9_bank ll_265 li_265 ls_265 pc_0 rfl (by simp [Value.category]) (by simp [zo]) z0 (c_X9_bank e1) (by decide) (by omega) (by omega) hw hS ha.1 (fun r S1 ph1 H1 locs1 hP _ hw1 hS1 hl1 hn1 => ?_)
  obtain ⟨rfl, rfl⟩ := hP
  show W p G.1 e room_1 s m #[Value.ref b] below meth c H1 locs1 _ _ Q (F0 m 268 la (.int r0 :: []))
  have q1 := hl1 0 0 z0
  clear hl1 hn1
  refine lv_aload_n hx hb dl_268 rfl (lv_at ha 2 rfl) ?_
  refine lk_rd (k := 1) X hS1 ha hi hL (by decide) dl_269 dl_270 dl_271 dl_272 dl_273 ?_
  refine lk_rd (k := 2) X hS1 ha hi hL (by decide) dl_274 dl_275 dl_276 dl_277 dl_278 ?_
  refine lk_rd (k := 3) X hS1 ha hi hL (by decide) dl_279 dl_280 dl_281 dl_282 dl_283 ?_
  refine lk_callV (n := 3) (q := 40) (i := 0) (D := 2) (kc' := 0) (ks' := 0) (As := [vI (xs (i + 1)), vI (xs (i + 2)), vI (xs (i + 3))]) (M' := M_X10_bank) (rest := [.int r0]) X fok_R dl_284 mk_X10_bank ll_284 li_284 ls_284 pc_40 rfl (by simp [Value.category]) (by simp [zo]) z40 (c_X10_bank e2) (by decide) (by omega) (by omega) hw1.symm hS1 ha.1 (fun r S1 ph1 H1 locs1 hP _ hw2 hS2 hl1 hn1 => ?_)
  obtain ⟨rfl, rfl⟩ := hP
  show W p G.1 e room_1 s m #[Value.ref b] below meth c H1 locs1 _ _ Q (F0 m 287 la (.int r0 :: [.int r0]))
  have q2 := hl1 40 0 z40
  clear hl1 hn1
  refine lv_icmp_eq (tgt := 1251) hx hb dl_287 (by decide) (fun _ => ?_) (fun h => absurd rfl h)
  refine W.widen (k := cells + 10) (n := slots + 2000) (by omega) (by omega) ?_
  exact K _ _ _ _ _ _ hw2.symm hS2 (Inv_cut I1) q1 q2
theorem lc_4 (X : LX G p s m meth c b L xs) (hw : WW G s.heap.size phC C phR R H) (hS : va_S (fun q => s.heap.size ≤ q) s.heap H locs) (I : Inv C R) (ha : lv_has la 4 [(0, .ref b), (1, .ref (phC 0 0)), (2, .ref (phR 40 0)), (3, .int (nI i))]) (hi : i + 7 ≤ L) (hL : L ≤ 3584) (hc : cells ≤ 10000) (hs : slots ≤ 2000000) (K : KO G p e s m below meth c b Q la (phC 0 0) (phR 40 0) cells slots) : W p G.1 e room_1 s m #[Value.ref b] below meth c H locs cells slots Q (F0 m 292 la []) := by
  have hx := X.1
  have hb := X.2.1
  have z0 : 0 < zN C 0 := (J_al I).2.2.2.1
  have z40 : 0 < zN R 40 := (J_al I).2.2.2.2
  refine lv_aload_n hx hb dl_292 rfl (lv_at ha 1 rfl) ?_
  refine lk_rd (k := 1) X hS ha hi hL (by decide) dl_293 dl_294 dl_295 dl_296 dl_297 ?_
  refine lk_rd (k := 2) X hS ha hi hL (by decide) dl_298 dl_299 dl_300 dl_301 dl_302 ?_
  obtain ⟨r0, C1, R1, e1, e2, I1⟩ := t_late I (xs (i + 1)) (xs (i + 2))
  refine lk_callV (n := 2) (q := 0) (i := 0) (D := 1) (kc' := 0) (ks' := 0) (As := [vI (xs (i + 1)), vI (xs (i + 2))]) (M' := M_X9_late) (rest := []) X fok_C dl_303 mk_X9_late ll_303 li_303 ls_303 pc_0 rfl (by simp [Value.category]) (by simp [zo]) z0 (c_X9_late e1) (by decide) (by omega) (by omega) hw hS ha.1 (fun r S1 ph1 H1 locs1 hP _ hw1 hS1 hl1 hn1 => ?_)
  obtain ⟨rfl, rfl⟩ := hP
  show W p G.1 e room_1 s m #[Value.ref b] below meth c H1 locs1 _ _ Q (F0 m 306 la (.int r0 :: []))
  have q1 := hl1 0 0 z0
  clear hl1 hn1
  refine lv_aload_n hx hb dl_306 rfl (lv_at ha 2 rfl) ?_
  refine lk_rd (k := 1) X hS1 ha hi hL (by decide) dl_307 dl_308 dl_309 dl_310 dl_311 ?_
  refine lk_rd (k := 2) X hS1 ha hi hL (by decide) dl_312 dl_313 dl_314 dl_315 dl_316 ?_
  refine lk_callV (n := 2) (q := 40) (i := 0) (D := 2) (kc' := 0) (ks' := 0) (As := [vI (xs (i + 1)), vI (xs (i + 2))]) (M' := M_X10_late) (rest := [.int r0]) X fok_R dl_317 mk_X10_late ll_317 li_317 ls_317 pc_40 rfl (by simp [Value.category]) (by simp [zo]) z40 (c_X10_late e2) (by decide) (by omega) (by omega) hw1.symm hS1 ha.1 (fun r S1 ph1 H1 locs1 hP _ hw2 hS2 hl1 hn1 => ?_)
  obtain ⟨rfl, rfl⟩ := hP
  show W p G.1 e room_1 s m #[Value.ref b] below meth c H1 locs1 _ _ Q (F0 m 320 la (.int r0 :: [.int r0]))
  have q2 := hl1 40 0 z40
  clear hl1 hn1
  refine lv_icmp_eq (tgt := 1251) hx hb dl_320 (by decide) (fun _ => ?_) (fun h => absurd rfl h)
  refine W.widen (k := cells + 10) (n := slots + 2000) (by omega) (by omega) ?_
  exact K _ _ _ _ _ _ hw2.symm hS2 (Inv_cut I1) q1 q2
theorem lc_5 (X : LX G p s m meth c b L xs) (hw : WW G s.heap.size phC C phR R H) (hS : va_S (fun q => s.heap.size ≤ q) s.heap H locs) (I : Inv C R) (ha : lv_has la 4 [(0, .ref b), (1, .ref (phC 0 0)), (2, .ref (phR 40 0)), (3, .int (nI i))]) (hi : i + 7 ≤ L) (hL : L ≤ 3584) (hc : cells ≤ 10000) (hs : slots ≤ 2000000) (K : KO G p e s m below meth c b Q la (phC 0 0) (phR 40 0) cells slots) : W p G.1 e room_1 s m #[Value.ref b] below meth c H locs cells slots Q (F0 m 325 la []) := by
  have hx := X.1
  have hb := X.2.1
  have z0 : 0 < zN C 0 := (J_al I).2.2.2.1
  have z40 : 0 < zN R 40 := (J_al I).2.2.2.2
  refine lv_aload_n hx hb dl_325 rfl (lv_at ha 1 rfl) ?_
  refine lk_rd (k := 1) X hS ha hi hL (by decide) dl_326 dl_327 dl_328 dl_329 dl_330 ?_
  refine lk_rd (k := 2) X hS ha hi hL (by decide) dl_331 dl_332 dl_333 dl_334 dl_335 ?_
  refine lk_rd (k := 3) X hS ha hi hL (by decide) dl_336 dl_337 dl_338 dl_339 dl_340 ?_
  obtain ⟨r0, C1, R1, e1, e2, I1⟩ := t_account I (xs (i + 1)) (xs (i + 2)) (xs (i + 3))
  refine lk_callV (n := 3) (q := 0) (i := 0) (D := 11) (kc' := 3) (ks' := 1593) (As := [vI (xs (i + 1)), vI (xs (i + 2)), vI (xs (i + 3))]) (M' := M_X9_account) (rest := []) X fok_C dl_341 mk_X9_account ll_341 li_341 ls_341 pc_0 rfl (by simp [Value.category]) (by simp [zo]) z0 (c_X9_account e1) (by decide) (by omega) (by omega) hw hS ha.1 (fun r S1 ph1 H1 locs1 hP _ hw1 hS1 hl1 hn1 => ?_)
  obtain ⟨rfl, rfl⟩ := hP
  show W p G.1 e room_1 s m #[Value.ref b] below meth c H1 locs1 _ _ Q (F0 m 344 la (.int r0 :: []))
  have q1 := hl1 0 0 z0
  clear hl1 hn1
  refine lv_aload_n hx hb dl_344 rfl (lv_at ha 2 rfl) ?_
  refine lk_rd (k := 1) X hS1 ha hi hL (by decide) dl_345 dl_346 dl_347 dl_348 dl_349 ?_
  refine lk_rd (k := 2) X hS1 ha hi hL (by decide) dl_350 dl_351 dl_352 dl_353 dl_354 ?_
  refine lk_rd (k := 3) X hS1 ha hi hL (by decide) dl_355 dl_356 dl_357 dl_358 dl_359 ?_
  refine lk_callV (n := 3) (q := 40) (i := 0) (D := 2) (kc' := 0) (ks' := 0) (As := [vI (xs (i + 1)), vI (xs (i + 2)), vI (xs (i + 3))]) (M' := M_X10_account) (rest := [.int r0]) X fok_R dl_360 mk_X10_account ll_360 li_360 ls_360 pc_40 rfl (by simp [Value.category]) (by simp [zo]) z40 (c_X10_account e2) (by decide) (by omega) (by omega) hw1.symm hS1 ha.1 (fun r S1 ph1 H1 locs1 hP _ hw2 hS2 hl1 hn1 => ?_)
  obtain ⟨rfl, rfl⟩ := hP
  show W p G.1 e room_1 s m #[Value.ref b] below meth c H1 locs1 _ _ Q (F0 m 363 la (.int r0 :: [.int r0]))
  have q2 := hl1 40 0 z40
  clear hl1 hn1
  refine lv_icmp_eq (tgt := 1251) hx hb dl_363 (by decide) (fun _ => ?_) (fun h => absurd rfl h)
  refine W.widen (k := cells + 10) (n := slots + 2000) (by omega) (by omega) ?_
  exact K _ _ _ _ _ _ hw2.symm hS2 (Inv_cut I1) q1 q2
theorem lc_6 (X : LX G p s m meth c b L xs) (hw : WW G s.heap.size phC C phR R H) (hS : va_S (fun q => s.heap.size ≤ q) s.heap H locs) (I : Inv C R) (ha : lv_has la 4 [(0, .ref b), (1, .ref (phC 0 0)), (2, .ref (phR 40 0)), (3, .int (nI i))]) (hi : i + 7 ≤ L) (hL : L ≤ 3584) (hc : cells ≤ 10000) (hs : slots ≤ 2000000) (K : KO G p e s m below meth c b Q la (phC 0 0) (phR 40 0) cells slots) : W p G.1 e room_1 s m #[Value.ref b] below meth c H locs cells slots Q (F0 m 368 la []) := by
  have hx := X.1
  have hb := X.2.1
  have z0 : 0 < zN C 0 := (J_al I).2.2.2.1
  have z40 : 0 < zN R 40 := (J_al I).2.2.2.2
  refine lv_aload_n hx hb dl_368 rfl (lv_at ha 1 rfl) ?_
  refine lk_rd (k := 1) X hS ha hi hL (by decide) dl_369 dl_370 dl_371 dl_372 dl_373 ?_
  refine lk_rd (k := 2) X hS ha hi hL (by decide) dl_374 dl_375 dl_376 dl_377 dl_378 ?_
  obtain ⟨r0, C1, R1, e1, e2, I1⟩ := t_put I (xs (i + 1)) (xs (i + 2))
  refine lk_callV (n := 2) (q := 0) (i := 0) (D := 5) (kc' := 0) (ks' := 0) (As := [vI (xs (i + 1)), vI (xs (i + 2))]) (M' := M_X9_put) (rest := []) X fok_C dl_379 mk_X9_put ll_379 li_379 ls_379 pc_0 rfl (by simp [Value.category]) (by simp [zo]) z0 (c_X9_put e1) (by decide) (by omega) (by omega) hw hS ha.1 (fun r S1 ph1 H1 locs1 hP _ hw1 hS1 hl1 hn1 => ?_)
  obtain ⟨rfl, rfl⟩ := hP
  show W p G.1 e room_1 s m #[Value.ref b] below meth c H1 locs1 _ _ Q (F0 m 382 la (.long r0 :: []))
  have q1 := hl1 0 0 z0
  clear hl1 hn1
  refine lv_aload_n hx hb dl_382 rfl (lv_at ha 2 rfl) ?_
  refine lk_rd (k := 1) X hS1 ha hi hL (by decide) dl_383 dl_384 dl_385 dl_386 dl_387 ?_
  refine lk_rd (k := 2) X hS1 ha hi hL (by decide) dl_388 dl_389 dl_390 dl_391 dl_392 ?_
  refine lk_callV (n := 2) (q := 40) (i := 0) (D := 2) (kc' := 0) (ks' := 0) (As := [vI (xs (i + 1)), vI (xs (i + 2))]) (M' := M_X10_put) (rest := [.long r0]) X fok_R dl_393 mk_X10_put ll_393 li_393 ls_393 pc_40 rfl (by simp [Value.category]) (by simp [zo]) z40 (c_X10_put e2) (by decide) (by omega) (by omega) hw1.symm hS1 ha.1 (fun r S1 ph1 H1 locs1 hP _ hw2 hS2 hl1 hn1 => ?_)
  obtain ⟨rfl, rfl⟩ := hP
  show W p G.1 e room_1 s m #[Value.ref b] below meth c H1 locs1 _ _ Q (F0 m 396 la (.long r0 :: [.long r0]))
  have q2 := hl1 40 0 z40
  clear hl1 hn1
  refine W.lcmp hx hb dl_396 ?_
  refine lv_if_eq (tgt := 1251) hx hb dl_397 (by decide) (fun _ => ?_) (fun h => absurd ((lc_eq _ _).mpr rfl) h)
  refine W.widen (k := cells + 10) (n := slots + 2000) (by omega) (by omega) ?_
  exact K _ _ _ _ _ _ hw2.symm hS2 (Inv_cut I1) q1 q2
theorem lc_7 (X : LX G p s m meth c b L xs) (hw : WW G s.heap.size phC C phR R H) (hS : va_S (fun q => s.heap.size ≤ q) s.heap H locs) (I : Inv C R) (ha : lv_has la 4 [(0, .ref b), (1, .ref (phC 0 0)), (2, .ref (phR 40 0)), (3, .int (nI i))]) (hi : i + 7 ≤ L) (hL : L ≤ 3584) (hc : cells ≤ 10000) (hs : slots ≤ 2000000) (K : KO G p e s m below meth c b Q la (phC 0 0) (phR 40 0) cells slots) : W p G.1 e room_1 s m #[Value.ref b] below meth c H locs cells slots Q (F0 m 402 la []) := by
  have hx := X.1
  have hb := X.2.1
  have z0 : 0 < zN C 0 := (J_al I).2.2.2.1
  have z40 : 0 < zN R 40 := (J_al I).2.2.2.2
  refine lv_aload_n hx hb dl_402 rfl (lv_at ha 1 rfl) ?_
  refine lk_rd (k := 1) X hS ha hi hL (by decide) dl_403 dl_404 dl_405 dl_406 dl_407 ?_
  refine lk_rd (k := 2) X hS ha hi hL (by decide) dl_408 dl_409 dl_410 dl_411 dl_412 ?_
  obtain ⟨r0, C1, R1, e1, e2, I1⟩ := t_over I (xs (i + 1)) (xs (i + 2))
  refine lk_callV (n := 2) (q := 0) (i := 0) (D := 5) (kc' := 0) (ks' := 0) (As := [vI (xs (i + 1)), vI (xs (i + 2))]) (M' := M_X9_over) (rest := []) X fok_C dl_413 mk_X9_over ll_413 li_413 ls_413 pc_0 rfl (by simp [Value.category]) (by simp [zo]) z0 (c_X9_over e1) (by decide) (by omega) (by omega) hw hS ha.1 (fun r S1 ph1 H1 locs1 hP _ hw1 hS1 hl1 hn1 => ?_)
  obtain ⟨rfl, rfl⟩ := hP
  show W p G.1 e room_1 s m #[Value.ref b] below meth c H1 locs1 _ _ Q (F0 m 416 la (.int r0 :: []))
  have q1 := hl1 0 0 z0
  clear hl1 hn1
  refine lv_aload_n hx hb dl_416 rfl (lv_at ha 2 rfl) ?_
  refine lk_rd (k := 1) X hS1 ha hi hL (by decide) dl_417 dl_418 dl_419 dl_420 dl_421 ?_
  refine lk_rd (k := 2) X hS1 ha hi hL (by decide) dl_422 dl_423 dl_424 dl_425 dl_426 ?_
  refine lk_callV (n := 2) (q := 40) (i := 0) (D := 2) (kc' := 0) (ks' := 0) (As := [vI (xs (i + 1)), vI (xs (i + 2))]) (M' := M_X10_over) (rest := [.int r0]) X fok_R dl_427 mk_X10_over ll_427 li_427 ls_427 pc_40 rfl (by simp [Value.category]) (by simp [zo]) z40 (c_X10_over e2) (by decide) (by omega) (by omega) hw1.symm hS1 ha.1 (fun r S1 ph1 H1 locs1 hP _ hw2 hS2 hl1 hn1 => ?_)
  obtain ⟨rfl, rfl⟩ := hP
  show W p G.1 e room_1 s m #[Value.ref b] below meth c H1 locs1 _ _ Q (F0 m 430 la (.int r0 :: [.int r0]))
  have q2 := hl1 40 0 z40
  clear hl1 hn1
  refine lv_icmp_eq (tgt := 1251) hx hb dl_430 (by decide) (fun _ => ?_) (fun h => absurd rfl h)
  refine W.widen (k := cells + 10) (n := slots + 2000) (by omega) (by omega) ?_
  exact K _ _ _ _ _ _ hw2.symm hS2 (Inv_cut I1) q1 q2
theorem lc_8 (X : LX G p s m meth c b L xs) (hw : WW G s.heap.size phC C phR R H) (hS : va_S (fun q => s.heap.size ≤ q) s.heap H locs) (I : Inv C R) (ha : lv_has la 4 [(0, .ref b), (1, .ref (phC 0 0)), (2, .ref (phR 40 0)), (3, .int (nI i))]) (hi : i + 7 ≤ L) (hL : L ≤ 3584) (hc : cells ≤ 10000) (hs : slots ≤ 2000000) (K : KO G p e s m below meth c b Q la (phC 0 0) (phR 40 0) cells slots) : W p G.1 e room_1 s m #[Value.ref b] below meth c H locs cells slots Q (F0 m 435 la []) := by
  have hx := X.1
  have hb := X.2.1
  have z0 : 0 < zN C 0 := (J_al I).2.2.2.1
  have z40 : 0 < zN R 40 := (J_al I).2.2.2.2
  refine lv_aload_n hx hb dl_435 rfl (lv_at ha 1 rfl) ?_
  refine lk_rd (k := 1) X hS ha hi hL (by decide) dl_436 dl_437 dl_438 dl_439 dl_440 ?_
  obtain ⟨r0, C1, R1, e1, e2, I1⟩ := t_close I (xs (i + 1))
  refine lk_callV (n := 1) (q := 0) (i := 0) (D := 5) (kc' := 0) (ks' := 0) (As := [vI (xs (i + 1))]) (M' := M_X9_close) (rest := []) X fok_C dl_441 mk_X9_close ll_441 li_441 ls_441 pc_0 rfl (by simp [Value.category]) (by simp [zo]) z0 (c_X9_close e1) (by decide) (by omega) (by omega) hw hS ha.1 (fun r S1 ph1 H1 locs1 hP _ hw1 hS1 hl1 hn1 => ?_)
  obtain ⟨rfl, rfl⟩ := hP
  show W p G.1 e room_1 s m #[Value.ref b] below meth c H1 locs1 _ _ Q (F0 m 444 la (.int r0 :: []))
  have q1 := hl1 0 0 z0
  clear hl1 hn1
  refine lv_aload_n hx hb dl_444 rfl (lv_at ha 2 rfl) ?_
  refine lk_rd (k := 1) X hS1 ha hi hL (by decide) dl_445 dl_446 dl_447 dl_448 dl_449 ?_
  refine lk_callV (n := 1) (q := 40) (i := 0) (D := 2) (kc' := 0) (ks' := 0) (As := [vI (xs (i + 1))]) (M' := M_X10_close) (rest := [.int r0]) X fok_R dl_450 mk_X10_close ll_450 li_450 ls_450 pc_40 rfl (by simp [Value.category]) (by simp [zo]) z40 (c_X10_close e2) (by decide) (by omega) (by omega) hw1.symm hS1 ha.1 (fun r S1 ph1 H1 locs1 hP _ hw2 hS2 hl1 hn1 => ?_)
  obtain ⟨rfl, rfl⟩ := hP
  show W p G.1 e room_1 s m #[Value.ref b] below meth c H1 locs1 _ _ Q (F0 m 453 la (.int r0 :: [.int r0]))
  have q2 := hl1 40 0 z40
  clear hl1 hn1
  refine lv_icmp_eq (tgt := 1251) hx hb dl_453 (by decide) (fun _ => ?_) (fun h => absurd rfl h)
  refine W.widen (k := cells + 10) (n := slots + 2000) (by omega) (by omega) ?_
  exact K _ _ _ _ _ _ hw2.symm hS2 (Inv_cut I1) q1 q2
end ZCA0
