-- THE LAW: EVERY CLAIM, ITS LAYERS, ITS YEARS
theorem gw_L_152 : GoodIn hGW (wsV RL 152 RX11 yX11_gets (Cond.code yX11_gets cX11_gets 5 (Option.some FieldType.int) :: hGW)) := hgi4 kml_L_152 kin_X11_gets kse_X11_X11_gets_X11_gets kini_X11 kco_X11_gets
theorem dsc_X11_gets : yX11_gets.cls = RX11 ∧ yX11_gets.cls ≠ "java/lang/invoke/MethodHandle" ∧ yX11_gets.cls ≠ "java/lang/invoke/VarHandle" ∧ (parseMethodDescriptor yX11_gets.desc).map (fun d => d.parameters.length) = some 3 := ⟨rfl, by decide +kernel, by decide +kernel, by decide +kernel⟩
theorem gw_L_159 : GoodIn hGW (wsV RL 159 RX11 yX11_at (Cond.code yX11_at cX11_at 4 (Option.some FieldType.int) :: hGW)) := hgi4 kml_L_159 kin_X11_at kse_X11_X11_at_X11_at kini_X11 kco_X11_at
theorem dsc_X11_at : yX11_at.cls = RX11 ∧ yX11_at.cls ≠ "java/lang/invoke/MethodHandle" ∧ yX11_at.cls ≠ "java/lang/invoke/VarHandle" ∧ (parseMethodDescriptor yX11_at.desc).map (fun d => d.parameters.length) = some 3 := ⟨rfl, by decide +kernel, by decide +kernel, by decide +kernel⟩
theorem dL_law_177 : decode cL_law 177 = .ok (.lconst 0, 1) := by decide +kernel
theorem dL_law_178 : decode cL_law 178 = .ok (.lstore 14, 2) := by decide +kernel
theorem dL_law_180 : decode cL_law 180 = .ok (.iconst 0, 1) := by decide +kernel
theorem dL_law_181 : decode cL_law 181 = .ok (.istore 16, 2) := by decide +kernel
theorem dL_law_183 : decode cL_law 183 = .ok (.iload 16, 2) := by decide +kernel
theorem dL_law_185 : decode cL_law 185 = .ok (.iconst 3, 1) := by decide +kernel
theorem dL_law_186 : decode cL_law 186 = .ok (.if_icmp .ge 47, 3) := by decide +kernel
theorem dL_law_189 : decode cL_law 189 = .ok (.aload_n 1, 1) := by decide +kernel
theorem dL_law_190 : decode cL_law 190 = .ok (.iload 16, 2) := by decide +kernel
theorem dL_law_192 : decode cL_law 192 = .ok (.iload 12, 2) := by decide +kernel
theorem dL_law_194 : decode cL_law 194 = .ok (.iconst 0, 1) := by decide +kernel
theorem dL_law_195 : decode cL_law 195 = .ok (.invokevirtual 152, 3) := by decide +kernel
theorem dL_law_198 : decode cL_law 198 = .ok (.istore 17, 2) := by decide +kernel
theorem dL_law_200 : decode cL_law 200 = .ok (.iload 17, 2) := by decide +kernel
theorem dL_law_202 : decode cL_law 202 = .ok (.ifCond .lt 15, 3) := by decide +kernel
theorem dL_law_205 : decode cL_law 205 = .ok (.aload_n 1, 1) := by decide +kernel
theorem dL_law_206 : decode cL_law 206 = .ok (.iload 16, 2) := by decide +kernel
theorem dL_law_208 : decode cL_law 208 = .ok (.iload 12, 2) := by decide +kernel
theorem dL_law_210 : decode cL_law 210 = .ok (.iconst 1, 1) := by decide +kernel
theorem dL_law_211 : decode cL_law 211 = .ok (.invokevirtual 152, 3) := by decide +kernel
theorem dL_law_214 : decode cL_law 214 = .ok (.ifCond .ge 5, 3) := by decide +kernel
theorem dL_law_219 : decode cL_law 219 = .ok (.lload 14, 2) := by decide +kernel
theorem dL_law_221 : decode cL_law 221 = .ok (.iload 17, 2) := by decide +kernel
theorem dL_law_223 : decode cL_law 223 = .ok (.i2l, 1) := by decide +kernel
theorem dL_law_224 : decode cL_law 224 = .ok (.ladd, 1) := by decide +kernel
theorem dL_law_225 : decode cL_law 225 = .ok (.lstore 14, 2) := by decide +kernel
theorem dL_law_227 : decode cL_law 227 = .ok (.iinc 16 1, 3) := by decide +kernel
theorem dL_law_230 : decode cL_law 230 = .ok (.goto (-47), 3) := by decide +kernel
theorem dL_law_233 : decode cL_law 233 = .ok (.iload 13, 2) := by decide +kernel
theorem dL_law_235 : decode cL_law 235 = .ok (.i2l, 1) := by decide +kernel
theorem dL_law_236 : decode cL_law 236 = .ok (.lconst 0, 1) := by decide +kernel
theorem dL_law_237 : decode cL_law 237 = .ok (.aload_n 1, 1) := by decide +kernel
theorem dL_law_238 : decode cL_law 238 = .ok (.iload 12, 2) := by decide +kernel
theorem dL_law_240 : decode cL_law 240 = .ok (.iconst 4, 1) := by decide +kernel
theorem dL_law_241 : decode cL_law 241 = .ok (.invokevirtual 149, 3) := by decide +kernel
theorem dL_law_244 : decode cL_law 244 = .ok (.i2l, 1) := by decide +kernel
theorem dL_law_245 : decode cL_law 245 = .ok (.lload 14, 2) := by decide +kernel
theorem dL_law_247 : decode cL_law 247 = .ok (.lsub, 1) := by decide +kernel
theorem dL_law_248 : decode cL_law 248 = .ok (.invokestatic 156, 3) := by decide +kernel
theorem dL_law_251 : decode cL_law 251 = .ok (.lcmp, 1) := by decide +kernel
theorem dL_law_252 : decode cL_law 252 = .ok (.ifCond .ne 57, 3) := by decide +kernel
theorem dL_law_255 : decode cL_law 255 = .ok (.aload_n 1, 1) := by decide +kernel
theorem dL_law_256 : decode cL_law 256 = .ok (.iload 12, 2) := by decide +kernel
theorem dL_law_258 : decode cL_law 258 = .ok (.iload 5, 2) := by decide +kernel
theorem dL_law_260 : decode cL_law 260 = .ok (.aload_n 1, 1) := by decide +kernel
theorem dL_law_261 : decode cL_law 261 = .ok (.iload 12, 2) := by decide +kernel
theorem dL_law_263 : decode cL_law 263 = .ok (.iconst 0, 1) := by decide +kernel
theorem dL_law_264 : decode cL_law 264 = .ok (.invokevirtual 149, 3) := by decide +kernel
theorem dL_law_267 : decode cL_law 267 = .ok (.isub, 1) := by decide +kernel
theorem dL_law_268 : decode cL_law 268 = .ok (.iconst 1, 1) := by decide +kernel
theorem dL_law_269 : decode cL_law 269 = .ok (.invokevirtual 159, 3) := by decide +kernel
theorem dL_law_272 : decode cL_law 272 = .ok (.aload_n 1, 1) := by decide +kernel
theorem dL_law_273 : decode cL_law 273 = .ok (.iload 12, 2) := by decide +kernel
theorem dL_law_275 : decode cL_law 275 = .ok (.iconst 2, 1) := by decide +kernel
theorem dL_law_276 : decode cL_law 276 = .ok (.invokevirtual 149, 3) := by decide +kernel
theorem dL_law_279 : decode cL_law 279 = .ok (.if_icmp .ne 30, 3) := by decide +kernel
theorem dL_law_282 : decode cL_law 282 = .ok (.aload_n 1, 1) := by decide +kernel
theorem dL_law_283 : decode cL_law 283 = .ok (.iload 12, 2) := by decide +kernel
theorem dL_law_285 : decode cL_law 285 = .ok (.iload 5, 2) := by decide +kernel
theorem dL_law_287 : decode cL_law 287 = .ok (.aload_n 1, 1) := by decide +kernel
theorem dL_law_288 : decode cL_law 288 = .ok (.iload 12, 2) := by decide +kernel
theorem dL_law_290 : decode cL_law 290 = .ok (.iconst 0, 1) := by decide +kernel
theorem dL_law_291 : decode cL_law 291 = .ok (.invokevirtual 149, 3) := by decide +kernel
theorem dL_law_294 : decode cL_law 294 = .ok (.isub, 1) := by decide +kernel
theorem dL_law_295 : decode cL_law 295 = .ok (.iconst 0, 1) := by decide +kernel
theorem dL_law_296 : decode cL_law 296 = .ok (.invokevirtual 159, 3) := by decide +kernel
theorem dL_law_299 : decode cL_law 299 = .ok (.aload_n 1, 1) := by decide +kernel
theorem dL_law_300 : decode cL_law 300 = .ok (.iload 12, 2) := by decide +kernel
theorem dL_law_302 : decode cL_law 302 = .ok (.iconst 4, 1) := by decide +kernel
theorem dL_law_303 : decode cL_law 303 = .ok (.invokevirtual 149, 3) := by decide +kernel
theorem dL_law_306 : decode cL_law 306 = .ok (.if_icmp .eq 5, 3) := by decide +kernel
theorem dL_law_311 : decode cL_law 311 = .ok (.lload 8, 2) := by decide +kernel
theorem dL_law_313 : decode cL_law 313 = .ok (.iload 13, 2) := by decide +kernel
theorem dL_law_315 : decode cL_law 315 = .ok (.i2l, 1) := by decide +kernel
theorem dL_law_316 : decode cL_law 316 = .ok (.ladd, 1) := by decide +kernel
theorem dL_law_317 : decode cL_law 317 = .ok (.lstore 8, 2) := by decide +kernel
theorem dL_law_319 : decode cL_law 319 = .ok (.lload 10, 2) := by decide +kernel
theorem dL_law_321 : decode cL_law 321 = .ok (.aload_n 1, 1) := by decide +kernel
theorem dL_law_322 : decode cL_law 322 = .ok (.iload 12, 2) := by decide +kernel
theorem dL_law_324 : decode cL_law 324 = .ok (.iconst 4, 1) := by decide +kernel
theorem dL_law_325 : decode cL_law 325 = .ok (.invokevirtual 149, 3) := by decide +kernel
theorem dL_law_328 : decode cL_law 328 = .ok (.i2l, 1) := by decide +kernel
theorem dL_law_329 : decode cL_law 329 = .ok (.ladd, 1) := by decide +kernel
theorem dL_law_330 : decode cL_law 330 = .ok (.lstore 10, 2) := by decide +kernel
theorem dL_law_332 : decode cL_law 332 = .ok (.iconst 1, 1) := by decide +kernel
theorem dL_law_333 : decode cL_law 333 = .ok (.istore 16, 2) := by decide +kernel
theorem dL_law_335 : decode cL_law 335 = .ok (.iload 16, 2) := by decide +kernel
theorem dL_law_337 : decode cL_law 337 = .ok (.iload 5, 2) := by decide +kernel
theorem dL_law_339 : decode cL_law 339 = .ok (.aload_n 1, 1) := by decide +kernel
theorem dL_law_340 : decode cL_law 340 = .ok (.iload 12, 2) := by decide +kernel
theorem dL_law_342 : decode cL_law 342 = .ok (.iconst 0, 1) := by decide +kernel
theorem dL_law_343 : decode cL_law 343 = .ok (.invokevirtual 149, 3) := by decide +kernel
theorem dL_law_346 : decode cL_law 346 = .ok (.isub, 1) := by decide +kernel
theorem dL_law_347 : decode cL_law 347 = .ok (.if_icmp .gt 34, 3) := by decide +kernel
theorem dL_law_350 : decode cL_law 350 = .ok (.aload_n 1, 1) := by decide +kernel
theorem dL_law_351 : decode cL_law 351 = .ok (.iload 12, 2) := by decide +kernel
theorem dL_law_353 : decode cL_law 353 = .ok (.iload 16, 2) := by decide +kernel
theorem dL_law_355 : decode cL_law 355 = .ok (.iconst 1, 1) := by decide +kernel
theorem dL_law_356 : decode cL_law 356 = .ok (.invokevirtual 159, 3) := by decide +kernel
theorem dL_law_359 : decode cL_law 359 = .ok (.aload_n 1, 1) := by decide +kernel
theorem dL_law_360 : decode cL_law 360 = .ok (.iload 12, 2) := by decide +kernel
theorem dL_law_362 : decode cL_law 362 = .ok (.iload 16, 2) := by decide +kernel
theorem dL_law_364 : decode cL_law 364 = .ok (.iconst 1, 1) := by decide +kernel
theorem dL_law_365 : decode cL_law 365 = .ok (.isub, 1) := by decide +kernel
theorem dL_law_366 : decode cL_law 366 = .ok (.iconst 1, 1) := by decide +kernel
theorem dL_law_367 : decode cL_law 367 = .ok (.invokevirtual 159, 3) := by decide +kernel
theorem dL_law_370 : decode cL_law 370 = .ok (.if_icmp .ge 5, 3) := by decide +kernel
theorem dL_law_375 : decode cL_law 375 = .ok (.iinc 16 1, 3) := by decide +kernel
theorem dL_law_378 : decode cL_law 378 = .ok (.goto (-43), 3) := by decide +kernel
theorem dL_law_381 : decode cL_law 381 = .ok (.iinc 12 1, 3) := by decide +kernel
theorem dL_law_384 : decode cL_law 384 = .ok (.goto (-317), 3) := by decide +kernel
set_option maxHeartbeats 400000 in
set_option maxRecDepth 100000 in
theorem law_b {nm : String} (l : Launch) (G : hG) (p : Program) (e : Env) (s : State) (m : MethodId) (args : Array Value) (below : List Frame) (meth : Method) (c : Code) (M : hM) (H : Heap) (locs : List Loc) (ls : Array Slot) (cells slots : Nat) (Q : State → Prop) (hcs : cells ≤ 600086) (hss : slots ≤ 7301442) (X : hCX G p s m args meth c cL_law 18 ret RL nm) (Y : hHS G M s H locs) (S : hSy) (h : hHo) (hQv : QV G M S h) (hGC : GC S (hNow h)) (a0 : Nat) (ha0 : sA S 0 = a0) (tt bb : Nat) (sm : Int64) (A9 I9 : Nat) (i : Nat) (hi : i < sM S) (hl : lv_has ls 18 [(0, .ref G.2.1), (1, .ref (a0)), (2, .ref tt), (3, .ref bb), (4, .int (nI (sM S))), (5, .int (nI (hNow h))), (6, .long sm), (8, .long (lN A9)), (10, .long (lN I9)), (12, .int (nI i)), (13, .int (nI (lfN S (-1) i)))]) (kk : ∀  (M' : hM) (H : Heap) (locs : List Loc) (ls : Array Slot), hHS G M' s H locs → QV G M' S h → lv_has ls 18 [(0, .ref G.2.1), (1, .ref (a0)), (2, .ref tt), (3, .ref bb), (4, .int (nI (sM S))), (5, .int (nI (hNow h))), (6, .long sm), (8, .long (lN (A9 + lfN S (-1) i))), (10, .long (lN (I9 + vn (qAm S false i)))), (12, .int (nI (i + 1)))] → W p l e room_1 s m args below meth c H locs cells slots Q (F0 m 67 ls [])) : W p l e room_1 s m args below meth c H locs cells slots Q (F0 m 177 ls []) := by
  subst ha0
  have hx := X.1
  have hb := X.2.1
  have h40 : sM S ≤ 40 := hGC.1.2.2.1
  have hn10 : hNow h < 10 := hGC.2.1
  have hN3 : sN S = 3 := hGC.1.1
  have ho0 := hQv.2.2.1.1
  obtain ⟨pp, r, hpb, hrb, e1, e2, ea1, ea2, e4, hop⟩ := (hGC.2.2 i hi).1.am
  have hl7 := (lefts_in hGC false (-1) i hi).2
  have hl6 := (lefts_in hGC true (-1) i hi).2
  rw [vn_e (by omega) ea2] at hl7
  rw [vn_e (by omega) ea1] at hl6
  have hl7 : lfN S (-1) i ≤ pp + r := hl7
  have hl6 : vn (qLeft S true i) ≤ pp := hl6
  have hyn : clY (sC S i) ≤ hNow h := (hGC.2.2 i hi).2
  have e9 : vn (qAm S false i) = pp + r := vn_e (by omega) ea2
  rw [e9] at kk
  obtain ⟨g0, g1, g2, ⟨gb0, gb1, gb2⟩, ge0, ge1, ge2, gel⟩ := left_in hGC.1 (mu := -1) (am := qAm S false) hi ea2 (by omega)
  have gl : lfN S (-1) i = pp + r - (0 + g0 + g1 + g2) := by rw [Nat.zero_add]; exact vn_e (by omega) gel
  obtain ⟨t0, tb0, te0⟩ := given_in hGC.1 (mu := -1) (am := qAm S true) (k := 0) hi (by decide)
  obtain ⟨t1, tb1, te1⟩ := given_in hGC.1 (mu := -1) (am := qAm S true) (k := 1) hi (by decide)
  obtain ⟨t2, tb2, te2⟩ := given_in hGC.1 (mu := -1) (am := qAm S true) (k := 2) hi (by decide)
  refine lv_lconst (v := 0) hx hb dL_law_177 (by decide) ?_
  refine h_evL (y := lN 0) rfl ?_
  refine lv_lstore (lv' := [(14, .long (lN 0)), (0, .ref G.2.1), (1, .ref (sA S 0)), (2, .ref tt), (3, .ref bb), (4, .int (nI (sM S))), (5, .int (nI (hNow h))), (6, .long sm), (8, .long (lN A9)), (10, .long (lN I9)), (12, .int (nI i)), (13, .int (nI (lfN S (-1) i)))]) hx hb dL_law_178 hl (by decide) rfl (fun ls hl => ?_)
  refine lv_iconst (v := 0) hx hb dL_law_180 (by decide) ?_
  refine lv_istore (lv' := [(16, .int 0), (14, .long (lN 0)), (0, .ref G.2.1), (1, .ref (sA S 0)), (2, .ref tt), (3, .ref bb), (4, .int (nI (sM S))), (5, .int (nI (hNow h))), (6, .long sm), (8, .long (lN A9)), (10, .long (lN I9)), (12, .int (nI i)), (13, .int (nI (lfN S (-1) i)))]) hx hb dL_law_181 hl (by decide) rfl (fun ls hl => ?_)
  refine lv_iload hx hb dL_law_183 (lv_at hl 0 rfl) ?_
  refine lv_iconst (v := 3) hx hb dL_law_185 (by decide) ?_
  refine lv_icmp_ge (tgt := 233) hx hb dL_law_186 (by decide) (fun c186 => absurd c186 (by decide)) (fun c186 => ?_)
  refine lv_aload_n hx hb dL_law_189 rfl (lv_at hl 3 rfl) ?_
  refine lv_iload hx hb dL_law_190 (lv_at hl 0 rfl) ?_
  refine lv_iload hx hb dL_law_192 (lv_at hl 11 rfl) ?_
  refine lv_iconst (v := 0) hx hb dL_law_194 (by decide) ?_
  refine h_callV (rest := []) X Y (c_gets l G M S h hQv 0 i false (by omega) hi) gw_L_152 dsc_X11_gets ho0 rfl rfl rfl hl.1 rfl (Nat.le_of_ble_eq_true rfl) ⟨Nat.le_of_ble_eq_true rfl, Nat.le_of_ble_eq_true rfl⟩ ⟨(by show _ ≤ 600086; first | omega | (dsimp only [hRm]; omega)), (by show _ ≤ 7301442; first | omega | (dsimp only [hRm]; omega))⟩ dL_law_195 ?_
  rintro _ Mz1 H locs ⟨rfl, hs9⟩ Y
  have hQv := hQv.sim hs9
  have ho0 := hQv.2.2.1.1
  try dsimp only [Option.toList, List.singleton_append]
  refine h_ev (y := nI g0) ge0 ?_
  refine lv_istore (lv' := [(17, .int (nI g0)), (16, .int 0), (14, .long (lN 0)), (0, .ref G.2.1), (1, .ref (sA S 0)), (2, .ref tt), (3, .ref bb), (4, .int (nI (sM S))), (5, .int (nI (hNow h))), (6, .long sm), (8, .long (lN A9)), (10, .long (lN I9)), (12, .int (nI i)), (13, .int (nI (lfN S (-1) i)))]) hx hb dL_law_198 hl (by decide) rfl (fun ls hl => ?_)
  refine lv_iload hx hb dL_law_200 (lv_at hl 0 rfl) ?_
  refine lv_if_lt (tgt := 217) hx hb dL_law_202 (by decide) (fun c202 => absurd (show g0 < 0 from (nI_ltI (a := g0) (b := 0) (by omega) (by omega)).mp c202) (by omega)) (fun c202 => ?_)
  have c202 : ¬ g0 < 0 := fun z9 => c202 ((nI_ltI (a := g0) (b := 0) (by omega) (by omega)).mpr z9)
  refine lv_aload_n hx hb dL_law_205 rfl (lv_at hl 4 rfl) ?_
  refine lv_iload hx hb dL_law_206 (lv_at hl 1 rfl) ?_
  refine lv_iload hx hb dL_law_208 (lv_at hl 12 rfl) ?_
  refine lv_iconst (v := 1) hx hb dL_law_210 (by decide) ?_
  refine h_callV (rest := []) X Y (c_gets l G Mz1 S h hQv 0 i true (by omega) hi) gw_L_152 dsc_X11_gets ho0 rfl rfl rfl hl.1 rfl (Nat.le_of_ble_eq_true rfl) ⟨Nat.le_of_ble_eq_true rfl, Nat.le_of_ble_eq_true rfl⟩ ⟨(by show _ ≤ 600086; first | omega | (dsimp only [hRm]; omega)), (by show _ ≤ 7301442; first | omega | (dsimp only [hRm]; omega))⟩ dL_law_211 ?_
  rintro _ Mz2 H locs ⟨rfl, hs9⟩ Y
  have hQv := hQv.sim hs9
  have ho0 := hQv.2.2.1.1
  try dsimp only [Option.toList, List.singleton_append]
  refine h_ev (y := nI t0) te0 ?_
  refine lv_if_ge (tgt := 219) hx hb dL_law_214 (by decide) (fun c214 => ?_) (fun c214 => absurd (show ¬ 0 ≤ t0 from fun z9 => c214 ((nI_leI (a := 0) (b := t0) (by omega) (by omega)).mpr z9)) (by omega))
  have c214 : 0 ≤ t0 := (nI_leI (a := 0) (b := t0) (by omega) (by omega)).mp c214
  refine lv_lload hx hb dL_law_219 (lv_at hl 2 rfl) ?_
  refine lv_iload hx hb dL_law_221 (lv_at hl 0 rfl) ?_
  refine lv_i2l (v := (nI g0).toInt64) hx hb dL_law_223 rfl ?_
  refine lv_ladd hx hb dL_law_224 ?_
  refine h_evL (y := lN (0 + g0)) (by rw [nI_l (by omega), lN_add]) ?_
  refine lv_lstore (lv' := [(14, .long (lN (0 + g0))), (17, .int (nI g0)), (16, .int 0), (0, .ref G.2.1), (1, .ref (sA S 0)), (2, .ref tt), (3, .ref bb), (4, .int (nI (sM S))), (5, .int (nI (hNow h))), (6, .long sm), (8, .long (lN A9)), (10, .long (lN I9)), (12, .int (nI i)), (13, .int (nI (lfN S (-1) i)))]) hx hb dL_law_225 hl (by decide) rfl (fun ls hl => ?_)
  refine lv_iinc (v := nI 1) (lv' := [(16, .int (nI 1)), (14, .long (lN (0 + g0))), (17, .int (nI g0)), (0, .ref G.2.1), (1, .ref (sA S 0)), (2, .ref tt), (3, .ref bb), (4, .int (nI (sM S))), (5, .int (nI (hNow h))), (6, .long sm), (8, .long (lN A9)), (10, .long (lN I9)), (12, .int (nI i)), (13, .int (nI (lfN S (-1) i)))]) hx hb dL_law_227 hl (k := 2) rfl (by decide) (by decide) rfl (fun ls hl => ?_)
  refine lv_goto (tgt := 183) hx hb dL_law_230 (by decide) ?_
  refine lv_iload hx hb dL_law_183 (lv_at hl 0 rfl) ?_
  refine lv_iconst (v := 3) hx hb dL_law_185 (by decide) ?_
  refine lv_icmp_ge (tgt := 233) hx hb dL_law_186 (by decide) (fun c186 => absurd c186 (by decide)) (fun c186 => ?_)
  refine lv_aload_n hx hb dL_law_189 rfl (lv_at hl 4 rfl) ?_
  refine lv_iload hx hb dL_law_190 (lv_at hl 0 rfl) ?_
  refine lv_iload hx hb dL_law_192 (lv_at hl 12 rfl) ?_
  refine lv_iconst (v := 0) hx hb dL_law_194 (by decide) ?_
  refine h_callV (rest := []) X Y (c_gets l G Mz2 S h hQv 1 i false (by omega) hi) gw_L_152 dsc_X11_gets ho0 rfl rfl rfl hl.1 rfl (Nat.le_of_ble_eq_true rfl) ⟨Nat.le_of_ble_eq_true rfl, Nat.le_of_ble_eq_true rfl⟩ ⟨(by show _ ≤ 600086; first | omega | (dsimp only [hRm]; omega)), (by show _ ≤ 7301442; first | omega | (dsimp only [hRm]; omega))⟩ dL_law_195 ?_
  rintro _ Mz3 H locs ⟨rfl, hs9⟩ Y
  have hQv := hQv.sim hs9
  have ho0 := hQv.2.2.1.1
  try dsimp only [Option.toList, List.singleton_append]
  refine h_ev (y := nI g1) ge1 ?_
  refine lv_istore (lv' := [(17, .int (nI g1)), (16, .int (nI 1)), (14, .long (lN (0 + g0))), (0, .ref G.2.1), (1, .ref (sA S 0)), (2, .ref tt), (3, .ref bb), (4, .int (nI (sM S))), (5, .int (nI (hNow h))), (6, .long sm), (8, .long (lN A9)), (10, .long (lN I9)), (12, .int (nI i)), (13, .int (nI (lfN S (-1) i)))]) hx hb dL_law_198 hl (by decide) rfl (fun ls hl => ?_)
  refine lv_iload hx hb dL_law_200 (lv_at hl 0 rfl) ?_
  refine lv_if_lt (tgt := 217) hx hb dL_law_202 (by decide) (fun c202 => absurd (show g1 < 0 from (nI_ltI (a := g1) (b := 0) (by omega) (by omega)).mp c202) (by omega)) (fun c202 => ?_)
  have c202 : ¬ g1 < 0 := fun z9 => c202 ((nI_ltI (a := g1) (b := 0) (by omega) (by omega)).mpr z9)
  refine lv_aload_n hx hb dL_law_205 rfl (lv_at hl 4 rfl) ?_
  refine lv_iload hx hb dL_law_206 (lv_at hl 1 rfl) ?_
  refine lv_iload hx hb dL_law_208 (lv_at hl 12 rfl) ?_
  refine lv_iconst (v := 1) hx hb dL_law_210 (by decide) ?_
  refine h_callV (rest := []) X Y (c_gets l G Mz3 S h hQv 1 i true (by omega) hi) gw_L_152 dsc_X11_gets ho0 rfl rfl rfl hl.1 rfl (Nat.le_of_ble_eq_true rfl) ⟨Nat.le_of_ble_eq_true rfl, Nat.le_of_ble_eq_true rfl⟩ ⟨(by show _ ≤ 600086; first | omega | (dsimp only [hRm]; omega)), (by show _ ≤ 7301442; first | omega | (dsimp only [hRm]; omega))⟩ dL_law_211 ?_
  rintro _ Mz4 H locs ⟨rfl, hs9⟩ Y
  have hQv := hQv.sim hs9
  have ho0 := hQv.2.2.1.1
  try dsimp only [Option.toList, List.singleton_append]
  refine h_ev (y := nI t1) te1 ?_
  refine lv_if_ge (tgt := 219) hx hb dL_law_214 (by decide) (fun c214 => ?_) (fun c214 => absurd (show ¬ 0 ≤ t1 from fun z9 => c214 ((nI_leI (a := 0) (b := t1) (by omega) (by omega)).mpr z9)) (by omega))
  have c214 : 0 ≤ t1 := (nI_leI (a := 0) (b := t1) (by omega) (by omega)).mp c214
  refine lv_lload hx hb dL_law_219 (lv_at hl 2 rfl) ?_
  refine lv_iload hx hb dL_law_221 (lv_at hl 0 rfl) ?_
  refine lv_i2l (v := (nI g1).toInt64) hx hb dL_law_223 rfl ?_
  refine lv_ladd hx hb dL_law_224 ?_
  refine h_evL (y := lN (0 + g0 + g1)) (by rw [nI_l (by omega), lN_add]) ?_
  refine lv_lstore (lv' := [(14, .long (lN (0 + g0 + g1))), (17, .int (nI g1)), (16, .int (nI 1)), (0, .ref G.2.1), (1, .ref (sA S 0)), (2, .ref tt), (3, .ref bb), (4, .int (nI (sM S))), (5, .int (nI (hNow h))), (6, .long sm), (8, .long (lN A9)), (10, .long (lN I9)), (12, .int (nI i)), (13, .int (nI (lfN S (-1) i)))]) hx hb dL_law_225 hl (by decide) rfl (fun ls hl => ?_)
  refine lv_iinc (v := nI 2) (lv' := [(16, .int (nI 2)), (14, .long (lN (0 + g0 + g1))), (17, .int (nI g1)), (0, .ref G.2.1), (1, .ref (sA S 0)), (2, .ref tt), (3, .ref bb), (4, .int (nI (sM S))), (5, .int (nI (hNow h))), (6, .long sm), (8, .long (lN A9)), (10, .long (lN I9)), (12, .int (nI i)), (13, .int (nI (lfN S (-1) i)))]) hx hb dL_law_227 hl (k := 2) rfl (by decide) (by decide) rfl (fun ls hl => ?_)
  refine lv_goto (tgt := 183) hx hb dL_law_230 (by decide) ?_
  refine lv_iload hx hb dL_law_183 (lv_at hl 0 rfl) ?_
  refine lv_iconst (v := 3) hx hb dL_law_185 (by decide) ?_
  refine lv_icmp_ge (tgt := 233) hx hb dL_law_186 (by decide) (fun c186 => absurd c186 (by decide)) (fun c186 => ?_)
  refine lv_aload_n hx hb dL_law_189 rfl (lv_at hl 4 rfl) ?_
  refine lv_iload hx hb dL_law_190 (lv_at hl 0 rfl) ?_
  refine lv_iload hx hb dL_law_192 (lv_at hl 12 rfl) ?_
  refine lv_iconst (v := 0) hx hb dL_law_194 (by decide) ?_
  refine h_callV (rest := []) X Y (c_gets l G Mz4 S h hQv 2 i false (by omega) hi) gw_L_152 dsc_X11_gets ho0 rfl rfl rfl hl.1 rfl (Nat.le_of_ble_eq_true rfl) ⟨Nat.le_of_ble_eq_true rfl, Nat.le_of_ble_eq_true rfl⟩ ⟨(by show _ ≤ 600086; first | omega | (dsimp only [hRm]; omega)), (by show _ ≤ 7301442; first | omega | (dsimp only [hRm]; omega))⟩ dL_law_195 ?_
  rintro _ Mz5 H locs ⟨rfl, hs9⟩ Y
  have hQv := hQv.sim hs9
  have ho0 := hQv.2.2.1.1
  try dsimp only [Option.toList, List.singleton_append]
  refine h_ev (y := nI g2) ge2 ?_
  refine lv_istore (lv' := [(17, .int (nI g2)), (16, .int (nI 2)), (14, .long (lN (0 + g0 + g1))), (0, .ref G.2.1), (1, .ref (sA S 0)), (2, .ref tt), (3, .ref bb), (4, .int (nI (sM S))), (5, .int (nI (hNow h))), (6, .long sm), (8, .long (lN A9)), (10, .long (lN I9)), (12, .int (nI i)), (13, .int (nI (lfN S (-1) i)))]) hx hb dL_law_198 hl (by decide) rfl (fun ls hl => ?_)
  refine lv_iload hx hb dL_law_200 (lv_at hl 0 rfl) ?_
  refine lv_if_lt (tgt := 217) hx hb dL_law_202 (by decide) (fun c202 => absurd (show g2 < 0 from (nI_ltI (a := g2) (b := 0) (by omega) (by omega)).mp c202) (by omega)) (fun c202 => ?_)
  have c202 : ¬ g2 < 0 := fun z9 => c202 ((nI_ltI (a := g2) (b := 0) (by omega) (by omega)).mpr z9)
  refine lv_aload_n hx hb dL_law_205 rfl (lv_at hl 4 rfl) ?_
  refine lv_iload hx hb dL_law_206 (lv_at hl 1 rfl) ?_
  refine lv_iload hx hb dL_law_208 (lv_at hl 12 rfl) ?_
  refine lv_iconst (v := 1) hx hb dL_law_210 (by decide) ?_
  refine h_callV (rest := []) X Y (c_gets l G Mz5 S h hQv 2 i true (by omega) hi) gw_L_152 dsc_X11_gets ho0 rfl rfl rfl hl.1 rfl (Nat.le_of_ble_eq_true rfl) ⟨Nat.le_of_ble_eq_true rfl, Nat.le_of_ble_eq_true rfl⟩ ⟨(by show _ ≤ 600086; first | omega | (dsimp only [hRm]; omega)), (by show _ ≤ 7301442; first | omega | (dsimp only [hRm]; omega))⟩ dL_law_211 ?_
  rintro _ Mz6 H locs ⟨rfl, hs9⟩ Y
  have hQv := hQv.sim hs9
  have ho0 := hQv.2.2.1.1
  try dsimp only [Option.toList, List.singleton_append]
  refine h_ev (y := nI t2) te2 ?_
  refine lv_if_ge (tgt := 219) hx hb dL_law_214 (by decide) (fun c214 => ?_) (fun c214 => absurd (show ¬ 0 ≤ t2 from fun z9 => c214 ((nI_leI (a := 0) (b := t2) (by omega) (by omega)).mpr z9)) (by omega))
  have c214 : 0 ≤ t2 := (nI_leI (a := 0) (b := t2) (by omega) (by omega)).mp c214
  refine lv_lload hx hb dL_law_219 (lv_at hl 2 rfl) ?_
  refine lv_iload hx hb dL_law_221 (lv_at hl 0 rfl) ?_
  refine lv_i2l (v := (nI g2).toInt64) hx hb dL_law_223 rfl ?_
  refine lv_ladd hx hb dL_law_224 ?_
  refine h_evL (y := lN (0 + g0 + g1 + g2)) (by rw [nI_l (by omega), lN_add]) ?_
  refine lv_lstore (lv' := [(14, .long (lN (0 + g0 + g1 + g2))), (17, .int (nI g2)), (16, .int (nI 2)), (0, .ref G.2.1), (1, .ref (sA S 0)), (2, .ref tt), (3, .ref bb), (4, .int (nI (sM S))), (5, .int (nI (hNow h))), (6, .long sm), (8, .long (lN A9)), (10, .long (lN I9)), (12, .int (nI i)), (13, .int (nI (lfN S (-1) i)))]) hx hb dL_law_225 hl (by decide) rfl (fun ls hl => ?_)
  refine lv_iinc (v := nI 3) (lv' := [(16, .int (nI 3)), (14, .long (lN (0 + g0 + g1 + g2))), (17, .int (nI g2)), (0, .ref G.2.1), (1, .ref (sA S 0)), (2, .ref tt), (3, .ref bb), (4, .int (nI (sM S))), (5, .int (nI (hNow h))), (6, .long sm), (8, .long (lN A9)), (10, .long (lN I9)), (12, .int (nI i)), (13, .int (nI (lfN S (-1) i)))]) hx hb dL_law_227 hl (k := 2) rfl (by decide) (by decide) rfl (fun ls hl => ?_)
  refine lv_goto (tgt := 183) hx hb dL_law_230 (by decide) ?_
  refine lv_iload hx hb dL_law_183 (lv_at hl 0 rfl) ?_
  refine lv_iconst (v := 3) hx hb dL_law_185 (by decide) ?_
  refine lv_icmp_ge (tgt := 233) hx hb dL_law_186 (by decide) (fun c186 => ?_) (fun c186 => absurd (by decide) c186)
  refine lv_iload hx hb dL_law_233 (lv_at hl 13 rfl) ?_
  refine lv_i2l (v := (nI (lfN S (-1) i)).toInt64) hx hb dL_law_235 rfl ?_
  refine lv_lconst (v := 0) hx hb dL_law_236 (by decide) ?_
  refine lv_aload_n hx hb dL_law_237 rfl (lv_at hl 4 rfl) ?_
  refine lv_iload hx hb dL_law_238 (lv_at hl 12 rfl) ?_
  refine lv_iconst (v := 4) hx hb dL_law_240 (by decide) ?_
  refine h_callV (rest := [.long 0, .long ((nI (lfN S (-1) i)).toInt64)]) X Y (c_claim l G Mz6 S h hQv i 4 hi (by decide)) gw_L_149 dsc_X11_claim ho0 rfl rfl rfl hl.1 rfl (Nat.le_of_ble_eq_true rfl) ⟨Nat.le_of_ble_eq_true rfl, Nat.le_of_ble_eq_true rfl⟩ ⟨(by show _ ≤ 600086; first | omega | (dsimp only [hRm]; omega)), (by show _ ≤ 7301442; first | omega | (dsimp only [hRm]; omega))⟩ dL_law_241 ?_
  rintro _ Mz7 H locs ⟨rfl, hs9⟩ Y
  have hQv := hQv.sim hs9
  have ho0 := hQv.2.2.1.1
  try dsimp only [Option.toList, List.singleton_append]
  refine h_ev (y := nI (pp + r)) e4 ?_
  refine lv_i2l (v := (nI (pp + r)).toInt64) hx hb dL_law_244 rfl ?_
  refine lv_lload hx hb dL_law_245 (lv_at hl 1 rfl) ?_
  refine lv_lsub hx hb dL_law_247 ?_
  refine h_mmaxL X kml_L_156 hl.1 (Nat.le_of_ble_eq_true rfl) (Nat.le_of_ble_eq_true rfl) ⟨(by show _ ≤ 600086; first | omega | (dsimp only [hRm]; omega)), (by show _ ≤ 7301442; first | omega | (dsimp only [hRm]; omega))⟩ dL_law_248 ?_
  refine h_evL (y := lN (pp + r - (0 + g0 + g1 + g2))) (by rw [nI_l (by omega)]; exact sMaxL_0s _ _ (by omega) (by omega)) ?_
  refine W.lcmp hx hb dL_law_251 ?_
  refine h_ev (y := nI 0) (by rw [gl, nI_l (by omega)]; exact lg_cmp_s _) ?_
  refine lv_if_ne (tgt := 309) hx hb dL_law_252 (by decide) (fun c252 => absurd (by decide) c252) (fun c252 => ?_)
  refine lv_aload_n hx hb dL_law_255 rfl (lv_at hl 4 rfl) ?_
  refine lv_iload hx hb dL_law_256 (lv_at hl 12 rfl) ?_
  refine lv_iload hx hb dL_law_258 (lv_at hl 8 rfl) ?_
  refine lv_aload_n hx hb dL_law_260 rfl (lv_at hl 4 rfl) ?_
  refine lv_iload hx hb dL_law_261 (lv_at hl 12 rfl) ?_
  refine lv_iconst (v := 0) hx hb dL_law_263 (by decide) ?_
  refine h_callV (rest := [.int (nI (hNow h)), .int (nI i), .ref (sA S 0)]) X Y (c_claim l G Mz7 S h hQv i 0 hi (by decide)) gw_L_149 dsc_X11_claim ho0 rfl rfl rfl hl.1 rfl (Nat.le_of_ble_eq_true rfl) ⟨Nat.le_of_ble_eq_true rfl, Nat.le_of_ble_eq_true rfl⟩ ⟨(by show _ ≤ 600086; first | omega | (dsimp only [hRm]; omega)), (by show _ ≤ 7301442; first | omega | (dsimp only [hRm]; omega))⟩ dL_law_264 ?_
  rintro _ Mz8 H locs ⟨rfl, hs9⟩ Y
  have hQv := hQv.sim hs9
  have ho0 := hQv.2.2.1.1
  try dsimp only [Option.toList, List.singleton_append]
  refine h_ev (y := nI (clY (sC S i))) rfl ?_
  refine lv_isub hx hb dL_law_267 ?_
  refine h_ev (y := nI (hNow h - clY (sC S i))) (pk_sub hyn) ?_
  refine lv_iconst (v := 1) hx hb dL_law_268 (by decide) ?_
  refine h_callVr (rest := []) X Y (c_at l G Mz8 S h hQv i (hNow h - clY (sC S i)) true hi (by omega)) rfl rfl gw_L_159 dsc_X11_at ho0 rfl rfl rfl rfl hl.1 (Nat.le_of_ble_eq_true rfl) ⟨Nat.le_of_ble_eq_true rfl, Nat.le_of_ble_eq_true rfl⟩ ⟨(by show _ ≤ 600086; first | omega | (dsimp only [hRm]; omega)), (by show _ ≤ 7301442; first | omega | (dsimp only [hRm]; omega))⟩ dL_law_269 (fun H locs Y => ?_)
  refine h_ev (y := nI pp) ((known_now true).trans ea1) ?_
  refine lv_aload_n hx hb dL_law_272 rfl (lv_at hl 4 rfl) ?_
  refine lv_iload hx hb dL_law_273 (lv_at hl 12 rfl) ?_
  refine lv_iconst (v := 2) hx hb dL_law_275 (by decide) ?_
  refine h_callV (rest := [.int (nI pp)]) X Y (c_claim l G Mz8 S h hQv i 2 hi (by decide)) gw_L_149 dsc_X11_claim ho0 rfl rfl rfl hl.1 rfl (Nat.le_of_ble_eq_true rfl) ⟨Nat.le_of_ble_eq_true rfl, Nat.le_of_ble_eq_true rfl⟩ ⟨(by show _ ≤ 600086; first | omega | (dsimp only [hRm]; omega)), (by show _ ≤ 7301442; first | omega | (dsimp only [hRm]; omega))⟩ dL_law_276 ?_
  rintro _ Mz9 H locs ⟨rfl, hs9⟩ Y
  have hQv := hQv.sim hs9
  have ho0 := hQv.2.2.1.1
  try dsimp only [Option.toList, List.singleton_append]
  refine h_ev (y := nI pp) e1 ?_
  refine lv_icmp_ne (tgt := 309) hx hb dL_law_279 (by decide) (fun c279 => absurd (show ¬ pp = pp from fun z9 => c279 ((nI_eq (a := pp) (b := pp) (by omega) (by omega)).mpr z9)) (by omega)) (fun c279 => ?_)
  have c279 : pp = pp := (nI_eq (a := pp) (b := pp) (by omega) (by omega)).mp c279
  refine lv_aload_n hx hb dL_law_282 rfl (lv_at hl 4 rfl) ?_
  refine lv_iload hx hb dL_law_283 (lv_at hl 12 rfl) ?_
  refine lv_iload hx hb dL_law_285 (lv_at hl 8 rfl) ?_
  refine lv_aload_n hx hb dL_law_287 rfl (lv_at hl 4 rfl) ?_
  refine lv_iload hx hb dL_law_288 (lv_at hl 12 rfl) ?_
  refine lv_iconst (v := 0) hx hb dL_law_290 (by decide) ?_
  refine h_callV (rest := [.int (nI (hNow h)), .int (nI i), .ref (sA S 0)]) X Y (c_claim l G Mz9 S h hQv i 0 hi (by decide)) gw_L_149 dsc_X11_claim ho0 rfl rfl rfl hl.1 rfl (Nat.le_of_ble_eq_true rfl) ⟨Nat.le_of_ble_eq_true rfl, Nat.le_of_ble_eq_true rfl⟩ ⟨(by show _ ≤ 600086; first | omega | (dsimp only [hRm]; omega)), (by show _ ≤ 7301442; first | omega | (dsimp only [hRm]; omega))⟩ dL_law_291 ?_
  rintro _ Mz10 H locs ⟨rfl, hs9⟩ Y
  have hQv := hQv.sim hs9
  have ho0 := hQv.2.2.1.1
  try dsimp only [Option.toList, List.singleton_append]
  refine h_ev (y := nI (clY (sC S i))) rfl ?_
  refine lv_isub hx hb dL_law_294 ?_
  refine h_ev (y := nI (hNow h - clY (sC S i))) (pk_sub hyn) ?_
  refine lv_iconst (v := 0) hx hb dL_law_295 (by decide) ?_
  refine h_callVr (rest := []) X Y (c_at l G Mz10 S h hQv i (hNow h - clY (sC S i)) false hi (by omega)) rfl rfl gw_L_159 dsc_X11_at ho0 rfl rfl rfl rfl hl.1 (Nat.le_of_ble_eq_true rfl) ⟨Nat.le_of_ble_eq_true rfl, Nat.le_of_ble_eq_true rfl⟩ ⟨(by show _ ≤ 600086; first | omega | (dsimp only [hRm]; omega)), (by show _ ≤ 7301442; first | omega | (dsimp only [hRm]; omega))⟩ dL_law_296 (fun H locs Y => ?_)
  refine h_ev (y := nI (pp + r)) ((known_now false).trans ea2) ?_
  refine lv_aload_n hx hb dL_law_299 rfl (lv_at hl 4 rfl) ?_
  refine lv_iload hx hb dL_law_300 (lv_at hl 12 rfl) ?_
  refine lv_iconst (v := 4) hx hb dL_law_302 (by decide) ?_
  refine h_callV (rest := [.int (nI (pp + r))]) X Y (c_claim l G Mz10 S h hQv i 4 hi (by decide)) gw_L_149 dsc_X11_claim ho0 rfl rfl rfl hl.1 rfl (Nat.le_of_ble_eq_true rfl) ⟨Nat.le_of_ble_eq_true rfl, Nat.le_of_ble_eq_true rfl⟩ ⟨(by show _ ≤ 600086; first | omega | (dsimp only [hRm]; omega)), (by show _ ≤ 7301442; first | omega | (dsimp only [hRm]; omega))⟩ dL_law_303 ?_
  rintro _ Mz11 H locs ⟨rfl, hs9⟩ Y
  have hQv := hQv.sim hs9
  have ho0 := hQv.2.2.1.1
  try dsimp only [Option.toList, List.singleton_append]
  refine h_ev (y := nI (pp + r)) e4 ?_
  refine lv_icmp_eq (tgt := 311) hx hb dL_law_306 (by decide) (fun c306 => ?_) (fun c306 => absurd (show ¬ (pp + r) = (pp + r) from fun z9 => c306 ((nI_eq (a := (pp + r)) (b := (pp + r)) (by omega) (by omega)).mpr z9)) (by omega))
  have c306 : (pp + r) = (pp + r) := (nI_eq (a := (pp + r)) (b := (pp + r)) (by omega) (by omega)).mp c306
  refine lv_lload hx hb dL_law_311 (lv_at hl 10 rfl) ?_
  refine lv_iload hx hb dL_law_313 (lv_at hl 13 rfl) ?_
  refine lv_i2l (v := (nI (lfN S (-1) i)).toInt64) hx hb dL_law_315 rfl ?_
  refine lv_ladd hx hb dL_law_316 ?_
  refine h_evL (y := lN (A9 + lfN S (-1) i)) (by rw [nI_l (by omega), lN_add]) ?_
  refine lv_lstore (lv' := [(8, .long (lN (A9 + lfN S (-1) i))), (16, .int (nI 3)), (14, .long (lN (0 + g0 + g1 + g2))), (17, .int (nI g2)), (0, .ref G.2.1), (1, .ref (sA S 0)), (2, .ref tt), (3, .ref bb), (4, .int (nI (sM S))), (5, .int (nI (hNow h))), (6, .long sm), (10, .long (lN I9)), (12, .int (nI i)), (13, .int (nI (lfN S (-1) i)))]) hx hb dL_law_317 hl (by decide) rfl (fun ls hl => ?_)
  refine lv_lload hx hb dL_law_319 (lv_at hl 11 rfl) ?_
  refine lv_aload_n hx hb dL_law_321 rfl (lv_at hl 5 rfl) ?_
  refine lv_iload hx hb dL_law_322 (lv_at hl 12 rfl) ?_
  refine lv_iconst (v := 4) hx hb dL_law_324 (by decide) ?_
  refine h_callV (rest := [.long (lN I9)]) X Y (c_claim l G Mz11 S h hQv i 4 hi (by decide)) gw_L_149 dsc_X11_claim ho0 rfl rfl rfl hl.1 rfl (Nat.le_of_ble_eq_true rfl) ⟨Nat.le_of_ble_eq_true rfl, Nat.le_of_ble_eq_true rfl⟩ ⟨(by show _ ≤ 600086; first | omega | (dsimp only [hRm]; omega)), (by show _ ≤ 7301442; first | omega | (dsimp only [hRm]; omega))⟩ dL_law_325 ?_
  rintro _ Mz12 H locs ⟨rfl, hs9⟩ Y
  have hQv := hQv.sim hs9
  have ho0 := hQv.2.2.1.1
  try dsimp only [Option.toList, List.singleton_append]
  refine h_ev (y := nI (pp + r)) e4 ?_
  refine lv_i2l (v := (nI (pp + r)).toInt64) hx hb dL_law_328 rfl ?_
  refine lv_ladd hx hb dL_law_329 ?_
  refine h_evL (y := lN (I9 + (pp + r))) (by rw [nI_l (by omega), lN_add]) ?_
  refine lv_lstore (lv' := [(10, .long (lN (I9 + (pp + r)))), (8, .long (lN (A9 + lfN S (-1) i))), (16, .int (nI 3)), (14, .long (lN (0 + g0 + g1 + g2))), (17, .int (nI g2)), (0, .ref G.2.1), (1, .ref (sA S 0)), (2, .ref tt), (3, .ref bb), (4, .int (nI (sM S))), (5, .int (nI (hNow h))), (6, .long sm), (12, .int (nI i)), (13, .int (nI (lfN S (-1) i)))]) hx hb dL_law_330 hl (by decide) rfl (fun ls hl => ?_)
  refine lv_iconst (v := 1) hx hb dL_law_332 (by decide) ?_
  refine lv_istore (lv' := [(16, .int 1), (10, .long (lN (I9 + (pp + r)))), (8, .long (lN (A9 + lfN S (-1) i))), (14, .long (lN (0 + g0 + g1 + g2))), (17, .int (nI g2)), (0, .ref G.2.1), (1, .ref (sA S 0)), (2, .ref tt), (3, .ref bb), (4, .int (nI (sM S))), (5, .int (nI (hNow h))), (6, .long sm), (12, .int (nI i)), (13, .int (nI (lfN S (-1) i)))]) hx hb dL_law_333 hl (by decide) rfl (fun ls hl => ?_)
  have loop : ∀ (d a : Nat), a + d = (hNow h - clY (sC S i)) + 2 → a ≤ (hNow h - clY (sC S i)) + 1 → ∀ (M1 : hM), QV G M1 S h → ∀ (H : Heap) (locs : List Loc) (ls : Array Slot), hHS G M1 s H locs → lv_has ls 18 [(0, .ref G.2.1), (1, .ref (sA S 0)), (2, .ref tt), (3, .ref bb), (4, .int (nI (sM S))), (5, .int (nI (hNow h))), (6, .long sm), (8, .long (lN (A9 + lfN S (-1) i))), (10, .long (lN (I9 + (pp + r)))), (12, .int (nI i)), (16, .int (nI (a + 1)))] → W p l e (room_1) s m args below meth c H locs cells slots Q (F0 m 335 ls []) := by
    intro d
    induction d with
    | zero => intro a h1; intros; exact absurd h1 (by omega)
    | succ d ih =>
      intro a h1 h2 M1 hQv H locs ls Y hl
      have ho0 := hQv.2.2.1.1
      refine lv_iload hx hb dL_law_335 (lv_at hl 10 rfl) ?_
      refine lv_iload hx hb dL_law_337 (lv_at hl 5 rfl) ?_
      refine lv_aload_n hx hb dL_law_339 rfl (lv_at hl 1 rfl) ?_
      refine lv_iload hx hb dL_law_340 (lv_at hl 9 rfl) ?_
      refine lv_iconst (v := 0) hx hb dL_law_342 (by decide) ?_
      refine h_callV (rest := [.int (nI (hNow h)), .int (nI (a + 1))]) X Y (c_claim l G M1 S h hQv i 0 hi (by decide)) gw_L_149 dsc_X11_claim ho0 rfl rfl rfl hl.1 rfl (Nat.le_of_ble_eq_true rfl) ⟨Nat.le_of_ble_eq_true rfl, Nat.le_of_ble_eq_true rfl⟩ ⟨(by show _ ≤ 600086; first | omega | (dsimp only [hRm]; omega)), (by show _ ≤ 7301442; first | omega | (dsimp only [hRm]; omega))⟩ dL_law_343 ?_
      rintro _ Mz13 H locs ⟨rfl, hs9⟩ Y
      have hQv := hQv.sim hs9
      have ho0 := hQv.2.2.1.1
      try dsimp only [Option.toList, List.singleton_append]
      refine h_ev (y := nI (clY (sC S i))) rfl ?_
      refine lv_isub hx hb dL_law_346 ?_
      refine h_ev (y := nI (hNow h - clY (sC S i))) (pk_sub hyn) ?_
      refine lv_icmp_gt (tgt := 381) hx hb dL_law_347 (by decide) (fun c347 => ?_) (fun c347 => ?_)
      · have c347 : (hNow h - clY (sC S i)) < (a + 1) := (nI_ltI (a := (hNow h - clY (sC S i))) (b := (a + 1)) (by omega) (by omega)).mp c347
        refine lv_iinc (v := nI (i + 1)) (lv' := [(12, .int (nI (i + 1))), (0, .ref G.2.1), (1, .ref (sA S 0)), (2, .ref tt), (3, .ref bb), (4, .int (nI (sM S))), (5, .int (nI (hNow h))), (6, .long sm), (8, .long (lN (A9 + lfN S (-1) i))), (10, .long (lN (I9 + (pp + r)))), (16, .int (nI (a + 1)))]) hx hb dL_law_381 hl (k := 9) rfl (nI_1 i) (by decide) rfl (fun ls hl => ?_)
        refine lv_goto (tgt := 67) hx hb dL_law_384 (by decide) ?_
        exact W.wid (by first | omega | (dsimp only [hRm]; omega) | (simp [hRm]; omega)) (by first | omega | (dsimp only [hRm]; omega) | (simp [hRm]; omega)) (kk _ _ _ _ Y hQv (lv_sub hl [1, 2, 3, 4, 5, 6, 7, 8, 9, 0] rfl))
      · have c347 : ¬ (hNow h - clY (sC S i)) < (a + 1) := fun z9 => c347 ((nI_ltI (a := (hNow h - clY (sC S i))) (b := (a + 1)) (by omega) (by omega)).mpr z9)
        have ha1 : a + 1 ≤ hNow h - clY (sC S i) := by omega
        refine lv_aload_n hx hb dL_law_350 rfl (lv_at hl 1 rfl) ?_
        refine lv_iload hx hb dL_law_351 (lv_at hl 9 rfl) ?_
        refine lv_iload hx hb dL_law_353 (lv_at hl 10 rfl) ?_
        refine lv_iconst (v := 1) hx hb dL_law_355 (by decide) ?_
        refine h_callVr (rest := []) X Y (c_at l G Mz13 S h hQv i (a + 1) true hi (by omega)) rfl rfl gw_L_159 dsc_X11_at ho0 rfl rfl rfl rfl hl.1 (Nat.le_of_ble_eq_true rfl) ⟨Nat.le_of_ble_eq_true rfl, Nat.le_of_ble_eq_true rfl⟩ ⟨(by show _ ≤ 600086; first | omega | (dsimp only [hRm]; omega)), (by show _ ≤ 7301442; first | omega | (dsimp only [hRm]; omega))⟩ dL_law_356 (fun H locs Y => ?_)
        obtain ⟨km, kn, kmn, knb, ekm, ekn⟩ := known_up (hGC.2.2 i hi).1 (a := a) (by omega)
        refine h_ev (y := nI kn) ekn ?_
        refine lv_aload_n hx hb dL_law_359 rfl (lv_at hl 1 rfl) ?_
        refine lv_iload hx hb dL_law_360 (lv_at hl 9 rfl) ?_
        refine lv_iload hx hb dL_law_362 (lv_at hl 10 rfl) ?_
        refine lv_iconst (v := 1) hx hb dL_law_364 (by decide) ?_
        refine lv_isub hx hb dL_law_365 ?_
        refine h_ev (y := nI a) (pk_sub (a := a + 1) (b := 1) (by omega)) ?_
        refine lv_iconst (v := 1) hx hb dL_law_366 (by decide) ?_
        refine h_callVr (rest := [.int (nI kn)]) X Y (c_at l G Mz13 S h hQv i a true hi (by omega)) rfl rfl gw_L_159 dsc_X11_at ho0 rfl rfl rfl rfl hl.1 (Nat.le_of_ble_eq_true rfl) ⟨Nat.le_of_ble_eq_true rfl, Nat.le_of_ble_eq_true rfl⟩ ⟨(by show _ ≤ 600086; first | omega | (dsimp only [hRm]; omega)), (by show _ ≤ 7301442; first | omega | (dsimp only [hRm]; omega))⟩ dL_law_367 (fun H locs Y => ?_)
        refine h_ev (y := nI km) ekm ?_
        refine lv_icmp_ge (tgt := 375) hx hb dL_law_370 (by decide) (fun c370 => ?_) (fun c370 => absurd (show ¬ km ≤ kn from fun z9 => c370 ((nI_leI (a := km) (b := kn) (by omega) (by omega)).mpr z9)) (by omega))
        have c370 : km ≤ kn := (nI_leI (a := km) (b := kn) (by omega) (by omega)).mp c370
        refine lv_iinc (v := nI ((a + 1) + 1)) (lv' := [(16, .int (nI ((a + 1) + 1))), (0, .ref G.2.1), (1, .ref (sA S 0)), (2, .ref tt), (3, .ref bb), (4, .int (nI (sM S))), (5, .int (nI (hNow h))), (6, .long sm), (8, .long (lN (A9 + lfN S (-1) i))), (10, .long (lN (I9 + (pp + r)))), (12, .int (nI i))]) hx hb dL_law_375 hl (k := 10) rfl (nI_1 (a + 1)) (by decide) rfl (fun ls hl => ?_)
        refine lv_goto (tgt := 335) hx hb dL_law_378 (by decide) ?_
        exact W.wid (by first | omega | (dsimp only [hRm]; omega) | (simp [hRm]; omega)) (by first | omega | (dsimp only [hRm]; omega) | (simp [hRm]; omega)) (ih (a + 1) (by omega) (by omega) Mz13 hQv _ _ _ Y (lv_sub hl [1, 2, 3, 4, 5, 6, 7, 8, 9, 10, 0] rfl))
  exact W.wid (by first | omega | (dsimp only [hRm]; omega) | (simp [hRm]; omega)) (by first | omega | (dsimp only [hRm]; omega) | (simp [hRm]; omega)) (loop ((hNow h - clY (sC S i)) + 2) 0 (by omega) (by omega) Mz12 hQv _ _ _ Y (lv_sub hl [5, 6, 7, 8, 9, 10, 11, 2, 1, 12, 0] rfl))
