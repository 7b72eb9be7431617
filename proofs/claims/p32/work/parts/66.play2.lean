-- THE PLAY: PAYMENTS, RESERVES, CLOSINGS
theorem sMax_0s {r x : Nat} (hr : r ≤ 2000000) (hx : x ≤ 2000000) : sMax 0 (nI r - nI x) = nI (r - x) := by
  unfold sMax
  have h1 : (nI r - nI x).toInt = (r : Int) - x := pk_sub_toInt (by omega) (by omega)
  have h0 : (0 : Int32).toInt = 0 := by decide
  by_cases h : x < r
  · rw [if_pos (by rw [Int32.lt_iff_toInt_lt, h1, h0]; omega), pk_sub (by omega)]
  · rw [if_neg (by rw [Int32.lt_iff_toInt_lt, h1, h0]; omega), show r - x = 0 by omega]
    rfl
abbrev plT : List (Nat × Nat × Nat × Nat) := [(286, 296, 299, 111), (392, 402, 405, 111)]
theorem gw_L_108 : GoodIn hGW (wsV RL 108 RX11 yX11_pay (Cond.code yX11_pay cX11_pay 4 (Option.some FieldType.int) :: hGW)) := hgi4 kml_L_108 kin_X11_pay kse_X11_X11_pay_X11_pay kini_X11 kco_X11_pay
theorem dsc_X11_pay : yX11_pay.cls = RX11 ∧ yX11_pay.cls ≠ "java/lang/invoke/MethodHandle" ∧ yX11_pay.cls ≠ "java/lang/invoke/VarHandle" ∧ (parseMethodDescriptor yX11_pay.desc).map (fun d => d.parameters.length) = some 2 := ⟨rfl, by decide +kernel, by decide +kernel, by decide +kernel⟩
theorem dL_play_235 : decode cL_play 235 = .ok (.iconst 1, 1) := by decide +kernel
theorem dL_play_236 : decode cL_play 236 = .ok (.iload 4, 2) := by decide +kernel
theorem dL_play_238 : decode cL_play 238 = .ok (.iconst 4, 1) := by decide +kernel
theorem dL_play_239 : decode cL_play 239 = .ok (.ishr, 1) := by decide +kernel
theorem dL_play_240 : decode cL_play 240 = .ok (.ldc 33, 2) := by decide +kernel
theorem dL_play_242 : decode cL_play 242 = .ok (.invokestatic 42, 3) := by decide +kernel
theorem dL_play_245 : decode cL_play 245 = .ok (.iadd, 1) := by decide +kernel
theorem dL_play_246 : decode cL_play 246 = .ok (.istore 8, 2) := by decide +kernel
theorem dL_play_248 : decode cL_play 248 = .ok (.aload_n 2, 1) := by decide +kernel
theorem dL_play_249 : decode cL_play 249 = .ok (.iconst 5, 1) := by decide +kernel
theorem dL_play_250 : decode cL_play 250 = .ok (.iload 7, 2) := by decide +kernel
theorem dL_play_252 : decode cL_play 252 = .ok (.imul, 1) := by decide +kernel
theorem dL_play_253 : decode cL_play 253 = .ok (.iconst 4, 1) := by decide +kernel
theorem dL_play_254 : decode cL_play 254 = .ok (.iadd, 1) := by decide +kernel
theorem dL_play_255 : decode cL_play 255 = .ok (.iaload, 1) := by decide +kernel
theorem dL_play_256 : decode cL_play 256 = .ok (.iconst 1, 1) := by decide +kernel
theorem dL_play_257 : decode cL_play 257 = .ok (.if_icmp .ne 23, 3) := by decide +kernel
theorem dL_play_260 : decode cL_play 260 = .ok (.aload_n 2, 1) := by decide +kernel
theorem dL_play_261 : decode cL_play 261 = .ok (.iconst 5, 1) := by decide +kernel
theorem dL_play_262 : decode cL_play 262 = .ok (.iload 7, 2) := by decide +kernel
theorem dL_play_264 : decode cL_play 264 = .ok (.imul, 1) := by decide +kernel
theorem dL_play_265 : decode cL_play 265 = .ok (.iconst 2, 1) := by decide +kernel
theorem dL_play_266 : decode cL_play 266 = .ok (.iadd, 1) := by decide +kernel
theorem dL_play_267 : decode cL_play 267 = .ok (.iaload, 1) := by decide +kernel
theorem dL_play_268 : decode cL_play 268 = .ok (.iload 8, 2) := by decide +kernel
theorem dL_play_270 : decode cL_play 270 = .ok (.iadd, 1) := by decide +kernel
theorem dL_play_271 : decode cL_play 271 = .ok (.ldc 107, 2) := by decide +kernel
theorem dL_play_273 : decode cL_play 273 = .ok (.if_icmp .gt 7, 3) := by decide +kernel
theorem dL_play_276 : decode cL_play 276 = .ok (.iconst 1, 1) := by decide +kernel
theorem dL_play_277 : decode cL_play 277 = .ok (.goto 4, 3) := by decide +kernel
theorem dL_play_280 : decode cL_play 280 = .ok (.iconst 0, 1) := by decide +kernel
theorem dL_play_281 : decode cL_play 281 = .ok (.istore 9, 2) := by decide +kernel
theorem dL_play_283 : decode cL_play 283 = .ok (.iconst (-1), 1) := by decide +kernel
theorem dL_play_284 : decode cL_play 284 = .ok (.istore 10, 2) := by decide +kernel
theorem dL_play_286 : decode cL_play 286 = .ok (.aload_n 0, 1) := by decide +kernel
theorem dL_play_287 : decode cL_play 287 = .ok (.iload 7, 2) := by decide +kernel
theorem dL_play_289 : decode cL_play 289 = .ok (.iload 8, 2) := by decide +kernel
theorem dL_play_291 : decode cL_play 291 = .ok (.invokevirtual 108, 3) := by decide +kernel
theorem dL_play_294 : decode cL_play 294 = .ok (.istore 10, 2) := by decide +kernel
theorem dL_play_296 : decode cL_play 296 = .ok (.goto 8, 3) := by decide +kernel
theorem dL_play_299 : decode cL_play 299 = .ok (.astore 11, 2) := by decide +kernel
theorem dL_play_301 : decode cL_play 301 = .ok (.iconst (-1), 1) := by decide +kernel
theorem dL_play_302 : decode cL_play 302 = .ok (.istore 10, 2) := by decide +kernel
theorem dL_play_304 : decode cL_play 304 = .ok (.iload 10, 2) := by decide +kernel
theorem dL_play_306 : decode cL_play 306 = .ok (.iload 9, 2) := by decide +kernel
theorem dL_play_308 : decode cL_play 308 = .ok (.ifCond .eq 17, 3) := by decide +kernel
theorem dL_play_311 : decode cL_play 311 = .ok (.aload_n 2, 1) := by decide +kernel
theorem dL_play_312 : decode cL_play 312 = .ok (.iconst 5, 1) := by decide +kernel
theorem dL_play_313 : decode cL_play 313 = .ok (.iload 7, 2) := by decide +kernel
theorem dL_play_315 : decode cL_play 315 = .ok (.imul, 1) := by decide +kernel
theorem dL_play_316 : decode cL_play 316 = .ok (.iconst 2, 1) := by decide +kernel
theorem dL_play_317 : decode cL_play 317 = .ok (.iadd, 1) := by decide +kernel
theorem dL_play_318 : decode cL_play 318 = .ok (.iaload, 1) := by decide +kernel
theorem dL_play_319 : decode cL_play 319 = .ok (.iload 8, 2) := by decide +kernel
theorem dL_play_321 : decode cL_play 321 = .ok (.iadd, 1) := by decide +kernel
theorem dL_play_322 : decode cL_play 322 = .ok (.goto 4, 3) := by decide +kernel
theorem dL_play_325 : decode cL_play 325 = .ok (.iconst (-1), 1) := by decide +kernel
theorem dL_play_326 : decode cL_play 326 = .ok (.if_icmp .eq 5, 3) := by decide +kernel
theorem dL_play_331 : decode cL_play 331 = .ok (.iload 9, 2) := by decide +kernel
theorem dL_play_333 : decode cL_play 333 = .ok (.ifCond .ne 6, 3) := by decide +kernel
theorem dL_play_336 : decode cL_play 336 = .ok (.goto 311, 3) := by decide +kernel
theorem dL_play_339 : decode cL_play 339 = .ok (.aload_n 2, 1) := by decide +kernel
theorem dL_play_340 : decode cL_play 340 = .ok (.iconst 5, 1) := by decide +kernel
theorem dL_play_341 : decode cL_play 341 = .ok (.iload 7, 2) := by decide +kernel
theorem dL_play_343 : decode cL_play 343 = .ok (.imul, 1) := by decide +kernel
theorem dL_play_344 : decode cL_play 344 = .ok (.iconst 2, 1) := by decide +kernel
theorem dL_play_345 : decode cL_play 345 = .ok (.iadd, 1) := by decide +kernel
theorem dL_play_346 : decode cL_play 346 = .ok (.dup2, 1) := by decide +kernel
theorem dL_play_347 : decode cL_play 347 = .ok (.iaload, 1) := by decide +kernel
theorem dL_play_348 : decode cL_play 348 = .ok (.iload 8, 2) := by decide +kernel
theorem dL_play_350 : decode cL_play 350 = .ok (.iadd, 1) := by decide +kernel
theorem dL_play_351 : decode cL_play 351 = .ok (.iastore, 1) := by decide +kernel
theorem dL_play_352 : decode cL_play 352 = .ok (.aload_n 2, 1) := by decide +kernel
theorem dL_play_353 : decode cL_play 353 = .ok (.iconst 5, 1) := by decide +kernel
theorem dL_play_354 : decode cL_play 354 = .ok (.iload 7, 2) := by decide +kernel
theorem dL_play_356 : decode cL_play 356 = .ok (.imul, 1) := by decide +kernel
theorem dL_play_357 : decode cL_play 357 = .ok (.iconst 3, 1) := by decide +kernel
theorem dL_play_358 : decode cL_play 358 = .ok (.iadd, 1) := by decide +kernel
theorem dL_play_359 : decode cL_play 359 = .ok (.iconst 0, 1) := by decide +kernel
theorem dL_play_360 : decode cL_play 360 = .ok (.aload_n 2, 1) := by decide +kernel
theorem dL_play_361 : decode cL_play 361 = .ok (.iconst 5, 1) := by decide +kernel
theorem dL_play_362 : decode cL_play 362 = .ok (.iload 7, 2) := by decide +kernel
theorem dL_play_364 : decode cL_play 364 = .ok (.imul, 1) := by decide +kernel
theorem dL_play_365 : decode cL_play 365 = .ok (.iconst 3, 1) := by decide +kernel
theorem dL_play_366 : decode cL_play 366 = .ok (.iadd, 1) := by decide +kernel
theorem dL_play_367 : decode cL_play 367 = .ok (.iaload, 1) := by decide +kernel
theorem dL_play_368 : decode cL_play 368 = .ok (.iload 8, 2) := by decide +kernel
theorem dL_play_370 : decode cL_play 370 = .ok (.isub, 1) := by decide +kernel
theorem dL_play_371 : decode cL_play 371 = .ok (.invokestatic 113, 3) := by decide +kernel
theorem dL_play_374 : decode cL_play 374 = .ok (.iastore, 1) := by decide +kernel
theorem dL_play_375 : decode cL_play 375 = .ok (.goto 272, 3) := by decide +kernel
set_option maxHeartbeats 400000 in
set_option maxRecDepth 100000 in
theorem play_pay (l : Launch) (G : hG) (p : Program) (e : Env) (s : State) (m : MethodId) (args : Array Value) (below : List Frame) (meth : Method) (c : Code) (M : hM) (H : Heap) (locs : List Loc) (ls : Array Slot) (cells slots : Nat) (Q : State → Prop) (hcs : cells + 5 ≤ 400) (hss : slots + 92 ≤ 8000) (X : hCX G p s m args meth c cL_play 12 (Option.some (FieldType.array FieldType.int)) RL "play") (Y : hHS G M s H locs) (S0 S : hSy) (h0 h : hHo) (b a0 i : Nat) (f : Nat → Int32) (ha0 : sA S 0 = a0) (I : PlI G M S0 h0 S h b f) (hl9 : l.stackTraces = false) (htab : c.exceptionTable.toList = tableOf plT) (ci : Nat) (vv : Int32) (hci : ci < sM S) (hl : lv_has ls 12 [(7, .int (nI ci)), (6, .int (nI (hNow h))), (5, .int (nI (sM S))), (4, .int vv), (3, .int (nI i)), (2, .ref b), (0, .ref (a0)), (1, .ref G.2.1)]) (kk : ∀ (M' : hM) (H : Heap) (locs : List Loc) (ls : Array Slot) (S' : hSy) (h' : hHo) (f' : Nat → Int32), hHS G M' s H locs → lv_has ls 12 [(0, .ref a0), (1, .ref G.2.1), (2, .ref b), (3, .int (nI i))] → PlI G M' S0 h0 S' h' b f' → W p l e (hRm 12 400 8000) s m args below meth c H locs (cells + 5) (slots + 92) Q (F0 m 647 ls [])) : W p l e (hRm 12 400 8000) s m args below meth c H locs cells slots Q (F0 m 235 ls []) := by
  subst ha0
  have hx := X.1
  have hb := X.2.1
  obtain ⟨hPv, hbr, ⟨hB0, hB1, hBr⟩, hCI, hSe, hhe⟩ := id I
  have h40 : sM S ≤ 40 := hPv.1.2.1.2.1
  have hn10 : hNow h < 10 := hPv.1.2.2.2.2.2.1
  have ho0 := hPv.1.2.2.1.1
  obtain ⟨li, pp, r, o, N0, N1, hc0, hc0b, hc1, hc1b, hc2, hc2b, hc3, hc3b, hc4, -⟩ := hCI ci hci
  obtain ⟨hb0, hb2, hb3, hb4⟩ := hBr ci hci
  refine lv_iconst (v := 1) hx hb dL_play_235 (by decide) ?_
  refine lv_iload hx hb dL_play_236 (lv_at hl 3 rfl) ?_
  refine lv_iconst (v := 4) hx hb dL_play_238 (by decide) ?_
  refine lv_ishr hx hb dL_play_239 ?_
  refine lv_ldc hx hb X.2.2.2.2.1 (X.2.2.2.2.2.1 _ kcI_L_33) dL_play_240 ?_
  refine h_callSr (rest := [.int 1]) X Y (c_below l G M (vv >>> (4 &&& 31)) 60000 (by omega)) rfl rfl gw_L_42 dsc_L_below.2 rfl rfl hl.1 (Nat.le_of_ble_eq_true rfl) ⟨Nat.le_of_ble_eq_true rfl, Nat.le_of_ble_eq_true rfl⟩ ⟨(by show _ ≤ 400; first | omega | (dsimp only [hRm]; omega)), (by show _ ≤ 8000; first | omega | (dsimp only [hRm]; omega))⟩ dL_play_242 (fun H locs Y => ?_)
  refine lv_iadd hx hb dL_play_245 ?_
  refine h_ev (y := nI (1 + (bel (vv >>> (4 &&& 31)) 60000))) (nI_add 1 (bel (vv >>> (4 &&& 31)) 60000)) ?_
  have hx60 := bel_lt (vv >>> (4 &&& 31)) (y := 60000) (by omega)
  obtain ⟨xx, hxx⟩ : ∃ xx, xx = (1 + (bel (vv >>> (4 &&& 31)) 60000)) := ⟨_, rfl⟩
  refine h_ev (y := nI xx) (congrArg nI hxx.symm) ?_
  have hx6 : 1 ≤ xx ∧ xx ≤ 60000 := by omega
  refine lv_istore (lv' := [(8, .int (nI xx)), (7, .int (nI ci)), (6, .int (nI (hNow h))), (5, .int (nI (sM S))), (4, .int vv), (3, .int (nI i)), (2, .ref b), (0, .ref (sA S 0)), (1, .ref G.2.1)]) hx hb dL_play_246 hl (by decide) rfl (fun ls hl => ?_)
  refine lv_aload_n hx hb dL_play_248 rfl (lv_at hl 6 rfl) ?_
  refine lv_iconst (v := 5) hx hb dL_play_249 (by decide) ?_
  refine lv_iload hx hb dL_play_250 (lv_at hl 1 rfl) ?_
  refine lv_imul hx hb dL_play_252 ?_
  refine h_ev (y := nI (5 * ci)) (pk_mul 5 ci) ?_
  refine lv_iconst (v := 4) hx hb dL_play_253 (by decide) ?_
  refine lv_iadd hx hb dL_play_254 ?_
  refine h_ev (y := nI ((5 * ci) + 4)) (nI_add (5 * ci) 4) ?_
  refine h_iald X Y (i := ((5 * ci) + 4)) hbr (by omega) (by decide) dL_play_255 ?_
  refine h_ev (y := nI o) (hb4.trans hc3) ?_
  refine lv_iconst (v := 1) hx hb dL_play_256 (by decide) ?_
  refine lv_icmp_ne (tgt := 280) hx hb dL_play_257 (by decide) (fun c257 => ?_) (fun c257 => ?_)
  · have c257 : ¬ o = 1 := fun z9 => c257 ((nI_eq (a := o) (b := 1) (by omega) (by omega)).mpr z9)
    refine lv_iconst (v := 0) hx hb dL_play_280 (by decide) ?_
    refine lv_istore (lv' := [(9, .int 0), (8, .int (nI xx)), (7, .int (nI ci)), (6, .int (nI (hNow h))), (5, .int (nI (sM S))), (4, .int vv), (3, .int (nI i)), (2, .ref b), (0, .ref (sA S 0)), (1, .ref G.2.1)]) hx hb dL_play_281 hl (by decide) rfl (fun ls hl => ?_)
    refine lv_iconst (v := (-1)) hx hb dL_play_283 (by decide) ?_
    refine lv_istore (lv' := [(10, .int (-1)), (9, .int 0), (8, .int (nI xx)), (7, .int (nI ci)), (6, .int (nI (hNow h))), (5, .int (nI (sM S))), (4, .int vv), (3, .int (nI i)), (2, .ref b), (0, .ref (sA S 0)), (1, .ref G.2.1)]) hx hb dL_play_284 hl (by decide) rfl (fun ls hl => ?_)
    refine lv_aload_n hx hb dL_play_286 rfl (lv_at hl 9 rfl) ?_
    refine lv_iload hx hb dL_play_287 (lv_at hl 3 rfl) ?_
    refine lv_iload hx hb dL_play_289 (lv_at hl 2 rfl) ?_
    have hbad : clI (sC S ci) 3 = 0 ∨ ¬ clI (sC S ci) 1 + nI xx ≤ 1000000 := by
      by_cases ho : o = 1
      · right; rw [hc1, nI_add]; exact fun z9 => absurd ((nI_leI (a := pp + xx) (b := 1000000) (by omega) (by omega)).mp z9) (by omega)
      · left; rw [hc3, show o = 0 by omega]; rfl
    refine h_callX (rest := []) (hpc := 299) (ict := 111) X Y (c_payX l G hl9 M S h hPv ci (nI xx) hci (fun z9 => absurd ((nI_ltI (a := xx) (b := 1) (by omega) (by omega)).mp z9) (by omega)) ((nI_leI (a := xx) (b := 1000000) (by omega) (by omega)).mpr (by omega)) hbad) gw_L_108 dsc_X11_pay ho0 rfl rfl rfl hl.1 rfl (Nat.le_of_ble_eq_true rfl) ⟨Nat.le_of_ble_eq_true rfl, Nat.le_of_ble_eq_true rfl⟩ ⟨(by show _ ≤ 400; first | omega | (dsimp only [hRm]; omega)), (by show _ ≤ 8000; first | omega | (dsimp only [hRm]; omega))⟩ dL_play_291 [] [⟨392, 402, 405, 111⟩] ⟨286, 296, 299, 111⟩ htab (fun z hz => absurd hz List.not_mem_nil) (by decide) rfl (by decide) rfl kcl_L_111 (fun q9 H locs Y => ?_)
    refine lv_astore (lv' := [(11, .ref q9), (10, .int (-1)), (9, .int 0), (8, .int (nI xx)), (7, .int (nI ci)), (6, .int (nI (hNow h))), (5, .int (nI (sM S))), (4, .int vv), (3, .int (nI i)), (2, .ref b), (0, .ref (sA S 0)), (1, .ref G.2.1)]) hx hb dL_play_299 hl (by decide) rfl (fun ls hl => ?_)
    refine lv_iconst (v := (-1)) hx hb dL_play_301 (by decide) ?_
    refine lv_istore (lv' := [(10, .int (-1)), (11, .ref q9), (9, .int 0), (8, .int (nI xx)), (7, .int (nI ci)), (6, .int (nI (hNow h))), (5, .int (nI (sM S))), (4, .int vv), (3, .int (nI i)), (2, .ref b), (0, .ref (sA S 0)), (1, .ref G.2.1)]) hx hb dL_play_302 hl (by decide) rfl (fun ls hl => ?_)
    refine lv_iload hx hb dL_play_304 (lv_at hl 0 rfl) ?_
    refine lv_iload hx hb dL_play_306 (lv_at hl 2 rfl) ?_
    refine lv_if_eq (tgt := 325) hx hb dL_play_308 (by decide) (fun c308 => ?_) (fun c308 => absurd (by decide) c308)
    refine lv_iconst (v := (-1)) hx hb dL_play_325 (by decide) ?_
    refine lv_icmp_eq (tgt := 331) hx hb dL_play_326 (by decide) (fun c326 => ?_) (fun c326 => absurd rfl c326)
    refine lv_iload hx hb dL_play_331 (lv_at hl 2 rfl) ?_
    refine lv_if_ne (tgt := 339) hx hb dL_play_333 (by decide) (fun c333 => absurd (by decide) c333) (fun c333 => ?_)
    refine lv_goto (tgt := 647) hx hb dL_play_336 (by decide) ?_
    exact W.wid (by first | omega | (dsimp only [hRm]; omega) | (simp [hRm]; omega)) (by first | omega | (dsimp only [hRm]; omega) | (simp [hRm]; omega)) (kk _ _ _ _ _ _ _ Y (lv_sub hl [10, 11, 9, 8] rfl) I)
  · have c257 : o = 1 := (nI_eq (a := o) (b := 1) (by omega) (by omega)).mp c257
    refine lv_aload_n hx hb dL_play_260 rfl (lv_at hl 6 rfl) ?_
    refine lv_iconst (v := 5) hx hb dL_play_261 (by decide) ?_
    refine lv_iload hx hb dL_play_262 (lv_at hl 1 rfl) ?_
    refine lv_imul hx hb dL_play_264 ?_
    refine h_ev (y := nI (5 * ci)) (pk_mul 5 ci) ?_
    refine lv_iconst (v := 2) hx hb dL_play_265 (by decide) ?_
    refine lv_iadd hx hb dL_play_266 ?_
    refine h_ev (y := nI ((5 * ci) + 2)) (nI_add (5 * ci) 2) ?_
    refine h_iald X Y (i := ((5 * ci) + 2)) hbr (by omega) (by decide) dL_play_267 ?_
    refine h_ev (y := nI pp) (hb2.trans hc1) ?_
    refine lv_iload hx hb dL_play_268 (lv_at hl 0 rfl) ?_
    refine lv_iadd hx hb dL_play_270 ?_
    refine h_ev (y := nI (pp + xx)) (nI_add pp xx) ?_
    refine lv_ldc hx hb X.2.2.2.2.1 (X.2.2.2.2.2.1 _ kcI_L_107) dL_play_271 ?_
    refine lv_icmp_gt (tgt := 280) hx hb dL_play_273 (by decide) (fun c273 => ?_) (fun c273 => ?_)
    · have c273 : 1000000 < (pp + xx) := (nI_ltI (a := 1000000) (b := (pp + xx)) (by omega) (by omega)).mp c273
      refine lv_iconst (v := 0) hx hb dL_play_280 (by decide) ?_
      refine lv_istore (lv' := [(9, .int 0), (8, .int (nI xx)), (7, .int (nI ci)), (6, .int (nI (hNow h))), (5, .int (nI (sM S))), (4, .int vv), (3, .int (nI i)), (2, .ref b), (0, .ref (sA S 0)), (1, .ref G.2.1)]) hx hb dL_play_281 hl (by decide) rfl (fun ls hl => ?_)
      refine lv_iconst (v := (-1)) hx hb dL_play_283 (by decide) ?_
      refine lv_istore (lv' := [(10, .int (-1)), (9, .int 0), (8, .int (nI xx)), (7, .int (nI ci)), (6, .int (nI (hNow h))), (5, .int (nI (sM S))), (4, .int vv), (3, .int (nI i)), (2, .ref b), (0, .ref (sA S 0)), (1, .ref G.2.1)]) hx hb dL_play_284 hl (by decide) rfl (fun ls hl => ?_)
      refine lv_aload_n hx hb dL_play_286 rfl (lv_at hl 9 rfl) ?_
      refine lv_iload hx hb dL_play_287 (lv_at hl 3 rfl) ?_
      refine lv_iload hx hb dL_play_289 (lv_at hl 2 rfl) ?_
      have hbad : clI (sC S ci) 3 = 0 ∨ ¬ clI (sC S ci) 1 + nI xx ≤ 1000000 := by
        by_cases ho : o = 1
        · right; rw [hc1, nI_add]; exact fun z9 => absurd ((nI_leI (a := pp + xx) (b := 1000000) (by omega) (by omega)).mp z9) (by omega)
        · left; rw [hc3, show o = 0 by omega]; rfl
      refine h_callX (rest := []) (hpc := 299) (ict := 111) X Y (c_payX l G hl9 M S h hPv ci (nI xx) hci (fun z9 => absurd ((nI_ltI (a := xx) (b := 1) (by omega) (by omega)).mp z9) (by omega)) ((nI_leI (a := xx) (b := 1000000) (by omega) (by omega)).mpr (by omega)) hbad) gw_L_108 dsc_X11_pay ho0 rfl rfl rfl hl.1 rfl (Nat.le_of_ble_eq_true rfl) ⟨Nat.le_of_ble_eq_true rfl, Nat.le_of_ble_eq_true rfl⟩ ⟨(by show _ ≤ 400; first | omega | (dsimp only [hRm]; omega)), (by show _ ≤ 8000; first | omega | (dsimp only [hRm]; omega))⟩ dL_play_291 [] [⟨392, 402, 405, 111⟩] ⟨286, 296, 299, 111⟩ htab (fun z hz => absurd hz List.not_mem_nil) (by decide) rfl (by decide) rfl kcl_L_111 (fun q9 H locs Y => ?_)
      refine lv_astore (lv' := [(11, .ref q9), (10, .int (-1)), (9, .int 0), (8, .int (nI xx)), (7, .int (nI ci)), (6, .int (nI (hNow h))), (5, .int (nI (sM S))), (4, .int vv), (3, .int (nI i)), (2, .ref b), (0, .ref (sA S 0)), (1, .ref G.2.1)]) hx hb dL_play_299 hl (by decide) rfl (fun ls hl => ?_)
      refine lv_iconst (v := (-1)) hx hb dL_play_301 (by decide) ?_
      refine lv_istore (lv' := [(10, .int (-1)), (11, .ref q9), (9, .int 0), (8, .int (nI xx)), (7, .int (nI ci)), (6, .int (nI (hNow h))), (5, .int (nI (sM S))), (4, .int vv), (3, .int (nI i)), (2, .ref b), (0, .ref (sA S 0)), (1, .ref G.2.1)]) hx hb dL_play_302 hl (by decide) rfl (fun ls hl => ?_)
      refine lv_iload hx hb dL_play_304 (lv_at hl 0 rfl) ?_
      refine lv_iload hx hb dL_play_306 (lv_at hl 2 rfl) ?_
      refine lv_if_eq (tgt := 325) hx hb dL_play_308 (by decide) (fun c308 => ?_) (fun c308 => absurd (by decide) c308)
      refine lv_iconst (v := (-1)) hx hb dL_play_325 (by decide) ?_
      refine lv_icmp_eq (tgt := 331) hx hb dL_play_326 (by decide) (fun c326 => ?_) (fun c326 => absurd rfl c326)
      refine lv_iload hx hb dL_play_331 (lv_at hl 2 rfl) ?_
      refine lv_if_ne (tgt := 339) hx hb dL_play_333 (by decide) (fun c333 => absurd (by decide) c333) (fun c333 => ?_)
      refine lv_goto (tgt := 647) hx hb dL_play_336 (by decide) ?_
      exact W.wid (by first | omega | (dsimp only [hRm]; omega) | (simp [hRm]; omega)) (by first | omega | (dsimp only [hRm]; omega) | (simp [hRm]; omega)) (kk _ _ _ _ _ _ _ Y (lv_sub hl [10, 11, 9, 8] rfl) I)
    · have c273 : ¬ 1000000 < (pp + xx) := fun z9 => c273 ((nI_ltI (a := 1000000) (b := (pp + xx)) (by omega) (by omega)).mpr z9)
      refine lv_iconst (v := 1) hx hb dL_play_276 (by decide) ?_
      refine lv_goto (tgt := 281) hx hb dL_play_277 (by decide) ?_
      refine lv_istore (lv' := [(9, .int 1), (8, .int (nI xx)), (7, .int (nI ci)), (6, .int (nI (hNow h))), (5, .int (nI (sM S))), (4, .int vv), (3, .int (nI i)), (2, .ref b), (0, .ref (sA S 0)), (1, .ref G.2.1)]) hx hb dL_play_281 hl (by decide) rfl (fun ls hl => ?_)
      refine lv_iconst (v := (-1)) hx hb dL_play_283 (by decide) ?_
      refine lv_istore (lv' := [(10, .int (-1)), (9, .int 1), (8, .int (nI xx)), (7, .int (nI ci)), (6, .int (nI (hNow h))), (5, .int (nI (sM S))), (4, .int vv), (3, .int (nI i)), (2, .ref b), (0, .ref (sA S 0)), (1, .ref G.2.1)]) hx hb dL_play_284 hl (by decide) rfl (fun ls hl => ?_)
      refine lv_aload_n hx hb dL_play_286 rfl (lv_at hl 9 rfl) ?_
      refine lv_iload hx hb dL_play_287 (lv_at hl 3 rfl) ?_
      refine lv_iload hx hb dL_play_289 (lv_at hl 2 rfl) ?_
      have hop : ¬ clI (sC S ci) 3 = 0 := fun z9 => by rw [hc3] at z9; have := (nI_eq (a := o) (b := 0) (by omega) (by omega)).mp z9; omega
      have hle : clI (sC S ci) 1 + nI xx ≤ 1000000 := by rw [hc1, nI_add]; exact (nI_leI (b := 1000000) (by omega) (by omega)).mpr (by omega)
      refine h_callV (rest := []) X Y (c_pay2 l G M S h hPv ci (nI xx) hci (fun z9 => absurd ((nI_ltI (a := xx) (b := 1) (by omega) (by omega)).mp z9) (by omega)) ((nI_leI (a := xx) (b := 1000000) (by omega) (by omega)).mpr (by omega)) hop hle) gw_L_108 dsc_X11_pay ho0 rfl rfl rfl hl.1 rfl (Nat.le_of_ble_eq_true rfl) ⟨Nat.le_of_ble_eq_true rfl, Nat.le_of_ble_eq_true rfl⟩ ⟨(by show _ ≤ 400; first | omega | (dsimp only [hRm]; omega)), (by show _ ≤ 8000; first | omega | (dsimp only [hRm]; omega))⟩ dL_play_291 ?_
      rintro _ M2 H locs ⟨rfl, hPv2, hfz⟩ Y
      try dsimp only [Option.toList, List.singleton_append]
      have hbr := hfz _ _ _ hbr (by unfold hZp; omega)
      have hfr : hFr (fun u => 4000 ≤ u) M2 M2 := hFr.rf
      refine h_ev (y := nI (pp + xx)) (by rw [hc1, nI_add]) ?_
      refine lv_istore (lv' := [(10, .int (nI (pp + xx))), (9, .int 1), (8, .int (nI xx)), (7, .int (nI ci)), (6, .int (nI (hNow h))), (5, .int (nI (sM S))), (4, .int vv), (3, .int (nI i)), (2, .ref b), (0, .ref (sA S 0)), (1, .ref G.2.1)]) hx hb dL_play_294 hl (by decide) rfl (fun ls hl => ?_)
      refine lv_goto (tgt := 304) hx hb dL_play_296 (by decide) ?_
      refine lv_iload hx hb dL_play_304 (lv_at hl 0 rfl) ?_
      refine lv_iload hx hb dL_play_306 (lv_at hl 1 rfl) ?_
      refine lv_if_eq (tgt := 325) hx hb dL_play_308 (by decide) (fun c308 => absurd c308 (by decide)) (fun c308 => ?_)
      refine lv_aload_n hx hb dL_play_311 rfl (lv_at hl 8 rfl) ?_
      refine lv_iconst (v := 5) hx hb dL_play_312 (by decide) ?_
      refine lv_iload hx hb dL_play_313 (lv_at hl 3 rfl) ?_
      refine lv_imul hx hb dL_play_315 ?_
      refine h_ev (y := nI (5 * ci)) (pk_mul 5 ci) ?_
      refine lv_iconst (v := 2) hx hb dL_play_316 (by decide) ?_
      refine lv_iadd hx hb dL_play_317 ?_
      refine h_ev (y := nI ((5 * ci) + 2)) (nI_add (5 * ci) 2) ?_
      refine h_iald X Y (i := ((5 * ci) + 2)) hbr (by omega) (by decide) dL_play_318 ?_
      refine h_ev (y := nI pp) (hb2.trans hc1) ?_
      refine lv_iload hx hb dL_play_319 (lv_at hl 2 rfl) ?_
      refine lv_iadd hx hb dL_play_321 ?_
      refine h_ev (y := nI (pp + xx)) (nI_add pp xx) ?_
      refine lv_goto (tgt := 326) hx hb dL_play_322 (by decide) ?_
      refine lv_icmp_eq (tgt := 331) hx hb dL_play_326 (by decide) (fun c326 => ?_) (fun c326 => absurd (show ¬ (pp + xx) = (pp + xx) from fun z9 => c326 ((nI_eq (a := (pp + xx)) (b := (pp + xx)) (by omega) (by omega)).mpr z9)) (by omega))
      have c326 : (pp + xx) = (pp + xx) := (nI_eq (a := (pp + xx)) (b := (pp + xx)) (by omega) (by omega)).mp c326
      refine lv_iload hx hb dL_play_331 (lv_at hl 1 rfl) ?_
      refine lv_if_ne (tgt := 339) hx hb dL_play_333 (by decide) (fun c333 => ?_) (fun c333 => absurd c333 (by decide))
      refine lv_aload_n hx hb dL_play_339 rfl (lv_at hl 8 rfl) ?_
      refine lv_iconst (v := 5) hx hb dL_play_340 (by decide) ?_
      refine lv_iload hx hb dL_play_341 (lv_at hl 3 rfl) ?_
      refine lv_imul hx hb dL_play_343 ?_
      refine h_ev (y := nI (5 * ci)) (pk_mul 5 ci) ?_
      refine lv_iconst (v := 2) hx hb dL_play_344 (by decide) ?_
      refine lv_iadd hx hb dL_play_345 ?_
      refine h_ev (y := nI ((5 * ci) + 2)) (nI_add (5 * ci) 2) ?_
      refine lv_dup2_11 hx hb dL_play_346 rfl rfl ?_
      refine h_iald X Y (i := ((5 * ci) + 2)) hbr (by omega) (by decide) dL_play_347 ?_
      refine h_ev (y := nI pp) (hb2.trans hc1) ?_
      refine lv_iload hx hb dL_play_348 (lv_at hl 2 rfl) ?_
      refine lv_iadd hx hb dL_play_350 ?_
      refine h_ev (y := nI (pp + xx)) (nI_add pp xx) ?_
      refine h_iast X Y (i := ((5 * ci) + 2)) hbr (by omega) (by decide) dL_play_351 (fun H locs Y => ?_)
      have hfr := hfr.put (x := (4800, .inl (hT G 0, 1002, .inl (upd f ((5 * ci) + 2) (nI (pp + xx)))))) hbr (by decide)
      have hbr : hup M2 b (4800, .inl (hT G 0, 1002, .inl (upd f ((5 * ci) + 2) (nI (pp + xx))))) b = some (4800, .inl (hT G 0, 1002, .inl (upd f ((5 * ci) + 2) (nI (pp + xx))))) := hup_eq
      generalize hup M2 b (4800, .inl (hT G 0, 1002, .inl (upd f ((5 * ci) + 2) (nI (pp + xx))))) = Mz1 at Y hbr hfr
      refine lv_aload_n hx hb dL_play_352 rfl (lv_at hl 8 rfl) ?_
      refine lv_iconst (v := 5) hx hb dL_play_353 (by decide) ?_
      refine lv_iload hx hb dL_play_354 (lv_at hl 3 rfl) ?_
      refine lv_imul hx hb dL_play_356 ?_
      refine h_ev (y := nI (5 * ci)) (pk_mul 5 ci) ?_
      refine lv_iconst (v := 3) hx hb dL_play_357 (by decide) ?_
      refine lv_iadd hx hb dL_play_358 ?_
      refine h_ev (y := nI ((5 * ci) + 3)) (nI_add (5 * ci) 3) ?_
      refine lv_iconst (v := 0) hx hb dL_play_359 (by decide) ?_
      refine lv_aload_n hx hb dL_play_360 rfl (lv_at hl 8 rfl) ?_
      refine lv_iconst (v := 5) hx hb dL_play_361 (by decide) ?_
      refine lv_iload hx hb dL_play_362 (lv_at hl 3 rfl) ?_
      refine lv_imul hx hb dL_play_364 ?_
      refine h_ev (y := nI (5 * ci)) (pk_mul 5 ci) ?_
      refine lv_iconst (v := 3) hx hb dL_play_365 (by decide) ?_
      refine lv_iadd hx hb dL_play_366 ?_
      refine h_ev (y := nI ((5 * ci) + 3)) (nI_add (5 * ci) 3) ?_
      refine h_iald X Y (i := ((5 * ci) + 3)) hbr (by omega) (by decide) dL_play_367 ?_
      refine h_ev (y := nI r) ((pk_un (by omega)).trans (hb3.trans hc2)) ?_
      refine lv_iload hx hb dL_play_368 (lv_at hl 2 rfl) ?_
      refine lv_isub hx hb dL_play_370 ?_
      refine h_mmax X kml_L_113 hl.1 (Nat.le_of_ble_eq_true rfl) (Nat.le_of_ble_eq_true rfl) ⟨(by show _ ≤ 400; first | omega | (dsimp only [hRm]; omega)), (by show _ ≤ 8000; first | omega | (dsimp only [hRm]; omega))⟩ dL_play_371 ?_
      refine h_ev (y := nI (r - xx)) (sMax_0s (by omega) (by omega)) ?_
      refine h_iast X Y (i := ((5 * ci) + 3)) hbr (by omega) (by decide) dL_play_374 (fun H locs Y => ?_)
      have hfr := hfr.put (x := (4800, .inl (hT G 0, 1002, .inl (upd (upd f ((5 * ci) + 2) (nI (pp + xx))) ((5 * ci) + 3) (nI (r - xx)))))) hbr (by decide)
      have hbr : hup Mz1 b (4800, .inl (hT G 0, 1002, .inl (upd (upd f ((5 * ci) + 2) (nI (pp + xx))) ((5 * ci) + 3) (nI (r - xx))))) b = some (4800, .inl (hT G 0, 1002, .inl (upd (upd f ((5 * ci) + 2) (nI (pp + xx))) ((5 * ci) + 3) (nI (r - xx))))) := hup_eq
      generalize hup Mz1 b (4800, .inl (hT G 0, 1002, .inl (upd (upd f ((5 * ci) + 2) (nI (pp + xx))) ((5 * ci) + 3) (nI (r - xx))))) = Mz2 at Y hbr hfr
      refine lv_goto (tgt := 647) hx hb dL_play_375 (by decide) ?_
      exact W.wid (by first | omega | (dsimp only [hRm]; omega) | (simp [hRm]; omega)) (by first | omega | (dsimp only [hRm]; omega) | (simp [hRm]; omega)) (kk _ _ _ _ _ _ _ Y (lv_sub hl [9, 10, 8, 7] rfl) (PlI.up (Cn := cPay (sC S ci) (nI xx)) I hci (PV.fr9 hfr (fun u z => z) hPv2) hbr (fun j hj => by rw [pk_un (by omega), pk_un (by omega)]) (by rw [pk_un (by omega), pk_un (by omega)]; exact hb0) (by rw [pk_un (by omega), pk_us]; show _ = clI (sC S ci) 1 + nI xx; rw [hc1, nI_add]) (by rw [pk_us]; show _ = sMax (clI (sC S ci) 2 - nI xx) 0; rw [hc2, sMax_sub (by omega) (by omega)]) (by rw [pk_un (by omega), pk_un (by omega)]; exact hb4) ((hCI ci hci).pay hc1 (by omega))))
theorem gw_L_119 : GoodIn hGW (wsV RL 119 RX11 yX11_setReserve (Cond.code yX11_setReserve cX11_setReserve 5 (Option.some FieldType.int) :: hGW)) := hgi4 kml_L_119 kin_X11_setReserve kse_X11_X11_setReserve_X11_setReserve kini_X11 kco_X11_setReserve
theorem dsc_X11_setReserve : yX11_setReserve.cls = RX11 ∧ yX11_setReserve.cls ≠ "java/lang/invoke/MethodHandle" ∧ yX11_setReserve.cls ≠ "java/lang/invoke/VarHandle" ∧ (parseMethodDescriptor yX11_setReserve.desc).map (fun d => d.parameters.length) = some 2 := ⟨rfl, by decide +kernel, by decide +kernel, by decide +kernel⟩
theorem dL_play_378 : decode cL_play 378 = .ok (.iload 4, 2) := by decide +kernel
theorem dL_play_380 : decode cL_play 380 = .ok (.iconst 4, 1) := by decide +kernel
theorem dL_play_381 : decode cL_play 381 = .ok (.ishr, 1) := by decide +kernel
theorem dL_play_382 : decode cL_play 382 = .ok (.ldc 118, 2) := by decide +kernel
theorem dL_play_384 : decode cL_play 384 = .ok (.invokestatic 42, 3) := by decide +kernel
theorem dL_play_387 : decode cL_play 387 = .ok (.istore 8, 2) := by decide +kernel
theorem dL_play_389 : decode cL_play 389 = .ok (.iconst (-1), 1) := by decide +kernel
theorem dL_play_390 : decode cL_play 390 = .ok (.istore 9, 2) := by decide +kernel
theorem dL_play_392 : decode cL_play 392 = .ok (.aload_n 0, 1) := by decide +kernel
theorem dL_play_393 : decode cL_play 393 = .ok (.iload 7, 2) := by decide +kernel
theorem dL_play_395 : decode cL_play 395 = .ok (.iload 8, 2) := by decide +kernel
theorem dL_play_397 : decode cL_play 397 = .ok (.invokevirtual 119, 3) := by decide +kernel
theorem dL_play_400 : decode cL_play 400 = .ok (.istore 9, 2) := by decide +kernel
theorem dL_play_402 : decode cL_play 402 = .ok (.goto 8, 3) := by decide +kernel
theorem dL_play_405 : decode cL_play 405 = .ok (.astore 10, 2) := by decide +kernel
theorem dL_play_407 : decode cL_play 407 = .ok (.iconst (-1), 1) := by decide +kernel
theorem dL_play_408 : decode cL_play 408 = .ok (.istore 9, 2) := by decide +kernel
theorem dL_play_410 : decode cL_play 410 = .ok (.iload 9, 2) := by decide +kernel
theorem dL_play_412 : decode cL_play 412 = .ok (.aload_n 2, 1) := by decide +kernel
theorem dL_play_413 : decode cL_play 413 = .ok (.iconst 5, 1) := by decide +kernel
theorem dL_play_414 : decode cL_play 414 = .ok (.iload 7, 2) := by decide +kernel
theorem dL_play_416 : decode cL_play 416 = .ok (.imul, 1) := by decide +kernel
theorem dL_play_417 : decode cL_play 417 = .ok (.iconst 4, 1) := by decide +kernel
theorem dL_play_418 : decode cL_play 418 = .ok (.iadd, 1) := by decide +kernel
theorem dL_play_419 : decode cL_play 419 = .ok (.iaload, 1) := by decide +kernel
theorem dL_play_420 : decode cL_play 420 = .ok (.iconst 1, 1) := by decide +kernel
theorem dL_play_421 : decode cL_play 421 = .ok (.if_icmp .ne 14, 3) := by decide +kernel
theorem dL_play_424 : decode cL_play 424 = .ok (.aload_n 2, 1) := by decide +kernel
theorem dL_play_425 : decode cL_play 425 = .ok (.iconst 5, 1) := by decide +kernel
theorem dL_play_426 : decode cL_play 426 = .ok (.iload 7, 2) := by decide +kernel
theorem dL_play_428 : decode cL_play 428 = .ok (.imul, 1) := by decide +kernel
theorem dL_play_429 : decode cL_play 429 = .ok (.iconst 3, 1) := by decide +kernel
theorem dL_play_430 : decode cL_play 430 = .ok (.iadd, 1) := by decide +kernel
theorem dL_play_431 : decode cL_play 431 = .ok (.iaload, 1) := by decide +kernel
theorem dL_play_432 : decode cL_play 432 = .ok (.goto 4, 3) := by decide +kernel
theorem dL_play_435 : decode cL_play 435 = .ok (.iconst (-1), 1) := by decide +kernel
theorem dL_play_436 : decode cL_play 436 = .ok (.if_icmp .eq 5, 3) := by decide +kernel
theorem dL_play_441 : decode cL_play 441 = .ok (.aload_n 2, 1) := by decide +kernel
theorem dL_play_442 : decode cL_play 442 = .ok (.iconst 5, 1) := by decide +kernel
theorem dL_play_443 : decode cL_play 443 = .ok (.iload 7, 2) := by decide +kernel
theorem dL_play_445 : decode cL_play 445 = .ok (.imul, 1) := by decide +kernel
theorem dL_play_446 : decode cL_play 446 = .ok (.iconst 4, 1) := by decide +kernel
theorem dL_play_447 : decode cL_play 447 = .ok (.iadd, 1) := by decide +kernel
theorem dL_play_448 : decode cL_play 448 = .ok (.iaload, 1) := by decide +kernel
theorem dL_play_449 : decode cL_play 449 = .ok (.iconst 1, 1) := by decide +kernel
theorem dL_play_450 : decode cL_play 450 = .ok (.if_icmp .ne 197, 3) := by decide +kernel
theorem dL_play_453 : decode cL_play 453 = .ok (.aload_n 2, 1) := by decide +kernel
theorem dL_play_454 : decode cL_play 454 = .ok (.iconst 5, 1) := by decide +kernel
theorem dL_play_455 : decode cL_play 455 = .ok (.iload 7, 2) := by decide +kernel
theorem dL_play_457 : decode cL_play 457 = .ok (.imul, 1) := by decide +kernel
theorem dL_play_458 : decode cL_play 458 = .ok (.iconst 3, 1) := by decide +kernel
theorem dL_play_459 : decode cL_play 459 = .ok (.iadd, 1) := by decide +kernel
theorem dL_play_460 : decode cL_play 460 = .ok (.iload 8, 2) := by decide +kernel
theorem dL_play_462 : decode cL_play 462 = .ok (.iastore, 1) := by decide +kernel
theorem dL_play_463 : decode cL_play 463 = .ok (.goto 184, 3) := by decide +kernel
set_option maxHeartbeats 400000 in
set_option maxRecDepth 100000 in
theorem play_set (l : Launch) (G : hG) (p : Program) (e : Env) (s : State) (m : MethodId) (args : Array Value) (below : List Frame) (meth : Method) (c : Code) (M : hM) (H : Heap) (locs : List Loc) (ls : Array Slot) (cells slots : Nat) (Q : State → Prop) (hcs : cells + 5 ≤ 400) (hss : slots + 92 ≤ 8000) (X : hCX G p s m args meth c cL_play 12 (Option.some (FieldType.array FieldType.int)) RL "play") (Y : hHS G M s H locs) (S0 S : hSy) (h0 h : hHo) (b a0 i : Nat) (f : Nat → Int32) (ha0 : sA S 0 = a0) (I : PlI G M S0 h0 S h b f) (hl9 : l.stackTraces = false) (htab : c.exceptionTable.toList = tableOf plT) (ci : Nat) (vv : Int32) (hci : ci < sM S) (hl : lv_has ls 12 [(7, .int (nI ci)), (6, .int (nI (hNow h))), (5, .int (nI (sM S))), (4, .int vv), (3, .int (nI i)), (2, .ref b), (0, .ref (a0)), (1, .ref G.2.1)]) (kk : ∀ (M' : hM) (H : Heap) (locs : List Loc) (ls : Array Slot) (S' : hSy) (h' : hHo) (f' : Nat → Int32), hHS G M' s H locs → lv_has ls 12 [(0, .ref a0), (1, .ref G.2.1), (2, .ref b), (3, .int (nI i))] → PlI G M' S0 h0 S' h' b f' → W p l e (hRm 12 400 8000) s m args below meth c H locs (cells + 5) (slots + 92) Q (F0 m 647 ls [])) : W p l e (hRm 12 400 8000) s m args below meth c H locs cells slots Q (F0 m 378 ls []) := by
  subst ha0
  have hx := X.1
  have hb := X.2.1
  obtain ⟨hPv, hbr, ⟨hB0, hB1, hBr⟩, hCI, hSe, hhe⟩ := id I
  have h40 : sM S ≤ 40 := hPv.1.2.1.2.1
  have hn10 : hNow h < 10 := hPv.1.2.2.2.2.2.1
  have ho0 := hPv.1.2.2.1.1
  obtain ⟨li, pp, r, o, N0, N1, hc0, hc0b, hc1, hc1b, hc2, hc2b, hc3, hc3b, hc4, -⟩ := hCI ci hci
  obtain ⟨hb0, hb2, hb3, hb4⟩ := hBr ci hci
  refine lv_iload hx hb dL_play_378 (lv_at hl 3 rfl) ?_
  refine lv_iconst (v := 4) hx hb dL_play_380 (by decide) ?_
  refine lv_ishr hx hb dL_play_381 ?_
  refine lv_ldc hx hb X.2.2.2.2.1 (X.2.2.2.2.2.1 _ kcI_L_118) dL_play_382 ?_
  refine h_callSr (rest := []) X Y (c_below l G M (vv >>> (4 &&& 31)) 120000 (by omega)) rfl rfl gw_L_42 dsc_L_below.2 rfl rfl hl.1 (Nat.le_of_ble_eq_true rfl) ⟨Nat.le_of_ble_eq_true rfl, Nat.le_of_ble_eq_true rfl⟩ ⟨(by show _ ≤ 400; first | omega | (dsimp only [hRm]; omega)), (by show _ ≤ 8000; first | omega | (dsimp only [hRm]; omega))⟩ dL_play_384 (fun H locs Y => ?_)
  have hx60 := bel_lt (vv >>> (4 &&& 31)) (y := 120000) (by omega)
  obtain ⟨xx, hxx⟩ : ∃ xx, xx = (bel (vv >>> (4 &&& 31)) 120000) := ⟨_, rfl⟩
  refine h_ev (y := nI xx) (congrArg nI hxx.symm) ?_
  have hx6 : xx < 120000 := by omega
  refine lv_istore (lv' := [(8, .int (nI xx)), (7, .int (nI ci)), (6, .int (nI (hNow h))), (5, .int (nI (sM S))), (4, .int vv), (3, .int (nI i)), (2, .ref b), (0, .ref (sA S 0)), (1, .ref G.2.1)]) hx hb dL_play_387 hl (by decide) rfl (fun ls hl => ?_)
  refine lv_iconst (v := (-1)) hx hb dL_play_389 (by decide) ?_
  refine lv_istore (lv' := [(9, .int (-1)), (8, .int (nI xx)), (7, .int (nI ci)), (6, .int (nI (hNow h))), (5, .int (nI (sM S))), (4, .int vv), (3, .int (nI i)), (2, .ref b), (0, .ref (sA S 0)), (1, .ref G.2.1)]) hx hb dL_play_390 hl (by decide) rfl (fun ls hl => ?_)
  rcases (show o = 0 ∨ o = 1 by omega) with rfl | rfl
  · refine lv_aload_n hx hb dL_play_392 rfl (lv_at hl 8 rfl) ?_
    refine lv_iload hx hb dL_play_393 (lv_at hl 2 rfl) ?_
    refine lv_iload hx hb dL_play_395 (lv_at hl 1 rfl) ?_
    refine h_callX (rest := []) (hpc := 405) (ict := 111) X Y (c_setX l G hl9 M S h hPv ci (nI xx) hci (nI_nn (by omega)) ((nI_leI (a := xx) (b := 1000000) (by omega) (by omega)).mpr (by omega)) hc3) gw_L_119 dsc_X11_setReserve ho0 rfl rfl rfl hl.1 rfl (Nat.le_of_ble_eq_true rfl) ⟨Nat.le_of_ble_eq_true rfl, Nat.le_of_ble_eq_true rfl⟩ ⟨(by show _ ≤ 400; first | omega | (dsimp only [hRm]; omega)), (by show _ ≤ 8000; first | omega | (dsimp only [hRm]; omega))⟩ dL_play_397 [⟨286, 296, 299, 111⟩] [] ⟨392, 402, 405, 111⟩ htab (fun z hz => by rw [List.mem_singleton.mp hz]; decide) (by decide) rfl (by decide) rfl kcl_L_111 (fun q9 H locs Y => ?_)
    refine lv_astore (lv' := [(10, .ref q9), (9, .int (-1)), (8, .int (nI xx)), (7, .int (nI ci)), (6, .int (nI (hNow h))), (5, .int (nI (sM S))), (4, .int vv), (3, .int (nI i)), (2, .ref b), (0, .ref (sA S 0)), (1, .ref G.2.1)]) hx hb dL_play_405 hl (by decide) rfl (fun ls hl => ?_)
    refine lv_iconst (v := (-1)) hx hb dL_play_407 (by decide) ?_
    refine lv_istore (lv' := [(9, .int (-1)), (10, .ref q9), (8, .int (nI xx)), (7, .int (nI ci)), (6, .int (nI (hNow h))), (5, .int (nI (sM S))), (4, .int vv), (3, .int (nI i)), (2, .ref b), (0, .ref (sA S 0)), (1, .ref G.2.1)]) hx hb dL_play_408 hl (by decide) rfl (fun ls hl => ?_)
    refine lv_iload hx hb dL_play_410 (lv_at hl 0 rfl) ?_
    refine lv_aload_n hx hb dL_play_412 rfl (lv_at hl 8 rfl) ?_
    refine lv_iconst (v := 5) hx hb dL_play_413 (by decide) ?_
    refine lv_iload hx hb dL_play_414 (lv_at hl 3 rfl) ?_
    refine lv_imul hx hb dL_play_416 ?_
    refine h_ev (y := nI (5 * ci)) (pk_mul 5 ci) ?_
    refine lv_iconst (v := 4) hx hb dL_play_417 (by decide) ?_
    refine lv_iadd hx hb dL_play_418 ?_
    refine h_ev (y := nI ((5 * ci) + 4)) (nI_add (5 * ci) 4) ?_
    refine h_iald X Y (i := ((5 * ci) + 4)) hbr (by omega) (by decide) dL_play_419 ?_
    refine h_ev (y := nI 0) (hb4.trans hc3) ?_
    refine lv_iconst (v := 1) hx hb dL_play_420 (by decide) ?_
    refine lv_icmp_ne (tgt := 435) hx hb dL_play_421 (by decide) (fun c421 => ?_) (fun c421 => absurd c421 (by decide))
    refine lv_iconst (v := (-1)) hx hb dL_play_435 (by decide) ?_
    refine lv_icmp_eq (tgt := 441) hx hb dL_play_436 (by decide) (fun c436 => ?_) (fun c436 => absurd rfl c436)
    refine lv_aload_n hx hb dL_play_441 rfl (lv_at hl 8 rfl) ?_
    refine lv_iconst (v := 5) hx hb dL_play_442 (by decide) ?_
    refine lv_iload hx hb dL_play_443 (lv_at hl 3 rfl) ?_
    refine lv_imul hx hb dL_play_445 ?_
    refine h_ev (y := nI (5 * ci)) (pk_mul 5 ci) ?_
    refine lv_iconst (v := 4) hx hb dL_play_446 (by decide) ?_
    refine lv_iadd hx hb dL_play_447 ?_
    refine h_ev (y := nI ((5 * ci) + 4)) (nI_add (5 * ci) 4) ?_
    refine h_iald X Y (i := ((5 * ci) + 4)) hbr (by omega) (by decide) dL_play_448 ?_
    refine h_ev (y := nI 0) (hb4.trans hc3) ?_
    refine lv_iconst (v := 1) hx hb dL_play_449 (by decide) ?_
    refine lv_icmp_ne (tgt := 647) hx hb dL_play_450 (by decide) (fun c450 => ?_) (fun c450 => absurd c450 (by decide))
    exact W.wid (by first | omega | (dsimp only [hRm]; omega) | (simp [hRm]; omega)) (by first | omega | (dsimp only [hRm]; omega) | (simp [hRm]; omega)) (kk _ _ _ _ _ _ _ Y (lv_sub hl [9, 10, 8, 7] rfl) I)
  · refine lv_aload_n hx hb dL_play_392 rfl (lv_at hl 8 rfl) ?_
    refine lv_iload hx hb dL_play_393 (lv_at hl 2 rfl) ?_
    refine lv_iload hx hb dL_play_395 (lv_at hl 1 rfl) ?_
    have hop : ¬ clI (sC S ci) 3 = 0 := fun z9 => by rw [hc3] at z9; exact absurd z9 (by decide)
    refine h_callV (rest := []) X Y (c_setReserve2 l G M S h hPv ci (nI xx) hci (nI_nn (by omega)) ((nI_leI (a := xx) (b := 1000000) (by omega) (by omega)).mpr (by omega)) hop) gw_L_119 dsc_X11_setReserve ho0 rfl rfl rfl hl.1 rfl (Nat.le_of_ble_eq_true rfl) ⟨Nat.le_of_ble_eq_true rfl, Nat.le_of_ble_eq_true rfl⟩ ⟨(by show _ ≤ 400; first | omega | (dsimp only [hRm]; omega)), (by show _ ≤ 8000; first | omega | (dsimp only [hRm]; omega))⟩ dL_play_397 ?_
    rintro _ M2 H locs ⟨rfl, hPv2, hfz⟩ Y
    try dsimp only [Option.toList, List.singleton_append]
    have hbr := hfz _ _ _ hbr (by unfold hZp; omega)
    have hfr : hFr (fun u => 4000 ≤ u) M2 M2 := hFr.rf
    refine h_ev (y := nI r) hc2 ?_
    refine lv_istore (lv' := [(9, .int (nI r)), (8, .int (nI xx)), (7, .int (nI ci)), (6, .int (nI (hNow h))), (5, .int (nI (sM S))), (4, .int vv), (3, .int (nI i)), (2, .ref b), (0, .ref (sA S 0)), (1, .ref G.2.1)]) hx hb dL_play_400 hl (by decide) rfl (fun ls hl => ?_)
    refine lv_goto (tgt := 410) hx hb dL_play_402 (by decide) ?_
    refine lv_iload hx hb dL_play_410 (lv_at hl 0 rfl) ?_
    refine lv_aload_n hx hb dL_play_412 rfl (lv_at hl 7 rfl) ?_
    refine lv_iconst (v := 5) hx hb dL_play_413 (by decide) ?_
    refine lv_iload hx hb dL_play_414 (lv_at hl 2 rfl) ?_
    refine lv_imul hx hb dL_play_416 ?_
    refine h_ev (y := nI (5 * ci)) (pk_mul 5 ci) ?_
    refine lv_iconst (v := 4) hx hb dL_play_417 (by decide) ?_
    refine lv_iadd hx hb dL_play_418 ?_
    refine h_ev (y := nI ((5 * ci) + 4)) (nI_add (5 * ci) 4) ?_
    refine h_iald X Y (i := ((5 * ci) + 4)) hbr (by omega) (by decide) dL_play_419 ?_
    refine h_ev (y := nI 1) (hb4.trans hc3) ?_
    refine lv_iconst (v := 1) hx hb dL_play_420 (by decide) ?_
    refine lv_icmp_ne (tgt := 435) hx hb dL_play_421 (by decide) (fun c421 => absurd (by decide) c421) (fun c421 => ?_)
    refine lv_aload_n hx hb dL_play_424 rfl (lv_at hl 7 rfl) ?_
    refine lv_iconst (v := 5) hx hb dL_play_425 (by decide) ?_
    refine lv_iload hx hb dL_play_426 (lv_at hl 2 rfl) ?_
    refine lv_imul hx hb dL_play_428 ?_
    refine h_ev (y := nI (5 * ci)) (pk_mul 5 ci) ?_
    refine lv_iconst (v := 3) hx hb dL_play_429 (by decide) ?_
    refine lv_iadd hx hb dL_play_430 ?_
    refine h_ev (y := nI ((5 * ci) + 3)) (nI_add (5 * ci) 3) ?_
    refine h_iald X Y (i := ((5 * ci) + 3)) hbr (by omega) (by decide) dL_play_431 ?_
    refine h_ev (y := nI r) (hb3.trans hc2) ?_
    refine lv_goto (tgt := 436) hx hb dL_play_432 (by decide) ?_
    refine lv_icmp_eq (tgt := 441) hx hb dL_play_436 (by decide) (fun c436 => ?_) (fun c436 => absurd (show ¬ r = r from fun z9 => c436 ((nI_eq (a := r) (b := r) (by omega) (by omega)).mpr z9)) (by omega))
    have c436 : r = r := (nI_eq (a := r) (b := r) (by omega) (by omega)).mp c436
    refine lv_aload_n hx hb dL_play_441 rfl (lv_at hl 7 rfl) ?_
    refine lv_iconst (v := 5) hx hb dL_play_442 (by decide) ?_
    refine lv_iload hx hb dL_play_443 (lv_at hl 2 rfl) ?_
    refine lv_imul hx hb dL_play_445 ?_
    refine h_ev (y := nI (5 * ci)) (pk_mul 5 ci) ?_
    refine lv_iconst (v := 4) hx hb dL_play_446 (by decide) ?_
    refine lv_iadd hx hb dL_play_447 ?_
    refine h_ev (y := nI ((5 * ci) + 4)) (nI_add (5 * ci) 4) ?_
    refine h_iald X Y (i := ((5 * ci) + 4)) hbr (by omega) (by decide) dL_play_448 ?_
    refine h_ev (y := nI 1) (hb4.trans hc3) ?_
    refine lv_iconst (v := 1) hx hb dL_play_449 (by decide) ?_
    refine lv_icmp_ne (tgt := 647) hx hb dL_play_450 (by decide) (fun c450 => absurd (by decide) c450) (fun c450 => ?_)
    refine lv_aload_n hx hb dL_play_453 rfl (lv_at hl 7 rfl) ?_
    refine lv_iconst (v := 5) hx hb dL_play_454 (by decide) ?_
    refine lv_iload hx hb dL_play_455 (lv_at hl 2 rfl) ?_
    refine lv_imul hx hb dL_play_457 ?_
    refine h_ev (y := nI (5 * ci)) (pk_mul 5 ci) ?_
    refine lv_iconst (v := 3) hx hb dL_play_458 (by decide) ?_
    refine lv_iadd hx hb dL_play_459 ?_
    refine h_ev (y := nI ((5 * ci) + 3)) (nI_add (5 * ci) 3) ?_
    refine lv_iload hx hb dL_play_460 (lv_at hl 1 rfl) ?_
    refine h_iast X Y (i := ((5 * ci) + 3)) hbr (by omega) (by decide) dL_play_462 (fun H locs Y => ?_)
    have hfr := hfr.put (x := (4800, .inl (hT G 0, 1002, .inl (upd f ((5 * ci) + 3) (nI xx))))) hbr (by decide)
    have hbr : hup M2 b (4800, .inl (hT G 0, 1002, .inl (upd f ((5 * ci) + 3) (nI xx)))) b = some (4800, .inl (hT G 0, 1002, .inl (upd f ((5 * ci) + 3) (nI xx)))) := hup_eq
    generalize hup M2 b (4800, .inl (hT G 0, 1002, .inl (upd f ((5 * ci) + 3) (nI xx)))) = Mz1 at Y hbr hfr
    refine lv_goto (tgt := 647) hx hb dL_play_463 (by decide) ?_
    exact W.wid (by first | omega | (dsimp only [hRm]; omega) | (simp [hRm]; omega)) (by first | omega | (dsimp only [hRm]; omega) | (simp [hRm]; omega)) (kk _ _ _ _ _ _ _ Y (lv_sub hl [8, 9, 7, 6] rfl) (PlI.up (Cn := cSet (sC S ci) (nI xx)) I hci (PV.fr9 hfr (fun u z => z) hPv2) hbr (fun j hj => by rw [pk_un (by omega)]) (by rw [pk_un (by omega)]; exact hb0) (by rw [pk_un (by omega)]; exact hb2) (by rw [pk_us]; rfl) (by rw [pk_un (by omega)]; exact hb4) ((hCI ci hci).set hc3 (by omega))))
theorem gw_L_122 : GoodIn hGW (wsV RL 122 RX11 yX11_close (Cond.code yX11_close cX11_close 5 (Option.some FieldType.int) :: hGW)) := hgi4 kml_L_122 kin_X11_close kse_X11_X11_close_X11_close kini_X11 kco_X11_close
theorem dsc_X11_close : yX11_close.cls = RX11 ∧ yX11_close.cls ≠ "java/lang/invoke/MethodHandle" ∧ yX11_close.cls ≠ "java/lang/invoke/VarHandle" ∧ (parseMethodDescriptor yX11_close.desc).map (fun d => d.parameters.length) = some 2 := ⟨rfl, by decide +kernel, by decide +kernel, by decide +kernel⟩
theorem dL_play_466 : decode cL_play 466 = .ok (.iload 4, 2) := by decide +kernel
theorem dL_play_468 : decode cL_play 468 = .ok (.iconst 4, 1) := by decide +kernel
theorem dL_play_469 : decode cL_play 469 = .ok (.ishr, 1) := by decide +kernel
theorem dL_play_470 : decode cL_play 470 = .ok (.iconst 3, 1) := by decide +kernel
theorem dL_play_471 : decode cL_play 471 = .ok (.invokestatic 42, 3) := by decide +kernel
theorem dL_play_474 : decode cL_play 474 = .ok (.ifCond .le 7, 3) := by decide +kernel
theorem dL_play_477 : decode cL_play 477 = .ok (.iconst 1, 1) := by decide +kernel
theorem dL_play_478 : decode cL_play 478 = .ok (.goto 4, 3) := by decide +kernel
theorem dL_play_481 : decode cL_play 481 = .ok (.iconst 0, 1) := by decide +kernel
theorem dL_play_482 : decode cL_play 482 = .ok (.istore 8, 2) := by decide +kernel
theorem dL_play_484 : decode cL_play 484 = .ok (.aload_n 0, 1) := by decide +kernel
theorem dL_play_485 : decode cL_play 485 = .ok (.iload 7, 2) := by decide +kernel
theorem dL_play_487 : decode cL_play 487 = .ok (.iload 8, 2) := by decide +kernel
theorem dL_play_489 : decode cL_play 489 = .ok (.invokevirtual 122, 3) := by decide +kernel
theorem dL_play_492 : decode cL_play 492 = .ok (.aload_n 2, 1) := by decide +kernel
theorem dL_play_493 : decode cL_play 493 = .ok (.iconst 5, 1) := by decide +kernel
theorem dL_play_494 : decode cL_play 494 = .ok (.iload 7, 2) := by decide +kernel
theorem dL_play_496 : decode cL_play 496 = .ok (.imul, 1) := by decide +kernel
theorem dL_play_497 : decode cL_play 497 = .ok (.iconst 3, 1) := by decide +kernel
theorem dL_play_498 : decode cL_play 498 = .ok (.iadd, 1) := by decide +kernel
theorem dL_play_499 : decode cL_play 499 = .ok (.iaload, 1) := by decide +kernel
theorem dL_play_500 : decode cL_play 500 = .ok (.if_icmp .eq 5, 3) := by decide +kernel
theorem dL_play_505 : decode cL_play 505 = .ok (.aload_n 2, 1) := by decide +kernel
theorem dL_play_506 : decode cL_play 506 = .ok (.iconst 5, 1) := by decide +kernel
theorem dL_play_507 : decode cL_play 507 = .ok (.iload 7, 2) := by decide +kernel
theorem dL_play_509 : decode cL_play 509 = .ok (.imul, 1) := by decide +kernel
theorem dL_play_510 : decode cL_play 510 = .ok (.iconst 4, 1) := by decide +kernel
theorem dL_play_511 : decode cL_play 511 = .ok (.iadd, 1) := by decide +kernel
theorem dL_play_512 : decode cL_play 512 = .ok (.iload 8, 2) := by decide +kernel
theorem dL_play_514 : decode cL_play 514 = .ok (.ifCond .eq 7, 3) := by decide +kernel
theorem dL_play_517 : decode cL_play 517 = .ok (.iconst 0, 1) := by decide +kernel
theorem dL_play_518 : decode cL_play 518 = .ok (.goto 4, 3) := by decide +kernel
theorem dL_play_521 : decode cL_play 521 = .ok (.iconst 1, 1) := by decide +kernel
theorem dL_play_522 : decode cL_play 522 = .ok (.iastore, 1) := by decide +kernel
theorem dL_play_523 : decode cL_play 523 = .ok (.iload 8, 2) := by decide +kernel
theorem dL_play_525 : decode cL_play 525 = .ok (.ifCond .eq 122, 3) := by decide +kernel
theorem dL_play_528 : decode cL_play 528 = .ok (.aload_n 2, 1) := by decide +kernel
theorem dL_play_529 : decode cL_play 529 = .ok (.iconst 5, 1) := by decide +kernel
theorem dL_play_530 : decode cL_play 530 = .ok (.iload 7, 2) := by decide +kernel
theorem dL_play_532 : decode cL_play 532 = .ok (.imul, 1) := by decide +kernel
theorem dL_play_533 : decode cL_play 533 = .ok (.iconst 3, 1) := by decide +kernel
theorem dL_play_534 : decode cL_play 534 = .ok (.iadd, 1) := by decide +kernel
theorem dL_play_535 : decode cL_play 535 = .ok (.iconst 0, 1) := by decide +kernel
theorem dL_play_536 : decode cL_play 536 = .ok (.iastore, 1) := by decide +kernel
theorem dL_play_537 : decode cL_play 537 = .ok (.goto 110, 3) := by decide +kernel
set_option maxHeartbeats 400000 in
set_option maxRecDepth 100000 in
theorem play_close (l : Launch) (G : hG) (p : Program) (e : Env) (s : State) (m : MethodId) (args : Array Value) (below : List Frame) (meth : Method) (c : Code) (M : hM) (H : Heap) (locs : List Loc) (ls : Array Slot) (cells slots : Nat) (Q : State → Prop) (hcs : cells + 5 ≤ 400) (hss : slots + 92 ≤ 8000) (X : hCX G p s m args meth c cL_play 12 (Option.some (FieldType.array FieldType.int)) RL "play") (Y : hHS G M s H locs) (S0 S : hSy) (h0 h : hHo) (b a0 i : Nat) (f : Nat → Int32) (ha0 : sA S 0 = a0) (I : PlI G M S0 h0 S h b f) (ci : Nat) (vv : Int32) (hci : ci < sM S) (hl : lv_has ls 12 [(7, .int (nI ci)), (6, .int (nI (hNow h))), (5, .int (nI (sM S))), (4, .int vv), (3, .int (nI i)), (2, .ref b), (0, .ref (a0)), (1, .ref G.2.1)]) (kk : ∀ (M' : hM) (H : Heap) (locs : List Loc) (ls : Array Slot) (S' : hSy) (h' : hHo) (f' : Nat → Int32), hHS G M' s H locs → lv_has ls 12 [(0, .ref a0), (1, .ref G.2.1), (2, .ref b), (3, .int (nI i))] → PlI G M' S0 h0 S' h' b f' → W p l e (hRm 12 400 8000) s m args below meth c H locs (cells + 5) (slots + 92) Q (F0 m 647 ls [])) : W p l e (hRm 12 400 8000) s m args below meth c H locs cells slots Q (F0 m 466 ls []) := by
  subst ha0
  have hx := X.1
  have hb := X.2.1
  obtain ⟨hPv, hbr, ⟨hB0, hB1, hBr⟩, hCI, hSe, hhe⟩ := id I
  have h40 : sM S ≤ 40 := hPv.1.2.1.2.1
  have hn10 : hNow h < 10 := hPv.1.2.2.2.2.2.1
  have ho0 := hPv.1.2.2.1.1
  obtain ⟨li, pp, r, o, N0, N1, hc0, hc0b, hc1, hc1b, hc2, hc2b, hc3, hc3b, hc4, -⟩ := hCI ci hci
  obtain ⟨hb0, hb2, hb3, hb4⟩ := hBr ci hci
  refine lv_iload hx hb dL_play_466 (lv_at hl 3 rfl) ?_
  refine lv_iconst (v := 4) hx hb dL_play_468 (by decide) ?_
  refine lv_ishr hx hb dL_play_469 ?_
  refine lv_iconst (v := 3) hx hb dL_play_470 (by decide) ?_
  refine h_callSr (rest := []) X Y (c_below l G M (vv >>> (4 &&& 31)) 3 (by omega)) rfl rfl gw_L_42 dsc_L_below.2 rfl rfl hl.1 (Nat.le_of_ble_eq_true rfl) ⟨Nat.le_of_ble_eq_true rfl, Nat.le_of_ble_eq_true rfl⟩ ⟨(by show _ ≤ 400; first | omega | (dsimp only [hRm]; omega)), (by show _ ≤ 8000; first | omega | (dsimp only [hRm]; omega))⟩ dL_play_471 (fun H locs Y => ?_)
  have hz3 := bel_lt (vv >>> (4 &&& 31)) (y := 3) (by omega)
  refine lv_if_le (tgt := 481) hx hb dL_play_474 (by decide) (fun c474 => ?_) (fun c474 => ?_)
  · have c474 : (bel (vv >>> (4 &&& 31)) 3) ≤ 0 := (nI_leI (a := (bel (vv >>> (4 &&& 31)) 3)) (b := 0) (by omega) (by omega)).mp c474
    refine lv_iconst (v := 0) hx hb dL_play_481 (by decide) ?_
    refine lv_istore (lv' := [(8, .int 0), (7, .int (nI ci)), (6, .int (nI (hNow h))), (5, .int (nI (sM S))), (4, .int vv), (3, .int (nI i)), (2, .ref b), (0, .ref (sA S 0)), (1, .ref G.2.1)]) hx hb dL_play_482 hl (by decide) rfl (fun ls hl => ?_)
    refine lv_aload_n hx hb dL_play_484 rfl (lv_at hl 7 rfl) ?_
    refine lv_iload hx hb dL_play_485 (lv_at hl 1 rfl) ?_
    refine lv_iload hx hb dL_play_487 (lv_at hl 0 rfl) ?_
    refine h_callV (rest := []) X Y (c_close2 l G M S h hPv ci false hci) gw_L_122 dsc_X11_close ho0 rfl rfl rfl hl.1 rfl (Nat.le_of_ble_eq_true rfl) ⟨Nat.le_of_ble_eq_true rfl, Nat.le_of_ble_eq_true rfl⟩ ⟨(by show _ ≤ 400; first | omega | (dsimp only [hRm]; omega)), (by show _ ≤ 8000; first | omega | (dsimp only [hRm]; omega))⟩ dL_play_489 ?_
    rintro _ M2 H locs ⟨rfl, hPv2, hfz⟩ Y
    try dsimp only [Option.toList, List.singleton_append]
    have hbr := hfz _ _ _ hbr (by unfold hZp; omega)
    have hfr : hFr (fun u => 4000 ≤ u) M2 M2 := hFr.rf
    refine h_ev (y := nI r) hc2 ?_
    refine lv_aload_n hx hb dL_play_492 rfl (lv_at hl 6 rfl) ?_
    refine lv_iconst (v := 5) hx hb dL_play_493 (by decide) ?_
    refine lv_iload hx hb dL_play_494 (lv_at hl 1 rfl) ?_
    refine lv_imul hx hb dL_play_496 ?_
    refine h_ev (y := nI (5 * ci)) (pk_mul 5 ci) ?_
    refine lv_iconst (v := 3) hx hb dL_play_497 (by decide) ?_
    refine lv_iadd hx hb dL_play_498 ?_
    refine h_ev (y := nI ((5 * ci) + 3)) (nI_add (5 * ci) 3) ?_
    refine h_iald X Y (i := ((5 * ci) + 3)) hbr (by omega) (by decide) dL_play_499 ?_
    refine h_ev (y := nI r) (hb3.trans hc2) ?_
    refine lv_icmp_eq (tgt := 505) hx hb dL_play_500 (by decide) (fun c500 => ?_) (fun c500 => absurd (show ¬ r = r from fun z9 => c500 ((nI_eq (a := r) (b := r) (by omega) (by omega)).mpr z9)) (by omega))
    have c500 : r = r := (nI_eq (a := r) (b := r) (by omega) (by omega)).mp c500
    refine lv_aload_n hx hb dL_play_505 rfl (lv_at hl 6 rfl) ?_
    refine lv_iconst (v := 5) hx hb dL_play_506 (by decide) ?_
    refine lv_iload hx hb dL_play_507 (lv_at hl 1 rfl) ?_
    refine lv_imul hx hb dL_play_509 ?_
    refine h_ev (y := nI (5 * ci)) (pk_mul 5 ci) ?_
    refine lv_iconst (v := 4) hx hb dL_play_510 (by decide) ?_
    refine lv_iadd hx hb dL_play_511 ?_
    refine h_ev (y := nI ((5 * ci) + 4)) (nI_add (5 * ci) 4) ?_
    refine lv_iload hx hb dL_play_512 (lv_at hl 0 rfl) ?_
    refine lv_if_eq (tgt := 521) hx hb dL_play_514 (by decide) (fun c514 => ?_) (fun c514 => absurd (by decide) c514)
    refine lv_iconst (v := 1) hx hb dL_play_521 (by decide) ?_
    refine h_iast X Y (i := ((5 * ci) + 4)) hbr (by omega) (by decide) dL_play_522 (fun H locs Y => ?_)
    have hfr := hfr.put (x := (4800, .inl (hT G 0, 1002, .inl (upd f ((5 * ci) + 4) 1)))) hbr (by decide)
    have hbr : hup M2 b (4800, .inl (hT G 0, 1002, .inl (upd f ((5 * ci) + 4) 1))) b = some (4800, .inl (hT G 0, 1002, .inl (upd f ((5 * ci) + 4) 1))) := hup_eq
    generalize hup M2 b (4800, .inl (hT G 0, 1002, .inl (upd f ((5 * ci) + 4) 1))) = Mz1 at Y hbr hfr
    refine lv_iload hx hb dL_play_523 (lv_at hl 0 rfl) ?_
    refine lv_if_eq (tgt := 647) hx hb dL_play_525 (by decide) (fun c525 => ?_) (fun c525 => absurd (by decide) c525)
    exact W.wid (by first | omega | (dsimp only [hRm]; omega) | (simp [hRm]; omega)) (by first | omega | (dsimp only [hRm]; omega) | (simp [hRm]; omega)) (kk _ _ _ _ _ _ _ Y (lv_sub hl [7, 8, 6, 5] rfl) (PlI.up (Cn := cClose (sC S ci) false) I hci (PV.fr9 hfr (fun u z => z) hPv2) hbr (fun j hj => by rw [pk_un (by omega)]) (by rw [pk_un (by omega)]; exact hb0) (by rw [pk_un (by omega)]; exact hb2) (by rw [pk_un (by omega)]; exact hb3) (by rw [pk_us]; rfl) ((hCI ci hci).close false)))
  · have c474 : ¬ (bel (vv >>> (4 &&& 31)) 3) ≤ 0 := fun z9 => c474 ((nI_leI (a := (bel (vv >>> (4 &&& 31)) 3)) (b := 0) (by omega) (by omega)).mpr z9)
    refine lv_iconst (v := 1) hx hb dL_play_477 (by decide) ?_
    refine lv_goto (tgt := 482) hx hb dL_play_478 (by decide) ?_
    refine lv_istore (lv' := [(8, .int 1), (7, .int (nI ci)), (6, .int (nI (hNow h))), (5, .int (nI (sM S))), (4, .int vv), (3, .int (nI i)), (2, .ref b), (0, .ref (sA S 0)), (1, .ref G.2.1)]) hx hb dL_play_482 hl (by decide) rfl (fun ls hl => ?_)
    refine lv_aload_n hx hb dL_play_484 rfl (lv_at hl 7 rfl) ?_
    refine lv_iload hx hb dL_play_485 (lv_at hl 1 rfl) ?_
    refine lv_iload hx hb dL_play_487 (lv_at hl 0 rfl) ?_
    refine h_callV (rest := []) X Y (c_close2 l G M S h hPv ci true hci) gw_L_122 dsc_X11_close ho0 rfl rfl rfl hl.1 rfl (Nat.le_of_ble_eq_true rfl) ⟨Nat.le_of_ble_eq_true rfl, Nat.le_of_ble_eq_true rfl⟩ ⟨(by show _ ≤ 400; first | omega | (dsimp only [hRm]; omega)), (by show _ ≤ 8000; first | omega | (dsimp only [hRm]; omega))⟩ dL_play_489 ?_
    rintro _ M2 H locs ⟨rfl, hPv2, hfz⟩ Y
    try dsimp only [Option.toList, List.singleton_append]
    have hbr := hfz _ _ _ hbr (by unfold hZp; omega)
    have hfr : hFr (fun u => 4000 ≤ u) M2 M2 := hFr.rf
    refine h_ev (y := nI r) hc2 ?_
    refine lv_aload_n hx hb dL_play_492 rfl (lv_at hl 6 rfl) ?_
    refine lv_iconst (v := 5) hx hb dL_play_493 (by decide) ?_
    refine lv_iload hx hb dL_play_494 (lv_at hl 1 rfl) ?_
    refine lv_imul hx hb dL_play_496 ?_
    refine h_ev (y := nI (5 * ci)) (pk_mul 5 ci) ?_
    refine lv_iconst (v := 3) hx hb dL_play_497 (by decide) ?_
    refine lv_iadd hx hb dL_play_498 ?_
    refine h_ev (y := nI ((5 * ci) + 3)) (nI_add (5 * ci) 3) ?_
    refine h_iald X Y (i := ((5 * ci) + 3)) hbr (by omega) (by decide) dL_play_499 ?_
    refine h_ev (y := nI r) (hb3.trans hc2) ?_
    refine lv_icmp_eq (tgt := 505) hx hb dL_play_500 (by decide) (fun c500 => ?_) (fun c500 => absurd (show ¬ r = r from fun z9 => c500 ((nI_eq (a := r) (b := r) (by omega) (by omega)).mpr z9)) (by omega))
    have c500 : r = r := (nI_eq (a := r) (b := r) (by omega) (by omega)).mp c500
    refine lv_aload_n hx hb dL_play_505 rfl (lv_at hl 6 rfl) ?_
    refine lv_iconst (v := 5) hx hb dL_play_506 (by decide) ?_
    refine lv_iload hx hb dL_play_507 (lv_at hl 1 rfl) ?_
    refine lv_imul hx hb dL_play_509 ?_
    refine h_ev (y := nI (5 * ci)) (pk_mul 5 ci) ?_
    refine lv_iconst (v := 4) hx hb dL_play_510 (by decide) ?_
    refine lv_iadd hx hb dL_play_511 ?_
    refine h_ev (y := nI ((5 * ci) + 4)) (nI_add (5 * ci) 4) ?_
    refine lv_iload hx hb dL_play_512 (lv_at hl 0 rfl) ?_
    refine lv_if_eq (tgt := 521) hx hb dL_play_514 (by decide) (fun c514 => absurd c514 (by decide)) (fun c514 => ?_)
    refine lv_iconst (v := 0) hx hb dL_play_517 (by decide) ?_
    refine lv_goto (tgt := 522) hx hb dL_play_518 (by decide) ?_
    refine h_iast X Y (i := ((5 * ci) + 4)) hbr (by omega) (by decide) dL_play_522 (fun H locs Y => ?_)
    have hfr := hfr.put (x := (4800, .inl (hT G 0, 1002, .inl (upd f ((5 * ci) + 4) 0)))) hbr (by decide)
    have hbr : hup M2 b (4800, .inl (hT G 0, 1002, .inl (upd f ((5 * ci) + 4) 0))) b = some (4800, .inl (hT G 0, 1002, .inl (upd f ((5 * ci) + 4) 0))) := hup_eq
    generalize hup M2 b (4800, .inl (hT G 0, 1002, .inl (upd f ((5 * ci) + 4) 0))) = Mz2 at Y hbr hfr
    refine lv_iload hx hb dL_play_523 (lv_at hl 0 rfl) ?_
    refine lv_if_eq (tgt := 647) hx hb dL_play_525 (by decide) (fun c525 => absurd c525 (by decide)) (fun c525 => ?_)
    refine lv_aload_n hx hb dL_play_528 rfl (lv_at hl 6 rfl) ?_
    refine lv_iconst (v := 5) hx hb dL_play_529 (by decide) ?_
    refine lv_iload hx hb dL_play_530 (lv_at hl 1 rfl) ?_
    refine lv_imul hx hb dL_play_532 ?_
    refine h_ev (y := nI (5 * ci)) (pk_mul 5 ci) ?_
    refine lv_iconst (v := 3) hx hb dL_play_533 (by decide) ?_
    refine lv_iadd hx hb dL_play_534 ?_
    refine h_ev (y := nI ((5 * ci) + 3)) (nI_add (5 * ci) 3) ?_
    refine lv_iconst (v := 0) hx hb dL_play_535 (by decide) ?_
    refine h_iast X Y (i := ((5 * ci) + 3)) hbr (by omega) (by decide) dL_play_536 (fun H locs Y => ?_)
    have hfr := hfr.put (x := (4800, .inl (hT G 0, 1002, .inl (upd (upd f ((5 * ci) + 4) 0) ((5 * ci) + 3) 0)))) hbr (by decide)
    have hbr : hup Mz2 b (4800, .inl (hT G 0, 1002, .inl (upd (upd f ((5 * ci) + 4) 0) ((5 * ci) + 3) 0))) b = some (4800, .inl (hT G 0, 1002, .inl (upd (upd f ((5 * ci) + 4) 0) ((5 * ci) + 3) 0))) := hup_eq
    generalize hup Mz2 b (4800, .inl (hT G 0, 1002, .inl (upd (upd f ((5 * ci) + 4) 0) ((5 * ci) + 3) 0))) = Mz3 at Y hbr hfr
    refine lv_goto (tgt := 647) hx hb dL_play_537 (by decide) ?_
    exact W.wid (by first | omega | (dsimp only [hRm]; omega) | (simp [hRm]; omega)) (by first | omega | (dsimp only [hRm]; omega) | (simp [hRm]; omega)) (kk _ _ _ _ _ _ _ Y (lv_sub hl [7, 8, 6, 5] rfl) (PlI.up (Cn := cClose (sC S ci) true) I hci (PV.fr9 hfr (fun u z => z) hPv2) hbr (fun j hj => by rw [pk_un (by omega), pk_un (by omega)]) (by rw [pk_un (by omega), pk_un (by omega)]; exact hb0) (by rw [pk_un (by omega), pk_un (by omega)]; exact hb2) (by rw [pk_us]; rfl) (by rw [pk_un (by omega), pk_us]; rfl) ((hCI ci hci).close true)))
