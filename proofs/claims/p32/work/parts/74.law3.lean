-- THE LAW: EVERY LAYER, ITS YEARS
theorem lgn_le {a b : Nat} (ha : a < 2 ^ 62) (hb : b < 2 ^ 62) (h : a ≤ b) : lg_cmp (lN a) (lN b) ≤ 0 := by
  unfold lg_cmp
  rw [if_neg (show ¬ lN a > lN b from fun q => absurd ((pk_lLT (a := b) (b := a) (by omega) (by omega)).mp q) (by omega))]
  by_cases e : lN a = lN b
  · rw [if_pos e]; decide
  · rw [if_neg e]; decide
theorem lgn_gt {a b : Nat} (ha : a < 2 ^ 62) (hb : b < 2 ^ 62) (h : b < a) : ¬ lg_cmp (lN a) (lN b) ≤ 0 := by
  unfold lg_cmp
  rw [if_pos (show lN a > lN b from (pk_lLT (a := b) (b := a) (by omega) (by omega)).mpr h)]
  decide
theorem gw_L_167 : GoodIn hGW (wsV RL 167 RX11 yX11_without (Cond.code yX11_without cX11_without 2 (Option.some FieldType.int) :: hGW)) := hgi4 kml_L_167 kin_X11_without kse_X11_X11_without_X11_without kini_X11 kco_X11_without
theorem dsc_X11_without : yX11_without.cls = RX11 ∧ yX11_without.cls ≠ "java/lang/invoke/MethodHandle" ∧ yX11_without.cls ≠ "java/lang/invoke/VarHandle" ∧ (parseMethodDescriptor yX11_without.desc).map (fun d => d.parameters.length) = some 1 := ⟨rfl, by decide +kernel, by decide +kernel, by decide +kernel⟩
theorem gw_L_162 : GoodIn hGW (wsV RL 162 RX11 yX11_terms (Cond.code yX11_terms cX11_terms 4 (Option.some FieldType.int) :: hGW)) := hgi4 kml_L_162 kin_X11_terms kse_X11_X11_terms_X11_terms kini_X11 kco_X11_terms
theorem dsc_X11_terms : yX11_terms.cls = RX11 ∧ yX11_terms.cls ≠ "java/lang/invoke/MethodHandle" ∧ yX11_terms.cls ≠ "java/lang/invoke/VarHandle" ∧ (parseMethodDescriptor yX11_terms.desc).map (fun d => d.parameters.length) = some 3 := ⟨rfl, by decide +kernel, by decide +kernel, by decide +kernel⟩
theorem gw_L_164 : GoodIn hGW (wsV RL 164 RX11 yX11_used (Cond.code yX11_used cX11_used 4 (Option.some FieldType.int) :: hGW)) := hgi4 kml_L_164 kin_X11_used kse_X11_X11_used_X11_used kini_X11 kco_X11_used
theorem dsc_X11_used : yX11_used.cls = RX11 ∧ yX11_used.cls ≠ "java/lang/invoke/MethodHandle" ∧ yX11_used.cls ≠ "java/lang/invoke/VarHandle" ∧ (parseMethodDescriptor yX11_used.desc).map (fun d => d.parameters.length) = some 3 := ⟨rfl, by decide +kernel, by decide +kernel, by decide +kernel⟩
theorem dL_law_396 : decode cL_law 396 = .ok (.iconst 0, 1) := by decide +kernel
theorem dL_law_397 : decode cL_law 397 = .ok (.istore 13, 2) := by decide +kernel
theorem dL_law_399 : decode cL_law 399 = .ok (.iload 13, 2) := by decide +kernel
theorem dL_law_401 : decode cL_law 401 = .ok (.iload 5, 2) := by decide +kernel
theorem dL_law_403 : decode cL_law 403 = .ok (.if_icmp .gt 121, 3) := by decide +kernel
theorem dL_law_406 : decode cL_law 406 = .ok (.aload_n 1, 1) := by decide +kernel
theorem dL_law_407 : decode cL_law 407 = .ok (.iload 12, 2) := by decide +kernel
theorem dL_law_409 : decode cL_law 409 = .ok (.iload 13, 2) := by decide +kernel
theorem dL_law_411 : decode cL_law 411 = .ok (.iconst 3, 1) := by decide +kernel
theorem dL_law_412 : decode cL_law 412 = .ok (.invokevirtual 162, 3) := by decide +kernel
theorem dL_law_415 : decode cL_law 415 = .ok (.istore 14, 2) := by decide +kernel
theorem dL_law_417 : decode cL_law 417 = .ok (.aload_n 1, 1) := by decide +kernel
theorem dL_law_418 : decode cL_law 418 = .ok (.iload 12, 2) := by decide +kernel
theorem dL_law_420 : decode cL_law 420 = .ok (.iload 13, 2) := by decide +kernel
theorem dL_law_422 : decode cL_law 422 = .ok (.iconst 0, 1) := by decide +kernel
theorem dL_law_423 : decode cL_law 423 = .ok (.invokevirtual 164, 3) := by decide +kernel
theorem dL_law_426 : decode cL_law 426 = .ok (.ifCond .lt 90, 3) := by decide +kernel
theorem dL_law_429 : decode cL_law 429 = .ok (.iload 14, 2) := by decide +kernel
theorem dL_law_431 : decode cL_law 431 = .ok (.ifCond .lt 41, 3) := by decide +kernel
theorem dL_law_434 : decode cL_law 434 = .ok (.aload_n 1, 1) := by decide +kernel
theorem dL_law_435 : decode cL_law 435 = .ok (.iload 12, 2) := by decide +kernel
theorem dL_law_437 : decode cL_law 437 = .ok (.iload 13, 2) := by decide +kernel
theorem dL_law_439 : decode cL_law 439 = .ok (.iconst 0, 1) := by decide +kernel
theorem dL_law_440 : decode cL_law 440 = .ok (.invokevirtual 164, 3) := by decide +kernel
theorem dL_law_443 : decode cL_law 443 = .ok (.iload 14, 2) := by decide +kernel
theorem dL_law_445 : decode cL_law 445 = .ok (.if_icmp .gt 71, 3) := by decide +kernel
theorem dL_law_448 : decode cL_law 448 = .ok (.aload_n 1, 1) := by decide +kernel
theorem dL_law_449 : decode cL_law 449 = .ok (.iload 12, 2) := by decide +kernel
theorem dL_law_451 : decode cL_law 451 = .ok (.iload 13, 2) := by decide +kernel
theorem dL_law_453 : decode cL_law 453 = .ok (.iconst 0, 1) := by decide +kernel
theorem dL_law_454 : decode cL_law 454 = .ok (.invokevirtual 164, 3) := by decide +kernel
theorem dL_law_457 : decode cL_law 457 = .ok (.aload_n 1, 1) := by decide +kernel
theorem dL_law_458 : decode cL_law 458 = .ok (.iload 12, 2) := by decide +kernel
theorem dL_law_460 : decode cL_law 460 = .ok (.iload 13, 2) := by decide +kernel
theorem dL_law_462 : decode cL_law 462 = .ok (.iconst 1, 1) := by decide +kernel
theorem dL_law_463 : decode cL_law 463 = .ok (.invokevirtual 164, 3) := by decide +kernel
theorem dL_law_466 : decode cL_law 466 = .ok (.iadd, 1) := by decide +kernel
theorem dL_law_467 : decode cL_law 467 = .ok (.iload 14, 2) := by decide +kernel
theorem dL_law_469 : decode cL_law 469 = .ok (.if_icmp .ne 47, 3) := by decide +kernel
theorem dL_law_472 : decode cL_law 472 = .ok (.iload 14, 2) := by decide +kernel
theorem dL_law_474 : decode cL_law 474 = .ok (.ifCond .ge 16, 3) := by decide +kernel
theorem dL_law_477 : decode cL_law 477 = .ok (.aload_n 1, 1) := by decide +kernel
theorem dL_law_478 : decode cL_law 478 = .ok (.iload 12, 2) := by decide +kernel
theorem dL_law_480 : decode cL_law 480 = .ok (.iload 13, 2) := by decide +kernel
theorem dL_law_482 : decode cL_law 482 = .ok (.iconst 1, 1) := by decide +kernel
theorem dL_law_483 : decode cL_law 483 = .ok (.invokevirtual 164, 3) := by decide +kernel
theorem dL_law_486 : decode cL_law 486 = .ok (.iconst (-1), 1) := by decide +kernel
theorem dL_law_487 : decode cL_law 487 = .ok (.if_icmp .ne 29, 3) := by decide +kernel
theorem dL_law_490 : decode cL_law 490 = .ok (.aload_n 1, 1) := by decide +kernel
theorem dL_law_491 : decode cL_law 491 = .ok (.iload 12, 2) := by decide +kernel
theorem dL_law_493 : decode cL_law 493 = .ok (.iload 13, 2) := by decide +kernel
theorem dL_law_495 : decode cL_law 495 = .ok (.iconst 2, 1) := by decide +kernel
theorem dL_law_496 : decode cL_law 496 = .ok (.invokevirtual 164, 3) := by decide +kernel
theorem dL_law_499 : decode cL_law 499 = .ok (.ifCond .lt 17, 3) := by decide +kernel
theorem dL_law_502 : decode cL_law 502 = .ok (.aload_n 1, 1) := by decide +kernel
theorem dL_law_503 : decode cL_law 503 = .ok (.iload 12, 2) := by decide +kernel
theorem dL_law_505 : decode cL_law 505 = .ok (.iload 13, 2) := by decide +kernel
theorem dL_law_507 : decode cL_law 507 = .ok (.iconst 3, 1) := by decide +kernel
theorem dL_law_508 : decode cL_law 508 = .ok (.invokevirtual 164, 3) := by decide +kernel
theorem dL_law_511 : decode cL_law 511 = .ok (.iload 4, 2) := by decide +kernel
theorem dL_law_513 : decode cL_law 513 = .ok (.if_icmp .le 5, 3) := by decide +kernel
theorem dL_law_518 : decode cL_law 518 = .ok (.iinc 13 1, 3) := by decide +kernel
theorem dL_law_521 : decode cL_law 521 = .ok (.goto (-122), 3) := by decide +kernel
theorem dL_law_524 : decode cL_law 524 = .ok (.aload_n 1, 1) := by decide +kernel
theorem dL_law_525 : decode cL_law 525 = .ok (.iload 12, 2) := by decide +kernel
theorem dL_law_527 : decode cL_law 527 = .ok (.invokevirtual 167, 3) := by decide +kernel
theorem dL_law_530 : decode cL_law 530 = .ok (.ifCond .lt 16, 3) := by decide +kernel
theorem dL_law_533 : decode cL_law 533 = .ok (.aload_n 1, 1) := by decide +kernel
theorem dL_law_534 : decode cL_law 534 = .ok (.iload 12, 2) := by decide +kernel
theorem dL_law_536 : decode cL_law 536 = .ok (.invokevirtual 167, 3) := by decide +kernel
theorem dL_law_539 : decode cL_law 539 = .ok (.i2l, 1) := by decide +kernel
theorem dL_law_540 : decode cL_law 540 = .ok (.lload 10, 2) := by decide +kernel
theorem dL_law_542 : decode cL_law 542 = .ok (.lcmp, 1) := by decide +kernel
theorem dL_law_543 : decode cL_law 543 = .ok (.ifCond .le 5, 3) := by decide +kernel
theorem dL_law_548 : decode cL_law 548 = .ok (.iinc 12 1, 3) := by decide +kernel
theorem dL_law_551 : decode cL_law 551 = .ok (.goto (-161), 3) := by decide +kernel
set_option maxHeartbeats 400000 in
set_option maxRecDepth 100000 in
theorem law_c {nm : String} (l : Launch) (G : hG) (p : Program) (e : Env) (s : State) (m : MethodId) (args : Array Value) (below : List Frame) (meth : Method) (c : Code) (M : hM) (H : Heap) (locs : List Loc) (ls : Array Slot) (cells slots : Nat) (Q : State → Prop) (hcs : cells ≤ 600086) (hss : slots ≤ 7301442) (X : hCX G p s m args meth c cL_law 18 ret RL nm) (Y : hHS G M s H locs) (S : hSy) (h : hHo) (hQv : QV G M S h) (hGC : GC S (hNow h)) (a0 : Nat) (ha0 : sA S 0 = a0) (tt bb : Nat) (sm : Int64) (al : Int64) (I9 : Nat) (hI9 : I9 = nSum (fun i => vn (qAm S false i)) (sM S)) (k : Nat) (hk : k < 3) (hl : lv_has ls 18 [(0, .ref G.2.1), (1, .ref (a0)), (2, .ref tt), (3, .ref bb), (4, .int (nI (sM S))), (5, .int (nI (hNow h))), (6, .long sm), (8, .long al), (10, .long (lN I9)), (12, .int (nI k))]) (kk : ∀  (M' : hM) (H : Heap) (locs : List Loc) (ls : Array Slot), hHS G M' s H locs → QV G M' S h → lv_has ls 18 [(0, .ref G.2.1), (1, .ref (a0)), (2, .ref tt), (3, .ref bb), (4, .int (nI (sM S))), (5, .int (nI (hNow h))), (6, .long sm), (8, .long al), (10, .long (lN I9)), (12, .int (nI (k + 1)))] → W p l e room_1 s m args below meth c H locs cells slots Q (F0 m 390 ls [])) : W p l e room_1 s m args below meth c H locs cells slots Q (F0 m 396 ls []) := by
  subst ha0
  have hx := X.1
  have hb := X.2.1
  have h40 : sM S ≤ 40 := hGC.1.2.2.1
  have hn10 : hNow h < 10 := hGC.2.1
  have hN3 : sN S = 3 := hGC.1.1
  have ho0 := hQv.2.2.1.1
  refine lv_iconst (v := 0) hx hb dL_law_396 (by decide) ?_
  refine lv_istore (lv' := [(13, .int 0), (0, .ref G.2.1), (1, .ref (sA S 0)), (2, .ref tt), (3, .ref bb), (4, .int (nI (sM S))), (5, .int (nI (hNow h))), (6, .long sm), (8, .long al), (10, .long (lN I9)), (12, .int (nI k))]) hx hb dL_law_397 hl (by decide) rfl (fun ls hl => ?_)
  have loop : ∀ (d y : Nat), y + d = hNow h + 2 → y ≤ hNow h + 1 → ∀ (M1 : hM), QV G M1 S h → ∀ (H : Heap) (locs : List Loc) (ls : Array Slot), hHS G M1 s H locs → lv_has ls 18 [(0, .ref G.2.1), (1, .ref (sA S 0)), (2, .ref tt), (3, .ref bb), (4, .int (nI (sM S))), (5, .int (nI (hNow h))), (6, .long sm), (8, .long al), (10, .long (lN I9)), (12, .int (nI k)), (13, .int (nI y))] → W p l e (room_1) s m args below meth c H locs cells slots Q (F0 m 399 ls []) := by
    intro d
    induction d with
    | zero => intro y h1; intros; exact absurd h1 (by omega)
    | succ d ih =>
      intro y h1 h2 M1 hQv H locs ls Y hl
      have ho0 := hQv.2.2.1.1
      refine lv_iload hx hb dL_law_399 (lv_at hl 10 rfl) ?_
      refine lv_iload hx hb dL_law_401 (lv_at hl 5 rfl) ?_
      refine lv_icmp_gt (tgt := 524) hx hb dL_law_403 (by decide) (fun c403 => ?_) (fun c403 => ?_)
      · have c403 : (hNow h) < y := (nI_ltI (a := (hNow h)) (b := y) (by omega) (by omega)).mp c403
        obtain ⟨ww, eww, hww, hwb⟩ : ∃ ww, qLefts S false (nI k) = nI ww ∧ ww ≤ I9 ∧ I9 ≤ 44800000 := ⟨_, (qLefts_n hGC (nI k)).1, by rw [hI9]; exact (qLefts_n hGC (nI k)).2.1, by rw [hI9]; exact (qLefts_n hGC (nI k)).2.2⟩
        refine lv_aload_n hx hb dL_law_524 rfl (lv_at hl 1 rfl) ?_
        refine lv_iload hx hb dL_law_525 (lv_at hl 9 rfl) ?_
        refine h_callV (rest := []) X Y (c_without l G M1 S h hQv k (by omega)) gw_L_167 dsc_X11_without ho0 rfl rfl rfl hl.1 rfl (Nat.le_of_ble_eq_true rfl) ⟨Nat.le_of_ble_eq_true rfl, Nat.le_of_ble_eq_true rfl⟩ ⟨(by show _ ≤ 600086; first | omega | (dsimp only [hRm]; omega)), (by show _ ≤ 7301442; first | omega | (dsimp only [hRm]; omega))⟩ dL_law_527 ?_
        rintro _ Mz1 H locs ⟨rfl, hs9⟩ Y
        have hQv := hQv.sim hs9
        have ho0 := hQv.2.2.1.1
        try dsimp only [Option.toList, List.singleton_append]
        refine h_ev (y := nI ww) eww ?_
        refine lv_if_lt (tgt := 546) hx hb dL_law_530 (by decide) (fun c530 => absurd (show ww < 0 from (nI_ltI (a := ww) (b := 0) (by omega) (by omega)).mp c530) (by omega)) (fun c530 => ?_)
        have c530 : ¬ ww < 0 := fun z9 => c530 ((nI_ltI (a := ww) (b := 0) (by omega) (by omega)).mpr z9)
        refine lv_aload_n hx hb dL_law_533 rfl (lv_at hl 1 rfl) ?_
        refine lv_iload hx hb dL_law_534 (lv_at hl 9 rfl) ?_
        refine h_callV (rest := []) X Y (c_without l G Mz1 S h hQv k (by omega)) gw_L_167 dsc_X11_without ho0 rfl rfl rfl hl.1 rfl (Nat.le_of_ble_eq_true rfl) ⟨Nat.le_of_ble_eq_true rfl, Nat.le_of_ble_eq_true rfl⟩ ⟨(by show _ ≤ 600086; first | omega | (dsimp only [hRm]; omega)), (by show _ ≤ 7301442; first | omega | (dsimp only [hRm]; omega))⟩ dL_law_536 ?_
        rintro _ Mz2 H locs ⟨rfl, hs9⟩ Y
        have hQv := hQv.sim hs9
        have ho0 := hQv.2.2.1.1
        try dsimp only [Option.toList, List.singleton_append]
        refine h_ev (y := nI ww) eww ?_
        refine lv_i2l (v := (nI ww).toInt64) hx hb dL_law_539 rfl ?_
        refine h_evL (y := lN ww) (nI_l (by omega)) ?_
        refine lv_lload hx hb dL_law_540 (lv_at hl 8 rfl) ?_
        refine W.lcmp hx hb dL_law_542 ?_
        refine lv_if_le (tgt := 548) hx hb dL_law_543 (by decide) (fun c543 => ?_) (fun c543 => absurd (lgn_le (by omega) (by omega) hww) c543)
        refine lv_iinc (v := nI (k + 1)) (lv' := [(12, .int (nI (k + 1))), (0, .ref G.2.1), (1, .ref (sA S 0)), (2, .ref tt), (3, .ref bb), (4, .int (nI (sM S))), (5, .int (nI (hNow h))), (6, .long sm), (8, .long al), (10, .long (lN I9)), (13, .int (nI y))]) hx hb dL_law_548 hl (k := 9) rfl (nI_1 k) (by decide) rfl (fun ls hl => ?_)
        refine lv_goto (tgt := 390) hx hb dL_law_551 (by decide) ?_
        exact W.wid (by first | omega | (dsimp only [hRm]; omega) | (simp [hRm]; omega)) (by first | omega | (dsimp only [hRm]; omega) | (simp [hRm]; omega)) (kk _ _ _ _ Y hQv (lv_sub hl [1, 2, 3, 4, 5, 6, 7, 8, 9, 0] rfl))
      · have c403 : ¬ (hNow h) < y := fun z9 => c403 ((nI_ltI (a := (hNow h)) (b := y) (by omega) (by omega)).mpr z9)
        have hyN : y ≤ hNow h := by omega
        obtain ⟨v, hv, ev⟩ := charge_in hGC hk (show y < 10 by omega)
        obtain ⟨rc, hrc, hrcl⟩ : ∃ rc, qUsed S k y 3 = nI rc ∧ rc ≤ sM S := ⟨_, rfl, rCount_le S _ k y _⟩
        obtain ⟨u, hu, eu0, hcase⟩ := used_in hGC hk (show y < 10 by omega)
        rcases hcase with ⟨eB, e1⟩ | ⟨B, hB, eB, huB, e1⟩
        · refine lv_aload_n hx hb dL_law_406 rfl (lv_at hl 1 rfl) ?_
          refine lv_iload hx hb dL_law_407 (lv_at hl 9 rfl) ?_
          refine lv_iload hx hb dL_law_409 (lv_at hl 10 rfl) ?_
          refine lv_iconst (v := 3) hx hb dL_law_411 (by decide) ?_
          refine h_callVr (rest := []) X Y (c_terms l G M1 S h hQv k y 3 (by omega) (by omega) (by decide)) rfl rfl gw_L_162 dsc_X11_terms ho0 rfl rfl rfl rfl hl.1 (Nat.le_of_ble_eq_true rfl) ⟨Nat.le_of_ble_eq_true rfl, Nat.le_of_ble_eq_true rfl⟩ ⟨(by show _ ≤ 600086; first | omega | (dsimp only [hRm]; omega)), (by show _ ≤ 7301442; first | omega | (dsimp only [hRm]; omega))⟩ dL_law_412 (fun H locs Y => ?_)
          refine h_ev (y := (-1)) eB ?_
          refine lv_istore (lv' := [(14, .int (-1)), (0, .ref G.2.1), (1, .ref (sA S 0)), (2, .ref tt), (3, .ref bb), (4, .int (nI (sM S))), (5, .int (nI (hNow h))), (6, .long sm), (8, .long al), (10, .long (lN I9)), (12, .int (nI k)), (13, .int (nI y))]) hx hb dL_law_415 hl (by decide) rfl (fun ls hl => ?_)
          refine lv_aload_n hx hb dL_law_417 rfl (lv_at hl 2 rfl) ?_
          refine lv_iload hx hb dL_law_418 (lv_at hl 10 rfl) ?_
          refine lv_iload hx hb dL_law_420 (lv_at hl 11 rfl) ?_
          refine lv_iconst (v := 0) hx hb dL_law_422 (by decide) ?_
          refine h_callV (rest := []) X Y (c_used l G M1 S h hQv k y 0 (by omega) (by omega) (by decide)) gw_L_164 dsc_X11_used ho0 rfl rfl rfl hl.1 rfl (Nat.le_of_ble_eq_true rfl) ⟨Nat.le_of_ble_eq_true rfl, Nat.le_of_ble_eq_true rfl⟩ ⟨(by show _ ≤ 600086; first | omega | (dsimp only [hRm]; omega)), (by show _ ≤ 7301442; first | omega | (dsimp only [hRm]; omega))⟩ dL_law_423 ?_
          rintro _ Mz3 H locs ⟨rfl, hs9⟩ Y
          have hQv := hQv.sim hs9
          have ho0 := hQv.2.2.1.1
          try dsimp only [Option.toList, List.singleton_append]
          refine h_ev (y := nI u) eu0 ?_
          refine lv_if_lt (tgt := 516) hx hb dL_law_426 (by decide) (fun c426 => absurd (show u < 0 from (nI_ltI (a := u) (b := 0) (by omega) (by omega)).mp c426) (by omega)) (fun c426 => ?_)
          have c426 : ¬ u < 0 := fun z9 => c426 ((nI_ltI (a := u) (b := 0) (by omega) (by omega)).mpr z9)
          refine lv_iload hx hb dL_law_429 (lv_at hl 0 rfl) ?_
          refine lv_if_lt (tgt := 472) hx hb dL_law_431 (by decide) (fun c431 => ?_) (fun c431 => absurd (by decide) c431)
          refine lv_iload hx hb dL_law_472 (lv_at hl 0 rfl) ?_
          refine lv_if_ge (tgt := 490) hx hb dL_law_474 (by decide) (fun c474 => absurd c474 (by decide)) (fun c474 => ?_)
          refine lv_aload_n hx hb dL_law_477 rfl (lv_at hl 2 rfl) ?_
          refine lv_iload hx hb dL_law_478 (lv_at hl 10 rfl) ?_
          refine lv_iload hx hb dL_law_480 (lv_at hl 11 rfl) ?_
          refine lv_iconst (v := 1) hx hb dL_law_482 (by decide) ?_
          refine h_callV (rest := []) X Y (c_used l G Mz3 S h hQv k y 1 (by omega) (by omega) (by decide)) gw_L_164 dsc_X11_used ho0 rfl rfl rfl hl.1 rfl (Nat.le_of_ble_eq_true rfl) ⟨Nat.le_of_ble_eq_true rfl, Nat.le_of_ble_eq_true rfl⟩ ⟨(by show _ ≤ 600086; first | omega | (dsimp only [hRm]; omega)), (by show _ ≤ 7301442; first | omega | (dsimp only [hRm]; omega))⟩ dL_law_483 ?_
          rintro _ Mz4 H locs ⟨rfl, hs9⟩ Y
          have hQv := hQv.sim hs9
          have ho0 := hQv.2.2.1.1
          try dsimp only [Option.toList, List.singleton_append]
          refine h_ev (y := (-1)) e1 ?_
          refine lv_iconst (v := (-1)) hx hb dL_law_486 (by decide) ?_
          refine lv_icmp_ne (tgt := 516) hx hb dL_law_487 (by decide) (fun c487 => absurd rfl c487) (fun c487 => ?_)
          refine lv_aload_n hx hb dL_law_490 rfl (lv_at hl 2 rfl) ?_
          refine lv_iload hx hb dL_law_491 (lv_at hl 10 rfl) ?_
          refine lv_iload hx hb dL_law_493 (lv_at hl 11 rfl) ?_
          refine lv_iconst (v := 2) hx hb dL_law_495 (by decide) ?_
          refine h_callV (rest := []) X Y (c_used l G Mz4 S h hQv k y 2 (by omega) (by omega) (by decide)) gw_L_164 dsc_X11_used ho0 rfl rfl rfl hl.1 rfl (Nat.le_of_ble_eq_true rfl) ⟨Nat.le_of_ble_eq_true rfl, Nat.le_of_ble_eq_true rfl⟩ ⟨(by show _ ≤ 600086; first | omega | (dsimp only [hRm]; omega)), (by show _ ≤ 7301442; first | omega | (dsimp only [hRm]; omega))⟩ dL_law_496 ?_
          rintro _ Mz5 H locs ⟨rfl, hs9⟩ Y
          have hQv := hQv.sim hs9
          have ho0 := hQv.2.2.1.1
          try dsimp only [Option.toList, List.singleton_append]
          refine h_ev (y := nI v) ev ?_
          refine lv_if_lt (tgt := 516) hx hb dL_law_499 (by decide) (fun c499 => absurd (show v < 0 from (nI_ltI (a := v) (b := 0) (by omega) (by omega)).mp c499) (by omega)) (fun c499 => ?_)
          have c499 : ¬ v < 0 := fun z9 => c499 ((nI_ltI (a := v) (b := 0) (by omega) (by omega)).mpr z9)
          refine lv_aload_n hx hb dL_law_502 rfl (lv_at hl 2 rfl) ?_
          refine lv_iload hx hb dL_law_503 (lv_at hl 10 rfl) ?_
          refine lv_iload hx hb dL_law_505 (lv_at hl 11 rfl) ?_
          refine lv_iconst (v := 3) hx hb dL_law_507 (by decide) ?_
          refine h_callV (rest := []) X Y (c_used l G Mz5 S h hQv k y 3 (by omega) (by omega) (by decide)) gw_L_164 dsc_X11_used ho0 rfl rfl rfl hl.1 rfl (Nat.le_of_ble_eq_true rfl) ⟨Nat.le_of_ble_eq_true rfl, Nat.le_of_ble_eq_true rfl⟩ ⟨(by show _ ≤ 600086; first | omega | (dsimp only [hRm]; omega)), (by show _ ≤ 7301442; first | omega | (dsimp only [hRm]; omega))⟩ dL_law_508 ?_
          rintro _ Mz6 H locs ⟨rfl, hs9⟩ Y
          have hQv := hQv.sim hs9
          have ho0 := hQv.2.2.1.1
          try dsimp only [Option.toList, List.singleton_append]
          refine h_ev (y := nI rc) hrc ?_
          refine lv_iload hx hb dL_law_511 (lv_at hl 5 rfl) ?_
          refine lv_icmp_le (tgt := 518) hx hb dL_law_513 (by decide) (fun c513 => ?_) (fun c513 => absurd (show ¬ rc ≤ (sM S) from fun z9 => c513 ((nI_leI (a := rc) (b := (sM S)) (by omega) (by omega)).mpr z9)) (by omega))
          have c513 : rc ≤ (sM S) := (nI_leI (a := rc) (b := (sM S)) (by omega) (by omega)).mp c513
          refine lv_iinc (v := nI (y + 1)) (lv' := [(13, .int (nI (y + 1))), (14, .int (-1)), (0, .ref G.2.1), (1, .ref (sA S 0)), (2, .ref tt), (3, .ref bb), (4, .int (nI (sM S))), (5, .int (nI (hNow h))), (6, .long sm), (8, .long al), (10, .long (lN I9)), (12, .int (nI k))]) hx hb dL_law_518 hl (k := 11) rfl (nI_1 y) (by decide) rfl (fun ls hl => ?_)
          refine lv_goto (tgt := 399) hx hb dL_law_521 (by decide) ?_
          exact W.wid (by first | omega | (dsimp only [hRm]; omega) | (simp [hRm]; omega)) (by first | omega | (dsimp only [hRm]; omega) | (simp [hRm]; omega)) (ih (y + 1) (by omega) (by omega) Mz6 hQv _ _ _ Y (lv_sub hl [2, 3, 4, 5, 6, 7, 8, 9, 10, 11, 0] rfl))
        · refine lv_aload_n hx hb dL_law_406 rfl (lv_at hl 1 rfl) ?_
          refine lv_iload hx hb dL_law_407 (lv_at hl 9 rfl) ?_
          refine lv_iload hx hb dL_law_409 (lv_at hl 10 rfl) ?_
          refine lv_iconst (v := 3) hx hb dL_law_411 (by decide) ?_
          refine h_callVr (rest := []) X Y (c_terms l G M1 S h hQv k y 3 (by omega) (by omega) (by decide)) rfl rfl gw_L_162 dsc_X11_terms ho0 rfl rfl rfl rfl hl.1 (Nat.le_of_ble_eq_true rfl) ⟨Nat.le_of_ble_eq_true rfl, Nat.le_of_ble_eq_true rfl⟩ ⟨(by show _ ≤ 600086; first | omega | (dsimp only [hRm]; omega)), (by show _ ≤ 7301442; first | omega | (dsimp only [hRm]; omega))⟩ dL_law_412 (fun H locs Y => ?_)
          refine h_ev (y := nI B) eB ?_
          refine lv_istore (lv' := [(14, .int (nI B)), (0, .ref G.2.1), (1, .ref (sA S 0)), (2, .ref tt), (3, .ref bb), (4, .int (nI (sM S))), (5, .int (nI (hNow h))), (6, .long sm), (8, .long al), (10, .long (lN I9)), (12, .int (nI k)), (13, .int (nI y))]) hx hb dL_law_415 hl (by decide) rfl (fun ls hl => ?_)
          refine lv_aload_n hx hb dL_law_417 rfl (lv_at hl 2 rfl) ?_
          refine lv_iload hx hb dL_law_418 (lv_at hl 10 rfl) ?_
          refine lv_iload hx hb dL_law_420 (lv_at hl 11 rfl) ?_
          refine lv_iconst (v := 0) hx hb dL_law_422 (by decide) ?_
          refine h_callV (rest := []) X Y (c_used l G M1 S h hQv k y 0 (by omega) (by omega) (by decide)) gw_L_164 dsc_X11_used ho0 rfl rfl rfl hl.1 rfl (Nat.le_of_ble_eq_true rfl) ⟨Nat.le_of_ble_eq_true rfl, Nat.le_of_ble_eq_true rfl⟩ ⟨(by show _ ≤ 600086; first | omega | (dsimp only [hRm]; omega)), (by show _ ≤ 7301442; first | omega | (dsimp only [hRm]; omega))⟩ dL_law_423 ?_
          rintro _ Mz7 H locs ⟨rfl, hs9⟩ Y
          have hQv := hQv.sim hs9
          have ho0 := hQv.2.2.1.1
          try dsimp only [Option.toList, List.singleton_append]
          refine h_ev (y := nI u) eu0 ?_
          refine lv_if_lt (tgt := 516) hx hb dL_law_426 (by decide) (fun c426 => absurd (show u < 0 from (nI_ltI (a := u) (b := 0) (by omega) (by omega)).mp c426) (by omega)) (fun c426 => ?_)
          have c426 : ¬ u < 0 := fun z9 => c426 ((nI_ltI (a := u) (b := 0) (by omega) (by omega)).mpr z9)
          refine lv_iload hx hb dL_law_429 (lv_at hl 0 rfl) ?_
          refine lv_if_lt (tgt := 472) hx hb dL_law_431 (by decide) (fun c431 => absurd (show B < 0 from (nI_ltI (a := B) (b := 0) (by omega) (by omega)).mp c431) (by omega)) (fun c431 => ?_)
          have c431 : ¬ B < 0 := fun z9 => c431 ((nI_ltI (a := B) (b := 0) (by omega) (by omega)).mpr z9)
          refine lv_aload_n hx hb dL_law_434 rfl (lv_at hl 2 rfl) ?_
          refine lv_iload hx hb dL_law_435 (lv_at hl 10 rfl) ?_
          refine lv_iload hx hb dL_law_437 (lv_at hl 11 rfl) ?_
          refine lv_iconst (v := 0) hx hb dL_law_439 (by decide) ?_
          refine h_callV (rest := []) X Y (c_used l G Mz7 S h hQv k y 0 (by omega) (by omega) (by decide)) gw_L_164 dsc_X11_used ho0 rfl rfl rfl hl.1 rfl (Nat.le_of_ble_eq_true rfl) ⟨Nat.le_of_ble_eq_true rfl, Nat.le_of_ble_eq_true rfl⟩ ⟨(by show _ ≤ 600086; first | omega | (dsimp only [hRm]; omega)), (by show _ ≤ 7301442; first | omega | (dsimp only [hRm]; omega))⟩ dL_law_440 ?_
          rintro _ Mz8 H locs ⟨rfl, hs9⟩ Y
          have hQv := hQv.sim hs9
          have ho0 := hQv.2.2.1.1
          try dsimp only [Option.toList, List.singleton_append]
          refine h_ev (y := nI u) eu0 ?_
          refine lv_iload hx hb dL_law_443 (lv_at hl 0 rfl) ?_
          refine lv_icmp_gt (tgt := 516) hx hb dL_law_445 (by decide) (fun c445 => absurd (show B < u from (nI_ltI (a := B) (b := u) (by omega) (by omega)).mp c445) (by omega)) (fun c445 => ?_)
          have c445 : ¬ B < u := fun z9 => c445 ((nI_ltI (a := B) (b := u) (by omega) (by omega)).mpr z9)
          refine lv_aload_n hx hb dL_law_448 rfl (lv_at hl 2 rfl) ?_
          refine lv_iload hx hb dL_law_449 (lv_at hl 10 rfl) ?_
          refine lv_iload hx hb dL_law_451 (lv_at hl 11 rfl) ?_
          refine lv_iconst (v := 0) hx hb dL_law_453 (by decide) ?_
          refine h_callV (rest := []) X Y (c_used l G Mz8 S h hQv k y 0 (by omega) (by omega) (by decide)) gw_L_164 dsc_X11_used ho0 rfl rfl rfl hl.1 rfl (Nat.le_of_ble_eq_true rfl) ⟨Nat.le_of_ble_eq_true rfl, Nat.le_of_ble_eq_true rfl⟩ ⟨(by show _ ≤ 600086; first | omega | (dsimp only [hRm]; omega)), (by show _ ≤ 7301442; first | omega | (dsimp only [hRm]; omega))⟩ dL_law_454 ?_
          rintro _ Mz9 H locs ⟨rfl, hs9⟩ Y
          have hQv := hQv.sim hs9
          have ho0 := hQv.2.2.1.1
          try dsimp only [Option.toList, List.singleton_append]
          refine h_ev (y := nI u) eu0 ?_
          refine lv_aload_n hx hb dL_law_457 rfl (lv_at hl 2 rfl) ?_
          refine lv_iload hx hb dL_law_458 (lv_at hl 10 rfl) ?_
          refine lv_iload hx hb dL_law_460 (lv_at hl 11 rfl) ?_
          refine lv_iconst (v := 1) hx hb dL_law_462 (by decide) ?_
          refine h_callV (rest := [.int (nI u)]) X Y (c_used l G Mz9 S h hQv k y 1 (by omega) (by omega) (by decide)) gw_L_164 dsc_X11_used ho0 rfl rfl rfl hl.1 rfl (Nat.le_of_ble_eq_true rfl) ⟨Nat.le_of_ble_eq_true rfl, Nat.le_of_ble_eq_true rfl⟩ ⟨(by show _ ≤ 600086; first | omega | (dsimp only [hRm]; omega)), (by show _ ≤ 7301442; first | omega | (dsimp only [hRm]; omega))⟩ dL_law_463 ?_
          rintro _ Mz10 H locs ⟨rfl, hs9⟩ Y
          have hQv := hQv.sim hs9
          have ho0 := hQv.2.2.1.1
          try dsimp only [Option.toList, List.singleton_append]
          refine h_ev (y := nI (B - u)) e1 ?_
          refine lv_iadd hx hb dL_law_466 ?_
          refine h_ev (y := nI (u + (B - u))) (nI_add u (B - u)) ?_
          refine lv_iload hx hb dL_law_467 (lv_at hl 0 rfl) ?_
          refine lv_icmp_ne (tgt := 516) hx hb dL_law_469 (by decide) (fun c469 => absurd (show ¬ (u + (B - u)) = B from fun z9 => c469 ((nI_eq (a := (u + (B - u))) (b := B) (by omega) (by omega)).mpr z9)) (by omega)) (fun c469 => ?_)
          have c469 : (u + (B - u)) = B := (nI_eq (a := (u + (B - u))) (b := B) (by omega) (by omega)).mp c469
          refine lv_iload hx hb dL_law_472 (lv_at hl 0 rfl) ?_
          refine lv_if_ge (tgt := 490) hx hb dL_law_474 (by decide) (fun c474 => ?_) (fun c474 => absurd (show ¬ 0 ≤ B from fun z9 => c474 ((nI_leI (a := 0) (b := B) (by omega) (by omega)).mpr z9)) (by omega))
          have c474 : 0 ≤ B := (nI_leI (a := 0) (b := B) (by omega) (by omega)).mp c474
          refine lv_aload_n hx hb dL_law_490 rfl (lv_at hl 2 rfl) ?_
          refine lv_iload hx hb dL_law_491 (lv_at hl 10 rfl) ?_
          refine lv_iload hx hb dL_law_493 (lv_at hl 11 rfl) ?_
          refine lv_iconst (v := 2) hx hb dL_law_495 (by decide) ?_
          refine h_callV (rest := []) X Y (c_used l G Mz10 S h hQv k y 2 (by omega) (by omega) (by decide)) gw_L_164 dsc_X11_used ho0 rfl rfl rfl hl.1 rfl (Nat.le_of_ble_eq_true rfl) ⟨Nat.le_of_ble_eq_true rfl, Nat.le_of_ble_eq_true rfl⟩ ⟨(by show _ ≤ 600086; first | omega | (dsimp only [hRm]; omega)), (by show _ ≤ 7301442; first | omega | (dsimp only [hRm]; omega))⟩ dL_law_496 ?_
          rintro _ Mz11 H locs ⟨rfl, hs9⟩ Y
          have hQv := hQv.sim hs9
          have ho0 := hQv.2.2.1.1
          try dsimp only [Option.toList, List.singleton_append]
          refine h_ev (y := nI v) ev ?_
          refine lv_if_lt (tgt := 516) hx hb dL_law_499 (by decide) (fun c499 => absurd (show v < 0 from (nI_ltI (a := v) (b := 0) (by omega) (by omega)).mp c499) (by omega)) (fun c499 => ?_)
          have c499 : ¬ v < 0 := fun z9 => c499 ((nI_ltI (a := v) (b := 0) (by omega) (by omega)).mpr z9)
          refine lv_aload_n hx hb dL_law_502 rfl (lv_at hl 2 rfl) ?_
          refine lv_iload hx hb dL_law_503 (lv_at hl 10 rfl) ?_
          refine lv_iload hx hb dL_law_505 (lv_at hl 11 rfl) ?_
          refine lv_iconst (v := 3) hx hb dL_law_507 (by decide) ?_
          refine h_callV (rest := []) X Y (c_used l G Mz11 S h hQv k y 3 (by omega) (by omega) (by decide)) gw_L_164 dsc_X11_used ho0 rfl rfl rfl hl.1 rfl (Nat.le_of_ble_eq_true rfl) ⟨Nat.le_of_ble_eq_true rfl, Nat.le_of_ble_eq_true rfl⟩ ⟨(by show _ ≤ 600086; first | omega | (dsimp only [hRm]; omega)), (by show _ ≤ 7301442; first | omega | (dsimp only [hRm]; omega))⟩ dL_law_508 ?_
          rintro _ Mz12 H locs ⟨rfl, hs9⟩ Y
          have hQv := hQv.sim hs9
          have ho0 := hQv.2.2.1.1
          try dsimp only [Option.toList, List.singleton_append]
          refine h_ev (y := nI rc) hrc ?_
          refine lv_iload hx hb dL_law_511 (lv_at hl 5 rfl) ?_
          refine lv_icmp_le (tgt := 518) hx hb dL_law_513 (by decide) (fun c513 => ?_) (fun c513 => absurd (show ¬ rc ≤ (sM S) from fun z9 => c513 ((nI_leI (a := rc) (b := (sM S)) (by omega) (by omega)).mpr z9)) (by omega))
          have c513 : rc ≤ (sM S) := (nI_leI (a := rc) (b := (sM S)) (by omega) (by omega)).mp c513
          refine lv_iinc (v := nI (y + 1)) (lv' := [(13, .int (nI (y + 1))), (14, .int (nI B)), (0, .ref G.2.1), (1, .ref (sA S 0)), (2, .ref tt), (3, .ref bb), (4, .int (nI (sM S))), (5, .int (nI (hNow h))), (6, .long sm), (8, .long al), (10, .long (lN I9)), (12, .int (nI k))]) hx hb dL_law_518 hl (k := 11) rfl (nI_1 y) (by decide) rfl (fun ls hl => ?_)
          refine lv_goto (tgt := 399) hx hb dL_law_521 (by decide) ?_
          exact W.wid (by first | omega | (dsimp only [hRm]; omega) | (simp [hRm]; omega)) (by first | omega | (dsimp only [hRm]; omega) | (simp [hRm]; omega)) (ih (y + 1) (by omega) (by omega) Mz12 hQv _ _ _ Y (lv_sub hl [2, 3, 4, 5, 6, 7, 8, 9, 10, 11, 0] rfl))
  exact W.wid (by first | omega | (dsimp only [hRm]; omega) | (simp [hRm]; omega)) (by first | omega | (dsimp only [hRm]; omega) | (simp [hRm]; omega)) (loop (hNow h + 2) 0 (by omega) (by omega) M hQv _ _ _ Y (lv_sub hl [1, 2, 3, 4, 5, 6, 7, 8, 9, 10, 0] rfl))
