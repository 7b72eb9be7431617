-- THE PLAY: A YEAR ENDS, WHAT IS WRITTEN DOWN, THE LOOP
theorem gw_L_126 : GoodIn hGW (wsV RL 126 RX11 yX11_nextYear (Cond.code yX11_nextYear cX11_nextYear 2 (Option.some FieldType.int) :: hGW)) := hgi4 kml_L_126 kin_X11_nextYear kse_X11_X11_nextYear_X11_nextYear kini_X11 kco_X11_nextYear
theorem dsc_X11_nextYear : yX11_nextYear.cls = RX11 ∧ yX11_nextYear.cls ≠ "java/lang/invoke/MethodHandle" ∧ yX11_nextYear.cls ≠ "java/lang/invoke/VarHandle" ∧ (parseMethodDescriptor yX11_nextYear.desc).map (fun d => d.parameters.length) = some 0 := ⟨rfl, by decide +kernel, by decide +kernel, by decide +kernel⟩
theorem dL_play_540 : decode cL_play 540 = .ok (.iload 6, 2) := by decide +kernel
theorem dL_play_542 : decode cL_play 542 = .ok (.bipush 9, 2) := by decide +kernel
theorem dL_play_544 : decode cL_play 544 = .ok (.if_icmp .ne 6, 3) := by decide +kernel
theorem dL_play_547 : decode cL_play 547 = .ok (.goto 100, 3) := by decide +kernel
theorem dL_play_550 : decode cL_play 550 = .ok (.iconst 0, 1) := by decide +kernel
theorem dL_play_551 : decode cL_play 551 = .ok (.istore 8, 2) := by decide +kernel
theorem dL_play_553 : decode cL_play 553 = .ok (.iload 8, 2) := by decide +kernel
theorem dL_play_555 : decode cL_play 555 = .ok (.iload 5, 2) := by decide +kernel
theorem dL_play_557 : decode cL_play 557 = .ok (.if_icmp .ge 67, 3) := by decide +kernel
theorem dL_play_560 : decode cL_play 560 = .ok (.sipush 200, 3) := by decide +kernel
theorem dL_play_563 : decode cL_play 563 = .ok (.bipush 20, 2) := by decide +kernel
theorem dL_play_565 : decode cL_play 565 = .ok (.iload 8, 2) := by decide +kernel
theorem dL_play_567 : decode cL_play 567 = .ok (.imul, 1) := by decide +kernel
theorem dL_play_568 : decode cL_play 568 = .ok (.iadd, 1) := by decide +kernel
theorem dL_play_569 : decode cL_play 569 = .ok (.iconst 2, 1) := by decide +kernel
theorem dL_play_570 : decode cL_play 570 = .ok (.iload 6, 2) := by decide +kernel
theorem dL_play_572 : decode cL_play 572 = .ok (.aload_n 2, 1) := by decide +kernel
theorem dL_play_573 : decode cL_play 573 = .ok (.iconst 5, 1) := by decide +kernel
theorem dL_play_574 : decode cL_play 574 = .ok (.iload 8, 2) := by decide +kernel
theorem dL_play_576 : decode cL_play 576 = .ok (.imul, 1) := by decide +kernel
theorem dL_play_577 : decode cL_play 577 = .ok (.iaload, 1) := by decide +kernel
theorem dL_play_578 : decode cL_play 578 = .ok (.isub, 1) := by decide +kernel
theorem dL_play_579 : decode cL_play 579 = .ok (.imul, 1) := by decide +kernel
theorem dL_play_580 : decode cL_play 580 = .ok (.iadd, 1) := by decide +kernel
theorem dL_play_581 : decode cL_play 581 = .ok (.istore 9, 2) := by decide +kernel
theorem dL_play_583 : decode cL_play 583 = .ok (.aload_n 2, 1) := by decide +kernel
theorem dL_play_584 : decode cL_play 584 = .ok (.iload 9, 2) := by decide +kernel
theorem dL_play_586 : decode cL_play 586 = .ok (.aload_n 2, 1) := by decide +kernel
theorem dL_play_587 : decode cL_play 587 = .ok (.iconst 5, 1) := by decide +kernel
theorem dL_play_588 : decode cL_play 588 = .ok (.iload 8, 2) := by decide +kernel
theorem dL_play_590 : decode cL_play 590 = .ok (.imul, 1) := by decide +kernel
theorem dL_play_591 : decode cL_play 591 = .ok (.iconst 2, 1) := by decide +kernel
theorem dL_play_592 : decode cL_play 592 = .ok (.iadd, 1) := by decide +kernel
theorem dL_play_593 : decode cL_play 593 = .ok (.iaload, 1) := by decide +kernel
theorem dL_play_594 : decode cL_play 594 = .ok (.iastore, 1) := by decide +kernel
theorem dL_play_595 : decode cL_play 595 = .ok (.aload_n 2, 1) := by decide +kernel
theorem dL_play_596 : decode cL_play 596 = .ok (.iload 9, 2) := by decide +kernel
theorem dL_play_598 : decode cL_play 598 = .ok (.iconst 1, 1) := by decide +kernel
theorem dL_play_599 : decode cL_play 599 = .ok (.iadd, 1) := by decide +kernel
theorem dL_play_600 : decode cL_play 600 = .ok (.aload_n 2, 1) := by decide +kernel
theorem dL_play_601 : decode cL_play 601 = .ok (.iconst 5, 1) := by decide +kernel
theorem dL_play_602 : decode cL_play 602 = .ok (.iload 8, 2) := by decide +kernel
theorem dL_play_604 : decode cL_play 604 = .ok (.imul, 1) := by decide +kernel
theorem dL_play_605 : decode cL_play 605 = .ok (.iconst 2, 1) := by decide +kernel
theorem dL_play_606 : decode cL_play 606 = .ok (.iadd, 1) := by decide +kernel
theorem dL_play_607 : decode cL_play 607 = .ok (.iaload, 1) := by decide +kernel
theorem dL_play_608 : decode cL_play 608 = .ok (.aload_n 2, 1) := by decide +kernel
theorem dL_play_609 : decode cL_play 609 = .ok (.iconst 5, 1) := by decide +kernel
theorem dL_play_610 : decode cL_play 610 = .ok (.iload 8, 2) := by decide +kernel
theorem dL_play_612 : decode cL_play 612 = .ok (.imul, 1) := by decide +kernel
theorem dL_play_613 : decode cL_play 613 = .ok (.iconst 3, 1) := by decide +kernel
theorem dL_play_614 : decode cL_play 614 = .ok (.iadd, 1) := by decide +kernel
theorem dL_play_615 : decode cL_play 615 = .ok (.iaload, 1) := by decide +kernel
theorem dL_play_616 : decode cL_play 616 = .ok (.iadd, 1) := by decide +kernel
theorem dL_play_617 : decode cL_play 617 = .ok (.iastore, 1) := by decide +kernel
theorem dL_play_618 : decode cL_play 618 = .ok (.iinc 8 1, 3) := by decide +kernel
theorem dL_play_621 : decode cL_play 621 = .ok (.goto (-68), 3) := by decide +kernel
theorem dL_play_624 : decode cL_play 624 = .ok (.aload_n 2, 1) := by decide +kernel
theorem dL_play_625 : decode cL_play 625 = .ok (.sipush 1001, 3) := by decide +kernel
theorem dL_play_628 : decode cL_play 628 = .ok (.dup2, 1) := by decide +kernel
theorem dL_play_629 : decode cL_play 629 = .ok (.iaload, 1) := by decide +kernel
theorem dL_play_630 : decode cL_play 630 = .ok (.iconst 1, 1) := by decide +kernel
theorem dL_play_631 : decode cL_play 631 = .ok (.iadd, 1) := by decide +kernel
theorem dL_play_632 : decode cL_play 632 = .ok (.iastore, 1) := by decide +kernel
theorem dL_play_633 : decode cL_play 633 = .ok (.aload_n 0, 1) := by decide +kernel
theorem dL_play_634 : decode cL_play 634 = .ok (.invokevirtual 126, 3) := by decide +kernel
theorem dL_play_637 : decode cL_play 637 = .ok (.aload_n 2, 1) := by decide +kernel
theorem dL_play_638 : decode cL_play 638 = .ok (.sipush 1001, 3) := by decide +kernel
theorem dL_play_641 : decode cL_play 641 = .ok (.iaload, 1) := by decide +kernel
theorem dL_play_642 : decode cL_play 642 = .ok (.if_icmp .eq 5, 3) := by decide +kernel
set_option maxHeartbeats 400000 in
set_option maxRecDepth 100000 in
theorem play_year (l : Launch) (G : hG) (p : Program) (e : Env) (s : State) (m : MethodId) (args : Array Value) (below : List Frame) (meth : Method) (c : Code) (M : hM) (H : Heap) (locs : List Loc) (ls : Array Slot) (cells slots : Nat) (Q : State → Prop) (hcs : cells + 5 ≤ 400) (hss : slots + 92 ≤ 8000) (X : hCX G p s m args meth c cL_play 12 (Option.some (FieldType.array FieldType.int)) RL "play") (Y : hHS G M s H locs) (S0 S : hSy) (h0 h : hHo) (b a0 i : Nat) (f : Nat → Int32) (ha0 : sA S 0 = a0) (I : PlI G M S0 h0 S h b f) (ci : Nat) (vv : Int32) (hl : lv_has ls 12 [(7, .int (nI ci)), (6, .int (nI (hNow h))), (5, .int (nI (sM S))), (4, .int vv), (3, .int (nI i)), (2, .ref b), (0, .ref (a0)), (1, .ref G.2.1)]) (kk : ∀ (M' : hM) (H : Heap) (locs : List Loc) (ls : Array Slot) (S' : hSy) (h' : hHo) (f' : Nat → Int32), hHS G M' s H locs → lv_has ls 12 [(0, .ref a0), (1, .ref G.2.1), (2, .ref b), (3, .int (nI i))] → PlI G M' S0 h0 S' h' b f' → W p l e (hRm 12 400 8000) s m args below meth c H locs (cells + 5) (slots + 92) Q (F0 m 647 ls [])) : W p l e (hRm 12 400 8000) s m args below meth c H locs cells slots Q (F0 m 540 ls []) := by
  subst ha0
  have hx := X.1
  have hb := X.2.1
  obtain ⟨hPv, hbr, ⟨hB0, hB1, hBr⟩, hCI, hSe, hhe⟩ := id I
  have h40 : sM S ≤ 40 := hPv.1.2.1.2.1
  have hn10 : hNow h < 10 := hPv.1.2.2.2.2.2.1
  have ho0 := hPv.1.2.2.1.1
  refine lv_iload hx hb dL_play_540 (lv_at hl 1 rfl) ?_
  refine lv_bipush (v := 9) hx hb dL_play_542 (by decide) ?_
  refine lv_icmp_ne (tgt := 550) hx hb dL_play_544 (by decide) (fun c544 => ?_) (fun c544 => ?_)
  · have c544 : ¬ (hNow h) = 9 := fun z9 => c544 ((nI_eq (a := (hNow h)) (b := 9) (by omega) (by omega)).mpr z9)
    refine lv_iconst (v := 0) hx hb dL_play_550 (by decide) ?_
    refine lv_istore (lv' := [(8, .int 0), (7, .int (nI ci)), (6, .int (nI (hNow h))), (5, .int (nI (sM S))), (4, .int vv), (3, .int (nI i)), (2, .ref b), (0, .ref (sA S 0)), (1, .ref G.2.1)]) hx hb dL_play_551 hl (by decide) rfl (fun ls hl => ?_)
    have loop : ∀ (d k : Nat), k + d = sM S + 1 → k ≤ sM S → ∀ (M1 : hM) (g : Nat → Int32), M1 b = some (4800, .inl (hT G 0, 1002, .inl g)) → hFr (fun u => 4000 ≤ u) M M1 → (∀ j, (j < 200 ∨ 1000 ≤ j) → g j = f j) → ∀ (H : Heap) (locs : List Loc) (ls : Array Slot), hHS G M1 s H locs → lv_has ls 12 [(0, .ref (sA S 0)), (1, .ref G.2.1), (2, .ref b), (3, .int (nI i)), (8, .int (nI k)), (5, .int (nI (sM S))), (6, .int (nI (hNow h)))] → W p l e (hRm 12 400 8000) s m args below meth c H locs cells slots Q (F0 m 553 ls []) := by
      intro d
      induction d with
      | zero => intro k h1; intros; exact absurd h1 (by omega)
      | succ d ih =>
        intro k h1 h2 M1 g tb hfr hg H locs ls Y hl
        refine lv_iload hx hb dL_play_553 (lv_at hl 4 rfl) ?_
        refine lv_iload hx hb dL_play_555 (lv_at hl 5 rfl) ?_
        refine lv_icmp_ge (tgt := 624) hx hb dL_play_557 (by decide) (fun c557 => ?_) (fun c557 => ?_)
        · have c557 : (sM S) ≤ k := (nI_leI (a := (sM S)) (b := k) (by omega) (by omega)).mp c557
          have hk9 : k = sM S := by omega
          refine lv_aload_n hx hb dL_play_624 rfl (lv_at hl 2 rfl) ?_
          refine lv_sipush (v := 1001) hx hb dL_play_625 (by decide) ?_
          refine lv_dup2_11 hx hb dL_play_628 rfl rfl ?_
          refine h_iald X Y (i := 1001) tb (by omega) (by decide) dL_play_629 ?_
          refine h_ev (y := nI (hNow h)) ((hg 1001 (by omega)).trans hB1) ?_
          refine lv_iconst (v := 1) hx hb dL_play_630 (by decide) ?_
          refine lv_iadd hx hb dL_play_631 ?_
          refine h_ev (y := nI ((hNow h) + 1)) (nI_1 (hNow h)) ?_
          refine h_iast X Y (i := 1001) tb (by omega) (by decide) dL_play_632 (fun H locs Y => ?_)
          have hfr := hfr.put (x := (4800, .inl (hT G 0, 1002, .inl (upd g 1001 (nI ((hNow h) + 1)))))) tb (by decide)
          have tb : hup M1 b (4800, .inl (hT G 0, 1002, .inl (upd g 1001 (nI ((hNow h) + 1))))) b = some (4800, .inl (hT G 0, 1002, .inl (upd g 1001 (nI ((hNow h) + 1))))) := hup_eq
          generalize hup M1 b (4800, .inl (hT G 0, 1002, .inl (upd g 1001 (nI ((hNow h) + 1))))) = Mz1 at Y tb hfr
          refine lv_aload_n hx hb dL_play_633 rfl (lv_at hl 0 rfl) ?_
          have ho0 := hfr _ _ _ ho0 (by decide)
          refine h_callV (rest := []) X Y (c_nextYear2 l G Mz1 S h (PV.fr9 hfr (fun u z => z) hPv) (by omega)) gw_L_126 dsc_X11_nextYear ho0 rfl rfl rfl hl.1 rfl (Nat.le_of_ble_eq_true rfl) ⟨Nat.le_of_ble_eq_true rfl, Nat.le_of_ble_eq_true rfl⟩ ⟨(by show _ ≤ 400; first | omega | (dsimp only [hRm]; omega)), (by show _ ≤ 8000; first | omega | (dsimp only [hRm]; omega))⟩ dL_play_634 ?_
          rintro _ M2 H locs ⟨rfl, hPv2, hfz⟩ Y
          try dsimp only [Option.toList, List.singleton_append]
          have tb := hfz _ _ _ tb (by unfold hZp; omega)
          refine lv_aload_n hx hb dL_play_637 rfl (lv_at hl 2 rfl) ?_
          refine lv_sipush (v := 1001) hx hb dL_play_638 (by decide) ?_
          refine h_iald X Y (i := 1001) tb (by omega) (by decide) dL_play_641 ?_
          refine h_ev (y := nI (hNow h + 1)) pk_us ?_
          refine lv_icmp_eq (tgt := 647) hx hb dL_play_642 (by decide) (fun c642 => ?_) (fun c642 => absurd (show ¬ (hNow h + 1) = (hNow h + 1) from fun z9 => c642 ((nI_eq (a := (hNow h + 1)) (b := (hNow h + 1)) (by omega) (by omega)).mpr z9)) (by omega))
          have c642 : (hNow h + 1) = (hNow h + 1) := (nI_eq (a := (hNow h + 1)) (b := (hNow h + 1)) (by omega) (by omega)).mp c642
          exact W.wid (by first | omega | (dsimp only [hRm]; omega) | (simp [hRm]; omega)) (by first | omega | (dsimp only [hRm]; omega) | (simp [hRm]; omega)) (kk _ _ _ _ _ _ _ Y (lv_sub hl [0, 1, 2, 3] rfl) (PlI.year I hPv2 tb (fun j hj => by rw [pk_un (by omega)]; exact hg j (by omega)) pk_us))
        · have c557 : ¬ (sM S) ≤ k := fun z9 => c557 ((nI_leI (a := (sM S)) (b := k) (by omega) (by omega)).mpr z9)
          have hyk : clY (sC S k) ≤ hNow h := hPv.1.2.2.2.2.2.2 k (by omega)
          have hgk : g (5 * k) = nI (clY (sC S k)) := (hg _ (by omega)).trans (hBr k (by omega)).1
          refine lv_sipush (v := 200) hx hb dL_play_560 (by decide) ?_
          refine lv_bipush (v := 20) hx hb dL_play_563 (by decide) ?_
          refine lv_iload hx hb dL_play_565 (lv_at hl 4 rfl) ?_
          refine lv_imul hx hb dL_play_567 ?_
          refine h_ev (y := nI (20 * k)) (pk_mul 20 k) ?_
          refine lv_iadd hx hb dL_play_568 ?_
          refine h_ev (y := nI (200 + (20 * k))) (nI_add 200 (20 * k)) ?_
          refine lv_iconst (v := 2) hx hb dL_play_569 (by decide) ?_
          refine lv_iload hx hb dL_play_570 (lv_at hl 6 rfl) ?_
          refine lv_aload_n hx hb dL_play_572 rfl (lv_at hl 2 rfl) ?_
          refine lv_iconst (v := 5) hx hb dL_play_573 (by decide) ?_
          refine lv_iload hx hb dL_play_574 (lv_at hl 4 rfl) ?_
          refine lv_imul hx hb dL_play_576 ?_
          refine h_ev (y := nI (5 * k)) (pk_mul 5 k) ?_
          refine h_iald X Y (i := (5 * k)) tb (by omega) (by decide) dL_play_577 ?_
          refine h_ev (y := nI (clY (sC S k))) hgk ?_
          refine lv_isub hx hb dL_play_578 ?_
          refine h_ev (y := nI (hNow h - clY (sC S k))) (pk_sub hyk) ?_
          refine lv_imul hx hb dL_play_579 ?_
          refine h_ev (y := nI (2 * (hNow h - clY (sC S k)))) (pk_mul 2 (hNow h - clY (sC S k))) ?_
          refine lv_iadd hx hb dL_play_580 ?_
          refine h_ev (y := nI ((200 + (20 * k)) + (2 * (hNow h - clY (sC S k))))) (nI_add (200 + (20 * k)) (2 * (hNow h - clY (sC S k)))) ?_
          refine lv_istore (lv' := [(9, .int (nI ((200 + (20 * k)) + (2 * (hNow h - clY (sC S k)))))), (0, .ref (sA S 0)), (1, .ref G.2.1), (2, .ref b), (3, .int (nI i)), (8, .int (nI k)), (5, .int (nI (sM S))), (6, .int (nI (hNow h)))]) hx hb dL_play_581 hl (by decide) rfl (fun ls hl => ?_)
          refine lv_aload_n hx hb dL_play_583 rfl (lv_at hl 3 rfl) ?_
          refine lv_iload hx hb dL_play_584 (lv_at hl 0 rfl) ?_
          refine lv_aload_n hx hb dL_play_586 rfl (lv_at hl 3 rfl) ?_
          refine lv_iconst (v := 5) hx hb dL_play_587 (by decide) ?_
          refine lv_iload hx hb dL_play_588 (lv_at hl 5 rfl) ?_
          refine lv_imul hx hb dL_play_590 ?_
          refine h_ev (y := nI (5 * k)) (pk_mul 5 k) ?_
          refine lv_iconst (v := 2) hx hb dL_play_591 (by decide) ?_
          refine lv_iadd hx hb dL_play_592 ?_
          refine h_ev (y := nI ((5 * k) + 2)) (nI_add (5 * k) 2) ?_
          refine h_iald X Y (i := ((5 * k) + 2)) tb (by omega) (by decide) dL_play_593 ?_
          refine h_iast X Y (i := ((200 + (20 * k)) + (2 * (hNow h - clY (sC S k))))) tb (by omega) (by decide) dL_play_594 (fun H locs Y => ?_)
          have hfr := hfr.put (x := (4800, .inl (hT G 0, 1002, .inl (upd g ((200 + (20 * k)) + (2 * (hNow h - clY (sC S k)))) (g ((5 * k) + 2)))))) tb (by decide)
          have tb : hup M1 b (4800, .inl (hT G 0, 1002, .inl (upd g ((200 + (20 * k)) + (2 * (hNow h - clY (sC S k)))) (g ((5 * k) + 2))))) b = some (4800, .inl (hT G 0, 1002, .inl (upd g ((200 + (20 * k)) + (2 * (hNow h - clY (sC S k)))) (g ((5 * k) + 2))))) := hup_eq
          generalize hup M1 b (4800, .inl (hT G 0, 1002, .inl (upd g ((200 + (20 * k)) + (2 * (hNow h - clY (sC S k)))) (g ((5 * k) + 2))))) = Mz2 at Y tb hfr
          refine lv_aload_n hx hb dL_play_595 rfl (lv_at hl 3 rfl) ?_
          refine lv_iload hx hb dL_play_596 (lv_at hl 0 rfl) ?_
          refine lv_iconst (v := 1) hx hb dL_play_598 (by decide) ?_
          refine lv_iadd hx hb dL_play_599 ?_
          refine h_ev (y := nI (((200 + (20 * k)) + (2 * (hNow h - clY (sC S k)))) + 1)) (nI_1 ((200 + (20 * k)) + (2 * (hNow h - clY (sC S k))))) ?_
          refine lv_aload_n hx hb dL_play_600 rfl (lv_at hl 3 rfl) ?_
          refine lv_iconst (v := 5) hx hb dL_play_601 (by decide) ?_
          refine lv_iload hx hb dL_play_602 (lv_at hl 5 rfl) ?_
          refine lv_imul hx hb dL_play_604 ?_
          refine h_ev (y := nI (5 * k)) (pk_mul 5 k) ?_
          refine lv_iconst (v := 2) hx hb dL_play_605 (by decide) ?_
          refine lv_iadd hx hb dL_play_606 ?_
          refine h_ev (y := nI ((5 * k) + 2)) (nI_add (5 * k) 2) ?_
          refine h_iald X Y (i := ((5 * k) + 2)) tb (by omega) (by decide) dL_play_607 ?_
          refine lv_aload_n hx hb dL_play_608 rfl (lv_at hl 3 rfl) ?_
          refine lv_iconst (v := 5) hx hb dL_play_609 (by decide) ?_
          refine lv_iload hx hb dL_play_610 (lv_at hl 5 rfl) ?_
          refine lv_imul hx hb dL_play_612 ?_
          refine h_ev (y := nI (5 * k)) (pk_mul 5 k) ?_
          refine lv_iconst (v := 3) hx hb dL_play_613 (by decide) ?_
          refine lv_iadd hx hb dL_play_614 ?_
          refine h_ev (y := nI ((5 * k) + 3)) (nI_add (5 * k) 3) ?_
          refine h_iald X Y (i := ((5 * k) + 3)) tb (by omega) (by decide) dL_play_615 ?_
          refine lv_iadd hx hb dL_play_616 ?_
          refine h_iast X Y (i := (((200 + (20 * k)) + (2 * (hNow h - clY (sC S k)))) + 1)) tb (by omega) (by decide) dL_play_617 (fun H locs Y => ?_)
          have hfr := hfr.put (x := (4800, .inl (hT G 0, 1002, .inl (upd (upd g ((200 + (20 * k)) + (2 * (hNow h - clY (sC S k)))) (g ((5 * k) + 2))) (((200 + (20 * k)) + (2 * (hNow h - clY (sC S k)))) + 1) (((upd g ((200 + (20 * k)) + (2 * (hNow h - clY (sC S k)))) (g ((5 * k) + 2))) ((5 * k) + 2)) + ((upd g ((200 + (20 * k)) + (2 * (hNow h - clY (sC S k)))) (g ((5 * k) + 2))) ((5 * k) + 3))))))) tb (by decide)
          have tb : hup Mz2 b (4800, .inl (hT G 0, 1002, .inl (upd (upd g ((200 + (20 * k)) + (2 * (hNow h - clY (sC S k)))) (g ((5 * k) + 2))) (((200 + (20 * k)) + (2 * (hNow h - clY (sC S k)))) + 1) (((upd g ((200 + (20 * k)) + (2 * (hNow h - clY (sC S k)))) (g ((5 * k) + 2))) ((5 * k) + 2)) + ((upd g ((200 + (20 * k)) + (2 * (hNow h - clY (sC S k)))) (g ((5 * k) + 2))) ((5 * k) + 3)))))) b = some (4800, .inl (hT G 0, 1002, .inl (upd (upd g ((200 + (20 * k)) + (2 * (hNow h - clY (sC S k)))) (g ((5 * k) + 2))) (((200 + (20 * k)) + (2 * (hNow h - clY (sC S k)))) + 1) (((upd g ((200 + (20 * k)) + (2 * (hNow h - clY (sC S k)))) (g ((5 * k) + 2))) ((5 * k) + 2)) + ((upd g ((200 + (20 * k)) + (2 * (hNow h - clY (sC S k)))) (g ((5 * k) + 2))) ((5 * k) + 3)))))) := hup_eq
          generalize hup Mz2 b (4800, .inl (hT G 0, 1002, .inl (upd (upd g ((200 + (20 * k)) + (2 * (hNow h - clY (sC S k)))) (g ((5 * k) + 2))) (((200 + (20 * k)) + (2 * (hNow h - clY (sC S k)))) + 1) (((upd g ((200 + (20 * k)) + (2 * (hNow h - clY (sC S k)))) (g ((5 * k) + 2))) ((5 * k) + 2)) + ((upd g ((200 + (20 * k)) + (2 * (hNow h - clY (sC S k)))) (g ((5 * k) + 2))) ((5 * k) + 3)))))) = Mz3 at Y tb hfr
          refine lv_iinc (v := nI (k + 1)) (lv' := [(8, .int (nI (k + 1))), (9, .int (nI ((200 + (20 * k)) + (2 * (hNow h - clY (sC S k)))))), (0, .ref (sA S 0)), (1, .ref G.2.1), (2, .ref b), (3, .int (nI i)), (5, .int (nI (sM S))), (6, .int (nI (hNow h)))]) hx hb dL_play_618 hl (k := 5) rfl (nI_1 k) (by decide) rfl (fun ls hl => ?_)
          refine lv_goto (tgt := 553) hx hb dL_play_621 (by decide) ?_
          exact ih (k + 1) (by omega) (by omega) Mz3 _ tb hfr (fun j hj => by rw [pk_un (by omega), pk_un (by omega)]; exact hg j hj) _ _ _ Y (lv_sub hl [2, 3, 4, 5, 0, 6, 7] rfl)
    exact loop (sM S + 1) 0 (by omega) (by omega) M f hbr hFr.rf (fun _ _ => rfl) _ _ _ Y (lv_sub hl [7, 8, 6, 5, 0, 3, 2] rfl)
  · have c544 : (hNow h) = 9 := (nI_eq (a := (hNow h)) (b := 9) (by omega) (by omega)).mp c544
    refine lv_goto (tgt := 647) hx hb dL_play_547 (by decide) ?_
    exact W.wid (by first | omega | (dsimp only [hRm]; omega) | (simp [hRm]; omega)) (by first | omega | (dsimp only [hRm]; omega) | (simp [hRm]; omega)) (kk _ _ _ _ _ _ _ Y (lv_sub hl [6, 7, 5, 4] rfl) I)
theorem dL_play_647 : decode cL_play 647 = .ok (.iconst 0, 1) := by decide +kernel
theorem dL_play_648 : decode cL_play 648 = .ok (.istore 8, 2) := by decide +kernel
theorem dL_play_650 : decode cL_play 650 = .ok (.iload 8, 2) := by decide +kernel
theorem dL_play_652 : decode cL_play 652 = .ok (.aload_n 2, 1) := by decide +kernel
theorem dL_play_653 : decode cL_play 653 = .ok (.sipush 1000, 3) := by decide +kernel
theorem dL_play_656 : decode cL_play 656 = .ok (.iaload, 1) := by decide +kernel
theorem dL_play_657 : decode cL_play 657 = .ok (.if_icmp .ge 70, 3) := by decide +kernel
theorem dL_play_660 : decode cL_play 660 = .ok (.sipush 200, 3) := by decide +kernel
theorem dL_play_663 : decode cL_play 663 = .ok (.bipush 20, 2) := by decide +kernel
theorem dL_play_665 : decode cL_play 665 = .ok (.iload 8, 2) := by decide +kernel
theorem dL_play_667 : decode cL_play 667 = .ok (.imul, 1) := by decide +kernel
theorem dL_play_668 : decode cL_play 668 = .ok (.iadd, 1) := by decide +kernel
theorem dL_play_669 : decode cL_play 669 = .ok (.iconst 2, 1) := by decide +kernel
theorem dL_play_670 : decode cL_play 670 = .ok (.aload_n 2, 1) := by decide +kernel
theorem dL_play_671 : decode cL_play 671 = .ok (.sipush 1001, 3) := by decide +kernel
theorem dL_play_674 : decode cL_play 674 = .ok (.iaload, 1) := by decide +kernel
theorem dL_play_675 : decode cL_play 675 = .ok (.aload_n 2, 1) := by decide +kernel
theorem dL_play_676 : decode cL_play 676 = .ok (.iconst 5, 1) := by decide +kernel
theorem dL_play_677 : decode cL_play 677 = .ok (.iload 8, 2) := by decide +kernel
theorem dL_play_679 : decode cL_play 679 = .ok (.imul, 1) := by decide +kernel
theorem dL_play_680 : decode cL_play 680 = .ok (.iaload, 1) := by decide +kernel
theorem dL_play_681 : decode cL_play 681 = .ok (.isub, 1) := by decide +kernel
theorem dL_play_682 : decode cL_play 682 = .ok (.imul, 1) := by decide +kernel
theorem dL_play_683 : decode cL_play 683 = .ok (.iadd, 1) := by decide +kernel
theorem dL_play_684 : decode cL_play 684 = .ok (.istore 9, 2) := by decide +kernel
theorem dL_play_686 : decode cL_play 686 = .ok (.aload_n 2, 1) := by decide +kernel
theorem dL_play_687 : decode cL_play 687 = .ok (.iload 9, 2) := by decide +kernel
theorem dL_play_689 : decode cL_play 689 = .ok (.aload_n 2, 1) := by decide +kernel
theorem dL_play_690 : decode cL_play 690 = .ok (.iconst 5, 1) := by decide +kernel
theorem dL_play_691 : decode cL_play 691 = .ok (.iload 8, 2) := by decide +kernel
theorem dL_play_693 : decode cL_play 693 = .ok (.imul, 1) := by decide +kernel
theorem dL_play_694 : decode cL_play 694 = .ok (.iconst 2, 1) := by decide +kernel
theorem dL_play_695 : decode cL_play 695 = .ok (.iadd, 1) := by decide +kernel
theorem dL_play_696 : decode cL_play 696 = .ok (.iaload, 1) := by decide +kernel
theorem dL_play_697 : decode cL_play 697 = .ok (.iastore, 1) := by decide +kernel
theorem dL_play_698 : decode cL_play 698 = .ok (.aload_n 2, 1) := by decide +kernel
theorem dL_play_699 : decode cL_play 699 = .ok (.iload 9, 2) := by decide +kernel
theorem dL_play_701 : decode cL_play 701 = .ok (.iconst 1, 1) := by decide +kernel
theorem dL_play_702 : decode cL_play 702 = .ok (.iadd, 1) := by decide +kernel
theorem dL_play_703 : decode cL_play 703 = .ok (.aload_n 2, 1) := by decide +kernel
theorem dL_play_704 : decode cL_play 704 = .ok (.iconst 5, 1) := by decide +kernel
theorem dL_play_705 : decode cL_play 705 = .ok (.iload 8, 2) := by decide +kernel
theorem dL_play_707 : decode cL_play 707 = .ok (.imul, 1) := by decide +kernel
theorem dL_play_708 : decode cL_play 708 = .ok (.iconst 2, 1) := by decide +kernel
theorem dL_play_709 : decode cL_play 709 = .ok (.iadd, 1) := by decide +kernel
theorem dL_play_710 : decode cL_play 710 = .ok (.iaload, 1) := by decide +kernel
theorem dL_play_711 : decode cL_play 711 = .ok (.aload_n 2, 1) := by decide +kernel
theorem dL_play_712 : decode cL_play 712 = .ok (.iconst 5, 1) := by decide +kernel
theorem dL_play_713 : decode cL_play 713 = .ok (.iload 8, 2) := by decide +kernel
theorem dL_play_715 : decode cL_play 715 = .ok (.imul, 1) := by decide +kernel
theorem dL_play_716 : decode cL_play 716 = .ok (.iconst 3, 1) := by decide +kernel
theorem dL_play_717 : decode cL_play 717 = .ok (.iadd, 1) := by decide +kernel
theorem dL_play_718 : decode cL_play 718 = .ok (.iaload, 1) := by decide +kernel
theorem dL_play_719 : decode cL_play 719 = .ok (.iadd, 1) := by decide +kernel
theorem dL_play_720 : decode cL_play 720 = .ok (.iastore, 1) := by decide +kernel
theorem dL_play_721 : decode cL_play 721 = .ok (.iinc 8 1, 3) := by decide +kernel
theorem dL_play_724 : decode cL_play 724 = .ok (.goto (-74), 3) := by decide +kernel
theorem dL_play_727 : decode cL_play 727 = .ok (.iinc 3 1, 3) := by decide +kernel
theorem dL_play_730 : decode cL_play 730 = .ok (.goto (-722), 3) := by decide +kernel
set_option maxHeartbeats 400000 in
set_option maxRecDepth 100000 in
theorem play_tail (l : Launch) (G : hG) (p : Program) (e : Env) (s : State) (m : MethodId) (args : Array Value) (below : List Frame) (meth : Method) (c : Code) (M : hM) (H : Heap) (locs : List Loc) (ls : Array Slot) (cells slots : Nat) (Q : State → Prop) (hcs : cells + 5 ≤ 400) (hss : slots + 92 ≤ 8000) (X : hCX G p s m args meth c cL_play 12 (Option.some (FieldType.array FieldType.int)) RL "play") (Y : hHS G M s H locs) (S0 S : hSy) (h0 h : hHo) (b a0 i : Nat) (f : Nat → Int32) (ha0 : sA S 0 = a0) (I : PlI G M S0 h0 S h b f) (hi : i < 1000) (hl : lv_has ls 12 [(0, .ref (a0)), (1, .ref G.2.1), (2, .ref b), (3, .int (nI i))]) (kk : ∀ (M' : hM) (H : Heap) (locs : List Loc) (ls : Array Slot) (S' : hSy) (h' : hHo) (f' : Nat → Int32), hHS G M' s H locs → lv_has ls 12 [(0, .ref a0), (1, .ref G.2.1), (2, .ref b), (3, .int (nI (i + 1)))] → PlI G M' S0 h0 S' h' b f' → W p l e (hRm 12 400 8000) s m args below meth c H locs cells slots Q (F0 m 8 ls [])) : W p l e (hRm 12 400 8000) s m args below meth c H locs cells slots Q (F0 m 647 ls []) := by
  subst ha0
  have hx := X.1
  have hb := X.2.1
  obtain ⟨hPv, hbr, ⟨hB0, hB1, hBr⟩, hCI, hSe, hhe⟩ := id I
  have h40 : sM S ≤ 40 := hPv.1.2.1.2.1
  have hn10 : hNow h < 10 := hPv.1.2.2.2.2.2.1
  have ho0 := hPv.1.2.2.1.1
  refine lv_iconst (v := 0) hx hb dL_play_647 (by decide) ?_
  refine lv_istore (lv' := [(8, .int 0), (0, .ref (sA S 0)), (1, .ref G.2.1), (2, .ref b), (3, .int (nI i))]) hx hb dL_play_648 hl (by decide) rfl (fun ls hl => ?_)
  have loop : ∀ (d k : Nat), k + d = sM S + 1 → k ≤ sM S → ∀ (M1 : hM) (g : Nat → Int32), M1 b = some (4800, .inl (hT G 0, 1002, .inl g)) → hFr (fun u => 4000 ≤ u) M M1 → (∀ j, (j < 200 ∨ 1000 ≤ j) → g j = f j) → ∀ (H : Heap) (locs : List Loc) (ls : Array Slot), hHS G M1 s H locs → lv_has ls 12 [(0, .ref (sA S 0)), (1, .ref G.2.1), (2, .ref b), (3, .int (nI i)), (8, .int (nI k))] → W p l e (hRm 12 400 8000) s m args below meth c H locs cells slots Q (F0 m 650 ls []) := by
    intro d
    induction d with
    | zero => intro k h1; intros; exact absurd h1 (by omega)
    | succ d ih =>
      intro k h1 h2 M1 g tb hfr hg H locs ls Y hl
      refine lv_iload hx hb dL_play_650 (lv_at hl 4 rfl) ?_
      refine lv_aload_n hx hb dL_play_652 rfl (lv_at hl 2 rfl) ?_
      refine lv_sipush (v := 1000) hx hb dL_play_653 (by decide) ?_
      refine h_iald X Y (i := 1000) tb (by omega) (by decide) dL_play_656 ?_
      refine h_ev (y := nI (sM S)) ((hg 1000 (by omega)).trans hB0) ?_
      refine lv_icmp_ge (tgt := 727) hx hb dL_play_657 (by decide) (fun c657 => ?_) (fun c657 => ?_)
      · have c657 : (sM S) ≤ k := (nI_leI (a := (sM S)) (b := k) (by omega) (by omega)).mp c657
        refine lv_iinc (v := nI (i + 1)) (lv' := [(3, .int (nI (i + 1))), (0, .ref (sA S 0)), (1, .ref G.2.1), (2, .ref b), (8, .int (nI k))]) hx hb dL_play_727 hl (k := 3) rfl (nI_1 i) (by decide) rfl (fun ls hl => ?_)
        refine lv_goto (tgt := 8) hx hb dL_play_730 (by decide) ?_
        exact kk _ _ _ _ _ _ _ Y (lv_sub hl [1, 2, 3, 0] rfl) (PlI.same I (PV.fr9 hfr (fun u z => z) hPv) tb hg)
      · have c657 : ¬ (sM S) ≤ k := fun z9 => c657 ((nI_leI (a := (sM S)) (b := k) (by omega) (by omega)).mpr z9)
        have hyk : clY (sC S k) ≤ hNow h := hPv.1.2.2.2.2.2.2 k (by omega)
        have hgk : g (5 * k) = nI (clY (sC S k)) := (hg _ (by omega)).trans (hBr k (by omega)).1
        refine lv_sipush (v := 200) hx hb dL_play_660 (by decide) ?_
        refine lv_bipush (v := 20) hx hb dL_play_663 (by decide) ?_
        refine lv_iload hx hb dL_play_665 (lv_at hl 4 rfl) ?_
        refine lv_imul hx hb dL_play_667 ?_
        refine h_ev (y := nI (20 * k)) (pk_mul 20 k) ?_
        refine lv_iadd hx hb dL_play_668 ?_
        refine h_ev (y := nI (200 + (20 * k))) (nI_add 200 (20 * k)) ?_
        refine lv_iconst (v := 2) hx hb dL_play_669 (by decide) ?_
        refine lv_aload_n hx hb dL_play_670 rfl (lv_at hl 2 rfl) ?_
        refine lv_sipush (v := 1001) hx hb dL_play_671 (by decide) ?_
        refine h_iald X Y (i := 1001) tb (by omega) (by decide) dL_play_674 ?_
        refine h_ev (y := nI (hNow h)) ((hg 1001 (by omega)).trans hB1) ?_
        refine lv_aload_n hx hb dL_play_675 rfl (lv_at hl 2 rfl) ?_
        refine lv_iconst (v := 5) hx hb dL_play_676 (by decide) ?_
        refine lv_iload hx hb dL_play_677 (lv_at hl 4 rfl) ?_
        refine lv_imul hx hb dL_play_679 ?_
        refine h_ev (y := nI (5 * k)) (pk_mul 5 k) ?_
        refine h_iald X Y (i := (5 * k)) tb (by omega) (by decide) dL_play_680 ?_
        refine h_ev (y := nI (clY (sC S k))) hgk ?_
        refine lv_isub hx hb dL_play_681 ?_
        refine h_ev (y := nI (hNow h - clY (sC S k))) (pk_sub hyk) ?_
        refine lv_imul hx hb dL_play_682 ?_
        refine h_ev (y := nI (2 * (hNow h - clY (sC S k)))) (pk_mul 2 (hNow h - clY (sC S k))) ?_
        refine lv_iadd hx hb dL_play_683 ?_
        refine h_ev (y := nI ((200 + (20 * k)) + (2 * (hNow h - clY (sC S k))))) (nI_add (200 + (20 * k)) (2 * (hNow h - clY (sC S k)))) ?_
        refine lv_istore (lv' := [(9, .int (nI ((200 + (20 * k)) + (2 * (hNow h - clY (sC S k)))))), (0, .ref (sA S 0)), (1, .ref G.2.1), (2, .ref b), (3, .int (nI i)), (8, .int (nI k))]) hx hb dL_play_684 hl (by decide) rfl (fun ls hl => ?_)
        refine lv_aload_n hx hb dL_play_686 rfl (lv_at hl 3 rfl) ?_
        refine lv_iload hx hb dL_play_687 (lv_at hl 0 rfl) ?_
        refine lv_aload_n hx hb dL_play_689 rfl (lv_at hl 3 rfl) ?_
        refine lv_iconst (v := 5) hx hb dL_play_690 (by decide) ?_
        refine lv_iload hx hb dL_play_691 (lv_at hl 5 rfl) ?_
        refine lv_imul hx hb dL_play_693 ?_
        refine h_ev (y := nI (5 * k)) (pk_mul 5 k) ?_
        refine lv_iconst (v := 2) hx hb dL_play_694 (by decide) ?_
        refine lv_iadd hx hb dL_play_695 ?_
        refine h_ev (y := nI ((5 * k) + 2)) (nI_add (5 * k) 2) ?_
        refine h_iald X Y (i := ((5 * k) + 2)) tb (by omega) (by decide) dL_play_696 ?_
        refine h_iast X Y (i := ((200 + (20 * k)) + (2 * (hNow h - clY (sC S k))))) tb (by omega) (by decide) dL_play_697 (fun H locs Y => ?_)
        have hfr := hfr.put (x := (4800, .inl (hT G 0, 1002, .inl (upd g ((200 + (20 * k)) + (2 * (hNow h - clY (sC S k)))) (g ((5 * k) + 2)))))) tb (by decide)
        have tb : hup M1 b (4800, .inl (hT G 0, 1002, .inl (upd g ((200 + (20 * k)) + (2 * (hNow h - clY (sC S k)))) (g ((5 * k) + 2))))) b = some (4800, .inl (hT G 0, 1002, .inl (upd g ((200 + (20 * k)) + (2 * (hNow h - clY (sC S k)))) (g ((5 * k) + 2))))) := hup_eq
        generalize hup M1 b (4800, .inl (hT G 0, 1002, .inl (upd g ((200 + (20 * k)) + (2 * (hNow h - clY (sC S k)))) (g ((5 * k) + 2))))) = Mz1 at Y tb hfr
        refine lv_aload_n hx hb dL_play_698 rfl (lv_at hl 3 rfl) ?_
        refine lv_iload hx hb dL_play_699 (lv_at hl 0 rfl) ?_
        refine lv_iconst (v := 1) hx hb dL_play_701 (by decide) ?_
        refine lv_iadd hx hb dL_play_702 ?_
        refine h_ev (y := nI (((200 + (20 * k)) + (2 * (hNow h - clY (sC S k)))) + 1)) (nI_1 ((200 + (20 * k)) + (2 * (hNow h - clY (sC S k))))) ?_
        refine lv_aload_n hx hb dL_play_703 rfl (lv_at hl 3 rfl) ?_
        refine lv_iconst (v := 5) hx hb dL_play_704 (by decide) ?_
        refine lv_iload hx hb dL_play_705 (lv_at hl 5 rfl) ?_
        refine lv_imul hx hb dL_play_707 ?_
        refine h_ev (y := nI (5 * k)) (pk_mul 5 k) ?_
        refine lv_iconst (v := 2) hx hb dL_play_708 (by decide) ?_
        refine lv_iadd hx hb dL_play_709 ?_
        refine h_ev (y := nI ((5 * k) + 2)) (nI_add (5 * k) 2) ?_
        refine h_iald X Y (i := ((5 * k) + 2)) tb (by omega) (by decide) dL_play_710 ?_
        refine lv_aload_n hx hb dL_play_711 rfl (lv_at hl 3 rfl) ?_
        refine lv_iconst (v := 5) hx hb dL_play_712 (by decide) ?_
        refine lv_iload hx hb dL_play_713 (lv_at hl 5 rfl) ?_
        refine lv_imul hx hb dL_play_715 ?_
        refine h_ev (y := nI (5 * k)) (pk_mul 5 k) ?_
        refine lv_iconst (v := 3) hx hb dL_play_716 (by decide) ?_
        refine lv_iadd hx hb dL_play_717 ?_
        refine h_ev (y := nI ((5 * k) + 3)) (nI_add (5 * k) 3) ?_
        refine h_iald X Y (i := ((5 * k) + 3)) tb (by omega) (by decide) dL_play_718 ?_
        refine lv_iadd hx hb dL_play_719 ?_
        refine h_iast X Y (i := (((200 + (20 * k)) + (2 * (hNow h - clY (sC S k)))) + 1)) tb (by omega) (by decide) dL_play_720 (fun H locs Y => ?_)
        have hfr := hfr.put (x := (4800, .inl (hT G 0, 1002, .inl (upd (upd g ((200 + (20 * k)) + (2 * (hNow h - clY (sC S k)))) (g ((5 * k) + 2))) (((200 + (20 * k)) + (2 * (hNow h - clY (sC S k)))) + 1) (((upd g ((200 + (20 * k)) + (2 * (hNow h - clY (sC S k)))) (g ((5 * k) + 2))) ((5 * k) + 2)) + ((upd g ((200 + (20 * k)) + (2 * (hNow h - clY (sC S k)))) (g ((5 * k) + 2))) ((5 * k) + 3))))))) tb (by decide)
        have tb : hup Mz1 b (4800, .inl (hT G 0, 1002, .inl (upd (upd g ((200 + (20 * k)) + (2 * (hNow h - clY (sC S k)))) (g ((5 * k) + 2))) (((200 + (20 * k)) + (2 * (hNow h - clY (sC S k)))) + 1) (((upd g ((200 + (20 * k)) + (2 * (hNow h - clY (sC S k)))) (g ((5 * k) + 2))) ((5 * k) + 2)) + ((upd g ((200 + (20 * k)) + (2 * (hNow h - clY (sC S k)))) (g ((5 * k) + 2))) ((5 * k) + 3)))))) b = some (4800, .inl (hT G 0, 1002, .inl (upd (upd g ((200 + (20 * k)) + (2 * (hNow h - clY (sC S k)))) (g ((5 * k) + 2))) (((200 + (20 * k)) + (2 * (hNow h - clY (sC S k)))) + 1) (((upd g ((200 + (20 * k)) + (2 * (hNow h - clY (sC S k)))) (g ((5 * k) + 2))) ((5 * k) + 2)) + ((upd g ((200 + (20 * k)) + (2 * (hNow h - clY (sC S k)))) (g ((5 * k) + 2))) ((5 * k) + 3)))))) := hup_eq
        generalize hup Mz1 b (4800, .inl (hT G 0, 1002, .inl (upd (upd g ((200 + (20 * k)) + (2 * (hNow h - clY (sC S k)))) (g ((5 * k) + 2))) (((200 + (20 * k)) + (2 * (hNow h - clY (sC S k)))) + 1) (((upd g ((200 + (20 * k)) + (2 * (hNow h - clY (sC S k)))) (g ((5 * k) + 2))) ((5 * k) + 2)) + ((upd g ((200 + (20 * k)) + (2 * (hNow h - clY (sC S k)))) (g ((5 * k) + 2))) ((5 * k) + 3)))))) = Mz2 at Y tb hfr
        refine lv_iinc (v := nI (k + 1)) (lv' := [(8, .int (nI (k + 1))), (9, .int (nI ((200 + (20 * k)) + (2 * (hNow h - clY (sC S k)))))), (0, .ref (sA S 0)), (1, .ref G.2.1), (2, .ref b), (3, .int (nI i))]) hx hb dL_play_721 hl (k := 5) rfl (nI_1 k) (by decide) rfl (fun ls hl => ?_)
        refine lv_goto (tgt := 650) hx hb dL_play_724 (by decide) ?_
        exact ih (k + 1) (by omega) (by omega) Mz2 _ tb hfr (fun j hj => by rw [pk_un (by omega), pk_un (by omega)]; exact hg j hj) _ _ _ Y (lv_sub hl [2, 3, 4, 5, 0] rfl)
  exact loop (sM S + 1) 0 (by omega) (by omega) M f hbr hFr.rf (fun _ _ => rfl) _ _ _ Y (lv_sub hl [1, 2, 3, 4, 0] rfl)
