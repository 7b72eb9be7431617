-- THE LAW: EVERY YEAR, ITS TRIANGLES
theorem lwW_0 : lwW 0 = 2 := rfl
theorem hScr_no {u : Nat} (h : 3000 ≤ u) : ¬ hScr u := fun z => by
  unfold hScr hS0 at z
  omega
theorem QV.fr9 {G : hG} {Z : Nat → Prop} {M M' : hM} {S : hSy} {h : hHo} (hf : hFr Z M M') (hz : ∀ u, Z u → 4000 ≤ u) (hQ : QV G M S h) : QV G M' S h := by
  obtain ⟨⟨hl13, he14, hl15, he16, hLa, hCl⟩, ⟨hN8, hM40, hLG, hCY⟩, ⟨h0, h1, h2, h3, f, h4, h5⟩, hCe, hTr, hnow, hyn⟩ := hQ
  have nz : ∀ u, u < 4000 → ¬ Z u := fun u q1 z => by have := hz u z; omega
  exact ⟨⟨hl13.fr hf (nz _ (by omega)), fun q => (he14 q).fr hf (nz _ (by omega)), hl15.fr hf (nz _ (by omega)), fun q => (he16 q).fr hf (nz _ (by omega)), fun k hk => (hLa k hk).fr hf (fun j hj => nz _ (by omega)), fun i hi => (hCl i hi).fr hf (fun j hj => nz _ (by omega))⟩, ⟨hN8, hM40, hLG, hCY⟩, ⟨hf _ _ _ h0 (nz _ (by omega)), hf _ _ _ h1 (nz _ (by omega)), hf _ _ _ h2 (nz _ (by omega)), hf _ _ _ h3 (nz _ (by omega)), f, h4, hf _ _ _ h5 (nz _ (by omega))⟩, fun cx hc => (hCe cx hc).fr hc hf (fun u q1 q2 => nz _ (by omega)) (fun u _ _ => rfl), fun j hj => (hTr j hj).fr hj hf (fun u q1 q2 => nz _ (by omega)) (fun u _ _ => rfl), hnow, hyn⟩
theorem QV.gr9 {G : hG} {M M' : hM} {S : hSy} {h : hHo} (hg : hGr M M') (hQ : QV G M S h) : QV G M' S h := QV.fr9 (Z := fun u => 4000 ≤ u) (hFr.grow hFr.rf hg) (fun u z => z) hQ
theorem wh_v : ∀ k, k < 4 → (upd (upd (upd (upd (fun _ => 0) 0 2) 1 4) 2 6) 3 7) k = nI (lwW k) := by decide +kernel
theorem gw_L_170 : GoodIn hGW (wsV RL 170 RX11 yX11_triangle (Cond.code yX11_triangle cX11_triangle 4 (Option.some FieldType.int) :: hGW)) := hgi4 kml_L_170 kin_X11_triangle kse_X11_X11_triangle_X11_triangle kini_X11 kco_X11_triangle
theorem dsc_X11_triangle : yX11_triangle.cls = RX11 ∧ yX11_triangle.cls ≠ "java/lang/invoke/MethodHandle" ∧ yX11_triangle.cls ≠ "java/lang/invoke/VarHandle" ∧ (parseMethodDescriptor yX11_triangle.desc).map (fun d => d.parameters.length) = some 3 := ⟨rfl, by decide +kernel, by decide +kernel, by decide +kernel⟩
theorem gw_L_173 : GoodIn hGW (wsV RL 173 RX11 yX11_ultimate (Cond.code yX11_ultimate cX11_ultimate 4 (Option.some FieldType.int) :: hGW)) := hgi4 kml_L_173 kin_X11_ultimate kse_X11_X11_ultimate_X11_ultimate kini_X11 kco_X11_ultimate
theorem dsc_X11_ultimate : yX11_ultimate.cls = RX11 ∧ yX11_ultimate.cls ≠ "java/lang/invoke/MethodHandle" ∧ yX11_ultimate.cls ≠ "java/lang/invoke/VarHandle" ∧ (parseMethodDescriptor yX11_ultimate.desc).map (fun d => d.parameters.length) = some 3 := ⟨rfl, by decide +kernel, by decide +kernel, by decide +kernel⟩
theorem gw_L_176 : GoodIn hGW (wsV RL 176 RX11 yX11_reserve (Cond.code yX11_reserve cX11_reserve 3 (Option.some FieldType.int) :: hGW)) := hgi4 kml_L_176 kin_X11_reserve kse_X11_X11_reserve_X11_reserve kini_X11 kco_X11_reserve
theorem dsc_X11_reserve : yX11_reserve.cls = RX11 ∧ yX11_reserve.cls ≠ "java/lang/invoke/MethodHandle" ∧ yX11_reserve.cls ≠ "java/lang/invoke/VarHandle" ∧ (parseMethodDescriptor yX11_reserve.desc).map (fun d => d.parameters.length) = some 2 := ⟨rfl, by decide +kernel, by decide +kernel, by decide +kernel⟩
theorem dL_law_564 : decode cL_law 564 = .ok (.iconst 0, 1) := by decide +kernel
theorem dL_law_565 : decode cL_law 565 = .ok (.istore 13, 2) := by decide +kernel
theorem dL_law_567 : decode cL_law 567 = .ok (.iload 13, 2) := by decide +kernel
theorem dL_law_569 : decode cL_law 569 = .ok (.iconst 4, 1) := by decide +kernel
theorem dL_law_570 : decode cL_law 570 = .ok (.if_icmp .ge 88, 3) := by decide +kernel
theorem dL_law_573 : decode cL_law 573 = .ok (.aload_n 1, 1) := by decide +kernel
theorem dL_law_574 : decode cL_law 574 = .ok (.iload 13, 2) := by decide +kernel
theorem dL_law_576 : decode cL_law 576 = .ok (.iload 12, 2) := by decide +kernel
theorem dL_law_578 : decode cL_law 578 = .ok (.iload 5, 2) := by decide +kernel
theorem dL_law_580 : decode cL_law 580 = .ok (.iload 12, 2) := by decide +kernel
theorem dL_law_582 : decode cL_law 582 = .ok (.isub, 1) := by decide +kernel
theorem dL_law_583 : decode cL_law 583 = .ok (.invokevirtual 170, 3) := by decide +kernel
theorem dL_law_586 : decode cL_law 586 = .ok (.ifCond .lt 64, 3) := by decide +kernel
theorem dL_law_589 : decode cL_law 589 = .ok (.iload 13, 2) := by decide +kernel
theorem dL_law_591 : decode cL_law 591 = .ok (.iconst 1, 1) := by decide +kernel
theorem dL_law_592 : decode cL_law 592 = .ok (.if_icmp .le 34, 3) := by decide +kernel
theorem dL_law_595 : decode cL_law 595 = .ok (.aload_n 1, 1) := by decide +kernel
theorem dL_law_596 : decode cL_law 596 = .ok (.iload 13, 2) := by decide +kernel
theorem dL_law_598 : decode cL_law 598 = .ok (.iload 12, 2) := by decide +kernel
theorem dL_law_600 : decode cL_law 600 = .ok (.iload 5, 2) := by decide +kernel
theorem dL_law_602 : decode cL_law 602 = .ok (.iload 12, 2) := by decide +kernel
theorem dL_law_604 : decode cL_law 604 = .ok (.isub, 1) := by decide +kernel
theorem dL_law_605 : decode cL_law 605 = .ok (.invokevirtual 170, 3) := by decide +kernel
theorem dL_law_608 : decode cL_law 608 = .ok (.aload_n 1, 1) := by decide +kernel
theorem dL_law_609 : decode cL_law 609 = .ok (.iload 13, 2) := by decide +kernel
theorem dL_law_611 : decode cL_law 611 = .ok (.iconst 2, 1) := by decide +kernel
theorem dL_law_612 : decode cL_law 612 = .ok (.isub, 1) := by decide +kernel
theorem dL_law_613 : decode cL_law 613 = .ok (.iload 12, 2) := by decide +kernel
theorem dL_law_615 : decode cL_law 615 = .ok (.iload 5, 2) := by decide +kernel
theorem dL_law_617 : decode cL_law 617 = .ok (.iload 12, 2) := by decide +kernel
theorem dL_law_619 : decode cL_law 619 = .ok (.isub, 1) := by decide +kernel
theorem dL_law_620 : decode cL_law 620 = .ok (.invokevirtual 170, 3) := by decide +kernel
theorem dL_law_623 : decode cL_law 623 = .ok (.if_icmp .gt 27, 3) := by decide +kernel
theorem dL_law_626 : decode cL_law 626 = .ok (.aload_n 1, 1) := by decide +kernel
theorem dL_law_627 : decode cL_law 627 = .ok (.iload 13, 2) := by decide +kernel
theorem dL_law_629 : decode cL_law 629 = .ok (.iload 12, 2) := by decide +kernel
theorem dL_law_631 : decode cL_law 631 = .ok (.iconst 1, 1) := by decide +kernel
theorem dL_law_632 : decode cL_law 632 = .ok (.invokevirtual 173, 3) := by decide +kernel
theorem dL_law_635 : decode cL_law 635 = .ok (.ifCond .lt 15, 3) := by decide +kernel
theorem dL_law_638 : decode cL_law 638 = .ok (.aload_n 1, 1) := by decide +kernel
theorem dL_law_639 : decode cL_law 639 = .ok (.iload 13, 2) := by decide +kernel
theorem dL_law_641 : decode cL_law 641 = .ok (.iload 12, 2) := by decide +kernel
theorem dL_law_643 : decode cL_law 643 = .ok (.iconst 0, 1) := by decide +kernel
theorem dL_law_644 : decode cL_law 644 = .ok (.invokevirtual 173, 3) := by decide +kernel
theorem dL_law_647 : decode cL_law 647 = .ok (.ifCond .ge 5, 3) := by decide +kernel
theorem dL_law_652 : decode cL_law 652 = .ok (.iinc 13 1, 3) := by decide +kernel
theorem dL_law_655 : decode cL_law 655 = .ok (.goto (-88), 3) := by decide +kernel
theorem dL_law_658 : decode cL_law 658 = .ok (.iconst 4, 1) := by decide +kernel
theorem dL_law_659 : decode cL_law 659 = .ok (.newarray .int, 2) := by decide +kernel
theorem dL_law_661 : decode cL_law 661 = .ok (.astore 13, 2) := by decide +kernel
theorem dL_law_663 : decode cL_law 663 = .ok (.iconst 4, 1) := by decide +kernel
theorem dL_law_664 : decode cL_law 664 = .ok (.newarray .int, 2) := by decide +kernel
theorem dL_law_666 : decode cL_law 666 = .ok (.dup, 1) := by decide +kernel
theorem dL_law_667 : decode cL_law 667 = .ok (.iconst 0, 1) := by decide +kernel
theorem dL_law_668 : decode cL_law 668 = .ok (.iconst 2, 1) := by decide +kernel
theorem dL_law_669 : decode cL_law 669 = .ok (.iastore, 1) := by decide +kernel
theorem dL_law_670 : decode cL_law 670 = .ok (.dup, 1) := by decide +kernel
theorem dL_law_671 : decode cL_law 671 = .ok (.iconst 1, 1) := by decide +kernel
theorem dL_law_672 : decode cL_law 672 = .ok (.iconst 4, 1) := by decide +kernel
theorem dL_law_673 : decode cL_law 673 = .ok (.iastore, 1) := by decide +kernel
theorem dL_law_674 : decode cL_law 674 = .ok (.dup, 1) := by decide +kernel
theorem dL_law_675 : decode cL_law 675 = .ok (.iconst 2, 1) := by decide +kernel
theorem dL_law_676 : decode cL_law 676 = .ok (.bipush 6, 2) := by decide +kernel
theorem dL_law_678 : decode cL_law 678 = .ok (.iastore, 1) := by decide +kernel
theorem dL_law_679 : decode cL_law 679 = .ok (.dup, 1) := by decide +kernel
theorem dL_law_680 : decode cL_law 680 = .ok (.iconst 3, 1) := by decide +kernel
theorem dL_law_681 : decode cL_law 681 = .ok (.bipush 7, 2) := by decide +kernel
theorem dL_law_683 : decode cL_law 683 = .ok (.iastore, 1) := by decide +kernel
theorem dL_law_684 : decode cL_law 684 = .ok (.astore 14, 2) := by decide +kernel
theorem dL_law_686 : decode cL_law 686 = .ok (.iconst 0, 1) := by decide +kernel
theorem dL_law_687 : decode cL_law 687 = .ok (.istore 15, 2) := by decide +kernel
theorem dL_law_689 : decode cL_law 689 = .ok (.iload 15, 2) := by decide +kernel
theorem dL_law_691 : decode cL_law 691 = .ok (.iload 4, 2) := by decide +kernel
theorem dL_law_693 : decode cL_law 693 = .ok (.if_icmp .ge 59, 3) := by decide +kernel
theorem dL_law_696 : decode cL_law 696 = .ok (.iconst 0, 1) := by decide +kernel
theorem dL_law_697 : decode cL_law 697 = .ok (.istore 16, 2) := by decide +kernel
theorem dL_law_699 : decode cL_law 699 = .ok (.iload 16, 2) := by decide +kernel
theorem dL_law_701 : decode cL_law 701 = .ok (.iconst 4, 1) := by decide +kernel
theorem dL_law_702 : decode cL_law 702 = .ok (.if_icmp .ge 44, 3) := by decide +kernel
theorem dL_law_705 : decode cL_law 705 = .ok (.aload 13, 2) := by decide +kernel
theorem dL_law_707 : decode cL_law 707 = .ok (.iload 16, 2) := by decide +kernel
theorem dL_law_709 : decode cL_law 709 = .ok (.dup2, 1) := by decide +kernel
theorem dL_law_710 : decode cL_law 710 = .ok (.iaload, 1) := by decide +kernel
theorem dL_law_711 : decode cL_law 711 = .ok (.aload_n 1, 1) := by decide +kernel
theorem dL_law_712 : decode cL_law 712 = .ok (.iload 15, 2) := by decide +kernel
theorem dL_law_714 : decode cL_law 714 = .ok (.iconst 0, 1) := by decide +kernel
theorem dL_law_715 : decode cL_law 715 = .ok (.invokevirtual 149, 3) := by decide +kernel
theorem dL_law_718 : decode cL_law 718 = .ok (.iload 12, 2) := by decide +kernel
theorem dL_law_720 : decode cL_law 720 = .ok (.if_icmp .ne 17, 3) := by decide +kernel
theorem dL_law_723 : decode cL_law 723 = .ok (.aload_n 1, 1) := by decide +kernel
theorem dL_law_724 : decode cL_law 724 = .ok (.iload 15, 2) := by decide +kernel
theorem dL_law_726 : decode cL_law 726 = .ok (.aload 14, 2) := by decide +kernel
theorem dL_law_728 : decode cL_law 728 = .ok (.iload 16, 2) := by decide +kernel
theorem dL_law_730 : decode cL_law 730 = .ok (.iaload, 1) := by decide +kernel
theorem dL_law_731 : decode cL_law 731 = .ok (.invokevirtual 149, 3) := by decide +kernel
theorem dL_law_734 : decode cL_law 734 = .ok (.goto 4, 3) := by decide +kernel
theorem dL_law_737 : decode cL_law 737 = .ok (.iconst 0, 1) := by decide +kernel
theorem dL_law_738 : decode cL_law 738 = .ok (.iadd, 1) := by decide +kernel
theorem dL_law_739 : decode cL_law 739 = .ok (.iastore, 1) := by decide +kernel
theorem dL_law_740 : decode cL_law 740 = .ok (.iinc 16 1, 3) := by decide +kernel
theorem dL_law_743 : decode cL_law 743 = .ok (.goto (-44), 3) := by decide +kernel
theorem dL_law_746 : decode cL_law 746 = .ok (.iinc 15 1, 3) := by decide +kernel
theorem dL_law_749 : decode cL_law 749 = .ok (.goto (-60), 3) := by decide +kernel
theorem dL_law_752 : decode cL_law 752 = .ok (.iconst 0, 1) := by decide +kernel
theorem dL_law_753 : decode cL_law 753 = .ok (.istore 15, 2) := by decide +kernel
theorem dL_law_755 : decode cL_law 755 = .ok (.iload 15, 2) := by decide +kernel
theorem dL_law_757 : decode cL_law 757 = .ok (.iconst 4, 1) := by decide +kernel
theorem dL_law_758 : decode cL_law 758 = .ok (.if_icmp .ge 32, 3) := by decide +kernel
theorem dL_law_761 : decode cL_law 761 = .ok (.aload_n 1, 1) := by decide +kernel
theorem dL_law_762 : decode cL_law 762 = .ok (.iload 15, 2) := by decide +kernel
theorem dL_law_764 : decode cL_law 764 = .ok (.iload 12, 2) := by decide +kernel
theorem dL_law_766 : decode cL_law 766 = .ok (.iload 5, 2) := by decide +kernel
theorem dL_law_768 : decode cL_law 768 = .ok (.iload 12, 2) := by decide +kernel
theorem dL_law_770 : decode cL_law 770 = .ok (.isub, 1) := by decide +kernel
theorem dL_law_771 : decode cL_law 771 = .ok (.invokevirtual 170, 3) := by decide +kernel
theorem dL_law_774 : decode cL_law 774 = .ok (.aload 13, 2) := by decide +kernel
theorem dL_law_776 : decode cL_law 776 = .ok (.iload 15, 2) := by decide +kernel
theorem dL_law_778 : decode cL_law 778 = .ok (.iaload, 1) := by decide +kernel
theorem dL_law_779 : decode cL_law 779 = .ok (.if_icmp .eq 5, 3) := by decide +kernel
theorem dL_law_784 : decode cL_law 784 = .ok (.iinc 15 1, 3) := by decide +kernel
theorem dL_law_787 : decode cL_law 787 = .ok (.goto (-32), 3) := by decide +kernel
theorem dL_law_790 : decode cL_law 790 = .ok (.aload_n 1, 1) := by decide +kernel
theorem dL_law_791 : decode cL_law 791 = .ok (.iconst 2, 1) := by decide +kernel
theorem dL_law_792 : decode cL_law 792 = .ok (.iload 12, 2) := by decide +kernel
theorem dL_law_794 : decode cL_law 794 = .ok (.invokevirtual 176, 3) := by decide +kernel
theorem dL_law_797 : decode cL_law 797 = .ok (.ifCond .ge 5, 3) := by decide +kernel
theorem dL_law_802 : decode cL_law 802 = .ok (.iinc 12 1, 3) := by decide +kernel
theorem dL_law_805 : decode cL_law 805 = .ok (.goto (-248), 3) := by decide +kernel
set_option maxHeartbeats 400000 in
set_option maxRecDepth 100000 in
theorem law_d {nm : String} (l : Launch) (G : hG) (p : Program) (e : Env) (s : State) (m : MethodId) (args : Array Value) (below : List Frame) (meth : Method) (c : Code) (M : hM) (H : Heap) (locs : List Loc) (ls : Array Slot) (cells slots : Nat) (Q : State → Prop) (hcs : cells ≤ 600086) (hss : slots ≤ 7301442) (X : hCX G p s m args meth c cL_law 18 ret RL nm) (Y : hHS G M s H locs) (S : hSy) (h : hHo) (hQv : QV G M S h) (hGC : GC S (hNow h)) (a0 : Nat) (ha0 : sA S 0 = a0) (tt bb : Nat) (sm : Int64) (al ic : Int64) (hcs2 : cells + 2 ≤ 600086) (hss2 : slots + 8 ≤ 7301442) (ht : hTail h = 1000) (hpr : ∀ y, hPr h y = 0) (y : Nat) (hy : y ≤ hNow h) (hl : lv_has ls 18 [(0, .ref G.2.1), (1, .ref (a0)), (2, .ref tt), (3, .ref bb), (4, .int (nI (sM S))), (5, .int (nI (hNow h))), (6, .long sm), (8, .long al), (10, .long ic), (12, .int (nI y))]) (kk : ∀  (M' : hM) (H : Heap) (locs : List Loc) (ls : Array Slot), hHS G M' s H locs → QV G M' S h → lv_has ls 18 [(0, .ref G.2.1), (1, .ref (a0)), (2, .ref tt), (3, .ref bb), (4, .int (nI (sM S))), (5, .int (nI (hNow h))), (6, .long sm), (8, .long al), (10, .long ic), (12, .int (nI (y + 1)))] → W p l e room_1 s m args below meth c H locs (cells + 2) (slots + 8) Q (F0 m 557 ls [])) : W p l e room_1 s m args below meth c H locs cells slots Q (F0 m 564 ls []) := by
  subst ha0
  have hx := X.1
  have hb := X.2.1
  have h40 : sM S ≤ 40 := hGC.1.2.2.1
  have hn10 : hNow h < 10 := hGC.2.1
  have hN3 : sN S = 3 := hGC.1.1
  have ho0 := hQv.2.2.1.1
  obtain ⟨c0, c1, c2, c3, ec0, ec1, ec2, ec3, hcb0, hcb1, hcb2, hcb3, hc20, hc31⟩ : ∃ c0 c1 c2 c3, qTri S (hNow h) 0 y (hNow h - y) = nI c0 ∧ qTri S (hNow h) 1 y (hNow h - y) = nI c1 ∧ qTri S (hNow h) 2 y (hNow h - y) = nI c2 ∧ qTri S (hNow h) 3 y (hNow h - y) = nI c3 ∧ c0 ≤ 44800000 ∧ c1 ≤ 44800000 ∧ c2 ≤ 44800000 ∧ c3 ≤ 44800000 ∧ c2 ≤ c0 ∧ c3 ≤ c1 := ⟨_, _, _, _, (tri_in hGC 0 y _).1, (tri_in hGC 1 y _).1, (tri_in hGC 2 y _).1, (tri_in hGC 3 y _).1, (tri_in hGC 0 y _).2.1, (tri_in hGC 1 y _).2.1, (tri_in hGC 2 y _).2.1, (tri_in hGC 3 y _).2.1, (tri_in hGC 2 y _).2.2 (by decide), (tri_in hGC 3 y _).2.2 (by decide)⟩
  obtain ⟨⟨u0, hu0, eu0⟩, v0, hv0, ev0⟩ := ult_in hGC ht 0 y
  obtain ⟨⟨u1, hu1, eu1⟩, v1, hv1, ev1⟩ := ult_in hGC ht 1 y
  obtain ⟨⟨u2, hu2, eu2⟩, v2, hv2, ev2⟩ := ult_in hGC ht 2 y
  obtain ⟨⟨u3, hu3, eu3⟩, v3, hv3, ev3⟩ := ult_in hGC ht 3 y
  refine lv_iconst (v := 0) hx hb dL_law_564 (by decide) ?_
  refine lv_istore (lv' := [(13, .int 0), (0, .ref G.2.1), (1, .ref (sA S 0)), (2, .ref tt), (3, .ref bb), (4, .int (nI (sM S))), (5, .int (nI (hNow h))), (6, .long sm), (8, .long al), (10, .long ic), (12, .int (nI y))]) hx hb dL_law_565 hl (by decide) rfl (fun ls hl => ?_)
  refine lv_iload hx hb dL_law_567 (lv_at hl 0 rfl) ?_
  refine lv_iconst (v := 4) hx hb dL_law_569 (by decide) ?_
  refine lv_icmp_ge (tgt := 658) hx hb dL_law_570 (by decide) (fun c570 => absurd c570 (by decide)) (fun c570 => ?_)
  refine lv_aload_n hx hb dL_law_573 rfl (lv_at hl 2 rfl) ?_
  refine lv_iload hx hb dL_law_574 (lv_at hl 0 rfl) ?_
  refine lv_iload hx hb dL_law_576 (lv_at hl 10 rfl) ?_
  refine lv_iload hx hb dL_law_578 (lv_at hl 6 rfl) ?_
  refine lv_iload hx hb dL_law_580 (lv_at hl 10 rfl) ?_
  refine lv_isub hx hb dL_law_582 ?_
  refine h_ev (y := nI (hNow h - y)) (pk_sub hy) ?_
  refine h_callV (rest := []) X Y (c_triangle l G M S h hQv 0 y (hNow h - y) (by decide) hy (by omega)) gw_L_170 dsc_X11_triangle ho0 rfl rfl rfl hl.1 rfl (Nat.le_of_ble_eq_true rfl) ⟨Nat.le_of_ble_eq_true rfl, Nat.le_of_ble_eq_true rfl⟩ ⟨(by show _ ≤ 600086; first | omega | (dsimp only [hRm]; omega)), (by show _ ≤ 7301442; first | omega | (dsimp only [hRm]; omega))⟩ dL_law_583 ?_
  rintro _ Mz1 H locs ⟨rfl, hs9⟩ Y
  have hQv := hQv.sim hs9
  have ho0 := hQv.2.2.1.1
  try dsimp only [Option.toList, List.singleton_append]
  refine h_ev (y := nI c0) ec0 ?_
  refine lv_if_lt (tgt := 650) hx hb dL_law_586 (by decide) (fun c586 => absurd (show c0 < 0 from (nI_ltI (a := c0) (b := 0) (by omega) (by omega)).mp c586) (by omega)) (fun c586 => ?_)
  have c586 : ¬ c0 < 0 := fun z9 => c586 ((nI_ltI (a := c0) (b := 0) (by omega) (by omega)).mpr z9)
  refine lv_iload hx hb dL_law_589 (lv_at hl 0 rfl) ?_
  refine lv_iconst (v := 1) hx hb dL_law_591 (by decide) ?_
  refine lv_icmp_le (tgt := 626) hx hb dL_law_592 (by decide) (fun c592 => ?_) (fun c592 => absurd (by decide) c592)
  refine lv_aload_n hx hb dL_law_626 rfl (lv_at hl 2 rfl) ?_
  refine lv_iload hx hb dL_law_627 (lv_at hl 0 rfl) ?_
  refine lv_iload hx hb dL_law_629 (lv_at hl 10 rfl) ?_
  refine lv_iconst (v := 1) hx hb dL_law_631 (by decide) ?_
  refine h_callV (rest := []) X Y (c_ultimate l G Mz1 S h hQv 0 y true (by decide) hy) gw_L_173 dsc_X11_ultimate ho0 rfl rfl rfl hl.1 rfl (Nat.le_of_ble_eq_true rfl) ⟨Nat.le_of_ble_eq_true rfl, Nat.le_of_ble_eq_true rfl⟩ ⟨(by show _ ≤ 600086; first | omega | (dsimp only [hRm]; omega)), (by show _ ≤ 7301442; first | omega | (dsimp only [hRm]; omega))⟩ dL_law_632 ?_
  rintro _ Mz2 H locs ⟨rfl, hs9⟩ Y
  have hQv := hQv.sim hs9
  have ho0 := hQv.2.2.1.1
  try dsimp only [Option.toList, List.singleton_append]
  refine h_ev (y := nI v0) ((if_pos rfl).trans ev0) ?_
  refine lv_if_lt (tgt := 650) hx hb dL_law_635 (by decide) (fun c635 => absurd (show v0 < 0 from (nI_ltI (a := v0) (b := 0) (by omega) (by omega)).mp c635) (by omega)) (fun c635 => ?_)
  have c635 : ¬ v0 < 0 := fun z9 => c635 ((nI_ltI (a := v0) (b := 0) (by omega) (by omega)).mpr z9)
  refine lv_aload_n hx hb dL_law_638 rfl (lv_at hl 2 rfl) ?_
  refine lv_iload hx hb dL_law_639 (lv_at hl 0 rfl) ?_
  refine lv_iload hx hb dL_law_641 (lv_at hl 10 rfl) ?_
  refine lv_iconst (v := 0) hx hb dL_law_643 (by decide) ?_
  refine h_callV (rest := []) X Y (c_ultimate l G Mz2 S h hQv 0 y false (by decide) hy) gw_L_173 dsc_X11_ultimate ho0 rfl rfl rfl hl.1 rfl (Nat.le_of_ble_eq_true rfl) ⟨Nat.le_of_ble_eq_true rfl, Nat.le_of_ble_eq_true rfl⟩ ⟨(by show _ ≤ 600086; first | omega | (dsimp only [hRm]; omega)), (by show _ ≤ 7301442; first | omega | (dsimp only [hRm]; omega))⟩ dL_law_644 ?_
  rintro _ Mz3 H locs ⟨rfl, hs9⟩ Y
  have hQv := hQv.sim hs9
  have ho0 := hQv.2.2.1.1
  try dsimp only [Option.toList, List.singleton_append]
  refine h_ev (y := nI u0) ((if_neg (by decide)).trans eu0) ?_
  refine lv_if_ge (tgt := 652) hx hb dL_law_647 (by decide) (fun c647 => ?_) (fun c647 => absurd (show ¬ 0 ≤ u0 from fun z9 => c647 ((nI_leI (a := 0) (b := u0) (by omega) (by omega)).mpr z9)) (by omega))
  have c647 : 0 ≤ u0 := (nI_leI (a := 0) (b := u0) (by omega) (by omega)).mp c647
  refine lv_iinc (v := nI 1) (lv' := [(13, .int (nI 1)), (0, .ref G.2.1), (1, .ref (sA S 0)), (2, .ref tt), (3, .ref bb), (4, .int (nI (sM S))), (5, .int (nI (hNow h))), (6, .long sm), (8, .long al), (10, .long ic), (12, .int (nI y))]) hx hb dL_law_652 hl (k := 0) rfl (by decide) (by decide) rfl (fun ls hl => ?_)
  refine lv_goto (tgt := 567) hx hb dL_law_655 (by decide) ?_
  refine lv_iload hx hb dL_law_567 (lv_at hl 0 rfl) ?_
  refine lv_iconst (v := 4) hx hb dL_law_569 (by decide) ?_
  refine lv_icmp_ge (tgt := 658) hx hb dL_law_570 (by decide) (fun c570 => absurd c570 (by decide)) (fun c570 => ?_)
  refine lv_aload_n hx hb dL_law_573 rfl (lv_at hl 2 rfl) ?_
  refine lv_iload hx hb dL_law_574 (lv_at hl 0 rfl) ?_
  refine lv_iload hx hb dL_law_576 (lv_at hl 10 rfl) ?_
  refine lv_iload hx hb dL_law_578 (lv_at hl 6 rfl) ?_
  refine lv_iload hx hb dL_law_580 (lv_at hl 10 rfl) ?_
  refine lv_isub hx hb dL_law_582 ?_
  refine h_ev (y := nI (hNow h - y)) (pk_sub hy) ?_
  refine h_callV (rest := []) X Y (c_triangle l G Mz3 S h hQv 1 y (hNow h - y) (by decide) hy (by omega)) gw_L_170 dsc_X11_triangle ho0 rfl rfl rfl hl.1 rfl (Nat.le_of_ble_eq_true rfl) ⟨Nat.le_of_ble_eq_true rfl, Nat.le_of_ble_eq_true rfl⟩ ⟨(by show _ ≤ 600086; first | omega | (dsimp only [hRm]; omega)), (by show _ ≤ 7301442; first | omega | (dsimp only [hRm]; omega))⟩ dL_law_583 ?_
  rintro _ Mz4 H locs ⟨rfl, hs9⟩ Y
  have hQv := hQv.sim hs9
  have ho0 := hQv.2.2.1.1
  try dsimp only [Option.toList, List.singleton_append]
  refine h_ev (y := nI c1) ec1 ?_
  refine lv_if_lt (tgt := 650) hx hb dL_law_586 (by decide) (fun c586 => absurd (show c1 < 0 from (nI_ltI (a := c1) (b := 0) (by omega) (by omega)).mp c586) (by omega)) (fun c586 => ?_)
  have c586 : ¬ c1 < 0 := fun z9 => c586 ((nI_ltI (a := c1) (b := 0) (by omega) (by omega)).mpr z9)
  refine lv_iload hx hb dL_law_589 (lv_at hl 0 rfl) ?_
  refine lv_iconst (v := 1) hx hb dL_law_591 (by decide) ?_
  refine lv_icmp_le (tgt := 626) hx hb dL_law_592 (by decide) (fun c592 => ?_) (fun c592 => absurd (by decide) c592)
  refine lv_aload_n hx hb dL_law_626 rfl (lv_at hl 2 rfl) ?_
  refine lv_iload hx hb dL_law_627 (lv_at hl 0 rfl) ?_
  refine lv_iload hx hb dL_law_629 (lv_at hl 10 rfl) ?_
  refine lv_iconst (v := 1) hx hb dL_law_631 (by decide) ?_
  refine h_callV (rest := []) X Y (c_ultimate l G Mz4 S h hQv 1 y true (by decide) hy) gw_L_173 dsc_X11_ultimate ho0 rfl rfl rfl hl.1 rfl (Nat.le_of_ble_eq_true rfl) ⟨Nat.le_of_ble_eq_true rfl, Nat.le_of_ble_eq_true rfl⟩ ⟨(by show _ ≤ 600086; first | omega | (dsimp only [hRm]; omega)), (by show _ ≤ 7301442; first | omega | (dsimp only [hRm]; omega))⟩ dL_law_632 ?_
  rintro _ Mz5 H locs ⟨rfl, hs9⟩ Y
  have hQv := hQv.sim hs9
  have ho0 := hQv.2.2.1.1
  try dsimp only [Option.toList, List.singleton_append]
  refine h_ev (y := nI v1) ((if_pos rfl).trans ev1) ?_
  refine lv_if_lt (tgt := 650) hx hb dL_law_635 (by decide) (fun c635 => absurd (show v1 < 0 from (nI_ltI (a := v1) (b := 0) (by omega) (by omega)).mp c635) (by omega)) (fun c635 => ?_)
  have c635 : ¬ v1 < 0 := fun z9 => c635 ((nI_ltI (a := v1) (b := 0) (by omega) (by omega)).mpr z9)
  refine lv_aload_n hx hb dL_law_638 rfl (lv_at hl 2 rfl) ?_
  refine lv_iload hx hb dL_law_639 (lv_at hl 0 rfl) ?_
  refine lv_iload hx hb dL_law_641 (lv_at hl 10 rfl) ?_
  refine lv_iconst (v := 0) hx hb dL_law_643 (by decide) ?_
  refine h_callV (rest := []) X Y (c_ultimate l G Mz5 S h hQv 1 y false (by decide) hy) gw_L_173 dsc_X11_ultimate ho0 rfl rfl rfl hl.1 rfl (Nat.le_of_ble_eq_true rfl) ⟨Nat.le_of_ble_eq_true rfl, Nat.le_of_ble_eq_true rfl⟩ ⟨(by show _ ≤ 600086; first | omega | (dsimp only [hRm]; omega)), (by show _ ≤ 7301442; first | omega | (dsimp only [hRm]; omega))⟩ dL_law_644 ?_
  rintro _ Mz6 H locs ⟨rfl, hs9⟩ Y
  have hQv := hQv.sim hs9
  have ho0 := hQv.2.2.1.1
  try dsimp only [Option.toList, List.singleton_append]
  refine h_ev (y := nI u1) ((if_neg (by decide)).trans eu1) ?_
  refine lv_if_ge (tgt := 652) hx hb dL_law_647 (by decide) (fun c647 => ?_) (fun c647 => absurd (show ¬ 0 ≤ u1 from fun z9 => c647 ((nI_leI (a := 0) (b := u1) (by omega) (by omega)).mpr z9)) (by omega))
  have c647 : 0 ≤ u1 := (nI_leI (a := 0) (b := u1) (by omega) (by omega)).mp c647
  refine lv_iinc (v := nI 2) (lv' := [(13, .int (nI 2)), (0, .ref G.2.1), (1, .ref (sA S 0)), (2, .ref tt), (3, .ref bb), (4, .int (nI (sM S))), (5, .int (nI (hNow h))), (6, .long sm), (8, .long al), (10, .long ic), (12, .int (nI y))]) hx hb dL_law_652 hl (k := 0) rfl (by decide) (by decide) rfl (fun ls hl => ?_)
  refine lv_goto (tgt := 567) hx hb dL_law_655 (by decide) ?_
  refine lv_iload hx hb dL_law_567 (lv_at hl 0 rfl) ?_
  refine lv_iconst (v := 4) hx hb dL_law_569 (by decide) ?_
  refine lv_icmp_ge (tgt := 658) hx hb dL_law_570 (by decide) (fun c570 => absurd c570 (by decide)) (fun c570 => ?_)
  refine lv_aload_n hx hb dL_law_573 rfl (lv_at hl 2 rfl) ?_
  refine lv_iload hx hb dL_law_574 (lv_at hl 0 rfl) ?_
  refine lv_iload hx hb dL_law_576 (lv_at hl 10 rfl) ?_
  refine lv_iload hx hb dL_law_578 (lv_at hl 6 rfl) ?_
  refine lv_iload hx hb dL_law_580 (lv_at hl 10 rfl) ?_
  refine lv_isub hx hb dL_law_582 ?_
  refine h_ev (y := nI (hNow h - y)) (pk_sub hy) ?_
  refine h_callV (rest := []) X Y (c_triangle l G Mz6 S h hQv 2 y (hNow h - y) (by decide) hy (by omega)) gw_L_170 dsc_X11_triangle ho0 rfl rfl rfl hl.1 rfl (Nat.le_of_ble_eq_true rfl) ⟨Nat.le_of_ble_eq_true rfl, Nat.le_of_ble_eq_true rfl⟩ ⟨(by show _ ≤ 600086; first | omega | (dsimp only [hRm]; omega)), (by show _ ≤ 7301442; first | omega | (dsimp only [hRm]; omega))⟩ dL_law_583 ?_
  rintro _ Mz7 H locs ⟨rfl, hs9⟩ Y
  have hQv := hQv.sim hs9
  have ho0 := hQv.2.2.1.1
  try dsimp only [Option.toList, List.singleton_append]
  refine h_ev (y := nI c2) ec2 ?_
  refine lv_if_lt (tgt := 650) hx hb dL_law_586 (by decide) (fun c586 => absurd (show c2 < 0 from (nI_ltI (a := c2) (b := 0) (by omega) (by omega)).mp c586) (by omega)) (fun c586 => ?_)
  have c586 : ¬ c2 < 0 := fun z9 => c586 ((nI_ltI (a := c2) (b := 0) (by omega) (by omega)).mpr z9)
  refine lv_iload hx hb dL_law_589 (lv_at hl 0 rfl) ?_
  refine lv_iconst (v := 1) hx hb dL_law_591 (by decide) ?_
  refine lv_icmp_le (tgt := 626) hx hb dL_law_592 (by decide) (fun c592 => absurd c592 (by decide)) (fun c592 => ?_)
  refine lv_aload_n hx hb dL_law_595 rfl (lv_at hl 2 rfl) ?_
  refine lv_iload hx hb dL_law_596 (lv_at hl 0 rfl) ?_
  refine lv_iload hx hb dL_law_598 (lv_at hl 10 rfl) ?_
  refine lv_iload hx hb dL_law_600 (lv_at hl 6 rfl) ?_
  refine lv_iload hx hb dL_law_602 (lv_at hl 10 rfl) ?_
  refine lv_isub hx hb dL_law_604 ?_
  refine h_ev (y := nI (hNow h - y)) (pk_sub hy) ?_
  refine h_callV (rest := []) X Y (c_triangle l G Mz7 S h hQv 2 y (hNow h - y) (by decide) hy (by omega)) gw_L_170 dsc_X11_triangle ho0 rfl rfl rfl hl.1 rfl (Nat.le_of_ble_eq_true rfl) ⟨Nat.le_of_ble_eq_true rfl, Nat.le_of_ble_eq_true rfl⟩ ⟨(by show _ ≤ 600086; first | omega | (dsimp only [hRm]; omega)), (by show _ ≤ 7301442; first | omega | (dsimp only [hRm]; omega))⟩ dL_law_605 ?_
  rintro _ Mz8 H locs ⟨rfl, hs9⟩ Y
  have hQv := hQv.sim hs9
  have ho0 := hQv.2.2.1.1
  try dsimp only [Option.toList, List.singleton_append]
  refine h_ev (y := nI c2) ec2 ?_
  refine lv_aload_n hx hb dL_law_608 rfl (lv_at hl 2 rfl) ?_
  refine lv_iload hx hb dL_law_609 (lv_at hl 0 rfl) ?_
  refine lv_iconst (v := 2) hx hb dL_law_611 (by decide) ?_
  refine lv_isub hx hb dL_law_612 ?_
  refine h_ev (y := nI 0) (by decide) ?_
  refine h_ev (y := nI 0) (by decide) ?_
  refine lv_iload hx hb dL_law_613 (lv_at hl 10 rfl) ?_
  refine lv_iload hx hb dL_law_615 (lv_at hl 6 rfl) ?_
  refine lv_iload hx hb dL_law_617 (lv_at hl 10 rfl) ?_
  refine lv_isub hx hb dL_law_619 ?_
  refine h_ev (y := nI (hNow h - y)) (pk_sub hy) ?_
  refine h_callV (rest := [.int (nI c2)]) X Y (c_triangle l G Mz8 S h hQv 0 y (hNow h - y) (by decide) hy (by omega)) gw_L_170 dsc_X11_triangle ho0 rfl rfl rfl hl.1 rfl (Nat.le_of_ble_eq_true rfl) ⟨Nat.le_of_ble_eq_true rfl, Nat.le_of_ble_eq_true rfl⟩ ⟨(by show _ ≤ 600086; first | omega | (dsimp only [hRm]; omega)), (by show _ ≤ 7301442; first | omega | (dsimp only [hRm]; omega))⟩ dL_law_620 ?_
  rintro _ Mz9 H locs ⟨rfl, hs9⟩ Y
  have hQv := hQv.sim hs9
  have ho0 := hQv.2.2.1.1
  try dsimp only [Option.toList, List.singleton_append]
  refine h_ev (y := nI c0) ec0 ?_
  refine lv_icmp_gt (tgt := 650) hx hb dL_law_623 (by decide) (fun c623 => absurd (show c0 < c2 from (nI_ltI (a := c0) (b := c2) (by omega) (by omega)).mp c623) (by omega)) (fun c623 => ?_)
  have c623 : ¬ c0 < c2 := fun z9 => c623 ((nI_ltI (a := c0) (b := c2) (by omega) (by omega)).mpr z9)
  refine lv_aload_n hx hb dL_law_626 rfl (lv_at hl 2 rfl) ?_
  refine lv_iload hx hb dL_law_627 (lv_at hl 0 rfl) ?_
  refine lv_iload hx hb dL_law_629 (lv_at hl 10 rfl) ?_
  refine lv_iconst (v := 1) hx hb dL_law_631 (by decide) ?_
  refine h_callV (rest := []) X Y (c_ultimate l G Mz9 S h hQv 2 y true (by decide) hy) gw_L_173 dsc_X11_ultimate ho0 rfl rfl rfl hl.1 rfl (Nat.le_of_ble_eq_true rfl) ⟨Nat.le_of_ble_eq_true rfl, Nat.le_of_ble_eq_true rfl⟩ ⟨(by show _ ≤ 600086; first | omega | (dsimp only [hRm]; omega)), (by show _ ≤ 7301442; first | omega | (dsimp only [hRm]; omega))⟩ dL_law_632 ?_
  rintro _ Mz10 H locs ⟨rfl, hs9⟩ Y
  have hQv := hQv.sim hs9
  have ho0 := hQv.2.2.1.1
  try dsimp only [Option.toList, List.singleton_append]
  refine h_ev (y := nI v2) ((if_pos rfl).trans ev2) ?_
  refine lv_if_lt (tgt := 650) hx hb dL_law_635 (by decide) (fun c635 => absurd (show v2 < 0 from (nI_ltI (a := v2) (b := 0) (by omega) (by omega)).mp c635) (by omega)) (fun c635 => ?_)
  have c635 : ¬ v2 < 0 := fun z9 => c635 ((nI_ltI (a := v2) (b := 0) (by omega) (by omega)).mpr z9)
  refine lv_aload_n hx hb dL_law_638 rfl (lv_at hl 2 rfl) ?_
  refine lv_iload hx hb dL_law_639 (lv_at hl 0 rfl) ?_
  refine lv_iload hx hb dL_law_641 (lv_at hl 10 rfl) ?_
  refine lv_iconst (v := 0) hx hb dL_law_643 (by decide) ?_
  refine h_callV (rest := []) X Y (c_ultimate l G Mz10 S h hQv 2 y false (by decide) hy) gw_L_173 dsc_X11_ultimate ho0 rfl rfl rfl hl.1 rfl (Nat.le_of_ble_eq_true rfl) ⟨Nat.le_of_ble_eq_true rfl, Nat.le_of_ble_eq_true rfl⟩ ⟨(by show _ ≤ 600086; first | omega | (dsimp only [hRm]; omega)), (by show _ ≤ 7301442; first | omega | (dsimp only [hRm]; omega))⟩ dL_law_644 ?_
  rintro _ Mz11 H locs ⟨rfl, hs9⟩ Y
  have hQv := hQv.sim hs9
  have ho0 := hQv.2.2.1.1
  try dsimp only [Option.toList, List.singleton_append]
  refine h_ev (y := nI u2) ((if_neg (by decide)).trans eu2) ?_
  refine lv_if_ge (tgt := 652) hx hb dL_law_647 (by decide) (fun c647 => ?_) (fun c647 => absurd (show ¬ 0 ≤ u2 from fun z9 => c647 ((nI_leI (a := 0) (b := u2) (by omega) (by omega)).mpr z9)) (by omega))
  have c647 : 0 ≤ u2 := (nI_leI (a := 0) (b := u2) (by omega) (by omega)).mp c647
  refine lv_iinc (v := nI 3) (lv' := [(13, .int (nI 3)), (0, .ref G.2.1), (1, .ref (sA S 0)), (2, .ref tt), (3, .ref bb), (4, .int (nI (sM S))), (5, .int (nI (hNow h))), (6, .long sm), (8, .long al), (10, .long ic), (12, .int (nI y))]) hx hb dL_law_652 hl (k := 0) rfl (by decide) (by decide) rfl (fun ls hl => ?_)
  refine lv_goto (tgt := 567) hx hb dL_law_655 (by decide) ?_
  refine lv_iload hx hb dL_law_567 (lv_at hl 0 rfl) ?_
  refine lv_iconst (v := 4) hx hb dL_law_569 (by decide) ?_
  refine lv_icmp_ge (tgt := 658) hx hb dL_law_570 (by decide) (fun c570 => absurd c570 (by decide)) (fun c570 => ?_)
  refine lv_aload_n hx hb dL_law_573 rfl (lv_at hl 2 rfl) ?_
  refine lv_iload hx hb dL_law_574 (lv_at hl 0 rfl) ?_
  refine lv_iload hx hb dL_law_576 (lv_at hl 10 rfl) ?_
  refine lv_iload hx hb dL_law_578 (lv_at hl 6 rfl) ?_
  refine lv_iload hx hb dL_law_580 (lv_at hl 10 rfl) ?_
  refine lv_isub hx hb dL_law_582 ?_
  refine h_ev (y := nI (hNow h - y)) (pk_sub hy) ?_
  refine h_callV (rest := []) X Y (c_triangle l G Mz11 S h hQv 3 y (hNow h - y) (by decide) hy (by omega)) gw_L_170 dsc_X11_triangle ho0 rfl rfl rfl hl.1 rfl (Nat.le_of_ble_eq_true rfl) ⟨Nat.le_of_ble_eq_true rfl, Nat.le_of_ble_eq_true rfl⟩ ⟨(by show _ ≤ 600086; first | omega | (dsimp only [hRm]; omega)), (by show _ ≤ 7301442; first | omega | (dsimp only [hRm]; omega))⟩ dL_law_583 ?_
  rintro _ Mz12 H locs ⟨rfl, hs9⟩ Y
  have hQv := hQv.sim hs9
  have ho0 := hQv.2.2.1.1
  try dsimp only [Option.toList, List.singleton_append]
  refine h_ev (y := nI c3) ec3 ?_
  refine lv_if_lt (tgt := 650) hx hb dL_law_586 (by decide) (fun c586 => absurd (show c3 < 0 from (nI_ltI (a := c3) (b := 0) (by omega) (by omega)).mp c586) (by omega)) (fun c586 => ?_)
  have c586 : ¬ c3 < 0 := fun z9 => c586 ((nI_ltI (a := c3) (b := 0) (by omega) (by omega)).mpr z9)
  refine lv_iload hx hb dL_law_589 (lv_at hl 0 rfl) ?_
  refine lv_iconst (v := 1) hx hb dL_law_591 (by decide) ?_
  refine lv_icmp_le (tgt := 626) hx hb dL_law_592 (by decide) (fun c592 => absurd c592 (by decide)) (fun c592 => ?_)
  refine lv_aload_n hx hb dL_law_595 rfl (lv_at hl 2 rfl) ?_
  refine lv_iload hx hb dL_law_596 (lv_at hl 0 rfl) ?_
  refine lv_iload hx hb dL_law_598 (lv_at hl 10 rfl) ?_
  refine lv_iload hx hb dL_law_600 (lv_at hl 6 rfl) ?_
  refine lv_iload hx hb dL_law_602 (lv_at hl 10 rfl) ?_
  refine lv_isub hx hb dL_law_604 ?_
  refine h_ev (y := nI (hNow h - y)) (pk_sub hy) ?_
  refine h_callV (rest := []) X Y (c_triangle l G Mz12 S h hQv 3 y (hNow h - y) (by decide) hy (by omega)) gw_L_170 dsc_X11_triangle ho0 rfl rfl rfl hl.1 rfl (Nat.le_of_ble_eq_true rfl) ⟨Nat.le_of_ble_eq_true rfl, Nat.le_of_ble_eq_true rfl⟩ ⟨(by show _ ≤ 600086; first | omega | (dsimp only [hRm]; omega)), (by show _ ≤ 7301442; first | omega | (dsimp only [hRm]; omega))⟩ dL_law_605 ?_
  rintro _ Mz13 H locs ⟨rfl, hs9⟩ Y
  have hQv := hQv.sim hs9
  have ho0 := hQv.2.2.1.1
  try dsimp only [Option.toList, List.singleton_append]
  refine h_ev (y := nI c3) ec3 ?_
  refine lv_aload_n hx hb dL_law_608 rfl (lv_at hl 2 rfl) ?_
  refine lv_iload hx hb dL_law_609 (lv_at hl 0 rfl) ?_
  refine lv_iconst (v := 2) hx hb dL_law_611 (by decide) ?_
  refine lv_isub hx hb dL_law_612 ?_
  refine h_ev (y := nI 1) (by decide) ?_
  refine h_ev (y := nI 1) (by decide) ?_
  refine lv_iload hx hb dL_law_613 (lv_at hl 10 rfl) ?_
  refine lv_iload hx hb dL_law_615 (lv_at hl 6 rfl) ?_
  refine lv_iload hx hb dL_law_617 (lv_at hl 10 rfl) ?_
  refine lv_isub hx hb dL_law_619 ?_
  refine h_ev (y := nI (hNow h - y)) (pk_sub hy) ?_
  refine h_callV (rest := [.int (nI c3)]) X Y (c_triangle l G Mz13 S h hQv 1 y (hNow h - y) (by decide) hy (by omega)) gw_L_170 dsc_X11_triangle ho0 rfl rfl rfl hl.1 rfl (Nat.le_of_ble_eq_true rfl) ⟨Nat.le_of_ble_eq_true rfl, Nat.le_of_ble_eq_true rfl⟩ ⟨(by show _ ≤ 600086; first | omega | (dsimp only [hRm]; omega)), (by show _ ≤ 7301442; first | omega | (dsimp only [hRm]; omega))⟩ dL_law_620 ?_
  rintro _ Mz14 H locs ⟨rfl, hs9⟩ Y
  have hQv := hQv.sim hs9
  have ho0 := hQv.2.2.1.1
  try dsimp only [Option.toList, List.singleton_append]
  refine h_ev (y := nI c1) ec1 ?_
  refine lv_icmp_gt (tgt := 650) hx hb dL_law_623 (by decide) (fun c623 => absurd (show c1 < c3 from (nI_ltI (a := c1) (b := c3) (by omega) (by omega)).mp c623) (by omega)) (fun c623 => ?_)
  have c623 : ¬ c1 < c3 := fun z9 => c623 ((nI_ltI (a := c1) (b := c3) (by omega) (by omega)).mpr z9)
  refine lv_aload_n hx hb dL_law_626 rfl (lv_at hl 2 rfl) ?_
  refine lv_iload hx hb dL_law_627 (lv_at hl 0 rfl) ?_
  refine lv_iload hx hb dL_law_629 (lv_at hl 10 rfl) ?_
  refine lv_iconst (v := 1) hx hb dL_law_631 (by decide) ?_
  refine h_callV (rest := []) X Y (c_ultimate l G Mz14 S h hQv 3 y true (by decide) hy) gw_L_173 dsc_X11_ultimate ho0 rfl rfl rfl hl.1 rfl (Nat.le_of_ble_eq_true rfl) ⟨Nat.le_of_ble_eq_true rfl, Nat.le_of_ble_eq_true rfl⟩ ⟨(by show _ ≤ 600086; first | omega | (dsimp only [hRm]; omega)), (by show _ ≤ 7301442; first | omega | (dsimp only [hRm]; omega))⟩ dL_law_632 ?_
  rintro _ Mz15 H locs ⟨rfl, hs9⟩ Y
  have hQv := hQv.sim hs9
  have ho0 := hQv.2.2.1.1
  try dsimp only [Option.toList, List.singleton_append]
  refine h_ev (y := nI v3) ((if_pos rfl).trans ev3) ?_
  refine lv_if_lt (tgt := 650) hx hb dL_law_635 (by decide) (fun c635 => absurd (show v3 < 0 from (nI_ltI (a := v3) (b := 0) (by omega) (by omega)).mp c635) (by omega)) (fun c635 => ?_)
  have c635 : ¬ v3 < 0 := fun z9 => c635 ((nI_ltI (a := v3) (b := 0) (by omega) (by omega)).mpr z9)
  refine lv_aload_n hx hb dL_law_638 rfl (lv_at hl 2 rfl) ?_
  refine lv_iload hx hb dL_law_639 (lv_at hl 0 rfl) ?_
  refine lv_iload hx hb dL_law_641 (lv_at hl 10 rfl) ?_
  refine lv_iconst (v := 0) hx hb dL_law_643 (by decide) ?_
  refine h_callV (rest := []) X Y (c_ultimate l G Mz15 S h hQv 3 y false (by decide) hy) gw_L_173 dsc_X11_ultimate ho0 rfl rfl rfl hl.1 rfl (Nat.le_of_ble_eq_true rfl) ⟨Nat.le_of_ble_eq_true rfl, Nat.le_of_ble_eq_true rfl⟩ ⟨(by show _ ≤ 600086; first | omega | (dsimp only [hRm]; omega)), (by show _ ≤ 7301442; first | omega | (dsimp only [hRm]; omega))⟩ dL_law_644 ?_
  rintro _ Mz16 H locs ⟨rfl, hs9⟩ Y
  have hQv := hQv.sim hs9
  have ho0 := hQv.2.2.1.1
  try dsimp only [Option.toList, List.singleton_append]
  refine h_ev (y := nI u3) ((if_neg (by decide)).trans eu3) ?_
  refine lv_if_ge (tgt := 652) hx hb dL_law_647 (by decide) (fun c647 => ?_) (fun c647 => absurd (show ¬ 0 ≤ u3 from fun z9 => c647 ((nI_leI (a := 0) (b := u3) (by omega) (by omega)).mpr z9)) (by omega))
  have c647 : 0 ≤ u3 := (nI_leI (a := 0) (b := u3) (by omega) (by omega)).mp c647
  refine lv_iinc (v := nI 4) (lv' := [(13, .int (nI 4)), (0, .ref G.2.1), (1, .ref (sA S 0)), (2, .ref tt), (3, .ref bb), (4, .int (nI (sM S))), (5, .int (nI (hNow h))), (6, .long sm), (8, .long al), (10, .long ic), (12, .int (nI y))]) hx hb dL_law_652 hl (k := 0) rfl (by decide) (by decide) rfl (fun ls hl => ?_)
  refine lv_goto (tgt := 567) hx hb dL_law_655 (by decide) ?_
  refine lv_iload hx hb dL_law_567 (lv_at hl 0 rfl) ?_
  refine lv_iconst (v := 4) hx hb dL_law_569 (by decide) ?_
  refine lv_icmp_ge (tgt := 658) hx hb dL_law_570 (by decide) (fun c570 => ?_) (fun c570 => absurd (by decide) c570)
  have hfr : hFr (fun u => 4000 ≤ u) Mz16 Mz16 := hFr.rf
  refine lv_iconst (v := 4) hx hb dL_law_658 (by decide) ?_
  refine h_newI X Y (4850) (n := 4) (by decide) (by show _ ≤ 600086; first | omega | (dsimp only [hRm]; omega)) (by show _ ≤ 7301442; first | omega | (dsimp only [hRm]; omega)) dL_law_659 (fun qz17 Mz17 H fz17 hg17 Y => ?_)
  have hfr := hfr.grow hg17
  refine lv_astore (lv' := [(13, .ref qz17), (0, .ref G.2.1), (1, .ref (sA S 0)), (2, .ref tt), (3, .ref bb), (4, .int (nI (sM S))), (5, .int (nI (hNow h))), (6, .long sm), (8, .long al), (10, .long ic), (12, .int (nI y))]) hx hb dL_law_661 hl (by decide) rfl (fun ls hl => ?_)
  refine lv_iconst (v := 4) hx hb dL_law_663 (by decide) ?_
  refine h_newI X Y (4851) (n := 4) (by decide) (by show _ ≤ 600086; first | omega | (dsimp only [hRm]; omega)) (by show _ ≤ 7301442; first | omega | (dsimp only [hRm]; omega)) dL_law_664 (fun qz18 Mz18 H fz18 hg18 Y => ?_)
  have fz17 := hg18 _ _ fz17
  have hfr := hfr.grow hg18
  refine lv_dup hx hb dL_law_666 rfl ?_
  refine lv_iconst (v := 0) hx hb dL_law_667 (by decide) ?_
  refine lv_iconst (v := 2) hx hb dL_law_668 (by decide) ?_
  refine h_iast X Y (i := 0) fz18 (by omega) (by decide) dL_law_669 (fun H locs Y => ?_)
  have fz17 := hup_tag (x := (4851, .inl (hT G 0, 4, .inl (upd (fun _ => 0) 0 2)))) fz17 fz18 (by omega)
  have hfr := hfr.put (x := (4851, .inl (hT G 0, 4, .inl (upd (fun _ => 0) 0 2)))) fz18 (by decide)
  have fz18 : hup Mz18 qz18 (4851, .inl (hT G 0, 4, .inl (upd (fun _ => 0) 0 2))) qz18 = some (4851, .inl (hT G 0, 4, .inl (upd (fun _ => 0) 0 2))) := hup_eq
  generalize hup Mz18 qz18 (4851, .inl (hT G 0, 4, .inl (upd (fun _ => 0) 0 2))) = Mz19 at Y fz18 fz17 hfr
  refine lv_dup hx hb dL_law_670 rfl ?_
  refine lv_iconst (v := 1) hx hb dL_law_671 (by decide) ?_
  refine lv_iconst (v := 4) hx hb dL_law_672 (by decide) ?_
  refine h_iast X Y (i := 1) fz18 (by omega) (by decide) dL_law_673 (fun H locs Y => ?_)
  have fz17 := hup_tag (x := (4851, .inl (hT G 0, 4, .inl (upd (upd (fun _ => 0) 0 2) 1 4)))) fz17 fz18 (by omega)
  have hfr := hfr.put (x := (4851, .inl (hT G 0, 4, .inl (upd (upd (fun _ => 0) 0 2) 1 4)))) fz18 (by decide)
  have fz18 : hup Mz19 qz18 (4851, .inl (hT G 0, 4, .inl (upd (upd (fun _ => 0) 0 2) 1 4))) qz18 = some (4851, .inl (hT G 0, 4, .inl (upd (upd (fun _ => 0) 0 2) 1 4))) := hup_eq
  generalize hup Mz19 qz18 (4851, .inl (hT G 0, 4, .inl (upd (upd (fun _ => 0) 0 2) 1 4))) = Mz20 at Y fz18 fz17 hfr
  refine lv_dup hx hb dL_law_674 rfl ?_
  refine lv_iconst (v := 2) hx hb dL_law_675 (by decide) ?_
  refine lv_bipush (v := 6) hx hb dL_law_676 (by decide) ?_
  refine h_iast X Y (i := 2) fz18 (by omega) (by decide) dL_law_678 (fun H locs Y => ?_)
  have fz17 := hup_tag (x := (4851, .inl (hT G 0, 4, .inl (upd (upd (upd (fun _ => 0) 0 2) 1 4) 2 6)))) fz17 fz18 (by omega)
  have hfr := hfr.put (x := (4851, .inl (hT G 0, 4, .inl (upd (upd (upd (fun _ => 0) 0 2) 1 4) 2 6)))) fz18 (by decide)
  have fz18 : hup Mz20 qz18 (4851, .inl (hT G 0, 4, .inl (upd (upd (upd (fun _ => 0) 0 2) 1 4) 2 6))) qz18 = some (4851, .inl (hT G 0, 4, .inl (upd (upd (upd (fun _ => 0) 0 2) 1 4) 2 6))) := hup_eq
  generalize hup Mz20 qz18 (4851, .inl (hT G 0, 4, .inl (upd (upd (upd (fun _ => 0) 0 2) 1 4) 2 6))) = Mz21 at Y fz18 fz17 hfr
  refine lv_dup hx hb dL_law_679 rfl ?_
  refine lv_iconst (v := 3) hx hb dL_law_680 (by decide) ?_
  refine lv_bipush (v := 7) hx hb dL_law_681 (by decide) ?_
  refine h_iast X Y (i := 3) fz18 (by omega) (by decide) dL_law_683 (fun H locs Y => ?_)
  have fz17 := hup_tag (x := (4851, .inl (hT G 0, 4, .inl (upd (upd (upd (upd (fun _ => 0) 0 2) 1 4) 2 6) 3 7)))) fz17 fz18 (by omega)
  have hfr := hfr.put (x := (4851, .inl (hT G 0, 4, .inl (upd (upd (upd (upd (fun _ => 0) 0 2) 1 4) 2 6) 3 7)))) fz18 (by decide)
  have fz18 : hup Mz21 qz18 (4851, .inl (hT G 0, 4, .inl (upd (upd (upd (upd (fun _ => 0) 0 2) 1 4) 2 6) 3 7))) qz18 = some (4851, .inl (hT G 0, 4, .inl (upd (upd (upd (upd (fun _ => 0) 0 2) 1 4) 2 6) 3 7))) := hup_eq
  generalize hup Mz21 qz18 (4851, .inl (hT G 0, 4, .inl (upd (upd (upd (upd (fun _ => 0) 0 2) 1 4) 2 6) 3 7))) = Mz22 at Y fz18 fz17 hfr
  refine lv_astore (lv' := [(14, .ref qz18), (13, .ref qz17), (0, .ref G.2.1), (1, .ref (sA S 0)), (2, .ref tt), (3, .ref bb), (4, .int (nI (sM S))), (5, .int (nI (hNow h))), (6, .long sm), (8, .long al), (10, .long ic), (12, .int (nI y))]) hx hb dL_law_684 hl (by decide) rfl (fun ls hl => ?_)
  refine lv_iconst (v := 0) hx hb dL_law_686 (by decide) ?_
  refine lv_istore (lv' := [(15, .int 0), (14, .ref qz18), (13, .ref qz17), (0, .ref G.2.1), (1, .ref (sA S 0)), (2, .ref tt), (3, .ref bb), (4, .int (nI (sM S))), (5, .int (nI (hNow h))), (6, .long sm), (8, .long al), (10, .long ic), (12, .int (nI y))]) hx hb dL_law_687 hl (by decide) rfl (fun ls hl => ?_)
  obtain ⟨gw, hgw9⟩ : ∃ gw, gw = upd (upd (upd (upd (fun _ => 0) 0 2) 1 4) 2 6) 3 7 := ⟨_, rfl⟩
  rw [← hgw9] at fz18
  have hgw : ∀ k, k < 4 → gw k = nI (lwW k) := by rw [hgw9]; exact wh_v
  have hQv : QV G Mz22 S h := QV.fr9 hfr (fun u z => z) hQv
  have loop : ∀ (d i : Nat), i + d = sM S + 1 → i ≤ sM S → ∀ (M1 : hM) (g : Nat → Int32), QV G M1 S h → M1 qz17 = some (4850, .inl (hT G 0, 4, .inl g)) → M1 qz18 = some (4851, .inl (hT G 0, 4, .inl gw)) → (∀ k, k < 4 → g k = lwS S y (lwW k) i) → ∀ (H : Heap) (locs : List Loc) (ls : Array Slot), hHS G M1 s H locs → lv_has ls 18 [(0, .ref G.2.1), (1, .ref (sA S 0)), (2, .ref tt), (3, .ref bb), (4, .int (nI (sM S))), (5, .int (nI (hNow h))), (6, .long sm), (8, .long al), (10, .long ic), (12, .int (nI y)), (13, .ref qz17), (14, .ref qz18), (15, .int (nI i))] → W p l e (room_1) s m args below meth c H locs (cells + 2) (slots + 8) Q (F0 m 689 ls []) := by
    intro d
    induction d with
    | zero => intro i h1; intros; exact absurd h1 (by omega)
    | succ d ih =>
      intro i h1 h2 M1 g hQv ts tw hg H locs ls Y hl
      have ho0 := hQv.2.2.1.1
      have hfr : hFr (fun u => 4000 ≤ u) M1 M1 := hFr.rf
      refine lv_iload hx hb dL_law_689 (lv_at hl 12 rfl) ?_
      refine lv_iload hx hb dL_law_691 (lv_at hl 4 rfl) ?_
      refine lv_icmp_ge (tgt := 752) hx hb dL_law_693 (by decide) (fun c693 => ?_) (fun c693 => ?_)
      · have c693 : (sM S) ≤ i := (nI_leI (a := (sM S)) (b := i) (by omega) (by omega)).mp c693
        have hk9 : i = sM S := by omega
        subst hk9
        refine lv_iconst (v := 0) hx hb dL_law_752 (by decide) ?_
        refine lv_istore (lv' := [(15, .int 0), (0, .ref G.2.1), (1, .ref (sA S 0)), (2, .ref tt), (3, .ref bb), (4, .int (nI (sM S))), (5, .int (nI (hNow h))), (6, .long sm), (8, .long al), (10, .long ic), (12, .int (nI y)), (13, .ref qz17), (14, .ref qz18)]) hx hb dL_law_753 hl (by decide) rfl (fun ls hl => ?_)
        refine lv_iload hx hb dL_law_755 (lv_at hl 0 rfl) ?_
        refine lv_iconst (v := 4) hx hb dL_law_757 (by decide) ?_
        refine lv_icmp_ge (tgt := 790) hx hb dL_law_758 (by decide) (fun c758 => absurd c758 (by decide)) (fun c758 => ?_)
        refine lv_aload_n hx hb dL_law_761 rfl (lv_at hl 2 rfl) ?_
        refine lv_iload hx hb dL_law_762 (lv_at hl 0 rfl) ?_
        refine lv_iload hx hb dL_law_764 (lv_at hl 10 rfl) ?_
        refine lv_iload hx hb dL_law_766 (lv_at hl 6 rfl) ?_
        refine lv_iload hx hb dL_law_768 (lv_at hl 10 rfl) ?_
        refine lv_isub hx hb dL_law_770 ?_
        refine h_ev (y := nI (hNow h - y)) (pk_sub hy) ?_
        refine h_callV (rest := []) X Y (c_triangle l G M1 S h hQv 0 y (hNow h - y) (by decide) hy (by omega)) gw_L_170 dsc_X11_triangle ho0 rfl rfl rfl hl.1 rfl (Nat.le_of_ble_eq_true rfl) ⟨Nat.le_of_ble_eq_true rfl, Nat.le_of_ble_eq_true rfl⟩ ⟨(by show _ ≤ 600086; first | omega | (dsimp only [hRm]; omega)), (by show _ ≤ 7301442; first | omega | (dsimp only [hRm]; omega))⟩ dL_law_771 ?_
        rintro _ Mz23 H locs ⟨rfl, hs9⟩ Y
        have hQv := hQv.sim hs9
        have ho0 := hQv.2.2.1.1
        try dsimp only [Option.toList, List.singleton_append]
        refine h_ev (y := lwS S y (lwW 0) (sM S)) (tri_last (by decide) (by omega) (fun i hi => hGC.1.2.2.2 i hi |>.1)) ?_
        have ts := hs9.keep ts (hScr_no (by omega))
        have tw := hs9.keep tw (hScr_no (by omega))
        have hfr : hFr (fun u => 4000 ≤ u) Mz23 Mz23 := hFr.rf
        refine lv_aload hx hb dL_law_774 (lv_at hl 11 rfl) ?_
        refine lv_iload hx hb dL_law_776 (lv_at hl 0 rfl) ?_
        refine h_iald X Y (i := 0) ts (by omega) (by decide) dL_law_778 ?_
        refine h_ev (y := lwS S y (lwW 0) (sM S)) (hg 0 (by decide)) ?_
        refine lv_icmp_eq (tgt := 784) hx hb dL_law_779 (by decide) (fun c779 => ?_) (fun c779 => absurd rfl c779)
        refine lv_iinc (v := nI 1) (lv' := [(15, .int (nI 1)), (0, .ref G.2.1), (1, .ref (sA S 0)), (2, .ref tt), (3, .ref bb), (4, .int (nI (sM S))), (5, .int (nI (hNow h))), (6, .long sm), (8, .long al), (10, .long ic), (12, .int (nI y)), (13, .ref qz17), (14, .ref qz18)]) hx hb dL_law_784 hl (k := 0) rfl (by decide) (by decide) rfl (fun ls hl => ?_)
        refine lv_goto (tgt := 755) hx hb dL_law_787 (by decide) ?_
        refine lv_iload hx hb dL_law_755 (lv_at hl 0 rfl) ?_
        refine lv_iconst (v := 4) hx hb dL_law_757 (by decide) ?_
        refine lv_icmp_ge (tgt := 790) hx hb dL_law_758 (by decide) (fun c758 => absurd c758 (by decide)) (fun c758 => ?_)
        refine lv_aload_n hx hb dL_law_761 rfl (lv_at hl 2 rfl) ?_
        refine lv_iload hx hb dL_law_762 (lv_at hl 0 rfl) ?_
        refine lv_iload hx hb dL_law_764 (lv_at hl 10 rfl) ?_
        refine lv_iload hx hb dL_law_766 (lv_at hl 6 rfl) ?_
        refine lv_iload hx hb dL_law_768 (lv_at hl 10 rfl) ?_
        refine lv_isub hx hb dL_law_770 ?_
        refine h_ev (y := nI (hNow h - y)) (pk_sub hy) ?_
        refine h_callV (rest := []) X Y (c_triangle l G Mz23 S h hQv 1 y (hNow h - y) (by decide) hy (by omega)) gw_L_170 dsc_X11_triangle ho0 rfl rfl rfl hl.1 rfl (Nat.le_of_ble_eq_true rfl) ⟨Nat.le_of_ble_eq_true rfl, Nat.le_of_ble_eq_true rfl⟩ ⟨(by show _ ≤ 600086; first | omega | (dsimp only [hRm]; omega)), (by show _ ≤ 7301442; first | omega | (dsimp only [hRm]; omega))⟩ dL_law_771 ?_
        rintro _ Mz24 H locs ⟨rfl, hs9⟩ Y
        have hQv := hQv.sim hs9
        have ho0 := hQv.2.2.1.1
        try dsimp only [Option.toList, List.singleton_append]
        refine h_ev (y := lwS S y (lwW 1) (sM S)) (tri_last (by decide) (by omega) (fun i hi => hGC.1.2.2.2 i hi |>.1)) ?_
        have ts := hs9.keep ts (hScr_no (by omega))
        have tw := hs9.keep tw (hScr_no (by omega))
        have hfr : hFr (fun u => 4000 ≤ u) Mz24 Mz24 := hFr.rf
        refine lv_aload hx hb dL_law_774 (lv_at hl 11 rfl) ?_
        refine lv_iload hx hb dL_law_776 (lv_at hl 0 rfl) ?_
        refine h_iald X Y (i := 1) ts (by omega) (by decide) dL_law_778 ?_
        refine h_ev (y := lwS S y (lwW 1) (sM S)) (hg 1 (by decide)) ?_
        refine lv_icmp_eq (tgt := 784) hx hb dL_law_779 (by decide) (fun c779 => ?_) (fun c779 => absurd rfl c779)
        refine lv_iinc (v := nI 2) (lv' := [(15, .int (nI 2)), (0, .ref G.2.1), (1, .ref (sA S 0)), (2, .ref tt), (3, .ref bb), (4, .int (nI (sM S))), (5, .int (nI (hNow h))), (6, .long sm), (8, .long al), (10, .long ic), (12, .int (nI y)), (13, .ref qz17), (14, .ref qz18)]) hx hb dL_law_784 hl (k := 0) rfl (by decide) (by decide) rfl (fun ls hl => ?_)
        refine lv_goto (tgt := 755) hx hb dL_law_787 (by decide) ?_
        refine lv_iload hx hb dL_law_755 (lv_at hl 0 rfl) ?_
        refine lv_iconst (v := 4) hx hb dL_law_757 (by decide) ?_
        refine lv_icmp_ge (tgt := 790) hx hb dL_law_758 (by decide) (fun c758 => absurd c758 (by decide)) (fun c758 => ?_)
        refine lv_aload_n hx hb dL_law_761 rfl (lv_at hl 2 rfl) ?_
        refine lv_iload hx hb dL_law_762 (lv_at hl 0 rfl) ?_
        refine lv_iload hx hb dL_law_764 (lv_at hl 10 rfl) ?_
        refine lv_iload hx hb dL_law_766 (lv_at hl 6 rfl) ?_
        refine lv_iload hx hb dL_law_768 (lv_at hl 10 rfl) ?_
        refine lv_isub hx hb dL_law_770 ?_
        refine h_ev (y := nI (hNow h - y)) (pk_sub hy) ?_
        refine h_callV (rest := []) X Y (c_triangle l G Mz24 S h hQv 2 y (hNow h - y) (by decide) hy (by omega)) gw_L_170 dsc_X11_triangle ho0 rfl rfl rfl hl.1 rfl (Nat.le_of_ble_eq_true rfl) ⟨Nat.le_of_ble_eq_true rfl, Nat.le_of_ble_eq_true rfl⟩ ⟨(by show _ ≤ 600086; first | omega | (dsimp only [hRm]; omega)), (by show _ ≤ 7301442; first | omega | (dsimp only [hRm]; omega))⟩ dL_law_771 ?_
        rintro _ Mz25 H locs ⟨rfl, hs9⟩ Y
        have hQv := hQv.sim hs9
        have ho0 := hQv.2.2.1.1
        try dsimp only [Option.toList, List.singleton_append]
        refine h_ev (y := lwS S y (lwW 2) (sM S)) (tri_last (by decide) (by omega) (fun i hi => hGC.1.2.2.2 i hi |>.1)) ?_
        have ts := hs9.keep ts (hScr_no (by omega))
        have tw := hs9.keep tw (hScr_no (by omega))
        have hfr : hFr (fun u => 4000 ≤ u) Mz25 Mz25 := hFr.rf
        refine lv_aload hx hb dL_law_774 (lv_at hl 11 rfl) ?_
        refine lv_iload hx hb dL_law_776 (lv_at hl 0 rfl) ?_
        refine h_iald X Y (i := 2) ts (by omega) (by decide) dL_law_778 ?_
        refine h_ev (y := lwS S y (lwW 2) (sM S)) (hg 2 (by decide)) ?_
        refine lv_icmp_eq (tgt := 784) hx hb dL_law_779 (by decide) (fun c779 => ?_) (fun c779 => absurd rfl c779)
        refine lv_iinc (v := nI 3) (lv' := [(15, .int (nI 3)), (0, .ref G.2.1), (1, .ref (sA S 0)), (2, .ref tt), (3, .ref bb), (4, .int (nI (sM S))), (5, .int (nI (hNow h))), (6, .long sm), (8, .long al), (10, .long ic), (12, .int (nI y)), (13, .ref qz17), (14, .ref qz18)]) hx hb dL_law_784 hl (k := 0) rfl (by decide) (by decide) rfl (fun ls hl => ?_)
        refine lv_goto (tgt := 755) hx hb dL_law_787 (by decide) ?_
        refine lv_iload hx hb dL_law_755 (lv_at hl 0 rfl) ?_
        refine lv_iconst (v := 4) hx hb dL_law_757 (by decide) ?_
        refine lv_icmp_ge (tgt := 790) hx hb dL_law_758 (by decide) (fun c758 => absurd c758 (by decide)) (fun c758 => ?_)
        refine lv_aload_n hx hb dL_law_761 rfl (lv_at hl 2 rfl) ?_
        refine lv_iload hx hb dL_law_762 (lv_at hl 0 rfl) ?_
        refine lv_iload hx hb dL_law_764 (lv_at hl 10 rfl) ?_
        refine lv_iload hx hb dL_law_766 (lv_at hl 6 rfl) ?_
        refine lv_iload hx hb dL_law_768 (lv_at hl 10 rfl) ?_
        refine lv_isub hx hb dL_law_770 ?_
        refine h_ev (y := nI (hNow h - y)) (pk_sub hy) ?_
        refine h_callV (rest := []) X Y (c_triangle l G Mz25 S h hQv 3 y (hNow h - y) (by decide) hy (by omega)) gw_L_170 dsc_X11_triangle ho0 rfl rfl rfl hl.1 rfl (Nat.le_of_ble_eq_true rfl) ⟨Nat.le_of_ble_eq_true rfl, Nat.le_of_ble_eq_true rfl⟩ ⟨(by show _ ≤ 600086; first | omega | (dsimp only [hRm]; omega)), (by show _ ≤ 7301442; first | omega | (dsimp only [hRm]; omega))⟩ dL_law_771 ?_
        rintro _ Mz26 H locs ⟨rfl, hs9⟩ Y
        have hQv := hQv.sim hs9
        have ho0 := hQv.2.2.1.1
        try dsimp only [Option.toList, List.singleton_append]
        refine h_ev (y := lwS S y (lwW 3) (sM S)) (tri_last (by decide) (by omega) (fun i hi => hGC.1.2.2.2 i hi |>.1)) ?_
        have ts := hs9.keep ts (hScr_no (by omega))
        have tw := hs9.keep tw (hScr_no (by omega))
        have hfr : hFr (fun u => 4000 ≤ u) Mz26 Mz26 := hFr.rf
        refine lv_aload hx hb dL_law_774 (lv_at hl 11 rfl) ?_
        refine lv_iload hx hb dL_law_776 (lv_at hl 0 rfl) ?_
        refine h_iald X Y (i := 3) ts (by omega) (by decide) dL_law_778 ?_
        refine h_ev (y := lwS S y (lwW 3) (sM S)) (hg 3 (by decide)) ?_
        refine lv_icmp_eq (tgt := 784) hx hb dL_law_779 (by decide) (fun c779 => ?_) (fun c779 => absurd rfl c779)
        refine lv_iinc (v := nI 4) (lv' := [(15, .int (nI 4)), (0, .ref G.2.1), (1, .ref (sA S 0)), (2, .ref tt), (3, .ref bb), (4, .int (nI (sM S))), (5, .int (nI (hNow h))), (6, .long sm), (8, .long al), (10, .long ic), (12, .int (nI y)), (13, .ref qz17), (14, .ref qz18)]) hx hb dL_law_784 hl (k := 0) rfl (by decide) (by decide) rfl (fun ls hl => ?_)
        refine lv_goto (tgt := 755) hx hb dL_law_787 (by decide) ?_
        refine lv_iload hx hb dL_law_755 (lv_at hl 0 rfl) ?_
        refine lv_iconst (v := 4) hx hb dL_law_757 (by decide) ?_
        refine lv_icmp_ge (tgt := 790) hx hb dL_law_758 (by decide) (fun c758 => ?_) (fun c758 => absurd (by decide) c758)
        refine lv_aload_n hx hb dL_law_790 rfl (lv_at hl 2 rfl) ?_
        refine lv_iconst (v := 2) hx hb dL_law_791 (by decide) ?_
        refine lv_iload hx hb dL_law_792 (lv_at hl 10 rfl) ?_
        refine h_callV (rest := []) X Y (c_reserve l G Mz26 S h hQv 2 y (by decide) hy) gw_L_176 dsc_X11_reserve ho0 rfl rfl rfl hl.1 rfl (Nat.le_of_ble_eq_true rfl) ⟨Nat.le_of_ble_eq_true rfl, Nat.le_of_ble_eq_true rfl⟩ ⟨(by show _ ≤ 600086; first | omega | (dsimp only [hRm]; omega)), (by show _ ≤ 7301442; first | omega | (dsimp only [hRm]; omega))⟩ dL_law_794 ?_
        rintro _ Mz27 H locs ⟨rfl, hs9⟩ Y
        have hQv := hQv.sim hs9
        have ho0 := hQv.2.2.1.1
        try dsimp only [Option.toList, List.singleton_append]
        refine h_ev (y := nI 0) (res_in (hpr y)) ?_
        have ts := hs9.keep ts (hScr_no (by omega))
        have tw := hs9.keep tw (hScr_no (by omega))
        have hfr : hFr (fun u => 4000 ≤ u) Mz27 Mz27 := hFr.rf
        refine lv_if_ge (tgt := 802) hx hb dL_law_797 (by decide) (fun c797 => ?_) (fun c797 => absurd (by decide) c797)
        refine lv_iinc (v := nI (y + 1)) (lv' := [(12, .int (nI (y + 1))), (15, .int (nI 4)), (0, .ref G.2.1), (1, .ref (sA S 0)), (2, .ref tt), (3, .ref bb), (4, .int (nI (sM S))), (5, .int (nI (hNow h))), (6, .long sm), (8, .long al), (10, .long ic), (13, .ref qz17), (14, .ref qz18)]) hx hb dL_law_802 hl (k := 10) rfl (nI_1 y) (by decide) rfl (fun ls hl => ?_)
        refine lv_goto (tgt := 557) hx hb dL_law_805 (by decide) ?_
        exact W.wid (by first | omega | (dsimp only [hRm]; omega) | (simp [hRm]; omega)) (by first | omega | (dsimp only [hRm]; omega) | (simp [hRm]; omega)) (kk _ _ _ _ Y hQv (lv_sub hl [2, 3, 4, 5, 6, 7, 8, 9, 10, 0] rfl))
      · have c693 : ¬ (sM S) ≤ i := fun z9 => c693 ((nI_leI (a := (sM S)) (b := i) (by omega) (by omega)).mpr z9)
        have hi : i < sM S := by omega
        have hyi := (hGC.1.2.2.2 i hi).1
        obtain ⟨pp, r, hpb, hrb, e1, e2, ea1, ea2, e4, hop⟩ := (hGC.2.2 i hi).1.am
        have hl7 := (lefts_in hGC false (-1) i hi).2
        have hl6 := (lefts_in hGC true (-1) i hi).2
        rw [vn_e (by omega) ea2] at hl7
        rw [vn_e (by omega) ea1] at hl6
        have hl7 : lfN S (-1) i ≤ pp + r := hl7
        have hl6 : vn (qLeft S true i) ≤ pp := hl6
        have hyn : clY (sC S i) ≤ hNow h := (hGC.2.2 i hi).2
        rcases Nat.decEq (clY (sC S i)) y |>.casesOn (motive := fun _ => clY (sC S i) = y ∨ ¬ clY (sC S i) = y) Or.inr Or.inl with hyes | hyes
        · refine lv_iconst (v := 0) hx hb dL_law_696 (by decide) ?_
          refine lv_istore (lv' := [(16, .int 0), (0, .ref G.2.1), (1, .ref (sA S 0)), (2, .ref tt), (3, .ref bb), (4, .int (nI (sM S))), (5, .int (nI (hNow h))), (6, .long sm), (8, .long al), (10, .long ic), (12, .int (nI y)), (13, .ref qz17), (14, .ref qz18), (15, .int (nI i))]) hx hb dL_law_697 hl (by decide) rfl (fun ls hl => ?_)
          refine lv_iload hx hb dL_law_699 (lv_at hl 0 rfl) ?_
          refine lv_iconst (v := 4) hx hb dL_law_701 (by decide) ?_
          refine lv_icmp_ge (tgt := 746) hx hb dL_law_702 (by decide) (fun c702 => absurd c702 (by decide)) (fun c702 => ?_)
          refine lv_aload hx hb dL_law_705 (lv_at hl 11 rfl) ?_
          refine lv_iload hx hb dL_law_707 (lv_at hl 0 rfl) ?_
          refine lv_dup2_11 hx hb dL_law_709 rfl rfl ?_
          refine h_iald X Y (i := 0) ts (by omega) (by decide) dL_law_710 ?_
          refine h_ev (y := lwS S y (lwW 0) i) (hg 0 (by decide)) ?_
          refine lv_aload_n hx hb dL_law_711 rfl (lv_at hl 2 rfl) ?_
          refine lv_iload hx hb dL_law_712 (lv_at hl 13 rfl) ?_
          refine lv_iconst (v := 0) hx hb dL_law_714 (by decide) ?_
          refine h_callV (rest := [.int (lwS S y (lwW 0) i), .int 0, .ref qz17]) X Y (c_claim l G M1 S h hQv i 0 hi (by decide)) gw_L_149 dsc_X11_claim ho0 rfl rfl rfl hl.1 rfl (Nat.le_of_ble_eq_true rfl) ⟨Nat.le_of_ble_eq_true rfl, Nat.le_of_ble_eq_true rfl⟩ ⟨(by show _ ≤ 600086; first | omega | (dsimp only [hRm]; omega)), (by show _ ≤ 7301442; first | omega | (dsimp only [hRm]; omega))⟩ dL_law_715 ?_
          rintro _ Mz28 H locs ⟨rfl, hs9⟩ Y
          have hQv := hQv.sim hs9
          have ho0 := hQv.2.2.1.1
          try dsimp only [Option.toList, List.singleton_append]
          refine h_ev (y := nI (clY (sC S i))) rfl ?_
          have ts := hs9.keep ts (hScr_no (by omega))
          have tw := hs9.keep tw (hScr_no (by omega))
          have hfr : hFr (fun u => 4000 ≤ u) Mz28 Mz28 := hFr.rf
          refine lv_iload hx hb dL_law_718 (lv_at hl 10 rfl) ?_
          refine lv_icmp_ne (tgt := 737) hx hb dL_law_720 (by decide) (fun c720 => absurd (show ¬ (clY (sC S i)) = y from fun z9 => c720 ((nI_eq (a := (clY (sC S i))) (b := y) (by omega) (by omega)).mpr z9)) (by omega)) (fun c720 => ?_)
          have c720 : (clY (sC S i)) = y := (nI_eq (a := (clY (sC S i))) (b := y) (by omega) (by omega)).mp c720
          refine lv_aload_n hx hb dL_law_723 rfl (lv_at hl 2 rfl) ?_
          refine lv_iload hx hb dL_law_724 (lv_at hl 13 rfl) ?_
          refine lv_aload hx hb dL_law_726 (lv_at hl 12 rfl) ?_
          refine lv_iload hx hb dL_law_728 (lv_at hl 0 rfl) ?_
          refine h_iald X Y (i := 0) tw (by omega) (by decide) dL_law_730 ?_
          refine h_ev (y := nI (lwW 0)) (hgw 0 (by decide)) ?_
          refine h_callV (rest := [.int (lwS S y (lwW 0) i), .int 0, .ref qz17]) X Y (c_claim l G Mz28 S h hQv i (lwW 0) hi (by decide)) gw_L_149 dsc_X11_claim ho0 rfl rfl rfl hl.1 rfl (Nat.le_of_ble_eq_true rfl) ⟨Nat.le_of_ble_eq_true rfl, Nat.le_of_ble_eq_true rfl⟩ ⟨(by show _ ≤ 600086; first | omega | (dsimp only [hRm]; omega)), (by show _ ≤ 7301442; first | omega | (dsimp only [hRm]; omega))⟩ dL_law_731 ?_
          rintro _ Mz29 H locs ⟨rfl, hs9⟩ Y
          have hQv := hQv.sim hs9
          have ho0 := hQv.2.2.1.1
          try dsimp only [Option.toList, List.singleton_append]
          have ts := hs9.keep ts (hScr_no (by omega))
          have tw := hs9.keep tw (hScr_no (by omega))
          have hfr : hFr (fun u => 4000 ≤ u) Mz29 Mz29 := hFr.rf
          refine lv_goto (tgt := 738) hx hb dL_law_734 (by decide) ?_
          refine lv_iadd hx hb dL_law_738 ?_
          refine h_ev (y := lwS S y (lwW 0) (i + 1)) (show _ = lwS S y (lwW 0) i + (if nI (clY (sC S i)) = nI y then qClaim S i (lwW 0) else 0) from by rw [if_pos (by rw [hyes])]) ?_
          refine h_iast X Y (i := 0) ts (by omega) (by decide) dL_law_739 (fun H locs Y => ?_)
          have tw := hup_tag (x := (4850, .inl (hT G 0, 4, .inl (upd g 0 (lwS S y (lwW 0) (i + 1)))))) tw ts (by omega)
          have hfr := hfr.put (x := (4850, .inl (hT G 0, 4, .inl (upd g 0 (lwS S y (lwW 0) (i + 1)))))) ts (by decide)
          have ts : hup Mz29 qz17 (4850, .inl (hT G 0, 4, .inl (upd g 0 (lwS S y (lwW 0) (i + 1))))) qz17 = some (4850, .inl (hT G 0, 4, .inl (upd g 0 (lwS S y (lwW 0) (i + 1))))) := hup_eq
          generalize hup Mz29 qz17 (4850, .inl (hT G 0, 4, .inl (upd g 0 (lwS S y (lwW 0) (i + 1))))) = Mz30 at Y ts tw hfr
          have hQv : QV G Mz30 S h := QV.fr9 hfr (fun u z => z) hQv
          have ho0 := hQv.2.2.1.1
          have hfr : hFr (fun u => 4000 ≤ u) Mz30 Mz30 := hFr.rf
          refine lv_iinc (v := nI 1) (lv' := [(16, .int (nI 1)), (0, .ref G.2.1), (1, .ref (sA S 0)), (2, .ref tt), (3, .ref bb), (4, .int (nI (sM S))), (5, .int (nI (hNow h))), (6, .long sm), (8, .long al), (10, .long ic), (12, .int (nI y)), (13, .ref qz17), (14, .ref qz18), (15, .int (nI i))]) hx hb dL_law_740 hl (k := 0) rfl (by decide) (by decide) rfl (fun ls hl => ?_)
          refine lv_goto (tgt := 699) hx hb dL_law_743 (by decide) ?_
          refine lv_iload hx hb dL_law_699 (lv_at hl 0 rfl) ?_
          refine lv_iconst (v := 4) hx hb dL_law_701 (by decide) ?_
          refine lv_icmp_ge (tgt := 746) hx hb dL_law_702 (by decide) (fun c702 => absurd c702 (by decide)) (fun c702 => ?_)
          refine lv_aload hx hb dL_law_705 (lv_at hl 11 rfl) ?_
          refine lv_iload hx hb dL_law_707 (lv_at hl 0 rfl) ?_
          refine lv_dup2_11 hx hb dL_law_709 rfl rfl ?_
          refine h_iald X Y (i := 1) ts (by omega) (by decide) dL_law_710 ?_
          refine h_ev (y := lwS S y (lwW 1) i) ((pk_un (by decide)).trans (hg 1 (by decide))) ?_
          refine lv_aload_n hx hb dL_law_711 rfl (lv_at hl 2 rfl) ?_
          refine lv_iload hx hb dL_law_712 (lv_at hl 13 rfl) ?_
          refine lv_iconst (v := 0) hx hb dL_law_714 (by decide) ?_
          refine h_callV (rest := [.int (lwS S y (lwW 1) i), .int (nI 1), .ref qz17]) X Y (c_claim l G Mz30 S h hQv i 0 hi (by decide)) gw_L_149 dsc_X11_claim ho0 rfl rfl rfl hl.1 rfl (Nat.le_of_ble_eq_true rfl) ⟨Nat.le_of_ble_eq_true rfl, Nat.le_of_ble_eq_true rfl⟩ ⟨(by show _ ≤ 600086; first | omega | (dsimp only [hRm]; omega)), (by show _ ≤ 7301442; first | omega | (dsimp only [hRm]; omega))⟩ dL_law_715 ?_
          rintro _ Mz31 H locs ⟨rfl, hs9⟩ Y
          have hQv := hQv.sim hs9
          have ho0 := hQv.2.2.1.1
          try dsimp only [Option.toList, List.singleton_append]
          refine h_ev (y := nI (clY (sC S i))) rfl ?_
          have ts := hs9.keep ts (hScr_no (by omega))
          have tw := hs9.keep tw (hScr_no (by omega))
          have hfr : hFr (fun u => 4000 ≤ u) Mz31 Mz31 := hFr.rf
          refine lv_iload hx hb dL_law_718 (lv_at hl 10 rfl) ?_
          refine lv_icmp_ne (tgt := 737) hx hb dL_law_720 (by decide) (fun c720 => absurd (show ¬ (clY (sC S i)) = y from fun z9 => c720 ((nI_eq (a := (clY (sC S i))) (b := y) (by omega) (by omega)).mpr z9)) (by omega)) (fun c720 => ?_)
          have c720 : (clY (sC S i)) = y := (nI_eq (a := (clY (sC S i))) (b := y) (by omega) (by omega)).mp c720
          refine lv_aload_n hx hb dL_law_723 rfl (lv_at hl 2 rfl) ?_
          refine lv_iload hx hb dL_law_724 (lv_at hl 13 rfl) ?_
          refine lv_aload hx hb dL_law_726 (lv_at hl 12 rfl) ?_
          refine lv_iload hx hb dL_law_728 (lv_at hl 0 rfl) ?_
          refine h_iald X Y (i := 1) tw (by omega) (by decide) dL_law_730 ?_
          refine h_ev (y := nI (lwW 1)) (hgw 1 (by decide)) ?_
          refine h_callV (rest := [.int (lwS S y (lwW 1) i), .int (nI 1), .ref qz17]) X Y (c_claim l G Mz31 S h hQv i (lwW 1) hi (by decide)) gw_L_149 dsc_X11_claim ho0 rfl rfl rfl hl.1 rfl (Nat.le_of_ble_eq_true rfl) ⟨Nat.le_of_ble_eq_true rfl, Nat.le_of_ble_eq_true rfl⟩ ⟨(by show _ ≤ 600086; first | omega | (dsimp only [hRm]; omega)), (by show _ ≤ 7301442; first | omega | (dsimp only [hRm]; omega))⟩ dL_law_731 ?_
          rintro _ Mz32 H locs ⟨rfl, hs9⟩ Y
          have hQv := hQv.sim hs9
          have ho0 := hQv.2.2.1.1
          try dsimp only [Option.toList, List.singleton_append]
          have ts := hs9.keep ts (hScr_no (by omega))
          have tw := hs9.keep tw (hScr_no (by omega))
          have hfr : hFr (fun u => 4000 ≤ u) Mz32 Mz32 := hFr.rf
          refine lv_goto (tgt := 738) hx hb dL_law_734 (by decide) ?_
          refine lv_iadd hx hb dL_law_738 ?_
          refine h_ev (y := lwS S y (lwW 1) (i + 1)) (show _ = lwS S y (lwW 1) i + (if nI (clY (sC S i)) = nI y then qClaim S i (lwW 1) else 0) from by rw [if_pos (by rw [hyes])]) ?_
          refine h_iast X Y (i := 1) ts (by omega) (by decide) dL_law_739 (fun H locs Y => ?_)
          have tw := hup_tag (x := (4850, .inl (hT G 0, 4, .inl (upd (upd g 0 (lwS S y (lwW 0) (i + 1))) 1 (lwS S y (lwW 1) (i + 1)))))) tw ts (by omega)
          have hfr := hfr.put (x := (4850, .inl (hT G 0, 4, .inl (upd (upd g 0 (lwS S y (lwW 0) (i + 1))) 1 (lwS S y (lwW 1) (i + 1)))))) ts (by decide)
          have ts : hup Mz32 qz17 (4850, .inl (hT G 0, 4, .inl (upd (upd g 0 (lwS S y (lwW 0) (i + 1))) 1 (lwS S y (lwW 1) (i + 1))))) qz17 = some (4850, .inl (hT G 0, 4, .inl (upd (upd g 0 (lwS S y (lwW 0) (i + 1))) 1 (lwS S y (lwW 1) (i + 1))))) := hup_eq
          generalize hup Mz32 qz17 (4850, .inl (hT G 0, 4, .inl (upd (upd g 0 (lwS S y (lwW 0) (i + 1))) 1 (lwS S y (lwW 1) (i + 1))))) = Mz33 at Y ts tw hfr
          have hQv : QV G Mz33 S h := QV.fr9 hfr (fun u z => z) hQv
          have ho0 := hQv.2.2.1.1
          have hfr : hFr (fun u => 4000 ≤ u) Mz33 Mz33 := hFr.rf
          refine lv_iinc (v := nI 2) (lv' := [(16, .int (nI 2)), (0, .ref G.2.1), (1, .ref (sA S 0)), (2, .ref tt), (3, .ref bb), (4, .int (nI (sM S))), (5, .int (nI (hNow h))), (6, .long sm), (8, .long al), (10, .long ic), (12, .int (nI y)), (13, .ref qz17), (14, .ref qz18), (15, .int (nI i))]) hx hb dL_law_740 hl (k := 0) rfl (by decide) (by decide) rfl (fun ls hl => ?_)
          refine lv_goto (tgt := 699) hx hb dL_law_743 (by decide) ?_
          refine lv_iload hx hb dL_law_699 (lv_at hl 0 rfl) ?_
          refine lv_iconst (v := 4) hx hb dL_law_701 (by decide) ?_
          refine lv_icmp_ge (tgt := 746) hx hb dL_law_702 (by decide) (fun c702 => absurd c702 (by decide)) (fun c702 => ?_)
          refine lv_aload hx hb dL_law_705 (lv_at hl 11 rfl) ?_
          refine lv_iload hx hb dL_law_707 (lv_at hl 0 rfl) ?_
          refine lv_dup2_11 hx hb dL_law_709 rfl rfl ?_
          refine h_iald X Y (i := 2) ts (by omega) (by decide) dL_law_710 ?_
          refine h_ev (y := lwS S y (lwW 2) i) ((pk_un (by decide)).trans ((pk_un (by decide)).trans (hg 2 (by decide)))) ?_
          refine lv_aload_n hx hb dL_law_711 rfl (lv_at hl 2 rfl) ?_
          refine lv_iload hx hb dL_law_712 (lv_at hl 13 rfl) ?_
          refine lv_iconst (v := 0) hx hb dL_law_714 (by decide) ?_
          refine h_callV (rest := [.int (lwS S y (lwW 2) i), .int (nI 2), .ref qz17]) X Y (c_claim l G Mz33 S h hQv i 0 hi (by decide)) gw_L_149 dsc_X11_claim ho0 rfl rfl rfl hl.1 rfl (Nat.le_of_ble_eq_true rfl) ⟨Nat.le_of_ble_eq_true rfl, Nat.le_of_ble_eq_true rfl⟩ ⟨(by show _ ≤ 600086; first | omega | (dsimp only [hRm]; omega)), (by show _ ≤ 7301442; first | omega | (dsimp only [hRm]; omega))⟩ dL_law_715 ?_
          rintro _ Mz34 H locs ⟨rfl, hs9⟩ Y
          have hQv := hQv.sim hs9
          have ho0 := hQv.2.2.1.1
          try dsimp only [Option.toList, List.singleton_append]
          refine h_ev (y := nI (clY (sC S i))) rfl ?_
          have ts := hs9.keep ts (hScr_no (by omega))
          have tw := hs9.keep tw (hScr_no (by omega))
          have hfr : hFr (fun u => 4000 ≤ u) Mz34 Mz34 := hFr.rf
          refine lv_iload hx hb dL_law_718 (lv_at hl 10 rfl) ?_
          refine lv_icmp_ne (tgt := 737) hx hb dL_law_720 (by decide) (fun c720 => absurd (show ¬ (clY (sC S i)) = y from fun z9 => c720 ((nI_eq (a := (clY (sC S i))) (b := y) (by omega) (by omega)).mpr z9)) (by omega)) (fun c720 => ?_)
          have c720 : (clY (sC S i)) = y := (nI_eq (a := (clY (sC S i))) (b := y) (by omega) (by omega)).mp c720
          refine lv_aload_n hx hb dL_law_723 rfl (lv_at hl 2 rfl) ?_
          refine lv_iload hx hb dL_law_724 (lv_at hl 13 rfl) ?_
          refine lv_aload hx hb dL_law_726 (lv_at hl 12 rfl) ?_
          refine lv_iload hx hb dL_law_728 (lv_at hl 0 rfl) ?_
          refine h_iald X Y (i := 2) tw (by omega) (by decide) dL_law_730 ?_
          refine h_ev (y := nI (lwW 2)) (hgw 2 (by decide)) ?_
          refine h_callV (rest := [.int (lwS S y (lwW 2) i), .int (nI 2), .ref qz17]) X Y (c_claim l G Mz34 S h hQv i (lwW 2) hi (by decide)) gw_L_149 dsc_X11_claim ho0 rfl rfl rfl hl.1 rfl (Nat.le_of_ble_eq_true rfl) ⟨Nat.le_of_ble_eq_true rfl, Nat.le_of_ble_eq_true rfl⟩ ⟨(by show _ ≤ 600086; first | omega | (dsimp only [hRm]; omega)), (by show _ ≤ 7301442; first | omega | (dsimp only [hRm]; omega))⟩ dL_law_731 ?_
          rintro _ Mz35 H locs ⟨rfl, hs9⟩ Y
          have hQv := hQv.sim hs9
          have ho0 := hQv.2.2.1.1
          try dsimp only [Option.toList, List.singleton_append]
          have ts := hs9.keep ts (hScr_no (by omega))
          have tw := hs9.keep tw (hScr_no (by omega))
          have hfr : hFr (fun u => 4000 ≤ u) Mz35 Mz35 := hFr.rf
          refine lv_goto (tgt := 738) hx hb dL_law_734 (by decide) ?_
          refine lv_iadd hx hb dL_law_738 ?_
          refine h_ev (y := lwS S y (lwW 2) (i + 1)) (show _ = lwS S y (lwW 2) i + (if nI (clY (sC S i)) = nI y then qClaim S i (lwW 2) else 0) from by rw [if_pos (by rw [hyes])]) ?_
          refine h_iast X Y (i := 2) ts (by omega) (by decide) dL_law_739 (fun H locs Y => ?_)
          have tw := hup_tag (x := (4850, .inl (hT G 0, 4, .inl (upd (upd (upd g 0 (lwS S y (lwW 0) (i + 1))) 1 (lwS S y (lwW 1) (i + 1))) 2 (lwS S y (lwW 2) (i + 1)))))) tw ts (by omega)
          have hfr := hfr.put (x := (4850, .inl (hT G 0, 4, .inl (upd (upd (upd g 0 (lwS S y (lwW 0) (i + 1))) 1 (lwS S y (lwW 1) (i + 1))) 2 (lwS S y (lwW 2) (i + 1)))))) ts (by decide)
          have ts : hup Mz35 qz17 (4850, .inl (hT G 0, 4, .inl (upd (upd (upd g 0 (lwS S y (lwW 0) (i + 1))) 1 (lwS S y (lwW 1) (i + 1))) 2 (lwS S y (lwW 2) (i + 1))))) qz17 = some (4850, .inl (hT G 0, 4, .inl (upd (upd (upd g 0 (lwS S y (lwW 0) (i + 1))) 1 (lwS S y (lwW 1) (i + 1))) 2 (lwS S y (lwW 2) (i + 1))))) := hup_eq
          generalize hup Mz35 qz17 (4850, .inl (hT G 0, 4, .inl (upd (upd (upd g 0 (lwS S y (lwW 0) (i + 1))) 1 (lwS S y (lwW 1) (i + 1))) 2 (lwS S y (lwW 2) (i + 1))))) = Mz36 at Y ts tw hfr
          have hQv : QV G Mz36 S h := QV.fr9 hfr (fun u z => z) hQv
          have ho0 := hQv.2.2.1.1
          have hfr : hFr (fun u => 4000 ≤ u) Mz36 Mz36 := hFr.rf
          refine lv_iinc (v := nI 3) (lv' := [(16, .int (nI 3)), (0, .ref G.2.1), (1, .ref (sA S 0)), (2, .ref tt), (3, .ref bb), (4, .int (nI (sM S))), (5, .int (nI (hNow h))), (6, .long sm), (8, .long al), (10, .long ic), (12, .int (nI y)), (13, .ref qz17), (14, .ref qz18), (15, .int (nI i))]) hx hb dL_law_740 hl (k := 0) rfl (by decide) (by decide) rfl (fun ls hl => ?_)
          refine lv_goto (tgt := 699) hx hb dL_law_743 (by decide) ?_
          refine lv_iload hx hb dL_law_699 (lv_at hl 0 rfl) ?_
          refine lv_iconst (v := 4) hx hb dL_law_701 (by decide) ?_
          refine lv_icmp_ge (tgt := 746) hx hb dL_law_702 (by decide) (fun c702 => absurd c702 (by decide)) (fun c702 => ?_)
          refine lv_aload hx hb dL_law_705 (lv_at hl 11 rfl) ?_
          refine lv_iload hx hb dL_law_707 (lv_at hl 0 rfl) ?_
          refine lv_dup2_11 hx hb dL_law_709 rfl rfl ?_
          refine h_iald X Y (i := 3) ts (by omega) (by decide) dL_law_710 ?_
          refine h_ev (y := lwS S y (lwW 3) i) ((pk_un (by decide)).trans ((pk_un (by decide)).trans ((pk_un (by decide)).trans (hg 3 (by decide))))) ?_
          refine lv_aload_n hx hb dL_law_711 rfl (lv_at hl 2 rfl) ?_
          refine lv_iload hx hb dL_law_712 (lv_at hl 13 rfl) ?_
          refine lv_iconst (v := 0) hx hb dL_law_714 (by decide) ?_
          refine h_callV (rest := [.int (lwS S y (lwW 3) i), .int (nI 3), .ref qz17]) X Y (c_claim l G Mz36 S h hQv i 0 hi (by decide)) gw_L_149 dsc_X11_claim ho0 rfl rfl rfl hl.1 rfl (Nat.le_of_ble_eq_true rfl) ⟨Nat.le_of_ble_eq_true rfl, Nat.le_of_ble_eq_true rfl⟩ ⟨(by show _ ≤ 600086; first | omega | (dsimp only [hRm]; omega)), (by show _ ≤ 7301442; first | omega | (dsimp only [hRm]; omega))⟩ dL_law_715 ?_
          rintro _ Mz37 H locs ⟨rfl, hs9⟩ Y
          have hQv := hQv.sim hs9
          have ho0 := hQv.2.2.1.1
          try dsimp only [Option.toList, List.singleton_append]
          refine h_ev (y := nI (clY (sC S i))) rfl ?_
          have ts := hs9.keep ts (hScr_no (by omega))
          have tw := hs9.keep tw (hScr_no (by omega))
          have hfr : hFr (fun u => 4000 ≤ u) Mz37 Mz37 := hFr.rf
          refine lv_iload hx hb dL_law_718 (lv_at hl 10 rfl) ?_
          refine lv_icmp_ne (tgt := 737) hx hb dL_law_720 (by decide) (fun c720 => absurd (show ¬ (clY (sC S i)) = y from fun z9 => c720 ((nI_eq (a := (clY (sC S i))) (b := y) (by omega) (by omega)).mpr z9)) (by omega)) (fun c720 => ?_)
          have c720 : (clY (sC S i)) = y := (nI_eq (a := (clY (sC S i))) (b := y) (by omega) (by omega)).mp c720
          refine lv_aload_n hx hb dL_law_723 rfl (lv_at hl 2 rfl) ?_
          refine lv_iload hx hb dL_law_724 (lv_at hl 13 rfl) ?_
          refine lv_aload hx hb dL_law_726 (lv_at hl 12 rfl) ?_
          refine lv_iload hx hb dL_law_728 (lv_at hl 0 rfl) ?_
          refine h_iald X Y (i := 3) tw (by omega) (by decide) dL_law_730 ?_
          refine h_ev (y := nI (lwW 3)) (hgw 3 (by decide)) ?_
          refine h_callV (rest := [.int (lwS S y (lwW 3) i), .int (nI 3), .ref qz17]) X Y (c_claim l G Mz37 S h hQv i (lwW 3) hi (by decide)) gw_L_149 dsc_X11_claim ho0 rfl rfl rfl hl.1 rfl (Nat.le_of_ble_eq_true rfl) ⟨Nat.le_of_ble_eq_true rfl, Nat.le_of_ble_eq_true rfl⟩ ⟨(by show _ ≤ 600086; first | omega | (dsimp only [hRm]; omega)), (by show _ ≤ 7301442; first | omega | (dsimp only [hRm]; omega))⟩ dL_law_731 ?_
          rintro _ Mz38 H locs ⟨rfl, hs9⟩ Y
          have hQv := hQv.sim hs9
          have ho0 := hQv.2.2.1.1
          try dsimp only [Option.toList, List.singleton_append]
          have ts := hs9.keep ts (hScr_no (by omega))
          have tw := hs9.keep tw (hScr_no (by omega))
          have hfr : hFr (fun u => 4000 ≤ u) Mz38 Mz38 := hFr.rf
          refine lv_goto (tgt := 738) hx hb dL_law_734 (by decide) ?_
          refine lv_iadd hx hb dL_law_738 ?_
          refine h_ev (y := lwS S y (lwW 3) (i + 1)) (show _ = lwS S y (lwW 3) i + (if nI (clY (sC S i)) = nI y then qClaim S i (lwW 3) else 0) from by rw [if_pos (by rw [hyes])]) ?_
          refine h_iast X Y (i := 3) ts (by omega) (by decide) dL_law_739 (fun H locs Y => ?_)
          have tw := hup_tag (x := (4850, .inl (hT G 0, 4, .inl (upd (upd (upd (upd g 0 (lwS S y (lwW 0) (i + 1))) 1 (lwS S y (lwW 1) (i + 1))) 2 (lwS S y (lwW 2) (i + 1))) 3 (lwS S y (lwW 3) (i + 1)))))) tw ts (by omega)
          have hfr := hfr.put (x := (4850, .inl (hT G 0, 4, .inl (upd (upd (upd (upd g 0 (lwS S y (lwW 0) (i + 1))) 1 (lwS S y (lwW 1) (i + 1))) 2 (lwS S y (lwW 2) (i + 1))) 3 (lwS S y (lwW 3) (i + 1)))))) ts (by decide)
          have ts : hup Mz38 qz17 (4850, .inl (hT G 0, 4, .inl (upd (upd (upd (upd g 0 (lwS S y (lwW 0) (i + 1))) 1 (lwS S y (lwW 1) (i + 1))) 2 (lwS S y (lwW 2) (i + 1))) 3 (lwS S y (lwW 3) (i + 1))))) qz17 = some (4850, .inl (hT G 0, 4, .inl (upd (upd (upd (upd g 0 (lwS S y (lwW 0) (i + 1))) 1 (lwS S y (lwW 1) (i + 1))) 2 (lwS S y (lwW 2) (i + 1))) 3 (lwS S y (lwW 3) (i + 1))))) := hup_eq
          generalize hup Mz38 qz17 (4850, .inl (hT G 0, 4, .inl (upd (upd (upd (upd g 0 (lwS S y (lwW 0) (i + 1))) 1 (lwS S y (lwW 1) (i + 1))) 2 (lwS S y (lwW 2) (i + 1))) 3 (lwS S y (lwW 3) (i + 1))))) = Mz39 at Y ts tw hfr
          have hQv : QV G Mz39 S h := QV.fr9 hfr (fun u z => z) hQv
          have ho0 := hQv.2.2.1.1
          have hfr : hFr (fun u => 4000 ≤ u) Mz39 Mz39 := hFr.rf
          refine lv_iinc (v := nI 4) (lv' := [(16, .int (nI 4)), (0, .ref G.2.1), (1, .ref (sA S 0)), (2, .ref tt), (3, .ref bb), (4, .int (nI (sM S))), (5, .int (nI (hNow h))), (6, .long sm), (8, .long al), (10, .long ic), (12, .int (nI y)), (13, .ref qz17), (14, .ref qz18), (15, .int (nI i))]) hx hb dL_law_740 hl (k := 0) rfl (by decide) (by decide) rfl (fun ls hl => ?_)
          refine lv_goto (tgt := 699) hx hb dL_law_743 (by decide) ?_
          refine lv_iload hx hb dL_law_699 (lv_at hl 0 rfl) ?_
          refine lv_iconst (v := 4) hx hb dL_law_701 (by decide) ?_
          refine lv_icmp_ge (tgt := 746) hx hb dL_law_702 (by decide) (fun c702 => ?_) (fun c702 => absurd (by decide) c702)
          refine lv_iinc (v := nI (i + 1)) (lv' := [(15, .int (nI (i + 1))), (16, .int (nI 4)), (0, .ref G.2.1), (1, .ref (sA S 0)), (2, .ref tt), (3, .ref bb), (4, .int (nI (sM S))), (5, .int (nI (hNow h))), (6, .long sm), (8, .long al), (10, .long ic), (12, .int (nI y)), (13, .ref qz17), (14, .ref qz18)]) hx hb dL_law_746 hl (k := 13) rfl (nI_1 i) (by decide) rfl (fun ls hl => ?_)
          refine lv_goto (tgt := 689) hx hb dL_law_749 (by decide) ?_
          exact W.wid (by first | omega | (dsimp only [hRm]; omega) | (simp [hRm]; omega)) (by first | omega | (dsimp only [hRm]; omega) | (simp [hRm]; omega)) (ih (i + 1) (by omega) (by omega) Mz39 _ hQv ts tw (fun k hk => match k, hk with | 0, _ => by rw [pk_un (by decide), pk_un (by decide), pk_un (by decide), pk_us] | 1, _ => by rw [pk_un (by decide), pk_un (by decide), pk_us] | 2, _ => by rw [pk_un (by decide), pk_us] | 3, _ => pk_us | k + 4, hk => absurd hk (by omega)) _ _ _ Y (lv_sub hl [2, 3, 4, 5, 6, 7, 8, 9, 10, 11, 12, 13, 0] rfl))
        · refine lv_iconst (v := 0) hx hb dL_law_696 (by decide) ?_
          refine lv_istore (lv' := [(16, .int 0), (0, .ref G.2.1), (1, .ref (sA S 0)), (2, .ref tt), (3, .ref bb), (4, .int (nI (sM S))), (5, .int (nI (hNow h))), (6, .long sm), (8, .long al), (10, .long ic), (12, .int (nI y)), (13, .ref qz17), (14, .ref qz18), (15, .int (nI i))]) hx hb dL_law_697 hl (by decide) rfl (fun ls hl => ?_)
          refine lv_iload hx hb dL_law_699 (lv_at hl 0 rfl) ?_
          refine lv_iconst (v := 4) hx hb dL_law_701 (by decide) ?_
          refine lv_icmp_ge (tgt := 746) hx hb dL_law_702 (by decide) (fun c702 => absurd c702 (by decide)) (fun c702 => ?_)
          refine lv_aload hx hb dL_law_705 (lv_at hl 11 rfl) ?_
          refine lv_iload hx hb dL_law_707 (lv_at hl 0 rfl) ?_
          refine lv_dup2_11 hx hb dL_law_709 rfl rfl ?_
          refine h_iald X Y (i := 0) ts (by omega) (by decide) dL_law_710 ?_
          refine h_ev (y := lwS S y (lwW 0) i) (hg 0 (by decide)) ?_
          refine lv_aload_n hx hb dL_law_711 rfl (lv_at hl 2 rfl) ?_
          refine lv_iload hx hb dL_law_712 (lv_at hl 13 rfl) ?_
          refine lv_iconst (v := 0) hx hb dL_law_714 (by decide) ?_
          refine h_callV (rest := [.int (lwS S y (lwW 0) i), .int 0, .ref qz17]) X Y (c_claim l G M1 S h hQv i 0 hi (by decide)) gw_L_149 dsc_X11_claim ho0 rfl rfl rfl hl.1 rfl (Nat.le_of_ble_eq_true rfl) ⟨Nat.le_of_ble_eq_true rfl, Nat.le_of_ble_eq_true rfl⟩ ⟨(by show _ ≤ 600086; first | omega | (dsimp only [hRm]; omega)), (by show _ ≤ 7301442; first | omega | (dsimp only [hRm]; omega))⟩ dL_law_715 ?_
          rintro _ Mz40 H locs ⟨rfl, hs9⟩ Y
          have hQv := hQv.sim hs9
          have ho0 := hQv.2.2.1.1
          try dsimp only [Option.toList, List.singleton_append]
          refine h_ev (y := nI (clY (sC S i))) rfl ?_
          have ts := hs9.keep ts (hScr_no (by omega))
          have tw := hs9.keep tw (hScr_no (by omega))
          have hfr : hFr (fun u => 4000 ≤ u) Mz40 Mz40 := hFr.rf
          refine lv_iload hx hb dL_law_718 (lv_at hl 10 rfl) ?_
          refine lv_icmp_ne (tgt := 737) hx hb dL_law_720 (by decide) (fun c720 => ?_) (fun c720 => absurd (show (clY (sC S i)) = y from (nI_eq (a := (clY (sC S i))) (b := y) (by omega) (by omega)).mp c720) (by omega))
          have c720 : ¬ (clY (sC S i)) = y := fun z9 => c720 ((nI_eq (a := (clY (sC S i))) (b := y) (by omega) (by omega)).mpr z9)
          refine lv_iconst (v := 0) hx hb dL_law_737 (by decide) ?_
          refine lv_iadd hx hb dL_law_738 ?_
          refine h_ev (y := lwS S y (lwW 0) (i + 1)) (show _ = lwS S y (lwW 0) i + (if nI (clY (sC S i)) = nI y then qClaim S i (lwW 0) else 0) from by rw [if_neg (fun z => hyes ((nI_eq (by omega) (by omega)).mp z))]) ?_
          refine h_iast X Y (i := 0) ts (by omega) (by decide) dL_law_739 (fun H locs Y => ?_)
          have tw := hup_tag (x := (4850, .inl (hT G 0, 4, .inl (upd g 0 (lwS S y (lwW 0) (i + 1)))))) tw ts (by omega)
          have hfr := hfr.put (x := (4850, .inl (hT G 0, 4, .inl (upd g 0 (lwS S y (lwW 0) (i + 1)))))) ts (by decide)
          have ts : hup Mz40 qz17 (4850, .inl (hT G 0, 4, .inl (upd g 0 (lwS S y (lwW 0) (i + 1))))) qz17 = some (4850, .inl (hT G 0, 4, .inl (upd g 0 (lwS S y (lwW 0) (i + 1))))) := hup_eq
          generalize hup Mz40 qz17 (4850, .inl (hT G 0, 4, .inl (upd g 0 (lwS S y (lwW 0) (i + 1))))) = Mz41 at Y ts tw hfr
          have hQv : QV G Mz41 S h := QV.fr9 hfr (fun u z => z) hQv
          have ho0 := hQv.2.2.1.1
          have hfr : hFr (fun u => 4000 ≤ u) Mz41 Mz41 := hFr.rf
          refine lv_iinc (v := nI 1) (lv' := [(16, .int (nI 1)), (0, .ref G.2.1), (1, .ref (sA S 0)), (2, .ref tt), (3, .ref bb), (4, .int (nI (sM S))), (5, .int (nI (hNow h))), (6, .long sm), (8, .long al), (10, .long ic), (12, .int (nI y)), (13, .ref qz17), (14, .ref qz18), (15, .int (nI i))]) hx hb dL_law_740 hl (k := 0) rfl (by decide) (by decide) rfl (fun ls hl => ?_)
          refine lv_goto (tgt := 699) hx hb dL_law_743 (by decide) ?_
          refine lv_iload hx hb dL_law_699 (lv_at hl 0 rfl) ?_
          refine lv_iconst (v := 4) hx hb dL_law_701 (by decide) ?_
          refine lv_icmp_ge (tgt := 746) hx hb dL_law_702 (by decide) (fun c702 => absurd c702 (by decide)) (fun c702 => ?_)
          refine lv_aload hx hb dL_law_705 (lv_at hl 11 rfl) ?_
          refine lv_iload hx hb dL_law_707 (lv_at hl 0 rfl) ?_
          refine lv_dup2_11 hx hb dL_law_709 rfl rfl ?_
          refine h_iald X Y (i := 1) ts (by omega) (by decide) dL_law_710 ?_
          refine h_ev (y := lwS S y (lwW 1) i) ((pk_un (by decide)).trans (hg 1 (by decide))) ?_
          refine lv_aload_n hx hb dL_law_711 rfl (lv_at hl 2 rfl) ?_
          refine lv_iload hx hb dL_law_712 (lv_at hl 13 rfl) ?_
          refine lv_iconst (v := 0) hx hb dL_law_714 (by decide) ?_
          refine h_callV (rest := [.int (lwS S y (lwW 1) i), .int (nI 1), .ref qz17]) X Y (c_claim l G Mz41 S h hQv i 0 hi (by decide)) gw_L_149 dsc_X11_claim ho0 rfl rfl rfl hl.1 rfl (Nat.le_of_ble_eq_true rfl) ⟨Nat.le_of_ble_eq_true rfl, Nat.le_of_ble_eq_true rfl⟩ ⟨(by show _ ≤ 600086; first | omega | (dsimp only [hRm]; omega)), (by show _ ≤ 7301442; first | omega | (dsimp only [hRm]; omega))⟩ dL_law_715 ?_
          rintro _ Mz42 H locs ⟨rfl, hs9⟩ Y
          have hQv := hQv.sim hs9
          have ho0 := hQv.2.2.1.1
          try dsimp only [Option.toList, List.singleton_append]
          refine h_ev (y := nI (clY (sC S i))) rfl ?_
          have ts := hs9.keep ts (hScr_no (by omega))
          have tw := hs9.keep tw (hScr_no (by omega))
          have hfr : hFr (fun u => 4000 ≤ u) Mz42 Mz42 := hFr.rf
          refine lv_iload hx hb dL_law_718 (lv_at hl 10 rfl) ?_
          refine lv_icmp_ne (tgt := 737) hx hb dL_law_720 (by decide) (fun c720 => ?_) (fun c720 => absurd (show (clY (sC S i)) = y from (nI_eq (a := (clY (sC S i))) (b := y) (by omega) (by omega)).mp c720) (by omega))
          have c720 : ¬ (clY (sC S i)) = y := fun z9 => c720 ((nI_eq (a := (clY (sC S i))) (b := y) (by omega) (by omega)).mpr z9)
          refine lv_iconst (v := 0) hx hb dL_law_737 (by decide) ?_
          refine lv_iadd hx hb dL_law_738 ?_
          refine h_ev (y := lwS S y (lwW 1) (i + 1)) (show _ = lwS S y (lwW 1) i + (if nI (clY (sC S i)) = nI y then qClaim S i (lwW 1) else 0) from by rw [if_neg (fun z => hyes ((nI_eq (by omega) (by omega)).mp z))]) ?_
          refine h_iast X Y (i := 1) ts (by omega) (by decide) dL_law_739 (fun H locs Y => ?_)
          have tw := hup_tag (x := (4850, .inl (hT G 0, 4, .inl (upd (upd g 0 (lwS S y (lwW 0) (i + 1))) 1 (lwS S y (lwW 1) (i + 1)))))) tw ts (by omega)
          have hfr := hfr.put (x := (4850, .inl (hT G 0, 4, .inl (upd (upd g 0 (lwS S y (lwW 0) (i + 1))) 1 (lwS S y (lwW 1) (i + 1)))))) ts (by decide)
          have ts : hup Mz42 qz17 (4850, .inl (hT G 0, 4, .inl (upd (upd g 0 (lwS S y (lwW 0) (i + 1))) 1 (lwS S y (lwW 1) (i + 1))))) qz17 = some (4850, .inl (hT G 0, 4, .inl (upd (upd g 0 (lwS S y (lwW 0) (i + 1))) 1 (lwS S y (lwW 1) (i + 1))))) := hup_eq
          generalize hup Mz42 qz17 (4850, .inl (hT G 0, 4, .inl (upd (upd g 0 (lwS S y (lwW 0) (i + 1))) 1 (lwS S y (lwW 1) (i + 1))))) = Mz43 at Y ts tw hfr
          have hQv : QV G Mz43 S h := QV.fr9 hfr (fun u z => z) hQv
          have ho0 := hQv.2.2.1.1
          have hfr : hFr (fun u => 4000 ≤ u) Mz43 Mz43 := hFr.rf
          refine lv_iinc (v := nI 2) (lv' := [(16, .int (nI 2)), (0, .ref G.2.1), (1, .ref (sA S 0)), (2, .ref tt), (3, .ref bb), (4, .int (nI (sM S))), (5, .int (nI (hNow h))), (6, .long sm), (8, .long al), (10, .long ic), (12, .int (nI y)), (13, .ref qz17), (14, .ref qz18), (15, .int (nI i))]) hx hb dL_law_740 hl (k := 0) rfl (by decide) (by decide) rfl (fun ls hl => ?_)
          refine lv_goto (tgt := 699) hx hb dL_law_743 (by decide) ?_
          refine lv_iload hx hb dL_law_699 (lv_at hl 0 rfl) ?_
          refine lv_iconst (v := 4) hx hb dL_law_701 (by decide) ?_
          refine lv_icmp_ge (tgt := 746) hx hb dL_law_702 (by decide) (fun c702 => absurd c702 (by decide)) (fun c702 => ?_)
          refine lv_aload hx hb dL_law_705 (lv_at hl 11 rfl) ?_
          refine lv_iload hx hb dL_law_707 (lv_at hl 0 rfl) ?_
          refine lv_dup2_11 hx hb dL_law_709 rfl rfl ?_
          refine h_iald X Y (i := 2) ts (by omega) (by decide) dL_law_710 ?_
          refine h_ev (y := lwS S y (lwW 2) i) ((pk_un (by decide)).trans ((pk_un (by decide)).trans (hg 2 (by decide)))) ?_
          refine lv_aload_n hx hb dL_law_711 rfl (lv_at hl 2 rfl) ?_
          refine lv_iload hx hb dL_law_712 (lv_at hl 13 rfl) ?_
          refine lv_iconst (v := 0) hx hb dL_law_714 (by decide) ?_
          refine h_callV (rest := [.int (lwS S y (lwW 2) i), .int (nI 2), .ref qz17]) X Y (c_claim l G Mz43 S h hQv i 0 hi (by decide)) gw_L_149 dsc_X11_claim ho0 rfl rfl rfl hl.1 rfl (Nat.le_of_ble_eq_true rfl) ⟨Nat.le_of_ble_eq_true rfl, Nat.le_of_ble_eq_true rfl⟩ ⟨(by show _ ≤ 600086; first | omega | (dsimp only [hRm]; omega)), (by show _ ≤ 7301442; first | omega | (dsimp only [hRm]; omega))⟩ dL_law_715 ?_
          rintro _ Mz44 H locs ⟨rfl, hs9⟩ Y
          have hQv := hQv.sim hs9
          have ho0 := hQv.2.2.1.1
          try dsimp only [Option.toList, List.singleton_append]
          refine h_ev (y := nI (clY (sC S i))) rfl ?_
          have ts := hs9.keep ts (hScr_no (by omega))
          have tw := hs9.keep tw (hScr_no (by omega))
          have hfr : hFr (fun u => 4000 ≤ u) Mz44 Mz44 := hFr.rf
          refine lv_iload hx hb dL_law_718 (lv_at hl 10 rfl) ?_
          refine lv_icmp_ne (tgt := 737) hx hb dL_law_720 (by decide) (fun c720 => ?_) (fun c720 => absurd (show (clY (sC S i)) = y from (nI_eq (a := (clY (sC S i))) (b := y) (by omega) (by omega)).mp c720) (by omega))
          have c720 : ¬ (clY (sC S i)) = y := fun z9 => c720 ((nI_eq (a := (clY (sC S i))) (b := y) (by omega) (by omega)).mpr z9)
          refine lv_iconst (v := 0) hx hb dL_law_737 (by decide) ?_
          refine lv_iadd hx hb dL_law_738 ?_
          refine h_ev (y := lwS S y (lwW 2) (i + 1)) (show _ = lwS S y (lwW 2) i + (if nI (clY (sC S i)) = nI y then qClaim S i (lwW 2) else 0) from by rw [if_neg (fun z => hyes ((nI_eq (by omega) (by omega)).mp z))]) ?_
          refine h_iast X Y (i := 2) ts (by omega) (by decide) dL_law_739 (fun H locs Y => ?_)
          have tw := hup_tag (x := (4850, .inl (hT G 0, 4, .inl (upd (upd (upd g 0 (lwS S y (lwW 0) (i + 1))) 1 (lwS S y (lwW 1) (i + 1))) 2 (lwS S y (lwW 2) (i + 1)))))) tw ts (by omega)
          have hfr := hfr.put (x := (4850, .inl (hT G 0, 4, .inl (upd (upd (upd g 0 (lwS S y (lwW 0) (i + 1))) 1 (lwS S y (lwW 1) (i + 1))) 2 (lwS S y (lwW 2) (i + 1)))))) ts (by decide)
          have ts : hup Mz44 qz17 (4850, .inl (hT G 0, 4, .inl (upd (upd (upd g 0 (lwS S y (lwW 0) (i + 1))) 1 (lwS S y (lwW 1) (i + 1))) 2 (lwS S y (lwW 2) (i + 1))))) qz17 = some (4850, .inl (hT G 0, 4, .inl (upd (upd (upd g 0 (lwS S y (lwW 0) (i + 1))) 1 (lwS S y (lwW 1) (i + 1))) 2 (lwS S y (lwW 2) (i + 1))))) := hup_eq
          generalize hup Mz44 qz17 (4850, .inl (hT G 0, 4, .inl (upd (upd (upd g 0 (lwS S y (lwW 0) (i + 1))) 1 (lwS S y (lwW 1) (i + 1))) 2 (lwS S y (lwW 2) (i + 1))))) = Mz45 at Y ts tw hfr
          have hQv : QV G Mz45 S h := QV.fr9 hfr (fun u z => z) hQv
          have ho0 := hQv.2.2.1.1
          have hfr : hFr (fun u => 4000 ≤ u) Mz45 Mz45 := hFr.rf
          refine lv_iinc (v := nI 3) (lv' := [(16, .int (nI 3)), (0, .ref G.2.1), (1, .ref (sA S 0)), (2, .ref tt), (3, .ref bb), (4, .int (nI (sM S))), (5, .int (nI (hNow h))), (6, .long sm), (8, .long al), (10, .long ic), (12, .int (nI y)), (13, .ref qz17), (14, .ref qz18), (15, .int (nI i))]) hx hb dL_law_740 hl (k := 0) rfl (by decide) (by decide) rfl (fun ls hl => ?_)
          refine lv_goto (tgt := 699) hx hb dL_law_743 (by decide) ?_
          refine lv_iload hx hb dL_law_699 (lv_at hl 0 rfl) ?_
          refine lv_iconst (v := 4) hx hb dL_law_701 (by decide) ?_
          refine lv_icmp_ge (tgt := 746) hx hb dL_law_702 (by decide) (fun c702 => absurd c702 (by decide)) (fun c702 => ?_)
          refine lv_aload hx hb dL_law_705 (lv_at hl 11 rfl) ?_
          refine lv_iload hx hb dL_law_707 (lv_at hl 0 rfl) ?_
          refine lv_dup2_11 hx hb dL_law_709 rfl rfl ?_
          refine h_iald X Y (i := 3) ts (by omega) (by decide) dL_law_710 ?_
          refine h_ev (y := lwS S y (lwW 3) i) ((pk_un (by decide)).trans ((pk_un (by decide)).trans ((pk_un (by decide)).trans (hg 3 (by decide))))) ?_
          refine lv_aload_n hx hb dL_law_711 rfl (lv_at hl 2 rfl) ?_
          refine lv_iload hx hb dL_law_712 (lv_at hl 13 rfl) ?_
          refine lv_iconst (v := 0) hx hb dL_law_714 (by decide) ?_
          refine h_callV (rest := [.int (lwS S y (lwW 3) i), .int (nI 3), .ref qz17]) X Y (c_claim l G Mz45 S h hQv i 0 hi (by decide)) gw_L_149 dsc_X11_claim ho0 rfl rfl rfl hl.1 rfl (Nat.le_of_ble_eq_true rfl) ⟨Nat.le_of_ble_eq_true rfl, Nat.le_of_ble_eq_true rfl⟩ ⟨(by show _ ≤ 600086; first | omega | (dsimp only [hRm]; omega)), (by show _ ≤ 7301442; first | omega | (dsimp only [hRm]; omega))⟩ dL_law_715 ?_
          rintro _ Mz46 H locs ⟨rfl, hs9⟩ Y
          have hQv := hQv.sim hs9
          have ho0 := hQv.2.2.1.1
          try dsimp only [Option.toList, List.singleton_append]
          refine h_ev (y := nI (clY (sC S i))) rfl ?_
          have ts := hs9.keep ts (hScr_no (by omega))
          have tw := hs9.keep tw (hScr_no (by omega))
          have hfr : hFr (fun u => 4000 ≤ u) Mz46 Mz46 := hFr.rf
          refine lv_iload hx hb dL_law_718 (lv_at hl 10 rfl) ?_
          refine lv_icmp_ne (tgt := 737) hx hb dL_law_720 (by decide) (fun c720 => ?_) (fun c720 => absurd (show (clY (sC S i)) = y from (nI_eq (a := (clY (sC S i))) (b := y) (by omega) (by omega)).mp c720) (by omega))
          have c720 : ¬ (clY (sC S i)) = y := fun z9 => c720 ((nI_eq (a := (clY (sC S i))) (b := y) (by omega) (by omega)).mpr z9)
          refine lv_iconst (v := 0) hx hb dL_law_737 (by decide) ?_
          refine lv_iadd hx hb dL_law_738 ?_
          refine h_ev (y := lwS S y (lwW 3) (i + 1)) (show _ = lwS S y (lwW 3) i + (if nI (clY (sC S i)) = nI y then qClaim S i (lwW 3) else 0) from by rw [if_neg (fun z => hyes ((nI_eq (by omega) (by omega)).mp z))]) ?_
          refine h_iast X Y (i := 3) ts (by omega) (by decide) dL_law_739 (fun H locs Y => ?_)
          have tw := hup_tag (x := (4850, .inl (hT G 0, 4, .inl (upd (upd (upd (upd g 0 (lwS S y (lwW 0) (i + 1))) 1 (lwS S y (lwW 1) (i + 1))) 2 (lwS S y (lwW 2) (i + 1))) 3 (lwS S y (lwW 3) (i + 1)))))) tw ts (by omega)
          have hfr := hfr.put (x := (4850, .inl (hT G 0, 4, .inl (upd (upd (upd (upd g 0 (lwS S y (lwW 0) (i + 1))) 1 (lwS S y (lwW 1) (i + 1))) 2 (lwS S y (lwW 2) (i + 1))) 3 (lwS S y (lwW 3) (i + 1)))))) ts (by decide)
          have ts : hup Mz46 qz17 (4850, .inl (hT G 0, 4, .inl (upd (upd (upd (upd g 0 (lwS S y (lwW 0) (i + 1))) 1 (lwS S y (lwW 1) (i + 1))) 2 (lwS S y (lwW 2) (i + 1))) 3 (lwS S y (lwW 3) (i + 1))))) qz17 = some (4850, .inl (hT G 0, 4, .inl (upd (upd (upd (upd g 0 (lwS S y (lwW 0) (i + 1))) 1 (lwS S y (lwW 1) (i + 1))) 2 (lwS S y (lwW 2) (i + 1))) 3 (lwS S y (lwW 3) (i + 1))))) := hup_eq
          generalize hup Mz46 qz17 (4850, .inl (hT G 0, 4, .inl (upd (upd (upd (upd g 0 (lwS S y (lwW 0) (i + 1))) 1 (lwS S y (lwW 1) (i + 1))) 2 (lwS S y (lwW 2) (i + 1))) 3 (lwS S y (lwW 3) (i + 1))))) = Mz47 at Y ts tw hfr
          have hQv : QV G Mz47 S h := QV.fr9 hfr (fun u z => z) hQv
          have ho0 := hQv.2.2.1.1
          have hfr : hFr (fun u => 4000 ≤ u) Mz47 Mz47 := hFr.rf
          refine lv_iinc (v := nI 4) (lv' := [(16, .int (nI 4)), (0, .ref G.2.1), (1, .ref (sA S 0)), (2, .ref tt), (3, .ref bb), (4, .int (nI (sM S))), (5, .int (nI (hNow h))), (6, .long sm), (8, .long al), (10, .long ic), (12, .int (nI y)), (13, .ref qz17), (14, .ref qz18), (15, .int (nI i))]) hx hb dL_law_740 hl (k := 0) rfl (by decide) (by decide) rfl (fun ls hl => ?_)
          refine lv_goto (tgt := 699) hx hb dL_law_743 (by decide) ?_
          refine lv_iload hx hb dL_law_699 (lv_at hl 0 rfl) ?_
          refine lv_iconst (v := 4) hx hb dL_law_701 (by decide) ?_
          refine lv_icmp_ge (tgt := 746) hx hb dL_law_702 (by decide) (fun c702 => ?_) (fun c702 => absurd (by decide) c702)
          refine lv_iinc (v := nI (i + 1)) (lv' := [(15, .int (nI (i + 1))), (16, .int (nI 4)), (0, .ref G.2.1), (1, .ref (sA S 0)), (2, .ref tt), (3, .ref bb), (4, .int (nI (sM S))), (5, .int (nI (hNow h))), (6, .long sm), (8, .long al), (10, .long ic), (12, .int (nI y)), (13, .ref qz17), (14, .ref qz18)]) hx hb dL_law_746 hl (k := 13) rfl (nI_1 i) (by decide) rfl (fun ls hl => ?_)
          refine lv_goto (tgt := 689) hx hb dL_law_749 (by decide) ?_
          exact W.wid (by first | omega | (dsimp only [hRm]; omega) | (simp [hRm]; omega)) (by first | omega | (dsimp only [hRm]; omega) | (simp [hRm]; omega)) (ih (i + 1) (by omega) (by omega) Mz47 _ hQv ts tw (fun k hk => match k, hk with | 0, _ => by rw [pk_un (by decide), pk_un (by decide), pk_un (by decide), pk_us] | 1, _ => by rw [pk_un (by decide), pk_un (by decide), pk_us] | 2, _ => by rw [pk_un (by decide), pk_us] | 3, _ => pk_us | k + 4, hk => absurd hk (by omega)) _ _ _ Y (lv_sub hl [2, 3, 4, 5, 6, 7, 8, 9, 10, 11, 12, 13, 0] rfl))
  exact W.wid (by first | omega | (dsimp only [hRm]; omega) | (simp [hRm]; omega)) (by first | omega | (dsimp only [hRm]; omega) | (simp [hRm]; omega)) (loop (sM S + 1) 0 (by omega) (by omega) Mz22 _ hQv fz17 fz18 (fun k hk => match k, hk with | 0, _ => rfl | 1, _ => rfl | 2, _ => rfl | 3, _ => rfl | k + 4, hk => absurd hk (by omega)) _ _ _ Y (lv_sub hl [3, 4, 5, 6, 7, 8, 9, 10, 11, 12, 2, 1, 0] rfl))
