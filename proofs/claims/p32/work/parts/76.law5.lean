-- THE LAW: WHAT IT ASKS OF ALL
theorem l2d_n {n : Nat} (h : n < 2147483648) : FP.l2d (lN n) = FP.i2d (nI n) := by
  show UInt64.ofNat (FP.Core.fromInt FP.Core.b64 (lN n).toInt) = UInt64.ofNat (FP.Core.fromInt FP.Core.b64 (nI n).toInt)
  rw [lN_toInt (by omega), nI_toInt (by omega)]
theorem dcmp_s {x y : UInt64} (e : x = y) (h : FP.Core.dIsNaN x = false) : Op.cmpValue (FP.dcmp x y) .l = 0 := by
  subst e
  rw [show FP.dcmp x x = some .eq from FP.Core.dcmp_refl h]
  rfl
theorem one_nn : FP.Core.dIsNaN FP.dconst1 = false := by decide +kernel
theorem inc_n {S : hSy} {now : Nat} (h : GC S now) : qInc S = nI (nSum (fun i => vn (qAm S false i)) (sM S)) := rSum_n _ fun i hi => (am_in h hi false).1
theorem gw_L_179 : GoodIn hGW (wsV RL 179 RX11 yX11_keenest (Cond.code yX11_keenest cX11_keenest 5 (Option.some FieldType.int) :: hGW)) := hgi4 kml_L_179 kin_X11_keenest kse_X11_X11_keenest_X11_keenest kini_X11 kco_X11_keenest
theorem dsc_X11_keenest : yX11_keenest.cls = RX11 ∧ yX11_keenest.cls ≠ "java/lang/invoke/MethodHandle" ∧ yX11_keenest.cls ≠ "java/lang/invoke/VarHandle" ∧ (parseMethodDescriptor yX11_keenest.desc).map (fun d => d.parameters.length) = some 0 := ⟨rfl, by decide +kernel, by decide +kernel, by decide +kernel⟩
theorem gw_L_188 : GoodIn hGW (wsV RL 188 RX11 yX11_count (Cond.code yX11_count cX11_count 2 (Option.some FieldType.int) :: hGW)) := hgi4 kml_L_188 kin_X11_count kse_X11_X11_count_X11_count kini_X11 kco_X11_count
theorem dsc_X11_count : yX11_count.cls = RX11 ∧ yX11_count.cls ≠ "java/lang/invoke/MethodHandle" ∧ yX11_count.cls ≠ "java/lang/invoke/VarHandle" ∧ (parseMethodDescriptor yX11_count.desc).map (fun d => d.parameters.length) = some 1 := ⟨rfl, by decide +kernel, by decide +kernel, by decide +kernel⟩
theorem gw_L_191 : GoodIn hGW (wsV RL 191 RX11 yX11_kept (Cond.code yX11_kept cX11_kept 3 (Option.some FieldType.double) :: hGW)) := hgi4 kml_L_191 kin_X11_kept kse_X11_X11_kept_X11_kept kini_X11 kco_X11_kept
theorem dsc_X11_kept : yX11_kept.cls = RX11 ∧ yX11_kept.cls ≠ "java/lang/invoke/MethodHandle" ∧ yX11_kept.cls ≠ "java/lang/invoke/VarHandle" ∧ (parseMethodDescriptor yX11_kept.desc).map (fun d => d.parameters.length) = some 0 := ⟨rfl, by decide +kernel, by decide +kernel, by decide +kernel⟩
theorem gw_L_145 : GoodIn hGW (wsV RL 145 RX11 yX11_digest (Cond.code yX11_digest cX11_digest 4 (Option.some FieldType.long) :: hGW)) := hgi4 kml_L_145 kin_X11_digest kse_X11_X11_digest_X11_digest kini_X11 kco_X11_digest
theorem dsc_X11_digest : yX11_digest.cls = RX11 ∧ yX11_digest.cls ≠ "java/lang/invoke/MethodHandle" ∧ yX11_digest.cls ≠ "java/lang/invoke/VarHandle" ∧ (parseMethodDescriptor yX11_digest.desc).map (fun d => d.parameters.length) = some 0 := ⟨rfl, by decide +kernel, by decide +kernel, by decide +kernel⟩
theorem gw_L_182 : GoodIn hGW (wsV RL 182 RX11 yX11_would (Cond.code yX11_would cX11_would 4 (Option.some FieldType.int) :: hGW)) := hgi4 kml_L_182 kin_X11_would kse_X11_X11_would_X11_would kini_X11 kco_X11_would
theorem dsc_X11_would : yX11_would.cls = RX11 ∧ yX11_would.cls ≠ "java/lang/invoke/MethodHandle" ∧ yX11_would.cls ≠ "java/lang/invoke/VarHandle" ∧ (parseMethodDescriptor yX11_would.desc).map (fun d => d.parameters.length) = some 3 := ⟨rfl, by decide +kernel, by decide +kernel, by decide +kernel⟩
theorem gw_L_185 : GoodIn hGW (wsV RL 185 RX11 yX11_reaches (Cond.code yX11_reaches cX11_reaches 5 (Option.some FieldType.int) :: hGW)) := hgi4 kml_L_185 kin_X11_reaches kse_X11_X11_reaches_X11_reaches kini_X11 kco_X11_reaches
theorem dsc_X11_reaches : yX11_reaches.cls = RX11 ∧ yX11_reaches.cls ≠ "java/lang/invoke/MethodHandle" ∧ yX11_reaches.cls ≠ "java/lang/invoke/VarHandle" ∧ (parseMethodDescriptor yX11_reaches.desc).map (fun d => d.parameters.length) = some 2 := ⟨rfl, by decide +kernel, by decide +kernel, by decide +kernel⟩
theorem dL_law_808 : decode cL_law 808 = .ok (.aload_n 1, 1) := by decide +kernel
theorem dL_law_809 : decode cL_law 809 = .ok (.invokevirtual 179, 3) := by decide +kernel
theorem dL_law_812 : decode cL_law 812 = .ok (.istore 12, 2) := by decide +kernel
theorem dL_law_814 : decode cL_law 814 = .ok (.iload 12, 2) := by decide +kernel
theorem dL_law_816 : decode cL_law 816 = .ok (.ifCond .lt 16, 3) := by decide +kernel
theorem dL_law_819 : decode cL_law 819 = .ok (.aload_n 1, 1) := by decide +kernel
theorem dL_law_820 : decode cL_law 820 = .ok (.iload 12, 2) := by decide +kernel
theorem dL_law_822 : decode cL_law 822 = .ok (.invokevirtual 167, 3) := by decide +kernel
theorem dL_law_825 : decode cL_law 825 = .ok (.i2l, 1) := by decide +kernel
theorem dL_law_826 : decode cL_law 826 = .ok (.lload 8, 2) := by decide +kernel
theorem dL_law_828 : decode cL_law 828 = .ok (.lcmp, 1) := by decide +kernel
theorem dL_law_829 : decode cL_law 829 = .ok (.ifCond .le 45, 3) := by decide +kernel
theorem dL_law_832 : decode cL_law 832 = .ok (.iload 4, 2) := by decide +kernel
theorem dL_law_834 : decode cL_law 834 = .ok (.ifCond .le 42, 3) := by decide +kernel
theorem dL_law_837 : decode cL_law 837 = .ok (.aload_n 1, 1) := by decide +kernel
theorem dL_law_838 : decode cL_law 838 = .ok (.iconst 0, 1) := by decide +kernel
theorem dL_law_839 : decode cL_law 839 = .ok (.aload_n 1, 1) := by decide +kernel
theorem dL_law_840 : decode cL_law 840 = .ok (.iconst 0, 1) := by decide +kernel
theorem dL_law_841 : decode cL_law 841 = .ok (.iconst 3, 1) := by decide +kernel
theorem dL_law_842 : decode cL_law 842 = .ok (.invokevirtual 149, 3) := by decide +kernel
theorem dL_law_845 : decode cL_law 845 = .ok (.iconst 0, 1) := by decide +kernel
theorem dL_law_846 : decode cL_law 846 = .ok (.invokevirtual 182, 3) := by decide +kernel
theorem dL_law_849 : decode cL_law 849 = .ok (.i2l, 1) := by decide +kernel
theorem dL_law_850 : decode cL_law 850 = .ok (.lload 8, 2) := by decide +kernel
theorem dL_law_852 : decode cL_law 852 = .ok (.lcmp, 1) := by decide +kernel
theorem dL_law_853 : decode cL_law 853 = .ok (.ifCond .ne 21, 3) := by decide +kernel
theorem dL_law_856 : decode cL_law 856 = .ok (.aload_n 1, 1) := by decide +kernel
theorem dL_law_857 : decode cL_law 857 = .ok (.iconst 0, 1) := by decide +kernel
theorem dL_law_858 : decode cL_law 858 = .ok (.aload_n 0, 1) := by decide +kernel
theorem dL_law_859 : decode cL_law 859 = .ok (.iconst 3, 1) := by decide +kernel
theorem dL_law_860 : decode cL_law 860 = .ok (.invokestatic 36, 3) := by decide +kernel
theorem dL_law_863 : decode cL_law 863 = .ok (.iconst 3, 1) := by decide +kernel
theorem dL_law_864 : decode cL_law 864 = .ok (.invokestatic 42, 3) := by decide +kernel
theorem dL_law_867 : decode cL_law 867 = .ok (.invokevirtual 185, 3) := by decide +kernel
theorem dL_law_870 : decode cL_law 870 = .ok (.iconst (-1), 1) := by decide +kernel
theorem dL_law_871 : decode cL_law 871 = .ok (.if_icmp .ge 5, 3) := by decide +kernel
theorem dL_law_876 : decode cL_law 876 = .ok (.aload_n 1, 1) := by decide +kernel
theorem dL_law_877 : decode cL_law 877 = .ok (.bipush 7, 2) := by decide +kernel
theorem dL_law_879 : decode cL_law 879 = .ok (.invokevirtual 188, 3) := by decide +kernel
theorem dL_law_882 : decode cL_law 882 = .ok (.i2l, 1) := by decide +kernel
theorem dL_law_883 : decode cL_law 883 = .ok (.lload 8, 2) := by decide +kernel
theorem dL_law_885 : decode cL_law 885 = .ok (.lcmp, 1) := by decide +kernel
theorem dL_law_886 : decode cL_law 886 = .ok (.ifCond .ne 43, 3) := by decide +kernel
theorem dL_law_889 : decode cL_law 889 = .ok (.aload_n 1, 1) := by decide +kernel
theorem dL_law_890 : decode cL_law 890 = .ok (.invokevirtual 191, 3) := by decide +kernel
theorem dL_law_893 : decode cL_law 893 = .ok (.lload 10, 2) := by decide +kernel
theorem dL_law_895 : decode cL_law 895 = .ok (.lconst 0, 1) := by decide +kernel
theorem dL_law_896 : decode cL_law 896 = .ok (.lcmp, 1) := by decide +kernel
theorem dL_law_897 : decode cL_law 897 = .ok (.ifCond .ne 7, 3) := by decide +kernel
theorem dL_law_900 : decode cL_law 900 = .ok (.dconst 1, 1) := by decide +kernel
theorem dL_law_901 : decode cL_law 901 = .ok (.goto 10, 3) := by decide +kernel
theorem dL_law_904 : decode cL_law 904 = .ok (.lload 8, 2) := by decide +kernel
theorem dL_law_906 : decode cL_law 906 = .ok (.l2d, 1) := by decide +kernel
theorem dL_law_907 : decode cL_law 907 = .ok (.lload 10, 2) := by decide +kernel
theorem dL_law_909 : decode cL_law 909 = .ok (.l2d, 1) := by decide +kernel
theorem dL_law_910 : decode cL_law 910 = .ok (.ddiv, 1) := by decide +kernel
theorem dL_law_911 : decode cL_law 911 = .ok (.dcmp .l, 1) := by decide +kernel
theorem dL_law_912 : decode cL_law 912 = .ok (.ifCond .ne 17, 3) := by decide +kernel
theorem dL_law_915 : decode cL_law 915 = .ok (.aload_n 1, 1) := by decide +kernel
theorem dL_law_916 : decode cL_law 916 = .ok (.invokevirtual 145, 3) := by decide +kernel
theorem dL_law_919 : decode cL_law 919 = .ok (.lload 6, 2) := by decide +kernel
theorem dL_law_921 : decode cL_law 921 = .ok (.lcmp, 1) := by decide +kernel
theorem dL_law_922 : decode cL_law 922 = .ok (.ifCond .ne 7, 3) := by decide +kernel
theorem dL_law_925 : decode cL_law 925 = .ok (.iconst 1, 1) := by decide +kernel
theorem dL_law_926 : decode cL_law 926 = .ok (.goto 4, 3) := by decide +kernel
set_option maxHeartbeats 400000 in
set_option maxRecDepth 100000 in
theorem law_e {nm : String} (l : Launch) (G : hG) (p : Program) (e : Env) (s : State) (m : MethodId) (args : Array Value) (below : List Frame) (meth : Method) (c : Code) (M : hM) (H : Heap) (locs : List Loc) (ls : Array Slot) (cells slots : Nat) (Q : State → Prop) (hcs : cells ≤ 600086) (hss : slots ≤ 7301442) (X : hCX G p s m args meth c cL_law 18 ret RL nm) (Y : hHS G M s H locs) (S : hSy) (h : hHo) (hQv : QV G M S h) (hGC : GC S (hNow h)) (a0 : Nat) (ha0 : sA S 0 = a0) (tt bb : Nat) (sm : Int64) (Lx : Nat) (xs : Nat → Int32) (hsc : hSc G Lx xs) (hsm : sm = qDigest S h) (A9 I9 : Nat) (hA9 : A9 = nSum (lfN S (-1)) (sM S)) (hI9 : I9 = nSum (fun i => vn (qAm S false i)) (sM S)) (hl : lv_has ls 18 [(0, .ref G.2.1), (1, .ref (a0)), (2, .ref tt), (3, .ref bb), (4, .int (nI (sM S))), (5, .int (nI (hNow h))), (6, .long sm), (8, .long (lN A9)), (10, .long (lN I9))]) (kk : ∀ (M' : hM) (H : Heap) (locs : List Loc) (ls : Array Slot), hHS G M' s H locs → W p l e room_1 s m args below meth c H locs cells slots Q (F0 m 930 ls [.int 1])) : W p l e room_1 s m args below meth c H locs cells slots Q (F0 m 808 ls []) := by
  subst ha0
  have hx := X.1
  have hb := X.2.1
  have h40 : sM S ≤ 40 := hGC.1.2.2.1
  have hn10 : hNow h < 10 := hGC.2.1
  have hN3 : sN S = 3 := hGC.1.1
  have ho0 := hQv.2.2.1.1
  obtain ⟨qa, qb, qc⟩ := qLefts_n hGC (-1)
  rw [← hA9] at qa qb
  rw [← hI9] at qb qc
  have hinc := inc_n hGC
  rw [← hI9] at hinc
  have hke := qKe_in hGC 3 (Nat.le_refl 3)
  refine lv_aload_n hx hb dL_law_808 rfl (lv_at hl 1 rfl) ?_
  refine h_callV (rest := []) X Y (c_keenest l G M S h hQv) gw_L_179 dsc_X11_keenest ho0 rfl rfl rfl hl.1 rfl (Nat.le_of_ble_eq_true rfl) ⟨Nat.le_of_ble_eq_true rfl, Nat.le_of_ble_eq_true rfl⟩ ⟨(by show _ ≤ 600086; first | omega | (dsimp only [hRm]; omega)), (by show _ ≤ 7301442; first | omega | (dsimp only [hRm]; omega))⟩ dL_law_809 ?_
  rintro _ Mz1 H locs ⟨rfl, hs9⟩ Y
  have hQv := hQv.sim hs9
  have ho0 := hQv.2.2.1.1
  try dsimp only [Option.toList, List.singleton_append]
  rw [hN3]
  rcases hke with ⟨-, ke2⟩ | ⟨kz, kz3, ke1, -, ke4⟩
  · refine h_ev (y := -1) ke2 ?_
    refine lv_istore (lv' := [(12, .int (-1)), (0, .ref G.2.1), (1, .ref (sA S 0)), (2, .ref tt), (3, .ref bb), (4, .int (nI (sM S))), (5, .int (nI (hNow h))), (6, .long sm), (8, .long (lN A9)), (10, .long (lN I9))]) hx hb dL_law_812 hl (by decide) rfl (fun ls hl => ?_)
    refine lv_iload hx hb dL_law_814 (lv_at hl 0 rfl) ?_
    refine lv_if_lt (tgt := 832) hx hb dL_law_816 (by decide) (fun c816 => ?_) (fun c816 => absurd (by decide) c816)
    refine lv_iload hx hb dL_law_832 (lv_at hl 5 rfl) ?_
    refine lv_if_le (tgt := 876) hx hb dL_law_834 (by decide) (fun c834 => ?_) (fun c834 => ?_)
    · have c834 : (sM S) ≤ 0 := (nI_leI (a := (sM S)) (b := 0) (by omega) (by omega)).mp c834
      refine lv_aload_n hx hb dL_law_876 rfl (lv_at hl 2 rfl) ?_
      refine lv_bipush (v := 7) hx hb dL_law_877 (by decide) ?_
      refine h_callV (rest := []) X Y (c_count l G Mz1 S h hQv 7 (by decide) (by decide)) gw_L_188 dsc_X11_count ho0 rfl rfl rfl hl.1 rfl (Nat.le_of_ble_eq_true rfl) ⟨Nat.le_of_ble_eq_true rfl, Nat.le_of_ble_eq_true rfl⟩ ⟨(by show _ ≤ 600086; first | omega | (dsimp only [hRm]; omega)), (by show _ ≤ 7301442; first | omega | (dsimp only [hRm]; omega))⟩ dL_law_879 ?_
      rintro _ Mz2 H locs ⟨rfl, hs9⟩ Y
      have hQv := hQv.sim hs9
      have ho0 := hQv.2.2.1.1
      try dsimp only [Option.toList, List.singleton_append]
      refine h_ev (y := nI A9) qa ?_
      refine lv_i2l (v := (nI A9).toInt64) hx hb dL_law_882 rfl ?_
      refine h_evL (y := lN A9) (nI_l (by omega)) ?_
      refine lv_lload hx hb dL_law_883 (lv_at hl 8 rfl) ?_
      refine W.lcmp hx hb dL_law_885 ?_
      refine lv_if_ne (tgt := 929) hx hb dL_law_886 (by decide) (fun c886 => absurd (lg_cmp_s _) c886) (fun c886 => ?_)
      refine lv_aload_n hx hb dL_law_889 rfl (lv_at hl 2 rfl) ?_
      refine h_callV (rest := []) X Y (c_kept l G Mz2 S h hQv) gw_L_191 dsc_X11_kept ho0 rfl rfl rfl hl.1 rfl (Nat.le_of_ble_eq_true rfl) ⟨Nat.le_of_ble_eq_true rfl, Nat.le_of_ble_eq_true rfl⟩ ⟨(by show _ ≤ 600086; first | omega | (dsimp only [hRm]; omega)), (by show _ ≤ 7301442; first | omega | (dsimp only [hRm]; omega))⟩ dL_law_890 ?_
      rintro _ Mz3 H locs ⟨rfl, hs9⟩ Y
      have hQv := hQv.sim hs9
      have ho0 := hQv.2.2.1.1
      try dsimp only [Option.toList, List.singleton_append]
      rcases Nat.eq_zero_or_pos I9 with hz | hz
      · refine lv_lload hx hb dL_law_893 (lv_at hl 9 rfl) ?_
        refine lv_lconst (v := 0) hx hb dL_law_895 (by decide) ?_
        refine W.lcmp hx hb dL_law_896 ?_
        refine lv_if_ne (tgt := 904) hx hb dL_law_897 (by decide) (fun c897 => absurd (by rw [hz]; exact lg_cmp_s _) c897) (fun c897 => ?_)
        refine lv_dconst1 hx hb dL_law_900 ?_
        refine lv_goto (tgt := 911) hx hb dL_law_901 (by decide) ?_
        refine lv_dcmp hx hb dL_law_911 ?_
        refine h_ev (y := 0) (dcmp_s (show qKept S = _ from if_pos (by rw [hinc, hz]; rfl)) (by rw [show qKept S = _ from if_pos (by rw [hinc, hz]; rfl)]; exact one_nn)) ?_
        refine lv_if_ne (tgt := 929) hx hb dL_law_912 (by decide) (fun c912 => absurd (by decide) c912) (fun c912 => ?_)
        refine lv_aload_n hx hb dL_law_915 rfl (lv_at hl 2 rfl) ?_
        refine h_callV (rest := []) X Y (c_digest l G Mz3 S h hQv) gw_L_145 dsc_X11_digest ho0 rfl rfl rfl hl.1 rfl (Nat.le_of_ble_eq_true rfl) ⟨Nat.le_of_ble_eq_true rfl, Nat.le_of_ble_eq_true rfl⟩ ⟨(by show _ ≤ 600086; first | omega | (dsimp only [hRm]; omega)), (by show _ ≤ 7301442; first | omega | (dsimp only [hRm]; omega))⟩ dL_law_916 ?_
        rintro _ Mz4 H locs ⟨rfl, hs9⟩ Y
        have hQv := hQv.sim hs9
        have ho0 := hQv.2.2.1.1
        try dsimp only [Option.toList, List.singleton_append]
        refine lv_lload hx hb dL_law_919 (lv_at hl 7 rfl) ?_
        refine W.lcmp hx hb dL_law_921 ?_
        refine lv_if_ne (tgt := 929) hx hb dL_law_922 (by decide) (fun c922 => absurd (by rw [hsm]; exact lg_cmp_s _) c922) (fun c922 => ?_)
        refine lv_iconst (v := 1) hx hb dL_law_925 (by decide) ?_
        refine lv_goto (tgt := 930) hx hb dL_law_926 (by decide) ?_
        exact W.wid (by first | omega | (dsimp only [hRm]; omega) | (simp [hRm]; omega)) (by first | omega | (dsimp only [hRm]; omega) | (simp [hRm]; omega)) (kk _ _ _ _ Y)
      · refine lv_lload hx hb dL_law_893 (lv_at hl 9 rfl) ?_
        refine lv_lconst (v := 0) hx hb dL_law_895 (by decide) ?_
        refine W.lcmp hx hb dL_law_896 ?_
        refine lv_if_ne (tgt := 904) hx hb dL_law_897 (by decide) (fun c897 => ?_) (fun c897 => absurd c897 (fun z9 => by have z8 := (pk_lEQ (a := I9) (b := 0) (by omega) (by omega)).mp (lg_cmp_0 z9); omega))
        refine lv_lload hx hb dL_law_904 (lv_at hl 8 rfl) ?_
        refine lv_l2d hx hb dL_law_906 ?_
        rw [l2d_n (show A9 < 2147483648 by omega)]
        refine lv_lload hx hb dL_law_907 (lv_at hl 9 rfl) ?_
        refine lv_l2d hx hb dL_law_909 ?_
        rw [l2d_n (show I9 < 2147483648 by omega)]
        refine lv_ddiv hx hb dL_law_910 (kept_nan (fun z9 => by have z8 := (nI_eq (a := I9) (b := 0) (by omega) (by omega)).mp z9; omega)) ?_
        refine lv_dcmp hx hb dL_law_911 ?_
        have hne : ¬ nI I9 = 0 := fun z9 => by have z8 := (nI_eq (a := I9) (b := 0) (by omega) (by omega)).mp z9; omega
        have hkp : qKept S = FP.ddiv (FP.i2d (nI A9)) (FP.i2d (nI I9)) := by unfold qKept; rw [hinc, if_neg hne, qa]
        refine h_ev (y := 0) (dcmp_s hkp (by rw [hkp]; exact kept_nn hne)) ?_
        refine lv_if_ne (tgt := 929) hx hb dL_law_912 (by decide) (fun c912 => absurd (by decide) c912) (fun c912 => ?_)
        refine lv_aload_n hx hb dL_law_915 rfl (lv_at hl 2 rfl) ?_
        refine h_callV (rest := []) X Y (c_digest l G Mz3 S h hQv) gw_L_145 dsc_X11_digest ho0 rfl rfl rfl hl.1 rfl (Nat.le_of_ble_eq_true rfl) ⟨Nat.le_of_ble_eq_true rfl, Nat.le_of_ble_eq_true rfl⟩ ⟨(by show _ ≤ 600086; first | omega | (dsimp only [hRm]; omega)), (by show _ ≤ 7301442; first | omega | (dsimp only [hRm]; omega))⟩ dL_law_916 ?_
        rintro _ Mz5 H locs ⟨rfl, hs9⟩ Y
        have hQv := hQv.sim hs9
        have ho0 := hQv.2.2.1.1
        try dsimp only [Option.toList, List.singleton_append]
        refine lv_lload hx hb dL_law_919 (lv_at hl 7 rfl) ?_
        refine W.lcmp hx hb dL_law_921 ?_
        refine lv_if_ne (tgt := 929) hx hb dL_law_922 (by decide) (fun c922 => absurd (by rw [hsm]; exact lg_cmp_s _) c922) (fun c922 => ?_)
        refine lv_iconst (v := 1) hx hb dL_law_925 (by decide) ?_
        refine lv_goto (tgt := 930) hx hb dL_law_926 (by decide) ?_
        exact W.wid (by first | omega | (dsimp only [hRm]; omega) | (simp [hRm]; omega)) (by first | omega | (dsimp only [hRm]; omega) | (simp [hRm]; omega)) (kk _ _ _ _ Y)
    · have c834 : ¬ (sM S) ≤ 0 := fun z9 => c834 ((nI_leI (a := (sM S)) (b := 0) (by omega) (by omega)).mpr z9)
      have hm0 : 0 < sM S := by omega
      obtain ⟨pp, r, hpb, hrb, e1, e2, -, -, -, -⟩ := (hGC.2.2 0 hm0).1.am
      refine lv_aload_n hx hb dL_law_837 rfl (lv_at hl 2 rfl) ?_
      refine lv_iconst (v := 0) hx hb dL_law_838 (by decide) ?_
      refine lv_aload_n hx hb dL_law_839 rfl (lv_at hl 2 rfl) ?_
      refine lv_iconst (v := 0) hx hb dL_law_840 (by decide) ?_
      refine lv_iconst (v := 3) hx hb dL_law_841 (by decide) ?_
      refine h_callV (rest := [.int 0, .ref (sA S 0)]) X Y (c_claim l G Mz1 S h hQv 0 3 (by omega) (by decide)) gw_L_149 dsc_X11_claim ho0 rfl rfl rfl hl.1 rfl (Nat.le_of_ble_eq_true rfl) ⟨Nat.le_of_ble_eq_true rfl, Nat.le_of_ble_eq_true rfl⟩ ⟨(by show _ ≤ 600086; first | omega | (dsimp only [hRm]; omega)), (by show _ ≤ 7301442; first | omega | (dsimp only [hRm]; omega))⟩ dL_law_842 ?_
      rintro _ Mz6 H locs ⟨rfl, hs9⟩ Y
      have hQv := hQv.sim hs9
      have ho0 := hQv.2.2.1.1
      try dsimp only [Option.toList, List.singleton_append]
      refine lv_iconst (v := 0) hx hb dL_law_845 (by decide) ?_
      refine h_callV (rest := []) X Y (c_would l G Mz6 S h hQv 0 (clI (sC S 0) 2) hm0 rfl (by rw [e2]; exact nI_nn (by omega)) (by rw [e2]; exact (nI_leI (b := 1000000) (by omega) (by omega)).mpr (by omega))) gw_L_182 dsc_X11_would ho0 rfl rfl rfl hl.1 rfl (Nat.le_of_ble_eq_true rfl) ⟨Nat.le_of_ble_eq_true rfl, Nat.le_of_ble_eq_true rfl⟩ ⟨(by show _ ≤ 600086; first | omega | (dsimp only [hRm]; omega)), (by show _ ≤ 7301442; first | omega | (dsimp only [hRm]; omega))⟩ dL_law_846 ?_
      rintro _ Mz7 H locs ⟨rfl, hs9⟩ Y
      have hQv := hQv.sim hs9
      have ho0 := hQv.2.2.1.1
      try dsimp only [Option.toList, List.singleton_append]
      refine h_ev (y := nI A9) qa ?_
      refine lv_i2l (v := (nI A9).toInt64) hx hb dL_law_849 rfl ?_
      refine h_evL (y := lN A9) (nI_l (by omega)) ?_
      refine lv_lload hx hb dL_law_850 (lv_at hl 8 rfl) ?_
      refine W.lcmp hx hb dL_law_852 ?_
      refine lv_if_ne (tgt := 874) hx hb dL_law_853 (by decide) (fun c853 => absurd (lg_cmp_s _) c853) (fun c853 => ?_)
      refine lv_aload_n hx hb dL_law_856 rfl (lv_at hl 2 rfl) ?_
      refine lv_iconst (v := 0) hx hb dL_law_857 (by decide) ?_
      refine lv_aload_n hx hb dL_law_858 rfl (lv_at hl 1 rfl) ?_
      refine lv_iconst (v := 3) hx hb dL_law_859 (by decide) ?_
      refine h_callSr (rest := [.int 0, .ref (sA S 0)]) X Y (c_cell l G Mz7 Lx xs hsc 3 (by decide)) rfl rfl gw_L_36 dsc_L_cell.2 rfl rfl hl.1 (Nat.le_of_ble_eq_true rfl) ⟨Nat.le_of_ble_eq_true rfl, Nat.le_of_ble_eq_true rfl⟩ ⟨(by show _ ≤ 600086; first | omega | (dsimp only [hRm]; omega)), (by show _ ≤ 7301442; first | omega | (dsimp only [hRm]; omega))⟩ dL_law_860 (fun H locs Y => ?_)
      refine lv_iconst (v := 3) hx hb dL_law_863 (by decide) ?_
      refine h_callSr (rest := [.int 0, .ref (sA S 0)]) X Y (c_below l G Mz7 (cel Lx xs 3) 3 (by decide)) rfl rfl gw_L_42 dsc_L_below.2 rfl rfl hl.1 (Nat.le_of_ble_eq_true rfl) ⟨Nat.le_of_ble_eq_true rfl, Nat.le_of_ble_eq_true rfl⟩ ⟨(by show _ ≤ 600086; first | omega | (dsimp only [hRm]; omega)), (by show _ ≤ 7301442; first | omega | (dsimp only [hRm]; omega))⟩ dL_law_864 (fun H locs Y => ?_)
      have hbl3 := bel_lt (cel Lx xs 3) (y := 3) (by decide)
      refine h_callV (rest := []) X Y (c_reaches l G Mz7 S h hQv 0 (bel (cel Lx xs 3) 3) hm0 (by omega)) gw_L_185 dsc_X11_reaches ho0 rfl rfl rfl hl.1 rfl (Nat.le_of_ble_eq_true rfl) ⟨Nat.le_of_ble_eq_true rfl, Nat.le_of_ble_eq_true rfl⟩ ⟨(by show _ ≤ 600086; first | omega | (dsimp only [hRm]; omega)), (by show _ ≤ 7301442; first | omega | (dsimp only [hRm]; omega))⟩ dL_law_867 ?_
      rintro _ Mz8 H locs ⟨⟨rr, rfl, hrr⟩, hs9⟩ Y
      have hQv := hQv.sim hs9
      have ho0 := hQv.2.2.1.1
      try dsimp only [Option.toList, List.singleton_append]
      refine lv_iconst (v := (-1)) hx hb dL_law_870 (by decide) ?_
      refine lv_icmp_ge (tgt := 876) hx hb dL_law_871 (by decide) (fun c871 => ?_) (fun c871 => absurd (Int32.not_lt.mp hrr) c871)
      refine lv_aload_n hx hb dL_law_876 rfl (lv_at hl 2 rfl) ?_
      refine lv_bipush (v := 7) hx hb dL_law_877 (by decide) ?_
      refine h_callV (rest := []) X Y (c_count l G Mz8 S h hQv 7 (by decide) (by decide)) gw_L_188 dsc_X11_count ho0 rfl rfl rfl hl.1 rfl (Nat.le_of_ble_eq_true rfl) ⟨Nat.le_of_ble_eq_true rfl, Nat.le_of_ble_eq_true rfl⟩ ⟨(by show _ ≤ 600086; first | omega | (dsimp only [hRm]; omega)), (by show _ ≤ 7301442; first | omega | (dsimp only [hRm]; omega))⟩ dL_law_879 ?_
      rintro _ Mz9 H locs ⟨rfl, hs9⟩ Y
      have hQv := hQv.sim hs9
      have ho0 := hQv.2.2.1.1
      try dsimp only [Option.toList, List.singleton_append]
      refine h_ev (y := nI A9) qa ?_
      refine lv_i2l (v := (nI A9).toInt64) hx hb dL_law_882 rfl ?_
      refine h_evL (y := lN A9) (nI_l (by omega)) ?_
      refine lv_lload hx hb dL_law_883 (lv_at hl 8 rfl) ?_
      refine W.lcmp hx hb dL_law_885 ?_
      refine lv_if_ne (tgt := 929) hx hb dL_law_886 (by decide) (fun c886 => absurd (lg_cmp_s _) c886) (fun c886 => ?_)
      refine lv_aload_n hx hb dL_law_889 rfl (lv_at hl 2 rfl) ?_
      refine h_callV (rest := []) X Y (c_kept l G Mz9 S h hQv) gw_L_191 dsc_X11_kept ho0 rfl rfl rfl hl.1 rfl (Nat.le_of_ble_eq_true rfl) ⟨Nat.le_of_ble_eq_true rfl, Nat.le_of_ble_eq_true rfl⟩ ⟨(by show _ ≤ 600086; first | omega | (dsimp only [hRm]; omega)), (by show _ ≤ 7301442; first | omega | (dsimp only [hRm]; omega))⟩ dL_law_890 ?_
      rintro _ Mz10 H locs ⟨rfl, hs9⟩ Y
      have hQv := hQv.sim hs9
      have ho0 := hQv.2.2.1.1
      try dsimp only [Option.toList, List.singleton_append]
      rcases Nat.eq_zero_or_pos I9 with hz | hz
      · refine lv_lload hx hb dL_law_893 (lv_at hl 9 rfl) ?_
        refine lv_lconst (v := 0) hx hb dL_law_895 (by decide) ?_
        refine W.lcmp hx hb dL_law_896 ?_
        refine lv_if_ne (tgt := 904) hx hb dL_law_897 (by decide) (fun c897 => absurd (by rw [hz]; exact lg_cmp_s _) c897) (fun c897 => ?_)
        refine lv_dconst1 hx hb dL_law_900 ?_
        refine lv_goto (tgt := 911) hx hb dL_law_901 (by decide) ?_
        refine lv_dcmp hx hb dL_law_911 ?_
        refine h_ev (y := 0) (dcmp_s (show qKept S = _ from if_pos (by rw [hinc, hz]; rfl)) (by rw [show qKept S = _ from if_pos (by rw [hinc, hz]; rfl)]; exact one_nn)) ?_
        refine lv_if_ne (tgt := 929) hx hb dL_law_912 (by decide) (fun c912 => absurd (by decide) c912) (fun c912 => ?_)
        refine lv_aload_n hx hb dL_law_915 rfl (lv_at hl 2 rfl) ?_
        refine h_callV (rest := []) X Y (c_digest l G Mz10 S h hQv) gw_L_145 dsc_X11_digest ho0 rfl rfl rfl hl.1 rfl (Nat.le_of_ble_eq_true rfl) ⟨Nat.le_of_ble_eq_true rfl, Nat.le_of_ble_eq_true rfl⟩ ⟨(by show _ ≤ 600086; first | omega | (dsimp only [hRm]; omega)), (by show _ ≤ 7301442; first | omega | (dsimp only [hRm]; omega))⟩ dL_law_916 ?_
        rintro _ Mz11 H locs ⟨rfl, hs9⟩ Y
        have hQv := hQv.sim hs9
        have ho0 := hQv.2.2.1.1
        try dsimp only [Option.toList, List.singleton_append]
        refine lv_lload hx hb dL_law_919 (lv_at hl 7 rfl) ?_
        refine W.lcmp hx hb dL_law_921 ?_
        refine lv_if_ne (tgt := 929) hx hb dL_law_922 (by decide) (fun c922 => absurd (by rw [hsm]; exact lg_cmp_s _) c922) (fun c922 => ?_)
        refine lv_iconst (v := 1) hx hb dL_law_925 (by decide) ?_
        refine lv_goto (tgt := 930) hx hb dL_law_926 (by decide) ?_
        exact W.wid (by first | omega | (dsimp only [hRm]; omega) | (simp [hRm]; omega)) (by first | omega | (dsimp only [hRm]; omega) | (simp [hRm]; omega)) (kk _ _ _ _ Y)
      · refine lv_lload hx hb dL_law_893 (lv_at hl 9 rfl) ?_
        refine lv_lconst (v := 0) hx hb dL_law_895 (by decide) ?_
        refine W.lcmp hx hb dL_law_896 ?_
        refine lv_if_ne (tgt := 904) hx hb dL_law_897 (by decide) (fun c897 => ?_) (fun c897 => absurd c897 (fun z9 => by have z8 := (pk_lEQ (a := I9) (b := 0) (by omega) (by omega)).mp (lg_cmp_0 z9); omega))
        refine lv_lload hx hb dL_law_904 (lv_at hl 8 rfl) ?_
        refine lv_l2d hx hb dL_law_906 ?_
        rw [l2d_n (show A9 < 2147483648 by omega)]
        refine lv_lload hx hb dL_law_907 (lv_at hl 9 rfl) ?_
        refine lv_l2d hx hb dL_law_909 ?_
        rw [l2d_n (show I9 < 2147483648 by omega)]
        refine lv_ddiv hx hb dL_law_910 (kept_nan (fun z9 => by have z8 := (nI_eq (a := I9) (b := 0) (by omega) (by omega)).mp z9; omega)) ?_
        refine lv_dcmp hx hb dL_law_911 ?_
        have hne : ¬ nI I9 = 0 := fun z9 => by have z8 := (nI_eq (a := I9) (b := 0) (by omega) (by omega)).mp z9; omega
        have hkp : qKept S = FP.ddiv (FP.i2d (nI A9)) (FP.i2d (nI I9)) := by unfold qKept; rw [hinc, if_neg hne, qa]
        refine h_ev (y := 0) (dcmp_s hkp (by rw [hkp]; exact kept_nn hne)) ?_
        refine lv_if_ne (tgt := 929) hx hb dL_law_912 (by decide) (fun c912 => absurd (by decide) c912) (fun c912 => ?_)
        refine lv_aload_n hx hb dL_law_915 rfl (lv_at hl 2 rfl) ?_
        refine h_callV (rest := []) X Y (c_digest l G Mz10 S h hQv) gw_L_145 dsc_X11_digest ho0 rfl rfl rfl hl.1 rfl (Nat.le_of_ble_eq_true rfl) ⟨Nat.le_of_ble_eq_true rfl, Nat.le_of_ble_eq_true rfl⟩ ⟨(by show _ ≤ 600086; first | omega | (dsimp only [hRm]; omega)), (by show _ ≤ 7301442; first | omega | (dsimp only [hRm]; omega))⟩ dL_law_916 ?_
        rintro _ Mz12 H locs ⟨rfl, hs9⟩ Y
        have hQv := hQv.sim hs9
        have ho0 := hQv.2.2.1.1
        try dsimp only [Option.toList, List.singleton_append]
        refine lv_lload hx hb dL_law_919 (lv_at hl 7 rfl) ?_
        refine W.lcmp hx hb dL_law_921 ?_
        refine lv_if_ne (tgt := 929) hx hb dL_law_922 (by decide) (fun c922 => absurd (by rw [hsm]; exact lg_cmp_s _) c922) (fun c922 => ?_)
        refine lv_iconst (v := 1) hx hb dL_law_925 (by decide) ?_
        refine lv_goto (tgt := 930) hx hb dL_law_926 (by decide) ?_
        exact W.wid (by first | omega | (dsimp only [hRm]; omega) | (simp [hRm]; omega)) (by first | omega | (dsimp only [hRm]; omega) | (simp [hRm]; omega)) (kk _ _ _ _ Y)
  · refine h_ev (y := nI kz) ke1 ?_
    refine lv_istore (lv' := [(12, .int (nI kz)), (0, .ref G.2.1), (1, .ref (sA S 0)), (2, .ref tt), (3, .ref bb), (4, .int (nI (sM S))), (5, .int (nI (hNow h))), (6, .long sm), (8, .long (lN A9)), (10, .long (lN I9))]) hx hb dL_law_812 hl (by decide) rfl (fun ls hl => ?_)
    refine lv_iload hx hb dL_law_814 (lv_at hl 0 rfl) ?_
    refine lv_if_lt (tgt := 832) hx hb dL_law_816 (by decide) (fun c816 => absurd (show kz < 0 from (nI_ltI (a := kz) (b := 0) (by omega) (by omega)).mp c816) (by omega)) (fun c816 => ?_)
    have c816 : ¬ kz < 0 := fun z9 => c816 ((nI_ltI (a := kz) (b := 0) (by omega) (by omega)).mpr z9)
    obtain ⟨ww, eww, hww, hwb⟩ : ∃ ww, qLefts S false (nI kz) = nI ww ∧ A9 < ww ∧ ww ≤ 44800000 := ⟨_, (qLefts_n hGC (nI kz)).1, by rw [hA9]; exact ke4, Nat.le_trans (qLefts_n hGC (nI kz)).2.1 (qLefts_n hGC (nI kz)).2.2⟩
    refine lv_aload_n hx hb dL_law_819 rfl (lv_at hl 2 rfl) ?_
    refine lv_iload hx hb dL_law_820 (lv_at hl 0 rfl) ?_
    refine h_callV (rest := []) X Y (c_without l G Mz1 S h hQv kz (by omega)) gw_L_167 dsc_X11_without ho0 rfl rfl rfl hl.1 rfl (Nat.le_of_ble_eq_true rfl) ⟨Nat.le_of_ble_eq_true rfl, Nat.le_of_ble_eq_true rfl⟩ ⟨(by show _ ≤ 600086; first | omega | (dsimp only [hRm]; omega)), (by show _ ≤ 7301442; first | omega | (dsimp only [hRm]; omega))⟩ dL_law_822 ?_
    rintro _ Mz13 H locs ⟨rfl, hs9⟩ Y
    have hQv := hQv.sim hs9
    have ho0 := hQv.2.2.1.1
    try dsimp only [Option.toList, List.singleton_append]
    refine h_ev (y := nI ww) eww ?_
    refine lv_i2l (v := (nI ww).toInt64) hx hb dL_law_825 rfl ?_
    refine h_evL (y := lN ww) (nI_l (by omega)) ?_
    refine lv_lload hx hb dL_law_826 (lv_at hl 8 rfl) ?_
    refine W.lcmp hx hb dL_law_828 ?_
    refine lv_if_le (tgt := 874) hx hb dL_law_829 (by decide) (fun c829 => absurd c829 (lgn_gt (by omega) (by omega) hww)) (fun c829 => ?_)
    refine lv_iload hx hb dL_law_832 (lv_at hl 5 rfl) ?_
    refine lv_if_le (tgt := 876) hx hb dL_law_834 (by decide) (fun c834 => ?_) (fun c834 => ?_)
    · have c834 : (sM S) ≤ 0 := (nI_leI (a := (sM S)) (b := 0) (by omega) (by omega)).mp c834
      refine lv_aload_n hx hb dL_law_876 rfl (lv_at hl 2 rfl) ?_
      refine lv_bipush (v := 7) hx hb dL_law_877 (by decide) ?_
      refine h_callV (rest := []) X Y (c_count l G Mz13 S h hQv 7 (by decide) (by decide)) gw_L_188 dsc_X11_count ho0 rfl rfl rfl hl.1 rfl (Nat.le_of_ble_eq_true rfl) ⟨Nat.le_of_ble_eq_true rfl, Nat.le_of_ble_eq_true rfl⟩ ⟨(by show _ ≤ 600086; first | omega | (dsimp only [hRm]; omega)), (by show _ ≤ 7301442; first | omega | (dsimp only [hRm]; omega))⟩ dL_law_879 ?_
      rintro _ Mz14 H locs ⟨rfl, hs9⟩ Y
      have hQv := hQv.sim hs9
      have ho0 := hQv.2.2.1.1
      try dsimp only [Option.toList, List.singleton_append]
      refine h_ev (y := nI A9) qa ?_
      refine lv_i2l (v := (nI A9).toInt64) hx hb dL_law_882 rfl ?_
      refine h_evL (y := lN A9) (nI_l (by omega)) ?_
      refine lv_lload hx hb dL_law_883 (lv_at hl 8 rfl) ?_
      refine W.lcmp hx hb dL_law_885 ?_
      refine lv_if_ne (tgt := 929) hx hb dL_law_886 (by decide) (fun c886 => absurd (lg_cmp_s _) c886) (fun c886 => ?_)
      refine lv_aload_n hx hb dL_law_889 rfl (lv_at hl 2 rfl) ?_
      refine h_callV (rest := []) X Y (c_kept l G Mz14 S h hQv) gw_L_191 dsc_X11_kept ho0 rfl rfl rfl hl.1 rfl (Nat.le_of_ble_eq_true rfl) ⟨Nat.le_of_ble_eq_true rfl, Nat.le_of_ble_eq_true rfl⟩ ⟨(by show _ ≤ 600086; first | omega | (dsimp only [hRm]; omega)), (by show _ ≤ 7301442; first | omega | (dsimp only [hRm]; omega))⟩ dL_law_890 ?_
      rintro _ Mz15 H locs ⟨rfl, hs9⟩ Y
      have hQv := hQv.sim hs9
      have ho0 := hQv.2.2.1.1
      try dsimp only [Option.toList, List.singleton_append]
      rcases Nat.eq_zero_or_pos I9 with hz | hz
      · refine lv_lload hx hb dL_law_893 (lv_at hl 9 rfl) ?_
        refine lv_lconst (v := 0) hx hb dL_law_895 (by decide) ?_
        refine W.lcmp hx hb dL_law_896 ?_
        refine lv_if_ne (tgt := 904) hx hb dL_law_897 (by decide) (fun c897 => absurd (by rw [hz]; exact lg_cmp_s _) c897) (fun c897 => ?_)
        refine lv_dconst1 hx hb dL_law_900 ?_
        refine lv_goto (tgt := 911) hx hb dL_law_901 (by decide) ?_
        refine lv_dcmp hx hb dL_law_911 ?_
        refine h_ev (y := 0) (dcmp_s (show qKept S = _ from if_pos (by rw [hinc, hz]; rfl)) (by rw [show qKept S = _ from if_pos (by rw [hinc, hz]; rfl)]; exact one_nn)) ?_
        refine lv_if_ne (tgt := 929) hx hb dL_law_912 (by decide) (fun c912 => absurd (by decide) c912) (fun c912 => ?_)
        refine lv_aload_n hx hb dL_law_915 rfl (lv_at hl 2 rfl) ?_
        refine h_callV (rest := []) X Y (c_digest l G Mz15 S h hQv) gw_L_145 dsc_X11_digest ho0 rfl rfl rfl hl.1 rfl (Nat.le_of_ble_eq_true rfl) ⟨Nat.le_of_ble_eq_true rfl, Nat.le_of_ble_eq_true rfl⟩ ⟨(by show _ ≤ 600086; first | omega | (dsimp only [hRm]; omega)), (by show _ ≤ 7301442; first | omega | (dsimp only [hRm]; omega))⟩ dL_law_916 ?_
        rintro _ Mz16 H locs ⟨rfl, hs9⟩ Y
        have hQv := hQv.sim hs9
        have ho0 := hQv.2.2.1.1
        try dsimp only [Option.toList, List.singleton_append]
        refine lv_lload hx hb dL_law_919 (lv_at hl 7 rfl) ?_
        refine W.lcmp hx hb dL_law_921 ?_
        refine lv_if_ne (tgt := 929) hx hb dL_law_922 (by decide) (fun c922 => absurd (by rw [hsm]; exact lg_cmp_s _) c922) (fun c922 => ?_)
        refine lv_iconst (v := 1) hx hb dL_law_925 (by decide) ?_
        refine lv_goto (tgt := 930) hx hb dL_law_926 (by decide) ?_
        exact W.wid (by first | omega | (dsimp only [hRm]; omega) | (simp [hRm]; omega)) (by first | omega | (dsimp only [hRm]; omega) | (simp [hRm]; omega)) (kk _ _ _ _ Y)
      · refine lv_lload hx hb dL_law_893 (lv_at hl 9 rfl) ?_
        refine lv_lconst (v := 0) hx hb dL_law_895 (by decide) ?_
        refine W.lcmp hx hb dL_law_896 ?_
        refine lv_if_ne (tgt := 904) hx hb dL_law_897 (by decide) (fun c897 => ?_) (fun c897 => absurd c897 (fun z9 => by have z8 := (pk_lEQ (a := I9) (b := 0) (by omega) (by omega)).mp (lg_cmp_0 z9); omega))
        refine lv_lload hx hb dL_law_904 (lv_at hl 8 rfl) ?_
        refine lv_l2d hx hb dL_law_906 ?_
        rw [l2d_n (show A9 < 2147483648 by omega)]
        refine lv_lload hx hb dL_law_907 (lv_at hl 9 rfl) ?_
        refine lv_l2d hx hb dL_law_909 ?_
        rw [l2d_n (show I9 < 2147483648 by omega)]
        refine lv_ddiv hx hb dL_law_910 (kept_nan (fun z9 => by have z8 := (nI_eq (a := I9) (b := 0) (by omega) (by omega)).mp z9; omega)) ?_
        refine lv_dcmp hx hb dL_law_911 ?_
        have hne : ¬ nI I9 = 0 := fun z9 => by have z8 := (nI_eq (a := I9) (b := 0) (by omega) (by omega)).mp z9; omega
        have hkp : qKept S = FP.ddiv (FP.i2d (nI A9)) (FP.i2d (nI I9)) := by unfold qKept; rw [hinc, if_neg hne, qa]
        refine h_ev (y := 0) (dcmp_s hkp (by rw [hkp]; exact kept_nn hne)) ?_
        refine lv_if_ne (tgt := 929) hx hb dL_law_912 (by decide) (fun c912 => absurd (by decide) c912) (fun c912 => ?_)
        refine lv_aload_n hx hb dL_law_915 rfl (lv_at hl 2 rfl) ?_
        refine h_callV (rest := []) X Y (c_digest l G Mz15 S h hQv) gw_L_145 dsc_X11_digest ho0 rfl rfl rfl hl.1 rfl (Nat.le_of_ble_eq_true rfl) ⟨Nat.le_of_ble_eq_true rfl, Nat.le_of_ble_eq_true rfl⟩ ⟨(by show _ ≤ 600086; first | omega | (dsimp only [hRm]; omega)), (by show _ ≤ 7301442; first | omega | (dsimp only [hRm]; omega))⟩ dL_law_916 ?_
        rintro _ Mz17 H locs ⟨rfl, hs9⟩ Y
        have hQv := hQv.sim hs9
        have ho0 := hQv.2.2.1.1
        try dsimp only [Option.toList, List.singleton_append]
        refine lv_lload hx hb dL_law_919 (lv_at hl 7 rfl) ?_
        refine W.lcmp hx hb dL_law_921 ?_
        refine lv_if_ne (tgt := 929) hx hb dL_law_922 (by decide) (fun c922 => absurd (by rw [hsm]; exact lg_cmp_s _) c922) (fun c922 => ?_)
        refine lv_iconst (v := 1) hx hb dL_law_925 (by decide) ?_
        refine lv_goto (tgt := 930) hx hb dL_law_926 (by decide) ?_
        exact W.wid (by first | omega | (dsimp only [hRm]; omega) | (simp [hRm]; omega)) (by first | omega | (dsimp only [hRm]; omega) | (simp [hRm]; omega)) (kk _ _ _ _ Y)
    · have c834 : ¬ (sM S) ≤ 0 := fun z9 => c834 ((nI_leI (a := (sM S)) (b := 0) (by omega) (by omega)).mpr z9)
      have hm0 : 0 < sM S := by omega
      obtain ⟨pp, r, hpb, hrb, e1, e2, -, -, -, -⟩ := (hGC.2.2 0 hm0).1.am
      refine lv_aload_n hx hb dL_law_837 rfl (lv_at hl 2 rfl) ?_
      refine lv_iconst (v := 0) hx hb dL_law_838 (by decide) ?_
      refine lv_aload_n hx hb dL_law_839 rfl (lv_at hl 2 rfl) ?_
      refine lv_iconst (v := 0) hx hb dL_law_840 (by decide) ?_
      refine lv_iconst (v := 3) hx hb dL_law_841 (by decide) ?_
      refine h_callV (rest := [.int 0, .ref (sA S 0)]) X Y (c_claim l G Mz13 S h hQv 0 3 (by omega) (by decide)) gw_L_149 dsc_X11_claim ho0 rfl rfl rfl hl.1 rfl (Nat.le_of_ble_eq_true rfl) ⟨Nat.le_of_ble_eq_true rfl, Nat.le_of_ble_eq_true rfl⟩ ⟨(by show _ ≤ 600086; first | omega | (dsimp only [hRm]; omega)), (by show _ ≤ 7301442; first | omega | (dsimp only [hRm]; omega))⟩ dL_law_842 ?_
      rintro _ Mz18 H locs ⟨rfl, hs9⟩ Y
      have hQv := hQv.sim hs9
      have ho0 := hQv.2.2.1.1
      try dsimp only [Option.toList, List.singleton_append]
      refine lv_iconst (v := 0) hx hb dL_law_845 (by decide) ?_
      refine h_callV (rest := []) X Y (c_would l G Mz18 S h hQv 0 (clI (sC S 0) 2) hm0 rfl (by rw [e2]; exact nI_nn (by omega)) (by rw [e2]; exact (nI_leI (b := 1000000) (by omega) (by omega)).mpr (by omega))) gw_L_182 dsc_X11_would ho0 rfl rfl rfl hl.1 rfl (Nat.le_of_ble_eq_true rfl) ⟨Nat.le_of_ble_eq_true rfl, Nat.le_of_ble_eq_true rfl⟩ ⟨(by show _ ≤ 600086; first | omega | (dsimp only [hRm]; omega)), (by show _ ≤ 7301442; first | omega | (dsimp only [hRm]; omega))⟩ dL_law_846 ?_
      rintro _ Mz19 H locs ⟨rfl, hs9⟩ Y
      have hQv := hQv.sim hs9
      have ho0 := hQv.2.2.1.1
      try dsimp only [Option.toList, List.singleton_append]
      refine h_ev (y := nI A9) qa ?_
      refine lv_i2l (v := (nI A9).toInt64) hx hb dL_law_849 rfl ?_
      refine h_evL (y := lN A9) (nI_l (by omega)) ?_
      refine lv_lload hx hb dL_law_850 (lv_at hl 8 rfl) ?_
      refine W.lcmp hx hb dL_law_852 ?_
      refine lv_if_ne (tgt := 874) hx hb dL_law_853 (by decide) (fun c853 => absurd (lg_cmp_s _) c853) (fun c853 => ?_)
      refine lv_aload_n hx hb dL_law_856 rfl (lv_at hl 2 rfl) ?_
      refine lv_iconst (v := 0) hx hb dL_law_857 (by decide) ?_
      refine lv_aload_n hx hb dL_law_858 rfl (lv_at hl 1 rfl) ?_
      refine lv_iconst (v := 3) hx hb dL_law_859 (by decide) ?_
      refine h_callSr (rest := [.int 0, .ref (sA S 0)]) X Y (c_cell l G Mz19 Lx xs hsc 3 (by decide)) rfl rfl gw_L_36 dsc_L_cell.2 rfl rfl hl.1 (Nat.le_of_ble_eq_true rfl) ⟨Nat.le_of_ble_eq_true rfl, Nat.le_of_ble_eq_true rfl⟩ ⟨(by show _ ≤ 600086; first | omega | (dsimp only [hRm]; omega)), (by show _ ≤ 7301442; first | omega | (dsimp only [hRm]; omega))⟩ dL_law_860 (fun H locs Y => ?_)
      refine lv_iconst (v := 3) hx hb dL_law_863 (by decide) ?_
      refine h_callSr (rest := [.int 0, .ref (sA S 0)]) X Y (c_below l G Mz19 (cel Lx xs 3) 3 (by decide)) rfl rfl gw_L_42 dsc_L_below.2 rfl rfl hl.1 (Nat.le_of_ble_eq_true rfl) ⟨Nat.le_of_ble_eq_true rfl, Nat.le_of_ble_eq_true rfl⟩ ⟨(by show _ ≤ 600086; first | omega | (dsimp only [hRm]; omega)), (by show _ ≤ 7301442; first | omega | (dsimp only [hRm]; omega))⟩ dL_law_864 (fun H locs Y => ?_)
      have hbl3 := bel_lt (cel Lx xs 3) (y := 3) (by decide)
      refine h_callV (rest := []) X Y (c_reaches l G Mz19 S h hQv 0 (bel (cel Lx xs 3) 3) hm0 (by omega)) gw_L_185 dsc_X11_reaches ho0 rfl rfl rfl hl.1 rfl (Nat.le_of_ble_eq_true rfl) ⟨Nat.le_of_ble_eq_true rfl, Nat.le_of_ble_eq_true rfl⟩ ⟨(by show _ ≤ 600086; first | omega | (dsimp only [hRm]; omega)), (by show _ ≤ 7301442; first | omega | (dsimp only [hRm]; omega))⟩ dL_law_867 ?_
      rintro _ Mz20 H locs ⟨⟨rr, rfl, hrr⟩, hs9⟩ Y
      have hQv := hQv.sim hs9
      have ho0 := hQv.2.2.1.1
      try dsimp only [Option.toList, List.singleton_append]
      refine lv_iconst (v := (-1)) hx hb dL_law_870 (by decide) ?_
      refine lv_icmp_ge (tgt := 876) hx hb dL_law_871 (by decide) (fun c871 => ?_) (fun c871 => absurd (Int32.not_lt.mp hrr) c871)
      refine lv_aload_n hx hb dL_law_876 rfl (lv_at hl 2 rfl) ?_
      refine lv_bipush (v := 7) hx hb dL_law_877 (by decide) ?_
      refine h_callV (rest := []) X Y (c_count l G Mz20 S h hQv 7 (by decide) (by decide)) gw_L_188 dsc_X11_count ho0 rfl rfl rfl hl.1 rfl (Nat.le_of_ble_eq_true rfl) ⟨Nat.le_of_ble_eq_true rfl, Nat.le_of_ble_eq_true rfl⟩ ⟨(by show _ ≤ 600086; first | omega | (dsimp only [hRm]; omega)), (by show _ ≤ 7301442; first | omega | (dsimp only [hRm]; omega))⟩ dL_law_879 ?_
      rintro _ Mz21 H locs ⟨rfl, hs9⟩ Y
      have hQv := hQv.sim hs9
      have ho0 := hQv.2.2.1.1
      try dsimp only [Option.toList, List.singleton_append]
      refine h_ev (y := nI A9) qa ?_
      refine lv_i2l (v := (nI A9).toInt64) hx hb dL_law_882 rfl ?_
      refine h_evL (y := lN A9) (nI_l (by omega)) ?_
      refine lv_lload hx hb dL_law_883 (lv_at hl 8 rfl) ?_
      refine W.lcmp hx hb dL_law_885 ?_
      refine lv_if_ne (tgt := 929) hx hb dL_law_886 (by decide) (fun c886 => absurd (lg_cmp_s _) c886) (fun c886 => ?_)
      refine lv_aload_n hx hb dL_law_889 rfl (lv_at hl 2 rfl) ?_
      refine h_callV (rest := []) X Y (c_kept l G Mz21 S h hQv) gw_L_191 dsc_X11_kept ho0 rfl rfl rfl hl.1 rfl (Nat.le_of_ble_eq_true rfl) ⟨Nat.le_of_ble_eq_true rfl, Nat.le_of_ble_eq_true rfl⟩ ⟨(by show _ ≤ 600086; first | omega | (dsimp only [hRm]; omega)), (by show _ ≤ 7301442; first | omega | (dsimp only [hRm]; omega))⟩ dL_law_890 ?_
      rintro _ Mz22 H locs ⟨rfl, hs9⟩ Y
      have hQv := hQv.sim hs9
      have ho0 := hQv.2.2.1.1
      try dsimp only [Option.toList, List.singleton_append]
      rcases Nat.eq_zero_or_pos I9 with hz | hz
      · refine lv_lload hx hb dL_law_893 (lv_at hl 9 rfl) ?_
        refine lv_lconst (v := 0) hx hb dL_law_895 (by decide) ?_
        refine W.lcmp hx hb dL_law_896 ?_
        refine lv_if_ne (tgt := 904) hx hb dL_law_897 (by decide) (fun c897 => absurd (by rw [hz]; exact lg_cmp_s _) c897) (fun c897 => ?_)
        refine lv_dconst1 hx hb dL_law_900 ?_
        refine lv_goto (tgt := 911) hx hb dL_law_901 (by decide) ?_
        refine lv_dcmp hx hb dL_law_911 ?_
        refine h_ev (y := 0) (dcmp_s (show qKept S = _ from if_pos (by rw [hinc, hz]; rfl)) (by rw [show qKept S = _ from if_pos (by rw [hinc, hz]; rfl)]; exact one_nn)) ?_
        refine lv_if_ne (tgt := 929) hx hb dL_law_912 (by decide) (fun c912 => absurd (by decide) c912) (fun c912 => ?_)
        refine lv_aload_n hx hb dL_law_915 rfl (lv_at hl 2 rfl) ?_
        refine h_callV (rest := []) X Y (c_digest l G Mz22 S h hQv) gw_L_145 dsc_X11_digest ho0 rfl rfl rfl hl.1 rfl (Nat.le_of_ble_eq_true rfl) ⟨Nat.le_of_ble_eq_true rfl, Nat.le_of_ble_eq_true rfl⟩ ⟨(by show _ ≤ 600086; first | omega | (dsimp only [hRm]; omega)), (by show _ ≤ 7301442; first | omega | (dsimp only [hRm]; omega))⟩ dL_law_916 ?_
        rintro _ Mz23 H locs ⟨rfl, hs9⟩ Y
        have hQv := hQv.sim hs9
        have ho0 := hQv.2.2.1.1
        try dsimp only [Option.toList, List.singleton_append]
        refine lv_lload hx hb dL_law_919 (lv_at hl 7 rfl) ?_
        refine W.lcmp hx hb dL_law_921 ?_
        refine lv_if_ne (tgt := 929) hx hb dL_law_922 (by decide) (fun c922 => absurd (by rw [hsm]; exact lg_cmp_s _) c922) (fun c922 => ?_)
        refine lv_iconst (v := 1) hx hb dL_law_925 (by decide) ?_
        refine lv_goto (tgt := 930) hx hb dL_law_926 (by decide) ?_
        exact W.wid (by first | omega | (dsimp only [hRm]; omega) | (simp [hRm]; omega)) (by first | omega | (dsimp only [hRm]; omega) | (simp [hRm]; omega)) (kk _ _ _ _ Y)
      · refine lv_lload hx hb dL_law_893 (lv_at hl 9 rfl) ?_
        refine lv_lconst (v := 0) hx hb dL_law_895 (by decide) ?_
        refine W.lcmp hx hb dL_law_896 ?_
        refine lv_if_ne (tgt := 904) hx hb dL_law_897 (by decide) (fun c897 => ?_) (fun c897 => absurd c897 (fun z9 => by have z8 := (pk_lEQ (a := I9) (b := 0) (by omega) (by omega)).mp (lg_cmp_0 z9); omega))
        refine lv_lload hx hb dL_law_904 (lv_at hl 8 rfl) ?_
        refine lv_l2d hx hb dL_law_906 ?_
        rw [l2d_n (show A9 < 2147483648 by omega)]
        refine lv_lload hx hb dL_law_907 (lv_at hl 9 rfl) ?_
        refine lv_l2d hx hb dL_law_909 ?_
        rw [l2d_n (show I9 < 2147483648 by omega)]
        refine lv_ddiv hx hb dL_law_910 (kept_nan (fun z9 => by have z8 := (nI_eq (a := I9) (b := 0) (by omega) (by omega)).mp z9; omega)) ?_
        refine lv_dcmp hx hb dL_law_911 ?_
        have hne : ¬ nI I9 = 0 := fun z9 => by have z8 := (nI_eq (a := I9) (b := 0) (by omega) (by omega)).mp z9; omega
        have hkp : qKept S = FP.ddiv (FP.i2d (nI A9)) (FP.i2d (nI I9)) := by unfold qKept; rw [hinc, if_neg hne, qa]
        refine h_ev (y := 0) (dcmp_s hkp (by rw [hkp]; exact kept_nn hne)) ?_
        refine lv_if_ne (tgt := 929) hx hb dL_law_912 (by decide) (fun c912 => absurd (by decide) c912) (fun c912 => ?_)
        refine lv_aload_n hx hb dL_law_915 rfl (lv_at hl 2 rfl) ?_
        refine h_callV (rest := []) X Y (c_digest l G Mz22 S h hQv) gw_L_145 dsc_X11_digest ho0 rfl rfl rfl hl.1 rfl (Nat.le_of_ble_eq_true rfl) ⟨Nat.le_of_ble_eq_true rfl, Nat.le_of_ble_eq_true rfl⟩ ⟨(by show _ ≤ 600086; first | omega | (dsimp only [hRm]; omega)), (by show _ ≤ 7301442; first | omega | (dsimp only [hRm]; omega))⟩ dL_law_916 ?_
        rintro _ Mz24 H locs ⟨rfl, hs9⟩ Y
        have hQv := hQv.sim hs9
        have ho0 := hQv.2.2.1.1
        try dsimp only [Option.toList, List.singleton_append]
        refine lv_lload hx hb dL_law_919 (lv_at hl 7 rfl) ?_
        refine W.lcmp hx hb dL_law_921 ?_
        refine lv_if_ne (tgt := 929) hx hb dL_law_922 (by decide) (fun c922 => absurd (by rw [hsm]; exact lg_cmp_s _) c922) (fun c922 => ?_)
        refine lv_iconst (v := 1) hx hb dL_law_925 (by decide) ?_
        refine lv_goto (tgt := 930) hx hb dL_law_926 (by decide) ?_
        exact W.wid (by first | omega | (dsimp only [hRm]; omega) | (simp [hRm]; omega)) (by first | omega | (dsimp only [hRm]; omega) | (simp [hRm]; omega)) (kk _ _ _ _ Y)
