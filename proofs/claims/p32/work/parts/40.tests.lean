-- TESTS ARE READ
theorem gw_X6_166 : GoodIn hGW (wsV RX6 166 RX6 yX6_takesDeeper (Cond.code yX6_takesDeeper cX6_takesDeeper 3 (Option.some FieldType.boolean) :: hGW)) := hgi4 kml_X6_166 kin_X6_takesDeeper kse_X6_X6_takesDeeper_X6_takesDeeper kini_X6 kco_X6_takesDeeper
theorem dsc_X6_takesDeeper : yX6_takesDeeper.cls = RX6 ∧ yX6_takesDeeper.cls ≠ "java/lang/invoke/MethodHandle" ∧ yX6_takesDeeper.cls ≠ "java/lang/invoke/VarHandle" ∧ (parseMethodDescriptor yX6_takesDeeper.desc).map (fun d => d.parameters.length) = some 2 := ⟨rfl, by decide +kernel, by decide +kernel, by decide +kernel⟩
theorem gw_X6_135 : GoodIn hGW (wsV RX6 135 RX6 yX6_sum (Cond.code yX6_sum cX6_sum 4 (Option.none) :: hGW)) := hgi4 kml_X6_135 kin_X6_sum kse_X6_X6_sum_X6_sum kini_X6 kco_X6_sum
theorem dsc_X6_sum : yX6_sum.cls = RX6 ∧ yX6_sum.cls ≠ "java/lang/invoke/MethodHandle" ∧ yX6_sum.cls ≠ "java/lang/invoke/VarHandle" ∧ (parseMethodDescriptor yX6_sum.desc).map (fun d => d.parameters.length) = some 1 := ⟨rfl, by decide +kernel, by decide +kernel, by decide +kernel⟩
theorem gw_X6_176 : GoodIn hGW (wsV RX6 176 RX7 yX7_isComparison (Cond.code yX7_isComparison cX7_isComparison 1 (Option.some FieldType.boolean) :: hGW)) := hgi4 kml_X6_176 kin_X7_isComparison kse_X7_X7_isComparison_X7_isComparison kini_X7 kco_X7_isComparison
theorem dsc_X7_isComparison : yX7_isComparison.cls = RX7 ∧ yX7_isComparison.cls ≠ "java/lang/invoke/MethodHandle" ∧ yX7_isComparison.cls ≠ "java/lang/invoke/VarHandle" ∧ (parseMethodDescriptor yX7_isComparison.desc).map (fun d => d.parameters.length) = some 0 := ⟨rfl, by decide +kernel, by decide +kernel, by decide +kernel⟩
theorem dX6_single_0 : decode cX6_single 0 = .ok (.aload_n 0, 1) := by decide +kernel
theorem dX6_single_1 : decode cX6_single 1 = .ok (.getstatic 163, 3) := by decide +kernel
theorem dX6_single_4 : decode cX6_single 4 = .ok (.iload_n 1, 1) := by decide +kernel
theorem dX6_single_5 : decode cX6_single 5 = .ok (.invokevirtual 166, 3) := by decide +kernel
theorem dX6_single_8 : decode cX6_single 8 = .ok (.ifCond .eq 21, 3) := by decide +kernel
theorem dX6_single_29 : decode cX6_single 29 = .ok (.aload_n 0, 1) := by decide +kernel
theorem dX6_single_30 : decode cX6_single 30 = .ok (.getstatic 170, 3) := by decide +kernel
theorem dX6_single_33 : decode cX6_single 33 = .ok (.iload_n 1, 1) := by decide +kernel
theorem dX6_single_34 : decode cX6_single 34 = .ok (.invokevirtual 166, 3) := by decide +kernel
theorem dX6_single_37 : decode cX6_single 37 = .ok (.ifCond .eq 20, 3) := by decide +kernel
theorem dX6_single_57 : decode cX6_single 57 = .ok (.aload_n 0, 1) := by decide +kernel
theorem dX6_single_58 : decode cX6_single 58 = .ok (.iload_n 1, 1) := by decide +kernel
theorem dX6_single_59 : decode cX6_single 59 = .ok (.invokevirtual 135, 3) := by decide +kernel
theorem dX6_single_62 : decode cX6_single 62 = .ok (.aload_n 0, 1) := by decide +kernel
theorem dX6_single_63 : decode cX6_single 63 = .ok (.getfield 32, 3) := by decide +kernel
theorem dX6_single_66 : decode cX6_single 66 = .ok (.astore_n 2, 1) := by decide +kernel
theorem dX6_single_67 : decode cX6_single 67 = .ok (.aload_n 2, 1) := by decide +kernel
theorem dX6_single_68 : decode cX6_single 68 = .ok (.invokevirtual 176, 3) := by decide +kernel
theorem dX6_single_71 : decode cX6_single 71 = .ok (.ifCond .ne 10, 3) := by decide +kernel
theorem dX6_single_81 : decode cX6_single 81 = .ok (.aload_n 0, 1) := by decide +kernel
theorem dX6_single_82 : decode cX6_single 82 = .ok (.aload_n 2, 1) := by decide +kernel
theorem dX6_single_83 : decode cX6_single 83 = .ok (.invokevirtual 51, 3) := by decide +kernel
theorem dX6_single_86 : decode cX6_single 86 = .ok (.pop, 1) := by decide +kernel
theorem dX6_single_87 : decode cX6_single 87 = .ok (.aload_n 0, 1) := by decide +kernel
theorem dX6_single_88 : decode cX6_single 88 = .ok (.iload_n 1, 1) := by decide +kernel
theorem dX6_single_89 : decode cX6_single 89 = .ok (.invokevirtual 135, 3) := by decide +kernel
theorem dX6_single_92 : decode cX6_single 92 = .ok (.aload_n 0, 1) := by decide +kernel
theorem dX6_single_93 : decode cX6_single 93 = .ok (.aload_n 2, 1) := by decide +kernel
theorem dX6_single_94 : decode cX6_single 94 = .ok (.iconst 0, 1) := by decide +kernel
theorem dX6_single_95 : decode cX6_single 95 = .ok (.invokevirtual 153, 3) := by decide +kernel
theorem dX6_single_98 : decode cX6_single 98 = .ok (.return_, 1) := by decide +kernel
set_option maxHeartbeats 400000 in
set_option maxRecDepth 100000 in
theorem c_single1 (l : Launch) (G : hG) (M : hM) (A : Nat → Nat) (N : Nat) (sg : Nat → Nat) (nb : Nat → Int32) (wd : Nat → Int64) (hN : N < 400) (hTk : TkV G M A N sg nb wd) (hs7 : ∀ i, i ≤ N → sg i < 37) (sc np : Nat) (sn : Nat → Option Nat) (nn : Nat → Int32) (hPa : PaV G M A sg sc np sn nn) (dp : Nat) (hd8 : dp < 8) (hlf : (sg np = 34 ∨ sg np = 15 ∨ sg np = 17)) (hk : sg (np + 1) = 28 ∨ sg (np + 1) = 32) (hlf2 : (sg (np + 2) = 34 ∨ sg (np + 2) = 15 ∨ sg (np + 2) = 17)) (he : sg (np + 3) ≠ 26 ∧ sg (np + 3) ≠ 27 ∧ sg (np + 3) ≠ 24 ∧ sg (np + 3) ≠ 25) (hlt : np + 3 ≤ N) (hsc : sc + 3 ≤ 400) : hCT l G yX6_single cX6_single 3 (Option.none) (hRm 6 0 0) M [.ref (A 8), .int (nI dp)] (fun v M' => v = none ∧ PaV G M' A sg (sc + 3) (np + 3) (stp G (stp G (stp G sn sc (sg np)) (sc + 1) (sg (np + 2))) (sc + 2) (sg (np + 1))) (upd (upd (upd nn sc (nb np)) (sc + 1) (nb (np + 2))) (sc + 2) 0) ∧ hFr (fun u => u = 8 ∨ u = 9 ∨ u = 10) M M') := by
  refine hCT.of (own := RX6) (nm := "single") (by decide) rfl rfl (Nat.le_of_ble_eq_true rfl) ?_
  intro p e s m args below meth c ls X Y hl
  have hx := X.1
  have hb := X.2.1
  have hl : lv_has ls 3 [(0, .ref (A 8)), (1, .int (nI dp))] := hl
  have hfr : hFr (fun u => u = 8 ∨ u = 9 ∨ u = 10) M M := hFr.rf
  have hs90 := hs7 (np) (by omega)
  have hs91 := hs7 (np + 1) (by omega)
  have hs92 := hs7 (np + 2) (by omega)
  have hs93 := hs7 (np + 3) (by omega)
  refine lv_aload_n hx hb dX6_single_0 rfl (lv_at hl 0 rfl) ?_
  refine h_gets X Y (hsg_Z X.2.2.2.2.2.2.2.2.1 X.2.2.2.2.2.2.2.2.2.1 (k := 12) (by decide)) kfl_X6_163 dX6_single_1 ?_
  refine lv_iload_n hx hb dX6_single_4 rfl (lv_at hl 1 rfl) ?_
  refine h_callVr (rest := []) X Y (c_tdN l G M A N sg nb wd hN hTk hs7 sc np sn nn hPa 12 dp (by omega) (by omega) (by omega) (by omega)) rfl rfl gw_X6_166 dsc_X6_takesDeeper hPa.1 rfl rfl rfl rfl hl.1 (Nat.le_of_ble_eq_true rfl) ⟨Nat.le_of_ble_eq_true rfl, Nat.le_of_ble_eq_true rfl⟩ ⟨Nat.le_of_ble_eq_true rfl, Nat.le_of_ble_eq_true rfl⟩ dX6_single_5 (fun H locs Y => ?_)
  refine lv_if_eq (tgt := 29) hx hb dX6_single_8 (by decide) (fun c8 => ?_) (fun c8 => absurd (by decide) c8)
  refine lv_aload_n hx hb dX6_single_29 rfl (lv_at hl 0 rfl) ?_
  refine h_gets X Y (hsg_Z X.2.2.2.2.2.2.2.2.1 X.2.2.2.2.2.2.2.2.2.1 (k := 20) (by decide)) kfl_X6_170 dX6_single_30 ?_
  refine lv_iload_n hx hb dX6_single_33 rfl (lv_at hl 1 rfl) ?_
  refine h_callVr (rest := []) X Y (c_tdN l G M A N sg nb wd hN hTk hs7 sc np sn nn hPa 20 dp (by omega) (by omega) (by omega) (by omega)) rfl rfl gw_X6_166 dsc_X6_takesDeeper hPa.1 rfl rfl rfl rfl hl.1 (Nat.le_of_ble_eq_true rfl) ⟨Nat.le_of_ble_eq_true rfl, Nat.le_of_ble_eq_true rfl⟩ ⟨Nat.le_of_ble_eq_true rfl, Nat.le_of_ble_eq_true rfl⟩ dX6_single_34 (fun H locs Y => ?_)
  refine lv_if_eq (tgt := 57) hx hb dX6_single_37 (by decide) (fun c37 => ?_) (fun c37 => absurd (by decide) c37)
  refine lv_aload_n hx hb dX6_single_57 rfl (lv_at hl 0 rfl) ?_
  refine lv_iload_n hx hb dX6_single_58 rfl (lv_at hl 1 rfl) ?_
  refine h_callV (rest := []) X Y (c_sumN l G M A N sg nb wd hN hTk hs7 sc np sn nn hPa dp hlf (by omega) (by omega) (by omega)) gw_X6_135 dsc_X6_sum hPa.1 rfl rfl rfl hl.1 rfl (Nat.le_of_ble_eq_true rfl) ⟨Nat.le_of_ble_eq_true rfl, Nat.le_of_ble_eq_true rfl⟩ ⟨Nat.le_of_ble_eq_true rfl, Nat.le_of_ble_eq_true rfl⟩ dX6_single_59 ?_
  rintro _ Mz1 H locs ⟨rfl, hPa, hfa⟩ Y
  try dsimp only [Option.toList, List.nil_append, List.singleton_append]
  have hTk := hTk.fr hfa (fun j z1 z2 z3 => by omega)
  have hfr := hFr.tr hfr hfa
  refine lv_aload_n hx hb dX6_single_62 rfl (lv_at hl 0 rfl) ?_
  refine h_get X Y (k := 5) (v := .ref (hSg G (sg (np + 1)))) hPa.1 rfl hin_X6 (by decide) kfl_X6_32 rfl dX6_single_63 ?_
  refine lv_astore_n (lv' := [(2, .ref (hSg G (sg (np + 1)))), (0, .ref (A 8)), (1, .int (nI dp))]) hx hb dX6_single_66 rfl hl (by decide) rfl (fun ls hl => ?_)
  refine lv_aload_n hx hb dX6_single_67 rfl (lv_at hl 0 rfl) ?_
  refine h_callOr (rest := []) X Y (c_isComp l G Mz1 _ hk) rfl rfl gw_X6_176 dsc_X7_isComparison (hO_of (hsg_ex X.2.2.2.2.2.2.2.2.1 _ (show sg (np + 1) < 38 by omega))).2 rfl rfl hl.1 (Nat.le_of_ble_eq_true rfl) ⟨Nat.le_of_ble_eq_true rfl, Nat.le_of_ble_eq_true rfl⟩ ⟨Nat.le_of_ble_eq_true rfl, Nat.le_of_ble_eq_true rfl⟩ dX6_single_68 (fun H locs Y => ?_)
  refine lv_if_ne (tgt := 81) hx hb dX6_single_71 (by decide) (fun c71 => ?_) (fun c71 => absurd c71 (by decide))
  refine lv_aload_n hx hb dX6_single_81 rfl (lv_at hl 1 rfl) ?_
  refine lv_aload_n hx hb dX6_single_82 rfl (lv_at hl 0 rfl) ?_
  refine h_callV (rest := []) X Y (c_takesY l G Mz1 A N sg nb wd hN hTk hs7 (sc + 1) (np + 1) (stp G sn sc (sg np)) (upd nn sc (nb np)) hPa (sg (np + 1)) (by omega) rfl (by omega)) gw_X6_51 dsc_X6_takes hPa.1 rfl rfl rfl hl.1 rfl (Nat.le_of_ble_eq_true rfl) ⟨Nat.le_of_ble_eq_true rfl, Nat.le_of_ble_eq_true rfl⟩ ⟨Nat.le_of_ble_eq_true rfl, Nat.le_of_ble_eq_true rfl⟩ dX6_single_83 ?_
  rintro _ Mz2 H locs ⟨rfl, hPa, hfa⟩ Y
  try dsimp only [Option.toList, List.nil_append, List.singleton_append]
  have hTk := hTk.fr hfa (fun j z1 z2 z3 => by omega)
  have hfr := hFr.tr hfr hfa
  refine lv_pop hx hb dX6_single_86 rfl ?_
  refine lv_aload_n hx hb dX6_single_87 rfl (lv_at hl 1 rfl) ?_
  refine lv_iload_n hx hb dX6_single_88 rfl (lv_at hl 2 rfl) ?_
  refine h_callV (rest := []) X Y (c_sumN l G Mz2 A N sg nb wd hN hTk hs7 (sc + 1) (np + 2) (stp G sn sc (sg np)) (upd nn sc (nb np)) hPa dp hlf2 (by omega) (by omega) (by omega)) gw_X6_135 dsc_X6_sum hPa.1 rfl rfl rfl hl.1 rfl (Nat.le_of_ble_eq_true rfl) ⟨Nat.le_of_ble_eq_true rfl, Nat.le_of_ble_eq_true rfl⟩ ⟨Nat.le_of_ble_eq_true rfl, Nat.le_of_ble_eq_true rfl⟩ dX6_single_89 ?_
  rintro _ Mz3 H locs ⟨rfl, hPa, hfa⟩ Y
  try dsimp only [Option.toList, List.nil_append, List.singleton_append]
  have hTk := hTk.fr hfa (fun j z1 z2 z3 => by omega)
  have hfr := hFr.tr hfr hfa
  refine lv_aload_n hx hb dX6_single_92 rfl (lv_at hl 1 rfl) ?_
  refine lv_aload_n hx hb dX6_single_93 rfl (lv_at hl 0 rfl) ?_
  refine lv_iconst (v := 0) hx hb dX6_single_94 (by decide) ?_
  refine h_callV (rest := []) X Y (c_step l G Mz3 A N sg nb wd hN hTk hs7 (sc + 2) (np + 3) (stp G (stp G sn sc (sg np)) (sc + 1) (sg (np + 2))) (upd (upd nn sc (nb np)) (sc + 1) (nb (np + 2))) hPa (sg (np + 1)) (by omega) 0 (by omega)) gw_X6_153 dsc_X6_step hPa.1 rfl rfl rfl hl.1 rfl (Nat.le_of_ble_eq_true rfl) ⟨Nat.le_of_ble_eq_true rfl, Nat.le_of_ble_eq_true rfl⟩ ⟨Nat.le_of_ble_eq_true rfl, Nat.le_of_ble_eq_true rfl⟩ dX6_single_95 ?_
  rintro _ Mz4 H locs ⟨rfl, hPa, hfa⟩ Y
  try dsimp only [Option.toList, List.nil_append, List.singleton_append]
  have hTk := hTk.fr hfa (fun j z1 z2 z3 => by omega)
  have hfr := hFr.tr hfr hfa
  exact h_vret X Y ⟨rfl, hPa, hfr⟩ (Nat.le_of_ble_eq_true rfl) (Nat.le_of_ble_eq_true rfl) dX6_single_98
theorem gw_X6_157 : GoodIn hGW (wsV RX6 157 RX6 yX6_single (Cond.code yX6_single cX6_single 3 (Option.none) :: hGW)) := hgi4 kml_X6_157 kin_X6_single kse_X6_X6_single_X6_single kini_X6 kco_X6_single
theorem dsc_X6_single : yX6_single.cls = RX6 ∧ yX6_single.cls ≠ "java/lang/invoke/MethodHandle" ∧ yX6_single.cls ≠ "java/lang/invoke/VarHandle" ∧ (parseMethodDescriptor yX6_single.desc).map (fun d => d.parameters.length) = some 1 := ⟨rfl, by decide +kernel, by decide +kernel, by decide +kernel⟩
theorem dX6_single_11 : decode cX6_single 11 = .ok (.aload_n 0, 1) := by decide +kernel
theorem dX6_single_12 : decode cX6_single 12 = .ok (.iload_n 1, 1) := by decide +kernel
theorem dX6_single_13 : decode cX6_single 13 = .ok (.iconst 1, 1) := by decide +kernel
theorem dX6_single_14 : decode cX6_single 14 = .ok (.iadd, 1) := by decide +kernel
theorem dX6_single_15 : decode cX6_single 15 = .ok (.invokevirtual 157, 3) := by decide +kernel
theorem dX6_single_18 : decode cX6_single 18 = .ok (.aload_n 0, 1) := by decide +kernel
theorem dX6_single_19 : decode cX6_single 19 = .ok (.getstatic 163, 3) := by decide +kernel
theorem dX6_single_22 : decode cX6_single 22 = .ok (.iconst 0, 1) := by decide +kernel
theorem dX6_single_23 : decode cX6_single 23 = .ok (.invokevirtual 153, 3) := by decide +kernel
theorem dX6_single_26 : decode cX6_single 26 = .ok (.goto 72, 3) := by decide +kernel
set_option maxHeartbeats 400000 in
set_option maxRecDepth 100000 in
theorem c_singleNot (l : Launch) (G : hG) (M : hM) (A : Nat → Nat) (N : Nat) (sg : Nat → Nat) (nb : Nat → Int32) (wd : Nat → Int64) (hN : N < 400) (hTk : TkV G M A N sg nb wd) (hs7 : ∀ i, i ≤ N → sg i < 37) (sc np : Nat) (sn : Nat → Option Nat) (nn : Nat → Int32) (hPa : PaV G M A sg sc np sn nn) (dp : Nat) (hd8 : dp < 7) (hn : sg np = 12) (hlf : (sg (np + 1) = 34 ∨ sg (np + 1) = 15 ∨ sg (np + 1) = 17)) (hk : sg (np + 2) = 28 ∨ sg (np + 2) = 32) (hlf2 : (sg (np + 3) = 34 ∨ sg (np + 3) = 15 ∨ sg (np + 3) = 17)) (he : sg (np + 4) ≠ 26 ∧ sg (np + 4) ≠ 27 ∧ sg (np + 4) ≠ 24 ∧ sg (np + 4) ≠ 25) (hlt : np + 4 ≤ N) (hsc : sc + 4 ≤ 400) : hCT l G yX6_single cX6_single 3 (Option.none) (hRm 7 0 0) M [.ref (A 8), .int (nI dp)] (fun v M' => v = none ∧ PaV G M' A sg (sc + 4) (np + 4) (stp G (stp G (stp G (stp G sn sc (sg (np + 1))) (sc + 1) (sg (np + 3))) (sc + 2) (sg (np + 2))) (sc + 3) 12) (upd (upd (upd (upd nn sc (nb (np + 1))) (sc + 1) (nb (np + 3))) (sc + 2) 0) (sc + 3) 0) ∧ hFr (fun u => u = 8 ∨ u = 9 ∨ u = 10) M M') := by
  refine hCT.of (own := RX6) (nm := "single") (by decide) rfl rfl (Nat.le_of_ble_eq_true rfl) ?_
  intro p e s m args below meth c ls X Y hl
  have hx := X.1
  have hb := X.2.1
  have hl : lv_has ls 3 [(0, .ref (A 8)), (1, .int (nI dp))] := hl
  have hfr : hFr (fun u => u = 8 ∨ u = 9 ∨ u = 10) M M := hFr.rf
  have hs90 := hs7 (np) (by omega)
  have hs91 := hs7 (np + 1) (by omega)
  have hs92 := hs7 (np + 2) (by omega)
  have hs93 := hs7 (np + 3) (by omega)
  have hs94 := hs7 (np + 4) (by omega)
  refine lv_aload_n hx hb dX6_single_0 rfl (lv_at hl 0 rfl) ?_
  refine h_gets X Y (hsg_Z X.2.2.2.2.2.2.2.2.1 X.2.2.2.2.2.2.2.2.2.1 (k := 12) (by decide)) kfl_X6_163 dX6_single_1 ?_
  refine lv_iload_n hx hb dX6_single_4 rfl (lv_at hl 1 rfl) ?_
  refine h_callV (rest := []) X Y (c_tdY l G M A N sg nb wd hN hTk hs7 sc np sn nn hPa 12 dp (by omega) (by omega) hn (by omega)) gw_X6_166 dsc_X6_takesDeeper hPa.1 rfl rfl rfl hl.1 rfl (Nat.le_of_ble_eq_true rfl) ⟨Nat.le_of_ble_eq_true rfl, Nat.le_of_ble_eq_true rfl⟩ ⟨Nat.le_of_ble_eq_true rfl, Nat.le_of_ble_eq_true rfl⟩ dX6_single_5 ?_
  rintro _ Mz1 H locs ⟨rfl, hPa, hfa⟩ Y
  try dsimp only [Option.toList, List.nil_append, List.singleton_append]
  have hTk := hTk.fr hfa (fun j z1 z2 z3 => by omega)
  have hfr := hFr.tr hfr hfa
  refine lv_if_eq (tgt := 29) hx hb dX6_single_8 (by decide) (fun c8 => absurd c8 (by decide)) (fun c8 => ?_)
  refine lv_aload_n hx hb dX6_single_11 rfl (lv_at hl 0 rfl) ?_
  refine lv_iload_n hx hb dX6_single_12 rfl (lv_at hl 1 rfl) ?_
  refine lv_iconst (v := 1) hx hb dX6_single_13 (by decide) ?_
  refine lv_iadd hx hb dX6_single_14 ?_
  refine h_ev (y := nI (dp + 1)) (nI_1 dp) ?_
  refine h_callV (rest := []) X Y (c_single1 l G Mz1 A N sg nb wd hN hTk hs7 sc (np + 1) sn nn hPa (dp + 1) (by omega) hlf hk hlf2 he (by omega) (by omega)) gw_X6_157 dsc_X6_single hPa.1 rfl rfl rfl hl.1 rfl (Nat.le_of_ble_eq_true rfl) ⟨Nat.le_of_ble_eq_true rfl, Nat.le_of_ble_eq_true rfl⟩ ⟨Nat.le_of_ble_eq_true rfl, Nat.le_of_ble_eq_true rfl⟩ dX6_single_15 ?_
  rintro _ Mz2 H locs ⟨rfl, hPa, hfa⟩ Y
  try dsimp only [Option.toList, List.nil_append, List.singleton_append]
  have hTk := hTk.fr hfa (fun j z1 z2 z3 => by omega)
  have hfr := hFr.tr hfr hfa
  refine lv_aload_n hx hb dX6_single_18 rfl (lv_at hl 0 rfl) ?_
  refine h_gets X Y (hsg_Z X.2.2.2.2.2.2.2.2.1 X.2.2.2.2.2.2.2.2.2.1 (k := 12) (by decide)) kfl_X6_163 dX6_single_19 ?_
  refine lv_iconst (v := 0) hx hb dX6_single_22 (by decide) ?_
  refine h_callV (rest := []) X Y (c_step l G Mz2 A N sg nb wd hN hTk hs7 (sc + 3) (np + 4) (stp G (stp G (stp G sn sc (sg (np + 1))) (sc + 1) (sg (np + 3))) (sc + 2) (sg (np + 2))) (upd (upd (upd nn sc (nb (np + 1))) (sc + 1) (nb (np + 3))) (sc + 2) 0) hPa 12 (by decide) 0 (by omega)) gw_X6_153 dsc_X6_step hPa.1 rfl rfl rfl hl.1 rfl (Nat.le_of_ble_eq_true rfl) ⟨Nat.le_of_ble_eq_true rfl, Nat.le_of_ble_eq_true rfl⟩ ⟨Nat.le_of_ble_eq_true rfl, Nat.le_of_ble_eq_true rfl⟩ dX6_single_23 ?_
  rintro _ Mz3 H locs ⟨rfl, hPa, hfa⟩ Y
  try dsimp only [Option.toList, List.nil_append, List.singleton_append]
  have hTk := hTk.fr hfa (fun j z1 z2 z3 => by omega)
  have hfr := hFr.tr hfr hfa
  refine lv_goto (tgt := 98) hx hb dX6_single_26 (by decide) ?_
  exact h_vret X Y ⟨rfl, hPa, hfr⟩ (Nat.le_of_ble_eq_true rfl) (Nat.le_of_ble_eq_true rfl) dX6_single_98
theorem dX6_both_0 : decode cX6_both 0 = .ok (.aload_n 0, 1) := by decide +kernel
theorem dX6_both_1 : decode cX6_both 1 = .ok (.iload_n 1, 1) := by decide +kernel
theorem dX6_both_2 : decode cX6_both 2 = .ok (.invokevirtual 157, 3) := by decide +kernel
theorem dX6_both_5 : decode cX6_both 5 = .ok (.iconst 0, 1) := by decide +kernel
theorem dX6_both_6 : decode cX6_both 6 = .ok (.istore_n 2, 1) := by decide +kernel
theorem dX6_both_7 : decode cX6_both 7 = .ok (.iload_n 2, 1) := by decide +kernel
theorem dX6_both_8 : decode cX6_both 8 = .ok (.sipush 400, 3) := by decide +kernel
theorem dX6_both_11 : decode cX6_both 11 = .ok (.if_icmp .ge 32, 3) := by decide +kernel
theorem dX6_both_14 : decode cX6_both 14 = .ok (.aload_n 0, 1) := by decide +kernel
theorem dX6_both_15 : decode cX6_both 15 = .ok (.getstatic 160, 3) := by decide +kernel
theorem dX6_both_18 : decode cX6_both 18 = .ok (.invokevirtual 51, 3) := by decide +kernel
theorem dX6_both_21 : decode cX6_both 21 = .ok (.ifCond .eq 22, 3) := by decide +kernel
theorem dX6_both_43 : decode cX6_both 43 = .ok (.return_, 1) := by decide +kernel
set_option maxHeartbeats 400000 in
set_option maxRecDepth 100000 in
theorem c_both1 (l : Launch) (G : hG) (M : hM) (A : Nat → Nat) (N : Nat) (sg : Nat → Nat) (nb : Nat → Int32) (wd : Nat → Int64) (hN : N < 400) (hTk : TkV G M A N sg nb wd) (hs7 : ∀ i, i ≤ N → sg i < 37) (sc np : Nat) (sn : Nat → Option Nat) (nn : Nat → Int32) (hPa : PaV G M A sg sc np sn nn) (dp : Nat) (hd8 : dp < 8) (hlf : (sg np = 34 ∨ sg np = 15 ∨ sg np = 17)) (hk : sg (np + 1) = 28 ∨ sg (np + 1) = 32) (hlf2 : (sg (np + 2) = 34 ∨ sg (np + 2) = 15 ∨ sg (np + 2) = 17)) (he : sg (np + 3) ≠ 26 ∧ sg (np + 3) ≠ 27 ∧ sg (np + 3) ≠ 24 ∧ sg (np + 3) ≠ 25) (hend : sg (np + 3) ≠ 10) (hlt : np + 3 ≤ N) (hsc : sc + 3 ≤ 400) : hCT l G yX6_both cX6_both 3 (Option.none) (hRm 8 0 0) M [.ref (A 8), .int (nI dp)] (fun v M' => v = none ∧ PaV G M' A sg (sc + 3) (np + 3) (stp G (stp G (stp G sn sc (sg np)) (sc + 1) (sg (np + 2))) (sc + 2) (sg (np + 1))) (upd (upd (upd nn sc (nb np)) (sc + 1) (nb (np + 2))) (sc + 2) 0) ∧ hFr (fun u => u = 8 ∨ u = 9 ∨ u = 10) M M') := by
  refine hCT.of (own := RX6) (nm := "both") (by decide) rfl rfl (Nat.le_of_ble_eq_true rfl) ?_
  intro p e s m args below meth c ls X Y hl
  have hx := X.1
  have hb := X.2.1
  have hl : lv_has ls 3 [(0, .ref (A 8)), (1, .int (nI dp))] := hl
  have hfr : hFr (fun u => u = 8 ∨ u = 9 ∨ u = 10) M M := hFr.rf
  have hs90 := hs7 (np) (by omega)
  have hs91 := hs7 (np + 1) (by omega)
  have hs92 := hs7 (np + 2) (by omega)
  have hs93 := hs7 (np + 3) (by omega)
  refine lv_aload_n hx hb dX6_both_0 rfl (lv_at hl 0 rfl) ?_
  refine lv_iload_n hx hb dX6_both_1 rfl (lv_at hl 1 rfl) ?_
  refine h_callV (rest := []) X Y (c_single1 l G M A N sg nb wd hN hTk hs7 sc np sn nn hPa dp (by omega) hlf hk hlf2 he (by omega) (by omega)) gw_X6_157 dsc_X6_single hPa.1 rfl rfl rfl hl.1 rfl (Nat.le_of_ble_eq_true rfl) ⟨Nat.le_of_ble_eq_true rfl, Nat.le_of_ble_eq_true rfl⟩ ⟨Nat.le_of_ble_eq_true rfl, Nat.le_of_ble_eq_true rfl⟩ dX6_both_2 ?_
  rintro _ Mz1 H locs ⟨rfl, hPa, hfa⟩ Y
  try dsimp only [Option.toList, List.nil_append, List.singleton_append]
  have hTk := hTk.fr hfa (fun j z1 z2 z3 => by omega)
  have hfr := hFr.tr hfr hfa
  refine lv_iconst (v := 0) hx hb dX6_both_5 (by decide) ?_
  refine lv_istore_n (lv' := [(2, .int 0), (0, .ref (A 8)), (1, .int (nI dp))]) hx hb dX6_both_6 rfl hl (by decide) rfl (fun ls hl => ?_)
  refine lv_iload_n hx hb dX6_both_7 rfl (lv_at hl 0 rfl) ?_
  refine lv_sipush (v := 400) hx hb dX6_both_8 (by decide) ?_
  refine lv_icmp_ge (tgt := 43) hx hb dX6_both_11 (by decide) (fun c11 => absurd c11 (by decide)) (fun c11 => ?_)
  refine lv_aload_n hx hb dX6_both_14 rfl (lv_at hl 1 rfl) ?_
  refine h_gets X Y (hsg_Z X.2.2.2.2.2.2.2.2.1 X.2.2.2.2.2.2.2.2.2.1 (k := 10) (by decide)) kfl_X6_160 dX6_both_15 ?_
  refine h_callVr (rest := []) X Y (c_takesN l G Mz1 A N sg nb wd hN hTk hs7 (sc + 3) (np + 3) (stp G (stp G (stp G sn sc (sg np)) (sc + 1) (sg (np + 2))) (sc + 2) (sg (np + 1))) (upd (upd (upd nn sc (nb np)) (sc + 1) (nb (np + 2))) (sc + 2) 0) hPa 10 (by omega) hend (by omega)) rfl rfl gw_X6_51 dsc_X6_takes hPa.1 rfl rfl rfl rfl hl.1 (Nat.le_of_ble_eq_true rfl) ⟨Nat.le_of_ble_eq_true rfl, Nat.le_of_ble_eq_true rfl⟩ ⟨Nat.le_of_ble_eq_true rfl, Nat.le_of_ble_eq_true rfl⟩ dX6_both_18 (fun H locs Y => ?_)
  refine lv_if_eq (tgt := 43) hx hb dX6_both_21 (by decide) (fun c21 => ?_) (fun c21 => absurd (by decide) c21)
  exact h_vret X Y ⟨rfl, hPa, hfr⟩ (Nat.le_of_ble_eq_true rfl) (Nat.le_of_ble_eq_true rfl) dX6_both_43
set_option maxHeartbeats 400000 in
set_option maxRecDepth 100000 in
theorem c_bothNot (l : Launch) (G : hG) (M : hM) (A : Nat → Nat) (N : Nat) (sg : Nat → Nat) (nb : Nat → Int32) (wd : Nat → Int64) (hN : N < 400) (hTk : TkV G M A N sg nb wd) (hs7 : ∀ i, i ≤ N → sg i < 37) (sc np : Nat) (sn : Nat → Option Nat) (nn : Nat → Int32) (hPa : PaV G M A sg sc np sn nn) (dp : Nat) (hd8 : dp < 7) (hn : sg np = 12) (hlf : (sg (np + 1) = 34 ∨ sg (np + 1) = 15 ∨ sg (np + 1) = 17)) (hk : sg (np + 2) = 28 ∨ sg (np + 2) = 32) (hlf2 : (sg (np + 3) = 34 ∨ sg (np + 3) = 15 ∨ sg (np + 3) = 17)) (he : sg (np + 4) ≠ 26 ∧ sg (np + 4) ≠ 27 ∧ sg (np + 4) ≠ 24 ∧ sg (np + 4) ≠ 25) (hend : sg (np + 4) ≠ 10) (hlt : np + 4 ≤ N) (hsc : sc + 4 ≤ 400) : hCT l G yX6_both cX6_both 3 (Option.none) (hRm 8 0 0) M [.ref (A 8), .int (nI dp)] (fun v M' => v = none ∧ PaV G M' A sg (sc + 4) (np + 4) (stp G (stp G (stp G (stp G sn sc (sg (np + 1))) (sc + 1) (sg (np + 3))) (sc + 2) (sg (np + 2))) (sc + 3) 12) (upd (upd (upd (upd nn sc (nb (np + 1))) (sc + 1) (nb (np + 3))) (sc + 2) 0) (sc + 3) 0) ∧ hFr (fun u => u = 8 ∨ u = 9 ∨ u = 10) M M') := by
  refine hCT.of (own := RX6) (nm := "both") (by decide) rfl rfl (Nat.le_of_ble_eq_true rfl) ?_
  intro p e s m args below meth c ls X Y hl
  have hx := X.1
  have hb := X.2.1
  have hl : lv_has ls 3 [(0, .ref (A 8)), (1, .int (nI dp))] := hl
  have hfr : hFr (fun u => u = 8 ∨ u = 9 ∨ u = 10) M M := hFr.rf
  have hs90 := hs7 (np) (by omega)
  have hs91 := hs7 (np + 1) (by omega)
  have hs92 := hs7 (np + 2) (by omega)
  have hs93 := hs7 (np + 3) (by omega)
  have hs94 := hs7 (np + 4) (by omega)
  refine lv_aload_n hx hb dX6_both_0 rfl (lv_at hl 0 rfl) ?_
  refine lv_iload_n hx hb dX6_both_1 rfl (lv_at hl 1 rfl) ?_
  refine h_callV (rest := []) X Y (c_singleNot l G M A N sg nb wd hN hTk hs7 sc np sn nn hPa dp (by omega) hn hlf hk hlf2 he (by omega) (by omega)) gw_X6_157 dsc_X6_single hPa.1 rfl rfl rfl hl.1 rfl (Nat.le_of_ble_eq_true rfl) ⟨Nat.le_of_ble_eq_true rfl, Nat.le_of_ble_eq_true rfl⟩ ⟨Nat.le_of_ble_eq_true rfl, Nat.le_of_ble_eq_true rfl⟩ dX6_both_2 ?_
  rintro _ Mz1 H locs ⟨rfl, hPa, hfa⟩ Y
  try dsimp only [Option.toList, List.nil_append, List.singleton_append]
  have hTk := hTk.fr hfa (fun j z1 z2 z3 => by omega)
  have hfr := hFr.tr hfr hfa
  refine lv_iconst (v := 0) hx hb dX6_both_5 (by decide) ?_
  refine lv_istore_n (lv' := [(2, .int 0), (0, .ref (A 8)), (1, .int (nI dp))]) hx hb dX6_both_6 rfl hl (by decide) rfl (fun ls hl => ?_)
  refine lv_iload_n hx hb dX6_both_7 rfl (lv_at hl 0 rfl) ?_
  refine lv_sipush (v := 400) hx hb dX6_both_8 (by decide) ?_
  refine lv_icmp_ge (tgt := 43) hx hb dX6_both_11 (by decide) (fun c11 => absurd c11 (by decide)) (fun c11 => ?_)
  refine lv_aload_n hx hb dX6_both_14 rfl (lv_at hl 1 rfl) ?_
  refine h_gets X Y (hsg_Z X.2.2.2.2.2.2.2.2.1 X.2.2.2.2.2.2.2.2.2.1 (k := 10) (by decide)) kfl_X6_160 dX6_both_15 ?_
  refine h_callVr (rest := []) X Y (c_takesN l G Mz1 A N sg nb wd hN hTk hs7 (sc + 4) (np + 4) (stp G (stp G (stp G (stp G sn sc (sg (np + 1))) (sc + 1) (sg (np + 3))) (sc + 2) (sg (np + 2))) (sc + 3) 12) (upd (upd (upd (upd nn sc (nb (np + 1))) (sc + 1) (nb (np + 3))) (sc + 2) 0) (sc + 3) 0) hPa 10 (by omega) hend (by omega)) rfl rfl gw_X6_51 dsc_X6_takes hPa.1 rfl rfl rfl rfl hl.1 (Nat.le_of_ble_eq_true rfl) ⟨Nat.le_of_ble_eq_true rfl, Nat.le_of_ble_eq_true rfl⟩ ⟨Nat.le_of_ble_eq_true rfl, Nat.le_of_ble_eq_true rfl⟩ dX6_both_18 (fun H locs Y => ?_)
  refine lv_if_eq (tgt := 43) hx hb dX6_both_21 (by decide) (fun c21 => ?_) (fun c21 => absurd (by decide) c21)
  exact h_vret X Y ⟨rfl, hPa, hfr⟩ (Nat.le_of_ble_eq_true rfl) (Nat.le_of_ble_eq_true rfl) dX6_both_43
theorem gw_X6_147 : GoodIn hGW (wsV RX6 147 RX6 yX6_both (Cond.code yX6_both cX6_both 3 (Option.none) :: hGW)) := hgi4 kml_X6_147 kin_X6_both kse_X6_X6_both_X6_both kini_X6 kco_X6_both
theorem dsc_X6_both : yX6_both.cls = RX6 ∧ yX6_both.cls ≠ "java/lang/invoke/MethodHandle" ∧ yX6_both.cls ≠ "java/lang/invoke/VarHandle" ∧ (parseMethodDescriptor yX6_both.desc).map (fun d => d.parameters.length) = some 1 := ⟨rfl, by decide +kernel, by decide +kernel, by decide +kernel⟩
theorem dX6_test_0 : decode cX6_test 0 = .ok (.aload_n 0, 1) := by decide +kernel
theorem dX6_test_1 : decode cX6_test 1 = .ok (.iload_n 1, 1) := by decide +kernel
theorem dX6_test_2 : decode cX6_test 2 = .ok (.invokevirtual 147, 3) := by decide +kernel
theorem dX6_test_5 : decode cX6_test 5 = .ok (.iconst 0, 1) := by decide +kernel
theorem dX6_test_6 : decode cX6_test 6 = .ok (.istore_n 2, 1) := by decide +kernel
theorem dX6_test_7 : decode cX6_test 7 = .ok (.iload_n 2, 1) := by decide +kernel
theorem dX6_test_8 : decode cX6_test 8 = .ok (.sipush 400, 3) := by decide +kernel
theorem dX6_test_11 : decode cX6_test 11 = .ok (.if_icmp .ge 32, 3) := by decide +kernel
theorem dX6_test_14 : decode cX6_test 14 = .ok (.aload_n 0, 1) := by decide +kernel
theorem dX6_test_15 : decode cX6_test 15 = .ok (.getstatic 150, 3) := by decide +kernel
theorem dX6_test_18 : decode cX6_test 18 = .ok (.invokevirtual 51, 3) := by decide +kernel
theorem dX6_test_21 : decode cX6_test 21 = .ok (.ifCond .eq 22, 3) := by decide +kernel
theorem dX6_test_24 : decode cX6_test 24 = .ok (.aload_n 0, 1) := by decide +kernel
theorem dX6_test_25 : decode cX6_test 25 = .ok (.iload_n 1, 1) := by decide +kernel
theorem dX6_test_26 : decode cX6_test 26 = .ok (.invokevirtual 147, 3) := by decide +kernel
theorem dX6_test_29 : decode cX6_test 29 = .ok (.aload_n 0, 1) := by decide +kernel
theorem dX6_test_30 : decode cX6_test 30 = .ok (.getstatic 150, 3) := by decide +kernel
theorem dX6_test_33 : decode cX6_test 33 = .ok (.iconst 0, 1) := by decide +kernel
theorem dX6_test_34 : decode cX6_test 34 = .ok (.invokevirtual 153, 3) := by decide +kernel
theorem dX6_test_37 : decode cX6_test 37 = .ok (.iinc 2 1, 3) := by decide +kernel
theorem dX6_test_40 : decode cX6_test 40 = .ok (.goto (-33), 3) := by decide +kernel
theorem dX6_test_43 : decode cX6_test 43 = .ok (.return_, 1) := by decide +kernel
set_option maxHeartbeats 400000 in
set_option maxRecDepth 100000 in
theorem c_test (l : Launch) (G : hG) (M : hM) (A : Nat → Nat) (N : Nat) (sg : Nat → Nat) (nb : Nat → Int32) (wd : Nat → Int64) (hN : N < 400) (hTk : TkV G M A N sg nb wd) (hs7 : ∀ i, i ≤ N → sg i < 37) (sc np : Nat) (sn : Nat → Option Nat) (nn : Nat → Int32) (hPa : PaV G M A sg sc np sn nn) (dp : Nat) (hd8 : dp < 7) (hlf : (sg np = 34 ∨ sg np = 15 ∨ sg np = 17)) (hk : sg (np + 1) = 28 ∨ sg (np + 1) = 32) (hlf2 : (sg (np + 2) = 34 ∨ sg (np + 2) = 15 ∨ sg (np + 2) = 17)) (hor : sg (np + 3) = 11) (hn : sg (np + 4) = 12) (hlf3 : (sg (np + 5) = 34 ∨ sg (np + 5) = 15 ∨ sg (np + 5) = 17)) (hk2 : sg (np + 6) = 28 ∨ sg (np + 6) = 32) (hlf4 : (sg (np + 7) = 34 ∨ sg (np + 7) = 15 ∨ sg (np + 7) = 17)) (he : sg (np + 8) = 22) (hlt : np + 8 ≤ N) (hsc : sc + 8 ≤ 400) : hCT l G yX6_test cX6_test 3 (Option.none) (hRm 9 0 0) M [.ref (A 8), .int (nI dp)] (fun v M' => v = none ∧ PaV G M' A sg (sc + 8) (np + 8) (stp G (stp G (stp G (stp G (stp G (stp G (stp G (stp G sn sc (sg np)) (sc + 1) (sg (np + 2))) (sc + 2) (sg (np + 1))) (sc + 3) (sg (np + 5))) (sc + 4) (sg (np + 7))) (sc + 5) (sg (np + 6))) (sc + 6) 12) (sc + 7) 11) (upd (upd (upd (upd (upd (upd (upd (upd nn sc (nb np)) (sc + 1) (nb (np + 2))) (sc + 2) 0) (sc + 3) (nb (np + 5))) (sc + 4) (nb (np + 7))) (sc + 5) 0) (sc + 6) 0) (sc + 7) 0) ∧ hFr (fun u => u = 8 ∨ u = 9 ∨ u = 10) M M') := by
  refine hCT.of (own := RX6) (nm := "test") (by decide) rfl rfl (Nat.le_of_ble_eq_true rfl) ?_
  intro p e s m args below meth c ls X Y hl
  have hx := X.1
  have hb := X.2.1
  have hl : lv_has ls 3 [(0, .ref (A 8)), (1, .int (nI dp))] := hl
  have hfr : hFr (fun u => u = 8 ∨ u = 9 ∨ u = 10) M M := hFr.rf
  have hs90 := hs7 (np) (by omega)
  have hs91 := hs7 (np + 1) (by omega)
  have hs92 := hs7 (np + 2) (by omega)
  have hs93 := hs7 (np + 3) (by omega)
  have hs94 := hs7 (np + 4) (by omega)
  have hs95 := hs7 (np + 5) (by omega)
  have hs96 := hs7 (np + 6) (by omega)
  have hs97 := hs7 (np + 7) (by omega)
  have hs98 := hs7 (np + 8) (by omega)
  refine lv_aload_n hx hb dX6_test_0 rfl (lv_at hl 0 rfl) ?_
  refine lv_iload_n hx hb dX6_test_1 rfl (lv_at hl 1 rfl) ?_
  refine h_callV (rest := []) X Y (c_both1 l G M A N sg nb wd hN hTk hs7 sc np sn nn hPa dp (by omega) hlf hk hlf2 (by omega) (by omega) (by omega) (by omega)) gw_X6_147 dsc_X6_both hPa.1 rfl rfl rfl hl.1 rfl (Nat.le_of_ble_eq_true rfl) ⟨Nat.le_of_ble_eq_true rfl, Nat.le_of_ble_eq_true rfl⟩ ⟨Nat.le_of_ble_eq_true rfl, Nat.le_of_ble_eq_true rfl⟩ dX6_test_2 ?_
  rintro _ Mz1 H locs ⟨rfl, hPa, hfa⟩ Y
  try dsimp only [Option.toList, List.nil_append, List.singleton_append]
  have hTk := hTk.fr hfa (fun j z1 z2 z3 => by omega)
  have hfr := hFr.tr hfr hfa
  refine lv_iconst (v := 0) hx hb dX6_test_5 (by decide) ?_
  refine lv_istore_n (lv' := [(2, .int 0), (0, .ref (A 8)), (1, .int (nI dp))]) hx hb dX6_test_6 rfl hl (by decide) rfl (fun ls hl => ?_)
  refine lv_iload_n hx hb dX6_test_7 rfl (lv_at hl 0 rfl) ?_
  refine lv_sipush (v := 400) hx hb dX6_test_8 (by decide) ?_
  refine lv_icmp_ge (tgt := 43) hx hb dX6_test_11 (by decide) (fun c11 => absurd c11 (by decide)) (fun c11 => ?_)
  refine lv_aload_n hx hb dX6_test_14 rfl (lv_at hl 1 rfl) ?_
  refine h_gets X Y (hsg_Z X.2.2.2.2.2.2.2.2.1 X.2.2.2.2.2.2.2.2.2.1 (k := 11) (by decide)) kfl_X6_150 dX6_test_15 ?_
  refine h_callV (rest := []) X Y (c_takesY l G Mz1 A N sg nb wd hN hTk hs7 (sc + 3) (np + 3) (stp G (stp G (stp G sn sc (sg np)) (sc + 1) (sg (np + 2))) (sc + 2) (sg (np + 1))) (upd (upd (upd nn sc (nb np)) (sc + 1) (nb (np + 2))) (sc + 2) 0) hPa 11 (by omega) hor (by omega)) gw_X6_51 dsc_X6_takes hPa.1 rfl rfl rfl hl.1 rfl (Nat.le_of_ble_eq_true rfl) ⟨Nat.le_of_ble_eq_true rfl, Nat.le_of_ble_eq_true rfl⟩ ⟨Nat.le_of_ble_eq_true rfl, Nat.le_of_ble_eq_true rfl⟩ dX6_test_18 ?_
  rintro _ Mz2 H locs ⟨rfl, hPa, hfa⟩ Y
  try dsimp only [Option.toList, List.nil_append, List.singleton_append]
  have hTk := hTk.fr hfa (fun j z1 z2 z3 => by omega)
  have hfr := hFr.tr hfr hfa
  refine lv_if_eq (tgt := 43) hx hb dX6_test_21 (by decide) (fun c21 => absurd c21 (by decide)) (fun c21 => ?_)
  refine lv_aload_n hx hb dX6_test_24 rfl (lv_at hl 1 rfl) ?_
  refine lv_iload_n hx hb dX6_test_25 rfl (lv_at hl 2 rfl) ?_
  refine h_callV (rest := []) X Y (c_bothNot l G Mz2 A N sg nb wd hN hTk hs7 (sc + 3) (np + 4) (stp G (stp G (stp G sn sc (sg np)) (sc + 1) (sg (np + 2))) (sc + 2) (sg (np + 1))) (upd (upd (upd nn sc (nb np)) (sc + 1) (nb (np + 2))) (sc + 2) 0) hPa dp (by omega) hn hlf3 hk2 hlf4 (by rw [show sg (np + 4 + 4) = 22 from he]; decide) (by rw [show sg (np + 4 + 4) = 22 from he]; decide) (by omega) (by omega)) gw_X6_147 dsc_X6_both hPa.1 rfl rfl rfl hl.1 rfl (Nat.le_of_ble_eq_true rfl) ⟨Nat.le_of_ble_eq_true rfl, Nat.le_of_ble_eq_true rfl⟩ ⟨Nat.le_of_ble_eq_true rfl, Nat.le_of_ble_eq_true rfl⟩ dX6_test_26 ?_
  rintro _ Mz3 H locs ⟨rfl, hPa, hfa⟩ Y
  try dsimp only [Option.toList, List.nil_append, List.singleton_append]
  have hTk := hTk.fr hfa (fun j z1 z2 z3 => by omega)
  have hfr := hFr.tr hfr hfa
  refine lv_aload_n hx hb dX6_test_29 rfl (lv_at hl 1 rfl) ?_
  refine h_gets X Y (hsg_Z X.2.2.2.2.2.2.2.2.1 X.2.2.2.2.2.2.2.2.2.1 (k := 11) (by decide)) kfl_X6_150 dX6_test_30 ?_
  refine lv_iconst (v := 0) hx hb dX6_test_33 (by decide) ?_
  refine h_callV (rest := []) X Y (c_step l G Mz3 A N sg nb wd hN hTk hs7 (sc + 7) (np + 8) (stp G (stp G (stp G (stp G (stp G (stp G (stp G sn sc (sg np)) (sc + 1) (sg (np + 2))) (sc + 2) (sg (np + 1))) (sc + 3) (sg (np + 5))) (sc + 4) (sg (np + 7))) (sc + 5) (sg (np + 6))) (sc + 6) 12) (upd (upd (upd (upd (upd (upd (upd nn sc (nb np)) (sc + 1) (nb (np + 2))) (sc + 2) 0) (sc + 3) (nb (np + 5))) (sc + 4) (nb (np + 7))) (sc + 5) 0) (sc + 6) 0) hPa 11 (by decide) 0 (by omega)) gw_X6_153 dsc_X6_step hPa.1 rfl rfl rfl hl.1 rfl (Nat.le_of_ble_eq_true rfl) ⟨Nat.le_of_ble_eq_true rfl, Nat.le_of_ble_eq_true rfl⟩ ⟨Nat.le_of_ble_eq_true rfl, Nat.le_of_ble_eq_true rfl⟩ dX6_test_34 ?_
  rintro _ Mz4 H locs ⟨rfl, hPa, hfa⟩ Y
  try dsimp only [Option.toList, List.nil_append, List.singleton_append]
  have hTk := hTk.fr hfa (fun j z1 z2 z3 => by omega)
  have hfr := hFr.tr hfr hfa
  refine lv_iinc (v := nI 1) (lv' := [(2, .int (nI 1)), (0, .ref (A 8)), (1, .int (nI dp))]) hx hb dX6_test_37 hl (k := 0) rfl (by decide) (by decide) rfl (fun ls hl => ?_)
  refine lv_goto (tgt := 7) hx hb dX6_test_40 (by decide) ?_
  refine lv_iload_n hx hb dX6_test_7 rfl (lv_at hl 0 rfl) ?_
  refine lv_sipush (v := 400) hx hb dX6_test_8 (by decide) ?_
  refine lv_icmp_ge (tgt := 43) hx hb dX6_test_11 (by decide) (fun c11 => absurd c11 (by decide)) (fun c11 => ?_)
  refine lv_aload_n hx hb dX6_test_14 rfl (lv_at hl 1 rfl) ?_
  refine h_gets X Y (hsg_Z X.2.2.2.2.2.2.2.2.1 X.2.2.2.2.2.2.2.2.2.1 (k := 11) (by decide)) kfl_X6_150 dX6_test_15 ?_
  refine h_callVr (rest := []) X Y (c_takesN l G Mz4 A N sg nb wd hN hTk hs7 (sc + 8) (np + 8) (stp G (stp G (stp G (stp G (stp G (stp G (stp G (stp G sn sc (sg np)) (sc + 1) (sg (np + 2))) (sc + 2) (sg (np + 1))) (sc + 3) (sg (np + 5))) (sc + 4) (sg (np + 7))) (sc + 5) (sg (np + 6))) (sc + 6) 12) (sc + 7) 11) (upd (upd (upd (upd (upd (upd (upd (upd nn sc (nb np)) (sc + 1) (nb (np + 2))) (sc + 2) 0) (sc + 3) (nb (np + 5))) (sc + 4) (nb (np + 7))) (sc + 5) 0) (sc + 6) 0) (sc + 7) 0) hPa 11 (by omega) (by omega) (by omega)) rfl rfl gw_X6_51 dsc_X6_takes hPa.1 rfl rfl rfl rfl hl.1 (Nat.le_of_ble_eq_true rfl) ⟨Nat.le_of_ble_eq_true rfl, Nat.le_of_ble_eq_true rfl⟩ ⟨Nat.le_of_ble_eq_true rfl, Nat.le_of_ble_eq_true rfl⟩ dX6_test_18 (fun H locs Y => ?_)
  refine lv_if_eq (tgt := 43) hx hb dX6_test_21 (by decide) (fun c21 => ?_) (fun c21 => absurd (by decide) c21)
  exact h_vret X Y ⟨rfl, hPa, hfr⟩ (Nat.le_of_ble_eq_true rfl) (Nat.le_of_ble_eq_true rfl) dX6_test_43
