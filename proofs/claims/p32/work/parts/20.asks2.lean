theorem hS3_tri {i j : Nat} (hi : i < 4) (hj : j < 4) (hne : i ≠ j) : ∀ u, hS2 i u → ¬ hS3 j u := fun u h => by unfold hS2 at h; unfold hS3 hS1 hS0 hS2; omega
theorem hS3_ces {j cx : Nat} (hc : cx < 2) : ∀ u, hS3 j u → ¬ (100 * (cx + 1) ≤ u ∧ u < 100 * (cx + 1) + 100) := fun u h => by unfold hS3 hS1 hS0 hS2 at h; omega
/-- the layer without which most is left: what is left, and which -/
def qKe (S : hSy) : Nat → Int32 × Int32
  | 0 => (qLefts S false (-1), -1)
  | k + 1 => if (qKe S k).1 < qLefts S false (nI k) then (qLefts S false (nI k), nI k) else qKe S k
theorem gw_X11_254 : GoodIn hGW (wsV RX11 254 RX11 yX11_isKind (Cond.code yX11_isKind cX11_isKind 2 (Option.some FieldType.boolean) :: hGW)) := hgi4 kml_X11_254 kin_X11_isKind kse_X11_X11_isKind_X11_isKind kini_X11 kco_X11_isKind
theorem dsc_X11_isKind : yX11_isKind.cls = RX11 ∧ yX11_isKind.cls ≠ "java/lang/invoke/MethodHandle" ∧ yX11_isKind.cls ≠ "java/lang/invoke/VarHandle" ∧ (parseMethodDescriptor yX11_isKind.desc).map (fun d => d.parameters.length) = some 1 := ⟨rfl, by decide +kernel, by decide +kernel, by decide +kernel⟩
theorem gw_X11_168 : GoodIn hGW (wsV RX11 168 RX11 yX11_isYearSoFar (Cond.code yX11_isYearSoFar cX11_isYearSoFar 2 (Option.some FieldType.boolean) :: hGW)) := hgi4 kml_X11_168 kin_X11_isYearSoFar kse_X11_X11_isYearSoFar_X11_isYearSoFar kini_X11 kco_X11_isYearSoFar
theorem dsc_X11_isYearSoFar : yX11_isYearSoFar.cls = RX11 ∧ yX11_isYearSoFar.cls ≠ "java/lang/invoke/MethodHandle" ∧ yX11_isYearSoFar.cls ≠ "java/lang/invoke/VarHandle" ∧ (parseMethodDescriptor yX11_isYearSoFar.desc).map (fun d => d.parameters.length) = some 1 := ⟨rfl, by decide +kernel, by decide +kernel, by decide +kernel⟩
theorem gw_X11_259 : GoodIn hGW (wsV RX11 259 RX11 yX11_fillTriangle (Cond.code yX11_fillTriangle cX11_fillTriangle 6 (Option.none) :: hGW)) := hgi4 kml_X11_259 kin_X11_fillTriangle kse_X11_X11_fillTriangle_X11_fillTriangle kini_X11 kco_X11_fillTriangle
theorem dsc_X11_fillTriangle : yX11_fillTriangle.cls = RX11 ∧ yX11_fillTriangle.cls ≠ "java/lang/invoke/MethodHandle" ∧ yX11_fillTriangle.cls ≠ "java/lang/invoke/VarHandle" ∧ (parseMethodDescriptor yX11_fillTriangle.desc).map (fun d => d.parameters.length) = some 1 := ⟨rfl, by decide +kernel, by decide +kernel, by decide +kernel⟩
theorem dX11_triangle_0 : decode cX11_triangle 0 = .ok (.aload_n 0, 1) := by decide +kernel
theorem dX11_triangle_1 : decode cX11_triangle 1 = .ok (.iload_n 1, 1) := by decide +kernel
theorem dX11_triangle_2 : decode cX11_triangle 2 = .ok (.invokevirtual 254, 3) := by decide +kernel
theorem dX11_triangle_5 : decode cX11_triangle 5 = .ok (.ifCond .eq 25, 3) := by decide +kernel
theorem dX11_triangle_8 : decode cX11_triangle 8 = .ok (.aload_n 0, 1) := by decide +kernel
theorem dX11_triangle_9 : decode cX11_triangle 9 = .ok (.iload_n 2, 1) := by decide +kernel
theorem dX11_triangle_10 : decode cX11_triangle 10 = .ok (.invokevirtual 168, 3) := by decide +kernel
theorem dX11_triangle_13 : decode cX11_triangle 13 = .ok (.ifCond .eq 17, 3) := by decide +kernel
theorem dX11_triangle_16 : decode cX11_triangle 16 = .ok (.iload_n 3, 1) := by decide +kernel
theorem dX11_triangle_17 : decode cX11_triangle 17 = .ok (.ifCond .lt 13, 3) := by decide +kernel
theorem dX11_triangle_20 : decode cX11_triangle 20 = .ok (.iload_n 3, 1) := by decide +kernel
theorem dX11_triangle_21 : decode cX11_triangle 21 = .ok (.aload_n 0, 1) := by decide +kernel
theorem dX11_triangle_22 : decode cX11_triangle 22 = .ok (.getfield 78, 3) := by decide +kernel
theorem dX11_triangle_25 : decode cX11_triangle 25 = .ok (.iload_n 2, 1) := by decide +kernel
theorem dX11_triangle_26 : decode cX11_triangle 26 = .ok (.isub, 1) := by decide +kernel
theorem dX11_triangle_27 : decode cX11_triangle 27 = .ok (.if_icmp .le 14, 3) := by decide +kernel
theorem dX11_triangle_41 : decode cX11_triangle 41 = .ok (.aload_n 0, 1) := by decide +kernel
theorem dX11_triangle_42 : decode cX11_triangle 42 = .ok (.iload_n 1, 1) := by decide +kernel
theorem dX11_triangle_43 : decode cX11_triangle 43 = .ok (.invokevirtual 259, 3) := by decide +kernel
theorem dX11_triangle_46 : decode cX11_triangle 46 = .ok (.aload_n 0, 1) := by decide +kernel
theorem dX11_triangle_47 : decode cX11_triangle 47 = .ok (.getfield 67, 3) := by decide +kernel
theorem dX11_triangle_50 : decode cX11_triangle 50 = .ok (.iload_n 1, 1) := by decide +kernel
theorem dX11_triangle_51 : decode cX11_triangle 51 = .ok (.aaload, 1) := by decide +kernel
theorem dX11_triangle_52 : decode cX11_triangle 52 = .ok (.getfield 262, 3) := by decide +kernel
theorem dX11_triangle_55 : decode cX11_triangle 55 = .ok (.iload_n 2, 1) := by decide +kernel
theorem dX11_triangle_56 : decode cX11_triangle 56 = .ok (.aaload, 1) := by decide +kernel
theorem dX11_triangle_57 : decode cX11_triangle 57 = .ok (.iload_n 3, 1) := by decide +kernel
theorem dX11_triangle_58 : decode cX11_triangle 58 = .ok (.iaload, 1) := by decide +kernel
theorem dX11_triangle_59 : decode cX11_triangle 59 = .ok (.ireturn, 1) := by decide +kernel
set_option maxHeartbeats 400000 in
set_option maxRecDepth 100000 in
theorem c_triangle (l : Launch) (G : hG) (M : hM) (S : hSy) (h : hHo) (hQv : QV G M S h) (k y a : Nat) (hk : k < 4) (hy : y ≤ hNow h) (ha9 : a ≤ hNow h - y) : hCT l G yX11_triangle cX11_triangle 4 (Option.some FieldType.int) (hRm 10 0 0) M [.ref (sA S 0), .int (nI k), .int (nI y), .int (nI a)] (fun v M' => v = some (.int (qTri S (hNow h) k y a)) ∧ hSim G hScr M M') := by
  refine hCT.of (own := RX11) (nm := "triangle") (by decide) rfl rfl (Nat.le_of_ble_eq_true rfl) ?_
  intro p e s m args below meth c ls X Y hl
  have hx := X.1
  have hb := X.2.1
  have hl : lv_has ls 4 [(0, .ref (sA S 0)), (1, .int (nI k)), (2, .int (nI y)), (3, .int (nI a))] := hl
  obtain ⟨hS, hG1, hHo, hCe, hTr, hnow, hyn⟩ := id hQv
  obtain ⟨hN8, hM40, hLG, hCY⟩ := id hG1
  obtain ⟨hl13, he14, hl15, he16, hLa, hCl⟩ := id hS
  obtain ⟨mc13, hlo13⟩ := id hl13
  obtain ⟨mc15, hlo15⟩ := id hl15
  obtain ⟨ho0, ho1, ho17, ho18, ft19, hft19, ho19⟩ := id hHo
  have hs0 : hSim G hScr M M := hSim.rf
  refine lv_aload_n hx hb dX11_triangle_0 rfl (lv_at hl 0 rfl) ?_
  refine lv_iload_n hx hb dX11_triangle_1 rfl (lv_at hl 1 rfl) ?_
  refine h_callVr (rest := []) X Y (c_isKind l G M (sA S 0) k (by omega)) rfl rfl gw_X11_254 dsc_X11_isKind ho0 rfl rfl rfl rfl hl.1 (Nat.le_of_ble_eq_true rfl) ⟨Nat.le_of_ble_eq_true rfl, Nat.le_of_ble_eq_true rfl⟩ ⟨Nat.le_of_ble_eq_true rfl, Nat.le_of_ble_eq_true rfl⟩ dX11_triangle_2 (fun H locs Y => ?_)
  refine lv_if_eq (tgt := 30) hx hb dX11_triangle_5 (by decide) (fun c5 => absurd c5 (by decide)) (fun c5 => ?_)
  refine lv_aload_n hx hb dX11_triangle_8 rfl (lv_at hl 0 rfl) ?_
  refine lv_iload_n hx hb dX11_triangle_9 rfl (lv_at hl 2 rfl) ?_
  refine h_callVr (rest := []) X Y (c_isYearSoFar l G M S h hQv y (by omega)) rfl rfl gw_X11_168 dsc_X11_isYearSoFar ho0 rfl rfl rfl rfl hl.1 (Nat.le_of_ble_eq_true rfl) ⟨Nat.le_of_ble_eq_true rfl, Nat.le_of_ble_eq_true rfl⟩ ⟨Nat.le_of_ble_eq_true rfl, Nat.le_of_ble_eq_true rfl⟩ dX11_triangle_10 (fun H locs Y => ?_)
  refine lv_if_eq (tgt := 30) hx hb dX11_triangle_13 (by decide) (fun c13 => absurd c13 (by decide)) (fun c13 => ?_)
  refine lv_iload_n hx hb dX11_triangle_16 rfl (lv_at hl 3 rfl) ?_
  refine lv_if_lt (tgt := 30) hx hb dX11_triangle_17 (by decide) (fun c17 => absurd (show a < 0 from (nI_ltI (a := a) (b := 0) (by omega) (by omega)).mp c17) (by omega)) (fun c17 => ?_)
  have c17 : ¬ a < 0 := fun z9 => c17 ((nI_ltI (a := a) (b := 0) (by omega) (by omega)).mpr z9)
  refine lv_iload_n hx hb dX11_triangle_20 rfl (lv_at hl 3 rfl) ?_
  refine lv_aload_n hx hb dX11_triangle_21 rfl (lv_at hl 0 rfl) ?_
  refine h_get X Y (k := 12) (v := .int (nI (hNow h))) ho0 rfl hin_X11 (by decide) kfl_X11_78 rfl dX11_triangle_22 ?_
  refine lv_iload_n hx hb dX11_triangle_25 rfl (lv_at hl 2 rfl) ?_
  refine lv_isub hx hb dX11_triangle_26 ?_
  refine h_ev (y := nI (hNow h - y)) (pk_sub hy) ?_
  refine lv_icmp_le (tgt := 41) hx hb dX11_triangle_27 (by decide) (fun c27 => ?_) (fun c27 => absurd (show ¬ a ≤ (hNow h - y) from fun z9 => c27 ((nI_leI (a := a) (b := (hNow h - y)) (by omega) (by omega)).mpr z9)) (by omega))
  have c27 : a ≤ (hNow h - y) := (nI_leI (a := a) (b := (hNow h - y)) (by omega) (by omega)).mp c27
  refine lv_aload_n hx hb dX11_triangle_41 rfl (lv_at hl 0 rfl) ?_
  refine lv_iload_n hx hb dX11_triangle_42 rfl (lv_at hl 1 rfl) ?_
  refine h_callV (rest := []) X Y (c_fillTriangle l G M S h hQv k (by omega)) gw_X11_259 dsc_X11_fillTriangle ho0 rfl rfl rfl hl.1 rfl (Nat.le_of_ble_eq_true rfl) ⟨Nat.le_of_ble_eq_true rfl, Nat.le_of_ble_eq_true rfl⟩ ⟨Nat.le_of_ble_eq_true rfl, Nat.le_of_ble_eq_true rfl⟩ dX11_triangle_43 ?_
  rintro _ M1 H locs ⟨rfl, hTI, hq⟩ Y
  try dsimp only [Option.toList, List.nil_append]
  have hs0 := hs0.tr (hq.mono (hS3_scr (by omega)))
  have hQv := hQv.sim (hq.mono (hS3_scr (by omega)))
  obtain ⟨hS, -, hHo, hCe, hTr, -, -⟩ := id hQv
  obtain ⟨hl13, he14, hl15, he16, hLa, hCl⟩ := id hS
  obtain ⟨mc13, hlo13⟩ := id hl13
  obtain ⟨mc15, hlo15⟩ := id hl15
  obtain ⟨ho0, ho1, ho17, ho18, ft19, hft19, ho19⟩ := id hHo
  obtain ⟨ce, hV, hce⟩ := id (hTI)
  obtain ⟨t1, ⟨ft, hft, t2⟩, t3⟩ := id hV
  refine lv_aload_n hx hb dX11_triangle_46 rfl (lv_at hl 0 rfl) ?_
  refine h_get X Y (k := 9) (v := .ref (sA S 19)) ho0 rfl hin_X11 (by decide) kfl_X11_67 rfl dX11_triangle_47 ?_
  refine lv_iload_n hx hb dX11_triangle_50 rfl (lv_at hl 1 rfl) ?_
  refine h_aald X Y 4 (i := k) ho19 rfl (by omega) (by decide) dX11_triangle_51 ?_
  refine h_rf (hft19 k (by omega)) ?_
  refine h_get X Y (k := 0) (v := .ref (sA S (400 + 20 * k + 1))) t1 rfl hin_X10 (by decide) kfl_X11_262 rfl dX11_triangle_52 ?_
  refine lv_iload_n hx hb dX11_triangle_55 rfl (lv_at hl 2 rfl) ?_
  refine h_aaldI X Y (i := y) t2 (by omega) (by decide) dX11_triangle_56 ?_
  refine h_rf (hft y (by omega)) ?_
  refine lv_iload_n hx hb dX11_triangle_57 rfl (lv_at hl 3 rfl) ?_
  refine h_iald X Y (i := a) (t3 y (by omega)) (by omega) (by decide) dX11_triangle_58 ?_
  refine h_ev (y := qTri S (hNow h) k y a) (hce y (by omega) a (by omega)) ?_
  exact h_iret X Y ⟨rfl, hs0⟩ (Nat.le_refl _) (Nat.le_refl _) dX11_triangle_59
theorem gw_X11_276 : GoodIn hGW (wsV RX11 276 RX10 yX10_ultimateOf (Cond.code yX10_ultimateOf cX10_ultimateOf 3 (Option.some FieldType.int) :: hGW)) := hgi4 kml_X11_276 kin_X10_ultimateOf kse_X10_X10_ultimateOf_X10_ultimateOf kini_X10 kco_X10_ultimateOf
theorem dsc_X10_ultimateOf : yX10_ultimateOf.cls = RX10 ∧ yX10_ultimateOf.cls ≠ "java/lang/invoke/MethodHandle" ∧ yX10_ultimateOf.cls ≠ "java/lang/invoke/VarHandle" ∧ (parseMethodDescriptor yX10_ultimateOf.desc).map (fun d => d.parameters.length) = some 2 := ⟨rfl, by decide +kernel, by decide +kernel, by decide +kernel⟩
theorem gw_X11_273 : GoodIn hGW (wsV RX11 273 RX10 yX10_growthOf (Cond.code yX10_growthOf cX10_growthOf 3 (Option.some FieldType.int) :: hGW)) := hgi4 kml_X11_273 kin_X10_growthOf kse_X10_X10_growthOf_X10_growthOf kini_X10 kco_X10_growthOf
theorem dsc_X10_growthOf : yX10_growthOf.cls = RX10 ∧ yX10_growthOf.cls ≠ "java/lang/invoke/MethodHandle" ∧ yX10_growthOf.cls ≠ "java/lang/invoke/VarHandle" ∧ (parseMethodDescriptor yX10_growthOf.desc).map (fun d => d.parameters.length) = some 2 := ⟨rfl, by decide +kernel, by decide +kernel, by decide +kernel⟩
theorem dX11_ultimate_0 : decode cX11_ultimate 0 = .ok (.aload_n 0, 1) := by decide +kernel
theorem dX11_ultimate_1 : decode cX11_ultimate 1 = .ok (.iload_n 1, 1) := by decide +kernel
theorem dX11_ultimate_2 : decode cX11_ultimate 2 = .ok (.invokevirtual 254, 3) := by decide +kernel
theorem dX11_ultimate_5 : decode cX11_ultimate 5 = .ok (.ifCond .eq 11, 3) := by decide +kernel
theorem dX11_ultimate_8 : decode cX11_ultimate 8 = .ok (.aload_n 0, 1) := by decide +kernel
theorem dX11_ultimate_9 : decode cX11_ultimate 9 = .ok (.iload_n 2, 1) := by decide +kernel
theorem dX11_ultimate_10 : decode cX11_ultimate 10 = .ok (.invokevirtual 168, 3) := by decide +kernel
theorem dX11_ultimate_13 : decode cX11_ultimate 13 = .ok (.ifCond .ne 14, 3) := by decide +kernel
theorem dX11_ultimate_27 : decode cX11_ultimate 27 = .ok (.aload_n 0, 1) := by decide +kernel
theorem dX11_ultimate_28 : decode cX11_ultimate 28 = .ok (.iload_n 1, 1) := by decide +kernel
theorem dX11_ultimate_29 : decode cX11_ultimate 29 = .ok (.invokevirtual 259, 3) := by decide +kernel
theorem dX11_ultimate_32 : decode cX11_ultimate 32 = .ok (.iload_n 3, 1) := by decide +kernel
theorem dX11_ultimate_33 : decode cX11_ultimate 33 = .ok (.ifCond .eq 20, 3) := by decide +kernel
theorem dX11_ultimate_36 : decode cX11_ultimate 36 = .ok (.aload_n 0, 1) := by decide +kernel
theorem dX11_ultimate_37 : decode cX11_ultimate 37 = .ok (.getfield 67, 3) := by decide +kernel
theorem dX11_ultimate_40 : decode cX11_ultimate 40 = .ok (.iload_n 1, 1) := by decide +kernel
theorem dX11_ultimate_41 : decode cX11_ultimate 41 = .ok (.aaload, 1) := by decide +kernel
theorem dX11_ultimate_42 : decode cX11_ultimate 42 = .ok (.iload_n 2, 1) := by decide +kernel
theorem dX11_ultimate_43 : decode cX11_ultimate 43 = .ok (.aload_n 0, 1) := by decide +kernel
theorem dX11_ultimate_44 : decode cX11_ultimate 44 = .ok (.getfield 82, 3) := by decide +kernel
theorem dX11_ultimate_47 : decode cX11_ultimate 47 = .ok (.invokevirtual 273, 3) := by decide +kernel
theorem dX11_ultimate_50 : decode cX11_ultimate 50 = .ok (.goto 17, 3) := by decide +kernel
theorem dX11_ultimate_53 : decode cX11_ultimate 53 = .ok (.aload_n 0, 1) := by decide +kernel
theorem dX11_ultimate_54 : decode cX11_ultimate 54 = .ok (.getfield 67, 3) := by decide +kernel
theorem dX11_ultimate_57 : decode cX11_ultimate 57 = .ok (.iload_n 1, 1) := by decide +kernel
theorem dX11_ultimate_58 : decode cX11_ultimate 58 = .ok (.aaload, 1) := by decide +kernel
theorem dX11_ultimate_59 : decode cX11_ultimate 59 = .ok (.iload_n 2, 1) := by decide +kernel
theorem dX11_ultimate_60 : decode cX11_ultimate 60 = .ok (.aload_n 0, 1) := by decide +kernel
theorem dX11_ultimate_61 : decode cX11_ultimate 61 = .ok (.getfield 82, 3) := by decide +kernel
theorem dX11_ultimate_64 : decode cX11_ultimate 64 = .ok (.invokevirtual 276, 3) := by decide +kernel
theorem dX11_ultimate_67 : decode cX11_ultimate 67 = .ok (.ireturn, 1) := by decide +kernel
set_option maxHeartbeats 400000 in
set_option maxRecDepth 100000 in
theorem c_ultimate (l : Launch) (G : hG) (M : hM) (S : hSy) (h : hHo) (hQv : QV G M S h) (k y : Nat) (gd : Bool) (hk : k < 4) (hy : y ≤ hNow h) : hCT l G yX11_ultimate cX11_ultimate 4 (Option.some FieldType.int) (hRm 10 0 0) M [.ref (sA S 0), .int (nI k), .int (nI y), .int (bI gd)] (fun v M' => v = some (.int (if gd then qGro S h k y else qUlt S h k y)) ∧ hSim G hScr M M') := by
  refine hCT.of (own := RX11) (nm := "ultimate") (by decide) rfl rfl (Nat.le_of_ble_eq_true rfl) ?_
  intro p e s m args below meth c ls X Y hl
  have hx := X.1
  have hb := X.2.1
  have hl : lv_has ls 4 [(0, .ref (sA S 0)), (1, .int (nI k)), (2, .int (nI y)), (3, .int (bI gd))] := hl
  obtain ⟨hS, hG1, hHo, hCe, hTr, hnow, hyn⟩ := id hQv
  obtain ⟨hN8, hM40, hLG, hCY⟩ := id hG1
  obtain ⟨hl13, he14, hl15, he16, hLa, hCl⟩ := id hS
  obtain ⟨mc13, hlo13⟩ := id hl13
  obtain ⟨mc15, hlo15⟩ := id hl15
  obtain ⟨ho0, ho1, ho17, ho18, ft19, hft19, ho19⟩ := id hHo
  have hs0 : hSim G hScr M M := hSim.rf
  refine lv_aload_n hx hb dX11_ultimate_0 rfl (lv_at hl 0 rfl) ?_
  refine lv_iload_n hx hb dX11_ultimate_1 rfl (lv_at hl 1 rfl) ?_
  refine h_callVr (rest := []) X Y (c_isKind l G M (sA S 0) k (by omega)) rfl rfl gw_X11_254 dsc_X11_isKind ho0 rfl rfl rfl rfl hl.1 (Nat.le_of_ble_eq_true rfl) ⟨Nat.le_of_ble_eq_true rfl, Nat.le_of_ble_eq_true rfl⟩ ⟨Nat.le_of_ble_eq_true rfl, Nat.le_of_ble_eq_true rfl⟩ dX11_ultimate_2 (fun H locs Y => ?_)
  refine lv_if_eq (tgt := 16) hx hb dX11_ultimate_5 (by decide) (fun c5 => absurd c5 (by decide)) (fun c5 => ?_)
  refine lv_aload_n hx hb dX11_ultimate_8 rfl (lv_at hl 0 rfl) ?_
  refine lv_iload_n hx hb dX11_ultimate_9 rfl (lv_at hl 2 rfl) ?_
  refine h_callVr (rest := []) X Y (c_isYearSoFar l G M S h hQv y (by omega)) rfl rfl gw_X11_168 dsc_X11_isYearSoFar ho0 rfl rfl rfl rfl hl.1 (Nat.le_of_ble_eq_true rfl) ⟨Nat.le_of_ble_eq_true rfl, Nat.le_of_ble_eq_true rfl⟩ ⟨Nat.le_of_ble_eq_true rfl, Nat.le_of_ble_eq_true rfl⟩ dX11_ultimate_10 (fun H locs Y => ?_)
  refine lv_if_ne (tgt := 27) hx hb dX11_ultimate_13 (by decide) (fun c13 => ?_) (fun c13 => absurd c13 (by decide))
  refine lv_aload_n hx hb dX11_ultimate_27 rfl (lv_at hl 0 rfl) ?_
  refine lv_iload_n hx hb dX11_ultimate_28 rfl (lv_at hl 1 rfl) ?_
  refine h_callV (rest := []) X Y (c_fillTriangle l G M S h hQv k (by omega)) gw_X11_259 dsc_X11_fillTriangle ho0 rfl rfl rfl hl.1 rfl (Nat.le_of_ble_eq_true rfl) ⟨Nat.le_of_ble_eq_true rfl, Nat.le_of_ble_eq_true rfl⟩ ⟨Nat.le_of_ble_eq_true rfl, Nat.le_of_ble_eq_true rfl⟩ dX11_ultimate_29 ?_
  rintro _ M1 H locs ⟨rfl, hTI, hq⟩ Y
  try dsimp only [Option.toList, List.nil_append]
  have hs0 := hs0.tr (hq.mono (hS3_scr (by omega)))
  have hQv := hQv.sim (hq.mono (hS3_scr (by omega)))
  obtain ⟨hS, -, hHo, hCe, hTr, -, -⟩ := id hQv
  obtain ⟨hl13, he14, hl15, he16, hLa, hCl⟩ := id hS
  obtain ⟨mc13, hlo13⟩ := id hl13
  obtain ⟨mc15, hlo15⟩ := id hl15
  obtain ⟨ho0, ho1, ho17, ho18, ft19, hft19, ho19⟩ := id hHo
  obtain ⟨ce, hV, hce⟩ := id (hTI)
  obtain ⟨t1, ⟨ft, hft, t2⟩, t3⟩ := id hV
  refine lv_iload_n hx hb dX11_ultimate_32 rfl (lv_at hl 3 rfl) ?_
  cases gd with
  | false =>
    refine lv_if_eq (tgt := 53) hx hb dX11_ultimate_33 (by decide) (fun _ => ?_) (fun z9 => absurd rfl z9)
    refine lv_aload_n hx hb dX11_ultimate_53 rfl (lv_at hl 0 rfl) ?_
    refine h_get X Y (k := 9) (v := .ref (sA S 19)) ho0 rfl hin_X11 (by decide) kfl_X11_67 rfl dX11_ultimate_54 ?_
    refine lv_iload_n hx hb dX11_ultimate_57 rfl (lv_at hl 1 rfl) ?_
    refine h_aald X Y 4 (i := k) ho19 rfl (by omega) (by decide) dX11_ultimate_58 ?_
    refine h_rf (hft19 k (by omega)) ?_
    refine lv_iload_n hx hb dX11_ultimate_59 rfl (lv_at hl 2 rfl) ?_
    refine lv_aload_n hx hb dX11_ultimate_60 rfl (lv_at hl 0 rfl) ?_
    refine h_get X Y (k := 13) (v := .int (hTail h)) ho0 rfl hin_X11 (by decide) kfl_X11_82 rfl dX11_ultimate_61 ?_
    refine h_callVr (rest := []) X Y (c_ultimateOf l G M1 S k ce (hNow h) hV hnow y (hTail h) hy) rfl rfl gw_X11_276 dsc_X10_ultimateOf t1 rfl rfl rfl rfl hl.1 (Nat.le_of_ble_eq_true rfl) ⟨Nat.le_of_ble_eq_true rfl, Nat.le_of_ble_eq_true rfl⟩ ⟨Nat.le_of_ble_eq_true rfl, Nat.le_of_ble_eq_true rfl⟩ dX11_ultimate_64 (fun H locs Y => ?_)
    refine h_ev (y := qUlt S h k y) ((trGrown_congr hnow hce _ y (hTail h)).trans (by rw [hce y (by omega) (hNow h - y) (by omega)]; rfl)) ?_
    exact h_iret X Y ⟨rfl, hs0⟩ (Nat.le_refl _) (Nat.le_refl _) dX11_ultimate_67
  | true =>
    refine lv_if_eq (tgt := 53) hx hb dX11_ultimate_33 (by decide) (fun z9 => absurd z9 (by decide)) (fun _ => ?_)
    refine lv_aload_n hx hb dX11_ultimate_36 rfl (lv_at hl 0 rfl) ?_
    refine h_get X Y (k := 9) (v := .ref (sA S 19)) ho0 rfl hin_X11 (by decide) kfl_X11_67 rfl dX11_ultimate_37 ?_
    refine lv_iload_n hx hb dX11_ultimate_40 rfl (lv_at hl 1 rfl) ?_
    refine h_aald X Y 4 (i := k) ho19 rfl (by omega) (by decide) dX11_ultimate_41 ?_
    refine h_rf (hft19 k (by omega)) ?_
    refine lv_iload_n hx hb dX11_ultimate_42 rfl (lv_at hl 2 rfl) ?_
    refine lv_aload_n hx hb dX11_ultimate_43 rfl (lv_at hl 0 rfl) ?_
    refine h_get X Y (k := 13) (v := .int (hTail h)) ho0 rfl hin_X11 (by decide) kfl_X11_82 rfl dX11_ultimate_44 ?_
    refine h_callVr (rest := []) X Y (c_growthOf l G M1 S k ce (hNow h) hV hnow y (hTail h) hy) rfl rfl gw_X11_273 dsc_X10_growthOf t1 rfl rfl rfl rfl hl.1 (Nat.le_of_ble_eq_true rfl) ⟨Nat.le_of_ble_eq_true rfl, Nat.le_of_ble_eq_true rfl⟩ ⟨Nat.le_of_ble_eq_true rfl, Nat.le_of_ble_eq_true rfl⟩ dX11_ultimate_47 (fun H locs Y => ?_)
    refine h_ev (y := qGro S h k y) (trGrown_congr hnow hce 1000 y (hTail h)) ?_
    refine lv_goto (tgt := 67) hx hb dX11_ultimate_50 (by decide) ?_
    exact h_iret X Y ⟨rfl, hs0⟩ (Nat.le_refl _) (Nat.le_refl _) dX11_ultimate_67
theorem gw_X11_384 : GoodIn hGW (wsV RX11 384 RX10 yX10_nowOf (Cond.code yX10_nowOf cX10_nowOf 2 (Option.some FieldType.int) :: hGW)) := hgi4 kml_X11_384 kin_X10_nowOf kse_X10_X10_nowOf_X10_nowOf kini_X10 kco_X10_nowOf
theorem dX11_reserveOf_0 : decode cX11_reserveOf 0 = .ok (.aload_n 0, 1) := by decide +kernel
theorem dX11_reserveOf_1 : decode cX11_reserveOf 1 = .ok (.getfield 67, 3) := by decide +kernel
theorem dX11_reserveOf_4 : decode cX11_reserveOf 4 = .ok (.iconst 0, 1) := by decide +kernel
theorem dX11_reserveOf_5 : decode cX11_reserveOf 5 = .ok (.aaload, 1) := by decide +kernel
theorem dX11_reserveOf_6 : decode cX11_reserveOf 6 = .ok (.iload_n 2, 1) := by decide +kernel
theorem dX11_reserveOf_7 : decode cX11_reserveOf 7 = .ok (.invokevirtual 384, 3) := by decide +kernel
theorem dX11_reserveOf_10 : decode cX11_reserveOf 10 = .ok (.istore_n 3, 1) := by decide +kernel
theorem dX11_reserveOf_11 : decode cX11_reserveOf 11 = .ok (.iload_n 1, 1) := by decide +kernel
theorem dX11_reserveOf_12 : decode cX11_reserveOf 12 = .ok (.ifCond .ne 20, 3) := by decide +kernel
theorem dX11_reserveOf_15 : decode cX11_reserveOf 15 = .ok (.aload_n 0, 1) := by decide +kernel
theorem dX11_reserveOf_16 : decode cX11_reserveOf 16 = .ok (.getfield 67, 3) := by decide +kernel
theorem dX11_reserveOf_19 : decode cX11_reserveOf 19 = .ok (.iconst 0, 1) := by decide +kernel
theorem dX11_reserveOf_20 : decode cX11_reserveOf 20 = .ok (.aaload, 1) := by decide +kernel
theorem dX11_reserveOf_21 : decode cX11_reserveOf 21 = .ok (.iload_n 2, 1) := by decide +kernel
theorem dX11_reserveOf_22 : decode cX11_reserveOf 22 = .ok (.aload_n 0, 1) := by decide +kernel
theorem dX11_reserveOf_23 : decode cX11_reserveOf 23 = .ok (.getfield 82, 3) := by decide +kernel
theorem dX11_reserveOf_26 : decode cX11_reserveOf 26 = .ok (.invokevirtual 276, 3) := by decide +kernel
theorem dX11_reserveOf_29 : decode cX11_reserveOf 29 = .ok (.iload_n 3, 1) := by decide +kernel
theorem dX11_reserveOf_30 : decode cX11_reserveOf 30 = .ok (.isub, 1) := by decide +kernel
theorem dX11_reserveOf_31 : decode cX11_reserveOf 31 = .ok (.ireturn, 1) := by decide +kernel
theorem dX11_reserveOf_32 : decode cX11_reserveOf 32 = .ok (.iload_n 1, 1) := by decide +kernel
theorem dX11_reserveOf_33 : decode cX11_reserveOf 33 = .ok (.iconst 1, 1) := by decide +kernel
theorem dX11_reserveOf_34 : decode cX11_reserveOf 34 = .ok (.if_icmp .ne 20, 3) := by decide +kernel
theorem dX11_reserveOf_37 : decode cX11_reserveOf 37 = .ok (.aload_n 0, 1) := by decide +kernel
theorem dX11_reserveOf_38 : decode cX11_reserveOf 38 = .ok (.getfield 67, 3) := by decide +kernel
theorem dX11_reserveOf_41 : decode cX11_reserveOf 41 = .ok (.iconst 1, 1) := by decide +kernel
theorem dX11_reserveOf_42 : decode cX11_reserveOf 42 = .ok (.aaload, 1) := by decide +kernel
theorem dX11_reserveOf_43 : decode cX11_reserveOf 43 = .ok (.iload_n 2, 1) := by decide +kernel
theorem dX11_reserveOf_44 : decode cX11_reserveOf 44 = .ok (.aload_n 0, 1) := by decide +kernel
theorem dX11_reserveOf_45 : decode cX11_reserveOf 45 = .ok (.getfield 82, 3) := by decide +kernel
theorem dX11_reserveOf_48 : decode cX11_reserveOf 48 = .ok (.invokevirtual 276, 3) := by decide +kernel
theorem dX11_reserveOf_51 : decode cX11_reserveOf 51 = .ok (.iload_n 3, 1) := by decide +kernel
theorem dX11_reserveOf_52 : decode cX11_reserveOf 52 = .ok (.isub, 1) := by decide +kernel
theorem dX11_reserveOf_53 : decode cX11_reserveOf 53 = .ok (.ireturn, 1) := by decide +kernel
theorem dX11_reserveOf_54 : decode cX11_reserveOf 54 = .ok (.aload_n 0, 1) := by decide +kernel
theorem dX11_reserveOf_55 : decode cX11_reserveOf 55 = .ok (.getfield 67, 3) := by decide +kernel
theorem dX11_reserveOf_58 : decode cX11_reserveOf 58 = .ok (.iconst 0, 1) := by decide +kernel
theorem dX11_reserveOf_59 : decode cX11_reserveOf 59 = .ok (.aaload, 1) := by decide +kernel
theorem dX11_reserveOf_60 : decode cX11_reserveOf 60 = .ok (.iload_n 2, 1) := by decide +kernel
theorem dX11_reserveOf_61 : decode cX11_reserveOf 61 = .ok (.aload_n 0, 1) := by decide +kernel
theorem dX11_reserveOf_62 : decode cX11_reserveOf 62 = .ok (.getfield 82, 3) := by decide +kernel
theorem dX11_reserveOf_65 : decode cX11_reserveOf 65 = .ok (.invokevirtual 273, 3) := by decide +kernel
theorem dX11_reserveOf_68 : decode cX11_reserveOf 68 = .ok (.istore 4, 2) := by decide +kernel
theorem dX11_reserveOf_70 : decode cX11_reserveOf 70 = .ok (.iload 4, 2) := by decide +kernel
theorem dX11_reserveOf_72 : decode cX11_reserveOf 72 = .ok (.ifCond .ne 5, 3) := by decide +kernel
theorem dX11_reserveOf_75 : decode cX11_reserveOf 75 = .ok (.iconst 0, 1) := by decide +kernel
theorem dX11_reserveOf_76 : decode cX11_reserveOf 76 = .ok (.ireturn, 1) := by decide +kernel
theorem dX11_reserveOf_77 : decode cX11_reserveOf 77 = .ok (.aload_n 0, 1) := by decide +kernel
theorem dX11_reserveOf_78 : decode cX11_reserveOf 78 = .ok (.getfield 71, 3) := by decide +kernel
theorem dX11_reserveOf_81 : decode cX11_reserveOf 81 = .ok (.iload_n 2, 1) := by decide +kernel
theorem dX11_reserveOf_82 : decode cX11_reserveOf 82 = .ok (.iaload, 1) := by decide +kernel
theorem dX11_reserveOf_83 : decode cX11_reserveOf 83 = .ok (.i2l, 1) := by decide +kernel
theorem dX11_reserveOf_84 : decode cX11_reserveOf 84 = .ok (.aload_n 0, 1) := by decide +kernel
theorem dX11_reserveOf_85 : decode cX11_reserveOf 85 = .ok (.getfield 75, 3) := by decide +kernel
theorem dX11_reserveOf_88 : decode cX11_reserveOf 88 = .ok (.iload_n 2, 1) := by decide +kernel
theorem dX11_reserveOf_89 : decode cX11_reserveOf 89 = .ok (.iaload, 1) := by decide +kernel
theorem dX11_reserveOf_90 : decode cX11_reserveOf 90 = .ok (.i2l, 1) := by decide +kernel
theorem dX11_reserveOf_91 : decode cX11_reserveOf 91 = .ok (.lmul, 1) := by decide +kernel
theorem dX11_reserveOf_92 : decode cX11_reserveOf 92 = .ok (.ldc2_w 387, 3) := by decide +kernel
theorem dX11_reserveOf_95 : decode cX11_reserveOf 95 = .ok (.ldiv, 1) := by decide +kernel
theorem dX11_reserveOf_96 : decode cX11_reserveOf 96 = .ok (.lstore 5, 2) := by decide +kernel
theorem dX11_reserveOf_98 : decode cX11_reserveOf 98 = .ok (.lload 5, 2) := by decide +kernel
theorem dX11_reserveOf_100 : decode cX11_reserveOf 100 = .ok (.sipush 1000, 3) := by decide +kernel
theorem dX11_reserveOf_103 : decode cX11_reserveOf 103 = .ok (.ldc 195, 2) := by decide +kernel
theorem dX11_reserveOf_105 : decode cX11_reserveOf 105 = .ok (.iload 4, 2) := by decide +kernel
theorem dX11_reserveOf_107 : decode cX11_reserveOf 107 = .ok (.idiv, 1) := by decide +kernel
theorem dX11_reserveOf_108 : decode cX11_reserveOf 108 = .ok (.isub, 1) := by decide +kernel
theorem dX11_reserveOf_109 : decode cX11_reserveOf 109 = .ok (.i2l, 1) := by decide +kernel
theorem dX11_reserveOf_110 : decode cX11_reserveOf 110 = .ok (.lmul, 1) := by decide +kernel
theorem dX11_reserveOf_111 : decode cX11_reserveOf 111 = .ok (.ldc2_w 389, 3) := by decide +kernel
theorem dX11_reserveOf_114 : decode cX11_reserveOf 114 = .ok (.ldiv, 1) := by decide +kernel
theorem dX11_reserveOf_115 : decode cX11_reserveOf 115 = .ok (.lstore 7, 2) := by decide +kernel
theorem dX11_reserveOf_117 : decode cX11_reserveOf 117 = .ok (.lload 7, 2) := by decide +kernel
theorem dX11_reserveOf_119 : decode cX11_reserveOf 119 = .ok (.lconst 0, 1) := by decide +kernel
theorem dX11_reserveOf_120 : decode cX11_reserveOf 120 = .ok (.invokestatic 391, 3) := by decide +kernel
theorem dX11_reserveOf_123 : decode cX11_reserveOf 123 = .ok (.l2i, 1) := by decide +kernel
theorem dX11_reserveOf_124 : decode cX11_reserveOf 124 = .ok (.ireturn, 1) := by decide +kernel
set_option maxHeartbeats 400000 in
set_option maxRecDepth 100000 in
theorem c_reserveOf (l : Launch) (G : hG) (M : hM) (S : hSy) (h : hHo) (hQv : QV G M S h) (mt y : Nat) (hm : mt < 3) (hy : y ≤ hNow h) (hT0 : TrIs G M S (hNow h) 0) (hT1 : TrIs G M S (hNow h) 1) : hCT l G yX11_reserveOf cX11_reserveOf 9 (Option.some FieldType.int) (hRm 4 0 0) M [.ref (sA S 0), .int (nI mt), .int (nI y)] (hRd M (.int (qRes S h mt y))) := by
  refine hCT.of (own := RX11) (nm := "reserveOf") (by decide) rfl rfl (Nat.le_of_ble_eq_true rfl) ?_
  intro p e s m args below meth c ls X Y hl
  have hx := X.1
  have hb := X.2.1
  have hl : lv_has ls 9 [(0, .ref (sA S 0)), (1, .int (nI mt)), (2, .int (nI y))] := hl
  obtain ⟨hS, hG1, hHo, hCe, hTr, hnow, hyn⟩ := id hQv
  obtain ⟨hN8, hM40, hLG, hCY⟩ := id hG1
  obtain ⟨hl13, he14, hl15, he16, hLa, hCl⟩ := id hS
  obtain ⟨mc13, hlo13⟩ := id hl13
  obtain ⟨mc15, hlo15⟩ := id hl15
  obtain ⟨ho0, ho1, ho17, ho18, ft19, hft19, ho19⟩ := id hHo
  obtain ⟨ce0, hV0, hce0⟩ := id (hT0)
  obtain ⟨t10, ⟨ft0, hft0, t20⟩, t30⟩ := id hV0
  obtain ⟨ce1, hV1, hce1⟩ := id (hT1)
  obtain ⟨t11, ⟨ft1, hft1, t21⟩, t31⟩ := id hV1
  refine lv_aload_n hx hb dX11_reserveOf_0 rfl (lv_at hl 0 rfl) ?_
  refine h_get X Y (k := 9) (v := .ref (sA S 19)) ho0 rfl hin_X11 (by decide) kfl_X11_67 rfl dX11_reserveOf_1 ?_
  refine lv_iconst (v := 0) hx hb dX11_reserveOf_4 (by decide) ?_
  refine h_aald X Y 4 (i := 0) ho19 rfl (by omega) (by decide) dX11_reserveOf_5 ?_
  refine h_rf (hft19 0 (by omega)) ?_
  refine lv_iload_n hx hb dX11_reserveOf_6 rfl (lv_at hl 2 rfl) ?_
  refine h_callVr (rest := []) X Y (c_nowOf l G M S 0 ce0 (hNow h) hV0 hnow y hy) rfl rfl gw_X11_384 dsc_X10_nowOf t10 rfl rfl rfl rfl hl.1 (Nat.le_of_ble_eq_true rfl) ⟨Nat.le_of_ble_eq_true rfl, Nat.le_of_ble_eq_true rfl⟩ ⟨Nat.le_of_ble_eq_true rfl, Nat.le_of_ble_eq_true rfl⟩ dX11_reserveOf_7 (fun H locs Y => ?_)
  refine h_ev (y := qTri S (hNow h) 0 y (hNow h - y)) (hce0 y (by omega) (hNow h - y) (by omega)) ?_
  refine lv_istore_n (lv' := [(3, .int (qTri S (hNow h) 0 y (hNow h - y))), (0, .ref (sA S 0)), (1, .int (nI mt)), (2, .int (nI y))]) hx hb dX11_reserveOf_10 rfl hl (by decide) rfl (fun ls hl => ?_)
  rcases (show mt = 0 ∨ mt = 1 ∨ mt = 2 from (by omega)) with rfl | rfl | rfl
  · refine lv_iload_n hx hb dX11_reserveOf_11 rfl (lv_at hl 2 rfl) ?_
    refine lv_if_ne (tgt := 32) hx hb dX11_reserveOf_12 (by decide) (fun c12 => absurd (by decide) c12) (fun c12 => ?_)
    refine lv_aload_n hx hb dX11_reserveOf_15 rfl (lv_at hl 1 rfl) ?_
    refine h_get X Y (k := 9) (v := .ref (sA S 19)) ho0 rfl hin_X11 (by decide) kfl_X11_67 rfl dX11_reserveOf_16 ?_
    refine lv_iconst (v := 0) hx hb dX11_reserveOf_19 (by decide) ?_
    refine h_aald X Y 4 (i := 0) ho19 rfl (by omega) (by decide) dX11_reserveOf_20 ?_
    refine h_rf (hft19 0 (by omega)) ?_
    refine lv_iload_n hx hb dX11_reserveOf_21 rfl (lv_at hl 3 rfl) ?_
    refine lv_aload_n hx hb dX11_reserveOf_22 rfl (lv_at hl 1 rfl) ?_
    refine h_get X Y (k := 13) (v := .int (hTail h)) ho0 rfl hin_X11 (by decide) kfl_X11_82 rfl dX11_reserveOf_23 ?_
    refine h_callVr (rest := []) X Y (c_ultimateOf l G M S 0 ce0 (hNow h) hV0 hnow y (hTail h) hy) rfl rfl gw_X11_276 dsc_X10_ultimateOf t10 rfl rfl rfl rfl hl.1 (Nat.le_of_ble_eq_true rfl) ⟨Nat.le_of_ble_eq_true rfl, Nat.le_of_ble_eq_true rfl⟩ ⟨Nat.le_of_ble_eq_true rfl, Nat.le_of_ble_eq_true rfl⟩ dX11_reserveOf_26 (fun H locs Y => ?_)
    refine h_ev (y := qUlt S h 0 y) ((trGrown_congr hnow hce0 _ y (hTail h)).trans (by rw [hce0 y (by omega) (hNow h - y) (by omega)]; rfl)) ?_
    refine lv_iload_n hx hb dX11_reserveOf_29 rfl (lv_at hl 0 rfl) ?_
    refine lv_isub hx hb dX11_reserveOf_30 ?_
    exact h_iret X Y ⟨rfl, rfl⟩ (Nat.le_refl _) (Nat.le_refl _) dX11_reserveOf_31
  · refine lv_iload_n hx hb dX11_reserveOf_11 rfl (lv_at hl 2 rfl) ?_
    refine lv_if_ne (tgt := 32) hx hb dX11_reserveOf_12 (by decide) (fun c12 => ?_) (fun c12 => absurd c12 (by decide))
    refine lv_iload_n hx hb dX11_reserveOf_32 rfl (lv_at hl 2 rfl) ?_
    refine lv_iconst (v := 1) hx hb dX11_reserveOf_33 (by decide) ?_
    refine lv_icmp_ne (tgt := 54) hx hb dX11_reserveOf_34 (by decide) (fun c34 => absurd (by decide) c34) (fun c34 => ?_)
    refine lv_aload_n hx hb dX11_reserveOf_37 rfl (lv_at hl 1 rfl) ?_
    refine h_get X Y (k := 9) (v := .ref (sA S 19)) ho0 rfl hin_X11 (by decide) kfl_X11_67 rfl dX11_reserveOf_38 ?_
    refine lv_iconst (v := 1) hx hb dX11_reserveOf_41 (by decide) ?_
    refine h_aald X Y 4 (i := 1) ho19 rfl (by omega) (by decide) dX11_reserveOf_42 ?_
    refine h_rf (hft19 1 (by omega)) ?_
    refine lv_iload_n hx hb dX11_reserveOf_43 rfl (lv_at hl 3 rfl) ?_
    refine lv_aload_n hx hb dX11_reserveOf_44 rfl (lv_at hl 1 rfl) ?_
    refine h_get X Y (k := 13) (v := .int (hTail h)) ho0 rfl hin_X11 (by decide) kfl_X11_82 rfl dX11_reserveOf_45 ?_
    refine h_callVr (rest := []) X Y (c_ultimateOf l G M S 1 ce1 (hNow h) hV1 hnow y (hTail h) hy) rfl rfl gw_X11_276 dsc_X10_ultimateOf t11 rfl rfl rfl rfl hl.1 (Nat.le_of_ble_eq_true rfl) ⟨Nat.le_of_ble_eq_true rfl, Nat.le_of_ble_eq_true rfl⟩ ⟨Nat.le_of_ble_eq_true rfl, Nat.le_of_ble_eq_true rfl⟩ dX11_reserveOf_48 (fun H locs Y => ?_)
    refine h_ev (y := qUlt S h 1 y) ((trGrown_congr hnow hce1 _ y (hTail h)).trans (by rw [hce1 y (by omega) (hNow h - y) (by omega)]; rfl)) ?_
    refine lv_iload_n hx hb dX11_reserveOf_51 rfl (lv_at hl 0 rfl) ?_
    refine lv_isub hx hb dX11_reserveOf_52 ?_
    exact h_iret X Y ⟨rfl, rfl⟩ (Nat.le_refl _) (Nat.le_refl _) dX11_reserveOf_53
  · refine lv_iload_n hx hb dX11_reserveOf_11 rfl (lv_at hl 2 rfl) ?_
    refine lv_if_ne (tgt := 32) hx hb dX11_reserveOf_12 (by decide) (fun c12 => ?_) (fun c12 => absurd c12 (by decide))
    refine lv_iload_n hx hb dX11_reserveOf_32 rfl (lv_at hl 2 rfl) ?_
    refine lv_iconst (v := 1) hx hb dX11_reserveOf_33 (by decide) ?_
    refine lv_icmp_ne (tgt := 54) hx hb dX11_reserveOf_34 (by decide) (fun c34 => ?_) (fun c34 => absurd c34 (by decide))
    refine lv_aload_n hx hb dX11_reserveOf_54 rfl (lv_at hl 1 rfl) ?_
    refine h_get X Y (k := 9) (v := .ref (sA S 19)) ho0 rfl hin_X11 (by decide) kfl_X11_67 rfl dX11_reserveOf_55 ?_
    refine lv_iconst (v := 0) hx hb dX11_reserveOf_58 (by decide) ?_
    refine h_aald X Y 4 (i := 0) ho19 rfl (by omega) (by decide) dX11_reserveOf_59 ?_
    refine h_rf (hft19 0 (by omega)) ?_
    refine lv_iload_n hx hb dX11_reserveOf_60 rfl (lv_at hl 3 rfl) ?_
    refine lv_aload_n hx hb dX11_reserveOf_61 rfl (lv_at hl 1 rfl) ?_
    refine h_get X Y (k := 13) (v := .int (hTail h)) ho0 rfl hin_X11 (by decide) kfl_X11_82 rfl dX11_reserveOf_62 ?_
    refine h_callVr (rest := []) X Y (c_growthOf l G M S 0 ce0 (hNow h) hV0 hnow y (hTail h) hy) rfl rfl gw_X11_273 dsc_X10_growthOf t10 rfl rfl rfl rfl hl.1 (Nat.le_of_ble_eq_true rfl) ⟨Nat.le_of_ble_eq_true rfl, Nat.le_of_ble_eq_true rfl⟩ ⟨Nat.le_of_ble_eq_true rfl, Nat.le_of_ble_eq_true rfl⟩ dX11_reserveOf_65 (fun H locs Y => ?_)
    refine h_ev (y := qGro S h 0 y) (trGrown_congr hnow hce0 1000 y (hTail h)) ?_
    refine lv_istore (lv' := [(4, .int (qGro S h 0 y)), (3, .int (qTri S (hNow h) 0 y (hNow h - y))), (0, .ref (sA S 0)), (1, .int (nI 2)), (2, .int (nI y))]) hx hb dX11_reserveOf_68 hl (by decide) rfl (fun ls hl => ?_)
    refine lv_iload hx hb dX11_reserveOf_70 (lv_at hl 0 rfl) ?_
    refine lv_if_ne (tgt := 77) hx hb dX11_reserveOf_72 (by decide) (fun c72 => ?_) (fun c72 => ?_)
    · refine lv_aload_n hx hb dX11_reserveOf_77 rfl (lv_at hl 2 rfl) ?_
      refine h_get X Y (k := 10) (v := .ref (sA S 17)) ho0 rfl hin_X11 (by decide) kfl_X11_71 rfl dX11_reserveOf_78 ?_
      refine lv_iload_n hx hb dX11_reserveOf_81 rfl (lv_at hl 4 rfl) ?_
      refine h_iald X Y (i := y) ho17 (by omega) (by decide) dX11_reserveOf_82 ?_
      refine lv_i2l (v := ((hPr h) y).toInt64) hx hb dX11_reserveOf_83 rfl ?_
      refine lv_aload_n hx hb dX11_reserveOf_84 rfl (lv_at hl 2 rfl) ?_
      refine h_get X Y (k := 11) (v := .ref (sA S 18)) ho0 rfl hin_X11 (by decide) kfl_X11_75 rfl dX11_reserveOf_85 ?_
      refine lv_iload_n hx hb dX11_reserveOf_88 rfl (lv_at hl 4 rfl) ?_
      refine h_iald X Y (i := y) ho18 (by omega) (by decide) dX11_reserveOf_89 ?_
      refine lv_i2l (v := ((hEx h) y).toInt64) hx hb dX11_reserveOf_90 rfl ?_
      refine lv_lmul hx hb dX11_reserveOf_91 ?_
      refine lv_ldc2 hx hb X.2.2.2.2.1 (X.2.2.2.2.2.1 _ kcJ_X11_387) dX11_reserveOf_92 ?_
      refine lv_ldiv hx hb dX11_reserveOf_95 (by decide) ?_
      refine lv_lstore (lv' := [(5, .long (((((hPr h) y).toInt64) * (((hEx h) y).toInt64)) / 100)), (4, .int (qGro S h 0 y)), (3, .int (qTri S (hNow h) 0 y (hNow h - y))), (0, .ref (sA S 0)), (1, .int (nI 2)), (2, .int (nI y))]) hx hb dX11_reserveOf_96 hl (by decide) rfl (fun ls hl => ?_)
      refine lv_lload hx hb dX11_reserveOf_98 (lv_at hl 0 rfl) ?_
      refine lv_sipush (v := 1000) hx hb dX11_reserveOf_100 (by decide) ?_
      refine lv_ldc hx hb X.2.2.2.2.1 (X.2.2.2.2.2.1 _ kcI_X11_195) dX11_reserveOf_103 ?_
      refine lv_iload hx hb dX11_reserveOf_105 (lv_at hl 1 rfl) ?_
      refine lv_idiv hx hb dX11_reserveOf_107 c72 ?_
      refine lv_isub hx hb dX11_reserveOf_108 ?_
      refine lv_i2l (v := (1000 - (1000000 / (qGro S h 0 y))).toInt64) hx hb dX11_reserveOf_109 rfl ?_
      refine lv_lmul hx hb dX11_reserveOf_110 ?_
      refine lv_ldc2 hx hb X.2.2.2.2.1 (X.2.2.2.2.2.1 _ kcJ_X11_389) dX11_reserveOf_111 ?_
      refine lv_ldiv hx hb dX11_reserveOf_114 (by decide) ?_
      refine lv_lstore (lv' := [(7, .long (((((((hPr h) y).toInt64) * (((hEx h) y).toInt64)) / 100) * ((1000 - (1000000 / (qGro S h 0 y))).toInt64)) / 1000)), (5, .long (((((hPr h) y).toInt64) * (((hEx h) y).toInt64)) / 100)), (4, .int (qGro S h 0 y)), (3, .int (qTri S (hNow h) 0 y (hNow h - y))), (0, .ref (sA S 0)), (1, .int (nI 2)), (2, .int (nI y))]) hx hb dX11_reserveOf_115 hl (by decide) rfl (fun ls hl => ?_)
      refine lv_lload hx hb dX11_reserveOf_117 (lv_at hl 0 rfl) ?_
      refine lv_lconst (v := 0) hx hb dX11_reserveOf_119 (by decide) ?_
      refine h_mmaxL X kml_X11_391 hl.1 (Nat.le_of_ble_eq_true rfl) (Nat.le_of_ble_eq_true rfl) ⟨Nat.le_of_ble_eq_true rfl, Nat.le_of_ble_eq_true rfl⟩ dX11_reserveOf_120 ?_
      refine lv_l2i (v := (sMaxL (((((((hPr h) y).toInt64) * (((hEx h) y).toInt64)) / 100) * ((1000 - (1000000 / (qGro S h 0 y))).toInt64)) / 1000) 0).toInt32) hx hb dX11_reserveOf_123 rfl ?_
      exact h_iret X Y ⟨congrArg (fun z => some (Value.int z)) (if_neg c72).symm, rfl⟩ (Nat.le_refl _) (Nat.le_refl _) dX11_reserveOf_124
    · refine lv_iconst (v := 0) hx hb dX11_reserveOf_75 (by decide) ?_
      exact h_iret X Y ⟨congrArg (fun z => some (Value.int z)) (if_pos c72).symm, rfl⟩ (Nat.le_refl _) (Nat.le_refl _) dX11_reserveOf_76
theorem gw_X11_279 : GoodIn hGW (wsV RX11 279 RX11 yX11_isMethod (Cond.code yX11_isMethod cX11_isMethod 2 (Option.some FieldType.boolean) :: hGW)) := hgi4 kml_X11_279 kin_X11_isMethod kse_X11_X11_isMethod_X11_isMethod kini_X11 kco_X11_isMethod
theorem dsc_X11_isMethod : yX11_isMethod.cls = RX11 ∧ yX11_isMethod.cls ≠ "java/lang/invoke/MethodHandle" ∧ yX11_isMethod.cls ≠ "java/lang/invoke/VarHandle" ∧ (parseMethodDescriptor yX11_isMethod.desc).map (fun d => d.parameters.length) = some 1 := ⟨rfl, by decide +kernel, by decide +kernel, by decide +kernel⟩
theorem gw_X11_284 : GoodIn hGW (wsV RX11 284 RX11 yX11_reserveOf (Cond.code yX11_reserveOf cX11_reserveOf 9 (Option.some FieldType.int) :: hGW)) := hgi4 kml_X11_284 kin_X11_reserveOf kse_X11_X11_reserveOf_X11_reserveOf kini_X11 kco_X11_reserveOf
theorem dsc_X11_reserveOf : yX11_reserveOf.cls = RX11 ∧ yX11_reserveOf.cls ≠ "java/lang/invoke/MethodHandle" ∧ yX11_reserveOf.cls ≠ "java/lang/invoke/VarHandle" ∧ (parseMethodDescriptor yX11_reserveOf.desc).map (fun d => d.parameters.length) = some 2 := ⟨rfl, by decide +kernel, by decide +kernel, by decide +kernel⟩
theorem dX11_reserve_0 : decode cX11_reserve 0 = .ok (.aload_n 0, 1) := by decide +kernel
theorem dX11_reserve_1 : decode cX11_reserve 1 = .ok (.iload_n 1, 1) := by decide +kernel
theorem dX11_reserve_2 : decode cX11_reserve 2 = .ok (.invokevirtual 279, 3) := by decide +kernel
theorem dX11_reserve_5 : decode cX11_reserve 5 = .ok (.ifCond .eq 11, 3) := by decide +kernel
theorem dX11_reserve_8 : decode cX11_reserve 8 = .ok (.aload_n 0, 1) := by decide +kernel
theorem dX11_reserve_9 : decode cX11_reserve 9 = .ok (.iload_n 2, 1) := by decide +kernel
theorem dX11_reserve_10 : decode cX11_reserve 10 = .ok (.invokevirtual 168, 3) := by decide +kernel
theorem dX11_reserve_13 : decode cX11_reserve 13 = .ok (.ifCond .ne 14, 3) := by decide +kernel
theorem dX11_reserve_27 : decode cX11_reserve 27 = .ok (.aload_n 0, 1) := by decide +kernel
theorem dX11_reserve_28 : decode cX11_reserve 28 = .ok (.iconst 0, 1) := by decide +kernel
theorem dX11_reserve_29 : decode cX11_reserve 29 = .ok (.invokevirtual 259, 3) := by decide +kernel
theorem dX11_reserve_32 : decode cX11_reserve 32 = .ok (.aload_n 0, 1) := by decide +kernel
theorem dX11_reserve_33 : decode cX11_reserve 33 = .ok (.iconst 1, 1) := by decide +kernel
theorem dX11_reserve_34 : decode cX11_reserve 34 = .ok (.invokevirtual 259, 3) := by decide +kernel
theorem dX11_reserve_37 : decode cX11_reserve 37 = .ok (.aload_n 0, 1) := by decide +kernel
theorem dX11_reserve_38 : decode cX11_reserve 38 = .ok (.iload_n 1, 1) := by decide +kernel
theorem dX11_reserve_39 : decode cX11_reserve 39 = .ok (.iload_n 2, 1) := by decide +kernel
theorem dX11_reserve_40 : decode cX11_reserve 40 = .ok (.invokevirtual 284, 3) := by decide +kernel
theorem dX11_reserve_43 : decode cX11_reserve 43 = .ok (.ireturn, 1) := by decide +kernel
set_option maxHeartbeats 400000 in
set_option maxRecDepth 100000 in
theorem c_reserve (l : Launch) (G : hG) (M : hM) (S : hSy) (h : hHo) (hQv : QV G M S h) (mt y : Nat) (hm : mt < 3) (hy : y ≤ hNow h) : hCT l G yX11_reserve cX11_reserve 3 (Option.some FieldType.int) (hRm 10 0 0) M [.ref (sA S 0), .int (nI mt), .int (nI y)] (fun v M' => v = some (.int (qRes S h mt y)) ∧ hSim G hScr M M') := by
  refine hCT.of (own := RX11) (nm := "reserve") (by decide) rfl rfl (Nat.le_of_ble_eq_true rfl) ?_
  intro p e s m args below meth c ls X Y hl
  have hx := X.1
  have hb := X.2.1
  have hl : lv_has ls 3 [(0, .ref (sA S 0)), (1, .int (nI mt)), (2, .int (nI y))] := hl
  obtain ⟨hS, hG1, hHo, hCe, hTr, hnow, hyn⟩ := id hQv
  obtain ⟨hN8, hM40, hLG, hCY⟩ := id hG1
  obtain ⟨hl13, he14, hl15, he16, hLa, hCl⟩ := id hS
  obtain ⟨mc13, hlo13⟩ := id hl13
  obtain ⟨mc15, hlo15⟩ := id hl15
  obtain ⟨ho0, ho1, ho17, ho18, ft19, hft19, ho19⟩ := id hHo
  have hs0 : hSim G hScr M M := hSim.rf
  refine lv_aload_n hx hb dX11_reserve_0 rfl (lv_at hl 0 rfl) ?_
  refine lv_iload_n hx hb dX11_reserve_1 rfl (lv_at hl 1 rfl) ?_
  refine h_callVr (rest := []) X Y (c_isMethod l G M (sA S 0) mt (by omega)) rfl rfl gw_X11_279 dsc_X11_isMethod ho0 rfl rfl rfl rfl hl.1 (Nat.le_of_ble_eq_true rfl) ⟨Nat.le_of_ble_eq_true rfl, Nat.le_of_ble_eq_true rfl⟩ ⟨Nat.le_of_ble_eq_true rfl, Nat.le_of_ble_eq_true rfl⟩ dX11_reserve_2 (fun H locs Y => ?_)
  refine lv_if_eq (tgt := 16) hx hb dX11_reserve_5 (by decide) (fun c5 => absurd c5 (by decide)) (fun c5 => ?_)
  refine lv_aload_n hx hb dX11_reserve_8 rfl (lv_at hl 0 rfl) ?_
  refine lv_iload_n hx hb dX11_reserve_9 rfl (lv_at hl 2 rfl) ?_
  refine h_callVr (rest := []) X Y (c_isYearSoFar l G M S h hQv y (by omega)) rfl rfl gw_X11_168 dsc_X11_isYearSoFar ho0 rfl rfl rfl rfl hl.1 (Nat.le_of_ble_eq_true rfl) ⟨Nat.le_of_ble_eq_true rfl, Nat.le_of_ble_eq_true rfl⟩ ⟨Nat.le_of_ble_eq_true rfl, Nat.le_of_ble_eq_true rfl⟩ dX11_reserve_10 (fun H locs Y => ?_)
  refine lv_if_ne (tgt := 27) hx hb dX11_reserve_13 (by decide) (fun c13 => ?_) (fun c13 => absurd c13 (by decide))
  refine lv_aload_n hx hb dX11_reserve_27 rfl (lv_at hl 0 rfl) ?_
  refine lv_iconst (v := 0) hx hb dX11_reserve_28 (by decide) ?_
  refine h_callV (rest := []) X Y (c_fillTriangle l G M S h hQv 0 (by omega)) gw_X11_259 dsc_X11_fillTriangle ho0 rfl rfl rfl hl.1 rfl (Nat.le_of_ble_eq_true rfl) ⟨Nat.le_of_ble_eq_true rfl, Nat.le_of_ble_eq_true rfl⟩ ⟨Nat.le_of_ble_eq_true rfl, Nat.le_of_ble_eq_true rfl⟩ dX11_reserve_29 ?_
  rintro _ M1 H locs ⟨rfl, hTI0, hq⟩ Y
  try dsimp only [Option.toList, List.nil_append]
  have hs0 := hs0.tr (hq.mono (hS3_scr (by omega)))
  have hQv := hQv.sim (hq.mono (hS3_scr (by omega)))
  obtain ⟨hS, -, hHo, hCe, hTr, -, -⟩ := id hQv
  obtain ⟨hl13, he14, hl15, he16, hLa, hCl⟩ := id hS
  obtain ⟨mc13, hlo13⟩ := id hl13
  obtain ⟨mc15, hlo15⟩ := id hl15
  obtain ⟨ho0, ho1, ho17, ho18, ft19, hft19, ho19⟩ := id hHo
  refine lv_aload_n hx hb dX11_reserve_32 rfl (lv_at hl 0 rfl) ?_
  refine lv_iconst (v := 1) hx hb dX11_reserve_33 (by decide) ?_
  refine h_callV (rest := []) X Y (c_fillTriangle l G M1 S h hQv 1 (by omega)) gw_X11_259 dsc_X11_fillTriangle ho0 rfl rfl rfl hl.1 rfl (Nat.le_of_ble_eq_true rfl) ⟨Nat.le_of_ble_eq_true rfl, Nat.le_of_ble_eq_true rfl⟩ ⟨Nat.le_of_ble_eq_true rfl, Nat.le_of_ble_eq_true rfl⟩ dX11_reserve_34 ?_
  rintro _ M2 H locs ⟨rfl, hTI1, hq⟩ Y
  try dsimp only [Option.toList, List.nil_append]
  have hs0 := hs0.tr (hq.mono (hS3_scr (by omega)))
  have hTI0 := hTI0.sim hq (hS3_tri (by omega) (by omega) (by omega))
  have hQv := hQv.sim (hq.mono (hS3_scr (by omega)))
  obtain ⟨hS, -, hHo, hCe, hTr, -, -⟩ := id hQv
  obtain ⟨hl13, he14, hl15, he16, hLa, hCl⟩ := id hS
  obtain ⟨mc13, hlo13⟩ := id hl13
  obtain ⟨mc15, hlo15⟩ := id hl15
  obtain ⟨ho0, ho1, ho17, ho18, ft19, hft19, ho19⟩ := id hHo
  refine lv_aload_n hx hb dX11_reserve_37 rfl (lv_at hl 0 rfl) ?_
  refine lv_iload_n hx hb dX11_reserve_38 rfl (lv_at hl 1 rfl) ?_
  refine lv_iload_n hx hb dX11_reserve_39 rfl (lv_at hl 2 rfl) ?_
  refine h_callVr (rest := []) X Y (c_reserveOf l G M2 S h hQv mt y hm hy hTI0 hTI1) rfl rfl gw_X11_284 dsc_X11_reserveOf ho0 rfl rfl rfl rfl hl.1 (Nat.le_of_ble_eq_true rfl) ⟨Nat.le_of_ble_eq_true rfl, Nat.le_of_ble_eq_true rfl⟩ ⟨Nat.le_of_ble_eq_true rfl, Nat.le_of_ble_eq_true rfl⟩ dX11_reserve_40 (fun H locs Y => ?_)
  exact h_iret X Y ⟨rfl, hs0⟩ (Nat.le_refl _) (Nat.le_refl _) dX11_reserve_43
theorem dX11_keenest_0 : decode cX11_keenest 0 = .ok (.aload_n 0, 1) := by decide +kernel
theorem dX11_keenest_1 : decode cX11_keenest 1 = .ok (.aload_n 0, 1) := by decide +kernel
theorem dX11_keenest_2 : decode cX11_keenest 2 = .ok (.getfield 61, 3) := by decide +kernel
theorem dX11_keenest_5 : decode cX11_keenest 5 = .ok (.iconst 0, 1) := by decide +kernel
theorem dX11_keenest_6 : decode cX11_keenest 6 = .ok (.iconst (-1), 1) := by decide +kernel
theorem dX11_keenest_7 : decode cX11_keenest 7 = .ok (.invokevirtual 137, 3) := by decide +kernel
theorem dX11_keenest_10 : decode cX11_keenest 10 = .ok (.aload_n 0, 1) := by decide +kernel
theorem dX11_keenest_11 : decode cX11_keenest 11 = .ok (.getfield 61, 3) := by decide +kernel
theorem dX11_keenest_14 : decode cX11_keenest 14 = .ok (.invokevirtual 302, 3) := by decide +kernel
theorem dX11_keenest_17 : decode cX11_keenest 17 = .ok (.istore_n 1, 1) := by decide +kernel
theorem dX11_keenest_18 : decode cX11_keenest 18 = .ok (.iconst (-1), 1) := by decide +kernel
theorem dX11_keenest_19 : decode cX11_keenest 19 = .ok (.istore_n 2, 1) := by decide +kernel
theorem dX11_keenest_20 : decode cX11_keenest 20 = .ok (.iconst 0, 1) := by decide +kernel
theorem dX11_keenest_21 : decode cX11_keenest 21 = .ok (.istore_n 3, 1) := by decide +kernel
theorem dX11_keenest_22 : decode cX11_keenest 22 = .ok (.iload_n 3, 1) := by decide +kernel
theorem dX11_keenest_23 : decode cX11_keenest 23 = .ok (.aload_n 0, 1) := by decide +kernel
theorem dX11_keenest_24 : decode cX11_keenest 24 = .ok (.getfield 42, 3) := by decide +kernel
theorem dX11_keenest_27 : decode cX11_keenest 27 = .ok (.invokevirtual 176, 3) := by decide +kernel
theorem dX11_keenest_30 : decode cX11_keenest 30 = .ok (.if_icmp .ge 39, 3) := by decide +kernel
theorem dX11_keenest_33 : decode cX11_keenest 33 = .ok (.aload_n 0, 1) := by decide +kernel
theorem dX11_keenest_34 : decode cX11_keenest 34 = .ok (.aload_n 0, 1) := by decide +kernel
theorem dX11_keenest_35 : decode cX11_keenest 35 = .ok (.getfield 61, 3) := by decide +kernel
theorem dX11_keenest_38 : decode cX11_keenest 38 = .ok (.iconst 0, 1) := by decide +kernel
theorem dX11_keenest_39 : decode cX11_keenest 39 = .ok (.iload_n 3, 1) := by decide +kernel
theorem dX11_keenest_40 : decode cX11_keenest 40 = .ok (.invokevirtual 137, 3) := by decide +kernel
theorem dX11_keenest_43 : decode cX11_keenest 43 = .ok (.aload_n 0, 1) := by decide +kernel
theorem dX11_keenest_44 : decode cX11_keenest 44 = .ok (.getfield 61, 3) := by decide +kernel
theorem dX11_keenest_47 : decode cX11_keenest 47 = .ok (.invokevirtual 302, 3) := by decide +kernel
theorem dX11_keenest_50 : decode cX11_keenest 50 = .ok (.istore 4, 2) := by decide +kernel
theorem dX11_keenest_52 : decode cX11_keenest 52 = .ok (.iload 4, 2) := by decide +kernel
theorem dX11_keenest_54 : decode cX11_keenest 54 = .ok (.iload_n 1, 1) := by decide +kernel
theorem dX11_keenest_55 : decode cX11_keenest 55 = .ok (.if_icmp .le 8, 3) := by decide +kernel
theorem dX11_keenest_58 : decode cX11_keenest 58 = .ok (.iload 4, 2) := by decide +kernel
theorem dX11_keenest_60 : decode cX11_keenest 60 = .ok (.istore_n 1, 1) := by decide +kernel
theorem dX11_keenest_61 : decode cX11_keenest 61 = .ok (.iload_n 3, 1) := by decide +kernel
theorem dX11_keenest_62 : decode cX11_keenest 62 = .ok (.istore_n 2, 1) := by decide +kernel
theorem dX11_keenest_63 : decode cX11_keenest 63 = .ok (.iinc 3 1, 3) := by decide +kernel
theorem dX11_keenest_66 : decode cX11_keenest 66 = .ok (.goto (-44), 3) := by decide +kernel
theorem dX11_keenest_69 : decode cX11_keenest 69 = .ok (.iload_n 2, 1) := by decide +kernel
theorem dX11_keenest_70 : decode cX11_keenest 70 = .ok (.ireturn, 1) := by decide +kernel
set_option maxHeartbeats 400000 in
set_option maxRecDepth 100000 in
theorem c_keenest (l : Launch) (G : hG) (M : hM) (S : hSy) (h : hHo) (hQv : QV G M S h) : hCT l G yX11_keenest cX11_keenest 5 (Option.some FieldType.int) (hRm 9 0 0) M [.ref (sA S 0)] (fun v M' => v = some (.int ((qKe S (sN S)).2)) ∧ hSim G hScr M M') := by
  refine hCT.of (own := RX11) (nm := "keenest") (by decide) rfl rfl (Nat.le_of_ble_eq_true rfl) ?_
  intro p e s m args below meth c ls X Y hl
  have hx := X.1
  have hb := X.2.1
  have hl : lv_has ls 5 [(0, .ref (sA S 0))] := hl
  obtain ⟨hS, hG1, hHo, hCe, hTr, hnow, hyn⟩ := id hQv
  obtain ⟨hN8, hM40, hLG, hCY⟩ := id hG1
  obtain ⟨hl13, he14, hl15, he16, hLa, hCl⟩ := id hS
  obtain ⟨mc13, hlo13⟩ := id hl13
  obtain ⟨mc15, hlo15⟩ := id hl15
  obtain ⟨ho0, ho1, ho17, ho18, ft19, hft19, ho19⟩ := id hHo
  have hs0 : hSim G hScr M M := hSim.rf
  refine lv_aload_n hx hb dX11_keenest_0 rfl (lv_at hl 0 rfl) ?_
  refine lv_aload_n hx hb dX11_keenest_1 rfl (lv_at hl 0 rfl) ?_
  refine h_get X Y (k := 8) (v := .ref (sA S (100 * (2 + 1)))) ho0 rfl hin_X11 (by decide) kfl_X11_61 rfl dX11_keenest_2 ?_
  refine lv_iconst (v := 0) hx hb dX11_keenest_5 (by decide) ?_
  refine lv_iconst (v := (-1)) hx hb dX11_keenest_6 (by decide) ?_
  refine h_callV (rest := []) X Y (c_cedeNow l G M S h hQv 2 (by omega) false (-1)) gw_X11_137 dsc_X11_cedeNow ho0 rfl rfl rfl hl.1 rfl (Nat.le_of_ble_eq_true rfl) ⟨Nat.le_of_ble_eq_true rfl, Nat.le_of_ble_eq_true rfl⟩ ⟨Nat.le_of_ble_eq_true rfl, Nat.le_of_ble_eq_true rfl⟩ dX11_keenest_7 ?_
  rintro _ M1 H locs ⟨rfl, hCI2, hq⟩ Y
  try dsimp only [Option.toList, List.nil_append]
  have hs0 := hs0.tr (hq.mono (hS1_scr (by omega)))
  have hQv := hQv.sim (hq.mono (hS1_scr (by omega)))
  obtain ⟨hS, -, hHo, hCe, hTr, -, -⟩ := id hQv
  obtain ⟨hl13, he14, hl15, he16, hLa, hCl⟩ := id hS
  obtain ⟨mc13, hlo13⟩ := id hl13
  obtain ⟨mc15, hlo15⟩ := id hl15
  obtain ⟨ho0, ho1, ho17, ho18, ft19, hft19, ho19⟩ := id hHo
  obtain ⟨am, be, yl, lo, hV, ha, hbq, hyq⟩ := id (hCI2)
  obtain ⟨hoc, -⟩ := id hV
  refine lv_aload_n hx hb dX11_keenest_10 rfl (lv_at hl 0 rfl) ?_
  refine h_get X Y (k := 8) (v := .ref (sA S (100 * (2 + 1)))) ho0 rfl hin_X11 (by decide) kfl_X11_61 rfl dX11_keenest_11 ?_
  refine h_callVr (rest := []) X Y (c_allLeft l G M1 S hS hG1 2 am be yl lo hV) rfl rfl gw_X11_302 dsc_X1_allLeft hoc rfl rfl rfl rfl hl.1 (Nat.le_of_ble_eq_true rfl) ⟨Nat.le_of_ble_eq_true rfl, Nat.le_of_ble_eq_true rfl⟩ ⟨Nat.le_of_ble_eq_true rfl, Nat.le_of_ble_eq_true rfl⟩ dX11_keenest_14 (fun H locs Y => ?_)
  refine h_ev (y := (qKe S 0).1) (rLefts_congr S ha hbq) ?_
  refine lv_istore_n (lv' := [(1, .int ((qKe S 0).1)), (0, .ref (sA S 0))]) hx hb dX11_keenest_17 rfl hl (by decide) rfl (fun ls hl => ?_)
  refine lv_iconst (v := (-1)) hx hb dX11_keenest_18 (by decide) ?_
  refine lv_istore_n (lv' := [(2, .int (-1)), (1, .int ((qKe S 0).1)), (0, .ref (sA S 0))]) hx hb dX11_keenest_19 rfl hl (by decide) rfl (fun ls hl => ?_)
  refine lv_iconst (v := 0) hx hb dX11_keenest_20 (by decide) ?_
  refine lv_istore_n (lv' := [(3, .int 0), (2, .int (-1)), (1, .int ((qKe S 0).1)), (0, .ref (sA S 0))]) hx hb dX11_keenest_21 rfl hl (by decide) rfl (fun ls hl => ?_)
  have loop : ∀ (d k : Nat), k + d = sN S + 1 → k ≤ sN S → ∀ (M1 : hM), QV G M1 S h → hSim G hScr M M1 → ∀ (H : Heap) (locs : List Loc) (ls : Array Slot), hHS G M1 s H locs → lv_has ls 5 [(0, .ref (sA S 0)), (1, .int ((qKe S k).1)), (2, .int ((qKe S k).2)), (3, .int (nI k))] → W p l e (hRm 9 0 0) s m args below meth c H locs 0 0 (MQ below (hQ G (fun v M' => v = some (.int ((qKe S (sN S)).2)) ∧ hSim G hScr M M')) args s 0 0 (hA G)) (F0 m 22 ls []) := by
    intro d
    induction d with
    | zero => intro k h1; intros; exact absurd h1 (by omega)
    | succ d ih =>
      intro k h1 h2 M1 hQv hs0 H locs ls Y hl
      obtain ⟨hS, -, hHo, hCe, hTr, -, -⟩ := id hQv
      obtain ⟨hl13, he14, hl15, he16, hLa, hCl⟩ := id hS
      obtain ⟨mc13, hlo13⟩ := id hl13
      obtain ⟨mc15, hlo15⟩ := id hl15
      obtain ⟨ho0, ho1, ho17, ho18, ft19, hft19, ho19⟩ := id hHo
      refine lv_iload_n hx hb dX11_keenest_22 rfl (lv_at hl 3 rfl) ?_
      refine lv_aload_n hx hb dX11_keenest_23 rfl (lv_at hl 0 rfl) ?_
      refine h_get X Y (k := 4) (v := .ref (sA S 13)) ho0 rfl hin_X11 (by decide) kfl_X11_42 rfl dX11_keenest_24 ?_
      refine h_callVr (rest := [.int (nI k)]) X Y (c_size l G M1 (sA S 13) 13 (sA S 14) (sN S) hl13) rfl rfl gw_X11_176 dsc_Jx4a65c_size_8abf5 hlo13 rfl rfl rfl rfl hl.1 (Nat.le_of_ble_eq_true rfl) ⟨Nat.le_of_ble_eq_true rfl, Nat.le_of_ble_eq_true rfl⟩ ⟨Nat.le_of_ble_eq_true rfl, Nat.le_of_ble_eq_true rfl⟩ dX11_keenest_27 (fun H locs Y => ?_)
      refine lv_icmp_ge (tgt := 69) hx hb dX11_keenest_30 (by decide) (fun c30 => ?_) (fun c30 => ?_)
      · have c30 : (sN S) ≤ k := (nI_leI (a := (sN S)) (b := k) (by omega) (by omega)).mp c30
        have hk9 : k = (sN S) := by omega
        subst hk9
        refine lv_iload_n hx hb dX11_keenest_69 rfl (lv_at hl 2 rfl) ?_
        exact h_iret X Y ⟨rfl, hs0⟩ (Nat.le_refl _) (Nat.le_refl _) dX11_keenest_70
      · have c30 : ¬ (sN S) ≤ k := fun z9 => c30 ((nI_leI (a := (sN S)) (b := k) (by omega) (by omega)).mpr z9)
        refine lv_aload_n hx hb dX11_keenest_33 rfl (lv_at hl 0 rfl) ?_
        refine lv_aload_n hx hb dX11_keenest_34 rfl (lv_at hl 0 rfl) ?_
        refine h_get X Y (k := 8) (v := .ref (sA S (100 * (2 + 1)))) ho0 rfl hin_X11 (by decide) kfl_X11_61 rfl dX11_keenest_35 ?_
        refine lv_iconst (v := 0) hx hb dX11_keenest_38 (by decide) ?_
        refine lv_iload_n hx hb dX11_keenest_39 rfl (lv_at hl 3 rfl) ?_
        refine h_callV (rest := []) X Y (c_cedeNow l G M1 S h hQv 2 (by omega) false (nI k)) gw_X11_137 dsc_X11_cedeNow ho0 rfl rfl rfl hl.1 rfl (Nat.le_of_ble_eq_true rfl) ⟨Nat.le_of_ble_eq_true rfl, Nat.le_of_ble_eq_true rfl⟩ ⟨Nat.le_of_ble_eq_true rfl, Nat.le_of_ble_eq_true rfl⟩ dX11_keenest_40 ?_
        rintro _ M2 H locs ⟨rfl, hCI2, hq⟩ Y
        try dsimp only [Option.toList, List.nil_append]
        have hs0 := hs0.tr (hq.mono (hS1_scr (by omega)))
        have hQv := hQv.sim (hq.mono (hS1_scr (by omega)))
        obtain ⟨hS, -, hHo, hCe, hTr, -, -⟩ := id hQv
        obtain ⟨hl13, he14, hl15, he16, hLa, hCl⟩ := id hS
        obtain ⟨mc13, hlo13⟩ := id hl13
        obtain ⟨mc15, hlo15⟩ := id hl15
        obtain ⟨ho0, ho1, ho17, ho18, ft19, hft19, ho19⟩ := id hHo
        obtain ⟨am, be, yl, lo, hV, ha, hbq, hyq⟩ := id (hCI2)
        obtain ⟨hoc, -⟩ := id hV
        refine lv_aload_n hx hb dX11_keenest_43 rfl (lv_at hl 0 rfl) ?_
        refine h_get X Y (k := 8) (v := .ref (sA S (100 * (2 + 1)))) ho0 rfl hin_X11 (by decide) kfl_X11_61 rfl dX11_keenest_44 ?_
        refine h_callVr (rest := []) X Y (c_allLeft l G M2 S hS hG1 2 am be yl lo hV) rfl rfl gw_X11_302 dsc_X1_allLeft hoc rfl rfl rfl rfl hl.1 (Nat.le_of_ble_eq_true rfl) ⟨Nat.le_of_ble_eq_true rfl, Nat.le_of_ble_eq_true rfl⟩ ⟨Nat.le_of_ble_eq_true rfl, Nat.le_of_ble_eq_true rfl⟩ dX11_keenest_47 (fun H locs Y => ?_)
        refine h_ev (y := qLefts S false (nI k)) (rLefts_congr S ha hbq) ?_
        refine lv_istore (lv' := [(4, .int (qLefts S false (nI k))), (0, .ref (sA S 0)), (1, .int ((qKe S k).1)), (2, .int ((qKe S k).2)), (3, .int (nI k))]) hx hb dX11_keenest_50 hl (by decide) rfl (fun ls hl => ?_)
        refine lv_iload hx hb dX11_keenest_52 (lv_at hl 0 rfl) ?_
        refine lv_iload_n hx hb dX11_keenest_54 rfl (lv_at hl 2 rfl) ?_
        refine lv_icmp_le (tgt := 63) hx hb dX11_keenest_55 (by decide) (fun c55 => ?_) (fun c55 => ?_)
        · have c55 : ¬ (qKe S k).1 < qLefts S false (nI k) := fb_le c55
          refine lv_iinc (v := nI (k + 1)) (lv' := [(3, .int (nI (k + 1))), (4, .int (qLefts S false (nI k))), (0, .ref (sA S 0)), (1, .int ((qKe S k).1)), (2, .int ((qKe S k).2))]) hx hb dX11_keenest_63 hl (k := 4) rfl (nI_1 k) (by decide) rfl (fun ls hl => ?_)
          refine lv_goto (tgt := 22) hx hb dX11_keenest_66 (by decide) ?_
          have e1 : qKe S (k + 1) = qKe S k := if_neg c55
          exact ih (k + 1) (by omega) (by omega) M2 hQv hs0 _ _ _ Y (by rw [e1]; exact (lv_sub hl [2, 3, 4, 0] rfl))
        · have c55 : (qKe S k).1 < qLefts S false (nI k) := fb_nle c55
          refine lv_iload hx hb dX11_keenest_58 (lv_at hl 0 rfl) ?_
          refine lv_istore_n (lv' := [(1, .int (qLefts S false (nI k))), (4, .int (qLefts S false (nI k))), (0, .ref (sA S 0)), (2, .int ((qKe S k).2)), (3, .int (nI k))]) hx hb dX11_keenest_60 rfl hl (by decide) rfl (fun ls hl => ?_)
          refine lv_iload_n hx hb dX11_keenest_61 rfl (lv_at hl 4 rfl) ?_
          refine lv_istore_n (lv' := [(2, .int (nI k)), (1, .int (qLefts S false (nI k))), (4, .int (qLefts S false (nI k))), (0, .ref (sA S 0)), (3, .int (nI k))]) hx hb dX11_keenest_62 rfl hl (by decide) rfl (fun ls hl => ?_)
          refine lv_iinc (v := nI (k + 1)) (lv' := [(3, .int (nI (k + 1))), (2, .int (nI k)), (1, .int (qLefts S false (nI k))), (4, .int (qLefts S false (nI k))), (0, .ref (sA S 0))]) hx hb dX11_keenest_63 hl (k := 4) rfl (nI_1 k) (by decide) rfl (fun ls hl => ?_)
          refine lv_goto (tgt := 22) hx hb dX11_keenest_66 (by decide) ?_
          have e1 : qKe S (k + 1) = (qLefts S false (nI k), nI k) := if_pos c55
          exact ih (k + 1) (by omega) (by omega) M2 hQv hs0 _ _ _ Y (by rw [e1]; exact (lv_sub hl [4, 2, 1, 0] rfl))
  exact loop (sN S + 1) 0 (by omega) (by omega) _ hQv hs0 _ _ _ Y (lv_sub hl [3, 2, 1, 0] rfl)
theorem gw_X11_171 : GoodIn hGW (wsV RX11 171 RX11 yX11_isReserve (Cond.code yX11_isReserve cX11_isReserve 2 (Option.some FieldType.boolean) :: hGW)) := hgi4 kml_X11_171 kin_X11_isReserve kse_X11_X11_isReserve_X11_isReserve kini_X11 kco_X11_isReserve
theorem dsc_X11_isReserve : yX11_isReserve.cls = RX11 ∧ yX11_isReserve.cls ≠ "java/lang/invoke/MethodHandle" ∧ yX11_isReserve.cls ≠ "java/lang/invoke/VarHandle" ∧ (parseMethodDescriptor yX11_isReserve.desc).map (fun d => d.parameters.length) = some 1 := ⟨rfl, by decide +kernel, by decide +kernel, by decide +kernel⟩
theorem dX11_would_0 : decode cX11_would 0 = .ok (.aload_n 0, 1) := by decide +kernel
theorem dX11_would_1 : decode cX11_would 1 = .ok (.iload_n 1, 1) := by decide +kernel
theorem dX11_would_2 : decode cX11_would 2 = .ok (.invokevirtual 190, 3) := by decide +kernel
theorem dX11_would_5 : decode cX11_would 5 = .ok (.ifCond .eq 12, 3) := by decide +kernel
theorem dX11_would_8 : decode cX11_would 8 = .ok (.iload_n 3, 1) := by decide +kernel
theorem dX11_would_9 : decode cX11_would 9 = .ok (.ifCond .lt 8, 3) := by decide +kernel
theorem dX11_would_12 : decode cX11_would 12 = .ok (.iload_n 3, 1) := by decide +kernel
theorem dX11_would_13 : decode cX11_would 13 = .ok (.iconst 2, 1) := by decide +kernel
theorem dX11_would_14 : decode cX11_would 14 = .ok (.if_icmp .le 14, 3) := by decide +kernel
theorem dX11_would_28 : decode cX11_would 28 = .ok (.aload_n 0, 1) := by decide +kernel
theorem dX11_would_29 : decode cX11_would 29 = .ok (.iload_n 2, 1) := by decide +kernel
theorem dX11_would_30 : decode cX11_would 30 = .ok (.invokevirtual 171, 3) := by decide +kernel
theorem dX11_would_33 : decode cX11_would 33 = .ok (.ifCond .ne 13, 3) := by decide +kernel
theorem dX11_would_46 : decode cX11_would 46 = .ok (.aload_n 0, 1) := by decide +kernel
theorem dX11_would_47 : decode cX11_would 47 = .ok (.aload_n 0, 1) := by decide +kernel
theorem dX11_would_48 : decode cX11_would 48 = .ok (.getfield 61, 3) := by decide +kernel
theorem dX11_would_51 : decode cX11_would 51 = .ok (.iconst 0, 1) := by decide +kernel
theorem dX11_would_52 : decode cX11_would 52 = .ok (.invokevirtual 291, 3) := by decide +kernel
theorem dX11_would_55 : decode cX11_would 55 = .ok (.aload_n 0, 1) := by decide +kernel
theorem dX11_would_56 : decode cX11_would 56 = .ok (.getfield 61, 3) := by decide +kernel
theorem dX11_would_59 : decode cX11_would 59 = .ok (.getfield 295, 3) := by decide +kernel
theorem dX11_would_62 : decode cX11_would 62 = .ok (.iload_n 1, 1) := by decide +kernel
theorem dX11_would_63 : decode cX11_would 63 = .ok (.aload_n 0, 1) := by decide +kernel
theorem dX11_would_64 : decode cX11_would 64 = .ok (.getfield 46, 3) := by decide +kernel
theorem dX11_would_67 : decode cX11_would 67 = .ok (.iload_n 1, 1) := by decide +kernel
theorem dX11_would_68 : decode cX11_would 68 = .ok (.invokevirtual 150, 3) := by decide +kernel
theorem dX11_would_71 : decode cX11_would 71 = .ok (.checkcast 181, 3) := by decide +kernel
theorem dX11_would_74 : decode cX11_would 74 = .ok (.getfield 202, 3) := by decide +kernel
theorem dX11_would_77 : decode cX11_would 77 = .ok (.iload_n 2, 1) := by decide +kernel
theorem dX11_would_78 : decode cX11_would 78 = .ok (.iadd, 1) := by decide +kernel
theorem dX11_would_79 : decode cX11_would 79 = .ok (.iastore, 1) := by decide +kernel
theorem dX11_would_80 : decode cX11_would 80 = .ok (.aload_n 0, 1) := by decide +kernel
theorem dX11_would_81 : decode cX11_would 81 = .ok (.getfield 61, 3) := by decide +kernel
theorem dX11_would_84 : decode cX11_would 84 = .ok (.aload_n 0, 1) := by decide +kernel
theorem dX11_would_85 : decode cX11_would 85 = .ok (.getfield 46, 3) := by decide +kernel
theorem dX11_would_88 : decode cX11_would 88 = .ok (.invokevirtual 176, 3) := by decide +kernel
theorem dX11_would_91 : decode cX11_would 91 = .ok (.iconst (-1), 1) := by decide +kernel
theorem dX11_would_92 : decode cX11_would 92 = .ok (.invokevirtual 298, 3) := by decide +kernel
theorem dX11_would_95 : decode cX11_would 95 = .ok (.iload_n 3, 1) := by decide +kernel
theorem dX11_would_96 : decode cX11_would 96 = .ok (.ifCond .ne 11, 3) := by decide +kernel
theorem dX11_would_99 : decode cX11_would 99 = .ok (.aload_n 0, 1) := by decide +kernel
theorem dX11_would_100 : decode cX11_would 100 = .ok (.getfield 61, 3) := by decide +kernel
theorem dX11_would_103 : decode cX11_would 103 = .ok (.invokevirtual 302, 3) := by decide +kernel
theorem dX11_would_106 : decode cX11_would 106 = .ok (.ireturn, 1) := by decide +kernel
set_option maxHeartbeats 400000 in
set_option maxRecDepth 100000 in
theorem c_would (l : Launch) (G : hG) (M : hM) (S : hSy) (h : hHo) (hQv : QV G M S h) (i : Nat) (r : Int32) (hi : i < sM S) (hr : r = clI (sC S i) 2) (hr0 : ¬ r < 0) (hr1 : r ≤ 1000000) : hCT l G yX11_would cX11_would 4 (Option.some FieldType.int) (hRm 9 0 0) M [.ref (sA S 0), .int (nI i), .int r, .int 0] (fun v M' => v = some (.int (qLefts S false (-1))) ∧ hSim G hScr M M') := by
  refine hCT.of (own := RX11) (nm := "would") (by decide) rfl rfl (Nat.le_of_ble_eq_true rfl) ?_
  intro p e s m args below meth c ls X Y hl
  have hx := X.1
  have hb := X.2.1
  have hl : lv_has ls 4 [(0, .ref (sA S 0)), (1, .int (nI i)), (2, .int r), (3, .int 0)] := hl
  obtain ⟨hS, hG1, hHo, hCe, hTr, hnow, hyn⟩ := id hQv
  obtain ⟨hN8, hM40, hLG, hCY⟩ := id hG1
  obtain ⟨hl13, he14, hl15, he16, hLa, hCl⟩ := id hS
  obtain ⟨mc13, hlo13⟩ := id hl13
  obtain ⟨mc15, hlo15⟩ := id hl15
  obtain ⟨ho0, ho1, ho17, ho18, ft19, hft19, ho19⟩ := id hHo
  have hs0 : hSim G hScr M M := hSim.rf
  obtain ⟨am0, be0, yl0, lo0, hV⟩ := hCe 2 (by omega)
  obtain ⟨ho, ham, ⟨fb, hfb, hbo⟩, hbr, ⟨fy, hfy, hyo⟩, hyr, hlo⟩ := id hV
  refine lv_aload_n hx hb dX11_would_0 rfl (lv_at hl 0 rfl) ?_
  refine lv_iload_n hx hb dX11_would_1 rfl (lv_at hl 1 rfl) ?_
  refine h_callVr (rest := []) X Y (c_hasClaim l G M S h hQv i (by omega)) rfl rfl gw_X11_190 dsc_X11_hasClaim ho0 rfl rfl rfl rfl hl.1 (Nat.le_of_ble_eq_true rfl) ⟨Nat.le_of_ble_eq_true rfl, Nat.le_of_ble_eq_true rfl⟩ ⟨Nat.le_of_ble_eq_true rfl, Nat.le_of_ble_eq_true rfl⟩ dX11_would_2 (fun H locs Y => ?_)
  refine lv_if_eq (tgt := 17) hx hb dX11_would_5 (by decide) (fun c5 => absurd c5 (by decide)) (fun c5 => ?_)
  refine lv_iload_n hx hb dX11_would_8 rfl (lv_at hl 3 rfl) ?_
  refine lv_if_lt (tgt := 17) hx hb dX11_would_9 (by decide) (fun c9 => absurd c9 (by decide)) (fun c9 => ?_)
  refine lv_iload_n hx hb dX11_would_12 rfl (lv_at hl 3 rfl) ?_
  refine lv_iconst (v := 2) hx hb dX11_would_13 (by decide) ?_
  refine lv_icmp_le (tgt := 28) hx hb dX11_would_14 (by decide) (fun c14 => ?_) (fun c14 => absurd (by decide) c14)
  refine lv_aload_n hx hb dX11_would_28 rfl (lv_at hl 0 rfl) ?_
  refine lv_iload_n hx hb dX11_would_29 rfl (lv_at hl 2 rfl) ?_
  refine h_callVr (rest := []) X Y (c_isReserve l G M (sA S 0) r hr0 hr1) rfl rfl gw_X11_171 dsc_X11_isReserve ho0 rfl rfl rfl rfl hl.1 (Nat.le_of_ble_eq_true rfl) ⟨Nat.le_of_ble_eq_true rfl, Nat.le_of_ble_eq_true rfl⟩ ⟨Nat.le_of_ble_eq_true rfl, Nat.le_of_ble_eq_true rfl⟩ dX11_would_30 (fun H locs Y => ?_)
  refine lv_if_ne (tgt := 46) hx hb dX11_would_33 (by decide) (fun c33 => ?_) (fun c33 => absurd c33 (by decide))
  refine lv_aload_n hx hb dX11_would_46 rfl (lv_at hl 0 rfl) ?_
  refine lv_aload_n hx hb dX11_would_47 rfl (lv_at hl 0 rfl) ?_
  refine h_get X Y (k := 8) (v := .ref (sA S (100 * (2 + 1)))) ho0 rfl hin_X11 (by decide) kfl_X11_61 rfl dX11_would_48 ?_
  refine lv_iconst (v := 0) hx hb dX11_would_51 (by decide) ?_
  refine h_callV (rest := []) X Y (c_tellAmounts l G M S h hQv 2 (by omega) am0 be0 yl0 lo0 hV false) gw_X11_291 dsc_X11_tellAmounts ho0 rfl rfl rfl hl.1 rfl (Nat.le_of_ble_eq_true rfl) ⟨Nat.le_of_ble_eq_true rfl, Nat.le_of_ble_eq_true rfl⟩ ⟨Nat.le_of_ble_eq_true rfl, Nat.le_of_ble_eq_true rfl⟩ dX11_would_52 ?_
  rintro _ M1 H locs ⟨rfl, am1, hV, ha, hq⟩ Y
  try dsimp only [Option.toList, List.nil_append]
  have hs0 := hs0.tr (hq.mono (hS1_scr (by omega)))
  have hQv := hQv.sim (hq.mono (hS1_scr (by omega)))
  obtain ⟨hS, -, hHo, hCe, hTr, -, -⟩ := id hQv
  obtain ⟨hl13, he14, hl15, he16, hLa, hCl⟩ := id hS
  obtain ⟨mc13, hlo13⟩ := id hl13
  obtain ⟨mc15, hlo15⟩ := id hl15
  obtain ⟨ho0, ho1, ho17, ho18, ft19, hft19, ho19⟩ := id hHo
  obtain ⟨ho, ham, ⟨fb, hfb, hbo⟩, hbr, ⟨fy, hfy, hyo⟩, hyr, hlo⟩ := id hV
  refine lv_aload_n hx hb dX11_would_55 rfl (lv_at hl 0 rfl) ?_
  refine h_get X Y (k := 8) (v := .ref (sA S (100 * (2 + 1)))) ho0 rfl hin_X11 (by decide) kfl_X11_61 rfl dX11_would_56 ?_
  refine h_get X Y (k := 0) (v := .ref (sA S (100 * (2 + 1) + 1))) ho rfl hin_X1 (by decide) kfl_X11_295 rfl dX11_would_59 ?_
  refine lv_iload_n hx hb dX11_would_62 rfl (lv_at hl 1 rfl) ?_
  refine lv_aload_n hx hb dX11_would_63 rfl (lv_at hl 0 rfl) ?_
  refine h_get X Y (k := 5) (v := .ref (sA S 15)) ho0 rfl hin_X11 (by decide) kfl_X11_46 rfl dX11_would_64 ?_
  refine lv_iload_n hx hb dX11_would_67 rfl (lv_at hl 1 rfl) ?_
  refine h_callVr (rest := [.int (nI i), .ref (sA S (100 * (2 + 1) + 1))]) X Y (c_get l G M1 (sA S 15) 15 (sA S 16) 16 (sM S) i (fun i => sA S (1000 + 10 * i)) hl15 (he16 (by omega)) (by omega)) rfl rfl gw_X11_150 dsc_Jx4a65c_get_915e3 hlo15 rfl rfl rfl rfl hl.1 (Nat.le_of_ble_eq_true rfl) ⟨Nat.le_of_ble_eq_true rfl, Nat.le_of_ble_eq_true rfl⟩ ⟨Nat.le_of_ble_eq_true rfl, Nat.le_of_ble_eq_true rfl⟩ dX11_would_68 (fun H locs Y => ?_)
  refine h_cast X Y (hCl i (by omega)).1 rfl rfl kcl_X11_181 dX11_would_71 ?_
  refine h_get X Y (k := 2) (v := .int (clI (sC S i) 1)) (hCl i (by omega)).1 rfl hin_X3 (by decide) kfl_X11_202 rfl dX11_would_74 ?_
  refine lv_iload_n hx hb dX11_would_77 rfl (lv_at hl 2 rfl) ?_
  refine lv_iadd hx hb dX11_would_78 ?_
  refine h_iast X Y (i := i) ham (by omega) (by decide) dX11_would_79 (fun H locs Y => ?_)
  obtain ⟨hV, -, hq⟩ := CesV.putAm (by omega) (upd am1 i ((clI (sC S i) 1) + r)) hV hS
  have hs0 := hs0.tr (hq.mono (hS1_scr (by omega)))
  generalize hup M1 _ _ = M2 at Y hV hq hs0
  have hQv := hQv.sim (hq.mono (hS1_scr (by omega)))
  obtain ⟨hS, -, hHo, hCe, hTr, -, -⟩ := id hQv
  obtain ⟨hl13, he14, hl15, he16, hLa, hCl⟩ := id hS
  obtain ⟨mc13, hlo13⟩ := id hl13
  obtain ⟨mc15, hlo15⟩ := id hl15
  obtain ⟨ho0, ho1, ho17, ho18, ft19, hft19, ho19⟩ := id hHo
  obtain ⟨ho, ham, ⟨fb, hfb, hbo⟩, hbr, ⟨fy, hfy, hyo⟩, hyr, hlo⟩ := id hV
  have ha : ∀ j, j < sM S → (upd am1 i ((clI (sC S i) 1) + r)) j = qAm S false j := by
    intro j hj
    by_cases e : j = i
    · subst e; rw [hr]; exact pk_us
    · rw [pk_un e]; exact ha j hj
  refine lv_aload_n hx hb dX11_would_80 rfl (lv_at hl 0 rfl) ?_
  refine h_get X Y (k := 8) (v := .ref (sA S (100 * (2 + 1)))) ho0 rfl hin_X11 (by decide) kfl_X11_61 rfl dX11_would_81 ?_
  refine lv_aload_n hx hb dX11_would_84 rfl (lv_at hl 0 rfl) ?_
  refine h_get X Y (k := 5) (v := .ref (sA S 15)) ho0 rfl hin_X11 (by decide) kfl_X11_46 rfl dX11_would_85 ?_
  refine h_callVr (rest := [.ref (sA S (100 * (2 + 1)))]) X Y (c_size l G M2 (sA S 15) 15 (sA S 16) (sM S) hl15) rfl rfl gw_X11_176 dsc_Jx4a65c_size_8abf5 hlo15 rfl rfl rfl rfl hl.1 (Nat.le_of_ble_eq_true rfl) ⟨Nat.le_of_ble_eq_true rfl, Nat.le_of_ble_eq_true rfl⟩ ⟨Nat.le_of_ble_eq_true rfl, Nat.le_of_ble_eq_true rfl⟩ dX11_would_88 (fun H locs Y => ?_)
  refine lv_iconst (v := (-1)) hx hb dX11_would_91 (by decide) ?_
  refine h_callV (rest := []) X Y (c_cedeAhead l G M2 S hS hG1 2 _ be0 yl0 lo0 hV (by omega) (sM S) (-1) (Nat.le_refl _)) gw_X11_298 dsc_X1_cedeAhead ho rfl rfl rfl hl.1 rfl (Nat.le_of_ble_eq_true rfl) ⟨Nat.le_of_ble_eq_true rfl, Nat.le_of_ble_eq_true rfl⟩ ⟨Nat.le_of_ble_eq_true rfl, Nat.le_of_ble_eq_true rfl⟩ dX11_would_92 ?_
  rintro _ M3 H locs ⟨rfl, be2, yl2, lo2, hV, hbq, hyq, hq⟩ Y
  try dsimp only [Option.toList, List.nil_append]
  have hs0 := hs0.tr (hq.mono (hS1_scr (by omega)))
  have hQv := hQv.sim (hq.mono (hS1_scr (by omega)))
  obtain ⟨hS, -, hHo, hCe, hTr, -, -⟩ := id hQv
  obtain ⟨hl13, he14, hl15, he16, hLa, hCl⟩ := id hS
  obtain ⟨mc13, hlo13⟩ := id hl13
  obtain ⟨mc15, hlo15⟩ := id hl15
  obtain ⟨ho0, ho1, ho17, ho18, ft19, hft19, ho19⟩ := id hHo
  obtain ⟨ho, ham, ⟨fb, hfb, hbo⟩, hbr, ⟨fy, hfy, hyo⟩, hyr, hlo⟩ := id hV
  refine lv_iload_n hx hb dX11_would_95 rfl (lv_at hl 3 rfl) ?_
  refine lv_if_ne (tgt := 107) hx hb dX11_would_96 (by decide) (fun c96 => absurd (by decide) c96) (fun c96 => ?_)
  refine lv_aload_n hx hb dX11_would_99 rfl (lv_at hl 0 rfl) ?_
  refine h_get X Y (k := 8) (v := .ref (sA S (100 * (2 + 1)))) ho0 rfl hin_X11 (by decide) kfl_X11_61 rfl dX11_would_100 ?_
  refine h_callVr (rest := []) X Y (c_allLeft l G M3 S hS hG1 2 _ be2 yl2 lo2 hV) rfl rfl gw_X11_302 dsc_X1_allLeft ho rfl rfl rfl rfl hl.1 (Nat.le_of_ble_eq_true rfl) ⟨Nat.le_of_ble_eq_true rfl, Nat.le_of_ble_eq_true rfl⟩ ⟨Nat.le_of_ble_eq_true rfl, Nat.le_of_ble_eq_true rfl⟩ dX11_would_103 (fun H locs Y => ?_)
  refine h_ev (y := qLefts S false (-1)) (rLefts_congr S ha (fun j hj k hk => (hbq j hj k hk).trans (congrFun (pBe_congr S (-1) j (fun z hz => ha z (by omega))) k))) ?_
  exact h_iret X Y ⟨rfl, hs0⟩ (Nat.le_refl _) (Nat.le_refl _) dX11_would_106
theorem reach_ok {n : Nat} (h : n < 2147483648) : ¬ nI n < (-1 : Int32) := fun q => absurd (Int32.lt_iff_toInt_lt.mp q) (by rw [nI_toInt h, show (-1 : Int32).toInt = -1 from by decide]; omega)
theorem gw_X11_315 : GoodIn hGW (wsV RX11 315 RX1 yX1_cede (Cond.code yX1_cede cX1_cede 8 (Option.none) :: hGW)) := hgi4 kml_X11_315 kin_X1_cede kse_X1_X1_cede_X1_cede kini_X1 kco_X1_cede
theorem dX11_reaches_0 : decode cX11_reaches 0 = .ok (.aload_n 0, 1) := by decide +kernel
theorem dX11_reaches_1 : decode cX11_reaches 1 = .ok (.iload_n 1, 1) := by decide +kernel
theorem dX11_reaches_2 : decode cX11_reaches 2 = .ok (.invokevirtual 190, 3) := by decide +kernel
theorem dX11_reaches_5 : decode cX11_reaches 5 = .ok (.ifCond .eq 11, 3) := by decide +kernel
theorem dX11_reaches_8 : decode cX11_reaches 8 = .ok (.aload_n 0, 1) := by decide +kernel
theorem dX11_reaches_9 : decode cX11_reaches 9 = .ok (.iload_n 2, 1) := by decide +kernel
theorem dX11_reaches_10 : decode cX11_reaches 10 = .ok (.invokevirtual 144, 3) := by decide +kernel
theorem dX11_reaches_13 : decode cX11_reaches 13 = .ok (.ifCond .ne 14, 3) := by decide +kernel
theorem dX11_reaches_27 : decode cX11_reaches 27 = .ok (.aload_n 0, 1) := by decide +kernel
theorem dX11_reaches_28 : decode cX11_reaches 28 = .ok (.aload_n 0, 1) := by decide +kernel
theorem dX11_reaches_29 : decode cX11_reaches 29 = .ok (.getfield 61, 3) := by decide +kernel
theorem dX11_reaches_32 : decode cX11_reaches 32 = .ok (.iconst 0, 1) := by decide +kernel
theorem dX11_reaches_33 : decode cX11_reaches 33 = .ok (.invokevirtual 291, 3) := by decide +kernel
theorem dX11_reaches_36 : decode cX11_reaches 36 = .ok (.aload_n 0, 1) := by decide +kernel
theorem dX11_reaches_37 : decode cX11_reaches 37 = .ok (.getfield 61, 3) := by decide +kernel
theorem dX11_reaches_40 : decode cX11_reaches 40 = .ok (.iload_n 1, 1) := by decide +kernel
theorem dX11_reaches_41 : decode cX11_reaches 41 = .ok (.iconst (-1), 1) := by decide +kernel
theorem dX11_reaches_42 : decode cX11_reaches 42 = .ok (.invokevirtual 298, 3) := by decide +kernel
theorem dX11_reaches_45 : decode cX11_reaches 45 = .ok (.aload_n 0, 1) := by decide +kernel
theorem dX11_reaches_46 : decode cX11_reaches 46 = .ok (.getfield 46, 3) := by decide +kernel
theorem dX11_reaches_49 : decode cX11_reaches 49 = .ok (.iload_n 1, 1) := by decide +kernel
theorem dX11_reaches_50 : decode cX11_reaches 50 = .ok (.invokevirtual 150, 3) := by decide +kernel
theorem dX11_reaches_53 : decode cX11_reaches 53 = .ok (.checkcast 181, 3) := by decide +kernel
theorem dX11_reaches_56 : decode cX11_reaches 56 = .ok (.getfield 202, 3) := by decide +kernel
theorem dX11_reaches_59 : decode cX11_reaches 59 = .ok (.istore_n 3, 1) := by decide +kernel
theorem dX11_reaches_60 : decode cX11_reaches 60 = .ok (.iconst 0, 1) := by decide +kernel
theorem dX11_reaches_61 : decode cX11_reaches 61 = .ok (.istore 4, 2) := by decide +kernel
theorem dX11_reaches_63 : decode cX11_reaches 63 = .ok (.iload 4, 2) := by decide +kernel
theorem dX11_reaches_65 : decode cX11_reaches 65 = .ok (.ldc 195, 2) := by decide +kernel
theorem dX11_reaches_67 : decode cX11_reaches 67 = .ok (.if_icmp .gt 51, 3) := by decide +kernel
theorem dX11_reaches_70 : decode cX11_reaches 70 = .ok (.aload_n 0, 1) := by decide +kernel
theorem dX11_reaches_71 : decode cX11_reaches 71 = .ok (.getfield 61, 3) := by decide +kernel
theorem dX11_reaches_74 : decode cX11_reaches 74 = .ok (.getfield 295, 3) := by decide +kernel
theorem dX11_reaches_77 : decode cX11_reaches 77 = .ok (.iload_n 1, 1) := by decide +kernel
theorem dX11_reaches_78 : decode cX11_reaches 78 = .ok (.iload_n 3, 1) := by decide +kernel
theorem dX11_reaches_79 : decode cX11_reaches 79 = .ok (.iload 4, 2) := by decide +kernel
theorem dX11_reaches_81 : decode cX11_reaches 81 = .ok (.iadd, 1) := by decide +kernel
theorem dX11_reaches_82 : decode cX11_reaches 82 = .ok (.iastore, 1) := by decide +kernel
theorem dX11_reaches_83 : decode cX11_reaches 83 = .ok (.aload_n 0, 1) := by decide +kernel
theorem dX11_reaches_84 : decode cX11_reaches 84 = .ok (.getfield 61, 3) := by decide +kernel
theorem dX11_reaches_87 : decode cX11_reaches 87 = .ok (.iload_n 1, 1) := by decide +kernel
theorem dX11_reaches_88 : decode cX11_reaches 88 = .ok (.iconst (-1), 1) := by decide +kernel
theorem dX11_reaches_89 : decode cX11_reaches 89 = .ok (.invokevirtual 315, 3) := by decide +kernel
theorem dX11_reaches_92 : decode cX11_reaches 92 = .ok (.aload_n 0, 1) := by decide +kernel
theorem dX11_reaches_93 : decode cX11_reaches 93 = .ok (.getfield 61, 3) := by decide +kernel
theorem dX11_reaches_96 : decode cX11_reaches 96 = .ok (.getfield 318, 3) := by decide +kernel
theorem dX11_reaches_99 : decode cX11_reaches 99 = .ok (.iload_n 1, 1) := by decide +kernel
theorem dX11_reaches_100 : decode cX11_reaches 100 = .ok (.aaload, 1) := by decide +kernel
theorem dX11_reaches_101 : decode cX11_reaches 101 = .ok (.iload_n 2, 1) := by decide +kernel
theorem dX11_reaches_102 : decode cX11_reaches 102 = .ok (.iaload, 1) := by decide +kernel
theorem dX11_reaches_103 : decode cX11_reaches 103 = .ok (.ifCond .le 6, 3) := by decide +kernel
theorem dX11_reaches_106 : decode cX11_reaches 106 = .ok (.iload 4, 2) := by decide +kernel
theorem dX11_reaches_108 : decode cX11_reaches 108 = .ok (.ireturn, 1) := by decide +kernel
theorem dX11_reaches_109 : decode cX11_reaches 109 = .ok (.iinc 4 5000, 6) := by decide +kernel
theorem dX11_reaches_115 : decode cX11_reaches 115 = .ok (.goto (-52), 3) := by decide +kernel
theorem dX11_reaches_118 : decode cX11_reaches 118 = .ok (.iconst (-1), 1) := by decide +kernel
theorem dX11_reaches_119 : decode cX11_reaches 119 = .ok (.ireturn, 1) := by decide +kernel
set_option maxHeartbeats 400000 in
set_option maxRecDepth 100000 in
theorem c_reaches (l : Launch) (G : hG) (M : hM) (S : hSy) (h : hHo) (hQv : QV G M S h) (i k : Nat) (hi : i < sM S) (hk : k < sN S) : hCT l G yX11_reaches cX11_reaches 5 (Option.some FieldType.int) (hRm 9 0 0) M [.ref (sA S 0), .int (nI i), .int (nI k)] (fun v M' => (∃ r : Int32, v = some (.int r) ∧ ¬ r < -1) ∧ hSim G hScr M M') := by
  refine hCT.of (own := RX11) (nm := "reaches") (by decide) rfl rfl (Nat.le_of_ble_eq_true rfl) ?_
  intro p e s m args below meth c ls X Y hl
  have hx := X.1
  have hb := X.2.1
  have hl : lv_has ls 5 [(0, .ref (sA S 0)), (1, .int (nI i)), (2, .int (nI k))] := hl
  obtain ⟨hS, hG1, hHo, hCe, hTr, hnow, hyn⟩ := id hQv
  obtain ⟨hN8, hM40, hLG, hCY⟩ := id hG1
  obtain ⟨hl13, he14, hl15, he16, hLa, hCl⟩ := id hS
  obtain ⟨mc13, hlo13⟩ := id hl13
  obtain ⟨mc15, hlo15⟩ := id hl15
  obtain ⟨ho0, ho1, ho17, ho18, ft19, hft19, ho19⟩ := id hHo
  have hs0 : hSim G hScr M M := hSim.rf
  obtain ⟨am0, be0, yl0, lo0, hV⟩ := hCe 2 (by omega)
  obtain ⟨ho, ham, ⟨fb, hfb, hbo⟩, hbr, ⟨fy, hfy, hyo⟩, hyr, hlo⟩ := id hV
  refine lv_aload_n hx hb dX11_reaches_0 rfl (lv_at hl 0 rfl) ?_
  refine lv_iload_n hx hb dX11_reaches_1 rfl (lv_at hl 1 rfl) ?_
  refine h_callVr (rest := []) X Y (c_hasClaim l G M S h hQv i (by omega)) rfl rfl gw_X11_190 dsc_X11_hasClaim ho0 rfl rfl rfl rfl hl.1 (Nat.le_of_ble_eq_true rfl) ⟨Nat.le_of_ble_eq_true rfl, Nat.le_of_ble_eq_true rfl⟩ ⟨Nat.le_of_ble_eq_true rfl, Nat.le_of_ble_eq_true rfl⟩ dX11_reaches_2 (fun H locs Y => ?_)
  refine lv_if_eq (tgt := 16) hx hb dX11_reaches_5 (by decide) (fun c5 => absurd c5 (by decide)) (fun c5 => ?_)
  refine lv_aload_n hx hb dX11_reaches_8 rfl (lv_at hl 0 rfl) ?_
  refine lv_iload_n hx hb dX11_reaches_9 rfl (lv_at hl 2 rfl) ?_
  refine h_callVr (rest := []) X Y (c_hasLayer l G M S h hQv k (by omega)) rfl rfl gw_X11_144 dsc_X11_hasLayer ho0 rfl rfl rfl rfl hl.1 (Nat.le_of_ble_eq_true rfl) ⟨Nat.le_of_ble_eq_true rfl, Nat.le_of_ble_eq_true rfl⟩ ⟨Nat.le_of_ble_eq_true rfl, Nat.le_of_ble_eq_true rfl⟩ dX11_reaches_10 (fun H locs Y => ?_)
  refine lv_if_ne (tgt := 27) hx hb dX11_reaches_13 (by decide) (fun c13 => ?_) (fun c13 => absurd c13 (by decide))
  refine lv_aload_n hx hb dX11_reaches_27 rfl (lv_at hl 0 rfl) ?_
  refine lv_aload_n hx hb dX11_reaches_28 rfl (lv_at hl 0 rfl) ?_
  refine h_get X Y (k := 8) (v := .ref (sA S (100 * (2 + 1)))) ho0 rfl hin_X11 (by decide) kfl_X11_61 rfl dX11_reaches_29 ?_
  refine lv_iconst (v := 0) hx hb dX11_reaches_32 (by decide) ?_
  refine h_callV (rest := []) X Y (c_tellAmounts l G M S h hQv 2 (by omega) am0 be0 yl0 lo0 hV false) gw_X11_291 dsc_X11_tellAmounts ho0 rfl rfl rfl hl.1 rfl (Nat.le_of_ble_eq_true rfl) ⟨Nat.le_of_ble_eq_true rfl, Nat.le_of_ble_eq_true rfl⟩ ⟨Nat.le_of_ble_eq_true rfl, Nat.le_of_ble_eq_true rfl⟩ dX11_reaches_33 ?_
  rintro _ M1 H locs ⟨rfl, am1, hV, ha, hq⟩ Y
  try dsimp only [Option.toList, List.nil_append]
  have hs0 := hs0.tr (hq.mono (hS1_scr (by omega)))
  have hQv := hQv.sim (hq.mono (hS1_scr (by omega)))
  obtain ⟨hS, -, hHo, hCe, hTr, -, -⟩ := id hQv
  obtain ⟨hl13, he14, hl15, he16, hLa, hCl⟩ := id hS
  obtain ⟨mc13, hlo13⟩ := id hl13
  obtain ⟨mc15, hlo15⟩ := id hl15
  obtain ⟨ho0, ho1, ho17, ho18, ft19, hft19, ho19⟩ := id hHo
  obtain ⟨ho, ham, ⟨fb, hfb, hbo⟩, hbr, ⟨fy, hfy, hyo⟩, hyr, hlo⟩ := id hV
  refine lv_aload_n hx hb dX11_reaches_36 rfl (lv_at hl 0 rfl) ?_
  refine h_get X Y (k := 8) (v := .ref (sA S (100 * (2 + 1)))) ho0 rfl hin_X11 (by decide) kfl_X11_61 rfl dX11_reaches_37 ?_
  refine lv_iload_n hx hb dX11_reaches_40 rfl (lv_at hl 1 rfl) ?_
  refine lv_iconst (v := (-1)) hx hb dX11_reaches_41 (by decide) ?_
  refine h_callV (rest := []) X Y (c_cedeAhead l G M1 S hS hG1 2 am1 be0 yl0 lo0 hV (by omega) i (-1) (by omega)) gw_X11_298 dsc_X1_cedeAhead ho rfl rfl rfl hl.1 rfl (Nat.le_of_ble_eq_true rfl) ⟨Nat.le_of_ble_eq_true rfl, Nat.le_of_ble_eq_true rfl⟩ ⟨Nat.le_of_ble_eq_true rfl, Nat.le_of_ble_eq_true rfl⟩ dX11_reaches_42 ?_
  rintro _ M2 H locs ⟨rfl, be2, yl2, lo2, hV, -, -, hq⟩ Y
  try dsimp only [Option.toList, List.nil_append]
  have hs0 := hs0.tr (hq.mono (hS1_scr (by omega)))
  have hQv := hQv.sim (hq.mono (hS1_scr (by omega)))
  obtain ⟨hS, -, hHo, hCe, hTr, -, -⟩ := id hQv
  obtain ⟨hl13, he14, hl15, he16, hLa, hCl⟩ := id hS
  obtain ⟨mc13, hlo13⟩ := id hl13
  obtain ⟨mc15, hlo15⟩ := id hl15
  obtain ⟨ho0, ho1, ho17, ho18, ft19, hft19, ho19⟩ := id hHo
  obtain ⟨ho, ham, ⟨fb, hfb, hbo⟩, hbr, ⟨fy, hfy, hyo⟩, hyr, hlo⟩ := id hV
  refine lv_aload_n hx hb dX11_reaches_45 rfl (lv_at hl 0 rfl) ?_
  refine h_get X Y (k := 5) (v := .ref (sA S 15)) ho0 rfl hin_X11 (by decide) kfl_X11_46 rfl dX11_reaches_46 ?_
  refine lv_iload_n hx hb dX11_reaches_49 rfl (lv_at hl 1 rfl) ?_
  refine h_callVr (rest := []) X Y (c_get l G M2 (sA S 15) 15 (sA S 16) 16 (sM S) i (fun i => sA S (1000 + 10 * i)) hl15 (he16 (by omega)) (by omega)) rfl rfl gw_X11_150 dsc_Jx4a65c_get_915e3 hlo15 rfl rfl rfl rfl hl.1 (Nat.le_of_ble_eq_true rfl) ⟨Nat.le_of_ble_eq_true rfl, Nat.le_of_ble_eq_true rfl⟩ ⟨Nat.le_of_ble_eq_true rfl, Nat.le_of_ble_eq_true rfl⟩ dX11_reaches_50 (fun H locs Y => ?_)
  refine h_cast X Y (hCl i (by omega)).1 rfl rfl kcl_X11_181 dX11_reaches_53 ?_
  refine h_get X Y (k := 2) (v := .int (clI (sC S i) 1)) (hCl i (by omega)).1 rfl hin_X3 (by decide) kfl_X11_202 rfl dX11_reaches_56 ?_
  refine lv_istore_n (lv' := [(3, .int (clI (sC S i) 1)), (0, .ref (sA S 0)), (1, .int (nI i)), (2, .int (nI k))]) hx hb dX11_reaches_59 rfl hl (by decide) rfl (fun ls hl => ?_)
  refine lv_iconst (v := 0) hx hb dX11_reaches_60 (by decide) ?_
  refine lv_istore (lv' := [(4, .int 0), (3, .int (clI (sC S i) 1)), (0, .ref (sA S 0)), (1, .int (nI i)), (2, .int (nI k))]) hx hb dX11_reaches_61 hl (by decide) rfl (fun ls hl => ?_)
  have hl : lv_has ls 5 [(4, .int (nI (5000 * 0))), (3, .int (clI (sC S i) 1)), (0, .ref (sA S 0)), (1, .int (nI i)), (2, .int (nI k))] := hl
  have loop : ∀ (d j : Nat), j + d = 202 → j ≤ 201 → ∀ (M3 : hM) (am3 lo3 : Nat → Int32) (be3 yl3 : Nat → Nat → Int32), QV G M3 S h → CesV G M3 S 2 am3 be3 yl3 lo3 → hSim G hScr M M3 → ∀ (H : Heap) (locs : List Loc) (ls : Array Slot), hHS G M3 s H locs → lv_has ls 5 [(0, .ref (sA S 0)), (1, .int (nI i)), (2, .int (nI k)), (3, .int (clI (sC S i) 1)), (4, .int (nI (5000 * j)))] → W p l e (hRm 9 0 0) s m args below meth c H locs 0 0 (MQ below (hQ G (fun v M' => (∃ r : Int32, v = some (.int r) ∧ ¬ r < -1) ∧ hSim G hScr M M')) args s 0 0 (hA G)) (F0 m 63 ls []) := by
    intro d
    induction d with
    | zero => intro j h1; intros; exact absurd h1 (by omega)
    | succ d ih =>
      intro j h1 h2 M3 am3 lo3 be3 yl3 hQv hV hs0 H locs ls Y hl
      obtain ⟨hS, -, hHo, hCe, hTr, -, -⟩ := id hQv
      obtain ⟨hl13, he14, hl15, he16, hLa, hCl⟩ := id hS
      obtain ⟨mc13, hlo13⟩ := id hl13
      obtain ⟨mc15, hlo15⟩ := id hl15
      obtain ⟨ho0, ho1, ho17, ho18, ft19, hft19, ho19⟩ := id hHo
      obtain ⟨ho, ham, ⟨fb, hfb, hbo⟩, hbr, ⟨fy, hfy, hyo⟩, hyr, hlo⟩ := id hV
      refine lv_iload hx hb dX11_reaches_63 (lv_at hl 4 rfl) ?_
      refine lv_ldc hx hb X.2.2.2.2.1 (X.2.2.2.2.2.1 _ kcI_X11_195) dX11_reaches_65 ?_
      refine lv_icmp_gt (tgt := 118) hx hb dX11_reaches_67 (by decide) (fun c67 => ?_) (fun c67 => ?_)
      · have c67 : 1000000 < (5000 * j) := (nI_ltI (a := 1000000) (b := (5000 * j)) (by omega) (by omega)).mp c67
        refine lv_iconst (v := (-1)) hx hb dX11_reaches_118 (by decide) ?_
        exact h_iret X Y ⟨⟨(-1), rfl, by decide⟩, hs0⟩ (Nat.le_refl _) (Nat.le_refl _) dX11_reaches_119
      · have c67 : ¬ 1000000 < (5000 * j) := fun z9 => c67 ((nI_ltI (a := 1000000) (b := (5000 * j)) (by omega) (by omega)).mpr z9)
        refine lv_aload_n hx hb dX11_reaches_70 rfl (lv_at hl 0 rfl) ?_
        refine h_get X Y (k := 8) (v := .ref (sA S (100 * (2 + 1)))) ho0 rfl hin_X11 (by decide) kfl_X11_61 rfl dX11_reaches_71 ?_
        refine h_get X Y (k := 0) (v := .ref (sA S (100 * (2 + 1) + 1))) ho rfl hin_X1 (by decide) kfl_X11_295 rfl dX11_reaches_74 ?_
        refine lv_iload_n hx hb dX11_reaches_77 rfl (lv_at hl 1 rfl) ?_
        refine lv_iload_n hx hb dX11_reaches_78 rfl (lv_at hl 3 rfl) ?_
        refine lv_iload hx hb dX11_reaches_79 (lv_at hl 4 rfl) ?_
        refine lv_iadd hx hb dX11_reaches_81 ?_
        refine h_iast X Y (i := i) ham (by omega) (by decide) dX11_reaches_82 (fun H locs Y => ?_)
        obtain ⟨hV, -, hq⟩ := CesV.putAm (by omega) (upd am3 i ((clI (sC S i) 1) + (nI (5000 * j)))) hV hS
        have hs0 := hs0.tr (hq.mono (hS1_scr (by omega)))
        generalize hup M3 _ _ = M3 at Y hV hq hs0
        have hQv := hQv.sim (hq.mono (hS1_scr (by omega)))
        obtain ⟨hS, -, hHo, hCe, hTr, -, -⟩ := id hQv
        obtain ⟨hl13, he14, hl15, he16, hLa, hCl⟩ := id hS
        obtain ⟨mc13, hlo13⟩ := id hl13
        obtain ⟨mc15, hlo15⟩ := id hl15
        obtain ⟨ho0, ho1, ho17, ho18, ft19, hft19, ho19⟩ := id hHo
        obtain ⟨ho, ham, ⟨fb, hfb, hbo⟩, hbr, ⟨fy, hfy, hyo⟩, hyr, hlo⟩ := id hV
        refine lv_aload_n hx hb dX11_reaches_83 rfl (lv_at hl 0 rfl) ?_
        refine h_get X Y (k := 8) (v := .ref (sA S (100 * (2 + 1)))) ho0 rfl hin_X11 (by decide) kfl_X11_61 rfl dX11_reaches_84 ?_
        refine lv_iload_n hx hb dX11_reaches_87 rfl (lv_at hl 1 rfl) ?_
        refine lv_iconst (v := (-1)) hx hb dX11_reaches_88 (by decide) ?_
        refine h_callV (rest := []) X Y (c_cede l G M3 S hS hG1 2 _ be3 yl3 lo3 hV (by omega) i (-1) hi) gw_X11_315 dsc_X1_cede ho rfl rfl rfl hl.1 rfl (Nat.le_of_ble_eq_true rfl) ⟨Nat.le_of_ble_eq_true rfl, Nat.le_of_ble_eq_true rfl⟩ ⟨Nat.le_of_ble_eq_true rfl, Nat.le_of_ble_eq_true rfl⟩ dX11_reaches_89 ?_
        rintro _ M4 H locs ⟨rfl, be4, lo4, hV, -, -, -, hq⟩ Y
        try dsimp only [Option.toList, List.nil_append]
        have hs0 := hs0.tr (hq.mono (hS1_scr (by omega)))
        have hQv := hQv.sim (hq.mono (hS1_scr (by omega)))
        obtain ⟨hS, -, hHo, hCe, hTr, -, -⟩ := id hQv
        obtain ⟨hl13, he14, hl15, he16, hLa, hCl⟩ := id hS
        obtain ⟨mc13, hlo13⟩ := id hl13
        obtain ⟨mc15, hlo15⟩ := id hl15
        obtain ⟨ho0, ho1, ho17, ho18, ft19, hft19, ho19⟩ := id hHo
        obtain ⟨ho, ham, ⟨fb, hfb, hbo⟩, hbr, ⟨fy, hfy, hyo⟩, hyr, hlo⟩ := id hV
        refine lv_aload_n hx hb dX11_reaches_92 rfl (lv_at hl 0 rfl) ?_
        refine h_get X Y (k := 8) (v := .ref (sA S (100 * (2 + 1)))) ho0 rfl hin_X11 (by decide) kfl_X11_61 rfl dX11_reaches_93 ?_
        refine h_get X Y (k := 1) (v := .ref (sA S (100 * (2 + 1) + 2))) ho rfl hin_X1 (by decide) kfl_X11_318 rfl dX11_reaches_96 ?_
        refine lv_iload_n hx hb dX11_reaches_99 rfl (lv_at hl 1 rfl) ?_
        refine h_aaldI X Y (i := i) hbo (by omega) (by decide) dX11_reaches_100 ?_
        refine h_rf (hfb i (by omega)) ?_
        refine lv_iload_n hx hb dX11_reaches_101 rfl (lv_at hl 2 rfl) ?_
        refine h_iald X Y (i := k) (hbr i (by omega)) (by omega) (by decide) dX11_reaches_102 ?_
        refine lv_if_le (tgt := 109) hx hb dX11_reaches_103 (by decide) (fun c103 => ?_) (fun c103 => ?_)
        · refine lv_iincW (v := nI (5000 * (j + 1))) (lv' := [(4, .int (nI (5000 * (j + 1)))), (0, .ref (sA S 0)), (1, .int (nI i)), (2, .int (nI k)), (3, .int (clI (sC S i) 1))]) hx hb dX11_reaches_109 hl (k := 4) rfl (by rw [show Int32.ofInt 5000 = nI 5000 from by decide +kernel, nI_add]; rfl) (by decide) rfl (fun ls hl => ?_)
          refine lv_goto (tgt := 63) hx hb dX11_reaches_115 (by decide) ?_
          exact ih (j + 1) (by omega) (by omega) M4 _ _ _ _ hQv hV hs0 _ _ _ Y (lv_sub hl [1, 2, 3, 4, 0] rfl)
        · refine lv_iload hx hb dX11_reaches_106 (lv_at hl 4 rfl) ?_
          exact h_iret X Y ⟨⟨nI (5000 * j), rfl, reach_ok (by omega)⟩, hs0⟩ (Nat.le_refl _) (Nat.le_refl _) dX11_reaches_108
  exact loop 202 0 (by omega) (by omega) _ _ _ _ _ hQv hV hs0 _ _ _ Y (lv_sub hl [2, 3, 4, 1, 0] rfl)
