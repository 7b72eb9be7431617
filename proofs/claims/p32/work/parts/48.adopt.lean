-- THE LAYERS ARE TAKEN OVER
def FoGs (L : hLy) (F : Nat → hFo) : Prop := FoG (F 0) ∧ FoG (F 1) ∧ (∀ q, lyR L 0 = some q → FoG (F 2)) ∧ (∀ q, lyR L 1 = some q → FoG (F 3)) ∧ (∀ q, lyR L 2 = some q → FoG (F 4))
/-- a settled layer -/
def LySt (G : hG) (M : hM) (a t : Nat) (L : hLy) (F : Nat → hFo) : Prop := ∃ N1 B1, LaP G M a t (lyZ L N1 B1) F ∧ N1 0 = lyN L 0 ∧ (∀ y, y < 10 → N1 1 y = vY (F 0) ∧ N1 2 y = vY (F 1) ∧ N1 3 y = vAft L F ∧ B1 y = vBnd L F (vY (F 0)))
theorem LySt.fr {G : hG} {Z : Nat → Prop} {M M' : hM} {a t : Nat} {L : hLy} {F : Nat → hFo} (h : hFr Z M M') (hz : ∀ j, j < 100 → ¬ Z (t + j)) (hL : LySt G M a t L F) : LySt G M' a t L F := by
  obtain ⟨N1, B1, h1, h2⟩ := hL
  exact ⟨N1, B1, h1.fr h hz, h2⟩
theorem LySt.obj {G : hG} {M : hM} {a t : Nat} {L : hLy} {F : Nat → hFo} (hL : LySt G M a t L F) : ∃ fs, M a = some (t, .inr (7, fs)) := by
  obtain ⟨N1, B1, h1, -⟩ := hL
  exact ⟨_, h1.1.1⟩
theorem gw_X11_340 : GoodIn hGW (wsV RX11 340 RJx4a65c yJx4a65c_clear_da8c8 (Cond.code yJx4a65c_clear_da8c8 cJx4a65c_clear_da8c8 4 (Option.none) :: hGW)) := hgi4 kml_X11_340 kin_Jx4a65c_clear_da8c8 kse_Jx4a65c_Jx4a65c_clear_da8c8_Jx4a65c_clear_da8c8 kini_Jx4a65c kco_Jx4a65c_clear_da8c8
theorem dsc_Jx4a65c_clear_da8c8 : yJx4a65c_clear_da8c8.cls = RJx4a65c ∧ yJx4a65c_clear_da8c8.cls ≠ "java/lang/invoke/MethodHandle" ∧ yJx4a65c_clear_da8c8.cls ≠ "java/lang/invoke/VarHandle" ∧ (parseMethodDescriptor yJx4a65c_clear_da8c8.desc).map (fun d => d.parameters.length) = some 0 := ⟨rfl, by decide +kernel, by decide +kernel, by decide +kernel⟩
theorem gw_X11_343 : GoodIn hGW (va_wsF RX11 343 RJx4a65c ⟨"java/util/List", "size", "()I"⟩ yJx4a65c_size_8abf5 (Cond.code yJx4a65c_size_8abf5 cJx4a65c_size_8abf5 1 (Option.some FieldType.int) :: hGW)) := hgi4 kml_X11_343 kse_Jx4a65c_Zjava_util_List_size___I_Jx4a65c_size_8abf5 kin_Jx4a65c_size_8abf5 kini_Jx4a65c kco_Jx4a65c_size_8abf5
theorem gw_X11_346 : GoodIn hGW (va_wsF RX11 346 RJx4a65c ⟨"java/util/List", "get", "(I)Ljava/lang/Object;"⟩ yJx4a65c_get_915e3 (Cond.code yJx4a65c_get_915e3 cJx4a65c_get_915e3 2 (Option.some (FieldType.object "java/lang/Object")) :: hGW)) := hgi4 kml_X11_346 kse_Jx4a65c_Zjava_util_List_get__I_Ljava_lang_Object__Jx4a65c_get_915e3 kin_Jx4a65c_get_915e3 kini_Jx4a65c kco_Jx4a65c_get_915e3
theorem gw_X11_347 : GoodIn hGW (wsV RX11 347 RX5 yX5_settleYears (Cond.code yX5_settleYears cX5_settleYears 2 (Option.none) :: hGW)) := hgi4 kml_X11_347 kin_X5_settleYears kse_X5_X5_settleYears_X5_settleYears kini_X5 kco_X5_settleYears
theorem dsc_X5_settleYears : yX5_settleYears.cls = RX5 ∧ yX5_settleYears.cls ≠ "java/lang/invoke/MethodHandle" ∧ yX5_settleYears.cls ≠ "java/lang/invoke/VarHandle" ∧ (parseMethodDescriptor yX5_settleYears.desc).map (fun d => d.parameters.length) = some 0 := ⟨rfl, by decide +kernel, by decide +kernel, by decide +kernel⟩
theorem dX11_adopt_0 : decode cX11_adopt 0 = .ok (.aload_n 0, 1) := by decide +kernel
theorem dX11_adopt_1 : decode cX11_adopt 1 = .ok (.getfield 42, 3) := by decide +kernel
theorem dX11_adopt_4 : decode cX11_adopt 4 = .ok (.invokevirtual 340, 3) := by decide +kernel
theorem dX11_adopt_7 : decode cX11_adopt 7 = .ok (.iconst 0, 1) := by decide +kernel
theorem dX11_adopt_8 : decode cX11_adopt 8 = .ok (.istore_n 2, 1) := by decide +kernel
theorem dX11_adopt_9 : decode cX11_adopt 9 = .ok (.iload_n 2, 1) := by decide +kernel
theorem dX11_adopt_10 : decode cX11_adopt 10 = .ok (.aload_n 1, 1) := by decide +kernel
theorem dX11_adopt_11 : decode cX11_adopt 11 = .ok (.invokeinterface 343 1, 5) := by decide +kernel
theorem dX11_adopt_16 : decode cX11_adopt 16 = .ok (.if_icmp .ge 40, 3) := by decide +kernel
theorem dX11_adopt_19 : decode cX11_adopt 19 = .ok (.aload_n 1, 1) := by decide +kernel
theorem dX11_adopt_20 : decode cX11_adopt 20 = .ok (.iload_n 2, 1) := by decide +kernel
theorem dX11_adopt_21 : decode cX11_adopt 21 = .ok (.invokeinterface 346 2, 5) := by decide +kernel
theorem dX11_adopt_26 : decode cX11_adopt 26 = .ok (.checkcast 154, 3) := by decide +kernel
theorem dX11_adopt_29 : decode cX11_adopt 29 = .ok (.invokevirtual 347, 3) := by decide +kernel
theorem dX11_adopt_32 : decode cX11_adopt 32 = .ok (.aload_n 0, 1) := by decide +kernel
theorem dX11_adopt_33 : decode cX11_adopt 33 = .ok (.getfield 42, 3) := by decide +kernel
theorem dX11_adopt_36 : decode cX11_adopt 36 = .ok (.aload_n 1, 1) := by decide +kernel
theorem dX11_adopt_37 : decode cX11_adopt 37 = .ok (.iload_n 2, 1) := by decide +kernel
theorem dX11_adopt_38 : decode cX11_adopt 38 = .ok (.invokeinterface 346 2, 5) := by decide +kernel
theorem dX11_adopt_43 : decode cX11_adopt 43 = .ok (.checkcast 154, 3) := by decide +kernel
theorem dX11_adopt_46 : decode cX11_adopt 46 = .ok (.invokevirtual 186, 3) := by decide +kernel
theorem dX11_adopt_49 : decode cX11_adopt 49 = .ok (.pop, 1) := by decide +kernel
theorem dX11_adopt_50 : decode cX11_adopt 50 = .ok (.iinc 2 1, 3) := by decide +kernel
theorem dX11_adopt_53 : decode cX11_adopt 53 = .ok (.goto (-44), 3) := by decide +kernel
theorem dX11_adopt_56 : decode cX11_adopt 56 = .ok (.return_, 1) := by decide +kernel
set_option maxHeartbeats 1000000 in
set_option maxRecDepth 100000 in
theorem c_adopt (l : Launch) (G : hG) (M : hM) (A : Nat → Nat) (h : hHo) (ho0 : M (A 0) = some (0, .inr (12, hoO (s00 A) h))) (mc0 : Int32) (hl13 : M (A 13) = some (13, .inr (2, [.int mc0, .ref (hDE G), .int 0]))) (lst e0 qa qb qc : Nat) (La Lb Lc : hLy) (Fa Fb Fc : Nat → hFo) (hlO : LsO M lst 3013 e0 3) (hlE : LsE G M e0 3014 3 (gq qa qb qc)) (hLa : LaP G M qa 2000 La Fa) (hLb : LaP G M qb 2100 Lb Fb) (hLc : LaP G M qc 2200 Lc Fc) (hga : FoGs La Fa) (hgb : FoGs Lb Fb) (hgc : FoGs Lc Fc) : hCT l G yX11_adopt cX11_adopt 3 (Option.none) (hRm 9 3 180) M [.ref (A 0), .ref lst] (fun v M' => v = none ∧ (∃ mc q cap f, M' (A 13) = some (13, .inr (2, [.int mc, .ref q, .int (nI 3)])) ∧ M' q = some (14, .inl (hT G 6, cap, .inr (.inr (.inr (.inr f))))) ∧ 3 ≤ cap ∧ cap ≤ 1000 ∧ ∀ i, i < 3 → f i = some (gq qa qb qc i)) ∧ LySt G M' qa 2000 La Fa ∧ LySt G M' qb 2100 Lb Fb ∧ LySt G M' qc 2200 Lc Fc ∧ hFr (fun u => u = 13 ∨ u = 14 ∨ (2000 ≤ u ∧ u < 2300)) M M') := by
  refine hCT.of (own := RX11) (nm := "adopt") (by decide) rfl rfl (Nat.le_of_ble_eq_true rfl) ?_
  intro p e s m args below meth c ls X Y hl
  have hx := X.1
  have hb := X.2.1
  have hl : lv_has ls 3 [(0, .ref (A 0)), (1, .ref lst)] := hl
  have hfr : hFr (fun u => u = 13 ∨ u = 14 ∨ (2000 ≤ u ∧ u < 2300)) M M := hFr.rf
  refine lv_aload_n hx hb dX11_adopt_0 rfl (lv_at hl 0 rfl) ?_
  refine h_get X Y (k := 4) (v := .ref (A 13)) ho0 rfl hin_X11 (by decide) kfl_X11_42 rfl dX11_adopt_1 ?_
  refine h_callV (rest := []) X Y (c_clear l G M (A 13) 13 (hDE G) mc0 hl13) gw_X11_340 dsc_Jx4a65c_clear_da8c8 hl13 rfl rfl rfl hl.1 rfl (Nat.le_of_ble_eq_true rfl) ⟨Nat.le_of_ble_eq_true rfl, Nat.le_of_ble_eq_true rfl⟩ ⟨Nat.le_of_ble_eq_true rfl, Nat.le_of_ble_eq_true rfl⟩ dX11_adopt_4 ?_
  rintro _ M1 H locs ⟨rfl, hl13, hfa⟩ Y
  try dsimp only [Option.toList, List.nil_append]
  have ho0 := hfa _ _ _ ho0 (by omega)
  have hlO := hlO.fr hfa (by omega)
  have hlE := hlE.fr hfa (by omega)
  have hLa := hLa.fr hfa (fun j hj => by omega)
  have hLb := hLb.fr hfa (fun j hj => by omega)
  have hLc := hLc.fr hfa (fun j hj => by omega)
  have hfr := hFr.tr hfr (hfa.mono (fun u z => by omega))
  refine lv_iconst (v := 0) hx hb dX11_adopt_7 (by decide) ?_
  refine lv_istore_n (lv' := [(2, .int 0), (0, .ref (A 0)), (1, .ref lst)]) hx hb dX11_adopt_8 rfl hl (by decide) rfl (fun ls hl => ?_)
  refine lv_iload_n hx hb dX11_adopt_9 rfl (lv_at hl 0 rfl) ?_
  refine lv_aload_n hx hb dX11_adopt_10 rfl (lv_at hl 2 rfl) ?_
  obtain ⟨mcl, hlo⟩ := id hlO
  refine h_callFr (rest := [.int 0]) X Y (c_size l G M1 lst 3013 e0 3 hlO) rfl rfl (hFw_Jx4a65c_size_8abf5 X) gw_X11_343 dsi_Jx4a65c_size_8abf5 hlo rfl rfl rfl rfl hl.1 (Nat.le_of_ble_eq_true rfl) ⟨Nat.le_of_ble_eq_true rfl, Nat.le_of_ble_eq_true rfl⟩ ⟨Nat.le_of_ble_eq_true rfl, Nat.le_of_ble_eq_true rfl⟩ dX11_adopt_11 (fun H locs Y => ?_)
  refine lv_icmp_ge (tgt := 56) hx hb dX11_adopt_16 (by decide) (fun c16 => absurd c16 (by decide)) (fun c16 => ?_)
  refine lv_aload_n hx hb dX11_adopt_19 rfl (lv_at hl 2 rfl) ?_
  refine lv_iload_n hx hb dX11_adopt_20 rfl (lv_at hl 0 rfl) ?_
  obtain ⟨mcl, hlo⟩ := id hlO
  refine h_callFr (rest := []) X Y (c_get l G M1 lst 3013 e0 3014 3 0 (gq qa qb qc) hlO hlE (by omega)) rfl rfl (hFw_Jx4a65c_get_915e3 X) gw_X11_346 dsi_Jx4a65c_get_915e3 hlo rfl rfl rfl rfl hl.1 (Nat.le_of_ble_eq_true rfl) ⟨Nat.le_of_ble_eq_true rfl, Nat.le_of_ble_eq_true rfl⟩ ⟨Nat.le_of_ble_eq_true rfl, Nat.le_of_ble_eq_true rfl⟩ dX11_adopt_21 (fun H locs Y => ?_)
  refine h_cast X Y hLa.1.1 rfl rfl kcl_X11_154 dX11_adopt_26 ?_
  refine h_callV (rest := []) X Y (c_settle l G M1 qa 2000 La Fa hLa hga.1 hga.2.1 hga.2.2.1 hga.2.2.2.1) gw_X11_347 dsc_X5_settleYears hLa.1.1 rfl rfl rfl hl.1 rfl (Nat.le_of_ble_eq_true rfl) ⟨Nat.le_of_ble_eq_true rfl, Nat.le_of_ble_eq_true rfl⟩ ⟨Nat.le_of_ble_eq_true rfl, Nat.le_of_ble_eq_true rfl⟩ dX11_adopt_29 ?_
  rintro _ M2 H locs ⟨rfl, N1, B1, hl1, hl2, hl3, hfa⟩ Y
  try dsimp only [Option.toList, List.nil_append]
  have hLa : LySt G M2 qa 2000 La Fa := ⟨N1, B1, hl1, hl2, hl3⟩
  have ho0 := hfa _ _ _ ho0 (by omega)
  have hlO := hlO.fr hfa (by omega)
  have hlE := hlE.fr hfa (by omega)
  have hLb := hLb.fr hfa (fun j hj => by omega)
  have hLc := hLc.fr hfa (fun j hj => by omega)
  have hfr := hFr.tr hfr (hfa.mono (fun u z => by omega))
  have hl13 := hfa _ _ _ hl13 (by omega)
  refine lv_aload_n hx hb dX11_adopt_32 rfl (lv_at hl 1 rfl) ?_
  refine h_get X Y (k := 4) (v := .ref (A 13)) ho0 rfl hin_X11 (by decide) kfl_X11_42 rfl dX11_adopt_33 ?_
  refine lv_aload_n hx hb dX11_adopt_36 rfl (lv_at hl 2 rfl) ?_
  refine lv_iload_n hx hb dX11_adopt_37 rfl (lv_at hl 0 rfl) ?_
  obtain ⟨mcl, hlo⟩ := id hlO
  refine h_callFr (rest := [.ref (A 13)]) X Y (c_get l G M2 lst 3013 e0 3014 3 0 (gq qa qb qc) hlO hlE (by omega)) rfl rfl (hFw_Jx4a65c_get_915e3 X) gw_X11_346 dsi_Jx4a65c_get_915e3 hlo rfl rfl rfl rfl hl.1 (Nat.le_of_ble_eq_true rfl) ⟨Nat.le_of_ble_eq_true rfl, Nat.le_of_ble_eq_true rfl⟩ ⟨Nat.le_of_ble_eq_true rfl, Nat.le_of_ble_eq_true rfl⟩ dX11_adopt_38 (fun H locs Y => ?_)
  obtain ⟨fsa, hoba⟩ := hLa.obj
  refine h_cast X Y hoba rfl rfl kcl_X11_154 dX11_adopt_43 ?_
  refine h_callV (rest := []) X Y (c_add l G M2 (A 13) 13 14 0 7 qa 2000 (mc0 + 1) (hDE G) (fun _ => 0) _ hl13 (by omega) (by omega) tCa_layer (fun i hi => absurd hi (by omega)) hoba (by omega) (by omega) (Or.inl ⟨rfl, rfl⟩)) gw_X11_186 dsc_Jx4a65c_add_9ea2d hl13 rfl rfl rfl hl.1 rfl (Nat.le_of_ble_eq_true rfl) ⟨Nat.le_of_ble_eq_true rfl, Nat.le_of_ble_eq_true rfl⟩ ⟨Nat.le_of_ble_eq_true rfl, Nat.le_of_ble_eq_true rfl⟩ dX11_adopt_46 ?_
  rintro _ M3 H locs ⟨rfl, e1, cap1, f1, hl13, hle, k1, k2, k3, kf, kn, hfa⟩ Y
  try dsimp only [Option.toList, List.singleton_append]
  have ho0 := hfa _ _ _ ho0 (by omega)
  have hlO := hlO.fr hfa (by omega)
  have hlE := hlE.fr hfa (by omega)
  have hLa := hLa.fr hfa (fun j hj => by omega)
  have hLb := hLb.fr hfa (fun j hj => by omega)
  have hLc := hLc.fr hfa (fun j hj => by omega)
  have hfr := hFr.tr hfr (hfa.mono (fun u z => by omega))
  have hf1a : f1 0 = some qa := kn
  refine lv_pop hx hb dX11_adopt_49 rfl ?_
  refine lv_iinc (v := nI 1) (lv' := [(2, .int (nI 1)), (0, .ref (A 0)), (1, .ref lst)]) hx hb dX11_adopt_50 hl (k := 0) rfl (by decide) (by decide) rfl (fun ls hl => ?_)
  refine lv_goto (tgt := 9) hx hb dX11_adopt_53 (by decide) ?_
  refine lv_iload_n hx hb dX11_adopt_9 rfl (lv_at hl 0 rfl) ?_
  refine lv_aload_n hx hb dX11_adopt_10 rfl (lv_at hl 2 rfl) ?_
  obtain ⟨mcl, hlo⟩ := id hlO
  refine h_callFr (rest := [.int (nI 1)]) X Y (c_size l G M3 lst 3013 e0 3 hlO) rfl rfl (hFw_Jx4a65c_size_8abf5 X) gw_X11_343 dsi_Jx4a65c_size_8abf5 hlo rfl rfl rfl rfl hl.1 (Nat.le_of_ble_eq_true rfl) ⟨Nat.le_of_ble_eq_true rfl, Nat.le_of_ble_eq_true rfl⟩ ⟨Nat.le_of_ble_eq_true rfl, Nat.le_of_ble_eq_true rfl⟩ dX11_adopt_11 (fun H locs Y => ?_)
  refine lv_icmp_ge (tgt := 56) hx hb dX11_adopt_16 (by decide) (fun c16 => absurd c16 (by decide)) (fun c16 => ?_)
  refine lv_aload_n hx hb dX11_adopt_19 rfl (lv_at hl 2 rfl) ?_
  refine lv_iload_n hx hb dX11_adopt_20 rfl (lv_at hl 0 rfl) ?_
  obtain ⟨mcl, hlo⟩ := id hlO
  refine h_callFr (rest := []) X Y (c_get l G M3 lst 3013 e0 3014 3 1 (gq qa qb qc) hlO hlE (by omega)) rfl rfl (hFw_Jx4a65c_get_915e3 X) gw_X11_346 dsi_Jx4a65c_get_915e3 hlo rfl rfl rfl rfl hl.1 (Nat.le_of_ble_eq_true rfl) ⟨Nat.le_of_ble_eq_true rfl, Nat.le_of_ble_eq_true rfl⟩ ⟨Nat.le_of_ble_eq_true rfl, Nat.le_of_ble_eq_true rfl⟩ dX11_adopt_21 (fun H locs Y => ?_)
  refine h_cast X Y hLb.1.1 rfl rfl kcl_X11_154 dX11_adopt_26 ?_
  refine h_callV (rest := []) X Y (c_settle l G M3 qb 2100 Lb Fb hLb hgb.1 hgb.2.1 hgb.2.2.1 hgb.2.2.2.1) gw_X11_347 dsc_X5_settleYears hLb.1.1 rfl rfl rfl hl.1 rfl (Nat.le_of_ble_eq_true rfl) ⟨Nat.le_of_ble_eq_true rfl, Nat.le_of_ble_eq_true rfl⟩ ⟨Nat.le_of_ble_eq_true rfl, Nat.le_of_ble_eq_true rfl⟩ dX11_adopt_29 ?_
  rintro _ M4 H locs ⟨rfl, N1, B1, hl1, hl2, hl3, hfa⟩ Y
  try dsimp only [Option.toList, List.nil_append]
  have hLb : LySt G M4 qb 2100 Lb Fb := ⟨N1, B1, hl1, hl2, hl3⟩
  have ho0 := hfa _ _ _ ho0 (by omega)
  have hlO := hlO.fr hfa (by omega)
  have hlE := hlE.fr hfa (by omega)
  have hLa := hLa.fr hfa (fun j hj => by omega)
  have hLc := hLc.fr hfa (fun j hj => by omega)
  have hfr := hFr.tr hfr (hfa.mono (fun u z => by omega))
  have hl13 := hfa _ _ _ hl13 (by omega)
  have hle := hfa _ _ _ hle (by omega)
  refine lv_aload_n hx hb dX11_adopt_32 rfl (lv_at hl 1 rfl) ?_
  refine h_get X Y (k := 4) (v := .ref (A 13)) ho0 rfl hin_X11 (by decide) kfl_X11_42 rfl dX11_adopt_33 ?_
  refine lv_aload_n hx hb dX11_adopt_36 rfl (lv_at hl 2 rfl) ?_
  refine lv_iload_n hx hb dX11_adopt_37 rfl (lv_at hl 0 rfl) ?_
  obtain ⟨mcl, hlo⟩ := id hlO
  refine h_callFr (rest := [.ref (A 13)]) X Y (c_get l G M4 lst 3013 e0 3014 3 1 (gq qa qb qc) hlO hlE (by omega)) rfl rfl (hFw_Jx4a65c_get_915e3 X) gw_X11_346 dsi_Jx4a65c_get_915e3 hlo rfl rfl rfl rfl hl.1 (Nat.le_of_ble_eq_true rfl) ⟨Nat.le_of_ble_eq_true rfl, Nat.le_of_ble_eq_true rfl⟩ ⟨Nat.le_of_ble_eq_true rfl, Nat.le_of_ble_eq_true rfl⟩ dX11_adopt_38 (fun H locs Y => ?_)
  obtain ⟨fsb, hobb⟩ := hLb.obj
  refine h_cast X Y hobb rfl rfl kcl_X11_154 dX11_adopt_43 ?_
  obtain ⟨fsa, hoba⟩ := hLa.obj
  refine h_callV (rest := []) X Y (c_add l G M4 (A 13) 13 14 1 7 qb 2100 ((mc0 + 1) + 1) e1 (fun _ => qa) _ hl13 (by omega) (by omega) tCa_layer (fun i hi => ⟨2000, _, by omega, by omega, hoba⟩) hobb (by omega) (by omega) (Or.inr ⟨cap1, f1, hle, by omega, k2, k3, fun i hi => (show i = 0 by omega) ▸ hf1a⟩)) gw_X11_186 dsc_Jx4a65c_add_9ea2d hl13 rfl rfl rfl hl.1 rfl (Nat.le_of_ble_eq_true rfl) ⟨Nat.le_of_ble_eq_true rfl, Nat.le_of_ble_eq_true rfl⟩ ⟨Nat.le_of_ble_eq_true rfl, Nat.le_of_ble_eq_true rfl⟩ dX11_adopt_46 ?_
  rintro _ M5 H locs ⟨rfl, e2, cap2, f2, hl13, hle, k1, k2, k3, kf, kn, hfa⟩ Y
  try dsimp only [Option.toList, List.singleton_append]
  have ho0 := hfa _ _ _ ho0 (by omega)
  have hlO := hlO.fr hfa (by omega)
  have hlE := hlE.fr hfa (by omega)
  have hLa := hLa.fr hfa (fun j hj => by omega)
  have hLb := hLb.fr hfa (fun j hj => by omega)
  have hLc := hLc.fr hfa (fun j hj => by omega)
  have hfr := hFr.tr hfr (hfa.mono (fun u z => by omega))
  have hf2a : f2 0 = some qa := kf 0 (by omega)
  have hf2b : f2 1 = some qb := kn
  refine lv_pop hx hb dX11_adopt_49 rfl ?_
  refine lv_iinc (v := nI 2) (lv' := [(2, .int (nI 2)), (0, .ref (A 0)), (1, .ref lst)]) hx hb dX11_adopt_50 hl (k := 0) rfl (by decide) (by decide) rfl (fun ls hl => ?_)
  refine lv_goto (tgt := 9) hx hb dX11_adopt_53 (by decide) ?_
  refine lv_iload_n hx hb dX11_adopt_9 rfl (lv_at hl 0 rfl) ?_
  refine lv_aload_n hx hb dX11_adopt_10 rfl (lv_at hl 2 rfl) ?_
  obtain ⟨mcl, hlo⟩ := id hlO
  refine h_callFr (rest := [.int (nI 2)]) X Y (c_size l G M5 lst 3013 e0 3 hlO) rfl rfl (hFw_Jx4a65c_size_8abf5 X) gw_X11_343 dsi_Jx4a65c_size_8abf5 hlo rfl rfl rfl rfl hl.1 (Nat.le_of_ble_eq_true rfl) ⟨Nat.le_of_ble_eq_true rfl, Nat.le_of_ble_eq_true rfl⟩ ⟨Nat.le_of_ble_eq_true rfl, Nat.le_of_ble_eq_true rfl⟩ dX11_adopt_11 (fun H locs Y => ?_)
  refine lv_icmp_ge (tgt := 56) hx hb dX11_adopt_16 (by decide) (fun c16 => absurd c16 (by decide)) (fun c16 => ?_)
  refine lv_aload_n hx hb dX11_adopt_19 rfl (lv_at hl 2 rfl) ?_
  refine lv_iload_n hx hb dX11_adopt_20 rfl (lv_at hl 0 rfl) ?_
  obtain ⟨mcl, hlo⟩ := id hlO
  refine h_callFr (rest := []) X Y (c_get l G M5 lst 3013 e0 3014 3 2 (gq qa qb qc) hlO hlE (by omega)) rfl rfl (hFw_Jx4a65c_get_915e3 X) gw_X11_346 dsi_Jx4a65c_get_915e3 hlo rfl rfl rfl rfl hl.1 (Nat.le_of_ble_eq_true rfl) ⟨Nat.le_of_ble_eq_true rfl, Nat.le_of_ble_eq_true rfl⟩ ⟨Nat.le_of_ble_eq_true rfl, Nat.le_of_ble_eq_true rfl⟩ dX11_adopt_21 (fun H locs Y => ?_)
  refine h_cast X Y hLc.1.1 rfl rfl kcl_X11_154 dX11_adopt_26 ?_
  refine h_callV (rest := []) X Y (c_settle l G M5 qc 2200 Lc Fc hLc hgc.1 hgc.2.1 hgc.2.2.1 hgc.2.2.2.1) gw_X11_347 dsc_X5_settleYears hLc.1.1 rfl rfl rfl hl.1 rfl (Nat.le_of_ble_eq_true rfl) ⟨Nat.le_of_ble_eq_true rfl, Nat.le_of_ble_eq_true rfl⟩ ⟨Nat.le_of_ble_eq_true rfl, Nat.le_of_ble_eq_true rfl⟩ dX11_adopt_29 ?_
  rintro _ M6 H locs ⟨rfl, N1, B1, hl1, hl2, hl3, hfa⟩ Y
  try dsimp only [Option.toList, List.nil_append]
  have hLc : LySt G M6 qc 2200 Lc Fc := ⟨N1, B1, hl1, hl2, hl3⟩
  have ho0 := hfa _ _ _ ho0 (by omega)
  have hlO := hlO.fr hfa (by omega)
  have hlE := hlE.fr hfa (by omega)
  have hLa := hLa.fr hfa (fun j hj => by omega)
  have hLb := hLb.fr hfa (fun j hj => by omega)
  have hfr := hFr.tr hfr (hfa.mono (fun u z => by omega))
  have hl13 := hfa _ _ _ hl13 (by omega)
  have hle := hfa _ _ _ hle (by omega)
  refine lv_aload_n hx hb dX11_adopt_32 rfl (lv_at hl 1 rfl) ?_
  refine h_get X Y (k := 4) (v := .ref (A 13)) ho0 rfl hin_X11 (by decide) kfl_X11_42 rfl dX11_adopt_33 ?_
  refine lv_aload_n hx hb dX11_adopt_36 rfl (lv_at hl 2 rfl) ?_
  refine lv_iload_n hx hb dX11_adopt_37 rfl (lv_at hl 0 rfl) ?_
  obtain ⟨mcl, hlo⟩ := id hlO
  refine h_callFr (rest := [.ref (A 13)]) X Y (c_get l G M6 lst 3013 e0 3014 3 2 (gq qa qb qc) hlO hlE (by omega)) rfl rfl (hFw_Jx4a65c_get_915e3 X) gw_X11_346 dsi_Jx4a65c_get_915e3 hlo rfl rfl rfl rfl hl.1 (Nat.le_of_ble_eq_true rfl) ⟨Nat.le_of_ble_eq_true rfl, Nat.le_of_ble_eq_true rfl⟩ ⟨Nat.le_of_ble_eq_true rfl, Nat.le_of_ble_eq_true rfl⟩ dX11_adopt_38 (fun H locs Y => ?_)
  obtain ⟨fsc, hobc⟩ := hLc.obj
  refine h_cast X Y hobc rfl rfl kcl_X11_154 dX11_adopt_43 ?_
  obtain ⟨fsa, hoba⟩ := hLa.obj
  obtain ⟨fsb, hobb⟩ := hLb.obj
  refine h_callV (rest := []) X Y (c_add l G M6 (A 13) 13 14 2 7 qc 2200 (((mc0 + 1) + 1) + 1) e2 (gq qa qb 0) _ hl13 (by omega) (by omega) tCa_layer (fun i hi => by rcases (show i = 0 ∨ i = 1 by omega) with rfl | rfl; exact ⟨2000, _, by omega, by omega, hoba⟩; exact ⟨2100, _, by omega, by omega, hobb⟩) hobc (by omega) (by omega) (Or.inr ⟨cap2, f2, hle, by omega, k2, k3, fun i hi => by rcases (show i = 0 ∨ i = 1 by omega) with rfl | rfl; exact hf2a; exact hf2b⟩)) gw_X11_186 dsc_Jx4a65c_add_9ea2d hl13 rfl rfl rfl hl.1 rfl (Nat.le_of_ble_eq_true rfl) ⟨Nat.le_of_ble_eq_true rfl, Nat.le_of_ble_eq_true rfl⟩ ⟨Nat.le_of_ble_eq_true rfl, Nat.le_of_ble_eq_true rfl⟩ dX11_adopt_46 ?_
  rintro _ M7 H locs ⟨rfl, e3, cap3, f3, hl13, hle, k1, k2, k3, kf, kn, hfa⟩ Y
  try dsimp only [Option.toList, List.singleton_append]
  have ho0 := hfa _ _ _ ho0 (by omega)
  have hlO := hlO.fr hfa (by omega)
  have hlE := hlE.fr hfa (by omega)
  have hLa := hLa.fr hfa (fun j hj => by omega)
  have hLb := hLb.fr hfa (fun j hj => by omega)
  have hLc := hLc.fr hfa (fun j hj => by omega)
  have hfr := hFr.tr hfr (hfa.mono (fun u z => by omega))
  have hf3 : ∀ i, i < 3 → f3 i = some (gq qa qb qc i) := fun i hi => by rcases (show i = 0 ∨ i = 1 ∨ i = 2 by omega) with rfl | rfl | rfl; exact kf 0 (by omega); exact kf 1 (by omega); exact kn
  refine lv_pop hx hb dX11_adopt_49 rfl ?_
  refine lv_iinc (v := nI 3) (lv' := [(2, .int (nI 3)), (0, .ref (A 0)), (1, .ref lst)]) hx hb dX11_adopt_50 hl (k := 0) rfl (by decide) (by decide) rfl (fun ls hl => ?_)
  refine lv_goto (tgt := 9) hx hb dX11_adopt_53 (by decide) ?_
  refine lv_iload_n hx hb dX11_adopt_9 rfl (lv_at hl 0 rfl) ?_
  refine lv_aload_n hx hb dX11_adopt_10 rfl (lv_at hl 2 rfl) ?_
  obtain ⟨mcl, hlo⟩ := id hlO
  refine h_callFr (rest := [.int (nI 3)]) X Y (c_size l G M7 lst 3013 e0 3 hlO) rfl rfl (hFw_Jx4a65c_size_8abf5 X) gw_X11_343 dsi_Jx4a65c_size_8abf5 hlo rfl rfl rfl rfl hl.1 (Nat.le_of_ble_eq_true rfl) ⟨Nat.le_of_ble_eq_true rfl, Nat.le_of_ble_eq_true rfl⟩ ⟨Nat.le_of_ble_eq_true rfl, Nat.le_of_ble_eq_true rfl⟩ dX11_adopt_11 (fun H locs Y => ?_)
  refine lv_icmp_ge (tgt := 56) hx hb dX11_adopt_16 (by decide) (fun c16 => ?_) (fun c16 => absurd (by decide) c16)
  exact h_vret X Y ⟨rfl, ⟨_, e3, cap3, f3, hl13, hle, k1, k3, hf3⟩, hLa, hLb, hLc, hfr⟩ (Nat.le_of_ble_eq_true rfl) (Nat.le_of_ble_eq_true rfl) dX11_adopt_56
