theorem dJxa1e45_init_da8c8_0 : decode cJxa1e45_init_da8c8 0 = .ok (.aload_n 0, 1) := by decide +kernel
theorem dJxa1e45_init_da8c8_1 : decode cJxa1e45_init_da8c8 1 = .ok (.invokespecial 1, 3) := by decide +kernel
theorem dJxa1e45_init_da8c8_4 : decode cJxa1e45_init_da8c8 4 = .ok (.return_, 1) := by decide +kernel
set_option maxHeartbeats 400000 in
set_option maxRecDepth 100000 in
theorem c_absC (l : Launch) (G : hG) (M : hM) (q0 t : Nat) (fs : List Value) (hq : M q0 = some (t, .inr (2, fs))) : hCT l G yJxa1e45_init_da8c8 cJxa1e45_init_da8c8 1 (Option.none) (hRm 2 0 0) M [.ref q0] (fun v M' => v = none ∧ M' = M) := by
  refine hCT.of (own := RJxa1e45) (nm := "<init>") (by decide) rfl rfl (Nat.le_of_ble_eq_true rfl) ?_
  intro p e s m args below meth c ls X Y hl
  have hx := X.1
  have hb := X.2.1
  have hl : lv_has ls 1 [(0, .ref q0)] := hl
  refine lv_aload_n hx hb dJxa1e45_init_da8c8_0 rfl (lv_at hl 0 rfl) ?_
  refine h_objI X hl.1 kml_Jxa1e45_1 (Nat.le_of_ble_eq_true rfl) (Nat.le_of_ble_eq_true rfl) dJxa1e45_init_da8c8_1 ?_
  exact h_vret X Y ⟨rfl, rfl⟩ (Nat.le_of_ble_eq_true rfl) (Nat.le_of_ble_eq_true rfl) dJxa1e45_init_da8c8_4
theorem dsc_Jxa1e45_init_da8c8 : yJxa1e45_init_da8c8.cls = RJxa1e45 ∧ yJxa1e45_init_da8c8.cls ≠ "java/lang/invoke/MethodHandle" ∧ yJxa1e45_init_da8c8.cls ≠ "java/lang/invoke/VarHandle" ∧ (parseMethodDescriptor yJxa1e45_init_da8c8.desc).map (fun d => d.parameters.length) = some 0 := ⟨rfl, by decide +kernel, by decide +kernel, by decide +kernel⟩
theorem dJxc12de_init_da8c8_0 : decode cJxc12de_init_da8c8 0 = .ok (.aload_n 0, 1) := by decide +kernel
theorem dJxc12de_init_da8c8_1 : decode cJxc12de_init_da8c8 1 = .ok (.invokespecial 1, 3) := by decide +kernel
theorem dJxc12de_init_da8c8_4 : decode cJxc12de_init_da8c8 4 = .ok (.aload_n 0, 1) := by decide +kernel
theorem dJxc12de_init_da8c8_5 : decode cJxc12de_init_da8c8 5 = .ok (.iconst 0, 1) := by decide +kernel
theorem dJxc12de_init_da8c8_6 : decode cJxc12de_init_da8c8 6 = .ok (.putfield 7, 3) := by decide +kernel
theorem dJxc12de_init_da8c8_9 : decode cJxc12de_init_da8c8 9 = .ok (.return_, 1) := by decide +kernel
set_option maxHeartbeats 400000 in
set_option maxRecDepth 100000 in
theorem c_absL (l : Launch) (G : hG) (M : hM) (q0 t : Nat) (hq : M q0 = some (t, .inr (2, [.int 0, .null, .int 0]))) : hCT l G yJxc12de_init_da8c8 cJxc12de_init_da8c8 1 (Option.none) (hRm 3 0 0) M [.ref q0] (fun v M' => v = none ∧ M' q0 = some (t, .inr (2, [.int 0, .null, .int 0])) ∧ hFr (fun u => u = t) M M') := by
  refine hCT.of (own := RJxc12de) (nm := "<init>") (by decide) rfl rfl (Nat.le_of_ble_eq_true rfl) ?_
  intro p e s m args below meth c ls X Y hl
  have hx := X.1
  have hb := X.2.1
  have hl : lv_has ls 1 [(0, .ref q0)] := hl
  have hfr : hFr (fun u => u = t) M M := hFr.rf
  refine lv_aload_n hx hb dJxc12de_init_da8c8_0 rfl (lv_at hl 0 rfl) ?_
  refine h_callI (rest := []) X Y (c_absC l G M q0 t _ hq) (hgi0 kco_Jxa1e45_init_da8c8) kini_Jxa1e45 kml_Jxc12de_1 kin_Jxa1e45_init_da8c8 rfl dsc_Jxa1e45_init_da8c8.2 rfl hl.1 rfl (Nat.le_of_ble_eq_true rfl) ⟨Nat.le_of_ble_eq_true rfl, Nat.le_of_ble_eq_true rfl⟩ ⟨Nat.le_of_ble_eq_true rfl, Nat.le_of_ble_eq_true rfl⟩ dJxc12de_init_da8c8_1 ?_
  rintro _ M9 H locs ⟨rfl, hM9⟩ Y
  rw [hM9] at Y
  try dsimp only [Option.toList, List.nil_append]
  refine lv_aload_n hx hb dJxc12de_init_da8c8_4 rfl (lv_at hl 0 rfl) ?_
  refine lv_iconst (v := 0) hx hb dJxc12de_init_da8c8_5 (by decide) ?_
  refine h_put X Y (k := 0) (v := .int 0) hq rfl hin_Jx4a65c tyJx4a65c_ok nmJx4a65c (by decide) kfl_Jxc12de_7 rfl rfl rfl (Nat.le_of_ble_eq_true rfl) dJxc12de_init_da8c8_6 (fun H locs Y => ?_)
  have Y : hHS G (hup M q0 (t, .inr (2, [.int 0, .null, .int 0]))) s H locs := Y
  have hfr := hfr.put (x := (t, .inr (2, [.int 0, .null, .int 0]))) hq rfl
  have hq : hup M q0 (t, .inr (2, [.int 0, .null, .int 0])) q0 = some (t, .inr (2, [.int 0, .null, .int 0])) := hup_eq
  generalize hup M q0 (t, .inr (2, [.int 0, .null, .int 0])) = Mz1 at Y hq hfr
  exact h_vret X Y ⟨rfl, hq, hfr⟩ (Nat.le_of_ble_eq_true rfl) (Nat.le_of_ble_eq_true rfl) dJxc12de_init_da8c8_9
theorem dsc_Jxc12de_init_da8c8 : yJxc12de_init_da8c8.cls = RJxc12de ∧ yJxc12de_init_da8c8.cls ≠ "java/lang/invoke/MethodHandle" ∧ yJxc12de_init_da8c8.cls ≠ "java/lang/invoke/VarHandle" ∧ (parseMethodDescriptor yJxc12de_init_da8c8.desc).map (fun d => d.parameters.length) = some 0 := ⟨rfl, by decide +kernel, by decide +kernel, by decide +kernel⟩
theorem dJx4a65c_init_da8c8_0 : decode cJx4a65c_init_da8c8 0 = .ok (.aload_n 0, 1) := by decide +kernel
theorem dJx4a65c_init_da8c8_1 : decode cJx4a65c_init_da8c8 1 = .ok (.invokespecial 1, 3) := by decide +kernel
theorem dJx4a65c_init_da8c8_4 : decode cJx4a65c_init_da8c8 4 = .ok (.aload_n 0, 1) := by decide +kernel
theorem dJx4a65c_init_da8c8_5 : decode cJx4a65c_init_da8c8 5 = .ok (.getstatic 39, 3) := by decide +kernel
theorem dJx4a65c_init_da8c8_8 : decode cJx4a65c_init_da8c8 8 = .ok (.putfield 9, 3) := by decide +kernel
theorem dJx4a65c_init_da8c8_11 : decode cJx4a65c_init_da8c8 11 = .ok (.return_, 1) := by decide +kernel
set_option maxHeartbeats 400000 in
set_option maxRecDepth 100000 in
theorem c_listInit (l : Launch) (G : hG) (M : hM) (q0 t : Nat) (hq : M q0 = some (t, .inr (2, [.int 0, .null, .int 0]))) : hCT l G yJx4a65c_init_da8c8 cJx4a65c_init_da8c8 1 (Option.none) (hRm 4 0 0) M [.ref q0] (fun v M' => v = none ∧ M' q0 = some (t, .inr (2, [.int 0, .ref (hDE G), .int 0])) ∧ hFr (fun u => u = t) M M') := by
  refine hCT.of (own := RJx4a65c) (nm := "<init>") (by decide) rfl rfl (Nat.le_of_ble_eq_true rfl) ?_
  intro p e s m args below meth c ls X Y hl
  have hx := X.1
  have hb := X.2.1
  have hl : lv_has ls 1 [(0, .ref q0)] := hl
  refine lv_aload_n hx hb dJx4a65c_init_da8c8_0 rfl (lv_at hl 0 rfl) ?_
  refine h_callI (rest := []) X Y (c_absL l G M q0 t hq) (hgi0 kco_Jxc12de_init_da8c8) kini_Jxc12de kml_Jx4a65c_1 kin_Jxc12de_init_da8c8 rfl dsc_Jxc12de_init_da8c8.2 rfl hl.1 rfl (Nat.le_of_ble_eq_true rfl) ⟨Nat.le_of_ble_eq_true rfl, Nat.le_of_ble_eq_true rfl⟩ ⟨Nat.le_of_ble_eq_true rfl, Nat.le_of_ble_eq_true rfl⟩ dJx4a65c_init_da8c8_1 ?_
  rintro _ M1 H locs ⟨rfl, hq, hfr⟩ Y
  try dsimp only [Option.toList, List.nil_append]
  refine lv_aload_n hx hb dJx4a65c_init_da8c8_4 rfl (lv_at hl 0 rfl) ?_
  refine h_gets X Y (hDE_Z X.2.2.2.2.2.2.2.2.1 X.2.2.2.2.2.2.2.2.2.1) kfl_Jx4a65c_39 dJx4a65c_init_da8c8_5 ?_
  refine h_put X Y (k := 1) (v := .ref (hDE G)) hq rfl hin_Jx4a65c tyJx4a65c_ok nmJx4a65c (by decide) kfl_Jx4a65c_9 rfl rfl rfl (Nat.le_of_ble_eq_true rfl) dJx4a65c_init_da8c8_8 (fun H locs Y => ?_)
  have Y : hHS G (hup M1 q0 (t, .inr (2, [.int 0, .ref (hDE G), .int 0]))) s H locs := Y
  have hfr := hfr.put (x := (t, .inr (2, [.int 0, .ref (hDE G), .int 0]))) hq rfl
  have hq : hup M1 q0 (t, .inr (2, [.int 0, .ref (hDE G), .int 0])) q0 = some (t, .inr (2, [.int 0, .ref (hDE G), .int 0])) := hup_eq
  generalize hup M1 q0 (t, .inr (2, [.int 0, .ref (hDE G), .int 0])) = Mz1 at Y hq hfr
  exact h_vret X Y ⟨rfl, hq, hfr⟩ (Nat.le_of_ble_eq_true rfl) (Nat.le_of_ble_eq_true rfl) dJx4a65c_init_da8c8_11
theorem dX8_init_0 : decode cX8_init 0 = .ok (.aload_n 0, 1) := by decide +kernel
theorem dX8_init_1 : decode cX8_init 1 = .ok (.invokespecial 3, 3) := by decide +kernel
theorem dX8_init_4 : decode cX8_init 4 = .ok (.aload_n 0, 1) := by decide +kernel
theorem dX8_init_5 : decode cX8_init 5 = .ok (.sipush 2000, 3) := by decide +kernel
theorem dX8_init_8 : decode cX8_init 8 = .ok (.newarray .byte, 2) := by decide +kernel
theorem dX8_init_10 : decode cX8_init 10 = .ok (.putfield 9, 3) := by decide +kernel
theorem dX8_init_13 : decode cX8_init 13 = .ok (.aload_n 0, 1) := by decide +kernel
theorem dX8_init_14 : decode cX8_init 14 = .ok (.iconst 0, 1) := by decide +kernel
theorem dX8_init_15 : decode cX8_init 15 = .ok (.putfield 15, 3) := by decide +kernel
theorem dX8_init_18 : decode cX8_init 18 = .ok (.return_, 1) := by decide +kernel
set_option maxHeartbeats 400000 in
set_option maxRecDepth 100000 in
theorem c_tapeInit (l : Launch) (G : hG) (M : hM) (q0 t : Nat) (hq : M q0 = some (t, .inr (9, [.null, .int 0]))) : hCT l G yX8_init cX8_init 1 (Option.none) (hRm 2 1 2000) M [.ref q0] (fun v M' => v = none ∧ ∃ r, M' q0 = some (t, .inr (9, [.ref r, .int 0])) ∧ M' r = some (t + 1, .inl (hT G 1, 2000, .inl (fun _ => 0))) ∧ hFr (fun u => u = t) M M') := by
  refine hCT.of (own := RX8) (nm := "<init>") (by decide) rfl rfl (Nat.le_of_ble_eq_true rfl) ?_
  intro p e s m args below meth c ls X Y hl
  have hx := X.1
  have hb := X.2.1
  have hl : lv_has ls 1 [(0, .ref q0)] := hl
  have hfr : hFr (fun u => u = t) M M := hFr.rf
  refine lv_aload_n hx hb dX8_init_0 rfl (lv_at hl 0 rfl) ?_
  refine h_objI X hl.1 kml_X8_3 (Nat.le_of_ble_eq_true rfl) (Nat.le_of_ble_eq_true rfl) dX8_init_1 ?_
  refine lv_aload_n hx hb dX8_init_4 rfl (lv_at hl 0 rfl) ?_
  refine lv_sipush (v := 2000) hx hb dX8_init_5 (by decide) ?_
  refine h_newB X Y (t + 1) (n := 2000) (by decide) (Nat.le_of_ble_eq_true rfl) (Nat.le_of_ble_eq_true rfl) dX8_init_8 (fun qz1 Mz1 H fz1 hg1 Y => ?_)
  have hq := hg1 _ _ hq
  have hfr := hfr.grow hg1
  refine h_putF X Y (k := 0) (v := .ref qz1) hq rfl hin_X8 tyX8_ok nmX8 (by decide) kfl_X8_9 rfl rfl rfl rfl (Nat.le_of_ble_eq_true rfl) dX8_init_10 (fun H locs Y => ?_)
  have Y : hHS G (hup Mz1 q0 (t, .inr (9, [.ref qz1, .int 0]))) s H locs := Y
  have fz1 := hup_tag (x := (t, .inr (9, [.ref qz1, .int 0]))) fz1 hq (by omega)
  have hfr := hfr.put (x := (t, .inr (9, [.ref qz1, .int 0]))) hq rfl
  have hq : hup Mz1 q0 (t, .inr (9, [.ref qz1, .int 0])) q0 = some (t, .inr (9, [.ref qz1, .int 0])) := hup_eq
  generalize hup Mz1 q0 (t, .inr (9, [.ref qz1, .int 0])) = Mz2 at Y hq fz1 hfr
  refine lv_aload_n hx hb dX8_init_13 rfl (lv_at hl 0 rfl) ?_
  refine lv_iconst (v := 0) hx hb dX8_init_14 (by decide) ?_
  refine h_put X Y (k := 1) (v := .int 0) hq rfl hin_X8 tyX8_ok nmX8 (by decide) kfl_X8_15 rfl rfl rfl (Nat.le_of_ble_eq_true rfl) dX8_init_15 (fun H locs Y => ?_)
  have Y : hHS G (hup Mz2 q0 (t, .inr (9, [.ref qz1, .int 0]))) s H locs := Y
  have fz1 := hup_tag (x := (t, .inr (9, [.ref qz1, .int 0]))) fz1 hq (by omega)
  have hfr := hfr.put (x := (t, .inr (9, [.ref qz1, .int 0]))) hq rfl
  have hq : hup Mz2 q0 (t, .inr (9, [.ref qz1, .int 0])) q0 = some (t, .inr (9, [.ref qz1, .int 0])) := hup_eq
  generalize hup Mz2 q0 (t, .inr (9, [.ref qz1, .int 0])) = Mz3 at Y hq fz1 hfr
  exact h_vret X Y ⟨rfl, qz1, hq, fz1, hfr⟩ (Nat.le_of_ble_eq_true rfl) (Nat.le_of_ble_eq_true rfl) dX8_init_18
theorem dX9_init_0 : decode cX9_init 0 = .ok (.aload_n 0, 1) := by decide +kernel
theorem dX9_init_1 : decode cX9_init 1 = .ok (.invokespecial 3, 3) := by decide +kernel
theorem dX9_init_4 : decode cX9_init 4 = .ok (.aload_n 0, 1) := by decide +kernel
theorem dX9_init_5 : decode cX9_init 5 = .ok (.sipush 401, 3) := by decide +kernel
theorem dX9_init_8 : decode cX9_init 8 = .ok (.anewarray 9, 3) := by decide +kernel
theorem dX9_init_11 : decode cX9_init 11 = .ok (.putfield 11, 3) := by decide +kernel
theorem dX9_init_14 : decode cX9_init 14 = .ok (.aload_n 0, 1) := by decide +kernel
theorem dX9_init_15 : decode cX9_init 15 = .ok (.sipush 401, 3) := by decide +kernel
theorem dX9_init_18 : decode cX9_init 18 = .ok (.newarray .int, 2) := by decide +kernel
theorem dX9_init_20 : decode cX9_init 20 = .ok (.putfield 17, 3) := by decide +kernel
theorem dX9_init_23 : decode cX9_init 23 = .ok (.aload_n 0, 1) := by decide +kernel
theorem dX9_init_24 : decode cX9_init 24 = .ok (.sipush 401, 3) := by decide +kernel
theorem dX9_init_27 : decode cX9_init 27 = .ok (.newarray .int, 2) := by decide +kernel
theorem dX9_init_29 : decode cX9_init 29 = .ok (.putfield 21, 3) := by decide +kernel
theorem dX9_init_32 : decode cX9_init 32 = .ok (.aload_n 0, 1) := by decide +kernel
theorem dX9_init_33 : decode cX9_init 33 = .ok (.sipush 401, 3) := by decide +kernel
theorem dX9_init_36 : decode cX9_init 36 = .ok (.newarray .long, 2) := by decide +kernel
theorem dX9_init_38 : decode cX9_init 38 = .ok (.putfield 24, 3) := by decide +kernel
theorem dX9_init_41 : decode cX9_init 41 = .ok (.aload_n 0, 1) := by decide +kernel
theorem dX9_init_42 : decode cX9_init 42 = .ok (.iconst 0, 1) := by decide +kernel
theorem dX9_init_43 : decode cX9_init 43 = .ok (.putfield 28, 3) := by decide +kernel
theorem dX9_init_46 : decode cX9_init 46 = .ok (.return_, 1) := by decide +kernel
set_option maxHeartbeats 400000 in
set_option maxRecDepth 100000 in
theorem c_tokInit (l : Launch) (G : hG) (M : hM) (q0 t : Nat) (hq : M q0 = some (t, .inr (10, [.null, .null, .null, .null, .int 0]))) : hCT l G yX9_init cX9_init 1 (Option.none) (hRm 2 4 1604) M [.ref q0] (fun v M' => v = none ∧ ∃ r1 r2 r3 r4, M' q0 = some (t, .inr (10, [.ref r1, .ref r2, .ref r3, .ref r4, .int 0])) ∧ M' r1 = some (t + 1, .inl (hT G 3, 401, .inr (.inr (.inr (.inr (fun _ => none)))))) ∧ M' r2 = some (t + 2, .inl (hT G 0, 401, .inl (fun _ => 0))) ∧ M' r3 = some (t + 3, .inl (hT G 0, 401, .inl (fun _ => 0))) ∧ M' r4 = some (t + 4, .inl (hT G 2, 401, .inr (.inl (fun _ => 0)))) ∧ hFr (fun u => u = t) M M') := by
  refine hCT.of (own := RX9) (nm := "<init>") (by decide) rfl rfl (Nat.le_of_ble_eq_true rfl) ?_
  intro p e s m args below meth c ls X Y hl
  have hx := X.1
  have hb := X.2.1
  have hl : lv_has ls 1 [(0, .ref q0)] := hl
  have hfr : hFr (fun u => u = t) M M := hFr.rf
  refine lv_aload_n hx hb dX9_init_0 rfl (lv_at hl 0 rfl) ?_
  refine h_objI X hl.1 kml_X9_3 (Nat.le_of_ble_eq_true rfl) (Nat.le_of_ble_eq_true rfl) dX9_init_1 ?_
  refine lv_aload_n hx hb dX9_init_4 rfl (lv_at hl 0 rfl) ?_
  refine lv_sipush (v := 401) hx hb dX9_init_5 (by decide) ?_
  refine h_newq 3 X Y (t + 1) (n := 401) (by decide) kcl_X9_9 (t_aoS X.2.2.2.2.2.2.2.2.1 X.2.2.2.2.2.2.2.2.2.1) rfl (Nat.le_of_ble_eq_true rfl) (Nat.le_of_ble_eq_true rfl) dX9_init_8 (fun qz1 Mz1 H fz1 hg1 Y => ?_)
  have hq := hg1 _ _ hq
  have hfr := hfr.grow hg1
  refine h_putF X Y (k := 0) (v := .ref qz1) hq rfl hin_X9 tyX9_ok nmX9 (by decide) kfl_X9_11 rfl rfl rfl rfl (Nat.le_of_ble_eq_true rfl) dX9_init_11 (fun H locs Y => ?_)
  have Y : hHS G (hup Mz1 q0 (t, .inr (10, [.ref qz1, .null, .null, .null, .int 0]))) s H locs := Y
  have fz1 := hup_tag (x := (t, .inr (10, [.ref qz1, .null, .null, .null, .int 0]))) fz1 hq (by omega)
  have hfr := hfr.put (x := (t, .inr (10, [.ref qz1, .null, .null, .null, .int 0]))) hq rfl
  have hq : hup Mz1 q0 (t, .inr (10, [.ref qz1, .null, .null, .null, .int 0])) q0 = some (t, .inr (10, [.ref qz1, .null, .null, .null, .int 0])) := hup_eq
  generalize hup Mz1 q0 (t, .inr (10, [.ref qz1, .null, .null, .null, .int 0])) = Mz2 at Y hq fz1 hfr
  refine lv_aload_n hx hb dX9_init_14 rfl (lv_at hl 0 rfl) ?_
  refine lv_sipush (v := 401) hx hb dX9_init_15 (by decide) ?_
  refine h_newI X Y (t + 2) (n := 401) (by decide) (Nat.le_of_ble_eq_true rfl) (Nat.le_of_ble_eq_true rfl) dX9_init_18 (fun qz3 Mz3 H fz3 hg3 Y => ?_)
  have hq := hg3 _ _ hq
  have fz1 := hg3 _ _ fz1
  have hfr := hfr.grow hg3
  refine h_putF X Y (k := 1) (v := .ref qz3) hq rfl hin_X9 tyX9_ok nmX9 (by decide) kfl_X9_17 rfl rfl rfl rfl (Nat.le_of_ble_eq_true rfl) dX9_init_20 (fun H locs Y => ?_)
  have Y : hHS G (hup Mz3 q0 (t, .inr (10, [.ref qz1, .ref qz3, .null, .null, .int 0]))) s H locs := Y
  have fz1 := hup_tag (x := (t, .inr (10, [.ref qz1, .ref qz3, .null, .null, .int 0]))) fz1 hq (by omega)
  have fz3 := hup_tag (x := (t, .inr (10, [.ref qz1, .ref qz3, .null, .null, .int 0]))) fz3 hq (by omega)
  have hfr := hfr.put (x := (t, .inr (10, [.ref qz1, .ref qz3, .null, .null, .int 0]))) hq rfl
  have hq : hup Mz3 q0 (t, .inr (10, [.ref qz1, .ref qz3, .null, .null, .int 0])) q0 = some (t, .inr (10, [.ref qz1, .ref qz3, .null, .null, .int 0])) := hup_eq
  generalize hup Mz3 q0 (t, .inr (10, [.ref qz1, .ref qz3, .null, .null, .int 0])) = Mz4 at Y hq fz1 fz3 hfr
  refine lv_aload_n hx hb dX9_init_23 rfl (lv_at hl 0 rfl) ?_
  refine lv_sipush (v := 401) hx hb dX9_init_24 (by decide) ?_
  refine h_newI X Y (t + 3) (n := 401) (by decide) (Nat.le_of_ble_eq_true rfl) (Nat.le_of_ble_eq_true rfl) dX9_init_27 (fun qz5 Mz5 H fz5 hg5 Y => ?_)
  have hq := hg5 _ _ hq
  have fz1 := hg5 _ _ fz1
  have fz3 := hg5 _ _ fz3
  have hfr := hfr.grow hg5
  refine h_putF X Y (k := 2) (v := .ref qz5) hq rfl hin_X9 tyX9_ok nmX9 (by decide) kfl_X9_21 rfl rfl rfl rfl (Nat.le_of_ble_eq_true rfl) dX9_init_29 (fun H locs Y => ?_)
  have Y : hHS G (hup Mz5 q0 (t, .inr (10, [.ref qz1, .ref qz3, .ref qz5, .null, .int 0]))) s H locs := Y
  have fz1 := hup_tag (x := (t, .inr (10, [.ref qz1, .ref qz3, .ref qz5, .null, .int 0]))) fz1 hq (by omega)
  have fz3 := hup_tag (x := (t, .inr (10, [.ref qz1, .ref qz3, .ref qz5, .null, .int 0]))) fz3 hq (by omega)
  have fz5 := hup_tag (x := (t, .inr (10, [.ref qz1, .ref qz3, .ref qz5, .null, .int 0]))) fz5 hq (by omega)
  have hfr := hfr.put (x := (t, .inr (10, [.ref qz1, .ref qz3, .ref qz5, .null, .int 0]))) hq rfl
  have hq : hup Mz5 q0 (t, .inr (10, [.ref qz1, .ref qz3, .ref qz5, .null, .int 0])) q0 = some (t, .inr (10, [.ref qz1, .ref qz3, .ref qz5, .null, .int 0])) := hup_eq
  generalize hup Mz5 q0 (t, .inr (10, [.ref qz1, .ref qz3, .ref qz5, .null, .int 0])) = Mz6 at Y hq fz1 fz3 fz5 hfr
  refine lv_aload_n hx hb dX9_init_32 rfl (lv_at hl 0 rfl) ?_
  refine lv_sipush (v := 401) hx hb dX9_init_33 (by decide) ?_
  refine h_newL X Y (t + 4) (n := 401) (by decide) (Nat.le_of_ble_eq_true rfl) (Nat.le_of_ble_eq_true rfl) dX9_init_36 (fun qz7 Mz7 H fz7 hg7 Y => ?_)
  have hq := hg7 _ _ hq
  have fz1 := hg7 _ _ fz1
  have fz3 := hg7 _ _ fz3
  have fz5 := hg7 _ _ fz5
  have hfr := hfr.grow hg7
  refine h_putF X Y (k := 3) (v := .ref qz7) hq rfl hin_X9 tyX9_ok nmX9 (by decide) kfl_X9_24 rfl rfl rfl rfl (Nat.le_of_ble_eq_true rfl) dX9_init_38 (fun H locs Y => ?_)
  have Y : hHS G (hup Mz7 q0 (t, .inr (10, [.ref qz1, .ref qz3, .ref qz5, .ref qz7, .int 0]))) s H locs := Y
  have fz1 := hup_tag (x := (t, .inr (10, [.ref qz1, .ref qz3, .ref qz5, .ref qz7, .int 0]))) fz1 hq (by omega)
  have fz3 := hup_tag (x := (t, .inr (10, [.ref qz1, .ref qz3, .ref qz5, .ref qz7, .int 0]))) fz3 hq (by omega)
  have fz5 := hup_tag (x := (t, .inr (10, [.ref qz1, .ref qz3, .ref qz5, .ref qz7, .int 0]))) fz5 hq (by omega)
  have fz7 := hup_tag (x := (t, .inr (10, [.ref qz1, .ref qz3, .ref qz5, .ref qz7, .int 0]))) fz7 hq (by omega)
  have hfr := hfr.put (x := (t, .inr (10, [.ref qz1, .ref qz3, .ref qz5, .ref qz7, .int 0]))) hq rfl
  have hq : hup Mz7 q0 (t, .inr (10, [.ref qz1, .ref qz3, .ref qz5, .ref qz7, .int 0])) q0 = some (t, .inr (10, [.ref qz1, .ref qz3, .ref qz5, .ref qz7, .int 0])) := hup_eq
  generalize hup Mz7 q0 (t, .inr (10, [.ref qz1, .ref qz3, .ref qz5, .ref qz7, .int 0])) = Mz8 at Y hq fz1 fz3 fz5 fz7 hfr
  refine lv_aload_n hx hb dX9_init_41 rfl (lv_at hl 0 rfl) ?_
  refine lv_iconst (v := 0) hx hb dX9_init_42 (by decide) ?_
  refine h_put X Y (k := 4) (v := .int 0) hq rfl hin_X9 tyX9_ok nmX9 (by decide) kfl_X9_28 rfl rfl rfl (Nat.le_of_ble_eq_true rfl) dX9_init_43 (fun H locs Y => ?_)
  have Y : hHS G (hup Mz8 q0 (t, .inr (10, [.ref qz1, .ref qz3, .ref qz5, .ref qz7, .int 0]))) s H locs := Y
  have fz1 := hup_tag (x := (t, .inr (10, [.ref qz1, .ref qz3, .ref qz5, .ref qz7, .int 0]))) fz1 hq (by omega)
  have fz3 := hup_tag (x := (t, .inr (10, [.ref qz1, .ref qz3, .ref qz5, .ref qz7, .int 0]))) fz3 hq (by omega)
  have fz5 := hup_tag (x := (t, .inr (10, [.ref qz1, .ref qz3, .ref qz5, .ref qz7, .int 0]))) fz5 hq (by omega)
  have fz7 := hup_tag (x := (t, .inr (10, [.ref qz1, .ref qz3, .ref qz5, .ref qz7, .int 0]))) fz7 hq (by omega)
  have hfr := hfr.put (x := (t, .inr (10, [.ref qz1, .ref qz3, .ref qz5, .ref qz7, .int 0]))) hq rfl
  have hq : hup Mz8 q0 (t, .inr (10, [.ref qz1, .ref qz3, .ref qz5, .ref qz7, .int 0])) q0 = some (t, .inr (10, [.ref qz1, .ref qz3, .ref qz5, .ref qz7, .int 0])) := hup_eq
  generalize hup Mz8 q0 (t, .inr (10, [.ref qz1, .ref qz3, .ref qz5, .ref qz7, .int 0])) = Mz9 at Y hq fz1 fz3 fz5 fz7 hfr
  exact h_vret X Y ⟨rfl, qz1, qz3, qz5, qz7, hq, fz1, fz3, fz5, fz7, hfr⟩ (Nat.le_of_ble_eq_true rfl) (Nat.le_of_ble_eq_true rfl) dX9_init_46
theorem dX6_init_0 : decode cX6_init 0 = .ok (.aload_n 0, 1) := by decide +kernel
theorem dX6_init_1 : decode cX6_init 1 = .ok (.invokespecial 3, 3) := by decide +kernel
theorem dX6_init_4 : decode cX6_init 4 = .ok (.aload_n 0, 1) := by decide +kernel
theorem dX6_init_5 : decode cX6_init 5 = .ok (.sipush 400, 3) := by decide +kernel
theorem dX6_init_8 : decode cX6_init 8 = .ok (.anewarray 9, 3) := by decide +kernel
theorem dX6_init_11 : decode cX6_init 11 = .ok (.putfield 11, 3) := by decide +kernel
theorem dX6_init_14 : decode cX6_init 14 = .ok (.aload_n 0, 1) := by decide +kernel
theorem dX6_init_15 : decode cX6_init 15 = .ok (.sipush 400, 3) := by decide +kernel
theorem dX6_init_18 : decode cX6_init 18 = .ok (.newarray .int, 2) := by decide +kernel
theorem dX6_init_20 : decode cX6_init 20 = .ok (.putfield 17, 3) := by decide +kernel
theorem dX6_init_23 : decode cX6_init 23 = .ok (.aload_n 0, 1) := by decide +kernel
theorem dX6_init_24 : decode cX6_init 24 = .ok (.iconst 0, 1) := by decide +kernel
theorem dX6_init_25 : decode cX6_init 25 = .ok (.putfield 21, 3) := by decide +kernel
theorem dX6_init_28 : decode cX6_init 28 = .ok (.aload_n 0, 1) := by decide +kernel
theorem dX6_init_29 : decode cX6_init 29 = .ok (.iconst 0, 1) := by decide +kernel
theorem dX6_init_30 : decode cX6_init 30 = .ok (.putfield 25, 3) := by decide +kernel
theorem dX6_init_33 : decode cX6_init 33 = .ok (.aload_n 0, 1) := by decide +kernel
theorem dX6_init_34 : decode cX6_init 34 = .ok (.getstatic 28, 3) := by decide +kernel
theorem dX6_init_37 : decode cX6_init 37 = .ok (.putfield 32, 3) := by decide +kernel
theorem dX6_init_40 : decode cX6_init 40 = .ok (.aload_n 0, 1) := by decide +kernel
theorem dX6_init_41 : decode cX6_init 41 = .ok (.aload_n 1, 1) := by decide +kernel
theorem dX6_init_42 : decode cX6_init 42 = .ok (.putfield 35, 3) := by decide +kernel
theorem dX6_init_45 : decode cX6_init 45 = .ok (.return_, 1) := by decide +kernel
set_option maxHeartbeats 400000 in
set_option maxRecDepth 100000 in
theorem c_parInit (l : Launch) (G : hG) (M : hM) (q0 t : Nat) (a1 : Nat) (hq : M q0 = some (t, .inr (8, [.null, .null, .null, .int 0, .int 0, .null]))) : hCT l G yX6_init cX6_init 2 (Option.none) (hRm 2 2 800) M [.ref q0, .ref a1] (fun v M' => v = none ∧ ∃ r1 r2, M' q0 = some (t, .inr (8, [.ref a1, .ref r1, .ref r2, .int 0, .int 0, .ref (hSg G 37)])) ∧ M' r1 = some (t + 1, .inl (hT G 3, 400, .inr (.inr (.inr (.inr (fun _ => none)))))) ∧ M' r2 = some (t + 2, .inl (hT G 0, 400, .inl (fun _ => 0))) ∧ hFr (fun u => u = t) M M') := by
  refine hCT.of (own := RX6) (nm := "<init>") (by decide) rfl rfl (Nat.le_of_ble_eq_true rfl) ?_
  intro p e s m args below meth c ls X Y hl
  have hx := X.1
  have hb := X.2.1
  have hl : lv_has ls 2 [(0, .ref q0), (1, .ref a1)] := hl
  have hfr : hFr (fun u => u = t) M M := hFr.rf
  refine lv_aload_n hx hb dX6_init_0 rfl (lv_at hl 0 rfl) ?_
  refine h_objI X hl.1 kml_X6_3 (Nat.le_of_ble_eq_true rfl) (Nat.le_of_ble_eq_true rfl) dX6_init_1 ?_
  refine lv_aload_n hx hb dX6_init_4 rfl (lv_at hl 0 rfl) ?_
  refine lv_sipush (v := 400) hx hb dX6_init_5 (by decide) ?_
  refine h_newq 3 X Y (t + 1) (n := 400) (by decide) kcl_X6_9 (t_aoS X.2.2.2.2.2.2.2.2.1 X.2.2.2.2.2.2.2.2.2.1) rfl (Nat.le_of_ble_eq_true rfl) (Nat.le_of_ble_eq_true rfl) dX6_init_8 (fun qz1 Mz1 H fz1 hg1 Y => ?_)
  have hq := hg1 _ _ hq
  have hfr := hfr.grow hg1
  refine h_putF X Y (k := 1) (v := .ref qz1) hq rfl hin_X6 tyX6_ok nmX6 (by decide) kfl_X6_11 rfl rfl rfl rfl (Nat.le_of_ble_eq_true rfl) dX6_init_11 (fun H locs Y => ?_)
  have Y : hHS G (hup Mz1 q0 (t, .inr (8, [.null, .ref qz1, .null, .int 0, .int 0, .null]))) s H locs := Y
  have fz1 := hup_tag (x := (t, .inr (8, [.null, .ref qz1, .null, .int 0, .int 0, .null]))) fz1 hq (by omega)
  have hfr := hfr.put (x := (t, .inr (8, [.null, .ref qz1, .null, .int 0, .int 0, .null]))) hq rfl
  have hq : hup Mz1 q0 (t, .inr (8, [.null, .ref qz1, .null, .int 0, .int 0, .null])) q0 = some (t, .inr (8, [.null, .ref qz1, .null, .int 0, .int 0, .null])) := hup_eq
  generalize hup Mz1 q0 (t, .inr (8, [.null, .ref qz1, .null, .int 0, .int 0, .null])) = Mz2 at Y hq fz1 hfr
  refine lv_aload_n hx hb dX6_init_14 rfl (lv_at hl 0 rfl) ?_
  refine lv_sipush (v := 400) hx hb dX6_init_15 (by decide) ?_
  refine h_newI X Y (t + 2) (n := 400) (by decide) (Nat.le_of_ble_eq_true rfl) (Nat.le_of_ble_eq_true rfl) dX6_init_18 (fun qz3 Mz3 H fz3 hg3 Y => ?_)
  have hq := hg3 _ _ hq
  have fz1 := hg3 _ _ fz1
  have hfr := hfr.grow hg3
  refine h_putF X Y (k := 2) (v := .ref qz3) hq rfl hin_X6 tyX6_ok nmX6 (by decide) kfl_X6_17 rfl rfl rfl rfl (Nat.le_of_ble_eq_true rfl) dX6_init_20 (fun H locs Y => ?_)
  have Y : hHS G (hup Mz3 q0 (t, .inr (8, [.null, .ref qz1, .ref qz3, .int 0, .int 0, .null]))) s H locs := Y
  have fz1 := hup_tag (x := (t, .inr (8, [.null, .ref qz1, .ref qz3, .int 0, .int 0, .null]))) fz1 hq (by omega)
  have fz3 := hup_tag (x := (t, .inr (8, [.null, .ref qz1, .ref qz3, .int 0, .int 0, .null]))) fz3 hq (by omega)
  have hfr := hfr.put (x := (t, .inr (8, [.null, .ref qz1, .ref qz3, .int 0, .int 0, .null]))) hq rfl
  have hq : hup Mz3 q0 (t, .inr (8, [.null, .ref qz1, .ref qz3, .int 0, .int 0, .null])) q0 = some (t, .inr (8, [.null, .ref qz1, .ref qz3, .int 0, .int 0, .null])) := hup_eq
  generalize hup Mz3 q0 (t, .inr (8, [.null, .ref qz1, .ref qz3, .int 0, .int 0, .null])) = Mz4 at Y hq fz1 fz3 hfr
  refine lv_aload_n hx hb dX6_init_23 rfl (lv_at hl 0 rfl) ?_
  refine lv_iconst (v := 0) hx hb dX6_init_24 (by decide) ?_
  refine h_put X Y (k := 3) (v := .int 0) hq rfl hin_X6 tyX6_ok nmX6 (by decide) kfl_X6_21 rfl rfl rfl (Nat.le_of_ble_eq_true rfl) dX6_init_25 (fun H locs Y => ?_)
  have Y : hHS G (hup Mz4 q0 (t, .inr (8, [.null, .ref qz1, .ref qz3, .int 0, .int 0, .null]))) s H locs := Y
  have fz1 := hup_tag (x := (t, .inr (8, [.null, .ref qz1, .ref qz3, .int 0, .int 0, .null]))) fz1 hq (by omega)
  have fz3 := hup_tag (x := (t, .inr (8, [.null, .ref qz1, .ref qz3, .int 0, .int 0, .null]))) fz3 hq (by omega)
  have hfr := hfr.put (x := (t, .inr (8, [.null, .ref qz1, .ref qz3, .int 0, .int 0, .null]))) hq rfl
  have hq : hup Mz4 q0 (t, .inr (8, [.null, .ref qz1, .ref qz3, .int 0, .int 0, .null])) q0 = some (t, .inr (8, [.null, .ref qz1, .ref qz3, .int 0, .int 0, .null])) := hup_eq
  generalize hup Mz4 q0 (t, .inr (8, [.null, .ref qz1, .ref qz3, .int 0, .int 0, .null])) = Mz5 at Y hq fz1 fz3 hfr
  refine lv_aload_n hx hb dX6_init_28 rfl (lv_at hl 0 rfl) ?_
  refine lv_iconst (v := 0) hx hb dX6_init_29 (by decide) ?_
  refine h_put X Y (k := 4) (v := .int 0) hq rfl hin_X6 tyX6_ok nmX6 (by decide) kfl_X6_25 rfl rfl rfl (Nat.le_of_ble_eq_true rfl) dX6_init_30 (fun H locs Y => ?_)
  have Y : hHS G (hup Mz5 q0 (t, .inr (8, [.null, .ref qz1, .ref qz3, .int 0, .int 0, .null]))) s H locs := Y
  have fz1 := hup_tag (x := (t, .inr (8, [.null, .ref qz1, .ref qz3, .int 0, .int 0, .null]))) fz1 hq (by omega)
  have fz3 := hup_tag (x := (t, .inr (8, [.null, .ref qz1, .ref qz3, .int 0, .int 0, .null]))) fz3 hq (by omega)
  have hfr := hfr.put (x := (t, .inr (8, [.null, .ref qz1, .ref qz3, .int 0, .int 0, .null]))) hq rfl
  have hq : hup Mz5 q0 (t, .inr (8, [.null, .ref qz1, .ref qz3, .int 0, .int 0, .null])) q0 = some (t, .inr (8, [.null, .ref qz1, .ref qz3, .int 0, .int 0, .null])) := hup_eq
  generalize hup Mz5 q0 (t, .inr (8, [.null, .ref qz1, .ref qz3, .int 0, .int 0, .null])) = Mz6 at Y hq fz1 fz3 hfr
  refine lv_aload_n hx hb dX6_init_33 rfl (lv_at hl 0 rfl) ?_
  refine h_gets X Y (hsg_Z X.2.2.2.2.2.2.2.2.1 X.2.2.2.2.2.2.2.2.2.1 (k := 37) (by decide)) kfl_X6_28 dX6_init_34 ?_
  refine h_put X Y (k := 5) (v := .ref (hSg G 37)) hq rfl hin_X6 tyX6_ok nmX6 (by decide) kfl_X6_32 rfl rfl rfl (Nat.le_of_ble_eq_true rfl) dX6_init_37 (fun H locs Y => ?_)
  have Y : hHS G (hup Mz6 q0 (t, .inr (8, [.null, .ref qz1, .ref qz3, .int 0, .int 0, .ref (hSg G 37)]))) s H locs := Y
  have fz1 := hup_tag (x := (t, .inr (8, [.null, .ref qz1, .ref qz3, .int 0, .int 0, .ref (hSg G 37)]))) fz1 hq (by omega)
  have fz3 := hup_tag (x := (t, .inr (8, [.null, .ref qz1, .ref qz3, .int 0, .int 0, .ref (hSg G 37)]))) fz3 hq (by omega)
  have hfr := hfr.put (x := (t, .inr (8, [.null, .ref qz1, .ref qz3, .int 0, .int 0, .ref (hSg G 37)]))) hq rfl
  have hq : hup Mz6 q0 (t, .inr (8, [.null, .ref qz1, .ref qz3, .int 0, .int 0, .ref (hSg G 37)])) q0 = some (t, .inr (8, [.null, .ref qz1, .ref qz3, .int 0, .int 0, .ref (hSg G 37)])) := hup_eq
  generalize hup Mz6 q0 (t, .inr (8, [.null, .ref qz1, .ref qz3, .int 0, .int 0, .ref (hSg G 37)])) = Mz7 at Y hq fz1 fz3 hfr
  refine lv_aload_n hx hb dX6_init_40 rfl (lv_at hl 0 rfl) ?_
  refine lv_aload_n hx hb dX6_init_41 rfl (lv_at hl 1 rfl) ?_
  refine h_putF X Y (k := 0) (v := .ref a1) hq rfl hin_X6 tyX6_ok nmX6 (by decide) kfl_X6_35 rfl rfl rfl rfl (Nat.le_of_ble_eq_true rfl) dX6_init_42 (fun H locs Y => ?_)
  have Y : hHS G (hup Mz7 q0 (t, .inr (8, [.ref a1, .ref qz1, .ref qz3, .int 0, .int 0, .ref (hSg G 37)]))) s H locs := Y
  have fz1 := hup_tag (x := (t, .inr (8, [.ref a1, .ref qz1, .ref qz3, .int 0, .int 0, .ref (hSg G 37)]))) fz1 hq (by omega)
  have fz3 := hup_tag (x := (t, .inr (8, [.ref a1, .ref qz1, .ref qz3, .int 0, .int 0, .ref (hSg G 37)]))) fz3 hq (by omega)
  have hfr := hfr.put (x := (t, .inr (8, [.ref a1, .ref qz1, .ref qz3, .int 0, .int 0, .ref (hSg G 37)]))) hq rfl
  have hq : hup Mz7 q0 (t, .inr (8, [.ref a1, .ref qz1, .ref qz3, .int 0, .int 0, .ref (hSg G 37)])) q0 = some (t, .inr (8, [.ref a1, .ref qz1, .ref qz3, .int 0, .int 0, .ref (hSg G 37)])) := hup_eq
  generalize hup Mz7 q0 (t, .inr (8, [.ref a1, .ref qz1, .ref qz3, .int 0, .int 0, .ref (hSg G 37)])) = Mz8 at Y hq fz1 fz3 hfr
  exact h_vret X Y ⟨rfl, qz1, qz3, hq, fz1, fz3, hfr⟩ (Nat.le_of_ble_eq_true rfl) (Nat.le_of_ble_eq_true rfl) dX6_init_45
theorem dX2_init_0 : decode cX2_init 0 = .ok (.aload_n 0, 1) := by decide +kernel
theorem dX2_init_1 : decode cX2_init 1 = .ok (.invokespecial 3, 3) := by decide +kernel
theorem dX2_init_4 : decode cX2_init 4 = .ok (.aload_n 0, 1) := by decide +kernel
theorem dX2_init_5 : decode cX2_init 5 = .ok (.bipush 8, 2) := by decide +kernel
theorem dX2_init_7 : decode cX2_init 7 = .ok (.newarray .long, 2) := by decide +kernel
theorem dX2_init_9 : decode cX2_init 9 = .ok (.putfield 9, 3) := by decide +kernel
theorem dX2_init_12 : decode cX2_init 12 = .ok (.aload_n 0, 1) := by decide +kernel
theorem dX2_init_13 : decode cX2_init 13 = .ok (.iconst 0, 1) := by decide +kernel
theorem dX2_init_14 : decode cX2_init 14 = .ok (.putfield 15, 3) := by decide +kernel
theorem dX2_init_17 : decode cX2_init 17 = .ok (.aload_n 0, 1) := by decide +kernel
theorem dX2_init_18 : decode cX2_init 18 = .ok (.iconst (-1), 1) := by decide +kernel
theorem dX2_init_19 : decode cX2_init 19 = .ok (.putfield 19, 3) := by decide +kernel
theorem dX2_init_22 : decode cX2_init 22 = .ok (.aload_n 0, 1) := by decide +kernel
theorem dX2_init_23 : decode cX2_init 23 = .ok (.aload_n 1, 1) := by decide +kernel
theorem dX2_init_24 : decode cX2_init 24 = .ok (.putfield 22, 3) := by decide +kernel
theorem dX2_init_27 : decode cX2_init 27 = .ok (.return_, 1) := by decide +kernel
set_option maxHeartbeats 400000 in
set_option maxRecDepth 100000 in
theorem c_cheInit (l : Launch) (G : hG) (M : hM) (q0 t : Nat) (a1 : Nat) (hq : M q0 = some (t, .inr (4, [.null, .null, .int 0, .int 0]))) : hCT l G yX2_init cX2_init 2 (Option.none) (hRm 2 1 8) M [.ref q0, .ref a1] (fun v M' => v = none ∧ ∃ r1, M' q0 = some (t, .inr (4, [.ref a1, .ref r1, .int 0, .int (-1)])) ∧ M' r1 = some (t + 1, .inl (hT G 2, 8, .inr (.inl (fun _ => 0)))) ∧ hFr (fun u => u = t) M M') := by
  refine hCT.of (own := RX2) (nm := "<init>") (by decide) rfl rfl (Nat.le_of_ble_eq_true rfl) ?_
  intro p e s m args below meth c ls X Y hl
  have hx := X.1
  have hb := X.2.1
  have hl : lv_has ls 2 [(0, .ref q0), (1, .ref a1)] := hl
  have hfr : hFr (fun u => u = t) M M := hFr.rf
  refine lv_aload_n hx hb dX2_init_0 rfl (lv_at hl 0 rfl) ?_
  refine h_objI X hl.1 kml_X2_3 (Nat.le_of_ble_eq_true rfl) (Nat.le_of_ble_eq_true rfl) dX2_init_1 ?_
  refine lv_aload_n hx hb dX2_init_4 rfl (lv_at hl 0 rfl) ?_
  refine lv_bipush (v := 8) hx hb dX2_init_5 (by decide) ?_
  refine h_newL X Y (t + 1) (n := 8) (by decide) (Nat.le_of_ble_eq_true rfl) (Nat.le_of_ble_eq_true rfl) dX2_init_7 (fun qz1 Mz1 H fz1 hg1 Y => ?_)
  have hq := hg1 _ _ hq
  have hfr := hfr.grow hg1
  refine h_putF X Y (k := 1) (v := .ref qz1) hq rfl hin_X2 tyX2_ok nmX2 (by decide) kfl_X2_9 rfl rfl rfl rfl (Nat.le_of_ble_eq_true rfl) dX2_init_9 (fun H locs Y => ?_)
  have Y : hHS G (hup Mz1 q0 (t, .inr (4, [.null, .ref qz1, .int 0, .int 0]))) s H locs := Y
  have fz1 := hup_tag (x := (t, .inr (4, [.null, .ref qz1, .int 0, .int 0]))) fz1 hq (by omega)
  have hfr := hfr.put (x := (t, .inr (4, [.null, .ref qz1, .int 0, .int 0]))) hq rfl
  have hq : hup Mz1 q0 (t, .inr (4, [.null, .ref qz1, .int 0, .int 0])) q0 = some (t, .inr (4, [.null, .ref qz1, .int 0, .int 0])) := hup_eq
  generalize hup Mz1 q0 (t, .inr (4, [.null, .ref qz1, .int 0, .int 0])) = Mz2 at Y hq fz1 hfr
  refine lv_aload_n hx hb dX2_init_12 rfl (lv_at hl 0 rfl) ?_
  refine lv_iconst (v := 0) hx hb dX2_init_13 (by decide) ?_
  refine h_put X Y (k := 2) (v := .int 0) hq rfl hin_X2 tyX2_ok nmX2 (by decide) kfl_X2_15 rfl rfl rfl (Nat.le_of_ble_eq_true rfl) dX2_init_14 (fun H locs Y => ?_)
  have Y : hHS G (hup Mz2 q0 (t, .inr (4, [.null, .ref qz1, .int 0, .int 0]))) s H locs := Y
  have fz1 := hup_tag (x := (t, .inr (4, [.null, .ref qz1, .int 0, .int 0]))) fz1 hq (by omega)
  have hfr := hfr.put (x := (t, .inr (4, [.null, .ref qz1, .int 0, .int 0]))) hq rfl
  have hq : hup Mz2 q0 (t, .inr (4, [.null, .ref qz1, .int 0, .int 0])) q0 = some (t, .inr (4, [.null, .ref qz1, .int 0, .int 0])) := hup_eq
  generalize hup Mz2 q0 (t, .inr (4, [.null, .ref qz1, .int 0, .int 0])) = Mz3 at Y hq fz1 hfr
  refine lv_aload_n hx hb dX2_init_17 rfl (lv_at hl 0 rfl) ?_
  refine lv_iconst (v := (-1)) hx hb dX2_init_18 (by decide) ?_
  refine h_put X Y (k := 3) (v := .int (-1)) hq rfl hin_X2 tyX2_ok nmX2 (by decide) kfl_X2_19 rfl rfl rfl (Nat.le_of_ble_eq_true rfl) dX2_init_19 (fun H locs Y => ?_)
  have Y : hHS G (hup Mz3 q0 (t, .inr (4, [.null, .ref qz1, .int 0, .int (-1)]))) s H locs := Y
  have fz1 := hup_tag (x := (t, .inr (4, [.null, .ref qz1, .int 0, .int (-1)]))) fz1 hq (by omega)
  have hfr := hfr.put (x := (t, .inr (4, [.null, .ref qz1, .int 0, .int (-1)]))) hq rfl
  have hq : hup Mz3 q0 (t, .inr (4, [.null, .ref qz1, .int 0, .int (-1)])) q0 = some (t, .inr (4, [.null, .ref qz1, .int 0, .int (-1)])) := hup_eq
  generalize hup Mz3 q0 (t, .inr (4, [.null, .ref qz1, .int 0, .int (-1)])) = Mz4 at Y hq fz1 hfr
  refine lv_aload_n hx hb dX2_init_22 rfl (lv_at hl 0 rfl) ?_
  refine lv_aload_n hx hb dX2_init_23 rfl (lv_at hl 1 rfl) ?_
  refine h_putF X Y (k := 0) (v := .ref a1) hq rfl hin_X2 tyX2_ok nmX2 (by decide) kfl_X2_22 rfl rfl rfl rfl (Nat.le_of_ble_eq_true rfl) dX2_init_24 (fun H locs Y => ?_)
  have Y : hHS G (hup Mz4 q0 (t, .inr (4, [.ref a1, .ref qz1, .int 0, .int (-1)]))) s H locs := Y
  have fz1 := hup_tag (x := (t, .inr (4, [.ref a1, .ref qz1, .int 0, .int (-1)]))) fz1 hq (by omega)
  have hfr := hfr.put (x := (t, .inr (4, [.ref a1, .ref qz1, .int 0, .int (-1)]))) hq rfl
  have hq : hup Mz4 q0 (t, .inr (4, [.ref a1, .ref qz1, .int 0, .int (-1)])) q0 = some (t, .inr (4, [.ref a1, .ref qz1, .int 0, .int (-1)])) := hup_eq
  generalize hup Mz4 q0 (t, .inr (4, [.ref a1, .ref qz1, .int 0, .int (-1)])) = Mz5 at Y hq fz1 hfr
  exact h_vret X Y ⟨rfl, qz1, hq, fz1, hfr⟩ (Nat.le_of_ble_eq_true rfl) (Nat.le_of_ble_eq_true rfl) dX2_init_27
theorem dX1_init_0 : decode cX1_init 0 = .ok (.aload_n 0, 1) := by decide +kernel
theorem dX1_init_1 : decode cX1_init 1 = .ok (.invokespecial 3, 3) := by decide +kernel
theorem dX1_init_4 : decode cX1_init 4 = .ok (.aload_n 0, 1) := by decide +kernel
theorem dX1_init_5 : decode cX1_init 5 = .ok (.bipush 40, 2) := by decide +kernel
theorem dX1_init_7 : decode cX1_init 7 = .ok (.newarray .int, 2) := by decide +kernel
theorem dX1_init_9 : decode cX1_init 9 = .ok (.putfield 9, 3) := by decide +kernel
theorem dX1_init_12 : decode cX1_init 12 = .ok (.aload_n 0, 1) := by decide +kernel
theorem dX1_init_13 : decode cX1_init 13 = .ok (.bipush 40, 2) := by decide +kernel
theorem dX1_init_15 : decode cX1_init 15 = .ok (.bipush 8, 2) := by decide +kernel
theorem dX1_init_17 : decode cX1_init 17 = .ok (.multianewarray 15 2, 4) := by decide +kernel
theorem dX1_init_21 : decode cX1_init 21 = .ok (.putfield 17, 3) := by decide +kernel
theorem dX1_init_24 : decode cX1_init 24 = .ok (.aload_n 0, 1) := by decide +kernel
theorem dX1_init_25 : decode cX1_init 25 = .ok (.bipush 8, 2) := by decide +kernel
theorem dX1_init_27 : decode cX1_init 27 = .ok (.bipush 10, 2) := by decide +kernel
theorem dX1_init_29 : decode cX1_init 29 = .ok (.multianewarray 15 2, 4) := by decide +kernel
theorem dX1_init_33 : decode cX1_init 33 = .ok (.putfield 20, 3) := by decide +kernel
theorem dX1_init_36 : decode cX1_init 36 = .ok (.aload_n 0, 1) := by decide +kernel
theorem dX1_init_37 : decode cX1_init 37 = .ok (.bipush 8, 2) := by decide +kernel
theorem dX1_init_39 : decode cX1_init 39 = .ok (.newarray .int, 2) := by decide +kernel
theorem dX1_init_41 : decode cX1_init 41 = .ok (.putfield 23, 3) := by decide +kernel
theorem dX1_init_44 : decode cX1_init 44 = .ok (.aload_n 0, 1) := by decide +kernel
theorem dX1_init_45 : decode cX1_init 45 = .ok (.aload_n 1, 1) := by decide +kernel
theorem dX1_init_46 : decode cX1_init 46 = .ok (.putfield 26, 3) := by decide +kernel
theorem dX1_init_49 : decode cX1_init 49 = .ok (.aload_n 0, 1) := by decide +kernel
theorem dX1_init_50 : decode cX1_init 50 = .ok (.aload_n 2, 1) := by decide +kernel
theorem dX1_init_51 : decode cX1_init 51 = .ok (.putfield 30, 3) := by decide +kernel
theorem dX1_init_54 : decode cX1_init 54 = .ok (.return_, 1) := by decide +kernel
set_option maxHeartbeats 400000 in
set_option maxRecDepth 100000 in
theorem c_cesInit (l : Launch) (G : hG) (M : hM) (q0 t : Nat) (a1 a2 : Nat) (hq : M q0 = some (t, .inr (3, [.null, .null, .null, .null, .null, .null]))) : hCT l G yX1_init cX1_init 3 (Option.none) (hRm 2 52 496) M [.ref q0, .ref a1, .ref a2] (fun v M' => v = none ∧ ∃ (r1 r2 r3 r4 : Nat) (b d : Nat → Nat), M' q0 = some (t, .inr (3, [.ref r1, .ref r2, .ref r3, .ref r4, .ref a1, .ref a2])) ∧ M' r1 = some (t + 1, .inl (hT G 0, 40, .inl (fun _ => 0))) ∧ (∃ f : Nat → Option Nat, (∀ i, i < 40 → f i = some (b i)) ∧ M' r2 = some (t + 2, .inl (hT G 5, 40, .inr (.inr (.inr (.inr f)))))) ∧ (∀ i, i < 40 → M' (b i) = some (t + 10 + i, .inl (hT G 0, 8, .inl (fun _ => 0)))) ∧ (∃ f : Nat → Option Nat, (∀ i, i < 8 → f i = some (d i)) ∧ M' r3 = some (t + 3, .inl (hT G 5, 8, .inr (.inr (.inr (.inr f)))))) ∧ (∀ i, i < 8 → M' (d i) = some (t + 60 + i, .inl (hT G 0, 10, .inl (fun _ => 0)))) ∧ M' r4 = some (t + 4, .inl (hT G 0, 8, .inl (fun _ => 0))) ∧ hFr (fun u => u = t) M M') := by
  refine hCT.of (own := RX1) (nm := "<init>") (by decide) rfl rfl (Nat.le_of_ble_eq_true rfl) ?_
  intro p e s m args below meth c ls X Y hl
  have hx := X.1
  have hb := X.2.1
  have hl : lv_has ls 3 [(0, .ref q0), (1, .ref a1), (2, .ref a2)] := hl
  have hfr : hFr (fun u => u = t) M M := hFr.rf
  refine lv_aload_n hx hb dX1_init_0 rfl (lv_at hl 0 rfl) ?_
  refine h_objI X hl.1 kml_X1_3 (Nat.le_of_ble_eq_true rfl) (Nat.le_of_ble_eq_true rfl) dX1_init_1 ?_
  refine lv_aload_n hx hb dX1_init_4 rfl (lv_at hl 0 rfl) ?_
  refine lv_bipush (v := 40) hx hb dX1_init_5 (by decide) ?_
  refine h_newI X Y (t + 1) (n := 40) (by decide) (Nat.le_of_ble_eq_true rfl) (Nat.le_of_ble_eq_true rfl) dX1_init_7 (fun qz1 Mz1 H fz1 hg1 Y => ?_)
  have hq := hg1 _ _ hq
  have hfr := hfr.grow hg1
  refine h_putF X Y (k := 0) (v := .ref qz1) hq rfl hin_X1 tyX1_ok nmX1 (by decide) kfl_X1_9 rfl rfl rfl rfl (Nat.le_of_ble_eq_true rfl) dX1_init_9 (fun H locs Y => ?_)
  have Y : hHS G (hup Mz1 q0 (t, .inr (3, [.ref qz1, .null, .null, .null, .null, .null]))) s H locs := Y
  have fz1 := hup_tag (x := (t, .inr (3, [.ref qz1, .null, .null, .null, .null, .null]))) fz1 hq (by omega)
  have hfr := hfr.put (x := (t, .inr (3, [.ref qz1, .null, .null, .null, .null, .null]))) hq rfl
  have hq : hup Mz1 q0 (t, .inr (3, [.ref qz1, .null, .null, .null, .null, .null])) q0 = some (t, .inr (3, [.ref qz1, .null, .null, .null, .null, .null])) := hup_eq
  generalize hup Mz1 q0 (t, .inr (3, [.ref qz1, .null, .null, .null, .null, .null])) = Mz2 at Y hq fz1 hfr
  refine lv_aload_n hx hb dX1_init_12 rfl (lv_at hl 0 rfl) ?_
  refine lv_bipush (v := 40) hx hb dX1_init_13 (by decide) ?_
  refine lv_bipush (v := 8) hx hb dX1_init_15 (by decide) ?_
  refine h_mna X Y (t + 2) (t + 10) (n := 40) (k := 8) (by decide) (by decide) kcl_X1_15 (Nat.le_of_ble_eq_true rfl) (Nat.le_of_ble_eq_true rfl) dX1_init_17 (fun qz3 rz3 gz3 Mz3 H hh3 fz3 hr3 hg3 Y => ?_)
  have hq := hg3 _ _ hq
  have fz1 := hg3 _ _ fz1
  have hfr := hfr.grow hg3
  refine h_putF X Y (k := 1) (v := .ref qz3) hq rfl hin_X1 tyX1_ok nmX1 (by decide) kfl_X1_17 rfl rfl rfl rfl (Nat.le_of_ble_eq_true rfl) dX1_init_21 (fun H locs Y => ?_)
  have Y : hHS G (hup Mz3 q0 (t, .inr (3, [.ref qz1, .ref qz3, .null, .null, .null, .null]))) s H locs := Y
  have fz1 := hup_tag (x := (t, .inr (3, [.ref qz1, .ref qz3, .null, .null, .null, .null]))) fz1 hq (by omega)
  have fz3 := hup_tag (x := (t, .inr (3, [.ref qz1, .ref qz3, .null, .null, .null, .null]))) fz3 hq (by omega)
  have hr3 := fun i hi => hup_tag (x := (t, .inr (3, [.ref qz1, .ref qz3, .null, .null, .null, .null]))) (hr3 i hi) hq (by omega)
  have hfr := hfr.put (x := (t, .inr (3, [.ref qz1, .ref qz3, .null, .null, .null, .null]))) hq rfl
  have hq : hup Mz3 q0 (t, .inr (3, [.ref qz1, .ref qz3, .null, .null, .null, .null])) q0 = some (t, .inr (3, [.ref qz1, .ref qz3, .null, .null, .null, .null])) := hup_eq
  generalize hup Mz3 q0 (t, .inr (3, [.ref qz1, .ref qz3, .null, .null, .null, .null])) = Mz4 at Y hq fz1 fz3 hr3 hfr
  refine lv_aload_n hx hb dX1_init_24 rfl (lv_at hl 0 rfl) ?_
  refine lv_bipush (v := 8) hx hb dX1_init_25 (by decide) ?_
  refine lv_bipush (v := 10) hx hb dX1_init_27 (by decide) ?_
  refine h_mna X Y (t + 3) (t + 60) (n := 8) (k := 10) (by decide) (by decide) kcl_X1_15 (Nat.le_of_ble_eq_true rfl) (Nat.le_of_ble_eq_true rfl) dX1_init_29 (fun qz5 rz5 gz5 Mz5 H hh5 fz5 hr5 hg5 Y => ?_)
  have hq := hg5 _ _ hq
  have fz1 := hg5 _ _ fz1
  have fz3 := hg5 _ _ fz3
  have hr3 := fun i hi => hg5 _ _ (hr3 i hi)
  have hfr := hfr.grow hg5
  refine h_putF X Y (k := 2) (v := .ref qz5) hq rfl hin_X1 tyX1_ok nmX1 (by decide) kfl_X1_20 rfl rfl rfl rfl (Nat.le_of_ble_eq_true rfl) dX1_init_33 (fun H locs Y => ?_)
  have Y : hHS G (hup Mz5 q0 (t, .inr (3, [.ref qz1, .ref qz3, .ref qz5, .null, .null, .null]))) s H locs := Y
  have fz1 := hup_tag (x := (t, .inr (3, [.ref qz1, .ref qz3, .ref qz5, .null, .null, .null]))) fz1 hq (by omega)
  have fz3 := hup_tag (x := (t, .inr (3, [.ref qz1, .ref qz3, .ref qz5, .null, .null, .null]))) fz3 hq (by omega)
  have fz5 := hup_tag (x := (t, .inr (3, [.ref qz1, .ref qz3, .ref qz5, .null, .null, .null]))) fz5 hq (by omega)
  have hr3 := fun i hi => hup_tag (x := (t, .inr (3, [.ref qz1, .ref qz3, .ref qz5, .null, .null, .null]))) (hr3 i hi) hq (by omega)
  have hr5 := fun i hi => hup_tag (x := (t, .inr (3, [.ref qz1, .ref qz3, .ref qz5, .null, .null, .null]))) (hr5 i hi) hq (by omega)
  have hfr := hfr.put (x := (t, .inr (3, [.ref qz1, .ref qz3, .ref qz5, .null, .null, .null]))) hq rfl
  have hq : hup Mz5 q0 (t, .inr (3, [.ref qz1, .ref qz3, .ref qz5, .null, .null, .null])) q0 = some (t, .inr (3, [.ref qz1, .ref qz3, .ref qz5, .null, .null, .null])) := hup_eq
  generalize hup Mz5 q0 (t, .inr (3, [.ref qz1, .ref qz3, .ref qz5, .null, .null, .null])) = Mz6 at Y hq fz1 fz3 fz5 hr3 hr5 hfr
  refine lv_aload_n hx hb dX1_init_36 rfl (lv_at hl 0 rfl) ?_
  refine lv_bipush (v := 8) hx hb dX1_init_37 (by decide) ?_
  refine h_newI X Y (t + 4) (n := 8) (by decide) (Nat.le_of_ble_eq_true rfl) (Nat.le_of_ble_eq_true rfl) dX1_init_39 (fun qz7 Mz7 H fz7 hg7 Y => ?_)
  have hq := hg7 _ _ hq
  have fz1 := hg7 _ _ fz1
  have fz3 := hg7 _ _ fz3
  have fz5 := hg7 _ _ fz5
  have hr3 := fun i hi => hg7 _ _ (hr3 i hi)
  have hr5 := fun i hi => hg7 _ _ (hr5 i hi)
  have hfr := hfr.grow hg7
  refine h_putF X Y (k := 3) (v := .ref qz7) hq rfl hin_X1 tyX1_ok nmX1 (by decide) kfl_X1_23 rfl rfl rfl rfl (Nat.le_of_ble_eq_true rfl) dX1_init_41 (fun H locs Y => ?_)
  have Y : hHS G (hup Mz7 q0 (t, .inr (3, [.ref qz1, .ref qz3, .ref qz5, .ref qz7, .null, .null]))) s H locs := Y
  have fz1 := hup_tag (x := (t, .inr (3, [.ref qz1, .ref qz3, .ref qz5, .ref qz7, .null, .null]))) fz1 hq (by omega)
  have fz3 := hup_tag (x := (t, .inr (3, [.ref qz1, .ref qz3, .ref qz5, .ref qz7, .null, .null]))) fz3 hq (by omega)
  have fz5 := hup_tag (x := (t, .inr (3, [.ref qz1, .ref qz3, .ref qz5, .ref qz7, .null, .null]))) fz5 hq (by omega)
  have fz7 := hup_tag (x := (t, .inr (3, [.ref qz1, .ref qz3, .ref qz5, .ref qz7, .null, .null]))) fz7 hq (by omega)
  have hr3 := fun i hi => hup_tag (x := (t, .inr (3, [.ref qz1, .ref qz3, .ref qz5, .ref qz7, .null, .null]))) (hr3 i hi) hq (by omega)
  have hr5 := fun i hi => hup_tag (x := (t, .inr (3, [.ref qz1, .ref qz3, .ref qz5, .ref qz7, .null, .null]))) (hr5 i hi) hq (by omega)
  have hfr := hfr.put (x := (t, .inr (3, [.ref qz1, .ref qz3, .ref qz5, .ref qz7, .null, .null]))) hq rfl
  have hq : hup Mz7 q0 (t, .inr (3, [.ref qz1, .ref qz3, .ref qz5, .ref qz7, .null, .null])) q0 = some (t, .inr (3, [.ref qz1, .ref qz3, .ref qz5, .ref qz7, .null, .null])) := hup_eq
  generalize hup Mz7 q0 (t, .inr (3, [.ref qz1, .ref qz3, .ref qz5, .ref qz7, .null, .null])) = Mz8 at Y hq fz1 fz3 fz5 fz7 hr3 hr5 hfr
  refine lv_aload_n hx hb dX1_init_44 rfl (lv_at hl 0 rfl) ?_
  refine lv_aload_n hx hb dX1_init_45 rfl (lv_at hl 1 rfl) ?_
  refine h_putF X Y (k := 4) (v := .ref a1) hq rfl hin_X1 tyX1_ok nmX1 (by decide) kfl_X1_26 rfl rfl rfl rfl (Nat.le_of_ble_eq_true rfl) dX1_init_46 (fun H locs Y => ?_)
  have Y : hHS G (hup Mz8 q0 (t, .inr (3, [.ref qz1, .ref qz3, .ref qz5, .ref qz7, .ref a1, .null]))) s H locs := Y
  have fz1 := hup_tag (x := (t, .inr (3, [.ref qz1, .ref qz3, .ref qz5, .ref qz7, .ref a1, .null]))) fz1 hq (by omega)
  have fz3 := hup_tag (x := (t, .inr (3, [.ref qz1, .ref qz3, .ref qz5, .ref qz7, .ref a1, .null]))) fz3 hq (by omega)
  have fz5 := hup_tag (x := (t, .inr (3, [.ref qz1, .ref qz3, .ref qz5, .ref qz7, .ref a1, .null]))) fz5 hq (by omega)
  have fz7 := hup_tag (x := (t, .inr (3, [.ref qz1, .ref qz3, .ref qz5, .ref qz7, .ref a1, .null]))) fz7 hq (by omega)
  have hr3 := fun i hi => hup_tag (x := (t, .inr (3, [.ref qz1, .ref qz3, .ref qz5, .ref qz7, .ref a1, .null]))) (hr3 i hi) hq (by omega)
  have hr5 := fun i hi => hup_tag (x := (t, .inr (3, [.ref qz1, .ref qz3, .ref qz5, .ref qz7, .ref a1, .null]))) (hr5 i hi) hq (by omega)
  have hfr := hfr.put (x := (t, .inr (3, [.ref qz1, .ref qz3, .ref qz5, .ref qz7, .ref a1, .null]))) hq rfl
  have hq : hup Mz8 q0 (t, .inr (3, [.ref qz1, .ref qz3, .ref qz5, .ref qz7, .ref a1, .null])) q0 = some (t, .inr (3, [.ref qz1, .ref qz3, .ref qz5, .ref qz7, .ref a1, .null])) := hup_eq
  generalize hup Mz8 q0 (t, .inr (3, [.ref qz1, .ref qz3, .ref qz5, .ref qz7, .ref a1, .null])) = Mz9 at Y hq fz1 fz3 fz5 fz7 hr3 hr5 hfr
  refine lv_aload_n hx hb dX1_init_49 rfl (lv_at hl 0 rfl) ?_
  refine lv_aload_n hx hb dX1_init_50 rfl (lv_at hl 2 rfl) ?_
  refine h_putF X Y (k := 5) (v := .ref a2) hq rfl hin_X1 tyX1_ok nmX1 (by decide) kfl_X1_30 rfl rfl rfl rfl (Nat.le_of_ble_eq_true rfl) dX1_init_51 (fun H locs Y => ?_)
  have Y : hHS G (hup Mz9 q0 (t, .inr (3, [.ref qz1, .ref qz3, .ref qz5, .ref qz7, .ref a1, .ref a2]))) s H locs := Y
  have fz1 := hup_tag (x := (t, .inr (3, [.ref qz1, .ref qz3, .ref qz5, .ref qz7, .ref a1, .ref a2]))) fz1 hq (by omega)
  have fz3 := hup_tag (x := (t, .inr (3, [.ref qz1, .ref qz3, .ref qz5, .ref qz7, .ref a1, .ref a2]))) fz3 hq (by omega)
  have fz5 := hup_tag (x := (t, .inr (3, [.ref qz1, .ref qz3, .ref qz5, .ref qz7, .ref a1, .ref a2]))) fz5 hq (by omega)
  have fz7 := hup_tag (x := (t, .inr (3, [.ref qz1, .ref qz3, .ref qz5, .ref qz7, .ref a1, .ref a2]))) fz7 hq (by omega)
  have hr3 := fun i hi => hup_tag (x := (t, .inr (3, [.ref qz1, .ref qz3, .ref qz5, .ref qz7, .ref a1, .ref a2]))) (hr3 i hi) hq (by omega)
  have hr5 := fun i hi => hup_tag (x := (t, .inr (3, [.ref qz1, .ref qz3, .ref qz5, .ref qz7, .ref a1, .ref a2]))) (hr5 i hi) hq (by omega)
  have hfr := hfr.put (x := (t, .inr (3, [.ref qz1, .ref qz3, .ref qz5, .ref qz7, .ref a1, .ref a2]))) hq rfl
  have hq : hup Mz9 q0 (t, .inr (3, [.ref qz1, .ref qz3, .ref qz5, .ref qz7, .ref a1, .ref a2])) q0 = some (t, .inr (3, [.ref qz1, .ref qz3, .ref qz5, .ref qz7, .ref a1, .ref a2])) := hup_eq
  generalize hup Mz9 q0 (t, .inr (3, [.ref qz1, .ref qz3, .ref qz5, .ref qz7, .ref a1, .ref a2])) = Mz10 at Y hq fz1 fz3 fz5 fz7 hr3 hr5 hfr
  exact h_vret X Y ⟨rfl, qz1, qz3, qz5, qz7, rz3, rz5, hq, fz1, ⟨_, hh3, fz3⟩, hr3, ⟨_, hh5, fz5⟩, hr5, fz7, hfr⟩ (Nat.le_of_ble_eq_true rfl) (Nat.le_of_ble_eq_true rfl) dX1_init_54
theorem dX10_init_0 : decode cX10_init 0 = .ok (.aload_n 0, 1) := by decide +kernel
theorem dX10_init_1 : decode cX10_init 1 = .ok (.invokespecial 3, 3) := by decide +kernel
theorem dX10_init_4 : decode cX10_init 4 = .ok (.aload_n 0, 1) := by decide +kernel
theorem dX10_init_5 : decode cX10_init 5 = .ok (.bipush 10, 2) := by decide +kernel
theorem dX10_init_7 : decode cX10_init 7 = .ok (.bipush 10, 2) := by decide +kernel
theorem dX10_init_9 : decode cX10_init 9 = .ok (.multianewarray 9 2, 4) := by decide +kernel
theorem dX10_init_13 : decode cX10_init 13 = .ok (.putfield 11, 3) := by decide +kernel
theorem dX10_init_16 : decode cX10_init 16 = .ok (.aload_n 0, 1) := by decide +kernel
theorem dX10_init_17 : decode cX10_init 17 = .ok (.iconst 0, 1) := by decide +kernel
theorem dX10_init_18 : decode cX10_init 18 = .ok (.putfield 16, 3) := by decide +kernel
theorem dX10_init_21 : decode cX10_init 21 = .ok (.return_, 1) := by decide +kernel
set_option maxHeartbeats 400000 in
set_option maxRecDepth 100000 in
theorem c_triInit (l : Launch) (G : hG) (M : hM) (q0 t : Nat) (hq : M q0 = some (t, .inr (11, [.null, .int 0]))) : hCT l G yX10_init cX10_init 1 (Option.none) (hRm 2 11 110) M [.ref q0] (fun v M' => v = none ∧ ∃ (r1 : Nat) (b : Nat → Nat), M' q0 = some (t, .inr (11, [.ref r1, .int 0])) ∧ (∃ f : Nat → Option Nat, (∀ i, i < 10 → f i = some (b i)) ∧ M' r1 = some (t + 1, .inl (hT G 5, 10, .inr (.inr (.inr (.inr f)))))) ∧ (∀ i, i < 10 → M' (b i) = some (t + 2 + i, .inl (hT G 0, 10, .inl (fun _ => 0)))) ∧ hFr (fun u => u = t) M M') := by
  refine hCT.of (own := RX10) (nm := "<init>") (by decide) rfl rfl (Nat.le_of_ble_eq_true rfl) ?_
  intro p e s m args below meth c ls X Y hl
  have hx := X.1
  have hb := X.2.1
  have hl : lv_has ls 1 [(0, .ref q0)] := hl
  have hfr : hFr (fun u => u = t) M M := hFr.rf
  refine lv_aload_n hx hb dX10_init_0 rfl (lv_at hl 0 rfl) ?_
  refine h_objI X hl.1 kml_X10_3 (Nat.le_of_ble_eq_true rfl) (Nat.le_of_ble_eq_true rfl) dX10_init_1 ?_
  refine lv_aload_n hx hb dX10_init_4 rfl (lv_at hl 0 rfl) ?_
  refine lv_bipush (v := 10) hx hb dX10_init_5 (by decide) ?_
  refine lv_bipush (v := 10) hx hb dX10_init_7 (by decide) ?_
  refine h_mna X Y (t + 1) (t + 2) (n := 10) (k := 10) (by decide) (by decide) kcl_X10_9 (Nat.le_of_ble_eq_true rfl) (Nat.le_of_ble_eq_true rfl) dX10_init_9 (fun qz1 rz1 gz1 Mz1 H hh1 fz1 hr1 hg1 Y => ?_)
  have hq := hg1 _ _ hq
  have hfr := hfr.grow hg1
  refine h_putF X Y (k := 0) (v := .ref qz1) hq rfl hin_X10 tyX10_ok nmX10 (by decide) kfl_X10_11 rfl rfl rfl rfl (Nat.le_of_ble_eq_true rfl) dX10_init_13 (fun H locs Y => ?_)
  have Y : hHS G (hup Mz1 q0 (t, .inr (11, [.ref qz1, .int 0]))) s H locs := Y
  have fz1 := hup_tag (x := (t, .inr (11, [.ref qz1, .int 0]))) fz1 hq (by omega)
  have hr1 := fun i hi => hup_tag (x := (t, .inr (11, [.ref qz1, .int 0]))) (hr1 i hi) hq (by omega)
  have hfr := hfr.put (x := (t, .inr (11, [.ref qz1, .int 0]))) hq rfl
  have hq : hup Mz1 q0 (t, .inr (11, [.ref qz1, .int 0])) q0 = some (t, .inr (11, [.ref qz1, .int 0])) := hup_eq
  generalize hup Mz1 q0 (t, .inr (11, [.ref qz1, .int 0])) = Mz2 at Y hq fz1 hr1 hfr
  refine lv_aload_n hx hb dX10_init_16 rfl (lv_at hl 0 rfl) ?_
  refine lv_iconst (v := 0) hx hb dX10_init_17 (by decide) ?_
  refine h_put X Y (k := 1) (v := .int 0) hq rfl hin_X10 tyX10_ok nmX10 (by decide) kfl_X10_16 rfl rfl rfl (Nat.le_of_ble_eq_true rfl) dX10_init_18 (fun H locs Y => ?_)
  have Y : hHS G (hup Mz2 q0 (t, .inr (11, [.ref qz1, .int 0]))) s H locs := Y
  have fz1 := hup_tag (x := (t, .inr (11, [.ref qz1, .int 0]))) fz1 hq (by omega)
  have hr1 := fun i hi => hup_tag (x := (t, .inr (11, [.ref qz1, .int 0]))) (hr1 i hi) hq (by omega)
  have hfr := hfr.put (x := (t, .inr (11, [.ref qz1, .int 0]))) hq rfl
  have hq : hup Mz2 q0 (t, .inr (11, [.ref qz1, .int 0])) q0 = some (t, .inr (11, [.ref qz1, .int 0])) := hup_eq
  generalize hup Mz2 q0 (t, .inr (11, [.ref qz1, .int 0])) = Mz3 at Y hq fz1 hr1 hfr
  exact h_vret X Y ⟨rfl, qz1, rz1, hq, ⟨_, hh1, fz1⟩, hr1, hfr⟩ (Nat.le_of_ble_eq_true rfl) (Nat.le_of_ble_eq_true rfl) dX10_init_21
