theorem dJx4a65c_grow_92f84_0 : decode cJx4a65c_grow_92f84 0 = .ok (.aload_n 0, 1) := by decide +kernel
theorem dJx4a65c_grow_92f84_1 : decode cJx4a65c_grow_92f84 1 = .ok (.getfield 9, 3) := by decide +kernel
theorem dJx4a65c_grow_92f84_4 : decode cJx4a65c_grow_92f84 4 = .ok (.arraylength, 1) := by decide +kernel
theorem dJx4a65c_grow_92f84_5 : decode cJx4a65c_grow_92f84 5 = .ok (.istore_n 2, 1) := by decide +kernel
theorem dJx4a65c_grow_92f84_6 : decode cJx4a65c_grow_92f84 6 = .ok (.iload_n 2, 1) := by decide +kernel
theorem dJx4a65c_grow_92f84_7 : decode cJx4a65c_grow_92f84 7 = .ok (.ifCond .gt 13, 3) := by decide +kernel
theorem dJx4a65c_grow_92f84_10 : decode cJx4a65c_grow_92f84 10 = .ok (.aload_n 0, 1) := by decide +kernel
theorem dJx4a65c_grow_92f84_11 : decode cJx4a65c_grow_92f84 11 = .ok (.getfield 9, 3) := by decide +kernel
theorem dJx4a65c_grow_92f84_14 : decode cJx4a65c_grow_92f84 14 = .ok (.getstatic 39, 3) := by decide +kernel
theorem dJx4a65c_grow_92f84_17 : decode cJx4a65c_grow_92f84 17 = .ok (.if_acmp .eq 28, 3) := by decide +kernel
theorem dJx4a65c_grow_92f84_45 : decode cJx4a65c_grow_92f84 45 = .ok (.aload_n 0, 1) := by decide +kernel
theorem dJx4a65c_grow_92f84_46 : decode cJx4a65c_grow_92f84 46 = .ok (.bipush 10, 2) := by decide +kernel
theorem dJx4a65c_grow_92f84_48 : decode cJx4a65c_grow_92f84 48 = .ok (.iload_n 1, 1) := by decide +kernel
theorem dJx4a65c_grow_92f84_49 : decode cJx4a65c_grow_92f84 49 = .ok (.invokestatic 79, 3) := by decide +kernel
theorem dJx4a65c_grow_92f84_52 : decode cJx4a65c_grow_92f84 52 = .ok (.anewarray 7, 3) := by decide +kernel
theorem dJx4a65c_grow_92f84_55 : decode cJx4a65c_grow_92f84 55 = .ok (.dup_x1, 1) := by decide +kernel
theorem dJx4a65c_grow_92f84_56 : decode cJx4a65c_grow_92f84 56 = .ok (.putfield 9, 3) := by decide +kernel
theorem dJx4a65c_grow_92f84_59 : decode cJx4a65c_grow_92f84 59 = .ok (.areturn, 1) := by decide +kernel
set_option maxHeartbeats 400000 in
set_option maxRecDepth 100000 in
theorem c_growE (l : Launch) (G : hG) (M : hM) (a t te n cv : Nat) (mc : Int32) (e0 : Nat) (f : Nat → Option Nat) (ho : M a = some (t, .inr (2, [.int mc, .ref e0, .int (nI n)]))) (htt : t ≠ te) (hn : n < 40) (hE : n = 0 ∧ e0 = hDE G) : hCT l G yJx4a65c_grow_92f84 cJx4a65c_grow_92f84 4 (Option.some (FieldType.array (FieldType.object "java/lang/Object"))) (hRm 4 1 60) M [.ref a, .int (nI (n + 1))] (fun v M' => ∃ q cap f', v = some (.ref q) ∧ M' a = some (t, .inr (2, [.int mc, .ref q, .int (nI n)])) ∧ M' q = some (te, .inl (hT G 6, cap, .inr (.inr (.inr (.inr f'))))) ∧ n < cap ∧ 10 ≤ cap ∧ cap ≤ 60 ∧ (∀ i, i < n → f' i = f i) ∧ hFr (fun u => u = t ∨ u = te) M M') := by
  refine hCT.of (own := RJx4a65c) (nm := "grow") (by decide) rfl rfl (Nat.le_of_ble_eq_true rfl) ?_
  intro p e s m args below meth c ls X Y hl
  have hx := X.1
  have hb := X.2.1
  have hl : lv_has ls 4 [(0, .ref a), (1, .int (nI (n + 1)))] := hl
  obtain ⟨rfl, rfl⟩ := hE
  have hfr : hFr (fun u => u = t ∨ u = te) M M := hFr.rf
  refine lv_aload_n hx hb dJx4a65c_grow_92f84_0 rfl (lv_at hl 0 rfl) ?_
  refine h_get X Y (k := 1) (v := .ref (hDE G)) ho rfl hin_Jx4a65c (by decide) kfl_Jx4a65c_9 rfl dJx4a65c_grow_92f84_1 ?_
  refine h_lenT X Y (hDE_T X.2.2.2.2.2.2.2.2.1 X.2.2.2.2.2.2.2.2.2.1) dJx4a65c_grow_92f84_4 ?_
  refine lv_istore_n (lv' := [(2, .int (nI 0)), (0, .ref a), (1, .int (nI (0 + 1)))]) hx hb dJx4a65c_grow_92f84_5 rfl hl (by decide) rfl (fun ls hl => ?_)
  refine lv_iload_n hx hb dJx4a65c_grow_92f84_6 rfl (lv_at hl 0 rfl) ?_
  refine lv_if_gt (tgt := 20) hx hb dJx4a65c_grow_92f84_7 (by decide) (fun c7 => absurd (show 0 < 0 from (nI_ltI (a := 0) (b := 0) (by omega) (by omega)).mp c7) (by omega)) (fun c7 => ?_)
  refine lv_aload_n hx hb dJx4a65c_grow_92f84_10 rfl (lv_at hl 1 rfl) ?_
  refine h_get X Y (k := 1) (v := .ref (hDE G)) ho rfl hin_Jx4a65c (by decide) kfl_Jx4a65c_9 rfl dJx4a65c_grow_92f84_11 ?_
  refine h_gets X Y (hDE_Z X.2.2.2.2.2.2.2.2.1 X.2.2.2.2.2.2.2.2.2.1) kfl_Jx4a65c_39 dJx4a65c_grow_92f84_14 ?_
  refine lv_acmp_eq (rx := some (hDE G)) (ry := some (hDE G)) (tgt := 45) hx hb dJx4a65c_grow_92f84_17 (by decide) (fun c17 => ?_) (fun c17 => absurd rfl c17)
  refine lv_aload_n hx hb dJx4a65c_grow_92f84_45 rfl (lv_at hl 1 rfl) ?_
  refine lv_bipush (v := 10) hx hb dJx4a65c_grow_92f84_46 (by decide) ?_
  refine lv_iload_n hx hb dJx4a65c_grow_92f84_48 rfl (lv_at hl 2 rfl) ?_
  refine h_mmax X kml_Jx4a65c_79 hl.1 (Nat.le_of_ble_eq_true rfl) (Nat.le_of_ble_eq_true rfl) ⟨Nat.le_of_ble_eq_true rfl, Nat.le_of_ble_eq_true rfl⟩ dJx4a65c_grow_92f84_49 ?_
  refine h_ev (y := 10) (t_max10 (0 + 1) (by decide)) ?_
  refine h_newq 6 X Y (te) (n := 10) (by decide) kcl_Jx4a65c_7 (t_ao X.2.2.2.2.2.2.2.2.1 X.2.2.2.2.2.2.2.2.2.1) rfl (Nat.le_of_ble_eq_true rfl) (Nat.le_of_ble_eq_true rfl) dJx4a65c_grow_92f84_52 (fun qz1 Mz1 H fz1 hg1 Y => ?_)
  have ho := hg1 _ _ ho
  have hfr := hfr.grow hg1
  refine lv_dup_x1 hx hb dJx4a65c_grow_92f84_55 rfl rfl ?_
  refine h_put X Y (k := 1) (v := .ref qz1) ho rfl hin_Jx4a65c tyJx4a65c_ok nmJx4a65c (by decide) kfl_Jx4a65c_9 rfl rfl rfl (Nat.le_of_ble_eq_true rfl) dJx4a65c_grow_92f84_56 (fun H locs Y => ?_)
  have Y : hHS G (hup Mz1 a (t, .inr (2, [.int mc, .ref qz1, .int (nI 0)]))) s H locs := Y
  have fz1 := hup_tag (x := (t, .inr (2, [.int mc, .ref qz1, .int (nI 0)]))) fz1 ho (by omega)
  have hfr := hfr.put (x := (t, .inr (2, [.int mc, .ref qz1, .int (nI 0)]))) ho (Or.inl rfl)
  have ho : hup Mz1 a (t, .inr (2, [.int mc, .ref qz1, .int (nI 0)])) a = some (t, .inr (2, [.int mc, .ref qz1, .int (nI 0)])) := hup_eq
  generalize hup Mz1 a (t, .inr (2, [.int mc, .ref qz1, .int (nI 0)])) = Mz2 at Y ho fz1 hfr
  exact h_aret (v := some qz1) X Y (Or.inr ⟨_, rfl⟩) ⟨qz1, 10, _, rfl, ho, fz1, by omega, by omega, by omega, fun i hi => absurd hi (by omega), hfr⟩ (Nat.le_of_ble_eq_true rfl) (Nat.le_of_ble_eq_true rfl) dJx4a65c_grow_92f84_59
theorem gw_Jx4a65c_73 : GoodIn hGW (va_wsS RJx4a65c 73 yJ8_newLength_cabcc (Cond.code yJ8_newLength_cabcc cJ8_newLength_cabcc 4 (Option.some FieldType.int) :: hGW)) := hgi3 kml_Jx4a65c_73 kst_J8_newLength_cabcc kini_J8 kco_J8_newLength_cabcc
theorem dsc_J8_newLength_cabcc : yJ8_newLength_cabcc.cls = RJ8 ∧ yJ8_newLength_cabcc.cls ≠ "java/lang/invoke/MethodHandle" ∧ yJ8_newLength_cabcc.cls ≠ "java/lang/invoke/VarHandle" ∧ (parseMethodDescriptor yJ8_newLength_cabcc.desc).map (fun d => d.parameters.length) = some 3 := ⟨rfl, by decide +kernel, by decide +kernel, by decide +kernel⟩
theorem gw_Jx4a65c_66 : GoodIn hGW (va_wsS RJx4a65c 66 yJ7_copyOf_1904c (Cond.code yJ7_copyOf_1904c cJ7_copyOf_1904c 2 (Option.some (FieldType.array (FieldType.object "java/lang/Object"))) :: hGW)) := hgi3 kml_Jx4a65c_66 kst_J7_copyOf_1904c kini_J7 kco_J7_copyOf_1904c
theorem dsc_J7_copyOf_1904c : yJ7_copyOf_1904c.cls = RJ7 ∧ yJ7_copyOf_1904c.cls ≠ "java/lang/invoke/MethodHandle" ∧ yJ7_copyOf_1904c.cls ≠ "java/lang/invoke/VarHandle" ∧ (parseMethodDescriptor yJ7_copyOf_1904c.desc).map (fun d => d.parameters.length) = some 2 := ⟨rfl, by decide +kernel, by decide +kernel, by decide +kernel⟩
theorem dJx4a65c_grow_92f84_20 : decode cJx4a65c_grow_92f84 20 = .ok (.iload_n 2, 1) := by decide +kernel
theorem dJx4a65c_grow_92f84_21 : decode cJx4a65c_grow_92f84 21 = .ok (.iload_n 1, 1) := by decide +kernel
theorem dJx4a65c_grow_92f84_22 : decode cJx4a65c_grow_92f84 22 = .ok (.iload_n 2, 1) := by decide +kernel
theorem dJx4a65c_grow_92f84_23 : decode cJx4a65c_grow_92f84 23 = .ok (.isub, 1) := by decide +kernel
theorem dJx4a65c_grow_92f84_24 : decode cJx4a65c_grow_92f84 24 = .ok (.iload_n 2, 1) := by decide +kernel
theorem dJx4a65c_grow_92f84_25 : decode cJx4a65c_grow_92f84 25 = .ok (.iconst 1, 1) := by decide +kernel
theorem dJx4a65c_grow_92f84_26 : decode cJx4a65c_grow_92f84 26 = .ok (.ishr, 1) := by decide +kernel
theorem dJx4a65c_grow_92f84_27 : decode cJx4a65c_grow_92f84 27 = .ok (.invokestatic 73, 3) := by decide +kernel
theorem dJx4a65c_grow_92f84_30 : decode cJx4a65c_grow_92f84 30 = .ok (.istore_n 3, 1) := by decide +kernel
theorem dJx4a65c_grow_92f84_31 : decode cJx4a65c_grow_92f84 31 = .ok (.aload_n 0, 1) := by decide +kernel
theorem dJx4a65c_grow_92f84_32 : decode cJx4a65c_grow_92f84 32 = .ok (.aload_n 0, 1) := by decide +kernel
theorem dJx4a65c_grow_92f84_33 : decode cJx4a65c_grow_92f84 33 = .ok (.getfield 9, 3) := by decide +kernel
theorem dJx4a65c_grow_92f84_36 : decode cJx4a65c_grow_92f84 36 = .ok (.iload_n 3, 1) := by decide +kernel
theorem dJx4a65c_grow_92f84_37 : decode cJx4a65c_grow_92f84 37 = .ok (.invokestatic 66, 3) := by decide +kernel
theorem dJx4a65c_grow_92f84_40 : decode cJx4a65c_grow_92f84 40 = .ok (.dup_x1, 1) := by decide +kernel
theorem dJx4a65c_grow_92f84_41 : decode cJx4a65c_grow_92f84 41 = .ok (.putfield 9, 3) := by decide +kernel
theorem dJx4a65c_grow_92f84_44 : decode cJx4a65c_grow_92f84 44 = .ok (.areturn, 1) := by decide +kernel
set_option maxHeartbeats 400000 in
set_option maxRecDepth 100000 in
theorem c_growF (l : Launch) (G : hG) (M : hM) (a t te n cv : Nat) (mc : Int32) (e0 : Nat) (f : Nat → Option Nat) (ho : M a = some (t, .inr (2, [.int mc, .ref e0, .int (nI n)]))) (htt : t ≠ te) (hn : n < 40) (hc10 : 10 ≤ n) (he0 : M e0 = some (te, .inl (hT G 6, n, .inr (.inr (.inr (.inr f)))))) (hcv : tCa cv) (hel : ∀ i : Nat, i < n → ∃ (y w : Nat) (fs : List Value), f i = some y ∧ w ≠ t ∧ w ≠ te ∧ M y = some (w, .inr (cv, fs))) : hCT l G yJx4a65c_grow_92f84 cJx4a65c_grow_92f84 4 (Option.some (FieldType.array (FieldType.object "java/lang/Object"))) (hRm 4 1 60) M [.ref a, .int (nI (n + 1))] (fun v M' => ∃ q cap f', v = some (.ref q) ∧ M' a = some (t, .inr (2, [.int mc, .ref q, .int (nI n)])) ∧ M' q = some (te, .inl (hT G 6, cap, .inr (.inr (.inr (.inr f'))))) ∧ n < cap ∧ 10 ≤ cap ∧ cap ≤ 60 ∧ (∀ i, i < n → f' i = f i) ∧ hFr (fun u => u = t ∨ u = te) M M') := by
  refine hCT.of (own := RJx4a65c) (nm := "grow") (by decide) rfl rfl (Nat.le_of_ble_eq_true rfl) ?_
  intro p e s m args below meth c ls X Y hl
  have hx := X.1
  have hb := X.2.1
  have hl : lv_has ls 4 [(0, .ref a), (1, .int (nI (n + 1)))] := hl
  have hfr : hFr (fun u => u = t ∨ u = te) M M := hFr.rf
  refine lv_aload_n hx hb dJx4a65c_grow_92f84_0 rfl (lv_at hl 0 rfl) ?_
  refine h_get X Y (k := 1) (v := .ref e0) ho rfl hin_Jx4a65c (by decide) kfl_Jx4a65c_9 rfl dJx4a65c_grow_92f84_1 ?_
  refine h_alen X Y 6 he0 rfl dJx4a65c_grow_92f84_4 ?_
  refine lv_istore_n (lv' := [(2, .int (nI n)), (0, .ref a), (1, .int (nI (n + 1)))]) hx hb dJx4a65c_grow_92f84_5 rfl hl (by decide) rfl (fun ls hl => ?_)
  refine lv_iload_n hx hb dJx4a65c_grow_92f84_6 rfl (lv_at hl 0 rfl) ?_
  refine lv_if_gt (tgt := 20) hx hb dJx4a65c_grow_92f84_7 (by decide) (fun c7 => ?_) (fun c7 => absurd (show ¬ 0 < n from fun z9 => c7 ((nI_ltI (a := 0) (b := n) (by omega) (by omega)).mpr z9)) (by omega))
  have c7 : 0 < n := (nI_ltI (a := 0) (b := n) (by omega) (by omega)).mp c7
  refine lv_iload_n hx hb dJx4a65c_grow_92f84_20 rfl (lv_at hl 0 rfl) ?_
  refine lv_iload_n hx hb dJx4a65c_grow_92f84_21 rfl (lv_at hl 2 rfl) ?_
  refine lv_iload_n hx hb dJx4a65c_grow_92f84_22 rfl (lv_at hl 0 rfl) ?_
  refine lv_isub hx hb dJx4a65c_grow_92f84_23 ?_
  refine h_ev (y := nI 1) ((pk_sub (show n ≤ n + 1 by omega)).trans (congrArg nI (by omega))) ?_
  refine lv_iload_n hx hb dJx4a65c_grow_92f84_24 rfl (lv_at hl 0 rfl) ?_
  refine lv_iconst (v := 1) hx hb dJx4a65c_grow_92f84_25 (by decide) ?_
  refine lv_ishr hx hb dJx4a65c_grow_92f84_26 ?_
  refine h_ev (y := nI (n / 2)) (t_half n (by omega)) ?_
  refine h_callSr (rest := []) X Y (c_newLength l G M n (n / 2) (by omega) (by omega)) rfl rfl gw_Jx4a65c_73 dsc_J8_newLength_cabcc.2 rfl rfl hl.1 (Nat.le_of_ble_eq_true rfl) ⟨Nat.le_of_ble_eq_true rfl, Nat.le_of_ble_eq_true rfl⟩ ⟨Nat.le_of_ble_eq_true rfl, Nat.le_of_ble_eq_true rfl⟩ dJx4a65c_grow_92f84_27 (fun H locs Y => ?_)
  refine lv_istore_n (lv' := [(3, .int (nI (n + max 1 (n / 2)))), (2, .int (nI n)), (0, .ref a), (1, .int (nI (n + 1)))]) hx hb dJx4a65c_grow_92f84_30 rfl hl (by decide) rfl (fun ls hl => ?_)
  refine lv_aload_n hx hb dJx4a65c_grow_92f84_31 rfl (lv_at hl 2 rfl) ?_
  refine lv_aload_n hx hb dJx4a65c_grow_92f84_32 rfl (lv_at hl 2 rfl) ?_
  refine h_get X Y (k := 1) (v := .ref e0) ho rfl hin_Jx4a65c (by decide) kfl_Jx4a65c_9 rfl dJx4a65c_grow_92f84_33 ?_
  refine lv_iload_n hx hb dJx4a65c_grow_92f84_36 rfl (lv_at hl 0 rfl) ?_
  refine h_callS (rest := [.ref a]) X Y (c_copyOf2 l G M e0 te te (n + max 1 (n / 2)) n cv f he0 (by omega) (by omega) hcv (fun i hi => by obtain ⟨y, w, fs, e1, -, -, e2⟩ := hel i hi; exact ⟨y, w, fs, e1, e2⟩)) gw_Jx4a65c_66 dsc_J7_copyOf_1904c.2 rfl hl.1 rfl (Nat.le_of_ble_eq_true rfl) ⟨Nat.le_of_ble_eq_true rfl, Nat.le_of_ble_eq_true rfl⟩ ⟨(by show 0 + 1 ≤ 1; omega), (by show 0 + (n + max 1 (n / 2)) ≤ 60; omega)⟩ dJx4a65c_grow_92f84_37 ?_
  rintro _ M1 H locs ⟨q, rfl, hq9, hf1⟩ Y
  try dsimp only [Option.toList, List.singleton_append]
  have ho := hf1 _ _ _ ho htt
  have hfr : hFr (fun u => u = t ∨ u = te) M M1 := hf1.mono (fun _ z => Or.inr z)
  refine lv_dup_x1 hx hb dJx4a65c_grow_92f84_40 rfl rfl ?_
  refine h_put X Y (k := 1) (v := .ref q) ho rfl hin_Jx4a65c tyJx4a65c_ok nmJx4a65c (by decide) kfl_Jx4a65c_9 rfl rfl rfl (Nat.le_of_ble_eq_true rfl) dJx4a65c_grow_92f84_41 (fun H locs Y => ?_)
  have Y : hHS G (hup M1 a (t, .inr (2, [.int mc, .ref q, .int (nI n)]))) s H locs := Y
  have hq9 := hup_tag (x := (t, .inr (2, [.int mc, .ref q, .int (nI n)]))) hq9 ho (by omega)
  have hfr := hfr.put (x := (t, .inr (2, [.int mc, .ref q, .int (nI n)]))) ho (Or.inl rfl)
  have ho : hup M1 a (t, .inr (2, [.int mc, .ref q, .int (nI n)])) a = some (t, .inr (2, [.int mc, .ref q, .int (nI n)])) := hup_eq
  generalize hup M1 a (t, .inr (2, [.int mc, .ref q, .int (nI n)])) = Mz1 at Y ho hq9 hfr
  exact h_aret (v := some q) X Y (Or.inr ⟨_, rfl⟩) ⟨q, n + max 1 (n / 2), _, rfl, ho, hq9, by omega, by omega, by omega, fun i hi => if_pos hi, hfr⟩ (by show 0 + 1 ≤ 1; omega) (by show 0 + (n + max 1 (n / 2)) ≤ 60; omega) dJx4a65c_grow_92f84_44
theorem gw_Jx4a65c_69 : GoodIn hGW (wsV RJx4a65c 69 RJx4a65c yJx4a65c_grow_92f84 (Cond.code yJx4a65c_grow_92f84 cJx4a65c_grow_92f84 4 (Option.some (FieldType.array (FieldType.object "java/lang/Object"))) :: hGW)) := hgi4 kml_Jx4a65c_69 kin_Jx4a65c_grow_92f84 kse_Jx4a65c_Jx4a65c_grow_92f84_Jx4a65c_grow_92f84 kini_Jx4a65c kco_Jx4a65c_grow_92f84
theorem dsc_Jx4a65c_grow_92f84 : yJx4a65c_grow_92f84.cls = RJx4a65c ∧ yJx4a65c_grow_92f84.cls ≠ "java/lang/invoke/MethodHandle" ∧ yJx4a65c_grow_92f84.cls ≠ "java/lang/invoke/VarHandle" ∧ (parseMethodDescriptor yJx4a65c_grow_92f84.desc).map (fun d => d.parameters.length) = some 1 := ⟨rfl, by decide +kernel, by decide +kernel, by decide +kernel⟩
theorem dJx4a65c_grow_d5877_0 : decode cJx4a65c_grow_d5877 0 = .ok (.aload_n 0, 1) := by decide +kernel
theorem dJx4a65c_grow_d5877_1 : decode cJx4a65c_grow_d5877 1 = .ok (.aload_n 0, 1) := by decide +kernel
theorem dJx4a65c_grow_d5877_2 : decode cJx4a65c_grow_d5877 2 = .ok (.getfield 48, 3) := by decide +kernel
theorem dJx4a65c_grow_d5877_5 : decode cJx4a65c_grow_d5877 5 = .ok (.iconst 1, 1) := by decide +kernel
theorem dJx4a65c_grow_d5877_6 : decode cJx4a65c_grow_d5877 6 = .ok (.iadd, 1) := by decide +kernel
theorem dJx4a65c_grow_d5877_7 : decode cJx4a65c_grow_d5877 7 = .ok (.invokevirtual 69, 3) := by decide +kernel
theorem dJx4a65c_grow_d5877_10 : decode cJx4a65c_grow_d5877 10 = .ok (.areturn, 1) := by decide +kernel
set_option maxHeartbeats 400000 in
set_option maxRecDepth 100000 in
theorem c_grow0E (l : Launch) (G : hG) (M : hM) (a t te n cv : Nat) (mc : Int32) (e0 : Nat) (f : Nat → Option Nat) (ho : M a = some (t, .inr (2, [.int mc, .ref e0, .int (nI n)]))) (htt : t ≠ te) (hn : n < 40) (hE : n = 0 ∧ e0 = hDE G) : hCT l G yJx4a65c_grow_d5877 cJx4a65c_grow_d5877 1 (Option.some (FieldType.array (FieldType.object "java/lang/Object"))) (hRm 5 1 60) M [.ref a] (fun v M' => ∃ q cap f', v = some (.ref q) ∧ M' a = some (t, .inr (2, [.int mc, .ref q, .int (nI n)])) ∧ M' q = some (te, .inl (hT G 6, cap, .inr (.inr (.inr (.inr f'))))) ∧ n < cap ∧ 10 ≤ cap ∧ cap ≤ 60 ∧ (∀ i, i < n → f' i = f i) ∧ hFr (fun u => u = t ∨ u = te) M M') := by
  refine hCT.of (own := RJx4a65c) (nm := "grow") (by decide) rfl rfl (Nat.le_of_ble_eq_true rfl) ?_
  intro p e s m args below meth c ls X Y hl
  have hx := X.1
  have hb := X.2.1
  have hl : lv_has ls 1 [(0, .ref a)] := hl
  refine lv_aload_n hx hb dJx4a65c_grow_d5877_0 rfl (lv_at hl 0 rfl) ?_
  refine lv_aload_n hx hb dJx4a65c_grow_d5877_1 rfl (lv_at hl 0 rfl) ?_
  refine h_get X Y (k := 2) (v := .int (nI n)) ho rfl hin_Jx4a65c (by decide) kfl_Jx4a65c_48 rfl dJx4a65c_grow_d5877_2 ?_
  refine lv_iconst (v := 1) hx hb dJx4a65c_grow_d5877_5 (by decide) ?_
  refine lv_iadd hx hb dJx4a65c_grow_d5877_6 ?_
  refine h_ev (y := nI (n + 1)) (nI_1 n) ?_
  refine h_callV (rest := []) X Y (c_growE l G M a t te n cv mc e0 f ho htt hn hE) gw_Jx4a65c_69 dsc_Jx4a65c_grow_92f84 ho rfl rfl rfl hl.1 rfl (Nat.le_of_ble_eq_true rfl) ⟨Nat.le_of_ble_eq_true rfl, Nat.le_of_ble_eq_true rfl⟩ ⟨Nat.le_of_ble_eq_true rfl, Nat.le_of_ble_eq_true rfl⟩ dJx4a65c_grow_d5877_7 ?_
  rintro _ M1 H locs ⟨q, cap, f1, rfl, ho, hq9, h1, h2, h3, h4, hfr⟩ Y
  try dsimp only [Option.toList, List.singleton_append]
  exact h_aret (v := some q) X Y (Or.inr ⟨_, rfl⟩) ⟨q, cap, f1, rfl, ho, hq9, h1, h2, h3, h4, hfr⟩ (Nat.le_of_ble_eq_true rfl) (Nat.le_of_ble_eq_true rfl) dJx4a65c_grow_d5877_10
set_option maxHeartbeats 400000 in
set_option maxRecDepth 100000 in
theorem c_grow0F (l : Launch) (G : hG) (M : hM) (a t te n cv : Nat) (mc : Int32) (e0 : Nat) (f : Nat → Option Nat) (ho : M a = some (t, .inr (2, [.int mc, .ref e0, .int (nI n)]))) (htt : t ≠ te) (hn : n < 40) (hc10 : 10 ≤ n) (he0 : M e0 = some (te, .inl (hT G 6, n, .inr (.inr (.inr (.inr f)))))) (hcv : tCa cv) (hel : ∀ i : Nat, i < n → ∃ (y w : Nat) (fs : List Value), f i = some y ∧ w ≠ t ∧ w ≠ te ∧ M y = some (w, .inr (cv, fs))) : hCT l G yJx4a65c_grow_d5877 cJx4a65c_grow_d5877 1 (Option.some (FieldType.array (FieldType.object "java/lang/Object"))) (hRm 5 1 60) M [.ref a] (fun v M' => ∃ q cap f', v = some (.ref q) ∧ M' a = some (t, .inr (2, [.int mc, .ref q, .int (nI n)])) ∧ M' q = some (te, .inl (hT G 6, cap, .inr (.inr (.inr (.inr f'))))) ∧ n < cap ∧ 10 ≤ cap ∧ cap ≤ 60 ∧ (∀ i, i < n → f' i = f i) ∧ hFr (fun u => u = t ∨ u = te) M M') := by
  refine hCT.of (own := RJx4a65c) (nm := "grow") (by decide) rfl rfl (Nat.le_of_ble_eq_true rfl) ?_
  intro p e s m args below meth c ls X Y hl
  have hx := X.1
  have hb := X.2.1
  have hl : lv_has ls 1 [(0, .ref a)] := hl
  refine lv_aload_n hx hb dJx4a65c_grow_d5877_0 rfl (lv_at hl 0 rfl) ?_
  refine lv_aload_n hx hb dJx4a65c_grow_d5877_1 rfl (lv_at hl 0 rfl) ?_
  refine h_get X Y (k := 2) (v := .int (nI n)) ho rfl hin_Jx4a65c (by decide) kfl_Jx4a65c_48 rfl dJx4a65c_grow_d5877_2 ?_
  refine lv_iconst (v := 1) hx hb dJx4a65c_grow_d5877_5 (by decide) ?_
  refine lv_iadd hx hb dJx4a65c_grow_d5877_6 ?_
  refine h_ev (y := nI (n + 1)) (nI_1 n) ?_
  refine h_callV (rest := []) X Y (c_growF l G M a t te n cv mc e0 f ho htt hn hc10 he0 hcv hel) gw_Jx4a65c_69 dsc_Jx4a65c_grow_92f84 ho rfl rfl rfl hl.1 rfl (Nat.le_of_ble_eq_true rfl) ⟨Nat.le_of_ble_eq_true rfl, Nat.le_of_ble_eq_true rfl⟩ ⟨Nat.le_of_ble_eq_true rfl, Nat.le_of_ble_eq_true rfl⟩ dJx4a65c_grow_d5877_7 ?_
  rintro _ M1 H locs ⟨q, cap, f1, rfl, ho, hq9, h1, h2, h3, h4, hfr⟩ Y
  try dsimp only [Option.toList, List.singleton_append]
  exact h_aret (v := some q) X Y (Or.inr ⟨_, rfl⟩) ⟨q, cap, f1, rfl, ho, hq9, h1, h2, h3, h4, hfr⟩ (Nat.le_of_ble_eq_true rfl) (Nat.le_of_ble_eq_true rfl) dJx4a65c_grow_d5877_10
theorem gw_Jx4a65c_129 : GoodIn hGW (wsV RJx4a65c 129 RJx4a65c yJx4a65c_grow_d5877 (Cond.code yJx4a65c_grow_d5877 cJx4a65c_grow_d5877 1 (Option.some (FieldType.array (FieldType.object "java/lang/Object"))) :: hGW)) := hgi4 kml_Jx4a65c_129 kin_Jx4a65c_grow_d5877 kse_Jx4a65c_Jx4a65c_grow_d5877_Jx4a65c_grow_d5877 kini_Jx4a65c kco_Jx4a65c_grow_d5877
theorem dsc_Jx4a65c_grow_d5877 : yJx4a65c_grow_d5877.cls = RJx4a65c ∧ yJx4a65c_grow_d5877.cls ≠ "java/lang/invoke/MethodHandle" ∧ yJx4a65c_grow_d5877.cls ≠ "java/lang/invoke/VarHandle" ∧ (parseMethodDescriptor yJx4a65c_grow_d5877.desc).map (fun d => d.parameters.length) = some 0 := ⟨rfl, by decide +kernel, by decide +kernel, by decide +kernel⟩
theorem dJx4a65c_add_72be8_0 : decode cJx4a65c_add_72be8 0 = .ok (.iload_n 3, 1) := by decide +kernel
theorem dJx4a65c_add_72be8_1 : decode cJx4a65c_add_72be8 1 = .ok (.aload_n 2, 1) := by decide +kernel
theorem dJx4a65c_add_72be8_2 : decode cJx4a65c_add_72be8 2 = .ok (.arraylength, 1) := by decide +kernel
theorem dJx4a65c_add_72be8_3 : decode cJx4a65c_add_72be8 3 = .ok (.if_icmp .ne 8, 3) := by decide +kernel
theorem dJx4a65c_add_72be8_6 : decode cJx4a65c_add_72be8 6 = .ok (.aload_n 0, 1) := by decide +kernel
theorem dJx4a65c_add_72be8_7 : decode cJx4a65c_add_72be8 7 = .ok (.invokevirtual 129, 3) := by decide +kernel
theorem dJx4a65c_add_72be8_10 : decode cJx4a65c_add_72be8 10 = .ok (.astore_n 2, 1) := by decide +kernel
theorem dJx4a65c_add_72be8_11 : decode cJx4a65c_add_72be8 11 = .ok (.aload_n 2, 1) := by decide +kernel
theorem dJx4a65c_add_72be8_12 : decode cJx4a65c_add_72be8 12 = .ok (.iload_n 3, 1) := by decide +kernel
theorem dJx4a65c_add_72be8_13 : decode cJx4a65c_add_72be8 13 = .ok (.aload_n 1, 1) := by decide +kernel
theorem dJx4a65c_add_72be8_14 : decode cJx4a65c_add_72be8 14 = .ok (.aastore, 1) := by decide +kernel
theorem dJx4a65c_add_72be8_15 : decode cJx4a65c_add_72be8 15 = .ok (.aload_n 0, 1) := by decide +kernel
theorem dJx4a65c_add_72be8_16 : decode cJx4a65c_add_72be8 16 = .ok (.iload_n 3, 1) := by decide +kernel
theorem dJx4a65c_add_72be8_17 : decode cJx4a65c_add_72be8 17 = .ok (.iconst 1, 1) := by decide +kernel
theorem dJx4a65c_add_72be8_18 : decode cJx4a65c_add_72be8 18 = .ok (.iadd, 1) := by decide +kernel
theorem dJx4a65c_add_72be8_19 : decode cJx4a65c_add_72be8 19 = .ok (.putfield 48, 3) := by decide +kernel
theorem dJx4a65c_add_72be8_22 : decode cJx4a65c_add_72be8 22 = .ok (.return_, 1) := by decide +kernel
set_option maxHeartbeats 400000 in
set_option maxRecDepth 100000 in
theorem c_add72 (l : Launch) (G : hG) (M : hM) (a t te n cv v0 tv : Nat) (mc : Int32) (e0 : Nat) (g : Nat → Nat) (vs : List Value) (ho : M a = some (t, .inr (2, [.int mc, .ref e0, .int (nI n)]))) (htt : t ≠ te) (hn : n < 40) (hcv : tCa cv) (hel : tEl M t te cv n g) (hv : M v0 = some (tv, .inr (cv, vs))) (hv1 : tv ≠ t) (hv2 : tv ≠ te) (hE : (n = 0 ∧ e0 = hDE G) ∨ ∃ (cap : Nat) (f : Nat → Option Nat), M e0 = some (te, .inl (hT G 6, cap, .inr (.inr (.inr (.inr f))))) ∧ n ≤ cap ∧ 10 ≤ cap ∧ cap ≤ 1000 ∧ ∀ i, i < n → f i = some (g i)) : hCT l G yJx4a65c_add_72be8 cJx4a65c_add_72be8 4 (Option.none) (hRm 6 1 60) M [.ref a, .ref v0, .ref e0, .int (nI n)] (fun v M' => v = none ∧ ∃ q cap f, M' a = some (t, .inr (2, [.int mc, .ref q, .int (nI (n + 1))])) ∧ M' q = some (te, .inl (hT G 6, cap, .inr (.inr (.inr (.inr f))))) ∧ n + 1 ≤ cap ∧ 10 ≤ cap ∧ cap ≤ 1000 ∧ (∀ i, i < n → f i = some (g i)) ∧ f n = some v0 ∧ hFr (fun u => u = t ∨ u = te) M M') := by
  refine hCT.of (own := RJx4a65c) (nm := "add") (by decide) rfl rfl (Nat.le_of_ble_eq_true rfl) ?_
  intro p e s m args below meth c ls X Y hl
  have hx := X.1
  have hb := X.2.1
  have hl : lv_has ls 4 [(0, .ref a), (1, .ref v0), (2, .ref e0), (3, .int (nI n))] := hl
  obtain ⟨r, hr1, hr2⟩ := hcv.at X.2.2.2.2.2.2.2.2.1 X.2.2.2.2.2.2.2.2.2.1
  have hfr : hFr (fun u => u = t ∨ u = te) M M := hFr.rf
  rcases hE with hE | ⟨cap, f, he0, hnc, hc10, hc1, hf⟩
  · skip
    refine lv_iload_n hx hb dJx4a65c_add_72be8_0 rfl (lv_at hl 3 rfl) ?_
    refine lv_aload_n hx hb dJx4a65c_add_72be8_1 rfl (lv_at hl 2 rfl) ?_
    refine W.eq (g2 := F0 m 2 ls [.ref (hDE G), .int (nI n)]) (by rw [hE.2]) ?_
    refine h_lenT X Y (hDE_T X.2.2.2.2.2.2.2.2.1 X.2.2.2.2.2.2.2.2.2.1) dJx4a65c_add_72be8_2 ?_
    refine lv_icmp_ne (tgt := 11) hx hb dJx4a65c_add_72be8_3 (by decide) (fun c3 => absurd (congrArg nI hE.1) c3) (fun c3 => ?_)
    have c3 : n = 0 := (nI_eq (a := n) (b := 0) (by omega) (by omega)).mp c3
    refine lv_aload_n hx hb dJx4a65c_add_72be8_6 rfl (lv_at hl 0 rfl) ?_
    refine h_callV (rest := []) X Y (c_grow0E l G M a t te n cv mc e0 (fun _ => none) ho htt hn hE) gw_Jx4a65c_129 dsc_Jx4a65c_grow_d5877 ho rfl rfl rfl hl.1 rfl (Nat.le_of_ble_eq_true rfl) ⟨Nat.le_of_ble_eq_true rfl, Nat.le_of_ble_eq_true rfl⟩ ⟨Nat.le_of_ble_eq_true rfl, Nat.le_of_ble_eq_true rfl⟩ dJx4a65c_add_72be8_7 ?_
    rintro _ M1 H locs ⟨q, cap, f1, rfl, ho, hq9, h1, h2, h3, h4, hfr⟩ Y
    try dsimp only [Option.toList, List.singleton_append]
    have hv := hfr _ _ _ hv (fun z => z.elim hv1 hv2)
    have hff : ∀ i, i < n → f1 i = some (g i) := fun i hi => absurd hi (by omega)
    refine lv_astore_n (lv' := [(2, .ref q), (0, .ref a), (1, .ref v0), (3, .int (nI n))]) hx hb dJx4a65c_add_72be8_10 rfl hl (by decide) rfl (fun ls hl => ?_)
    refine lv_aload_n hx hb dJx4a65c_add_72be8_11 rfl (lv_at hl 0 rfl) ?_
    refine lv_iload_n hx hb dJx4a65c_add_72be8_12 rfl (lv_at hl 3 rfl) ?_
    refine lv_aload_n hx hb dJx4a65c_add_72be8_13 rfl (lv_at hl 2 rfl) ?_
    refine h_aast 6 X Y (i := n) hq9 rfl hv hr1 hr2 (by omega) (by omega) dJx4a65c_add_72be8_14 (fun H locs Y => ?_)
    have ho := hup_tag (x := (te, .inl (hT G 6, cap, .inr (.inr (.inr (.inr (va_up f1 n (some v0)))))))) ho hq9 (by omega)
    have hv := hup_tag (x := (te, .inl (hT G 6, cap, .inr (.inr (.inr (.inr (va_up f1 n (some v0)))))))) hv hq9 (by omega)
    have hfr := hfr.put (x := (te, .inl (hT G 6, cap, .inr (.inr (.inr (.inr (va_up f1 n (some v0)))))))) hq9 (Or.inr rfl)
    have hq9 : hup M1 q (te, .inl (hT G 6, cap, .inr (.inr (.inr (.inr (va_up f1 n (some v0))))))) q = some (te, .inl (hT G 6, cap, .inr (.inr (.inr (.inr (va_up f1 n (some v0))))))) := hup_eq
    generalize hup M1 q (te, .inl (hT G 6, cap, .inr (.inr (.inr (.inr (va_up f1 n (some v0))))))) = Mz1 at Y hq9 ho hv hfr
    refine lv_aload_n hx hb dJx4a65c_add_72be8_15 rfl (lv_at hl 1 rfl) ?_
    refine lv_iload_n hx hb dJx4a65c_add_72be8_16 rfl (lv_at hl 3 rfl) ?_
    refine lv_iconst (v := 1) hx hb dJx4a65c_add_72be8_17 (by decide) ?_
    refine lv_iadd hx hb dJx4a65c_add_72be8_18 ?_
    refine h_ev (y := nI (n + 1)) (nI_1 n) ?_
    refine h_put X Y (k := 2) (v := .int (nI (n + 1))) ho rfl hin_Jx4a65c tyJx4a65c_ok nmJx4a65c (by decide) kfl_Jx4a65c_48 rfl rfl rfl (Nat.le_of_ble_eq_true rfl) dJx4a65c_add_72be8_19 (fun H locs Y => ?_)
    have Y : hHS G (hup Mz1 a (t, .inr (2, [.int mc, .ref q, .int (nI (n + 1))]))) s H locs := Y
    have hv := hup_tag (x := (t, .inr (2, [.int mc, .ref q, .int (nI (n + 1))]))) hv ho (by omega)
    have hq9 := hup_tag (x := (t, .inr (2, [.int mc, .ref q, .int (nI (n + 1))]))) hq9 ho (by omega)
    have hfr := hfr.put (x := (t, .inr (2, [.int mc, .ref q, .int (nI (n + 1))]))) ho (Or.inl rfl)
    have ho : hup Mz1 a (t, .inr (2, [.int mc, .ref q, .int (nI (n + 1))])) a = some (t, .inr (2, [.int mc, .ref q, .int (nI (n + 1))])) := hup_eq
    generalize hup Mz1 a (t, .inr (2, [.int mc, .ref q, .int (nI (n + 1))])) = Mz2 at Y ho hv hq9 hfr
    exact h_vret X Y ⟨rfl, q, cap, _, ho, hq9, by omega, by omega, by omega, fun i hi => (va_up_ne _ _ (by omega)).trans (hff i hi), va_up_self _ _ _, hfr⟩ (Nat.le_of_ble_eq_true rfl) (Nat.le_of_ble_eq_true rfl) dJx4a65c_add_72be8_22
  · rcases Nat.lt_or_ge n cap with hlt | hge
    · skip
      have hff := hf
      refine lv_iload_n hx hb dJx4a65c_add_72be8_0 rfl (lv_at hl 3 rfl) ?_
      refine lv_aload_n hx hb dJx4a65c_add_72be8_1 rfl (lv_at hl 2 rfl) ?_
      refine h_alen X Y 6 he0 rfl dJx4a65c_add_72be8_2 ?_
      refine lv_icmp_ne (tgt := 11) hx hb dJx4a65c_add_72be8_3 (by decide) (fun c3 => ?_) (fun c3 => absurd (show n = cap from (nI_eq (a := n) (b := cap) (by omega) (by omega)).mp c3) (by omega))
      have c3 : ¬ n = cap := fun z9 => c3 ((nI_eq (a := n) (b := cap) (by omega) (by omega)).mpr z9)
      refine lv_aload_n hx hb dJx4a65c_add_72be8_11 rfl (lv_at hl 2 rfl) ?_
      refine lv_iload_n hx hb dJx4a65c_add_72be8_12 rfl (lv_at hl 3 rfl) ?_
      refine lv_aload_n hx hb dJx4a65c_add_72be8_13 rfl (lv_at hl 1 rfl) ?_
      refine h_aast 6 X Y (i := n) he0 rfl hv hr1 hr2 (by omega) (by omega) dJx4a65c_add_72be8_14 (fun H locs Y => ?_)
      have ho := hup_tag (x := (te, .inl (hT G 6, cap, .inr (.inr (.inr (.inr (va_up f n (some v0)))))))) ho he0 (by omega)
      have hv := hup_tag (x := (te, .inl (hT G 6, cap, .inr (.inr (.inr (.inr (va_up f n (some v0)))))))) hv he0 (by omega)
      have hfr := hfr.put (x := (te, .inl (hT G 6, cap, .inr (.inr (.inr (.inr (va_up f n (some v0)))))))) he0 (Or.inr rfl)
      have he0 : hup M e0 (te, .inl (hT G 6, cap, .inr (.inr (.inr (.inr (va_up f n (some v0))))))) e0 = some (te, .inl (hT G 6, cap, .inr (.inr (.inr (.inr (va_up f n (some v0))))))) := hup_eq
      generalize hup M e0 (te, .inl (hT G 6, cap, .inr (.inr (.inr (.inr (va_up f n (some v0))))))) = Mz3 at Y he0 ho hv hfr
      refine lv_aload_n hx hb dJx4a65c_add_72be8_15 rfl (lv_at hl 0 rfl) ?_
      refine lv_iload_n hx hb dJx4a65c_add_72be8_16 rfl (lv_at hl 3 rfl) ?_
      refine lv_iconst (v := 1) hx hb dJx4a65c_add_72be8_17 (by decide) ?_
      refine lv_iadd hx hb dJx4a65c_add_72be8_18 ?_
      refine h_ev (y := nI (n + 1)) (nI_1 n) ?_
      refine h_put X Y (k := 2) (v := .int (nI (n + 1))) ho rfl hin_Jx4a65c tyJx4a65c_ok nmJx4a65c (by decide) kfl_Jx4a65c_48 rfl rfl rfl (Nat.le_of_ble_eq_true rfl) dJx4a65c_add_72be8_19 (fun H locs Y => ?_)
      have Y : hHS G (hup Mz3 a (t, .inr (2, [.int mc, .ref e0, .int (nI (n + 1))]))) s H locs := Y
      have hv := hup_tag (x := (t, .inr (2, [.int mc, .ref e0, .int (nI (n + 1))]))) hv ho (by omega)
      have he0 := hup_tag (x := (t, .inr (2, [.int mc, .ref e0, .int (nI (n + 1))]))) he0 ho (by omega)
      have hfr := hfr.put (x := (t, .inr (2, [.int mc, .ref e0, .int (nI (n + 1))]))) ho (Or.inl rfl)
      have ho : hup Mz3 a (t, .inr (2, [.int mc, .ref e0, .int (nI (n + 1))])) a = some (t, .inr (2, [.int mc, .ref e0, .int (nI (n + 1))])) := hup_eq
      generalize hup Mz3 a (t, .inr (2, [.int mc, .ref e0, .int (nI (n + 1))])) = Mz4 at Y ho hv he0 hfr
      exact h_vret X Y ⟨rfl, e0, cap, _, ho, he0, by omega, by omega, by omega, fun i hi => (va_up_ne _ _ (by omega)).trans (hff i hi), va_up_self _ _ _, hfr⟩ (Nat.le_of_ble_eq_true rfl) (Nat.le_of_ble_eq_true rfl) dJx4a65c_add_72be8_22
    · skip
      obtain rfl : n = cap := by omega
      refine lv_iload_n hx hb dJx4a65c_add_72be8_0 rfl (lv_at hl 3 rfl) ?_
      refine lv_aload_n hx hb dJx4a65c_add_72be8_1 rfl (lv_at hl 2 rfl) ?_
      refine h_alen X Y 6 he0 rfl dJx4a65c_add_72be8_2 ?_
      refine lv_icmp_ne (tgt := 11) hx hb dJx4a65c_add_72be8_3 (by decide) (fun c3 => absurd (show ¬ n = n from fun z9 => c3 ((nI_eq (a := n) (b := n) (by omega) (by omega)).mpr z9)) (by omega)) (fun c3 => ?_)
      have c3 : n = n := (nI_eq (a := n) (b := n) (by omega) (by omega)).mp c3
      refine lv_aload_n hx hb dJx4a65c_add_72be8_6 rfl (lv_at hl 0 rfl) ?_
      refine h_callV (rest := []) X Y (c_grow0F l G M a t te n cv mc e0 f ho htt hn hc10 he0 hcv (fun i hi => by obtain ⟨w, fs, e1, e2, e3⟩ := hel i hi; exact ⟨_, w, fs, hf i hi, e1, e2, e3⟩)) gw_Jx4a65c_129 dsc_Jx4a65c_grow_d5877 ho rfl rfl rfl hl.1 rfl (Nat.le_of_ble_eq_true rfl) ⟨Nat.le_of_ble_eq_true rfl, Nat.le_of_ble_eq_true rfl⟩ ⟨Nat.le_of_ble_eq_true rfl, Nat.le_of_ble_eq_true rfl⟩ dJx4a65c_add_72be8_7 ?_
      rintro _ M1 H locs ⟨q, cap, f1, rfl, ho, hq9, h1, h2, h3, h4, hfr⟩ Y
      try dsimp only [Option.toList, List.singleton_append]
      have hv := hfr _ _ _ hv (fun z => z.elim hv1 hv2)
      have hff : ∀ i, i < n → f1 i = some (g i) := fun i hi => (h4 i hi).trans (hf i hi)
      refine lv_astore_n (lv' := [(2, .ref q), (0, .ref a), (1, .ref v0), (3, .int (nI n))]) hx hb dJx4a65c_add_72be8_10 rfl hl (by decide) rfl (fun ls hl => ?_)
      refine lv_aload_n hx hb dJx4a65c_add_72be8_11 rfl (lv_at hl 0 rfl) ?_
      refine lv_iload_n hx hb dJx4a65c_add_72be8_12 rfl (lv_at hl 3 rfl) ?_
      refine lv_aload_n hx hb dJx4a65c_add_72be8_13 rfl (lv_at hl 2 rfl) ?_
      refine h_aast 6 X Y (i := n) hq9 rfl hv hr1 hr2 (by omega) (by omega) dJx4a65c_add_72be8_14 (fun H locs Y => ?_)
      have ho := hup_tag (x := (te, .inl (hT G 6, cap, .inr (.inr (.inr (.inr (va_up f1 n (some v0)))))))) ho hq9 (by omega)
      have hv := hup_tag (x := (te, .inl (hT G 6, cap, .inr (.inr (.inr (.inr (va_up f1 n (some v0)))))))) hv hq9 (by omega)
      have hfr := hfr.put (x := (te, .inl (hT G 6, cap, .inr (.inr (.inr (.inr (va_up f1 n (some v0)))))))) hq9 (Or.inr rfl)
      have hq9 : hup M1 q (te, .inl (hT G 6, cap, .inr (.inr (.inr (.inr (va_up f1 n (some v0))))))) q = some (te, .inl (hT G 6, cap, .inr (.inr (.inr (.inr (va_up f1 n (some v0))))))) := hup_eq
      generalize hup M1 q (te, .inl (hT G 6, cap, .inr (.inr (.inr (.inr (va_up f1 n (some v0))))))) = Mz5 at Y hq9 ho hv hfr
      refine lv_aload_n hx hb dJx4a65c_add_72be8_15 rfl (lv_at hl 1 rfl) ?_
      refine lv_iload_n hx hb dJx4a65c_add_72be8_16 rfl (lv_at hl 3 rfl) ?_
      refine lv_iconst (v := 1) hx hb dJx4a65c_add_72be8_17 (by decide) ?_
      refine lv_iadd hx hb dJx4a65c_add_72be8_18 ?_
      refine h_ev (y := nI (n + 1)) (nI_1 n) ?_
      refine h_put X Y (k := 2) (v := .int (nI (n + 1))) ho rfl hin_Jx4a65c tyJx4a65c_ok nmJx4a65c (by decide) kfl_Jx4a65c_48 rfl rfl rfl (Nat.le_of_ble_eq_true rfl) dJx4a65c_add_72be8_19 (fun H locs Y => ?_)
      have Y : hHS G (hup Mz5 a (t, .inr (2, [.int mc, .ref q, .int (nI (n + 1))]))) s H locs := Y
      have hv := hup_tag (x := (t, .inr (2, [.int mc, .ref q, .int (nI (n + 1))]))) hv ho (by omega)
      have hq9 := hup_tag (x := (t, .inr (2, [.int mc, .ref q, .int (nI (n + 1))]))) hq9 ho (by omega)
      have hfr := hfr.put (x := (t, .inr (2, [.int mc, .ref q, .int (nI (n + 1))]))) ho (Or.inl rfl)
      have ho : hup Mz5 a (t, .inr (2, [.int mc, .ref q, .int (nI (n + 1))])) a = some (t, .inr (2, [.int mc, .ref q, .int (nI (n + 1))])) := hup_eq
      generalize hup Mz5 a (t, .inr (2, [.int mc, .ref q, .int (nI (n + 1))])) = Mz6 at Y ho hv hq9 hfr
      exact h_vret X Y ⟨rfl, q, cap, _, ho, hq9, by omega, by omega, by omega, fun i hi => (va_up_ne _ _ (by omega)).trans (hff i hi), va_up_self _ _ _, hfr⟩ (Nat.le_of_ble_eq_true rfl) (Nat.le_of_ble_eq_true rfl) dJx4a65c_add_72be8_22
theorem gw_Jx4a65c_131 : GoodIn hGW (wsV RJx4a65c 131 RJx4a65c yJx4a65c_add_72be8 (Cond.code yJx4a65c_add_72be8 cJx4a65c_add_72be8 4 (Option.none) :: hGW)) := hgi4 kml_Jx4a65c_131 kin_Jx4a65c_add_72be8 kse_Jx4a65c_Jx4a65c_add_72be8_Jx4a65c_add_72be8 kini_Jx4a65c kco_Jx4a65c_add_72be8
theorem dsc_Jx4a65c_add_72be8 : yJx4a65c_add_72be8.cls = RJx4a65c ∧ yJx4a65c_add_72be8.cls ≠ "java/lang/invoke/MethodHandle" ∧ yJx4a65c_add_72be8.cls ≠ "java/lang/invoke/VarHandle" ∧ (parseMethodDescriptor yJx4a65c_add_72be8.desc).map (fun d => d.parameters.length) = some 3 := ⟨rfl, by decide +kernel, by decide +kernel, by decide +kernel⟩
theorem dJx4a65c_add_9ea2d_0 : decode cJx4a65c_add_9ea2d 0 = .ok (.aload_n 0, 1) := by decide +kernel
theorem dJx4a65c_add_9ea2d_1 : decode cJx4a65c_add_9ea2d 1 = .ok (.dup, 1) := by decide +kernel
theorem dJx4a65c_add_9ea2d_2 : decode cJx4a65c_add_9ea2d 2 = .ok (.getfield 63, 3) := by decide +kernel
theorem dJx4a65c_add_9ea2d_5 : decode cJx4a65c_add_9ea2d 5 = .ok (.iconst 1, 1) := by decide +kernel
theorem dJx4a65c_add_9ea2d_6 : decode cJx4a65c_add_9ea2d 6 = .ok (.iadd, 1) := by decide +kernel
theorem dJx4a65c_add_9ea2d_7 : decode cJx4a65c_add_9ea2d 7 = .ok (.putfield 63, 3) := by decide +kernel
theorem dJx4a65c_add_9ea2d_10 : decode cJx4a65c_add_9ea2d 10 = .ok (.aload_n 0, 1) := by decide +kernel
theorem dJx4a65c_add_9ea2d_11 : decode cJx4a65c_add_9ea2d 11 = .ok (.aload_n 1, 1) := by decide +kernel
theorem dJx4a65c_add_9ea2d_12 : decode cJx4a65c_add_9ea2d 12 = .ok (.aload_n 0, 1) := by decide +kernel
theorem dJx4a65c_add_9ea2d_13 : decode cJx4a65c_add_9ea2d 13 = .ok (.getfield 9, 3) := by decide +kernel
theorem dJx4a65c_add_9ea2d_16 : decode cJx4a65c_add_9ea2d 16 = .ok (.aload_n 0, 1) := by decide +kernel
theorem dJx4a65c_add_9ea2d_17 : decode cJx4a65c_add_9ea2d 17 = .ok (.getfield 48, 3) := by decide +kernel
theorem dJx4a65c_add_9ea2d_20 : decode cJx4a65c_add_9ea2d 20 = .ok (.invokevirtual 131, 3) := by decide +kernel
theorem dJx4a65c_add_9ea2d_23 : decode cJx4a65c_add_9ea2d 23 = .ok (.iconst 1, 1) := by decide +kernel
theorem dJx4a65c_add_9ea2d_24 : decode cJx4a65c_add_9ea2d 24 = .ok (.ireturn, 1) := by decide +kernel
set_option maxHeartbeats 400000 in
set_option maxRecDepth 100000 in
theorem c_add (l : Launch) (G : hG) (M : hM) (a t te n cv v0 tv : Nat) (mc : Int32) (e0 : Nat) (g : Nat → Nat) (vs : List Value) (ho : M a = some (t, .inr (2, [.int mc, .ref e0, .int (nI n)]))) (htt : t ≠ te) (hn : n < 40) (hcv : tCa cv) (hel : tEl M t te cv n g) (hv : M v0 = some (tv, .inr (cv, vs))) (hv1 : tv ≠ t) (hv2 : tv ≠ te) (hE : (n = 0 ∧ e0 = hDE G) ∨ ∃ (cap : Nat) (f : Nat → Option Nat), M e0 = some (te, .inl (hT G 6, cap, .inr (.inr (.inr (.inr f))))) ∧ n ≤ cap ∧ 10 ≤ cap ∧ cap ≤ 1000 ∧ ∀ i, i < n → f i = some (g i)) : hCT l G yJx4a65c_add_9ea2d cJx4a65c_add_9ea2d 2 (Option.some FieldType.boolean) (hRm 7 1 60) M [.ref a, .ref v0] (fun v M' => v = some (.int 1) ∧ ∃ q cap f, M' a = some (t, .inr (2, [.int (mc + 1), .ref q, .int (nI (n + 1))])) ∧ M' q = some (te, .inl (hT G 6, cap, .inr (.inr (.inr (.inr f))))) ∧ n + 1 ≤ cap ∧ 10 ≤ cap ∧ cap ≤ 1000 ∧ (∀ i, i < n → f i = some (g i)) ∧ f n = some v0 ∧ hFr (fun u => u = t ∨ u = te) M M') := by
  refine hCT.of (own := RJx4a65c) (nm := "add") (by decide) rfl rfl (Nat.le_of_ble_eq_true rfl) ?_
  intro p e s m args below meth c ls X Y hl
  have hx := X.1
  have hb := X.2.1
  have hl : lv_has ls 2 [(0, .ref a), (1, .ref v0)] := hl
  have hfr : hFr (fun u => u = t) M M := hFr.rf
  refine lv_aload_n hx hb dJx4a65c_add_9ea2d_0 rfl (lv_at hl 0 rfl) ?_
  refine lv_dup hx hb dJx4a65c_add_9ea2d_1 rfl ?_
  refine h_getS X Y (k := 0) (v := .int mc) ho rfl hin_Jx4a65c (by decide) kfl_Jx4a65c_63 ksf_Jx4a65c_modCount rfl dJx4a65c_add_9ea2d_2 ?_
  refine lv_iconst (v := 1) hx hb dJx4a65c_add_9ea2d_5 (by decide) ?_
  refine lv_iadd hx hb dJx4a65c_add_9ea2d_6 ?_
  refine h_putS X Y (k := 0) (v := .int (mc + 1)) ho rfl hin_Jx4a65c tyJx4a65c_ok nmJx4a65c (by decide) kfl_Jx4a65c_63 ksf_Jx4a65c_modCount rfl rfl rfl (Nat.le_of_ble_eq_true rfl) dJx4a65c_add_9ea2d_7 (fun H locs Y => ?_)
  have Y : hHS G (hup M a (t, .inr (2, [.int (mc + 1), .ref e0, .int (nI n)]))) s H locs := Y
  have hv := hup_tag (x := (t, .inr (2, [.int (mc + 1), .ref e0, .int (nI n)]))) hv ho (by omega)
  have hfr := hfr.put (x := (t, .inr (2, [.int (mc + 1), .ref e0, .int (nI n)]))) ho rfl
  have ho : hup M a (t, .inr (2, [.int (mc + 1), .ref e0, .int (nI n)])) a = some (t, .inr (2, [.int (mc + 1), .ref e0, .int (nI n)])) := hup_eq
  generalize hup M a (t, .inr (2, [.int (mc + 1), .ref e0, .int (nI n)])) = Mz1 at Y ho hv hfr
  refine lv_aload_n hx hb dJx4a65c_add_9ea2d_10 rfl (lv_at hl 0 rfl) ?_
  refine lv_aload_n hx hb dJx4a65c_add_9ea2d_11 rfl (lv_at hl 1 rfl) ?_
  refine lv_aload_n hx hb dJx4a65c_add_9ea2d_12 rfl (lv_at hl 0 rfl) ?_
  refine h_get X Y (k := 1) (v := .ref e0) ho rfl hin_Jx4a65c (by decide) kfl_Jx4a65c_9 rfl dJx4a65c_add_9ea2d_13 ?_
  refine lv_aload_n hx hb dJx4a65c_add_9ea2d_16 rfl (lv_at hl 0 rfl) ?_
  refine h_get X Y (k := 2) (v := .int (nI n)) ho rfl hin_Jx4a65c (by decide) kfl_Jx4a65c_48 rfl dJx4a65c_add_9ea2d_17 ?_
  have hE : (n = 0 ∧ e0 = hDE G) ∨ ∃ (cap : Nat) (f : Nat → Option Nat), Mz1 e0 = some (te, .inl (hT G 6, cap, .inr (.inr (.inr (.inr f))))) ∧ n ≤ cap ∧ 10 ≤ cap ∧ cap ≤ 1000 ∧ ∀ i, i < n → f i = some (g i) := hE.imp id (fun ⟨cap, f, z, w⟩ => ⟨cap, f, hfr _ _ _ z (fun z9 => htt z9.symm), w⟩)
  refine h_callV (rest := []) X Y (c_add72 l G Mz1 a t te n cv v0 tv (mc + 1) e0 g vs ho htt hn hcv (hel.fr (hfr.mono (fun _ z => Or.inl z))) hv hv1 hv2 hE) gw_Jx4a65c_131 dsc_Jx4a65c_add_72be8 ho rfl rfl rfl hl.1 rfl (Nat.le_of_ble_eq_true rfl) ⟨Nat.le_of_ble_eq_true rfl, Nat.le_of_ble_eq_true rfl⟩ ⟨Nat.le_of_ble_eq_true rfl, Nat.le_of_ble_eq_true rfl⟩ dJx4a65c_add_9ea2d_20 ?_
  rintro _ M1 H locs ⟨rfl, q, cap, f1, ho, hq9, h1, h2, h3, h4, h5, hf1⟩ Y
  try dsimp only [Option.toList, List.nil_append]
  have hfr : hFr (fun u => u = t ∨ u = te) M M1 := (hfr.mono (fun _ z => Or.inl z)).tr hf1
  refine lv_iconst (v := 1) hx hb dJx4a65c_add_9ea2d_23 (by decide) ?_
  exact h_zret X Y rfl ⟨rfl, q, cap, f1, ho, hq9, h1, h2, h3, h4, h5, hfr⟩ (Nat.le_of_ble_eq_true rfl) (Nat.le_of_ble_eq_true rfl) dJx4a65c_add_9ea2d_24
