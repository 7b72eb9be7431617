-- THE LAW BEGINS: A HOUSE, ITS TEXT, THE PLAY
theorem kco_L_play : Cond.codeWith yL_play cL_play 12 (Option.some (FieldType.array FieldType.int)) plT ∈ hGW := List.mem_filter.mpr ⟨List.mem_append_right _ (List.mem_append_right _ (List.mem_append_right _ (List.mem_append_right _ (List.mem_append_right _ (List.mem_append_right _ (List.mem_append_right _ (show _ ∈ tables_1_7 from List.Mem.tail _ (List.Mem.tail _ (List.Mem.head _))))))))), rfl⟩
theorem gw_L_141 : GoodIn hGW (va_wsS RL 141 yL_play (Cond.codeWith yL_play cL_play 12 (Option.some (FieldType.array FieldType.int)) plT :: hGW)) := hgi3 kml_L_141 kst_L_play kini_L kco_L_play
theorem mkB.fr {G : hG} {Z : Nat → Prop} {M M' : hM} {A : Nat → Nat} (hf : hFr Z M M') (hz : ∀ u, Z u → 4000 ≤ u) (h : mkB G M A) : mkB G M' A := by
  have nz : ∀ u, u < 4000 → ¬ Z u := fun u q1 z => by have := hz u z; omega
  obtain ⟨k2, k3, k4, k5, k6, k7, k8, k9, k10, k11, k12⟩ := h
  exact ⟨hf _ _ _ k2 (nz _ (by omega)), hf _ _ _ k3 (nz _ (by omega)), hf _ _ _ k4 (nz _ (by omega)), hf _ _ _ k5 (nz _ (by omega)), hf _ _ _ k6 (nz _ (by omega)), hf _ _ _ k7 (nz _ (by omega)), hf _ _ _ k8 (nz _ (by omega)), hf _ _ _ k9 (nz _ (by omega)), hf _ _ _ k10 (nz _ (by omega)), hf _ _ _ k11 (nz _ (by omega)), hf _ _ _ k12 (nz _ (by omega))⟩
theorem tm_lt (L : Nat) (xs : Nat → Int32) : ∀ i, i < 15 → tmW L xs i < 90000 := fun i hi => by
  have h := tmV_lt L xs hi
  have hw : ∀ i, i < 15 → wT.getD i 1 ≤ 90000 := by decide +kernel
  have h2 := hw i hi
  unfold tmW
  by_cases e : i = 2
  · rw [if_pos e]
    subst e
    have : wT.getD 2 1 = 100 := rfl
    omega
  · rw [if_neg e]; omega
theorem tm_2 (L : Nat) (xs : Nat → Int32) : 1 ≤ tmW L xs 2 ∧ tmW L xs 2 ≤ 100 := by
  have h := tmV_lt L xs (i := 2) (by decide)
  have e : wT.getD 2 1 = 100 := rfl
  unfold tmW
  rw [if_pos rfl]
  omega
theorem tm_12 (L : Nat) (xs : Nat → Int32) : tmW L xs 12 ≤ 300 := by
  have h := tmV_lt L xs (i := 12) (by decide)
  have e : wT.getD 12 1 = 301 := rfl
  unfold tmW
  rw [if_neg (by decide)]
  omega
/-- after the play the three layers and the claims are as the law's numbers want them -/
theorem GC.of {G : hG} {M : hM} {S0 S : hSy} {h0 h : hHo} {b : Nat} {f : Nat → Int32} (I : PlI G M S0 h0 S h b f) (h3 : sN S0 = 3) (hG : ∀ k, k < 3 → GL (sL S0 k) (sF S0 k)) : GC S (hNow h) := by
  obtain ⟨i1, i2, i3, i4, ⟨j1, j2, j3, j4⟩, i6⟩ := I
  have hyn := i1.1.2.2.2.2.2.2
  refine ⟨⟨j1.trans h3, fun k hk => by rw [j2, j3]; exact hG k hk, i1.1.2.1.2.1, fun i hi => ⟨i1.1.2.1.2.2.2 i hi, ?_⟩⟩, i1.1.2.2.2.2.2.1, fun i hi => ⟨i4 i hi, hyn i hi⟩⟩
  obtain ⟨li, p, r, o, N0, N1, q0, q1, -⟩ := i4 i hi
  exact ⟨li, q1, q0⟩
theorem dsc_X11_init : yX11_init.cls = RX11 ∧ yX11_init.cls ≠ "java/lang/invoke/MethodHandle" ∧ yX11_init.cls ≠ "java/lang/invoke/VarHandle" ∧ (parseMethodDescriptor yX11_init.desc).map (fun d => d.parameters.length) = some 0 := ⟨rfl, by decide +kernel, by decide +kernel, by decide +kernel⟩
theorem gw_L_130 : GoodIn hGW (va_wsS RL 130 yL_terms (Cond.code yL_terms cL_terms 4 (Option.some (FieldType.array FieldType.int)) :: hGW)) := hgi3 kml_L_130 kst_L_terms kini_L kco_L_terms
theorem dsc_L_terms : yL_terms.cls = RL ∧ yL_terms.cls ≠ "java/lang/invoke/MethodHandle" ∧ yL_terms.cls ≠ "java/lang/invoke/VarHandle" ∧ (parseMethodDescriptor yL_terms.desc).map (fun d => d.parameters.length) = some 1 := ⟨rfl, by decide +kernel, by decide +kernel, by decide +kernel⟩
theorem gw_L_134 : GoodIn hGW (va_wsS RL 134 yL_text (Cond.code yL_text cL_text 3 (Option.some (FieldType.object "java/lang/String")) :: hGW)) := hgi3 kml_L_134 kst_L_text kini_L kco_L_text
theorem dsc_L_text : yL_text.cls = RL ∧ yL_text.cls ≠ "java/lang/invoke/MethodHandle" ∧ yL_text.cls ≠ "java/lang/invoke/VarHandle" ∧ (parseMethodDescriptor yL_text.desc).map (fun d => d.parameters.length) = some 1 := ⟨rfl, by decide +kernel, by decide +kernel, by decide +kernel⟩
theorem gw_L_138 : GoodIn hGW (va_wsS RL 138 yL_teach (Cond.code yL_teach cL_teach 5 (Option.some FieldType.int) :: hGW)) := hgi3 kml_L_138 kst_L_teach kini_L kco_L_teach
theorem dsc_L_teach : yL_teach.cls = RL ∧ yL_teach.cls ≠ "java/lang/invoke/MethodHandle" ∧ yL_teach.cls ≠ "java/lang/invoke/VarHandle" ∧ (parseMethodDescriptor yL_teach.desc).map (fun d => d.parameters.length) = some 2 := ⟨rfl, by decide +kernel, by decide +kernel, by decide +kernel⟩
theorem dsc_L_play : yL_play.cls = RL ∧ yL_play.cls ≠ "java/lang/invoke/MethodHandle" ∧ yL_play.cls ≠ "java/lang/invoke/VarHandle" ∧ (parseMethodDescriptor yL_play.desc).map (fun d => d.parameters.length) = some 2 := ⟨rfl, by decide +kernel, by decide +kernel, by decide +kernel⟩
theorem dL_law_0 : decode cL_law 0 = .ok (.new 20, 3) := by decide +kernel
theorem dL_law_3 : decode cL_law 3 = .ok (.dup, 1) := by decide +kernel
theorem dL_law_4 : decode cL_law 4 = .ok (.invokespecial 129, 3) := by decide +kernel
theorem dL_law_7 : decode cL_law 7 = .ok (.astore_n 1, 1) := by decide +kernel
theorem dL_law_8 : decode cL_law 8 = .ok (.aload_n 0, 1) := by decide +kernel
theorem dL_law_9 : decode cL_law 9 = .ok (.invokestatic 130, 3) := by decide +kernel
theorem dL_law_12 : decode cL_law 12 = .ok (.astore_n 2, 1) := by decide +kernel
theorem dL_law_13 : decode cL_law 13 = .ok (.aload_n 1, 1) := by decide +kernel
theorem dL_law_14 : decode cL_law 14 = .ok (.aload_n 2, 1) := by decide +kernel
theorem dL_law_15 : decode cL_law 15 = .ok (.invokestatic 134, 3) := by decide +kernel
theorem dL_law_18 : decode cL_law 18 = .ok (.invokestatic 138, 3) := by decide +kernel
theorem dL_law_21 : decode cL_law 21 = .ok (.ifCond .eq 5, 3) := by decide +kernel
theorem dL_law_26 : decode cL_law 26 = .ok (.aload_n 1, 1) := by decide +kernel
theorem dL_law_27 : decode cL_law 27 = .ok (.aload_n 0, 1) := by decide +kernel
theorem dL_law_28 : decode cL_law 28 = .ok (.invokestatic 141, 3) := by decide +kernel
theorem dL_law_31 : decode cL_law 31 = .ok (.astore_n 3, 1) := by decide +kernel
theorem dL_law_32 : decode cL_law 32 = .ok (.aload_n 3, 1) := by decide +kernel
theorem dL_law_33 : decode cL_law 33 = .ok (.ifnonnull 5, 3) := by decide +kernel
theorem dL_law_38 : decode cL_law 38 = .ok (.aload_n 3, 1) := by decide +kernel
theorem dL_law_39 : decode cL_law 39 = .ok (.sipush 1000, 3) := by decide +kernel
theorem dL_law_42 : decode cL_law 42 = .ok (.iaload, 1) := by decide +kernel
theorem dL_law_43 : decode cL_law 43 = .ok (.istore 4, 2) := by decide +kernel
theorem dL_law_45 : decode cL_law 45 = .ok (.aload_n 3, 1) := by decide +kernel
theorem dL_law_46 : decode cL_law 46 = .ok (.sipush 1001, 3) := by decide +kernel
theorem dL_law_49 : decode cL_law 49 = .ok (.iaload, 1) := by decide +kernel
theorem dL_law_50 : decode cL_law 50 = .ok (.istore 5, 2) := by decide +kernel
theorem dL_law_52 : decode cL_law 52 = .ok (.aload_n 1, 1) := by decide +kernel
theorem dL_law_53 : decode cL_law 53 = .ok (.invokevirtual 145, 3) := by decide +kernel
theorem dL_law_56 : decode cL_law 56 = .ok (.lstore 6, 2) := by decide +kernel
theorem dL_law_58 : decode cL_law 58 = .ok (.lconst 0, 1) := by decide +kernel
theorem dL_law_59 : decode cL_law 59 = .ok (.lstore 8, 2) := by decide +kernel
theorem dL_law_61 : decode cL_law 61 = .ok (.lconst 0, 1) := by decide +kernel
theorem dL_law_62 : decode cL_law 62 = .ok (.lstore 10, 2) := by decide +kernel
theorem dL_law_64 : decode cL_law 64 = .ok (.iconst 0, 1) := by decide +kernel
theorem dL_law_65 : decode cL_law 65 = .ok (.istore 12, 2) := by decide +kernel
set_option maxHeartbeats 1000000 in
set_option maxRecDepth 100000 in
theorem law_0 {nm : String} (l : Launch) (G : hG) (p : Program) (e : Env) (s : State) (m : MethodId) (args : Array Value) (below : List Frame) (meth : Method) (c : Code) (H : Heap) (locs : List Loc) (ls : Array Slot) (Q : State → Prop) (hl9 : l.stackTraces = false) (L : Nat) (xs : Nat → Int32) (hsc : hSc G L xs) (X : hCX G p s m args meth c cL_law 18 ret RL nm) (Y : hHS G (fun _ => Option.none) s H locs) (hl : lv_has ls 18 [(0, .ref G.2.1)]) (kk : ∀ (M' : hM) (H : Heap) (locs : List Loc) (ls : Array Slot) (S : hSy) (h : hHo) (tt bb : Nat), hHS G M' s H locs → QV G M' S h → GC S (hNow h) → hTail h = 1000 → (∀ y, hPr h y = 0) → lv_has ls 18 [(0, .ref G.2.1), (1, .ref (sA S 0)), (2, .ref tt), (3, .ref bb), (4, .int (nI (sM S))), (5, .int (nI (hNow h))), (6, .long (qDigest S h)), (8, .long (lN 0)), (10, .long (lN 0)), (12, .int (nI 0))] → W p l e room_1 s m args below meth c H locs 1000 105000 Q (F0 m 67 ls [])) : W p l e room_1 s m args below meth c H locs 0 0 Q (F0 m 0 ls []) := by
  have hx := X.1
  have hb := X.2.1
  refine h_new (ci := 12) X Y (0) (fs := [.null, .null, .null, .null, .null, .null, .null, .null, .null, .null, .null, .null, .int 0, .int 0, .int 0]) rfl hin_X11 tyX11_ok kcl_L_20 kinst_X11 kini_X11 (fun j hj => match j, hj with | 0, _ => rfl | 1, _ => rfl | 2, _ => rfl | 3, _ => rfl | 4, _ => rfl | 5, _ => rfl | 6, _ => rfl | 7, _ => rfl | 8, _ => rfl | 9, _ => rfl | 10, _ => rfl | 11, _ => rfl | 12, _ => rfl | 13, _ => rfl | 14, _ => rfl | z9 + 15, h9 => absurd h9 (by omega)) (Nat.le_of_ble_eq_true rfl) (Nat.le_of_ble_eq_true rfl) dL_law_0 (fun qz1 Mz1 H fz1 hg1 Y => ?_)
  refine lv_dup hx hb dL_law_3 rfl ?_
  refine h_callI (rest := [.ref qz1]) X Y (c_houseInit l G Mz1 qz1 fz1) (hgi0 kco_X11_init) kini_X11 kml_L_129 kin_X11_init rfl dsc_X11_init.2 rfl hl.1 rfl (Nat.le_of_ble_eq_true rfl) ⟨Nat.le_of_ble_eq_true rfl, Nat.le_of_ble_eq_true rfl⟩ ⟨(by show _ ≤ 600086; decide), (by show _ ≤ 7301442; decide)⟩ dL_law_4 ?_
  rintro _ M2 H locs ⟨rfl, A, hQ, hB, hA0, h14, h16⟩ Y
  try dsimp only [Option.toList, List.nil_append]
  subst hA0
  refine lv_astore_n (lv' := [(1, .ref (A 0)), (0, .ref G.2.1)]) hx hb dL_law_7 rfl hl (by decide) rfl (fun ls hl => ?_)
  refine lv_aload_n hx hb dL_law_8 rfl (lv_at hl 1 rfl) ?_
  refine h_callS (rest := []) X Y (c_lTerms l G M2 L xs hsc) gw_L_130 dsc_L_terms.2 rfl hl.1 rfl (Nat.le_of_ble_eq_true rfl) ⟨Nat.le_of_ble_eq_true rfl, Nat.le_of_ble_eq_true rfl⟩ ⟨(by show _ ≤ 600086; decide), (by show _ ≤ 7301442; decide)⟩ dL_law_9 ?_
  rintro _ M3 H locs ⟨tt, g, rfl, htt, hg, hf3⟩ Y
  try dsimp only [Option.toList, List.singleton_append]
  have hQ := QV.fr9 hf3 (fun u z => by omega) hQ
  have hB := hB.fr hf3 (fun u z => by omega)
  refine lv_astore_n (lv' := [(2, .ref tt), (1, .ref (A 0)), (0, .ref G.2.1)]) hx hb dL_law_12 rfl hl (by decide) rfl (fun ls hl => ?_)
  refine lv_aload_n hx hb dL_law_13 rfl (lv_at hl 1 rfl) ?_
  refine lv_aload_n hx hb dL_law_14 rfl (lv_at hl 0 rfl) ?_
  refine h_callS (rest := [.ref (A 0)]) X Y (c_text l G M3 tt 4900 g (tmW L xs) htt (by decide) hg (fun i hi => Nat.lt_trans (tm_lt L xs i hi) (by decide))) gw_L_134 dsc_L_text.2 rfl hl.1 rfl (Nat.le_of_ble_eq_true rfl) ⟨Nat.le_of_ble_eq_true rfl, Nat.le_of_ble_eq_true rfl⟩ ⟨(by show _ ≤ 600086; decide), (by show _ ≤ 7301442; decide)⟩ dL_law_15 ?_
  rintro _ M4 H locs ⟨qq, rfl, hqq, hf4⟩ Y
  try dsimp only [Option.toList, List.singleton_append]
  have hQ := QV.fr9 hf4 (fun u z => Nat.le_trans (by decide) z.1) hQ
  have hB := hB.fr hf4 (fun u z => Nat.le_trans (by decide) z.1)
  refine h_callS (rest := []) X Y (c_learn l G M4 A hQ hB h14 (tmW L xs) (tm_lt L xs) (tm_2 L xs) (tm_12 L xs) qq hqq) gw_L_138 dsc_L_teach.2 rfl hl.1 rfl (Nat.le_of_ble_eq_true rfl) ⟨Nat.le_of_ble_eq_true rfl, Nat.le_of_ble_eq_true rfl⟩ ⟨(by show _ ≤ 600086; decide), (by show _ ≤ 7301442; decide)⟩ dL_law_18 ?_
  rintro _ M5 H locs ⟨rfl, S0, hQ5, hN3, hm0, hA0, h165, hGL⟩ Y
  try dsimp only [Option.toList, List.singleton_append]
  have hP5 : PV G M5 S0 (0, 1000, -1, 0, fun _ => 0, fun _ => 0) := ⟨hQ5, Or.inl ⟨hm0, h165.trans h16⟩⟩
  refine lv_if_eq (tgt := 26) hx hb dL_law_21 (by decide) (fun c21 => ?_) (fun c21 => absurd (by decide) c21)
  refine lv_aload_n hx hb dL_law_26 rfl (lv_at hl 1 rfl) ?_
  refine lv_aload_n hx hb dL_law_27 rfl (lv_at hl 2 rfl) ?_
  have hpl := c_play l G hl9 L xs hsc M5 S0 (0, 1000, -1, 0, fun _ => 0, fun _ => 0) hP5 hm0 rfl
  rw [hA0] at hpl
  refine h_callSW (rest := []) X Y hpl gw_L_141 dsc_L_play.2 rfl hl.1 rfl (Nat.le_of_ble_eq_true rfl) ⟨Nat.le_of_ble_eq_true rfl, Nat.le_of_ble_eq_true rfl⟩ ⟨(by show _ ≤ 600086; decide), (by show _ ≤ 7301442; decide)⟩ dL_law_28 ?_
  rintro _ M6 H locs ⟨bb, S, h, f, rfl, I⟩ Y
  try dsimp only [Option.toList, List.singleton_append]
  have hGC := GC.of I hN3 hGL
  have e0 : A 0 = sA S 0 := hA0.symm.trans I.2.2.2.2.1.2.2.2.symm
  rw [e0] at hl
  have hbr := I.2.1
  have hQv := I.1.1
  have ho0 := hQv.2.2.1.1
  have hhe := I.2.2.2.2.2
  obtain ⟨hB0, hB1, -⟩ := I.2.2.1
  have ht : hTail h = 1000 := congrArg (fun z => z.1) hhe
  have hpr : ∀ y, hPr h y = 0 := fun y => congrArg (fun z => z.2.2.2.1 y) hhe
  refine lv_astore_n (lv' := [(3, .ref bb), (2, .ref tt), (1, .ref (sA S 0)), (0, .ref G.2.1)]) hx hb dL_law_31 rfl hl (by decide) rfl (fun ls hl => ?_)
  refine lv_aload_n hx hb dL_law_32 rfl (lv_at hl 0 rfl) ?_
  refine lv_ifnonnull (tgt := 38) hx hb dL_law_33 (by decide) ?_
  refine lv_aload_n hx hb dL_law_38 rfl (lv_at hl 0 rfl) ?_
  refine lv_sipush (v := 1000) hx hb dL_law_39 (by decide) ?_
  refine h_iald X Y (i := 1000) hbr (by omega) (by decide) dL_law_42 ?_
  refine h_ev (y := nI (sM S)) hB0 ?_
  refine lv_istore (lv' := [(4, .int (nI (sM S))), (3, .ref bb), (2, .ref tt), (1, .ref (sA S 0)), (0, .ref G.2.1)]) hx hb dL_law_43 hl (by decide) rfl (fun ls hl => ?_)
  refine lv_aload_n hx hb dL_law_45 rfl (lv_at hl 1 rfl) ?_
  refine lv_sipush (v := 1001) hx hb dL_law_46 (by decide) ?_
  refine h_iald X Y (i := 1001) hbr (by omega) (by decide) dL_law_49 ?_
  refine h_ev (y := nI (hNow h)) hB1 ?_
  refine lv_istore (lv' := [(5, .int (nI (hNow h))), (4, .int (nI (sM S))), (3, .ref bb), (2, .ref tt), (1, .ref (sA S 0)), (0, .ref G.2.1)]) hx hb dL_law_50 hl (by decide) rfl (fun ls hl => ?_)
  refine lv_aload_n hx hb dL_law_52 rfl (lv_at hl 4 rfl) ?_
  refine h_callV (rest := []) X Y (c_digest l G M6 S h hQv) gw_L_145 dsc_X11_digest ho0 rfl rfl rfl hl.1 rfl (Nat.le_of_ble_eq_true rfl) ⟨Nat.le_of_ble_eq_true rfl, Nat.le_of_ble_eq_true rfl⟩ ⟨(by show _ ≤ 600086; decide), (by show _ ≤ 7301442; decide)⟩ dL_law_53 ?_
  rintro _ Mz2 H locs ⟨rfl, hs9⟩ Y
  have hQv := hQv.sim hs9
  have ho0 := hQv.2.2.1.1
  try dsimp only [Option.toList, List.singleton_append]
  refine lv_lstore (lv' := [(6, .long (qDigest S h)), (5, .int (nI (hNow h))), (4, .int (nI (sM S))), (3, .ref bb), (2, .ref tt), (1, .ref (sA S 0)), (0, .ref G.2.1)]) hx hb dL_law_56 hl (by decide) rfl (fun ls hl => ?_)
  refine lv_lconst (v := 0) hx hb dL_law_58 (by decide) ?_
  refine h_evL (y := lN 0) rfl ?_
  refine lv_lstore (lv' := [(8, .long (lN 0)), (6, .long (qDigest S h)), (5, .int (nI (hNow h))), (4, .int (nI (sM S))), (3, .ref bb), (2, .ref tt), (1, .ref (sA S 0)), (0, .ref G.2.1)]) hx hb dL_law_59 hl (by decide) rfl (fun ls hl => ?_)
  refine lv_lconst (v := 0) hx hb dL_law_61 (by decide) ?_
  refine h_evL (y := lN 0) rfl ?_
  refine lv_lstore (lv' := [(10, .long (lN 0)), (8, .long (lN 0)), (6, .long (qDigest S h)), (5, .int (nI (hNow h))), (4, .int (nI (sM S))), (3, .ref bb), (2, .ref tt), (1, .ref (sA S 0)), (0, .ref G.2.1)]) hx hb dL_law_62 hl (by decide) rfl (fun ls hl => ?_)
  refine lv_iconst (v := 0) hx hb dL_law_64 (by decide) ?_
  refine lv_istore (lv' := [(12, .int 0), (10, .long (lN 0)), (8, .long (lN 0)), (6, .long (qDigest S h)), (5, .int (nI (hNow h))), (4, .int (nI (sM S))), (3, .ref bb), (2, .ref tt), (1, .ref (sA S 0)), (0, .ref G.2.1)]) hx hb dL_law_65 hl (by decide) rfl (fun ls hl => ?_)
  exact W.wid (by decide) (by decide) (kk _ _ _ _ S h tt bb Y hQv hGC ht hpr (lv_sub hl [9, 8, 7, 6, 5, 4, 3, 2, 1, 0] rfl))
