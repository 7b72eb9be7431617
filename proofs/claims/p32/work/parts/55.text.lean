-- A STRING IS MADE, THE LAW'S TEXT
section LDCS
variable {G : hG} {p : Program} {l : Launch} {e : Env} {R : Room} {s : State} {m : MethodId} {args : Array Value} {below : List Frame} {meth : Method} {c : Code} {H : Heap} {locs : List Loc} {cells slots : Nat} {Q : State → Prop}
variable {cc : ByteArray} {maxL : Nat} {ret : Option FieldType} {own nm : String} {M : hM} {pc : Nat} {ls : Array Slot} {rest : List Value} {a t ci index n : Nat} {cA : ClassId}
theorem h_ldcS {tx : String} {q : Nat} (X : hCX G p s m args meth c cc maxL ret own nm) (hZ : vk_R own index tx q s) (hdg : decode cc pc = .ok (.ldc index, 2))
    (kk : W p l e R s m args below meth c H locs cells slots Q (F0 m (pc + 2) ls (.ref q :: rest))) : W p l e R s m args below meth c H locs cells slots Q (F0 m pc ls rest) := va_ldcS X.1 X.2.1 X.2.2.2.2.1 hZ hdg kk
end LDCS
theorem dsc_J0_init_db425 : yJ0_init_db425.cls = RJ0 ∧ yJ0_init_db425.cls ≠ "java/lang/invoke/MethodHandle" ∧ yJ0_init_db425.cls ≠ "java/lang/invoke/VarHandle" ∧ (parseMethodDescriptor yJ0_init_db425.desc).map (fun d => d.parameters.length) = some 2 := ⟨rfl, by decide +kernel, by decide +kernel, by decide +kernel⟩
theorem dJ0_init_81219_0 : decode cJ0_init_81219 0 = .ok (.aload_n 0, 1) := by decide +kernel
theorem dJ0_init_81219_1 : decode cJ0_init_81219 1 = .ok (.aload_n 1, 1) := by decide +kernel
theorem dJ0_init_81219_2 : decode cJ0_init_81219 2 = .ok (.aconst_null, 1) := by decide +kernel
theorem dJ0_init_81219_3 : decode cJ0_init_81219 3 = .ok (.invokespecial 489, 3) := by decide +kernel
theorem dJ0_init_81219_6 : decode cJ0_init_81219 6 = .ok (.return_, 1) := by decide +kernel
set_option maxHeartbeats 400000 in
set_option maxRecDepth 100000 in
theorem c_strInit1 (l : Launch) (G : hG) (M : hM) (a t n cap : Nat) (T : Nat → Nat) (hV : SbV G M a t n cap T) (q0 tq : Nat) (hq : M q0 = some (tq, .inr (0, [.null, .int 0, .int 0, .int 0]))) (htq : tq + 1 < t ∨ t + 1 < tq) : hCT l G yJ0_init_81219 cJ0_init_81219 2 (Option.none) (hRm 5 1 1300) M [.ref q0, .ref a] (fun v M' => v = none ∧ (∃ va f, M' q0 = some (tq, .inr (0, [.ref va, .int 0, .int 0, .int 0])) ∧ M' va = some (tq + 1, .inl (hT G 1, n, .inl f)) ∧ ∀ i, i < n → f i = nI (T i) ∧ T i < 128) ∧ hFr (fun u => u = tq ∨ u = tq + 1) M M') := by
  refine hCT.of (own := RJ0) (nm := "<init>") (by decide) rfl rfl (Nat.le_of_ble_eq_true rfl) ?_
  intro p e s m args below meth c ls X Y hl
  have hx := X.1
  have hb := X.2.1
  have hl : lv_has ls 2 [(0, .ref q0), (1, .ref a)] := hl
  refine lv_aload_n hx hb dJ0_init_81219_0 rfl (lv_at hl 0 rfl) ?_
  refine lv_aload_n hx hb dJ0_init_81219_1 rfl (lv_at hl 1 rfl) ?_
  refine lv_null hx hb dJ0_init_81219_2 ?_
  refine h_callI (rest := []) X Y (c_strInit2 l G M a t n cap T hV q0 tq hq htq) (hgi0 kco_J0_init_db425) kini_J0 kml_J0_489 kin_J0_init_db425 rfl dsc_J0_init_db425.2 rfl hl.1 rfl (Nat.le_of_ble_eq_true rfl) ⟨Nat.le_of_ble_eq_true rfl, Nat.le_of_ble_eq_true rfl⟩ ⟨Nat.le_of_ble_eq_true rfl, Nat.le_of_ble_eq_true rfl⟩ dJ0_init_81219_3 ?_
  rintro _ M1 H locs ⟨rfl, hres⟩ Y
  try dsimp only [Option.toList, List.nil_append]
  exact h_vret X Y ⟨rfl, hres⟩ (Nat.le_of_ble_eq_true rfl) (Nat.le_of_ble_eq_true rfl) dJ0_init_81219_6
theorem dsc_J0_init_81219 : yJ0_init_81219.cls = RJ0 ∧ yJ0_init_81219.cls ≠ "java/lang/invoke/MethodHandle" ∧ yJ0_init_81219.cls ≠ "java/lang/invoke/VarHandle" ∧ (parseMethodDescriptor yJ0_init_81219.desc).map (fun d => d.parameters.length) = some 1 := ⟨rfl, by decide +kernel, by decide +kernel, by decide +kernel⟩
theorem dJ4_toString_0e30d_0 : decode cJ4_toString_0e30d 0 = .ok (.new 18, 3) := by decide +kernel
theorem dJ4_toString_0e30d_3 : decode cJ4_toString_0e30d 3 = .ok (.dup, 1) := by decide +kernel
theorem dJ4_toString_0e30d_4 : decode cJ4_toString_0e30d 4 = .ok (.aload_n 0, 1) := by decide +kernel
theorem dJ4_toString_0e30d_5 : decode cJ4_toString_0e30d 5 = .ok (.invokespecial 137, 3) := by decide +kernel
theorem dJ4_toString_0e30d_8 : decode cJ4_toString_0e30d 8 = .ok (.areturn, 1) := by decide +kernel
set_option maxHeartbeats 400000 in
set_option maxRecDepth 100000 in
theorem c_toStr (l : Launch) (G : hG) (M : hM) (a t : Nat) (L : List Nat) (hV : SbL G M a t L) (tq : Nat) (htq : tq + 1 < t ∨ t + 1 < tq) : hCT l G yJ4_toString_0e30d cJ4_toString_0e30d 1 (Option.some (FieldType.object "java/lang/String")) (hRm 6 2 1310) M [.ref a] (fun v M' => ∃ q, v = some (.ref q) ∧ StL G M' q tq L ∧ hFr (fun u => u = tq ∨ u = tq + 1) M M') := by
  refine hCT.of (own := RJ4) (nm := "toString") (by decide) rfl rfl (Nat.le_of_ble_eq_true rfl) ?_
  intro p e s m args below meth c ls X Y hl
  have hx := X.1
  have hb := X.2.1
  have hl : lv_has ls 1 [(0, .ref a)] := hl
  have hfr : hFr (fun u => u = tq ∨ u = tq + 1) M M := hFr.rf
  refine h_new (ci := 0) X Y (tq) (fs := [.null, .int 0, .int 0, .int 0]) rfl hin_J0 tyJ0_ok kcl_J4_18 kinst_J0 kini_J0 (fun j hj => match j, hj with | 0, _ => rfl | 1, _ => rfl | 2, _ => rfl | 3, _ => rfl | z9 + 4, h9 => absurd h9 (by omega)) (Nat.le_of_ble_eq_true rfl) (Nat.le_of_ble_eq_true rfl) dJ4_toString_0e30d_0 (fun qz1 Mz1 H fz1 hg1 Y => ?_)
  have hV := hV.gr hg1
  have hfr := hfr.grow hg1
  refine lv_dup hx hb dJ4_toString_0e30d_3 rfl ?_
  refine lv_aload_n hx hb dJ4_toString_0e30d_4 rfl (lv_at hl 0 rfl) ?_
  obtain ⟨cap, hV⟩ := hV
  refine h_callI (rest := [.ref qz1]) X Y (c_strInit1 l G Mz1 a t L.length cap (lsW L) hV qz1 tq fz1 htq) (hgi0 kco_J0_init_81219) kini_J0 kml_J4_137 kin_J0_init_81219 rfl dsc_J0_init_81219.2 rfl hl.1 rfl (Nat.le_of_ble_eq_true rfl) ⟨Nat.le_of_ble_eq_true rfl, Nat.le_of_ble_eq_true rfl⟩ ⟨Nat.le_of_ble_eq_true rfl, Nat.le_of_ble_eq_true rfl⟩ dJ4_toString_0e30d_5 ?_
  rintro _ M9 H locs ⟨rfl, hres, hf9⟩ Y
  try dsimp only [Option.toList, List.nil_append]
  exact h_aret (v := some qz1) X Y (Or.inl ⟨_, rfl⟩) ⟨_, rfl, hres, hFr.tr hfr hf9⟩ (by show _ ≤ 2; decide) (by show _ ≤ 1310; decide) dJ4_toString_0e30d_8
