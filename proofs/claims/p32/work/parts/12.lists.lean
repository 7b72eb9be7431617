-- LISTS
/-- the object of an ArrayList: its row at e, n things in it -/
def LsO (M : hM) (a t e n : Nat) : Prop := ∃ mc : Int32, M a = some (t, .inr (2, [.int mc, .ref e, .int (nI n)]))
/-- its row -/
def LsE (G : hG) (M : hM) (e t n : Nat) (g : Nat → Nat) : Prop := ∃ (cap : Nat) (f : Nat → Option Nat), n ≤ cap ∧ cap ≤ 1000 ∧ (∀ i, i < n → f i = some (g i)) ∧ M e = some (t, .inl (hT G 6, cap, .inr (.inr (.inr (.inr f)))))
def bI (p : Bool) : Int32 := if p then 1 else 0
theorem hFw_Jx4a65c_get_915e3 {G : hG} {p : Program} {s : State} {m : MethodId} {args : Array Value} {meth : Method} {c : Code} {cc : ByteArray} {maxL : Nat} {ret : Option FieldType} {own nm : String} (X : hCX G p s m args meth c cc maxL ret own nm) : va_Fw RJx4a65c ⟨"java/util/List", "get", "(I)Ljava/lang/Object;"⟩ yJx4a65c_get_915e3 s :=
  va_Fw.moved ⟨by decide, by decide⟩ X.2.2.2.2.2.2.2.2.2.1.1.alike (va_Fw.of (A := hAr G) (hW0 X.2.2.2.2.2.2.2.2.1 427 (by decide +kernel)) (hW0 X.2.2.2.2.2.2.2.2.1 426 (by decide +kernel)) (hW0 X.2.2.2.2.2.2.2.2.1 430 (by decide +kernel)) (hW0 X.2.2.2.2.2.2.2.2.1 429 (by decide +kernel)) (hW0 X.2.2.2.2.2.2.2.2.1 416 (by decide +kernel)))
theorem hFw_Jx4a65c_size_8abf5 {G : hG} {p : Program} {s : State} {m : MethodId} {args : Array Value} {meth : Method} {c : Code} {cc : ByteArray} {maxL : Nat} {ret : Option FieldType} {own nm : String} (X : hCX G p s m args meth c cc maxL ret own nm) : va_Fw RJx4a65c ⟨"java/util/List", "size", "()I"⟩ yJx4a65c_size_8abf5 s :=
  va_Fw.moved ⟨by decide, by decide⟩ X.2.2.2.2.2.2.2.2.2.1.1.alike (va_Fw.of (A := hAr G) (hW0 X.2.2.2.2.2.2.2.2.1 415 (by decide +kernel)) (hW0 X.2.2.2.2.2.2.2.2.1 414 (by decide +kernel)) (hW0 X.2.2.2.2.2.2.2.2.1 419 (by decide +kernel)) (hW0 X.2.2.2.2.2.2.2.2.1 418 (by decide +kernel)) (hW0 X.2.2.2.2.2.2.2.2.1 416 (by decide +kernel)))
theorem dJ3_checkIndex_8e157_0 : decode cJ3_checkIndex_8e157 0 = .ok (.iload_n 0, 1) := by decide +kernel
theorem dJ3_checkIndex_8e157_1 : decode cJ3_checkIndex_8e157 1 = .ok (.ifCond .lt 8, 3) := by decide +kernel
theorem dJ3_checkIndex_8e157_4 : decode cJ3_checkIndex_8e157 4 = .ok (.iload_n 0, 1) := by decide +kernel
theorem dJ3_checkIndex_8e157_5 : decode cJ3_checkIndex_8e157 5 = .ok (.iload_n 1, 1) := by decide +kernel
theorem dJ3_checkIndex_8e157_6 : decode cJ3_checkIndex_8e157 6 = .ok (.if_icmp .lt 10, 3) := by decide +kernel
theorem dJ3_checkIndex_8e157_16 : decode cJ3_checkIndex_8e157 16 = .ok (.iload_n 0, 1) := by decide +kernel
theorem dJ3_checkIndex_8e157_17 : decode cJ3_checkIndex_8e157 17 = .ok (.ireturn, 1) := by decide +kernel
set_option maxHeartbeats 400000 in
set_option maxRecDepth 100000 in
theorem c_checkIndex3 (l : Launch) (G : hG) (M : hM) (i n : Nat) (hi : i < n) (hn : n < 2147483648) : hCT l G yJ3_checkIndex_8e157 cJ3_checkIndex_8e157 3 (Option.some FieldType.int) (hRm 1 0 0) M [.int (nI i), .int (nI n), .null] (hRd M (.int (nI i))) := by
  refine hCT.of (own := RJ3) (nm := "checkIndex") (by decide) rfl rfl (Nat.le_of_ble_eq_true rfl) ?_
  intro p e s m args below meth c ls X Y hl
  have hx := X.1
  have hb := X.2.1
  have hl : lv_has ls 3 [(0, .int (nI i)), (1, .int (nI n)), (2, .null)] := hl
  refine lv_iload_n hx hb dJ3_checkIndex_8e157_0 rfl (lv_at hl 0 rfl) ?_
  refine lv_if_lt (tgt := 9) hx hb dJ3_checkIndex_8e157_1 (by decide) (fun c1 => absurd (show i < 0 from (nI_ltI (a := i) (b := 0) (by omega) (by omega)).mp c1) (by omega)) (fun c1 => ?_)
  have c1 : ¬ i < 0 := fun z9 => c1 ((nI_ltI (a := i) (b := 0) (by omega) (by omega)).mpr z9)
  refine lv_iload_n hx hb dJ3_checkIndex_8e157_4 rfl (lv_at hl 0 rfl) ?_
  refine lv_iload_n hx hb dJ3_checkIndex_8e157_5 rfl (lv_at hl 1 rfl) ?_
  refine lv_icmp_lt (tgt := 16) hx hb dJ3_checkIndex_8e157_6 (by decide) (fun c6 => ?_) (fun c6 => absurd (show ¬ i < n from fun z9 => c6 ((nI_ltI (a := i) (b := n) (by omega) (by omega)).mpr z9)) (by omega))
  have c6 : i < n := (nI_ltI (a := i) (b := n) (by omega) (by omega)).mp c6
  refine lv_iload_n hx hb dJ3_checkIndex_8e157_16 rfl (lv_at hl 0 rfl) ?_
  exact h_iret X Y ⟨rfl, rfl⟩ (Nat.le_refl _) (Nat.le_refl _) dJ3_checkIndex_8e157_17
theorem gw_J15_105 : GoodIn hGW (va_wsS RJ15 105 yJ3_checkIndex_8e157 (Cond.code yJ3_checkIndex_8e157 cJ3_checkIndex_8e157 3 (Option.some FieldType.int) :: hGW)) := hgi3 kml_J15_105 kst_J3_checkIndex_8e157 kini_J3 kco_J3_checkIndex_8e157
theorem dsc_J3_checkIndex_8e157 : yJ3_checkIndex_8e157.cls = RJ3 ∧ yJ3_checkIndex_8e157.cls ≠ "java/lang/invoke/MethodHandle" ∧ yJ3_checkIndex_8e157.cls ≠ "java/lang/invoke/VarHandle" ∧ (parseMethodDescriptor yJ3_checkIndex_8e157.desc).map (fun d => d.parameters.length) = some 3 := ⟨rfl, by decide +kernel, by decide +kernel, by decide +kernel⟩
theorem dJ15_checkIndex_7cf53_0 : decode cJ15_checkIndex_7cf53 0 = .ok (.iload_n 0, 1) := by decide +kernel
theorem dJ15_checkIndex_7cf53_1 : decode cJ15_checkIndex_7cf53 1 = .ok (.iload_n 1, 1) := by decide +kernel
theorem dJ15_checkIndex_7cf53_2 : decode cJ15_checkIndex_7cf53 2 = .ok (.aconst_null, 1) := by decide +kernel
theorem dJ15_checkIndex_7cf53_3 : decode cJ15_checkIndex_7cf53 3 = .ok (.invokestatic 105, 3) := by decide +kernel
theorem dJ15_checkIndex_7cf53_6 : decode cJ15_checkIndex_7cf53 6 = .ok (.ireturn, 1) := by decide +kernel
set_option maxHeartbeats 400000 in
set_option maxRecDepth 100000 in
theorem c_checkIndex (l : Launch) (G : hG) (M : hM) (i n : Nat) (hi : i < n) (hn : n < 2147483648) : hCT l G yJ15_checkIndex_7cf53 cJ15_checkIndex_7cf53 2 (Option.some FieldType.int) (hRm 2 0 0) M [.int (nI i), .int (nI n)] (hRd M (.int (nI i))) := by
  refine hCT.of (own := RJ15) (nm := "checkIndex") (by decide) rfl rfl (Nat.le_of_ble_eq_true rfl) ?_
  intro p e s m args below meth c ls X Y hl
  have hx := X.1
  have hb := X.2.1
  have hl : lv_has ls 2 [(0, .int (nI i)), (1, .int (nI n))] := hl
  refine lv_iload_n hx hb dJ15_checkIndex_7cf53_0 rfl (lv_at hl 0 rfl) ?_
  refine lv_iload_n hx hb dJ15_checkIndex_7cf53_1 rfl (lv_at hl 1 rfl) ?_
  refine lv_null hx hb dJ15_checkIndex_7cf53_2 ?_
  refine h_callSr (rest := []) X Y (c_checkIndex3 l G M i n hi hn) rfl rfl gw_J15_105 dsc_J3_checkIndex_8e157.2 rfl rfl hl.1 (Nat.le_of_ble_eq_true rfl) ⟨Nat.le_of_ble_eq_true rfl, Nat.le_of_ble_eq_true rfl⟩ ⟨Nat.le_of_ble_eq_true rfl, Nat.le_of_ble_eq_true rfl⟩ dJ15_checkIndex_7cf53_3 (fun H locs Y => ?_)
  exact h_iret X Y ⟨rfl, rfl⟩ (Nat.le_refl _) (Nat.le_refl _) dJ15_checkIndex_7cf53_6
theorem dJx4a65c_size_8abf5_0 : decode cJx4a65c_size_8abf5 0 = .ok (.aload_n 0, 1) := by decide +kernel
theorem dJx4a65c_size_8abf5_1 : decode cJx4a65c_size_8abf5 1 = .ok (.getfield 48, 3) := by decide +kernel
theorem dJx4a65c_size_8abf5_4 : decode cJx4a65c_size_8abf5 4 = .ok (.ireturn, 1) := by decide +kernel
set_option maxHeartbeats 400000 in
set_option maxRecDepth 100000 in
theorem c_size (l : Launch) (G : hG) (M : hM) (a t e0 n : Nat) (hO : LsO M a t e0 n) : hCT l G yJx4a65c_size_8abf5 cJx4a65c_size_8abf5 1 (Option.some FieldType.int) (hRm 1 0 0) M [.ref a] (hRd M (.int (nI n))) := by
  refine hCT.of (own := RJx4a65c) (nm := "size") (by decide) rfl rfl (Nat.le_of_ble_eq_true rfl) ?_
  intro p e s m args below meth c ls X Y hl
  have hx := X.1
  have hb := X.2.1
  have hl : lv_has ls 1 [(0, .ref a)] := hl
  obtain ⟨mc, ho⟩ := hO
  refine lv_aload_n hx hb dJx4a65c_size_8abf5_0 rfl (lv_at hl 0 rfl) ?_
  refine h_get X Y (k := 2) (v := .int (nI n)) ho rfl hin_Jx4a65c (by decide) kfl_Jx4a65c_48 rfl dJx4a65c_size_8abf5_1 ?_
  exact h_iret X Y ⟨rfl, rfl⟩ (Nat.le_refl _) (Nat.le_refl _) dJx4a65c_size_8abf5_4
theorem dJx4a65c_elementData_915e3_0 : decode cJx4a65c_elementData_915e3 0 = .ok (.aload_n 0, 1) := by decide +kernel
theorem dJx4a65c_elementData_915e3_1 : decode cJx4a65c_elementData_915e3 1 = .ok (.getfield 9, 3) := by decide +kernel
theorem dJx4a65c_elementData_915e3_4 : decode cJx4a65c_elementData_915e3 4 = .ok (.iload_n 1, 1) := by decide +kernel
theorem dJx4a65c_elementData_915e3_5 : decode cJx4a65c_elementData_915e3 5 = .ok (.aaload, 1) := by decide +kernel
theorem dJx4a65c_elementData_915e3_6 : decode cJx4a65c_elementData_915e3 6 = .ok (.areturn, 1) := by decide +kernel
set_option maxHeartbeats 400000 in
set_option maxRecDepth 100000 in
theorem c_elementData (l : Launch) (G : hG) (M : hM) (a t e0 te n i : Nat) (g : Nat → Nat) (hO : LsO M a t e0 n) (hE : LsE G M e0 te n g) (hi : i < n) : hCT l G yJx4a65c_elementData_915e3 cJx4a65c_elementData_915e3 2 (Option.some (FieldType.object "java/lang/Object")) (hRm 1 0 0) M [.ref a, .int (nI i)] (hRd M (.ref (g i))) := by
  refine hCT.of (own := RJx4a65c) (nm := "elementData") (by decide) rfl rfl (Nat.le_of_ble_eq_true rfl) ?_
  intro p e s m args below meth c ls X Y hl
  have hx := X.1
  have hb := X.2.1
  have hl : lv_has ls 2 [(0, .ref a), (1, .int (nI i))] := hl
  obtain ⟨mc, ho⟩ := hO
  obtain ⟨cap, f, hc, hcap, hf, he⟩ := hE
  refine lv_aload_n hx hb dJx4a65c_elementData_915e3_0 rfl (lv_at hl 0 rfl) ?_
  refine h_get X Y (k := 1) (v := .ref e0) ho rfl hin_Jx4a65c (by decide) kfl_Jx4a65c_9 rfl dJx4a65c_elementData_915e3_1 ?_
  refine lv_iload_n hx hb dJx4a65c_elementData_915e3_4 rfl (lv_at hl 1 rfl) ?_
  refine h_aald X Y 6 (i := i) he rfl (by omega) (by omega) dJx4a65c_elementData_915e3_5 ?_
  rw [hf i hi]
  exact h_aret (v := some (g i)) X Y (Or.inl ⟨_, rfl⟩) ⟨rfl, rfl⟩ (Nat.le_refl _) (Nat.le_refl _) dJx4a65c_elementData_915e3_6
theorem gw_Jx4a65c_118 : GoodIn hGW (va_wsS RJx4a65c 118 yJ15_checkIndex_7cf53 (Cond.code yJ15_checkIndex_7cf53 cJ15_checkIndex_7cf53 2 (Option.some FieldType.int) :: hGW)) := hgi3 kml_Jx4a65c_118 kst_J15_checkIndex_7cf53 kini_J15 kco_J15_checkIndex_7cf53
theorem dsc_J15_checkIndex_7cf53 : yJ15_checkIndex_7cf53.cls = RJ15 ∧ yJ15_checkIndex_7cf53.cls ≠ "java/lang/invoke/MethodHandle" ∧ yJ15_checkIndex_7cf53.cls ≠ "java/lang/invoke/VarHandle" ∧ (parseMethodDescriptor yJ15_checkIndex_7cf53.desc).map (fun d => d.parameters.length) = some 2 := ⟨rfl, by decide +kernel, by decide +kernel, by decide +kernel⟩
theorem gw_Jx4a65c_123 : GoodIn hGW (wsV RJx4a65c 123 RJx4a65c yJx4a65c_elementData_915e3 (Cond.code yJx4a65c_elementData_915e3 cJx4a65c_elementData_915e3 2 (Option.some (FieldType.object "java/lang/Object")) :: hGW)) := hgi4 kml_Jx4a65c_123 kin_Jx4a65c_elementData_915e3 kse_Jx4a65c_Jx4a65c_elementData_915e3_Jx4a65c_elementData_915e3 kini_Jx4a65c kco_Jx4a65c_elementData_915e3
theorem dsc_Jx4a65c_elementData_915e3 : yJx4a65c_elementData_915e3.cls = RJx4a65c ∧ yJx4a65c_elementData_915e3.cls ≠ "java/lang/invoke/MethodHandle" ∧ yJx4a65c_elementData_915e3.cls ≠ "java/lang/invoke/VarHandle" ∧ (parseMethodDescriptor yJx4a65c_elementData_915e3.desc).map (fun d => d.parameters.length) = some 1 := ⟨rfl, by decide +kernel, by decide +kernel, by decide +kernel⟩
theorem dJx4a65c_get_915e3_0 : decode cJx4a65c_get_915e3 0 = .ok (.iload_n 1, 1) := by decide +kernel
theorem dJx4a65c_get_915e3_1 : decode cJx4a65c_get_915e3 1 = .ok (.aload_n 0, 1) := by decide +kernel
theorem dJx4a65c_get_915e3_2 : decode cJx4a65c_get_915e3 2 = .ok (.getfield 48, 3) := by decide +kernel
theorem dJx4a65c_get_915e3_5 : decode cJx4a65c_get_915e3 5 = .ok (.invokestatic 118, 3) := by decide +kernel
theorem dJx4a65c_get_915e3_8 : decode cJx4a65c_get_915e3 8 = .ok (.pop, 1) := by decide +kernel
theorem dJx4a65c_get_915e3_9 : decode cJx4a65c_get_915e3 9 = .ok (.aload_n 0, 1) := by decide +kernel
theorem dJx4a65c_get_915e3_10 : decode cJx4a65c_get_915e3 10 = .ok (.iload_n 1, 1) := by decide +kernel
theorem dJx4a65c_get_915e3_11 : decode cJx4a65c_get_915e3 11 = .ok (.invokevirtual 123, 3) := by decide +kernel
theorem dJx4a65c_get_915e3_14 : decode cJx4a65c_get_915e3 14 = .ok (.areturn, 1) := by decide +kernel
set_option maxHeartbeats 400000 in
set_option maxRecDepth 100000 in
theorem c_get (l : Launch) (G : hG) (M : hM) (a t e0 te n i : Nat) (g : Nat → Nat) (hO : LsO M a t e0 n) (hE : LsE G M e0 te n g) (hi : i < n) : hCT l G yJx4a65c_get_915e3 cJx4a65c_get_915e3 2 (Option.some (FieldType.object "java/lang/Object")) (hRm 3 0 0) M [.ref a, .int (nI i)] (hRd M (.ref (g i))) := by
  refine hCT.of (own := RJx4a65c) (nm := "get") (by decide) rfl rfl (Nat.le_of_ble_eq_true rfl) ?_
  intro p e s m args below meth c ls X Y hl
  have hx := X.1
  have hb := X.2.1
  have hl : lv_has ls 2 [(0, .ref a), (1, .int (nI i))] := hl
  obtain ⟨mc, ho⟩ := id hO
  obtain ⟨cap, f, hc, hcap, hf, he⟩ := id hE
  refine lv_iload_n hx hb dJx4a65c_get_915e3_0 rfl (lv_at hl 1 rfl) ?_
  refine lv_aload_n hx hb dJx4a65c_get_915e3_1 rfl (lv_at hl 0 rfl) ?_
  refine h_get X Y (k := 2) (v := .int (nI n)) ho rfl hin_Jx4a65c (by decide) kfl_Jx4a65c_48 rfl dJx4a65c_get_915e3_2 ?_
  refine h_callSr (rest := []) X Y (c_checkIndex l G M i n hi (by omega)) rfl rfl gw_Jx4a65c_118 dsc_J15_checkIndex_7cf53.2 rfl rfl hl.1 (Nat.le_of_ble_eq_true rfl) ⟨Nat.le_of_ble_eq_true rfl, Nat.le_of_ble_eq_true rfl⟩ ⟨Nat.le_of_ble_eq_true rfl, Nat.le_of_ble_eq_true rfl⟩ dJx4a65c_get_915e3_5 (fun H locs Y => ?_)
  refine lv_pop hx hb dJx4a65c_get_915e3_8 rfl ?_
  refine lv_aload_n hx hb dJx4a65c_get_915e3_9 rfl (lv_at hl 0 rfl) ?_
  refine lv_iload_n hx hb dJx4a65c_get_915e3_10 rfl (lv_at hl 1 rfl) ?_
  refine h_callVr (rest := []) X Y (c_elementData l G M a t e0 te n i g hO hE hi) rfl rfl gw_Jx4a65c_123 dsc_Jx4a65c_elementData_915e3 ho rfl rfl rfl rfl hl.1 (Nat.le_of_ble_eq_true rfl) ⟨Nat.le_of_ble_eq_true rfl, Nat.le_of_ble_eq_true rfl⟩ ⟨Nat.le_of_ble_eq_true rfl, Nat.le_of_ble_eq_true rfl⟩ dJx4a65c_get_915e3_11 (fun H locs Y => ?_)
  exact h_aret (v := some (g i)) X Y (Or.inl ⟨_, rfl⟩) ⟨rfl, rfl⟩ (Nat.le_refl _) (Nat.le_refl _) dJx4a65c_get_915e3_14
