-- NUMBERS ARE TOLD, STRINGS ARE MADE
section CASTB
variable {G : hG} {p : Program} {l : Launch} {e : Env} {R : Room} {s : State} {m : MethodId} {args : Array Value} {below : List Frame} {meth : Method} {c : Code} {H : Heap} {locs : List Loc} {cells slots : Nat} {Q : State → Prop}
variable {cc : ByteArray} {maxL : Nat} {ret : Option FieldType} {own nm : String} {M : hM} {pc : Nat} {ls : Array Slot} {rest : List Value} {a t ci index n : Nat} {cA : ClassId}
theorem h_castB {f : Nat → Int32} (X : hCX G p s m args meth c cc maxL ret own nm) (Y : hHS G M s H locs) (he : M a = some (t, .inl (hT G 1, n, .inl f))) (hlink : Cond.classLink own index "[B" ∈ hGW) (hdg : decode cc pc = .ok (.checkcast index, 3))
    (kk : W p l e R s m args below meth c H locs cells slots Q (F0 m (pc + 3) ls (.ref a :: rest))) : W p l e R s m args below meth c H locs cells slots Q (F0 m pc ls (.ref a :: rest)) :=
  va_castA (D := hD G) (cl := vwCl) X.1 X.2.1 X.2.2.2.2.1 (X.2.2.2.2.2.1 _ hlink) (Y.1.get he) 0 rfl (X.2.2.2.2.2.2.2.1.2 1 (hT G 1, .byte) rfl).2 hdg kk
end CASTB
theorem dec_lt (v j : Nat) : sb_dec v j < 128 := by unfold sb_dec; omega
theorem dJ5_isLatin1_aae02_0 : decode cJ5_isLatin1_aae02 0 = .ok (.getstatic 18, 3) := by decide +kernel
theorem dJ5_isLatin1_aae02_3 : decode cJ5_isLatin1_aae02 3 = .ok (.ifCond .eq 14, 3) := by decide +kernel
theorem dJ5_isLatin1_aae02_6 : decode cJ5_isLatin1_aae02 6 = .ok (.aload_n 0, 1) := by decide +kernel
theorem dJ5_isLatin1_aae02_7 : decode cJ5_isLatin1_aae02 7 = .ok (.getfield 22, 3) := by decide +kernel
theorem dJ5_isLatin1_aae02_10 : decode cJ5_isLatin1_aae02 10 = .ok (.ifCond .ne 7, 3) := by decide +kernel
theorem dJ5_isLatin1_aae02_13 : decode cJ5_isLatin1_aae02 13 = .ok (.iconst 1, 1) := by decide +kernel
theorem dJ5_isLatin1_aae02_14 : decode cJ5_isLatin1_aae02 14 = .ok (.goto 4, 3) := by decide +kernel
theorem dJ5_isLatin1_aae02_18 : decode cJ5_isLatin1_aae02 18 = .ok (.ireturn, 1) := by decide +kernel
set_option maxHeartbeats 400000 in
set_option maxRecDepth 100000 in
theorem c_sbLatin (l : Launch) (G : hG) (M : hM) (a t va : Nat) (n : Nat) (hb0 : M a = some (t, .inr (1, [.ref va, .int 0, .int 0, .int (nI n)]))) : hCT l G yJ5_isLatin1_aae02 cJ5_isLatin1_aae02 1 (Option.some FieldType.boolean) (hRm 1 0 0) M [.ref a] (hRd M (.int 1)) := by
  refine hCT.of (own := RJ5) (nm := "isLatin1") (by decide) rfl rfl (Nat.le_of_ble_eq_true rfl) ?_
  intro p e s m args below meth c ls X Y hl
  have hx := X.1
  have hb := X.2.1
  have hl : lv_has ls 1 [(0, .ref a)] := hl
  refine h_gets X Y (hCS_Z X.2.2.2.2.2.2.2.2.1 X.2.2.2.2.2.2.2.2.2.1) kfl_J5_18 dJ5_isLatin1_aae02_0 ?_
  refine lv_if_eq (tgt := 17) hx hb dJ5_isLatin1_aae02_3 (by decide) (fun c3 => absurd c3 (by decide)) (fun c3 => ?_)
  refine lv_aload_n hx hb dJ5_isLatin1_aae02_6 rfl (lv_at hl 0 rfl) ?_
  refine h_get X Y (k := 1) (v := .int 0) hb0 rfl hin_J4 (by decide) kfl_J5_22 rfl dJ5_isLatin1_aae02_7 ?_
  refine lv_if_ne (tgt := 17) hx hb dJ5_isLatin1_aae02_10 (by decide) (fun c10 => absurd (by decide) c10) (fun c10 => ?_)
  refine lv_iconst (v := 1) hx hb dJ5_isLatin1_aae02_13 (by decide) ?_
  refine lv_goto (tgt := 18) hx hb dJ5_isLatin1_aae02_14 (by decide) ?_
  exact h_zret X Y rfl ⟨rfl, rfl⟩ (Nat.le_refl _) (Nat.le_refl _) dJ5_isLatin1_aae02_18
theorem dJ5_getValue_6d5f1_0 : decode cJ5_getValue_6d5f1 0 = .ok (.aload_n 0, 1) := by decide +kernel
theorem dJ5_getValue_6d5f1_1 : decode cJ5_getValue_6d5f1 1 = .ok (.getfield 15, 3) := by decide +kernel
theorem dJ5_getValue_6d5f1_4 : decode cJ5_getValue_6d5f1 4 = .ok (.areturn, 1) := by decide +kernel
set_option maxHeartbeats 400000 in
set_option maxRecDepth 100000 in
theorem c_sbVal (l : Launch) (G : hG) (M : hM) (a t va : Nat) (n : Nat) (hb0 : M a = some (t, .inr (1, [.ref va, .int 0, .int 0, .int (nI n)]))) : hCT l G yJ5_getValue_6d5f1 cJ5_getValue_6d5f1 1 (Option.some (FieldType.array FieldType.byte)) (hRm 1 0 0) M [.ref a] (hRd M (.ref va)) := by
  refine hCT.of (own := RJ5) (nm := "getValue") (by decide) rfl rfl (Nat.le_of_ble_eq_true rfl) ?_
  intro p e s m args below meth c ls X Y hl
  have hx := X.1
  have hb := X.2.1
  have hl : lv_has ls 1 [(0, .ref a)] := hl
  refine lv_aload_n hx hb dJ5_getValue_6d5f1_0 rfl (lv_at hl 0 rfl) ?_
  refine h_get X Y (k := 0) (v := .ref va) hb0 rfl hin_J4 (by decide) kfl_J5_15 rfl dJ5_getValue_6d5f1_1 ?_
  exact h_aret (v := some va) X Y (Or.inr ⟨_, rfl⟩) ⟨rfl, rfl⟩ (Nat.le_refl _) (Nat.le_refl _) dJ5_getValue_6d5f1_4
theorem dJ5_length_8abf5_0 : decode cJ5_length_8abf5 0 = .ok (.aload_n 0, 1) := by decide +kernel
theorem dJ5_length_8abf5_1 : decode cJ5_length_8abf5 1 = .ok (.getfield 79, 3) := by decide +kernel
theorem dJ5_length_8abf5_4 : decode cJ5_length_8abf5 4 = .ok (.ireturn, 1) := by decide +kernel
set_option maxHeartbeats 400000 in
set_option maxRecDepth 100000 in
theorem c_sbLen5 (l : Launch) (G : hG) (M : hM) (a t va : Nat) (n : Nat) (hb0 : M a = some (t, .inr (1, [.ref va, .int 0, .int 0, .int (nI n)]))) : hCT l G yJ5_length_8abf5 cJ5_length_8abf5 1 (Option.some FieldType.int) (hRm 1 0 0) M [.ref a] (hRd M (.int (nI n))) := by
  refine hCT.of (own := RJ5) (nm := "length") (by decide) rfl rfl (Nat.le_of_ble_eq_true rfl) ?_
  intro p e s m args below meth c ls X Y hl
  have hx := X.1
  have hb := X.2.1
  have hl : lv_has ls 1 [(0, .ref a)] := hl
  refine lv_aload_n hx hb dJ5_length_8abf5_0 rfl (lv_at hl 0 rfl) ?_
  refine h_get X Y (k := 3) (v := .int (nI n)) hb0 rfl hin_J4 (by decide) kfl_J5_79 rfl dJ5_length_8abf5_1 ?_
  exact h_iret X Y ⟨rfl, rfl⟩ (Nat.le_refl _) (Nat.le_refl _) dJ5_length_8abf5_4
theorem gsu_J4_343 : GoodIn hGW (va_wsSU RJ4 343 yJ5_length_8abf5 (Cond.code yJ5_length_8abf5 cJ5_length_8abf5 1 (Option.some FieldType.int) :: hGW)) := hgi5 kml_J4_343 ksm_J5_length__I ksu_J4 kin_J5_length_8abf5 kini_J5 kco_J5_length_8abf5
theorem dss_J5_length_8abf5 : yJ5_length_8abf5.name ≠ "<init>" ∧ (parseMethodDescriptor yJ5_length_8abf5.desc).map (fun d => d.parameters.length) = some 0 := ⟨by decide +kernel, by decide +kernel⟩
theorem dJ4_length_8abf5_0 : decode cJ4_length_8abf5 0 = .ok (.aload_n 0, 1) := by decide +kernel
theorem dJ4_length_8abf5_1 : decode cJ4_length_8abf5 1 = .ok (.invokespecial 343, 3) := by decide +kernel
theorem dJ4_length_8abf5_4 : decode cJ4_length_8abf5 4 = .ok (.ireturn, 1) := by decide +kernel
set_option maxHeartbeats 400000 in
set_option maxRecDepth 100000 in
theorem c_sbLen (l : Launch) (G : hG) (M : hM) (a t va : Nat) (n : Nat) (hb0 : M a = some (t, .inr (1, [.ref va, .int 0, .int 0, .int (nI n)]))) : hCT l G yJ4_length_8abf5 cJ4_length_8abf5 1 (Option.some FieldType.int) (hRm 2 0 0) M [.ref a] (hRd M (.int (nI n))) := by
  refine hCT.of (own := RJ4) (nm := "length") (by decide) rfl rfl (Nat.le_of_ble_eq_true rfl) ?_
  intro p e s m args below meth c ls X Y hl
  have hx := X.1
  have hb := X.2.1
  have hl : lv_has ls 1 [(0, .ref a)] := hl
  refine lv_aload_n hx hb dJ4_length_8abf5_0 rfl (lv_at hl 0 rfl) ?_
  refine h_callSU (rest := []) X Y (c_sbLen5 l G M a t va n hb0) gsu_J4_343 dss_J5_length_8abf5 hb0 rfl rfl hl.1 rfl (Nat.le_of_ble_eq_true rfl) ⟨Nat.le_of_ble_eq_true rfl, Nat.le_of_ble_eq_true rfl⟩ ⟨Nat.le_of_ble_eq_true rfl, Nat.le_of_ble_eq_true rfl⟩ dJ4_length_8abf5_1 ?_
  rintro _ Mz1 H locs ⟨rfl, hM9⟩ Y
  try dsimp only [Option.toList, List.nil_append, List.singleton_append]
  rw [hM9] at Y
  exact h_iret X Y ⟨rfl, rfl⟩ (Nat.le_refl _) (Nat.le_refl _) dJ4_length_8abf5_4
theorem dJ6_stringSize_0f7a4_0 : decode cJ6_stringSize_0f7a4 0 = .ok (.iconst 1, 1) := by decide +kernel
theorem dJ6_stringSize_0f7a4_1 : decode cJ6_stringSize_0f7a4 1 = .ok (.istore_n 1, 1) := by decide +kernel
theorem dJ6_stringSize_0f7a4_2 : decode cJ6_stringSize_0f7a4 2 = .ok (.iload_n 0, 1) := by decide +kernel
theorem dJ6_stringSize_0f7a4_3 : decode cJ6_stringSize_0f7a4 3 = .ok (.ifCond .lt 8, 3) := by decide +kernel
theorem dJ6_stringSize_0f7a4_6 : decode cJ6_stringSize_0f7a4 6 = .ok (.iconst 0, 1) := by decide +kernel
theorem dJ6_stringSize_0f7a4_7 : decode cJ6_stringSize_0f7a4 7 = .ok (.istore_n 1, 1) := by decide +kernel
theorem dJ6_stringSize_0f7a4_8 : decode cJ6_stringSize_0f7a4 8 = .ok (.iload_n 0, 1) := by decide +kernel
theorem dJ6_stringSize_0f7a4_9 : decode cJ6_stringSize_0f7a4 9 = .ok (.ineg, 1) := by decide +kernel
theorem dJ6_stringSize_0f7a4_10 : decode cJ6_stringSize_0f7a4 10 = .ok (.istore_n 0, 1) := by decide +kernel
theorem dJ6_stringSize_0f7a4_11 : decode cJ6_stringSize_0f7a4 11 = .ok (.bipush (-10), 2) := by decide +kernel
theorem dJ6_stringSize_0f7a4_13 : decode cJ6_stringSize_0f7a4 13 = .ok (.istore_n 2, 1) := by decide +kernel
theorem dJ6_stringSize_0f7a4_14 : decode cJ6_stringSize_0f7a4 14 = .ok (.iconst 1, 1) := by decide +kernel
theorem dJ6_stringSize_0f7a4_15 : decode cJ6_stringSize_0f7a4 15 = .ok (.istore_n 3, 1) := by decide +kernel
theorem dJ6_stringSize_0f7a4_16 : decode cJ6_stringSize_0f7a4 16 = .ok (.iload_n 3, 1) := by decide +kernel
theorem dJ6_stringSize_0f7a4_17 : decode cJ6_stringSize_0f7a4 17 = .ok (.bipush 10, 2) := by decide +kernel
theorem dJ6_stringSize_0f7a4_19 : decode cJ6_stringSize_0f7a4 19 = .ok (.if_icmp .ge 23, 3) := by decide +kernel
theorem dJ6_stringSize_0f7a4_22 : decode cJ6_stringSize_0f7a4 22 = .ok (.iload_n 0, 1) := by decide +kernel
theorem dJ6_stringSize_0f7a4_23 : decode cJ6_stringSize_0f7a4 23 = .ok (.iload_n 2, 1) := by decide +kernel
theorem dJ6_stringSize_0f7a4_24 : decode cJ6_stringSize_0f7a4 24 = .ok (.if_icmp .le 7, 3) := by decide +kernel
theorem dJ6_stringSize_0f7a4_27 : decode cJ6_stringSize_0f7a4 27 = .ok (.iload_n 3, 1) := by decide +kernel
theorem dJ6_stringSize_0f7a4_28 : decode cJ6_stringSize_0f7a4 28 = .ok (.iload_n 1, 1) := by decide +kernel
theorem dJ6_stringSize_0f7a4_29 : decode cJ6_stringSize_0f7a4 29 = .ok (.iadd, 1) := by decide +kernel
theorem dJ6_stringSize_0f7a4_30 : decode cJ6_stringSize_0f7a4 30 = .ok (.ireturn, 1) := by decide +kernel
theorem dJ6_stringSize_0f7a4_31 : decode cJ6_stringSize_0f7a4 31 = .ok (.bipush 10, 2) := by decide +kernel
theorem dJ6_stringSize_0f7a4_33 : decode cJ6_stringSize_0f7a4 33 = .ok (.iload_n 2, 1) := by decide +kernel
theorem dJ6_stringSize_0f7a4_34 : decode cJ6_stringSize_0f7a4 34 = .ok (.imul, 1) := by decide +kernel
theorem dJ6_stringSize_0f7a4_35 : decode cJ6_stringSize_0f7a4 35 = .ok (.istore_n 2, 1) := by decide +kernel
theorem dJ6_stringSize_0f7a4_36 : decode cJ6_stringSize_0f7a4 36 = .ok (.iinc 3 1, 3) := by decide +kernel
theorem dJ6_stringSize_0f7a4_39 : decode cJ6_stringSize_0f7a4 39 = .ok (.goto (-23), 3) := by decide +kernel
set_option maxHeartbeats 400000 in
set_option maxRecDepth 100000 in
theorem c_strSize (l : Launch) (G : hG) (M : hM) (v : Nat) (hv : v < 100000) : hCT l G yJ6_stringSize_0f7a4 cJ6_stringSize_0f7a4 4 (Option.some FieldType.int) (hRm 1 0 0) M [.int (nI v)] (hRd M (.int (nI (sb_dg v)))) := by
  refine hCT.of (own := RJ6) (nm := "stringSize") (by decide) rfl rfl (Nat.le_of_ble_eq_true rfl) ?_
  intro p e s m args below meth c ls X Y hl
  have hx := X.1
  have hb := X.2.1
  have hl : lv_has ls 4 [(0, .int (nI v))] := hl
  refine lv_iconst (v := 1) hx hb dJ6_stringSize_0f7a4_0 (by decide) ?_
  refine lv_istore_n (lv' := [(1, .int 1), (0, .int (nI v))]) hx hb dJ6_stringSize_0f7a4_1 rfl hl (by decide) rfl (fun ls hl => ?_)
  refine lv_iload_n hx hb dJ6_stringSize_0f7a4_2 rfl (lv_at hl 1 rfl) ?_
  refine lv_if_lt (tgt := 11) hx hb dJ6_stringSize_0f7a4_3 (by decide) (fun c3 => absurd (show v < 0 from (nI_ltI (a := v) (b := 0) (by omega) (by omega)).mp c3) (by omega)) (fun c3 => ?_)
  have c3 : ¬ v < 0 := fun z9 => c3 ((nI_ltI (a := v) (b := 0) (by omega) (by omega)).mpr z9)
  refine lv_iconst (v := 0) hx hb dJ6_stringSize_0f7a4_6 (by decide) ?_
  refine lv_istore_n (lv' := [(1, .int 0), (0, .int (nI v))]) hx hb dJ6_stringSize_0f7a4_7 rfl hl (by decide) rfl (fun ls hl => ?_)
  refine lv_iload_n hx hb dJ6_stringSize_0f7a4_8 rfl (lv_at hl 1 rfl) ?_
  refine lv_ineg hx hb dJ6_stringSize_0f7a4_9 ?_
  refine lv_istore_n (lv' := [(0, .int (-(nI v))), (1, .int 0)]) hx hb dJ6_stringSize_0f7a4_10 rfl hl (by decide) rfl (fun ls hl => ?_)
  refine lv_bipush (v := (-10)) hx hb dJ6_stringSize_0f7a4_11 (by decide) ?_
  refine lv_istore_n (lv' := [(2, .int (-10)), (0, .int (-(nI v))), (1, .int 0)]) hx hb dJ6_stringSize_0f7a4_13 rfl hl (by decide) rfl (fun ls hl => ?_)
  refine lv_iconst (v := 1) hx hb dJ6_stringSize_0f7a4_14 (by decide) ?_
  refine lv_istore_n (lv' := [(3, .int 1), (2, .int (-10)), (0, .int (-(nI v))), (1, .int 0)]) hx hb dJ6_stringSize_0f7a4_15 rfl hl (by decide) rfl (fun ls hl => ?_)
  refine lv_iload_n hx hb dJ6_stringSize_0f7a4_16 rfl (lv_at hl 0 rfl) ?_
  refine lv_bipush (v := 10) hx hb dJ6_stringSize_0f7a4_17 (by decide) ?_
  refine lv_icmp_ge (tgt := 42) hx hb dJ6_stringSize_0f7a4_19 (by decide) (fun c19 => absurd c19 (by decide)) (fun c19 => ?_)
  refine lv_iload_n hx hb dJ6_stringSize_0f7a4_22 rfl (lv_at hl 2 rfl) ?_
  refine lv_iload_n hx hb dJ6_stringSize_0f7a4_23 rfl (lv_at hl 1 rfl) ?_
  refine lv_icmp_le (tgt := 31) hx hb dJ6_stringSize_0f7a4_24 (by decide) (fun c24 => ?_) (fun c24 => ?_)
  · have hge10 : 10 ≤ v := (sb_nle (a := v) (b := 10) (by omega) (by decide)).mp (show -nI v ≤ -nI 10 from c24)
    refine lv_bipush (v := 10) hx hb dJ6_stringSize_0f7a4_31 (by decide) ?_
    refine lv_iload_n hx hb dJ6_stringSize_0f7a4_33 rfl (lv_at hl 1 rfl) ?_
    refine lv_imul hx hb dJ6_stringSize_0f7a4_34 ?_
    refine h_ev (y := (-100)) (by decide) ?_
    refine lv_istore_n (lv' := [(2, .int (-100)), (3, .int 1), (0, .int (-(nI v))), (1, .int 0)]) hx hb dJ6_stringSize_0f7a4_35 rfl hl (by decide) rfl (fun ls hl => ?_)
    refine lv_iinc (v := nI 2) (lv' := [(3, .int (nI 2)), (2, .int (-100)), (0, .int (-(nI v))), (1, .int 0)]) hx hb dJ6_stringSize_0f7a4_36 hl (k := 1) rfl (by decide) (by decide) rfl (fun ls hl => ?_)
    refine lv_goto (tgt := 16) hx hb dJ6_stringSize_0f7a4_39 (by decide) ?_
    refine lv_iload_n hx hb dJ6_stringSize_0f7a4_16 rfl (lv_at hl 0 rfl) ?_
    refine lv_bipush (v := 10) hx hb dJ6_stringSize_0f7a4_17 (by decide) ?_
    refine lv_icmp_ge (tgt := 42) hx hb dJ6_stringSize_0f7a4_19 (by decide) (fun c19 => absurd c19 (by decide)) (fun c19 => ?_)
    refine lv_iload_n hx hb dJ6_stringSize_0f7a4_22 rfl (lv_at hl 2 rfl) ?_
    refine lv_iload_n hx hb dJ6_stringSize_0f7a4_23 rfl (lv_at hl 1 rfl) ?_
    refine lv_icmp_le (tgt := 31) hx hb dJ6_stringSize_0f7a4_24 (by decide) (fun c24 => ?_) (fun c24 => ?_)
    · have hge100 : 100 ≤ v := (sb_nle (a := v) (b := 100) (by omega) (by decide)).mp (show -nI v ≤ -nI 100 from c24)
      refine lv_bipush (v := 10) hx hb dJ6_stringSize_0f7a4_31 (by decide) ?_
      refine lv_iload_n hx hb dJ6_stringSize_0f7a4_33 rfl (lv_at hl 1 rfl) ?_
      refine lv_imul hx hb dJ6_stringSize_0f7a4_34 ?_
      refine h_ev (y := (-1000)) (by decide) ?_
      refine lv_istore_n (lv' := [(2, .int (-1000)), (3, .int (nI 2)), (0, .int (-(nI v))), (1, .int 0)]) hx hb dJ6_stringSize_0f7a4_35 rfl hl (by decide) rfl (fun ls hl => ?_)
      refine lv_iinc (v := nI 3) (lv' := [(3, .int (nI 3)), (2, .int (-1000)), (0, .int (-(nI v))), (1, .int 0)]) hx hb dJ6_stringSize_0f7a4_36 hl (k := 1) rfl (by decide) (by decide) rfl (fun ls hl => ?_)
      refine lv_goto (tgt := 16) hx hb dJ6_stringSize_0f7a4_39 (by decide) ?_
      refine lv_iload_n hx hb dJ6_stringSize_0f7a4_16 rfl (lv_at hl 0 rfl) ?_
      refine lv_bipush (v := 10) hx hb dJ6_stringSize_0f7a4_17 (by decide) ?_
      refine lv_icmp_ge (tgt := 42) hx hb dJ6_stringSize_0f7a4_19 (by decide) (fun c19 => absurd c19 (by decide)) (fun c19 => ?_)
      refine lv_iload_n hx hb dJ6_stringSize_0f7a4_22 rfl (lv_at hl 2 rfl) ?_
      refine lv_iload_n hx hb dJ6_stringSize_0f7a4_23 rfl (lv_at hl 1 rfl) ?_
      refine lv_icmp_le (tgt := 31) hx hb dJ6_stringSize_0f7a4_24 (by decide) (fun c24 => ?_) (fun c24 => ?_)
      · have hge1000 : 1000 ≤ v := (sb_nle (a := v) (b := 1000) (by omega) (by decide)).mp (show -nI v ≤ -nI 1000 from c24)
        refine lv_bipush (v := 10) hx hb dJ6_stringSize_0f7a4_31 (by decide) ?_
        refine lv_iload_n hx hb dJ6_stringSize_0f7a4_33 rfl (lv_at hl 1 rfl) ?_
        refine lv_imul hx hb dJ6_stringSize_0f7a4_34 ?_
        refine h_ev (y := (-10000)) (by decide) ?_
        refine lv_istore_n (lv' := [(2, .int (-10000)), (3, .int (nI 3)), (0, .int (-(nI v))), (1, .int 0)]) hx hb dJ6_stringSize_0f7a4_35 rfl hl (by decide) rfl (fun ls hl => ?_)
        refine lv_iinc (v := nI 4) (lv' := [(3, .int (nI 4)), (2, .int (-10000)), (0, .int (-(nI v))), (1, .int 0)]) hx hb dJ6_stringSize_0f7a4_36 hl (k := 1) rfl (by decide) (by decide) rfl (fun ls hl => ?_)
        refine lv_goto (tgt := 16) hx hb dJ6_stringSize_0f7a4_39 (by decide) ?_
        refine lv_iload_n hx hb dJ6_stringSize_0f7a4_16 rfl (lv_at hl 0 rfl) ?_
        refine lv_bipush (v := 10) hx hb dJ6_stringSize_0f7a4_17 (by decide) ?_
        refine lv_icmp_ge (tgt := 42) hx hb dJ6_stringSize_0f7a4_19 (by decide) (fun c19 => absurd c19 (by decide)) (fun c19 => ?_)
        refine lv_iload_n hx hb dJ6_stringSize_0f7a4_22 rfl (lv_at hl 2 rfl) ?_
        refine lv_iload_n hx hb dJ6_stringSize_0f7a4_23 rfl (lv_at hl 1 rfl) ?_
        refine lv_icmp_le (tgt := 31) hx hb dJ6_stringSize_0f7a4_24 (by decide) (fun c24 => ?_) (fun c24 => ?_)
        · have hge10000 : 10000 ≤ v := (sb_nle (a := v) (b := 10000) (by omega) (by decide)).mp (show -nI v ≤ -nI 10000 from c24)
          refine lv_bipush (v := 10) hx hb dJ6_stringSize_0f7a4_31 (by decide) ?_
          refine lv_iload_n hx hb dJ6_stringSize_0f7a4_33 rfl (lv_at hl 1 rfl) ?_
          refine lv_imul hx hb dJ6_stringSize_0f7a4_34 ?_
          refine h_ev (y := (-100000)) (by decide) ?_
          refine lv_istore_n (lv' := [(2, .int (-100000)), (3, .int (nI 4)), (0, .int (-(nI v))), (1, .int 0)]) hx hb dJ6_stringSize_0f7a4_35 rfl hl (by decide) rfl (fun ls hl => ?_)
          refine lv_iinc (v := nI 5) (lv' := [(3, .int (nI 5)), (2, .int (-100000)), (0, .int (-(nI v))), (1, .int 0)]) hx hb dJ6_stringSize_0f7a4_36 hl (k := 1) rfl (by decide) (by decide) rfl (fun ls hl => ?_)
          refine lv_goto (tgt := 16) hx hb dJ6_stringSize_0f7a4_39 (by decide) ?_
          refine lv_iload_n hx hb dJ6_stringSize_0f7a4_16 rfl (lv_at hl 0 rfl) ?_
          refine lv_bipush (v := 10) hx hb dJ6_stringSize_0f7a4_17 (by decide) ?_
          refine lv_icmp_ge (tgt := 42) hx hb dJ6_stringSize_0f7a4_19 (by decide) (fun c19 => absurd c19 (by decide)) (fun c19 => ?_)
          refine lv_iload_n hx hb dJ6_stringSize_0f7a4_22 rfl (lv_at hl 2 rfl) ?_
          refine lv_iload_n hx hb dJ6_stringSize_0f7a4_23 rfl (lv_at hl 1 rfl) ?_
          refine lv_icmp_le (tgt := 31) hx hb dJ6_stringSize_0f7a4_24 (by decide) (fun c24 => absurd ((sb_nle (a := v) (b := 100000) (by omega) (by decide)).mp (show -nI v ≤ -nI 100000 from c24)) (by omega)) (fun c24 => ?_)
          refine lv_iload_n hx hb dJ6_stringSize_0f7a4_27 rfl (lv_at hl 0 rfl) ?_
          refine lv_iload_n hx hb dJ6_stringSize_0f7a4_28 rfl (lv_at hl 3 rfl) ?_
          refine lv_iadd hx hb dJ6_stringSize_0f7a4_29 ?_
          refine h_ev (y := nI 5) (by decide) ?_
          exact h_iret X Y ⟨congrArg (fun z => some (Value.int (nI z))) (show 5 = sb_dg v from by unfold sb_dg; (repeat' split) <;> omega), rfl⟩ (Nat.le_refl _) (Nat.le_refl _) dJ6_stringSize_0f7a4_30
        · have hlt10000 : ¬ 10000 ≤ v := fun z9 => c24 (show -nI v ≤ -nI 10000 from (sb_nle (a := v) (b := 10000) (by omega) (by decide)).mpr z9)
          refine lv_iload_n hx hb dJ6_stringSize_0f7a4_27 rfl (lv_at hl 0 rfl) ?_
          refine lv_iload_n hx hb dJ6_stringSize_0f7a4_28 rfl (lv_at hl 3 rfl) ?_
          refine lv_iadd hx hb dJ6_stringSize_0f7a4_29 ?_
          refine h_ev (y := nI 4) (by decide) ?_
          exact h_iret X Y ⟨congrArg (fun z => some (Value.int (nI z))) (show 4 = sb_dg v from by unfold sb_dg; (repeat' split) <;> omega), rfl⟩ (Nat.le_refl _) (Nat.le_refl _) dJ6_stringSize_0f7a4_30
      · have hlt1000 : ¬ 1000 ≤ v := fun z9 => c24 (show -nI v ≤ -nI 1000 from (sb_nle (a := v) (b := 1000) (by omega) (by decide)).mpr z9)
        refine lv_iload_n hx hb dJ6_stringSize_0f7a4_27 rfl (lv_at hl 0 rfl) ?_
        refine lv_iload_n hx hb dJ6_stringSize_0f7a4_28 rfl (lv_at hl 3 rfl) ?_
        refine lv_iadd hx hb dJ6_stringSize_0f7a4_29 ?_
        refine h_ev (y := nI 3) (by decide) ?_
        exact h_iret X Y ⟨congrArg (fun z => some (Value.int (nI z))) (show 3 = sb_dg v from by unfold sb_dg; (repeat' split) <;> omega), rfl⟩ (Nat.le_refl _) (Nat.le_refl _) dJ6_stringSize_0f7a4_30
    · have hlt100 : ¬ 100 ≤ v := fun z9 => c24 (show -nI v ≤ -nI 100 from (sb_nle (a := v) (b := 100) (by omega) (by decide)).mpr z9)
      refine lv_iload_n hx hb dJ6_stringSize_0f7a4_27 rfl (lv_at hl 0 rfl) ?_
      refine lv_iload_n hx hb dJ6_stringSize_0f7a4_28 rfl (lv_at hl 3 rfl) ?_
      refine lv_iadd hx hb dJ6_stringSize_0f7a4_29 ?_
      refine h_ev (y := nI 2) (by decide) ?_
      exact h_iret X Y ⟨congrArg (fun z => some (Value.int (nI z))) (show 2 = sb_dg v from by unfold sb_dg; (repeat' split) <;> omega), rfl⟩ (Nat.le_refl _) (Nat.le_refl _) dJ6_stringSize_0f7a4_30
  · have hlt10 : ¬ 10 ≤ v := fun z9 => c24 (show -nI v ≤ -nI 10 from (sb_nle (a := v) (b := 10) (by omega) (by decide)).mpr z9)
    refine lv_iload_n hx hb dJ6_stringSize_0f7a4_27 rfl (lv_at hl 0 rfl) ?_
    refine lv_iload_n hx hb dJ6_stringSize_0f7a4_28 rfl (lv_at hl 3 rfl) ?_
    refine lv_iadd hx hb dJ6_stringSize_0f7a4_29 ?_
    refine h_ev (y := nI 1) (by decide) ?_
    exact h_iret X Y ⟨congrArg (fun z => some (Value.int (nI z))) (show 1 = sb_dg v from by unfold sb_dg; (repeat' split) <;> omega), rfl⟩ (Nat.le_refl _) (Nat.le_refl _) dJ6_stringSize_0f7a4_30
theorem dg_small {w : Nat} (h : w < 10) : sb_dg w = 1 := if_pos h
theorem dg_two {w : Nat} (h9 : ¬ w < 10) (h : w < 100) : sb_dg w = 2 := by rw [sb_dg, if_neg h9, if_pos h]
theorem dJ6_getChars_ba4f3_0 : decode cJ6_getChars_ba4f3 0 = .ok (.iload_n 1, 1) := by decide +kernel
theorem dJ6_getChars_ba4f3_1 : decode cJ6_getChars_ba4f3 1 = .ok (.istore 5, 2) := by decide +kernel
theorem dJ6_getChars_ba4f3_3 : decode cJ6_getChars_ba4f3 3 = .ok (.iload_n 0, 1) := by decide +kernel
theorem dJ6_getChars_ba4f3_4 : decode cJ6_getChars_ba4f3 4 = .ok (.ifCond .ge 7, 3) := by decide +kernel
theorem dJ6_getChars_ba4f3_11 : decode cJ6_getChars_ba4f3 11 = .ok (.iconst 0, 1) := by decide +kernel
theorem dJ6_getChars_ba4f3_12 : decode cJ6_getChars_ba4f3 12 = .ok (.istore 6, 2) := by decide +kernel
theorem dJ6_getChars_ba4f3_14 : decode cJ6_getChars_ba4f3 14 = .ok (.iload 6, 2) := by decide +kernel
theorem dJ6_getChars_ba4f3_16 : decode cJ6_getChars_ba4f3 16 = .ok (.ifCond .ne 6, 3) := by decide +kernel
theorem dJ6_getChars_ba4f3_19 : decode cJ6_getChars_ba4f3 19 = .ok (.iload_n 0, 1) := by decide +kernel
theorem dJ6_getChars_ba4f3_20 : decode cJ6_getChars_ba4f3 20 = .ok (.ineg, 1) := by decide +kernel
theorem dJ6_getChars_ba4f3_21 : decode cJ6_getChars_ba4f3 21 = .ok (.istore_n 0, 1) := by decide +kernel
theorem dJ6_getChars_ba4f3_22 : decode cJ6_getChars_ba4f3 22 = .ok (.iload_n 0, 1) := by decide +kernel
theorem dJ6_getChars_ba4f3_23 : decode cJ6_getChars_ba4f3 23 = .ok (.bipush (-100), 2) := by decide +kernel
theorem dJ6_getChars_ba4f3_25 : decode cJ6_getChars_ba4f3 25 = .ok (.if_icmp .gt 47, 3) := by decide +kernel
theorem dJ6_getChars_ba4f3_28 : decode cJ6_getChars_ba4f3 28 = .ok (.iload_n 0, 1) := by decide +kernel
theorem dJ6_getChars_ba4f3_29 : decode cJ6_getChars_ba4f3 29 = .ok (.bipush 100, 2) := by decide +kernel
theorem dJ6_getChars_ba4f3_31 : decode cJ6_getChars_ba4f3 31 = .ok (.idiv, 1) := by decide +kernel
theorem dJ6_getChars_ba4f3_32 : decode cJ6_getChars_ba4f3 32 = .ok (.istore_n 3, 1) := by decide +kernel
theorem dJ6_getChars_ba4f3_33 : decode cJ6_getChars_ba4f3 33 = .ok (.iload_n 3, 1) := by decide +kernel
theorem dJ6_getChars_ba4f3_34 : decode cJ6_getChars_ba4f3 34 = .ok (.bipush 100, 2) := by decide +kernel
theorem dJ6_getChars_ba4f3_36 : decode cJ6_getChars_ba4f3 36 = .ok (.imul, 1) := by decide +kernel
theorem dJ6_getChars_ba4f3_37 : decode cJ6_getChars_ba4f3 37 = .ok (.iload_n 0, 1) := by decide +kernel
theorem dJ6_getChars_ba4f3_38 : decode cJ6_getChars_ba4f3 38 = .ok (.isub, 1) := by decide +kernel
theorem dJ6_getChars_ba4f3_39 : decode cJ6_getChars_ba4f3 39 = .ok (.istore 4, 2) := by decide +kernel
theorem dJ6_getChars_ba4f3_41 : decode cJ6_getChars_ba4f3 41 = .ok (.iload_n 3, 1) := by decide +kernel
theorem dJ6_getChars_ba4f3_42 : decode cJ6_getChars_ba4f3 42 = .ok (.istore_n 0, 1) := by decide +kernel
theorem dJ6_getChars_ba4f3_43 : decode cJ6_getChars_ba4f3 43 = .ok (.aload_n 2, 1) := by decide +kernel
theorem dJ6_getChars_ba4f3_44 : decode cJ6_getChars_ba4f3 44 = .ok (.iinc 5 (-1), 3) := by decide +kernel
theorem dJ6_getChars_ba4f3_47 : decode cJ6_getChars_ba4f3 47 = .ok (.iload 5, 2) := by decide +kernel
theorem dJ6_getChars_ba4f3_49 : decode cJ6_getChars_ba4f3 49 = .ok (.getstatic 83, 3) := by decide +kernel
theorem dJ6_getChars_ba4f3_52 : decode cJ6_getChars_ba4f3 52 = .ok (.iload 4, 2) := by decide +kernel
theorem dJ6_getChars_ba4f3_54 : decode cJ6_getChars_ba4f3 54 = .ok (.baload, 1) := by decide +kernel
theorem dJ6_getChars_ba4f3_55 : decode cJ6_getChars_ba4f3 55 = .ok (.bastore, 1) := by decide +kernel
theorem dJ6_getChars_ba4f3_56 : decode cJ6_getChars_ba4f3 56 = .ok (.aload_n 2, 1) := by decide +kernel
theorem dJ6_getChars_ba4f3_57 : decode cJ6_getChars_ba4f3 57 = .ok (.iinc 5 (-1), 3) := by decide +kernel
theorem dJ6_getChars_ba4f3_60 : decode cJ6_getChars_ba4f3 60 = .ok (.iload 5, 2) := by decide +kernel
theorem dJ6_getChars_ba4f3_62 : decode cJ6_getChars_ba4f3 62 = .ok (.getstatic 87, 3) := by decide +kernel
theorem dJ6_getChars_ba4f3_65 : decode cJ6_getChars_ba4f3 65 = .ok (.iload 4, 2) := by decide +kernel
theorem dJ6_getChars_ba4f3_67 : decode cJ6_getChars_ba4f3 67 = .ok (.baload, 1) := by decide +kernel
theorem dJ6_getChars_ba4f3_68 : decode cJ6_getChars_ba4f3 68 = .ok (.bastore, 1) := by decide +kernel
theorem dJ6_getChars_ba4f3_69 : decode cJ6_getChars_ba4f3 69 = .ok (.goto (-47), 3) := by decide +kernel
theorem dJ6_getChars_ba4f3_72 : decode cJ6_getChars_ba4f3 72 = .ok (.aload_n 2, 1) := by decide +kernel
theorem dJ6_getChars_ba4f3_73 : decode cJ6_getChars_ba4f3 73 = .ok (.iinc 5 (-1), 3) := by decide +kernel
theorem dJ6_getChars_ba4f3_76 : decode cJ6_getChars_ba4f3 76 = .ok (.iload 5, 2) := by decide +kernel
theorem dJ6_getChars_ba4f3_78 : decode cJ6_getChars_ba4f3 78 = .ok (.getstatic 83, 3) := by decide +kernel
theorem dJ6_getChars_ba4f3_81 : decode cJ6_getChars_ba4f3 81 = .ok (.iload_n 0, 1) := by decide +kernel
theorem dJ6_getChars_ba4f3_82 : decode cJ6_getChars_ba4f3 82 = .ok (.ineg, 1) := by decide +kernel
theorem dJ6_getChars_ba4f3_83 : decode cJ6_getChars_ba4f3 83 = .ok (.baload, 1) := by decide +kernel
theorem dJ6_getChars_ba4f3_84 : decode cJ6_getChars_ba4f3 84 = .ok (.bastore, 1) := by decide +kernel
theorem dJ6_getChars_ba4f3_85 : decode cJ6_getChars_ba4f3 85 = .ok (.iload_n 0, 1) := by decide +kernel
theorem dJ6_getChars_ba4f3_86 : decode cJ6_getChars_ba4f3 86 = .ok (.bipush (-9), 2) := by decide +kernel
theorem dJ6_getChars_ba4f3_88 : decode cJ6_getChars_ba4f3 88 = .ok (.if_icmp .ge 16, 3) := by decide +kernel
theorem dJ6_getChars_ba4f3_91 : decode cJ6_getChars_ba4f3 91 = .ok (.aload_n 2, 1) := by decide +kernel
theorem dJ6_getChars_ba4f3_92 : decode cJ6_getChars_ba4f3 92 = .ok (.iinc 5 (-1), 3) := by decide +kernel
theorem dJ6_getChars_ba4f3_95 : decode cJ6_getChars_ba4f3 95 = .ok (.iload 5, 2) := by decide +kernel
theorem dJ6_getChars_ba4f3_97 : decode cJ6_getChars_ba4f3 97 = .ok (.getstatic 87, 3) := by decide +kernel
theorem dJ6_getChars_ba4f3_100 : decode cJ6_getChars_ba4f3 100 = .ok (.iload_n 0, 1) := by decide +kernel
theorem dJ6_getChars_ba4f3_101 : decode cJ6_getChars_ba4f3 101 = .ok (.ineg, 1) := by decide +kernel
theorem dJ6_getChars_ba4f3_102 : decode cJ6_getChars_ba4f3 102 = .ok (.baload, 1) := by decide +kernel
theorem dJ6_getChars_ba4f3_103 : decode cJ6_getChars_ba4f3 103 = .ok (.bastore, 1) := by decide +kernel
theorem dJ6_getChars_ba4f3_104 : decode cJ6_getChars_ba4f3 104 = .ok (.iload 6, 2) := by decide +kernel
theorem dJ6_getChars_ba4f3_106 : decode cJ6_getChars_ba4f3 106 = .ok (.ifCond .eq 12, 3) := by decide +kernel
theorem dJ6_getChars_ba4f3_118 : decode cJ6_getChars_ba4f3 118 = .ok (.iload 5, 2) := by decide +kernel
theorem dJ6_getChars_ba4f3_120 : decode cJ6_getChars_ba4f3 120 = .ok (.ireturn, 1) := by decide +kernel
set_option maxHeartbeats 400000 in
set_option maxRecDepth 100000 in
theorem c_getChars (l : Launch) (G : hG) (M : hM) (b ud n cap v : Nat) (g : Nat → Int32) (hd : M b = some (ud, .inl (hT G 1, cap, .inl g))) (hv : v < 100000) (hnc : n + sb_dg v ≤ cap) (hcap : cap ≤ 1300) (hgf : sb_Fit g) : hCT l G yJ6_getChars_ba4f3 cJ6_getChars_ba4f3 7 (Option.some FieldType.int) (hRm 1 0 0) M [.int (nI v), .int (nI (n + sb_dg v)), .ref b] (fun v9 M' => (∃ r, v9 = some (.int r)) ∧ (∃ g', M' b = some (ud, .inl (hT G 1, cap, .inl g')) ∧ sb_Fit g' ∧ (∀ j, j < n → g' j = g j) ∧ ∀ j, j < sb_dg v → g' (n + j) = nI (sb_dec v j)) ∧ hFr (fun u => u = ud) M M') := by
  refine hCT.of (own := RJ6) (nm := "getChars") (by decide) rfl rfl (Nat.le_of_ble_eq_true rfl) ?_
  intro p e s m args below meth c ls X Y hl
  have hx := X.1
  have hb := X.2.1
  have hl : lv_has ls 7 [(0, .int (nI v)), (1, .int (nI (n + sb_dg v))), (2, .ref b)] := hl
  have hdv := sb_dg_in v
  refine lv_iload_n hx hb dJ6_getChars_ba4f3_0 rfl (lv_at hl 1 rfl) ?_
  refine lv_istore (lv' := [(5, .int (nI (n + sb_dg v))), (0, .int (nI v)), (1, .int (nI (n + sb_dg v))), (2, .ref b)]) hx hb dJ6_getChars_ba4f3_1 hl (by decide) rfl (fun ls hl => ?_)
  refine lv_iload_n hx hb dJ6_getChars_ba4f3_3 rfl (lv_at hl 1 rfl) ?_
  refine lv_if_ge (tgt := 11) hx hb dJ6_getChars_ba4f3_4 (by decide) (fun c4 => ?_) (fun c4 => absurd (show ¬ 0 ≤ v from fun z9 => c4 ((nI_leI (a := 0) (b := v) (by omega) (by omega)).mpr z9)) (by omega))
  have c4 : 0 ≤ v := (nI_leI (a := 0) (b := v) (by omega) (by omega)).mp c4
  refine lv_iconst (v := 0) hx hb dJ6_getChars_ba4f3_11 (by decide) ?_
  refine lv_istore (lv' := [(6, .int 0), (5, .int (nI (n + sb_dg v))), (0, .int (nI v)), (1, .int (nI (n + sb_dg v))), (2, .ref b)]) hx hb dJ6_getChars_ba4f3_12 hl (by decide) rfl (fun ls hl => ?_)
  refine lv_iload hx hb dJ6_getChars_ba4f3_14 (lv_at hl 0 rfl) ?_
  refine lv_if_ne (tgt := 22) hx hb dJ6_getChars_ba4f3_16 (by decide) (fun c16 => absurd (by decide) c16) (fun c16 => ?_)
  refine lv_iload_n hx hb dJ6_getChars_ba4f3_19 rfl (lv_at hl 2 rfl) ?_
  refine lv_ineg hx hb dJ6_getChars_ba4f3_20 ?_
  refine lv_istore_n (lv' := [(0, .int (-(nI v))), (6, .int 0), (5, .int (nI (n + sb_dg v))), (1, .int (nI (n + sb_dg v))), (2, .ref b)]) hx hb dJ6_getChars_ba4f3_21 rfl hl (by decide) rfl (fun ls hl => ?_)
  have loop : ∀ (d x : Nat), x < d → x ≤ v → ∀ (k : Nat) (M1 : hM) (g1 : Nat → Int32), x = v / 10 ^ k → sb_dg x + k = sb_dg v → M1 b = some (ud, .inl (hT G 1, cap, .inl g1)) → sb_Fit g1 → hFr (fun u => u = ud) M M1 → (∀ j, j < n → g1 j = g j) → (∀ i, i < k → g1 (n + sb_dg v - 1 - i) = nI (48 + v / 10 ^ i % 10)) → ∀ (H : Heap) (locs : List Loc) (ls : Array Slot), hHS G M1 s H locs → lv_has ls 7 [(0, .int (-nI x)), (1, .int (nI (n + sb_dg v))), (2, .ref b), (5, .int (nI (n + sb_dg x))), (6, .int 0)] → W p l e (hRm 1 0 0) s m args below meth c H locs 0 0 (MQ below (hQ G (fun v9 M' => (∃ r, v9 = some (.int r)) ∧ (∃ g', M' b = some (ud, .inl (hT G 1, cap, .inl g')) ∧ sb_Fit g' ∧ (∀ j, j < n → g' j = g j) ∧ ∀ j, j < sb_dg v → g' (n + j) = nI (sb_dec v j)) ∧ hFr (fun u => u = ud) M M')) args s 0 0 (hA G)) (F0 m 22 ls []) := by
    intro d
    induction d with
    | zero => intro x h1; intros; exact absurd h1 (by omega)
    | succ d ih =>
      intro x h1 hxv k M1 g1 hxk hkd hd hgf1 hfr hg1 hdig H locs ls Y hl
      have hdx := sb_dg_in x
      refine lv_iload_n hx hb dJ6_getChars_ba4f3_22 rfl (lv_at hl 0 rfl) ?_
      refine lv_bipush (v := (-100)) hx hb dJ6_getChars_ba4f3_23 (by decide) ?_
      rcases Nat.lt_or_ge x 100 with hlt | h100
      · refine lv_icmp_gt (tgt := 72) hx hb dJ6_getChars_ba4f3_25 (by decide) (fun c25 => ?_) (fun c25 => absurd (show -nI 100 < -nI x from (sb_nlt (by decide) (by omega)).mpr hlt) c25)
        refine lv_aload_n hx hb dJ6_getChars_ba4f3_72 rfl (lv_at hl 2 rfl) ?_
        refine lv_iinc (v := nI (n + sb_dg x - 1)) (lv' := [(5, .int (nI (n + sb_dg x - 1))), (0, .int (-nI x)), (1, .int (nI (n + sb_dg v))), (2, .ref b), (6, .int 0)]) hx hb dJ6_getChars_ba4f3_73 hl (k := 3) rfl (sb_m1 (by omega)) (by decide) rfl (fun ls hl => ?_)
        refine lv_iload hx hb dJ6_getChars_ba4f3_76 (lv_at hl 0 rfl) ?_
        refine h_gets X Y (hDO_Z X.2.2.2.2.2.2.2.2.1 X.2.2.2.2.2.2.2.2.2.1) kfl_J6_83 dJ6_getChars_ba4f3_78 ?_
        refine lv_iload_n hx hb dJ6_getChars_ba4f3_81 rfl (lv_at hl 1 rfl) ?_
        refine lv_ineg hx hb dJ6_getChars_ba4f3_82 ?_
        refine h_ev (y := nI x) (Int32.neg_neg) ?_
        refine h_baT X Y (i := x) (hT_at X.2.2.2.2.2.2.2.2.2.1 (hDO_T0 X.2.2.2.2.2.2.2.2.1).2) (by omega) (by decide) dJ6_getChars_ba4f3_83 ?_
        refine h_bast X Y (i := (n + sb_dg x - 1)) hd (by omega) (by omega) dJ6_getChars_ba4f3_84 (fun H locs Y => ?_)
        rw [show vp_nar .byte (nI (48 + x % 10)) = nI (48 + x % 10) from t_nb _ (by omega)] at Y
        have hfr := hfr.put (x := (ud, .inl (hT G 1, cap, .inl (upd g1 (n + sb_dg x - 1) (nI (48 + x % 10)))))) hd rfl
        have hd : hup M1 b (ud, .inl (hT G 1, cap, .inl (upd g1 (n + sb_dg x - 1) (nI (48 + x % 10))))) b = some (ud, .inl (hT G 1, cap, .inl (upd g1 (n + sb_dg x - 1) (nI (48 + x % 10))))) := hup_eq
        generalize hup M1 b (ud, .inl (hT G 1, cap, .inl (upd g1 (n + sb_dg x - 1) (nI (48 + x % 10))))) = Mz1 at Y hd hfr
        refine lv_iload_n hx hb dJ6_getChars_ba4f3_85 rfl (lv_at hl 1 rfl) ?_
        refine lv_bipush (v := (-9)) hx hb dJ6_getChars_ba4f3_86 (by decide) ?_
        rcases Nat.lt_or_ge x 10 with h9 | h9
        · refine lv_icmp_ge (tgt := 104) hx hb dJ6_getChars_ba4f3_88 (by decide) (fun c88 => ?_) (fun c88 => absurd (show -nI 9 ≤ -nI x from (sb_nle (by decide) (by omega)).mpr (by omega)) c88)
          refine lv_iload hx hb dJ6_getChars_ba4f3_104 (lv_at hl 4 rfl) ?_
          refine lv_if_eq (tgt := 118) hx hb dJ6_getChars_ba4f3_106 (by decide) (fun c106 => ?_) (fun c106 => absurd (by decide) c106)
          refine lv_iload hx hb dJ6_getChars_ba4f3_118 (lv_at hl 0 rfl) ?_
          have hdg2 : sb_dg x = 1 := dg_small h9
          have hfin : ∀ i, i < sb_dg v → (upd g1 (n + sb_dg x - 1) (nI (48 + x % 10))) (n + sb_dg v - 1 - i) = nI (48 + v / 10 ^ i % 10) := by
            intro i hi
            rcases (show i < k ∨ i = k by omega) with hi | rfl
            · rw [pk_un (by omega)]; exact hdig i hi
            · rw [show n + sb_dg v - 1 - i = n + sb_dg x - 1 by omega, pk_us, ← hxk]
          exact h_iret X Y ⟨⟨_, rfl⟩, ⟨_, hd, sb_fitU hgf1 (t_fb _ (by omega)), fun j hj => by rw [pk_un (by omega)]; exact hg1 j hj, fun j hj => by have h7 := hfin (sb_dg v - 1 - j) (by omega); rw [show n + sb_dg v - 1 - (sb_dg v - 1 - j) = n + j by omega] at h7; exact h7⟩, hfr⟩ (Nat.le_refl _) (Nat.le_refl _) dJ6_getChars_ba4f3_120
        · have hdg9 : sb_dg x = 2 := dg_two (by omega) hlt
          refine lv_icmp_ge (tgt := 104) hx hb dJ6_getChars_ba4f3_88 (by decide) (fun c88 => absurd ((sb_nle (a := 9) (b := x) (by decide) (by omega)).mp (show -nI 9 ≤ -nI x from c88)) (by omega)) (fun c88 => ?_)
          refine lv_aload_n hx hb dJ6_getChars_ba4f3_91 rfl (lv_at hl 3 rfl) ?_
          refine lv_iinc (v := nI (n + sb_dg x - 1 - 1)) (lv' := [(5, .int (nI (n + sb_dg x - 1 - 1))), (0, .int (-nI x)), (1, .int (nI (n + sb_dg v))), (2, .ref b), (6, .int 0)]) hx hb dJ6_getChars_ba4f3_92 hl (k := 0) rfl (sb_m1 (by omega)) (by decide) rfl (fun ls hl => ?_)
          refine lv_iload hx hb dJ6_getChars_ba4f3_95 (lv_at hl 0 rfl) ?_
          refine h_gets X Y (hDT_Z X.2.2.2.2.2.2.2.2.1 X.2.2.2.2.2.2.2.2.2.1) kfl_J6_87 dJ6_getChars_ba4f3_97 ?_
          refine lv_iload_n hx hb dJ6_getChars_ba4f3_100 rfl (lv_at hl 1 rfl) ?_
          refine lv_ineg hx hb dJ6_getChars_ba4f3_101 ?_
          refine h_ev (y := nI x) (Int32.neg_neg) ?_
          refine h_baT X Y (i := x) (hT_at X.2.2.2.2.2.2.2.2.2.1 (hDT_T0 X.2.2.2.2.2.2.2.2.1).2) (by omega) (by decide) dJ6_getChars_ba4f3_102 ?_
          refine h_bast X Y (i := (n + sb_dg x - 1 - 1)) hd (by omega) (by omega) dJ6_getChars_ba4f3_103 (fun H locs Y => ?_)
          rw [show vp_nar .byte (nI (48 + x / 10)) = nI (48 + x / 10) from t_nb _ (by omega)] at Y
          have hfr := hfr.put (x := (ud, .inl (hT G 1, cap, .inl (upd (upd g1 (n + sb_dg x - 1) (nI (48 + x % 10))) (n + sb_dg x - 1 - 1) (nI (48 + x / 10)))))) hd rfl
          have hd : hup Mz1 b (ud, .inl (hT G 1, cap, .inl (upd (upd g1 (n + sb_dg x - 1) (nI (48 + x % 10))) (n + sb_dg x - 1 - 1) (nI (48 + x / 10))))) b = some (ud, .inl (hT G 1, cap, .inl (upd (upd g1 (n + sb_dg x - 1) (nI (48 + x % 10))) (n + sb_dg x - 1 - 1) (nI (48 + x / 10))))) := hup_eq
          generalize hup Mz1 b (ud, .inl (hT G 1, cap, .inl (upd (upd g1 (n + sb_dg x - 1) (nI (48 + x % 10))) (n + sb_dg x - 1 - 1) (nI (48 + x / 10))))) = Mz2 at Y hd hfr
          refine lv_iload hx hb dJ6_getChars_ba4f3_104 (lv_at hl 4 rfl) ?_
          refine lv_if_eq (tgt := 118) hx hb dJ6_getChars_ba4f3_106 (by decide) (fun c106 => ?_) (fun c106 => absurd (by decide) c106)
          refine lv_iload hx hb dJ6_getChars_ba4f3_118 (lv_at hl 0 rfl) ?_
          have hdg2 : sb_dg x = 2 := dg_two (by omega) hlt
          have hfin : ∀ i, i < sb_dg v → (upd (upd g1 (n + sb_dg x - 1) (nI (48 + x % 10))) (n + sb_dg x - 1 - 1) (nI (48 + x / 10))) (n + sb_dg v - 1 - i) = nI (48 + v / 10 ^ i % 10) := by
            intro i hi
            rcases (show i < k ∨ i = k ∨ i = k + 1 by omega) with hi | rfl | rfl
            · rw [pk_un (by omega), pk_un (by omega)]; exact hdig i hi
            · rw [pk_un (by omega), show n + sb_dg v - 1 - i = n + sb_dg x - 1 by omega, pk_us, ← hxk]
            · rw [show n + sb_dg v - 1 - (k + 1) = n + sb_dg x - 1 - 1 by omega, pk_us, Nat.pow_succ, ← Nat.div_div_eq_div_mul, ← hxk, show x / 10 % 10 = x / 10 by omega]
          exact h_iret X Y ⟨⟨_, rfl⟩, ⟨_, hd, sb_fitU (sb_fitU hgf1 (t_fb _ (by omega))) (t_fb _ (by omega)), fun j hj => by rw [pk_un (by omega), pk_un (by omega)]; exact hg1 j hj, fun j hj => by have h7 := hfin (sb_dg v - 1 - j) (by omega); rw [show n + sb_dg v - 1 - (sb_dg v - 1 - j) = n + j by omega] at h7; exact h7⟩, hfr⟩ (Nat.le_refl _) (Nat.le_refl _) dJ6_getChars_ba4f3_120
      · have hdg9 := sb_dg100 (w := x) h100 (by omega)
        refine lv_icmp_gt (tgt := 72) hx hb dJ6_getChars_ba4f3_25 (by decide) (fun c25 => absurd ((sb_nlt (a := 100) (b := x) (by decide) (by omega)).mp (show -nI 100 < -nI x from c25)) (by omega)) (fun c25 => ?_)
        refine lv_iload_n hx hb dJ6_getChars_ba4f3_28 rfl (lv_at hl 0 rfl) ?_
        refine lv_bipush (v := 100) hx hb dJ6_getChars_ba4f3_29 (by decide) ?_
        refine lv_idiv hx hb dJ6_getChars_ba4f3_31 (by decide) ?_
        refine h_ev (y := -nI (x / 100)) (sb_ndiv (by omega)) ?_
        refine lv_istore_n (lv' := [(3, .int (-nI (x / 100))), (0, .int (-nI x)), (1, .int (nI (n + sb_dg v))), (2, .ref b), (5, .int (nI (n + sb_dg x))), (6, .int 0)]) hx hb dJ6_getChars_ba4f3_32 rfl hl (by decide) rfl (fun ls hl => ?_)
        refine lv_iload_n hx hb dJ6_getChars_ba4f3_33 rfl (lv_at hl 0 rfl) ?_
        refine lv_bipush (v := 100) hx hb dJ6_getChars_ba4f3_34 (by decide) ?_
        refine lv_imul hx hb dJ6_getChars_ba4f3_36 ?_
        refine lv_iload_n hx hb dJ6_getChars_ba4f3_37 rfl (lv_at hl 1 rfl) ?_
        refine lv_isub hx hb dJ6_getChars_ba4f3_38 ?_
        refine h_ev (y := nI (x % 100)) (sb_nrem (by omega)) ?_
        refine lv_istore (lv' := [(4, .int (nI (x % 100))), (3, .int (-nI (x / 100))), (0, .int (-nI x)), (1, .int (nI (n + sb_dg v))), (2, .ref b), (5, .int (nI (n + sb_dg x))), (6, .int 0)]) hx hb dJ6_getChars_ba4f3_39 hl (by decide) rfl (fun ls hl => ?_)
        refine lv_iload_n hx hb dJ6_getChars_ba4f3_41 rfl (lv_at hl 1 rfl) ?_
        refine lv_istore_n (lv' := [(0, .int (-nI (x / 100))), (4, .int (nI (x % 100))), (3, .int (-nI (x / 100))), (1, .int (nI (n + sb_dg v))), (2, .ref b), (5, .int (nI (n + sb_dg x))), (6, .int 0)]) hx hb dJ6_getChars_ba4f3_42 rfl hl (by decide) rfl (fun ls hl => ?_)
        refine lv_aload_n hx hb dJ6_getChars_ba4f3_43 rfl (lv_at hl 4 rfl) ?_
        refine lv_iinc (v := nI (n + sb_dg x - 1)) (lv' := [(5, .int (nI (n + sb_dg x - 1))), (0, .int (-nI (x / 100))), (4, .int (nI (x % 100))), (3, .int (-nI (x / 100))), (1, .int (nI (n + sb_dg v))), (2, .ref b), (6, .int 0)]) hx hb dJ6_getChars_ba4f3_44 hl (k := 5) rfl (sb_m1 (by omega)) (by decide) rfl (fun ls hl => ?_)
        refine lv_iload hx hb dJ6_getChars_ba4f3_47 (lv_at hl 0 rfl) ?_
        refine h_gets X Y (hDO_Z X.2.2.2.2.2.2.2.2.1 X.2.2.2.2.2.2.2.2.2.1) kfl_J6_83 dJ6_getChars_ba4f3_49 ?_
        refine lv_iload hx hb dJ6_getChars_ba4f3_52 (lv_at hl 2 rfl) ?_
        refine h_baT X Y (i := (x % 100)) (hT_at X.2.2.2.2.2.2.2.2.2.1 (hDO_T0 X.2.2.2.2.2.2.2.2.1).2) (by omega) (by decide) dJ6_getChars_ba4f3_54 ?_
        refine h_bast X Y (i := (n + sb_dg x - 1)) hd (by omega) (by omega) dJ6_getChars_ba4f3_55 (fun H locs Y => ?_)
        rw [show vp_nar .byte (nI (48 + (x % 100) % 10)) = nI (48 + (x % 100) % 10) from t_nb _ (by omega)] at Y
        have hfr := hfr.put (x := (ud, .inl (hT G 1, cap, .inl (upd g1 (n + sb_dg x - 1) (nI (48 + (x % 100) % 10)))))) hd rfl
        have hd : hup M1 b (ud, .inl (hT G 1, cap, .inl (upd g1 (n + sb_dg x - 1) (nI (48 + (x % 100) % 10))))) b = some (ud, .inl (hT G 1, cap, .inl (upd g1 (n + sb_dg x - 1) (nI (48 + (x % 100) % 10))))) := hup_eq
        generalize hup M1 b (ud, .inl (hT G 1, cap, .inl (upd g1 (n + sb_dg x - 1) (nI (48 + (x % 100) % 10))))) = Mz3 at Y hd hfr
        refine lv_aload_n hx hb dJ6_getChars_ba4f3_56 rfl (lv_at hl 5 rfl) ?_
        refine lv_iinc (v := nI (n + sb_dg x - 1 - 1)) (lv' := [(5, .int (nI (n + sb_dg x - 1 - 1))), (0, .int (-nI (x / 100))), (4, .int (nI (x % 100))), (3, .int (-nI (x / 100))), (1, .int (nI (n + sb_dg v))), (2, .ref b), (6, .int 0)]) hx hb dJ6_getChars_ba4f3_57 hl (k := 0) rfl (sb_m1 (by omega)) (by decide) rfl (fun ls hl => ?_)
        refine lv_iload hx hb dJ6_getChars_ba4f3_60 (lv_at hl 0 rfl) ?_
        refine h_gets X Y (hDT_Z X.2.2.2.2.2.2.2.2.1 X.2.2.2.2.2.2.2.2.2.1) kfl_J6_87 dJ6_getChars_ba4f3_62 ?_
        refine lv_iload hx hb dJ6_getChars_ba4f3_65 (lv_at hl 2 rfl) ?_
        refine h_baT X Y (i := (x % 100)) (hT_at X.2.2.2.2.2.2.2.2.2.1 (hDT_T0 X.2.2.2.2.2.2.2.2.1).2) (by omega) (by decide) dJ6_getChars_ba4f3_67 ?_
        refine h_bast X Y (i := (n + sb_dg x - 1 - 1)) hd (by omega) (by omega) dJ6_getChars_ba4f3_68 (fun H locs Y => ?_)
        rw [show vp_nar .byte (nI (48 + (x % 100) / 10)) = nI (48 + (x % 100) / 10) from t_nb _ (by omega)] at Y
        have hfr := hfr.put (x := (ud, .inl (hT G 1, cap, .inl (upd (upd g1 (n + sb_dg x - 1) (nI (48 + (x % 100) % 10))) (n + sb_dg x - 1 - 1) (nI (48 + (x % 100) / 10)))))) hd rfl
        have hd : hup Mz3 b (ud, .inl (hT G 1, cap, .inl (upd (upd g1 (n + sb_dg x - 1) (nI (48 + (x % 100) % 10))) (n + sb_dg x - 1 - 1) (nI (48 + (x % 100) / 10))))) b = some (ud, .inl (hT G 1, cap, .inl (upd (upd g1 (n + sb_dg x - 1) (nI (48 + (x % 100) % 10))) (n + sb_dg x - 1 - 1) (nI (48 + (x % 100) / 10))))) := hup_eq
        generalize hup Mz3 b (ud, .inl (hT G 1, cap, .inl (upd (upd g1 (n + sb_dg x - 1) (nI (48 + (x % 100) % 10))) (n + sb_dg x - 1 - 1) (nI (48 + (x % 100) / 10))))) = Mz4 at Y hd hfr
        refine lv_goto (tgt := 22) hx hb dJ6_getChars_ba4f3_69 (by decide) ?_
        have hdx2 := sb_dg100 (w := x) h100 (by omega)
        have hdx3 := sb_dg_in (x / 100)
        have hk2 : x / 100 = v / 10 ^ (k + 2) := by rw [hxk, Nat.div_div_eq_div_mul, Nat.pow_add]
        have hpp : n + sb_dg (x / 100) = n + sb_dg x - 1 - 1 := by omega
        refine ih (x / 100) (by omega) (by omega) (k + 2) Mz4 _ hk2 (by omega) hd (sb_fitU (sb_fitU hgf1 (t_fb _ (by omega))) (t_fb _ (by omega))) hfr (fun j hj => by rw [pk_un (by omega), pk_un (by omega)]; exact hg1 j hj) (fun i hi => ?_) _ _ _ Y (by rw [hpp]; exact (lv_sub hl [1, 4, 5, 0, 6] rfl))
        rcases (show i < k ∨ i = k ∨ i = k + 1 by omega) with hi | rfl | rfl
        · rw [pk_un (by omega), pk_un (by omega)]; exact hdig i hi
        · rw [pk_un (by omega), show n + sb_dg v - 1 - i = n + sb_dg x - 1 by omega, pk_us, ← hxk, show x % 100 % 10 = x % 10 by omega]
        · rw [show n + sb_dg v - 1 - (k + 1) = n + sb_dg x - 1 - 1 by omega, pk_us, Nat.pow_succ, ← Nat.div_div_eq_div_mul, ← hxk, show x % 100 / 10 = x / 10 % 10 by omega]
  exact loop (v + 1) v (by omega) (Nat.le_refl v) 0 M g (by rw [Nat.pow_zero, Nat.div_one]) (by omega) hd hgf hFr.rf (fun _ _ => rfl) (fun i z9 => absurd z9 (by omega)) _ _ _ Y (lv_sub hl [0, 3, 4, 2, 1] rfl)
theorem gw_J5_245 : GoodIn hGW (va_wsS RJ5 245 yJ6_stringSize_0f7a4 (Cond.code yJ6_stringSize_0f7a4 cJ6_stringSize_0f7a4 4 (Option.some FieldType.int) :: hGW)) := hgi3 kml_J5_245 kst_J6_stringSize_0f7a4 kini_J6 kco_J6_stringSize_0f7a4
theorem dsc_J6_stringSize_0f7a4 : yJ6_stringSize_0f7a4.cls = RJ6 ∧ yJ6_stringSize_0f7a4.cls ≠ "java/lang/invoke/MethodHandle" ∧ yJ6_stringSize_0f7a4.cls ≠ "java/lang/invoke/VarHandle" ∧ (parseMethodDescriptor yJ6_stringSize_0f7a4.desc).map (fun d => d.parameters.length) = some 1 := ⟨rfl, by decide +kernel, by decide +kernel, by decide +kernel⟩
theorem gu_J5_83 : GoodIn hGW (va_wsU RJ5 83 RJ4 RJ5 yJ5_isLatin1_aae02 yJ5_isLatin1_aae02 (Cond.code yJ5_isLatin1_aae02 cJ5_isLatin1_aae02 1 (Option.some FieldType.boolean) :: hGW)) := hgi5 kml_J5_83 ksm_J5_isLatin1__Z kse_J4_J5_isLatin1_aae02_J5_isLatin1_aae02 kin_J5_isLatin1_aae02 kini_J5 kco_J5_isLatin1_aae02
theorem dsu_J5_isLatin1_aae02 : (RJ5 : String) ≠ "java/lang/invoke/MethodHandle" ∧ (RJ5 : String) ≠ "java/lang/invoke/VarHandle" ∧ (parseMethodDescriptor yJ5_isLatin1_aae02.desc).map (fun d => d.parameters.length) = some 0 := ⟨by decide +kernel, by decide +kernel, by decide +kernel⟩
theorem gw_J5_248 : GoodIn hGW (va_wsS RJ5 248 yJ6_getChars_ba4f3 (Cond.code yJ6_getChars_ba4f3 cJ6_getChars_ba4f3 7 (Option.some FieldType.int) :: hGW)) := hgi3 kml_J5_248 kst_J6_getChars_ba4f3 kini_J6 kco_J6_getChars_ba4f3
theorem dsc_J6_getChars_ba4f3 : yJ6_getChars_ba4f3.cls = RJ6 ∧ yJ6_getChars_ba4f3.cls ≠ "java/lang/invoke/MethodHandle" ∧ yJ6_getChars_ba4f3.cls ≠ "java/lang/invoke/VarHandle" ∧ (parseMethodDescriptor yJ6_getChars_ba4f3.desc).map (fun d => d.parameters.length) = some 3 := ⟨rfl, by decide +kernel, by decide +kernel, by decide +kernel⟩
theorem dJ5_append_c97b9_0 : decode cJ5_append_c97b9 0 = .ok (.aload_n 0, 1) := by decide +kernel
theorem dJ5_append_c97b9_1 : decode cJ5_append_c97b9 1 = .ok (.getfield 79, 3) := by decide +kernel
theorem dJ5_append_c97b9_4 : decode cJ5_append_c97b9 4 = .ok (.istore_n 2, 1) := by decide +kernel
theorem dJ5_append_c97b9_5 : decode cJ5_append_c97b9 5 = .ok (.iload_n 2, 1) := by decide +kernel
theorem dJ5_append_c97b9_6 : decode cJ5_append_c97b9 6 = .ok (.iload_n 1, 1) := by decide +kernel
theorem dJ5_append_c97b9_7 : decode cJ5_append_c97b9 7 = .ok (.invokestatic 245, 3) := by decide +kernel
theorem dJ5_append_c97b9_10 : decode cJ5_append_c97b9 10 = .ok (.iadd, 1) := by decide +kernel
theorem dJ5_append_c97b9_11 : decode cJ5_append_c97b9 11 = .ok (.istore_n 3, 1) := by decide +kernel
theorem dJ5_append_c97b9_12 : decode cJ5_append_c97b9 12 = .ok (.aload_n 0, 1) := by decide +kernel
theorem dJ5_append_c97b9_13 : decode cJ5_append_c97b9 13 = .ok (.iload_n 3, 1) := by decide +kernel
theorem dJ5_append_c97b9_14 : decode cJ5_append_c97b9 14 = .ok (.invokevirtual 100, 3) := by decide +kernel
theorem dJ5_append_c97b9_17 : decode cJ5_append_c97b9 17 = .ok (.aload_n 0, 1) := by decide +kernel
theorem dJ5_append_c97b9_18 : decode cJ5_append_c97b9 18 = .ok (.invokevirtual 83, 3) := by decide +kernel
theorem dJ5_append_c97b9_21 : decode cJ5_append_c97b9 21 = .ok (.ifCond .eq 16, 3) := by decide +kernel
theorem dJ5_append_c97b9_24 : decode cJ5_append_c97b9 24 = .ok (.iload_n 1, 1) := by decide +kernel
theorem dJ5_append_c97b9_25 : decode cJ5_append_c97b9 25 = .ok (.iload_n 3, 1) := by decide +kernel
theorem dJ5_append_c97b9_26 : decode cJ5_append_c97b9 26 = .ok (.aload_n 0, 1) := by decide +kernel
theorem dJ5_append_c97b9_27 : decode cJ5_append_c97b9 27 = .ok (.getfield 15, 3) := by decide +kernel
theorem dJ5_append_c97b9_30 : decode cJ5_append_c97b9 30 = .ok (.invokestatic 248, 3) := by decide +kernel
theorem dJ5_append_c97b9_33 : decode cJ5_append_c97b9 33 = .ok (.pop, 1) := by decide +kernel
theorem dJ5_append_c97b9_34 : decode cJ5_append_c97b9 34 = .ok (.goto 14, 3) := by decide +kernel
theorem dJ5_append_c97b9_48 : decode cJ5_append_c97b9 48 = .ok (.aload_n 0, 1) := by decide +kernel
theorem dJ5_append_c97b9_49 : decode cJ5_append_c97b9 49 = .ok (.iload_n 3, 1) := by decide +kernel
theorem dJ5_append_c97b9_50 : decode cJ5_append_c97b9 50 = .ok (.putfield 79, 3) := by decide +kernel
theorem dJ5_append_c97b9_53 : decode cJ5_append_c97b9 53 = .ok (.aload_n 0, 1) := by decide +kernel
theorem dJ5_append_c97b9_54 : decode cJ5_append_c97b9 54 = .ok (.areturn, 1) := by decide +kernel
set_option maxHeartbeats 400000 in
set_option maxRecDepth 100000 in
theorem c_appI5 (l : Launch) (G : hG) (M : hM) (a t n cap : Nat) (T : Nat → Nat) (hV : SbV G M a t n cap T) (v : Nat) (hv : v < 100000) (hnl : n + sb_dg v ≤ 600) : hCT l G yJ5_append_c97b9 cJ5_append_c97b9 4 (Option.some (FieldType.object "java/lang/AbstractStringBuilder")) (hRm 5 1 1300) M [.ref a, .int (nI v)] (fun v9 M' => v9 = some (.ref a) ∧ (∃ cap', SbV G M' a t (n + sb_dg v) cap' (sb_cat T n (sb_dec v))) ∧ hFr (fun u => u = t ∨ u = t + 1) M M') := by
  refine hCT.of (own := RJ5) (nm := "append") (by decide) rfl rfl (Nat.le_of_ble_eq_true rfl) ?_
  intro p e s m args below meth c ls X Y hl
  have hx := X.1
  have hb := X.2.1
  have hl : lv_has ls 4 [(0, .ref a), (1, .int (nI v))] := hl
  obtain ⟨va, f, hb0, hb1, hnc, hcap, hft, hT0⟩ := id hV
  refine lv_aload_n hx hb dJ5_append_c97b9_0 rfl (lv_at hl 0 rfl) ?_
  refine h_get X Y (k := 3) (v := .int (nI n)) hb0 rfl hin_J4 (by decide) kfl_J5_79 rfl dJ5_append_c97b9_1 ?_
  refine lv_istore_n (lv' := [(2, .int (nI n)), (0, .ref a), (1, .int (nI v))]) hx hb dJ5_append_c97b9_4 rfl hl (by decide) rfl (fun ls hl => ?_)
  refine lv_iload_n hx hb dJ5_append_c97b9_5 rfl (lv_at hl 0 rfl) ?_
  refine lv_iload_n hx hb dJ5_append_c97b9_6 rfl (lv_at hl 2 rfl) ?_
  refine h_callSr (rest := [.int (nI n)]) X Y (c_strSize l G M v hv) rfl rfl gw_J5_245 dsc_J6_stringSize_0f7a4.2 rfl rfl hl.1 (Nat.le_of_ble_eq_true rfl) ⟨Nat.le_of_ble_eq_true rfl, Nat.le_of_ble_eq_true rfl⟩ ⟨Nat.le_of_ble_eq_true rfl, Nat.le_of_ble_eq_true rfl⟩ dJ5_append_c97b9_7 (fun H locs Y => ?_)
  refine lv_iadd hx hb dJ5_append_c97b9_10 ?_
  refine h_ev (y := nI (n + (sb_dg v))) (nI_add n (sb_dg v)) ?_
  refine lv_istore_n (lv' := [(3, .int (nI (n + (sb_dg v)))), (2, .int (nI n)), (0, .ref a), (1, .int (nI v))]) hx hb dJ5_append_c97b9_11 rfl hl (by decide) rfl (fun ls hl => ?_)
  refine lv_aload_n hx hb dJ5_append_c97b9_12 rfl (lv_at hl 2 rfl) ?_
  refine lv_iload_n hx hb dJ5_append_c97b9_13 rfl (lv_at hl 0 rfl) ?_
  refine h_callP (rest := []) X Y (c_ensure l G M a t n cap T hV (n + sb_dg v) hnl) kco_J5_ensureCapacityInternal_d00df kini_J5 kml_J5_100 ksm_J5_ensureCapacityInternal_I_V kin_J5_ensureCapacityInternal_d00df (ksl_J5_ensureCapacityInternal_d00df X.2.2.2.2.2.2.2.2.1 X.2.2.2.2.2.2.2.2.2.1) dsc_J5_ensureCapacityInternal_d00df.2 hb0 rfl rfl rfl hl.1 rfl (Nat.le_of_ble_eq_true rfl) ⟨Nat.le_of_ble_eq_true rfl, Nat.le_of_ble_eq_true rfl⟩ ⟨Nat.le_of_ble_eq_true rfl, Nat.le_of_ble_eq_true rfl⟩ dJ5_append_c97b9_14 ?_
  rintro _ Mz1 H locs ⟨rfl, hpost⟩ Y
  try dsimp only [Option.toList, List.nil_append, List.singleton_append]
  obtain ⟨cap2, hV, hq2, hfa⟩ := hpost
  obtain ⟨va, f, hb0, hb1, hnc, hcap, hft, hT0⟩ := id hV
  refine lv_aload_n hx hb dJ5_append_c97b9_17 rfl (lv_at hl 2 rfl) ?_
  refine h_callUr (rest := []) X Y (c_sbLatin l G Mz1 a t va n hb0) rfl rfl gu_J5_83 rfl dsu_J5_isLatin1_aae02 (h_recv X Y hb0 (r := (RJ4, TJ4, 4)) rfl) rfl rfl hl.1 (Nat.le_of_ble_eq_true rfl) ⟨Nat.le_of_ble_eq_true rfl, Nat.le_of_ble_eq_true rfl⟩ ⟨Nat.le_of_ble_eq_true rfl, Nat.le_of_ble_eq_true rfl⟩ dJ5_append_c97b9_18 (fun H locs Y => ?_)
  refine lv_if_eq (tgt := 37) hx hb dJ5_append_c97b9_21 (by decide) (fun c21 => absurd c21 (by decide)) (fun c21 => ?_)
  refine lv_iload_n hx hb dJ5_append_c97b9_24 rfl (lv_at hl 3 rfl) ?_
  refine lv_iload_n hx hb dJ5_append_c97b9_25 rfl (lv_at hl 0 rfl) ?_
  refine lv_aload_n hx hb dJ5_append_c97b9_26 rfl (lv_at hl 2 rfl) ?_
  refine h_get X Y (k := 0) (v := .ref va) hb0 rfl hin_J4 (by decide) kfl_J5_15 rfl dJ5_append_c97b9_27 ?_
  refine h_callS (rest := []) X Y (c_getChars l G Mz1 va (t + 1) n cap2 v f hb1 hv hq2 hcap hft) gw_J5_248 dsc_J6_getChars_ba4f3.2 rfl hl.1 rfl (Nat.le_of_ble_eq_true rfl) ⟨Nat.le_of_ble_eq_true rfl, Nat.le_of_ble_eq_true rfl⟩ ⟨Nat.le_of_ble_eq_true rfl, Nat.le_of_ble_eq_true rfl⟩ dJ5_append_c97b9_30 ?_
  rintro _ M2 H locs ⟨⟨r9, rfl⟩, ⟨g, hd9, hgf, hg1, hg2⟩, hfb⟩ Y
  try dsimp only [Option.toList, List.singleton_append]
  have hb0 := hfb _ _ _ hb0 (by omega)
  have hfr : hFr (fun u => u = t ∨ u = t + 1) M M2 := hFr.tr hfa (hfb.mono (fun u z => Or.inr z))
  refine lv_pop hx hb dJ5_append_c97b9_33 rfl ?_
  refine lv_goto (tgt := 48) hx hb dJ5_append_c97b9_34 (by decide) ?_
  refine lv_aload_n hx hb dJ5_append_c97b9_48 rfl (lv_at hl 2 rfl) ?_
  refine lv_iload_n hx hb dJ5_append_c97b9_49 rfl (lv_at hl 0 rfl) ?_
  refine h_put X Y (k := 3) (v := .int (nI (n + (sb_dg v)))) hb0 rfl hin_J4 tyJ4_ok nmJ4 (by decide) kfl_J5_79 rfl rfl rfl (Nat.le_of_ble_eq_true rfl) dJ5_append_c97b9_50 (fun H locs Y => ?_)
  have Y : hHS G (hup M2 a (t, .inr (1, [.ref va, .int 0, .int 0, .int (nI (n + (sb_dg v)))]))) s H locs := Y
  have hd9 := hup_tag (x := (t, .inr (1, [.ref va, .int 0, .int 0, .int (nI (n + (sb_dg v)))]))) hd9 hb0 (by omega)
  have hfr := hfr.put (x := (t, .inr (1, [.ref va, .int 0, .int 0, .int (nI (n + (sb_dg v)))]))) hb0 (Or.inl rfl)
  have hb0 : hup M2 a (t, .inr (1, [.ref va, .int 0, .int 0, .int (nI (n + (sb_dg v)))])) a = some (t, .inr (1, [.ref va, .int 0, .int 0, .int (nI (n + (sb_dg v)))])) := hup_eq
  generalize hup M2 a (t, .inr (1, [.ref va, .int 0, .int 0, .int (nI (n + (sb_dg v)))])) = Mz2 at Y hb0 hd9 hfr
  refine lv_aload_n hx hb dJ5_append_c97b9_53 rfl (lv_at hl 2 rfl) ?_
  have hfin : ∀ i, i < n + sb_dg v → g i = nI (sb_cat T n (sb_dec v) i) ∧ sb_cat T n (sb_dec v) i < 128 := by
    intro i hi
    rcases Nat.lt_or_ge i n with hin | hin
    · rw [sb_cat_lo hin, hg1 i hin]; exact hT0 i hin
    · obtain ⟨j, rfl⟩ := Nat.exists_eq_add_of_le hin
      rw [sb_cat_hi, hg2 j (by omega)]
      exact ⟨rfl, dec_lt v j⟩
  exact h_aret (v := some a) X Y (Or.inl ⟨_, rfl⟩) ⟨rfl, ⟨cap2, va, g, hb0, hd9, hq2, hcap, hgf, hfin⟩, hfr⟩ (Nat.le_of_ble_eq_true rfl) (Nat.le_of_ble_eq_true rfl) dJ5_append_c97b9_54
theorem gsu_J4_53 : GoodIn hGW (va_wsSU RJ4 53 yJ5_append_c97b9 (Cond.code yJ5_append_c97b9 cJ5_append_c97b9 4 (Option.some (FieldType.object "java/lang/AbstractStringBuilder")) :: hGW)) := hgi5 kml_J4_53 ksm_J5_append_I_Ljava_lang_AbstractStringBuilder_ ksu_J4 kin_J5_append_c97b9 kini_J5 kco_J5_append_c97b9
theorem dss_J5_append_c97b9 : yJ5_append_c97b9.name ≠ "<init>" ∧ (parseMethodDescriptor yJ5_append_c97b9.desc).map (fun d => d.parameters.length) = some 1 := ⟨by decide +kernel, by decide +kernel⟩
theorem dJ4_append_bf812_0 : decode cJ4_append_bf812 0 = .ok (.aload_n 0, 1) := by decide +kernel
theorem dJ4_append_bf812_1 : decode cJ4_append_bf812 1 = .ok (.iload_n 1, 1) := by decide +kernel
theorem dJ4_append_bf812_2 : decode cJ4_append_bf812 2 = .ok (.invokespecial 53, 3) := by decide +kernel
theorem dJ4_append_bf812_5 : decode cJ4_append_bf812 5 = .ok (.pop, 1) := by decide +kernel
theorem dJ4_append_bf812_6 : decode cJ4_append_bf812 6 = .ok (.aload_n 0, 1) := by decide +kernel
theorem dJ4_append_bf812_7 : decode cJ4_append_bf812 7 = .ok (.areturn, 1) := by decide +kernel
set_option maxHeartbeats 400000 in
set_option maxRecDepth 100000 in
theorem c_sbAppI (l : Launch) (G : hG) (M : hM) (a t n cap : Nat) (T : Nat → Nat) (hV : SbV G M a t n cap T) (v : Nat) (hv : v < 100000) (hnl : n + sb_dg v ≤ 600) : hCT l G yJ4_append_bf812 cJ4_append_bf812 2 (Option.some (FieldType.object "java/lang/StringBuilder")) (hRm 6 1 1300) M [.ref a, .int (nI v)] (fun v9 M' => v9 = some (.ref a) ∧ (∃ cap', SbV G M' a t (n + sb_dg v) cap' (sb_cat T n (sb_dec v))) ∧ hFr (fun u => u = t ∨ u = t + 1) M M') := by
  refine hCT.of (own := RJ4) (nm := "append") (by decide) rfl rfl (Nat.le_of_ble_eq_true rfl) ?_
  intro p e s m args below meth c ls X Y hl
  have hx := X.1
  have hb := X.2.1
  have hl : lv_has ls 2 [(0, .ref a), (1, .int (nI v))] := hl
  obtain ⟨va, f, hb0, hb1, hnc, hcap, hft, hT0⟩ := id hV
  refine lv_aload_n hx hb dJ4_append_bf812_0 rfl (lv_at hl 0 rfl) ?_
  refine lv_iload_n hx hb dJ4_append_bf812_1 rfl (lv_at hl 1 rfl) ?_
  refine h_callSU (rest := []) X Y (c_appI5 l G M a t n cap T hV v hv hnl) gsu_J4_53 dss_J5_append_c97b9 hb0 rfl rfl hl.1 rfl (Nat.le_of_ble_eq_true rfl) ⟨Nat.le_of_ble_eq_true rfl, Nat.le_of_ble_eq_true rfl⟩ ⟨Nat.le_of_ble_eq_true rfl, Nat.le_of_ble_eq_true rfl⟩ dJ4_append_bf812_2 ?_
  rintro _ Mz1 H locs ⟨rfl, hres⟩ Y
  try dsimp only [Option.toList, List.nil_append, List.singleton_append]
  refine lv_pop hx hb dJ4_append_bf812_5 rfl ?_
  refine lv_aload_n hx hb dJ4_append_bf812_6 rfl (lv_at hl 0 rfl) ?_
  exact h_aret (v := some a) X Y (Or.inl ⟨_, rfl⟩) ⟨rfl, hres⟩ (Nat.le_of_ble_eq_true rfl) (Nat.le_of_ble_eq_true rfl) dJ4_append_bf812_7
theorem dJ5_init_d00df_0 : decode cJ5_init_d00df 0 = .ok (.aload_n 0, 1) := by decide +kernel
theorem dJ5_init_d00df_1 : decode cJ5_init_d00df 1 = .ok (.invokespecial 3, 3) := by decide +kernel
theorem dJ5_init_d00df_4 : decode cJ5_init_d00df 4 = .ok (.getstatic 18, 3) := by decide +kernel
theorem dJ5_init_d00df_7 : decode cJ5_init_d00df 7 = .ok (.ifCond .eq 18, 3) := by decide +kernel
theorem dJ5_init_d00df_10 : decode cJ5_init_d00df 10 = .ok (.aload_n 0, 1) := by decide +kernel
theorem dJ5_init_d00df_11 : decode cJ5_init_d00df 11 = .ok (.iload_n 1, 1) := by decide +kernel
theorem dJ5_init_d00df_12 : decode cJ5_init_d00df 12 = .ok (.newarray .byte, 2) := by decide +kernel
theorem dJ5_init_d00df_14 : decode cJ5_init_d00df 14 = .ok (.putfield 15, 3) := by decide +kernel
theorem dJ5_init_d00df_17 : decode cJ5_init_d00df 17 = .ok (.aload_n 0, 1) := by decide +kernel
theorem dJ5_init_d00df_18 : decode cJ5_init_d00df 18 = .ok (.iconst 0, 1) := by decide +kernel
theorem dJ5_init_d00df_19 : decode cJ5_init_d00df 19 = .ok (.putfield 22, 3) := by decide +kernel
theorem dJ5_init_d00df_22 : decode cJ5_init_d00df 22 = .ok (.goto 16, 3) := by decide +kernel
theorem dJ5_init_d00df_38 : decode cJ5_init_d00df 38 = .ok (.return_, 1) := by decide +kernel
set_option maxHeartbeats 400000 in
set_option maxRecDepth 100000 in
theorem c_sbInit5 (l : Launch) (G : hG) (M : hM) (a t : Nat) (T : Nat → Nat) (hq : M a = some (t, .inr (1, [.null, .int 0, .int 0, .int 0]))) : hCT l G yJ5_init_d00df cJ5_init_d00df 2 (Option.none) (hRm 2 1 16) M [.ref a, .int (nI 16)] (fun v M' => v = none ∧ SbV G M' a t 0 16 T ∧ hFr (fun u => u = t) M M') := by
  refine hCT.of (own := RJ5) (nm := "<init>") (by decide) rfl rfl (Nat.le_of_ble_eq_true rfl) ?_
  intro p e s m args below meth c ls X Y hl
  have hx := X.1
  have hb := X.2.1
  have hl : lv_has ls 2 [(0, .ref a), (1, .int (nI 16))] := hl
  have hfr : hFr (fun u => u = t) M M := hFr.rf
  refine lv_aload_n hx hb dJ5_init_d00df_0 rfl (lv_at hl 0 rfl) ?_
  refine h_objI X hl.1 kml_J5_3 (Nat.le_of_ble_eq_true rfl) (Nat.le_of_ble_eq_true rfl) dJ5_init_d00df_1 ?_
  refine h_gets X Y (hCS_Z X.2.2.2.2.2.2.2.2.1 X.2.2.2.2.2.2.2.2.2.1) kfl_J5_18 dJ5_init_d00df_4 ?_
  refine lv_if_eq (tgt := 25) hx hb dJ5_init_d00df_7 (by decide) (fun c7 => absurd c7 (by decide)) (fun c7 => ?_)
  refine lv_aload_n hx hb dJ5_init_d00df_10 rfl (lv_at hl 0 rfl) ?_
  refine lv_iload_n hx hb dJ5_init_d00df_11 rfl (lv_at hl 1 rfl) ?_
  refine h_newB X Y (t + 1) (n := 16) (by decide) (Nat.le_of_ble_eq_true rfl) (Nat.le_of_ble_eq_true rfl) dJ5_init_d00df_12 (fun qz1 Mz1 H fz1 hg1 Y => ?_)
  have hq := hg1 _ _ hq
  have hfr := hfr.grow hg1
  refine h_put X Y (k := 0) (v := .ref qz1) hq rfl hin_J4 tyJ4_ok nmJ4 (by decide) kfl_J5_15 rfl rfl rfl (Nat.le_of_ble_eq_true rfl) dJ5_init_d00df_14 (fun H locs Y => ?_)
  have Y : hHS G (hup Mz1 a (t, .inr (1, [.ref qz1, .int 0, .int 0, .int 0]))) s H locs := Y
  have fz1 := hup_tag (x := (t, .inr (1, [.ref qz1, .int 0, .int 0, .int 0]))) fz1 hq (by omega)
  have hfr := hfr.put (x := (t, .inr (1, [.ref qz1, .int 0, .int 0, .int 0]))) hq rfl
  have hq : hup Mz1 a (t, .inr (1, [.ref qz1, .int 0, .int 0, .int 0])) a = some (t, .inr (1, [.ref qz1, .int 0, .int 0, .int 0])) := hup_eq
  generalize hup Mz1 a (t, .inr (1, [.ref qz1, .int 0, .int 0, .int 0])) = Mz2 at Y hq fz1 hfr
  refine lv_aload_n hx hb dJ5_init_d00df_17 rfl (lv_at hl 0 rfl) ?_
  refine lv_iconst (v := 0) hx hb dJ5_init_d00df_18 (by decide) ?_
  refine h_put X Y (k := 1) (v := .int 0) hq rfl hin_J4 tyJ4_ok nmJ4 (by decide) kfl_J5_22 rfl rfl rfl (Nat.le_of_ble_eq_true rfl) dJ5_init_d00df_19 (fun H locs Y => ?_)
  have Y : hHS G (hup Mz2 a (t, .inr (1, [.ref qz1, .int 0, .int 0, .int 0]))) s H locs := Y
  have fz1 := hup_tag (x := (t, .inr (1, [.ref qz1, .int 0, .int 0, .int 0]))) fz1 hq (by omega)
  have hfr := hfr.put (x := (t, .inr (1, [.ref qz1, .int 0, .int 0, .int 0]))) hq rfl
  have hq : hup Mz2 a (t, .inr (1, [.ref qz1, .int 0, .int 0, .int 0])) a = some (t, .inr (1, [.ref qz1, .int 0, .int 0, .int 0])) := hup_eq
  generalize hup Mz2 a (t, .inr (1, [.ref qz1, .int 0, .int 0, .int 0])) = Mz3 at Y hq fz1 hfr
  refine lv_goto (tgt := 38) hx hb dJ5_init_d00df_22 (by decide) ?_
  exact h_vret X Y ⟨rfl, ⟨qz1, _, hq, fz1, by omega, by omega, sb_fit0, fun i hi => absurd hi (Nat.not_lt_zero i)⟩, hfr⟩ (Nat.le_of_ble_eq_true rfl) (Nat.le_of_ble_eq_true rfl) dJ5_init_d00df_38
theorem dsc_J5_init_d00df : yJ5_init_d00df.cls = RJ5 ∧ yJ5_init_d00df.cls ≠ "java/lang/invoke/MethodHandle" ∧ yJ5_init_d00df.cls ≠ "java/lang/invoke/VarHandle" ∧ (parseMethodDescriptor yJ5_init_d00df.desc).map (fun d => d.parameters.length) = some 1 := ⟨rfl, by decide +kernel, by decide +kernel, by decide +kernel⟩
theorem dJ4_init_da8c8_0 : decode cJ4_init_da8c8 0 = .ok (.aload_n 0, 1) := by decide +kernel
theorem dJ4_init_da8c8_1 : decode cJ4_init_da8c8 1 = .ok (.bipush 16, 2) := by decide +kernel
theorem dJ4_init_da8c8_3 : decode cJ4_init_da8c8 3 = .ok (.invokespecial 1, 3) := by decide +kernel
theorem dJ4_init_da8c8_6 : decode cJ4_init_da8c8 6 = .ok (.return_, 1) := by decide +kernel
set_option maxHeartbeats 400000 in
set_option maxRecDepth 100000 in
theorem c_sbInit (l : Launch) (G : hG) (M : hM) (a t : Nat) (T : Nat → Nat) (hq : M a = some (t, .inr (1, [.null, .int 0, .int 0, .int 0]))) : hCT l G yJ4_init_da8c8 cJ4_init_da8c8 1 (Option.none) (hRm 3 1 16) M [.ref a] (fun v M' => v = none ∧ SbV G M' a t 0 16 T ∧ hFr (fun u => u = t) M M') := by
  refine hCT.of (own := RJ4) (nm := "<init>") (by decide) rfl rfl (Nat.le_of_ble_eq_true rfl) ?_
  intro p e s m args below meth c ls X Y hl
  have hx := X.1
  have hb := X.2.1
  have hl : lv_has ls 1 [(0, .ref a)] := hl
  refine lv_aload_n hx hb dJ4_init_da8c8_0 rfl (lv_at hl 0 rfl) ?_
  refine lv_bipush (v := 16) hx hb dJ4_init_da8c8_1 (by decide) ?_
  refine h_callI (rest := []) X Y (c_sbInit5 l G M a t T hq) (hgi0 kco_J5_init_d00df) kini_J5 kml_J4_1 kin_J5_init_d00df rfl dsc_J5_init_d00df.2 rfl hl.1 rfl (Nat.le_of_ble_eq_true rfl) ⟨Nat.le_of_ble_eq_true rfl, Nat.le_of_ble_eq_true rfl⟩ ⟨Nat.le_of_ble_eq_true rfl, Nat.le_of_ble_eq_true rfl⟩ dJ4_init_da8c8_3 ?_
  rintro _ M1 H locs ⟨rfl, hres⟩ Y
  try dsimp only [Option.toList, List.nil_append]
  exact h_vret X Y ⟨rfl, hres⟩ (Nat.le_of_ble_eq_true rfl) (Nat.le_of_ble_eq_true rfl) dJ4_init_da8c8_6
theorem dJ7_checkLength_df160_0 : decode cJ7_checkLength_df160 0 = .ok (.iload_n 1, 1) := by decide +kernel
theorem dJ7_checkLength_df160_1 : decode cJ7_checkLength_df160 1 = .ok (.iload_n 0, 1) := by decide +kernel
theorem dJ7_checkLength_df160_2 : decode cJ7_checkLength_df160 2 = .ok (.if_icmp .ge 35, 3) := by decide +kernel
theorem dJ7_checkLength_df160_37 : decode cJ7_checkLength_df160 37 = .ok (.return_, 1) := by decide +kernel
set_option maxHeartbeats 400000 in
set_option maxRecDepth 100000 in
theorem c_chkLen (l : Launch) (G : hG) (M : hM) (n k : Nat) (hnk : n ≤ k) (hk : k < 2147483648) : hCT l G yJ7_checkLength_df160 cJ7_checkLength_df160 2 (Option.none) (hRm 1 0 0) M [.int (nI n), .int (nI k)] (fun v M' => v = none ∧ M' = M) := by
  refine hCT.of (own := RJ7) (nm := "checkLength") (by decide) rfl rfl (Nat.le_of_ble_eq_true rfl) ?_
  intro p e s m args below meth c ls X Y hl
  have hx := X.1
  have hb := X.2.1
  have hl : lv_has ls 2 [(0, .int (nI n)), (1, .int (nI k))] := hl
  refine lv_iload_n hx hb dJ7_checkLength_df160_0 rfl (lv_at hl 1 rfl) ?_
  refine lv_iload_n hx hb dJ7_checkLength_df160_1 rfl (lv_at hl 0 rfl) ?_
  refine lv_icmp_ge (tgt := 37) hx hb dJ7_checkLength_df160_2 (by decide) (fun c2 => ?_) (fun c2 => absurd (show ¬ n ≤ k from fun z9 => c2 ((nI_leI (a := n) (b := k) (by omega) (by omega)).mpr z9)) (by omega))
  have c2 : n ≤ k := (nI_leI (a := n) (b := k) (by omega) (by omega)).mp c2
  exact h_vret X Y ⟨rfl, rfl⟩ (Nat.le_refl _) (Nat.le_refl _) dJ7_checkLength_df160_37
theorem t_min2 (a b : Nat) (h : b ≤ a) (ha : a < 2147483648) : sMin (nI a) (nI b) = nI b := by
  unfold sMin
  by_cases hz : b < a
  · exact if_pos ((nI_ltI (by omega) ha).mpr hz)
  · rw [if_neg (fun z => hz ((nI_ltI (by omega) ha).mp z)), show a = b by omega]
theorem gw_J7_343 : GoodIn hGW (va_wsS RJ7 343 yJ7_checkLength_df160 (Cond.code yJ7_checkLength_df160 cJ7_checkLength_df160 2 (Option.none) :: hGW)) := hgi3 kml_J7_343 kst_J7_checkLength_df160 kini_J7 kco_J7_checkLength_df160
theorem dsc_J7_checkLength_df160 : yJ7_checkLength_df160.cls = RJ7 ∧ yJ7_checkLength_df160.cls ≠ "java/lang/invoke/MethodHandle" ∧ yJ7_checkLength_df160.cls ≠ "java/lang/invoke/VarHandle" ∧ (parseMethodDescriptor yJ7_checkLength_df160.desc).map (fun d => d.parameters.length) = some 2 := ⟨rfl, by decide +kernel, by decide +kernel, by decide +kernel⟩
theorem dJ7_copyOfRangeByte_39247_0 : decode cJ7_copyOfRangeByte_39247 0 = .ok (.iload_n 1, 1) := by decide +kernel
theorem dJ7_copyOfRangeByte_39247_1 : decode cJ7_copyOfRangeByte_39247 1 = .ok (.iload_n 2, 1) := by decide +kernel
theorem dJ7_copyOfRangeByte_39247_2 : decode cJ7_copyOfRangeByte_39247 2 = .ok (.invokestatic 343, 3) := by decide +kernel
theorem dJ7_copyOfRangeByte_39247_5 : decode cJ7_copyOfRangeByte_39247 5 = .ok (.iload_n 2, 1) := by decide +kernel
theorem dJ7_copyOfRangeByte_39247_6 : decode cJ7_copyOfRangeByte_39247 6 = .ok (.iload_n 1, 1) := by decide +kernel
theorem dJ7_copyOfRangeByte_39247_7 : decode cJ7_copyOfRangeByte_39247 7 = .ok (.isub, 1) := by decide +kernel
theorem dJ7_copyOfRangeByte_39247_8 : decode cJ7_copyOfRangeByte_39247 8 = .ok (.istore_n 3, 1) := by decide +kernel
theorem dJ7_copyOfRangeByte_39247_9 : decode cJ7_copyOfRangeByte_39247 9 = .ok (.iload_n 3, 1) := by decide +kernel
theorem dJ7_copyOfRangeByte_39247_10 : decode cJ7_copyOfRangeByte_39247 10 = .ok (.newarray .byte, 2) := by decide +kernel
theorem dJ7_copyOfRangeByte_39247_12 : decode cJ7_copyOfRangeByte_39247 12 = .ok (.astore 4, 2) := by decide +kernel
theorem dJ7_copyOfRangeByte_39247_14 : decode cJ7_copyOfRangeByte_39247 14 = .ok (.aload_n 0, 1) := by decide +kernel
theorem dJ7_copyOfRangeByte_39247_15 : decode cJ7_copyOfRangeByte_39247 15 = .ok (.iload_n 1, 1) := by decide +kernel
theorem dJ7_copyOfRangeByte_39247_16 : decode cJ7_copyOfRangeByte_39247 16 = .ok (.aload 4, 2) := by decide +kernel
theorem dJ7_copyOfRangeByte_39247_18 : decode cJ7_copyOfRangeByte_39247 18 = .ok (.iconst 0, 1) := by decide +kernel
theorem dJ7_copyOfRangeByte_39247_19 : decode cJ7_copyOfRangeByte_39247 19 = .ok (.aload_n 0, 1) := by decide +kernel
theorem dJ7_copyOfRangeByte_39247_20 : decode cJ7_copyOfRangeByte_39247 20 = .ok (.arraylength, 1) := by decide +kernel
theorem dJ7_copyOfRangeByte_39247_21 : decode cJ7_copyOfRangeByte_39247 21 = .ok (.iload_n 1, 1) := by decide +kernel
theorem dJ7_copyOfRangeByte_39247_22 : decode cJ7_copyOfRangeByte_39247 22 = .ok (.isub, 1) := by decide +kernel
theorem dJ7_copyOfRangeByte_39247_23 : decode cJ7_copyOfRangeByte_39247 23 = .ok (.iload_n 3, 1) := by decide +kernel
theorem dJ7_copyOfRangeByte_39247_24 : decode cJ7_copyOfRangeByte_39247 24 = .ok (.invokestatic 304, 3) := by decide +kernel
theorem dJ7_copyOfRangeByte_39247_27 : decode cJ7_copyOfRangeByte_39247 27 = .ok (.invokestatic 150, 3) := by decide +kernel
theorem dJ7_copyOfRangeByte_39247_30 : decode cJ7_copyOfRangeByte_39247 30 = .ok (.aload 4, 2) := by decide +kernel
theorem dJ7_copyOfRangeByte_39247_32 : decode cJ7_copyOfRangeByte_39247 32 = .ok (.areturn, 1) := by decide +kernel
set_option maxHeartbeats 400000 in
set_option maxRecDepth 100000 in
theorem c_copyRB (l : Launch) (G : hG) (M : hM) (a0 ud n0 mm te : Nat) (f : Nat → Int32) (h0 : M a0 = some (ud, .inl (hT G 1, n0, .inl f))) (hm : mm ≤ n0) (hn0 : n0 ≤ 1300) (hft : sb_Fit f) : hCT l G yJ7_copyOfRangeByte_39247 cJ7_copyOfRangeByte_39247 5 (Option.some (FieldType.array FieldType.byte)) (hRm 2 1 1300) M [.ref a0, .int (nI 0), .int (nI mm)] (fun v M' => ∃ q g, v = some (.ref q) ∧ M' q = some (te, .inl (hT G 1, mm, .inl g)) ∧ (∀ i, i < mm → g i = f i) ∧ hFr (fun u => u = te) M M') := by
  refine hCT.of (own := RJ7) (nm := "copyOfRangeByte") (by decide) rfl rfl (Nat.le_of_ble_eq_true rfl) ?_
  intro p e s m args below meth c ls X Y hl
  have hx := X.1
  have hb := X.2.1
  have hl : lv_has ls 5 [(0, .ref a0), (1, .int (nI 0)), (2, .int (nI mm))] := hl
  refine lv_iload_n hx hb dJ7_copyOfRangeByte_39247_0 rfl (lv_at hl 1 rfl) ?_
  refine lv_iload_n hx hb dJ7_copyOfRangeByte_39247_1 rfl (lv_at hl 2 rfl) ?_
  refine h_callS (rest := []) X Y (c_chkLen l G M 0 mm (by omega) (by omega)) gw_J7_343 dsc_J7_checkLength_df160.2 rfl hl.1 rfl (Nat.le_of_ble_eq_true rfl) ⟨Nat.le_of_ble_eq_true rfl, Nat.le_of_ble_eq_true rfl⟩ ⟨(by show _ ≤ 1; first | decide | omega), (by show _ ≤ 1300; first | decide | omega)⟩ dJ7_copyOfRangeByte_39247_2 ?_
  rintro _ M9 H locs ⟨rfl, hM9⟩ Y
  rw [hM9] at Y
  try dsimp only [Option.toList, List.nil_append]
  refine lv_iload_n hx hb dJ7_copyOfRangeByte_39247_5 rfl (lv_at hl 2 rfl) ?_
  refine lv_iload_n hx hb dJ7_copyOfRangeByte_39247_6 rfl (lv_at hl 1 rfl) ?_
  refine lv_isub hx hb dJ7_copyOfRangeByte_39247_7 ?_
  refine h_ev (y := nI mm) ((pk_sub (a := mm) (b := 0) (by omega)).trans (congrArg nI (Nat.sub_zero mm))) ?_
  refine lv_istore_n (lv' := [(3, .int (nI mm)), (0, .ref a0), (1, .int (nI 0)), (2, .int (nI mm))]) hx hb dJ7_copyOfRangeByte_39247_8 rfl hl (by decide) rfl (fun ls hl => ?_)
  refine lv_iload_n hx hb dJ7_copyOfRangeByte_39247_9 rfl (lv_at hl 0 rfl) ?_
  refine h_newB X Y (te) (n := mm) (by omega) (Nat.le_of_ble_eq_true rfl) (by show _ ≤ 1300; omega) dJ7_copyOfRangeByte_39247_10 (fun qz1 Mz1 H fz1 hg1 Y => ?_)
  have hfr : hFr (fun u => u = te) M Mz1 := hFr.grow hFr.rf hg1
  have h0 := hg1 _ _ h0
  have hg99 := hg1
  refine lv_astore (lv' := [(4, .ref qz1), (3, .int (nI mm)), (0, .ref a0), (1, .int (nI 0)), (2, .int (nI mm))]) hx hb dJ7_copyOfRangeByte_39247_12 hl (by decide) rfl (fun ls hl => ?_)
  refine lv_aload_n hx hb dJ7_copyOfRangeByte_39247_14 rfl (lv_at hl 2 rfl) ?_
  refine lv_iload_n hx hb dJ7_copyOfRangeByte_39247_15 rfl (lv_at hl 3 rfl) ?_
  refine lv_aload hx hb dJ7_copyOfRangeByte_39247_16 (lv_at hl 0 rfl) ?_
  refine lv_iconst (v := 0) hx hb dJ7_copyOfRangeByte_39247_18 (by decide) ?_
  refine lv_aload_n hx hb dJ7_copyOfRangeByte_39247_19 rfl (lv_at hl 2 rfl) ?_
  refine h_alen X Y 1 h0 rfl dJ7_copyOfRangeByte_39247_20 ?_
  refine lv_iload_n hx hb dJ7_copyOfRangeByte_39247_21 rfl (lv_at hl 3 rfl) ?_
  refine lv_isub hx hb dJ7_copyOfRangeByte_39247_22 ?_
  refine h_ev (y := nI n0) ((pk_sub (a := n0) (b := 0) (by omega)).trans (congrArg nI (Nat.sub_zero n0))) ?_
  refine lv_iload_n hx hb dJ7_copyOfRangeByte_39247_23 rfl (lv_at hl 1 rfl) ?_
  refine h_mmin X kml_J7_304 hl.1 (Nat.le_of_ble_eq_true rfl) (Nat.le_of_ble_eq_true rfl) ⟨(by show _ ≤ 1; first | decide | omega), (by show _ ≤ 1300; first | decide | omega)⟩ dJ7_copyOfRangeByte_39247_24 ?_
  refine h_ev (y := nI mm) (t_min2 n0 mm hm (by omega)) ?_
  refine h_cpb (k := mm) (dp := 0) (t0 := 1) X Y hl.1 h0 fz1 rfl rfl hm (by omega) (by omega) (by omega) (fun i hi => hft i) kml_J7_150 (Nat.le_of_ble_eq_true rfl) (Nat.le_of_ble_eq_true rfl) dJ7_copyOfRangeByte_39247_27 (fun H locs Y => ?_)
  have hfr := hfr.put (x := (te, .inl (hT G 1, mm, .inl (va_cpy f (fun _ => 0) 0 0 mm)))) fz1 rfl
  have hq9 : hup Mz1 qz1 (te, .inl (hT G 1, mm, .inl (va_cpy f (fun _ => 0) 0 0 mm))) qz1 = some (te, .inl (hT G 1, mm, .inl (va_cpy f (fun _ => 0) 0 0 mm))) := hup_eq
  refine lv_aload hx hb dJ7_copyOfRangeByte_39247_30 (lv_at hl 0 rfl) ?_
  exact h_aret (v := some qz1) X Y (Or.inr ⟨_, rfl⟩) ⟨qz1, _, rfl, hq9, fun i hi => sb_cpy0 hi, hfr⟩ (by show _ ≤ 1; omega) (by show _ ≤ 1300; omega) dJ7_copyOfRangeByte_39247_32
theorem gw_J7_339 : GoodIn hGW (va_wsS RJ7 339 yJ7_copyOfRangeByte_39247 (Cond.code yJ7_copyOfRangeByte_39247 cJ7_copyOfRangeByte_39247 5 (Option.some (FieldType.array FieldType.byte)) :: hGW)) := hgi3 kml_J7_339 kst_J7_copyOfRangeByte_39247 kini_J7 kco_J7_copyOfRangeByte_39247
theorem dsc_J7_copyOfRangeByte_39247 : yJ7_copyOfRangeByte_39247.cls = RJ7 ∧ yJ7_copyOfRangeByte_39247.cls ≠ "java/lang/invoke/MethodHandle" ∧ yJ7_copyOfRangeByte_39247.cls ≠ "java/lang/invoke/VarHandle" ∧ (parseMethodDescriptor yJ7_copyOfRangeByte_39247.desc).map (fun d => d.parameters.length) = some 3 := ⟨rfl, by decide +kernel, by decide +kernel, by decide +kernel⟩
theorem dJ7_copyOfRange_39247_0 : decode cJ7_copyOfRange_39247 0 = .ok (.iload_n 1, 1) := by decide +kernel
theorem dJ7_copyOfRange_39247_1 : decode cJ7_copyOfRange_39247 1 = .ok (.ifCond .ne 9, 3) := by decide +kernel
theorem dJ7_copyOfRange_39247_4 : decode cJ7_copyOfRange_39247 4 = .ok (.iload_n 2, 1) := by decide +kernel
theorem dJ7_copyOfRange_39247_5 : decode cJ7_copyOfRange_39247 5 = .ok (.aload_n 0, 1) := by decide +kernel
theorem dJ7_copyOfRange_39247_6 : decode cJ7_copyOfRange_39247 6 = .ok (.arraylength, 1) := by decide +kernel
theorem dJ7_copyOfRange_39247_7 : decode cJ7_copyOfRange_39247 7 = .ok (.if_icmp .eq 10, 3) := by decide +kernel
theorem dJ7_copyOfRange_39247_10 : decode cJ7_copyOfRange_39247 10 = .ok (.aload_n 0, 1) := by decide +kernel
theorem dJ7_copyOfRange_39247_11 : decode cJ7_copyOfRange_39247 11 = .ok (.iload_n 1, 1) := by decide +kernel
theorem dJ7_copyOfRange_39247_12 : decode cJ7_copyOfRange_39247 12 = .ok (.iload_n 2, 1) := by decide +kernel
theorem dJ7_copyOfRange_39247_13 : decode cJ7_copyOfRange_39247 13 = .ok (.invokestatic 339, 3) := by decide +kernel
theorem dJ7_copyOfRange_39247_16 : decode cJ7_copyOfRange_39247 16 = .ok (.areturn, 1) := by decide +kernel
theorem dJ7_copyOfRange_39247_17 : decode cJ7_copyOfRange_39247 17 = .ok (.aload_n 0, 1) := by decide +kernel
theorem dJ7_copyOfRange_39247_18 : decode cJ7_copyOfRange_39247 18 = .ok (.invokevirtual 310, 3) := by decide +kernel
theorem dJ7_copyOfRange_39247_21 : decode cJ7_copyOfRange_39247 21 = .ok (.checkcast 311, 3) := by decide +kernel
theorem dJ7_copyOfRange_39247_24 : decode cJ7_copyOfRange_39247 24 = .ok (.areturn, 1) := by decide +kernel
set_option maxHeartbeats 400000 in
set_option maxRecDepth 100000 in
theorem c_copyR (l : Launch) (G : hG) (M : hM) (a0 ud n0 mm te : Nat) (f : Nat → Int32) (h0 : M a0 = some (ud, .inl (hT G 1, n0, .inl f))) (hm : mm ≤ n0) (hn0 : n0 ≤ 1300) (hft : sb_Fit f) : hCT l G yJ7_copyOfRange_39247 cJ7_copyOfRange_39247 3 (Option.some (FieldType.array FieldType.byte)) (hRm 3 1 1300) M [.ref a0, .int (nI 0), .int (nI mm)] (fun v M' => ∃ q g, v = some (.ref q) ∧ M' q = some (te, .inl (hT G 1, mm, .inl g)) ∧ (∀ i, i < mm → g i = f i) ∧ hFr (fun u => u = te) M M') := by
  refine hCT.of (own := RJ7) (nm := "copyOfRange") (by decide) rfl rfl (Nat.le_of_ble_eq_true rfl) ?_
  intro p e s m args below meth c ls X Y hl
  have hx := X.1
  have hb := X.2.1
  have hl : lv_has ls 3 [(0, .ref a0), (1, .int (nI 0)), (2, .int (nI mm))] := hl
  refine lv_iload_n hx hb dJ7_copyOfRange_39247_0 rfl (lv_at hl 1 rfl) ?_
  refine lv_if_ne (tgt := 10) hx hb dJ7_copyOfRange_39247_1 (by decide) (fun c1 => absurd (by decide) c1) (fun c1 => ?_)
  refine lv_iload_n hx hb dJ7_copyOfRange_39247_4 rfl (lv_at hl 2 rfl) ?_
  refine lv_aload_n hx hb dJ7_copyOfRange_39247_5 rfl (lv_at hl 0 rfl) ?_
  refine h_alen X Y 1 h0 rfl dJ7_copyOfRange_39247_6 ?_
  rcases Nat.lt_or_ge mm n0 with hlt | hge
  · refine lv_icmp_eq (tgt := 17) hx hb dJ7_copyOfRange_39247_7 (by decide) (fun c7 => absurd (show mm = n0 from (nI_eq (a := mm) (b := n0) (by omega) (by omega)).mp c7) (by omega)) (fun c7 => ?_)
    have c7 : ¬ mm = n0 := fun z9 => c7 ((nI_eq (a := mm) (b := n0) (by omega) (by omega)).mpr z9)
    refine lv_aload_n hx hb dJ7_copyOfRange_39247_10 rfl (lv_at hl 0 rfl) ?_
    refine lv_iload_n hx hb dJ7_copyOfRange_39247_11 rfl (lv_at hl 1 rfl) ?_
    refine lv_iload_n hx hb dJ7_copyOfRange_39247_12 rfl (lv_at hl 2 rfl) ?_
    refine h_callS (rest := []) X Y (c_copyRB l G M a0 ud n0 mm te f h0 hm hn0 hft) gw_J7_339 dsc_J7_copyOfRangeByte_39247.2 rfl hl.1 rfl (Nat.le_of_ble_eq_true rfl) ⟨Nat.le_of_ble_eq_true rfl, Nat.le_of_ble_eq_true rfl⟩ ⟨(by show _ ≤ 1; decide), (by show _ ≤ 1300; decide)⟩ dJ7_copyOfRange_39247_13 ?_
    rintro _ M1 H locs ⟨q, g, rfl, hres⟩ Y
    try dsimp only [Option.toList, List.singleton_append]
    exact h_aret (v := some q) X Y (Or.inr ⟨_, rfl⟩) ⟨q, g, rfl, hres⟩ (by show _ ≤ 1; decide) (by show _ ≤ 1300; decide) dJ7_copyOfRange_39247_16
  · refine lv_icmp_eq (tgt := 17) hx hb dJ7_copyOfRange_39247_7 (by decide) (fun c7 => ?_) (fun c7 => absurd (show ¬ mm = n0 from fun z9 => c7 ((nI_eq (a := mm) (b := n0) (by omega) (by omega)).mpr z9)) (by omega))
    have c7 : mm = n0 := (nI_eq (a := mm) (b := n0) (by omega) (by omega)).mp c7
    refine lv_aload_n hx hb dJ7_copyOfRange_39247_17 rfl (lv_at hl 0 rfl) ?_
    refine h_cloneB X Y hl.1 te h0 hft kml_J7_310 (Nat.le_of_ble_eq_true rfl) (Nat.le_of_ble_eq_true rfl) (Nat.le_of_ble_eq_true rfl) (by show _ ≤ 1300; omega) dJ7_copyOfRange_39247_18 (fun q M1 H hq9 hg9 Y => ?_)
    refine h_castB X Y hq9 kcl_J7_311 dJ7_copyOfRange_39247_21 ?_
    exact h_aret (v := some q) X Y (Or.inr ⟨_, rfl⟩) ⟨q, f, rfl, (by rw [show mm = n0 by omega]; exact hq9), fun _ _ => rfl, hFr.grow hFr.rf hg9⟩ (by show _ ≤ 1; omega) (by show _ ≤ 1300; omega) dJ7_copyOfRange_39247_24
theorem gu_J0_552 : GoodIn hGW (va_wsU RJ0 552 RJ4 RJ5 yJ5_getValue_6d5f1 yJ5_getValue_6d5f1 (Cond.code yJ5_getValue_6d5f1 cJ5_getValue_6d5f1 1 (Option.some (FieldType.array FieldType.byte)) :: hGW)) := hgi5 kml_J0_552 ksm_J5_getValue___B kse_J4_J5_getValue_6d5f1_J5_getValue_6d5f1 kin_J5_getValue_6d5f1 kini_J5 kco_J5_getValue_6d5f1
theorem dsu_J5_getValue_6d5f1 : (RJ5 : String) ≠ "java/lang/invoke/MethodHandle" ∧ (RJ5 : String) ≠ "java/lang/invoke/VarHandle" ∧ (parseMethodDescriptor yJ5_getValue_6d5f1.desc).map (fun d => d.parameters.length) = some 0 := ⟨by decide +kernel, by decide +kernel, by decide +kernel⟩
theorem go_J0_549 : GoodIn hGW (va_wsO RJ0 549 RJ4 RJ5 yJ5_length_8abf5 yJ4_length_8abf5 (Cond.code yJ4_length_8abf5 cJ4_length_8abf5 1 (Option.some FieldType.int) :: hGW)) := hgi6 kml_J0_549 ksm_J5_length__I kin_J5_length_8abf5 kse_J4_J5_length_8abf5_J4_length_8abf5 kin_J4_length_8abf5 kini_J4 kco_J4_length_8abf5
theorem dsu_J5_length_8abf5 : (RJ5 : String) ≠ "java/lang/invoke/MethodHandle" ∧ (RJ5 : String) ≠ "java/lang/invoke/VarHandle" ∧ (parseMethodDescriptor yJ5_length_8abf5.desc).map (fun d => d.parameters.length) = some 0 := ⟨by decide +kernel, by decide +kernel, by decide +kernel⟩
theorem gu_J0_1047 : GoodIn hGW (va_wsU RJ0 1047 RJ4 RJ5 yJ5_isLatin1_aae02 yJ5_isLatin1_aae02 (Cond.code yJ5_isLatin1_aae02 cJ5_isLatin1_aae02 1 (Option.some FieldType.boolean) :: hGW)) := hgi5 kml_J0_1047 ksm_J5_isLatin1__Z kse_J4_J5_isLatin1_aae02_J5_isLatin1_aae02 kin_J5_isLatin1_aae02 kini_J5 kco_J5_isLatin1_aae02
theorem gw_J0_54 : GoodIn hGW (va_wsS RJ0 54 yJ7_copyOfRange_39247 (Cond.code yJ7_copyOfRange_39247 cJ7_copyOfRange_39247 3 (Option.some (FieldType.array FieldType.byte)) :: hGW)) := hgi3 kml_J0_54 kst_J7_copyOfRange_39247 kini_J7 kco_J7_copyOfRange_39247
theorem dsc_J7_copyOfRange_39247 : yJ7_copyOfRange_39247.cls = RJ7 ∧ yJ7_copyOfRange_39247.cls ≠ "java/lang/invoke/MethodHandle" ∧ yJ7_copyOfRange_39247.cls ≠ "java/lang/invoke/VarHandle" ∧ (parseMethodDescriptor yJ7_copyOfRange_39247.desc).map (fun d => d.parameters.length) = some 3 := ⟨rfl, by decide +kernel, by decide +kernel, by decide +kernel⟩
theorem dJ0_init_db425_0 : decode cJ0_init_db425 0 = .ok (.aload_n 0, 1) := by decide +kernel
theorem dJ0_init_db425_1 : decode cJ0_init_db425 1 = .ok (.invokespecial 1, 3) := by decide +kernel
theorem dJ0_init_db425_4 : decode cJ0_init_db425 4 = .ok (.aload_n 1, 1) := by decide +kernel
theorem dJ0_init_db425_5 : decode cJ0_init_db425 5 = .ok (.invokevirtual 552, 3) := by decide +kernel
theorem dJ0_init_db425_8 : decode cJ0_init_db425 8 = .ok (.astore_n 3, 1) := by decide +kernel
theorem dJ0_init_db425_9 : decode cJ0_init_db425 9 = .ok (.aload_n 1, 1) := by decide +kernel
theorem dJ0_init_db425_10 : decode cJ0_init_db425 10 = .ok (.invokevirtual 549, 3) := by decide +kernel
theorem dJ0_init_db425_13 : decode cJ0_init_db425 13 = .ok (.istore 4, 2) := by decide +kernel
theorem dJ0_init_db425_15 : decode cJ0_init_db425 15 = .ok (.aload_n 1, 1) := by decide +kernel
theorem dJ0_init_db425_16 : decode cJ0_init_db425 16 = .ok (.invokevirtual 1047, 3) := by decide +kernel
theorem dJ0_init_db425_19 : decode cJ0_init_db425 19 = .ok (.ifCond .eq 22, 3) := by decide +kernel
theorem dJ0_init_db425_22 : decode cJ0_init_db425 22 = .ok (.aload_n 0, 1) := by decide +kernel
theorem dJ0_init_db425_23 : decode cJ0_init_db425 23 = .ok (.iconst 0, 1) := by decide +kernel
theorem dJ0_init_db425_24 : decode cJ0_init_db425 24 = .ok (.putfield 15, 3) := by decide +kernel
theorem dJ0_init_db425_27 : decode cJ0_init_db425 27 = .ok (.aload_n 0, 1) := by decide +kernel
theorem dJ0_init_db425_28 : decode cJ0_init_db425 28 = .ok (.aload_n 3, 1) := by decide +kernel
theorem dJ0_init_db425_29 : decode cJ0_init_db425 29 = .ok (.iconst 0, 1) := by decide +kernel
theorem dJ0_init_db425_30 : decode cJ0_init_db425 30 = .ok (.iload 4, 2) := by decide +kernel
theorem dJ0_init_db425_32 : decode cJ0_init_db425 32 = .ok (.invokestatic 54, 3) := by decide +kernel
theorem dJ0_init_db425_35 : decode cJ0_init_db425 35 = .ok (.putfield 9, 3) := by decide +kernel
theorem dJ0_init_db425_38 : decode cJ0_init_db425 38 = .ok (.goto 59, 3) := by decide +kernel
theorem dJ0_init_db425_97 : decode cJ0_init_db425 97 = .ok (.return_, 1) := by decide +kernel
set_option maxHeartbeats 400000 in
set_option maxRecDepth 100000 in
theorem c_strInit2 (l : Launch) (G : hG) (M : hM) (a t n cap : Nat) (T : Nat → Nat) (hV : SbV G M a t n cap T) (q0 tq : Nat) (hq : M q0 = some (tq, .inr (0, [.null, .int 0, .int 0, .int 0]))) (htq : tq + 1 < t ∨ t + 1 < tq) : hCT l G yJ0_init_db425 cJ0_init_db425 5 (Option.none) (hRm 4 1 1300) M [.ref q0, .ref a, .null] (fun v M' => v = none ∧ (∃ va f, M' q0 = some (tq, .inr (0, [.ref va, .int 0, .int 0, .int 0])) ∧ M' va = some (tq + 1, .inl (hT G 1, n, .inl f)) ∧ ∀ i, i < n → f i = nI (T i) ∧ T i < 128) ∧ hFr (fun u => u = tq ∨ u = tq + 1) M M') := by
  refine hCT.of (own := RJ0) (nm := "<init>") (by decide) rfl rfl (Nat.le_of_ble_eq_true rfl) ?_
  intro p e s m args below meth c ls X Y hl
  have hx := X.1
  have hb := X.2.1
  have hl : lv_has ls 5 [(0, .ref q0), (1, .ref a), (2, .null)] := hl
  obtain ⟨va, f, hb0, hb1, hnc, hcap, hft, hT0⟩ := id hV
  have hfr : hFr (fun u => u = tq) M M := hFr.rf
  refine lv_aload_n hx hb dJ0_init_db425_0 rfl (lv_at hl 0 rfl) ?_
  refine h_objI X hl.1 kml_J0_1 (Nat.le_of_ble_eq_true rfl) (Nat.le_of_ble_eq_true rfl) dJ0_init_db425_1 ?_
  refine lv_aload_n hx hb dJ0_init_db425_4 rfl (lv_at hl 1 rfl) ?_
  refine h_callUr (rest := []) X Y (c_sbVal l G M a t va n hb0) rfl rfl gu_J0_552 rfl dsu_J5_getValue_6d5f1 (h_recv X Y hb0 (r := (RJ4, TJ4, 4)) rfl) rfl rfl hl.1 (Nat.le_of_ble_eq_true rfl) ⟨Nat.le_of_ble_eq_true rfl, Nat.le_of_ble_eq_true rfl⟩ ⟨(by show _ ≤ 1; decide), (by show _ ≤ 1300; decide)⟩ dJ0_init_db425_5 (fun H locs Y => ?_)
  refine lv_astore_n (lv' := [(3, .ref va), (0, .ref q0), (1, .ref a), (2, .null)]) hx hb dJ0_init_db425_8 rfl hl (by decide) rfl (fun ls hl => ?_)
  refine lv_aload_n hx hb dJ0_init_db425_9 rfl (lv_at hl 2 rfl) ?_
  refine h_callOv (rest := []) X Y (c_sbLen l G M a t va n hb0) rfl rfl go_J0_549 kco_J5_length_8abf5 dsu_J5_length_8abf5 hb0 (r := (RJ4, TJ4, 4)) rfl rfl rfl rfl hl.1 (Nat.le_of_ble_eq_true rfl) ⟨Nat.le_of_ble_eq_true rfl, Nat.le_of_ble_eq_true rfl⟩ ⟨(by show _ ≤ 1; decide), (by show _ ≤ 1300; decide)⟩ dJ0_init_db425_10 (fun H locs Y => ?_)
  refine lv_istore (lv' := [(4, .int (nI n)), (3, .ref va), (0, .ref q0), (1, .ref a), (2, .null)]) hx hb dJ0_init_db425_13 hl (by decide) rfl (fun ls hl => ?_)
  refine lv_aload_n hx hb dJ0_init_db425_15 rfl (lv_at hl 3 rfl) ?_
  refine h_callUr (rest := []) X Y (c_sbLatin l G M a t va n hb0) rfl rfl gu_J0_1047 rfl dsu_J5_isLatin1_aae02 (h_recv X Y hb0 (r := (RJ4, TJ4, 4)) rfl) rfl rfl hl.1 (Nat.le_of_ble_eq_true rfl) ⟨Nat.le_of_ble_eq_true rfl, Nat.le_of_ble_eq_true rfl⟩ ⟨(by show _ ≤ 1; decide), (by show _ ≤ 1300; decide)⟩ dJ0_init_db425_16 (fun H locs Y => ?_)
  refine lv_if_eq (tgt := 41) hx hb dJ0_init_db425_19 (by decide) (fun c19 => absurd c19 (by decide)) (fun c19 => ?_)
  refine lv_aload_n hx hb dJ0_init_db425_22 rfl (lv_at hl 2 rfl) ?_
  refine lv_iconst (v := 0) hx hb dJ0_init_db425_23 (by decide) ?_
  refine h_putF X Y (k := 1) (v := .int 0) hq rfl hin_J0 tyJ0_ok nmJ0 (by decide) kfl_J0_15 rfl rfl rfl rfl (Nat.le_of_ble_eq_true rfl) dJ0_init_db425_24 (fun H locs Y => ?_)
  have Y : hHS G (hup M q0 (tq, .inr (0, [.null, .int 0, .int 0, .int 0]))) s H locs := Y
  have hb0 := hup_tag (x := (tq, .inr (0, [.null, .int 0, .int 0, .int 0]))) hb0 hq (by omega)
  have hb1 := hup_tag (x := (tq, .inr (0, [.null, .int 0, .int 0, .int 0]))) hb1 hq (by omega)
  have hfr := hfr.put (x := (tq, .inr (0, [.null, .int 0, .int 0, .int 0]))) hq rfl
  have hq : hup M q0 (tq, .inr (0, [.null, .int 0, .int 0, .int 0])) q0 = some (tq, .inr (0, [.null, .int 0, .int 0, .int 0])) := hup_eq
  generalize hup M q0 (tq, .inr (0, [.null, .int 0, .int 0, .int 0])) = Mz1 at Y hq hb0 hb1 hfr
  refine lv_aload_n hx hb dJ0_init_db425_27 rfl (lv_at hl 2 rfl) ?_
  refine lv_aload_n hx hb dJ0_init_db425_28 rfl (lv_at hl 1 rfl) ?_
  refine lv_iconst (v := 0) hx hb dJ0_init_db425_29 (by decide) ?_
  refine lv_iload hx hb dJ0_init_db425_30 (lv_at hl 0 rfl) ?_
  refine h_callS (rest := [.ref q0]) X Y (c_copyR l G Mz1 va (t + 1) cap n (tq + 1) f hb1 hnc hcap hft) gw_J0_54 dsc_J7_copyOfRange_39247.2 rfl hl.1 rfl (Nat.le_of_ble_eq_true rfl) ⟨Nat.le_of_ble_eq_true rfl, Nat.le_of_ble_eq_true rfl⟩ ⟨(by show _ ≤ 1; decide), (by show _ ≤ 1300; decide)⟩ dJ0_init_db425_32 ?_
  rintro _ Mz2 H locs ⟨q, g, rfl, hq9, hgi, hfa⟩ Y
  try dsimp only [Option.toList, List.singleton_append]
  have hq := hfa _ _ _ hq (by omega)
  have hfr : hFr (fun u => u = tq ∨ u = tq + 1) M Mz2 := hFr.tr (hfr.mono (fun u z => Or.inl z)) (hfa.mono (fun u z => Or.inr z))
  refine h_putF X Y (k := 0) (v := .ref q) hq rfl hin_J0 tyJ0_ok nmJ0 (by decide) kfl_J0_9 rfl rfl rfl rfl (Nat.le_of_ble_eq_true rfl) dJ0_init_db425_35 (fun H locs Y => ?_)
  have Y : hHS G (hup Mz2 q0 (tq, .inr (0, [.ref q, .int 0, .int 0, .int 0]))) s H locs := Y
  have hq9 := hup_tag (x := (tq, .inr (0, [.ref q, .int 0, .int 0, .int 0]))) hq9 hq (by omega)
  have hfr := hfr.put (x := (tq, .inr (0, [.ref q, .int 0, .int 0, .int 0]))) hq (Or.inl rfl)
  have hq : hup Mz2 q0 (tq, .inr (0, [.ref q, .int 0, .int 0, .int 0])) q0 = some (tq, .inr (0, [.ref q, .int 0, .int 0, .int 0])) := hup_eq
  generalize hup Mz2 q0 (tq, .inr (0, [.ref q, .int 0, .int 0, .int 0])) = Mz3 at Y hq hq9 hfr
  refine lv_goto (tgt := 97) hx hb dJ0_init_db425_38 (by decide) ?_
  exact h_vret X Y ⟨rfl, ⟨q, g, hq, hq9, fun i hi => ⟨(hgi i hi).trans (hT0 i hi).1, (hT0 i hi).2⟩⟩, hfr⟩ (Nat.le_of_ble_eq_true rfl) (Nat.le_of_ble_eq_true rfl) dJ0_init_db425_97
