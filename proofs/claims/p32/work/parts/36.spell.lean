-- STRINGS ARE READ
def hSFt : Term := .static "jdk/internal/util/Preconditions" "SIOOBE_FORMATTER" "Ljava/util/function/BiFunction;"
def hSF (G : hG) : Option Nat := match hev G hSFt with
  | some (.ref a) => some a
  | _ => none
theorem hSF_v {G : hG} (hs : hSt G) : hev G hSFt = some (va_rf (hSF G)) := by
  obtain ⟨v, hv, hr⟩ := Cond.isRef_spec (hN hs (c := Cond.isRef hSFt) 60 (by decide +kernel))
  have hv : hev G hSFt = some v := hv
  unfold hSF
  cases v with
  | ref a => rw [hv]; rfl
  | null => rw [hv]; rfl
  | _ => cases hr
theorem hSF_Z {G : hG} {s : State} (hs : hSt G) (hr : hR G s) : va_Z "jdk/internal/util/Preconditions" "SIOOBE_FORMATTER" "Ljava/util/function/BiFunction;" (va_rf (hSF G)) (hA G) s s.heap := hZ_at hr (va_Zof (hW0 hs 785 (by decide +kernel)) (hW0 hs 76 (by decide +kernel)) (hSF_v hs) hlow)
theorem hCS_Z {G : hG} {s : State} (hs : hSt G) (hr : hR G s) : va_Z "java/lang/String" "COMPACT_STRINGS" "Z" (.int 1) (hA G) s s.heap := hZ_at hr (va_Zof (hW0 hs 769 (by decide +kernel)) (hW0 hs 70 (by decide +kernel)) (va_eqv (hN hs (c := Cond.eq (.static "java/lang/String" "COMPACT_STRINGS" "Z") (.int 1)) 59 (by decide +kernel)) rfl) hlow)
theorem t_char : ∀ b, b < 128 → ((nI b).toUInt32 % 65536).toInt32 = nI b := by decide +kernel
theorem t_nch : ∀ b, b < 128 → narrow .char (.int (nI b)) = .int (nI b) := fun b hb => by
  have h : ∀ b, b < 128 → vp_nar .char (nI b) = nI b := by decide +kernel
  have := h b hb
  rw [vp_nar_char] at this
  exact congrArg Value.int this
section STRROWS
variable {G : hG} {p : Program} {l : Launch} {e : Env} {R : Room} {s : State} {m : MethodId} {args : Array Value} {below : List Frame} {meth : Method} {c : Code} {H : Heap} {locs : List Loc} {cells slots : Nat} {Q : State → Prop}
variable {cc : ByteArray} {maxL : Nat} {ret : Option FieldType} {own nm : String} {M : hM} {pc : Nat} {ls : Array Slot} {rest : List Value} {a t ci index n : Nat} {cA : ClassId}
theorem h_baT (X : hCX G p s m args meth c cc maxL ret own nm) (Y : hHS G M s H locs) {q N i : Nat} {f : Nat → Value} (hT : va_T .byte q N f (hA G) s s.heap) (hi : i < N) (hn : N < 2 ^ 31) (hdg : decode cc pc = .ok (.baload, 1))
    (kk : W p l e R s m args below meth c H locs cells slots Q (F0 m (pc + 1) ls (f i :: rest))) : W p l e R s m args below meth c H locs cells slots Q (F0 m pc ls (.int (nI i) :: .ref q :: rest)) :=
  va_tb X.1 X.2.1 hT Y.2 (vp_in_nI hi hn) (by rw [nI_clamp (Nat.lt_trans hi hn)]) hdg kk
theorem h_callOr {y : MethodName} {cc' : ByteArray} {maxL' k : Nat} {ret' : Option FieldType} {rm : Room} {v0 : Value} {C : String} {As st0 : List Value} (X : hCX G p s m args meth c cc maxL ret own nm) (Y : hHS G M s H locs) (hCt : hCT l G y cc' maxL' ret' rm M (.ref a :: As) (hRd M v0)) (hrc : rm.cells = 0) (hrs : rm.slots = 0) (hg : GoodIn hGW (wsV own index C y (Cond.code y cc' maxL' ret' :: hGW)))
    (hd : y.cls = C ∧ y.cls ≠ "java/lang/invoke/MethodHandle" ∧ y.cls ≠ "java/lang/invoke/VarHandle" ∧ (parseMethodDescriptor y.desc).map (fun d => d.parameters.length) = some k) (hO : va_O C a (hA G) (hU G) (hU G).heap) (hk : As.length = k) (hst : st0 = As.reverse ++ .ref a :: rest) (hls : ls.size = maxL) (hw : (rest.map fun v => v.category).sum ≤ 8)
    (hR : rm.frames + 1 ≤ R.frames ∧ 8 + (maxL' + 11) + rm.locals ≤ R.locals) (hf : cells ≤ R.cells ∧ slots ≤ R.slots) (hdg : decode cc pc = .ok (.invokevirtual index, 3))
    (kk : ∀ (H1 : Heap) (locs1 : List Loc), hHS G M s H1 locs1 → W p l e R s m args below meth c H1 locs1 cells slots Q (F0 m (pc + 3) ls (v0 :: rest))) : W p l e R s m args below meth c H locs cells slots Q (F0 m pc ls st0) := by
  refine h_after Y (va_runV (As := As) (rest := rest) (b := a) (n := k) (C := C) ⟨X.1, X.2.1, X.2.2.2.1, X.2.2.2.2.1, X.2.2.2.2.2.1⟩ hCt (cwV k X.2.2.2.2.2.1 hg rfl rfl rfl hd hR) ⟨hPc.blind, h_recvO Y (hO_at X.2.2.2.2.2.2.2.2.2.1 hO), h_pre X Y⟩ rfl hk hls hst (lv_room hw) hdg (by rw [hrc, hrs]; exact hf)) ?_
  rintro _ M1 H1 locs1 ⟨rfl, rfl⟩ Y1
  rw [hrc, hrs]
  exact kk H1 locs1 Y1
end STRROWS
set_option maxHeartbeats 400000 in
set_option maxRecDepth 100000 in
theorem c_checkIndex3r (l : Launch) (G : hG) (M : hM) (i n z0 : Nat) (hi : i < n) (hn : n < 2147483648) : hCT l G yJ3_checkIndex_8e157 cJ3_checkIndex_8e157 3 (Option.some FieldType.int) (hRm 1 0 0) M [.int (nI i), .int (nI n), .ref z0] (hRd M (.int (nI i))) := by
  refine hCT.of (own := RJ3) (nm := "checkIndex") (by decide) rfl rfl (Nat.le_of_ble_eq_true rfl) ?_
  intro p e s m args below meth c ls X Y hl
  have hx := X.1
  have hb := X.2.1
  have hl : lv_has ls 3 [(0, .int (nI i)), (1, .int (nI n)), (2, .ref z0)] := hl
  refine lv_iload_n hx hb dJ3_checkIndex_8e157_0 rfl (lv_at hl 0 rfl) ?_
  refine lv_if_lt (tgt := 9) hx hb dJ3_checkIndex_8e157_1 (by decide) (fun c1 => absurd (show i < 0 from (nI_ltI (a := i) (b := 0) (by omega) (by omega)).mp c1) (by omega)) (fun c1 => ?_)
  have c1 : ¬ i < 0 := fun z9 => c1 ((nI_ltI (a := i) (b := 0) (by omega) (by omega)).mpr z9)
  refine lv_iload_n hx hb dJ3_checkIndex_8e157_4 rfl (lv_at hl 0 rfl) ?_
  refine lv_iload_n hx hb dJ3_checkIndex_8e157_5 rfl (lv_at hl 1 rfl) ?_
  refine lv_icmp_lt (tgt := 16) hx hb dJ3_checkIndex_8e157_6 (by decide) (fun c6 => ?_) (fun c6 => absurd (show ¬ i < n from fun z9 => c6 ((nI_ltI (a := i) (b := n) (by omega) (by omega)).mpr z9)) (by omega))
  have c6 : i < n := (nI_ltI (a := i) (b := n) (by omega) (by omega)).mp c6
  refine lv_iload_n hx hb dJ3_checkIndex_8e157_16 rfl (lv_at hl 0 rfl) ?_
  exact h_iret X Y ⟨rfl, rfl⟩ (Nat.le_refl _) (Nat.le_refl _) dJ3_checkIndex_8e157_17
theorem c_checkIndex3o (l : Launch) (G : hG) (M : hM) (i n : Nat) (z0 : Option Nat) (hi : i < n) (hn : n < 2147483648) : hCT l G yJ3_checkIndex_8e157 cJ3_checkIndex_8e157 3 (Option.some FieldType.int) (hRm 1 0 0) M [.int (nI i), .int (nI n), va_rf z0] (hRd M (.int (nI i))) := match z0 with
  | none => c_checkIndex3 l G M i n hi hn
  | some a => c_checkIndex3r l G M i n a hi hn
theorem gw_J0_1059 : GoodIn hGW (va_wsS RJ0 1059 yJ3_checkIndex_8e157 (Cond.code yJ3_checkIndex_8e157 cJ3_checkIndex_8e157 3 (Option.some FieldType.int) :: hGW)) := hgi3 kml_J0_1059 kst_J3_checkIndex_8e157 kini_J3 kco_J3_checkIndex_8e157
theorem dJ0_checkIndex_df160_0 : decode cJ0_checkIndex_df160 0 = .ok (.iload_n 0, 1) := by decide +kernel
theorem dJ0_checkIndex_df160_1 : decode cJ0_checkIndex_df160 1 = .ok (.iload_n 1, 1) := by decide +kernel
theorem dJ0_checkIndex_df160_2 : decode cJ0_checkIndex_df160 2 = .ok (.getstatic 1053, 3) := by decide +kernel
theorem dJ0_checkIndex_df160_5 : decode cJ0_checkIndex_df160 5 = .ok (.invokestatic 1059, 3) := by decide +kernel
theorem dJ0_checkIndex_df160_8 : decode cJ0_checkIndex_df160 8 = .ok (.pop, 1) := by decide +kernel
theorem dJ0_checkIndex_df160_9 : decode cJ0_checkIndex_df160 9 = .ok (.return_, 1) := by decide +kernel
set_option maxHeartbeats 400000 in
set_option maxRecDepth 100000 in
theorem c_strIndex (l : Launch) (G : hG) (M : hM) (i n : Nat) (hi : i < n) (hn : n < 2147483648) : hCT l G yJ0_checkIndex_df160 cJ0_checkIndex_df160 2 (Option.none) (hRm 2 0 0) M [.int (nI i), .int (nI n)] (fun v M' => v = none ∧ M' = M) := by
  refine hCT.of (own := RJ0) (nm := "checkIndex") (by decide) rfl rfl (Nat.le_of_ble_eq_true rfl) ?_
  intro p e s m args below meth c ls X Y hl
  have hx := X.1
  have hb := X.2.1
  have hl : lv_has ls 2 [(0, .int (nI i)), (1, .int (nI n))] := hl
  refine lv_iload_n hx hb dJ0_checkIndex_df160_0 rfl (lv_at hl 0 rfl) ?_
  refine lv_iload_n hx hb dJ0_checkIndex_df160_1 rfl (lv_at hl 1 rfl) ?_
  refine h_gets X Y (hSF_Z X.2.2.2.2.2.2.2.2.1 X.2.2.2.2.2.2.2.2.2.1) kfl_J0_1053 dJ0_checkIndex_df160_2 ?_
  refine h_callSr (rest := []) X Y (c_checkIndex3o l G M i n (hSF G) hi hn) rfl rfl gw_J0_1059 dsc_J3_checkIndex_8e157.2 rfl rfl hl.1 (Nat.le_of_ble_eq_true rfl) ⟨Nat.le_of_ble_eq_true rfl, Nat.le_of_ble_eq_true rfl⟩ ⟨Nat.le_of_ble_eq_true rfl, Nat.le_of_ble_eq_true rfl⟩ dJ0_checkIndex_df160_5 (fun H locs Y => ?_)
  refine lv_pop hx hb dJ0_checkIndex_df160_8 rfl ?_
  exact h_vret X Y ⟨rfl, rfl⟩ (Nat.le_refl _) (Nat.le_refl _) dJ0_checkIndex_df160_9
theorem dJ0_coder_7d493_0 : decode cJ0_coder_7d493 0 = .ok (.getstatic 38, 3) := by decide +kernel
theorem dJ0_coder_7d493_3 : decode cJ0_coder_7d493 3 = .ok (.ifCond .eq 10, 3) := by decide +kernel
theorem dJ0_coder_7d493_6 : decode cJ0_coder_7d493 6 = .ok (.aload_n 0, 1) := by decide +kernel
theorem dJ0_coder_7d493_7 : decode cJ0_coder_7d493 7 = .ok (.getfield 15, 3) := by decide +kernel
theorem dJ0_coder_7d493_10 : decode cJ0_coder_7d493 10 = .ok (.goto 4, 3) := by decide +kernel
theorem dJ0_coder_7d493_14 : decode cJ0_coder_7d493 14 = .ok (.ireturn, 1) := by decide +kernel
set_option maxHeartbeats 400000 in
set_option maxRecDepth 100000 in
theorem c_coder (l : Launch) (G : hG) (M : hM) (q0 L0 : Nat) (W0 : Nat → Nat) (hq : sS G q0 L0 W0) : hCT l G yJ0_coder_7d493 cJ0_coder_7d493 1 (Option.some FieldType.byte) (hRm 1 0 0) M [.ref q0] (hRd M (.int 0)) := by
  refine hCT.of (own := RJ0) (nm := "coder") (by decide) rfl rfl (Nat.le_of_ble_eq_true rfl) ?_
  intro p e s m args below meth c ls X Y hl
  have hx := X.1
  have hb := X.2.1
  have hl : lv_has ls 1 [(0, .ref q0)] := hl
  obtain ⟨va, hva, hvT⟩ := hq.2.2.1
  refine h_gets X Y (hCS_Z X.2.2.2.2.2.2.2.2.1 X.2.2.2.2.2.2.2.2.2.1) kfl_J0_38 dJ0_coder_7d493_0 ?_
  refine lv_if_eq (tgt := 13) hx hb dJ0_coder_7d493_3 (by decide) (fun c3 => absurd c3 (by decide)) (fun c3 => ?_)
  refine lv_aload_n hx hb dJ0_coder_7d493_6 rfl (lv_at hl 0 rfl) ?_
  refine h_getC X Y (hOF_at X.2.2.2.2.2.2.2.2.2.1 hq.2.1) kfl_J0_15 dJ0_coder_7d493_7 ?_
  refine lv_goto (tgt := 14) hx hb dJ0_coder_7d493_10 (by decide) ?_
  exact h_zret X Y rfl ⟨rfl, rfl⟩ (Nat.le_refl _) (Nat.le_refl _) dJ0_coder_7d493_14
theorem dJ0_isLatin1_aae02_0 : decode cJ0_isLatin1_aae02 0 = .ok (.getstatic 38, 3) := by decide +kernel
theorem dJ0_isLatin1_aae02_3 : decode cJ0_isLatin1_aae02 3 = .ok (.ifCond .eq 14, 3) := by decide +kernel
theorem dJ0_isLatin1_aae02_6 : decode cJ0_isLatin1_aae02 6 = .ok (.aload_n 0, 1) := by decide +kernel
theorem dJ0_isLatin1_aae02_7 : decode cJ0_isLatin1_aae02 7 = .ok (.getfield 15, 3) := by decide +kernel
theorem dJ0_isLatin1_aae02_10 : decode cJ0_isLatin1_aae02 10 = .ok (.ifCond .ne 7, 3) := by decide +kernel
theorem dJ0_isLatin1_aae02_13 : decode cJ0_isLatin1_aae02 13 = .ok (.iconst 1, 1) := by decide +kernel
theorem dJ0_isLatin1_aae02_14 : decode cJ0_isLatin1_aae02 14 = .ok (.goto 4, 3) := by decide +kernel
theorem dJ0_isLatin1_aae02_18 : decode cJ0_isLatin1_aae02 18 = .ok (.ireturn, 1) := by decide +kernel
set_option maxHeartbeats 400000 in
set_option maxRecDepth 100000 in
theorem c_isLatin1 (l : Launch) (G : hG) (M : hM) (q0 L0 : Nat) (W0 : Nat → Nat) (hq : sS G q0 L0 W0) : hCT l G yJ0_isLatin1_aae02 cJ0_isLatin1_aae02 1 (Option.some FieldType.boolean) (hRm 1 0 0) M [.ref q0] (hRd M (.int 1)) := by
  refine hCT.of (own := RJ0) (nm := "isLatin1") (by decide) rfl rfl (Nat.le_of_ble_eq_true rfl) ?_
  intro p e s m args below meth c ls X Y hl
  have hx := X.1
  have hb := X.2.1
  have hl : lv_has ls 1 [(0, .ref q0)] := hl
  obtain ⟨va, hva, hvT⟩ := hq.2.2.1
  refine h_gets X Y (hCS_Z X.2.2.2.2.2.2.2.2.1 X.2.2.2.2.2.2.2.2.2.1) kfl_J0_38 dJ0_isLatin1_aae02_0 ?_
  refine lv_if_eq (tgt := 17) hx hb dJ0_isLatin1_aae02_3 (by decide) (fun c3 => absurd c3 (by decide)) (fun c3 => ?_)
  refine lv_aload_n hx hb dJ0_isLatin1_aae02_6 rfl (lv_at hl 0 rfl) ?_
  refine h_getC X Y (hOF_at X.2.2.2.2.2.2.2.2.2.1 hq.2.1) kfl_J0_15 dJ0_isLatin1_aae02_7 ?_
  refine lv_if_ne (tgt := 17) hx hb dJ0_isLatin1_aae02_10 (by decide) (fun c10 => absurd (by decide) c10) (fun c10 => ?_)
  refine lv_iconst (v := 1) hx hb dJ0_isLatin1_aae02_13 (by decide) ?_
  refine lv_goto (tgt := 18) hx hb dJ0_isLatin1_aae02_14 (by decide) ?_
  exact h_zret X Y rfl ⟨rfl, rfl⟩ (Nat.le_refl _) (Nat.le_refl _) dJ0_isLatin1_aae02_18
theorem gw_J0_335 : GoodIn hGW (wsV RJ0 335 RJ0 yJ0_coder_7d493 (Cond.code yJ0_coder_7d493 cJ0_coder_7d493 1 (Option.some FieldType.byte) :: hGW)) := hgi4 kml_J0_335 kin_J0_coder_7d493 kse_J0_J0_coder_7d493_J0_coder_7d493 kini_J0 kco_J0_coder_7d493
theorem dsc_J0_coder_7d493 : yJ0_coder_7d493.cls = RJ0 ∧ yJ0_coder_7d493.cls ≠ "java/lang/invoke/MethodHandle" ∧ yJ0_coder_7d493.cls ≠ "java/lang/invoke/VarHandle" ∧ (parseMethodDescriptor yJ0_coder_7d493.desc).map (fun d => d.parameters.length) = some 0 := ⟨rfl, by decide +kernel, by decide +kernel, by decide +kernel⟩
theorem dJ0_length_8abf5_0 : decode cJ0_length_8abf5 0 = .ok (.aload_n 0, 1) := by decide +kernel
theorem dJ0_length_8abf5_1 : decode cJ0_length_8abf5 1 = .ok (.getfield 9, 3) := by decide +kernel
theorem dJ0_length_8abf5_4 : decode cJ0_length_8abf5 4 = .ok (.arraylength, 1) := by decide +kernel
theorem dJ0_length_8abf5_5 : decode cJ0_length_8abf5 5 = .ok (.aload_n 0, 1) := by decide +kernel
theorem dJ0_length_8abf5_6 : decode cJ0_length_8abf5 6 = .ok (.invokevirtual 335, 3) := by decide +kernel
theorem dJ0_length_8abf5_9 : decode cJ0_length_8abf5 9 = .ok (.ishr, 1) := by decide +kernel
theorem dJ0_length_8abf5_10 : decode cJ0_length_8abf5 10 = .ok (.ireturn, 1) := by decide +kernel
set_option maxHeartbeats 400000 in
set_option maxRecDepth 100000 in
theorem c_strLen (l : Launch) (G : hG) (M : hM) (q0 L0 : Nat) (W0 : Nat → Nat) (hq : sS G q0 L0 W0) (hL : L0 < 1000) : hCT l G yJ0_length_8abf5 cJ0_length_8abf5 1 (Option.some FieldType.int) (hRm 2 0 0) M [.ref q0] (hRd M (.int (nI L0))) := by
  refine hCT.of (own := RJ0) (nm := "length") (by decide) rfl rfl (Nat.le_of_ble_eq_true rfl) ?_
  intro p e s m args below meth c ls X Y hl
  have hx := X.1
  have hb := X.2.1
  have hl : lv_has ls 1 [(0, .ref q0)] := hl
  obtain ⟨va, hva, hvT⟩ := hq.2.2.1
  refine lv_aload_n hx hb dJ0_length_8abf5_0 rfl (lv_at hl 0 rfl) ?_
  refine h_getC X Y (hOF_at X.2.2.2.2.2.2.2.2.2.1 hva) kfl_J0_9 dJ0_length_8abf5_1 ?_
  refine h_lenT X Y (hT_at X.2.2.2.2.2.2.2.2.2.1 hvT) dJ0_length_8abf5_4 ?_
  refine lv_aload_n hx hb dJ0_length_8abf5_5 rfl (lv_at hl 0 rfl) ?_
  refine h_callOr (rest := [.int (nI L0)]) X Y (c_coder l G M q0 L0 W0 hq) rfl rfl gw_J0_335 dsc_J0_coder_7d493 hq.1 rfl rfl hl.1 (Nat.le_of_ble_eq_true rfl) ⟨Nat.le_of_ble_eq_true rfl, Nat.le_of_ble_eq_true rfl⟩ ⟨Nat.le_of_ble_eq_true rfl, Nat.le_of_ble_eq_true rfl⟩ dJ0_length_8abf5_6 (fun H locs Y => ?_)
  refine lv_ishr hx hb dJ0_length_8abf5_9 ?_
  refine h_ev (y := nI L0) ((tp_sh (s := 0) (by omega) (by decide)).trans (congrArg nI (Nat.div_one L0))) ?_
  exact h_iret X Y ⟨rfl, rfl⟩ (Nat.le_refl _) (Nat.le_refl _) dJ0_length_8abf5_10
theorem gw_J1_9 : GoodIn hGW (va_wsS RJ1 9 yJ0_checkIndex_df160 (Cond.code yJ0_checkIndex_df160 cJ0_checkIndex_df160 2 (Option.none) :: hGW)) := hgi3 kml_J1_9 kst_J0_checkIndex_df160 kini_J0 kco_J0_checkIndex_df160
theorem dsc_J0_checkIndex_df160 : yJ0_checkIndex_df160.cls = RJ0 ∧ yJ0_checkIndex_df160.cls ≠ "java/lang/invoke/MethodHandle" ∧ yJ0_checkIndex_df160.cls ≠ "java/lang/invoke/VarHandle" ∧ (parseMethodDescriptor yJ0_checkIndex_df160.desc).map (fun d => d.parameters.length) = some 2 := ⟨rfl, by decide +kernel, by decide +kernel, by decide +kernel⟩
theorem dJ1_charAt_3b067_0 : decode cJ1_charAt_3b067 0 = .ok (.iload_n 1, 1) := by decide +kernel
theorem dJ1_charAt_3b067_1 : decode cJ1_charAt_3b067 1 = .ok (.aload_n 0, 1) := by decide +kernel
theorem dJ1_charAt_3b067_2 : decode cJ1_charAt_3b067 2 = .ok (.arraylength, 1) := by decide +kernel
theorem dJ1_charAt_3b067_3 : decode cJ1_charAt_3b067 3 = .ok (.invokestatic 9, 3) := by decide +kernel
theorem dJ1_charAt_3b067_6 : decode cJ1_charAt_3b067 6 = .ok (.aload_n 0, 1) := by decide +kernel
theorem dJ1_charAt_3b067_7 : decode cJ1_charAt_3b067 7 = .ok (.iload_n 1, 1) := by decide +kernel
theorem dJ1_charAt_3b067_8 : decode cJ1_charAt_3b067 8 = .ok (.baload, 1) := by decide +kernel
theorem dJ1_charAt_3b067_9 : decode cJ1_charAt_3b067 9 = .ok (.sipush 255, 3) := by decide +kernel
theorem dJ1_charAt_3b067_12 : decode cJ1_charAt_3b067 12 = .ok (.iand, 1) := by decide +kernel
theorem dJ1_charAt_3b067_13 : decode cJ1_charAt_3b067 13 = .ok (.i2c, 1) := by decide +kernel
theorem dJ1_charAt_3b067_14 : decode cJ1_charAt_3b067 14 = .ok (.ireturn, 1) := by decide +kernel
set_option maxHeartbeats 400000 in
set_option maxRecDepth 100000 in
theorem c_l1At (l : Launch) (G : hG) (M : hM) (va L0 i : Nat) (W0 : Nat → Nat) (hvT : va_T .byte va L0 (fun i => .int (nI (W0 i))) (hA G) (hU G) (hU G).heap) (hi : i < L0) (hL : L0 < 1000) (hW : W0 i < 128) : hCT l G yJ1_charAt_3b067 cJ1_charAt_3b067 2 (Option.some FieldType.char) (hRm 3 0 0) M [.ref va, .int (nI i)] (hRd M (.int (nI (W0 i)))) := by
  refine hCT.of (own := RJ1) (nm := "charAt") (by decide) rfl rfl (Nat.le_of_ble_eq_true rfl) ?_
  intro p e s m args below meth c ls X Y hl
  have hx := X.1
  have hb := X.2.1
  have hl : lv_has ls 2 [(0, .ref va), (1, .int (nI i))] := hl
  refine lv_iload_n hx hb dJ1_charAt_3b067_0 rfl (lv_at hl 1 rfl) ?_
  refine lv_aload_n hx hb dJ1_charAt_3b067_1 rfl (lv_at hl 0 rfl) ?_
  refine h_lenT X Y (hT_at X.2.2.2.2.2.2.2.2.2.1 hvT) dJ1_charAt_3b067_2 ?_
  refine h_callS (rest := []) X Y (c_strIndex l G M i L0 hi (by omega)) gw_J1_9 dsc_J0_checkIndex_df160.2 rfl hl.1 rfl (Nat.le_of_ble_eq_true rfl) ⟨Nat.le_of_ble_eq_true rfl, Nat.le_of_ble_eq_true rfl⟩ ⟨Nat.le_of_ble_eq_true rfl, Nat.le_of_ble_eq_true rfl⟩ dJ1_charAt_3b067_3 ?_
  rintro _ M9 H locs ⟨rfl, hM9⟩ Y
  rw [hM9] at Y
  try dsimp only [Option.toList, List.nil_append]
  refine lv_aload_n hx hb dJ1_charAt_3b067_6 rfl (lv_at hl 0 rfl) ?_
  refine lv_iload_n hx hb dJ1_charAt_3b067_7 rfl (lv_at hl 1 rfl) ?_
  refine h_baT X Y (i := i) (hT_at X.2.2.2.2.2.2.2.2.2.1 hvT) hi (by omega) dJ1_charAt_3b067_8 ?_
  refine lv_sipush (v := 255) hx hb dJ1_charAt_3b067_9 (by decide) ?_
  refine lv_iand hx hb dJ1_charAt_3b067_12 ?_
  refine h_ev (y := nI (W0 i)) (t_and _ hW) ?_
  refine lv_i2c (v := ((nI (W0 i)).toUInt32 % 65536).toInt32) hx hb dJ1_charAt_3b067_13 rfl ?_
  refine h_ev (y := nI (W0 i)) (t_char _ hW) ?_
  exact h_zret X Y (t_nch _ hW) ⟨rfl, rfl⟩ (Nat.le_refl _) (Nat.le_refl _) dJ1_charAt_3b067_14
theorem gw_J0_492 : GoodIn hGW (wsV RJ0 492 RJ0 yJ0_isLatin1_aae02 (Cond.code yJ0_isLatin1_aae02 cJ0_isLatin1_aae02 1 (Option.some FieldType.boolean) :: hGW)) := hgi4 kml_J0_492 kin_J0_isLatin1_aae02 kse_J0_J0_isLatin1_aae02_J0_isLatin1_aae02 kini_J0 kco_J0_isLatin1_aae02
theorem dsc_J0_isLatin1_aae02 : yJ0_isLatin1_aae02.cls = RJ0 ∧ yJ0_isLatin1_aae02.cls ≠ "java/lang/invoke/MethodHandle" ∧ yJ0_isLatin1_aae02.cls ≠ "java/lang/invoke/VarHandle" ∧ (parseMethodDescriptor yJ0_isLatin1_aae02.desc).map (fun d => d.parameters.length) = some 0 := ⟨rfl, by decide +kernel, by decide +kernel, by decide +kernel⟩
theorem gw_J0_495 : GoodIn hGW (va_wsS RJ0 495 yJ1_charAt_3b067 (Cond.code yJ1_charAt_3b067 cJ1_charAt_3b067 2 (Option.some FieldType.char) :: hGW)) := hgi3 kml_J0_495 kst_J1_charAt_3b067 kini_J1 kco_J1_charAt_3b067
theorem dsc_J1_charAt_3b067 : yJ1_charAt_3b067.cls = RJ1 ∧ yJ1_charAt_3b067.cls ≠ "java/lang/invoke/MethodHandle" ∧ yJ1_charAt_3b067.cls ≠ "java/lang/invoke/VarHandle" ∧ (parseMethodDescriptor yJ1_charAt_3b067.desc).map (fun d => d.parameters.length) = some 2 := ⟨rfl, by decide +kernel, by decide +kernel, by decide +kernel⟩
theorem dJ0_charAt_5068e_0 : decode cJ0_charAt_5068e 0 = .ok (.aload_n 0, 1) := by decide +kernel
theorem dJ0_charAt_5068e_1 : decode cJ0_charAt_5068e 1 = .ok (.invokevirtual 492, 3) := by decide +kernel
theorem dJ0_charAt_5068e_4 : decode cJ0_charAt_5068e 4 = .ok (.ifCond .eq 12, 3) := by decide +kernel
theorem dJ0_charAt_5068e_7 : decode cJ0_charAt_5068e 7 = .ok (.aload_n 0, 1) := by decide +kernel
theorem dJ0_charAt_5068e_8 : decode cJ0_charAt_5068e 8 = .ok (.getfield 9, 3) := by decide +kernel
theorem dJ0_charAt_5068e_11 : decode cJ0_charAt_5068e 11 = .ok (.iload_n 1, 1) := by decide +kernel
theorem dJ0_charAt_5068e_12 : decode cJ0_charAt_5068e 12 = .ok (.invokestatic 495, 3) := by decide +kernel
theorem dJ0_charAt_5068e_15 : decode cJ0_charAt_5068e 15 = .ok (.ireturn, 1) := by decide +kernel
set_option maxHeartbeats 400000 in
set_option maxRecDepth 100000 in
theorem c_strAt (l : Launch) (G : hG) (M : hM) (q0 L0 : Nat) (W0 : Nat → Nat) (hq : sS G q0 L0 W0) (i : Nat) (hi : i < L0) (hL : L0 < 1000) : hCT l G yJ0_charAt_5068e cJ0_charAt_5068e 2 (Option.some FieldType.char) (hRm 4 0 0) M [.ref q0, .int (nI i)] (hRd M (.int (nI (W0 i)))) := by
  refine hCT.of (own := RJ0) (nm := "charAt") (by decide) rfl rfl (Nat.le_of_ble_eq_true rfl) ?_
  intro p e s m args below meth c ls X Y hl
  have hx := X.1
  have hb := X.2.1
  have hl : lv_has ls 2 [(0, .ref q0), (1, .int (nI i))] := hl
  obtain ⟨va, hva, hvT⟩ := hq.2.2.1
  refine lv_aload_n hx hb dJ0_charAt_5068e_0 rfl (lv_at hl 0 rfl) ?_
  refine h_callOr (rest := []) X Y (c_isLatin1 l G M q0 L0 W0 hq) rfl rfl gw_J0_492 dsc_J0_isLatin1_aae02 hq.1 rfl rfl hl.1 (Nat.le_of_ble_eq_true rfl) ⟨Nat.le_of_ble_eq_true rfl, Nat.le_of_ble_eq_true rfl⟩ ⟨Nat.le_of_ble_eq_true rfl, Nat.le_of_ble_eq_true rfl⟩ dJ0_charAt_5068e_1 (fun H locs Y => ?_)
  refine lv_if_eq (tgt := 16) hx hb dJ0_charAt_5068e_4 (by decide) (fun c4 => absurd c4 (by decide)) (fun c4 => ?_)
  refine lv_aload_n hx hb dJ0_charAt_5068e_7 rfl (lv_at hl 0 rfl) ?_
  refine h_getC X Y (hOF_at X.2.2.2.2.2.2.2.2.2.1 hva) kfl_J0_9 dJ0_charAt_5068e_8 ?_
  refine lv_iload_n hx hb dJ0_charAt_5068e_11 rfl (lv_at hl 1 rfl) ?_
  refine h_callSr (rest := []) X Y (c_l1At l G M va L0 i W0 hvT hi hL (hq.2.2.2 i hi)) rfl rfl gw_J0_495 dsc_J1_charAt_3b067.2 rfl rfl hl.1 (Nat.le_of_ble_eq_true rfl) ⟨Nat.le_of_ble_eq_true rfl, Nat.le_of_ble_eq_true rfl⟩ ⟨Nat.le_of_ble_eq_true rfl, Nat.le_of_ble_eq_true rfl⟩ dJ0_charAt_5068e_12 (fun H locs Y => ?_)
  exact h_zret X Y (t_nch _ (hq.2.2.2 i hi)) ⟨rfl, rfl⟩ (Nat.le_refl _) (Nat.le_refl _) dJ0_charAt_5068e_15
