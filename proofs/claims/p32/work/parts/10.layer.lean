theorem dX5_shareOf_0 : decode cX5_shareOf 0 = .ok (.iload_n 1, 1) := by decide +kernel
theorem dX5_shareOf_1 : decode cX5_shareOf 1 = .ok (.i2l, 1) := by decide +kernel
theorem dX5_shareOf_2 : decode cX5_shareOf 2 = .ok (.aload_n 0, 1) := by decide +kernel
theorem dX5_shareOf_3 : decode cX5_shareOf 3 = .ok (.getfield 21, 3) := by decide +kernel
theorem dX5_shareOf_6 : decode cX5_shareOf 6 = .ok (.i2l, 1) := by decide +kernel
theorem dX5_shareOf_7 : decode cX5_shareOf 7 = .ok (.lmul, 1) := by decide +kernel
theorem dX5_shareOf_8 : decode cX5_shareOf 8 = .ok (.ldc2_w 95, 3) := by decide +kernel
theorem dX5_shareOf_11 : decode cX5_shareOf 11 = .ok (.ldiv, 1) := by decide +kernel
theorem dX5_shareOf_12 : decode cX5_shareOf 12 = .ok (.l2i, 1) := by decide +kernel
theorem dX5_shareOf_13 : decode cX5_shareOf 13 = .ok (.ireturn, 1) := by decide +kernel
set_option maxHeartbeats 400000 in
set_option maxRecDepth 100000 in
/-- a share of what is borne -/
theorem c_shareOf (l : Launch) (G : hG) (M : hM) (a t : Nat) (L : hLy) (hL : LyV G M a t L) (b : Int32) : hCT l G yX5_shareOf cX5_shareOf 2 (Option.some FieldType.int) (hRm 1 0 0) M [.ref a, .int b] (hRd M (.int (lyShare L b))) := by
  refine hCT.of (own := RX5) (nm := "shareOf") (by decide) rfl rfl (Nat.le_of_ble_eq_true rfl) ?_
  intro p e s m args below meth c ls X Y hl
  have hx := X.1
  have hb := X.2.1
  have hl : lv_has ls 2 [(0, .ref a), (1, .int b)] := hl
  refine lv_iload_n hx hb dX5_shareOf_0 rfl (lv_at hl 1 rfl) ?_
  refine lv_i2l (v := b.toInt64) hx hb dX5_shareOf_1 rfl ?_
  refine lv_aload_n hx hb dX5_shareOf_2 rfl (lv_at hl 0 rfl) ?_
  refine h_get X Y (k := 5) (v := .int (lyI L 0)) hL.1 rfl hin_X5 (by decide) kfl_X5_21 rfl dX5_shareOf_3 ?_
  refine lv_i2l (v := (lyI L 0).toInt64) hx hb dX5_shareOf_6 rfl ?_
  refine lv_lmul hx hb dX5_shareOf_7 ?_
  refine lv_ldc2 hx hb X.2.2.2.2.1 (X.2.2.2.2.2.1 _ kcJ_X5_95) dX5_shareOf_8 ?_
  refine lv_ldiv hx hb dX5_shareOf_11 (by decide) ?_
  refine lv_l2i (v := ((b.toInt64 * ((lyI L 0).toInt64)) / 100).toInt32) hx hb dX5_shareOf_12 rfl ?_
  exact h_iret X Y ⟨rfl, rfl⟩ (Nat.le_refl _) (Nat.le_refl _) dX5_shareOf_13
theorem dX5_borneOf_0 : decode cX5_borneOf 0 = .ok (.iload_n 2, 1) := by decide +kernel
theorem dX5_borneOf_1 : decode cX5_borneOf 1 = .ok (.aload_n 0, 1) := by decide +kernel
theorem dX5_borneOf_2 : decode cX5_borneOf 2 = .ok (.getfield 44, 3) := by decide +kernel
theorem dX5_borneOf_5 : decode cX5_borneOf 5 = .ok (.iload_n 1, 1) := by decide +kernel
theorem dX5_borneOf_6 : decode cX5_borneOf 6 = .ok (.iaload, 1) := by decide +kernel
theorem dX5_borneOf_7 : decode cX5_borneOf 7 = .ok (.isub, 1) := by decide +kernel
theorem dX5_borneOf_8 : decode cX5_borneOf 8 = .ok (.iconst 0, 1) := by decide +kernel
theorem dX5_borneOf_9 : decode cX5_borneOf 9 = .ok (.invokestatic 89, 3) := by decide +kernel
theorem dX5_borneOf_12 : decode cX5_borneOf 12 = .ok (.istore_n 3, 1) := by decide +kernel
theorem dX5_borneOf_13 : decode cX5_borneOf 13 = .ok (.aload_n 0, 1) := by decide +kernel
theorem dX5_borneOf_14 : decode cX5_borneOf 14 = .ok (.getfield 47, 3) := by decide +kernel
theorem dX5_borneOf_17 : decode cX5_borneOf 17 = .ok (.iload_n 1, 1) := by decide +kernel
theorem dX5_borneOf_18 : decode cX5_borneOf 18 = .ok (.laload, 1) := by decide +kernel
theorem dX5_borneOf_19 : decode cX5_borneOf 19 = .ok (.lstore 4, 2) := by decide +kernel
theorem dX5_borneOf_21 : decode cX5_borneOf 21 = .ok (.lload 4, 2) := by decide +kernel
theorem dX5_borneOf_23 : decode cX5_borneOf 23 = .ok (.ldc2_w 67, 3) := by decide +kernel
theorem dX5_borneOf_26 : decode cX5_borneOf 26 = .ok (.lcmp, 1) := by decide +kernel
theorem dX5_borneOf_27 : decode cX5_borneOf 27 = .ok (.ifCond .ne 7, 3) := by decide +kernel
theorem dX5_borneOf_30 : decode cX5_borneOf 30 = .ok (.iload_n 3, 1) := by decide +kernel
theorem dX5_borneOf_31 : decode cX5_borneOf 31 = .ok (.goto 11, 3) := by decide +kernel
theorem dX5_borneOf_34 : decode cX5_borneOf 34 = .ok (.iload_n 3, 1) := by decide +kernel
theorem dX5_borneOf_35 : decode cX5_borneOf 35 = .ok (.i2l, 1) := by decide +kernel
theorem dX5_borneOf_36 : decode cX5_borneOf 36 = .ok (.lload 4, 2) := by decide +kernel
theorem dX5_borneOf_38 : decode cX5_borneOf 38 = .ok (.invokestatic 69, 3) := by decide +kernel
theorem dX5_borneOf_41 : decode cX5_borneOf 41 = .ok (.l2i, 1) := by decide +kernel
theorem dX5_borneOf_42 : decode cX5_borneOf 42 = .ok (.ireturn, 1) := by decide +kernel
set_option maxHeartbeats 400000 in
set_option maxRecDepth 100000 in
/-- what is borne of losses -/
theorem c_borneOf (l : Launch) (G : hG) (M : hM) (a t : Nat) (L : hLy) (hL : LyV G M a t L) (y : Nat) (hy : y < 10) (x : Int32) : hCT l G yX5_borneOf cX5_borneOf 6 (Option.some FieldType.int) (hRm 1 0 0) M [.ref a, .int (nI y), .int x] (hRd M (.int (lyBorne L y x))) := by
  refine hCT.of (own := RX5) (nm := "borneOf") (by decide) rfl rfl (Nat.le_of_ble_eq_true rfl) ?_
  intro p e s m args below meth c ls X Y hl
  have hx := X.1
  have hb := X.2.1
  have hl : lv_has ls 6 [(0, .ref a), (1, .int (nI y)), (2, .int x)] := hl
  refine lv_iload_n hx hb dX5_borneOf_0 rfl (lv_at hl 2 rfl) ?_
  refine lv_aload_n hx hb dX5_borneOf_1 rfl (lv_at hl 0 rfl) ?_
  refine h_get X Y (k := 12) (v := .ref (lyA L 5)) hL.1 rfl hin_X5 (by decide) kfl_X5_44 rfl dX5_borneOf_2 ?_
  refine lv_iload_n hx hb dX5_borneOf_5 rfl (lv_at hl 1 rfl) ?_
  refine h_iald X Y (i := y) hL.2.2.2.2.1 (by omega) (by decide) dX5_borneOf_6 ?_
  refine lv_isub hx hb dX5_borneOf_7 ?_
  refine lv_iconst (v := 0) hx hb dX5_borneOf_8 (by decide) ?_
  refine h_mmax X kml_X5_89 hl.1 (Nat.le_of_ble_eq_true rfl) (Nat.le_of_ble_eq_true rfl) ⟨Nat.le_of_ble_eq_true rfl, Nat.le_of_ble_eq_true rfl⟩ dX5_borneOf_9 ?_
  refine lv_istore_n (lv' := [(3, .int (sMax (x - ((lyN L 3) y)) 0)), (0, .ref a), (1, .int (nI y)), (2, .int x)]) hx hb dX5_borneOf_12 rfl hl (by decide) rfl (fun ls hl => ?_)
  refine lv_aload_n hx hb dX5_borneOf_13 rfl (lv_at hl 1 rfl) ?_
  refine h_get X Y (k := 13) (v := .ref (lyA L 6)) hL.1 rfl hin_X5 (by decide) kfl_X5_47 rfl dX5_borneOf_14 ?_
  refine lv_iload_n hx hb dX5_borneOf_17 rfl (lv_at hl 2 rfl) ?_
  refine h_lald X Y (i := y) hL.2.2.2.2.2 (by omega) (by decide) dX5_borneOf_18 ?_
  refine lv_lstore (lv' := [(4, .long ((lyB L) y)), (3, .int (sMax (x - ((lyN L 3) y)) 0)), (0, .ref a), (1, .int (nI y)), (2, .int x)]) hx hb dX5_borneOf_19 hl (by decide) rfl (fun ls hl => ?_)
  refine lv_lload hx hb dX5_borneOf_21 (lv_at hl 0 rfl) ?_
  refine lv_ldc2 hx hb X.2.2.2.2.1 (X.2.2.2.2.2.1 _ kcJ_X5_67) dX5_borneOf_23 ?_
  refine W.lcmp hx hb dX5_borneOf_26 ?_
  refine lv_if_ne (tgt := 34) hx hb dX5_borneOf_27 (by decide) (fun c27 => ?_) (fun c27 => ?_)
  · refine lv_iload_n hx hb dX5_borneOf_34 rfl (lv_at hl 1 rfl) ?_
    refine lv_i2l (v := (sMax (x - ((lyN L 3) y)) 0).toInt64) hx hb dX5_borneOf_35 rfl ?_
    refine lv_lload hx hb dX5_borneOf_36 (lv_at hl 0 rfl) ?_
    refine h_mminL X kml_X5_69 hl.1 (Nat.le_of_ble_eq_true rfl) (Nat.le_of_ble_eq_true rfl) ⟨Nat.le_of_ble_eq_true rfl, Nat.le_of_ble_eq_true rfl⟩ dX5_borneOf_38 ?_
    refine lv_l2i (v := (sMinL ((sMax (x - ((lyN L 3) y)) 0).toInt64) ((lyB L) y)).toInt32) hx hb dX5_borneOf_41 rfl ?_
    exact h_iret X Y ⟨congrArg (fun z => some (Value.int z)) (if_neg (lg_cmp_n c27)).symm, rfl⟩ (Nat.le_refl _) (Nat.le_refl _) dX5_borneOf_42
  · refine lv_iload_n hx hb dX5_borneOf_30 rfl (lv_at hl 1 rfl) ?_
    refine lv_goto (tgt := 42) hx hb dX5_borneOf_31 (by decide) ?_
    exact h_iret X Y ⟨congrArg (fun z => some (Value.int z)) (if_pos (lg_cmp_0 c27)).symm, rfl⟩ (Nat.le_refl _) (Nat.le_refl _) dX5_borneOf_42
theorem dX5_roomIn_0 : decode cX5_roomIn 0 = .ok (.aload_n 0, 1) := by decide +kernel
theorem dX5_roomIn_1 : decode cX5_roomIn 1 = .ok (.getfield 47, 3) := by decide +kernel
theorem dX5_roomIn_4 : decode cX5_roomIn 4 = .ok (.iload_n 1, 1) := by decide +kernel
theorem dX5_roomIn_5 : decode cX5_roomIn 5 = .ok (.laload, 1) := by decide +kernel
theorem dX5_roomIn_6 : decode cX5_roomIn 6 = .ok (.lstore_n 3, 1) := by decide +kernel
theorem dX5_roomIn_7 : decode cX5_roomIn 7 = .ok (.lload_n 3, 1) := by decide +kernel
theorem dX5_roomIn_8 : decode cX5_roomIn 8 = .ok (.ldc2_w 67, 3) := by decide +kernel
theorem dX5_roomIn_11 : decode cX5_roomIn 11 = .ok (.lcmp, 1) := by decide +kernel
theorem dX5_roomIn_12 : decode cX5_roomIn 12 = .ok (.ifCond .ne 7, 3) := by decide +kernel
theorem dX5_roomIn_15 : decode cX5_roomIn 15 = .ok (.iconst (-1), 1) := by decide +kernel
theorem dX5_roomIn_16 : decode cX5_roomIn 16 = .ok (.goto 14, 3) := by decide +kernel
theorem dX5_roomIn_19 : decode cX5_roomIn 19 = .ok (.lload_n 3, 1) := by decide +kernel
theorem dX5_roomIn_20 : decode cX5_roomIn 20 = .ok (.iload_n 2, 1) := by decide +kernel
theorem dX5_roomIn_21 : decode cX5_roomIn 21 = .ok (.i2l, 1) := by decide +kernel
theorem dX5_roomIn_22 : decode cX5_roomIn 22 = .ok (.lsub, 1) := by decide +kernel
theorem dX5_roomIn_23 : decode cX5_roomIn 23 = .ok (.ldc2_w 75, 3) := by decide +kernel
theorem dX5_roomIn_26 : decode cX5_roomIn 26 = .ok (.invokestatic 69, 3) := by decide +kernel
theorem dX5_roomIn_29 : decode cX5_roomIn 29 = .ok (.l2i, 1) := by decide +kernel
theorem dX5_roomIn_30 : decode cX5_roomIn 30 = .ok (.ireturn, 1) := by decide +kernel
set_option maxHeartbeats 400000 in
set_option maxRecDepth 100000 in
/-- how much more it could bear -/
theorem c_roomIn (l : Launch) (G : hG) (M : hM) (a t : Nat) (L : hLy) (hL : LyV G M a t L) (y : Nat) (hy : y < 10) (b : Int32) : hCT l G yX5_roomIn cX5_roomIn 5 (Option.some FieldType.int) (hRm 1 0 0) M [.ref a, .int (nI y), .int b] (hRd M (.int (lyRoom L y b))) := by
  refine hCT.of (own := RX5) (nm := "roomIn") (by decide) rfl rfl (Nat.le_of_ble_eq_true rfl) ?_
  intro p e s m args below meth c ls X Y hl
  have hx := X.1
  have hb := X.2.1
  have hl : lv_has ls 5 [(0, .ref a), (1, .int (nI y)), (2, .int b)] := hl
  refine lv_aload_n hx hb dX5_roomIn_0 rfl (lv_at hl 0 rfl) ?_
  refine h_get X Y (k := 13) (v := .ref (lyA L 6)) hL.1 rfl hin_X5 (by decide) kfl_X5_47 rfl dX5_roomIn_1 ?_
  refine lv_iload_n hx hb dX5_roomIn_4 rfl (lv_at hl 1 rfl) ?_
  refine h_lald X Y (i := y) hL.2.2.2.2.2 (by omega) (by decide) dX5_roomIn_5 ?_
  refine lv_lstore_n (lv' := [(3, .long ((lyB L) y)), (0, .ref a), (1, .int (nI y)), (2, .int b)]) hx hb dX5_roomIn_6 rfl hl (by decide) rfl (fun ls hl => ?_)
  refine lv_lload_n hx hb dX5_roomIn_7 rfl (lv_at hl 0 rfl) ?_
  refine lv_ldc2 hx hb X.2.2.2.2.1 (X.2.2.2.2.2.1 _ kcJ_X5_67) dX5_roomIn_8 ?_
  refine W.lcmp hx hb dX5_roomIn_11 ?_
  refine lv_if_ne (tgt := 19) hx hb dX5_roomIn_12 (by decide) (fun c12 => ?_) (fun c12 => ?_)
  · refine lv_lload_n hx hb dX5_roomIn_19 rfl (lv_at hl 0 rfl) ?_
    refine lv_iload_n hx hb dX5_roomIn_20 rfl (lv_at hl 3 rfl) ?_
    refine lv_i2l (v := b.toInt64) hx hb dX5_roomIn_21 rfl ?_
    refine lv_lsub hx hb dX5_roomIn_22 ?_
    refine lv_ldc2 hx hb X.2.2.2.2.1 (X.2.2.2.2.2.1 _ kcJ_X5_75) dX5_roomIn_23 ?_
    refine h_mminL X kml_X5_69 hl.1 (Nat.le_of_ble_eq_true rfl) (Nat.le_of_ble_eq_true rfl) ⟨Nat.le_of_ble_eq_true rfl, Nat.le_of_ble_eq_true rfl⟩ dX5_roomIn_26 ?_
    refine lv_l2i (v := (sMinL (((lyB L) y) - b.toInt64) 2147483647).toInt32) hx hb dX5_roomIn_29 rfl ?_
    exact h_iret X Y ⟨congrArg (fun z => some (Value.int z)) (if_neg (lg_cmp_n c12)).symm, rfl⟩ (Nat.le_refl _) (Nat.le_refl _) dX5_roomIn_30
  · refine lv_iconst (v := (-1)) hx hb dX5_roomIn_15 (by decide) ?_
    refine lv_goto (tgt := 30) hx hb dX5_roomIn_16 (by decide) ?_
    exact h_iret X Y ⟨congrArg (fun z => some (Value.int z)) (if_pos (lg_cmp_0 c12)).symm, rfl⟩ (Nat.le_refl _) (Nat.le_refl _) dX5_roomIn_30
theorem dX5_isNetOf_0 : decode cX5_isNetOf 0 = .ok (.aload_n 0, 1) := by decide +kernel
theorem dX5_isNetOf_1 : decode cX5_isNetOf 1 = .ok (.getfield 35, 3) := by decide +kernel
theorem dX5_isNetOf_4 : decode cX5_isNetOf 4 = .ok (.iload_n 1, 1) := by decide +kernel
theorem dX5_isNetOf_5 : decode cX5_isNetOf 5 = .ok (.ishr, 1) := by decide +kernel
theorem dX5_isNetOf_6 : decode cX5_isNetOf 6 = .ok (.iconst 1, 1) := by decide +kernel
theorem dX5_isNetOf_7 : decode cX5_isNetOf 7 = .ok (.iand, 1) := by decide +kernel
theorem dX5_isNetOf_8 : decode cX5_isNetOf 8 = .ok (.iconst 1, 1) := by decide +kernel
theorem dX5_isNetOf_9 : decode cX5_isNetOf 9 = .ok (.if_icmp .ne 7, 3) := by decide +kernel
theorem dX5_isNetOf_12 : decode cX5_isNetOf 12 = .ok (.iconst 1, 1) := by decide +kernel
theorem dX5_isNetOf_13 : decode cX5_isNetOf 13 = .ok (.goto 4, 3) := by decide +kernel
theorem dX5_isNetOf_16 : decode cX5_isNetOf 16 = .ok (.iconst 0, 1) := by decide +kernel
theorem dX5_isNetOf_17 : decode cX5_isNetOf 17 = .ok (.ireturn, 1) := by decide +kernel
set_option maxHeartbeats 400000 in
set_option maxRecDepth 100000 in
/-- whether it is net of the layer k -/
theorem c_isNetOf (l : Launch) (G : hG) (M : hM) (a t : Nat) (L : hLy) (hL : LyV G M a t L) (k : Nat) : hCT l G yX5_isNetOf cX5_isNetOf 2 (Option.some FieldType.boolean) (hRm 1 0 0) M [.ref a, .int (nI k)] (hRd M (.int (if lyNet L k then 1 else 0))) := by
  refine hCT.of (own := RX5) (nm := "isNetOf") (by decide) rfl rfl (Nat.le_of_ble_eq_true rfl) ?_
  intro p e s m args below meth c ls X Y hl
  have hx := X.1
  have hb := X.2.1
  have hl : lv_has ls 2 [(0, .ref a), (1, .int (nI k))] := hl
  refine lv_aload_n hx hb dX5_isNetOf_0 rfl (lv_at hl 0 rfl) ?_
  refine h_get X Y (k := 9) (v := .int (lyI L 3)) hL.1 rfl hin_X5 (by decide) kfl_X5_35 rfl dX5_isNetOf_1 ?_
  refine lv_iload_n hx hb dX5_isNetOf_4 rfl (lv_at hl 1 rfl) ?_
  refine lv_ishr hx hb dX5_isNetOf_5 ?_
  refine lv_iconst (v := 1) hx hb dX5_isNetOf_6 (by decide) ?_
  refine lv_iand hx hb dX5_isNetOf_7 ?_
  refine lv_iconst (v := 1) hx hb dX5_isNetOf_8 (by decide) ?_
  refine lv_icmp_ne (tgt := 16) hx hb dX5_isNetOf_9 (by decide) (fun c9 => ?_) (fun c9 => ?_)
  · refine lv_iconst (v := 0) hx hb dX5_isNetOf_16 (by decide) ?_
    exact h_zret X Y rfl ⟨congrArg (fun z => some (Value.int z)) (if_neg c9).symm, rfl⟩ (Nat.le_refl _) (Nat.le_refl _) dX5_isNetOf_17
  · refine lv_iconst (v := 1) hx hb dX5_isNetOf_12 (by decide) ?_
    refine lv_goto (tgt := 17) hx hb dX5_isNetOf_13 (by decide) ?_
    exact h_zret X Y rfl ⟨congrArg (fun z => some (Value.int z)) (if_pos c9).symm, rfl⟩ (Nat.le_refl _) (Nat.le_refl _) dX5_isNetOf_17
theorem dX5_tellYear_0 : decode cX5_tellYear 0 = .ok (.iload_n 2, 1) := by decide +kernel
theorem dX5_tellYear_1 : decode cX5_tellYear 1 = .ok (.tableswitch 48 0 2 #[27, 34, 41], 27) := by decide +kernel
theorem dX5_tellYear_28 : decode cX5_tellYear 28 = .ok (.aload_n 0, 1) := by decide +kernel
theorem dX5_tellYear_29 : decode cX5_tellYear 29 = .ok (.getfield 38, 3) := by decide +kernel
theorem dX5_tellYear_32 : decode cX5_tellYear 32 = .ok (.iload_n 1, 1) := by decide +kernel
theorem dX5_tellYear_33 : decode cX5_tellYear 33 = .ok (.iaload, 1) := by decide +kernel
theorem dX5_tellYear_34 : decode cX5_tellYear 34 = .ok (.ireturn, 1) := by decide +kernel
theorem dX5_tellYear_35 : decode cX5_tellYear 35 = .ok (.aload_n 0, 1) := by decide +kernel
theorem dX5_tellYear_36 : decode cX5_tellYear 36 = .ok (.getfield 41, 3) := by decide +kernel
theorem dX5_tellYear_39 : decode cX5_tellYear 39 = .ok (.iload_n 1, 1) := by decide +kernel
theorem dX5_tellYear_40 : decode cX5_tellYear 40 = .ok (.iaload, 1) := by decide +kernel
theorem dX5_tellYear_41 : decode cX5_tellYear 41 = .ok (.ireturn, 1) := by decide +kernel
theorem dX5_tellYear_42 : decode cX5_tellYear 42 = .ok (.aload_n 0, 1) := by decide +kernel
theorem dX5_tellYear_43 : decode cX5_tellYear 43 = .ok (.getfield 44, 3) := by decide +kernel
theorem dX5_tellYear_46 : decode cX5_tellYear 46 = .ok (.iload_n 1, 1) := by decide +kernel
theorem dX5_tellYear_47 : decode cX5_tellYear 47 = .ok (.iaload, 1) := by decide +kernel
theorem dX5_tellYear_48 : decode cX5_tellYear 48 = .ok (.ireturn, 1) := by decide +kernel
theorem dX5_tellYear_49 : decode cX5_tellYear 49 = .ok (.aload_n 0, 1) := by decide +kernel
theorem dX5_tellYear_50 : decode cX5_tellYear 50 = .ok (.getfield 47, 3) := by decide +kernel
theorem dX5_tellYear_53 : decode cX5_tellYear 53 = .ok (.iload_n 1, 1) := by decide +kernel
theorem dX5_tellYear_54 : decode cX5_tellYear 54 = .ok (.laload, 1) := by decide +kernel
theorem dX5_tellYear_55 : decode cX5_tellYear 55 = .ok (.ldc2_w 75, 3) := by decide +kernel
theorem dX5_tellYear_58 : decode cX5_tellYear 58 = .ok (.invokestatic 69, 3) := by decide +kernel
theorem dX5_tellYear_61 : decode cX5_tellYear 61 = .ok (.l2i, 1) := by decide +kernel
theorem dX5_tellYear_62 : decode cX5_tellYear 62 = .ok (.ireturn, 1) := by decide +kernel
set_option maxHeartbeats 400000 in
set_option maxRecDepth 100000 in
/-- what it tells of a year -/
theorem c_tellYear (l : Launch) (G : hG) (M : hM) (a t : Nat) (L : hLy) (hL : LyV G M a t L) (y what : Nat) (hy : y < 10) (hw : what < 4) : hCT l G yX5_tellYear cX5_tellYear 3 (Option.some FieldType.int) (hRm 1 0 0) M [.ref a, .int (nI y), .int (nI what)] (hRd M (.int (lyYear L y what))) := by
  refine hCT.of (own := RX5) (nm := "tellYear") (by decide) rfl rfl (Nat.le_of_ble_eq_true rfl) ?_
  intro p e s m args below meth c ls X Y hl
  have hx := X.1
  have hb := X.2.1
  have hl : lv_has ls 3 [(0, .ref a), (1, .int (nI y)), (2, .int (nI what))] := hl
  refine lv_iload_n hx hb dX5_tellYear_0 rfl (lv_at hl 2 rfl) ?_
  rcases (show what = 0 ∨ what = 1 ∨ what = 2 ∨ what = 3 from (by omega)) with rfl | rfl | rfl | rfl
  · refine lv_tableIn (off := 27) (tgt := 28) hx hb dX5_tellYear_1 (by decide) (by decide) (by decide) (by decide) ?_
    refine lv_aload_n hx hb dX5_tellYear_28 rfl (lv_at hl 0 rfl) ?_
    refine h_get X Y (k := 10) (v := .ref (lyA L 3)) hL.1 rfl hin_X5 (by decide) kfl_X5_38 rfl dX5_tellYear_29 ?_
    refine lv_iload_n hx hb dX5_tellYear_32 rfl (lv_at hl 1 rfl) ?_
    refine h_iald X Y (i := y) hL.2.2.1 (by omega) (by decide) dX5_tellYear_33 ?_
    exact h_iret X Y ⟨rfl, rfl⟩ (Nat.le_refl _) (Nat.le_refl _) dX5_tellYear_34
  · refine lv_tableIn (off := 34) (tgt := 35) hx hb dX5_tellYear_1 (by decide) (by decide) (by decide) (by decide) ?_
    refine lv_aload_n hx hb dX5_tellYear_35 rfl (lv_at hl 0 rfl) ?_
    refine h_get X Y (k := 11) (v := .ref (lyA L 4)) hL.1 rfl hin_X5 (by decide) kfl_X5_41 rfl dX5_tellYear_36 ?_
    refine lv_iload_n hx hb dX5_tellYear_39 rfl (lv_at hl 1 rfl) ?_
    refine h_iald X Y (i := y) hL.2.2.2.1 (by omega) (by decide) dX5_tellYear_40 ?_
    exact h_iret X Y ⟨rfl, rfl⟩ (Nat.le_refl _) (Nat.le_refl _) dX5_tellYear_41
  · refine lv_tableIn (off := 41) (tgt := 42) hx hb dX5_tellYear_1 (by decide) (by decide) (by decide) (by decide) ?_
    refine lv_aload_n hx hb dX5_tellYear_42 rfl (lv_at hl 0 rfl) ?_
    refine h_get X Y (k := 12) (v := .ref (lyA L 5)) hL.1 rfl hin_X5 (by decide) kfl_X5_44 rfl dX5_tellYear_43 ?_
    refine lv_iload_n hx hb dX5_tellYear_46 rfl (lv_at hl 1 rfl) ?_
    refine h_iald X Y (i := y) hL.2.2.2.2.1 (by omega) (by decide) dX5_tellYear_47 ?_
    exact h_iret X Y ⟨rfl, rfl⟩ (Nat.le_refl _) (Nat.le_refl _) dX5_tellYear_48
  · refine lv_tableOut (tgt := 49) hx hb dX5_tellYear_1 (by decide) (by decide) ?_
    refine lv_aload_n hx hb dX5_tellYear_49 rfl (lv_at hl 0 rfl) ?_
    refine h_get X Y (k := 13) (v := .ref (lyA L 6)) hL.1 rfl hin_X5 (by decide) kfl_X5_47 rfl dX5_tellYear_50 ?_
    refine lv_iload_n hx hb dX5_tellYear_53 rfl (lv_at hl 1 rfl) ?_
    refine h_lald X Y (i := y) hL.2.2.2.2.2 (by omega) (by decide) dX5_tellYear_54 ?_
    refine lv_ldc2 hx hb X.2.2.2.2.1 (X.2.2.2.2.2.1 _ kcJ_X5_75) dX5_tellYear_55 ?_
    refine h_mminL X kml_X5_69 hl.1 (Nat.le_of_ble_eq_true rfl) (Nat.le_of_ble_eq_true rfl) ⟨Nat.le_of_ble_eq_true rfl, Nat.le_of_ble_eq_true rfl⟩ dX5_tellYear_58 ?_
    refine lv_l2i (v := (sMinL ((lyB L) y) 2147483647).toInt32) hx hb dX5_tellYear_61 rfl ?_
    exact h_iret X Y ⟨rfl, rfl⟩ (Nat.le_refl _) (Nat.le_refl _) dX5_tellYear_62
theorem dX5_tell_0 : decode cX5_tell 0 = .ok (.iload_n 1, 1) := by decide +kernel
theorem dX5_tell_1 : decode cX5_tell 1 = .ok (.tableswitch 59 0 3 #[31, 36, 41, 54], 31) := by decide +kernel
theorem dX5_tell_32 : decode cX5_tell 32 = .ok (.aload_n 0, 1) := by decide +kernel
theorem dX5_tell_33 : decode cX5_tell 33 = .ok (.getfield 21, 3) := by decide +kernel
theorem dX5_tell_36 : decode cX5_tell 36 = .ok (.ireturn, 1) := by decide +kernel
theorem dX5_tell_37 : decode cX5_tell 37 = .ok (.aload_n 0, 1) := by decide +kernel
theorem dX5_tell_38 : decode cX5_tell 38 = .ok (.getfield 25, 3) := by decide +kernel
theorem dX5_tell_41 : decode cX5_tell 41 = .ok (.ireturn, 1) := by decide +kernel
theorem dX5_tell_42 : decode cX5_tell 42 = .ok (.aload_n 0, 1) := by decide +kernel
theorem dX5_tell_43 : decode cX5_tell 43 = .ok (.getfield 9, 3) := by decide +kernel
theorem dX5_tell_46 : decode cX5_tell 46 = .ok (.ifnonnull 7, 3) := by decide +kernel
theorem dX5_tell_49 : decode cX5_tell 49 = .ok (.iconst 0, 1) := by decide +kernel
theorem dX5_tell_50 : decode cX5_tell 50 = .ok (.goto 4, 3) := by decide +kernel
theorem dX5_tell_53 : decode cX5_tell 53 = .ok (.iconst 1, 1) := by decide +kernel
theorem dX5_tell_54 : decode cX5_tell 54 = .ok (.ireturn, 1) := by decide +kernel
theorem dX5_tell_55 : decode cX5_tell 55 = .ok (.aload_n 0, 1) := by decide +kernel
theorem dX5_tell_56 : decode cX5_tell 56 = .ok (.getfield 35, 3) := by decide +kernel
theorem dX5_tell_59 : decode cX5_tell 59 = .ok (.ireturn, 1) := by decide +kernel
theorem dX5_tell_60 : decode cX5_tell 60 = .ok (.iload_n 1, 1) := by decide +kernel
theorem dX5_tell_61 : decode cX5_tell 61 = .ok (.iconst 4, 1) := by decide +kernel
theorem dX5_tell_62 : decode cX5_tell 62 = .ok (.if_icmp .lt 25, 3) := by decide +kernel
theorem dX5_tell_65 : decode cX5_tell 65 = .ok (.iload_n 1, 1) := by decide +kernel
theorem dX5_tell_66 : decode cX5_tell 66 = .ok (.iconst 4, 1) := by decide +kernel
theorem dX5_tell_67 : decode cX5_tell 67 = .ok (.aload_n 0, 1) := by decide +kernel
theorem dX5_tell_68 : decode cX5_tell 68 = .ok (.getfield 28, 3) := by decide +kernel
theorem dX5_tell_71 : decode cX5_tell 71 = .ok (.arraylength, 1) := by decide +kernel
theorem dX5_tell_72 : decode cX5_tell 72 = .ok (.iadd, 1) := by decide +kernel
theorem dX5_tell_73 : decode cX5_tell 73 = .ok (.if_icmp .ge 14, 3) := by decide +kernel
theorem dX5_tell_76 : decode cX5_tell 76 = .ok (.aload_n 0, 1) := by decide +kernel
theorem dX5_tell_77 : decode cX5_tell 77 = .ok (.getfield 28, 3) := by decide +kernel
theorem dX5_tell_80 : decode cX5_tell 80 = .ok (.iload_n 1, 1) := by decide +kernel
theorem dX5_tell_81 : decode cX5_tell 81 = .ok (.iconst 4, 1) := by decide +kernel
theorem dX5_tell_82 : decode cX5_tell 82 = .ok (.isub, 1) := by decide +kernel
theorem dX5_tell_83 : decode cX5_tell 83 = .ok (.iaload, 1) := by decide +kernel
theorem dX5_tell_84 : decode cX5_tell 84 = .ok (.goto 4, 3) := by decide +kernel
theorem dX5_tell_88 : decode cX5_tell 88 = .ok (.ireturn, 1) := by decide +kernel
set_option maxHeartbeats 400000 in
set_option maxRecDepth 100000 in
/-- what it tells -/
theorem c_tell (l : Launch) (G : hG) (M : hM) (a t : Nat) (L : hLy) (hL : LyV G M a t L) (what : Nat) (hw : what < 8) : hCT l G yX5_tell cX5_tell 2 (Option.some FieldType.int) (hRm 1 0 0) M [.ref a, .int (nI what)] (hRd M (.int (lyTell L what))) := by
  refine hCT.of (own := RX5) (nm := "tell") (by decide) rfl rfl (Nat.le_of_ble_eq_true rfl) ?_
  intro p e s m args below meth c ls X Y hl
  have hx := X.1
  have hb := X.2.1
  have hl : lv_has ls 2 [(0, .ref a), (1, .int (nI what))] := hl
  refine lv_iload_n hx hb dX5_tell_0 rfl (lv_at hl 1 rfl) ?_
  rcases (show what = 0 ∨ what = 1 ∨ what = 2 ∨ what = 3 ∨ what = 4 ∨ what = 5 ∨ what = 6 ∨ what = 7 from (by omega)) with rfl | rfl | rfl | rfl | rfl | rfl | rfl | rfl
  · refine lv_tableIn (off := 31) (tgt := 32) hx hb dX5_tell_1 (by decide) (by decide) (by decide) (by decide) ?_
    refine lv_aload_n hx hb dX5_tell_32 rfl (lv_at hl 0 rfl) ?_
    refine h_get X Y (k := 5) (v := .int (lyI L 0)) hL.1 rfl hin_X5 (by decide) kfl_X5_21 rfl dX5_tell_33 ?_
    exact h_iret X Y ⟨rfl, rfl⟩ (Nat.le_refl _) (Nat.le_refl _) dX5_tell_36
  · refine lv_tableIn (off := 36) (tgt := 37) hx hb dX5_tell_1 (by decide) (by decide) (by decide) (by decide) ?_
    refine lv_aload_n hx hb dX5_tell_37 rfl (lv_at hl 0 rfl) ?_
    refine h_get X Y (k := 6) (v := .int (lyI L 1)) hL.1 rfl hin_X5 (by decide) kfl_X5_25 rfl dX5_tell_38 ?_
    exact h_iret X Y ⟨rfl, rfl⟩ (Nat.le_refl _) (Nat.le_refl _) dX5_tell_41
  · refine lv_tableIn (off := 41) (tgt := 42) hx hb dX5_tell_1 (by decide) (by decide) (by decide) (by decide) ?_
    refine lv_aload_n hx hb dX5_tell_42 rfl (lv_at hl 0 rfl) ?_
    refine h_get X Y (k := 2) (v := va_rf (lyR L 0)) hL.1 rfl hin_X5 (by decide) kfl_X5_9 rfl dX5_tell_43 ?_
    cases hq : lyR L 0 with
    | none =>
      refine lv_ifnonnullN hx hb dX5_tell_46 ?_
      refine lv_iconst (v := 0) hx hb dX5_tell_49 (by decide) ?_
      refine lv_goto (tgt := 54) hx hb dX5_tell_50 (by decide) ?_
      exact h_iret X Y ⟨by simp only [lyTell, hq]; rfl, rfl⟩ (Nat.le_refl _) (Nat.le_refl _) dX5_tell_54
    | some q =>
      refine lv_ifnonnull (tgt := 53) hx hb dX5_tell_46 (by decide) ?_
      refine lv_iconst (v := 1) hx hb dX5_tell_53 (by decide) ?_
      exact h_iret X Y ⟨by simp only [lyTell, hq]; rfl, rfl⟩ (Nat.le_refl _) (Nat.le_refl _) dX5_tell_54
  · refine lv_tableIn (off := 54) (tgt := 55) hx hb dX5_tell_1 (by decide) (by decide) (by decide) (by decide) ?_
    refine lv_aload_n hx hb dX5_tell_55 rfl (lv_at hl 0 rfl) ?_
    refine h_get X Y (k := 9) (v := .int (lyI L 3)) hL.1 rfl hin_X5 (by decide) kfl_X5_35 rfl dX5_tell_56 ?_
    exact h_iret X Y ⟨rfl, rfl⟩ (Nat.le_refl _) (Nat.le_refl _) dX5_tell_59
  · refine lv_tableOut (tgt := 60) hx hb dX5_tell_1 (by decide) (by decide) ?_
    refine lv_iload_n hx hb dX5_tell_60 rfl (lv_at hl 1 rfl) ?_
    refine lv_iconst (v := 4) hx hb dX5_tell_61 (by decide) ?_
    refine lv_icmp_lt (tgt := 87) hx hb dX5_tell_62 (by decide) (fun c62 => absurd c62 (by decide)) (fun c62 => ?_)
    refine lv_iload_n hx hb dX5_tell_65 rfl (lv_at hl 1 rfl) ?_
    refine lv_iconst (v := 4) hx hb dX5_tell_66 (by decide) ?_
    refine lv_aload_n hx hb dX5_tell_67 rfl (lv_at hl 0 rfl) ?_
    refine h_get X Y (k := 7) (v := .ref (lyA L 2)) hL.1 rfl hin_X5 (by decide) kfl_X5_28 rfl dX5_tell_68 ?_
    refine h_alen X Y 0 hL.2.1 rfl dX5_tell_71 ?_
    refine lv_iadd hx hb dX5_tell_72 ?_
    refine h_ev (y := nI 8) (by decide) ?_
    refine lv_icmp_ge (tgt := 87) hx hb dX5_tell_73 (by decide) (fun c73 => absurd c73 (by decide)) (fun c73 => ?_)
    refine lv_aload_n hx hb dX5_tell_76 rfl (lv_at hl 0 rfl) ?_
    refine h_get X Y (k := 7) (v := .ref (lyA L 2)) hL.1 rfl hin_X5 (by decide) kfl_X5_28 rfl dX5_tell_77 ?_
    refine lv_iload_n hx hb dX5_tell_80 rfl (lv_at hl 1 rfl) ?_
    refine lv_iconst (v := 4) hx hb dX5_tell_81 (by decide) ?_
    refine lv_isub hx hb dX5_tell_82 ?_
    refine h_ev (y := nI 0) (by decide) ?_
    refine h_iald X Y (i := 0) hL.2.1 (by omega) (by decide) dX5_tell_83 ?_
    refine lv_goto (tgt := 88) hx hb dX5_tell_84 (by decide) ?_
    exact h_iret X Y ⟨rfl, rfl⟩ (Nat.le_refl _) (Nat.le_refl _) dX5_tell_88
  · refine lv_tableOut (tgt := 60) hx hb dX5_tell_1 (by decide) (by decide) ?_
    refine lv_iload_n hx hb dX5_tell_60 rfl (lv_at hl 1 rfl) ?_
    refine lv_iconst (v := 4) hx hb dX5_tell_61 (by decide) ?_
    refine lv_icmp_lt (tgt := 87) hx hb dX5_tell_62 (by decide) (fun c62 => absurd c62 (by decide)) (fun c62 => ?_)
    refine lv_iload_n hx hb dX5_tell_65 rfl (lv_at hl 1 rfl) ?_
    refine lv_iconst (v := 4) hx hb dX5_tell_66 (by decide) ?_
    refine lv_aload_n hx hb dX5_tell_67 rfl (lv_at hl 0 rfl) ?_
    refine h_get X Y (k := 7) (v := .ref (lyA L 2)) hL.1 rfl hin_X5 (by decide) kfl_X5_28 rfl dX5_tell_68 ?_
    refine h_alen X Y 0 hL.2.1 rfl dX5_tell_71 ?_
    refine lv_iadd hx hb dX5_tell_72 ?_
    refine h_ev (y := nI 8) (by decide) ?_
    refine lv_icmp_ge (tgt := 87) hx hb dX5_tell_73 (by decide) (fun c73 => absurd c73 (by decide)) (fun c73 => ?_)
    refine lv_aload_n hx hb dX5_tell_76 rfl (lv_at hl 0 rfl) ?_
    refine h_get X Y (k := 7) (v := .ref (lyA L 2)) hL.1 rfl hin_X5 (by decide) kfl_X5_28 rfl dX5_tell_77 ?_
    refine lv_iload_n hx hb dX5_tell_80 rfl (lv_at hl 1 rfl) ?_
    refine lv_iconst (v := 4) hx hb dX5_tell_81 (by decide) ?_
    refine lv_isub hx hb dX5_tell_82 ?_
    refine h_ev (y := nI 1) (by decide) ?_
    refine h_iald X Y (i := 1) hL.2.1 (by omega) (by decide) dX5_tell_83 ?_
    refine lv_goto (tgt := 88) hx hb dX5_tell_84 (by decide) ?_
    exact h_iret X Y ⟨rfl, rfl⟩ (Nat.le_refl _) (Nat.le_refl _) dX5_tell_88
  · refine lv_tableOut (tgt := 60) hx hb dX5_tell_1 (by decide) (by decide) ?_
    refine lv_iload_n hx hb dX5_tell_60 rfl (lv_at hl 1 rfl) ?_
    refine lv_iconst (v := 4) hx hb dX5_tell_61 (by decide) ?_
    refine lv_icmp_lt (tgt := 87) hx hb dX5_tell_62 (by decide) (fun c62 => absurd c62 (by decide)) (fun c62 => ?_)
    refine lv_iload_n hx hb dX5_tell_65 rfl (lv_at hl 1 rfl) ?_
    refine lv_iconst (v := 4) hx hb dX5_tell_66 (by decide) ?_
    refine lv_aload_n hx hb dX5_tell_67 rfl (lv_at hl 0 rfl) ?_
    refine h_get X Y (k := 7) (v := .ref (lyA L 2)) hL.1 rfl hin_X5 (by decide) kfl_X5_28 rfl dX5_tell_68 ?_
    refine h_alen X Y 0 hL.2.1 rfl dX5_tell_71 ?_
    refine lv_iadd hx hb dX5_tell_72 ?_
    refine h_ev (y := nI 8) (by decide) ?_
    refine lv_icmp_ge (tgt := 87) hx hb dX5_tell_73 (by decide) (fun c73 => absurd c73 (by decide)) (fun c73 => ?_)
    refine lv_aload_n hx hb dX5_tell_76 rfl (lv_at hl 0 rfl) ?_
    refine h_get X Y (k := 7) (v := .ref (lyA L 2)) hL.1 rfl hin_X5 (by decide) kfl_X5_28 rfl dX5_tell_77 ?_
    refine lv_iload_n hx hb dX5_tell_80 rfl (lv_at hl 1 rfl) ?_
    refine lv_iconst (v := 4) hx hb dX5_tell_81 (by decide) ?_
    refine lv_isub hx hb dX5_tell_82 ?_
    refine h_ev (y := nI 2) (by decide) ?_
    refine h_iald X Y (i := 2) hL.2.1 (by omega) (by decide) dX5_tell_83 ?_
    refine lv_goto (tgt := 88) hx hb dX5_tell_84 (by decide) ?_
    exact h_iret X Y ⟨rfl, rfl⟩ (Nat.le_refl _) (Nat.le_refl _) dX5_tell_88
  · refine lv_tableOut (tgt := 60) hx hb dX5_tell_1 (by decide) (by decide) ?_
    refine lv_iload_n hx hb dX5_tell_60 rfl (lv_at hl 1 rfl) ?_
    refine lv_iconst (v := 4) hx hb dX5_tell_61 (by decide) ?_
    refine lv_icmp_lt (tgt := 87) hx hb dX5_tell_62 (by decide) (fun c62 => absurd c62 (by decide)) (fun c62 => ?_)
    refine lv_iload_n hx hb dX5_tell_65 rfl (lv_at hl 1 rfl) ?_
    refine lv_iconst (v := 4) hx hb dX5_tell_66 (by decide) ?_
    refine lv_aload_n hx hb dX5_tell_67 rfl (lv_at hl 0 rfl) ?_
    refine h_get X Y (k := 7) (v := .ref (lyA L 2)) hL.1 rfl hin_X5 (by decide) kfl_X5_28 rfl dX5_tell_68 ?_
    refine h_alen X Y 0 hL.2.1 rfl dX5_tell_71 ?_
    refine lv_iadd hx hb dX5_tell_72 ?_
    refine h_ev (y := nI 8) (by decide) ?_
    refine lv_icmp_ge (tgt := 87) hx hb dX5_tell_73 (by decide) (fun c73 => absurd c73 (by decide)) (fun c73 => ?_)
    refine lv_aload_n hx hb dX5_tell_76 rfl (lv_at hl 0 rfl) ?_
    refine h_get X Y (k := 7) (v := .ref (lyA L 2)) hL.1 rfl hin_X5 (by decide) kfl_X5_28 rfl dX5_tell_77 ?_
    refine lv_iload_n hx hb dX5_tell_80 rfl (lv_at hl 1 rfl) ?_
    refine lv_iconst (v := 4) hx hb dX5_tell_81 (by decide) ?_
    refine lv_isub hx hb dX5_tell_82 ?_
    refine h_ev (y := nI 3) (by decide) ?_
    refine h_iald X Y (i := 3) hL.2.1 (by omega) (by decide) dX5_tell_83 ?_
    refine lv_goto (tgt := 88) hx hb dX5_tell_84 (by decide) ?_
    exact h_iret X Y ⟨rfl, rfl⟩ (Nat.le_refl _) (Nat.le_refl _) dX5_tell_88
theorem dX5_chargeOf_0 : decode cX5_chargeOf 0 = .ok (.aload_n 0, 1) := by decide +kernel
theorem dX5_chargeOf_1 : decode cX5_chargeOf 1 = .ok (.getfield 38, 3) := by decide +kernel
theorem dX5_chargeOf_4 : decode cX5_chargeOf 4 = .ok (.iload_n 1, 1) := by decide +kernel
theorem dX5_chargeOf_5 : decode cX5_chargeOf 5 = .ok (.iaload, 1) := by decide +kernel
theorem dX5_chargeOf_6 : decode cX5_chargeOf 6 = .ok (.i2l, 1) := by decide +kernel
theorem dX5_chargeOf_7 : decode cX5_chargeOf 7 = .ok (.lstore_n 3, 1) := by decide +kernel
theorem dX5_chargeOf_8 : decode cX5_chargeOf 8 = .ok (.lconst 0, 1) := by decide +kernel
theorem dX5_chargeOf_9 : decode cX5_chargeOf 9 = .ok (.lstore 5, 2) := by decide +kernel
theorem dX5_chargeOf_11 : decode cX5_chargeOf 11 = .ok (.iconst 0, 1) := by decide +kernel
theorem dX5_chargeOf_12 : decode cX5_chargeOf 12 = .ok (.istore 7, 2) := by decide +kernel
theorem dX5_chargeOf_14 : decode cX5_chargeOf 14 = .ok (.iload 7, 2) := by decide +kernel
theorem dX5_chargeOf_16 : decode cX5_chargeOf 16 = .ok (.aload_n 0, 1) := by decide +kernel
theorem dX5_chargeOf_17 : decode cX5_chargeOf 17 = .ok (.getfield 32, 3) := by decide +kernel
theorem dX5_chargeOf_20 : decode cX5_chargeOf 20 = .ok (.if_icmp .ge 57, 3) := by decide +kernel
theorem dX5_chargeOf_23 : decode cX5_chargeOf 23 = .ok (.iload 7, 2) := by decide +kernel
theorem dX5_chargeOf_25 : decode cX5_chargeOf 25 = .ok (.aload_n 0, 1) := by decide +kernel
theorem dX5_chargeOf_26 : decode cX5_chargeOf 26 = .ok (.getfield 28, 3) := by decide +kernel
theorem dX5_chargeOf_29 : decode cX5_chargeOf 29 = .ok (.arraylength, 1) := by decide +kernel
theorem dX5_chargeOf_30 : decode cX5_chargeOf 30 = .ok (.if_icmp .ge 47, 3) := by decide +kernel
theorem dX5_chargeOf_33 : decode cX5_chargeOf 33 = .ok (.iload_n 2, 1) := by decide +kernel
theorem dX5_chargeOf_34 : decode cX5_chargeOf 34 = .ok (.i2l, 1) := by decide +kernel
theorem dX5_chargeOf_35 : decode cX5_chargeOf 35 = .ok (.iload 7, 2) := by decide +kernel
theorem dX5_chargeOf_37 : decode cX5_chargeOf 37 = .ok (.i2l, 1) := by decide +kernel
theorem dX5_chargeOf_38 : decode cX5_chargeOf 38 = .ok (.lload_n 3, 1) := by decide +kernel
theorem dX5_chargeOf_39 : decode cX5_chargeOf 39 = .ok (.lmul, 1) := by decide +kernel
theorem dX5_chargeOf_40 : decode cX5_chargeOf 40 = .ok (.lsub, 1) := by decide +kernel
theorem dX5_chargeOf_41 : decode cX5_chargeOf 41 = .ok (.lload_n 3, 1) := by decide +kernel
theorem dX5_chargeOf_42 : decode cX5_chargeOf 42 = .ok (.invokestatic 69, 3) := by decide +kernel
theorem dX5_chargeOf_45 : decode cX5_chargeOf 45 = .ok (.lconst 0, 1) := by decide +kernel
theorem dX5_chargeOf_46 : decode cX5_chargeOf 46 = .ok (.invokestatic 97, 3) := by decide +kernel
theorem dX5_chargeOf_49 : decode cX5_chargeOf 49 = .ok (.lstore 8, 2) := by decide +kernel
theorem dX5_chargeOf_51 : decode cX5_chargeOf 51 = .ok (.lload 5, 2) := by decide +kernel
theorem dX5_chargeOf_53 : decode cX5_chargeOf 53 = .ok (.lload 8, 2) := by decide +kernel
theorem dX5_chargeOf_55 : decode cX5_chargeOf 55 = .ok (.aload_n 0, 1) := by decide +kernel
theorem dX5_chargeOf_56 : decode cX5_chargeOf 56 = .ok (.getfield 28, 3) := by decide +kernel
theorem dX5_chargeOf_59 : decode cX5_chargeOf 59 = .ok (.iload 7, 2) := by decide +kernel
theorem dX5_chargeOf_61 : decode cX5_chargeOf 61 = .ok (.iaload, 1) := by decide +kernel
theorem dX5_chargeOf_62 : decode cX5_chargeOf 62 = .ok (.i2l, 1) := by decide +kernel
theorem dX5_chargeOf_63 : decode cX5_chargeOf 63 = .ok (.lmul, 1) := by decide +kernel
theorem dX5_chargeOf_64 : decode cX5_chargeOf 64 = .ok (.ldc2_w 95, 3) := by decide +kernel
theorem dX5_chargeOf_67 : decode cX5_chargeOf 67 = .ok (.ldiv, 1) := by decide +kernel
theorem dX5_chargeOf_68 : decode cX5_chargeOf 68 = .ok (.ladd, 1) := by decide +kernel
theorem dX5_chargeOf_69 : decode cX5_chargeOf 69 = .ok (.lstore 5, 2) := by decide +kernel
theorem dX5_chargeOf_71 : decode cX5_chargeOf 71 = .ok (.iinc 7 1, 3) := by decide +kernel
theorem dX5_chargeOf_74 : decode cX5_chargeOf 74 = .ok (.goto (-60), 3) := by decide +kernel
theorem dX5_chargeOf_77 : decode cX5_chargeOf 77 = .ok (.lload 5, 2) := by decide +kernel
theorem dX5_chargeOf_79 : decode cX5_chargeOf 79 = .ok (.aload_n 0, 1) := by decide +kernel
theorem dX5_chargeOf_80 : decode cX5_chargeOf 80 = .ok (.getfield 21, 3) := by decide +kernel
theorem dX5_chargeOf_83 : decode cX5_chargeOf 83 = .ok (.i2l, 1) := by decide +kernel
theorem dX5_chargeOf_84 : decode cX5_chargeOf 84 = .ok (.lmul, 1) := by decide +kernel
theorem dX5_chargeOf_85 : decode cX5_chargeOf 85 = .ok (.ldc2_w 95, 3) := by decide +kernel
theorem dX5_chargeOf_88 : decode cX5_chargeOf 88 = .ok (.ldiv, 1) := by decide +kernel
theorem dX5_chargeOf_89 : decode cX5_chargeOf 89 = .ok (.l2i, 1) := by decide +kernel
theorem dX5_chargeOf_90 : decode cX5_chargeOf 90 = .ok (.ireturn, 1) := by decide +kernel
set_option maxHeartbeats 400000 in
set_option maxRecDepth 100000 in
/-- what reinstatements are charged -/
theorem c_chargeOf (l : Launch) (G : hG) (M : hM) (a t : Nat) (L : hLy) (hL : LyV G M a t L) (y : Nat) (hy : y < 10) (b : Int32) (n : Nat) (hn : n ≤ 4) (hc : lyI L 2 = nI n) : hCT l G yX5_chargeOf cX5_chargeOf 10 (Option.some FieldType.int) (hRm 1 0 0) M [.ref a, .int (nI y), .int b] (hRd M (.int (lyCharge L y b n))) := by
  refine hCT.of (own := RX5) (nm := "chargeOf") (by decide) rfl rfl (Nat.le_of_ble_eq_true rfl) ?_
  intro p e s m args below meth c ls X Y hl
  have hx := X.1
  have hb := X.2.1
  have hl : lv_has ls 10 [(0, .ref a), (1, .int (nI y)), (2, .int b)] := hl
  refine lv_aload_n hx hb dX5_chargeOf_0 rfl (lv_at hl 0 rfl) ?_
  refine h_get X Y (k := 10) (v := .ref (lyA L 3)) hL.1 rfl hin_X5 (by decide) kfl_X5_38 rfl dX5_chargeOf_1 ?_
  refine lv_iload_n hx hb dX5_chargeOf_4 rfl (lv_at hl 1 rfl) ?_
  refine h_iald X Y (i := y) hL.2.2.1 (by omega) (by decide) dX5_chargeOf_5 ?_
  refine lv_i2l (v := ((lyN L 1) y).toInt64) hx hb dX5_chargeOf_6 rfl ?_
  refine lv_lstore_n (lv' := [(3, .long (((lyN L 1) y).toInt64)), (0, .ref a), (1, .int (nI y)), (2, .int b)]) hx hb dX5_chargeOf_7 rfl hl (by decide) rfl (fun ls hl => ?_)
  refine lv_lconst (v := 0) hx hb dX5_chargeOf_8 (by decide) ?_
  refine lv_lstore (lv' := [(5, .long 0), (3, .long (((lyN L 1) y).toInt64)), (0, .ref a), (1, .int (nI y)), (2, .int b)]) hx hb dX5_chargeOf_9 hl (by decide) rfl (fun ls hl => ?_)
  refine lv_iconst (v := 0) hx hb dX5_chargeOf_11 (by decide) ?_
  refine lv_istore (lv' := [(7, .int 0), (5, .long 0), (3, .long (((lyN L 1) y).toInt64)), (0, .ref a), (1, .int (nI y)), (2, .int b)]) hx hb dX5_chargeOf_12 hl (by decide) rfl (fun ls hl => ?_)
  have loop : ∀ (d k : Nat), k + d = n + 1 → k ≤ n → ∀ (H : Heap) (locs : List Loc) (ls : Array Slot), hHS G M s H locs → lv_has ls 10 [(0, .ref a), (2, .int b), (3, .long ((lyN L 1 y).toInt64)), (5, .long (lyParts L y b k)), (7, .int (nI k))] → W p l e (hRm 1 0 0) s m args below meth c H locs 0 0 (MQ below (hQ G (hRd M (.int (lyCharge L y b n)))) args s 0 0 (hA G)) (F0 m 14 ls []) := by
    intro d
    induction d with
    | zero => intro k h1 h2; exact absurd h1 (by omega)
    | succ d ih =>
      intro k h1 h2 H locs ls Y hl
      refine lv_iload hx hb dX5_chargeOf_14 (lv_at hl 4 rfl) ?_
      refine lv_aload_n hx hb dX5_chargeOf_16 rfl (lv_at hl 0 rfl) ?_
      refine h_get X Y (k := 8) (v := .int (lyI L 2)) hL.1 rfl hin_X5 (by decide) kfl_X5_32 rfl dX5_chargeOf_17 ?_
      refine h_ev (y := nI n) hc ?_
      refine lv_icmp_ge (tgt := 77) hx hb dX5_chargeOf_20 (by decide) (fun c20 => ?_) (fun c20 => ?_)
      · have c20 : n ≤ k := (nI_leI (a := n) (b := k) (by omega) (by omega)).mp c20
        have hk9 : n = k := by omega
        subst hk9
        refine lv_lload hx hb dX5_chargeOf_77 (lv_at hl 3 rfl) ?_
        refine lv_aload_n hx hb dX5_chargeOf_79 rfl (lv_at hl 0 rfl) ?_
        refine h_get X Y (k := 5) (v := .int (lyI L 0)) hL.1 rfl hin_X5 (by decide) kfl_X5_21 rfl dX5_chargeOf_80 ?_
        refine lv_i2l (v := (lyI L 0).toInt64) hx hb dX5_chargeOf_83 rfl ?_
        refine lv_lmul hx hb dX5_chargeOf_84 ?_
        refine lv_ldc2 hx hb X.2.2.2.2.1 (X.2.2.2.2.2.1 _ kcJ_X5_95) dX5_chargeOf_85 ?_
        refine lv_ldiv hx hb dX5_chargeOf_88 (by decide) ?_
        refine lv_l2i (v := (((lyParts L y b n) * ((lyI L 0).toInt64)) / 100).toInt32) hx hb dX5_chargeOf_89 rfl ?_
        exact h_iret X Y ⟨rfl, rfl⟩ (Nat.le_refl _) (Nat.le_refl _) dX5_chargeOf_90
      · have c20 : ¬ n ≤ k := fun z9 => c20 ((nI_leI (a := n) (b := k) (by omega) (by omega)).mpr z9)
        refine lv_iload hx hb dX5_chargeOf_23 (lv_at hl 4 rfl) ?_
        refine lv_aload_n hx hb dX5_chargeOf_25 rfl (lv_at hl 0 rfl) ?_
        refine h_get X Y (k := 7) (v := .ref (lyA L 2)) hL.1 rfl hin_X5 (by decide) kfl_X5_28 rfl dX5_chargeOf_26 ?_
        refine h_alen X Y 0 hL.2.1 rfl dX5_chargeOf_29 ?_
        refine lv_icmp_ge (tgt := 77) hx hb dX5_chargeOf_30 (by decide) (fun c30 => absurd (show 4 ≤ k from (nI_leI (a := 4) (b := k) (by omega) (by omega)).mp c30) (by omega)) (fun c30 => ?_)
        have c30 : ¬ 4 ≤ k := fun z9 => c30 ((nI_leI (a := 4) (b := k) (by omega) (by omega)).mpr z9)
        refine lv_iload_n hx hb dX5_chargeOf_33 rfl (lv_at hl 1 rfl) ?_
        refine lv_i2l (v := b.toInt64) hx hb dX5_chargeOf_34 rfl ?_
        refine lv_iload hx hb dX5_chargeOf_35 (lv_at hl 4 rfl) ?_
        refine lv_i2l (v := (nI k).toInt64) hx hb dX5_chargeOf_37 rfl ?_
        refine lv_lload_n hx hb dX5_chargeOf_38 rfl (lv_at hl 2 rfl) ?_
        refine lv_lmul hx hb dX5_chargeOf_39 ?_
        refine lv_lsub hx hb dX5_chargeOf_40 ?_
        refine lv_lload_n hx hb dX5_chargeOf_41 rfl (lv_at hl 2 rfl) ?_
        refine h_mminL X kml_X5_69 hl.1 (Nat.le_of_ble_eq_true rfl) (Nat.le_of_ble_eq_true rfl) ⟨Nat.le_of_ble_eq_true rfl, Nat.le_of_ble_eq_true rfl⟩ dX5_chargeOf_42 ?_
        refine lv_lconst (v := 0) hx hb dX5_chargeOf_45 (by decide) ?_
        refine h_mmaxL X kml_X5_97 hl.1 (Nat.le_of_ble_eq_true rfl) (Nat.le_of_ble_eq_true rfl) ⟨Nat.le_of_ble_eq_true rfl, Nat.le_of_ble_eq_true rfl⟩ dX5_chargeOf_46 ?_
        refine lv_lstore (lv' := [(8, .long (sMaxL (sMinL (b.toInt64 - (((nI k).toInt64) * ((lyN L 1 y).toInt64))) ((lyN L 1 y).toInt64)) 0)), (0, .ref a), (2, .int b), (3, .long ((lyN L 1 y).toInt64)), (5, .long (lyParts L y b k)), (7, .int (nI k))]) hx hb dX5_chargeOf_49 hl (by decide) rfl (fun ls hl => ?_)
        refine lv_lload hx hb dX5_chargeOf_51 (lv_at hl 4 rfl) ?_
        refine lv_lload hx hb dX5_chargeOf_53 (lv_at hl 0 rfl) ?_
        refine lv_aload_n hx hb dX5_chargeOf_55 rfl (lv_at hl 1 rfl) ?_
        refine h_get X Y (k := 7) (v := .ref (lyA L 2)) hL.1 rfl hin_X5 (by decide) kfl_X5_28 rfl dX5_chargeOf_56 ?_
        refine lv_iload hx hb dX5_chargeOf_59 (lv_at hl 5 rfl) ?_
        refine h_iald X Y (i := k) hL.2.1 (by omega) (by decide) dX5_chargeOf_61 ?_
        refine lv_i2l (v := ((lyN L 0) k).toInt64) hx hb dX5_chargeOf_62 rfl ?_
        refine lv_lmul hx hb dX5_chargeOf_63 ?_
        refine lv_ldc2 hx hb X.2.2.2.2.1 (X.2.2.2.2.2.1 _ kcJ_X5_95) dX5_chargeOf_64 ?_
        refine lv_ldiv hx hb dX5_chargeOf_67 (by decide) ?_
        refine lv_ladd hx hb dX5_chargeOf_68 ?_
        refine lv_lstore (lv' := [(5, .long ((lyParts L y b k) + (((sMaxL (sMinL (b.toInt64 - (((nI k).toInt64) * ((lyN L 1 y).toInt64))) ((lyN L 1 y).toInt64)) 0) * (((lyN L 0) k).toInt64)) / 100))), (8, .long (sMaxL (sMinL (b.toInt64 - (((nI k).toInt64) * ((lyN L 1 y).toInt64))) ((lyN L 1 y).toInt64)) 0)), (0, .ref a), (2, .int b), (3, .long ((lyN L 1 y).toInt64)), (7, .int (nI k))]) hx hb dX5_chargeOf_69 hl (by decide) rfl (fun ls hl => ?_)
        refine lv_iinc (v := nI (k + 1)) (lv' := [(7, .int (nI (k + 1))), (5, .long ((lyParts L y b k) + (((sMaxL (sMinL (b.toInt64 - (((nI k).toInt64) * ((lyN L 1 y).toInt64))) ((lyN L 1 y).toInt64)) 0) * (((lyN L 0) k).toInt64)) / 100))), (8, .long (sMaxL (sMinL (b.toInt64 - (((nI k).toInt64) * ((lyN L 1 y).toInt64))) ((lyN L 1 y).toInt64)) 0)), (0, .ref a), (2, .int b), (3, .long ((lyN L 1 y).toInt64))]) hx hb dX5_chargeOf_71 hl (k := 5) rfl (nI_1 k) (by decide) rfl (fun ls hl => ?_)
        refine lv_goto (tgt := 14) hx hb dX5_chargeOf_74 (by decide) ?_
        exact ih (k + 1) (by omega) (by omega) _ _ _ Y (lv_sub hl [3, 4, 5, 1, 0] rfl)
  exact loop (n + 1) 0 (by omega) (by omega) _ _ _ Y (lv_sub hl [3, 5, 2, 1, 0] rfl)
