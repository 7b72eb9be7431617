-- A LAYER IS SETTLED
def lyZ (L : hLy) (N1 : Nat → Nat → Int32) (B1 : Nat → Int64) : hLy := (lyA L, lyR L, lyI L, N1, B1)
def vY (F : hFo) : Int32 := sMax (fv F 0 0) 0
def vAft (L : hLy) (F : Nat → hFo) : Int32 := if lyR L 1 = none then 0 else vY (F 3)
def vBnd (L : hLy) (F : Nat → hFo) (lim : Int32) : Int64 :=
  if lyI L 1 = -1 then (if lyR L 0 = none then -1 else (vY (F 2)).toInt64)
  else if (if lyR L 0 = none then (-1 : Int64) else (vY (F 2)).toInt64) = -1 then lim.toInt64 * (1 + lyI L 1).toInt64
  else sMinL (if lyR L 0 = none then -1 else (vY (F 2)).toInt64) (lim.toInt64 * (1 + lyI L 1).toInt64)
theorem LaP.sim {G : hG} {M M' : hM} {a t u0 : Nat} {L : hLy} {F : Nat → hFo} (h : hSim G (fun u => u = u0) M M') (h0 : u0 = t + 19 ∨ u0 = t + 29 ∨ u0 = t + 39 ∨ u0 = t + 49) (hL : LaP G M a t L F) : LaP G M' a t L F :=
  ⟨hL.1.sim h ⟨by omega, by omega, by omega, by omega⟩, hL.2.1.sim h (by omega), hL.2.2.1.sim h (by omega), fun q hq => (hL.2.2.2.1 q hq).sim h (by omega), fun q hq => (hL.2.2.2.2.1 q hq).sim h (by omega), fun q hq => (hL.2.2.2.2.2 q hq).sim h (by omega)⟩
theorem LaP.row {G : hG} {M M' : hM} {a t u0 : Nat} {L L' : hLy} {F : Nat → hFo} (hL : LaP G M a t L F) (h0 : u0 < t + 10) (hy : LyV G M' a t L') (hA : lyA L' = lyA L) (hR : lyR L' = lyR L) (h : hFr (fun u => u = u0) M M') : LaP G M' a t L' F := by
  refine ⟨hy, ?_, ?_, ?_, ?_, ?_⟩
  · rw [hA]; exact hL.2.1.fr h (fun j hj => by omega)
  · rw [hA]; exact hL.2.2.1.fr h (fun j hj => by omega)
  · rw [hR]; exact fun q hq => (hL.2.2.2.1 q hq).fr h (fun j hj => by omega)
  · rw [hR]; exact fun q hq => (hL.2.2.2.2.1 q hq).fr h (fun j hj => by omega)
  · rw [hR]; exact fun q hq => (hL.2.2.2.2.2 q hq).fr h (fun j hj => by omega)
theorem LaP.put1 {G : hG} {M : hM} {a t : Nat} {L : hLy} {F : Nat → hFo} {N1 : Nat → Nat → Int32} {B1 : Nat → Int64} (hL : LaP G M a t (lyZ L N1 B1) F) (f : Nat → Int32) : LaP G (hup M (lyA L 3) (t + 2, .inl (hT G 0, 10, .inl f))) a t (lyZ L (fun k => if k = 1 then f else N1 k) B1) F ∧ hFr (fun u => u = t + 2) M (hup M (lyA L 3) (t + 2, .inl (hT G 0, 10, .inl f))) := by
  obtain ⟨g0, g1, g2, g3, g4, g5⟩ := id hL.1
  have hf : hFr (fun u => u = t + 2) M (hup M (lyA L 3) (t + 2, .inl (hT G 0, 10, .inl f))) := hFr.put hFr.rf g2 rfl
  exact ⟨hL.row (u0 := t + 2) (by omega) ⟨hf _ _ _ g0 (by omega), hf _ _ _ g1 (by omega), hup_eq, hf _ _ _ g3 (by omega), hf _ _ _ g4 (by omega), hf _ _ _ g5 (by omega)⟩ rfl rfl hf, hf⟩
theorem LaP.put2 {G : hG} {M : hM} {a t : Nat} {L : hLy} {F : Nat → hFo} {N1 : Nat → Nat → Int32} {B1 : Nat → Int64} (hL : LaP G M a t (lyZ L N1 B1) F) (f : Nat → Int32) : LaP G (hup M (lyA L 4) (t + 3, .inl (hT G 0, 10, .inl f))) a t (lyZ L (fun k => if k = 2 then f else N1 k) B1) F ∧ hFr (fun u => u = t + 3) M (hup M (lyA L 4) (t + 3, .inl (hT G 0, 10, .inl f))) := by
  obtain ⟨g0, g1, g2, g3, g4, g5⟩ := id hL.1
  have hf : hFr (fun u => u = t + 3) M (hup M (lyA L 4) (t + 3, .inl (hT G 0, 10, .inl f))) := hFr.put hFr.rf g3 rfl
  exact ⟨hL.row (u0 := t + 3) (by omega) ⟨hf _ _ _ g0 (by omega), hf _ _ _ g1 (by omega), hf _ _ _ g2 (by omega), hup_eq, hf _ _ _ g4 (by omega), hf _ _ _ g5 (by omega)⟩ rfl rfl hf, hf⟩
theorem LaP.put3 {G : hG} {M : hM} {a t : Nat} {L : hLy} {F : Nat → hFo} {N1 : Nat → Nat → Int32} {B1 : Nat → Int64} (hL : LaP G M a t (lyZ L N1 B1) F) (f : Nat → Int32) : LaP G (hup M (lyA L 5) (t + 4, .inl (hT G 0, 10, .inl f))) a t (lyZ L (fun k => if k = 3 then f else N1 k) B1) F ∧ hFr (fun u => u = t + 4) M (hup M (lyA L 5) (t + 4, .inl (hT G 0, 10, .inl f))) := by
  obtain ⟨g0, g1, g2, g3, g4, g5⟩ := id hL.1
  have hf : hFr (fun u => u = t + 4) M (hup M (lyA L 5) (t + 4, .inl (hT G 0, 10, .inl f))) := hFr.put hFr.rf g4 rfl
  exact ⟨hL.row (u0 := t + 4) (by omega) ⟨hf _ _ _ g0 (by omega), hf _ _ _ g1 (by omega), hf _ _ _ g2 (by omega), hf _ _ _ g3 (by omega), hup_eq, hf _ _ _ g5 (by omega)⟩ rfl rfl hf, hf⟩
theorem LaP.putB {G : hG} {M : hM} {a t : Nat} {L : hLy} {F : Nat → hFo} {N1 : Nat → Nat → Int32} {B1 : Nat → Int64} (hL : LaP G M a t (lyZ L N1 B1) F) (f : Nat → Int64) : LaP G (hup M (lyA L 6) (t + 5, .inl (hT G 2, 10, .inr (.inl f)))) a t (lyZ L N1 f) F ∧ hFr (fun u => u = t + 5) M (hup M (lyA L 6) (t + 5, .inl (hT G 2, 10, .inr (.inl f)))) := by
  obtain ⟨g0, g1, g2, g3, g4, g5⟩ := id hL.1
  have hf : hFr (fun u => u = t + 5) M (hup M (lyA L 6) (t + 5, .inl (hT G 2, 10, .inr (.inl f)))) := hFr.put hFr.rf g5 rfl
  exact ⟨hL.row (u0 := t + 5) (by omega) ⟨hf _ _ _ g0 (by omega), hf _ _ _ g1 (by omega), hf _ _ _ g2 (by omega), hf _ _ _ g3 (by omega), hf _ _ _ g4 (by omega), hup_eq⟩ rfl rfl hf, hf⟩
theorem gw_X4_47 : GoodIn hGW (wsV RX4 47 RX4 yX4_value (Cond.code yX4_value cX4_value 7 (Option.some FieldType.int) :: hGW)) := hgi4 kml_X4_47 kin_X4_value kse_X4_X4_value_X4_value kini_X4 kco_X4_value
theorem dX4_valueOfYear_0 : decode cX4_valueOfYear 0 = .ok (.aload_n 0, 1) := by decide +kernel
theorem dX4_valueOfYear_1 : decode cX4_valueOfYear 1 = .ok (.iconst 0, 1) := by decide +kernel
theorem dX4_valueOfYear_2 : decode cX4_valueOfYear 2 = .ok (.iload_n 1, 1) := by decide +kernel
theorem dX4_valueOfYear_3 : decode cX4_valueOfYear 3 = .ok (.iconst 0, 1) := by decide +kernel
theorem dX4_valueOfYear_4 : decode cX4_valueOfYear 4 = .ok (.invokevirtual 47, 3) := by decide +kernel
theorem dX4_valueOfYear_7 : decode cX4_valueOfYear 7 = .ok (.iconst 0, 1) := by decide +kernel
theorem dX4_valueOfYear_8 : decode cX4_valueOfYear 8 = .ok (.invokestatic 13, 3) := by decide +kernel
theorem dX4_valueOfYear_11 : decode cX4_valueOfYear 11 = .ok (.ireturn, 1) := by decide +kernel
set_option maxHeartbeats 400000 in
set_option maxRecDepth 100000 in
theorem c_voy (l : Launch) (G : hG) (M : hM) (a t : Nat) (F : hFo) (hF : FoV G M a t F) (hg : FoG F) (y : Nat) : hCT l G yX4_valueOfYear cX4_valueOfYear 2 (Option.some FieldType.int) (hRm 4 0 0) M [.ref a, .int (nI y)] (fun v M' => v = some (.int (vY F)) ∧ hSim G (fun u => u = t + 9) M M') := by
  refine hCT.of (own := RX4) (nm := "valueOfYear") (by decide) rfl rfl (Nat.le_of_ble_eq_true rfl) ?_
  intro p e s m args below meth c ls X Y hl
  have hx := X.1
  have hb := X.2.1
  have hl : lv_has ls 2 [(0, .ref a), (1, .int (nI y))] := hl
  refine lv_aload_n hx hb dX4_valueOfYear_0 rfl (lv_at hl 0 rfl) ?_
  refine lv_iconst (v := 0) hx hb dX4_valueOfYear_1 (by decide) ?_
  refine lv_iload_n hx hb dX4_valueOfYear_2 rfl (lv_at hl 1 rfl) ?_
  refine lv_iconst (v := 0) hx hb dX4_valueOfYear_3 (by decide) ?_
  refine h_callV (rest := []) X Y (c_value l G M a t F hF hg.1 0 (nI y) 0 (fv F 0 0) (hg.2 0 0)) gw_X4_47 dsc_X4_value hF.1 rfl rfl rfl hl.1 rfl (Nat.le_of_ble_eq_true rfl) ⟨Nat.le_of_ble_eq_true rfl, Nat.le_of_ble_eq_true rfl⟩ ⟨Nat.le_of_ble_eq_true rfl, Nat.le_of_ble_eq_true rfl⟩ dX4_valueOfYear_4 ?_
  rintro _ M1 H locs ⟨rfl, hq⟩ Y
  try dsimp only [Option.toList, List.singleton_append]
  refine lv_iconst (v := 0) hx hb dX4_valueOfYear_7 (by decide) ?_
  refine h_mmax X kml_X4_13 hl.1 (Nat.le_of_ble_eq_true rfl) (Nat.le_of_ble_eq_true rfl) ⟨Nat.le_of_ble_eq_true rfl, Nat.le_of_ble_eq_true rfl⟩ dX4_valueOfYear_8 ?_
  exact h_iret X Y ⟨rfl, hq⟩ (Nat.le_refl _) (Nat.le_refl _) dX4_valueOfYear_11
theorem gw_X5_57 : GoodIn hGW (wsV RX5 57 RX4 yX4_valueOfYear (Cond.code yX4_valueOfYear cX4_valueOfYear 2 (Option.some FieldType.int) :: hGW)) := hgi4 kml_X5_57 kin_X4_valueOfYear kse_X4_X4_valueOfYear_X4_valueOfYear kini_X4 kco_X4_valueOfYear
theorem dsc_X4_valueOfYear : yX4_valueOfYear.cls = RX4 ∧ yX4_valueOfYear.cls ≠ "java/lang/invoke/MethodHandle" ∧ yX4_valueOfYear.cls ≠ "java/lang/invoke/VarHandle" ∧ (parseMethodDescriptor yX4_valueOfYear.desc).map (fun d => d.parameters.length) = some 1 := ⟨rfl, by decide +kernel, by decide +kernel, by decide +kernel⟩
theorem dX5_boundOf_0 : decode cX5_boundOf 0 = .ok (.ldc2_w 67, 3) := by decide +kernel
theorem dX5_boundOf_3 : decode cX5_boundOf 3 = .ok (.lstore_n 2, 1) := by decide +kernel
theorem dX5_boundOf_4 : decode cX5_boundOf 4 = .ok (.aload_n 0, 1) := by decide +kernel
theorem dX5_boundOf_5 : decode cX5_boundOf 5 = .ok (.getfield 9, 3) := by decide +kernel
theorem dX5_boundOf_8 : decode cX5_boundOf 8 = .ok (.ifnull 13, 3) := by decide +kernel
theorem dX5_boundOf_11 : decode cX5_boundOf 11 = .ok (.aload_n 0, 1) := by decide +kernel
theorem dX5_boundOf_12 : decode cX5_boundOf 12 = .ok (.getfield 9, 3) := by decide +kernel
theorem dX5_boundOf_15 : decode cX5_boundOf 15 = .ok (.iload_n 1, 1) := by decide +kernel
theorem dX5_boundOf_16 : decode cX5_boundOf 16 = .ok (.invokevirtual 57, 3) := by decide +kernel
theorem dX5_boundOf_19 : decode cX5_boundOf 19 = .ok (.i2l, 1) := by decide +kernel
theorem dX5_boundOf_20 : decode cX5_boundOf 20 = .ok (.lstore_n 2, 1) := by decide +kernel
theorem dX5_boundOf_21 : decode cX5_boundOf 21 = .ok (.aload_n 0, 1) := by decide +kernel
theorem dX5_boundOf_22 : decode cX5_boundOf 22 = .ok (.getfield 25, 3) := by decide +kernel
theorem dX5_boundOf_25 : decode cX5_boundOf 25 = .ok (.iconst (-1), 1) := by decide +kernel
theorem dX5_boundOf_26 : decode cX5_boundOf 26 = .ok (.if_icmp .eq 40, 3) := by decide +kernel
theorem dX5_boundOf_29 : decode cX5_boundOf 29 = .ok (.aload_n 0, 1) := by decide +kernel
theorem dX5_boundOf_30 : decode cX5_boundOf 30 = .ok (.getfield 38, 3) := by decide +kernel
theorem dX5_boundOf_33 : decode cX5_boundOf 33 = .ok (.iload_n 1, 1) := by decide +kernel
theorem dX5_boundOf_34 : decode cX5_boundOf 34 = .ok (.iaload, 1) := by decide +kernel
theorem dX5_boundOf_35 : decode cX5_boundOf 35 = .ok (.i2l, 1) := by decide +kernel
theorem dX5_boundOf_36 : decode cX5_boundOf 36 = .ok (.iconst 1, 1) := by decide +kernel
theorem dX5_boundOf_37 : decode cX5_boundOf 37 = .ok (.aload_n 0, 1) := by decide +kernel
theorem dX5_boundOf_38 : decode cX5_boundOf 38 = .ok (.getfield 25, 3) := by decide +kernel
theorem dX5_boundOf_41 : decode cX5_boundOf 41 = .ok (.iadd, 1) := by decide +kernel
theorem dX5_boundOf_42 : decode cX5_boundOf 42 = .ok (.i2l, 1) := by decide +kernel
theorem dX5_boundOf_43 : decode cX5_boundOf 43 = .ok (.lmul, 1) := by decide +kernel
theorem dX5_boundOf_44 : decode cX5_boundOf 44 = .ok (.lstore 4, 2) := by decide +kernel
theorem dX5_boundOf_46 : decode cX5_boundOf 46 = .ok (.lload_n 2, 1) := by decide +kernel
theorem dX5_boundOf_47 : decode cX5_boundOf 47 = .ok (.ldc2_w 67, 3) := by decide +kernel
theorem dX5_boundOf_50 : decode cX5_boundOf 50 = .ok (.lcmp, 1) := by decide +kernel
theorem dX5_boundOf_51 : decode cX5_boundOf 51 = .ok (.ifCond .ne 8, 3) := by decide +kernel
theorem dX5_boundOf_54 : decode cX5_boundOf 54 = .ok (.lload 4, 2) := by decide +kernel
theorem dX5_boundOf_56 : decode cX5_boundOf 56 = .ok (.goto 9, 3) := by decide +kernel
theorem dX5_boundOf_59 : decode cX5_boundOf 59 = .ok (.lload_n 2, 1) := by decide +kernel
theorem dX5_boundOf_60 : decode cX5_boundOf 60 = .ok (.lload 4, 2) := by decide +kernel
theorem dX5_boundOf_62 : decode cX5_boundOf 62 = .ok (.invokestatic 69, 3) := by decide +kernel
theorem dX5_boundOf_65 : decode cX5_boundOf 65 = .ok (.lstore_n 2, 1) := by decide +kernel
theorem dX5_boundOf_66 : decode cX5_boundOf 66 = .ok (.lload_n 2, 1) := by decide +kernel
theorem dX5_boundOf_67 : decode cX5_boundOf 67 = .ok (.lreturn, 1) := by decide +kernel
set_option maxHeartbeats 400000 in
set_option maxRecDepth 100000 in
theorem c_boundOf (l : Launch) (G : hG) (M : hM) (a t : Nat) (L : hLy) (F : Nat → hFo) (hLa : LaP G M a t L F) (hg2 : ∀ q, lyR L 0 = some q → FoG (F 2)) (y : Nat) (hy : y < 10) : hCT l G yX5_boundOf cX5_boundOf 6 (Option.some FieldType.long) (hRm 5 0 0) M [.ref a, .int (nI y)] (fun v M' => v = some (.long (vBnd L F (lyN L 1 y))) ∧ hSim G (fun u => u = t + 39) M M') := by
  refine hCT.of (own := RX5) (nm := "boundOf") (by decide) rfl rfl (Nat.le_of_ble_eq_true rfl) ?_
  intro p e s m args below meth c ls X Y hl
  have hx := X.1
  have hb := X.2.1
  have hl : lv_has ls 6 [(0, .ref a), (1, .int (nI y))] := hl
  refine lv_ldc2 hx hb X.2.2.2.2.1 (X.2.2.2.2.2.1 _ kcJ_X5_67) dX5_boundOf_0 ?_
  refine lv_lstore_n (lv' := [(2, .long (-1)), (0, .ref a), (1, .int (nI y))]) hx hb dX5_boundOf_3 rfl hl (by decide) rfl (fun ls hl => ?_)
  refine lv_aload_n hx hb dX5_boundOf_4 rfl (lv_at hl 1 rfl) ?_
  refine h_get X Y (k := 2) (v := va_rf (lyR L 0)) hLa.1.1 rfl hin_X5 (by decide) kfl_X5_9 rfl dX5_boundOf_5 ?_
  cases hq0 : lyR L 0 with
  | none =>
    refine lv_ifnullN (tgt := 21) hx hb dX5_boundOf_8 (by decide) ?_
    have hq : hSim G (fun u => u = t + 39) M M := hSim.rf
    refine lv_aload_n hx hb dX5_boundOf_21 rfl (lv_at hl 1 rfl) ?_
    refine h_get X Y (k := 6) (v := .int (lyI L 1)) hLa.1.1 rfl hin_X5 (by decide) kfl_X5_25 rfl dX5_boundOf_22 ?_
    refine lv_iconst (v := (-1)) hx hb dX5_boundOf_25 (by decide) ?_
    refine lv_icmp_eq (tgt := 66) hx hb dX5_boundOf_26 (by decide) (fun c26 => ?_) (fun c26 => ?_)
    · refine lv_lload_n hx hb dX5_boundOf_66 rfl (lv_at hl 0 rfl) ?_
      exact h_lret X Y ⟨congrArg (fun z => some (Value.long z)) (show vBnd L F (lyN L 1 y) = _ from by unfold vBnd; rw [hq0]; first | exact if_pos c26 | simpa using if_pos c26).symm, hq⟩ (Nat.le_refl _) (Nat.le_refl _) dX5_boundOf_67
    · refine lv_aload_n hx hb dX5_boundOf_29 rfl (lv_at hl 1 rfl) ?_
      refine h_get X Y (k := 10) (v := .ref (lyA L 3)) hLa.1.1 rfl hin_X5 (by decide) kfl_X5_38 rfl dX5_boundOf_30 ?_
      refine lv_iload_n hx hb dX5_boundOf_33 rfl (lv_at hl 2 rfl) ?_
      refine h_iald X Y (i := y) hLa.1.2.2.1 (by omega) (by decide) dX5_boundOf_34 ?_
      refine lv_i2l (v := ((lyN L 1) y).toInt64) hx hb dX5_boundOf_35 rfl ?_
      refine lv_iconst (v := 1) hx hb dX5_boundOf_36 (by decide) ?_
      refine lv_aload_n hx hb dX5_boundOf_37 rfl (lv_at hl 1 rfl) ?_
      refine h_get X Y (k := 6) (v := .int (lyI L 1)) hLa.1.1 rfl hin_X5 (by decide) kfl_X5_25 rfl dX5_boundOf_38 ?_
      refine lv_iadd hx hb dX5_boundOf_41 ?_
      refine lv_i2l (v := (1 + (lyI L 1)).toInt64) hx hb dX5_boundOf_42 rfl ?_
      refine lv_lmul hx hb dX5_boundOf_43 ?_
      refine lv_lstore (lv' := [(4, .long ((((lyN L 1) y).toInt64) * ((1 + (lyI L 1)).toInt64))), (2, .long (-1)), (0, .ref a), (1, .int (nI y))]) hx hb dX5_boundOf_44 hl (by decide) rfl (fun ls hl => ?_)
      refine lv_lload_n hx hb dX5_boundOf_46 rfl (lv_at hl 1 rfl) ?_
      refine lv_ldc2 hx hb X.2.2.2.2.1 (X.2.2.2.2.2.1 _ kcJ_X5_67) dX5_boundOf_47 ?_
      refine W.lcmp hx hb dX5_boundOf_50 ?_
      refine lv_if_ne (tgt := 59) hx hb dX5_boundOf_51 (by decide) (fun c51 => ?_) (fun c51 => ?_)
      · refine lv_lload_n hx hb dX5_boundOf_59 rfl (lv_at hl 1 rfl) ?_
        refine lv_lload hx hb dX5_boundOf_60 (lv_at hl 0 rfl) ?_
        refine h_mminL X kml_X5_69 hl.1 (Nat.le_of_ble_eq_true rfl) (Nat.le_of_ble_eq_true rfl) ⟨Nat.le_of_ble_eq_true rfl, Nat.le_of_ble_eq_true rfl⟩ dX5_boundOf_62 ?_
        refine lv_lstore_n (lv' := [(2, .long (sMinL (-1) ((((lyN L 1) y).toInt64) * ((1 + (lyI L 1)).toInt64)))), (4, .long ((((lyN L 1) y).toInt64) * ((1 + (lyI L 1)).toInt64))), (0, .ref a), (1, .int (nI y))]) hx hb dX5_boundOf_65 rfl hl (by decide) rfl (fun ls hl => ?_)
        refine lv_lload_n hx hb dX5_boundOf_66 rfl (lv_at hl 0 rfl) ?_
        exact h_lret X Y ⟨congrArg (fun z => some (Value.long z)) (show vBnd L F (lyN L 1 y) = _ from by unfold vBnd; rw [hq0]; first | exact (if_neg c26).trans (if_neg (lg_cmp_n c51)) | simpa using (if_neg c26).trans (if_neg (lg_cmp_n c51))).symm, hq⟩ (Nat.le_refl _) (Nat.le_refl _) dX5_boundOf_67
      · refine lv_lload hx hb dX5_boundOf_54 (lv_at hl 0 rfl) ?_
        refine lv_goto (tgt := 65) hx hb dX5_boundOf_56 (by decide) ?_
        refine lv_lstore_n (lv' := [(2, .long ((((lyN L 1) y).toInt64) * ((1 + (lyI L 1)).toInt64))), (4, .long ((((lyN L 1) y).toInt64) * ((1 + (lyI L 1)).toInt64))), (0, .ref a), (1, .int (nI y))]) hx hb dX5_boundOf_65 rfl hl (by decide) rfl (fun ls hl => ?_)
        refine lv_lload_n hx hb dX5_boundOf_66 rfl (lv_at hl 0 rfl) ?_
        exact h_lret X Y ⟨congrArg (fun z => some (Value.long z)) (show vBnd L F (lyN L 1 y) = _ from by unfold vBnd; rw [hq0]; first | exact (if_neg c26).trans (if_pos (lg_cmp_0 c51)) | simpa using (if_neg c26).trans (if_pos (lg_cmp_0 c51))).symm, hq⟩ (Nat.le_refl _) (Nat.le_refl _) dX5_boundOf_67
  | some q =>
    refine lv_ifnull hx hb dX5_boundOf_8 ?_
    refine lv_aload_n hx hb dX5_boundOf_11 rfl (lv_at hl 1 rfl) ?_
    refine h_get X Y (k := 2) (v := va_rf (lyR L 0)) hLa.1.1 rfl hin_X5 (by decide) kfl_X5_9 rfl dX5_boundOf_12 ?_
    refine h_rf hq0 ?_
    refine lv_iload_n hx hb dX5_boundOf_15 rfl (lv_at hl 2 rfl) ?_
    refine h_callV (rest := []) X Y (c_voy l G M q (t + 30) (F 2) (hLa.2.2.2.1 q hq0) (hg2 q hq0) y) gw_X5_57 dsc_X4_valueOfYear (hLa.2.2.2.1 q hq0).1 rfl rfl rfl hl.1 rfl (Nat.le_of_ble_eq_true rfl) ⟨Nat.le_of_ble_eq_true rfl, Nat.le_of_ble_eq_true rfl⟩ ⟨Nat.le_of_ble_eq_true rfl, Nat.le_of_ble_eq_true rfl⟩ dX5_boundOf_16 ?_
    rintro _ M1 H locs ⟨rfl, hq⟩ Y
    try dsimp only [Option.toList, List.singleton_append]
    have hLa := hLa.sim hq (by omega)
    refine lv_i2l (v := (vY (F 2)).toInt64) hx hb dX5_boundOf_19 rfl ?_
    refine lv_lstore_n (lv' := [(2, .long ((vY (F 2)).toInt64)), (0, .ref a), (1, .int (nI y))]) hx hb dX5_boundOf_20 rfl hl (by decide) rfl (fun ls hl => ?_)
    refine lv_aload_n hx hb dX5_boundOf_21 rfl (lv_at hl 1 rfl) ?_
    refine h_get X Y (k := 6) (v := .int (lyI L 1)) hLa.1.1 rfl hin_X5 (by decide) kfl_X5_25 rfl dX5_boundOf_22 ?_
    refine lv_iconst (v := (-1)) hx hb dX5_boundOf_25 (by decide) ?_
    refine lv_icmp_eq (tgt := 66) hx hb dX5_boundOf_26 (by decide) (fun c26 => ?_) (fun c26 => ?_)
    · refine lv_lload_n hx hb dX5_boundOf_66 rfl (lv_at hl 0 rfl) ?_
      exact h_lret X Y ⟨congrArg (fun z => some (Value.long z)) (show vBnd L F (lyN L 1 y) = _ from by unfold vBnd; rw [hq0]; first | exact if_pos c26 | simpa using if_pos c26).symm, hq⟩ (Nat.le_refl _) (Nat.le_refl _) dX5_boundOf_67
    · refine lv_aload_n hx hb dX5_boundOf_29 rfl (lv_at hl 1 rfl) ?_
      refine h_get X Y (k := 10) (v := .ref (lyA L 3)) hLa.1.1 rfl hin_X5 (by decide) kfl_X5_38 rfl dX5_boundOf_30 ?_
      refine lv_iload_n hx hb dX5_boundOf_33 rfl (lv_at hl 2 rfl) ?_
      refine h_iald X Y (i := y) hLa.1.2.2.1 (by omega) (by decide) dX5_boundOf_34 ?_
      refine lv_i2l (v := ((lyN L 1) y).toInt64) hx hb dX5_boundOf_35 rfl ?_
      refine lv_iconst (v := 1) hx hb dX5_boundOf_36 (by decide) ?_
      refine lv_aload_n hx hb dX5_boundOf_37 rfl (lv_at hl 1 rfl) ?_
      refine h_get X Y (k := 6) (v := .int (lyI L 1)) hLa.1.1 rfl hin_X5 (by decide) kfl_X5_25 rfl dX5_boundOf_38 ?_
      refine lv_iadd hx hb dX5_boundOf_41 ?_
      refine lv_i2l (v := (1 + (lyI L 1)).toInt64) hx hb dX5_boundOf_42 rfl ?_
      refine lv_lmul hx hb dX5_boundOf_43 ?_
      refine lv_lstore (lv' := [(4, .long ((((lyN L 1) y).toInt64) * ((1 + (lyI L 1)).toInt64))), (2, .long ((vY (F 2)).toInt64)), (0, .ref a), (1, .int (nI y))]) hx hb dX5_boundOf_44 hl (by decide) rfl (fun ls hl => ?_)
      refine lv_lload_n hx hb dX5_boundOf_46 rfl (lv_at hl 1 rfl) ?_
      refine lv_ldc2 hx hb X.2.2.2.2.1 (X.2.2.2.2.2.1 _ kcJ_X5_67) dX5_boundOf_47 ?_
      refine W.lcmp hx hb dX5_boundOf_50 ?_
      refine lv_if_ne (tgt := 59) hx hb dX5_boundOf_51 (by decide) (fun c51 => ?_) (fun c51 => ?_)
      · refine lv_lload_n hx hb dX5_boundOf_59 rfl (lv_at hl 1 rfl) ?_
        refine lv_lload hx hb dX5_boundOf_60 (lv_at hl 0 rfl) ?_
        refine h_mminL X kml_X5_69 hl.1 (Nat.le_of_ble_eq_true rfl) (Nat.le_of_ble_eq_true rfl) ⟨Nat.le_of_ble_eq_true rfl, Nat.le_of_ble_eq_true rfl⟩ dX5_boundOf_62 ?_
        refine lv_lstore_n (lv' := [(2, .long (sMinL ((vY (F 2)).toInt64) ((((lyN L 1) y).toInt64) * ((1 + (lyI L 1)).toInt64)))), (4, .long ((((lyN L 1) y).toInt64) * ((1 + (lyI L 1)).toInt64))), (0, .ref a), (1, .int (nI y))]) hx hb dX5_boundOf_65 rfl hl (by decide) rfl (fun ls hl => ?_)
        refine lv_lload_n hx hb dX5_boundOf_66 rfl (lv_at hl 0 rfl) ?_
        exact h_lret X Y ⟨congrArg (fun z => some (Value.long z)) (show vBnd L F (lyN L 1 y) = _ from by unfold vBnd; rw [hq0]; first | exact (if_neg c26).trans (if_neg (lg_cmp_n c51)) | simpa using (if_neg c26).trans (if_neg (lg_cmp_n c51))).symm, hq⟩ (Nat.le_refl _) (Nat.le_refl _) dX5_boundOf_67
      · refine lv_lload hx hb dX5_boundOf_54 (lv_at hl 0 rfl) ?_
        refine lv_goto (tgt := 65) hx hb dX5_boundOf_56 (by decide) ?_
        refine lv_lstore_n (lv' := [(2, .long ((((lyN L 1) y).toInt64) * ((1 + (lyI L 1)).toInt64))), (4, .long ((((lyN L 1) y).toInt64) * ((1 + (lyI L 1)).toInt64))), (0, .ref a), (1, .int (nI y))]) hx hb dX5_boundOf_65 rfl hl (by decide) rfl (fun ls hl => ?_)
        refine lv_lload_n hx hb dX5_boundOf_66 rfl (lv_at hl 0 rfl) ?_
        exact h_lret X Y ⟨congrArg (fun z => some (Value.long z)) (show vBnd L F (lyN L 1 y) = _ from by unfold vBnd; rw [hq0]; first | exact (if_neg c26).trans (if_pos (lg_cmp_0 c51)) | simpa using (if_neg c26).trans (if_pos (lg_cmp_0 c51))).symm, hq⟩ (Nat.le_refl _) (Nat.le_refl _) dX5_boundOf_67
theorem gw_X5_63 : GoodIn hGW (wsV RX5 63 RX5 yX5_boundOf (Cond.code yX5_boundOf cX5_boundOf 6 (Option.some FieldType.long) :: hGW)) := hgi4 kml_X5_63 kin_X5_boundOf kse_X5_X5_boundOf_X5_boundOf kini_X5 kco_X5_boundOf
theorem dsc_X5_boundOf : yX5_boundOf.cls = RX5 ∧ yX5_boundOf.cls ≠ "java/lang/invoke/MethodHandle" ∧ yX5_boundOf.cls ≠ "java/lang/invoke/VarHandle" ∧ (parseMethodDescriptor yX5_boundOf.desc).map (fun d => d.parameters.length) = some 1 := ⟨rfl, by decide +kernel, by decide +kernel, by decide +kernel⟩
theorem dX5_settleYears_0 : decode cX5_settleYears 0 = .ok (.iconst 0, 1) := by decide +kernel
theorem dX5_settleYears_1 : decode cX5_settleYears 1 = .ok (.istore_n 1, 1) := by decide +kernel
theorem dX5_settleYears_2 : decode cX5_settleYears 2 = .ok (.iload_n 1, 1) := by decide +kernel
theorem dX5_settleYears_3 : decode cX5_settleYears 3 = .ok (.bipush 10, 2) := by decide +kernel
theorem dX5_settleYears_5 : decode cX5_settleYears 5 = .ok (.if_icmp .ge 73, 3) := by decide +kernel
theorem dX5_settleYears_8 : decode cX5_settleYears 8 = .ok (.aload_n 0, 1) := by decide +kernel
theorem dX5_settleYears_9 : decode cX5_settleYears 9 = .ok (.getfield 38, 3) := by decide +kernel
theorem dX5_settleYears_12 : decode cX5_settleYears 12 = .ok (.iload_n 1, 1) := by decide +kernel
theorem dX5_settleYears_13 : decode cX5_settleYears 13 = .ok (.aload_n 0, 1) := by decide +kernel
theorem dX5_settleYears_14 : decode cX5_settleYears 14 = .ok (.getfield 51, 3) := by decide +kernel
theorem dX5_settleYears_17 : decode cX5_settleYears 17 = .ok (.iload_n 1, 1) := by decide +kernel
theorem dX5_settleYears_18 : decode cX5_settleYears 18 = .ok (.invokevirtual 57, 3) := by decide +kernel
theorem dX5_settleYears_21 : decode cX5_settleYears 21 = .ok (.iastore, 1) := by decide +kernel
theorem dX5_settleYears_22 : decode cX5_settleYears 22 = .ok (.aload_n 0, 1) := by decide +kernel
theorem dX5_settleYears_23 : decode cX5_settleYears 23 = .ok (.getfield 41, 3) := by decide +kernel
theorem dX5_settleYears_26 : decode cX5_settleYears 26 = .ok (.iload_n 1, 1) := by decide +kernel
theorem dX5_settleYears_27 : decode cX5_settleYears 27 = .ok (.aload_n 0, 1) := by decide +kernel
theorem dX5_settleYears_28 : decode cX5_settleYears 28 = .ok (.getfield 54, 3) := by decide +kernel
theorem dX5_settleYears_31 : decode cX5_settleYears 31 = .ok (.iload_n 1, 1) := by decide +kernel
theorem dX5_settleYears_32 : decode cX5_settleYears 32 = .ok (.invokevirtual 57, 3) := by decide +kernel
theorem dX5_settleYears_35 : decode cX5_settleYears 35 = .ok (.iastore, 1) := by decide +kernel
theorem dX5_settleYears_36 : decode cX5_settleYears 36 = .ok (.aload_n 0, 1) := by decide +kernel
theorem dX5_settleYears_37 : decode cX5_settleYears 37 = .ok (.getfield 44, 3) := by decide +kernel
theorem dX5_settleYears_40 : decode cX5_settleYears 40 = .ok (.iload_n 1, 1) := by decide +kernel
theorem dX5_settleYears_41 : decode cX5_settleYears 41 = .ok (.aload_n 0, 1) := by decide +kernel
theorem dX5_settleYears_42 : decode cX5_settleYears 42 = .ok (.getfield 15, 3) := by decide +kernel
theorem dX5_settleYears_45 : decode cX5_settleYears 45 = .ok (.ifnonnull 7, 3) := by decide +kernel
theorem dX5_settleYears_48 : decode cX5_settleYears 48 = .ok (.iconst 0, 1) := by decide +kernel
theorem dX5_settleYears_49 : decode cX5_settleYears 49 = .ok (.goto 11, 3) := by decide +kernel
theorem dX5_settleYears_52 : decode cX5_settleYears 52 = .ok (.aload_n 0, 1) := by decide +kernel
theorem dX5_settleYears_53 : decode cX5_settleYears 53 = .ok (.getfield 15, 3) := by decide +kernel
theorem dX5_settleYears_56 : decode cX5_settleYears 56 = .ok (.iload_n 1, 1) := by decide +kernel
theorem dX5_settleYears_57 : decode cX5_settleYears 57 = .ok (.invokevirtual 57, 3) := by decide +kernel
theorem dX5_settleYears_60 : decode cX5_settleYears 60 = .ok (.iastore, 1) := by decide +kernel
theorem dX5_settleYears_61 : decode cX5_settleYears 61 = .ok (.aload_n 0, 1) := by decide +kernel
theorem dX5_settleYears_62 : decode cX5_settleYears 62 = .ok (.getfield 47, 3) := by decide +kernel
theorem dX5_settleYears_65 : decode cX5_settleYears 65 = .ok (.iload_n 1, 1) := by decide +kernel
theorem dX5_settleYears_66 : decode cX5_settleYears 66 = .ok (.aload_n 0, 1) := by decide +kernel
theorem dX5_settleYears_67 : decode cX5_settleYears 67 = .ok (.iload_n 1, 1) := by decide +kernel
theorem dX5_settleYears_68 : decode cX5_settleYears 68 = .ok (.invokevirtual 63, 3) := by decide +kernel
theorem dX5_settleYears_71 : decode cX5_settleYears 71 = .ok (.lastore, 1) := by decide +kernel
theorem dX5_settleYears_72 : decode cX5_settleYears 72 = .ok (.iinc 1 1, 3) := by decide +kernel
theorem dX5_settleYears_75 : decode cX5_settleYears 75 = .ok (.goto (-73), 3) := by decide +kernel
theorem dX5_settleYears_78 : decode cX5_settleYears 78 = .ok (.return_, 1) := by decide +kernel
set_option maxHeartbeats 400000 in
set_option maxRecDepth 100000 in
theorem c_settle (l : Launch) (G : hG) (M : hM) (a t : Nat) (L : hLy) (F : Nat → hFo) (hLa0 : LaP G M a t L F) (hg0 : FoG (F 0)) (hg1 : FoG (F 1)) (hg2 : ∀ q, lyR L 0 = some q → FoG (F 2)) (hg3 : ∀ q, lyR L 1 = some q → FoG (F 3)) : hCT l G yX5_settleYears cX5_settleYears 2 (Option.none) (hRm 6 0 0) M [.ref a] (fun v M' => v = none ∧ ∃ N1 B1, LaP G M' a t (lyZ L N1 B1) F ∧ N1 0 = lyN L 0 ∧ (∀ y, y < 10 → N1 1 y = vY (F 0) ∧ N1 2 y = vY (F 1) ∧ N1 3 y = vAft L F ∧ B1 y = vBnd L F (vY (F 0))) ∧ hFr (fun u => t ≤ u ∧ u < t + 100) M M') := by
  refine hCT.of (own := RX5) (nm := "settleYears") (by decide) rfl rfl (Nat.le_of_ble_eq_true rfl) ?_
  intro p e s m args below meth c ls X Y hl
  have hx := X.1
  have hb := X.2.1
  have hl : lv_has ls 2 [(0, .ref a)] := hl
  have hLa : LaP G M a t (lyZ L (lyN L) (lyB L)) F := hLa0
  refine lv_iconst (v := 0) hx hb dX5_settleYears_0 (by decide) ?_
  refine lv_istore_n (lv' := [(1, .int 0), (0, .ref a)]) hx hb dX5_settleYears_1 rfl hl (by decide) rfl (fun ls hl => ?_)
  have loop : ∀ (d y : Nat), y + d = 11 → y ≤ 10 → ∀ (M1 : hM) (N1 : Nat → Nat → Int32) (B1 : Nat → Int64), LaP G M1 a t (lyZ L N1 B1) F → N1 0 = lyN L 0 → (∀ j, j < y → N1 1 j = vY (F 0) ∧ N1 2 j = vY (F 1) ∧ N1 3 j = vAft L F ∧ B1 j = vBnd L F (vY (F 0))) → hFr (fun u => t ≤ u ∧ u < t + 100) M M1 → ∀ (H : Heap) (locs : List Loc) (ls : Array Slot), hHS G M1 s H locs → lv_has ls 2 [(0, .ref a), (1, .int (nI y))] → W p l e (hRm 6 0 0) s m args below meth c H locs 0 0 (MQ below (hQ G (fun v M' => v = none ∧ ∃ N1 B1, LaP G M' a t (lyZ L N1 B1) F ∧ N1 0 = lyN L 0 ∧ (∀ y, y < 10 → N1 1 y = vY (F 0) ∧ N1 2 y = vY (F 1) ∧ N1 3 y = vAft L F ∧ B1 y = vBnd L F (vY (F 0))) ∧ hFr (fun u => t ≤ u ∧ u < t + 100) M M')) args s 0 0 (hA G)) (F0 m 2 ls []) := by
    intro d
    induction d with
    | zero => intro y h1; intros; exact absurd h1 (by omega)
    | succ d ih =>
      intro y h1 h2 M1 N1 B1 hLa hN0 hz hfr H locs ls Y hl
      refine lv_iload_n hx hb dX5_settleYears_2 rfl (lv_at hl 1 rfl) ?_
      refine lv_bipush (v := 10) hx hb dX5_settleYears_3 (by decide) ?_
      refine lv_icmp_ge (tgt := 78) hx hb dX5_settleYears_5 (by decide) (fun c5 => ?_) (fun c5 => ?_)
      · have c5 : 10 ≤ y := (nI_leI (a := 10) (b := y) (by omega) (by omega)).mp c5
        obtain rfl : y = 10 := by omega
        exact h_vret X Y ⟨rfl, N1, B1, hLa, hN0, hz, hfr⟩ (Nat.le_refl _) (Nat.le_refl _) dX5_settleYears_78
      · have c5 : ¬ 10 ≤ y := fun z9 => c5 ((nI_leI (a := 10) (b := y) (by omega) (by omega)).mpr z9)
        refine lv_aload_n hx hb dX5_settleYears_8 rfl (lv_at hl 0 rfl) ?_
        refine h_get X Y (k := 10) (v := .ref (lyA L 3)) hLa.1.1 rfl hin_X5 (by decide) kfl_X5_38 rfl dX5_settleYears_9 ?_
        refine lv_iload_n hx hb dX5_settleYears_12 rfl (lv_at hl 1 rfl) ?_
        refine lv_aload_n hx hb dX5_settleYears_13 rfl (lv_at hl 0 rfl) ?_
        refine h_get X Y (k := 0) (v := .ref (lyA L 0)) hLa.1.1 rfl hin_X5 (by decide) kfl_X5_51 rfl dX5_settleYears_14 ?_
        refine lv_iload_n hx hb dX5_settleYears_17 rfl (lv_at hl 1 rfl) ?_
        refine h_callV (rest := [.int (nI y), .ref (lyA L 3)]) X Y (c_voy l G M1 (lyA L 0) (t + 10) (F 0) hLa.2.1 hg0 y) gw_X5_57 dsc_X4_valueOfYear hLa.2.1.1 rfl rfl rfl hl.1 rfl (Nat.le_of_ble_eq_true rfl) ⟨Nat.le_of_ble_eq_true rfl, Nat.le_of_ble_eq_true rfl⟩ ⟨Nat.le_of_ble_eq_true rfl, Nat.le_of_ble_eq_true rfl⟩ dX5_settleYears_18 ?_
        rintro _ M1 H locs ⟨rfl, hq⟩ Y
        try dsimp only [Option.toList, List.singleton_append]
        have hLa := hLa.sim hq (by omega)
        have hfr := hFr.sim hfr hq (fun u z => by omega)
        refine h_iast X Y (i := y) hLa.1.2.2.1 (by omega) (by decide) dX5_settleYears_21 (fun H locs Y => ?_)
        obtain ⟨hLa, hfp⟩ := hLa.put1 (upd (N1 1) y (vY (F 0)))
        have hfr := hFr.tr hfr (hfp.mono (fun u z => by omega))
        have Y : hHS G (hup M1 (lyA L 3) (t + 2, .inl (hT G 0, 10, .inl (upd (N1 1) y (vY (F 0)))))) s H locs := Y
        generalize hup M1 (lyA L 3) (t + 2, .inl (hT G 0, 10, .inl (upd (N1 1) y (vY (F 0))))) = M2 at Y hLa hfp hfr
        refine lv_aload_n hx hb dX5_settleYears_22 rfl (lv_at hl 0 rfl) ?_
        refine h_get X Y (k := 11) (v := .ref (lyA L 4)) hLa.1.1 rfl hin_X5 (by decide) kfl_X5_41 rfl dX5_settleYears_23 ?_
        refine lv_iload_n hx hb dX5_settleYears_26 rfl (lv_at hl 1 rfl) ?_
        refine lv_aload_n hx hb dX5_settleYears_27 rfl (lv_at hl 0 rfl) ?_
        refine h_get X Y (k := 1) (v := .ref (lyA L 1)) hLa.1.1 rfl hin_X5 (by decide) kfl_X5_54 rfl dX5_settleYears_28 ?_
        refine lv_iload_n hx hb dX5_settleYears_31 rfl (lv_at hl 1 rfl) ?_
        refine h_callV (rest := [.int (nI y), .ref (lyA L 4)]) X Y (c_voy l G M2 (lyA L 1) (t + 20) (F 1) hLa.2.2.1 hg1 y) gw_X5_57 dsc_X4_valueOfYear hLa.2.2.1.1 rfl rfl rfl hl.1 rfl (Nat.le_of_ble_eq_true rfl) ⟨Nat.le_of_ble_eq_true rfl, Nat.le_of_ble_eq_true rfl⟩ ⟨Nat.le_of_ble_eq_true rfl, Nat.le_of_ble_eq_true rfl⟩ dX5_settleYears_32 ?_
        rintro _ M3 H locs ⟨rfl, hq⟩ Y
        try dsimp only [Option.toList, List.singleton_append]
        have hLa := hLa.sim hq (by omega)
        have hfr := hFr.sim hfr hq (fun u z => by omega)
        refine h_iast X Y (i := y) hLa.1.2.2.2.1 (by omega) (by decide) dX5_settleYears_35 (fun H locs Y => ?_)
        obtain ⟨hLa, hfp⟩ := hLa.put2 (upd (N1 2) y (vY (F 1)))
        have hfr := hFr.tr hfr (hfp.mono (fun u z => by omega))
        have Y : hHS G (hup M3 (lyA L 4) (t + 3, .inl (hT G 0, 10, .inl (upd (N1 2) y (vY (F 1)))))) s H locs := Y
        generalize hup M3 (lyA L 4) (t + 3, .inl (hT G 0, 10, .inl (upd (N1 2) y (vY (F 1))))) = M4 at Y hLa hfp hfr
        refine lv_aload_n hx hb dX5_settleYears_36 rfl (lv_at hl 0 rfl) ?_
        refine h_get X Y (k := 12) (v := .ref (lyA L 5)) hLa.1.1 rfl hin_X5 (by decide) kfl_X5_44 rfl dX5_settleYears_37 ?_
        refine lv_iload_n hx hb dX5_settleYears_40 rfl (lv_at hl 1 rfl) ?_
        refine lv_aload_n hx hb dX5_settleYears_41 rfl (lv_at hl 0 rfl) ?_
        refine h_get X Y (k := 3) (v := va_rf (lyR L 1)) hLa.1.1 rfl hin_X5 (by decide) kfl_X5_15 rfl dX5_settleYears_42 ?_
        cases hq1 : lyR L 1 with
        | none =>
          refine lv_ifnonnullN hx hb dX5_settleYears_45 ?_
          refine lv_iconst (v := 0) hx hb dX5_settleYears_48 (by decide) ?_
          refine h_ev (y := vAft L F) (show _ = (if lyR L 1 = none then (0 : Int32) else vY (F 3)) from by rw [hq1]; rfl) ?_
          refine lv_goto (tgt := 60) hx hb dX5_settleYears_49 (by decide) ?_
          refine h_iast X Y (i := y) hLa.1.2.2.2.2.1 (by omega) (by decide) dX5_settleYears_60 (fun H locs Y => ?_)
          obtain ⟨hLa, hfp⟩ := hLa.put3 (upd (N1 3) y (vAft L F))
          have hfr := hFr.tr hfr (hfp.mono (fun u z => by omega))
          have Y : hHS G (hup M4 (lyA L 5) (t + 4, .inl (hT G 0, 10, .inl (upd (N1 3) y (vAft L F))))) s H locs := Y
          generalize hup M4 (lyA L 5) (t + 4, .inl (hT G 0, 10, .inl (upd (N1 3) y (vAft L F)))) = M5 at Y hLa hfp hfr
          refine lv_aload_n hx hb dX5_settleYears_61 rfl (lv_at hl 0 rfl) ?_
          refine h_get X Y (k := 13) (v := .ref (lyA L 6)) hLa.1.1 rfl hin_X5 (by decide) kfl_X5_47 rfl dX5_settleYears_62 ?_
          refine lv_iload_n hx hb dX5_settleYears_65 rfl (lv_at hl 1 rfl) ?_
          refine lv_aload_n hx hb dX5_settleYears_66 rfl (lv_at hl 0 rfl) ?_
          refine lv_iload_n hx hb dX5_settleYears_67 rfl (lv_at hl 1 rfl) ?_
          refine h_callV (rest := [.int (nI y), .ref (lyA L 6)]) X Y (c_boundOf l G M5 a t _ F hLa hg2 y (by omega)) gw_X5_63 dsc_X5_boundOf hLa.1.1 rfl rfl rfl hl.1 rfl (Nat.le_of_ble_eq_true rfl) ⟨Nat.le_of_ble_eq_true rfl, Nat.le_of_ble_eq_true rfl⟩ ⟨Nat.le_of_ble_eq_true rfl, Nat.le_of_ble_eq_true rfl⟩ dX5_settleYears_68 ?_
          rintro _ M6 H locs ⟨rfl, hq⟩ Y
          try dsimp only [Option.toList, List.singleton_append]
          refine h_evL (y := vBnd L F (vY (F 0))) (congrArg (vBnd L F) (show upd (N1 1) y (vY (F 0)) y = vY (F 0) from pk_us)) ?_
          have hLa := hLa.sim hq (by omega)
          have hfr := hFr.sim hfr hq (fun u z => by omega)
          refine h_last X Y (i := y) hLa.1.2.2.2.2.2 (by omega) (by decide) dX5_settleYears_71 (fun H locs Y => ?_)
          obtain ⟨hLa, hfp⟩ := hLa.putB (vp_updL B1 y (vBnd L F (vY (F 0))))
          have hfr := hFr.tr hfr (hfp.mono (fun u z => by omega))
          have Y : hHS G (hup M6 (lyA L 6) (t + 5, .inl (hT G 2, 10, .inr (.inl (vp_updL B1 y (vBnd L F (vY (F 0)))))))) s H locs := Y
          generalize hup M6 (lyA L 6) (t + 5, .inl (hT G 2, 10, .inr (.inl (vp_updL B1 y (vBnd L F (vY (F 0))))))) = M7 at Y hLa hfp hfr
          refine lv_iinc (v := nI (y + 1)) (lv' := [(1, .int (nI (y + 1))), (0, .ref a)]) hx hb dX5_settleYears_72 hl (k := 1) rfl (nI_1 y) (by decide) rfl (fun ls hl => ?_)
          refine lv_goto (tgt := 2) hx hb dX5_settleYears_75 (by decide) ?_
          refine ih (y + 1) (by omega) (by omega) M7 _ _ hLa hN0 (fun j hj => ?_) hfr _ _ _ Y (lv_sub hl [1, 0] rfl)
          by_cases e9 : j = y
          · subst e9; exact ⟨pk_us, pk_us, pk_us, pk_uLs⟩
          · obtain ⟨k1, k2, k3, k4⟩ := hz j (by omega); exact ⟨(pk_un e9).trans k1, (pk_un e9).trans k2, (pk_un e9).trans k3, (pk_uLn e9).trans k4⟩
        | some q =>
          refine lv_ifnonnull (tgt := 52) hx hb dX5_settleYears_45 (by decide) ?_
          refine lv_aload_n hx hb dX5_settleYears_52 rfl (lv_at hl 0 rfl) ?_
          refine h_get X Y (k := 3) (v := va_rf (lyR L 1)) hLa.1.1 rfl hin_X5 (by decide) kfl_X5_15 rfl dX5_settleYears_53 ?_
          refine h_rf hq1 ?_
          refine lv_iload_n hx hb dX5_settleYears_56 rfl (lv_at hl 1 rfl) ?_
          refine h_callV (rest := [.int (nI y), .ref (lyA L 5)]) X Y (c_voy l G M4 q (t + 40) (F 3) (hLa.2.2.2.2.1 q hq1) (hg3 q hq1) y) gw_X5_57 dsc_X4_valueOfYear (hLa.2.2.2.2.1 q hq1).1 rfl rfl rfl hl.1 rfl (Nat.le_of_ble_eq_true rfl) ⟨Nat.le_of_ble_eq_true rfl, Nat.le_of_ble_eq_true rfl⟩ ⟨Nat.le_of_ble_eq_true rfl, Nat.le_of_ble_eq_true rfl⟩ dX5_settleYears_57 ?_
          rintro _ M8 H locs ⟨rfl, hq⟩ Y
          try dsimp only [Option.toList, List.singleton_append]
          have hLa := hLa.sim hq (by omega)
          have hfr := hFr.sim hfr hq (fun u z => by omega)
          refine h_ev (y := vAft L F) (show _ = (if lyR L 1 = none then (0 : Int32) else vY (F 3)) from by rw [hq1]; rfl) ?_
          refine h_iast X Y (i := y) hLa.1.2.2.2.2.1 (by omega) (by decide) dX5_settleYears_60 (fun H locs Y => ?_)
          obtain ⟨hLa, hfp⟩ := hLa.put3 (upd (N1 3) y (vAft L F))
          have hfr := hFr.tr hfr (hfp.mono (fun u z => by omega))
          have Y : hHS G (hup M8 (lyA L 5) (t + 4, .inl (hT G 0, 10, .inl (upd (N1 3) y (vAft L F))))) s H locs := Y
          generalize hup M8 (lyA L 5) (t + 4, .inl (hT G 0, 10, .inl (upd (N1 3) y (vAft L F)))) = M9 at Y hLa hfp hfr
          refine lv_aload_n hx hb dX5_settleYears_61 rfl (lv_at hl 0 rfl) ?_
          refine h_get X Y (k := 13) (v := .ref (lyA L 6)) hLa.1.1 rfl hin_X5 (by decide) kfl_X5_47 rfl dX5_settleYears_62 ?_
          refine lv_iload_n hx hb dX5_settleYears_65 rfl (lv_at hl 1 rfl) ?_
          refine lv_aload_n hx hb dX5_settleYears_66 rfl (lv_at hl 0 rfl) ?_
          refine lv_iload_n hx hb dX5_settleYears_67 rfl (lv_at hl 1 rfl) ?_
          refine h_callV (rest := [.int (nI y), .ref (lyA L 6)]) X Y (c_boundOf l G M9 a t _ F hLa hg2 y (by omega)) gw_X5_63 dsc_X5_boundOf hLa.1.1 rfl rfl rfl hl.1 rfl (Nat.le_of_ble_eq_true rfl) ⟨Nat.le_of_ble_eq_true rfl, Nat.le_of_ble_eq_true rfl⟩ ⟨Nat.le_of_ble_eq_true rfl, Nat.le_of_ble_eq_true rfl⟩ dX5_settleYears_68 ?_
          rintro _ M10 H locs ⟨rfl, hq⟩ Y
          try dsimp only [Option.toList, List.singleton_append]
          refine h_evL (y := vBnd L F (vY (F 0))) (congrArg (vBnd L F) (show upd (N1 1) y (vY (F 0)) y = vY (F 0) from pk_us)) ?_
          have hLa := hLa.sim hq (by omega)
          have hfr := hFr.sim hfr hq (fun u z => by omega)
          refine h_last X Y (i := y) hLa.1.2.2.2.2.2 (by omega) (by decide) dX5_settleYears_71 (fun H locs Y => ?_)
          obtain ⟨hLa, hfp⟩ := hLa.putB (vp_updL B1 y (vBnd L F (vY (F 0))))
          have hfr := hFr.tr hfr (hfp.mono (fun u z => by omega))
          have Y : hHS G (hup M10 (lyA L 6) (t + 5, .inl (hT G 2, 10, .inr (.inl (vp_updL B1 y (vBnd L F (vY (F 0)))))))) s H locs := Y
          generalize hup M10 (lyA L 6) (t + 5, .inl (hT G 2, 10, .inr (.inl (vp_updL B1 y (vBnd L F (vY (F 0))))))) = M11 at Y hLa hfp hfr
          refine lv_iinc (v := nI (y + 1)) (lv' := [(1, .int (nI (y + 1))), (0, .ref a)]) hx hb dX5_settleYears_72 hl (k := 1) rfl (nI_1 y) (by decide) rfl (fun ls hl => ?_)
          refine lv_goto (tgt := 2) hx hb dX5_settleYears_75 (by decide) ?_
          refine ih (y + 1) (by omega) (by omega) M11 _ _ hLa hN0 (fun j hj => ?_) hfr _ _ _ Y (lv_sub hl [1, 0] rfl)
          by_cases e9 : j = y
          · subst e9; exact ⟨pk_us, pk_us, pk_us, pk_uLs⟩
          · obtain ⟨k1, k2, k3, k4⟩ := hz j (by omega); exact ⟨(pk_un e9).trans k1, (pk_un e9).trans k2, (pk_un e9).trans k3, (pk_uLn e9).trans k4⟩
  exact loop 11 0 (by omega) (by omega) M _ _ hLa rfl (fun j z9 => absurd z9 (by omega)) hFr.rf _ _ _ Y (lv_sub hl [1, 0] rfl)
theorem dJx4a65c_clear_da8c8_0 : decode cJx4a65c_clear_da8c8 0 = .ok (.aload_n 0, 1) := by decide +kernel
theorem dJx4a65c_clear_da8c8_1 : decode cJx4a65c_clear_da8c8 1 = .ok (.dup, 1) := by decide +kernel
theorem dJx4a65c_clear_da8c8_2 : decode cJx4a65c_clear_da8c8 2 = .ok (.getfield 63, 3) := by decide +kernel
theorem dJx4a65c_clear_da8c8_5 : decode cJx4a65c_clear_da8c8 5 = .ok (.iconst 1, 1) := by decide +kernel
theorem dJx4a65c_clear_da8c8_6 : decode cJx4a65c_clear_da8c8 6 = .ok (.iadd, 1) := by decide +kernel
theorem dJx4a65c_clear_da8c8_7 : decode cJx4a65c_clear_da8c8 7 = .ok (.putfield 63, 3) := by decide +kernel
theorem dJx4a65c_clear_da8c8_10 : decode cJx4a65c_clear_da8c8 10 = .ok (.aload_n 0, 1) := by decide +kernel
theorem dJx4a65c_clear_da8c8_11 : decode cJx4a65c_clear_da8c8 11 = .ok (.getfield 9, 3) := by decide +kernel
theorem dJx4a65c_clear_da8c8_14 : decode cJx4a65c_clear_da8c8 14 = .ok (.astore_n 1, 1) := by decide +kernel
theorem dJx4a65c_clear_da8c8_15 : decode cJx4a65c_clear_da8c8 15 = .ok (.aload_n 0, 1) := by decide +kernel
theorem dJx4a65c_clear_da8c8_16 : decode cJx4a65c_clear_da8c8 16 = .ok (.getfield 48, 3) := by decide +kernel
theorem dJx4a65c_clear_da8c8_19 : decode cJx4a65c_clear_da8c8 19 = .ok (.istore_n 2, 1) := by decide +kernel
theorem dJx4a65c_clear_da8c8_20 : decode cJx4a65c_clear_da8c8 20 = .ok (.aload_n 0, 1) := by decide +kernel
theorem dJx4a65c_clear_da8c8_21 : decode cJx4a65c_clear_da8c8 21 = .ok (.iconst 0, 1) := by decide +kernel
theorem dJx4a65c_clear_da8c8_22 : decode cJx4a65c_clear_da8c8 22 = .ok (.dup_x1, 1) := by decide +kernel
theorem dJx4a65c_clear_da8c8_23 : decode cJx4a65c_clear_da8c8 23 = .ok (.putfield 48, 3) := by decide +kernel
theorem dJx4a65c_clear_da8c8_26 : decode cJx4a65c_clear_da8c8 26 = .ok (.istore_n 3, 1) := by decide +kernel
theorem dJx4a65c_clear_da8c8_27 : decode cJx4a65c_clear_da8c8 27 = .ok (.iload_n 3, 1) := by decide +kernel
theorem dJx4a65c_clear_da8c8_28 : decode cJx4a65c_clear_da8c8 28 = .ok (.iload_n 2, 1) := by decide +kernel
theorem dJx4a65c_clear_da8c8_29 : decode cJx4a65c_clear_da8c8 29 = .ok (.if_icmp .ge 13, 3) := by decide +kernel
theorem dJx4a65c_clear_da8c8_42 : decode cJx4a65c_clear_da8c8 42 = .ok (.return_, 1) := by decide +kernel
set_option maxHeartbeats 400000 in
set_option maxRecDepth 100000 in
theorem c_clear (l : Launch) (G : hG) (M : hM) (a t e0 : Nat) (mc : Int32) (ho : M a = some (t, .inr (2, [.int mc, .ref e0, .int 0]))) : hCT l G yJx4a65c_clear_da8c8 cJx4a65c_clear_da8c8 4 (Option.none) (hRm 1 0 0) M [.ref a] (fun v M' => v = none ∧ M' a = some (t, .inr (2, [.int (mc + 1), .ref e0, .int 0])) ∧ hFr (fun u => u = t) M M') := by
  refine hCT.of (own := RJx4a65c) (nm := "clear") (by decide) rfl rfl (Nat.le_of_ble_eq_true rfl) ?_
  intro p e s m args below meth c ls X Y hl
  have hx := X.1
  have hb := X.2.1
  have hl : lv_has ls 4 [(0, .ref a)] := hl
  have hfr : hFr (fun u => u = t) M M := hFr.rf
  refine lv_aload_n hx hb dJx4a65c_clear_da8c8_0 rfl (lv_at hl 0 rfl) ?_
  refine lv_dup hx hb dJx4a65c_clear_da8c8_1 rfl ?_
  refine h_getS X Y (k := 0) (v := .int mc) ho rfl hin_Jx4a65c (by decide) kfl_Jx4a65c_63 ksf_Jx4a65c_modCount rfl dJx4a65c_clear_da8c8_2 ?_
  refine lv_iconst (v := 1) hx hb dJx4a65c_clear_da8c8_5 (by decide) ?_
  refine lv_iadd hx hb dJx4a65c_clear_da8c8_6 ?_
  refine h_putS X Y (k := 0) (v := .int (mc + 1)) ho rfl hin_Jx4a65c tyJx4a65c_ok nmJx4a65c (by decide) kfl_Jx4a65c_63 ksf_Jx4a65c_modCount rfl rfl rfl (Nat.le_of_ble_eq_true rfl) dJx4a65c_clear_da8c8_7 (fun H locs Y => ?_)
  have Y : hHS G (hup M a (t, .inr (2, [.int (mc + 1), .ref e0, .int 0]))) s H locs := Y
  have hfr := hfr.put (x := (t, .inr (2, [.int (mc + 1), .ref e0, .int 0]))) ho rfl
  have ho : hup M a (t, .inr (2, [.int (mc + 1), .ref e0, .int 0])) a = some (t, .inr (2, [.int (mc + 1), .ref e0, .int 0])) := hup_eq
  generalize hup M a (t, .inr (2, [.int (mc + 1), .ref e0, .int 0])) = Mz1 at Y ho hfr
  refine lv_aload_n hx hb dJx4a65c_clear_da8c8_10 rfl (lv_at hl 0 rfl) ?_
  refine h_get X Y (k := 1) (v := .ref e0) ho rfl hin_Jx4a65c (by decide) kfl_Jx4a65c_9 rfl dJx4a65c_clear_da8c8_11 ?_
  refine lv_astore_n (lv' := [(1, .ref e0), (0, .ref a)]) hx hb dJx4a65c_clear_da8c8_14 rfl hl (by decide) rfl (fun ls hl => ?_)
  refine lv_aload_n hx hb dJx4a65c_clear_da8c8_15 rfl (lv_at hl 1 rfl) ?_
  refine h_get X Y (k := 2) (v := .int 0) ho rfl hin_Jx4a65c (by decide) kfl_Jx4a65c_48 rfl dJx4a65c_clear_da8c8_16 ?_
  refine lv_istore_n (lv' := [(2, .int 0), (1, .ref e0), (0, .ref a)]) hx hb dJx4a65c_clear_da8c8_19 rfl hl (by decide) rfl (fun ls hl => ?_)
  refine lv_aload_n hx hb dJx4a65c_clear_da8c8_20 rfl (lv_at hl 2 rfl) ?_
  refine lv_iconst (v := 0) hx hb dJx4a65c_clear_da8c8_21 (by decide) ?_
  refine lv_dup_x1 hx hb dJx4a65c_clear_da8c8_22 rfl rfl ?_
  refine h_put X Y (k := 2) (v := .int 0) ho rfl hin_Jx4a65c tyJx4a65c_ok nmJx4a65c (by decide) kfl_Jx4a65c_48 rfl rfl rfl (Nat.le_of_ble_eq_true rfl) dJx4a65c_clear_da8c8_23 (fun H locs Y => ?_)
  have Y : hHS G (hup Mz1 a (t, .inr (2, [.int (mc + 1), .ref e0, .int 0]))) s H locs := Y
  have hfr := hfr.put (x := (t, .inr (2, [.int (mc + 1), .ref e0, .int 0]))) ho rfl
  have ho : hup Mz1 a (t, .inr (2, [.int (mc + 1), .ref e0, .int 0])) a = some (t, .inr (2, [.int (mc + 1), .ref e0, .int 0])) := hup_eq
  generalize hup Mz1 a (t, .inr (2, [.int (mc + 1), .ref e0, .int 0])) = Mz2 at Y ho hfr
  refine lv_istore_n (lv' := [(3, .int 0), (2, .int 0), (1, .ref e0), (0, .ref a)]) hx hb dJx4a65c_clear_da8c8_26 rfl hl (by decide) rfl (fun ls hl => ?_)
  refine lv_iload_n hx hb dJx4a65c_clear_da8c8_27 rfl (lv_at hl 0 rfl) ?_
  refine lv_iload_n hx hb dJx4a65c_clear_da8c8_28 rfl (lv_at hl 1 rfl) ?_
  refine lv_icmp_ge (tgt := 42) hx hb dJx4a65c_clear_da8c8_29 (by decide) (fun c29 => ?_) (fun c29 => absurd (by decide) c29)
  exact h_vret X Y ⟨rfl, ho, hfr⟩ (Nat.le_of_ble_eq_true rfl) (Nat.le_of_ble_eq_true rfl) dJx4a65c_clear_da8c8_42
