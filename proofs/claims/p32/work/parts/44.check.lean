-- NAMES AND NUMBERS ARE LOOKED AT
def lyU (L : hLy) (j : Nat) (x : Int32) : hLy := (lyA L, lyR L, upd (lyI L) j x, lyN L, lyB L)
def lyX (L : hLy) (x : Int32) : hLy := (lyA L, lyR L, upd (lyI L) 2 (nI 1), fun k => if k = 0 then upd (lyN L 0) 0 x else lyN L k, lyB L)
def lyNt (L : hLy) (j : Nat) : hLy := lyU L 3 (lyI L 3 ||| ((1 : Int32) <<< (nI j &&& 31)))
theorem LaP.upd {G : hG} {M M' : hM} {a t : Nat} {L L' : hLy} {F : Nat → hFo} (hL : LaP G M a t L F) (hy : LyV G M' a t L') (hA : lyA L' = lyA L) (hR : lyR L' = lyR L) (h : hFr (fun u => t ≤ u ∧ u < t + 10) M M') : LaP G M' a t L' F := by
  refine ⟨hy, ?_, ?_, ?_, ?_, ?_⟩
  · rw [hA]; exact hL.2.1.fr h (fun j hj => by omega)
  · rw [hA]; exact hL.2.2.1.fr h (fun j hj => by omega)
  · rw [hR]; exact fun q hq => (hL.2.2.2.1 q hq).fr h (fun j hj => by omega)
  · rw [hR]; exact fun q hq => (hL.2.2.2.2.1 q hq).fr h (fun j hj => by omega)
  · rw [hR]; exact fun q hq => (hL.2.2.2.2.2 q hq).fr h (fun j hj => by omega)
theorem sw_out : ∀ k, k < 38 → k ≠ 2 → k ≠ 5 → k ≠ 6 → (swV k).toInt < 17 ∨ 19 < (swV k).toInt := by decide +kernel
theorem gu_X2_80 : GoodIn hGW (va_wsU RX2 80 "LossHouse$Sign" "java/lang/Enum" ⟨"LossHouse$Sign", "ordinal", "()I"⟩ yJx29ce0_ordinal_8abf5 (Cond.code yJx29ce0_ordinal_8abf5 cJx29ce0_ordinal_8abf5 1 (some .int) :: hGW)) := hgi5 kml_X2_80 ksm_X7_ordinal__I kse_X7_ZLossHouse_Sign_ordinal___I_Jx29ce0_ordinal_8abf5 kin_Jx29ce0_ordinal_8abf5 kini_Jx29ce0 kco_Jx29ce0_ordinal_8abf5
theorem dX2_layerNamed_0 : decode cX2_layerNamed 0 = .ok (.iconst 0, 1) := by decide +kernel
theorem dX2_layerNamed_1 : decode cX2_layerNamed 1 = .ok (.istore 4, 2) := by decide +kernel
theorem dX2_layerNamed_3 : decode cX2_layerNamed 3 = .ok (.iload 4, 2) := by decide +kernel
theorem dX2_layerNamed_5 : decode cX2_layerNamed 5 = .ok (.iload_n 3, 1) := by decide +kernel
theorem dX2_layerNamed_6 : decode cX2_layerNamed 6 = .ok (.if_icmp .ge 34, 3) := by decide +kernel
theorem dX2_layerNamed_9 : decode cX2_layerNamed 9 = .ok (.iload 4, 2) := by decide +kernel
theorem dX2_layerNamed_11 : decode cX2_layerNamed 11 = .ok (.aload_n 0, 1) := by decide +kernel
theorem dX2_layerNamed_12 : decode cX2_layerNamed 12 = .ok (.getfield 9, 3) := by decide +kernel
theorem dX2_layerNamed_15 : decode cX2_layerNamed 15 = .ok (.arraylength, 1) := by decide +kernel
theorem dX2_layerNamed_16 : decode cX2_layerNamed 16 = .ok (.if_icmp .ge 24, 3) := by decide +kernel
theorem dX2_layerNamed_19 : decode cX2_layerNamed 19 = .ok (.aload_n 0, 1) := by decide +kernel
theorem dX2_layerNamed_20 : decode cX2_layerNamed 20 = .ok (.getfield 9, 3) := by decide +kernel
theorem dX2_layerNamed_23 : decode cX2_layerNamed 23 = .ok (.iload 4, 2) := by decide +kernel
theorem dX2_layerNamed_25 : decode cX2_layerNamed 25 = .ok (.laload, 1) := by decide +kernel
theorem dX2_layerNamed_26 : decode cX2_layerNamed 26 = .ok (.lload_n 1, 1) := by decide +kernel
theorem dX2_layerNamed_27 : decode cX2_layerNamed 27 = .ok (.lcmp, 1) := by decide +kernel
theorem dX2_layerNamed_28 : decode cX2_layerNamed 28 = .ok (.ifCond .ne 6, 3) := by decide +kernel
theorem dX2_layerNamed_34 : decode cX2_layerNamed 34 = .ok (.iinc 4 1, 3) := by decide +kernel
theorem dX2_layerNamed_37 : decode cX2_layerNamed 37 = .ok (.goto (-34), 3) := by decide +kernel
theorem dX2_layerNamed_40 : decode cX2_layerNamed 40 = .ok (.iconst (-1), 1) := by decide +kernel
theorem dX2_layerNamed_41 : decode cX2_layerNamed 41 = .ok (.ireturn, 1) := by decide +kernel
set_option maxHeartbeats 400000 in
set_option maxRecDepth 100000 in
theorem c_lnNo (l : Launch) (G : hG) (M : hM) (A : Nat → Nat) (cn : Nat) (wr : Int32) (f12 : Nat → Int64) (hc11 : M (A 11) = some (11, .inr (4, [.ref (A 3), .ref (A 12), .int (nI cn), .int wr]))) (hc12 : M (A 12) = some (12, .inl (hT G 2, 8, .inr (.inl f12)))) (mm : Nat) (w0 : Int64) (hm8 : mm ≤ 8) (hno : ∀ j, j < mm → f12 j ≠ w0) : hCT l G yX2_layerNamed cX2_layerNamed 5 (Option.some FieldType.int) (hRm 1 0 0) M [.ref (A 11), .long w0, .int (nI mm)] (hRd M (.int (-1))) := by
  refine hCT.of (own := RX2) (nm := "layerNamed") (by decide) rfl rfl (Nat.le_of_ble_eq_true rfl) ?_
  intro p e s m args below meth c ls X Y hl
  have hx := X.1
  have hb := X.2.1
  have hl : lv_has ls 5 [(0, .ref (A 11)), (1, .long w0), (3, .int (nI mm))] := hl
  refine lv_iconst (v := 0) hx hb dX2_layerNamed_0 (by decide) ?_
  refine lv_istore (lv' := [(4, .int 0), (0, .ref (A 11)), (1, .long w0), (3, .int (nI mm))]) hx hb dX2_layerNamed_1 hl (by decide) rfl (fun ls hl => ?_)
  have loop : ∀ (d i : Nat), i + d = mm + 1 → i ≤ mm → ∀ (H : Heap) (locs : List Loc) (ls : Array Slot), hHS G M s H locs → lv_has ls 5 [(0, .ref (A 11)), (1, .long w0), (3, .int (nI mm)), (4, .int (nI i))] → W p l e (hRm 1 0 0) s m args below meth c H locs 0 0 (MQ below (hQ G (hRd M (.int (-1)))) args s 0 0 (hA G)) (F0 m 3 ls []) := by
    intro d
    induction d with
    | zero => intro i h1 h2; exact absurd h1 (by omega)
    | succ d ih =>
      intro i h1 h2 H locs ls Y hl
      refine lv_iload hx hb dX2_layerNamed_3 (lv_at hl 3 rfl) ?_
      refine lv_iload_n hx hb dX2_layerNamed_5 rfl (lv_at hl 2 rfl) ?_
      refine lv_icmp_ge (tgt := 40) hx hb dX2_layerNamed_6 (by decide) (fun c6 => ?_) (fun c6 => ?_)
      · have c6 : mm ≤ i := (nI_leI (a := mm) (b := i) (by omega) (by omega)).mp c6
        obtain rfl : i = mm := by omega
        refine lv_iconst (v := (-1)) hx hb dX2_layerNamed_40 (by decide) ?_
        exact h_iret X Y ⟨rfl, rfl⟩ (Nat.le_refl _) (Nat.le_refl _) dX2_layerNamed_41
      · have c6 : ¬ mm ≤ i := fun z9 => c6 ((nI_leI (a := mm) (b := i) (by omega) (by omega)).mpr z9)
        refine lv_iload hx hb dX2_layerNamed_9 (lv_at hl 3 rfl) ?_
        refine lv_aload_n hx hb dX2_layerNamed_11 rfl (lv_at hl 0 rfl) ?_
        refine h_get X Y (k := 1) (v := .ref (A 12)) hc11 rfl hin_X2 (by decide) kfl_X2_9 rfl dX2_layerNamed_12 ?_
        refine h_alen X Y 2 hc12 rfl dX2_layerNamed_15 ?_
        refine lv_icmp_ge (tgt := 40) hx hb dX2_layerNamed_16 (by decide) (fun c16 => absurd (show 8 ≤ i from (nI_leI (a := 8) (b := i) (by omega) (by omega)).mp c16) (by omega)) (fun c16 => ?_)
        have c16 : ¬ 8 ≤ i := fun z9 => c16 ((nI_leI (a := 8) (b := i) (by omega) (by omega)).mpr z9)
        refine lv_aload_n hx hb dX2_layerNamed_19 rfl (lv_at hl 0 rfl) ?_
        refine h_get X Y (k := 1) (v := .ref (A 12)) hc11 rfl hin_X2 (by decide) kfl_X2_9 rfl dX2_layerNamed_20 ?_
        refine lv_iload hx hb dX2_layerNamed_23 (lv_at hl 3 rfl) ?_
        refine h_lald X Y (i := i) hc12 (by omega) (by decide) dX2_layerNamed_25 ?_
        refine lv_lload_n hx hb dX2_layerNamed_26 rfl (lv_at hl 1 rfl) ?_
        refine W.lcmp hx hb dX2_layerNamed_27 ?_
        refine lv_if_ne (tgt := 34) hx hb dX2_layerNamed_28 (by decide) (fun c28 => ?_) (fun c28 => absurd (lg_cmp_0 c28) (hno i (by omega)))
        refine lv_iinc (v := nI (i + 1)) (lv' := [(4, .int (nI (i + 1))), (0, .ref (A 11)), (1, .long w0), (3, .int (nI mm))]) hx hb dX2_layerNamed_34 hl (k := 3) rfl (nI_1 i) (by decide) rfl (fun ls hl => ?_)
        refine lv_goto (tgt := 3) hx hb dX2_layerNamed_37 (by decide) ?_
        exact ih (i + 1) (by omega) (by omega) _ _ _ Y (lv_sub hl [1, 2, 3, 0] rfl)
  exact loop (mm + 1) 0 (by omega) (by omega) _ _ _ Y (lv_sub hl [1, 2, 3, 0] rfl)
theorem lg_cmp_ne {x y : Int64} (h : ¬ lg_cmp x y = 0) : ¬ x = y := fun e => h (by subst e; unfold lg_cmp; rw [if_neg (by simp), if_pos rfl])
theorem dX2_layerNamed_31 : decode cX2_layerNamed 31 = .ok (.iload 4, 2) := by decide +kernel
theorem dX2_layerNamed_33 : decode cX2_layerNamed 33 = .ok (.ireturn, 1) := by decide +kernel
set_option maxHeartbeats 400000 in
set_option maxRecDepth 100000 in
theorem c_lnYes (l : Launch) (G : hG) (M : hM) (A : Nat → Nat) (cn : Nat) (wr : Int32) (f12 : Nat → Int64) (hc11 : M (A 11) = some (11, .inr (4, [.ref (A 3), .ref (A 12), .int (nI cn), .int wr]))) (hc12 : M (A 12) = some (12, .inl (hT G 2, 8, .inr (.inl f12)))) (mm j0 : Nat) (w0 : Int64) (hm8 : mm ≤ 8) (hj0 : j0 < mm) (hyes : f12 j0 = w0) (hno : ∀ j, j < j0 → f12 j ≠ w0) : hCT l G yX2_layerNamed cX2_layerNamed 5 (Option.some FieldType.int) (hRm 1 0 0) M [.ref (A 11), .long w0, .int (nI mm)] (hRd M (.int (nI j0))) := by
  refine hCT.of (own := RX2) (nm := "layerNamed") (by decide) rfl rfl (Nat.le_of_ble_eq_true rfl) ?_
  intro p e s m args below meth c ls X Y hl
  have hx := X.1
  have hb := X.2.1
  have hl : lv_has ls 5 [(0, .ref (A 11)), (1, .long w0), (3, .int (nI mm))] := hl
  refine lv_iconst (v := 0) hx hb dX2_layerNamed_0 (by decide) ?_
  refine lv_istore (lv' := [(4, .int 0), (0, .ref (A 11)), (1, .long w0), (3, .int (nI mm))]) hx hb dX2_layerNamed_1 hl (by decide) rfl (fun ls hl => ?_)
  have loop : ∀ (d i : Nat), i + d = j0 + 1 → i ≤ j0 → ∀ (H : Heap) (locs : List Loc) (ls : Array Slot), hHS G M s H locs → lv_has ls 5 [(0, .ref (A 11)), (1, .long w0), (3, .int (nI mm)), (4, .int (nI i))] → W p l e (hRm 1 0 0) s m args below meth c H locs 0 0 (MQ below (hQ G (hRd M (.int (nI j0)))) args s 0 0 (hA G)) (F0 m 3 ls []) := by
    intro d
    induction d with
    | zero => intro i h1; intros; exact absurd h1 (by omega)
    | succ d ih =>
      intro i h1 h2 H locs ls Y hl
      refine lv_iload hx hb dX2_layerNamed_3 (lv_at hl 3 rfl) ?_
      refine lv_iload_n hx hb dX2_layerNamed_5 rfl (lv_at hl 2 rfl) ?_
      refine lv_icmp_ge (tgt := 40) hx hb dX2_layerNamed_6 (by decide) (fun c6 => absurd (show mm ≤ i from (nI_leI (a := mm) (b := i) (by omega) (by omega)).mp c6) (by omega)) (fun c6 => ?_)
      have c6 : ¬ mm ≤ i := fun z9 => c6 ((nI_leI (a := mm) (b := i) (by omega) (by omega)).mpr z9)
      refine lv_iload hx hb dX2_layerNamed_9 (lv_at hl 3 rfl) ?_
      refine lv_aload_n hx hb dX2_layerNamed_11 rfl (lv_at hl 0 rfl) ?_
      refine h_get X Y (k := 1) (v := .ref (A 12)) hc11 rfl hin_X2 (by decide) kfl_X2_9 rfl dX2_layerNamed_12 ?_
      refine h_alen X Y 2 hc12 rfl dX2_layerNamed_15 ?_
      refine lv_icmp_ge (tgt := 40) hx hb dX2_layerNamed_16 (by decide) (fun c16 => absurd (show 8 ≤ i from (nI_leI (a := 8) (b := i) (by omega) (by omega)).mp c16) (by omega)) (fun c16 => ?_)
      have c16 : ¬ 8 ≤ i := fun z9 => c16 ((nI_leI (a := 8) (b := i) (by omega) (by omega)).mpr z9)
      refine lv_aload_n hx hb dX2_layerNamed_19 rfl (lv_at hl 0 rfl) ?_
      refine h_get X Y (k := 1) (v := .ref (A 12)) hc11 rfl hin_X2 (by decide) kfl_X2_9 rfl dX2_layerNamed_20 ?_
      refine lv_iload hx hb dX2_layerNamed_23 (lv_at hl 3 rfl) ?_
      refine h_lald X Y (i := i) hc12 (by omega) (by decide) dX2_layerNamed_25 ?_
      rcases Nat.lt_or_ge i j0 with hlt | hge
      · refine lv_lload_n hx hb dX2_layerNamed_26 rfl (lv_at hl 1 rfl) ?_
        refine W.lcmp hx hb dX2_layerNamed_27 ?_
        refine lv_if_ne (tgt := 34) hx hb dX2_layerNamed_28 (by decide) (fun c28 => ?_) (fun c28 => absurd (lg_cmp_0 c28) (hno i hlt))
        refine lv_iinc (v := nI (i + 1)) (lv' := [(4, .int (nI (i + 1))), (0, .ref (A 11)), (1, .long w0), (3, .int (nI mm))]) hx hb dX2_layerNamed_34 hl (k := 3) rfl (nI_1 i) (by decide) rfl (fun ls hl => ?_)
        refine lv_goto (tgt := 3) hx hb dX2_layerNamed_37 (by decide) ?_
        exact ih (i + 1) (by omega) (by omega) _ _ _ Y (lv_sub hl [1, 2, 3, 0] rfl)
      · obtain rfl : i = j0 := by omega
        refine lv_lload_n hx hb dX2_layerNamed_26 rfl (lv_at hl 1 rfl) ?_
        refine W.lcmp hx hb dX2_layerNamed_27 ?_
        refine lv_if_ne (tgt := 34) hx hb dX2_layerNamed_28 (by decide) (fun c28 => absurd hyes (lg_cmp_ne c28)) (fun c28 => ?_)
        refine lv_iload hx hb dX2_layerNamed_31 (lv_at hl 3 rfl) ?_
        exact h_iret X Y ⟨rfl, rfl⟩ (Nat.le_refl _) (Nat.le_refl _) dX2_layerNamed_33
  exact loop (j0 + 1) 0 (by omega) (by omega) _ _ _ Y (lv_sub hl [1, 2, 3, 0] rfl)
theorem gw_X2_93 : GoodIn hGW (wsV RX2 93 RX2 yX2_layerNamed (Cond.code yX2_layerNamed cX2_layerNamed 5 (Option.some FieldType.int) :: hGW)) := hgi4 kml_X2_93 kin_X2_layerNamed kse_X2_X2_layerNamed_X2_layerNamed kini_X2 kco_X2_layerNamed
theorem dsc_X2_layerNamed : yX2_layerNamed.cls = RX2 ∧ yX2_layerNamed.cls ≠ "java/lang/invoke/MethodHandle" ∧ yX2_layerNamed.cls ≠ "java/lang/invoke/VarHandle" ∧ (parseMethodDescriptor yX2_layerNamed.desc).map (fun d => d.parameters.length) = some 2 := ⟨rfl, by decide +kernel, by decide +kernel, by decide +kernel⟩
theorem dX2_nameLayer_0 : decode cX2_nameLayer 0 = .ok (.aload_n 0, 1) := by decide +kernel
theorem dX2_nameLayer_1 : decode cX2_nameLayer 1 = .ok (.lload_n 1, 1) := by decide +kernel
theorem dX2_nameLayer_2 : decode cX2_nameLayer 2 = .ok (.aload_n 0, 1) := by decide +kernel
theorem dX2_nameLayer_3 : decode cX2_nameLayer 3 = .ok (.getfield 15, 3) := by decide +kernel
theorem dX2_nameLayer_6 : decode cX2_nameLayer 6 = .ok (.invokevirtual 93, 3) := by decide +kernel
theorem dX2_nameLayer_9 : decode cX2_nameLayer 9 = .ok (.iconst (-1), 1) := by decide +kernel
theorem dX2_nameLayer_10 : decode cX2_nameLayer 10 = .ok (.if_icmp .eq 5, 3) := by decide +kernel
theorem dX2_nameLayer_15 : decode cX2_nameLayer 15 = .ok (.aload_n 0, 1) := by decide +kernel
theorem dX2_nameLayer_16 : decode cX2_nameLayer 16 = .ok (.getfield 15, 3) := by decide +kernel
theorem dX2_nameLayer_19 : decode cX2_nameLayer 19 = .ok (.ifCond .lt 15, 3) := by decide +kernel
theorem dX2_nameLayer_22 : decode cX2_nameLayer 22 = .ok (.aload_n 0, 1) := by decide +kernel
theorem dX2_nameLayer_23 : decode cX2_nameLayer 23 = .ok (.getfield 15, 3) := by decide +kernel
theorem dX2_nameLayer_26 : decode cX2_nameLayer 26 = .ok (.aload_n 0, 1) := by decide +kernel
theorem dX2_nameLayer_27 : decode cX2_nameLayer 27 = .ok (.getfield 9, 3) := by decide +kernel
theorem dX2_nameLayer_30 : decode cX2_nameLayer 30 = .ok (.arraylength, 1) := by decide +kernel
theorem dX2_nameLayer_31 : decode cX2_nameLayer 31 = .ok (.if_icmp .lt 5, 3) := by decide +kernel
theorem dX2_nameLayer_36 : decode cX2_nameLayer 36 = .ok (.aload_n 0, 1) := by decide +kernel
theorem dX2_nameLayer_37 : decode cX2_nameLayer 37 = .ok (.getfield 9, 3) := by decide +kernel
theorem dX2_nameLayer_40 : decode cX2_nameLayer 40 = .ok (.aload_n 0, 1) := by decide +kernel
theorem dX2_nameLayer_41 : decode cX2_nameLayer 41 = .ok (.getfield 15, 3) := by decide +kernel
theorem dX2_nameLayer_44 : decode cX2_nameLayer 44 = .ok (.lload_n 1, 1) := by decide +kernel
theorem dX2_nameLayer_45 : decode cX2_nameLayer 45 = .ok (.lastore, 1) := by decide +kernel
theorem dX2_nameLayer_46 : decode cX2_nameLayer 46 = .ok (.aload_n 0, 1) := by decide +kernel
theorem dX2_nameLayer_47 : decode cX2_nameLayer 47 = .ok (.dup, 1) := by decide +kernel
theorem dX2_nameLayer_48 : decode cX2_nameLayer 48 = .ok (.getfield 15, 3) := by decide +kernel
theorem dX2_nameLayer_51 : decode cX2_nameLayer 51 = .ok (.iconst 1, 1) := by decide +kernel
theorem dX2_nameLayer_52 : decode cX2_nameLayer 52 = .ok (.iadd, 1) := by decide +kernel
theorem dX2_nameLayer_53 : decode cX2_nameLayer 53 = .ok (.putfield 15, 3) := by decide +kernel
theorem dX2_nameLayer_56 : decode cX2_nameLayer 56 = .ok (.iconst 0, 1) := by decide +kernel
theorem dX2_nameLayer_57 : decode cX2_nameLayer 57 = .ok (.ireturn, 1) := by decide +kernel
set_option maxHeartbeats 400000 in
set_option maxRecDepth 100000 in
theorem c_nameLayer (l : Launch) (G : hG) (M : hM) (A : Nat → Nat) (cn : Nat) (wr : Int32) (f12 : Nat → Int64) (hc11 : M (A 11) = some (11, .inr (4, [.ref (A 3), .ref (A 12), .int (nI cn), .int wr]))) (hc12 : M (A 12) = some (12, .inl (hT G 2, 8, .inr (.inl f12)))) (w0 : Int64) (hc8 : cn < 8) (hno : ∀ j, j < cn → f12 j ≠ w0) : hCT l G yX2_nameLayer cX2_nameLayer 3 (Option.some FieldType.int) (hRm 2 0 0) M [.ref (A 11), .long w0] (fun v M' => v = some (.int 0) ∧ M' (A 11) = some (11, .inr (4, [.ref (A 3), .ref (A 12), .int (nI (cn + 1)), .int wr])) ∧ M' (A 12) = some (12, .inl (hT G 2, 8, .inr (.inl (vp_updL f12 cn w0)))) ∧ hFr (fun u => u = 11 ∨ u = 12) M M') := by
  refine hCT.of (own := RX2) (nm := "nameLayer") (by decide) rfl rfl (Nat.le_of_ble_eq_true rfl) ?_
  intro p e s m args below meth c ls X Y hl
  have hx := X.1
  have hb := X.2.1
  have hl : lv_has ls 3 [(0, .ref (A 11)), (1, .long w0)] := hl
  have hfr : hFr (fun u => u = 11 ∨ u = 12) M M := hFr.rf
  refine lv_aload_n hx hb dX2_nameLayer_0 rfl (lv_at hl 0 rfl) ?_
  refine lv_lload_n hx hb dX2_nameLayer_1 rfl (lv_at hl 1 rfl) ?_
  refine lv_aload_n hx hb dX2_nameLayer_2 rfl (lv_at hl 0 rfl) ?_
  refine h_get X Y (k := 2) (v := .int (nI cn)) hc11 rfl hin_X2 (by decide) kfl_X2_15 rfl dX2_nameLayer_3 ?_
  refine h_callVr (rest := []) X Y (c_lnNo l G M A cn wr f12 hc11 hc12 cn w0 (by omega) hno) rfl rfl gw_X2_93 dsc_X2_layerNamed hc11 rfl rfl rfl rfl hl.1 (Nat.le_of_ble_eq_true rfl) ⟨Nat.le_of_ble_eq_true rfl, Nat.le_of_ble_eq_true rfl⟩ ⟨Nat.le_of_ble_eq_true rfl, Nat.le_of_ble_eq_true rfl⟩ dX2_nameLayer_6 (fun H locs Y => ?_)
  refine lv_iconst (v := (-1)) hx hb dX2_nameLayer_9 (by decide) ?_
  refine lv_icmp_eq (tgt := 15) hx hb dX2_nameLayer_10 (by decide) (fun c10 => ?_) (fun c10 => absurd rfl c10)
  refine lv_aload_n hx hb dX2_nameLayer_15 rfl (lv_at hl 0 rfl) ?_
  refine h_get X Y (k := 2) (v := .int (nI cn)) hc11 rfl hin_X2 (by decide) kfl_X2_15 rfl dX2_nameLayer_16 ?_
  refine lv_if_lt (tgt := 34) hx hb dX2_nameLayer_19 (by decide) (fun c19 => absurd (show cn < 0 from (nI_ltI (a := cn) (b := 0) (by omega) (by omega)).mp c19) (by omega)) (fun c19 => ?_)
  have c19 : ¬ cn < 0 := fun z9 => c19 ((nI_ltI (a := cn) (b := 0) (by omega) (by omega)).mpr z9)
  refine lv_aload_n hx hb dX2_nameLayer_22 rfl (lv_at hl 0 rfl) ?_
  refine h_get X Y (k := 2) (v := .int (nI cn)) hc11 rfl hin_X2 (by decide) kfl_X2_15 rfl dX2_nameLayer_23 ?_
  refine lv_aload_n hx hb dX2_nameLayer_26 rfl (lv_at hl 0 rfl) ?_
  refine h_get X Y (k := 1) (v := .ref (A 12)) hc11 rfl hin_X2 (by decide) kfl_X2_9 rfl dX2_nameLayer_27 ?_
  refine h_alen X Y 2 hc12 rfl dX2_nameLayer_30 ?_
  refine lv_icmp_lt (tgt := 36) hx hb dX2_nameLayer_31 (by decide) (fun c31 => ?_) (fun c31 => absurd (show ¬ cn < 8 from fun z9 => c31 ((nI_ltI (a := cn) (b := 8) (by omega) (by omega)).mpr z9)) (by omega))
  have c31 : cn < 8 := (nI_ltI (a := cn) (b := 8) (by omega) (by omega)).mp c31
  refine lv_aload_n hx hb dX2_nameLayer_36 rfl (lv_at hl 0 rfl) ?_
  refine h_get X Y (k := 1) (v := .ref (A 12)) hc11 rfl hin_X2 (by decide) kfl_X2_9 rfl dX2_nameLayer_37 ?_
  refine lv_aload_n hx hb dX2_nameLayer_40 rfl (lv_at hl 0 rfl) ?_
  refine h_get X Y (k := 2) (v := .int (nI cn)) hc11 rfl hin_X2 (by decide) kfl_X2_15 rfl dX2_nameLayer_41 ?_
  refine lv_lload_n hx hb dX2_nameLayer_44 rfl (lv_at hl 1 rfl) ?_
  refine h_last X Y (i := cn) hc12 (by omega) (by decide) dX2_nameLayer_45 (fun H locs Y => ?_)
  have hc11 := hup_tag (x := (12, .inl (hT G 2, 8, .inr (.inl (vp_updL f12 cn w0))))) hc11 hc12 (by omega)
  have hfr := hfr.put (x := (12, .inl (hT G 2, 8, .inr (.inl (vp_updL f12 cn w0))))) hc12 (Or.inr rfl)
  have hc12 : hup M (A 12) (12, .inl (hT G 2, 8, .inr (.inl (vp_updL f12 cn w0)))) (A 12) = some (12, .inl (hT G 2, 8, .inr (.inl (vp_updL f12 cn w0)))) := hup_eq
  generalize hup M (A 12) (12, .inl (hT G 2, 8, .inr (.inl (vp_updL f12 cn w0)))) = Mz1 at Y hc12 hc11 hfr
  refine lv_aload_n hx hb dX2_nameLayer_46 rfl (lv_at hl 0 rfl) ?_
  refine lv_dup hx hb dX2_nameLayer_47 rfl ?_
  refine h_get X Y (k := 2) (v := .int (nI cn)) hc11 rfl hin_X2 (by decide) kfl_X2_15 rfl dX2_nameLayer_48 ?_
  refine lv_iconst (v := 1) hx hb dX2_nameLayer_51 (by decide) ?_
  refine lv_iadd hx hb dX2_nameLayer_52 ?_
  refine h_ev (y := nI (cn + 1)) (nI_1 cn) ?_
  refine h_put X Y (k := 2) (v := .int (nI (cn + 1))) hc11 rfl hin_X2 tyX2_ok nmX2 (by decide) kfl_X2_15 rfl rfl rfl (Nat.le_of_ble_eq_true rfl) dX2_nameLayer_53 (fun H locs Y => ?_)
  have Y : hHS G (hup Mz1 (A 11) (11, .inr (4, [.ref (A 3), .ref (A 12), .int (nI (cn + 1)), .int wr]))) s H locs := Y
  have hc12 := hup_tag (x := (11, .inr (4, [.ref (A 3), .ref (A 12), .int (nI (cn + 1)), .int wr]))) hc12 hc11 (by omega)
  have hfr := hfr.put (x := (11, .inr (4, [.ref (A 3), .ref (A 12), .int (nI (cn + 1)), .int wr]))) hc11 (Or.inl rfl)
  have hc11 : hup Mz1 (A 11) (11, .inr (4, [.ref (A 3), .ref (A 12), .int (nI (cn + 1)), .int wr])) (A 11) = some (11, .inr (4, [.ref (A 3), .ref (A 12), .int (nI (cn + 1)), .int wr])) := hup_eq
  generalize hup Mz1 (A 11) (11, .inr (4, [.ref (A 3), .ref (A 12), .int (nI (cn + 1)), .int wr])) = Mz2 at Y hc11 hc12 hfr
  refine lv_iconst (v := 0) hx hb dX2_nameLayer_56 (by decide) ?_
  exact h_iret X Y ⟨rfl, hc11, hc12, hfr⟩ (Nat.le_of_ble_eq_true rfl) (Nat.le_of_ble_eq_true rfl) dX2_nameLayer_57
theorem dX2_netError_0 : decode cX2_netError 0 = .ok (.aload_n 0, 1) := by decide +kernel
theorem dX2_netError_1 : decode cX2_netError 1 = .ok (.lload_n 2, 1) := by decide +kernel
theorem dX2_netError_2 : decode cX2_netError 2 = .ok (.aload_n 0, 1) := by decide +kernel
theorem dX2_netError_3 : decode cX2_netError 3 = .ok (.getfield 15, 3) := by decide +kernel
theorem dX2_netError_6 : decode cX2_netError 6 = .ok (.iconst 1, 1) := by decide +kernel
theorem dX2_netError_7 : decode cX2_netError 7 = .ok (.isub, 1) := by decide +kernel
theorem dX2_netError_8 : decode cX2_netError 8 = .ok (.invokevirtual 93, 3) := by decide +kernel
theorem dX2_netError_11 : decode cX2_netError 11 = .ok (.istore 4, 2) := by decide +kernel
theorem dX2_netError_13 : decode cX2_netError 13 = .ok (.iload 4, 2) := by decide +kernel
theorem dX2_netError_15 : decode cX2_netError 15 = .ok (.iconst (-1), 1) := by decide +kernel
theorem dX2_netError_16 : decode cX2_netError 16 = .ok (.if_icmp .ne 5, 3) := by decide +kernel
theorem dX2_netError_21 : decode cX2_netError 21 = .ok (.aload_n 1, 1) := by decide +kernel
theorem dX2_netError_22 : decode cX2_netError 22 = .ok (.dup, 1) := by decide +kernel
theorem dX2_netError_23 : decode cX2_netError 23 = .ok (.getfield 97, 3) := by decide +kernel
theorem dX2_netError_26 : decode cX2_netError 26 = .ok (.iconst 1, 1) := by decide +kernel
theorem dX2_netError_27 : decode cX2_netError 27 = .ok (.iload 4, 2) := by decide +kernel
theorem dX2_netError_29 : decode cX2_netError 29 = .ok (.ishl, 1) := by decide +kernel
theorem dX2_netError_30 : decode cX2_netError 30 = .ok (.ior, 1) := by decide +kernel
theorem dX2_netError_31 : decode cX2_netError 31 = .ok (.putfield 97, 3) := by decide +kernel
theorem dX2_netError_34 : decode cX2_netError 34 = .ok (.iconst 0, 1) := by decide +kernel
theorem dX2_netError_35 : decode cX2_netError 35 = .ok (.ireturn, 1) := by decide +kernel
set_option maxHeartbeats 400000 in
set_option maxRecDepth 100000 in
theorem c_netError (l : Launch) (G : hG) (M : hM) (A : Nat → Nat) (cn : Nat) (wr : Int32) (f12 : Nat → Int64) (hc11 : M (A 11) = some (11, .inr (4, [.ref (A 3), .ref (A 12), .int (nI (cn + 1)), .int wr]))) (hc12 : M (A 12) = some (12, .inl (hT G 2, 8, .inr (.inl f12)))) (a t : Nat) (L : hLy) (ht : 2000 ≤ t) (hLy : LyV G M a t L) (j0 : Nat) (w0 : Int64) (hc8 : cn ≤ 8) (hj0 : j0 < cn) (hyes : f12 j0 = w0) (hno : ∀ j, j < j0 → f12 j ≠ w0) : hCT l G yX2_netError cX2_netError 5 (Option.some FieldType.int) (hRm 2 0 0) M [.ref (A 11), .ref a, .long w0] (fun v M' => v = some (.int 0) ∧ LyV G M' a t (lyNt L j0) ∧ hFr (fun u => t ≤ u ∧ u < t + 10) M M') := by
  refine hCT.of (own := RX2) (nm := "netError") (by decide) rfl rfl (Nat.le_of_ble_eq_true rfl) ?_
  intro p e s m args below meth c ls X Y hl
  have hx := X.1
  have hb := X.2.1
  have hl : lv_has ls 5 [(0, .ref (A 11)), (1, .ref a), (2, .long w0)] := hl
  obtain ⟨hy0, hy1, hy2, hy3, hy4, hy5⟩ := id hLy
  have hfr : hFr (fun u => t ≤ u ∧ u < t + 10) M M := hFr.rf
  refine lv_aload_n hx hb dX2_netError_0 rfl (lv_at hl 0 rfl) ?_
  refine lv_lload_n hx hb dX2_netError_1 rfl (lv_at hl 2 rfl) ?_
  refine lv_aload_n hx hb dX2_netError_2 rfl (lv_at hl 0 rfl) ?_
  refine h_get X Y (k := 2) (v := .int (nI (cn + 1))) hc11 rfl hin_X2 (by decide) kfl_X2_15 rfl dX2_netError_3 ?_
  refine lv_iconst (v := 1) hx hb dX2_netError_6 (by decide) ?_
  refine lv_isub hx hb dX2_netError_7 ?_
  refine h_ev (y := nI cn) (nI_pred cn) ?_
  refine h_callVr (rest := []) X Y (c_lnYes l G M A (cn + 1) wr f12 hc11 hc12 cn j0 w0 hc8 hj0 hyes hno) rfl rfl gw_X2_93 dsc_X2_layerNamed hc11 rfl rfl rfl rfl hl.1 (Nat.le_of_ble_eq_true rfl) ⟨Nat.le_of_ble_eq_true rfl, Nat.le_of_ble_eq_true rfl⟩ ⟨Nat.le_of_ble_eq_true rfl, Nat.le_of_ble_eq_true rfl⟩ dX2_netError_8 (fun H locs Y => ?_)
  refine lv_istore (lv' := [(4, .int (nI j0)), (0, .ref (A 11)), (1, .ref a), (2, .long w0)]) hx hb dX2_netError_11 hl (by decide) rfl (fun ls hl => ?_)
  refine lv_iload hx hb dX2_netError_13 (lv_at hl 0 rfl) ?_
  refine lv_iconst (v := (-1)) hx hb dX2_netError_15 (by decide) ?_
  refine lv_icmp_ne (tgt := 21) hx hb dX2_netError_16 (by decide) (fun c16 => ?_) (fun c16 => absurd c16 (fun z9 => absurd (congrArg Int32.toInt z9) (by rw [nI_toInt (by omega), show (-1 : Int32).toInt = -1 from by decide]; omega)))
  refine lv_aload_n hx hb dX2_netError_21 rfl (lv_at hl 2 rfl) ?_
  refine lv_dup hx hb dX2_netError_22 rfl ?_
  refine h_getN X Y (k := 9) (v := .int (lyI L 3)) hy0 rfl hin_X5 (by decide) (kfn_X2_97 X.2.2.2.2.2.2.2.2.1 X.2.2.2.2.2.2.2.2.2.1) rfl dX2_netError_23 ?_
  refine lv_iconst (v := 1) hx hb dX2_netError_26 (by decide) ?_
  refine lv_iload hx hb dX2_netError_27 (lv_at hl 0 rfl) ?_
  refine lv_ishl hx hb dX2_netError_29 ?_
  refine lv_ior hx hb dX2_netError_30 ?_
  refine h_putN X Y (k := 9) (v := .int ((lyI L 3) ||| (1 <<< (nI j0 &&& 31)))) hy0 rfl hin_X5 tyX5_ok nmX5 (by decide) (kfn_X2_97 X.2.2.2.2.2.2.2.2.1 X.2.2.2.2.2.2.2.2.2.1) rfl rfl rfl (Nat.le_of_ble_eq_true rfl) dX2_netError_31 (fun H locs Y => ?_)
  have Y : hHS G (hup M a (t, .inr (7, [.ref (lyA L 0), .ref (lyA L 1), va_rf (lyR L 0), va_rf (lyR L 1), va_rf (lyR L 2), .int (lyI L 0), .int (lyI L 1), .ref (lyA L 2), .int (lyI L 2), .int ((lyI L 3) ||| (1 <<< (nI j0 &&& 31))), .ref (lyA L 3), .ref (lyA L 4), .ref (lyA L 5), .ref (lyA L 6)]))) s H locs := Y
  have hy1 := hup_tag (x := (t, .inr (7, [.ref (lyA L 0), .ref (lyA L 1), va_rf (lyR L 0), va_rf (lyR L 1), va_rf (lyR L 2), .int (lyI L 0), .int (lyI L 1), .ref (lyA L 2), .int (lyI L 2), .int ((lyI L 3) ||| (1 <<< (nI j0 &&& 31))), .ref (lyA L 3), .ref (lyA L 4), .ref (lyA L 5), .ref (lyA L 6)]))) hy1 hy0 (by omega)
  have hy2 := hup_tag (x := (t, .inr (7, [.ref (lyA L 0), .ref (lyA L 1), va_rf (lyR L 0), va_rf (lyR L 1), va_rf (lyR L 2), .int (lyI L 0), .int (lyI L 1), .ref (lyA L 2), .int (lyI L 2), .int ((lyI L 3) ||| (1 <<< (nI j0 &&& 31))), .ref (lyA L 3), .ref (lyA L 4), .ref (lyA L 5), .ref (lyA L 6)]))) hy2 hy0 (by omega)
  have hy3 := hup_tag (x := (t, .inr (7, [.ref (lyA L 0), .ref (lyA L 1), va_rf (lyR L 0), va_rf (lyR L 1), va_rf (lyR L 2), .int (lyI L 0), .int (lyI L 1), .ref (lyA L 2), .int (lyI L 2), .int ((lyI L 3) ||| (1 <<< (nI j0 &&& 31))), .ref (lyA L 3), .ref (lyA L 4), .ref (lyA L 5), .ref (lyA L 6)]))) hy3 hy0 (by omega)
  have hy4 := hup_tag (x := (t, .inr (7, [.ref (lyA L 0), .ref (lyA L 1), va_rf (lyR L 0), va_rf (lyR L 1), va_rf (lyR L 2), .int (lyI L 0), .int (lyI L 1), .ref (lyA L 2), .int (lyI L 2), .int ((lyI L 3) ||| (1 <<< (nI j0 &&& 31))), .ref (lyA L 3), .ref (lyA L 4), .ref (lyA L 5), .ref (lyA L 6)]))) hy4 hy0 (by omega)
  have hy5 := hup_tag (x := (t, .inr (7, [.ref (lyA L 0), .ref (lyA L 1), va_rf (lyR L 0), va_rf (lyR L 1), va_rf (lyR L 2), .int (lyI L 0), .int (lyI L 1), .ref (lyA L 2), .int (lyI L 2), .int ((lyI L 3) ||| (1 <<< (nI j0 &&& 31))), .ref (lyA L 3), .ref (lyA L 4), .ref (lyA L 5), .ref (lyA L 6)]))) hy5 hy0 (by omega)
  have hfr := hfr.put (x := (t, .inr (7, [.ref (lyA L 0), .ref (lyA L 1), va_rf (lyR L 0), va_rf (lyR L 1), va_rf (lyR L 2), .int (lyI L 0), .int (lyI L 1), .ref (lyA L 2), .int (lyI L 2), .int ((lyI L 3) ||| (1 <<< (nI j0 &&& 31))), .ref (lyA L 3), .ref (lyA L 4), .ref (lyA L 5), .ref (lyA L 6)]))) hy0 (by omega)
  have hy0 : hup M a (t, .inr (7, [.ref (lyA L 0), .ref (lyA L 1), va_rf (lyR L 0), va_rf (lyR L 1), va_rf (lyR L 2), .int (lyI L 0), .int (lyI L 1), .ref (lyA L 2), .int (lyI L 2), .int ((lyI L 3) ||| (1 <<< (nI j0 &&& 31))), .ref (lyA L 3), .ref (lyA L 4), .ref (lyA L 5), .ref (lyA L 6)])) a = some (t, .inr (7, [.ref (lyA L 0), .ref (lyA L 1), va_rf (lyR L 0), va_rf (lyR L 1), va_rf (lyR L 2), .int (lyI L 0), .int (lyI L 1), .ref (lyA L 2), .int (lyI L 2), .int ((lyI L 3) ||| (1 <<< (nI j0 &&& 31))), .ref (lyA L 3), .ref (lyA L 4), .ref (lyA L 5), .ref (lyA L 6)])) := hup_eq
  generalize hup M a (t, .inr (7, [.ref (lyA L 0), .ref (lyA L 1), va_rf (lyR L 0), va_rf (lyR L 1), va_rf (lyR L 2), .int (lyI L 0), .int (lyI L 1), .ref (lyA L 2), .int (lyI L 2), .int ((lyI L 3) ||| (1 <<< (nI j0 &&& 31))), .ref (lyA L 3), .ref (lyA L 4), .ref (lyA L 5), .ref (lyA L 6)])) = Mz1 at Y hy0 hy1 hy2 hy3 hy4 hy5 hfr
  refine lv_iconst (v := 0) hx hb dX2_netError_34 (by decide) ?_
  exact h_iret X Y ⟨rfl, ⟨hy0, hy1, hy2, hy3, hy4, hy5⟩, hfr⟩ (Nat.le_of_ble_eq_true rfl) (Nat.le_of_ble_eq_true rfl) dX2_netError_35
theorem dX5_takesShare_0 : decode cX5_takesShare 0 = .ok (.aload_n 0, 1) := by decide +kernel
theorem dX5_takesShare_1 : decode cX5_takesShare 1 = .ok (.iload_n 1, 1) := by decide +kernel
theorem dX5_takesShare_2 : decode cX5_takesShare 2 = .ok (.putfield 21, 3) := by decide +kernel
theorem dX5_takesShare_5 : decode cX5_takesShare 5 = .ok (.iload_n 1, 1) := by decide +kernel
theorem dX5_takesShare_6 : decode cX5_takesShare 6 = .ok (.iconst 1, 1) := by decide +kernel
theorem dX5_takesShare_7 : decode cX5_takesShare 7 = .ok (.if_icmp .lt 13, 3) := by decide +kernel
theorem dX5_takesShare_10 : decode cX5_takesShare 10 = .ok (.iload_n 1, 1) := by decide +kernel
theorem dX5_takesShare_11 : decode cX5_takesShare 11 = .ok (.bipush 100, 2) := by decide +kernel
theorem dX5_takesShare_13 : decode cX5_takesShare 13 = .ok (.if_icmp .gt 7, 3) := by decide +kernel
theorem dX5_takesShare_16 : decode cX5_takesShare 16 = .ok (.iconst 1, 1) := by decide +kernel
theorem dX5_takesShare_17 : decode cX5_takesShare 17 = .ok (.goto 4, 3) := by decide +kernel
theorem dX5_takesShare_21 : decode cX5_takesShare 21 = .ok (.ireturn, 1) := by decide +kernel
set_option maxHeartbeats 400000 in
set_option maxRecDepth 100000 in
theorem c_tShare (l : Launch) (G : hG) (M : hM) (a t : Nat) (L : hLy) (ht : 2000 ≤ t) (hLy : LyV G M a t L) (x : Int32) (hx0 : ¬ x < 1) (hx1 : x ≤ 100) : hCT l G yX5_takesShare cX5_takesShare 2 (Option.some FieldType.boolean) (hRm 1 0 0) M [.ref a, .int x] (fun v M' => v = some (.int 1) ∧ LyV G M' a t (lyU L 0 x) ∧ hFr (fun u => t ≤ u ∧ u < t + 10) M M') := by
  refine hCT.of (own := RX5) (nm := "takesShare") (by decide) rfl rfl (Nat.le_of_ble_eq_true rfl) ?_
  intro p e s m args below meth c ls X Y hl
  have hx := X.1
  have hb := X.2.1
  have hl : lv_has ls 2 [(0, .ref a), (1, .int x)] := hl
  obtain ⟨hy0, hy1, hy2, hy3, hy4, hy5⟩ := id hLy
  have hfr : hFr (fun u => t ≤ u ∧ u < t + 10) M M := hFr.rf
  refine lv_aload_n hx hb dX5_takesShare_0 rfl (lv_at hl 0 rfl) ?_
  refine lv_iload_n hx hb dX5_takesShare_1 rfl (lv_at hl 1 rfl) ?_
  refine h_put X Y (k := 5) (v := .int x) hy0 rfl hin_X5 tyX5_ok nmX5 (by decide) kfl_X5_21 rfl rfl rfl (Nat.le_of_ble_eq_true rfl) dX5_takesShare_2 (fun H locs Y => ?_)
  have Y : hHS G (hup M a (t, .inr (7, [.ref (lyA L 0), .ref (lyA L 1), va_rf (lyR L 0), va_rf (lyR L 1), va_rf (lyR L 2), .int x, .int (lyI L 1), .ref (lyA L 2), .int (lyI L 2), .int (lyI L 3), .ref (lyA L 3), .ref (lyA L 4), .ref (lyA L 5), .ref (lyA L 6)]))) s H locs := Y
  have hy1 := hup_tag (x := (t, .inr (7, [.ref (lyA L 0), .ref (lyA L 1), va_rf (lyR L 0), va_rf (lyR L 1), va_rf (lyR L 2), .int x, .int (lyI L 1), .ref (lyA L 2), .int (lyI L 2), .int (lyI L 3), .ref (lyA L 3), .ref (lyA L 4), .ref (lyA L 5), .ref (lyA L 6)]))) hy1 hy0 (by omega)
  have hy2 := hup_tag (x := (t, .inr (7, [.ref (lyA L 0), .ref (lyA L 1), va_rf (lyR L 0), va_rf (lyR L 1), va_rf (lyR L 2), .int x, .int (lyI L 1), .ref (lyA L 2), .int (lyI L 2), .int (lyI L 3), .ref (lyA L 3), .ref (lyA L 4), .ref (lyA L 5), .ref (lyA L 6)]))) hy2 hy0 (by omega)
  have hy3 := hup_tag (x := (t, .inr (7, [.ref (lyA L 0), .ref (lyA L 1), va_rf (lyR L 0), va_rf (lyR L 1), va_rf (lyR L 2), .int x, .int (lyI L 1), .ref (lyA L 2), .int (lyI L 2), .int (lyI L 3), .ref (lyA L 3), .ref (lyA L 4), .ref (lyA L 5), .ref (lyA L 6)]))) hy3 hy0 (by omega)
  have hy4 := hup_tag (x := (t, .inr (7, [.ref (lyA L 0), .ref (lyA L 1), va_rf (lyR L 0), va_rf (lyR L 1), va_rf (lyR L 2), .int x, .int (lyI L 1), .ref (lyA L 2), .int (lyI L 2), .int (lyI L 3), .ref (lyA L 3), .ref (lyA L 4), .ref (lyA L 5), .ref (lyA L 6)]))) hy4 hy0 (by omega)
  have hy5 := hup_tag (x := (t, .inr (7, [.ref (lyA L 0), .ref (lyA L 1), va_rf (lyR L 0), va_rf (lyR L 1), va_rf (lyR L 2), .int x, .int (lyI L 1), .ref (lyA L 2), .int (lyI L 2), .int (lyI L 3), .ref (lyA L 3), .ref (lyA L 4), .ref (lyA L 5), .ref (lyA L 6)]))) hy5 hy0 (by omega)
  have hfr := hfr.put (x := (t, .inr (7, [.ref (lyA L 0), .ref (lyA L 1), va_rf (lyR L 0), va_rf (lyR L 1), va_rf (lyR L 2), .int x, .int (lyI L 1), .ref (lyA L 2), .int (lyI L 2), .int (lyI L 3), .ref (lyA L 3), .ref (lyA L 4), .ref (lyA L 5), .ref (lyA L 6)]))) hy0 (by omega)
  have hy0 : hup M a (t, .inr (7, [.ref (lyA L 0), .ref (lyA L 1), va_rf (lyR L 0), va_rf (lyR L 1), va_rf (lyR L 2), .int x, .int (lyI L 1), .ref (lyA L 2), .int (lyI L 2), .int (lyI L 3), .ref (lyA L 3), .ref (lyA L 4), .ref (lyA L 5), .ref (lyA L 6)])) a = some (t, .inr (7, [.ref (lyA L 0), .ref (lyA L 1), va_rf (lyR L 0), va_rf (lyR L 1), va_rf (lyR L 2), .int x, .int (lyI L 1), .ref (lyA L 2), .int (lyI L 2), .int (lyI L 3), .ref (lyA L 3), .ref (lyA L 4), .ref (lyA L 5), .ref (lyA L 6)])) := hup_eq
  generalize hup M a (t, .inr (7, [.ref (lyA L 0), .ref (lyA L 1), va_rf (lyR L 0), va_rf (lyR L 1), va_rf (lyR L 2), .int x, .int (lyI L 1), .ref (lyA L 2), .int (lyI L 2), .int (lyI L 3), .ref (lyA L 3), .ref (lyA L 4), .ref (lyA L 5), .ref (lyA L 6)])) = Mz1 at Y hy0 hy1 hy2 hy3 hy4 hy5 hfr
  refine lv_iload_n hx hb dX5_takesShare_5 rfl (lv_at hl 1 rfl) ?_
  refine lv_iconst (v := 1) hx hb dX5_takesShare_6 (by decide) ?_
  refine lv_icmp_lt (tgt := 20) hx hb dX5_takesShare_7 (by decide) (fun c7 => absurd c7 hx0) (fun c7 => ?_)
  refine lv_iload_n hx hb dX5_takesShare_10 rfl (lv_at hl 1 rfl) ?_
  refine lv_bipush (v := 100) hx hb dX5_takesShare_11 (by decide) ?_
  refine lv_icmp_gt (tgt := 20) hx hb dX5_takesShare_13 (by decide) (fun c13 => absurd hx1 (fb_lt c13)) (fun c13 => ?_)
  refine lv_iconst (v := 1) hx hb dX5_takesShare_16 (by decide) ?_
  refine lv_goto (tgt := 21) hx hb dX5_takesShare_17 (by decide) ?_
  exact h_zret X Y rfl ⟨rfl, ⟨hy0, hy1, hy2, hy3, hy4, hy5⟩, hfr⟩ (Nat.le_of_ble_eq_true rfl) (Nat.le_of_ble_eq_true rfl) dX5_takesShare_21
theorem dX5_takesReinstate_0 : decode cX5_takesReinstate 0 = .ok (.aload_n 0, 1) := by decide +kernel
theorem dX5_takesReinstate_1 : decode cX5_takesReinstate 1 = .ok (.iload_n 1, 1) := by decide +kernel
theorem dX5_takesReinstate_2 : decode cX5_takesReinstate 2 = .ok (.putfield 25, 3) := by decide +kernel
theorem dX5_takesReinstate_5 : decode cX5_takesReinstate 5 = .ok (.iload_n 1, 1) := by decide +kernel
theorem dX5_takesReinstate_6 : decode cX5_takesReinstate 6 = .ok (.iconst 4, 1) := by decide +kernel
theorem dX5_takesReinstate_7 : decode cX5_takesReinstate 7 = .ok (.if_icmp .gt 7, 3) := by decide +kernel
theorem dX5_takesReinstate_10 : decode cX5_takesReinstate 10 = .ok (.iconst 1, 1) := by decide +kernel
theorem dX5_takesReinstate_11 : decode cX5_takesReinstate 11 = .ok (.goto 4, 3) := by decide +kernel
theorem dX5_takesReinstate_15 : decode cX5_takesReinstate 15 = .ok (.ireturn, 1) := by decide +kernel
set_option maxHeartbeats 400000 in
set_option maxRecDepth 100000 in
theorem c_tRein (l : Launch) (G : hG) (M : hM) (a t : Nat) (L : hLy) (ht : 2000 ≤ t) (hLy : LyV G M a t L) (x : Int32) (hx1 : x ≤ 4) : hCT l G yX5_takesReinstate cX5_takesReinstate 2 (Option.some FieldType.boolean) (hRm 1 0 0) M [.ref a, .int x] (fun v M' => v = some (.int 1) ∧ LyV G M' a t (lyU L 1 x) ∧ hFr (fun u => t ≤ u ∧ u < t + 10) M M') := by
  refine hCT.of (own := RX5) (nm := "takesReinstate") (by decide) rfl rfl (Nat.le_of_ble_eq_true rfl) ?_
  intro p e s m args below meth c ls X Y hl
  have hx := X.1
  have hb := X.2.1
  have hl : lv_has ls 2 [(0, .ref a), (1, .int x)] := hl
  obtain ⟨hy0, hy1, hy2, hy3, hy4, hy5⟩ := id hLy
  have hfr : hFr (fun u => t ≤ u ∧ u < t + 10) M M := hFr.rf
  refine lv_aload_n hx hb dX5_takesReinstate_0 rfl (lv_at hl 0 rfl) ?_
  refine lv_iload_n hx hb dX5_takesReinstate_1 rfl (lv_at hl 1 rfl) ?_
  refine h_put X Y (k := 6) (v := .int x) hy0 rfl hin_X5 tyX5_ok nmX5 (by decide) kfl_X5_25 rfl rfl rfl (Nat.le_of_ble_eq_true rfl) dX5_takesReinstate_2 (fun H locs Y => ?_)
  have Y : hHS G (hup M a (t, .inr (7, [.ref (lyA L 0), .ref (lyA L 1), va_rf (lyR L 0), va_rf (lyR L 1), va_rf (lyR L 2), .int (lyI L 0), .int x, .ref (lyA L 2), .int (lyI L 2), .int (lyI L 3), .ref (lyA L 3), .ref (lyA L 4), .ref (lyA L 5), .ref (lyA L 6)]))) s H locs := Y
  have hy1 := hup_tag (x := (t, .inr (7, [.ref (lyA L 0), .ref (lyA L 1), va_rf (lyR L 0), va_rf (lyR L 1), va_rf (lyR L 2), .int (lyI L 0), .int x, .ref (lyA L 2), .int (lyI L 2), .int (lyI L 3), .ref (lyA L 3), .ref (lyA L 4), .ref (lyA L 5), .ref (lyA L 6)]))) hy1 hy0 (by omega)
  have hy2 := hup_tag (x := (t, .inr (7, [.ref (lyA L 0), .ref (lyA L 1), va_rf (lyR L 0), va_rf (lyR L 1), va_rf (lyR L 2), .int (lyI L 0), .int x, .ref (lyA L 2), .int (lyI L 2), .int (lyI L 3), .ref (lyA L 3), .ref (lyA L 4), .ref (lyA L 5), .ref (lyA L 6)]))) hy2 hy0 (by omega)
  have hy3 := hup_tag (x := (t, .inr (7, [.ref (lyA L 0), .ref (lyA L 1), va_rf (lyR L 0), va_rf (lyR L 1), va_rf (lyR L 2), .int (lyI L 0), .int x, .ref (lyA L 2), .int (lyI L 2), .int (lyI L 3), .ref (lyA L 3), .ref (lyA L 4), .ref (lyA L 5), .ref (lyA L 6)]))) hy3 hy0 (by omega)
  have hy4 := hup_tag (x := (t, .inr (7, [.ref (lyA L 0), .ref (lyA L 1), va_rf (lyR L 0), va_rf (lyR L 1), va_rf (lyR L 2), .int (lyI L 0), .int x, .ref (lyA L 2), .int (lyI L 2), .int (lyI L 3), .ref (lyA L 3), .ref (lyA L 4), .ref (lyA L 5), .ref (lyA L 6)]))) hy4 hy0 (by omega)
  have hy5 := hup_tag (x := (t, .inr (7, [.ref (lyA L 0), .ref (lyA L 1), va_rf (lyR L 0), va_rf (lyR L 1), va_rf (lyR L 2), .int (lyI L 0), .int x, .ref (lyA L 2), .int (lyI L 2), .int (lyI L 3), .ref (lyA L 3), .ref (lyA L 4), .ref (lyA L 5), .ref (lyA L 6)]))) hy5 hy0 (by omega)
  have hfr := hfr.put (x := (t, .inr (7, [.ref (lyA L 0), .ref (lyA L 1), va_rf (lyR L 0), va_rf (lyR L 1), va_rf (lyR L 2), .int (lyI L 0), .int x, .ref (lyA L 2), .int (lyI L 2), .int (lyI L 3), .ref (lyA L 3), .ref (lyA L 4), .ref (lyA L 5), .ref (lyA L 6)]))) hy0 (by omega)
  have hy0 : hup M a (t, .inr (7, [.ref (lyA L 0), .ref (lyA L 1), va_rf (lyR L 0), va_rf (lyR L 1), va_rf (lyR L 2), .int (lyI L 0), .int x, .ref (lyA L 2), .int (lyI L 2), .int (lyI L 3), .ref (lyA L 3), .ref (lyA L 4), .ref (lyA L 5), .ref (lyA L 6)])) a = some (t, .inr (7, [.ref (lyA L 0), .ref (lyA L 1), va_rf (lyR L 0), va_rf (lyR L 1), va_rf (lyR L 2), .int (lyI L 0), .int x, .ref (lyA L 2), .int (lyI L 2), .int (lyI L 3), .ref (lyA L 3), .ref (lyA L 4), .ref (lyA L 5), .ref (lyA L 6)])) := hup_eq
  generalize hup M a (t, .inr (7, [.ref (lyA L 0), .ref (lyA L 1), va_rf (lyR L 0), va_rf (lyR L 1), va_rf (lyR L 2), .int (lyI L 0), .int x, .ref (lyA L 2), .int (lyI L 2), .int (lyI L 3), .ref (lyA L 3), .ref (lyA L 4), .ref (lyA L 5), .ref (lyA L 6)])) = Mz1 at Y hy0 hy1 hy2 hy3 hy4 hy5 hfr
  refine lv_iload_n hx hb dX5_takesReinstate_5 rfl (lv_at hl 1 rfl) ?_
  refine lv_iconst (v := 4) hx hb dX5_takesReinstate_6 (by decide) ?_
  refine lv_icmp_gt (tgt := 14) hx hb dX5_takesReinstate_7 (by decide) (fun c7 => absurd hx1 (fb_lt c7)) (fun c7 => ?_)
  refine lv_iconst (v := 1) hx hb dX5_takesReinstate_10 (by decide) ?_
  refine lv_goto (tgt := 15) hx hb dX5_takesReinstate_11 (by decide) ?_
  exact h_zret X Y rfl ⟨rfl, ⟨hy0, hy1, hy2, hy3, hy4, hy5⟩, hfr⟩ (Nat.le_of_ble_eq_true rfl) (Nat.le_of_ble_eq_true rfl) dX5_takesReinstate_15
theorem dX5_takesAt_0 : decode cX5_takesAt 0 = .ok (.iload_n 1, 1) := by decide +kernel
theorem dX5_takesAt_1 : decode cX5_takesAt 1 = .ok (.sipush 300, 3) := by decide +kernel
theorem dX5_takesAt_4 : decode cX5_takesAt 4 = .ok (.if_icmp .gt 26, 3) := by decide +kernel
theorem dX5_takesAt_7 : decode cX5_takesAt 7 = .ok (.aload_n 0, 1) := by decide +kernel
theorem dX5_takesAt_8 : decode cX5_takesAt 8 = .ok (.getfield 32, 3) := by decide +kernel
theorem dX5_takesAt_11 : decode cX5_takesAt 11 = .ok (.aload_n 0, 1) := by decide +kernel
theorem dX5_takesAt_12 : decode cX5_takesAt 12 = .ok (.getfield 25, 3) := by decide +kernel
theorem dX5_takesAt_15 : decode cX5_takesAt 15 = .ok (.if_icmp .ge 15, 3) := by decide +kernel
theorem dX5_takesAt_18 : decode cX5_takesAt 18 = .ok (.aload_n 0, 1) := by decide +kernel
theorem dX5_takesAt_19 : decode cX5_takesAt 19 = .ok (.getfield 32, 3) := by decide +kernel
theorem dX5_takesAt_22 : decode cX5_takesAt 22 = .ok (.aload_n 0, 1) := by decide +kernel
theorem dX5_takesAt_23 : decode cX5_takesAt 23 = .ok (.getfield 28, 3) := by decide +kernel
theorem dX5_takesAt_26 : decode cX5_takesAt 26 = .ok (.arraylength, 1) := by decide +kernel
theorem dX5_takesAt_27 : decode cX5_takesAt 27 = .ok (.if_icmp .lt 5, 3) := by decide +kernel
theorem dX5_takesAt_32 : decode cX5_takesAt 32 = .ok (.aload_n 0, 1) := by decide +kernel
theorem dX5_takesAt_33 : decode cX5_takesAt 33 = .ok (.getfield 28, 3) := by decide +kernel
theorem dX5_takesAt_36 : decode cX5_takesAt 36 = .ok (.aload_n 0, 1) := by decide +kernel
theorem dX5_takesAt_37 : decode cX5_takesAt 37 = .ok (.getfield 32, 3) := by decide +kernel
theorem dX5_takesAt_40 : decode cX5_takesAt 40 = .ok (.iload_n 1, 1) := by decide +kernel
theorem dX5_takesAt_41 : decode cX5_takesAt 41 = .ok (.iastore, 1) := by decide +kernel
theorem dX5_takesAt_42 : decode cX5_takesAt 42 = .ok (.aload_n 0, 1) := by decide +kernel
theorem dX5_takesAt_43 : decode cX5_takesAt 43 = .ok (.dup, 1) := by decide +kernel
theorem dX5_takesAt_44 : decode cX5_takesAt 44 = .ok (.getfield 32, 3) := by decide +kernel
theorem dX5_takesAt_47 : decode cX5_takesAt 47 = .ok (.iconst 1, 1) := by decide +kernel
theorem dX5_takesAt_48 : decode cX5_takesAt 48 = .ok (.iadd, 1) := by decide +kernel
theorem dX5_takesAt_49 : decode cX5_takesAt 49 = .ok (.putfield 32, 3) := by decide +kernel
theorem dX5_takesAt_52 : decode cX5_takesAt 52 = .ok (.iconst 1, 1) := by decide +kernel
theorem dX5_takesAt_53 : decode cX5_takesAt 53 = .ok (.ireturn, 1) := by decide +kernel
set_option maxHeartbeats 400000 in
set_option maxRecDepth 100000 in
theorem c_tAt (l : Launch) (G : hG) (M : hM) (a t : Nat) (L : hLy) (ht : 2000 ≤ t) (hLy : LyV G M a t L) (x : Int32) (hx1 : x ≤ 300) (h2 : lyI L 2 = 0) (hr : (0 : Int32) < lyI L 1) : hCT l G yX5_takesAt cX5_takesAt 2 (Option.some FieldType.boolean) (hRm 1 0 0) M [.ref a, .int x] (fun v M' => v = some (.int 1) ∧ LyV G M' a t (lyX L x) ∧ hFr (fun u => t ≤ u ∧ u < t + 10) M M') := by
  refine hCT.of (own := RX5) (nm := "takesAt") (by decide) rfl rfl (Nat.le_of_ble_eq_true rfl) ?_
  intro p e s m args below meth c ls X Y hl
  have hx := X.1
  have hb := X.2.1
  have hl : lv_has ls 2 [(0, .ref a), (1, .int x)] := hl
  obtain ⟨hy0, hy1, hy2, hy3, hy4, hy5⟩ := id hLy
  have hfr : hFr (fun u => t ≤ u ∧ u < t + 10) M M := hFr.rf
  refine lv_iload_n hx hb dX5_takesAt_0 rfl (lv_at hl 1 rfl) ?_
  refine lv_sipush (v := 300) hx hb dX5_takesAt_1 (by decide) ?_
  refine lv_icmp_gt (tgt := 30) hx hb dX5_takesAt_4 (by decide) (fun c4 => absurd hx1 (fb_lt c4)) (fun c4 => ?_)
  refine lv_aload_n hx hb dX5_takesAt_7 rfl (lv_at hl 0 rfl) ?_
  refine h_get X Y (k := 8) (v := .int (lyI L 2)) hy0 rfl hin_X5 (by decide) kfl_X5_32 rfl dX5_takesAt_8 ?_
  refine h_ev (y := nI 0) h2 ?_
  refine lv_aload_n hx hb dX5_takesAt_11 rfl (lv_at hl 0 rfl) ?_
  refine h_get X Y (k := 6) (v := .int (lyI L 1)) hy0 rfl hin_X5 (by decide) kfl_X5_25 rfl dX5_takesAt_12 ?_
  refine lv_icmp_ge (tgt := 30) hx hb dX5_takesAt_15 (by decide) (fun c15 => absurd c15 (fb_lt hr)) (fun c15 => ?_)
  refine lv_aload_n hx hb dX5_takesAt_18 rfl (lv_at hl 0 rfl) ?_
  refine h_get X Y (k := 8) (v := .int (lyI L 2)) hy0 rfl hin_X5 (by decide) kfl_X5_32 rfl dX5_takesAt_19 ?_
  refine h_ev (y := nI 0) h2 ?_
  refine lv_aload_n hx hb dX5_takesAt_22 rfl (lv_at hl 0 rfl) ?_
  refine h_get X Y (k := 7) (v := .ref (lyA L 2)) hy0 rfl hin_X5 (by decide) kfl_X5_28 rfl dX5_takesAt_23 ?_
  refine h_alen X Y 0 hy1 rfl dX5_takesAt_26 ?_
  refine lv_icmp_lt (tgt := 32) hx hb dX5_takesAt_27 (by decide) (fun c27 => ?_) (fun c27 => absurd (by decide) c27)
  refine lv_aload_n hx hb dX5_takesAt_32 rfl (lv_at hl 0 rfl) ?_
  refine h_get X Y (k := 7) (v := .ref (lyA L 2)) hy0 rfl hin_X5 (by decide) kfl_X5_28 rfl dX5_takesAt_33 ?_
  refine lv_aload_n hx hb dX5_takesAt_36 rfl (lv_at hl 0 rfl) ?_
  refine h_get X Y (k := 8) (v := .int (lyI L 2)) hy0 rfl hin_X5 (by decide) kfl_X5_32 rfl dX5_takesAt_37 ?_
  refine h_ev (y := nI 0) h2 ?_
  refine lv_iload_n hx hb dX5_takesAt_40 rfl (lv_at hl 1 rfl) ?_
  refine h_iast X Y (i := 0) hy1 (by omega) (by decide) dX5_takesAt_41 (fun H locs Y => ?_)
  have hy0 := hup_tag (x := (t + 1, .inl (hT G 0, 4, .inl (upd (lyN L 0) 0 x)))) hy0 hy1 (by omega)
  have hy2 := hup_tag (x := (t + 1, .inl (hT G 0, 4, .inl (upd (lyN L 0) 0 x)))) hy2 hy1 (by omega)
  have hy3 := hup_tag (x := (t + 1, .inl (hT G 0, 4, .inl (upd (lyN L 0) 0 x)))) hy3 hy1 (by omega)
  have hy4 := hup_tag (x := (t + 1, .inl (hT G 0, 4, .inl (upd (lyN L 0) 0 x)))) hy4 hy1 (by omega)
  have hy5 := hup_tag (x := (t + 1, .inl (hT G 0, 4, .inl (upd (lyN L 0) 0 x)))) hy5 hy1 (by omega)
  have hfr := hfr.put (x := (t + 1, .inl (hT G 0, 4, .inl (upd (lyN L 0) 0 x)))) hy1 (by omega)
  have hy1 : hup M (lyA L 2) (t + 1, .inl (hT G 0, 4, .inl (upd (lyN L 0) 0 x))) (lyA L 2) = some (t + 1, .inl (hT G 0, 4, .inl (upd (lyN L 0) 0 x))) := hup_eq
  generalize hup M (lyA L 2) (t + 1, .inl (hT G 0, 4, .inl (upd (lyN L 0) 0 x))) = Mz1 at Y hy1 hy0 hy2 hy3 hy4 hy5 hfr
  refine lv_aload_n hx hb dX5_takesAt_42 rfl (lv_at hl 0 rfl) ?_
  refine lv_dup hx hb dX5_takesAt_43 rfl ?_
  refine h_get X Y (k := 8) (v := .int (lyI L 2)) hy0 rfl hin_X5 (by decide) kfl_X5_32 rfl dX5_takesAt_44 ?_
  refine h_ev (y := nI 0) h2 ?_
  refine lv_iconst (v := 1) hx hb dX5_takesAt_47 (by decide) ?_
  refine lv_iadd hx hb dX5_takesAt_48 ?_
  refine h_ev (y := nI 1) (by decide) ?_
  refine h_put X Y (k := 8) (v := .int (nI 1)) hy0 rfl hin_X5 tyX5_ok nmX5 (by decide) kfl_X5_32 rfl rfl rfl (Nat.le_of_ble_eq_true rfl) dX5_takesAt_49 (fun H locs Y => ?_)
  have Y : hHS G (hup Mz1 a (t, .inr (7, [.ref (lyA L 0), .ref (lyA L 1), va_rf (lyR L 0), va_rf (lyR L 1), va_rf (lyR L 2), .int (lyI L 0), .int (lyI L 1), .ref (lyA L 2), .int (nI 1), .int (lyI L 3), .ref (lyA L 3), .ref (lyA L 4), .ref (lyA L 5), .ref (lyA L 6)]))) s H locs := Y
  have hy1 := hup_tag (x := (t, .inr (7, [.ref (lyA L 0), .ref (lyA L 1), va_rf (lyR L 0), va_rf (lyR L 1), va_rf (lyR L 2), .int (lyI L 0), .int (lyI L 1), .ref (lyA L 2), .int (nI 1), .int (lyI L 3), .ref (lyA L 3), .ref (lyA L 4), .ref (lyA L 5), .ref (lyA L 6)]))) hy1 hy0 (by omega)
  have hy2 := hup_tag (x := (t, .inr (7, [.ref (lyA L 0), .ref (lyA L 1), va_rf (lyR L 0), va_rf (lyR L 1), va_rf (lyR L 2), .int (lyI L 0), .int (lyI L 1), .ref (lyA L 2), .int (nI 1), .int (lyI L 3), .ref (lyA L 3), .ref (lyA L 4), .ref (lyA L 5), .ref (lyA L 6)]))) hy2 hy0 (by omega)
  have hy3 := hup_tag (x := (t, .inr (7, [.ref (lyA L 0), .ref (lyA L 1), va_rf (lyR L 0), va_rf (lyR L 1), va_rf (lyR L 2), .int (lyI L 0), .int (lyI L 1), .ref (lyA L 2), .int (nI 1), .int (lyI L 3), .ref (lyA L 3), .ref (lyA L 4), .ref (lyA L 5), .ref (lyA L 6)]))) hy3 hy0 (by omega)
  have hy4 := hup_tag (x := (t, .inr (7, [.ref (lyA L 0), .ref (lyA L 1), va_rf (lyR L 0), va_rf (lyR L 1), va_rf (lyR L 2), .int (lyI L 0), .int (lyI L 1), .ref (lyA L 2), .int (nI 1), .int (lyI L 3), .ref (lyA L 3), .ref (lyA L 4), .ref (lyA L 5), .ref (lyA L 6)]))) hy4 hy0 (by omega)
  have hy5 := hup_tag (x := (t, .inr (7, [.ref (lyA L 0), .ref (lyA L 1), va_rf (lyR L 0), va_rf (lyR L 1), va_rf (lyR L 2), .int (lyI L 0), .int (lyI L 1), .ref (lyA L 2), .int (nI 1), .int (lyI L 3), .ref (lyA L 3), .ref (lyA L 4), .ref (lyA L 5), .ref (lyA L 6)]))) hy5 hy0 (by omega)
  have hfr := hfr.put (x := (t, .inr (7, [.ref (lyA L 0), .ref (lyA L 1), va_rf (lyR L 0), va_rf (lyR L 1), va_rf (lyR L 2), .int (lyI L 0), .int (lyI L 1), .ref (lyA L 2), .int (nI 1), .int (lyI L 3), .ref (lyA L 3), .ref (lyA L 4), .ref (lyA L 5), .ref (lyA L 6)]))) hy0 (by omega)
  have hy0 : hup Mz1 a (t, .inr (7, [.ref (lyA L 0), .ref (lyA L 1), va_rf (lyR L 0), va_rf (lyR L 1), va_rf (lyR L 2), .int (lyI L 0), .int (lyI L 1), .ref (lyA L 2), .int (nI 1), .int (lyI L 3), .ref (lyA L 3), .ref (lyA L 4), .ref (lyA L 5), .ref (lyA L 6)])) a = some (t, .inr (7, [.ref (lyA L 0), .ref (lyA L 1), va_rf (lyR L 0), va_rf (lyR L 1), va_rf (lyR L 2), .int (lyI L 0), .int (lyI L 1), .ref (lyA L 2), .int (nI 1), .int (lyI L 3), .ref (lyA L 3), .ref (lyA L 4), .ref (lyA L 5), .ref (lyA L 6)])) := hup_eq
  generalize hup Mz1 a (t, .inr (7, [.ref (lyA L 0), .ref (lyA L 1), va_rf (lyR L 0), va_rf (lyR L 1), va_rf (lyR L 2), .int (lyI L 0), .int (lyI L 1), .ref (lyA L 2), .int (nI 1), .int (lyI L 3), .ref (lyA L 3), .ref (lyA L 4), .ref (lyA L 5), .ref (lyA L 6)])) = Mz2 at Y hy0 hy1 hy2 hy3 hy4 hy5 hfr
  refine lv_iconst (v := 1) hx hb dX5_takesAt_52 (by decide) ?_
  exact h_zret X Y rfl ⟨rfl, ⟨hy0, hy1, hy2, hy3, hy4, hy5⟩, hfr⟩ (Nat.le_of_ble_eq_true rfl) (Nat.le_of_ble_eq_true rfl) dX5_takesAt_53
theorem gw_X2_33 : GoodIn hGW (wsV RX2 33 RX9 yX9_signAt (Cond.code yX9_signAt cX9_signAt 2 (Option.some (FieldType.object "LossHouse$Sign")) :: hGW)) := hgi4 kml_X2_33 kin_X9_signAt kse_X9_X9_signAt_X9_signAt kini_X9 kco_X9_signAt
theorem gw_X2_46 : GoodIn hGW (wsV RX2 46 RX9 yX9_wordAt (Cond.code yX9_wordAt cX9_wordAt 2 (Option.some FieldType.long) :: hGW)) := hgi4 kml_X2_46 kin_X9_wordAt kse_X9_X9_wordAt_X9_wordAt kini_X9 kco_X9_wordAt
theorem dsc_X9_wordAt : yX9_wordAt.cls = RX9 ∧ yX9_wordAt.cls ≠ "java/lang/invoke/MethodHandle" ∧ yX9_wordAt.cls ≠ "java/lang/invoke/VarHandle" ∧ (parseMethodDescriptor yX9_wordAt.desc).map (fun d => d.parameters.length) = some 1 := ⟨rfl, by decide +kernel, by decide +kernel, by decide +kernel⟩
theorem gw_X2_50 : GoodIn hGW (wsV RX2 50 RX2 yX2_nameLayer (Cond.code yX2_nameLayer cX2_nameLayer 3 (Option.some FieldType.int) :: hGW)) := hgi4 kml_X2_50 kin_X2_nameLayer kse_X2_X2_nameLayer_X2_nameLayer kini_X2 kco_X2_nameLayer
theorem dsc_X2_nameLayer : yX2_nameLayer.cls = RX2 ∧ yX2_nameLayer.cls ≠ "java/lang/invoke/MethodHandle" ∧ yX2_nameLayer.cls ≠ "java/lang/invoke/VarHandle" ∧ (parseMethodDescriptor yX2_nameLayer.desc).map (fun d => d.parameters.length) = some 1 := ⟨rfl, by decide +kernel, by decide +kernel, by decide +kernel⟩
theorem dX2_errorOf_0 : decode cX2_errorOf 0 = .ok (.aload_n 0, 1) := by decide +kernel
theorem dX2_errorOf_1 : decode cX2_errorOf 1 = .ok (.getfield 22, 3) := by decide +kernel
theorem dX2_errorOf_4 : decode cX2_errorOf 4 = .ok (.iload_n 1, 1) := by decide +kernel
theorem dX2_errorOf_5 : decode cX2_errorOf 5 = .ok (.iconst 1, 1) := by decide +kernel
theorem dX2_errorOf_6 : decode cX2_errorOf 6 = .ok (.isub, 1) := by decide +kernel
theorem dX2_errorOf_7 : decode cX2_errorOf 7 = .ok (.invokevirtual 33, 3) := by decide +kernel
theorem dX2_errorOf_10 : decode cX2_errorOf 10 = .ok (.astore_n 3, 1) := by decide +kernel
theorem dX2_errorOf_11 : decode cX2_errorOf 11 = .ok (.aload_n 0, 1) := by decide +kernel
theorem dX2_errorOf_12 : decode cX2_errorOf 12 = .ok (.getfield 22, 3) := by decide +kernel
theorem dX2_errorOf_15 : decode cX2_errorOf 15 = .ok (.iload_n 1, 1) := by decide +kernel
theorem dX2_errorOf_16 : decode cX2_errorOf 16 = .ok (.invokevirtual 33, 3) := by decide +kernel
theorem dX2_errorOf_19 : decode cX2_errorOf 19 = .ok (.getstatic 37, 3) := by decide +kernel
theorem dX2_errorOf_22 : decode cX2_errorOf 22 = .ok (.if_acmp .ne 7, 3) := by decide +kernel
theorem dX2_errorOf_25 : decode cX2_errorOf 25 = .ok (.iconst 1, 1) := by decide +kernel
theorem dX2_errorOf_26 : decode cX2_errorOf 26 = .ok (.goto 4, 3) := by decide +kernel
theorem dX2_errorOf_30 : decode cX2_errorOf 30 = .ok (.istore 4, 2) := by decide +kernel
theorem dX2_errorOf_32 : decode cX2_errorOf 32 = .ok (.iload 4, 2) := by decide +kernel
theorem dX2_errorOf_34 : decode cX2_errorOf 34 = .ok (.ifCond .eq 23, 3) := by decide +kernel
theorem dX2_errorOf_37 : decode cX2_errorOf 37 = .ok (.aload_n 3, 1) := by decide +kernel
theorem dX2_errorOf_38 : decode cX2_errorOf 38 = .ok (.getstatic 43, 3) := by decide +kernel
theorem dX2_errorOf_41 : decode cX2_errorOf 41 = .ok (.if_acmp .ne 16, 3) := by decide +kernel
theorem dX2_errorOf_44 : decode cX2_errorOf 44 = .ok (.aload_n 0, 1) := by decide +kernel
theorem dX2_errorOf_45 : decode cX2_errorOf 45 = .ok (.aload_n 0, 1) := by decide +kernel
theorem dX2_errorOf_46 : decode cX2_errorOf 46 = .ok (.getfield 22, 3) := by decide +kernel
theorem dX2_errorOf_49 : decode cX2_errorOf 49 = .ok (.iload_n 1, 1) := by decide +kernel
theorem dX2_errorOf_50 : decode cX2_errorOf 50 = .ok (.invokevirtual 46, 3) := by decide +kernel
theorem dX2_errorOf_53 : decode cX2_errorOf 53 = .ok (.invokevirtual 50, 3) := by decide +kernel
theorem dX2_errorOf_56 : decode cX2_errorOf 56 = .ok (.ireturn, 1) := by decide +kernel
set_option maxHeartbeats 400000 in
set_option maxRecDepth 100000 in
theorem c_errName (l : Launch) (G : hG) (M : hM) (A : Nat → Nat) (N : Nat) (sg : Nat → Nat) (nb : Nat → Int32) (wd : Nat → Int64) (hN : N < 400) (hTk : TkV G M A N sg nb wd) (hs7 : ∀ i, i ≤ N → sg i < 37) (cn : Nat) (wr : Int32) (f12 : Nat → Int64) (hc11 : M (A 11) = some (11, .inr (4, [.ref (A 3), .ref (A 12), .int (nI cn), .int wr]))) (hc12 : M (A 12) = some (12, .inl (hT G 2, 8, .inr (.inl f12)))) (lst e0 : Nat) (g : Nat → Nat) (hlO : LsO M lst 3013 e0 3) (hlE : LsE G M e0 3014 3 g) (i0 : Nat) (hi0 : i0 + 1 ≤ N) (hk1 : sg i0 = 0) (hk2 : sg (i0 + 1) = 33) (hc8 : cn < 8) (hno : ∀ j, j < cn → f12 j ≠ wd (i0 + 1)) : hCT l G yX2_errorOf cX2_errorOf 7 (Option.some FieldType.int) (hRm 5 0 0) M [.ref (A 11), .int (nI (i0 + 1)), .ref lst] (fun v M' => v = some (.int 0) ∧ M' (A 11) = some (11, .inr (4, [.ref (A 3), .ref (A 12), .int (nI (cn + 1)), .int wr])) ∧ M' (A 12) = some (12, .inl (hT G 2, 8, .inr (.inl (vp_updL f12 cn (wd (i0 + 1)))))) ∧ hFr (fun u => u = 11 ∨ u = 12) M M') := by
  refine hCT.of (own := RX2) (nm := "errorOf") (by decide) rfl rfl (Nat.le_of_ble_eq_true rfl) ?_
  intro p e s m args below meth c ls X Y hl
  have hx := X.1
  have hb := X.2.1
  have hl : lv_has ls 7 [(0, .ref (A 11)), (1, .int (nI (i0 + 1))), (2, .ref lst)] := hl
  obtain ⟨mcl, hlo⟩ := id hlO
  have hs91 := hs7 i0 (by omega)
  have hs92 := hs7 (i0 + 1) (by omega)
  refine lv_aload_n hx hb dX2_errorOf_0 rfl (lv_at hl 0 rfl) ?_
  refine h_get X Y (k := 0) (v := .ref (A 3)) hc11 rfl hin_X2 (by decide) kfl_X2_22 rfl dX2_errorOf_1 ?_
  refine lv_iload_n hx hb dX2_errorOf_4 rfl (lv_at hl 1 rfl) ?_
  refine lv_iconst (v := 1) hx hb dX2_errorOf_5 (by decide) ?_
  refine lv_isub hx hb dX2_errorOf_6 ?_
  refine h_ev (y := nI i0) (nI_pred i0) ?_
  refine h_callVr (rest := []) X Y (c_signAt l G M A N sg nb wd hN hTk i0 (by omega)) rfl rfl gw_X2_33 dsc_X9_signAt hTk.1 rfl rfl rfl rfl hl.1 (Nat.le_of_ble_eq_true rfl) ⟨Nat.le_of_ble_eq_true rfl, Nat.le_of_ble_eq_true rfl⟩ ⟨Nat.le_of_ble_eq_true rfl, Nat.le_of_ble_eq_true rfl⟩ dX2_errorOf_7 (fun H locs Y => ?_)
  refine lv_astore_n (lv' := [(3, .ref (hSg G (sg i0))), (0, .ref (A 11)), (1, .int (nI (i0 + 1))), (2, .ref lst)]) hx hb dX2_errorOf_10 rfl hl (by decide) rfl (fun ls hl => ?_)
  refine lv_aload_n hx hb dX2_errorOf_11 rfl (lv_at hl 1 rfl) ?_
  refine h_get X Y (k := 0) (v := .ref (A 3)) hc11 rfl hin_X2 (by decide) kfl_X2_22 rfl dX2_errorOf_12 ?_
  refine lv_iload_n hx hb dX2_errorOf_15 rfl (lv_at hl 2 rfl) ?_
  refine h_callVr (rest := []) X Y (c_signAt l G M A N sg nb wd hN hTk (i0 + 1) (by omega)) rfl rfl gw_X2_33 dsc_X9_signAt hTk.1 rfl rfl rfl rfl hl.1 (Nat.le_of_ble_eq_true rfl) ⟨Nat.le_of_ble_eq_true rfl, Nat.le_of_ble_eq_true rfl⟩ ⟨Nat.le_of_ble_eq_true rfl, Nat.le_of_ble_eq_true rfl⟩ dX2_errorOf_16 (fun H locs Y => ?_)
  refine h_gets X Y (hsg_Z X.2.2.2.2.2.2.2.2.1 X.2.2.2.2.2.2.2.2.2.1 (k := 33) (by decide)) kfl_X2_37 dX2_errorOf_19 ?_
  refine lv_acmp_ne (rx := some (hSg G (sg (i0 + 1)))) (ry := some (hSg G 33)) (tgt := 29) hx hb dX2_errorOf_22 (by decide) (fun c22 => absurd (congrArg (fun z => some (hSg G z)) hk2) c22) (fun c22 => ?_)
  refine lv_iconst (v := 1) hx hb dX2_errorOf_25 (by decide) ?_
  refine lv_goto (tgt := 30) hx hb dX2_errorOf_26 (by decide) ?_
  refine lv_istore (lv' := [(4, .int 1), (3, .ref (hSg G (sg i0))), (0, .ref (A 11)), (1, .int (nI (i0 + 1))), (2, .ref lst)]) hx hb dX2_errorOf_30 hl (by decide) rfl (fun ls hl => ?_)
  refine lv_iload hx hb dX2_errorOf_32 (lv_at hl 0 rfl) ?_
  refine lv_if_eq (tgt := 57) hx hb dX2_errorOf_34 (by decide) (fun c34 => absurd c34 (by decide)) (fun c34 => ?_)
  refine lv_aload_n hx hb dX2_errorOf_37 rfl (lv_at hl 1 rfl) ?_
  refine h_gets X Y (hsg_Z X.2.2.2.2.2.2.2.2.1 X.2.2.2.2.2.2.2.2.2.1 (k := 0) (by decide)) kfl_X2_43 dX2_errorOf_38 ?_
  refine lv_acmp_ne (rx := some (hSg G (sg i0))) (ry := some (hSg G 0)) (tgt := 57) hx hb dX2_errorOf_41 (by decide) (fun c41 => absurd (congrArg (fun z => some (hSg G z)) hk1) c41) (fun c41 => ?_)
  refine lv_aload_n hx hb dX2_errorOf_44 rfl (lv_at hl 2 rfl) ?_
  refine lv_aload_n hx hb dX2_errorOf_45 rfl (lv_at hl 2 rfl) ?_
  refine h_get X Y (k := 0) (v := .ref (A 3)) hc11 rfl hin_X2 (by decide) kfl_X2_22 rfl dX2_errorOf_46 ?_
  refine lv_iload_n hx hb dX2_errorOf_49 rfl (lv_at hl 3 rfl) ?_
  refine h_callVr (rest := [.ref (A 11)]) X Y (c_tokWd l G M A N sg nb wd hN hTk (i0 + 1) (by omega)) rfl rfl gw_X2_46 dsc_X9_wordAt hTk.1 rfl rfl rfl rfl hl.1 (Nat.le_of_ble_eq_true rfl) ⟨Nat.le_of_ble_eq_true rfl, Nat.le_of_ble_eq_true rfl⟩ ⟨Nat.le_of_ble_eq_true rfl, Nat.le_of_ble_eq_true rfl⟩ dX2_errorOf_50 (fun H locs Y => ?_)
  refine h_callV (rest := []) X Y (c_nameLayer l G M A cn wr f12 hc11 hc12 (wd (i0 + 1)) hc8 hno) gw_X2_50 dsc_X2_nameLayer hc11 rfl rfl rfl hl.1 rfl (Nat.le_of_ble_eq_true rfl) ⟨Nat.le_of_ble_eq_true rfl, Nat.le_of_ble_eq_true rfl⟩ ⟨Nat.le_of_ble_eq_true rfl, Nat.le_of_ble_eq_true rfl⟩ dX2_errorOf_53 ?_
  rintro _ M1 H locs ⟨rfl, hc11, hc12, hfr⟩ Y
  try dsimp only [Option.toList, List.singleton_append]
  exact h_iret X Y ⟨rfl, hc11, hc12, hfr⟩ (Nat.le_of_ble_eq_true rfl) (Nat.le_of_ble_eq_true rfl) dX2_errorOf_56
theorem gw_X2_54 : GoodIn hGW (va_wsF RX2 54 RJx4a65c ⟨"java/util/List", "size", "()I"⟩ yJx4a65c_size_8abf5 (Cond.code yJx4a65c_size_8abf5 cJx4a65c_size_8abf5 1 (Option.some FieldType.int) :: hGW)) := hgi4 kml_X2_54 kse_Jx4a65c_Zjava_util_List_size___I_Jx4a65c_size_8abf5 kin_Jx4a65c_size_8abf5 kini_Jx4a65c kco_Jx4a65c_size_8abf5
theorem gw_X2_60 : GoodIn hGW (va_wsF RX2 60 RJx4a65c ⟨"java/util/List", "get", "(I)Ljava/lang/Object;"⟩ yJx4a65c_get_915e3 (Cond.code yJx4a65c_get_915e3 cJx4a65c_get_915e3 2 (Option.some (FieldType.object "java/lang/Object")) :: hGW)) := hgi4 kml_X2_60 kse_Jx4a65c_Zjava_util_List_get__I_Ljava_lang_Object__Jx4a65c_get_915e3 kin_Jx4a65c_get_915e3 kini_Jx4a65c kco_Jx4a65c_get_915e3
theorem gw_X2_66 : GoodIn hGW (wsV RX2 66 RX2 yX2_netError (Cond.code yX2_netError cX2_netError 5 (Option.some FieldType.int) :: hGW)) := hgi4 kml_X2_66 kin_X2_netError kse_X2_X2_netError_X2_netError kini_X2 kco_X2_netError
theorem dsc_X2_netError : yX2_netError.cls = RX2 ∧ yX2_netError.cls ≠ "java/lang/invoke/MethodHandle" ∧ yX2_netError.cls ≠ "java/lang/invoke/VarHandle" ∧ (parseMethodDescriptor yX2_netError.desc).map (fun d => d.parameters.length) = some 2 := ⟨rfl, by decide +kernel, by decide +kernel, by decide +kernel⟩
theorem dX2_errorOf_57 : decode cX2_errorOf 57 = .ok (.aload_n 0, 1) := by decide +kernel
theorem dX2_errorOf_58 : decode cX2_errorOf 58 = .ok (.getfield 15, 3) := by decide +kernel
theorem dX2_errorOf_61 : decode cX2_errorOf 61 = .ok (.iconst 1, 1) := by decide +kernel
theorem dX2_errorOf_62 : decode cX2_errorOf 62 = .ok (.if_icmp .lt 16, 3) := by decide +kernel
theorem dX2_errorOf_65 : decode cX2_errorOf 65 = .ok (.aload_n 0, 1) := by decide +kernel
theorem dX2_errorOf_66 : decode cX2_errorOf 66 = .ok (.getfield 15, 3) := by decide +kernel
theorem dX2_errorOf_69 : decode cX2_errorOf 69 = .ok (.aload_n 2, 1) := by decide +kernel
theorem dX2_errorOf_70 : decode cX2_errorOf 70 = .ok (.invokeinterface 54 1, 5) := by decide +kernel
theorem dX2_errorOf_75 : decode cX2_errorOf 75 = .ok (.if_icmp .le 5, 3) := by decide +kernel
theorem dX2_errorOf_80 : decode cX2_errorOf 80 = .ok (.aload_n 2, 1) := by decide +kernel
theorem dX2_errorOf_81 : decode cX2_errorOf 81 = .ok (.aload_n 0, 1) := by decide +kernel
theorem dX2_errorOf_82 : decode cX2_errorOf 82 = .ok (.getfield 15, 3) := by decide +kernel
theorem dX2_errorOf_85 : decode cX2_errorOf 85 = .ok (.iconst 1, 1) := by decide +kernel
theorem dX2_errorOf_86 : decode cX2_errorOf 86 = .ok (.isub, 1) := by decide +kernel
theorem dX2_errorOf_87 : decode cX2_errorOf 87 = .ok (.invokeinterface 60 2, 5) := by decide +kernel
theorem dX2_errorOf_92 : decode cX2_errorOf 92 = .ok (.checkcast 64, 3) := by decide +kernel
theorem dX2_errorOf_95 : decode cX2_errorOf 95 = .ok (.astore 5, 2) := by decide +kernel
theorem dX2_errorOf_97 : decode cX2_errorOf 97 = .ok (.iload 4, 2) := by decide +kernel
theorem dX2_errorOf_99 : decode cX2_errorOf 99 = .ok (.ifCond .eq 18, 3) := by decide +kernel
theorem dX2_errorOf_102 : decode cX2_errorOf 102 = .ok (.aload_n 0, 1) := by decide +kernel
theorem dX2_errorOf_103 : decode cX2_errorOf 103 = .ok (.aload 5, 2) := by decide +kernel
theorem dX2_errorOf_105 : decode cX2_errorOf 105 = .ok (.aload_n 0, 1) := by decide +kernel
theorem dX2_errorOf_106 : decode cX2_errorOf 106 = .ok (.getfield 22, 3) := by decide +kernel
theorem dX2_errorOf_109 : decode cX2_errorOf 109 = .ok (.iload_n 1, 1) := by decide +kernel
theorem dX2_errorOf_110 : decode cX2_errorOf 110 = .ok (.invokevirtual 46, 3) := by decide +kernel
theorem dX2_errorOf_113 : decode cX2_errorOf 113 = .ok (.invokevirtual 66, 3) := by decide +kernel
theorem dX2_errorOf_116 : decode cX2_errorOf 116 = .ok (.ireturn, 1) := by decide +kernel
set_option maxHeartbeats 400000 in
set_option maxRecDepth 100000 in
theorem c_errNet (l : Launch) (G : hG) (M : hM) (A : Nat → Nat) (N : Nat) (sg : Nat → Nat) (nb : Nat → Int32) (wd : Nat → Int64) (hN : N < 400) (hTk : TkV G M A N sg nb wd) (hs7 : ∀ i, i ≤ N → sg i < 37) (cn : Nat) (wr : Int32) (f12 : Nat → Int64) (hc11 : M (A 11) = some (11, .inr (4, [.ref (A 3), .ref (A 12), .int (nI (cn + 1)), .int wr]))) (hc12 : M (A 12) = some (12, .inl (hT G 2, 8, .inr (.inl f12)))) (lst e0 : Nat) (g : Nat → Nat) (hlO : LsO M lst 3013 e0 3) (hlE : LsE G M e0 3014 3 g) (i0 : Nat) (hi0 : i0 + 1 ≤ N) (hk1 : sg i0 ≠ 0) (hk2 : sg (i0 + 1) = 33) (t : Nat) (L : hLy) (ht : 2000 ≤ t) (hLy : LyV G M (g cn) t L) (hc3 : cn < 3) (j0 : Nat) (hj0 : j0 < cn) (hyes : f12 j0 = wd (i0 + 1)) (hno : ∀ j, j < j0 → f12 j ≠ wd (i0 + 1)) : hCT l G yX2_errorOf cX2_errorOf 7 (Option.some FieldType.int) (hRm 5 0 0) M [.ref (A 11), .int (nI (i0 + 1)), .ref lst] (fun v M' => v = some (.int 0) ∧ LyV G M' (g cn) t (lyNt L j0) ∧ hFr (fun u => t ≤ u ∧ u < t + 10) M M') := by
  refine hCT.of (own := RX2) (nm := "errorOf") (by decide) rfl rfl (Nat.le_of_ble_eq_true rfl) ?_
  intro p e s m args below meth c ls X Y hl
  have hx := X.1
  have hb := X.2.1
  have hl : lv_has ls 7 [(0, .ref (A 11)), (1, .int (nI (i0 + 1))), (2, .ref lst)] := hl
  obtain ⟨mcl, hlo⟩ := id hlO
  have hs91 := hs7 i0 (by omega)
  have hs92 := hs7 (i0 + 1) (by omega)
  refine lv_aload_n hx hb dX2_errorOf_0 rfl (lv_at hl 0 rfl) ?_
  refine h_get X Y (k := 0) (v := .ref (A 3)) hc11 rfl hin_X2 (by decide) kfl_X2_22 rfl dX2_errorOf_1 ?_
  refine lv_iload_n hx hb dX2_errorOf_4 rfl (lv_at hl 1 rfl) ?_
  refine lv_iconst (v := 1) hx hb dX2_errorOf_5 (by decide) ?_
  refine lv_isub hx hb dX2_errorOf_6 ?_
  refine h_ev (y := nI i0) (nI_pred i0) ?_
  refine h_callVr (rest := []) X Y (c_signAt l G M A N sg nb wd hN hTk i0 (by omega)) rfl rfl gw_X2_33 dsc_X9_signAt hTk.1 rfl rfl rfl rfl hl.1 (Nat.le_of_ble_eq_true rfl) ⟨Nat.le_of_ble_eq_true rfl, Nat.le_of_ble_eq_true rfl⟩ ⟨Nat.le_of_ble_eq_true rfl, Nat.le_of_ble_eq_true rfl⟩ dX2_errorOf_7 (fun H locs Y => ?_)
  refine lv_astore_n (lv' := [(3, .ref (hSg G (sg i0))), (0, .ref (A 11)), (1, .int (nI (i0 + 1))), (2, .ref lst)]) hx hb dX2_errorOf_10 rfl hl (by decide) rfl (fun ls hl => ?_)
  refine lv_aload_n hx hb dX2_errorOf_11 rfl (lv_at hl 1 rfl) ?_
  refine h_get X Y (k := 0) (v := .ref (A 3)) hc11 rfl hin_X2 (by decide) kfl_X2_22 rfl dX2_errorOf_12 ?_
  refine lv_iload_n hx hb dX2_errorOf_15 rfl (lv_at hl 2 rfl) ?_
  refine h_callVr (rest := []) X Y (c_signAt l G M A N sg nb wd hN hTk (i0 + 1) (by omega)) rfl rfl gw_X2_33 dsc_X9_signAt hTk.1 rfl rfl rfl rfl hl.1 (Nat.le_of_ble_eq_true rfl) ⟨Nat.le_of_ble_eq_true rfl, Nat.le_of_ble_eq_true rfl⟩ ⟨Nat.le_of_ble_eq_true rfl, Nat.le_of_ble_eq_true rfl⟩ dX2_errorOf_16 (fun H locs Y => ?_)
  refine h_gets X Y (hsg_Z X.2.2.2.2.2.2.2.2.1 X.2.2.2.2.2.2.2.2.2.1 (k := 33) (by decide)) kfl_X2_37 dX2_errorOf_19 ?_
  refine lv_acmp_ne (rx := some (hSg G (sg (i0 + 1)))) (ry := some (hSg G 33)) (tgt := 29) hx hb dX2_errorOf_22 (by decide) (fun c22 => absurd (congrArg (fun z => some (hSg G z)) hk2) c22) (fun c22 => ?_)
  refine lv_iconst (v := 1) hx hb dX2_errorOf_25 (by decide) ?_
  refine lv_goto (tgt := 30) hx hb dX2_errorOf_26 (by decide) ?_
  refine lv_istore (lv' := [(4, .int 1), (3, .ref (hSg G (sg i0))), (0, .ref (A 11)), (1, .int (nI (i0 + 1))), (2, .ref lst)]) hx hb dX2_errorOf_30 hl (by decide) rfl (fun ls hl => ?_)
  refine lv_iload hx hb dX2_errorOf_32 (lv_at hl 0 rfl) ?_
  refine lv_if_eq (tgt := 57) hx hb dX2_errorOf_34 (by decide) (fun c34 => absurd c34 (by decide)) (fun c34 => ?_)
  refine lv_aload_n hx hb dX2_errorOf_37 rfl (lv_at hl 1 rfl) ?_
  refine h_gets X Y (hsg_Z X.2.2.2.2.2.2.2.2.1 X.2.2.2.2.2.2.2.2.2.1 (k := 0) (by decide)) kfl_X2_43 dX2_errorOf_38 ?_
  refine lv_acmp_ne (rx := some (hSg G (sg i0))) (ry := some (hSg G 0)) (tgt := 57) hx hb dX2_errorOf_41 (by decide) (fun c41 => ?_) (fun c41 => absurd (hsg_inj X.2.2.2.2.2.2.2.2.1 (by omega) (by omega) (Option.some.inj c41)) hk1)
  refine lv_aload_n hx hb dX2_errorOf_57 rfl (lv_at hl 2 rfl) ?_
  refine h_get X Y (k := 2) (v := .int (nI (cn + 1))) hc11 rfl hin_X2 (by decide) kfl_X2_15 rfl dX2_errorOf_58 ?_
  refine lv_iconst (v := 1) hx hb dX2_errorOf_61 (by decide) ?_
  refine lv_icmp_lt (tgt := 78) hx hb dX2_errorOf_62 (by decide) (fun c62 => absurd (show (cn + 1) < 1 from (nI_ltI (a := (cn + 1)) (b := 1) (by omega) (by omega)).mp c62) (by omega)) (fun c62 => ?_)
  have c62 : ¬ (cn + 1) < 1 := fun z9 => c62 ((nI_ltI (a := (cn + 1)) (b := 1) (by omega) (by omega)).mpr z9)
  refine lv_aload_n hx hb dX2_errorOf_65 rfl (lv_at hl 2 rfl) ?_
  refine h_get X Y (k := 2) (v := .int (nI (cn + 1))) hc11 rfl hin_X2 (by decide) kfl_X2_15 rfl dX2_errorOf_66 ?_
  refine lv_aload_n hx hb dX2_errorOf_69 rfl (lv_at hl 4 rfl) ?_
  refine h_callFr (rest := [.int (nI (cn + 1))]) X Y (c_size l G M lst 3013 e0 3 hlO) rfl rfl (hFw_Jx4a65c_size_8abf5 X) gw_X2_54 dsi_Jx4a65c_size_8abf5 hlo rfl rfl rfl rfl hl.1 (Nat.le_of_ble_eq_true rfl) ⟨Nat.le_of_ble_eq_true rfl, Nat.le_of_ble_eq_true rfl⟩ ⟨Nat.le_of_ble_eq_true rfl, Nat.le_of_ble_eq_true rfl⟩ dX2_errorOf_70 (fun H locs Y => ?_)
  refine lv_icmp_le (tgt := 80) hx hb dX2_errorOf_75 (by decide) (fun c75 => ?_) (fun c75 => absurd (show ¬ (cn + 1) ≤ 3 from fun z9 => c75 ((nI_leI (a := (cn + 1)) (b := 3) (by omega) (by omega)).mpr z9)) (by omega))
  have c75 : (cn + 1) ≤ 3 := (nI_leI (a := (cn + 1)) (b := 3) (by omega) (by omega)).mp c75
  refine lv_aload_n hx hb dX2_errorOf_80 rfl (lv_at hl 4 rfl) ?_
  refine lv_aload_n hx hb dX2_errorOf_81 rfl (lv_at hl 2 rfl) ?_
  refine h_get X Y (k := 2) (v := .int (nI (cn + 1))) hc11 rfl hin_X2 (by decide) kfl_X2_15 rfl dX2_errorOf_82 ?_
  refine lv_iconst (v := 1) hx hb dX2_errorOf_85 (by decide) ?_
  refine lv_isub hx hb dX2_errorOf_86 ?_
  refine h_ev (y := nI cn) (nI_pred cn) ?_
  refine h_callFr (rest := []) X Y (c_get l G M lst 3013 e0 3014 3 cn g hlO hlE (by omega)) rfl rfl (hFw_Jx4a65c_get_915e3 X) gw_X2_60 dsi_Jx4a65c_get_915e3 hlo rfl rfl rfl rfl hl.1 (Nat.le_of_ble_eq_true rfl) ⟨Nat.le_of_ble_eq_true rfl, Nat.le_of_ble_eq_true rfl⟩ ⟨Nat.le_of_ble_eq_true rfl, Nat.le_of_ble_eq_true rfl⟩ dX2_errorOf_87 (fun H locs Y => ?_)
  refine h_cast X Y hLy.1 rfl rfl kcl_X2_64 dX2_errorOf_92 ?_
  refine lv_astore (lv' := [(5, .ref (g cn)), (4, .int 1), (3, .ref (hSg G (sg i0))), (0, .ref (A 11)), (1, .int (nI (i0 + 1))), (2, .ref lst)]) hx hb dX2_errorOf_95 hl (by decide) rfl (fun ls hl => ?_)
  refine lv_iload hx hb dX2_errorOf_97 (lv_at hl 1 rfl) ?_
  refine lv_if_eq (tgt := 117) hx hb dX2_errorOf_99 (by decide) (fun c99 => absurd c99 (by decide)) (fun c99 => ?_)
  refine lv_aload_n hx hb dX2_errorOf_102 rfl (lv_at hl 3 rfl) ?_
  refine lv_aload hx hb dX2_errorOf_103 (lv_at hl 0 rfl) ?_
  refine lv_aload_n hx hb dX2_errorOf_105 rfl (lv_at hl 3 rfl) ?_
  refine h_get X Y (k := 0) (v := .ref (A 3)) hc11 rfl hin_X2 (by decide) kfl_X2_22 rfl dX2_errorOf_106 ?_
  refine lv_iload_n hx hb dX2_errorOf_109 rfl (lv_at hl 4 rfl) ?_
  refine h_callVr (rest := [.ref (g cn), .ref (A 11)]) X Y (c_tokWd l G M A N sg nb wd hN hTk (i0 + 1) (by omega)) rfl rfl gw_X2_46 dsc_X9_wordAt hTk.1 rfl rfl rfl rfl hl.1 (Nat.le_of_ble_eq_true rfl) ⟨Nat.le_of_ble_eq_true rfl, Nat.le_of_ble_eq_true rfl⟩ ⟨Nat.le_of_ble_eq_true rfl, Nat.le_of_ble_eq_true rfl⟩ dX2_errorOf_110 (fun H locs Y => ?_)
  refine h_callV (rest := []) X Y (c_netError l G M A cn wr f12 hc11 hc12 (g cn) t L ht hLy j0 (wd (i0 + 1)) (by omega) hj0 hyes hno) gw_X2_66 dsc_X2_netError hc11 rfl rfl rfl hl.1 rfl (Nat.le_of_ble_eq_true rfl) ⟨Nat.le_of_ble_eq_true rfl, Nat.le_of_ble_eq_true rfl⟩ ⟨Nat.le_of_ble_eq_true rfl, Nat.le_of_ble_eq_true rfl⟩ dX2_errorOf_113 ?_
  rintro _ M1 H locs ⟨rfl, hLy, hfr⟩ Y
  try dsimp only [Option.toList, List.singleton_append]
  exact h_iret X Y ⟨rfl, hLy, hfr⟩ (Nat.le_of_ble_eq_true rfl) (Nat.le_of_ble_eq_true rfl) dX2_errorOf_116
theorem gw_X2_70 : GoodIn hGW (wsV RX2 70 RX9 yX9_numberAt (Cond.code yX9_numberAt cX9_numberAt 2 (Option.some FieldType.int) :: hGW)) := hgi4 kml_X2_70 kin_X9_numberAt kse_X9_X9_numberAt_X9_numberAt kini_X9 kco_X9_numberAt
theorem gw_X2_83 : GoodIn hGW (wsV RX2 83 RX5 yX5_takesShare (Cond.code yX5_takesShare cX5_takesShare 2 (Option.some FieldType.boolean) :: hGW)) := hgi4 kml_X2_83 kin_X5_takesShare kse_X5_X5_takesShare_X5_takesShare kini_X5 kco_X5_takesShare
theorem dsc_X5_takesShare : yX5_takesShare.cls = RX5 ∧ yX5_takesShare.cls ≠ "java/lang/invoke/MethodHandle" ∧ yX5_takesShare.cls ≠ "java/lang/invoke/VarHandle" ∧ (parseMethodDescriptor yX5_takesShare.desc).map (fun d => d.parameters.length) = some 1 := ⟨rfl, by decide +kernel, by decide +kernel, by decide +kernel⟩
theorem dX2_errorOf_29 : decode cX2_errorOf 29 = .ok (.iconst 0, 1) := by decide +kernel
theorem dX2_errorOf_117 : decode cX2_errorOf 117 = .ok (.aload_n 0, 1) := by decide +kernel
theorem dX2_errorOf_118 : decode cX2_errorOf 118 = .ok (.getfield 22, 3) := by decide +kernel
theorem dX2_errorOf_121 : decode cX2_errorOf 121 = .ok (.iload_n 1, 1) := by decide +kernel
theorem dX2_errorOf_122 : decode cX2_errorOf 122 = .ok (.invokevirtual 70, 3) := by decide +kernel
theorem dX2_errorOf_125 : decode cX2_errorOf 125 = .ok (.istore 6, 2) := by decide +kernel
theorem dX2_errorOf_127 : decode cX2_errorOf 127 = .ok (.getstatic 74, 3) := by decide +kernel
theorem dX2_errorOf_130 : decode cX2_errorOf 130 = .ok (.aload_n 3, 1) := by decide +kernel
theorem dX2_errorOf_131 : decode cX2_errorOf 131 = .ok (.invokevirtual 80, 3) := by decide +kernel
theorem dX2_errorOf_134 : decode cX2_errorOf 134 = .ok (.iaload, 1) := by decide +kernel
theorem dX2_errorOf_135 : decode cX2_errorOf 135 = .ok (.tableswitch 73 17 19 #[25, 41, 57], 25) := by decide +kernel
theorem dX2_errorOf_160 : decode cX2_errorOf 160 = .ok (.aload 5, 2) := by decide +kernel
theorem dX2_errorOf_162 : decode cX2_errorOf 162 = .ok (.iload 6, 2) := by decide +kernel
theorem dX2_errorOf_164 : decode cX2_errorOf 164 = .ok (.invokevirtual 83, 3) := by decide +kernel
theorem dX2_errorOf_167 : decode cX2_errorOf 167 = .ok (.ifCond .eq 7, 3) := by decide +kernel
theorem dX2_errorOf_170 : decode cX2_errorOf 170 = .ok (.iconst 0, 1) := by decide +kernel
theorem dX2_errorOf_171 : decode cX2_errorOf 171 = .ok (.goto 4, 3) := by decide +kernel
theorem dX2_errorOf_175 : decode cX2_errorOf 175 = .ok (.ireturn, 1) := by decide +kernel
set_option maxHeartbeats 400000 in
set_option maxRecDepth 100000 in
theorem c_errShare (l : Launch) (G : hG) (M : hM) (A : Nat → Nat) (N : Nat) (sg : Nat → Nat) (nb : Nat → Int32) (wd : Nat → Int64) (hN : N < 400) (hTk : TkV G M A N sg nb wd) (hs7 : ∀ i, i ≤ N → sg i < 37) (cn : Nat) (wr : Int32) (f12 : Nat → Int64) (hc11 : M (A 11) = some (11, .inr (4, [.ref (A 3), .ref (A 12), .int (nI (cn + 1)), .int wr]))) (hc12 : M (A 12) = some (12, .inl (hT G 2, 8, .inr (.inl f12)))) (lst e0 : Nat) (g : Nat → Nat) (hlO : LsO M lst 3013 e0 3) (hlE : LsE G M e0 3014 3 g) (i0 : Nat) (hi0 : i0 + 1 ≤ N) (hk1 : sg i0 = 2) (hk2 : sg (i0 + 1) ≠ 33) (t : Nat) (L : hLy) (ht : 2000 ≤ t) (hLy : LyV G M (g cn) t L) (hc3 : cn < 3) (hx0 : ¬ nb (i0 + 1) < 1) (hx1 : nb (i0 + 1) ≤ 100) : hCT l G yX2_errorOf cX2_errorOf 7 (Option.some FieldType.int) (hRm 5 0 0) M [.ref (A 11), .int (nI (i0 + 1)), .ref lst] (fun v M' => v = some (.int 0) ∧ LyV G M' (g cn) t (lyU L 0 (nb (i0 + 1))) ∧ hFr (fun u => t ≤ u ∧ u < t + 10) M M') := by
  refine hCT.of (own := RX2) (nm := "errorOf") (by decide) rfl rfl (Nat.le_of_ble_eq_true rfl) ?_
  intro p e s m args below meth c ls X Y hl
  have hx := X.1
  have hb := X.2.1
  have hl : lv_has ls 7 [(0, .ref (A 11)), (1, .int (nI (i0 + 1))), (2, .ref lst)] := hl
  obtain ⟨mcl, hlo⟩ := id hlO
  have hs91 := hs7 i0 (by omega)
  have hs92 := hs7 (i0 + 1) (by omega)
  refine lv_aload_n hx hb dX2_errorOf_0 rfl (lv_at hl 0 rfl) ?_
  refine h_get X Y (k := 0) (v := .ref (A 3)) hc11 rfl hin_X2 (by decide) kfl_X2_22 rfl dX2_errorOf_1 ?_
  refine lv_iload_n hx hb dX2_errorOf_4 rfl (lv_at hl 1 rfl) ?_
  refine lv_iconst (v := 1) hx hb dX2_errorOf_5 (by decide) ?_
  refine lv_isub hx hb dX2_errorOf_6 ?_
  refine h_ev (y := nI i0) (nI_pred i0) ?_
  refine h_callVr (rest := []) X Y (c_signAt l G M A N sg nb wd hN hTk i0 (by omega)) rfl rfl gw_X2_33 dsc_X9_signAt hTk.1 rfl rfl rfl rfl hl.1 (Nat.le_of_ble_eq_true rfl) ⟨Nat.le_of_ble_eq_true rfl, Nat.le_of_ble_eq_true rfl⟩ ⟨Nat.le_of_ble_eq_true rfl, Nat.le_of_ble_eq_true rfl⟩ dX2_errorOf_7 (fun H locs Y => ?_)
  refine lv_astore_n (lv' := [(3, .ref (hSg G (sg i0))), (0, .ref (A 11)), (1, .int (nI (i0 + 1))), (2, .ref lst)]) hx hb dX2_errorOf_10 rfl hl (by decide) rfl (fun ls hl => ?_)
  refine lv_aload_n hx hb dX2_errorOf_11 rfl (lv_at hl 1 rfl) ?_
  refine h_get X Y (k := 0) (v := .ref (A 3)) hc11 rfl hin_X2 (by decide) kfl_X2_22 rfl dX2_errorOf_12 ?_
  refine lv_iload_n hx hb dX2_errorOf_15 rfl (lv_at hl 2 rfl) ?_
  refine h_callVr (rest := []) X Y (c_signAt l G M A N sg nb wd hN hTk (i0 + 1) (by omega)) rfl rfl gw_X2_33 dsc_X9_signAt hTk.1 rfl rfl rfl rfl hl.1 (Nat.le_of_ble_eq_true rfl) ⟨Nat.le_of_ble_eq_true rfl, Nat.le_of_ble_eq_true rfl⟩ ⟨Nat.le_of_ble_eq_true rfl, Nat.le_of_ble_eq_true rfl⟩ dX2_errorOf_16 (fun H locs Y => ?_)
  refine h_gets X Y (hsg_Z X.2.2.2.2.2.2.2.2.1 X.2.2.2.2.2.2.2.2.2.1 (k := 33) (by decide)) kfl_X2_37 dX2_errorOf_19 ?_
  refine lv_acmp_ne (rx := some (hSg G (sg (i0 + 1)))) (ry := some (hSg G 33)) (tgt := 29) hx hb dX2_errorOf_22 (by decide) (fun c22 => ?_) (fun c22 => absurd (hsg_inj X.2.2.2.2.2.2.2.2.1 (by omega) (by omega) (Option.some.inj c22)) hk2)
  refine lv_iconst (v := 0) hx hb dX2_errorOf_29 (by decide) ?_
  refine lv_istore (lv' := [(4, .int 0), (3, .ref (hSg G (sg i0))), (0, .ref (A 11)), (1, .int (nI (i0 + 1))), (2, .ref lst)]) hx hb dX2_errorOf_30 hl (by decide) rfl (fun ls hl => ?_)
  refine lv_iload hx hb dX2_errorOf_32 (lv_at hl 0 rfl) ?_
  refine lv_if_eq (tgt := 57) hx hb dX2_errorOf_34 (by decide) (fun c34 => ?_) (fun c34 => absurd (by decide) c34)
  refine lv_aload_n hx hb dX2_errorOf_57 rfl (lv_at hl 2 rfl) ?_
  refine h_get X Y (k := 2) (v := .int (nI (cn + 1))) hc11 rfl hin_X2 (by decide) kfl_X2_15 rfl dX2_errorOf_58 ?_
  refine lv_iconst (v := 1) hx hb dX2_errorOf_61 (by decide) ?_
  refine lv_icmp_lt (tgt := 78) hx hb dX2_errorOf_62 (by decide) (fun c62 => absurd (show (cn + 1) < 1 from (nI_ltI (a := (cn + 1)) (b := 1) (by omega) (by omega)).mp c62) (by omega)) (fun c62 => ?_)
  have c62 : ¬ (cn + 1) < 1 := fun z9 => c62 ((nI_ltI (a := (cn + 1)) (b := 1) (by omega) (by omega)).mpr z9)
  refine lv_aload_n hx hb dX2_errorOf_65 rfl (lv_at hl 2 rfl) ?_
  refine h_get X Y (k := 2) (v := .int (nI (cn + 1))) hc11 rfl hin_X2 (by decide) kfl_X2_15 rfl dX2_errorOf_66 ?_
  refine lv_aload_n hx hb dX2_errorOf_69 rfl (lv_at hl 4 rfl) ?_
  refine h_callFr (rest := [.int (nI (cn + 1))]) X Y (c_size l G M lst 3013 e0 3 hlO) rfl rfl (hFw_Jx4a65c_size_8abf5 X) gw_X2_54 dsi_Jx4a65c_size_8abf5 hlo rfl rfl rfl rfl hl.1 (Nat.le_of_ble_eq_true rfl) ⟨Nat.le_of_ble_eq_true rfl, Nat.le_of_ble_eq_true rfl⟩ ⟨Nat.le_of_ble_eq_true rfl, Nat.le_of_ble_eq_true rfl⟩ dX2_errorOf_70 (fun H locs Y => ?_)
  refine lv_icmp_le (tgt := 80) hx hb dX2_errorOf_75 (by decide) (fun c75 => ?_) (fun c75 => absurd (show ¬ (cn + 1) ≤ 3 from fun z9 => c75 ((nI_leI (a := (cn + 1)) (b := 3) (by omega) (by omega)).mpr z9)) (by omega))
  have c75 : (cn + 1) ≤ 3 := (nI_leI (a := (cn + 1)) (b := 3) (by omega) (by omega)).mp c75
  refine lv_aload_n hx hb dX2_errorOf_80 rfl (lv_at hl 4 rfl) ?_
  refine lv_aload_n hx hb dX2_errorOf_81 rfl (lv_at hl 2 rfl) ?_
  refine h_get X Y (k := 2) (v := .int (nI (cn + 1))) hc11 rfl hin_X2 (by decide) kfl_X2_15 rfl dX2_errorOf_82 ?_
  refine lv_iconst (v := 1) hx hb dX2_errorOf_85 (by decide) ?_
  refine lv_isub hx hb dX2_errorOf_86 ?_
  refine h_ev (y := nI cn) (nI_pred cn) ?_
  refine h_callFr (rest := []) X Y (c_get l G M lst 3013 e0 3014 3 cn g hlO hlE (by omega)) rfl rfl (hFw_Jx4a65c_get_915e3 X) gw_X2_60 dsi_Jx4a65c_get_915e3 hlo rfl rfl rfl rfl hl.1 (Nat.le_of_ble_eq_true rfl) ⟨Nat.le_of_ble_eq_true rfl, Nat.le_of_ble_eq_true rfl⟩ ⟨Nat.le_of_ble_eq_true rfl, Nat.le_of_ble_eq_true rfl⟩ dX2_errorOf_87 (fun H locs Y => ?_)
  refine h_cast X Y hLy.1 rfl rfl kcl_X2_64 dX2_errorOf_92 ?_
  refine lv_astore (lv' := [(5, .ref (g cn)), (4, .int 0), (3, .ref (hSg G (sg i0))), (0, .ref (A 11)), (1, .int (nI (i0 + 1))), (2, .ref lst)]) hx hb dX2_errorOf_95 hl (by decide) rfl (fun ls hl => ?_)
  refine lv_iload hx hb dX2_errorOf_97 (lv_at hl 1 rfl) ?_
  refine lv_if_eq (tgt := 117) hx hb dX2_errorOf_99 (by decide) (fun c99 => ?_) (fun c99 => absurd (by decide) c99)
  refine lv_aload_n hx hb dX2_errorOf_117 rfl (lv_at hl 3 rfl) ?_
  refine h_get X Y (k := 0) (v := .ref (A 3)) hc11 rfl hin_X2 (by decide) kfl_X2_22 rfl dX2_errorOf_118 ?_
  refine lv_iload_n hx hb dX2_errorOf_121 rfl (lv_at hl 4 rfl) ?_
  refine h_callVr (rest := []) X Y (c_tokNum l G M A N sg nb wd hN hTk (i0 + 1) (by omega)) rfl rfl gw_X2_70 dsc_X9_numberAt hTk.1 rfl rfl rfl rfl hl.1 (Nat.le_of_ble_eq_true rfl) ⟨Nat.le_of_ble_eq_true rfl, Nat.le_of_ble_eq_true rfl⟩ ⟨Nat.le_of_ble_eq_true rfl, Nat.le_of_ble_eq_true rfl⟩ dX2_errorOf_122 (fun H locs Y => ?_)
  refine lv_istore (lv' := [(6, .int (nb (i0 + 1))), (5, .ref (g cn)), (4, .int 0), (3, .ref (hSg G (sg i0))), (0, .ref (A 11)), (1, .int (nI (i0 + 1))), (2, .ref lst)]) hx hb dX2_errorOf_125 hl (by decide) rfl (fun ls hl => ?_)
  refine h_gets X Y (hsw_Z X.2.2.2.2.2.2.2.2.1 X.2.2.2.2.2.2.2.2.2.1) kfl_X2_74 dX2_errorOf_127 ?_
  refine lv_aload_n hx hb dX2_errorOf_130 rfl (lv_at hl 3 rfl) ?_
  refine h_callUr (rest := [.ref (hSW G)]) X Y (c_ordinal l G M (sg i0) (by omega)) rfl rfl gu_X2_80 rfl dsu_ordinal (h_recvO Y (hsg_O X.2.2.2.2.2.2.2.2.1 X.2.2.2.2.2.2.2.2.2.1 (by omega))) rfl rfl hl.1 (Nat.le_of_ble_eq_true rfl) ⟨Nat.le_of_ble_eq_true rfl, Nat.le_of_ble_eq_true rfl⟩ ⟨Nat.le_of_ble_eq_true rfl, Nat.le_of_ble_eq_true rfl⟩ dX2_errorOf_131 (fun H locs Y => ?_)
  refine h_iaT X Y (i := sg i0) (hsw_T X.2.2.2.2.2.2.2.2.1 X.2.2.2.2.2.2.2.2.2.1) (by omega) (by decide) dX2_errorOf_134 ?_
  refine h_ev (y := nI 17) (by rw [hk1]; decide) ?_
  refine lv_tableIn (off := 25) (tgt := 160) hx hb dX2_errorOf_135 (by decide) (by decide) (by decide) (by decide) ?_
  refine lv_aload hx hb dX2_errorOf_160 (lv_at hl 1 rfl) ?_
  refine lv_iload hx hb dX2_errorOf_162 (lv_at hl 0 rfl) ?_
  refine h_callV (rest := []) X Y (c_tShare l G M (g cn) t L ht hLy (nb (i0 + 1)) hx0 hx1) gw_X2_83 dsc_X5_takesShare hLy.1 rfl rfl rfl hl.1 rfl (Nat.le_of_ble_eq_true rfl) ⟨Nat.le_of_ble_eq_true rfl, Nat.le_of_ble_eq_true rfl⟩ ⟨Nat.le_of_ble_eq_true rfl, Nat.le_of_ble_eq_true rfl⟩ dX2_errorOf_164 ?_
  rintro _ M1 H locs ⟨rfl, hLy, hfr⟩ Y
  try dsimp only [Option.toList, List.singleton_append]
  refine lv_if_eq (tgt := 174) hx hb dX2_errorOf_167 (by decide) (fun c167 => absurd c167 (by decide)) (fun c167 => ?_)
  refine lv_iconst (v := 0) hx hb dX2_errorOf_170 (by decide) ?_
  refine lv_goto (tgt := 175) hx hb dX2_errorOf_171 (by decide) ?_
  exact h_iret X Y ⟨rfl, hLy, hfr⟩ (Nat.le_of_ble_eq_true rfl) (Nat.le_of_ble_eq_true rfl) dX2_errorOf_175
theorem gw_X2_87 : GoodIn hGW (wsV RX2 87 RX5 yX5_takesReinstate (Cond.code yX5_takesReinstate cX5_takesReinstate 2 (Option.some FieldType.boolean) :: hGW)) := hgi4 kml_X2_87 kin_X5_takesReinstate kse_X5_X5_takesReinstate_X5_takesReinstate kini_X5 kco_X5_takesReinstate
theorem dsc_X5_takesReinstate : yX5_takesReinstate.cls = RX5 ∧ yX5_takesReinstate.cls ≠ "java/lang/invoke/MethodHandle" ∧ yX5_takesReinstate.cls ≠ "java/lang/invoke/VarHandle" ∧ (parseMethodDescriptor yX5_takesReinstate.desc).map (fun d => d.parameters.length) = some 1 := ⟨rfl, by decide +kernel, by decide +kernel, by decide +kernel⟩
theorem dX2_errorOf_176 : decode cX2_errorOf 176 = .ok (.aload 5, 2) := by decide +kernel
theorem dX2_errorOf_178 : decode cX2_errorOf 178 = .ok (.iload 6, 2) := by decide +kernel
theorem dX2_errorOf_180 : decode cX2_errorOf 180 = .ok (.invokevirtual 87, 3) := by decide +kernel
theorem dX2_errorOf_183 : decode cX2_errorOf 183 = .ok (.ifCond .eq 7, 3) := by decide +kernel
theorem dX2_errorOf_186 : decode cX2_errorOf 186 = .ok (.iconst 0, 1) := by decide +kernel
theorem dX2_errorOf_187 : decode cX2_errorOf 187 = .ok (.goto 4, 3) := by decide +kernel
theorem dX2_errorOf_191 : decode cX2_errorOf 191 = .ok (.ireturn, 1) := by decide +kernel
set_option maxHeartbeats 400000 in
set_option maxRecDepth 100000 in
theorem c_errRein (l : Launch) (G : hG) (M : hM) (A : Nat → Nat) (N : Nat) (sg : Nat → Nat) (nb : Nat → Int32) (wd : Nat → Int64) (hN : N < 400) (hTk : TkV G M A N sg nb wd) (hs7 : ∀ i, i ≤ N → sg i < 37) (cn : Nat) (wr : Int32) (f12 : Nat → Int64) (hc11 : M (A 11) = some (11, .inr (4, [.ref (A 3), .ref (A 12), .int (nI (cn + 1)), .int wr]))) (hc12 : M (A 12) = some (12, .inl (hT G 2, 8, .inr (.inl f12)))) (lst e0 : Nat) (g : Nat → Nat) (hlO : LsO M lst 3013 e0 3) (hlE : LsE G M e0 3014 3 g) (i0 : Nat) (hi0 : i0 + 1 ≤ N) (hk1 : sg i0 = 5) (hk2 : sg (i0 + 1) ≠ 33) (t : Nat) (L : hLy) (ht : 2000 ≤ t) (hLy : LyV G M (g cn) t L) (hc3 : cn < 3) (hx1 : nb (i0 + 1) ≤ 4) : hCT l G yX2_errorOf cX2_errorOf 7 (Option.some FieldType.int) (hRm 5 0 0) M [.ref (A 11), .int (nI (i0 + 1)), .ref lst] (fun v M' => v = some (.int 0) ∧ LyV G M' (g cn) t (lyU L 1 (nb (i0 + 1))) ∧ hFr (fun u => t ≤ u ∧ u < t + 10) M M') := by
  refine hCT.of (own := RX2) (nm := "errorOf") (by decide) rfl rfl (Nat.le_of_ble_eq_true rfl) ?_
  intro p e s m args below meth c ls X Y hl
  have hx := X.1
  have hb := X.2.1
  have hl : lv_has ls 7 [(0, .ref (A 11)), (1, .int (nI (i0 + 1))), (2, .ref lst)] := hl
  obtain ⟨mcl, hlo⟩ := id hlO
  have hs91 := hs7 i0 (by omega)
  have hs92 := hs7 (i0 + 1) (by omega)
  refine lv_aload_n hx hb dX2_errorOf_0 rfl (lv_at hl 0 rfl) ?_
  refine h_get X Y (k := 0) (v := .ref (A 3)) hc11 rfl hin_X2 (by decide) kfl_X2_22 rfl dX2_errorOf_1 ?_
  refine lv_iload_n hx hb dX2_errorOf_4 rfl (lv_at hl 1 rfl) ?_
  refine lv_iconst (v := 1) hx hb dX2_errorOf_5 (by decide) ?_
  refine lv_isub hx hb dX2_errorOf_6 ?_
  refine h_ev (y := nI i0) (nI_pred i0) ?_
  refine h_callVr (rest := []) X Y (c_signAt l G M A N sg nb wd hN hTk i0 (by omega)) rfl rfl gw_X2_33 dsc_X9_signAt hTk.1 rfl rfl rfl rfl hl.1 (Nat.le_of_ble_eq_true rfl) ⟨Nat.le_of_ble_eq_true rfl, Nat.le_of_ble_eq_true rfl⟩ ⟨Nat.le_of_ble_eq_true rfl, Nat.le_of_ble_eq_true rfl⟩ dX2_errorOf_7 (fun H locs Y => ?_)
  refine lv_astore_n (lv' := [(3, .ref (hSg G (sg i0))), (0, .ref (A 11)), (1, .int (nI (i0 + 1))), (2, .ref lst)]) hx hb dX2_errorOf_10 rfl hl (by decide) rfl (fun ls hl => ?_)
  refine lv_aload_n hx hb dX2_errorOf_11 rfl (lv_at hl 1 rfl) ?_
  refine h_get X Y (k := 0) (v := .ref (A 3)) hc11 rfl hin_X2 (by decide) kfl_X2_22 rfl dX2_errorOf_12 ?_
  refine lv_iload_n hx hb dX2_errorOf_15 rfl (lv_at hl 2 rfl) ?_
  refine h_callVr (rest := []) X Y (c_signAt l G M A N sg nb wd hN hTk (i0 + 1) (by omega)) rfl rfl gw_X2_33 dsc_X9_signAt hTk.1 rfl rfl rfl rfl hl.1 (Nat.le_of_ble_eq_true rfl) ⟨Nat.le_of_ble_eq_true rfl, Nat.le_of_ble_eq_true rfl⟩ ⟨Nat.le_of_ble_eq_true rfl, Nat.le_of_ble_eq_true rfl⟩ dX2_errorOf_16 (fun H locs Y => ?_)
  refine h_gets X Y (hsg_Z X.2.2.2.2.2.2.2.2.1 X.2.2.2.2.2.2.2.2.2.1 (k := 33) (by decide)) kfl_X2_37 dX2_errorOf_19 ?_
  refine lv_acmp_ne (rx := some (hSg G (sg (i0 + 1)))) (ry := some (hSg G 33)) (tgt := 29) hx hb dX2_errorOf_22 (by decide) (fun c22 => ?_) (fun c22 => absurd (hsg_inj X.2.2.2.2.2.2.2.2.1 (by omega) (by omega) (Option.some.inj c22)) hk2)
  refine lv_iconst (v := 0) hx hb dX2_errorOf_29 (by decide) ?_
  refine lv_istore (lv' := [(4, .int 0), (3, .ref (hSg G (sg i0))), (0, .ref (A 11)), (1, .int (nI (i0 + 1))), (2, .ref lst)]) hx hb dX2_errorOf_30 hl (by decide) rfl (fun ls hl => ?_)
  refine lv_iload hx hb dX2_errorOf_32 (lv_at hl 0 rfl) ?_
  refine lv_if_eq (tgt := 57) hx hb dX2_errorOf_34 (by decide) (fun c34 => ?_) (fun c34 => absurd (by decide) c34)
  refine lv_aload_n hx hb dX2_errorOf_57 rfl (lv_at hl 2 rfl) ?_
  refine h_get X Y (k := 2) (v := .int (nI (cn + 1))) hc11 rfl hin_X2 (by decide) kfl_X2_15 rfl dX2_errorOf_58 ?_
  refine lv_iconst (v := 1) hx hb dX2_errorOf_61 (by decide) ?_
  refine lv_icmp_lt (tgt := 78) hx hb dX2_errorOf_62 (by decide) (fun c62 => absurd (show (cn + 1) < 1 from (nI_ltI (a := (cn + 1)) (b := 1) (by omega) (by omega)).mp c62) (by omega)) (fun c62 => ?_)
  have c62 : ¬ (cn + 1) < 1 := fun z9 => c62 ((nI_ltI (a := (cn + 1)) (b := 1) (by omega) (by omega)).mpr z9)
  refine lv_aload_n hx hb dX2_errorOf_65 rfl (lv_at hl 2 rfl) ?_
  refine h_get X Y (k := 2) (v := .int (nI (cn + 1))) hc11 rfl hin_X2 (by decide) kfl_X2_15 rfl dX2_errorOf_66 ?_
  refine lv_aload_n hx hb dX2_errorOf_69 rfl (lv_at hl 4 rfl) ?_
  refine h_callFr (rest := [.int (nI (cn + 1))]) X Y (c_size l G M lst 3013 e0 3 hlO) rfl rfl (hFw_Jx4a65c_size_8abf5 X) gw_X2_54 dsi_Jx4a65c_size_8abf5 hlo rfl rfl rfl rfl hl.1 (Nat.le_of_ble_eq_true rfl) ⟨Nat.le_of_ble_eq_true rfl, Nat.le_of_ble_eq_true rfl⟩ ⟨Nat.le_of_ble_eq_true rfl, Nat.le_of_ble_eq_true rfl⟩ dX2_errorOf_70 (fun H locs Y => ?_)
  refine lv_icmp_le (tgt := 80) hx hb dX2_errorOf_75 (by decide) (fun c75 => ?_) (fun c75 => absurd (show ¬ (cn + 1) ≤ 3 from fun z9 => c75 ((nI_leI (a := (cn + 1)) (b := 3) (by omega) (by omega)).mpr z9)) (by omega))
  have c75 : (cn + 1) ≤ 3 := (nI_leI (a := (cn + 1)) (b := 3) (by omega) (by omega)).mp c75
  refine lv_aload_n hx hb dX2_errorOf_80 rfl (lv_at hl 4 rfl) ?_
  refine lv_aload_n hx hb dX2_errorOf_81 rfl (lv_at hl 2 rfl) ?_
  refine h_get X Y (k := 2) (v := .int (nI (cn + 1))) hc11 rfl hin_X2 (by decide) kfl_X2_15 rfl dX2_errorOf_82 ?_
  refine lv_iconst (v := 1) hx hb dX2_errorOf_85 (by decide) ?_
  refine lv_isub hx hb dX2_errorOf_86 ?_
  refine h_ev (y := nI cn) (nI_pred cn) ?_
  refine h_callFr (rest := []) X Y (c_get l G M lst 3013 e0 3014 3 cn g hlO hlE (by omega)) rfl rfl (hFw_Jx4a65c_get_915e3 X) gw_X2_60 dsi_Jx4a65c_get_915e3 hlo rfl rfl rfl rfl hl.1 (Nat.le_of_ble_eq_true rfl) ⟨Nat.le_of_ble_eq_true rfl, Nat.le_of_ble_eq_true rfl⟩ ⟨Nat.le_of_ble_eq_true rfl, Nat.le_of_ble_eq_true rfl⟩ dX2_errorOf_87 (fun H locs Y => ?_)
  refine h_cast X Y hLy.1 rfl rfl kcl_X2_64 dX2_errorOf_92 ?_
  refine lv_astore (lv' := [(5, .ref (g cn)), (4, .int 0), (3, .ref (hSg G (sg i0))), (0, .ref (A 11)), (1, .int (nI (i0 + 1))), (2, .ref lst)]) hx hb dX2_errorOf_95 hl (by decide) rfl (fun ls hl => ?_)
  refine lv_iload hx hb dX2_errorOf_97 (lv_at hl 1 rfl) ?_
  refine lv_if_eq (tgt := 117) hx hb dX2_errorOf_99 (by decide) (fun c99 => ?_) (fun c99 => absurd (by decide) c99)
  refine lv_aload_n hx hb dX2_errorOf_117 rfl (lv_at hl 3 rfl) ?_
  refine h_get X Y (k := 0) (v := .ref (A 3)) hc11 rfl hin_X2 (by decide) kfl_X2_22 rfl dX2_errorOf_118 ?_
  refine lv_iload_n hx hb dX2_errorOf_121 rfl (lv_at hl 4 rfl) ?_
  refine h_callVr (rest := []) X Y (c_tokNum l G M A N sg nb wd hN hTk (i0 + 1) (by omega)) rfl rfl gw_X2_70 dsc_X9_numberAt hTk.1 rfl rfl rfl rfl hl.1 (Nat.le_of_ble_eq_true rfl) ⟨Nat.le_of_ble_eq_true rfl, Nat.le_of_ble_eq_true rfl⟩ ⟨Nat.le_of_ble_eq_true rfl, Nat.le_of_ble_eq_true rfl⟩ dX2_errorOf_122 (fun H locs Y => ?_)
  refine lv_istore (lv' := [(6, .int (nb (i0 + 1))), (5, .ref (g cn)), (4, .int 0), (3, .ref (hSg G (sg i0))), (0, .ref (A 11)), (1, .int (nI (i0 + 1))), (2, .ref lst)]) hx hb dX2_errorOf_125 hl (by decide) rfl (fun ls hl => ?_)
  refine h_gets X Y (hsw_Z X.2.2.2.2.2.2.2.2.1 X.2.2.2.2.2.2.2.2.2.1) kfl_X2_74 dX2_errorOf_127 ?_
  refine lv_aload_n hx hb dX2_errorOf_130 rfl (lv_at hl 3 rfl) ?_
  refine h_callUr (rest := [.ref (hSW G)]) X Y (c_ordinal l G M (sg i0) (by omega)) rfl rfl gu_X2_80 rfl dsu_ordinal (h_recvO Y (hsg_O X.2.2.2.2.2.2.2.2.1 X.2.2.2.2.2.2.2.2.2.1 (by omega))) rfl rfl hl.1 (Nat.le_of_ble_eq_true rfl) ⟨Nat.le_of_ble_eq_true rfl, Nat.le_of_ble_eq_true rfl⟩ ⟨Nat.le_of_ble_eq_true rfl, Nat.le_of_ble_eq_true rfl⟩ dX2_errorOf_131 (fun H locs Y => ?_)
  refine h_iaT X Y (i := sg i0) (hsw_T X.2.2.2.2.2.2.2.2.1 X.2.2.2.2.2.2.2.2.2.1) (by omega) (by decide) dX2_errorOf_134 ?_
  refine h_ev (y := nI 18) (by rw [hk1]; decide) ?_
  refine lv_tableIn (off := 41) (tgt := 176) hx hb dX2_errorOf_135 (by decide) (by decide) (by decide) (by decide) ?_
  refine lv_aload hx hb dX2_errorOf_176 (lv_at hl 1 rfl) ?_
  refine lv_iload hx hb dX2_errorOf_178 (lv_at hl 0 rfl) ?_
  refine h_callV (rest := []) X Y (c_tRein l G M (g cn) t L ht hLy (nb (i0 + 1)) hx1) gw_X2_87 dsc_X5_takesReinstate hLy.1 rfl rfl rfl hl.1 rfl (Nat.le_of_ble_eq_true rfl) ⟨Nat.le_of_ble_eq_true rfl, Nat.le_of_ble_eq_true rfl⟩ ⟨Nat.le_of_ble_eq_true rfl, Nat.le_of_ble_eq_true rfl⟩ dX2_errorOf_180 ?_
  rintro _ M1 H locs ⟨rfl, hLy, hfr⟩ Y
  try dsimp only [Option.toList, List.singleton_append]
  refine lv_if_eq (tgt := 190) hx hb dX2_errorOf_183 (by decide) (fun c183 => absurd c183 (by decide)) (fun c183 => ?_)
  refine lv_iconst (v := 0) hx hb dX2_errorOf_186 (by decide) ?_
  refine lv_goto (tgt := 191) hx hb dX2_errorOf_187 (by decide) ?_
  exact h_iret X Y ⟨rfl, hLy, hfr⟩ (Nat.le_of_ble_eq_true rfl) (Nat.le_of_ble_eq_true rfl) dX2_errorOf_191
theorem gw_X2_90 : GoodIn hGW (wsV RX2 90 RX5 yX5_takesAt (Cond.code yX5_takesAt cX5_takesAt 2 (Option.some FieldType.boolean) :: hGW)) := hgi4 kml_X2_90 kin_X5_takesAt kse_X5_X5_takesAt_X5_takesAt kini_X5 kco_X5_takesAt
theorem dsc_X5_takesAt : yX5_takesAt.cls = RX5 ∧ yX5_takesAt.cls ≠ "java/lang/invoke/MethodHandle" ∧ yX5_takesAt.cls ≠ "java/lang/invoke/VarHandle" ∧ (parseMethodDescriptor yX5_takesAt.desc).map (fun d => d.parameters.length) = some 1 := ⟨rfl, by decide +kernel, by decide +kernel, by decide +kernel⟩
theorem dX2_errorOf_192 : decode cX2_errorOf 192 = .ok (.aload 5, 2) := by decide +kernel
theorem dX2_errorOf_194 : decode cX2_errorOf 194 = .ok (.iload 6, 2) := by decide +kernel
theorem dX2_errorOf_196 : decode cX2_errorOf 196 = .ok (.invokevirtual 90, 3) := by decide +kernel
theorem dX2_errorOf_199 : decode cX2_errorOf 199 = .ok (.ifCond .eq 7, 3) := by decide +kernel
theorem dX2_errorOf_202 : decode cX2_errorOf 202 = .ok (.iconst 0, 1) := by decide +kernel
theorem dX2_errorOf_203 : decode cX2_errorOf 203 = .ok (.goto 4, 3) := by decide +kernel
theorem dX2_errorOf_207 : decode cX2_errorOf 207 = .ok (.ireturn, 1) := by decide +kernel
set_option maxHeartbeats 400000 in
set_option maxRecDepth 100000 in
theorem c_errAt (l : Launch) (G : hG) (M : hM) (A : Nat → Nat) (N : Nat) (sg : Nat → Nat) (nb : Nat → Int32) (wd : Nat → Int64) (hN : N < 400) (hTk : TkV G M A N sg nb wd) (hs7 : ∀ i, i ≤ N → sg i < 37) (cn : Nat) (wr : Int32) (f12 : Nat → Int64) (hc11 : M (A 11) = some (11, .inr (4, [.ref (A 3), .ref (A 12), .int (nI (cn + 1)), .int wr]))) (hc12 : M (A 12) = some (12, .inl (hT G 2, 8, .inr (.inl f12)))) (lst e0 : Nat) (g : Nat → Nat) (hlO : LsO M lst 3013 e0 3) (hlE : LsE G M e0 3014 3 g) (i0 : Nat) (hi0 : i0 + 1 ≤ N) (hk1 : sg i0 = 6) (hk2 : sg (i0 + 1) ≠ 33) (t : Nat) (L : hLy) (ht : 2000 ≤ t) (hLy : LyV G M (g cn) t L) (hc3 : cn < 3) (hx1 : nb (i0 + 1) ≤ 300) (h2 : lyI L 2 = 0) (hr : (0 : Int32) < lyI L 1) : hCT l G yX2_errorOf cX2_errorOf 7 (Option.some FieldType.int) (hRm 5 0 0) M [.ref (A 11), .int (nI (i0 + 1)), .ref lst] (fun v M' => v = some (.int 0) ∧ LyV G M' (g cn) t (lyX L (nb (i0 + 1))) ∧ hFr (fun u => t ≤ u ∧ u < t + 10) M M') := by
  refine hCT.of (own := RX2) (nm := "errorOf") (by decide) rfl rfl (Nat.le_of_ble_eq_true rfl) ?_
  intro p e s m args below meth c ls X Y hl
  have hx := X.1
  have hb := X.2.1
  have hl : lv_has ls 7 [(0, .ref (A 11)), (1, .int (nI (i0 + 1))), (2, .ref lst)] := hl
  obtain ⟨mcl, hlo⟩ := id hlO
  have hs91 := hs7 i0 (by omega)
  have hs92 := hs7 (i0 + 1) (by omega)
  refine lv_aload_n hx hb dX2_errorOf_0 rfl (lv_at hl 0 rfl) ?_
  refine h_get X Y (k := 0) (v := .ref (A 3)) hc11 rfl hin_X2 (by decide) kfl_X2_22 rfl dX2_errorOf_1 ?_
  refine lv_iload_n hx hb dX2_errorOf_4 rfl (lv_at hl 1 rfl) ?_
  refine lv_iconst (v := 1) hx hb dX2_errorOf_5 (by decide) ?_
  refine lv_isub hx hb dX2_errorOf_6 ?_
  refine h_ev (y := nI i0) (nI_pred i0) ?_
  refine h_callVr (rest := []) X Y (c_signAt l G M A N sg nb wd hN hTk i0 (by omega)) rfl rfl gw_X2_33 dsc_X9_signAt hTk.1 rfl rfl rfl rfl hl.1 (Nat.le_of_ble_eq_true rfl) ⟨Nat.le_of_ble_eq_true rfl, Nat.le_of_ble_eq_true rfl⟩ ⟨Nat.le_of_ble_eq_true rfl, Nat.le_of_ble_eq_true rfl⟩ dX2_errorOf_7 (fun H locs Y => ?_)
  refine lv_astore_n (lv' := [(3, .ref (hSg G (sg i0))), (0, .ref (A 11)), (1, .int (nI (i0 + 1))), (2, .ref lst)]) hx hb dX2_errorOf_10 rfl hl (by decide) rfl (fun ls hl => ?_)
  refine lv_aload_n hx hb dX2_errorOf_11 rfl (lv_at hl 1 rfl) ?_
  refine h_get X Y (k := 0) (v := .ref (A 3)) hc11 rfl hin_X2 (by decide) kfl_X2_22 rfl dX2_errorOf_12 ?_
  refine lv_iload_n hx hb dX2_errorOf_15 rfl (lv_at hl 2 rfl) ?_
  refine h_callVr (rest := []) X Y (c_signAt l G M A N sg nb wd hN hTk (i0 + 1) (by omega)) rfl rfl gw_X2_33 dsc_X9_signAt hTk.1 rfl rfl rfl rfl hl.1 (Nat.le_of_ble_eq_true rfl) ⟨Nat.le_of_ble_eq_true rfl, Nat.le_of_ble_eq_true rfl⟩ ⟨Nat.le_of_ble_eq_true rfl, Nat.le_of_ble_eq_true rfl⟩ dX2_errorOf_16 (fun H locs Y => ?_)
  refine h_gets X Y (hsg_Z X.2.2.2.2.2.2.2.2.1 X.2.2.2.2.2.2.2.2.2.1 (k := 33) (by decide)) kfl_X2_37 dX2_errorOf_19 ?_
  refine lv_acmp_ne (rx := some (hSg G (sg (i0 + 1)))) (ry := some (hSg G 33)) (tgt := 29) hx hb dX2_errorOf_22 (by decide) (fun c22 => ?_) (fun c22 => absurd (hsg_inj X.2.2.2.2.2.2.2.2.1 (by omega) (by omega) (Option.some.inj c22)) hk2)
  refine lv_iconst (v := 0) hx hb dX2_errorOf_29 (by decide) ?_
  refine lv_istore (lv' := [(4, .int 0), (3, .ref (hSg G (sg i0))), (0, .ref (A 11)), (1, .int (nI (i0 + 1))), (2, .ref lst)]) hx hb dX2_errorOf_30 hl (by decide) rfl (fun ls hl => ?_)
  refine lv_iload hx hb dX2_errorOf_32 (lv_at hl 0 rfl) ?_
  refine lv_if_eq (tgt := 57) hx hb dX2_errorOf_34 (by decide) (fun c34 => ?_) (fun c34 => absurd (by decide) c34)
  refine lv_aload_n hx hb dX2_errorOf_57 rfl (lv_at hl 2 rfl) ?_
  refine h_get X Y (k := 2) (v := .int (nI (cn + 1))) hc11 rfl hin_X2 (by decide) kfl_X2_15 rfl dX2_errorOf_58 ?_
  refine lv_iconst (v := 1) hx hb dX2_errorOf_61 (by decide) ?_
  refine lv_icmp_lt (tgt := 78) hx hb dX2_errorOf_62 (by decide) (fun c62 => absurd (show (cn + 1) < 1 from (nI_ltI (a := (cn + 1)) (b := 1) (by omega) (by omega)).mp c62) (by omega)) (fun c62 => ?_)
  have c62 : ¬ (cn + 1) < 1 := fun z9 => c62 ((nI_ltI (a := (cn + 1)) (b := 1) (by omega) (by omega)).mpr z9)
  refine lv_aload_n hx hb dX2_errorOf_65 rfl (lv_at hl 2 rfl) ?_
  refine h_get X Y (k := 2) (v := .int (nI (cn + 1))) hc11 rfl hin_X2 (by decide) kfl_X2_15 rfl dX2_errorOf_66 ?_
  refine lv_aload_n hx hb dX2_errorOf_69 rfl (lv_at hl 4 rfl) ?_
  refine h_callFr (rest := [.int (nI (cn + 1))]) X Y (c_size l G M lst 3013 e0 3 hlO) rfl rfl (hFw_Jx4a65c_size_8abf5 X) gw_X2_54 dsi_Jx4a65c_size_8abf5 hlo rfl rfl rfl rfl hl.1 (Nat.le_of_ble_eq_true rfl) ⟨Nat.le_of_ble_eq_true rfl, Nat.le_of_ble_eq_true rfl⟩ ⟨Nat.le_of_ble_eq_true rfl, Nat.le_of_ble_eq_true rfl⟩ dX2_errorOf_70 (fun H locs Y => ?_)
  refine lv_icmp_le (tgt := 80) hx hb dX2_errorOf_75 (by decide) (fun c75 => ?_) (fun c75 => absurd (show ¬ (cn + 1) ≤ 3 from fun z9 => c75 ((nI_leI (a := (cn + 1)) (b := 3) (by omega) (by omega)).mpr z9)) (by omega))
  have c75 : (cn + 1) ≤ 3 := (nI_leI (a := (cn + 1)) (b := 3) (by omega) (by omega)).mp c75
  refine lv_aload_n hx hb dX2_errorOf_80 rfl (lv_at hl 4 rfl) ?_
  refine lv_aload_n hx hb dX2_errorOf_81 rfl (lv_at hl 2 rfl) ?_
  refine h_get X Y (k := 2) (v := .int (nI (cn + 1))) hc11 rfl hin_X2 (by decide) kfl_X2_15 rfl dX2_errorOf_82 ?_
  refine lv_iconst (v := 1) hx hb dX2_errorOf_85 (by decide) ?_
  refine lv_isub hx hb dX2_errorOf_86 ?_
  refine h_ev (y := nI cn) (nI_pred cn) ?_
  refine h_callFr (rest := []) X Y (c_get l G M lst 3013 e0 3014 3 cn g hlO hlE (by omega)) rfl rfl (hFw_Jx4a65c_get_915e3 X) gw_X2_60 dsi_Jx4a65c_get_915e3 hlo rfl rfl rfl rfl hl.1 (Nat.le_of_ble_eq_true rfl) ⟨Nat.le_of_ble_eq_true rfl, Nat.le_of_ble_eq_true rfl⟩ ⟨Nat.le_of_ble_eq_true rfl, Nat.le_of_ble_eq_true rfl⟩ dX2_errorOf_87 (fun H locs Y => ?_)
  refine h_cast X Y hLy.1 rfl rfl kcl_X2_64 dX2_errorOf_92 ?_
  refine lv_astore (lv' := [(5, .ref (g cn)), (4, .int 0), (3, .ref (hSg G (sg i0))), (0, .ref (A 11)), (1, .int (nI (i0 + 1))), (2, .ref lst)]) hx hb dX2_errorOf_95 hl (by decide) rfl (fun ls hl => ?_)
  refine lv_iload hx hb dX2_errorOf_97 (lv_at hl 1 rfl) ?_
  refine lv_if_eq (tgt := 117) hx hb dX2_errorOf_99 (by decide) (fun c99 => ?_) (fun c99 => absurd (by decide) c99)
  refine lv_aload_n hx hb dX2_errorOf_117 rfl (lv_at hl 3 rfl) ?_
  refine h_get X Y (k := 0) (v := .ref (A 3)) hc11 rfl hin_X2 (by decide) kfl_X2_22 rfl dX2_errorOf_118 ?_
  refine lv_iload_n hx hb dX2_errorOf_121 rfl (lv_at hl 4 rfl) ?_
  refine h_callVr (rest := []) X Y (c_tokNum l G M A N sg nb wd hN hTk (i0 + 1) (by omega)) rfl rfl gw_X2_70 dsc_X9_numberAt hTk.1 rfl rfl rfl rfl hl.1 (Nat.le_of_ble_eq_true rfl) ⟨Nat.le_of_ble_eq_true rfl, Nat.le_of_ble_eq_true rfl⟩ ⟨Nat.le_of_ble_eq_true rfl, Nat.le_of_ble_eq_true rfl⟩ dX2_errorOf_122 (fun H locs Y => ?_)
  refine lv_istore (lv' := [(6, .int (nb (i0 + 1))), (5, .ref (g cn)), (4, .int 0), (3, .ref (hSg G (sg i0))), (0, .ref (A 11)), (1, .int (nI (i0 + 1))), (2, .ref lst)]) hx hb dX2_errorOf_125 hl (by decide) rfl (fun ls hl => ?_)
  refine h_gets X Y (hsw_Z X.2.2.2.2.2.2.2.2.1 X.2.2.2.2.2.2.2.2.2.1) kfl_X2_74 dX2_errorOf_127 ?_
  refine lv_aload_n hx hb dX2_errorOf_130 rfl (lv_at hl 3 rfl) ?_
  refine h_callUr (rest := [.ref (hSW G)]) X Y (c_ordinal l G M (sg i0) (by omega)) rfl rfl gu_X2_80 rfl dsu_ordinal (h_recvO Y (hsg_O X.2.2.2.2.2.2.2.2.1 X.2.2.2.2.2.2.2.2.2.1 (by omega))) rfl rfl hl.1 (Nat.le_of_ble_eq_true rfl) ⟨Nat.le_of_ble_eq_true rfl, Nat.le_of_ble_eq_true rfl⟩ ⟨Nat.le_of_ble_eq_true rfl, Nat.le_of_ble_eq_true rfl⟩ dX2_errorOf_131 (fun H locs Y => ?_)
  refine h_iaT X Y (i := sg i0) (hsw_T X.2.2.2.2.2.2.2.2.1 X.2.2.2.2.2.2.2.2.2.1) (by omega) (by decide) dX2_errorOf_134 ?_
  refine h_ev (y := nI 19) (by rw [hk1]; decide) ?_
  refine lv_tableIn (off := 57) (tgt := 192) hx hb dX2_errorOf_135 (by decide) (by decide) (by decide) (by decide) ?_
  refine lv_aload hx hb dX2_errorOf_192 (lv_at hl 1 rfl) ?_
  refine lv_iload hx hb dX2_errorOf_194 (lv_at hl 0 rfl) ?_
  refine h_callV (rest := []) X Y (c_tAt l G M (g cn) t L ht hLy (nb (i0 + 1)) hx1 h2 hr) gw_X2_90 dsc_X5_takesAt hLy.1 rfl rfl rfl hl.1 rfl (Nat.le_of_ble_eq_true rfl) ⟨Nat.le_of_ble_eq_true rfl, Nat.le_of_ble_eq_true rfl⟩ ⟨Nat.le_of_ble_eq_true rfl, Nat.le_of_ble_eq_true rfl⟩ dX2_errorOf_196 ?_
  rintro _ M1 H locs ⟨rfl, hLy, hfr⟩ Y
  try dsimp only [Option.toList, List.singleton_append]
  refine lv_if_eq (tgt := 206) hx hb dX2_errorOf_199 (by decide) (fun c199 => absurd c199 (by decide)) (fun c199 => ?_)
  refine lv_iconst (v := 0) hx hb dX2_errorOf_202 (by decide) ?_
  refine lv_goto (tgt := 207) hx hb dX2_errorOf_203 (by decide) ?_
  exact h_iret X Y ⟨rfl, hLy, hfr⟩ (Nat.le_of_ble_eq_true rfl) (Nat.le_of_ble_eq_true rfl) dX2_errorOf_207
theorem dX2_errorOf_208 : decode cX2_errorOf 208 = .ok (.iconst 0, 1) := by decide +kernel
theorem dX2_errorOf_209 : decode cX2_errorOf 209 = .ok (.ireturn, 1) := by decide +kernel
set_option maxHeartbeats 400000 in
set_option maxRecDepth 100000 in
theorem c_errNone (l : Launch) (G : hG) (M : hM) (A : Nat → Nat) (N : Nat) (sg : Nat → Nat) (nb : Nat → Int32) (wd : Nat → Int64) (hN : N < 400) (hTk : TkV G M A N sg nb wd) (hs7 : ∀ i, i ≤ N → sg i < 37) (cn : Nat) (wr : Int32) (f12 : Nat → Int64) (hc11 : M (A 11) = some (11, .inr (4, [.ref (A 3), .ref (A 12), .int (nI (cn + 1)), .int wr]))) (hc12 : M (A 12) = some (12, .inl (hT G 2, 8, .inr (.inl f12)))) (lst e0 : Nat) (g : Nat → Nat) (hlO : LsO M lst 3013 e0 3) (hlE : LsE G M e0 3014 3 g) (i0 : Nat) (hi0 : i0 + 1 ≤ N) (hk1 : sg i0 ≠ 2 ∧ sg i0 ≠ 5 ∧ sg i0 ≠ 6) (hk2 : sg (i0 + 1) ≠ 33) (t : Nat) (L : hLy) (ht : 2000 ≤ t) (hLy : LyV G M (g cn) t L) (hc3 : cn < 3) : hCT l G yX2_errorOf cX2_errorOf 7 (Option.some FieldType.int) (hRm 5 0 0) M [.ref (A 11), .int (nI (i0 + 1)), .ref lst] (hRd M (.int 0)) := by
  refine hCT.of (own := RX2) (nm := "errorOf") (by decide) rfl rfl (Nat.le_of_ble_eq_true rfl) ?_
  intro p e s m args below meth c ls X Y hl
  have hx := X.1
  have hb := X.2.1
  have hl : lv_has ls 7 [(0, .ref (A 11)), (1, .int (nI (i0 + 1))), (2, .ref lst)] := hl
  obtain ⟨mcl, hlo⟩ := id hlO
  have hs91 := hs7 i0 (by omega)
  have hs92 := hs7 (i0 + 1) (by omega)
  refine lv_aload_n hx hb dX2_errorOf_0 rfl (lv_at hl 0 rfl) ?_
  refine h_get X Y (k := 0) (v := .ref (A 3)) hc11 rfl hin_X2 (by decide) kfl_X2_22 rfl dX2_errorOf_1 ?_
  refine lv_iload_n hx hb dX2_errorOf_4 rfl (lv_at hl 1 rfl) ?_
  refine lv_iconst (v := 1) hx hb dX2_errorOf_5 (by decide) ?_
  refine lv_isub hx hb dX2_errorOf_6 ?_
  refine h_ev (y := nI i0) (nI_pred i0) ?_
  refine h_callVr (rest := []) X Y (c_signAt l G M A N sg nb wd hN hTk i0 (by omega)) rfl rfl gw_X2_33 dsc_X9_signAt hTk.1 rfl rfl rfl rfl hl.1 (Nat.le_of_ble_eq_true rfl) ⟨Nat.le_of_ble_eq_true rfl, Nat.le_of_ble_eq_true rfl⟩ ⟨Nat.le_of_ble_eq_true rfl, Nat.le_of_ble_eq_true rfl⟩ dX2_errorOf_7 (fun H locs Y => ?_)
  refine lv_astore_n (lv' := [(3, .ref (hSg G (sg i0))), (0, .ref (A 11)), (1, .int (nI (i0 + 1))), (2, .ref lst)]) hx hb dX2_errorOf_10 rfl hl (by decide) rfl (fun ls hl => ?_)
  refine lv_aload_n hx hb dX2_errorOf_11 rfl (lv_at hl 1 rfl) ?_
  refine h_get X Y (k := 0) (v := .ref (A 3)) hc11 rfl hin_X2 (by decide) kfl_X2_22 rfl dX2_errorOf_12 ?_
  refine lv_iload_n hx hb dX2_errorOf_15 rfl (lv_at hl 2 rfl) ?_
  refine h_callVr (rest := []) X Y (c_signAt l G M A N sg nb wd hN hTk (i0 + 1) (by omega)) rfl rfl gw_X2_33 dsc_X9_signAt hTk.1 rfl rfl rfl rfl hl.1 (Nat.le_of_ble_eq_true rfl) ⟨Nat.le_of_ble_eq_true rfl, Nat.le_of_ble_eq_true rfl⟩ ⟨Nat.le_of_ble_eq_true rfl, Nat.le_of_ble_eq_true rfl⟩ dX2_errorOf_16 (fun H locs Y => ?_)
  refine h_gets X Y (hsg_Z X.2.2.2.2.2.2.2.2.1 X.2.2.2.2.2.2.2.2.2.1 (k := 33) (by decide)) kfl_X2_37 dX2_errorOf_19 ?_
  refine lv_acmp_ne (rx := some (hSg G (sg (i0 + 1)))) (ry := some (hSg G 33)) (tgt := 29) hx hb dX2_errorOf_22 (by decide) (fun c22 => ?_) (fun c22 => absurd (hsg_inj X.2.2.2.2.2.2.2.2.1 (by omega) (by omega) (Option.some.inj c22)) hk2)
  refine lv_iconst (v := 0) hx hb dX2_errorOf_29 (by decide) ?_
  refine lv_istore (lv' := [(4, .int 0), (3, .ref (hSg G (sg i0))), (0, .ref (A 11)), (1, .int (nI (i0 + 1))), (2, .ref lst)]) hx hb dX2_errorOf_30 hl (by decide) rfl (fun ls hl => ?_)
  refine lv_iload hx hb dX2_errorOf_32 (lv_at hl 0 rfl) ?_
  refine lv_if_eq (tgt := 57) hx hb dX2_errorOf_34 (by decide) (fun c34 => ?_) (fun c34 => absurd (by decide) c34)
  refine lv_aload_n hx hb dX2_errorOf_57 rfl (lv_at hl 2 rfl) ?_
  refine h_get X Y (k := 2) (v := .int (nI (cn + 1))) hc11 rfl hin_X2 (by decide) kfl_X2_15 rfl dX2_errorOf_58 ?_
  refine lv_iconst (v := 1) hx hb dX2_errorOf_61 (by decide) ?_
  refine lv_icmp_lt (tgt := 78) hx hb dX2_errorOf_62 (by decide) (fun c62 => absurd (show (cn + 1) < 1 from (nI_ltI (a := (cn + 1)) (b := 1) (by omega) (by omega)).mp c62) (by omega)) (fun c62 => ?_)
  have c62 : ¬ (cn + 1) < 1 := fun z9 => c62 ((nI_ltI (a := (cn + 1)) (b := 1) (by omega) (by omega)).mpr z9)
  refine lv_aload_n hx hb dX2_errorOf_65 rfl (lv_at hl 2 rfl) ?_
  refine h_get X Y (k := 2) (v := .int (nI (cn + 1))) hc11 rfl hin_X2 (by decide) kfl_X2_15 rfl dX2_errorOf_66 ?_
  refine lv_aload_n hx hb dX2_errorOf_69 rfl (lv_at hl 4 rfl) ?_
  refine h_callFr (rest := [.int (nI (cn + 1))]) X Y (c_size l G M lst 3013 e0 3 hlO) rfl rfl (hFw_Jx4a65c_size_8abf5 X) gw_X2_54 dsi_Jx4a65c_size_8abf5 hlo rfl rfl rfl rfl hl.1 (Nat.le_of_ble_eq_true rfl) ⟨Nat.le_of_ble_eq_true rfl, Nat.le_of_ble_eq_true rfl⟩ ⟨Nat.le_of_ble_eq_true rfl, Nat.le_of_ble_eq_true rfl⟩ dX2_errorOf_70 (fun H locs Y => ?_)
  refine lv_icmp_le (tgt := 80) hx hb dX2_errorOf_75 (by decide) (fun c75 => ?_) (fun c75 => absurd (show ¬ (cn + 1) ≤ 3 from fun z9 => c75 ((nI_leI (a := (cn + 1)) (b := 3) (by omega) (by omega)).mpr z9)) (by omega))
  have c75 : (cn + 1) ≤ 3 := (nI_leI (a := (cn + 1)) (b := 3) (by omega) (by omega)).mp c75
  refine lv_aload_n hx hb dX2_errorOf_80 rfl (lv_at hl 4 rfl) ?_
  refine lv_aload_n hx hb dX2_errorOf_81 rfl (lv_at hl 2 rfl) ?_
  refine h_get X Y (k := 2) (v := .int (nI (cn + 1))) hc11 rfl hin_X2 (by decide) kfl_X2_15 rfl dX2_errorOf_82 ?_
  refine lv_iconst (v := 1) hx hb dX2_errorOf_85 (by decide) ?_
  refine lv_isub hx hb dX2_errorOf_86 ?_
  refine h_ev (y := nI cn) (nI_pred cn) ?_
  refine h_callFr (rest := []) X Y (c_get l G M lst 3013 e0 3014 3 cn g hlO hlE (by omega)) rfl rfl (hFw_Jx4a65c_get_915e3 X) gw_X2_60 dsi_Jx4a65c_get_915e3 hlo rfl rfl rfl rfl hl.1 (Nat.le_of_ble_eq_true rfl) ⟨Nat.le_of_ble_eq_true rfl, Nat.le_of_ble_eq_true rfl⟩ ⟨Nat.le_of_ble_eq_true rfl, Nat.le_of_ble_eq_true rfl⟩ dX2_errorOf_87 (fun H locs Y => ?_)
  refine h_cast X Y hLy.1 rfl rfl kcl_X2_64 dX2_errorOf_92 ?_
  refine lv_astore (lv' := [(5, .ref (g cn)), (4, .int 0), (3, .ref (hSg G (sg i0))), (0, .ref (A 11)), (1, .int (nI (i0 + 1))), (2, .ref lst)]) hx hb dX2_errorOf_95 hl (by decide) rfl (fun ls hl => ?_)
  refine lv_iload hx hb dX2_errorOf_97 (lv_at hl 1 rfl) ?_
  refine lv_if_eq (tgt := 117) hx hb dX2_errorOf_99 (by decide) (fun c99 => ?_) (fun c99 => absurd (by decide) c99)
  refine lv_aload_n hx hb dX2_errorOf_117 rfl (lv_at hl 3 rfl) ?_
  refine h_get X Y (k := 0) (v := .ref (A 3)) hc11 rfl hin_X2 (by decide) kfl_X2_22 rfl dX2_errorOf_118 ?_
  refine lv_iload_n hx hb dX2_errorOf_121 rfl (lv_at hl 4 rfl) ?_
  refine h_callVr (rest := []) X Y (c_tokNum l G M A N sg nb wd hN hTk (i0 + 1) (by omega)) rfl rfl gw_X2_70 dsc_X9_numberAt hTk.1 rfl rfl rfl rfl hl.1 (Nat.le_of_ble_eq_true rfl) ⟨Nat.le_of_ble_eq_true rfl, Nat.le_of_ble_eq_true rfl⟩ ⟨Nat.le_of_ble_eq_true rfl, Nat.le_of_ble_eq_true rfl⟩ dX2_errorOf_122 (fun H locs Y => ?_)
  refine lv_istore (lv' := [(6, .int (nb (i0 + 1))), (5, .ref (g cn)), (4, .int 0), (3, .ref (hSg G (sg i0))), (0, .ref (A 11)), (1, .int (nI (i0 + 1))), (2, .ref lst)]) hx hb dX2_errorOf_125 hl (by decide) rfl (fun ls hl => ?_)
  refine h_gets X Y (hsw_Z X.2.2.2.2.2.2.2.2.1 X.2.2.2.2.2.2.2.2.2.1) kfl_X2_74 dX2_errorOf_127 ?_
  refine lv_aload_n hx hb dX2_errorOf_130 rfl (lv_at hl 3 rfl) ?_
  refine h_callUr (rest := [.ref (hSW G)]) X Y (c_ordinal l G M (sg i0) (by omega)) rfl rfl gu_X2_80 rfl dsu_ordinal (h_recvO Y (hsg_O X.2.2.2.2.2.2.2.2.1 X.2.2.2.2.2.2.2.2.2.1 (by omega))) rfl rfl hl.1 (Nat.le_of_ble_eq_true rfl) ⟨Nat.le_of_ble_eq_true rfl, Nat.le_of_ble_eq_true rfl⟩ ⟨Nat.le_of_ble_eq_true rfl, Nat.le_of_ble_eq_true rfl⟩ dX2_errorOf_131 (fun H locs Y => ?_)
  refine h_iaT X Y (i := sg i0) (hsw_T X.2.2.2.2.2.2.2.2.1 X.2.2.2.2.2.2.2.2.2.1) (by omega) (by decide) dX2_errorOf_134 ?_
  refine lv_tableOut (tgt := 208) hx hb dX2_errorOf_135 (sw_out _ (by omega) hk1.1 hk1.2.1 hk1.2.2) (by decide) ?_
  refine lv_iconst (v := 0) hx hb dX2_errorOf_208 (by decide) ?_
  exact h_iret X Y ⟨rfl, rfl⟩ (Nat.le_refl _) (Nat.le_refl _) dX2_errorOf_209
