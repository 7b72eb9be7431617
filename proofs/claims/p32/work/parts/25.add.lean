-- A LIST GROWS
theorem t_max1 (k : Nat) (hk : k < 2147483648) : sMax 1 (nI k) = nI (max 1 k) := by
  unfold sMax
  by_cases h : 1 < k
  · rw [if_pos (show (1 : Int32) < nI k from (nI_ltI (a := 1) (b := k) (by omega) (by omega)).mpr h), Nat.max_eq_right (by omega)]
  · rw [if_neg (show ¬ (1 : Int32) < nI k from fun z => h ((nI_ltI (a := 1) (b := k) (by omega) (by omega)).mp z)), Nat.max_eq_left (by omega)]
    rfl
theorem t_half : ∀ n, n < 1001 → nI n >>> ((1 : Int32) &&& 31) = nI (n / 2) := by decide +kernel
theorem t_max10 (n : Nat) (hn : n ≤ 10) : sMax 10 (nI n) = 10 := by
  unfold sMax
  rw [if_neg (show ¬ (10 : Int32) < nI n from fun z => absurd ((nI_ltI (a := 10) (b := n) (by omega) (by omega)).mp z) (by omega))]
theorem t_min (a b : Nat) (h : a ≤ b) (hb : b < 2147483648) : sMin (nI a) (nI b) = nI a := by
  unfold sMin
  rw [if_neg (fun z => absurd ((nI_ltI (a := b) (b := a) (by omega) (by omega)).mp z) (by omega))]
/-- the things of a list are objects of one class, and have other tags than the list -/
def tEl (M : hM) (t te cv n : Nat) (g : Nat → Nat) : Prop := ∀ i, i < n → ∃ (w : Nat) (fs : List Value), w ≠ t ∧ w ≠ te ∧ M (g i) = some (w, .inr (cv, fs))
theorem tEl.fr {M M' : hM} {t te cv n : Nat} {g : Nat → Nat} (h : tEl M t te cv n g) (hf : hFr (fun u => u = t ∨ u = te) M M') : tEl M' t te cv n g := fun i hi => by
  obtain ⟨w, fs, h1, h2, h3⟩ := h i hi
  exact ⟨w, fs, h1, h2, hf _ _ _ h3 (fun z => z.elim h1 h2)⟩
theorem dX3_init_0 : decode cX3_init 0 = .ok (.aload_n 0, 1) := by decide +kernel
theorem dX3_init_1 : decode cX3_init 1 = .ok (.invokespecial 3, 3) := by decide +kernel
theorem dX3_init_4 : decode cX3_init 4 = .ok (.aload_n 0, 1) := by decide +kernel
theorem dX3_init_5 : decode cX3_init 5 = .ok (.iconst 0, 1) := by decide +kernel
theorem dX3_init_6 : decode cX3_init 6 = .ok (.putfield 9, 3) := by decide +kernel
theorem dX3_init_9 : decode cX3_init 9 = .ok (.aload_n 0, 1) := by decide +kernel
theorem dX3_init_10 : decode cX3_init 10 = .ok (.iconst 1, 1) := by decide +kernel
theorem dX3_init_11 : decode cX3_init 11 = .ok (.putfield 15, 3) := by decide +kernel
theorem dX3_init_14 : decode cX3_init 14 = .ok (.aload_n 0, 1) := by decide +kernel
theorem dX3_init_15 : decode cX3_init 15 = .ok (.bipush 10, 2) := by decide +kernel
theorem dX3_init_17 : decode cX3_init 17 = .ok (.newarray .int, 2) := by decide +kernel
theorem dX3_init_19 : decode cX3_init 19 = .ok (.putfield 19, 3) := by decide +kernel
theorem dX3_init_22 : decode cX3_init 22 = .ok (.aload_n 0, 1) := by decide +kernel
theorem dX3_init_23 : decode cX3_init 23 = .ok (.bipush 10, 2) := by decide +kernel
theorem dX3_init_25 : decode cX3_init 25 = .ok (.newarray .int, 2) := by decide +kernel
theorem dX3_init_27 : decode cX3_init 27 = .ok (.putfield 23, 3) := by decide +kernel
theorem dX3_init_30 : decode cX3_init 30 = .ok (.aload_n 0, 1) := by decide +kernel
theorem dX3_init_31 : decode cX3_init 31 = .ok (.iload_n 1, 1) := by decide +kernel
theorem dX3_init_32 : decode cX3_init 32 = .ok (.putfield 26, 3) := by decide +kernel
theorem dX3_init_35 : decode cX3_init 35 = .ok (.aload_n 0, 1) := by decide +kernel
theorem dX3_init_36 : decode cX3_init 36 = .ok (.iload_n 2, 1) := by decide +kernel
theorem dX3_init_37 : decode cX3_init 37 = .ok (.putfield 29, 3) := by decide +kernel
theorem dX3_init_40 : decode cX3_init 40 = .ok (.aload_n 0, 1) := by decide +kernel
theorem dX3_init_41 : decode cX3_init 41 = .ok (.iload_n 3, 1) := by decide +kernel
theorem dX3_init_42 : decode cX3_init 42 = .ok (.putfield 32, 3) := by decide +kernel
theorem dX3_init_45 : decode cX3_init 45 = .ok (.return_, 1) := by decide +kernel
set_option maxHeartbeats 400000 in
set_option maxRecDepth 100000 in
theorem c_claimInit (l : Launch) (G : hG) (M : hM) (q0 t y : Nat) (x1 x2 : Int32) (hq : M q0 = some (t, .inr (5, [.int 0, .int 0, .int 0, .int 0, .int 0, .null, .null]))) : hCT l G yX3_init cX3_init 4 (Option.none) (hRm 2 2 20) M [.ref q0, .int (nI y), .int x1, .int x2] (fun v M' => v = none ∧ ∃ r0 r1, M' q0 = some (t, .inr (5, [.int (nI y), .int x1, .int 0, .int x2, .int 1, .ref r0, .ref r1])) ∧ M' r0 = some (t + 1, .inl (hT G 0, 10, .inl (fun _ => 0))) ∧ M' r1 = some (t + 2, .inl (hT G 0, 10, .inl (fun _ => 0))) ∧ hFr (fun u => u = t) M M') := by
  refine hCT.of (own := RX3) (nm := "<init>") (by decide) rfl rfl (Nat.le_of_ble_eq_true rfl) ?_
  intro p e s m args below meth c ls X Y hl
  have hx := X.1
  have hb := X.2.1
  have hl : lv_has ls 4 [(0, .ref q0), (1, .int (nI y)), (2, .int x1), (3, .int x2)] := hl
  have hfr : hFr (fun u => u = t) M M := hFr.rf
  refine lv_aload_n hx hb dX3_init_0 rfl (lv_at hl 0 rfl) ?_
  refine h_objI X hl.1 kml_X3_3 (Nat.le_of_ble_eq_true rfl) (Nat.le_of_ble_eq_true rfl) dX3_init_1 ?_
  refine lv_aload_n hx hb dX3_init_4 rfl (lv_at hl 0 rfl) ?_
  refine lv_iconst (v := 0) hx hb dX3_init_5 (by decide) ?_
  refine h_put X Y (k := 2) (v := .int 0) hq rfl hin_X3 tyX3_ok nmX3 (by decide) kfl_X3_9 rfl rfl rfl (Nat.le_of_ble_eq_true rfl) dX3_init_6 (fun H locs Y => ?_)
  have Y : hHS G (hup M q0 (t, .inr (5, [.int 0, .int 0, .int 0, .int 0, .int 0, .null, .null]))) s H locs := Y
  have hfr := hfr.put (x := (t, .inr (5, [.int 0, .int 0, .int 0, .int 0, .int 0, .null, .null]))) hq rfl
  have hq : hup M q0 (t, .inr (5, [.int 0, .int 0, .int 0, .int 0, .int 0, .null, .null])) q0 = some (t, .inr (5, [.int 0, .int 0, .int 0, .int 0, .int 0, .null, .null])) := hup_eq
  generalize hup M q0 (t, .inr (5, [.int 0, .int 0, .int 0, .int 0, .int 0, .null, .null])) = Mz1 at Y hq hfr
  refine lv_aload_n hx hb dX3_init_9 rfl (lv_at hl 0 rfl) ?_
  refine lv_iconst (v := 1) hx hb dX3_init_10 (by decide) ?_
  refine h_put X Y (k := 4) (v := .int 1) hq rfl hin_X3 tyX3_ok nmX3 (by decide) kfl_X3_15 rfl rfl rfl (Nat.le_of_ble_eq_true rfl) dX3_init_11 (fun H locs Y => ?_)
  have Y : hHS G (hup Mz1 q0 (t, .inr (5, [.int 0, .int 0, .int 0, .int 0, .int 1, .null, .null]))) s H locs := Y
  have hfr := hfr.put (x := (t, .inr (5, [.int 0, .int 0, .int 0, .int 0, .int 1, .null, .null]))) hq rfl
  have hq : hup Mz1 q0 (t, .inr (5, [.int 0, .int 0, .int 0, .int 0, .int 1, .null, .null])) q0 = some (t, .inr (5, [.int 0, .int 0, .int 0, .int 0, .int 1, .null, .null])) := hup_eq
  generalize hup Mz1 q0 (t, .inr (5, [.int 0, .int 0, .int 0, .int 0, .int 1, .null, .null])) = Mz2 at Y hq hfr
  refine lv_aload_n hx hb dX3_init_14 rfl (lv_at hl 0 rfl) ?_
  refine lv_bipush (v := 10) hx hb dX3_init_15 (by decide) ?_
  refine h_newI X Y (t + 1) (n := 10) (by decide) (Nat.le_of_ble_eq_true rfl) (Nat.le_of_ble_eq_true rfl) dX3_init_17 (fun qz3 Mz3 H fz3 hg3 Y => ?_)
  have hq := hg3 _ _ hq
  have hfr := hfr.grow hg3
  refine h_putF X Y (k := 5) (v := .ref qz3) hq rfl hin_X3 tyX3_ok nmX3 (by decide) kfl_X3_19 rfl rfl rfl rfl (Nat.le_of_ble_eq_true rfl) dX3_init_19 (fun H locs Y => ?_)
  have Y : hHS G (hup Mz3 q0 (t, .inr (5, [.int 0, .int 0, .int 0, .int 0, .int 1, .ref qz3, .null]))) s H locs := Y
  have fz3 := hup_tag (x := (t, .inr (5, [.int 0, .int 0, .int 0, .int 0, .int 1, .ref qz3, .null]))) fz3 hq (by omega)
  have hfr := hfr.put (x := (t, .inr (5, [.int 0, .int 0, .int 0, .int 0, .int 1, .ref qz3, .null]))) hq rfl
  have hq : hup Mz3 q0 (t, .inr (5, [.int 0, .int 0, .int 0, .int 0, .int 1, .ref qz3, .null])) q0 = some (t, .inr (5, [.int 0, .int 0, .int 0, .int 0, .int 1, .ref qz3, .null])) := hup_eq
  generalize hup Mz3 q0 (t, .inr (5, [.int 0, .int 0, .int 0, .int 0, .int 1, .ref qz3, .null])) = Mz4 at Y hq fz3 hfr
  refine lv_aload_n hx hb dX3_init_22 rfl (lv_at hl 0 rfl) ?_
  refine lv_bipush (v := 10) hx hb dX3_init_23 (by decide) ?_
  refine h_newI X Y (t + 2) (n := 10) (by decide) (Nat.le_of_ble_eq_true rfl) (Nat.le_of_ble_eq_true rfl) dX3_init_25 (fun qz5 Mz5 H fz5 hg5 Y => ?_)
  have hq := hg5 _ _ hq
  have fz3 := hg5 _ _ fz3
  have hfr := hfr.grow hg5
  refine h_putF X Y (k := 6) (v := .ref qz5) hq rfl hin_X3 tyX3_ok nmX3 (by decide) kfl_X3_23 rfl rfl rfl rfl (Nat.le_of_ble_eq_true rfl) dX3_init_27 (fun H locs Y => ?_)
  have Y : hHS G (hup Mz5 q0 (t, .inr (5, [.int 0, .int 0, .int 0, .int 0, .int 1, .ref qz3, .ref qz5]))) s H locs := Y
  have fz3 := hup_tag (x := (t, .inr (5, [.int 0, .int 0, .int 0, .int 0, .int 1, .ref qz3, .ref qz5]))) fz3 hq (by omega)
  have fz5 := hup_tag (x := (t, .inr (5, [.int 0, .int 0, .int 0, .int 0, .int 1, .ref qz3, .ref qz5]))) fz5 hq (by omega)
  have hfr := hfr.put (x := (t, .inr (5, [.int 0, .int 0, .int 0, .int 0, .int 1, .ref qz3, .ref qz5]))) hq rfl
  have hq : hup Mz5 q0 (t, .inr (5, [.int 0, .int 0, .int 0, .int 0, .int 1, .ref qz3, .ref qz5])) q0 = some (t, .inr (5, [.int 0, .int 0, .int 0, .int 0, .int 1, .ref qz3, .ref qz5])) := hup_eq
  generalize hup Mz5 q0 (t, .inr (5, [.int 0, .int 0, .int 0, .int 0, .int 1, .ref qz3, .ref qz5])) = Mz6 at Y hq fz3 fz5 hfr
  refine lv_aload_n hx hb dX3_init_30 rfl (lv_at hl 0 rfl) ?_
  refine lv_iload_n hx hb dX3_init_31 rfl (lv_at hl 1 rfl) ?_
  refine h_putF X Y (k := 0) (v := .int (nI y)) hq rfl hin_X3 tyX3_ok nmX3 (by decide) kfl_X3_26 rfl rfl rfl rfl (Nat.le_of_ble_eq_true rfl) dX3_init_32 (fun H locs Y => ?_)
  have Y : hHS G (hup Mz6 q0 (t, .inr (5, [.int (nI y), .int 0, .int 0, .int 0, .int 1, .ref qz3, .ref qz5]))) s H locs := Y
  have fz3 := hup_tag (x := (t, .inr (5, [.int (nI y), .int 0, .int 0, .int 0, .int 1, .ref qz3, .ref qz5]))) fz3 hq (by omega)
  have fz5 := hup_tag (x := (t, .inr (5, [.int (nI y), .int 0, .int 0, .int 0, .int 1, .ref qz3, .ref qz5]))) fz5 hq (by omega)
  have hfr := hfr.put (x := (t, .inr (5, [.int (nI y), .int 0, .int 0, .int 0, .int 1, .ref qz3, .ref qz5]))) hq rfl
  have hq : hup Mz6 q0 (t, .inr (5, [.int (nI y), .int 0, .int 0, .int 0, .int 1, .ref qz3, .ref qz5])) q0 = some (t, .inr (5, [.int (nI y), .int 0, .int 0, .int 0, .int 1, .ref qz3, .ref qz5])) := hup_eq
  generalize hup Mz6 q0 (t, .inr (5, [.int (nI y), .int 0, .int 0, .int 0, .int 1, .ref qz3, .ref qz5])) = Mz7 at Y hq fz3 fz5 hfr
  refine lv_aload_n hx hb dX3_init_35 rfl (lv_at hl 0 rfl) ?_
  refine lv_iload_n hx hb dX3_init_36 rfl (lv_at hl 2 rfl) ?_
  refine h_putF X Y (k := 1) (v := .int x1) hq rfl hin_X3 tyX3_ok nmX3 (by decide) kfl_X3_29 rfl rfl rfl rfl (Nat.le_of_ble_eq_true rfl) dX3_init_37 (fun H locs Y => ?_)
  have Y : hHS G (hup Mz7 q0 (t, .inr (5, [.int (nI y), .int x1, .int 0, .int 0, .int 1, .ref qz3, .ref qz5]))) s H locs := Y
  have fz3 := hup_tag (x := (t, .inr (5, [.int (nI y), .int x1, .int 0, .int 0, .int 1, .ref qz3, .ref qz5]))) fz3 hq (by omega)
  have fz5 := hup_tag (x := (t, .inr (5, [.int (nI y), .int x1, .int 0, .int 0, .int 1, .ref qz3, .ref qz5]))) fz5 hq (by omega)
  have hfr := hfr.put (x := (t, .inr (5, [.int (nI y), .int x1, .int 0, .int 0, .int 1, .ref qz3, .ref qz5]))) hq rfl
  have hq : hup Mz7 q0 (t, .inr (5, [.int (nI y), .int x1, .int 0, .int 0, .int 1, .ref qz3, .ref qz5])) q0 = some (t, .inr (5, [.int (nI y), .int x1, .int 0, .int 0, .int 1, .ref qz3, .ref qz5])) := hup_eq
  generalize hup Mz7 q0 (t, .inr (5, [.int (nI y), .int x1, .int 0, .int 0, .int 1, .ref qz3, .ref qz5])) = Mz8 at Y hq fz3 fz5 hfr
  refine lv_aload_n hx hb dX3_init_40 rfl (lv_at hl 0 rfl) ?_
  refine lv_iload_n hx hb dX3_init_41 rfl (lv_at hl 3 rfl) ?_
  refine h_put X Y (k := 3) (v := .int x2) hq rfl hin_X3 tyX3_ok nmX3 (by decide) kfl_X3_32 rfl rfl rfl (Nat.le_of_ble_eq_true rfl) dX3_init_42 (fun H locs Y => ?_)
  have Y : hHS G (hup Mz8 q0 (t, .inr (5, [.int (nI y), .int x1, .int 0, .int x2, .int 1, .ref qz3, .ref qz5]))) s H locs := Y
  have fz3 := hup_tag (x := (t, .inr (5, [.int (nI y), .int x1, .int 0, .int x2, .int 1, .ref qz3, .ref qz5]))) fz3 hq (by omega)
  have fz5 := hup_tag (x := (t, .inr (5, [.int (nI y), .int x1, .int 0, .int x2, .int 1, .ref qz3, .ref qz5]))) fz5 hq (by omega)
  have hfr := hfr.put (x := (t, .inr (5, [.int (nI y), .int x1, .int 0, .int x2, .int 1, .ref qz3, .ref qz5]))) hq rfl
  have hq : hup Mz8 q0 (t, .inr (5, [.int (nI y), .int x1, .int 0, .int x2, .int 1, .ref qz3, .ref qz5])) q0 = some (t, .inr (5, [.int (nI y), .int x1, .int 0, .int x2, .int 1, .ref qz3, .ref qz5])) := hup_eq
  generalize hup Mz8 q0 (t, .inr (5, [.int (nI y), .int x1, .int 0, .int x2, .int 1, .ref qz3, .ref qz5])) = Mz9 at Y hq fz3 fz5 hfr
  exact h_vret X Y ⟨rfl, qz3, qz5, hq, fz3, fz5, hfr⟩ (Nat.le_of_ble_eq_true rfl) (Nat.le_of_ble_eq_true rfl) dX3_init_45
theorem dJ8_newLength_cabcc_0 : decode cJ8_newLength_cabcc 0 = .ok (.iload_n 0, 1) := by decide +kernel
theorem dJ8_newLength_cabcc_1 : decode cJ8_newLength_cabcc 1 = .ok (.iload_n 1, 1) := by decide +kernel
theorem dJ8_newLength_cabcc_2 : decode cJ8_newLength_cabcc 2 = .ok (.iload_n 2, 1) := by decide +kernel
theorem dJ8_newLength_cabcc_3 : decode cJ8_newLength_cabcc 3 = .ok (.invokestatic 194, 3) := by decide +kernel
theorem dJ8_newLength_cabcc_6 : decode cJ8_newLength_cabcc 6 = .ok (.iadd, 1) := by decide +kernel
theorem dJ8_newLength_cabcc_7 : decode cJ8_newLength_cabcc 7 = .ok (.istore_n 3, 1) := by decide +kernel
theorem dJ8_newLength_cabcc_8 : decode cJ8_newLength_cabcc 8 = .ok (.iconst 0, 1) := by decide +kernel
theorem dJ8_newLength_cabcc_9 : decode cJ8_newLength_cabcc 9 = .ok (.iload_n 3, 1) := by decide +kernel
theorem dJ8_newLength_cabcc_10 : decode cJ8_newLength_cabcc 10 = .ok (.if_icmp .ge 11, 3) := by decide +kernel
theorem dJ8_newLength_cabcc_13 : decode cJ8_newLength_cabcc 13 = .ok (.iload_n 3, 1) := by decide +kernel
theorem dJ8_newLength_cabcc_14 : decode cJ8_newLength_cabcc 14 = .ok (.ldc 200, 2) := by decide +kernel
theorem dJ8_newLength_cabcc_16 : decode cJ8_newLength_cabcc 16 = .ok (.if_icmp .gt 5, 3) := by decide +kernel
theorem dJ8_newLength_cabcc_19 : decode cJ8_newLength_cabcc 19 = .ok (.iload_n 3, 1) := by decide +kernel
theorem dJ8_newLength_cabcc_20 : decode cJ8_newLength_cabcc 20 = .ok (.ireturn, 1) := by decide +kernel
set_option maxHeartbeats 400000 in
set_option maxRecDepth 100000 in
theorem c_newLength (l : Launch) (G : hG) (M : hM) (n k : Nat) (hn : n < 1000) (hk : k < 1000) : hCT l G yJ8_newLength_cabcc cJ8_newLength_cabcc 4 (Option.some FieldType.int) (hRm 2 0 0) M [.int (nI n), .int 1, .int (nI k)] (hRd M (.int (nI (n + max 1 k)))) := by
  refine hCT.of (own := RJ8) (nm := "newLength") (by decide) rfl rfl (Nat.le_of_ble_eq_true rfl) ?_
  intro p e s m args below meth c ls X Y hl
  have hx := X.1
  have hb := X.2.1
  have hl : lv_has ls 4 [(0, .int (nI n)), (1, .int 1), (2, .int (nI k))] := hl
  refine lv_iload_n hx hb dJ8_newLength_cabcc_0 rfl (lv_at hl 0 rfl) ?_
  refine lv_iload_n hx hb dJ8_newLength_cabcc_1 rfl (lv_at hl 1 rfl) ?_
  refine lv_iload_n hx hb dJ8_newLength_cabcc_2 rfl (lv_at hl 2 rfl) ?_
  refine h_mmax X kml_J8_194 hl.1 (Nat.le_of_ble_eq_true rfl) (Nat.le_of_ble_eq_true rfl) ⟨Nat.le_of_ble_eq_true rfl, Nat.le_of_ble_eq_true rfl⟩ dJ8_newLength_cabcc_3 ?_
  refine h_ev (y := nI (max 1 k)) (t_max1 k (by omega)) ?_
  refine lv_iadd hx hb dJ8_newLength_cabcc_6 ?_
  refine h_ev (y := nI (n + (max 1 k))) (nI_add n (max 1 k)) ?_
  refine lv_istore_n (lv' := [(3, .int (nI (n + (max 1 k)))), (0, .int (nI n)), (1, .int 1), (2, .int (nI k))]) hx hb dJ8_newLength_cabcc_7 rfl hl (by decide) rfl (fun ls hl => ?_)
  refine lv_iconst (v := 0) hx hb dJ8_newLength_cabcc_8 (by decide) ?_
  refine lv_iload_n hx hb dJ8_newLength_cabcc_9 rfl (lv_at hl 0 rfl) ?_
  refine lv_icmp_ge (tgt := 21) hx hb dJ8_newLength_cabcc_10 (by decide) (fun c10 => absurd (show (n + (max 1 k)) ≤ 0 from (nI_leI (a := (n + (max 1 k))) (b := 0) (by omega) (by omega)).mp c10) (by omega)) (fun c10 => ?_)
  have c10 : ¬ (n + (max 1 k)) ≤ 0 := fun z9 => c10 ((nI_leI (a := (n + (max 1 k))) (b := 0) (by omega) (by omega)).mpr z9)
  refine lv_iload_n hx hb dJ8_newLength_cabcc_13 rfl (lv_at hl 0 rfl) ?_
  refine lv_ldc hx hb X.2.2.2.2.1 (X.2.2.2.2.2.1 _ kcI_J8_200) dJ8_newLength_cabcc_14 ?_
  refine lv_icmp_gt (tgt := 21) hx hb dJ8_newLength_cabcc_16 (by decide) (fun c16 => absurd (show 2147483639 < (n + (max 1 k)) from (nI_ltI (a := 2147483639) (b := (n + (max 1 k))) (by omega) (by omega)).mp c16) (by omega)) (fun c16 => ?_)
  have c16 : ¬ 2147483639 < (n + (max 1 k)) := fun z9 => c16 ((nI_ltI (a := 2147483639) (b := (n + (max 1 k))) (by omega) (by omega)).mpr z9)
  refine lv_iload_n hx hb dJ8_newLength_cabcc_19 rfl (lv_at hl 0 rfl) ?_
  exact h_iret X Y ⟨rfl, rfl⟩ (Nat.le_refl _) (Nat.le_refl _) dJ8_newLength_cabcc_20
theorem dJ7_copyOf_6403c_0 : decode cJ7_copyOf_6403c 0 = .ok (.aload_n 2, 1) := by decide +kernel
theorem dJ7_copyOf_6403c_1 : decode cJ7_copyOf_6403c 1 = .ok (.ldc 110, 2) := by decide +kernel
theorem dJ7_copyOf_6403c_3 : decode cJ7_copyOf_6403c 3 = .ok (.if_acmp .ne 10, 3) := by decide +kernel
theorem dJ7_copyOf_6403c_6 : decode cJ7_copyOf_6403c 6 = .ok (.iload_n 1, 1) := by decide +kernel
theorem dJ7_copyOf_6403c_7 : decode cJ7_copyOf_6403c 7 = .ok (.anewarray 2, 3) := by decide +kernel
theorem dJ7_copyOf_6403c_10 : decode cJ7_copyOf_6403c 10 = .ok (.goto 14, 3) := by decide +kernel
theorem dJ7_copyOf_6403c_24 : decode cJ7_copyOf_6403c 24 = .ok (.astore_n 3, 1) := by decide +kernel
theorem dJ7_copyOf_6403c_25 : decode cJ7_copyOf_6403c 25 = .ok (.aload_n 0, 1) := by decide +kernel
theorem dJ7_copyOf_6403c_26 : decode cJ7_copyOf_6403c 26 = .ok (.iconst 0, 1) := by decide +kernel
theorem dJ7_copyOf_6403c_27 : decode cJ7_copyOf_6403c 27 = .ok (.aload_n 3, 1) := by decide +kernel
theorem dJ7_copyOf_6403c_28 : decode cJ7_copyOf_6403c 28 = .ok (.iconst 0, 1) := by decide +kernel
theorem dJ7_copyOf_6403c_29 : decode cJ7_copyOf_6403c 29 = .ok (.aload_n 0, 1) := by decide +kernel
theorem dJ7_copyOf_6403c_30 : decode cJ7_copyOf_6403c 30 = .ok (.arraylength, 1) := by decide +kernel
theorem dJ7_copyOf_6403c_31 : decode cJ7_copyOf_6403c 31 = .ok (.iload_n 1, 1) := by decide +kernel
theorem dJ7_copyOf_6403c_32 : decode cJ7_copyOf_6403c 32 = .ok (.invokestatic 304, 3) := by decide +kernel
theorem dJ7_copyOf_6403c_35 : decode cJ7_copyOf_6403c 35 = .ok (.invokestatic 150, 3) := by decide +kernel
theorem dJ7_copyOf_6403c_38 : decode cJ7_copyOf_6403c 38 = .ok (.aload_n 3, 1) := by decide +kernel
theorem dJ7_copyOf_6403c_39 : decode cJ7_copyOf_6403c 39 = .ok (.areturn, 1) := by decide +kernel
set_option maxHeartbeats 400000 in
set_option maxRecDepth 100000 in
theorem c_copyOf3 (l : Launch) (G : hG) (M : hM) (a0 u te mm n0 cv : Nat) (f : Nat → Option Nat) (h0 : M a0 = some (u, .inl (hT G 6, n0, .inr (.inr (.inr (.inr f)))))) (hm : n0 ≤ mm) (hmm : mm ≤ 1000) (hcv : tCa cv) (hel : ∀ i : Nat, i < n0 → ∃ (y w : Nat) (fs : List Value), f i = some y ∧ M y = some (w, .inr (cv, fs))) (mi : Nat) (hmi : va_Mi "[Ljava/lang/Object;" mi (hU G)) : hCT l G yJ7_copyOf_6403c cJ7_copyOf_6403c 4 (Option.some (FieldType.array (FieldType.object "java/lang/Object"))) (hRm 2 1 mm) M [.ref a0, .int (nI mm), .ref mi] (fun v M' => ∃ q, v = some (.ref q) ∧ M' q = some (te, .inl (hT G 6, mm, .inr (.inr (.inr (.inr (fun i => if i < n0 then f i else none)))))) ∧ hFr (fun u => u = te) M M') := by
  refine hCT.of (own := RJ7) (nm := "copyOf") (by decide) rfl rfl (Nat.le_of_ble_eq_true rfl) ?_
  intro p e s m args below meth c ls X Y hl
  have hx := X.1
  have hb := X.2.1
  have hl : lv_has ls 4 [(0, .ref a0), (1, .int (nI mm)), (2, .ref mi)] := hl
  have hmi := va_Mi.moved X.2.2.2.2.2.2.2.2.2.1.1.alike hmi
  refine lv_aload_n hx hb dJ7_copyOf_6403c_0 rfl (lv_at hl 2 rfl) ?_
  refine h_ldcM X kcl_J7_110 hmi dJ7_copyOf_6403c_1 ?_
  refine lv_acmp_ne (rx := some mi) (ry := some mi) (tgt := 13) hx hb dJ7_copyOf_6403c_3 (by decide) (fun c3 => absurd rfl c3) (fun c3 => ?_)
  refine lv_iload_n hx hb dJ7_copyOf_6403c_6 rfl (lv_at hl 1 rfl) ?_
  refine h_newq 6 X Y (te) (n := mm) (by omega) kcl_J7_2 (t_ao X.2.2.2.2.2.2.2.2.1 X.2.2.2.2.2.2.2.2.2.1) rfl (Nat.le_of_ble_eq_true rfl) (by show 0 + _ ≤ mm; omega) dJ7_copyOf_6403c_7 (fun qz1 Mz1 H fz1 hg1 Y => ?_)
  have hfr : hFr (fun u => u = te) M Mz1 := hFr.grow hFr.rf hg1
  refine lv_goto (tgt := 24) hx hb dJ7_copyOf_6403c_10 (by decide) ?_
  refine lv_astore_n (lv' := [(3, .ref qz1), (0, .ref a0), (1, .int (nI mm)), (2, .ref mi)]) hx hb dJ7_copyOf_6403c_24 rfl hl (by decide) rfl (fun ls hl => ?_)
  refine lv_aload_n hx hb dJ7_copyOf_6403c_25 rfl (lv_at hl 1 rfl) ?_
  refine lv_iconst (v := 0) hx hb dJ7_copyOf_6403c_26 (by decide) ?_
  refine lv_aload_n hx hb dJ7_copyOf_6403c_27 rfl (lv_at hl 0 rfl) ?_
  refine lv_iconst (v := 0) hx hb dJ7_copyOf_6403c_28 (by decide) ?_
  refine lv_aload_n hx hb dJ7_copyOf_6403c_29 rfl (lv_at hl 1 rfl) ?_
  refine h_alen X Y 6 (hg1 _ _ h0) rfl dJ7_copyOf_6403c_30 ?_
  refine lv_iload_n hx hb dJ7_copyOf_6403c_31 rfl (lv_at hl 2 rfl) ?_
  refine h_mmin X kml_J7_304 hl.1 (Nat.le_of_ble_eq_true rfl) (Nat.le_of_ble_eq_true rfl) ⟨(by show 0 + 1 ≤ 1; omega), (by show 0 + mm ≤ mm; omega)⟩ dJ7_copyOf_6403c_32 ?_
  refine h_ev (y := nI n0) (t_min n0 mm (by omega) (by omega)) ?_
  refine h_cpq (k := n0) X Y hl.1 (hg1 _ _ h0) fz1 (Nat.le_refl _) (by omega) (by omega) hcv (fun i hi => ?_) kml_J7_150 (Nat.le_of_ble_eq_true rfl) (Nat.le_of_ble_eq_true rfl) dJ7_copyOf_6403c_35 (fun H locs Y => ?_)
  · obtain ⟨y, w, fs, e1, e2⟩ := hel i hi
    exact ⟨y, w, fs, e1, hg1 _ _ e2⟩
  have hfr := hfr.put (x := (te, .inl (hT G 6, mm, .inr (.inr (.inr (.inr (fun i => if i < n0 then f i else none))))))) fz1 rfl
  have hq9 : hup Mz1 qz1 (te, .inl (hT G 6, mm, .inr (.inr (.inr (.inr (fun i => if i < n0 then f i else none)))))) qz1 = some (te, .inl (hT G 6, mm, .inr (.inr (.inr (.inr (fun i => if i < n0 then f i else none)))))) := hup_eq
  refine lv_aload_n hx hb dJ7_copyOf_6403c_38 rfl (lv_at hl 0 rfl) ?_
  exact h_aret (v := some qz1) X Y (Or.inr ⟨_, rfl⟩) ⟨qz1, rfl, hq9, hfr⟩ (by show 0 + 1 ≤ 1; omega) (by show 0 + mm ≤ mm; omega) dJ7_copyOf_6403c_39
theorem gw_J7_300 : GoodIn hGW (va_wsS RJ7 300 yJ7_copyOf_6403c (Cond.code yJ7_copyOf_6403c cJ7_copyOf_6403c 4 (Option.some (FieldType.array (FieldType.object "java/lang/Object"))) :: hGW)) := hgi3 kml_J7_300 kst_J7_copyOf_6403c kini_J7 kco_J7_copyOf_6403c
theorem dsc_J7_copyOf_6403c : yJ7_copyOf_6403c.cls = RJ7 ∧ yJ7_copyOf_6403c.cls ≠ "java/lang/invoke/MethodHandle" ∧ yJ7_copyOf_6403c.cls ≠ "java/lang/invoke/VarHandle" ∧ (parseMethodDescriptor yJ7_copyOf_6403c.desc).map (fun d => d.parameters.length) = some 3 := ⟨rfl, by decide +kernel, by decide +kernel, by decide +kernel⟩
theorem dJ7_copyOf_1904c_0 : decode cJ7_copyOf_1904c 0 = .ok (.aload_n 0, 1) := by decide +kernel
theorem dJ7_copyOf_1904c_1 : decode cJ7_copyOf_1904c 1 = .ok (.iload_n 1, 1) := by decide +kernel
theorem dJ7_copyOf_1904c_2 : decode cJ7_copyOf_1904c 2 = .ok (.aload_n 0, 1) := by decide +kernel
theorem dJ7_copyOf_1904c_3 : decode cJ7_copyOf_1904c 3 = .ok (.invokevirtual 86, 3) := by decide +kernel
theorem dJ7_copyOf_1904c_6 : decode cJ7_copyOf_1904c 6 = .ok (.invokestatic 300, 3) := by decide +kernel
theorem dJ7_copyOf_1904c_9 : decode cJ7_copyOf_1904c 9 = .ok (.areturn, 1) := by decide +kernel
set_option maxHeartbeats 400000 in
set_option maxRecDepth 100000 in
theorem c_copyOf2 (l : Launch) (G : hG) (M : hM) (a0 u te mm n0 cv : Nat) (f : Nat → Option Nat) (h0 : M a0 = some (u, .inl (hT G 6, n0, .inr (.inr (.inr (.inr f)))))) (hm : n0 ≤ mm) (hmm : mm ≤ 1000) (hcv : tCa cv) (hel : ∀ i : Nat, i < n0 → ∃ (y w : Nat) (fs : List Value), f i = some y ∧ M y = some (w, .inr (cv, fs))) : hCT l G yJ7_copyOf_1904c cJ7_copyOf_1904c 2 (Option.some (FieldType.array (FieldType.object "java/lang/Object"))) (hRm 3 1 mm) M [.ref a0, .int (nI mm)] (fun v M' => ∃ q, v = some (.ref q) ∧ M' q = some (te, .inl (hT G 6, mm, .inr (.inr (.inr (.inr (fun i => if i < n0 then f i else none)))))) ∧ hFr (fun u => u = te) M M') := by
  refine hCT.of (own := RJ7) (nm := "copyOf") (by decide) rfl rfl (Nat.le_of_ble_eq_true rfl) ?_
  intro p e s m args below meth c ls X Y hl
  have hx := X.1
  have hb := X.2.1
  have hl : lv_has ls 2 [(0, .ref a0), (1, .int (nI mm))] := hl
  obtain ⟨mi, hmi0⟩ := t_mi X.2.2.2.2.2.2.2.2.1
  have hmi := va_Mi.moved X.2.2.2.2.2.2.2.2.2.1.1.alike hmi0
  refine lv_aload_n hx hb dJ7_copyOf_1904c_0 rfl (lv_at hl 0 rfl) ?_
  refine lv_iload_n hx hb dJ7_copyOf_1904c_1 rfl (lv_at hl 1 rfl) ?_
  refine lv_aload_n hx hb dJ7_copyOf_1904c_2 rfl (lv_at hl 0 rfl) ?_
  refine h_getCl X Y hl.1 h0 kml_J7_86 hmi (Nat.le_of_ble_eq_true rfl) (Nat.le_of_ble_eq_true rfl) dJ7_copyOf_1904c_3 ?_
  refine h_callS (rest := []) X Y (c_copyOf3 l G M a0 u te mm n0 cv f h0 hm hmm hcv hel mi hmi0) gw_J7_300 dsc_J7_copyOf_6403c.2 rfl hl.1 rfl (Nat.le_of_ble_eq_true rfl) ⟨Nat.le_of_ble_eq_true rfl, Nat.le_of_ble_eq_true rfl⟩ ⟨(by show 0 + 1 ≤ 1; omega), (by show 0 + mm ≤ mm; omega)⟩ dJ7_copyOf_1904c_6 ?_
  rintro _ M1 H locs ⟨q, rfl, hq9, hfr⟩ Y
  try dsimp only [Option.toList, List.singleton_append]
  exact h_aret (v := some q) X Y (Or.inr ⟨_, rfl⟩) ⟨q, rfl, hq9, hfr⟩ (by show 0 + 1 ≤ 1; omega) (by show 0 + mm ≤ mm; omega) dJ7_copyOf_1904c_9
