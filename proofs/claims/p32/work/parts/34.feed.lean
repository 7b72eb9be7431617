-- FEEDING THE TAPE
def wd4 (b0 b1 b2 b3 : Nat) : Nat := b0 * 16777216 + b1 * 65536 + b2 * 256 + b3
theorem wd4_lt {b0 b1 b2 b3 : Nat} (h0 : b0 < 128) (h1 : b1 < 128) (h2 : b2 < 128) (h3 : b3 < 128) : wd4 b0 b1 b2 b3 < 2147483648 := by unfold wd4; omega
theorem wd4_0 {b0 b1 b2 b3 : Nat} (h0 : b0 < 128) (h1 : b1 < 128) (h2 : b2 < 128) (h3 : b3 < 128) : wd4 b0 b1 b2 b3 / 2 ^ 24 % 256 = b0 := by unfold wd4; omega
theorem wd4_1 {b0 b1 b2 b3 : Nat} (h0 : b0 < 128) (h1 : b1 < 128) (h2 : b2 < 128) (h3 : b3 < 128) : wd4 b0 b1 b2 b3 / 2 ^ 16 % 256 = b1 := by unfold wd4; omega
theorem wd4_2 {b0 b1 b2 b3 : Nat} (h0 : b0 < 128) (h1 : b1 < 128) (h2 : b2 < 128) (h3 : b3 < 128) : wd4 b0 b1 b2 b3 / 2 ^ 8 % 256 = b2 := by unfold wd4; omega
theorem wd4_3 {b0 b1 b2 b3 : Nat} (h0 : b0 < 128) (h1 : b1 < 128) (h2 : b2 < 128) (h3 : b3 < 128) : wd4 b0 b1 b2 b3 / 2 ^ 0 % 256 = b3 := by unfold wd4; omega
theorem wd4_s {b0 b1 b2 b3 s b : Nat} (h0 : b0 < 128) (h1 : b1 < 128) (h2 : b2 < 128) (h3 : b3 < 128) (hs : s = 0 ∨ s = 8 ∨ s = 16 ∨ s = 24) (hb : wd4 b0 b1 b2 b3 / 2 ^ s % 256 = b) (hb8 : b < 128) : vp_nar .byte ((nI (wd4 b0 b1 b2 b3) >>> (nI s &&& 31)).toInt8.toInt32) = nI b := by
  have hl := wd4_lt h0 h1 h2 h3
  rw [tp_sh hl hs, tp_b (Nat.lt_of_le_of_lt (Nat.div_le_self _ _) hl) (by rw [hb]; exact hb8), hb]
def up4 (f : Nat → Int32) (n b0 b1 b2 b3 : Nat) : Nat → Int32 := upd (upd (upd (upd f n (nI b0)) (n + 1) (nI b1)) (n + 2) (nI b2)) (n + 3) (nI b3)
theorem up4_lo {f : Nat → Int32} {n b0 b1 b2 b3 j : Nat} (h : j < n) : up4 f n b0 b1 b2 b3 j = f j := by
  unfold up4
  rw [pk_un (by omega), pk_un (by omega), pk_un (by omega), pk_un (by omega)]
theorem up4_0 {f : Nat → Int32} {n b0 b1 b2 b3 : Nat} : up4 f n b0 b1 b2 b3 n = nI b0 := by
  unfold up4
  rw [pk_un (by omega), pk_un (by omega), pk_un (by omega), pk_us]
theorem up4_1 {f : Nat → Int32} {n b0 b1 b2 b3 : Nat} : up4 f n b0 b1 b2 b3 (n + 1) = nI b1 := by
  unfold up4
  rw [pk_un (by omega), pk_un (by omega), pk_us]
theorem up4_2 {f : Nat → Int32} {n b0 b1 b2 b3 : Nat} : up4 f n b0 b1 b2 b3 (n + 2) = nI b2 := by
  unfold up4
  rw [pk_un (by omega), pk_us]
theorem up4_3 {f : Nat → Int32} {n b0 b1 b2 b3 : Nat} : up4 f n b0 b1 b2 b3 (n + 3) = nI b3 := by
  unfold up4
  rw [pk_us]
theorem dX8_append_0 : decode cX8_append 0 = .ok (.bipush 24, 2) := by decide +kernel
theorem dX8_append_2 : decode cX8_append 2 = .ok (.istore_n 2, 1) := by decide +kernel
theorem dX8_append_3 : decode cX8_append 3 = .ok (.iload_n 2, 1) := by decide +kernel
theorem dX8_append_4 : decode cX8_append 4 = .ok (.ifCond .lt 51, 3) := by decide +kernel
theorem dX8_append_7 : decode cX8_append 7 = .ok (.aload_n 0, 1) := by decide +kernel
theorem dX8_append_8 : decode cX8_append 8 = .ok (.getfield 15, 3) := by decide +kernel
theorem dX8_append_11 : decode cX8_append 11 = .ok (.ifCond .lt 38, 3) := by decide +kernel
theorem dX8_append_14 : decode cX8_append 14 = .ok (.aload_n 0, 1) := by decide +kernel
theorem dX8_append_15 : decode cX8_append 15 = .ok (.getfield 15, 3) := by decide +kernel
theorem dX8_append_18 : decode cX8_append 18 = .ok (.aload_n 0, 1) := by decide +kernel
theorem dX8_append_19 : decode cX8_append 19 = .ok (.getfield 9, 3) := by decide +kernel
theorem dX8_append_22 : decode cX8_append 22 = .ok (.arraylength, 1) := by decide +kernel
theorem dX8_append_23 : decode cX8_append 23 = .ok (.if_icmp .ge 26, 3) := by decide +kernel
theorem dX8_append_26 : decode cX8_append 26 = .ok (.aload_n 0, 1) := by decide +kernel
theorem dX8_append_27 : decode cX8_append 27 = .ok (.getfield 9, 3) := by decide +kernel
theorem dX8_append_30 : decode cX8_append 30 = .ok (.aload_n 0, 1) := by decide +kernel
theorem dX8_append_31 : decode cX8_append 31 = .ok (.getfield 15, 3) := by decide +kernel
theorem dX8_append_34 : decode cX8_append 34 = .ok (.iload_n 1, 1) := by decide +kernel
theorem dX8_append_35 : decode cX8_append 35 = .ok (.iload_n 2, 1) := by decide +kernel
theorem dX8_append_36 : decode cX8_append 36 = .ok (.ishr, 1) := by decide +kernel
theorem dX8_append_37 : decode cX8_append 37 = .ok (.i2b, 1) := by decide +kernel
theorem dX8_append_38 : decode cX8_append 38 = .ok (.bastore, 1) := by decide +kernel
theorem dX8_append_39 : decode cX8_append 39 = .ok (.aload_n 0, 1) := by decide +kernel
theorem dX8_append_40 : decode cX8_append 40 = .ok (.dup, 1) := by decide +kernel
theorem dX8_append_41 : decode cX8_append 41 = .ok (.getfield 15, 3) := by decide +kernel
theorem dX8_append_44 : decode cX8_append 44 = .ok (.iconst 1, 1) := by decide +kernel
theorem dX8_append_45 : decode cX8_append 45 = .ok (.iadd, 1) := by decide +kernel
theorem dX8_append_46 : decode cX8_append 46 = .ok (.putfield 15, 3) := by decide +kernel
theorem dX8_append_49 : decode cX8_append 49 = .ok (.iinc 2 (-8), 3) := by decide +kernel
theorem dX8_append_52 : decode cX8_append 52 = .ok (.goto (-49), 3) := by decide +kernel
theorem dX8_append_55 : decode cX8_append 55 = .ok (.return_, 1) := by decide +kernel
set_option maxHeartbeats 400000 in
set_option maxRecDepth 100000 in
theorem c_append (l : Launch) (G : hG) (M : hM) (a r n : Nat) (f : Nat → Int32) (hn : n + 4 ≤ 2000) (ht1 : M a = some (1, .inr (9, [.ref r, .int (nI n)]))) (ht2 : M r = some (2, .inl (hT G 1, 2000, .inl f))) (b0 b1 b2 b3 : Nat) (h0 : b0 < 128) (h1 : b1 < 128) (h2 : b2 < 128) (h3 : b3 < 128) : hCT l G yX8_append cX8_append 3 (Option.none) (hRm 1 0 0) M [.ref a, .int (nI (wd4 b0 b1 b2 b3))] (fun v M' => v = none ∧ M' a = some (1, .inr (9, [.ref r, .int (nI (n + 4))])) ∧ M' r = some (2, .inl (hT G 1, 2000, .inl (up4 f n b0 b1 b2 b3))) ∧ hFr (fun u => u = 1 ∨ u = 2) M M') := by
  refine hCT.of (own := RX8) (nm := "append") (by decide) rfl rfl (Nat.le_of_ble_eq_true rfl) ?_
  intro p e s m args below meth c ls X Y hl
  have hx := X.1
  have hb := X.2.1
  have hl : lv_has ls 3 [(0, .ref a), (1, .int (nI (wd4 b0 b1 b2 b3)))] := hl
  have hfr : hFr (fun u => u = 1 ∨ u = 2) M M := hFr.rf
  refine lv_bipush (v := 24) hx hb dX8_append_0 (by decide) ?_
  refine lv_istore_n (lv' := [(2, .int 24), (0, .ref a), (1, .int (nI (wd4 b0 b1 b2 b3)))]) hx hb dX8_append_2 rfl hl (by decide) rfl (fun ls hl => ?_)
  refine lv_iload_n hx hb dX8_append_3 rfl (lv_at hl 0 rfl) ?_
  refine lv_if_lt (tgt := 55) hx hb dX8_append_4 (by decide) (fun c4 => absurd c4 (by decide)) (fun c4 => ?_)
  refine lv_aload_n hx hb dX8_append_7 rfl (lv_at hl 1 rfl) ?_
  refine h_get X Y (k := 1) (v := .int (nI n)) ht1 rfl hin_X8 (by decide) kfl_X8_15 rfl dX8_append_8 ?_
  refine lv_if_lt (tgt := 49) hx hb dX8_append_11 (by decide) (fun c11 => absurd (show n < 0 from (nI_ltI (a := n) (b := 0) (by omega) (by omega)).mp c11) (by omega)) (fun c11 => ?_)
  have c11 : ¬ n < 0 := fun z9 => c11 ((nI_ltI (a := n) (b := 0) (by omega) (by omega)).mpr z9)
  refine lv_aload_n hx hb dX8_append_14 rfl (lv_at hl 1 rfl) ?_
  refine h_get X Y (k := 1) (v := .int (nI n)) ht1 rfl hin_X8 (by decide) kfl_X8_15 rfl dX8_append_15 ?_
  refine lv_aload_n hx hb dX8_append_18 rfl (lv_at hl 1 rfl) ?_
  refine h_get X Y (k := 0) (v := .ref r) ht1 rfl hin_X8 (by decide) kfl_X8_9 rfl dX8_append_19 ?_
  refine h_alen X Y 1 ht2 rfl dX8_append_22 ?_
  refine lv_icmp_ge (tgt := 49) hx hb dX8_append_23 (by decide) (fun c23 => absurd (show 2000 ≤ n from (nI_leI (a := 2000) (b := n) (by omega) (by omega)).mp c23) (by omega)) (fun c23 => ?_)
  have c23 : ¬ 2000 ≤ n := fun z9 => c23 ((nI_leI (a := 2000) (b := n) (by omega) (by omega)).mpr z9)
  refine lv_aload_n hx hb dX8_append_26 rfl (lv_at hl 1 rfl) ?_
  refine h_get X Y (k := 0) (v := .ref r) ht1 rfl hin_X8 (by decide) kfl_X8_9 rfl dX8_append_27 ?_
  refine lv_aload_n hx hb dX8_append_30 rfl (lv_at hl 1 rfl) ?_
  refine h_get X Y (k := 1) (v := .int (nI n)) ht1 rfl hin_X8 (by decide) kfl_X8_15 rfl dX8_append_31 ?_
  refine lv_iload_n hx hb dX8_append_34 rfl (lv_at hl 2 rfl) ?_
  refine lv_iload_n hx hb dX8_append_35 rfl (lv_at hl 0 rfl) ?_
  refine lv_ishr hx hb dX8_append_36 ?_
  refine lv_i2b (v := ((nI (wd4 b0 b1 b2 b3)) >>> (24 &&& 31)).toInt8.toInt32) hx hb dX8_append_37 rfl ?_
  refine h_bast X Y (i := n) ht2 (by omega) (by decide) dX8_append_38 (fun H locs Y => ?_)
  rw [show vp_nar .byte (((nI (wd4 b0 b1 b2 b3)) >>> (24 &&& 31)).toInt8.toInt32) = nI b0 from wd4_s (s := 24) h0 h1 h2 h3 (by decide) (wd4_0 h0 h1 h2 h3) h0] at Y
  have ht1 := hup_tag (x := (2, .inl (hT G 1, 2000, .inl (upd f n (nI b0))))) ht1 ht2 (by omega)
  have hfr := hfr.put (x := (2, .inl (hT G 1, 2000, .inl (upd f n (nI b0))))) ht2 (Or.inr rfl)
  have ht2 : hup M r (2, .inl (hT G 1, 2000, .inl (upd f n (nI b0)))) r = some (2, .inl (hT G 1, 2000, .inl (upd f n (nI b0)))) := hup_eq
  generalize hup M r (2, .inl (hT G 1, 2000, .inl (upd f n (nI b0)))) = Mz1 at Y ht2 ht1 hfr
  refine lv_aload_n hx hb dX8_append_39 rfl (lv_at hl 1 rfl) ?_
  refine lv_dup hx hb dX8_append_40 rfl ?_
  refine h_get X Y (k := 1) (v := .int (nI n)) ht1 rfl hin_X8 (by decide) kfl_X8_15 rfl dX8_append_41 ?_
  refine lv_iconst (v := 1) hx hb dX8_append_44 (by decide) ?_
  refine lv_iadd hx hb dX8_append_45 ?_
  refine h_ev (y := nI (n + 1)) (nI_1 n) ?_
  refine h_put X Y (k := 1) (v := .int (nI (n + 1))) ht1 rfl hin_X8 tyX8_ok nmX8 (by decide) kfl_X8_15 rfl rfl rfl (Nat.le_of_ble_eq_true rfl) dX8_append_46 (fun H locs Y => ?_)
  have Y : hHS G (hup Mz1 a (1, .inr (9, [.ref r, .int (nI (n + 1))]))) s H locs := Y
  have ht2 := hup_tag (x := (1, .inr (9, [.ref r, .int (nI (n + 1))]))) ht2 ht1 (by omega)
  have hfr := hfr.put (x := (1, .inr (9, [.ref r, .int (nI (n + 1))]))) ht1 (Or.inl rfl)
  have ht1 : hup Mz1 a (1, .inr (9, [.ref r, .int (nI (n + 1))])) a = some (1, .inr (9, [.ref r, .int (nI (n + 1))])) := hup_eq
  generalize hup Mz1 a (1, .inr (9, [.ref r, .int (nI (n + 1))])) = Mz2 at Y ht1 ht2 hfr
  refine lv_iinc (v := nI 16) (lv' := [(2, .int (nI 16)), (0, .ref a), (1, .int (nI (wd4 b0 b1 b2 b3)))]) hx hb dX8_append_49 hl (k := 0) rfl (by decide) (by decide) rfl (fun ls hl => ?_)
  refine lv_goto (tgt := 3) hx hb dX8_append_52 (by decide) ?_
  refine lv_iload_n hx hb dX8_append_3 rfl (lv_at hl 0 rfl) ?_
  refine lv_if_lt (tgt := 55) hx hb dX8_append_4 (by decide) (fun c4 => absurd c4 (by decide)) (fun c4 => ?_)
  refine lv_aload_n hx hb dX8_append_7 rfl (lv_at hl 1 rfl) ?_
  refine h_get X Y (k := 1) (v := .int (nI (n + 1))) ht1 rfl hin_X8 (by decide) kfl_X8_15 rfl dX8_append_8 ?_
  refine lv_if_lt (tgt := 49) hx hb dX8_append_11 (by decide) (fun c11 => absurd (show (n + 1) < 0 from (nI_ltI (a := (n + 1)) (b := 0) (by omega) (by omega)).mp c11) (by omega)) (fun c11 => ?_)
  have c11 : ¬ (n + 1) < 0 := fun z9 => c11 ((nI_ltI (a := (n + 1)) (b := 0) (by omega) (by omega)).mpr z9)
  refine lv_aload_n hx hb dX8_append_14 rfl (lv_at hl 1 rfl) ?_
  refine h_get X Y (k := 1) (v := .int (nI (n + 1))) ht1 rfl hin_X8 (by decide) kfl_X8_15 rfl dX8_append_15 ?_
  refine lv_aload_n hx hb dX8_append_18 rfl (lv_at hl 1 rfl) ?_
  refine h_get X Y (k := 0) (v := .ref r) ht1 rfl hin_X8 (by decide) kfl_X8_9 rfl dX8_append_19 ?_
  refine h_alen X Y 1 ht2 rfl dX8_append_22 ?_
  refine lv_icmp_ge (tgt := 49) hx hb dX8_append_23 (by decide) (fun c23 => absurd (show 2000 ≤ (n + 1) from (nI_leI (a := 2000) (b := (n + 1)) (by omega) (by omega)).mp c23) (by omega)) (fun c23 => ?_)
  have c23 : ¬ 2000 ≤ (n + 1) := fun z9 => c23 ((nI_leI (a := 2000) (b := (n + 1)) (by omega) (by omega)).mpr z9)
  refine lv_aload_n hx hb dX8_append_26 rfl (lv_at hl 1 rfl) ?_
  refine h_get X Y (k := 0) (v := .ref r) ht1 rfl hin_X8 (by decide) kfl_X8_9 rfl dX8_append_27 ?_
  refine lv_aload_n hx hb dX8_append_30 rfl (lv_at hl 1 rfl) ?_
  refine h_get X Y (k := 1) (v := .int (nI (n + 1))) ht1 rfl hin_X8 (by decide) kfl_X8_15 rfl dX8_append_31 ?_
  refine lv_iload_n hx hb dX8_append_34 rfl (lv_at hl 2 rfl) ?_
  refine lv_iload_n hx hb dX8_append_35 rfl (lv_at hl 0 rfl) ?_
  refine lv_ishr hx hb dX8_append_36 ?_
  refine lv_i2b (v := ((nI (wd4 b0 b1 b2 b3)) >>> (nI 16 &&& 31)).toInt8.toInt32) hx hb dX8_append_37 rfl ?_
  refine h_bast X Y (i := (n + 1)) ht2 (by omega) (by decide) dX8_append_38 (fun H locs Y => ?_)
  rw [show vp_nar .byte (((nI (wd4 b0 b1 b2 b3)) >>> (nI 16 &&& 31)).toInt8.toInt32) = nI b1 from wd4_s (s := 16) h0 h1 h2 h3 (by decide) (wd4_1 h0 h1 h2 h3) h1] at Y
  have ht1 := hup_tag (x := (2, .inl (hT G 1, 2000, .inl (upd (upd f n (nI b0)) (n + 1) (nI b1))))) ht1 ht2 (by omega)
  have hfr := hfr.put (x := (2, .inl (hT G 1, 2000, .inl (upd (upd f n (nI b0)) (n + 1) (nI b1))))) ht2 (Or.inr rfl)
  have ht2 : hup Mz2 r (2, .inl (hT G 1, 2000, .inl (upd (upd f n (nI b0)) (n + 1) (nI b1)))) r = some (2, .inl (hT G 1, 2000, .inl (upd (upd f n (nI b0)) (n + 1) (nI b1)))) := hup_eq
  generalize hup Mz2 r (2, .inl (hT G 1, 2000, .inl (upd (upd f n (nI b0)) (n + 1) (nI b1)))) = Mz3 at Y ht2 ht1 hfr
  refine lv_aload_n hx hb dX8_append_39 rfl (lv_at hl 1 rfl) ?_
  refine lv_dup hx hb dX8_append_40 rfl ?_
  refine h_get X Y (k := 1) (v := .int (nI (n + 1))) ht1 rfl hin_X8 (by decide) kfl_X8_15 rfl dX8_append_41 ?_
  refine lv_iconst (v := 1) hx hb dX8_append_44 (by decide) ?_
  refine lv_iadd hx hb dX8_append_45 ?_
  refine h_ev (y := nI ((n + 1) + 1)) (nI_1 (n + 1)) ?_
  refine h_put X Y (k := 1) (v := .int (nI ((n + 1) + 1))) ht1 rfl hin_X8 tyX8_ok nmX8 (by decide) kfl_X8_15 rfl rfl rfl (Nat.le_of_ble_eq_true rfl) dX8_append_46 (fun H locs Y => ?_)
  have Y : hHS G (hup Mz3 a (1, .inr (9, [.ref r, .int (nI ((n + 1) + 1))]))) s H locs := Y
  have ht2 := hup_tag (x := (1, .inr (9, [.ref r, .int (nI ((n + 1) + 1))]))) ht2 ht1 (by omega)
  have hfr := hfr.put (x := (1, .inr (9, [.ref r, .int (nI ((n + 1) + 1))]))) ht1 (Or.inl rfl)
  have ht1 : hup Mz3 a (1, .inr (9, [.ref r, .int (nI ((n + 1) + 1))])) a = some (1, .inr (9, [.ref r, .int (nI ((n + 1) + 1))])) := hup_eq
  generalize hup Mz3 a (1, .inr (9, [.ref r, .int (nI ((n + 1) + 1))])) = Mz4 at Y ht1 ht2 hfr
  refine lv_iinc (v := nI 8) (lv' := [(2, .int (nI 8)), (0, .ref a), (1, .int (nI (wd4 b0 b1 b2 b3)))]) hx hb dX8_append_49 hl (k := 0) rfl (by decide) (by decide) rfl (fun ls hl => ?_)
  refine lv_goto (tgt := 3) hx hb dX8_append_52 (by decide) ?_
  refine lv_iload_n hx hb dX8_append_3 rfl (lv_at hl 0 rfl) ?_
  refine lv_if_lt (tgt := 55) hx hb dX8_append_4 (by decide) (fun c4 => absurd c4 (by decide)) (fun c4 => ?_)
  refine lv_aload_n hx hb dX8_append_7 rfl (lv_at hl 1 rfl) ?_
  refine h_get X Y (k := 1) (v := .int (nI ((n + 1) + 1))) ht1 rfl hin_X8 (by decide) kfl_X8_15 rfl dX8_append_8 ?_
  refine lv_if_lt (tgt := 49) hx hb dX8_append_11 (by decide) (fun c11 => absurd (show ((n + 1) + 1) < 0 from (nI_ltI (a := ((n + 1) + 1)) (b := 0) (by omega) (by omega)).mp c11) (by omega)) (fun c11 => ?_)
  have c11 : ¬ ((n + 1) + 1) < 0 := fun z9 => c11 ((nI_ltI (a := ((n + 1) + 1)) (b := 0) (by omega) (by omega)).mpr z9)
  refine lv_aload_n hx hb dX8_append_14 rfl (lv_at hl 1 rfl) ?_
  refine h_get X Y (k := 1) (v := .int (nI ((n + 1) + 1))) ht1 rfl hin_X8 (by decide) kfl_X8_15 rfl dX8_append_15 ?_
  refine lv_aload_n hx hb dX8_append_18 rfl (lv_at hl 1 rfl) ?_
  refine h_get X Y (k := 0) (v := .ref r) ht1 rfl hin_X8 (by decide) kfl_X8_9 rfl dX8_append_19 ?_
  refine h_alen X Y 1 ht2 rfl dX8_append_22 ?_
  refine lv_icmp_ge (tgt := 49) hx hb dX8_append_23 (by decide) (fun c23 => absurd (show 2000 ≤ ((n + 1) + 1) from (nI_leI (a := 2000) (b := ((n + 1) + 1)) (by omega) (by omega)).mp c23) (by omega)) (fun c23 => ?_)
  have c23 : ¬ 2000 ≤ ((n + 1) + 1) := fun z9 => c23 ((nI_leI (a := 2000) (b := ((n + 1) + 1)) (by omega) (by omega)).mpr z9)
  refine lv_aload_n hx hb dX8_append_26 rfl (lv_at hl 1 rfl) ?_
  refine h_get X Y (k := 0) (v := .ref r) ht1 rfl hin_X8 (by decide) kfl_X8_9 rfl dX8_append_27 ?_
  refine lv_aload_n hx hb dX8_append_30 rfl (lv_at hl 1 rfl) ?_
  refine h_get X Y (k := 1) (v := .int (nI ((n + 1) + 1))) ht1 rfl hin_X8 (by decide) kfl_X8_15 rfl dX8_append_31 ?_
  refine lv_iload_n hx hb dX8_append_34 rfl (lv_at hl 2 rfl) ?_
  refine lv_iload_n hx hb dX8_append_35 rfl (lv_at hl 0 rfl) ?_
  refine lv_ishr hx hb dX8_append_36 ?_
  refine lv_i2b (v := ((nI (wd4 b0 b1 b2 b3)) >>> (nI 8 &&& 31)).toInt8.toInt32) hx hb dX8_append_37 rfl ?_
  refine h_bast X Y (i := ((n + 1) + 1)) ht2 (by omega) (by decide) dX8_append_38 (fun H locs Y => ?_)
  rw [show vp_nar .byte (((nI (wd4 b0 b1 b2 b3)) >>> (nI 8 &&& 31)).toInt8.toInt32) = nI b2 from wd4_s (s := 8) h0 h1 h2 h3 (by decide) (wd4_2 h0 h1 h2 h3) h2] at Y
  have ht1 := hup_tag (x := (2, .inl (hT G 1, 2000, .inl (upd (upd (upd f n (nI b0)) (n + 1) (nI b1)) ((n + 1) + 1) (nI b2))))) ht1 ht2 (by omega)
  have hfr := hfr.put (x := (2, .inl (hT G 1, 2000, .inl (upd (upd (upd f n (nI b0)) (n + 1) (nI b1)) ((n + 1) + 1) (nI b2))))) ht2 (Or.inr rfl)
  have ht2 : hup Mz4 r (2, .inl (hT G 1, 2000, .inl (upd (upd (upd f n (nI b0)) (n + 1) (nI b1)) ((n + 1) + 1) (nI b2)))) r = some (2, .inl (hT G 1, 2000, .inl (upd (upd (upd f n (nI b0)) (n + 1) (nI b1)) ((n + 1) + 1) (nI b2)))) := hup_eq
  generalize hup Mz4 r (2, .inl (hT G 1, 2000, .inl (upd (upd (upd f n (nI b0)) (n + 1) (nI b1)) ((n + 1) + 1) (nI b2)))) = Mz5 at Y ht2 ht1 hfr
  refine lv_aload_n hx hb dX8_append_39 rfl (lv_at hl 1 rfl) ?_
  refine lv_dup hx hb dX8_append_40 rfl ?_
  refine h_get X Y (k := 1) (v := .int (nI ((n + 1) + 1))) ht1 rfl hin_X8 (by decide) kfl_X8_15 rfl dX8_append_41 ?_
  refine lv_iconst (v := 1) hx hb dX8_append_44 (by decide) ?_
  refine lv_iadd hx hb dX8_append_45 ?_
  refine h_ev (y := nI (((n + 1) + 1) + 1)) (nI_1 ((n + 1) + 1)) ?_
  refine h_put X Y (k := 1) (v := .int (nI (((n + 1) + 1) + 1))) ht1 rfl hin_X8 tyX8_ok nmX8 (by decide) kfl_X8_15 rfl rfl rfl (Nat.le_of_ble_eq_true rfl) dX8_append_46 (fun H locs Y => ?_)
  have Y : hHS G (hup Mz5 a (1, .inr (9, [.ref r, .int (nI (((n + 1) + 1) + 1))]))) s H locs := Y
  have ht2 := hup_tag (x := (1, .inr (9, [.ref r, .int (nI (((n + 1) + 1) + 1))]))) ht2 ht1 (by omega)
  have hfr := hfr.put (x := (1, .inr (9, [.ref r, .int (nI (((n + 1) + 1) + 1))]))) ht1 (Or.inl rfl)
  have ht1 : hup Mz5 a (1, .inr (9, [.ref r, .int (nI (((n + 1) + 1) + 1))])) a = some (1, .inr (9, [.ref r, .int (nI (((n + 1) + 1) + 1))])) := hup_eq
  generalize hup Mz5 a (1, .inr (9, [.ref r, .int (nI (((n + 1) + 1) + 1))])) = Mz6 at Y ht1 ht2 hfr
  refine lv_iinc (v := nI 0) (lv' := [(2, .int (nI 0)), (0, .ref a), (1, .int (nI (wd4 b0 b1 b2 b3)))]) hx hb dX8_append_49 hl (k := 0) rfl (by decide) (by decide) rfl (fun ls hl => ?_)
  refine lv_goto (tgt := 3) hx hb dX8_append_52 (by decide) ?_
  refine lv_iload_n hx hb dX8_append_3 rfl (lv_at hl 0 rfl) ?_
  refine lv_if_lt (tgt := 55) hx hb dX8_append_4 (by decide) (fun c4 => absurd c4 (by decide)) (fun c4 => ?_)
  refine lv_aload_n hx hb dX8_append_7 rfl (lv_at hl 1 rfl) ?_
  refine h_get X Y (k := 1) (v := .int (nI (((n + 1) + 1) + 1))) ht1 rfl hin_X8 (by decide) kfl_X8_15 rfl dX8_append_8 ?_
  refine lv_if_lt (tgt := 49) hx hb dX8_append_11 (by decide) (fun c11 => absurd (show (((n + 1) + 1) + 1) < 0 from (nI_ltI (a := (((n + 1) + 1) + 1)) (b := 0) (by omega) (by omega)).mp c11) (by omega)) (fun c11 => ?_)
  have c11 : ¬ (((n + 1) + 1) + 1) < 0 := fun z9 => c11 ((nI_ltI (a := (((n + 1) + 1) + 1)) (b := 0) (by omega) (by omega)).mpr z9)
  refine lv_aload_n hx hb dX8_append_14 rfl (lv_at hl 1 rfl) ?_
  refine h_get X Y (k := 1) (v := .int (nI (((n + 1) + 1) + 1))) ht1 rfl hin_X8 (by decide) kfl_X8_15 rfl dX8_append_15 ?_
  refine lv_aload_n hx hb dX8_append_18 rfl (lv_at hl 1 rfl) ?_
  refine h_get X Y (k := 0) (v := .ref r) ht1 rfl hin_X8 (by decide) kfl_X8_9 rfl dX8_append_19 ?_
  refine h_alen X Y 1 ht2 rfl dX8_append_22 ?_
  refine lv_icmp_ge (tgt := 49) hx hb dX8_append_23 (by decide) (fun c23 => absurd (show 2000 ≤ (((n + 1) + 1) + 1) from (nI_leI (a := 2000) (b := (((n + 1) + 1) + 1)) (by omega) (by omega)).mp c23) (by omega)) (fun c23 => ?_)
  have c23 : ¬ 2000 ≤ (((n + 1) + 1) + 1) := fun z9 => c23 ((nI_leI (a := 2000) (b := (((n + 1) + 1) + 1)) (by omega) (by omega)).mpr z9)
  refine lv_aload_n hx hb dX8_append_26 rfl (lv_at hl 1 rfl) ?_
  refine h_get X Y (k := 0) (v := .ref r) ht1 rfl hin_X8 (by decide) kfl_X8_9 rfl dX8_append_27 ?_
  refine lv_aload_n hx hb dX8_append_30 rfl (lv_at hl 1 rfl) ?_
  refine h_get X Y (k := 1) (v := .int (nI (((n + 1) + 1) + 1))) ht1 rfl hin_X8 (by decide) kfl_X8_15 rfl dX8_append_31 ?_
  refine lv_iload_n hx hb dX8_append_34 rfl (lv_at hl 2 rfl) ?_
  refine lv_iload_n hx hb dX8_append_35 rfl (lv_at hl 0 rfl) ?_
  refine lv_ishr hx hb dX8_append_36 ?_
  refine lv_i2b (v := ((nI (wd4 b0 b1 b2 b3)) >>> (nI 0 &&& 31)).toInt8.toInt32) hx hb dX8_append_37 rfl ?_
  refine h_bast X Y (i := (((n + 1) + 1) + 1)) ht2 (by omega) (by decide) dX8_append_38 (fun H locs Y => ?_)
  rw [show vp_nar .byte (((nI (wd4 b0 b1 b2 b3)) >>> (nI 0 &&& 31)).toInt8.toInt32) = nI b3 from wd4_s (s := 0) h0 h1 h2 h3 (by decide) (wd4_3 h0 h1 h2 h3) h3] at Y
  have ht1 := hup_tag (x := (2, .inl (hT G 1, 2000, .inl (upd (upd (upd (upd f n (nI b0)) (n + 1) (nI b1)) ((n + 1) + 1) (nI b2)) (((n + 1) + 1) + 1) (nI b3))))) ht1 ht2 (by omega)
  have hfr := hfr.put (x := (2, .inl (hT G 1, 2000, .inl (upd (upd (upd (upd f n (nI b0)) (n + 1) (nI b1)) ((n + 1) + 1) (nI b2)) (((n + 1) + 1) + 1) (nI b3))))) ht2 (Or.inr rfl)
  have ht2 : hup Mz6 r (2, .inl (hT G 1, 2000, .inl (upd (upd (upd (upd f n (nI b0)) (n + 1) (nI b1)) ((n + 1) + 1) (nI b2)) (((n + 1) + 1) + 1) (nI b3)))) r = some (2, .inl (hT G 1, 2000, .inl (upd (upd (upd (upd f n (nI b0)) (n + 1) (nI b1)) ((n + 1) + 1) (nI b2)) (((n + 1) + 1) + 1) (nI b3)))) := hup_eq
  generalize hup Mz6 r (2, .inl (hT G 1, 2000, .inl (upd (upd (upd (upd f n (nI b0)) (n + 1) (nI b1)) ((n + 1) + 1) (nI b2)) (((n + 1) + 1) + 1) (nI b3)))) = Mz7 at Y ht2 ht1 hfr
  refine lv_aload_n hx hb dX8_append_39 rfl (lv_at hl 1 rfl) ?_
  refine lv_dup hx hb dX8_append_40 rfl ?_
  refine h_get X Y (k := 1) (v := .int (nI (((n + 1) + 1) + 1))) ht1 rfl hin_X8 (by decide) kfl_X8_15 rfl dX8_append_41 ?_
  refine lv_iconst (v := 1) hx hb dX8_append_44 (by decide) ?_
  refine lv_iadd hx hb dX8_append_45 ?_
  refine h_ev (y := nI ((((n + 1) + 1) + 1) + 1)) (nI_1 (((n + 1) + 1) + 1)) ?_
  refine h_put X Y (k := 1) (v := .int (nI ((((n + 1) + 1) + 1) + 1))) ht1 rfl hin_X8 tyX8_ok nmX8 (by decide) kfl_X8_15 rfl rfl rfl (Nat.le_of_ble_eq_true rfl) dX8_append_46 (fun H locs Y => ?_)
  have Y : hHS G (hup Mz7 a (1, .inr (9, [.ref r, .int (nI ((((n + 1) + 1) + 1) + 1))]))) s H locs := Y
  have ht2 := hup_tag (x := (1, .inr (9, [.ref r, .int (nI ((((n + 1) + 1) + 1) + 1))]))) ht2 ht1 (by omega)
  have hfr := hfr.put (x := (1, .inr (9, [.ref r, .int (nI ((((n + 1) + 1) + 1) + 1))]))) ht1 (Or.inl rfl)
  have ht1 : hup Mz7 a (1, .inr (9, [.ref r, .int (nI ((((n + 1) + 1) + 1) + 1))])) a = some (1, .inr (9, [.ref r, .int (nI ((((n + 1) + 1) + 1) + 1))])) := hup_eq
  generalize hup Mz7 a (1, .inr (9, [.ref r, .int (nI ((((n + 1) + 1) + 1) + 1))])) = Mz8 at Y ht1 ht2 hfr
  refine lv_iinc (v := (-8)) (lv' := [(2, .int (-8)), (0, .ref a), (1, .int (nI (wd4 b0 b1 b2 b3)))]) hx hb dX8_append_49 hl (k := 0) rfl (by decide) (by decide) rfl (fun ls hl => ?_)
  refine lv_goto (tgt := 3) hx hb dX8_append_52 (by decide) ?_
  refine lv_iload_n hx hb dX8_append_3 rfl (lv_at hl 0 rfl) ?_
  refine lv_if_lt (tgt := 55) hx hb dX8_append_4 (by decide) (fun c4 => ?_) (fun c4 => absurd (by decide) c4)
  exact h_vret X Y ⟨rfl, ht1, ht2, hfr⟩ (Nat.le_of_ble_eq_true rfl) (Nat.le_of_ble_eq_true rfl) dX8_append_55
/-- twenty bytes more -/
def up20 (f : Nat → Int32) (n : Nat) (b : Nat → Nat) : Nat → Int32 := up4 (up4 (up4 (up4 (up4 f n (b 0) (b 1) (b 2) (b 3)) (n + 4) (b 4) (b 5) (b 6) (b 7)) (n + 8) (b 8) (b 9) (b 10) (b 11)) (n + 12) (b 12) (b 13) (b 14) (b 15)) (n + 16) (b 16) (b 17) (b 18) (b 19)
theorem up20_lo {f : Nat → Int32} {n j : Nat} {b : Nat → Nat} (h : j < n) : up20 f n b j = f j := by
  unfold up20
  rw [up4_lo (by omega), up4_lo (by omega), up4_lo (by omega), up4_lo (by omega), up4_lo (by omega)]
theorem up20_at {f : Nat → Int32} {n j : Nat} {b : Nat → Nat} (h : j < 20) : up20 f n b (n + j) = nI (b j) := by
  unfold up20
  rcases (show (j < 4) ∨ (4 ≤ j ∧ j < 8) ∨ (8 ≤ j ∧ j < 12) ∨ (12 ≤ j ∧ j < 16) ∨ (16 ≤ j ∧ j < 20) by omega) with q | q | q | q | q
  · rw [up4_lo (by omega), up4_lo (by omega), up4_lo (by omega), up4_lo (by omega)]
    rcases (show j = 0 ∨ j = 1 ∨ j = 2 ∨ j = 3 by omega) with rfl | rfl | rfl | rfl
    · exact up4_0
    · exact up4_1
    · exact up4_2
    · exact up4_3
  · rw [up4_lo (by omega), up4_lo (by omega), up4_lo (by omega)]
    rcases (show j = 4 ∨ j = 5 ∨ j = 6 ∨ j = 7 by omega) with rfl | rfl | rfl | rfl
    · exact up4_0
    · exact up4_1
    · exact up4_2
    · exact up4_3
  · rw [up4_lo (by omega), up4_lo (by omega)]
    rcases (show j = 8 ∨ j = 9 ∨ j = 10 ∨ j = 11 by omega) with rfl | rfl | rfl | rfl
    · exact up4_0
    · exact up4_1
    · exact up4_2
    · exact up4_3
  · rw [up4_lo (by omega)]
    rcases (show j = 12 ∨ j = 13 ∨ j = 14 ∨ j = 15 by omega) with rfl | rfl | rfl | rfl
    · exact up4_0
    · exact up4_1
    · exact up4_2
    · exact up4_3
  · rcases (show j = 16 ∨ j = 17 ∨ j = 18 ∨ j = 19 by omega) with rfl | rfl | rfl | rfl
    · exact up4_0
    · exact up4_1
    · exact up4_2
    · exact up4_3
theorem gw_X11_98 : GoodIn hGW (wsV RX11 98 RX8 yX8_append (Cond.code yX8_append cX8_append 3 (Option.none) :: hGW)) := hgi4 kml_X11_98 kin_X8_append kse_X8_X8_append_X8_append kini_X8 kco_X8_append
theorem dsc_X8_append : yX8_append.cls = RX8 ∧ yX8_append.cls ≠ "java/lang/invoke/MethodHandle" ∧ yX8_append.cls ≠ "java/lang/invoke/VarHandle" ∧ (parseMethodDescriptor yX8_append.desc).map (fun d => d.parameters.length) = some 1 := ⟨rfl, by decide +kernel, by decide +kernel, by decide +kernel⟩
theorem dX11_feed_0 : decode cX11_feed 0 = .ok (.aload_n 0, 1) := by decide +kernel
theorem dX11_feed_1 : decode cX11_feed 1 = .ok (.getfield 10, 3) := by decide +kernel
theorem dX11_feed_4 : decode cX11_feed 4 = .ok (.getfield 88, 3) := by decide +kernel
theorem dX11_feed_7 : decode cX11_feed 7 = .ok (.sipush 1980, 3) := by decide +kernel
theorem dX11_feed_10 : decode cX11_feed 10 = .ok (.if_icmp .le 13, 3) := by decide +kernel
theorem dX11_feed_23 : decode cX11_feed 23 = .ok (.aload_n 0, 1) := by decide +kernel
theorem dX11_feed_24 : decode cX11_feed 24 = .ok (.getfield 10, 3) := by decide +kernel
theorem dX11_feed_27 : decode cX11_feed 27 = .ok (.iload_n 1, 1) := by decide +kernel
theorem dX11_feed_28 : decode cX11_feed 28 = .ok (.invokevirtual 98, 3) := by decide +kernel
theorem dX11_feed_31 : decode cX11_feed 31 = .ok (.aload_n 0, 1) := by decide +kernel
theorem dX11_feed_32 : decode cX11_feed 32 = .ok (.getfield 10, 3) := by decide +kernel
theorem dX11_feed_35 : decode cX11_feed 35 = .ok (.iload_n 2, 1) := by decide +kernel
theorem dX11_feed_36 : decode cX11_feed 36 = .ok (.invokevirtual 98, 3) := by decide +kernel
theorem dX11_feed_39 : decode cX11_feed 39 = .ok (.aload_n 0, 1) := by decide +kernel
theorem dX11_feed_40 : decode cX11_feed 40 = .ok (.getfield 10, 3) := by decide +kernel
theorem dX11_feed_43 : decode cX11_feed 43 = .ok (.iload_n 3, 1) := by decide +kernel
theorem dX11_feed_44 : decode cX11_feed 44 = .ok (.invokevirtual 98, 3) := by decide +kernel
theorem dX11_feed_47 : decode cX11_feed 47 = .ok (.aload_n 0, 1) := by decide +kernel
theorem dX11_feed_48 : decode cX11_feed 48 = .ok (.getfield 10, 3) := by decide +kernel
theorem dX11_feed_51 : decode cX11_feed 51 = .ok (.iload 4, 2) := by decide +kernel
theorem dX11_feed_53 : decode cX11_feed 53 = .ok (.invokevirtual 98, 3) := by decide +kernel
theorem dX11_feed_56 : decode cX11_feed 56 = .ok (.aload_n 0, 1) := by decide +kernel
theorem dX11_feed_57 : decode cX11_feed 57 = .ok (.getfield 10, 3) := by decide +kernel
theorem dX11_feed_60 : decode cX11_feed 60 = .ok (.iload 5, 2) := by decide +kernel
theorem dX11_feed_62 : decode cX11_feed 62 = .ok (.invokevirtual 98, 3) := by decide +kernel
theorem dX11_feed_65 : decode cX11_feed 65 = .ok (.aload_n 0, 1) := by decide +kernel
theorem dX11_feed_66 : decode cX11_feed 66 = .ok (.getfield 10, 3) := by decide +kernel
theorem dX11_feed_69 : decode cX11_feed 69 = .ok (.getfield 88, 3) := by decide +kernel
theorem dX11_feed_72 : decode cX11_feed 72 = .ok (.ireturn, 1) := by decide +kernel
set_option maxHeartbeats 400000 in
set_option maxRecDepth 100000 in
theorem c_feed (l : Launch) (G : hG) (M : hM) (a r n : Nat) (f : Nat → Int32) (hn : n + 20 ≤ 2000) (ht1 : M a = some (1, .inr (9, [.ref r, .int (nI n)]))) (ht2 : M r = some (2, .inl (hT G 1, 2000, .inl f))) (q0 : Nat) (z1 z2 z3 z4 z5 z6 z7 z8 z9 z10 z11 : Nat) (y0 y1 y2 : Int32) (ho0 : M q0 = some (0, .inr (12, [.ref a, .ref z1, .ref z2, .ref z3, .ref z4, .ref z5, .ref z6, .ref z7, .ref z8, .ref z9, .ref z10, .ref z11, .int y0, .int y1, .int y2]))) (b : Nat → Nat) (hb8 : ∀ j, j < 20 → b j < 128) : hCT l G yX11_feed cX11_feed 6 (Option.some FieldType.int) (hRm 2 0 0) M [.ref q0, .int (nI (wd4 (b 0) (b 1) (b 2) (b 3))), .int (nI (wd4 (b 4) (b 5) (b 6) (b 7))), .int (nI (wd4 (b 8) (b 9) (b 10) (b 11))), .int (nI (wd4 (b 12) (b 13) (b 14) (b 15))), .int (nI (wd4 (b 16) (b 17) (b 18) (b 19)))] (fun v M' => v = some (.int (nI (n + 20))) ∧ M' q0 = M q0 ∧ M' a = some (1, .inr (9, [.ref r, .int (nI (n + 20))])) ∧ M' r = some (2, .inl (hT G 1, 2000, .inl (up20 f n b))) ∧ hFr (fun u => u = 1 ∨ u = 2) M M') := by
  refine hCT.of (own := RX11) (nm := "feed") (by decide) rfl rfl (Nat.le_of_ble_eq_true rfl) ?_
  intro p e s m args below meth c ls X Y hl
  have hx := X.1
  have hb := X.2.1
  have hl : lv_has ls 6 [(0, .ref q0), (1, .int (nI (wd4 (b 0) (b 1) (b 2) (b 3)))), (2, .int (nI (wd4 (b 4) (b 5) (b 6) (b 7)))), (3, .int (nI (wd4 (b 8) (b 9) (b 10) (b 11)))), (4, .int (nI (wd4 (b 12) (b 13) (b 14) (b 15)))), (5, .int (nI (wd4 (b 16) (b 17) (b 18) (b 19))))] := hl
  have ho9 := ho0
  have hfr : hFr (fun u => u = 1 ∨ u = 2) M M := hFr.rf
  refine lv_aload_n hx hb dX11_feed_0 rfl (lv_at hl 0 rfl) ?_
  refine h_get X Y (k := 0) (v := .ref a) ho0 rfl hin_X11 (by decide) kfl_X11_10 rfl dX11_feed_1 ?_
  refine h_get X Y (k := 1) (v := .int (nI n)) ht1 rfl hin_X8 (by decide) kfl_X11_88 rfl dX11_feed_4 ?_
  refine lv_sipush (v := 1980) hx hb dX11_feed_7 (by decide) ?_
  refine lv_icmp_le (tgt := 23) hx hb dX11_feed_10 (by decide) (fun c10 => ?_) (fun c10 => absurd (show ¬ n ≤ 1980 from fun z9 => c10 ((nI_leI (a := n) (b := 1980) (by omega) (by omega)).mpr z9)) (by omega))
  have c10 : n ≤ 1980 := (nI_leI (a := n) (b := 1980) (by omega) (by omega)).mp c10
  refine lv_aload_n hx hb dX11_feed_23 rfl (lv_at hl 0 rfl) ?_
  refine h_get X Y (k := 0) (v := .ref a) ho0 rfl hin_X11 (by decide) kfl_X11_10 rfl dX11_feed_24 ?_
  refine lv_iload_n hx hb dX11_feed_27 rfl (lv_at hl 1 rfl) ?_
  refine h_callV (rest := []) X Y (c_append l G M a r (n) (f) (by omega) ht1 ht2 (b 0) (b 1) (b 2) (b 3) (hb8 0 (by omega)) (hb8 1 (by omega)) (hb8 2 (by omega)) (hb8 3 (by omega))) gw_X11_98 dsc_X8_append ht1 rfl rfl rfl hl.1 rfl (Nat.le_of_ble_eq_true rfl) ⟨Nat.le_of_ble_eq_true rfl, Nat.le_of_ble_eq_true rfl⟩ ⟨Nat.le_of_ble_eq_true rfl, Nat.le_of_ble_eq_true rfl⟩ dX11_feed_28 ?_
  rintro _ Mz1 H locs ⟨rfl, ht1, ht2, hfa⟩ Y
  try dsimp only [Option.toList, List.nil_append]
  have ho0 := hfa _ _ _ ho0 (by omega)
  have hfr := hFr.tr hfr hfa
  refine lv_aload_n hx hb dX11_feed_31 rfl (lv_at hl 0 rfl) ?_
  refine h_get X Y (k := 0) (v := .ref a) ho0 rfl hin_X11 (by decide) kfl_X11_10 rfl dX11_feed_32 ?_
  refine lv_iload_n hx hb dX11_feed_35 rfl (lv_at hl 2 rfl) ?_
  refine h_callV (rest := []) X Y (c_append l G Mz1 a r (n + 4) (up4 (f) (n) (b 0) (b 1) (b 2) (b 3)) (by omega) ht1 ht2 (b 4) (b 5) (b 6) (b 7) (hb8 4 (by omega)) (hb8 5 (by omega)) (hb8 6 (by omega)) (hb8 7 (by omega))) gw_X11_98 dsc_X8_append ht1 rfl rfl rfl hl.1 rfl (Nat.le_of_ble_eq_true rfl) ⟨Nat.le_of_ble_eq_true rfl, Nat.le_of_ble_eq_true rfl⟩ ⟨Nat.le_of_ble_eq_true rfl, Nat.le_of_ble_eq_true rfl⟩ dX11_feed_36 ?_
  rintro _ Mz2 H locs ⟨rfl, ht1, ht2, hfa⟩ Y
  try dsimp only [Option.toList, List.nil_append]
  have ho0 := hfa _ _ _ ho0 (by omega)
  have hfr := hFr.tr hfr hfa
  refine lv_aload_n hx hb dX11_feed_39 rfl (lv_at hl 0 rfl) ?_
  refine h_get X Y (k := 0) (v := .ref a) ho0 rfl hin_X11 (by decide) kfl_X11_10 rfl dX11_feed_40 ?_
  refine lv_iload_n hx hb dX11_feed_43 rfl (lv_at hl 3 rfl) ?_
  refine h_callV (rest := []) X Y (c_append l G Mz2 a r (n + 8) (up4 (up4 (f) (n) (b 0) (b 1) (b 2) (b 3)) (n + 4) (b 4) (b 5) (b 6) (b 7)) (by omega) ht1 ht2 (b 8) (b 9) (b 10) (b 11) (hb8 8 (by omega)) (hb8 9 (by omega)) (hb8 10 (by omega)) (hb8 11 (by omega))) gw_X11_98 dsc_X8_append ht1 rfl rfl rfl hl.1 rfl (Nat.le_of_ble_eq_true rfl) ⟨Nat.le_of_ble_eq_true rfl, Nat.le_of_ble_eq_true rfl⟩ ⟨Nat.le_of_ble_eq_true rfl, Nat.le_of_ble_eq_true rfl⟩ dX11_feed_44 ?_
  rintro _ Mz3 H locs ⟨rfl, ht1, ht2, hfa⟩ Y
  try dsimp only [Option.toList, List.nil_append]
  have ho0 := hfa _ _ _ ho0 (by omega)
  have hfr := hFr.tr hfr hfa
  refine lv_aload_n hx hb dX11_feed_47 rfl (lv_at hl 0 rfl) ?_
  refine h_get X Y (k := 0) (v := .ref a) ho0 rfl hin_X11 (by decide) kfl_X11_10 rfl dX11_feed_48 ?_
  refine lv_iload hx hb dX11_feed_51 (lv_at hl 4 rfl) ?_
  refine h_callV (rest := []) X Y (c_append l G Mz3 a r (n + 12) (up4 (up4 (up4 (f) (n) (b 0) (b 1) (b 2) (b 3)) (n + 4) (b 4) (b 5) (b 6) (b 7)) (n + 8) (b 8) (b 9) (b 10) (b 11)) (by omega) ht1 ht2 (b 12) (b 13) (b 14) (b 15) (hb8 12 (by omega)) (hb8 13 (by omega)) (hb8 14 (by omega)) (hb8 15 (by omega))) gw_X11_98 dsc_X8_append ht1 rfl rfl rfl hl.1 rfl (Nat.le_of_ble_eq_true rfl) ⟨Nat.le_of_ble_eq_true rfl, Nat.le_of_ble_eq_true rfl⟩ ⟨Nat.le_of_ble_eq_true rfl, Nat.le_of_ble_eq_true rfl⟩ dX11_feed_53 ?_
  rintro _ Mz4 H locs ⟨rfl, ht1, ht2, hfa⟩ Y
  try dsimp only [Option.toList, List.nil_append]
  have ho0 := hfa _ _ _ ho0 (by omega)
  have hfr := hFr.tr hfr hfa
  refine lv_aload_n hx hb dX11_feed_56 rfl (lv_at hl 0 rfl) ?_
  refine h_get X Y (k := 0) (v := .ref a) ho0 rfl hin_X11 (by decide) kfl_X11_10 rfl dX11_feed_57 ?_
  refine lv_iload hx hb dX11_feed_60 (lv_at hl 5 rfl) ?_
  refine h_callV (rest := []) X Y (c_append l G Mz4 a r (n + 16) (up4 (up4 (up4 (up4 (f) (n) (b 0) (b 1) (b 2) (b 3)) (n + 4) (b 4) (b 5) (b 6) (b 7)) (n + 8) (b 8) (b 9) (b 10) (b 11)) (n + 12) (b 12) (b 13) (b 14) (b 15)) (by omega) ht1 ht2 (b 16) (b 17) (b 18) (b 19) (hb8 16 (by omega)) (hb8 17 (by omega)) (hb8 18 (by omega)) (hb8 19 (by omega))) gw_X11_98 dsc_X8_append ht1 rfl rfl rfl hl.1 rfl (Nat.le_of_ble_eq_true rfl) ⟨Nat.le_of_ble_eq_true rfl, Nat.le_of_ble_eq_true rfl⟩ ⟨Nat.le_of_ble_eq_true rfl, Nat.le_of_ble_eq_true rfl⟩ dX11_feed_62 ?_
  rintro _ Mz5 H locs ⟨rfl, ht1, ht2, hfa⟩ Y
  try dsimp only [Option.toList, List.nil_append]
  have ho0 := hfa _ _ _ ho0 (by omega)
  have hfr := hFr.tr hfr hfa
  refine lv_aload_n hx hb dX11_feed_65 rfl (lv_at hl 0 rfl) ?_
  refine h_get X Y (k := 0) (v := .ref a) ho0 rfl hin_X11 (by decide) kfl_X11_10 rfl dX11_feed_66 ?_
  refine h_get X Y (k := 1) (v := .int (nI (n + 20))) ht1 rfl hin_X8 (by decide) kfl_X11_88 rfl dX11_feed_69 ?_
  exact h_iret X Y ⟨rfl, ho0.trans ho9.symm, ht1, ht2, hfr⟩ (Nat.le_of_ble_eq_true rfl) (Nat.le_of_ble_eq_true rfl) dX11_feed_72
theorem dX11_trim_0 : decode cX11_trim 0 = .ok (.iload_n 1, 1) := by decide +kernel
theorem dX11_trim_1 : decode cX11_trim 1 = .ok (.ifCond .lt 14, 3) := by decide +kernel
theorem dX11_trim_4 : decode cX11_trim 4 = .ok (.iload_n 1, 1) := by decide +kernel
theorem dX11_trim_5 : decode cX11_trim 5 = .ok (.aload_n 0, 1) := by decide +kernel
theorem dX11_trim_6 : decode cX11_trim 6 = .ok (.getfield 10, 3) := by decide +kernel
theorem dX11_trim_9 : decode cX11_trim 9 = .ok (.getfield 88, 3) := by decide +kernel
theorem dX11_trim_12 : decode cX11_trim 12 = .ok (.if_icmp .le 13, 3) := by decide +kernel
theorem dX11_trim_25 : decode cX11_trim 25 = .ok (.aload_n 0, 1) := by decide +kernel
theorem dX11_trim_26 : decode cX11_trim 26 = .ok (.getfield 10, 3) := by decide +kernel
theorem dX11_trim_29 : decode cX11_trim 29 = .ok (.iload_n 1, 1) := by decide +kernel
theorem dX11_trim_30 : decode cX11_trim 30 = .ok (.putfield 88, 3) := by decide +kernel
theorem dX11_trim_33 : decode cX11_trim 33 = .ok (.iload_n 1, 1) := by decide +kernel
theorem dX11_trim_34 : decode cX11_trim 34 = .ok (.ireturn, 1) := by decide +kernel
set_option maxHeartbeats 400000 in
set_option maxRecDepth 100000 in
theorem c_trim (l : Launch) (G : hG) (M : hM) (a r n k : Nat) (hk : k ≤ n) (hn : n ≤ 2000) (ht1 : M a = some (1, .inr (9, [.ref r, .int (nI n)]))) (q0 : Nat) (z1 z2 z3 z4 z5 z6 z7 z8 z9 z10 z11 : Nat) (y0 y1 y2 : Int32) (ho0 : M q0 = some (0, .inr (12, [.ref a, .ref z1, .ref z2, .ref z3, .ref z4, .ref z5, .ref z6, .ref z7, .ref z8, .ref z9, .ref z10, .ref z11, .int y0, .int y1, .int y2]))) : hCT l G yX11_trim cX11_trim 2 (Option.some FieldType.int) (hRm 1 0 0) M [.ref q0, .int (nI k)] (fun v M' => v = some (.int (nI k)) ∧ M' q0 = M q0 ∧ M' a = some (1, .inr (9, [.ref r, .int (nI k)])) ∧ hFr (fun u => u = 1) M M') := by
  refine hCT.of (own := RX11) (nm := "trim") (by decide) rfl rfl (Nat.le_of_ble_eq_true rfl) ?_
  intro p e s m args below meth c ls X Y hl
  have hx := X.1
  have hb := X.2.1
  have hl : lv_has ls 2 [(0, .ref q0), (1, .int (nI k))] := hl
  have ho9 := ho0
  have hfr : hFr (fun u => u = 1) M M := hFr.rf
  refine lv_iload_n hx hb dX11_trim_0 rfl (lv_at hl 1 rfl) ?_
  refine lv_if_lt (tgt := 15) hx hb dX11_trim_1 (by decide) (fun c1 => absurd (show k < 0 from (nI_ltI (a := k) (b := 0) (by omega) (by omega)).mp c1) (by omega)) (fun c1 => ?_)
  have c1 : ¬ k < 0 := fun z9 => c1 ((nI_ltI (a := k) (b := 0) (by omega) (by omega)).mpr z9)
  refine lv_iload_n hx hb dX11_trim_4 rfl (lv_at hl 1 rfl) ?_
  refine lv_aload_n hx hb dX11_trim_5 rfl (lv_at hl 0 rfl) ?_
  refine h_get X Y (k := 0) (v := .ref a) ho0 rfl hin_X11 (by decide) kfl_X11_10 rfl dX11_trim_6 ?_
  refine h_get X Y (k := 1) (v := .int (nI n)) ht1 rfl hin_X8 (by decide) kfl_X11_88 rfl dX11_trim_9 ?_
  refine lv_icmp_le (tgt := 25) hx hb dX11_trim_12 (by decide) (fun c12 => ?_) (fun c12 => absurd (show ¬ k ≤ n from fun z9 => c12 ((nI_leI (a := k) (b := n) (by omega) (by omega)).mpr z9)) (by omega))
  have c12 : k ≤ n := (nI_leI (a := k) (b := n) (by omega) (by omega)).mp c12
  refine lv_aload_n hx hb dX11_trim_25 rfl (lv_at hl 0 rfl) ?_
  refine h_get X Y (k := 0) (v := .ref a) ho0 rfl hin_X11 (by decide) kfl_X11_10 rfl dX11_trim_26 ?_
  refine lv_iload_n hx hb dX11_trim_29 rfl (lv_at hl 1 rfl) ?_
  refine h_put X Y (k := 1) (v := .int (nI k)) ht1 rfl hin_X8 tyX8_ok nmX8 (by decide) kfl_X11_88 rfl rfl rfl (Nat.le_of_ble_eq_true rfl) dX11_trim_30 (fun H locs Y => ?_)
  have Y : hHS G (hup M a (1, .inr (9, [.ref r, .int (nI k)]))) s H locs := Y
  have ho0 := hup_tag (x := (1, .inr (9, [.ref r, .int (nI k)]))) ho0 ht1 (by omega)
  have hfr := hfr.put (x := (1, .inr (9, [.ref r, .int (nI k)]))) ht1 rfl
  have ht1 : hup M a (1, .inr (9, [.ref r, .int (nI k)])) a = some (1, .inr (9, [.ref r, .int (nI k)])) := hup_eq
  generalize hup M a (1, .inr (9, [.ref r, .int (nI k)])) = Mz1 at Y ht1 ho0 hfr
  refine lv_iload_n hx hb dX11_trim_33 rfl (lv_at hl 1 rfl) ?_
  exact h_iret X Y ⟨rfl, ho0.trans ho9.symm, ht1, hfr⟩ (Nat.le_of_ble_eq_true rfl) (Nat.le_of_ble_eq_true rfl) dX11_trim_34
