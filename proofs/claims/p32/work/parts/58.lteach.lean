-- THE TEXT IS FED, TRIMMED AND TAUGHT
/-- the text's letters, blanks behind -/
def pdT (T : List Nat) (p : Nat) : Nat := if p < T.length then lsW T p else 32
def bw (T : List Nat) (i j : Nat) : Nat := pdT T (20 * i + j)
/-- a word's letters up to the c-th of twenty -/
def pwd (b : Nat → Nat) (w : Nat) : Nat → Nat
  | 0 => 0
  | c + 1 => if c / 4 = w then pwd b w c * 256 + b c else pwd b w c
theorem pwd_0 (b : Nat → Nat) : pwd b 0 20 = wd4 (b 0) (b 1) (b 2) (b 3) := by simp [pwd, wd4]; omega
theorem pwd_1 (b : Nat → Nat) : pwd b 1 20 = wd4 (b 4) (b 5) (b 6) (b 7) := by simp [pwd, wd4]; omega
theorem pwd_2 (b : Nat → Nat) : pwd b 2 20 = wd4 (b 8) (b 9) (b 10) (b 11) := by simp [pwd, wd4]; omega
theorem pwd_3 (b : Nat → Nat) : pwd b 3 20 = wd4 (b 12) (b 13) (b 14) (b 15) := by simp [pwd, wd4]; omega
theorem pwd_4 (b : Nat → Nat) : pwd b 4 20 = wd4 (b 16) (b 17) (b 18) (b 19) := by simp [pwd, wd4]; omega
theorem shl8or (x c : Nat) (hc : c < 256) : (nI x <<< ((8 : Int32) &&& 31)) ||| nI c = nI (x * 256 + c) := by
  apply Int32.toBitVec_inj.mp
  apply BitVec.eq_of_toNat_eq
  rw [Int32.toBitVec_or, BitVec.toNat_or, pk_shl (nI x) ((8 : Int32) &&& 31) 8 (by decide)]
  show (x % 2 ^ 32) * 2 ^ 8 % 2 ^ 32 ||| c % 2 ^ 32 = (x * 256 + c) % 2 ^ 32
  rw [show (x % 2 ^ 32) * 2 ^ 8 % 2 ^ 32 = (x % 2 ^ 24) <<< 8 by rw [Nat.shiftLeft_eq]; omega, show c % 2 ^ 32 = c by omega, ← Nat.shiftLeft_add_eq_or_of_lt (show c < 2 ^ 8 by omega), Nat.shiftLeft_eq]
  omega
theorem t_d4 {j : Nat} (h : j < 20) : nI j / 4 = nI (j / 4) := pk_div (a := j) (d := 4) (by omega) (by omega) (by omega)
set_option maxHeartbeats 400000 in
set_option maxRecDepth 100000 in
theorem c_isLatinM (l : Launch) (G : hG) (M : hM) (q0 L0 : Nat) (W0 : Nat → Nat) (hq : StM G M q0 L0 W0) : hCT l G yJ0_isLatin1_aae02 cJ0_isLatin1_aae02 1 (Option.some FieldType.boolean) (hRm 1 0 0) M [.ref q0] (hRd M (.int 1)) := by
  refine hCT.of (own := RJ0) (nm := "isLatin1") (by decide) rfl rfl (Nat.le_of_ble_eq_true rfl) ?_
  intro p e s m args below meth c ls X Y hl
  have hx := X.1
  have hb := X.2.1
  have hl : lv_has ls 1 [(0, .ref q0)] := hl
  obtain ⟨t, va, x3, x4, f, h0, h1, h2⟩ := hq
  refine h_gets X Y (hCS_Z X.2.2.2.2.2.2.2.2.1 X.2.2.2.2.2.2.2.2.2.1) kfl_J0_38 dJ0_isLatin1_aae02_0 ?_
  refine lv_if_eq (tgt := 17) hx hb dJ0_isLatin1_aae02_3 (by decide) (fun c3 => absurd c3 (by decide)) (fun c3 => ?_)
  refine lv_aload_n hx hb dJ0_isLatin1_aae02_6 rfl (lv_at hl 0 rfl) ?_
  refine h_get X Y (k := 1) (v := .int 0) h0 rfl hin_J0 (by decide) kfl_J0_15 rfl dJ0_isLatin1_aae02_7 ?_
  refine lv_if_ne (tgt := 17) hx hb dJ0_isLatin1_aae02_10 (by decide) (fun c10 => absurd (by decide) c10) (fun c10 => ?_)
  refine lv_iconst (v := 1) hx hb dJ0_isLatin1_aae02_13 (by decide) ?_
  refine lv_goto (tgt := 18) hx hb dJ0_isLatin1_aae02_14 (by decide) ?_
  exact h_zret X Y rfl ⟨rfl, rfl⟩ (Nat.le_refl _) (Nat.le_refl _) dJ0_isLatin1_aae02_18
set_option maxHeartbeats 400000 in
set_option maxRecDepth 100000 in
theorem c_l1AtM (l : Launch) (G : hG) (M : hM) (va t L0 i : Nat) (W0 : Nat → Nat) (f : Nat → Int32) (h1 : M va = some (t, .inl (hT G 1, L0, .inl f))) (hf : f i = nI (W0 i)) (hi : i < L0) (hL : L0 < 1000) (hW : W0 i < 128) : hCT l G yJ1_charAt_3b067 cJ1_charAt_3b067 2 (Option.some FieldType.char) (hRm 3 0 0) M [.ref va, .int (nI i)] (hRd M (.int (nI (W0 i)))) := by
  refine hCT.of (own := RJ1) (nm := "charAt") (by decide) rfl rfl (Nat.le_of_ble_eq_true rfl) ?_
  intro p e s m args below meth c ls X Y hl
  have hx := X.1
  have hb := X.2.1
  have hl : lv_has ls 2 [(0, .ref va), (1, .int (nI i))] := hl
  refine lv_iload_n hx hb dJ1_charAt_3b067_0 rfl (lv_at hl 1 rfl) ?_
  refine lv_aload_n hx hb dJ1_charAt_3b067_1 rfl (lv_at hl 0 rfl) ?_
  refine h_alen X Y 1 h1 rfl dJ1_charAt_3b067_2 ?_
  refine h_callS (rest := []) X Y (c_strIndex l G M i L0 hi (by omega)) gw_J1_9 dsc_J0_checkIndex_df160.2 rfl hl.1 rfl (Nat.le_of_ble_eq_true rfl) ⟨Nat.le_of_ble_eq_true rfl, Nat.le_of_ble_eq_true rfl⟩ ⟨Nat.le_of_ble_eq_true rfl, Nat.le_of_ble_eq_true rfl⟩ dJ1_charAt_3b067_3 ?_
  rintro _ M9 H locs ⟨rfl, hM9⟩ Y
  rw [hM9] at Y
  try dsimp only [Option.toList, List.nil_append]
  refine lv_aload_n hx hb dJ1_charAt_3b067_6 rfl (lv_at hl 0 rfl) ?_
  refine lv_iload_n hx hb dJ1_charAt_3b067_7 rfl (lv_at hl 1 rfl) ?_
  refine h_bald X Y (i := i) h1 (by omega) (by omega) dJ1_charAt_3b067_8 ?_
  refine h_ev (y := nI (W0 i)) hf ?_
  refine lv_sipush (v := 255) hx hb dJ1_charAt_3b067_9 (by decide) ?_
  refine lv_iand hx hb dJ1_charAt_3b067_12 ?_
  refine h_ev (y := nI (W0 i)) (t_and _ hW) ?_
  refine lv_i2c (v := ((nI (W0 i)).toUInt32 % 65536).toInt32) hx hb dJ1_charAt_3b067_13 rfl ?_
  refine h_ev (y := nI (W0 i)) (t_char _ hW) ?_
  exact h_zret X Y (t_nch _ hW) ⟨rfl, rfl⟩ (Nat.le_refl _) (Nat.le_refl _) dJ1_charAt_3b067_14
set_option maxHeartbeats 400000 in
set_option maxRecDepth 100000 in
theorem c_chAtM (l : Launch) (G : hG) (M : hM) (q0 L0 : Nat) (W0 : Nat → Nat) (hq : StM G M q0 L0 W0) (i : Nat) (hi : i < L0) (hL : L0 < 1000) : hCT l G yJ0_charAt_5068e cJ0_charAt_5068e 2 (Option.some FieldType.char) (hRm 4 0 0) M [.ref q0, .int (nI i)] (hRd M (.int (nI (W0 i)))) := by
  refine hCT.of (own := RJ0) (nm := "charAt") (by decide) rfl rfl (Nat.le_of_ble_eq_true rfl) ?_
  intro p e s m args below meth c ls X Y hl
  have hx := X.1
  have hb := X.2.1
  have hl : lv_has ls 2 [(0, .ref q0), (1, .int (nI i))] := hl
  have hqm := hq
  obtain ⟨t, va, x3, x4, f, h0, h1, h2⟩ := hq
  refine lv_aload_n hx hb dJ0_charAt_5068e_0 rfl (lv_at hl 0 rfl) ?_
  refine h_callVr (rest := []) X Y (c_isLatinM l G M q0 L0 W0 hqm) rfl rfl gw_J0_492 dsc_J0_isLatin1_aae02 h0 rfl rfl rfl rfl hl.1 (Nat.le_of_ble_eq_true rfl) ⟨Nat.le_of_ble_eq_true rfl, Nat.le_of_ble_eq_true rfl⟩ ⟨Nat.le_of_ble_eq_true rfl, Nat.le_of_ble_eq_true rfl⟩ dJ0_charAt_5068e_1 (fun H locs Y => ?_)
  refine lv_if_eq (tgt := 16) hx hb dJ0_charAt_5068e_4 (by decide) (fun c4 => absurd c4 (by decide)) (fun c4 => ?_)
  refine lv_aload_n hx hb dJ0_charAt_5068e_7 rfl (lv_at hl 0 rfl) ?_
  refine h_get X Y (k := 0) (v := .ref va) h0 rfl hin_J0 (by decide) kfl_J0_9 rfl dJ0_charAt_5068e_8 ?_
  refine lv_iload_n hx hb dJ0_charAt_5068e_11 rfl (lv_at hl 1 rfl) ?_
  refine h_callSr (rest := []) X Y (c_l1AtM l G M va _ L0 i W0 f h1 (h2 i hi).1 hi hL (h2 i hi).2) rfl rfl gw_J0_495 dsc_J1_charAt_3b067.2 rfl rfl hl.1 (Nat.le_of_ble_eq_true rfl) ⟨Nat.le_of_ble_eq_true rfl, Nat.le_of_ble_eq_true rfl⟩ ⟨Nat.le_of_ble_eq_true rfl, Nat.le_of_ble_eq_true rfl⟩ dJ0_charAt_5068e_12 (fun H locs Y => ?_)
  exact h_zret X Y (t_nch _ (h2 i hi).2) ⟨rfl, rfl⟩ (Nat.le_refl _) (Nat.le_refl _) dJ0_charAt_5068e_15
theorem gw_L_9 : GoodIn hGW (wsV RL 9 RJ0 yJ0_length_8abf5 (Cond.code yJ0_length_8abf5 cJ0_length_8abf5 1 (Option.some FieldType.int) :: hGW)) := hgi4 kml_L_9 kin_J0_length_8abf5 kse_J0_J0_length_8abf5_J0_length_8abf5 kini_J0 kco_J0_length_8abf5
theorem gw_L_25 : GoodIn hGW (wsV RL 25 RX11 yX11_trim (Cond.code yX11_trim cX11_trim 2 (Option.some FieldType.int) :: hGW)) := hgi4 kml_L_25 kin_X11_trim kse_X11_X11_trim_X11_trim kini_X11 kco_X11_trim
theorem dsc_X11_trim : yX11_trim.cls = RX11 ∧ yX11_trim.cls ≠ "java/lang/invoke/MethodHandle" ∧ yX11_trim.cls ≠ "java/lang/invoke/VarHandle" ∧ (parseMethodDescriptor yX11_trim.desc).map (fun d => d.parameters.length) = some 1 := ⟨rfl, by decide +kernel, by decide +kernel, by decide +kernel⟩
theorem gw_L_29 : GoodIn hGW (wsV RL 29 RX11 yX11_teach (Cond.code yX11_teach cX11_teach 4 (Option.some FieldType.int) :: hGW)) := hgi4 kml_L_29 kin_X11_teach kse_X11_X11_teach_X11_teach kini_X11 kco_X11_teach
theorem dsc_X11_teach : yX11_teach.cls = RX11 ∧ yX11_teach.cls ≠ "java/lang/invoke/MethodHandle" ∧ yX11_teach.cls ≠ "java/lang/invoke/VarHandle" ∧ (parseMethodDescriptor yX11_teach.desc).map (fun d => d.parameters.length) = some 0 := ⟨rfl, by decide +kernel, by decide +kernel, by decide +kernel⟩
theorem gw_L_19 : GoodIn hGW (wsV RL 19 RX11 yX11_feed (Cond.code yX11_feed cX11_feed 6 (Option.some FieldType.int) :: hGW)) := hgi4 kml_L_19 kin_X11_feed kse_X11_X11_feed_X11_feed kini_X11 kco_X11_feed
theorem dsc_X11_feed : yX11_feed.cls = RX11 ∧ yX11_feed.cls ≠ "java/lang/invoke/MethodHandle" ∧ yX11_feed.cls ≠ "java/lang/invoke/VarHandle" ∧ (parseMethodDescriptor yX11_feed.desc).map (fun d => d.parameters.length) = some 5 := ⟨rfl, by decide +kernel, by decide +kernel, by decide +kernel⟩
theorem gw_L_15 : GoodIn hGW (wsV RL 15 RJ0 yJ0_charAt_5068e (Cond.code yJ0_charAt_5068e cJ0_charAt_5068e 2 (Option.some FieldType.char) :: hGW)) := hgi4 kml_L_15 kin_J0_charAt_5068e kse_J0_J0_charAt_5068e_J0_charAt_5068e kini_J0 kco_J0_charAt_5068e
theorem dL_teach_0 : decode cL_teach 0 = .ok (.iconst 0, 1) := by decide +kernel
theorem dL_teach_1 : decode cL_teach 1 = .ok (.istore_n 2, 1) := by decide +kernel
theorem dL_teach_2 : decode cL_teach 2 = .ok (.iload_n 2, 1) := by decide +kernel
theorem dL_teach_3 : decode cL_teach 3 = .ok (.aload_n 1, 1) := by decide +kernel
theorem dL_teach_4 : decode cL_teach 4 = .ok (.invokevirtual 9, 3) := by decide +kernel
theorem dL_teach_7 : decode cL_teach 7 = .ok (.if_icmp .ge 89, 3) := by decide +kernel
theorem dL_teach_10 : decode cL_teach 10 = .ok (.iconst 5, 1) := by decide +kernel
theorem dL_teach_11 : decode cL_teach 11 = .ok (.newarray .int, 2) := by decide +kernel
theorem dL_teach_13 : decode cL_teach 13 = .ok (.astore_n 3, 1) := by decide +kernel
theorem dL_teach_14 : decode cL_teach 14 = .ok (.iconst 0, 1) := by decide +kernel
theorem dL_teach_15 : decode cL_teach 15 = .ok (.istore 4, 2) := by decide +kernel
theorem dL_teach_17 : decode cL_teach 17 = .ok (.iload 4, 2) := by decide +kernel
theorem dL_teach_19 : decode cL_teach 19 = .ok (.bipush 20, 2) := by decide +kernel
theorem dL_teach_21 : decode cL_teach 21 = .ok (.if_icmp .ge 49, 3) := by decide +kernel
theorem dL_teach_24 : decode cL_teach 24 = .ok (.aload_n 3, 1) := by decide +kernel
theorem dL_teach_25 : decode cL_teach 25 = .ok (.iload 4, 2) := by decide +kernel
theorem dL_teach_27 : decode cL_teach 27 = .ok (.iconst 4, 1) := by decide +kernel
theorem dL_teach_28 : decode cL_teach 28 = .ok (.idiv, 1) := by decide +kernel
theorem dL_teach_29 : decode cL_teach 29 = .ok (.aload_n 3, 1) := by decide +kernel
theorem dL_teach_30 : decode cL_teach 30 = .ok (.iload 4, 2) := by decide +kernel
theorem dL_teach_32 : decode cL_teach 32 = .ok (.iconst 4, 1) := by decide +kernel
theorem dL_teach_33 : decode cL_teach 33 = .ok (.idiv, 1) := by decide +kernel
theorem dL_teach_34 : decode cL_teach 34 = .ok (.iaload, 1) := by decide +kernel
theorem dL_teach_35 : decode cL_teach 35 = .ok (.bipush 8, 2) := by decide +kernel
theorem dL_teach_37 : decode cL_teach 37 = .ok (.ishl, 1) := by decide +kernel
theorem dL_teach_38 : decode cL_teach 38 = .ok (.iload_n 2, 1) := by decide +kernel
theorem dL_teach_39 : decode cL_teach 39 = .ok (.iload 4, 2) := by decide +kernel
theorem dL_teach_41 : decode cL_teach 41 = .ok (.iadd, 1) := by decide +kernel
theorem dL_teach_42 : decode cL_teach 42 = .ok (.aload_n 1, 1) := by decide +kernel
theorem dL_teach_43 : decode cL_teach 43 = .ok (.invokevirtual 9, 3) := by decide +kernel
theorem dL_teach_46 : decode cL_teach 46 = .ok (.if_icmp .ge 14, 3) := by decide +kernel
theorem dL_teach_49 : decode cL_teach 49 = .ok (.aload_n 1, 1) := by decide +kernel
theorem dL_teach_50 : decode cL_teach 50 = .ok (.iload_n 2, 1) := by decide +kernel
theorem dL_teach_51 : decode cL_teach 51 = .ok (.iload 4, 2) := by decide +kernel
theorem dL_teach_53 : decode cL_teach 53 = .ok (.iadd, 1) := by decide +kernel
theorem dL_teach_54 : decode cL_teach 54 = .ok (.invokevirtual 15, 3) := by decide +kernel
theorem dL_teach_57 : decode cL_teach 57 = .ok (.goto 5, 3) := by decide +kernel
theorem dL_teach_60 : decode cL_teach 60 = .ok (.bipush 32, 2) := by decide +kernel
theorem dL_teach_62 : decode cL_teach 62 = .ok (.ior, 1) := by decide +kernel
theorem dL_teach_63 : decode cL_teach 63 = .ok (.iastore, 1) := by decide +kernel
theorem dL_teach_64 : decode cL_teach 64 = .ok (.iinc 4 1, 3) := by decide +kernel
theorem dL_teach_67 : decode cL_teach 67 = .ok (.goto (-50), 3) := by decide +kernel
theorem dL_teach_70 : decode cL_teach 70 = .ok (.aload_n 0, 1) := by decide +kernel
theorem dL_teach_71 : decode cL_teach 71 = .ok (.aload_n 3, 1) := by decide +kernel
theorem dL_teach_72 : decode cL_teach 72 = .ok (.iconst 0, 1) := by decide +kernel
theorem dL_teach_73 : decode cL_teach 73 = .ok (.iaload, 1) := by decide +kernel
theorem dL_teach_74 : decode cL_teach 74 = .ok (.aload_n 3, 1) := by decide +kernel
theorem dL_teach_75 : decode cL_teach 75 = .ok (.iconst 1, 1) := by decide +kernel
theorem dL_teach_76 : decode cL_teach 76 = .ok (.iaload, 1) := by decide +kernel
theorem dL_teach_77 : decode cL_teach 77 = .ok (.aload_n 3, 1) := by decide +kernel
theorem dL_teach_78 : decode cL_teach 78 = .ok (.iconst 2, 1) := by decide +kernel
theorem dL_teach_79 : decode cL_teach 79 = .ok (.iaload, 1) := by decide +kernel
theorem dL_teach_80 : decode cL_teach 80 = .ok (.aload_n 3, 1) := by decide +kernel
theorem dL_teach_81 : decode cL_teach 81 = .ok (.iconst 3, 1) := by decide +kernel
theorem dL_teach_82 : decode cL_teach 82 = .ok (.iaload, 1) := by decide +kernel
theorem dL_teach_83 : decode cL_teach 83 = .ok (.aload_n 3, 1) := by decide +kernel
theorem dL_teach_84 : decode cL_teach 84 = .ok (.iconst 4, 1) := by decide +kernel
theorem dL_teach_85 : decode cL_teach 85 = .ok (.iaload, 1) := by decide +kernel
theorem dL_teach_86 : decode cL_teach 86 = .ok (.invokevirtual 19, 3) := by decide +kernel
theorem dL_teach_89 : decode cL_teach 89 = .ok (.pop, 1) := by decide +kernel
theorem dL_teach_90 : decode cL_teach 90 = .ok (.iinc 2 20, 3) := by decide +kernel
theorem dL_teach_93 : decode cL_teach 93 = .ok (.goto (-91), 3) := by decide +kernel
theorem dL_teach_96 : decode cL_teach 96 = .ok (.aload_n 0, 1) := by decide +kernel
theorem dL_teach_97 : decode cL_teach 97 = .ok (.aload_n 1, 1) := by decide +kernel
theorem dL_teach_98 : decode cL_teach 98 = .ok (.invokevirtual 9, 3) := by decide +kernel
theorem dL_teach_101 : decode cL_teach 101 = .ok (.invokevirtual 25, 3) := by decide +kernel
theorem dL_teach_104 : decode cL_teach 104 = .ok (.pop, 1) := by decide +kernel
theorem dL_teach_105 : decode cL_teach 105 = .ok (.aload_n 0, 1) := by decide +kernel
theorem dL_teach_106 : decode cL_teach 106 = .ok (.invokevirtual 29, 3) := by decide +kernel
theorem dL_teach_109 : decode cL_teach 109 = .ok (.ireturn, 1) := by decide +kernel
set_option maxHeartbeats 400000 in
set_option maxRecDepth 100000 in
theorem c_lTeach (l : Launch) (G : hG) (M : hM) (T : List Nat) (hT6 : T.length ≤ 600) (q : Nat) (hqs : StL G M q 5080 T) (q0 a r : Nat) (z1 z2 z3 z4 z5 z6 z7 z8 z9 z10 z11 : Nat) (y0 y1 y2 : Int32) (ho : M q0 = some (0, .inr (12, [.ref a, .ref z1, .ref z2, .ref z3, .ref z4, .ref z5, .ref z6, .ref z7, .ref z8, .ref z9, .ref z10, .ref z11, .int y0, .int y1, .int y2]))) (f : Nat → Int32) (ht1 : M a = some (1, .inr (9, [.ref r, .int (nI 0)]))) (ht2 : M r = some (2, .inl (hT G 1, 2000, .inl f))) (PP : hM → Prop) (hTe : ∀ (M1 : hM) (f1 : Nat → Int32), hFr (fun u => u = 1 ∨ u = 2 ∨ u = 4910) M M1 → M1 q0 = M q0 → M1 a = some (1, .inr (9, [.ref r, .int (nI T.length)])) → M1 r = some (2, .inl (hT G 1, 2000, .inl f1)) → tB f1 (lsW T) T.length → hCT l G yX11_teach cX11_teach 4 (Option.some FieldType.int) (hRm 13 110 23000) M1 [.ref q0] (fun v M2 => v = some (.int 0) ∧ PP M2)) : hCT l G yL_teach cL_teach 5 (Option.some FieldType.int) (hRm 14 200 24000) M [.ref q0, .ref q] (fun v M2 => v = some (.int 0) ∧ PP M2) := by
  refine hCT.of (own := RL) (nm := "teach") (by decide) rfl rfl (Nat.le_of_ble_eq_true rfl) ?_
  intro p e s m args below meth c ls X Y hl
  have hx := X.1
  have hb := X.2.1
  have hl : lv_has ls 5 [(0, .ref q0), (1, .ref q)] := hl
  have hlt : ∀ i, i < T.length → lsW T i < 128 := by obtain ⟨va, f0, z0, z1, z2⟩ := hqs; exact fun i hi => (z2 i hi).2
  have hoM := ho
  refine lv_iconst (v := 0) hx hb dL_teach_0 (by decide) ?_
  refine lv_istore_n (lv' := [(2, .int 0), (0, .ref q0), (1, .ref q)]) hx hb dL_teach_1 rfl hl (by decide) rfl (fun ls hl => ?_)
  have loop : ∀ (d i : Nat), i + d = 40 → 20 * i < T.length + 20 → ∀ (M1 : hM) (f1 : Nat → Int32), M1 q0 = some (0, .inr (12, [.ref a, .ref z1, .ref z2, .ref z3, .ref z4, .ref z5, .ref z6, .ref z7, .ref z8, .ref z9, .ref z10, .ref z11, .int y0, .int y1, .int y2])) → M1 a = some (1, .inr (9, [.ref r, .int (nI (20 * i))])) → M1 r = some (2, .inl (hT G 1, 2000, .inl f1)) → StL G M1 q 5080 T → hFr (fun u => u = 1 ∨ u = 2 ∨ u = 4910) M M1 → (∀ j, j < 20 * i → f1 j = nI (pdT T j)) → ∀ (H : Heap) (locs : List Loc) (ls : Array Slot), hHS G M1 s H locs → lv_has ls 5 [(0, .ref q0), (1, .ref q), (2, .int (nI (20 * i)))] → W p l e (hRm 14 200 24000) s m args below meth c H locs (0 + i) (0 + 5 * i) (MQ below (hQ G (fun v M2 => v = some (.int 0) ∧ PP M2)) args s 200 24000 (hA G)) (F0 m 2 ls []) := by
    intro d
    induction d with
    | zero => intro i h1; intros; exact absurd h1 (by omega)
    | succ d ih =>
      intro i h1 h2 M1 f1 ho t1 t2 hqs hfr hf1 H locs ls Y hl
      refine lv_iload_n hx hb dL_teach_2 rfl (lv_at hl 2 rfl) ?_
      refine lv_aload_n hx hb dL_teach_3 rfl (lv_at hl 1 rfl) ?_
      refine h_callGr (rest := [.int (nI (20 * i))]) X Y (c_len2 l G M1 q _ (lsW T) (Or.inr hqs.m) (by omega)) rfl rfl gw_L_9 dsc_J0_length_8abf5 (StV.recv X Y (Or.inr hqs.m)) rfl rfl hl.1 (Nat.le_of_ble_eq_true rfl) ⟨Nat.le_of_ble_eq_true rfl, Nat.le_of_ble_eq_true rfl⟩ ⟨(by show _ ≤ 200; first | decide | omega | (dsimp only [hRm]; omega)), (by show _ ≤ 24000; first | decide | omega | (dsimp only [hRm]; omega))⟩ dL_teach_4 (fun H locs Y => ?_)
      refine lv_icmp_ge (tgt := 96) hx hb dL_teach_7 (by decide) (fun c7 => ?_) (fun c7 => ?_)
      · have c7 : T.length ≤ (20 * i) := (nI_leI (a := T.length) (b := (20 * i)) (by omega) (by omega)).mp c7
        refine lv_aload_n hx hb dL_teach_96 rfl (lv_at hl 0 rfl) ?_
        refine lv_aload_n hx hb dL_teach_97 rfl (lv_at hl 1 rfl) ?_
        refine h_callGr (rest := [.ref q0]) X Y (c_len2 l G M1 q _ (lsW T) (Or.inr hqs.m) (by omega)) rfl rfl gw_L_9 dsc_J0_length_8abf5 (StV.recv X Y (Or.inr hqs.m)) rfl rfl hl.1 (Nat.le_of_ble_eq_true rfl) ⟨Nat.le_of_ble_eq_true rfl, Nat.le_of_ble_eq_true rfl⟩ ⟨(by show _ ≤ 200; first | decide | omega | (dsimp only [hRm]; omega)), (by show _ ≤ 24000; first | decide | omega | (dsimp only [hRm]; omega))⟩ dL_teach_98 (fun H locs Y => ?_)
        refine h_callV (rest := []) X Y (c_trim l G M1 a r (20 * i) T.length (by omega) (by omega) t1 q0 z1 z2 z3 z4 z5 z6 z7 z8 z9 z10 z11 y0 y1 y2 ho) gw_L_25 dsc_X11_trim ho rfl rfl rfl hl.1 rfl (Nat.le_of_ble_eq_true rfl) ⟨Nat.le_of_ble_eq_true rfl, Nat.le_of_ble_eq_true rfl⟩ ⟨(by show _ ≤ 200; first | decide | omega | (dsimp only [hRm]; omega)), (by show _ ≤ 24000; first | decide | omega | (dsimp only [hRm]; omega))⟩ dL_teach_101 ?_
        rintro _ Mz1 H locs ⟨rfl, he9, t1, hf8⟩ Y
        try dsimp only [Option.toList, List.singleton_append]
        have t2 := hf8 _ _ _ t2 (by omega)
        have hfr : hFr (fun u => u = 1 ∨ u = 2 ∨ u = 4910) M Mz1 := hFr.tr hfr (hf8.mono (fun u z => Or.inl z))
        have ho2 := he9.trans ho
        have htB : tB f1 (lsW T) T.length := fun p9 hp9 => ⟨(hf1 p9 (by omega)).trans (congrArg nI (if_pos hp9)), hlt p9 hp9⟩
        refine lv_pop hx hb dL_teach_104 rfl ?_
        refine lv_aload_n hx hb dL_teach_105 rfl (lv_at hl 0 rfl) ?_
        refine h_callV (rest := []) X Y (hTe Mz1 f1 hfr (ho2.trans hoM.symm) t1 t2 htB) gw_L_29 dsc_X11_teach ho2 rfl rfl rfl hl.1 rfl (Nat.le_of_ble_eq_true rfl) ⟨Nat.le_of_ble_eq_true rfl, Nat.le_of_ble_eq_true rfl⟩ ⟨(by show _ ≤ 200; first | decide | omega | (dsimp only [hRm]; omega)), (by show _ ≤ 24000; first | decide | omega | (dsimp only [hRm]; omega))⟩ dL_teach_106 ?_
        rintro _ Mz2 H locs ⟨rfl, hPP⟩ Y
        try dsimp only [Option.toList, List.singleton_append]
        exact h_iret X Y ⟨rfl, hPP⟩ (by show _ ≤ 200; first | omega | (dsimp only [hRm]; omega) | (simp [hRm]; omega)) (by show _ ≤ 24000; first | omega | (dsimp only [hRm]; omega) | (simp [hRm]; omega)) dL_teach_109
      · have c7 : ¬ T.length ≤ (20 * i) := fun z9 => c7 ((nI_leI (a := T.length) (b := (20 * i)) (by omega) (by omega)).mpr z9)
        refine lv_iconst (v := 5) hx hb dL_teach_10 (by decide) ?_
        refine h_newI X Y (4910) (n := 5) (by decide) (by show _ ≤ 200; omega) (by show _ ≤ 24000; omega) dL_teach_11 (fun qz3 Mz3 H fz3 hg3 Y => ?_)
        have ho := hg3 _ _ ho
        have t1 := hg3 _ _ t1
        have t2 := hg3 _ _ t2
        have hqs := hqs.gr hg3
        have hfr := hfr.grow hg3
        refine lv_astore_n (lv' := [(3, .ref qz3), (0, .ref q0), (1, .ref q), (2, .int (nI (20 * i)))]) hx hb dL_teach_13 rfl hl (by decide) rfl (fun ls hl => ?_)
        refine lv_iconst (v := 0) hx hb dL_teach_14 (by decide) ?_
        refine lv_istore (lv' := [(4, .int 0), (3, .ref qz3), (0, .ref q0), (1, .ref q), (2, .int (nI (20 * i)))]) hx hb dL_teach_15 hl (by decide) rfl (fun ls hl => ?_)
        have loop2 : ∀ (d j : Nat), 20 < j + d → j ≤ 20 → ∀ (M2 : hM) (g2 : Nat → Int32), M2 qz3 = some (4910, .inl (hT G 0, 5, .inl g2)) → M2 q0 = some (0, .inr (12, [.ref a, .ref z1, .ref z2, .ref z3, .ref z4, .ref z5, .ref z6, .ref z7, .ref z8, .ref z9, .ref z10, .ref z11, .int y0, .int y1, .int y2])) → M2 a = some (1, .inr (9, [.ref r, .int (nI (20 * i))])) → M2 r = some (2, .inl (hT G 1, 2000, .inl f1)) → StL G M2 q 5080 T → hFr (fun u => u = 1 ∨ u = 2 ∨ u = 4910) M M2 → (∀ w9, w9 < 5 → g2 w9 = nI (pwd (bw T i) w9 j)) → ∀ (H : Heap) (locs : List Loc) (ls : Array Slot), hHS G M2 s H locs → lv_has ls 5 [(0, .ref q0), (1, .ref q), (2, .int (nI (20 * i))), (3, .ref qz3), (4, .int (nI j))] → W p l e (hRm 14 200 24000) s m args below meth c H locs (0 + i + 1) (0 + 5 * i + 5) (MQ below (hQ G (fun v M2 => v = some (.int 0) ∧ PP M2)) args s 200 24000 (hA G)) (F0 m 17 ls []) := by
          intro d
          induction d with
          | zero => intro j h1; intros; exact absurd h1 (by omega)
          | succ d ih2 =>
            intro j h3 h4 M2 g2 tk ho t1 t2 hqs hfr hg2 H locs ls Y hl
            refine lv_iload hx hb dL_teach_17 (lv_at hl 4 rfl) ?_
            refine lv_bipush (v := 20) hx hb dL_teach_19 (by decide) ?_
            refine lv_icmp_ge (tgt := 70) hx hb dL_teach_21 (by decide) (fun c21 => ?_) (fun c21 => ?_)
            · have c21 : 20 ≤ j := (nI_leI (a := 20) (b := j) (by omega) (by omega)).mp c21
              refine lv_aload_n hx hb dL_teach_70 rfl (lv_at hl 0 rfl) ?_
              refine lv_aload_n hx hb dL_teach_71 rfl (lv_at hl 3 rfl) ?_
              refine lv_iconst (v := 0) hx hb dL_teach_72 (by decide) ?_
              refine h_iald X Y (i := 0) tk (by omega) (by decide) dL_teach_73 ?_
              obtain rfl : j = 20 := by omega
              refine h_ev (y := nI (wd4 (bw T i 0) (bw T i 1) (bw T i 2) (bw T i 3))) ((hg2 0 (by omega)).trans (congrArg nI (pwd_0 _))) ?_
              refine lv_aload_n hx hb dL_teach_74 rfl (lv_at hl 3 rfl) ?_
              refine lv_iconst (v := 1) hx hb dL_teach_75 (by decide) ?_
              refine h_iald X Y (i := 1) tk (by omega) (by decide) dL_teach_76 ?_
              refine h_ev (y := nI (wd4 (bw T i 4) (bw T i 5) (bw T i 6) (bw T i 7))) ((hg2 1 (by omega)).trans (congrArg nI (pwd_1 _))) ?_
              refine lv_aload_n hx hb dL_teach_77 rfl (lv_at hl 3 rfl) ?_
              refine lv_iconst (v := 2) hx hb dL_teach_78 (by decide) ?_
              refine h_iald X Y (i := 2) tk (by omega) (by decide) dL_teach_79 ?_
              refine h_ev (y := nI (wd4 (bw T i 8) (bw T i 9) (bw T i 10) (bw T i 11))) ((hg2 2 (by omega)).trans (congrArg nI (pwd_2 _))) ?_
              refine lv_aload_n hx hb dL_teach_80 rfl (lv_at hl 3 rfl) ?_
              refine lv_iconst (v := 3) hx hb dL_teach_81 (by decide) ?_
              refine h_iald X Y (i := 3) tk (by omega) (by decide) dL_teach_82 ?_
              refine h_ev (y := nI (wd4 (bw T i 12) (bw T i 13) (bw T i 14) (bw T i 15))) ((hg2 3 (by omega)).trans (congrArg nI (pwd_3 _))) ?_
              refine lv_aload_n hx hb dL_teach_83 rfl (lv_at hl 3 rfl) ?_
              refine lv_iconst (v := 4) hx hb dL_teach_84 (by decide) ?_
              refine h_iald X Y (i := 4) tk (by omega) (by decide) dL_teach_85 ?_
              refine h_ev (y := nI (wd4 (bw T i 16) (bw T i 17) (bw T i 18) (bw T i 19))) ((hg2 4 (by omega)).trans (congrArg nI (pwd_4 _))) ?_
              have hb9 : ∀ j, j < 20 → bw T i j < 128 := by intro j9 hj9; unfold bw pdT; split; exact hlt _ (by assumption); decide
              refine h_callV (rest := []) X Y (c_feed l G M2 a r (20 * i) f1 (by omega) t1 t2 q0 z1 z2 z3 z4 z5 z6 z7 z8 z9 z10 z11 y0 y1 y2 ho (bw T i) hb9) gw_L_19 dsc_X11_feed ho rfl rfl rfl hl.1 rfl (Nat.le_of_ble_eq_true rfl) ⟨Nat.le_of_ble_eq_true rfl, Nat.le_of_ble_eq_true rfl⟩ ⟨(by show _ ≤ 200; first | decide | omega | (dsimp only [hRm]; omega)), (by show _ ≤ 24000; first | decide | omega | (dsimp only [hRm]; omega))⟩ dL_teach_86 ?_
              rintro _ Mz4 H locs ⟨rfl, he9, t1, t2, hf8⟩ Y
              try dsimp only [Option.toList, List.singleton_append]
              have hqs := hqs.fr hf8 ⟨by decide, by decide⟩
              have hfr : hFr (fun u => u = 1 ∨ u = 2 ∨ u = 4910) M Mz4 := hFr.tr hfr (hf8.mono (fun u z => z.elim Or.inl (fun z2 => Or.inr (Or.inl z2))))
              have hf9 : ∀ j, j < 20 * (i + 1) → up20 f1 (20 * i) (bw T i) j = nI (pdT T j) := by
                intro j9 hj9
                rcases Nat.lt_or_ge j9 (20 * i) with h | h
                · rw [up20_lo h]; exact hf1 j9 h
                · obtain ⟨j8, rfl⟩ := Nat.exists_eq_add_of_le h
                  rw [up20_at (by omega)]; rfl
              refine lv_pop hx hb dL_teach_89 rfl ?_
              refine lv_iinc (v := nI (20 * (i + 1))) (lv' := [(2, .int (nI (20 * (i + 1)))), (0, .ref q0), (1, .ref q), (3, .ref qz3), (4, .int (nI 20))]) hx hb dL_teach_90 hl (k := 2) rfl (nI_add (20 * i) 20) (by decide) rfl (fun ls hl => ?_)
              refine lv_goto (tgt := 2) hx hb dL_teach_93 (by decide) ?_
              exact ih (i + 1) (by omega) (by omega) Mz4 _ (he9.trans ho) t1 t2 hqs hfr hf9 _ _ _ Y (lv_sub hl [1, 2, 0] rfl)
            · have c21 : ¬ 20 ≤ j := fun z9 => c21 ((nI_leI (a := 20) (b := j) (by omega) (by omega)).mpr z9)
              have hj9 : j < 20 := by omega
              refine lv_aload_n hx hb dL_teach_24 rfl (lv_at hl 3 rfl) ?_
              refine lv_iload hx hb dL_teach_25 (lv_at hl 4 rfl) ?_
              refine lv_iconst (v := 4) hx hb dL_teach_27 (by decide) ?_
              refine lv_idiv hx hb dL_teach_28 (by decide) ?_
              refine h_ev (y := nI (j / 4)) (t_d4 hj9) ?_
              refine lv_aload_n hx hb dL_teach_29 rfl (lv_at hl 3 rfl) ?_
              refine lv_iload hx hb dL_teach_30 (lv_at hl 4 rfl) ?_
              refine lv_iconst (v := 4) hx hb dL_teach_32 (by decide) ?_
              refine lv_idiv hx hb dL_teach_33 (by decide) ?_
              refine h_ev (y := nI (j / 4)) (t_d4 hj9) ?_
              refine h_iald X Y (i := (j / 4)) tk (by omega) (by decide) dL_teach_34 ?_
              refine h_ev (y := nI (pwd (bw T i) (j / 4) j)) (hg2 (j / 4) (by omega)) ?_
              refine lv_bipush (v := 8) hx hb dL_teach_35 (by decide) ?_
              refine lv_ishl hx hb dL_teach_37 ?_
              refine lv_iload_n hx hb dL_teach_38 rfl (lv_at hl 2 rfl) ?_
              refine lv_iload hx hb dL_teach_39 (lv_at hl 4 rfl) ?_
              refine lv_iadd hx hb dL_teach_41 ?_
              refine h_ev (y := nI ((20 * i) + j)) (nI_add (20 * i) j) ?_
              refine lv_aload_n hx hb dL_teach_42 rfl (lv_at hl 1 rfl) ?_
              refine h_callGr (rest := [.int (nI ((20 * i) + j)), .int ((nI (pwd (bw T i) (j / 4) j)) <<< (8 &&& 31)), .int (nI (j / 4)), .ref qz3]) X Y (c_len2 l G M2 q _ (lsW T) (Or.inr hqs.m) (by omega)) rfl rfl gw_L_9 dsc_J0_length_8abf5 (StV.recv X Y (Or.inr hqs.m)) rfl rfl hl.1 (Nat.le_of_ble_eq_true rfl) ⟨Nat.le_of_ble_eq_true rfl, Nat.le_of_ble_eq_true rfl⟩ ⟨(by show _ ≤ 200; first | decide | omega | (dsimp only [hRm]; omega)), (by show _ ≤ 24000; first | decide | omega | (dsimp only [hRm]; omega))⟩ dL_teach_43 (fun H locs Y => ?_)
              refine lv_icmp_ge (tgt := 60) hx hb dL_teach_46 (by decide) (fun c46 => ?_) (fun c46 => ?_)
              · have c46 : T.length ≤ ((20 * i) + j) := (nI_leI (a := T.length) (b := ((20 * i) + j)) (by omega) (by omega)).mp c46
                refine lv_bipush (v := 32) hx hb dL_teach_60 (by decide) ?_
                refine h_ev (y := nI (bw T i j)) (congrArg nI (show _ = bw T i j from (if_neg (by omega) : pdT T (20 * i + j) = _).symm)) ?_
                refine lv_ior hx hb dL_teach_62 ?_
                have hb8 : bw T i j < 256 := by unfold bw pdT; split; exact Nat.lt_trans (hlt _ (by assumption)) (by decide); decide
                refine h_ev (y := nI (pwd (bw T i) (j / 4) j * 256 + bw T i j)) (shl8or _ _ hb8) ?_
                refine h_iast X Y (i := (j / 4)) tk (by omega) (by decide) dL_teach_63 (fun H locs Y => ?_)
                have ho := hup_tag (x := (4910, .inl (hT G 0, 5, .inl (upd g2 (j / 4) (nI (pwd (bw T i) (j / 4) j * 256 + bw T i j)))))) ho tk (by omega)
                have t1 := hup_tag (x := (4910, .inl (hT G 0, 5, .inl (upd g2 (j / 4) (nI (pwd (bw T i) (j / 4) j * 256 + bw T i j)))))) t1 tk (by omega)
                have t2 := hup_tag (x := (4910, .inl (hT G 0, 5, .inl (upd g2 (j / 4) (nI (pwd (bw T i) (j / 4) j * 256 + bw T i j)))))) t2 tk (by omega)
                have hqs := StL.fr (Z := fun u => u = 4910) (hFr.put hFr.rf (x := (4910, .inl (hT G 0, 5, .inl (upd g2 (j / 4) (nI (pwd (bw T i) (j / 4) j * 256 + bw T i j)))))) tk rfl) ⟨by decide, by decide⟩ hqs
                have hfr := hfr.put (x := (4910, .inl (hT G 0, 5, .inl (upd g2 (j / 4) (nI (pwd (bw T i) (j / 4) j * 256 + bw T i j)))))) tk (Or.inr (Or.inr rfl))
                have tk : hup M2 qz3 (4910, .inl (hT G 0, 5, .inl (upd g2 (j / 4) (nI (pwd (bw T i) (j / 4) j * 256 + bw T i j))))) qz3 = some (4910, .inl (hT G 0, 5, .inl (upd g2 (j / 4) (nI (pwd (bw T i) (j / 4) j * 256 + bw T i j))))) := hup_eq
                generalize hup M2 qz3 (4910, .inl (hT G 0, 5, .inl (upd g2 (j / 4) (nI (pwd (bw T i) (j / 4) j * 256 + bw T i j))))) = Mz5 at Y tk ho t1 t2 hqs hfr
                refine lv_iinc (v := nI (j + 1)) (lv' := [(4, .int (nI (j + 1))), (0, .ref q0), (1, .ref q), (2, .int (nI (20 * i))), (3, .ref qz3)]) hx hb dL_teach_64 hl (k := 4) rfl (nI_1 j) (by decide) rfl (fun ls hl => ?_)
                refine lv_goto (tgt := 17) hx hb dL_teach_67 (by decide) ?_
                refine ih2 (j + 1) (by omega) (by omega) Mz5 _ tk ho t1 t2 hqs hfr (fun w9 hw9 => ?_) _ _ _ Y (lv_sub hl [1, 2, 3, 4, 0] rfl)
                by_cases hw : w9 = j / 4
                · subst hw; rw [pk_us]; exact congrArg nI (if_pos rfl).symm
                · rw [pk_un hw, hg2 w9 hw9]; exact congrArg nI (if_neg (fun z9 => hw z9.symm)).symm
              · have c46 : ¬ T.length ≤ ((20 * i) + j) := fun z9 => c46 ((nI_leI (a := T.length) (b := ((20 * i) + j)) (by omega) (by omega)).mpr z9)
                refine lv_aload_n hx hb dL_teach_49 rfl (lv_at hl 1 rfl) ?_
                refine lv_iload_n hx hb dL_teach_50 rfl (lv_at hl 2 rfl) ?_
                refine lv_iload hx hb dL_teach_51 (lv_at hl 4 rfl) ?_
                refine lv_iadd hx hb dL_teach_53 ?_
                refine h_ev (y := nI ((20 * i) + j)) (nI_add (20 * i) j) ?_
                refine h_callGr (rest := [.int ((nI (pwd (bw T i) (j / 4) j)) <<< (8 &&& 31)), .int (nI (j / 4)), .ref qz3]) X Y (c_chAtM l G M2 q _ (lsW T) hqs.m (((20 * i) + j)) (by omega) (by omega)) rfl rfl gw_L_15 dsc_J0_charAt_5068e (StV.recv X Y (Or.inr hqs.m)) rfl rfl hl.1 (Nat.le_of_ble_eq_true rfl) ⟨Nat.le_of_ble_eq_true rfl, Nat.le_of_ble_eq_true rfl⟩ ⟨(by show _ ≤ 200; first | decide | omega | (dsimp only [hRm]; omega)), (by show _ ≤ 24000; first | decide | omega | (dsimp only [hRm]; omega))⟩ dL_teach_54 (fun H locs Y => ?_)
                refine lv_goto (tgt := 62) hx hb dL_teach_57 (by decide) ?_
                refine h_ev (y := nI (bw T i j)) (congrArg nI (show _ = bw T i j from (if_pos (by omega) : pdT T (20 * i + j) = _).symm)) ?_
                refine lv_ior hx hb dL_teach_62 ?_
                have hb8 : bw T i j < 256 := by unfold bw pdT; split; exact Nat.lt_trans (hlt _ (by assumption)) (by decide); decide
                refine h_ev (y := nI (pwd (bw T i) (j / 4) j * 256 + bw T i j)) (shl8or _ _ hb8) ?_
                refine h_iast X Y (i := (j / 4)) tk (by omega) (by decide) dL_teach_63 (fun H locs Y => ?_)
                have ho := hup_tag (x := (4910, .inl (hT G 0, 5, .inl (upd g2 (j / 4) (nI (pwd (bw T i) (j / 4) j * 256 + bw T i j)))))) ho tk (by omega)
                have t1 := hup_tag (x := (4910, .inl (hT G 0, 5, .inl (upd g2 (j / 4) (nI (pwd (bw T i) (j / 4) j * 256 + bw T i j)))))) t1 tk (by omega)
                have t2 := hup_tag (x := (4910, .inl (hT G 0, 5, .inl (upd g2 (j / 4) (nI (pwd (bw T i) (j / 4) j * 256 + bw T i j)))))) t2 tk (by omega)
                have hqs := StL.fr (Z := fun u => u = 4910) (hFr.put hFr.rf (x := (4910, .inl (hT G 0, 5, .inl (upd g2 (j / 4) (nI (pwd (bw T i) (j / 4) j * 256 + bw T i j)))))) tk rfl) ⟨by decide, by decide⟩ hqs
                have hfr := hfr.put (x := (4910, .inl (hT G 0, 5, .inl (upd g2 (j / 4) (nI (pwd (bw T i) (j / 4) j * 256 + bw T i j)))))) tk (Or.inr (Or.inr rfl))
                have tk : hup M2 qz3 (4910, .inl (hT G 0, 5, .inl (upd g2 (j / 4) (nI (pwd (bw T i) (j / 4) j * 256 + bw T i j))))) qz3 = some (4910, .inl (hT G 0, 5, .inl (upd g2 (j / 4) (nI (pwd (bw T i) (j / 4) j * 256 + bw T i j))))) := hup_eq
                generalize hup M2 qz3 (4910, .inl (hT G 0, 5, .inl (upd g2 (j / 4) (nI (pwd (bw T i) (j / 4) j * 256 + bw T i j))))) = Mz6 at Y tk ho t1 t2 hqs hfr
                refine lv_iinc (v := nI (j + 1)) (lv' := [(4, .int (nI (j + 1))), (0, .ref q0), (1, .ref q), (2, .int (nI (20 * i))), (3, .ref qz3)]) hx hb dL_teach_64 hl (k := 4) rfl (nI_1 j) (by decide) rfl (fun ls hl => ?_)
                refine lv_goto (tgt := 17) hx hb dL_teach_67 (by decide) ?_
                refine ih2 (j + 1) (by omega) (by omega) Mz6 _ tk ho t1 t2 hqs hfr (fun w9 hw9 => ?_) _ _ _ Y (lv_sub hl [1, 2, 3, 4, 0] rfl)
                by_cases hw : w9 = j / 4
                · subst hw; rw [pk_us]; exact congrArg nI (if_pos rfl).symm
                · rw [pk_un hw, hg2 w9 hw9]; exact congrArg nI (if_neg (fun z9 => hw z9.symm)).symm
        exact loop2 21 0 (by omega) (by omega) Mz3 _ fz3 ho t1 t2 hqs hfr (fun w9 _ => rfl) _ _ _ Y (lv_sub hl [2, 3, 4, 1, 0] rfl)
  exact loop 40 0 (by omega) (by omega) M f ho ht1 ht2 hqs hFr.rf (fun j z9 => absurd z9 (by omega)) _ _ _ Y (lv_sub hl [1, 2, 0] rfl)
