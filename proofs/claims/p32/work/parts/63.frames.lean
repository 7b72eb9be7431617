-- THE SAME, AND WHAT THEY LEAVE AS IT WAS
def hZp (u : Nat) : Prop := u < 4000
set_option maxHeartbeats 400000 in
set_option maxRecDepth 100000 in
theorem c_open2 (l : Launch) (G : hG) (M : hM) (S : hSy) (h : hHo) (hPv : PV G M S h) (y : Nat) (x1 x2 : Int32) (hy : y ≤ hNow h) (ha0 : ¬ x1 < 0) (ha1 : x1 ≤ 5) (hb0 : ¬ x2 < 0) (hb1 : x2 ≤ 1000000) (hm : sM S < 40) : hCT l G yX11_open cX11_open 4 (Option.some FieldType.int) (hRm 8 4 87) M [.ref (sA S 0), .int (nI y), .int x1, .int x2] (fun v M' => v = some (.int (nI (sM S))) ∧ (∃ r0 r1 q q0, PV G M' (sAdd S (cNew r0 r1 y x1 x2) (aAdd S q q0)) h) ∧ hFr hZp M M') := by
  refine hCT.of (own := RX11) (nm := "open") (by decide) rfl rfl (Nat.le_of_ble_eq_true rfl) ?_
  intro p e s m args below meth c ls X Y hl
  have hx := X.1
  have hb := X.2.1
  have hl : lv_has ls 4 [(0, .ref (sA S 0)), (1, .int (nI y)), (2, .int x1), (3, .int x2)] := hl
  have hQv := hPv.1
  obtain ⟨hS, hG1, hHo, hCe, hTr, hnow, hyn⟩ := id hQv
  obtain ⟨hN8, hM40, hLG, hCY⟩ := id hG1
  obtain ⟨hl13, he14, hl15, he16, hLa, hCl⟩ := id hS
  obtain ⟨mc13, hlo13⟩ := id hl13
  obtain ⟨mc15, hlo15⟩ := id hl15
  obtain ⟨ho0, ho1, ho17, ho18, ft19, hft19, ho19⟩ := id hHo
  have h40 : sM S ≤ 40 := hPv.1.2.1.2.1
  refine lv_aload_n hx hb dX11_open_0 rfl (lv_at hl 0 rfl) ?_
  refine lv_iload_n hx hb dX11_open_1 rfl (lv_at hl 1 rfl) ?_
  refine h_callVr (rest := []) X Y (c_isYearSoFar l G M S h hQv y (by omega)) rfl rfl gw_X11_168 dsc_X11_isYearSoFar ho0 rfl rfl rfl rfl hl.1 (Nat.le_of_ble_eq_true rfl) ⟨Nat.le_of_ble_eq_true rfl, Nat.le_of_ble_eq_true rfl⟩ ⟨Nat.le_of_ble_eq_true rfl, Nat.le_of_ble_eq_true rfl⟩ dX11_open_2 (fun H locs Y => ?_)
  refine lv_if_eq (tgt := 25) hx hb dX11_open_5 (by decide) (fun c5 => absurd c5 (by decide)) (fun c5 => ?_)
  refine lv_iload_n hx hb dX11_open_8 rfl (lv_at hl 2 rfl) ?_
  refine lv_if_lt (tgt := 25) hx hb dX11_open_9 (by decide) (fun c9 => absurd c9 ha0) (fun c9 => ?_)
  refine lv_iload_n hx hb dX11_open_12 rfl (lv_at hl 2 rfl) ?_
  refine lv_iconst (v := 5) hx hb dX11_open_13 (by decide) ?_
  refine lv_icmp_gt (tgt := 25) hx hb dX11_open_14 (by decide) (fun c14 => absurd ha1 (fb_lt c14)) (fun c14 => ?_)
  refine lv_aload_n hx hb dX11_open_17 rfl (lv_at hl 0 rfl) ?_
  refine lv_iload_n hx hb dX11_open_18 rfl (lv_at hl 3 rfl) ?_
  refine h_callVr (rest := []) X Y (c_isReserve l G M (sA S 0) x2 hb0 hb1) rfl rfl gw_X11_171 dsc_X11_isReserve ho0 rfl rfl rfl rfl hl.1 (Nat.le_of_ble_eq_true rfl) ⟨Nat.le_of_ble_eq_true rfl, Nat.le_of_ble_eq_true rfl⟩ ⟨Nat.le_of_ble_eq_true rfl, Nat.le_of_ble_eq_true rfl⟩ dX11_open_19 (fun H locs Y => ?_)
  refine lv_if_ne (tgt := 35) hx hb dX11_open_22 (by decide) (fun c22 => ?_) (fun c22 => absurd c22 (by decide))
  refine lv_aload_n hx hb dX11_open_35 rfl (lv_at hl 0 rfl) ?_
  refine h_get X Y (k := 5) (v := .ref (sA S 15)) ho0 rfl hin_X11 (by decide) kfl_X11_46 rfl dX11_open_36 ?_
  refine h_callVr (rest := []) X Y (c_size l G M (sA S 15) 15 (sA S 16) (sM S) hl15) rfl rfl gw_X11_176 dsc_Jx4a65c_size_8abf5 hlo15 rfl rfl rfl rfl hl.1 (Nat.le_of_ble_eq_true rfl) ⟨Nat.le_of_ble_eq_true rfl, Nat.le_of_ble_eq_true rfl⟩ ⟨Nat.le_of_ble_eq_true rfl, Nat.le_of_ble_eq_true rfl⟩ dX11_open_39 (fun H locs Y => ?_)
  refine lv_bipush (v := 40) hx hb dX11_open_42 (by decide) ?_
  refine lv_icmp_lt (tgt := 57) hx hb dX11_open_44 (by decide) (fun c44 => ?_) (fun c44 => absurd (show ¬ (sM S) < 40 from fun z9 => c44 ((nI_ltI (a := (sM S)) (b := 40) (by omega) (by omega)).mpr z9)) (by omega))
  have c44 : (sM S) < 40 := (nI_ltI (a := (sM S)) (b := 40) (by omega) (by omega)).mp c44
  have hfr : hFr (fun u => u = 15 ∨ u = 16 ∨ u = 1000 + 10 * sM S) M M := hFr.rf
  refine lv_aload_n hx hb dX11_open_57 rfl (lv_at hl 0 rfl) ?_
  refine h_get X Y (k := 5) (v := .ref (sA S 15)) ho0 rfl hin_X11 (by decide) kfl_X11_46 rfl dX11_open_58 ?_
  refine h_new (ci := 5) X Y (1000 + 10 * sM S) (fs := [.int 0, .int 0, .int 0, .int 0, .int 0, .null, .null]) rfl hin_X3 tyX3_ok kcl_X11_181 kinst_X3 kini_X3 (fun j hj => match j, hj with | 0, _ => rfl | 1, _ => rfl | 2, _ => rfl | 3, _ => rfl | 4, _ => rfl | 5, _ => rfl | 6, _ => rfl | z9 + 7, h9 => absurd h9 (by omega)) (Nat.le_of_ble_eq_true rfl) (Nat.le_of_ble_eq_true rfl) dX11_open_61 (fun qz1 Mz1 H fz1 hg1 Y => ?_)
  have ho0 := hg1 _ _ ho0
  have hlo15 := hg1 _ _ hlo15
  have hfr := hfr.grow hg1
  refine lv_dup hx hb dX11_open_64 rfl ?_
  refine lv_iload_n hx hb dX11_open_65 rfl (lv_at hl 1 rfl) ?_
  refine lv_iload_n hx hb dX11_open_66 rfl (lv_at hl 2 rfl) ?_
  refine lv_iload_n hx hb dX11_open_67 rfl (lv_at hl 3 rfl) ?_
  refine h_callI (rest := [.ref qz1, .ref (sA S 15)]) X Y (c_claimInit l G Mz1 qz1 (1000 + 10 * sM S) y x1 x2 fz1) (hgi0 kco_X3_init) kini_X3 kml_X11_183 kin_X3_init rfl dsc_X3_init.2 rfl hl.1 rfl (Nat.le_of_ble_eq_true rfl) ⟨Nat.le_of_ble_eq_true rfl, Nat.le_of_ble_eq_true rfl⟩ ⟨Nat.le_of_ble_eq_true rfl, Nat.le_of_ble_eq_true rfl⟩ dX11_open_68 ?_
  rintro _ M2 H locs ⟨rfl, r0, r1, hc0, hc1, hc2, hf2⟩ Y
  try dsimp only [Option.toList, List.nil_append]
  have ho0 := hf2 _ _ _ ho0 (by omega)
  have hlo15 := hf2 _ _ _ hlo15 (by omega)
  have hfr : hFr (fun u => u = 15 ∨ u = 16 ∨ u = 1000 + 10 * sM S) M M2 := hfr.tr (hf2.mono (fun u z => Or.inr (Or.inr z)))
  have hf16 : hFr (fun u => u = 1000 + 10 * sM S) M M2 := (hFr.grow hFr.rf hg1).tr hf2
  have hf16 : hFr (fun u => u = 1000 + 10 * sM S) M M2 := hf16
  refine h_callV (rest := []) X Y (c_add l G M2 (sA S 15) 15 16 (sM S) 5 qz1 (1000 + 10 * sM S) mc15 (sA S 16) (fun i => sA S (1000 + 10 * i)) _ hlo15 (by omega) hm tCa_claim (fun i hi => ⟨1000 + 10 * i, _, by omega, by omega, hfr _ _ _ (hCl i hi).1 (by omega)⟩) hc0 (by omega) (by omega) (hPv.2.elim Or.inl (fun ⟨cap, f, z1, z2⟩ => Or.inr ⟨cap, f, hf16 _ _ _ z1 (by omega), z2⟩))) gw_X11_186 dsc_Jx4a65c_add_9ea2d hlo15 rfl rfl rfl hl.1 rfl (Nat.le_of_ble_eq_true rfl) ⟨Nat.le_of_ble_eq_true rfl, Nat.le_of_ble_eq_true rfl⟩ ⟨Nat.le_of_ble_eq_true rfl, Nat.le_of_ble_eq_true rfl⟩ dX11_open_71 ?_
  rintro _ M3 H locs ⟨rfl, q, cap, f, h15, hq, k1, k2, k3, k4, k5, hf3⟩ Y
  try dsimp only [Option.toList, List.singleton_append]
  have ho0 := hf3 _ _ _ ho0 (by omega)
  have hfr : hFr (fun u => u = 15 ∨ u = 16 ∨ u = 1000 + 10 * sM S) M M3 := hfr.tr (hf3.mono (fun u z => by omega))
  have hc0 := hf3 _ _ _ hc0 (by omega)
  have hc1 := hf3 _ _ _ hc1 (by omega)
  have hc2 := hf3 _ _ _ hc2 (by omega)
  refine lv_pop hx hb dX11_open_74 rfl ?_
  refine lv_aload_n hx hb dX11_open_75 rfl (lv_at hl 0 rfl) ?_
  refine h_get X Y (k := 5) (v := .ref (sA S 15)) ho0 rfl hin_X11 (by decide) kfl_X11_46 rfl dX11_open_76 ?_
  refine h_callVr (rest := []) X Y (c_size l G M3 (sA S 15) 15 q (sM S + 1) ⟨_, h15⟩) rfl rfl gw_X11_176 dsc_Jx4a65c_size_8abf5 h15 rfl rfl rfl rfl hl.1 (Nat.le_of_ble_eq_true rfl) ⟨Nat.le_of_ble_eq_true rfl, Nat.le_of_ble_eq_true rfl⟩ ⟨Nat.le_of_ble_eq_true rfl, Nat.le_of_ble_eq_true rfl⟩ dX11_open_79 (fun H locs Y => ?_)
  refine lv_iconst (v := 1) hx hb dX11_open_82 (by decide) ?_
  refine lv_isub hx hb dX11_open_83 ?_
  refine h_ev (y := nI (sM S)) ((pk_sub (show 1 ≤ sM S + 1 by omega)).trans (congrArg nI (by omega))) ?_
  exact h_iret X Y ⟨rfl, ⟨r0, r1, q, qz1, hPv.add hm hfr h15 hq k1 k2 k3 k4 k5 ⟨hc0, hc1, hc2⟩ hy⟩, hfr.mono (fun u z => by unfold hZp; omega)⟩ (Nat.le_of_ble_eq_true rfl) (Nat.le_of_ble_eq_true rfl) dX11_open_84
set_option maxHeartbeats 400000 in
set_option maxRecDepth 100000 in
theorem c_pay2 (l : Launch) (G : hG) (M : hM) (S : hSy) (h : hHo) (hPv : PV G M S h) (i : Nat) (x : Int32) (hi : i < sM S) (hx0 : ¬ x < 1) (hx1 : x ≤ 1000000) (hop : ¬ clI (sC S i) 3 = 0) (hpa : clI (sC S i) 1 + x ≤ 1000000) : hCT l G yX11_pay cX11_pay 4 (Option.some FieldType.int) (hRm 6 0 0) M [.ref (sA S 0), .int (nI i), .int x] (fun v M' => v = some (.int (clI (sC S i) 1 + x)) ∧ PV G M' (sUp S i (cPay (sC S i) x)) h ∧ hFr hZp M M') := by
  refine hCT.of (own := RX11) (nm := "pay") (by decide) rfl rfl (Nat.le_of_ble_eq_true rfl) ?_
  intro p e s m args below meth c ls X Y hl
  have hx := X.1
  have hb := X.2.1
  have hl : lv_has ls 4 [(0, .ref (sA S 0)), (1, .int (nI i)), (2, .int x)] := hl
  have hQv := hPv.1
  obtain ⟨hS, hG1, hHo, hCe, hTr, hnow, hyn⟩ := id hQv
  obtain ⟨hN8, hM40, hLG, hCY⟩ := id hG1
  obtain ⟨hl13, he14, hl15, he16, hLa, hCl⟩ := id hS
  obtain ⟨mc13, hlo13⟩ := id hl13
  obtain ⟨mc15, hlo15⟩ := id hl15
  obtain ⟨ho0, ho1, ho17, ho18, ft19, hft19, ho19⟩ := id hHo
  have h40 : sM S ≤ 40 := hPv.1.2.1.2.1
  refine lv_aload_n hx hb dX11_pay_0 rfl (lv_at hl 0 rfl) ?_
  refine lv_iload_n hx hb dX11_pay_1 rfl (lv_at hl 1 rfl) ?_
  refine h_callVr (rest := []) X Y (c_hasClaim l G M S h hQv i (by omega)) rfl rfl gw_X11_190 dsc_X11_hasClaim ho0 rfl rfl rfl rfl hl.1 (Nat.le_of_ble_eq_true rfl) ⟨Nat.le_of_ble_eq_true rfl, Nat.le_of_ble_eq_true rfl⟩ ⟨Nat.le_of_ble_eq_true rfl, Nat.le_of_ble_eq_true rfl⟩ dX11_pay_2 (fun H locs Y => ?_)
  refine lv_if_ne (tgt := 18) hx hb dX11_pay_5 (by decide) (fun c5 => ?_) (fun c5 => absurd c5 (by decide))
  refine lv_iload_n hx hb dX11_pay_18 rfl (lv_at hl 2 rfl) ?_
  refine lv_iconst (v := 1) hx hb dX11_pay_19 (by decide) ?_
  refine lv_icmp_lt (tgt := 29) hx hb dX11_pay_20 (by decide) (fun c20 => absurd c20 hx0) (fun c20 => ?_)
  refine lv_iload_n hx hb dX11_pay_23 rfl (lv_at hl 2 rfl) ?_
  refine lv_ldc hx hb X.2.2.2.2.1 (X.2.2.2.2.2.1 _ kcI_X11_195) dX11_pay_24 ?_
  refine lv_icmp_le (tgt := 39) hx hb dX11_pay_26 (by decide) (fun c26 => ?_) (fun c26 => absurd hx1 c26)
  refine lv_aload_n hx hb dX11_pay_39 rfl (lv_at hl 0 rfl) ?_
  refine h_get X Y (k := 5) (v := .ref (sA S 15)) ho0 rfl hin_X11 (by decide) kfl_X11_46 rfl dX11_pay_40 ?_
  refine lv_iload_n hx hb dX11_pay_43 rfl (lv_at hl 1 rfl) ?_
  refine h_callVr (rest := []) X Y (c_get l G M (sA S 15) 15 (sA S 16) 16 (sM S) i (fun i => sA S (1000 + 10 * i)) hl15 (he16 (by omega)) (by omega)) rfl rfl gw_X11_150 dsc_Jx4a65c_get_915e3 hlo15 rfl rfl rfl rfl hl.1 (Nat.le_of_ble_eq_true rfl) ⟨Nat.le_of_ble_eq_true rfl, Nat.le_of_ble_eq_true rfl⟩ ⟨Nat.le_of_ble_eq_true rfl, Nat.le_of_ble_eq_true rfl⟩ dX11_pay_44 (fun H locs Y => ?_)
  have hc0 := (hCl i hi).1
  have hfr : hFr (fun u => u = 1000 + 10 * i) M M := hFr.rf
  refine h_cast X Y hc0 rfl rfl kcl_X11_181 dX11_pay_47 ?_
  refine lv_astore_n (lv' := [(3, .ref (sA S (1000 + 10 * i))), (0, .ref (sA S 0)), (1, .int (nI i)), (2, .int x)]) hx hb dX11_pay_50 rfl hl (by decide) rfl (fun ls hl => ?_)
  refine lv_aload_n hx hb dX11_pay_51 rfl (lv_at hl 0 rfl) ?_
  refine h_get X Y (k := 4) (v := .int (clI (sC S i) 3)) hc0 rfl hin_X3 (by decide) kfl_X11_198 rfl dX11_pay_52 ?_
  refine lv_if_eq (tgt := 69) hx hb dX11_pay_55 (by decide) (fun c55 => absurd c55 hop) (fun c55 => ?_)
  refine lv_aload_n hx hb dX11_pay_58 rfl (lv_at hl 0 rfl) ?_
  refine h_get X Y (k := 2) (v := .int (clI (sC S i) 1)) hc0 rfl hin_X3 (by decide) kfl_X11_202 rfl dX11_pay_59 ?_
  refine lv_iload_n hx hb dX11_pay_62 rfl (lv_at hl 3 rfl) ?_
  refine lv_iadd hx hb dX11_pay_63 ?_
  refine lv_ldc hx hb X.2.2.2.2.1 (X.2.2.2.2.2.1 _ kcI_X11_195) dX11_pay_64 ?_
  refine lv_icmp_le (tgt := 79) hx hb dX11_pay_66 (by decide) (fun c66 => ?_) (fun c66 => absurd hpa c66)
  refine lv_aload_n hx hb dX11_pay_79 rfl (lv_at hl 0 rfl) ?_
  refine lv_dup hx hb dX11_pay_80 rfl ?_
  refine h_get X Y (k := 2) (v := .int (clI (sC S i) 1)) hc0 rfl hin_X3 (by decide) kfl_X11_202 rfl dX11_pay_81 ?_
  refine lv_iload_n hx hb dX11_pay_84 rfl (lv_at hl 3 rfl) ?_
  refine lv_iadd hx hb dX11_pay_85 ?_
  refine h_put X Y (k := 2) (v := .int ((clI (sC S i) 1) + x)) hc0 rfl hin_X3 tyX3_ok nmX3 (by decide) kfl_X11_202 rfl rfl rfl (Nat.le_of_ble_eq_true rfl) dX11_pay_86 (fun H locs Y => ?_)
  have Y : hHS G (hup M (sA S (1000 + 10 * i)) (1000 + 10 * i, .inr (5, [.int (nI (clY (sC S i))), .int (clI (sC S i) 0), .int ((clI (sC S i) 1) + x), .int (clI (sC S i) 2), .int (clI (sC S i) 3), .ref (clA (sC S i) 0), .ref (clA (sC S i) 1)]))) s H locs := Y
  have hfr := hfr.put (x := (1000 + 10 * i, .inr (5, [.int (nI (clY (sC S i))), .int (clI (sC S i) 0), .int ((clI (sC S i) 1) + x), .int (clI (sC S i) 2), .int (clI (sC S i) 3), .ref (clA (sC S i) 0), .ref (clA (sC S i) 1)]))) hc0 rfl
  have hc0 : hup M (sA S (1000 + 10 * i)) (1000 + 10 * i, .inr (5, [.int (nI (clY (sC S i))), .int (clI (sC S i) 0), .int ((clI (sC S i) 1) + x), .int (clI (sC S i) 2), .int (clI (sC S i) 3), .ref (clA (sC S i) 0), .ref (clA (sC S i) 1)])) (sA S (1000 + 10 * i)) = some (1000 + 10 * i, .inr (5, [.int (nI (clY (sC S i))), .int (clI (sC S i) 0), .int ((clI (sC S i) 1) + x), .int (clI (sC S i) 2), .int (clI (sC S i) 3), .ref (clA (sC S i) 0), .ref (clA (sC S i) 1)])) := hup_eq
  generalize hup M (sA S (1000 + 10 * i)) (1000 + 10 * i, .inr (5, [.int (nI (clY (sC S i))), .int (clI (sC S i) 0), .int ((clI (sC S i) 1) + x), .int (clI (sC S i) 2), .int (clI (sC S i) 3), .ref (clA (sC S i) 0), .ref (clA (sC S i) 1)])) = Mz1 at Y hc0 hfr
  refine lv_aload_n hx hb dX11_pay_89 rfl (lv_at hl 0 rfl) ?_
  refine lv_aload_n hx hb dX11_pay_90 rfl (lv_at hl 0 rfl) ?_
  refine h_get X Y (k := 3) (v := .int (clI (sC S i) 2)) hc0 rfl hin_X3 (by decide) kfl_X11_207 rfl dX11_pay_91 ?_
  refine lv_iload_n hx hb dX11_pay_94 rfl (lv_at hl 3 rfl) ?_
  refine lv_isub hx hb dX11_pay_95 ?_
  refine lv_iconst (v := 0) hx hb dX11_pay_96 (by decide) ?_
  refine h_mmax X kml_X11_210 hl.1 (Nat.le_of_ble_eq_true rfl) (Nat.le_of_ble_eq_true rfl) ⟨Nat.le_of_ble_eq_true rfl, Nat.le_of_ble_eq_true rfl⟩ dX11_pay_97 ?_
  refine h_put X Y (k := 3) (v := .int (sMax ((clI (sC S i) 2) - x) 0)) hc0 rfl hin_X3 tyX3_ok nmX3 (by decide) kfl_X11_207 rfl rfl rfl (Nat.le_of_ble_eq_true rfl) dX11_pay_100 (fun H locs Y => ?_)
  have Y : hHS G (hup Mz1 (sA S (1000 + 10 * i)) (1000 + 10 * i, .inr (5, [.int (nI (clY (sC S i))), .int (clI (sC S i) 0), .int ((clI (sC S i) 1) + x), .int (sMax ((clI (sC S i) 2) - x) 0), .int (clI (sC S i) 3), .ref (clA (sC S i) 0), .ref (clA (sC S i) 1)]))) s H locs := Y
  have hfr := hfr.put (x := (1000 + 10 * i, .inr (5, [.int (nI (clY (sC S i))), .int (clI (sC S i) 0), .int ((clI (sC S i) 1) + x), .int (sMax ((clI (sC S i) 2) - x) 0), .int (clI (sC S i) 3), .ref (clA (sC S i) 0), .ref (clA (sC S i) 1)]))) hc0 rfl
  have hc0 : hup Mz1 (sA S (1000 + 10 * i)) (1000 + 10 * i, .inr (5, [.int (nI (clY (sC S i))), .int (clI (sC S i) 0), .int ((clI (sC S i) 1) + x), .int (sMax ((clI (sC S i) 2) - x) 0), .int (clI (sC S i) 3), .ref (clA (sC S i) 0), .ref (clA (sC S i) 1)])) (sA S (1000 + 10 * i)) = some (1000 + 10 * i, .inr (5, [.int (nI (clY (sC S i))), .int (clI (sC S i) 0), .int ((clI (sC S i) 1) + x), .int (sMax ((clI (sC S i) 2) - x) 0), .int (clI (sC S i) 3), .ref (clA (sC S i) 0), .ref (clA (sC S i) 1)])) := hup_eq
  generalize hup Mz1 (sA S (1000 + 10 * i)) (1000 + 10 * i, .inr (5, [.int (nI (clY (sC S i))), .int (clI (sC S i) 0), .int ((clI (sC S i) 1) + x), .int (sMax ((clI (sC S i) 2) - x) 0), .int (clI (sC S i) 3), .ref (clA (sC S i) 0), .ref (clA (sC S i) 1)])) = Mz2 at Y hc0 hfr
  refine lv_aload_n hx hb dX11_pay_103 rfl (lv_at hl 0 rfl) ?_
  refine h_get X Y (k := 2) (v := .int ((clI (sC S i) 1) + x)) hc0 rfl hin_X3 (by decide) kfl_X11_202 rfl dX11_pay_104 ?_
  exact h_iret X Y ⟨rfl, hPv.up hi (hfr.mono (fun u z => by omega)) ⟨hc0, hfr _ _ _ (hCl i hi).2.1 (by omega), hfr _ _ _ (hCl i hi).2.2 (by omega)⟩ rfl, hfr.mono (fun u z => by unfold hZp; omega)⟩ (Nat.le_of_ble_eq_true rfl) (Nat.le_of_ble_eq_true rfl) dX11_pay_107
set_option maxHeartbeats 400000 in
set_option maxRecDepth 100000 in
theorem c_setReserve2 (l : Launch) (G : hG) (M : hM) (S : hSy) (h : hHo) (hPv : PV G M S h) (i : Nat) (x : Int32) (hi : i < sM S) (hx0 : ¬ x < 0) (hx1 : x ≤ 1000000) (hop : ¬ clI (sC S i) 3 = 0) : hCT l G yX11_setReserve cX11_setReserve 5 (Option.some FieldType.int) (hRm 6 0 0) M [.ref (sA S 0), .int (nI i), .int x] (fun v M' => v = some (.int (clI (sC S i) 2)) ∧ PV G M' (sUp S i (cSet (sC S i) x)) h ∧ hFr hZp M M') := by
  refine hCT.of (own := RX11) (nm := "setReserve") (by decide) rfl rfl (Nat.le_of_ble_eq_true rfl) ?_
  intro p e s m args below meth c ls X Y hl
  have hx := X.1
  have hb := X.2.1
  have hl : lv_has ls 5 [(0, .ref (sA S 0)), (1, .int (nI i)), (2, .int x)] := hl
  have hQv := hPv.1
  obtain ⟨hS, hG1, hHo, hCe, hTr, hnow, hyn⟩ := id hQv
  obtain ⟨hN8, hM40, hLG, hCY⟩ := id hG1
  obtain ⟨hl13, he14, hl15, he16, hLa, hCl⟩ := id hS
  obtain ⟨mc13, hlo13⟩ := id hl13
  obtain ⟨mc15, hlo15⟩ := id hl15
  obtain ⟨ho0, ho1, ho17, ho18, ft19, hft19, ho19⟩ := id hHo
  have h40 : sM S ≤ 40 := hPv.1.2.1.2.1
  refine lv_aload_n hx hb dX11_setReserve_0 rfl (lv_at hl 0 rfl) ?_
  refine lv_iload_n hx hb dX11_setReserve_1 rfl (lv_at hl 1 rfl) ?_
  refine h_callVr (rest := []) X Y (c_hasClaim l G M S h hQv i (by omega)) rfl rfl gw_X11_190 dsc_X11_hasClaim ho0 rfl rfl rfl rfl hl.1 (Nat.le_of_ble_eq_true rfl) ⟨Nat.le_of_ble_eq_true rfl, Nat.le_of_ble_eq_true rfl⟩ ⟨Nat.le_of_ble_eq_true rfl, Nat.le_of_ble_eq_true rfl⟩ dX11_setReserve_2 (fun H locs Y => ?_)
  refine lv_if_ne (tgt := 18) hx hb dX11_setReserve_5 (by decide) (fun c5 => ?_) (fun c5 => absurd c5 (by decide))
  refine lv_aload_n hx hb dX11_setReserve_18 rfl (lv_at hl 0 rfl) ?_
  refine lv_iload_n hx hb dX11_setReserve_19 rfl (lv_at hl 2 rfl) ?_
  refine h_callVr (rest := []) X Y (c_isReserve l G M (sA S 0) x hx0 hx1) rfl rfl gw_X11_171 dsc_X11_isReserve ho0 rfl rfl rfl rfl hl.1 (Nat.le_of_ble_eq_true rfl) ⟨Nat.le_of_ble_eq_true rfl, Nat.le_of_ble_eq_true rfl⟩ ⟨Nat.le_of_ble_eq_true rfl, Nat.le_of_ble_eq_true rfl⟩ dX11_setReserve_20 (fun H locs Y => ?_)
  refine lv_if_ne (tgt := 36) hx hb dX11_setReserve_23 (by decide) (fun c23 => ?_) (fun c23 => absurd c23 (by decide))
  refine lv_aload_n hx hb dX11_setReserve_36 rfl (lv_at hl 0 rfl) ?_
  refine h_get X Y (k := 5) (v := .ref (sA S 15)) ho0 rfl hin_X11 (by decide) kfl_X11_46 rfl dX11_setReserve_37 ?_
  refine lv_iload_n hx hb dX11_setReserve_40 rfl (lv_at hl 1 rfl) ?_
  refine h_callVr (rest := []) X Y (c_get l G M (sA S 15) 15 (sA S 16) 16 (sM S) i (fun i => sA S (1000 + 10 * i)) hl15 (he16 (by omega)) (by omega)) rfl rfl gw_X11_150 dsc_Jx4a65c_get_915e3 hlo15 rfl rfl rfl rfl hl.1 (Nat.le_of_ble_eq_true rfl) ⟨Nat.le_of_ble_eq_true rfl, Nat.le_of_ble_eq_true rfl⟩ ⟨Nat.le_of_ble_eq_true rfl, Nat.le_of_ble_eq_true rfl⟩ dX11_setReserve_41 (fun H locs Y => ?_)
  refine h_cast X Y (hCl i (by omega)).1 rfl rfl kcl_X11_181 dX11_setReserve_44 ?_
  have hc0 := (hCl i hi).1
  have hfr : hFr (fun u => u = 1000 + 10 * i) M M := hFr.rf
  refine lv_astore_n (lv' := [(3, .ref (sA S (1000 + 10 * i))), (0, .ref (sA S 0)), (1, .int (nI i)), (2, .int x)]) hx hb dX11_setReserve_47 rfl hl (by decide) rfl (fun ls hl => ?_)
  refine lv_aload_n hx hb dX11_setReserve_48 rfl (lv_at hl 0 rfl) ?_
  refine h_get X Y (k := 4) (v := .int (clI (sC S i) 3)) hc0 rfl hin_X3 (by decide) kfl_X11_198 rfl dX11_setReserve_49 ?_
  refine lv_if_ne (tgt := 65) hx hb dX11_setReserve_52 (by decide) (fun c52 => ?_) (fun c52 => absurd c52 hop)
  refine lv_aload_n hx hb dX11_setReserve_65 rfl (lv_at hl 0 rfl) ?_
  refine h_get X Y (k := 3) (v := .int (clI (sC S i) 2)) hc0 rfl hin_X3 (by decide) kfl_X11_207 rfl dX11_setReserve_66 ?_
  refine lv_istore (lv' := [(4, .int (clI (sC S i) 2)), (3, .ref (sA S (1000 + 10 * i))), (0, .ref (sA S 0)), (1, .int (nI i)), (2, .int x)]) hx hb dX11_setReserve_69 hl (by decide) rfl (fun ls hl => ?_)
  refine lv_aload_n hx hb dX11_setReserve_71 rfl (lv_at hl 1 rfl) ?_
  refine lv_iload_n hx hb dX11_setReserve_72 rfl (lv_at hl 4 rfl) ?_
  refine h_put X Y (k := 3) (v := .int x) hc0 rfl hin_X3 tyX3_ok nmX3 (by decide) kfl_X11_207 rfl rfl rfl (Nat.le_of_ble_eq_true rfl) dX11_setReserve_73 (fun H locs Y => ?_)
  have Y : hHS G (hup M (sA S (1000 + 10 * i)) (1000 + 10 * i, .inr (5, [.int (nI (clY (sC S i))), .int (clI (sC S i) 0), .int (clI (sC S i) 1), .int x, .int (clI (sC S i) 3), .ref (clA (sC S i) 0), .ref (clA (sC S i) 1)]))) s H locs := Y
  have hfr := hfr.put (x := (1000 + 10 * i, .inr (5, [.int (nI (clY (sC S i))), .int (clI (sC S i) 0), .int (clI (sC S i) 1), .int x, .int (clI (sC S i) 3), .ref (clA (sC S i) 0), .ref (clA (sC S i) 1)]))) hc0 rfl
  have hc0 : hup M (sA S (1000 + 10 * i)) (1000 + 10 * i, .inr (5, [.int (nI (clY (sC S i))), .int (clI (sC S i) 0), .int (clI (sC S i) 1), .int x, .int (clI (sC S i) 3), .ref (clA (sC S i) 0), .ref (clA (sC S i) 1)])) (sA S (1000 + 10 * i)) = some (1000 + 10 * i, .inr (5, [.int (nI (clY (sC S i))), .int (clI (sC S i) 0), .int (clI (sC S i) 1), .int x, .int (clI (sC S i) 3), .ref (clA (sC S i) 0), .ref (clA (sC S i) 1)])) := hup_eq
  generalize hup M (sA S (1000 + 10 * i)) (1000 + 10 * i, .inr (5, [.int (nI (clY (sC S i))), .int (clI (sC S i) 0), .int (clI (sC S i) 1), .int x, .int (clI (sC S i) 3), .ref (clA (sC S i) 0), .ref (clA (sC S i) 1)])) = Mz1 at Y hc0 hfr
  refine lv_iload hx hb dX11_setReserve_76 (lv_at hl 0 rfl) ?_
  exact h_iret X Y ⟨rfl, hPv.up hi (hfr.mono (fun u z => by omega)) ⟨hc0, hfr _ _ _ (hCl i hi).2.1 (by omega), hfr _ _ _ (hCl i hi).2.2 (by omega)⟩ rfl, hfr.mono (fun u z => by unfold hZp; omega)⟩ (Nat.le_of_ble_eq_true rfl) (Nat.le_of_ble_eq_true rfl) dX11_setReserve_78
set_option maxHeartbeats 400000 in
set_option maxRecDepth 100000 in
theorem c_close2 (l : Launch) (G : hG) (M : hM) (S : hSy) (h : hHo) (hPv : PV G M S h) (i : Nat) (z : Bool) (hi : i < sM S) : hCT l G yX11_close cX11_close 5 (Option.some FieldType.int) (hRm 6 0 0) M [.ref (sA S 0), .int (nI i), .int (bI z)] (fun v M' => v = some (.int (clI (sC S i) 2)) ∧ PV G M' (sUp S i (cClose (sC S i) z)) h ∧ hFr hZp M M') := by
  refine hCT.of (own := RX11) (nm := "close") (by decide) rfl rfl (Nat.le_of_ble_eq_true rfl) ?_
  intro p e s m args below meth c ls X Y hl
  have hx := X.1
  have hb := X.2.1
  have hl : lv_has ls 5 [(0, .ref (sA S 0)), (1, .int (nI i)), (2, .int (bI z))] := hl
  have hQv := hPv.1
  obtain ⟨hS, hG1, hHo, hCe, hTr, hnow, hyn⟩ := id hQv
  obtain ⟨hN8, hM40, hLG, hCY⟩ := id hG1
  obtain ⟨hl13, he14, hl15, he16, hLa, hCl⟩ := id hS
  obtain ⟨mc13, hlo13⟩ := id hl13
  obtain ⟨mc15, hlo15⟩ := id hl15
  obtain ⟨ho0, ho1, ho17, ho18, ft19, hft19, ho19⟩ := id hHo
  have h40 : sM S ≤ 40 := hPv.1.2.1.2.1
  cases z with
  | false =>
    have hl : lv_has ls 5 [(0, .ref (sA S 0)), (1, .int (nI i)), (2, .int 0)] := hl
    refine lv_aload_n hx hb dX11_close_0 rfl (lv_at hl 0 rfl) ?_
    refine lv_iload_n hx hb dX11_close_1 rfl (lv_at hl 1 rfl) ?_
    refine h_callVr (rest := []) X Y (c_hasClaim l G M S h hQv i (by omega)) rfl rfl gw_X11_190 dsc_X11_hasClaim ho0 rfl rfl rfl rfl hl.1 (Nat.le_of_ble_eq_true rfl) ⟨Nat.le_of_ble_eq_true rfl, Nat.le_of_ble_eq_true rfl⟩ ⟨Nat.le_of_ble_eq_true rfl, Nat.le_of_ble_eq_true rfl⟩ dX11_close_2 (fun H locs Y => ?_)
    refine lv_if_ne (tgt := 18) hx hb dX11_close_5 (by decide) (fun c5 => ?_) (fun c5 => absurd c5 (by decide))
    refine lv_aload_n hx hb dX11_close_18 rfl (lv_at hl 0 rfl) ?_
    refine h_get X Y (k := 5) (v := .ref (sA S 15)) ho0 rfl hin_X11 (by decide) kfl_X11_46 rfl dX11_close_19 ?_
    refine lv_iload_n hx hb dX11_close_22 rfl (lv_at hl 1 rfl) ?_
    refine h_callVr (rest := []) X Y (c_get l G M (sA S 15) 15 (sA S 16) 16 (sM S) i (fun i => sA S (1000 + 10 * i)) hl15 (he16 (by omega)) (by omega)) rfl rfl gw_X11_150 dsc_Jx4a65c_get_915e3 hlo15 rfl rfl rfl rfl hl.1 (Nat.le_of_ble_eq_true rfl) ⟨Nat.le_of_ble_eq_true rfl, Nat.le_of_ble_eq_true rfl⟩ ⟨Nat.le_of_ble_eq_true rfl, Nat.le_of_ble_eq_true rfl⟩ dX11_close_23 (fun H locs Y => ?_)
    refine h_cast X Y (hCl i (by omega)).1 rfl rfl kcl_X11_181 dX11_close_26 ?_
    have hc0 := (hCl i hi).1
    have hfr : hFr (fun u => u = 1000 + 10 * i) M M := hFr.rf
    refine lv_astore_n (lv' := [(3, .ref (sA S (1000 + 10 * i))), (0, .ref (sA S 0)), (1, .int (nI i)), (2, .int 0)]) hx hb dX11_close_29 rfl hl (by decide) rfl (fun ls hl => ?_)
    refine lv_aload_n hx hb dX11_close_30 rfl (lv_at hl 0 rfl) ?_
    refine h_get X Y (k := 3) (v := .int (clI (sC S i) 2)) hc0 rfl hin_X3 (by decide) kfl_X11_207 rfl dX11_close_31 ?_
    refine lv_istore (lv' := [(4, .int (clI (sC S i) 2)), (3, .ref (sA S (1000 + 10 * i))), (0, .ref (sA S 0)), (1, .int (nI i)), (2, .int 0)]) hx hb dX11_close_34 hl (by decide) rfl (fun ls hl => ?_)
    refine lv_aload_n hx hb dX11_close_36 rfl (lv_at hl 1 rfl) ?_
    refine lv_iload_n hx hb dX11_close_37 rfl (lv_at hl 4 rfl) ?_
    refine lv_if_ne (tgt := 45) hx hb dX11_close_38 (by decide) (fun c38 => absurd (by decide) c38) (fun c38 => ?_)
    refine lv_iconst (v := 1) hx hb dX11_close_41 (by decide) ?_
    refine lv_goto (tgt := 46) hx hb dX11_close_42 (by decide) ?_
    refine h_put X Y (k := 4) (v := .int 1) hc0 rfl hin_X3 tyX3_ok nmX3 (by decide) kfl_X11_198 rfl rfl rfl (Nat.le_of_ble_eq_true rfl) dX11_close_46 (fun H locs Y => ?_)
    have Y : hHS G (hup M (sA S (1000 + 10 * i)) (1000 + 10 * i, .inr (5, [.int (nI (clY (sC S i))), .int (clI (sC S i) 0), .int (clI (sC S i) 1), .int (clI (sC S i) 2), .int 1, .ref (clA (sC S i) 0), .ref (clA (sC S i) 1)]))) s H locs := Y
    have hfr := hfr.put (x := (1000 + 10 * i, .inr (5, [.int (nI (clY (sC S i))), .int (clI (sC S i) 0), .int (clI (sC S i) 1), .int (clI (sC S i) 2), .int 1, .ref (clA (sC S i) 0), .ref (clA (sC S i) 1)]))) hc0 rfl
    have hc0 : hup M (sA S (1000 + 10 * i)) (1000 + 10 * i, .inr (5, [.int (nI (clY (sC S i))), .int (clI (sC S i) 0), .int (clI (sC S i) 1), .int (clI (sC S i) 2), .int 1, .ref (clA (sC S i) 0), .ref (clA (sC S i) 1)])) (sA S (1000 + 10 * i)) = some (1000 + 10 * i, .inr (5, [.int (nI (clY (sC S i))), .int (clI (sC S i) 0), .int (clI (sC S i) 1), .int (clI (sC S i) 2), .int 1, .ref (clA (sC S i) 0), .ref (clA (sC S i) 1)])) := hup_eq
    generalize hup M (sA S (1000 + 10 * i)) (1000 + 10 * i, .inr (5, [.int (nI (clY (sC S i))), .int (clI (sC S i) 0), .int (clI (sC S i) 1), .int (clI (sC S i) 2), .int 1, .ref (clA (sC S i) 0), .ref (clA (sC S i) 1)])) = Mz1 at Y hc0 hfr
    refine lv_iload_n hx hb dX11_close_49 rfl (lv_at hl 4 rfl) ?_
    refine lv_if_eq (tgt := 58) hx hb dX11_close_50 (by decide) (fun c50 => ?_) (fun c50 => absurd (by decide) c50)
    refine lv_iload hx hb dX11_close_58 (lv_at hl 0 rfl) ?_
    exact h_iret X Y ⟨rfl, hPv.up hi (hfr.mono (fun u z => by omega)) ⟨hc0, hfr _ _ _ (hCl i hi).2.1 (by omega), hfr _ _ _ (hCl i hi).2.2 (by omega)⟩ rfl, hfr.mono (fun u z => by unfold hZp; omega)⟩ (Nat.le_of_ble_eq_true rfl) (Nat.le_of_ble_eq_true rfl) dX11_close_60
  | true =>
    have hl : lv_has ls 5 [(0, .ref (sA S 0)), (1, .int (nI i)), (2, .int 1)] := hl
    refine lv_aload_n hx hb dX11_close_0 rfl (lv_at hl 0 rfl) ?_
    refine lv_iload_n hx hb dX11_close_1 rfl (lv_at hl 1 rfl) ?_
    refine h_callVr (rest := []) X Y (c_hasClaim l G M S h hQv i (by omega)) rfl rfl gw_X11_190 dsc_X11_hasClaim ho0 rfl rfl rfl rfl hl.1 (Nat.le_of_ble_eq_true rfl) ⟨Nat.le_of_ble_eq_true rfl, Nat.le_of_ble_eq_true rfl⟩ ⟨Nat.le_of_ble_eq_true rfl, Nat.le_of_ble_eq_true rfl⟩ dX11_close_2 (fun H locs Y => ?_)
    refine lv_if_ne (tgt := 18) hx hb dX11_close_5 (by decide) (fun c5 => ?_) (fun c5 => absurd c5 (by decide))
    refine lv_aload_n hx hb dX11_close_18 rfl (lv_at hl 0 rfl) ?_
    refine h_get X Y (k := 5) (v := .ref (sA S 15)) ho0 rfl hin_X11 (by decide) kfl_X11_46 rfl dX11_close_19 ?_
    refine lv_iload_n hx hb dX11_close_22 rfl (lv_at hl 1 rfl) ?_
    refine h_callVr (rest := []) X Y (c_get l G M (sA S 15) 15 (sA S 16) 16 (sM S) i (fun i => sA S (1000 + 10 * i)) hl15 (he16 (by omega)) (by omega)) rfl rfl gw_X11_150 dsc_Jx4a65c_get_915e3 hlo15 rfl rfl rfl rfl hl.1 (Nat.le_of_ble_eq_true rfl) ⟨Nat.le_of_ble_eq_true rfl, Nat.le_of_ble_eq_true rfl⟩ ⟨Nat.le_of_ble_eq_true rfl, Nat.le_of_ble_eq_true rfl⟩ dX11_close_23 (fun H locs Y => ?_)
    refine h_cast X Y (hCl i (by omega)).1 rfl rfl kcl_X11_181 dX11_close_26 ?_
    have hc0 := (hCl i hi).1
    have hfr : hFr (fun u => u = 1000 + 10 * i) M M := hFr.rf
    refine lv_astore_n (lv' := [(3, .ref (sA S (1000 + 10 * i))), (0, .ref (sA S 0)), (1, .int (nI i)), (2, .int 1)]) hx hb dX11_close_29 rfl hl (by decide) rfl (fun ls hl => ?_)
    refine lv_aload_n hx hb dX11_close_30 rfl (lv_at hl 0 rfl) ?_
    refine h_get X Y (k := 3) (v := .int (clI (sC S i) 2)) hc0 rfl hin_X3 (by decide) kfl_X11_207 rfl dX11_close_31 ?_
    refine lv_istore (lv' := [(4, .int (clI (sC S i) 2)), (3, .ref (sA S (1000 + 10 * i))), (0, .ref (sA S 0)), (1, .int (nI i)), (2, .int 1)]) hx hb dX11_close_34 hl (by decide) rfl (fun ls hl => ?_)
    refine lv_aload_n hx hb dX11_close_36 rfl (lv_at hl 1 rfl) ?_
    refine lv_iload_n hx hb dX11_close_37 rfl (lv_at hl 4 rfl) ?_
    refine lv_if_ne (tgt := 45) hx hb dX11_close_38 (by decide) (fun c38 => ?_) (fun c38 => absurd c38 (by decide))
    refine lv_iconst (v := 0) hx hb dX11_close_45 (by decide) ?_
    refine h_put X Y (k := 4) (v := .int 0) hc0 rfl hin_X3 tyX3_ok nmX3 (by decide) kfl_X11_198 rfl rfl rfl (Nat.le_of_ble_eq_true rfl) dX11_close_46 (fun H locs Y => ?_)
    have Y : hHS G (hup M (sA S (1000 + 10 * i)) (1000 + 10 * i, .inr (5, [.int (nI (clY (sC S i))), .int (clI (sC S i) 0), .int (clI (sC S i) 1), .int (clI (sC S i) 2), .int 0, .ref (clA (sC S i) 0), .ref (clA (sC S i) 1)]))) s H locs := Y
    have hfr := hfr.put (x := (1000 + 10 * i, .inr (5, [.int (nI (clY (sC S i))), .int (clI (sC S i) 0), .int (clI (sC S i) 1), .int (clI (sC S i) 2), .int 0, .ref (clA (sC S i) 0), .ref (clA (sC S i) 1)]))) hc0 rfl
    have hc0 : hup M (sA S (1000 + 10 * i)) (1000 + 10 * i, .inr (5, [.int (nI (clY (sC S i))), .int (clI (sC S i) 0), .int (clI (sC S i) 1), .int (clI (sC S i) 2), .int 0, .ref (clA (sC S i) 0), .ref (clA (sC S i) 1)])) (sA S (1000 + 10 * i)) = some (1000 + 10 * i, .inr (5, [.int (nI (clY (sC S i))), .int (clI (sC S i) 0), .int (clI (sC S i) 1), .int (clI (sC S i) 2), .int 0, .ref (clA (sC S i) 0), .ref (clA (sC S i) 1)])) := hup_eq
    generalize hup M (sA S (1000 + 10 * i)) (1000 + 10 * i, .inr (5, [.int (nI (clY (sC S i))), .int (clI (sC S i) 0), .int (clI (sC S i) 1), .int (clI (sC S i) 2), .int 0, .ref (clA (sC S i) 0), .ref (clA (sC S i) 1)])) = Mz2 at Y hc0 hfr
    refine lv_iload_n hx hb dX11_close_49 rfl (lv_at hl 4 rfl) ?_
    refine lv_if_eq (tgt := 58) hx hb dX11_close_50 (by decide) (fun c50 => absurd c50 (by decide)) (fun c50 => ?_)
    refine lv_aload_n hx hb dX11_close_53 rfl (lv_at hl 1 rfl) ?_
    refine lv_iconst (v := 0) hx hb dX11_close_54 (by decide) ?_
    refine h_put X Y (k := 3) (v := .int 0) hc0 rfl hin_X3 tyX3_ok nmX3 (by decide) kfl_X11_207 rfl rfl rfl (Nat.le_of_ble_eq_true rfl) dX11_close_55 (fun H locs Y => ?_)
    have Y : hHS G (hup Mz2 (sA S (1000 + 10 * i)) (1000 + 10 * i, .inr (5, [.int (nI (clY (sC S i))), .int (clI (sC S i) 0), .int (clI (sC S i) 1), .int 0, .int 0, .ref (clA (sC S i) 0), .ref (clA (sC S i) 1)]))) s H locs := Y
    have hfr := hfr.put (x := (1000 + 10 * i, .inr (5, [.int (nI (clY (sC S i))), .int (clI (sC S i) 0), .int (clI (sC S i) 1), .int 0, .int 0, .ref (clA (sC S i) 0), .ref (clA (sC S i) 1)]))) hc0 rfl
    have hc0 : hup Mz2 (sA S (1000 + 10 * i)) (1000 + 10 * i, .inr (5, [.int (nI (clY (sC S i))), .int (clI (sC S i) 0), .int (clI (sC S i) 1), .int 0, .int 0, .ref (clA (sC S i) 0), .ref (clA (sC S i) 1)])) (sA S (1000 + 10 * i)) = some (1000 + 10 * i, .inr (5, [.int (nI (clY (sC S i))), .int (clI (sC S i) 0), .int (clI (sC S i) 1), .int 0, .int 0, .ref (clA (sC S i) 0), .ref (clA (sC S i) 1)])) := hup_eq
    generalize hup Mz2 (sA S (1000 + 10 * i)) (1000 + 10 * i, .inr (5, [.int (nI (clY (sC S i))), .int (clI (sC S i) 0), .int (clI (sC S i) 1), .int 0, .int 0, .ref (clA (sC S i) 0), .ref (clA (sC S i) 1)])) = Mz3 at Y hc0 hfr
    refine lv_iload hx hb dX11_close_58 (lv_at hl 0 rfl) ?_
    exact h_iret X Y ⟨rfl, hPv.up hi (hfr.mono (fun u z => by omega)) ⟨hc0, hfr _ _ _ (hCl i hi).2.1 (by omega), hfr _ _ _ (hCl i hi).2.2 (by omega)⟩ rfl, hfr.mono (fun u z => by unfold hZp; omega)⟩ (Nat.le_of_ble_eq_true rfl) (Nat.le_of_ble_eq_true rfl) dX11_close_60
set_option maxHeartbeats 400000 in
set_option maxRecDepth 100000 in
theorem c_nextYear2 (l : Launch) (G : hG) (M : hM) (S : hSy) (h : hHo) (hPv : PV G M S h) (hn9 : hNow h < 9) : hCT l G yX11_nextYear cX11_nextYear 2 (Option.some FieldType.int) (hRm 4 0 0) M [.ref (sA S 0)] (fun v M' => v = some (.int (nI (hNow h + 1))) ∧ PV G M' (sWd S (hNow h) (sM S)) (hNow h + 1, h.2) ∧ hFr hZp M M') := by
  refine hCT.of (own := RX11) (nm := "nextYear") (by decide) rfl rfl (Nat.le_of_ble_eq_true rfl) ?_
  intro p e s m args below meth c ls X Y hl
  have hx := X.1
  have hb := X.2.1
  have hl : lv_has ls 2 [(0, .ref (sA S 0))] := hl
  have hQv := hPv.1
  obtain ⟨hS, hG1, hHo, hCe, hTr, hnow, hyn⟩ := id hQv
  obtain ⟨hN8, hM40, hLG, hCY⟩ := id hG1
  obtain ⟨hl13, he14, hl15, he16, hLa, hCl⟩ := id hS
  obtain ⟨mc13, hlo13⟩ := id hl13
  obtain ⟨mc15, hlo15⟩ := id hl15
  obtain ⟨ho0, ho1, ho17, ho18, ft19, hft19, ho19⟩ := id hHo
  have h40 : sM S ≤ 40 := hPv.1.2.1.2.1
  refine lv_aload_n hx hb dX11_nextYear_0 rfl (lv_at hl 0 rfl) ?_
  refine h_get X Y (k := 12) (v := .int (nI (hNow h))) ho0 rfl hin_X11 (by decide) kfl_X11_78 rfl dX11_nextYear_1 ?_
  refine lv_bipush (v := 9) hx hb dX11_nextYear_4 (by decide) ?_
  refine lv_icmp_lt (tgt := 19) hx hb dX11_nextYear_6 (by decide) (fun c6 => ?_) (fun c6 => absurd (show ¬ (hNow h) < 9 from fun z9 => c6 ((nI_ltI (a := (hNow h)) (b := 9) (by omega) (by omega)).mpr z9)) (by omega))
  have c6 : (hNow h) < 9 := (nI_ltI (a := (hNow h)) (b := 9) (by omega) (by omega)).mp c6
  refine lv_iconst (v := 0) hx hb dX11_nextYear_19 (by decide) ?_
  refine lv_istore_n (lv' := [(1, .int 0), (0, .ref (sA S 0))]) hx hb dX11_nextYear_20 rfl hl (by decide) rfl (fun ls hl => ?_)
  have loop : ∀ (d k : Nat), k + d = sM S + 1 → k ≤ sM S → ∀ (M1 : hM), PV G M1 (sWd S (hNow h) k) h → hFr hZp M M1 → ∀ (H : Heap) (locs : List Loc) (ls : Array Slot), hHS G M1 s H locs → lv_has ls 2 [(0, .ref (sA S 0)), (1, .int (nI k))] → W p l e (hRm 4 0 0) s m args below meth c H locs 0 0 (MQ below (hQ G (fun v M' => v = some (.int (nI (hNow h + 1))) ∧ PV G M' (sWd S (hNow h) (sM S)) (hNow h + 1, h.2) ∧ hFr hZp M M')) args s 0 0 (hA G)) (F0 m 21 ls []) := by
    intro d
    induction d with
    | zero => intro k h1; intros; exact absurd h1 (by omega)
    | succ d ih =>
      intro k h1 h2 M1 hPv hZf H locs ls Y hl
      have hQv := hPv.1
      obtain ⟨hS, hG1, hHo, hCe, hTr, hnow, hyn⟩ := id hQv
      obtain ⟨hl13, he14, hl15, he16, hLa, hCl⟩ := id hS
      obtain ⟨mc13, hlo13⟩ := id hl13
      obtain ⟨mc15, hlo15⟩ := id hl15
      obtain ⟨ho0, ho1, ho17, ho18, ft19, hft19, ho19⟩ := id hHo
      have hl15 : LsO M1 (sA S 15) 15 (sA S 16) (sM S) := hl15
      have he16 : 0 < sM S → LsE G M1 (sA S 16) 16 (sM S) (fun i => sA S (1000 + 10 * i)) := he16
      have hCl : ∀ i, i < sM S → ClV G M1 (sA S (1000 + 10 * i)) (1000 + 10 * i) (sC (sWd S (hNow h) k) i) := hCl
      have hyn : ∀ i, i < sM S → clY (sC (sWd S (hNow h) k) i) ≤ hNow h := hyn
      refine lv_iload_n hx hb dX11_nextYear_21 rfl (lv_at hl 1 rfl) ?_
      refine lv_aload_n hx hb dX11_nextYear_22 rfl (lv_at hl 0 rfl) ?_
      refine h_get X Y (k := 5) (v := .ref (sA S 15)) ho0 rfl hin_X11 (by decide) kfl_X11_46 rfl dX11_nextYear_23 ?_
      refine h_callVr (rest := [.int (nI k)]) X Y (c_size l G M1 (sA S 15) 15 (sA S 16) (sM S) hl15) rfl rfl gw_X11_176 dsc_Jx4a65c_size_8abf5 hlo15 rfl rfl rfl rfl hl.1 (Nat.le_of_ble_eq_true rfl) ⟨Nat.le_of_ble_eq_true rfl, Nat.le_of_ble_eq_true rfl⟩ ⟨Nat.le_of_ble_eq_true rfl, Nat.le_of_ble_eq_true rfl⟩ dX11_nextYear_26 (fun H locs Y => ?_)
      refine lv_icmp_ge (tgt := 56) hx hb dX11_nextYear_29 (by decide) (fun c29 => ?_) (fun c29 => ?_)
      · have c29 : (sM S) ≤ k := (nI_leI (a := (sM S)) (b := k) (by omega) (by omega)).mp c29
        have hk9 : k = (sM S) := by omega
        subst hk9
        have hfr : hFr (fun u => u = 0) M1 M1 := hFr.rf
        refine lv_aload_n hx hb dX11_nextYear_56 rfl (lv_at hl 0 rfl) ?_
        refine lv_dup hx hb dX11_nextYear_57 rfl ?_
        refine h_get X Y (k := 12) (v := .int (nI (hNow h))) ho0 rfl hin_X11 (by decide) kfl_X11_78 rfl dX11_nextYear_58 ?_
        refine lv_iconst (v := 1) hx hb dX11_nextYear_61 (by decide) ?_
        refine lv_iadd hx hb dX11_nextYear_62 ?_
        refine h_ev (y := nI ((hNow h) + 1)) (nI_1 (hNow h)) ?_
        refine h_put X Y (k := 12) (v := .int (nI ((hNow h) + 1))) ho0 rfl hin_X11 tyX11_ok nmX11 (by decide) kfl_X11_78 rfl rfl rfl (Nat.le_of_ble_eq_true rfl) dX11_nextYear_63 (fun H locs Y => ?_)
        have Y : hHS G (hup M1 (sA S 0) (0, .inr (12, [.ref (sA S 1), .ref (sA S 3), .ref (sA S 8), .ref (sA S 11), .ref (sA S 13), .ref (sA S 15), .ref (sA S (100 * (0 + 1))), .ref (sA S (100 * (1 + 1))), .ref (sA S (100 * (2 + 1))), .ref (sA S 19), .ref (sA S 17), .ref (sA S 18), .int (nI ((hNow h) + 1)), .int (hTail h), .int (hErr h)]))) s H locs := Y
        have hfr := hfr.put (x := (0, .inr (12, [.ref (sA S 1), .ref (sA S 3), .ref (sA S 8), .ref (sA S 11), .ref (sA S 13), .ref (sA S 15), .ref (sA S (100 * (0 + 1))), .ref (sA S (100 * (1 + 1))), .ref (sA S (100 * (2 + 1))), .ref (sA S 19), .ref (sA S 17), .ref (sA S 18), .int (nI ((hNow h) + 1)), .int (hTail h), .int (hErr h)]))) ho0 rfl
        have ho0 : hup M1 (sA S 0) (0, .inr (12, [.ref (sA S 1), .ref (sA S 3), .ref (sA S 8), .ref (sA S 11), .ref (sA S 13), .ref (sA S 15), .ref (sA S (100 * (0 + 1))), .ref (sA S (100 * (1 + 1))), .ref (sA S (100 * (2 + 1))), .ref (sA S 19), .ref (sA S 17), .ref (sA S 18), .int (nI ((hNow h) + 1)), .int (hTail h), .int (hErr h)])) (sA S 0) = some (0, .inr (12, [.ref (sA S 1), .ref (sA S 3), .ref (sA S 8), .ref (sA S 11), .ref (sA S 13), .ref (sA S 15), .ref (sA S (100 * (0 + 1))), .ref (sA S (100 * (1 + 1))), .ref (sA S (100 * (2 + 1))), .ref (sA S 19), .ref (sA S 17), .ref (sA S 18), .int (nI ((hNow h) + 1)), .int (hTail h), .int (hErr h)])) := hup_eq
        generalize hup M1 (sA S 0) (0, .inr (12, [.ref (sA S 1), .ref (sA S 3), .ref (sA S 8), .ref (sA S 11), .ref (sA S 13), .ref (sA S 15), .ref (sA S (100 * (0 + 1))), .ref (sA S (100 * (1 + 1))), .ref (sA S (100 * (2 + 1))), .ref (sA S 19), .ref (sA S 17), .ref (sA S 18), .int (nI ((hNow h) + 1)), .int (hTail h), .int (hErr h)])) = Mz1 at Y ho0 hfr
        refine lv_aload_n hx hb dX11_nextYear_66 rfl (lv_at hl 0 rfl) ?_
        refine h_get X Y (k := 12) (v := .int (nI ((hNow h) + 1))) ho0 rfl hin_X11 (by decide) kfl_X11_78 rfl dX11_nextYear_67 ?_
        exact h_iret X Y ⟨rfl, hPv.year hn9 hfr ho0, hFr.tr hZf (hfr.mono (fun u z => by unfold hZp; omega))⟩ (Nat.le_of_ble_eq_true rfl) (Nat.le_of_ble_eq_true rfl) dX11_nextYear_70
      · have c29 : ¬ (sM S) ≤ k := fun z9 => c29 ((nI_leI (a := (sM S)) (b := k) (by omega) (by omega)).mpr z9)
        refine lv_aload_n hx hb dX11_nextYear_32 rfl (lv_at hl 0 rfl) ?_
        refine h_get X Y (k := 5) (v := .ref (sA S 15)) ho0 rfl hin_X11 (by decide) kfl_X11_46 rfl dX11_nextYear_33 ?_
        refine lv_iload_n hx hb dX11_nextYear_36 rfl (lv_at hl 1 rfl) ?_
        refine h_callVr (rest := []) X Y (c_get l G M1 (sA S 15) 15 (sA S 16) 16 (sM S) k (fun i => sA S (1000 + 10 * i)) hl15 (he16 (by omega)) (by omega)) rfl rfl gw_X11_150 dsc_Jx4a65c_get_915e3 hlo15 rfl rfl rfl rfl hl.1 (Nat.le_of_ble_eq_true rfl) ⟨Nat.le_of_ble_eq_true rfl, Nat.le_of_ble_eq_true rfl⟩ ⟨Nat.le_of_ble_eq_true rfl, Nat.le_of_ble_eq_true rfl⟩ dX11_nextYear_37 (fun H locs Y => ?_)
        refine h_cast X Y (hCl k (by omega)).1 rfl rfl kcl_X11_181 dX11_nextYear_40 ?_
        refine lv_aload_n hx hb dX11_nextYear_43 rfl (lv_at hl 0 rfl) ?_
        refine h_get X Y (k := 12) (v := .int (nI (hNow h))) ho0 rfl hin_X11 (by decide) kfl_X11_78 rfl dX11_nextYear_44 ?_
        refine h_callV (rest := []) X Y (c_writeDown l G M1 (sA S (1000 + 10 * k)) (1000 + 10 * k) (sC (sWd S (hNow h) k) k) (hCl k (by omega)) (hNow h) (hyn k (by omega)) hnow) gw_X11_244 dsc_X3_writeDown (hCl k (by omega)).1 rfl rfl rfl hl.1 rfl (Nat.le_of_ble_eq_true rfl) ⟨Nat.le_of_ble_eq_true rfl, Nat.le_of_ble_eq_true rfl⟩ ⟨Nat.le_of_ble_eq_true rfl, Nat.le_of_ble_eq_true rfl⟩ dX11_nextYear_47 ?_
        rintro _ M2 H locs ⟨rfl, hC2, hf2⟩ Y
        try dsimp only [Option.toList, List.nil_append]
        have hPv : PV G M2 (sWd S (hNow h) (k + 1)) h := (sWd_step S (hNow h) k) ▸ hPv.up (by show k < sM S; omega) (hf2.mono (fun u z => by omega)) hC2 rfl
        have hZf : hFr hZp M M2 := hFr.tr hZf (hf2.mono (fun u z => by have := hG1.2.1; unfold hZp; omega))
        refine lv_iinc (v := nI (k + 1)) (lv' := [(1, .int (nI (k + 1))), (0, .ref (sA S 0))]) hx hb dX11_nextYear_50 hl (k := 1) rfl (nI_1 k) (by decide) rfl (fun ls hl => ?_)
        refine lv_goto (tgt := 21) hx hb dX11_nextYear_53 (by decide) ?_
        exact ih (k + 1) (by omega) (by omega) M2 hPv hZf _ _ _ Y (lv_sub hl [1, 0] rfl)
  exact loop (sM S + 1) 0 (by omega) (by omega) M (by rw [sWd_0]; exact hPv) hFr.rf _ _ _ Y (lv_sub hl [1, 0] rfl)
