-- THE WHOLE TEXT IS READ
/-- the signs of the law's texts: whether bb is net, whether cc has a price -/
def fPat (net at1 : Bool) : List Nat := match net, at1 with
  | false, false => [0, 33, 34, 1, 34, 2, 34, 22, 0, 33, 34, 1, 15, 26, 34, 24, 34, 3, 34, 4, 34, 22, 0, 33, 34, 24, 34, 26, 15, 1, 34, 5, 34, 7, 8, 33, 23, 33, 9, 17, 32, 34, 11, 12, 15, 28, 34, 22, 36]
  | false, true => [0, 33, 34, 1, 34, 2, 34, 22, 0, 33, 34, 1, 15, 26, 34, 24, 34, 3, 34, 4, 34, 22, 0, 33, 34, 24, 34, 26, 15, 1, 34, 5, 34, 6, 34, 7, 8, 33, 23, 33, 9, 17, 32, 34, 11, 12, 15, 28, 34, 22, 36]
  | true, false => [0, 33, 34, 1, 34, 2, 34, 22, 0, 33, 34, 1, 15, 26, 34, 24, 34, 3, 34, 4, 34, 7, 8, 33, 22, 0, 33, 34, 24, 34, 26, 15, 1, 34, 5, 34, 7, 8, 33, 23, 33, 9, 17, 32, 34, 11, 12, 15, 28, 34, 22, 36]
  | true, true => [0, 33, 34, 1, 34, 2, 34, 22, 0, 33, 34, 1, 15, 26, 34, 24, 34, 3, 34, 4, 34, 7, 8, 33, 22, 0, 33, 34, 24, 34, 26, 15, 1, 34, 5, 34, 6, 34, 7, 8, 33, 23, 33, 9, 17, 32, 34, 11, 12, 15, 28, 34, 22, 36]
def gq (qa qb qc : Nat) : Nat → Nat := fun i => match i with | 0 => qa | 1 => qb | _ => qc
theorem fp_00_7 : ∀ i, i < 49 → (fPat false false).getD i 0 < 37 := by decide
theorem fp_00_a : ∀ j, j < 7 → (fPat false false).getD (1 + j) 0 = [33, 34, 1, 34, 2, 34, 22].getD j 0 := by decide
theorem fp_00_b : ∀ j, j < 13 → (fPat false false).getD (9 + j) 0 = [33, 34, 1, 15, 26, 34, 24, 34, 3, 34, 4, 34, 22].getD j 0 := by decide
theorem fp_00_c : ∀ j, j < 25 → (fPat false false).getD (23 + j) 0 = [33, 34, 24, 34, 26, 15, 1, 34, 5, 34, 7, 8, 33, 23, 33, 9, 17, 32, 34, 11, 12, 15, 28, 34, 22].getD j 0 := by decide
theorem gw_X6_55 : GoodIn hGW (wsV RX6 55 RX6 yX6_readLayer (Cond.code yX6_readLayer cX6_readLayer 3 (Option.some (FieldType.object "LossHouse$Layer")) :: hGW)) := hgi4 kml_X6_55 kin_X6_readLayer kse_X6_X6_readLayer_X6_readLayer kini_X6 kco_X6_readLayer
theorem dsc_X6_readLayer : yX6_readLayer.cls = RX6 ∧ yX6_readLayer.cls ≠ "java/lang/invoke/MethodHandle" ∧ yX6_readLayer.cls ≠ "java/lang/invoke/VarHandle" ∧ (parseMethodDescriptor yX6_readLayer.desc).map (fun d => d.parameters.length) = some 0 := ⟨rfl, by decide +kernel, by decide +kernel, by decide +kernel⟩
theorem gw_X6_59 : GoodIn hGW (wsV RX6 59 RJx4a65c yJx4a65c_add_9ea2d (Cond.code yJx4a65c_add_9ea2d cJx4a65c_add_9ea2d 2 (Option.some FieldType.boolean) :: hGW)) := hgi4 kml_X6_59 kin_Jx4a65c_add_9ea2d kse_Jx4a65c_Jx4a65c_add_9ea2d_Jx4a65c_add_9ea2d kini_Jx4a65c kco_Jx4a65c_add_9ea2d
theorem dX6_parse_0 : decode cX6_parse 0 = .ok (.aload_n 0, 1) := by decide +kernel
theorem dX6_parse_1 : decode cX6_parse 1 = .ok (.iconst 0, 1) := by decide +kernel
theorem dX6_parse_2 : decode cX6_parse 2 = .ok (.putfield 25, 3) := by decide +kernel
theorem dX6_parse_5 : decode cX6_parse 5 = .ok (.aload_n 0, 1) := by decide +kernel
theorem dX6_parse_6 : decode cX6_parse 6 = .ok (.aload_n 0, 1) := by decide +kernel
theorem dX6_parse_7 : decode cX6_parse 7 = .ok (.getfield 35, 3) := by decide +kernel
theorem dX6_parse_10 : decode cX6_parse 10 = .ok (.iconst 0, 1) := by decide +kernel
theorem dX6_parse_11 : decode cX6_parse 11 = .ok (.invokevirtual 39, 3) := by decide +kernel
theorem dX6_parse_14 : decode cX6_parse 14 = .ok (.putfield 32, 3) := by decide +kernel
theorem dX6_parse_17 : decode cX6_parse 17 = .ok (.new 45, 3) := by decide +kernel
theorem dX6_parse_20 : decode cX6_parse 20 = .ok (.dup, 1) := by decide +kernel
theorem dX6_parse_21 : decode cX6_parse 21 = .ok (.invokespecial 47, 3) := by decide +kernel
theorem dX6_parse_24 : decode cX6_parse 24 = .ok (.astore_n 1, 1) := by decide +kernel
theorem dX6_parse_25 : decode cX6_parse 25 = .ok (.iconst 0, 1) := by decide +kernel
theorem dX6_parse_26 : decode cX6_parse 26 = .ok (.istore_n 2, 1) := by decide +kernel
theorem dX6_parse_27 : decode cX6_parse 27 = .ok (.iload_n 2, 1) := by decide +kernel
theorem dX6_parse_28 : decode cX6_parse 28 = .ok (.sipush 400, 3) := by decide +kernel
theorem dX6_parse_31 : decode cX6_parse 31 = .ok (.if_icmp .ge 28, 3) := by decide +kernel
theorem dX6_parse_34 : decode cX6_parse 34 = .ok (.aload_n 0, 1) := by decide +kernel
theorem dX6_parse_35 : decode cX6_parse 35 = .ok (.getstatic 48, 3) := by decide +kernel
theorem dX6_parse_38 : decode cX6_parse 38 = .ok (.invokevirtual 51, 3) := by decide +kernel
theorem dX6_parse_41 : decode cX6_parse 41 = .ok (.ifCond .eq 18, 3) := by decide +kernel
theorem dX6_parse_44 : decode cX6_parse 44 = .ok (.aload_n 1, 1) := by decide +kernel
theorem dX6_parse_45 : decode cX6_parse 45 = .ok (.aload_n 0, 1) := by decide +kernel
theorem dX6_parse_46 : decode cX6_parse 46 = .ok (.invokevirtual 55, 3) := by decide +kernel
theorem dX6_parse_49 : decode cX6_parse 49 = .ok (.invokevirtual 59, 3) := by decide +kernel
theorem dX6_parse_52 : decode cX6_parse 52 = .ok (.pop, 1) := by decide +kernel
theorem dX6_parse_53 : decode cX6_parse 53 = .ok (.iinc 2 1, 3) := by decide +kernel
theorem dX6_parse_56 : decode cX6_parse 56 = .ok (.goto (-29), 3) := by decide +kernel
theorem dX6_parse_59 : decode cX6_parse 59 = .ok (.aload_n 0, 1) := by decide +kernel
theorem dX6_parse_60 : decode cX6_parse 60 = .ok (.getfield 32, 3) := by decide +kernel
theorem dX6_parse_63 : decode cX6_parse 63 = .ok (.getstatic 63, 3) := by decide +kernel
theorem dX6_parse_66 : decode cX6_parse 66 = .ok (.if_acmp .eq 10, 3) := by decide +kernel
theorem dX6_parse_76 : decode cX6_parse 76 = .ok (.aload_n 1, 1) := by decide +kernel
theorem dX6_parse_77 : decode cX6_parse 77 = .ok (.areturn, 1) := by decide +kernel
set_option maxHeartbeats 2000000 in
set_option maxRecDepth 100000 in
theorem c_parse00 (l : Launch) (G : hG) (M : hM) (A : Nat → Nat) (N : Nat) (sg : Nat → Nat) (nb : Nat → Int32) (wd : Nat → Int64) (hN : N < 400) (hTk : TkV G M A N sg nb wd) (hNv : N = 48) (hpat : ∀ j, j ≤ 48 → sg j = (fPat false false).getD j 0) (sc np : Nat) (c9 : Nat) (sn : Nat → Option Nat) (nn : Nat → Int32) (hp8 : M (A 8) = some (8, .inr (8, [.ref (A 3), .ref (A 9), .ref (A 10), .int (nI sc), .int (nI np), .ref (hSg G c9)]))) (hp9 : M (A 9) = some (9, .inl (hT G 3, 400, .inr (.inr (.inr (.inr sn)))))) (hp10 : M (A 10) = some (10, .inl (hT G 0, 400, .inl nn))) : hCT l G yX6_parse cX6_parse 3 (Option.some (FieldType.object "java/util/List")) (hRm 12 100 22000) M [.ref (A 8)] (fun v M' => ∃ lst e0 qa qb qc La Lb Lc Fa Fb Fc sc1 sn1 nn1, v = some (.ref lst) ∧ LsO M' lst 3013 e0 3 ∧ LsE G M' e0 3014 3 (gq qa qb qc) ∧ LaP G M' qa 2000 La Fa ∧ LaP G M' qb 2100 Lb Fb ∧ LaP G M' qc 2200 Lc Fc ∧ shA nb 1 La Fa ∧ shB nb 9 Lb Fb ∧ shC nb 23 10 Lc Fc ∧ PaV G M' A sg sc1 48 sn1 nn1 ∧ hFr (fun u => u = 8 ∨ u = 9 ∨ u = 10 ∨ (2000 ≤ u ∧ u < 2300) ∨ u = 3013 ∨ u = 3014) M M') := by
  refine hCT.of (own := RX6) (nm := "parse") (by decide) rfl rfl (Nat.le_of_ble_eq_true rfl) ?_
  intro p e s m args below meth c ls X Y hl
  have hx := X.1
  have hb := X.2.1
  have hl : lv_has ls 3 [(0, .ref (A 8))] := hl
  have hs7 : ∀ i, i ≤ N → sg i < 37 := fun i hi => by rw [hpat i (by omega)]; exact fp_00_7 i (by omega)
  have hg0 : sg 0 = 0 := hpat 0 (by omega)
  have hg8 : sg 8 = 0 := hpat 8 (by omega)
  have hgc : sg 22 = 0 := hpat 22 (by omega)
  have hgn : sg 48 = 36 := hpat 48 (by omega)
  have hfr : hFr (fun u => u = 8 ∨ u = 9 ∨ u = 10 ∨ (2000 ≤ u ∧ u < 2300) ∨ u = 3013 ∨ u = 3014) M M := hFr.rf
  refine lv_aload_n hx hb dX6_parse_0 rfl (lv_at hl 0 rfl) ?_
  refine lv_iconst (v := 0) hx hb dX6_parse_1 (by decide) ?_
  refine h_put X Y (k := 4) (v := .int 0) hp8 rfl hin_X6 tyX6_ok nmX6 (by decide) kfl_X6_25 rfl rfl rfl (Nat.le_of_ble_eq_true rfl) dX6_parse_2 (fun H locs Y => ?_)
  have Y : hHS G (hup M (A 8) (8, .inr (8, [.ref (A 3), .ref (A 9), .ref (A 10), .int (nI sc), .int 0, .ref (hSg G c9)]))) s H locs := Y
  have hp9 := hup_tag (x := (8, .inr (8, [.ref (A 3), .ref (A 9), .ref (A 10), .int (nI sc), .int 0, .ref (hSg G c9)]))) hp9 hp8 (by omega)
  have hp10 := hup_tag (x := (8, .inr (8, [.ref (A 3), .ref (A 9), .ref (A 10), .int (nI sc), .int 0, .ref (hSg G c9)]))) hp10 hp8 (by omega)
  have hTk := hTk.fr (Z := fun u => u = 8 ∨ u = 9 ∨ u = 10) (hFr.put (x := (8, .inr (8, [.ref (A 3), .ref (A 9), .ref (A 10), .int (nI sc), .int 0, .ref (hSg G c9)]))) hFr.rf hp8 (by omega)) (fun j z1 z2 z3 => by omega)
  have hfr := hfr.put (x := (8, .inr (8, [.ref (A 3), .ref (A 9), .ref (A 10), .int (nI sc), .int 0, .ref (hSg G c9)]))) hp8 (by omega)
  have hp8 : hup M (A 8) (8, .inr (8, [.ref (A 3), .ref (A 9), .ref (A 10), .int (nI sc), .int 0, .ref (hSg G c9)])) (A 8) = some (8, .inr (8, [.ref (A 3), .ref (A 9), .ref (A 10), .int (nI sc), .int 0, .ref (hSg G c9)])) := hup_eq
  generalize hup M (A 8) (8, .inr (8, [.ref (A 3), .ref (A 9), .ref (A 10), .int (nI sc), .int 0, .ref (hSg G c9)])) = Mz1 at Y hp8 hp9 hp10 hTk hfr
  refine lv_aload_n hx hb dX6_parse_5 rfl (lv_at hl 0 rfl) ?_
  refine lv_aload_n hx hb dX6_parse_6 rfl (lv_at hl 0 rfl) ?_
  refine h_get X Y (k := 0) (v := .ref (A 3)) hp8 rfl hin_X6 (by decide) kfl_X6_35 rfl dX6_parse_7 ?_
  refine lv_iconst (v := 0) hx hb dX6_parse_10 (by decide) ?_
  refine h_callVr (rest := [.ref (A 8)]) X Y (c_signAt l G Mz1 A N sg nb wd hN hTk 0 (by omega)) rfl rfl gw_X6_39 dsc_X9_signAt hTk.1 rfl rfl rfl rfl hl.1 (Nat.le_of_ble_eq_true rfl) ⟨Nat.le_of_ble_eq_true rfl, Nat.le_of_ble_eq_true rfl⟩ ⟨Nat.le_of_ble_eq_true rfl, Nat.le_of_ble_eq_true rfl⟩ dX6_parse_11 (fun H locs Y => ?_)
  refine h_put X Y (k := 5) (v := .ref (hSg G (sg 0))) hp8 rfl hin_X6 tyX6_ok nmX6 (by decide) kfl_X6_32 rfl rfl rfl (Nat.le_of_ble_eq_true rfl) dX6_parse_14 (fun H locs Y => ?_)
  have Y : hHS G (hup Mz1 (A 8) (8, .inr (8, [.ref (A 3), .ref (A 9), .ref (A 10), .int (nI sc), .int 0, .ref (hSg G (sg 0))]))) s H locs := Y
  have hp9 := hup_tag (x := (8, .inr (8, [.ref (A 3), .ref (A 9), .ref (A 10), .int (nI sc), .int 0, .ref (hSg G (sg 0))]))) hp9 hp8 (by omega)
  have hp10 := hup_tag (x := (8, .inr (8, [.ref (A 3), .ref (A 9), .ref (A 10), .int (nI sc), .int 0, .ref (hSg G (sg 0))]))) hp10 hp8 (by omega)
  have hTk := hTk.fr (Z := fun u => u = 8 ∨ u = 9 ∨ u = 10) (hFr.put (x := (8, .inr (8, [.ref (A 3), .ref (A 9), .ref (A 10), .int (nI sc), .int 0, .ref (hSg G (sg 0))]))) hFr.rf hp8 (by omega)) (fun j z1 z2 z3 => by omega)
  have hfr := hfr.put (x := (8, .inr (8, [.ref (A 3), .ref (A 9), .ref (A 10), .int (nI sc), .int 0, .ref (hSg G (sg 0))]))) hp8 (by omega)
  have hp8 : hup Mz1 (A 8) (8, .inr (8, [.ref (A 3), .ref (A 9), .ref (A 10), .int (nI sc), .int 0, .ref (hSg G (sg 0))])) (A 8) = some (8, .inr (8, [.ref (A 3), .ref (A 9), .ref (A 10), .int (nI sc), .int 0, .ref (hSg G (sg 0))])) := hup_eq
  generalize hup Mz1 (A 8) (8, .inr (8, [.ref (A 3), .ref (A 9), .ref (A 10), .int (nI sc), .int 0, .ref (hSg G (sg 0))])) = Mz2 at Y hp8 hp9 hp10 hTk hfr
  have hPa : PaV G Mz2 A sg sc 0 sn nn := ⟨hp8, hp9, hp10⟩
  refine h_new (ci := 2) X Y (3013) (fs := [.int 0, .null, .int 0]) rfl hin_Jx4a65c tyJx4a65c_ok kcl_X6_45 kinst_Jx4a65c kini_Jx4a65c (fun j hj => match j, hj with | 0, _ => rfl | 1, _ => rfl | 2, _ => rfl | z9 + 3, h9 => absurd h9 (by omega)) (Nat.le_of_ble_eq_true rfl) (Nat.le_of_ble_eq_true rfl) dX6_parse_17 (fun qz3 Mz3 H fz3 hg3 Y => ?_)
  have hTk := hTk.fr (Z := fun _ => False) (hFr.grow hFr.rf hg3) (fun j z1 z2 z => z)
  have hPa := hPa.fr (Z := fun _ => False) (hFr.grow hFr.rf hg3) ⟨id, id, id⟩
  have hfr := hfr.grow hg3
  refine lv_dup hx hb dX6_parse_20 rfl ?_
  refine h_callI (rest := [.ref qz3]) X Y (c_listInit l G Mz3 qz3 3013 fz3) (hgi0 kco_Jx4a65c_init_da8c8) kini_Jx4a65c kml_X6_47 kin_Jx4a65c_init_da8c8 rfl dsc_Jx4a65c_init_da8c8.2 rfl hl.1 rfl (Nat.le_of_ble_eq_true rfl) ⟨Nat.le_of_ble_eq_true rfl, Nat.le_of_ble_eq_true rfl⟩ ⟨Nat.le_of_ble_eq_true rfl, Nat.le_of_ble_eq_true rfl⟩ dX6_parse_21 ?_
  rintro _ Mz4 H locs ⟨rfl, hls, hfa⟩ Y
  try dsimp only [Option.toList, List.nil_append]
  have hTk := hTk.fr hfa (fun j z1 z2 z3 => by omega)
  have hPa := hPa.fr hfa (by omega)
  have hfr := hFr.tr hfr (hfa.mono (fun u z => by omega))
  refine lv_astore_n (lv' := [(1, .ref qz3), (0, .ref (A 8))]) hx hb dX6_parse_24 rfl hl (by decide) rfl (fun ls hl => ?_)
  refine lv_iconst (v := 0) hx hb dX6_parse_25 (by decide) ?_
  refine lv_istore_n (lv' := [(2, .int 0), (1, .ref qz3), (0, .ref (A 8))]) hx hb dX6_parse_26 rfl hl (by decide) rfl (fun ls hl => ?_)
  refine lv_iload_n hx hb dX6_parse_27 rfl (lv_at hl 0 rfl) ?_
  refine lv_sipush (v := 400) hx hb dX6_parse_28 (by decide) ?_
  refine lv_icmp_ge (tgt := 59) hx hb dX6_parse_31 (by decide) (fun c31 => absurd c31 (by decide)) (fun c31 => ?_)
  refine lv_aload_n hx hb dX6_parse_34 rfl (lv_at hl 2 rfl) ?_
  refine h_gets X Y (hsg_Z X.2.2.2.2.2.2.2.2.1 X.2.2.2.2.2.2.2.2.2.1 (k := 0) (by decide)) kfl_X6_48 dX6_parse_35 ?_
  refine h_callV (rest := []) X Y (c_takesY l G Mz4 A N sg nb wd hN hTk hs7 sc 0 sn nn hPa 0 (by omega) hg0 (by omega)) gw_X6_51 dsc_X6_takes hPa.1 rfl rfl rfl hl.1 rfl (Nat.le_of_ble_eq_true rfl) ⟨Nat.le_of_ble_eq_true rfl, Nat.le_of_ble_eq_true rfl⟩ ⟨Nat.le_of_ble_eq_true rfl, Nat.le_of_ble_eq_true rfl⟩ dX6_parse_38 ?_
  rintro _ Mz5 H locs ⟨rfl, hPa, hfa⟩ Y
  try dsimp only [Option.toList, List.nil_append, List.singleton_append]
  have hTk := hTk.fr hfa (fun j z1 z2 z3 => by omega)
  have hls := hfa _ _ _ hls (by omega)
  have hfr := hFr.tr hfr (hfa.mono (fun u z => by omega))
  have hPa : PaV G Mz5 A sg sc 1 sn nn := hPa
  refine lv_if_eq (tgt := 59) hx hb dX6_parse_41 (by decide) (fun c41 => absurd c41 (by decide)) (fun c41 => ?_)
  refine lv_aload_n hx hb dX6_parse_44 rfl (lv_at hl 1 rfl) ?_
  refine lv_aload_n hx hb dX6_parse_45 rfl (lv_at hl 2 rfl) ?_
  refine h_callV (rest := [.ref qz3]) X Y (c_readLa l G Mz5 A N sg nb wd hN hTk hs7 sc 1 sn nn hPa 2000 (by omega) (fun j hj => (hpat (1 + j) (by omega)).trans (fp_00_a j hj)) (by omega)) gw_X6_55 dsc_X6_readLayer hPa.1 rfl rfl rfl hl.1 rfl (Nat.le_of_ble_eq_true rfl) ⟨Nat.le_of_ble_eq_true rfl, Nat.le_of_ble_eq_true rfl⟩ ⟨Nat.le_of_ble_eq_true rfl, Nat.le_of_ble_eq_true rfl⟩ dX6_parse_46 ?_
  rintro _ Mz6 H locs ⟨qa, La, Fa, sca, sna, nna, rfl, hLa, hSa, hPa, hfa⟩ Y
  try dsimp only [Option.toList, List.nil_append, List.singleton_append]
  have hTk := hTk.fr hfa (fun j z1 z2 z3 => by omega)
  have hls := hfa _ _ _ hls (by omega)
  have hfr := hFr.tr hfr (hfa.mono (fun u z => by omega))
  have hPa : PaV G Mz6 A sg sca 8 sna nna := hPa
  refine h_callV (rest := []) X Y (c_add l G Mz6 qz3 3013 3014 0 7 qa 2000 (0) (hDE G) (fun _ => 0) _ hls (by omega) (by omega) tCa_layer (fun i hi => absurd hi (by omega)) hLa.1.1 (by omega) (by omega) (Or.inl ⟨rfl, rfl⟩)) gw_X6_59 dsc_Jx4a65c_add_9ea2d hls rfl rfl rfl hl.1 rfl (Nat.le_of_ble_eq_true rfl) ⟨Nat.le_of_ble_eq_true rfl, Nat.le_of_ble_eq_true rfl⟩ ⟨Nat.le_of_ble_eq_true rfl, Nat.le_of_ble_eq_true rfl⟩ dX6_parse_49 ?_
  rintro _ Mz7 H locs ⟨rfl, e1, cap1, f1, hls, hle, k1, k2, k3, kf, kn, hfa⟩ Y
  try dsimp only [Option.toList, List.singleton_append]
  have hf1a : f1 0 = some qa := kn
  have hTk := hTk.fr hfa (fun j z1 z2 z3 => by omega)
  have hPa := hPa.fr hfa (by omega)
  have hLa := hLa.fr hfa (fun j hj => by omega)
  have hfr := hFr.tr hfr (hfa.mono (fun u z => by omega))
  refine lv_pop hx hb dX6_parse_52 rfl ?_
  refine lv_iinc (v := nI 1) (lv' := [(2, .int (nI 1)), (1, .ref qz3), (0, .ref (A 8))]) hx hb dX6_parse_53 hl (k := 0) rfl (by decide) (by decide) rfl (fun ls hl => ?_)
  refine lv_goto (tgt := 27) hx hb dX6_parse_56 (by decide) ?_
  refine lv_iload_n hx hb dX6_parse_27 rfl (lv_at hl 0 rfl) ?_
  refine lv_sipush (v := 400) hx hb dX6_parse_28 (by decide) ?_
  refine lv_icmp_ge (tgt := 59) hx hb dX6_parse_31 (by decide) (fun c31 => absurd c31 (by decide)) (fun c31 => ?_)
  refine lv_aload_n hx hb dX6_parse_34 rfl (lv_at hl 2 rfl) ?_
  refine h_gets X Y (hsg_Z X.2.2.2.2.2.2.2.2.1 X.2.2.2.2.2.2.2.2.2.1 (k := 0) (by decide)) kfl_X6_48 dX6_parse_35 ?_
  refine h_callV (rest := []) X Y (c_takesY l G Mz7 A N sg nb wd hN hTk hs7 sca 8 sna nna hPa 0 (by omega) hg8 (by omega)) gw_X6_51 dsc_X6_takes hPa.1 rfl rfl rfl hl.1 rfl (Nat.le_of_ble_eq_true rfl) ⟨Nat.le_of_ble_eq_true rfl, Nat.le_of_ble_eq_true rfl⟩ ⟨Nat.le_of_ble_eq_true rfl, Nat.le_of_ble_eq_true rfl⟩ dX6_parse_38 ?_
  rintro _ Mz8 H locs ⟨rfl, hPa, hfa⟩ Y
  try dsimp only [Option.toList, List.nil_append, List.singleton_append]
  have hTk := hTk.fr hfa (fun j z1 z2 z3 => by omega)
  have hLa := hLa.fr hfa (fun j hj => by omega)
  have hls := hfa _ _ _ hls (by omega)
  have hle := hfa _ _ _ hle (by omega)
  have hfr := hFr.tr hfr (hfa.mono (fun u z => by omega))
  have hPa : PaV G Mz8 A sg sca 9 sna nna := hPa
  refine lv_if_eq (tgt := 59) hx hb dX6_parse_41 (by decide) (fun c41 => absurd c41 (by decide)) (fun c41 => ?_)
  refine lv_aload_n hx hb dX6_parse_44 rfl (lv_at hl 1 rfl) ?_
  refine lv_aload_n hx hb dX6_parse_45 rfl (lv_at hl 2 rfl) ?_
  refine h_callV (rest := [.ref qz3]) X Y (c_readLb0 l G Mz8 A N sg nb wd hN hTk hs7 sca 9 sna nna hPa 2100 (by omega) (fun j hj => (hpat (9 + j) (by omega)).trans (fp_00_b j hj)) (by omega)) gw_X6_55 dsc_X6_readLayer hPa.1 rfl rfl rfl hl.1 rfl (Nat.le_of_ble_eq_true rfl) ⟨Nat.le_of_ble_eq_true rfl, Nat.le_of_ble_eq_true rfl⟩ ⟨Nat.le_of_ble_eq_true rfl, Nat.le_of_ble_eq_true rfl⟩ dX6_parse_46 ?_
  rintro _ Mz9 H locs ⟨qb, Lb, Fb, scb, snb, nnb, rfl, hLb, hSb, hPa, hfa⟩ Y
  try dsimp only [Option.toList, List.nil_append, List.singleton_append]
  have hTk := hTk.fr hfa (fun j z1 z2 z3 => by omega)
  have hLa := hLa.fr hfa (fun j hj => by omega)
  have hls := hfa _ _ _ hls (by omega)
  have hle := hfa _ _ _ hle (by omega)
  have hfr := hFr.tr hfr (hfa.mono (fun u z => by omega))
  have hPa : PaV G Mz9 A sg scb 22 snb nnb := hPa
  refine h_callV (rest := []) X Y (c_add l G Mz9 qz3 3013 3014 1 7 qb 2100 (0 + 1) e1 (fun _ => qa) _ hls (by omega) (by omega) tCa_layer (fun i hi => ⟨2000, _, by omega, by omega, hLa.1.1⟩) hLb.1.1 (by omega) (by omega) (Or.inr ⟨cap1, f1, hle, by omega, k2, k3, fun i hi => (show i = 0 by omega) ▸ hf1a⟩)) gw_X6_59 dsc_Jx4a65c_add_9ea2d hls rfl rfl rfl hl.1 rfl (Nat.le_of_ble_eq_true rfl) ⟨Nat.le_of_ble_eq_true rfl, Nat.le_of_ble_eq_true rfl⟩ ⟨Nat.le_of_ble_eq_true rfl, Nat.le_of_ble_eq_true rfl⟩ dX6_parse_49 ?_
  rintro _ Mz10 H locs ⟨rfl, e2, cap2, f2, hls, hle, k1, k2, k3, kf, kn, hfa⟩ Y
  try dsimp only [Option.toList, List.singleton_append]
  have hf2a : f2 0 = some qa := kf 0 (by omega)
  have hf2b : f2 1 = some qb := kn
  have hTk := hTk.fr hfa (fun j z1 z2 z3 => by omega)
  have hPa := hPa.fr hfa (by omega)
  have hLa := hLa.fr hfa (fun j hj => by omega)
  have hLb := hLb.fr hfa (fun j hj => by omega)
  have hfr := hFr.tr hfr (hfa.mono (fun u z => by omega))
  refine lv_pop hx hb dX6_parse_52 rfl ?_
  refine lv_iinc (v := nI 2) (lv' := [(2, .int (nI 2)), (1, .ref qz3), (0, .ref (A 8))]) hx hb dX6_parse_53 hl (k := 0) rfl (by decide) (by decide) rfl (fun ls hl => ?_)
  refine lv_goto (tgt := 27) hx hb dX6_parse_56 (by decide) ?_
  refine lv_iload_n hx hb dX6_parse_27 rfl (lv_at hl 0 rfl) ?_
  refine lv_sipush (v := 400) hx hb dX6_parse_28 (by decide) ?_
  refine lv_icmp_ge (tgt := 59) hx hb dX6_parse_31 (by decide) (fun c31 => absurd c31 (by decide)) (fun c31 => ?_)
  refine lv_aload_n hx hb dX6_parse_34 rfl (lv_at hl 2 rfl) ?_
  refine h_gets X Y (hsg_Z X.2.2.2.2.2.2.2.2.1 X.2.2.2.2.2.2.2.2.2.1 (k := 0) (by decide)) kfl_X6_48 dX6_parse_35 ?_
  refine h_callV (rest := []) X Y (c_takesY l G Mz10 A N sg nb wd hN hTk hs7 scb 22 snb nnb hPa 0 (by omega) hgc (by omega)) gw_X6_51 dsc_X6_takes hPa.1 rfl rfl rfl hl.1 rfl (Nat.le_of_ble_eq_true rfl) ⟨Nat.le_of_ble_eq_true rfl, Nat.le_of_ble_eq_true rfl⟩ ⟨Nat.le_of_ble_eq_true rfl, Nat.le_of_ble_eq_true rfl⟩ dX6_parse_38 ?_
  rintro _ Mz11 H locs ⟨rfl, hPa, hfa⟩ Y
  try dsimp only [Option.toList, List.nil_append, List.singleton_append]
  have hTk := hTk.fr hfa (fun j z1 z2 z3 => by omega)
  have hLa := hLa.fr hfa (fun j hj => by omega)
  have hLb := hLb.fr hfa (fun j hj => by omega)
  have hls := hfa _ _ _ hls (by omega)
  have hle := hfa _ _ _ hle (by omega)
  have hfr := hFr.tr hfr (hfa.mono (fun u z => by omega))
  have hPa : PaV G Mz11 A sg scb 23 snb nnb := hPa
  refine lv_if_eq (tgt := 59) hx hb dX6_parse_41 (by decide) (fun c41 => absurd c41 (by decide)) (fun c41 => ?_)
  refine lv_aload_n hx hb dX6_parse_44 rfl (lv_at hl 1 rfl) ?_
  refine lv_aload_n hx hb dX6_parse_45 rfl (lv_at hl 2 rfl) ?_
  refine h_callV (rest := [.ref qz3]) X Y (c_readLc0 l G Mz11 A N sg nb wd hN hTk hs7 scb 23 snb nnb hPa 2200 (by omega) (fun j hj => (hpat (23 + j) (by omega)).trans (fp_00_c j hj)) (by omega)) gw_X6_55 dsc_X6_readLayer hPa.1 rfl rfl rfl hl.1 rfl (Nat.le_of_ble_eq_true rfl) ⟨Nat.le_of_ble_eq_true rfl, Nat.le_of_ble_eq_true rfl⟩ ⟨Nat.le_of_ble_eq_true rfl, Nat.le_of_ble_eq_true rfl⟩ dX6_parse_46 ?_
  rintro _ Mz12 H locs ⟨qc, Lc, Fc, scc, snc, nnc, rfl, hLc, hSc, hPa, hfa⟩ Y
  try dsimp only [Option.toList, List.nil_append, List.singleton_append]
  have hTk := hTk.fr hfa (fun j z1 z2 z3 => by omega)
  have hLa := hLa.fr hfa (fun j hj => by omega)
  have hLb := hLb.fr hfa (fun j hj => by omega)
  have hls := hfa _ _ _ hls (by omega)
  have hle := hfa _ _ _ hle (by omega)
  have hfr := hFr.tr hfr (hfa.mono (fun u z => by omega))
  have hPa : PaV G Mz12 A sg scc 48 snc nnc := hPa
  refine h_callV (rest := []) X Y (c_add l G Mz12 qz3 3013 3014 2 7 qc 2200 (0 + 1 + 1) e2 (gq qa qb 0) _ hls (by omega) (by omega) tCa_layer (fun i hi => by rcases (show i = 0 ∨ i = 1 by omega) with rfl | rfl; exact ⟨2000, _, by omega, by omega, hLa.1.1⟩; exact ⟨2100, _, by omega, by omega, hLb.1.1⟩) hLc.1.1 (by omega) (by omega) (Or.inr ⟨cap2, f2, hle, by omega, k2, k3, fun i hi => by rcases (show i = 0 ∨ i = 1 by omega) with rfl | rfl; exact hf2a; exact hf2b⟩)) gw_X6_59 dsc_Jx4a65c_add_9ea2d hls rfl rfl rfl hl.1 rfl (Nat.le_of_ble_eq_true rfl) ⟨Nat.le_of_ble_eq_true rfl, Nat.le_of_ble_eq_true rfl⟩ ⟨Nat.le_of_ble_eq_true rfl, Nat.le_of_ble_eq_true rfl⟩ dX6_parse_49 ?_
  rintro _ Mz13 H locs ⟨rfl, e3, cap3, f3, hls, hle, k1, k2, k3, kf, kn, hfa⟩ Y
  try dsimp only [Option.toList, List.singleton_append]
  have hf3 : ∀ i, i < 3 → f3 i = some (gq qa qb qc i) := fun i hi => by rcases (show i = 0 ∨ i = 1 ∨ i = 2 by omega) with rfl | rfl | rfl; exact kf 0 (by omega); exact kf 1 (by omega); exact kn
  have hTk := hTk.fr hfa (fun j z1 z2 z3 => by omega)
  have hPa := hPa.fr hfa (by omega)
  have hLa := hLa.fr hfa (fun j hj => by omega)
  have hLb := hLb.fr hfa (fun j hj => by omega)
  have hLc := hLc.fr hfa (fun j hj => by omega)
  have hfr := hFr.tr hfr (hfa.mono (fun u z => by omega))
  refine lv_pop hx hb dX6_parse_52 rfl ?_
  refine lv_iinc (v := nI 3) (lv' := [(2, .int (nI 3)), (1, .ref qz3), (0, .ref (A 8))]) hx hb dX6_parse_53 hl (k := 0) rfl (by decide) (by decide) rfl (fun ls hl => ?_)
  refine lv_goto (tgt := 27) hx hb dX6_parse_56 (by decide) ?_
  refine lv_iload_n hx hb dX6_parse_27 rfl (lv_at hl 0 rfl) ?_
  refine lv_sipush (v := 400) hx hb dX6_parse_28 (by decide) ?_
  refine lv_icmp_ge (tgt := 59) hx hb dX6_parse_31 (by decide) (fun c31 => absurd c31 (by decide)) (fun c31 => ?_)
  refine lv_aload_n hx hb dX6_parse_34 rfl (lv_at hl 2 rfl) ?_
  refine h_gets X Y (hsg_Z X.2.2.2.2.2.2.2.2.1 X.2.2.2.2.2.2.2.2.2.1 (k := 0) (by decide)) kfl_X6_48 dX6_parse_35 ?_
  refine h_callVr (rest := []) X Y (c_takesN l G Mz13 A N sg nb wd hN hTk hs7 scc 48 snc nnc hPa 0 (by omega) (by omega) (by omega)) rfl rfl gw_X6_51 dsc_X6_takes hPa.1 rfl rfl rfl rfl hl.1 (Nat.le_of_ble_eq_true rfl) ⟨Nat.le_of_ble_eq_true rfl, Nat.le_of_ble_eq_true rfl⟩ ⟨Nat.le_of_ble_eq_true rfl, Nat.le_of_ble_eq_true rfl⟩ dX6_parse_38 (fun H locs Y => ?_)
  refine lv_if_eq (tgt := 59) hx hb dX6_parse_41 (by decide) (fun c41 => ?_) (fun c41 => absurd (by decide) c41)
  refine lv_aload_n hx hb dX6_parse_59 rfl (lv_at hl 2 rfl) ?_
  refine h_get X Y (k := 5) (v := .ref (hSg G (sg 48))) hPa.1 rfl hin_X6 (by decide) kfl_X6_32 rfl dX6_parse_60 ?_
  refine h_gets X Y (hsg_Z X.2.2.2.2.2.2.2.2.1 X.2.2.2.2.2.2.2.2.2.1 (k := 36) (by decide)) kfl_X6_63 dX6_parse_63 ?_
  refine lv_acmp_eq (rx := some (hSg G (sg 48))) (ry := some (hSg G 36)) (tgt := 76) hx hb dX6_parse_66 (by decide) (fun c66 => ?_) (fun c66 => absurd (congrArg (fun z => some (hSg G z)) hgn) c66)
  refine lv_aload_n hx hb dX6_parse_76 rfl (lv_at hl 1 rfl) ?_
  exact h_aret (v := some qz3) X Y (Or.inl ⟨_, rfl⟩) ⟨qz3, e3, qa, qb, qc, La, Lb, Lc, Fa, Fb, Fc, _, _, _, rfl, ⟨_, hls⟩, ⟨cap3, f3, k1, k3, hf3, hle⟩, hLa, hLb, hLc, hSa, hSb, hSc, hPa, hfr⟩ (by show _ ≤ 100; omega) (by show _ ≤ 22000; omega) dX6_parse_77
theorem fp_01_7 : ∀ i, i < 51 → (fPat false true).getD i 0 < 37 := by decide
theorem fp_01_a : ∀ j, j < 7 → (fPat false true).getD (1 + j) 0 = [33, 34, 1, 34, 2, 34, 22].getD j 0 := by decide
theorem fp_01_b : ∀ j, j < 13 → (fPat false true).getD (9 + j) 0 = [33, 34, 1, 15, 26, 34, 24, 34, 3, 34, 4, 34, 22].getD j 0 := by decide
theorem fp_01_c : ∀ j, j < 27 → (fPat false true).getD (23 + j) 0 = [33, 34, 24, 34, 26, 15, 1, 34, 5, 34, 6, 34, 7, 8, 33, 23, 33, 9, 17, 32, 34, 11, 12, 15, 28, 34, 22].getD j 0 := by decide
set_option maxHeartbeats 2000000 in
set_option maxRecDepth 100000 in
theorem c_parse01 (l : Launch) (G : hG) (M : hM) (A : Nat → Nat) (N : Nat) (sg : Nat → Nat) (nb : Nat → Int32) (wd : Nat → Int64) (hN : N < 400) (hTk : TkV G M A N sg nb wd) (hNv : N = 50) (hpat : ∀ j, j ≤ 50 → sg j = (fPat false true).getD j 0) (sc np : Nat) (c9 : Nat) (sn : Nat → Option Nat) (nn : Nat → Int32) (hp8 : M (A 8) = some (8, .inr (8, [.ref (A 3), .ref (A 9), .ref (A 10), .int (nI sc), .int (nI np), .ref (hSg G c9)]))) (hp9 : M (A 9) = some (9, .inl (hT G 3, 400, .inr (.inr (.inr (.inr sn)))))) (hp10 : M (A 10) = some (10, .inl (hT G 0, 400, .inl nn))) : hCT l G yX6_parse cX6_parse 3 (Option.some (FieldType.object "java/util/List")) (hRm 12 100 22000) M [.ref (A 8)] (fun v M' => ∃ lst e0 qa qb qc La Lb Lc Fa Fb Fc sc1 sn1 nn1, v = some (.ref lst) ∧ LsO M' lst 3013 e0 3 ∧ LsE G M' e0 3014 3 (gq qa qb qc) ∧ LaP G M' qa 2000 La Fa ∧ LaP G M' qb 2100 Lb Fb ∧ LaP G M' qc 2200 Lc Fc ∧ shA nb 1 La Fa ∧ shB nb 9 Lb Fb ∧ shC nb 23 12 Lc Fc ∧ PaV G M' A sg sc1 50 sn1 nn1 ∧ hFr (fun u => u = 8 ∨ u = 9 ∨ u = 10 ∨ (2000 ≤ u ∧ u < 2300) ∨ u = 3013 ∨ u = 3014) M M') := by
  refine hCT.of (own := RX6) (nm := "parse") (by decide) rfl rfl (Nat.le_of_ble_eq_true rfl) ?_
  intro p e s m args below meth c ls X Y hl
  have hx := X.1
  have hb := X.2.1
  have hl : lv_has ls 3 [(0, .ref (A 8))] := hl
  have hs7 : ∀ i, i ≤ N → sg i < 37 := fun i hi => by rw [hpat i (by omega)]; exact fp_01_7 i (by omega)
  have hg0 : sg 0 = 0 := hpat 0 (by omega)
  have hg8 : sg 8 = 0 := hpat 8 (by omega)
  have hgc : sg 22 = 0 := hpat 22 (by omega)
  have hgn : sg 50 = 36 := hpat 50 (by omega)
  have hfr : hFr (fun u => u = 8 ∨ u = 9 ∨ u = 10 ∨ (2000 ≤ u ∧ u < 2300) ∨ u = 3013 ∨ u = 3014) M M := hFr.rf
  refine lv_aload_n hx hb dX6_parse_0 rfl (lv_at hl 0 rfl) ?_
  refine lv_iconst (v := 0) hx hb dX6_parse_1 (by decide) ?_
  refine h_put X Y (k := 4) (v := .int 0) hp8 rfl hin_X6 tyX6_ok nmX6 (by decide) kfl_X6_25 rfl rfl rfl (Nat.le_of_ble_eq_true rfl) dX6_parse_2 (fun H locs Y => ?_)
  have Y : hHS G (hup M (A 8) (8, .inr (8, [.ref (A 3), .ref (A 9), .ref (A 10), .int (nI sc), .int 0, .ref (hSg G c9)]))) s H locs := Y
  have hp9 := hup_tag (x := (8, .inr (8, [.ref (A 3), .ref (A 9), .ref (A 10), .int (nI sc), .int 0, .ref (hSg G c9)]))) hp9 hp8 (by omega)
  have hp10 := hup_tag (x := (8, .inr (8, [.ref (A 3), .ref (A 9), .ref (A 10), .int (nI sc), .int 0, .ref (hSg G c9)]))) hp10 hp8 (by omega)
  have hTk := hTk.fr (Z := fun u => u = 8 ∨ u = 9 ∨ u = 10) (hFr.put (x := (8, .inr (8, [.ref (A 3), .ref (A 9), .ref (A 10), .int (nI sc), .int 0, .ref (hSg G c9)]))) hFr.rf hp8 (by omega)) (fun j z1 z2 z3 => by omega)
  have hfr := hfr.put (x := (8, .inr (8, [.ref (A 3), .ref (A 9), .ref (A 10), .int (nI sc), .int 0, .ref (hSg G c9)]))) hp8 (by omega)
  have hp8 : hup M (A 8) (8, .inr (8, [.ref (A 3), .ref (A 9), .ref (A 10), .int (nI sc), .int 0, .ref (hSg G c9)])) (A 8) = some (8, .inr (8, [.ref (A 3), .ref (A 9), .ref (A 10), .int (nI sc), .int 0, .ref (hSg G c9)])) := hup_eq
  generalize hup M (A 8) (8, .inr (8, [.ref (A 3), .ref (A 9), .ref (A 10), .int (nI sc), .int 0, .ref (hSg G c9)])) = Mz1 at Y hp8 hp9 hp10 hTk hfr
  refine lv_aload_n hx hb dX6_parse_5 rfl (lv_at hl 0 rfl) ?_
  refine lv_aload_n hx hb dX6_parse_6 rfl (lv_at hl 0 rfl) ?_
  refine h_get X Y (k := 0) (v := .ref (A 3)) hp8 rfl hin_X6 (by decide) kfl_X6_35 rfl dX6_parse_7 ?_
  refine lv_iconst (v := 0) hx hb dX6_parse_10 (by decide) ?_
  refine h_callVr (rest := [.ref (A 8)]) X Y (c_signAt l G Mz1 A N sg nb wd hN hTk 0 (by omega)) rfl rfl gw_X6_39 dsc_X9_signAt hTk.1 rfl rfl rfl rfl hl.1 (Nat.le_of_ble_eq_true rfl) ⟨Nat.le_of_ble_eq_true rfl, Nat.le_of_ble_eq_true rfl⟩ ⟨Nat.le_of_ble_eq_true rfl, Nat.le_of_ble_eq_true rfl⟩ dX6_parse_11 (fun H locs Y => ?_)
  refine h_put X Y (k := 5) (v := .ref (hSg G (sg 0))) hp8 rfl hin_X6 tyX6_ok nmX6 (by decide) kfl_X6_32 rfl rfl rfl (Nat.le_of_ble_eq_true rfl) dX6_parse_14 (fun H locs Y => ?_)
  have Y : hHS G (hup Mz1 (A 8) (8, .inr (8, [.ref (A 3), .ref (A 9), .ref (A 10), .int (nI sc), .int 0, .ref (hSg G (sg 0))]))) s H locs := Y
  have hp9 := hup_tag (x := (8, .inr (8, [.ref (A 3), .ref (A 9), .ref (A 10), .int (nI sc), .int 0, .ref (hSg G (sg 0))]))) hp9 hp8 (by omega)
  have hp10 := hup_tag (x := (8, .inr (8, [.ref (A 3), .ref (A 9), .ref (A 10), .int (nI sc), .int 0, .ref (hSg G (sg 0))]))) hp10 hp8 (by omega)
  have hTk := hTk.fr (Z := fun u => u = 8 ∨ u = 9 ∨ u = 10) (hFr.put (x := (8, .inr (8, [.ref (A 3), .ref (A 9), .ref (A 10), .int (nI sc), .int 0, .ref (hSg G (sg 0))]))) hFr.rf hp8 (by omega)) (fun j z1 z2 z3 => by omega)
  have hfr := hfr.put (x := (8, .inr (8, [.ref (A 3), .ref (A 9), .ref (A 10), .int (nI sc), .int 0, .ref (hSg G (sg 0))]))) hp8 (by omega)
  have hp8 : hup Mz1 (A 8) (8, .inr (8, [.ref (A 3), .ref (A 9), .ref (A 10), .int (nI sc), .int 0, .ref (hSg G (sg 0))])) (A 8) = some (8, .inr (8, [.ref (A 3), .ref (A 9), .ref (A 10), .int (nI sc), .int 0, .ref (hSg G (sg 0))])) := hup_eq
  generalize hup Mz1 (A 8) (8, .inr (8, [.ref (A 3), .ref (A 9), .ref (A 10), .int (nI sc), .int 0, .ref (hSg G (sg 0))])) = Mz2 at Y hp8 hp9 hp10 hTk hfr
  have hPa : PaV G Mz2 A sg sc 0 sn nn := ⟨hp8, hp9, hp10⟩
  refine h_new (ci := 2) X Y (3013) (fs := [.int 0, .null, .int 0]) rfl hin_Jx4a65c tyJx4a65c_ok kcl_X6_45 kinst_Jx4a65c kini_Jx4a65c (fun j hj => match j, hj with | 0, _ => rfl | 1, _ => rfl | 2, _ => rfl | z9 + 3, h9 => absurd h9 (by omega)) (Nat.le_of_ble_eq_true rfl) (Nat.le_of_ble_eq_true rfl) dX6_parse_17 (fun qz3 Mz3 H fz3 hg3 Y => ?_)
  have hTk := hTk.fr (Z := fun _ => False) (hFr.grow hFr.rf hg3) (fun j z1 z2 z => z)
  have hPa := hPa.fr (Z := fun _ => False) (hFr.grow hFr.rf hg3) ⟨id, id, id⟩
  have hfr := hfr.grow hg3
  refine lv_dup hx hb dX6_parse_20 rfl ?_
  refine h_callI (rest := [.ref qz3]) X Y (c_listInit l G Mz3 qz3 3013 fz3) (hgi0 kco_Jx4a65c_init_da8c8) kini_Jx4a65c kml_X6_47 kin_Jx4a65c_init_da8c8 rfl dsc_Jx4a65c_init_da8c8.2 rfl hl.1 rfl (Nat.le_of_ble_eq_true rfl) ⟨Nat.le_of_ble_eq_true rfl, Nat.le_of_ble_eq_true rfl⟩ ⟨Nat.le_of_ble_eq_true rfl, Nat.le_of_ble_eq_true rfl⟩ dX6_parse_21 ?_
  rintro _ Mz4 H locs ⟨rfl, hls, hfa⟩ Y
  try dsimp only [Option.toList, List.nil_append]
  have hTk := hTk.fr hfa (fun j z1 z2 z3 => by omega)
  have hPa := hPa.fr hfa (by omega)
  have hfr := hFr.tr hfr (hfa.mono (fun u z => by omega))
  refine lv_astore_n (lv' := [(1, .ref qz3), (0, .ref (A 8))]) hx hb dX6_parse_24 rfl hl (by decide) rfl (fun ls hl => ?_)
  refine lv_iconst (v := 0) hx hb dX6_parse_25 (by decide) ?_
  refine lv_istore_n (lv' := [(2, .int 0), (1, .ref qz3), (0, .ref (A 8))]) hx hb dX6_parse_26 rfl hl (by decide) rfl (fun ls hl => ?_)
  refine lv_iload_n hx hb dX6_parse_27 rfl (lv_at hl 0 rfl) ?_
  refine lv_sipush (v := 400) hx hb dX6_parse_28 (by decide) ?_
  refine lv_icmp_ge (tgt := 59) hx hb dX6_parse_31 (by decide) (fun c31 => absurd c31 (by decide)) (fun c31 => ?_)
  refine lv_aload_n hx hb dX6_parse_34 rfl (lv_at hl 2 rfl) ?_
  refine h_gets X Y (hsg_Z X.2.2.2.2.2.2.2.2.1 X.2.2.2.2.2.2.2.2.2.1 (k := 0) (by decide)) kfl_X6_48 dX6_parse_35 ?_
  refine h_callV (rest := []) X Y (c_takesY l G Mz4 A N sg nb wd hN hTk hs7 sc 0 sn nn hPa 0 (by omega) hg0 (by omega)) gw_X6_51 dsc_X6_takes hPa.1 rfl rfl rfl hl.1 rfl (Nat.le_of_ble_eq_true rfl) ⟨Nat.le_of_ble_eq_true rfl, Nat.le_of_ble_eq_true rfl⟩ ⟨Nat.le_of_ble_eq_true rfl, Nat.le_of_ble_eq_true rfl⟩ dX6_parse_38 ?_
  rintro _ Mz5 H locs ⟨rfl, hPa, hfa⟩ Y
  try dsimp only [Option.toList, List.nil_append, List.singleton_append]
  have hTk := hTk.fr hfa (fun j z1 z2 z3 => by omega)
  have hls := hfa _ _ _ hls (by omega)
  have hfr := hFr.tr hfr (hfa.mono (fun u z => by omega))
  have hPa : PaV G Mz5 A sg sc 1 sn nn := hPa
  refine lv_if_eq (tgt := 59) hx hb dX6_parse_41 (by decide) (fun c41 => absurd c41 (by decide)) (fun c41 => ?_)
  refine lv_aload_n hx hb dX6_parse_44 rfl (lv_at hl 1 rfl) ?_
  refine lv_aload_n hx hb dX6_parse_45 rfl (lv_at hl 2 rfl) ?_
  refine h_callV (rest := [.ref qz3]) X Y (c_readLa l G Mz5 A N sg nb wd hN hTk hs7 sc 1 sn nn hPa 2000 (by omega) (fun j hj => (hpat (1 + j) (by omega)).trans (fp_01_a j hj)) (by omega)) gw_X6_55 dsc_X6_readLayer hPa.1 rfl rfl rfl hl.1 rfl (Nat.le_of_ble_eq_true rfl) ⟨Nat.le_of_ble_eq_true rfl, Nat.le_of_ble_eq_true rfl⟩ ⟨Nat.le_of_ble_eq_true rfl, Nat.le_of_ble_eq_true rfl⟩ dX6_parse_46 ?_
  rintro _ Mz6 H locs ⟨qa, La, Fa, sca, sna, nna, rfl, hLa, hSa, hPa, hfa⟩ Y
  try dsimp only [Option.toList, List.nil_append, List.singleton_append]
  have hTk := hTk.fr hfa (fun j z1 z2 z3 => by omega)
  have hls := hfa _ _ _ hls (by omega)
  have hfr := hFr.tr hfr (hfa.mono (fun u z => by omega))
  have hPa : PaV G Mz6 A sg sca 8 sna nna := hPa
  refine h_callV (rest := []) X Y (c_add l G Mz6 qz3 3013 3014 0 7 qa 2000 (0) (hDE G) (fun _ => 0) _ hls (by omega) (by omega) tCa_layer (fun i hi => absurd hi (by omega)) hLa.1.1 (by omega) (by omega) (Or.inl ⟨rfl, rfl⟩)) gw_X6_59 dsc_Jx4a65c_add_9ea2d hls rfl rfl rfl hl.1 rfl (Nat.le_of_ble_eq_true rfl) ⟨Nat.le_of_ble_eq_true rfl, Nat.le_of_ble_eq_true rfl⟩ ⟨Nat.le_of_ble_eq_true rfl, Nat.le_of_ble_eq_true rfl⟩ dX6_parse_49 ?_
  rintro _ Mz7 H locs ⟨rfl, e1, cap1, f1, hls, hle, k1, k2, k3, kf, kn, hfa⟩ Y
  try dsimp only [Option.toList, List.singleton_append]
  have hf1a : f1 0 = some qa := kn
  have hTk := hTk.fr hfa (fun j z1 z2 z3 => by omega)
  have hPa := hPa.fr hfa (by omega)
  have hLa := hLa.fr hfa (fun j hj => by omega)
  have hfr := hFr.tr hfr (hfa.mono (fun u z => by omega))
  refine lv_pop hx hb dX6_parse_52 rfl ?_
  refine lv_iinc (v := nI 1) (lv' := [(2, .int (nI 1)), (1, .ref qz3), (0, .ref (A 8))]) hx hb dX6_parse_53 hl (k := 0) rfl (by decide) (by decide) rfl (fun ls hl => ?_)
  refine lv_goto (tgt := 27) hx hb dX6_parse_56 (by decide) ?_
  refine lv_iload_n hx hb dX6_parse_27 rfl (lv_at hl 0 rfl) ?_
  refine lv_sipush (v := 400) hx hb dX6_parse_28 (by decide) ?_
  refine lv_icmp_ge (tgt := 59) hx hb dX6_parse_31 (by decide) (fun c31 => absurd c31 (by decide)) (fun c31 => ?_)
  refine lv_aload_n hx hb dX6_parse_34 rfl (lv_at hl 2 rfl) ?_
  refine h_gets X Y (hsg_Z X.2.2.2.2.2.2.2.2.1 X.2.2.2.2.2.2.2.2.2.1 (k := 0) (by decide)) kfl_X6_48 dX6_parse_35 ?_
  refine h_callV (rest := []) X Y (c_takesY l G Mz7 A N sg nb wd hN hTk hs7 sca 8 sna nna hPa 0 (by omega) hg8 (by omega)) gw_X6_51 dsc_X6_takes hPa.1 rfl rfl rfl hl.1 rfl (Nat.le_of_ble_eq_true rfl) ⟨Nat.le_of_ble_eq_true rfl, Nat.le_of_ble_eq_true rfl⟩ ⟨Nat.le_of_ble_eq_true rfl, Nat.le_of_ble_eq_true rfl⟩ dX6_parse_38 ?_
  rintro _ Mz8 H locs ⟨rfl, hPa, hfa⟩ Y
  try dsimp only [Option.toList, List.nil_append, List.singleton_append]
  have hTk := hTk.fr hfa (fun j z1 z2 z3 => by omega)
  have hLa := hLa.fr hfa (fun j hj => by omega)
  have hls := hfa _ _ _ hls (by omega)
  have hle := hfa _ _ _ hle (by omega)
  have hfr := hFr.tr hfr (hfa.mono (fun u z => by omega))
  have hPa : PaV G Mz8 A sg sca 9 sna nna := hPa
  refine lv_if_eq (tgt := 59) hx hb dX6_parse_41 (by decide) (fun c41 => absurd c41 (by decide)) (fun c41 => ?_)
  refine lv_aload_n hx hb dX6_parse_44 rfl (lv_at hl 1 rfl) ?_
  refine lv_aload_n hx hb dX6_parse_45 rfl (lv_at hl 2 rfl) ?_
  refine h_callV (rest := [.ref qz3]) X Y (c_readLb0 l G Mz8 A N sg nb wd hN hTk hs7 sca 9 sna nna hPa 2100 (by omega) (fun j hj => (hpat (9 + j) (by omega)).trans (fp_01_b j hj)) (by omega)) gw_X6_55 dsc_X6_readLayer hPa.1 rfl rfl rfl hl.1 rfl (Nat.le_of_ble_eq_true rfl) ⟨Nat.le_of_ble_eq_true rfl, Nat.le_of_ble_eq_true rfl⟩ ⟨Nat.le_of_ble_eq_true rfl, Nat.le_of_ble_eq_true rfl⟩ dX6_parse_46 ?_
  rintro _ Mz9 H locs ⟨qb, Lb, Fb, scb, snb, nnb, rfl, hLb, hSb, hPa, hfa⟩ Y
  try dsimp only [Option.toList, List.nil_append, List.singleton_append]
  have hTk := hTk.fr hfa (fun j z1 z2 z3 => by omega)
  have hLa := hLa.fr hfa (fun j hj => by omega)
  have hls := hfa _ _ _ hls (by omega)
  have hle := hfa _ _ _ hle (by omega)
  have hfr := hFr.tr hfr (hfa.mono (fun u z => by omega))
  have hPa : PaV G Mz9 A sg scb 22 snb nnb := hPa
  refine h_callV (rest := []) X Y (c_add l G Mz9 qz3 3013 3014 1 7 qb 2100 (0 + 1) e1 (fun _ => qa) _ hls (by omega) (by omega) tCa_layer (fun i hi => ⟨2000, _, by omega, by omega, hLa.1.1⟩) hLb.1.1 (by omega) (by omega) (Or.inr ⟨cap1, f1, hle, by omega, k2, k3, fun i hi => (show i = 0 by omega) ▸ hf1a⟩)) gw_X6_59 dsc_Jx4a65c_add_9ea2d hls rfl rfl rfl hl.1 rfl (Nat.le_of_ble_eq_true rfl) ⟨Nat.le_of_ble_eq_true rfl, Nat.le_of_ble_eq_true rfl⟩ ⟨Nat.le_of_ble_eq_true rfl, Nat.le_of_ble_eq_true rfl⟩ dX6_parse_49 ?_
  rintro _ Mz10 H locs ⟨rfl, e2, cap2, f2, hls, hle, k1, k2, k3, kf, kn, hfa⟩ Y
  try dsimp only [Option.toList, List.singleton_append]
  have hf2a : f2 0 = some qa := kf 0 (by omega)
  have hf2b : f2 1 = some qb := kn
  have hTk := hTk.fr hfa (fun j z1 z2 z3 => by omega)
  have hPa := hPa.fr hfa (by omega)
  have hLa := hLa.fr hfa (fun j hj => by omega)
  have hLb := hLb.fr hfa (fun j hj => by omega)
  have hfr := hFr.tr hfr (hfa.mono (fun u z => by omega))
  refine lv_pop hx hb dX6_parse_52 rfl ?_
  refine lv_iinc (v := nI 2) (lv' := [(2, .int (nI 2)), (1, .ref qz3), (0, .ref (A 8))]) hx hb dX6_parse_53 hl (k := 0) rfl (by decide) (by decide) rfl (fun ls hl => ?_)
  refine lv_goto (tgt := 27) hx hb dX6_parse_56 (by decide) ?_
  refine lv_iload_n hx hb dX6_parse_27 rfl (lv_at hl 0 rfl) ?_
  refine lv_sipush (v := 400) hx hb dX6_parse_28 (by decide) ?_
  refine lv_icmp_ge (tgt := 59) hx hb dX6_parse_31 (by decide) (fun c31 => absurd c31 (by decide)) (fun c31 => ?_)
  refine lv_aload_n hx hb dX6_parse_34 rfl (lv_at hl 2 rfl) ?_
  refine h_gets X Y (hsg_Z X.2.2.2.2.2.2.2.2.1 X.2.2.2.2.2.2.2.2.2.1 (k := 0) (by decide)) kfl_X6_48 dX6_parse_35 ?_
  refine h_callV (rest := []) X Y (c_takesY l G Mz10 A N sg nb wd hN hTk hs7 scb 22 snb nnb hPa 0 (by omega) hgc (by omega)) gw_X6_51 dsc_X6_takes hPa.1 rfl rfl rfl hl.1 rfl (Nat.le_of_ble_eq_true rfl) ⟨Nat.le_of_ble_eq_true rfl, Nat.le_of_ble_eq_true rfl⟩ ⟨Nat.le_of_ble_eq_true rfl, Nat.le_of_ble_eq_true rfl⟩ dX6_parse_38 ?_
  rintro _ Mz11 H locs ⟨rfl, hPa, hfa⟩ Y
  try dsimp only [Option.toList, List.nil_append, List.singleton_append]
  have hTk := hTk.fr hfa (fun j z1 z2 z3 => by omega)
  have hLa := hLa.fr hfa (fun j hj => by omega)
  have hLb := hLb.fr hfa (fun j hj => by omega)
  have hls := hfa _ _ _ hls (by omega)
  have hle := hfa _ _ _ hle (by omega)
  have hfr := hFr.tr hfr (hfa.mono (fun u z => by omega))
  have hPa : PaV G Mz11 A sg scb 23 snb nnb := hPa
  refine lv_if_eq (tgt := 59) hx hb dX6_parse_41 (by decide) (fun c41 => absurd c41 (by decide)) (fun c41 => ?_)
  refine lv_aload_n hx hb dX6_parse_44 rfl (lv_at hl 1 rfl) ?_
  refine lv_aload_n hx hb dX6_parse_45 rfl (lv_at hl 2 rfl) ?_
  refine h_callV (rest := [.ref qz3]) X Y (c_readLc1 l G Mz11 A N sg nb wd hN hTk hs7 scb 23 snb nnb hPa 2200 (by omega) (fun j hj => (hpat (23 + j) (by omega)).trans (fp_01_c j hj)) (by omega)) gw_X6_55 dsc_X6_readLayer hPa.1 rfl rfl rfl hl.1 rfl (Nat.le_of_ble_eq_true rfl) ⟨Nat.le_of_ble_eq_true rfl, Nat.le_of_ble_eq_true rfl⟩ ⟨Nat.le_of_ble_eq_true rfl, Nat.le_of_ble_eq_true rfl⟩ dX6_parse_46 ?_
  rintro _ Mz12 H locs ⟨qc, Lc, Fc, scc, snc, nnc, rfl, hLc, hSc, hPa, hfa⟩ Y
  try dsimp only [Option.toList, List.nil_append, List.singleton_append]
  have hTk := hTk.fr hfa (fun j z1 z2 z3 => by omega)
  have hLa := hLa.fr hfa (fun j hj => by omega)
  have hLb := hLb.fr hfa (fun j hj => by omega)
  have hls := hfa _ _ _ hls (by omega)
  have hle := hfa _ _ _ hle (by omega)
  have hfr := hFr.tr hfr (hfa.mono (fun u z => by omega))
  have hPa : PaV G Mz12 A sg scc 50 snc nnc := hPa
  refine h_callV (rest := []) X Y (c_add l G Mz12 qz3 3013 3014 2 7 qc 2200 (0 + 1 + 1) e2 (gq qa qb 0) _ hls (by omega) (by omega) tCa_layer (fun i hi => by rcases (show i = 0 ∨ i = 1 by omega) with rfl | rfl; exact ⟨2000, _, by omega, by omega, hLa.1.1⟩; exact ⟨2100, _, by omega, by omega, hLb.1.1⟩) hLc.1.1 (by omega) (by omega) (Or.inr ⟨cap2, f2, hle, by omega, k2, k3, fun i hi => by rcases (show i = 0 ∨ i = 1 by omega) with rfl | rfl; exact hf2a; exact hf2b⟩)) gw_X6_59 dsc_Jx4a65c_add_9ea2d hls rfl rfl rfl hl.1 rfl (Nat.le_of_ble_eq_true rfl) ⟨Nat.le_of_ble_eq_true rfl, Nat.le_of_ble_eq_true rfl⟩ ⟨Nat.le_of_ble_eq_true rfl, Nat.le_of_ble_eq_true rfl⟩ dX6_parse_49 ?_
  rintro _ Mz13 H locs ⟨rfl, e3, cap3, f3, hls, hle, k1, k2, k3, kf, kn, hfa⟩ Y
  try dsimp only [Option.toList, List.singleton_append]
  have hf3 : ∀ i, i < 3 → f3 i = some (gq qa qb qc i) := fun i hi => by rcases (show i = 0 ∨ i = 1 ∨ i = 2 by omega) with rfl | rfl | rfl; exact kf 0 (by omega); exact kf 1 (by omega); exact kn
  have hTk := hTk.fr hfa (fun j z1 z2 z3 => by omega)
  have hPa := hPa.fr hfa (by omega)
  have hLa := hLa.fr hfa (fun j hj => by omega)
  have hLb := hLb.fr hfa (fun j hj => by omega)
  have hLc := hLc.fr hfa (fun j hj => by omega)
  have hfr := hFr.tr hfr (hfa.mono (fun u z => by omega))
  refine lv_pop hx hb dX6_parse_52 rfl ?_
  refine lv_iinc (v := nI 3) (lv' := [(2, .int (nI 3)), (1, .ref qz3), (0, .ref (A 8))]) hx hb dX6_parse_53 hl (k := 0) rfl (by decide) (by decide) rfl (fun ls hl => ?_)
  refine lv_goto (tgt := 27) hx hb dX6_parse_56 (by decide) ?_
  refine lv_iload_n hx hb dX6_parse_27 rfl (lv_at hl 0 rfl) ?_
  refine lv_sipush (v := 400) hx hb dX6_parse_28 (by decide) ?_
  refine lv_icmp_ge (tgt := 59) hx hb dX6_parse_31 (by decide) (fun c31 => absurd c31 (by decide)) (fun c31 => ?_)
  refine lv_aload_n hx hb dX6_parse_34 rfl (lv_at hl 2 rfl) ?_
  refine h_gets X Y (hsg_Z X.2.2.2.2.2.2.2.2.1 X.2.2.2.2.2.2.2.2.2.1 (k := 0) (by decide)) kfl_X6_48 dX6_parse_35 ?_
  refine h_callVr (rest := []) X Y (c_takesN l G Mz13 A N sg nb wd hN hTk hs7 scc 50 snc nnc hPa 0 (by omega) (by omega) (by omega)) rfl rfl gw_X6_51 dsc_X6_takes hPa.1 rfl rfl rfl rfl hl.1 (Nat.le_of_ble_eq_true rfl) ⟨Nat.le_of_ble_eq_true rfl, Nat.le_of_ble_eq_true rfl⟩ ⟨Nat.le_of_ble_eq_true rfl, Nat.le_of_ble_eq_true rfl⟩ dX6_parse_38 (fun H locs Y => ?_)
  refine lv_if_eq (tgt := 59) hx hb dX6_parse_41 (by decide) (fun c41 => ?_) (fun c41 => absurd (by decide) c41)
  refine lv_aload_n hx hb dX6_parse_59 rfl (lv_at hl 2 rfl) ?_
  refine h_get X Y (k := 5) (v := .ref (hSg G (sg 50))) hPa.1 rfl hin_X6 (by decide) kfl_X6_32 rfl dX6_parse_60 ?_
  refine h_gets X Y (hsg_Z X.2.2.2.2.2.2.2.2.1 X.2.2.2.2.2.2.2.2.2.1 (k := 36) (by decide)) kfl_X6_63 dX6_parse_63 ?_
  refine lv_acmp_eq (rx := some (hSg G (sg 50))) (ry := some (hSg G 36)) (tgt := 76) hx hb dX6_parse_66 (by decide) (fun c66 => ?_) (fun c66 => absurd (congrArg (fun z => some (hSg G z)) hgn) c66)
  refine lv_aload_n hx hb dX6_parse_76 rfl (lv_at hl 1 rfl) ?_
  exact h_aret (v := some qz3) X Y (Or.inl ⟨_, rfl⟩) ⟨qz3, e3, qa, qb, qc, La, Lb, Lc, Fa, Fb, Fc, _, _, _, rfl, ⟨_, hls⟩, ⟨cap3, f3, k1, k3, hf3, hle⟩, hLa, hLb, hLc, hSa, hSb, hSc, hPa, hfr⟩ (by show _ ≤ 100; omega) (by show _ ≤ 22000; omega) dX6_parse_77
theorem fp_10_7 : ∀ i, i < 52 → (fPat true false).getD i 0 < 37 := by decide
theorem fp_10_a : ∀ j, j < 7 → (fPat true false).getD (1 + j) 0 = [33, 34, 1, 34, 2, 34, 22].getD j 0 := by decide
theorem fp_10_b : ∀ j, j < 16 → (fPat true false).getD (9 + j) 0 = [33, 34, 1, 15, 26, 34, 24, 34, 3, 34, 4, 34, 7, 8, 33, 22].getD j 0 := by decide
theorem fp_10_c : ∀ j, j < 25 → (fPat true false).getD (26 + j) 0 = [33, 34, 24, 34, 26, 15, 1, 34, 5, 34, 7, 8, 33, 23, 33, 9, 17, 32, 34, 11, 12, 15, 28, 34, 22].getD j 0 := by decide
set_option maxHeartbeats 2000000 in
set_option maxRecDepth 100000 in
theorem c_parse10 (l : Launch) (G : hG) (M : hM) (A : Nat → Nat) (N : Nat) (sg : Nat → Nat) (nb : Nat → Int32) (wd : Nat → Int64) (hN : N < 400) (hTk : TkV G M A N sg nb wd) (hNv : N = 51) (hpat : ∀ j, j ≤ 51 → sg j = (fPat true false).getD j 0) (sc np : Nat) (c9 : Nat) (sn : Nat → Option Nat) (nn : Nat → Int32) (hp8 : M (A 8) = some (8, .inr (8, [.ref (A 3), .ref (A 9), .ref (A 10), .int (nI sc), .int (nI np), .ref (hSg G c9)]))) (hp9 : M (A 9) = some (9, .inl (hT G 3, 400, .inr (.inr (.inr (.inr sn)))))) (hp10 : M (A 10) = some (10, .inl (hT G 0, 400, .inl nn))) : hCT l G yX6_parse cX6_parse 3 (Option.some (FieldType.object "java/util/List")) (hRm 12 100 22000) M [.ref (A 8)] (fun v M' => ∃ lst e0 qa qb qc La Lb Lc Fa Fb Fc sc1 sn1 nn1, v = some (.ref lst) ∧ LsO M' lst 3013 e0 3 ∧ LsE G M' e0 3014 3 (gq qa qb qc) ∧ LaP G M' qa 2000 La Fa ∧ LaP G M' qb 2100 Lb Fb ∧ LaP G M' qc 2200 Lc Fc ∧ shA nb 1 La Fa ∧ shB nb 9 Lb Fb ∧ shC nb 26 10 Lc Fc ∧ PaV G M' A sg sc1 51 sn1 nn1 ∧ hFr (fun u => u = 8 ∨ u = 9 ∨ u = 10 ∨ (2000 ≤ u ∧ u < 2300) ∨ u = 3013 ∨ u = 3014) M M') := by
  refine hCT.of (own := RX6) (nm := "parse") (by decide) rfl rfl (Nat.le_of_ble_eq_true rfl) ?_
  intro p e s m args below meth c ls X Y hl
  have hx := X.1
  have hb := X.2.1
  have hl : lv_has ls 3 [(0, .ref (A 8))] := hl
  have hs7 : ∀ i, i ≤ N → sg i < 37 := fun i hi => by rw [hpat i (by omega)]; exact fp_10_7 i (by omega)
  have hg0 : sg 0 = 0 := hpat 0 (by omega)
  have hg8 : sg 8 = 0 := hpat 8 (by omega)
  have hgc : sg 25 = 0 := hpat 25 (by omega)
  have hgn : sg 51 = 36 := hpat 51 (by omega)
  have hfr : hFr (fun u => u = 8 ∨ u = 9 ∨ u = 10 ∨ (2000 ≤ u ∧ u < 2300) ∨ u = 3013 ∨ u = 3014) M M := hFr.rf
  refine lv_aload_n hx hb dX6_parse_0 rfl (lv_at hl 0 rfl) ?_
  refine lv_iconst (v := 0) hx hb dX6_parse_1 (by decide) ?_
  refine h_put X Y (k := 4) (v := .int 0) hp8 rfl hin_X6 tyX6_ok nmX6 (by decide) kfl_X6_25 rfl rfl rfl (Nat.le_of_ble_eq_true rfl) dX6_parse_2 (fun H locs Y => ?_)
  have Y : hHS G (hup M (A 8) (8, .inr (8, [.ref (A 3), .ref (A 9), .ref (A 10), .int (nI sc), .int 0, .ref (hSg G c9)]))) s H locs := Y
  have hp9 := hup_tag (x := (8, .inr (8, [.ref (A 3), .ref (A 9), .ref (A 10), .int (nI sc), .int 0, .ref (hSg G c9)]))) hp9 hp8 (by omega)
  have hp10 := hup_tag (x := (8, .inr (8, [.ref (A 3), .ref (A 9), .ref (A 10), .int (nI sc), .int 0, .ref (hSg G c9)]))) hp10 hp8 (by omega)
  have hTk := hTk.fr (Z := fun u => u = 8 ∨ u = 9 ∨ u = 10) (hFr.put (x := (8, .inr (8, [.ref (A 3), .ref (A 9), .ref (A 10), .int (nI sc), .int 0, .ref (hSg G c9)]))) hFr.rf hp8 (by omega)) (fun j z1 z2 z3 => by omega)
  have hfr := hfr.put (x := (8, .inr (8, [.ref (A 3), .ref (A 9), .ref (A 10), .int (nI sc), .int 0, .ref (hSg G c9)]))) hp8 (by omega)
  have hp8 : hup M (A 8) (8, .inr (8, [.ref (A 3), .ref (A 9), .ref (A 10), .int (nI sc), .int 0, .ref (hSg G c9)])) (A 8) = some (8, .inr (8, [.ref (A 3), .ref (A 9), .ref (A 10), .int (nI sc), .int 0, .ref (hSg G c9)])) := hup_eq
  generalize hup M (A 8) (8, .inr (8, [.ref (A 3), .ref (A 9), .ref (A 10), .int (nI sc), .int 0, .ref (hSg G c9)])) = Mz1 at Y hp8 hp9 hp10 hTk hfr
  refine lv_aload_n hx hb dX6_parse_5 rfl (lv_at hl 0 rfl) ?_
  refine lv_aload_n hx hb dX6_parse_6 rfl (lv_at hl 0 rfl) ?_
  refine h_get X Y (k := 0) (v := .ref (A 3)) hp8 rfl hin_X6 (by decide) kfl_X6_35 rfl dX6_parse_7 ?_
  refine lv_iconst (v := 0) hx hb dX6_parse_10 (by decide) ?_
  refine h_callVr (rest := [.ref (A 8)]) X Y (c_signAt l G Mz1 A N sg nb wd hN hTk 0 (by omega)) rfl rfl gw_X6_39 dsc_X9_signAt hTk.1 rfl rfl rfl rfl hl.1 (Nat.le_of_ble_eq_true rfl) ⟨Nat.le_of_ble_eq_true rfl, Nat.le_of_ble_eq_true rfl⟩ ⟨Nat.le_of_ble_eq_true rfl, Nat.le_of_ble_eq_true rfl⟩ dX6_parse_11 (fun H locs Y => ?_)
  refine h_put X Y (k := 5) (v := .ref (hSg G (sg 0))) hp8 rfl hin_X6 tyX6_ok nmX6 (by decide) kfl_X6_32 rfl rfl rfl (Nat.le_of_ble_eq_true rfl) dX6_parse_14 (fun H locs Y => ?_)
  have Y : hHS G (hup Mz1 (A 8) (8, .inr (8, [.ref (A 3), .ref (A 9), .ref (A 10), .int (nI sc), .int 0, .ref (hSg G (sg 0))]))) s H locs := Y
  have hp9 := hup_tag (x := (8, .inr (8, [.ref (A 3), .ref (A 9), .ref (A 10), .int (nI sc), .int 0, .ref (hSg G (sg 0))]))) hp9 hp8 (by omega)
  have hp10 := hup_tag (x := (8, .inr (8, [.ref (A 3), .ref (A 9), .ref (A 10), .int (nI sc), .int 0, .ref (hSg G (sg 0))]))) hp10 hp8 (by omega)
  have hTk := hTk.fr (Z := fun u => u = 8 ∨ u = 9 ∨ u = 10) (hFr.put (x := (8, .inr (8, [.ref (A 3), .ref (A 9), .ref (A 10), .int (nI sc), .int 0, .ref (hSg G (sg 0))]))) hFr.rf hp8 (by omega)) (fun j z1 z2 z3 => by omega)
  have hfr := hfr.put (x := (8, .inr (8, [.ref (A 3), .ref (A 9), .ref (A 10), .int (nI sc), .int 0, .ref (hSg G (sg 0))]))) hp8 (by omega)
  have hp8 : hup Mz1 (A 8) (8, .inr (8, [.ref (A 3), .ref (A 9), .ref (A 10), .int (nI sc), .int 0, .ref (hSg G (sg 0))])) (A 8) = some (8, .inr (8, [.ref (A 3), .ref (A 9), .ref (A 10), .int (nI sc), .int 0, .ref (hSg G (sg 0))])) := hup_eq
  generalize hup Mz1 (A 8) (8, .inr (8, [.ref (A 3), .ref (A 9), .ref (A 10), .int (nI sc), .int 0, .ref (hSg G (sg 0))])) = Mz2 at Y hp8 hp9 hp10 hTk hfr
  have hPa : PaV G Mz2 A sg sc 0 sn nn := ⟨hp8, hp9, hp10⟩
  refine h_new (ci := 2) X Y (3013) (fs := [.int 0, .null, .int 0]) rfl hin_Jx4a65c tyJx4a65c_ok kcl_X6_45 kinst_Jx4a65c kini_Jx4a65c (fun j hj => match j, hj with | 0, _ => rfl | 1, _ => rfl | 2, _ => rfl | z9 + 3, h9 => absurd h9 (by omega)) (Nat.le_of_ble_eq_true rfl) (Nat.le_of_ble_eq_true rfl) dX6_parse_17 (fun qz3 Mz3 H fz3 hg3 Y => ?_)
  have hTk := hTk.fr (Z := fun _ => False) (hFr.grow hFr.rf hg3) (fun j z1 z2 z => z)
  have hPa := hPa.fr (Z := fun _ => False) (hFr.grow hFr.rf hg3) ⟨id, id, id⟩
  have hfr := hfr.grow hg3
  refine lv_dup hx hb dX6_parse_20 rfl ?_
  refine h_callI (rest := [.ref qz3]) X Y (c_listInit l G Mz3 qz3 3013 fz3) (hgi0 kco_Jx4a65c_init_da8c8) kini_Jx4a65c kml_X6_47 kin_Jx4a65c_init_da8c8 rfl dsc_Jx4a65c_init_da8c8.2 rfl hl.1 rfl (Nat.le_of_ble_eq_true rfl) ⟨Nat.le_of_ble_eq_true rfl, Nat.le_of_ble_eq_true rfl⟩ ⟨Nat.le_of_ble_eq_true rfl, Nat.le_of_ble_eq_true rfl⟩ dX6_parse_21 ?_
  rintro _ Mz4 H locs ⟨rfl, hls, hfa⟩ Y
  try dsimp only [Option.toList, List.nil_append]
  have hTk := hTk.fr hfa (fun j z1 z2 z3 => by omega)
  have hPa := hPa.fr hfa (by omega)
  have hfr := hFr.tr hfr (hfa.mono (fun u z => by omega))
  refine lv_astore_n (lv' := [(1, .ref qz3), (0, .ref (A 8))]) hx hb dX6_parse_24 rfl hl (by decide) rfl (fun ls hl => ?_)
  refine lv_iconst (v := 0) hx hb dX6_parse_25 (by decide) ?_
  refine lv_istore_n (lv' := [(2, .int 0), (1, .ref qz3), (0, .ref (A 8))]) hx hb dX6_parse_26 rfl hl (by decide) rfl (fun ls hl => ?_)
  refine lv_iload_n hx hb dX6_parse_27 rfl (lv_at hl 0 rfl) ?_
  refine lv_sipush (v := 400) hx hb dX6_parse_28 (by decide) ?_
  refine lv_icmp_ge (tgt := 59) hx hb dX6_parse_31 (by decide) (fun c31 => absurd c31 (by decide)) (fun c31 => ?_)
  refine lv_aload_n hx hb dX6_parse_34 rfl (lv_at hl 2 rfl) ?_
  refine h_gets X Y (hsg_Z X.2.2.2.2.2.2.2.2.1 X.2.2.2.2.2.2.2.2.2.1 (k := 0) (by decide)) kfl_X6_48 dX6_parse_35 ?_
  refine h_callV (rest := []) X Y (c_takesY l G Mz4 A N sg nb wd hN hTk hs7 sc 0 sn nn hPa 0 (by omega) hg0 (by omega)) gw_X6_51 dsc_X6_takes hPa.1 rfl rfl rfl hl.1 rfl (Nat.le_of_ble_eq_true rfl) ⟨Nat.le_of_ble_eq_true rfl, Nat.le_of_ble_eq_true rfl⟩ ⟨Nat.le_of_ble_eq_true rfl, Nat.le_of_ble_eq_true rfl⟩ dX6_parse_38 ?_
  rintro _ Mz5 H locs ⟨rfl, hPa, hfa⟩ Y
  try dsimp only [Option.toList, List.nil_append, List.singleton_append]
  have hTk := hTk.fr hfa (fun j z1 z2 z3 => by omega)
  have hls := hfa _ _ _ hls (by omega)
  have hfr := hFr.tr hfr (hfa.mono (fun u z => by omega))
  have hPa : PaV G Mz5 A sg sc 1 sn nn := hPa
  refine lv_if_eq (tgt := 59) hx hb dX6_parse_41 (by decide) (fun c41 => absurd c41 (by decide)) (fun c41 => ?_)
  refine lv_aload_n hx hb dX6_parse_44 rfl (lv_at hl 1 rfl) ?_
  refine lv_aload_n hx hb dX6_parse_45 rfl (lv_at hl 2 rfl) ?_
  refine h_callV (rest := [.ref qz3]) X Y (c_readLa l G Mz5 A N sg nb wd hN hTk hs7 sc 1 sn nn hPa 2000 (by omega) (fun j hj => (hpat (1 + j) (by omega)).trans (fp_10_a j hj)) (by omega)) gw_X6_55 dsc_X6_readLayer hPa.1 rfl rfl rfl hl.1 rfl (Nat.le_of_ble_eq_true rfl) ⟨Nat.le_of_ble_eq_true rfl, Nat.le_of_ble_eq_true rfl⟩ ⟨Nat.le_of_ble_eq_true rfl, Nat.le_of_ble_eq_true rfl⟩ dX6_parse_46 ?_
  rintro _ Mz6 H locs ⟨qa, La, Fa, sca, sna, nna, rfl, hLa, hSa, hPa, hfa⟩ Y
  try dsimp only [Option.toList, List.nil_append, List.singleton_append]
  have hTk := hTk.fr hfa (fun j z1 z2 z3 => by omega)
  have hls := hfa _ _ _ hls (by omega)
  have hfr := hFr.tr hfr (hfa.mono (fun u z => by omega))
  have hPa : PaV G Mz6 A sg sca 8 sna nna := hPa
  refine h_callV (rest := []) X Y (c_add l G Mz6 qz3 3013 3014 0 7 qa 2000 (0) (hDE G) (fun _ => 0) _ hls (by omega) (by omega) tCa_layer (fun i hi => absurd hi (by omega)) hLa.1.1 (by omega) (by omega) (Or.inl ⟨rfl, rfl⟩)) gw_X6_59 dsc_Jx4a65c_add_9ea2d hls rfl rfl rfl hl.1 rfl (Nat.le_of_ble_eq_true rfl) ⟨Nat.le_of_ble_eq_true rfl, Nat.le_of_ble_eq_true rfl⟩ ⟨Nat.le_of_ble_eq_true rfl, Nat.le_of_ble_eq_true rfl⟩ dX6_parse_49 ?_
  rintro _ Mz7 H locs ⟨rfl, e1, cap1, f1, hls, hle, k1, k2, k3, kf, kn, hfa⟩ Y
  try dsimp only [Option.toList, List.singleton_append]
  have hf1a : f1 0 = some qa := kn
  have hTk := hTk.fr hfa (fun j z1 z2 z3 => by omega)
  have hPa := hPa.fr hfa (by omega)
  have hLa := hLa.fr hfa (fun j hj => by omega)
  have hfr := hFr.tr hfr (hfa.mono (fun u z => by omega))
  refine lv_pop hx hb dX6_parse_52 rfl ?_
  refine lv_iinc (v := nI 1) (lv' := [(2, .int (nI 1)), (1, .ref qz3), (0, .ref (A 8))]) hx hb dX6_parse_53 hl (k := 0) rfl (by decide) (by decide) rfl (fun ls hl => ?_)
  refine lv_goto (tgt := 27) hx hb dX6_parse_56 (by decide) ?_
  refine lv_iload_n hx hb dX6_parse_27 rfl (lv_at hl 0 rfl) ?_
  refine lv_sipush (v := 400) hx hb dX6_parse_28 (by decide) ?_
  refine lv_icmp_ge (tgt := 59) hx hb dX6_parse_31 (by decide) (fun c31 => absurd c31 (by decide)) (fun c31 => ?_)
  refine lv_aload_n hx hb dX6_parse_34 rfl (lv_at hl 2 rfl) ?_
  refine h_gets X Y (hsg_Z X.2.2.2.2.2.2.2.2.1 X.2.2.2.2.2.2.2.2.2.1 (k := 0) (by decide)) kfl_X6_48 dX6_parse_35 ?_
  refine h_callV (rest := []) X Y (c_takesY l G Mz7 A N sg nb wd hN hTk hs7 sca 8 sna nna hPa 0 (by omega) hg8 (by omega)) gw_X6_51 dsc_X6_takes hPa.1 rfl rfl rfl hl.1 rfl (Nat.le_of_ble_eq_true rfl) ⟨Nat.le_of_ble_eq_true rfl, Nat.le_of_ble_eq_true rfl⟩ ⟨Nat.le_of_ble_eq_true rfl, Nat.le_of_ble_eq_true rfl⟩ dX6_parse_38 ?_
  rintro _ Mz8 H locs ⟨rfl, hPa, hfa⟩ Y
  try dsimp only [Option.toList, List.nil_append, List.singleton_append]
  have hTk := hTk.fr hfa (fun j z1 z2 z3 => by omega)
  have hLa := hLa.fr hfa (fun j hj => by omega)
  have hls := hfa _ _ _ hls (by omega)
  have hle := hfa _ _ _ hle (by omega)
  have hfr := hFr.tr hfr (hfa.mono (fun u z => by omega))
  have hPa : PaV G Mz8 A sg sca 9 sna nna := hPa
  refine lv_if_eq (tgt := 59) hx hb dX6_parse_41 (by decide) (fun c41 => absurd c41 (by decide)) (fun c41 => ?_)
  refine lv_aload_n hx hb dX6_parse_44 rfl (lv_at hl 1 rfl) ?_
  refine lv_aload_n hx hb dX6_parse_45 rfl (lv_at hl 2 rfl) ?_
  refine h_callV (rest := [.ref qz3]) X Y (c_readLb1 l G Mz8 A N sg nb wd hN hTk hs7 sca 9 sna nna hPa 2100 (by omega) (fun j hj => (hpat (9 + j) (by omega)).trans (fp_10_b j hj)) (by omega)) gw_X6_55 dsc_X6_readLayer hPa.1 rfl rfl rfl hl.1 rfl (Nat.le_of_ble_eq_true rfl) ⟨Nat.le_of_ble_eq_true rfl, Nat.le_of_ble_eq_true rfl⟩ ⟨Nat.le_of_ble_eq_true rfl, Nat.le_of_ble_eq_true rfl⟩ dX6_parse_46 ?_
  rintro _ Mz9 H locs ⟨qb, Lb, Fb, scb, snb, nnb, rfl, hLb, hSb, hPa, hfa⟩ Y
  try dsimp only [Option.toList, List.nil_append, List.singleton_append]
  have hTk := hTk.fr hfa (fun j z1 z2 z3 => by omega)
  have hLa := hLa.fr hfa (fun j hj => by omega)
  have hls := hfa _ _ _ hls (by omega)
  have hle := hfa _ _ _ hle (by omega)
  have hfr := hFr.tr hfr (hfa.mono (fun u z => by omega))
  have hPa : PaV G Mz9 A sg scb 25 snb nnb := hPa
  refine h_callV (rest := []) X Y (c_add l G Mz9 qz3 3013 3014 1 7 qb 2100 (0 + 1) e1 (fun _ => qa) _ hls (by omega) (by omega) tCa_layer (fun i hi => ⟨2000, _, by omega, by omega, hLa.1.1⟩) hLb.1.1 (by omega) (by omega) (Or.inr ⟨cap1, f1, hle, by omega, k2, k3, fun i hi => (show i = 0 by omega) ▸ hf1a⟩)) gw_X6_59 dsc_Jx4a65c_add_9ea2d hls rfl rfl rfl hl.1 rfl (Nat.le_of_ble_eq_true rfl) ⟨Nat.le_of_ble_eq_true rfl, Nat.le_of_ble_eq_true rfl⟩ ⟨Nat.le_of_ble_eq_true rfl, Nat.le_of_ble_eq_true rfl⟩ dX6_parse_49 ?_
  rintro _ Mz10 H locs ⟨rfl, e2, cap2, f2, hls, hle, k1, k2, k3, kf, kn, hfa⟩ Y
  try dsimp only [Option.toList, List.singleton_append]
  have hf2a : f2 0 = some qa := kf 0 (by omega)
  have hf2b : f2 1 = some qb := kn
  have hTk := hTk.fr hfa (fun j z1 z2 z3 => by omega)
  have hPa := hPa.fr hfa (by omega)
  have hLa := hLa.fr hfa (fun j hj => by omega)
  have hLb := hLb.fr hfa (fun j hj => by omega)
  have hfr := hFr.tr hfr (hfa.mono (fun u z => by omega))
  refine lv_pop hx hb dX6_parse_52 rfl ?_
  refine lv_iinc (v := nI 2) (lv' := [(2, .int (nI 2)), (1, .ref qz3), (0, .ref (A 8))]) hx hb dX6_parse_53 hl (k := 0) rfl (by decide) (by decide) rfl (fun ls hl => ?_)
  refine lv_goto (tgt := 27) hx hb dX6_parse_56 (by decide) ?_
  refine lv_iload_n hx hb dX6_parse_27 rfl (lv_at hl 0 rfl) ?_
  refine lv_sipush (v := 400) hx hb dX6_parse_28 (by decide) ?_
  refine lv_icmp_ge (tgt := 59) hx hb dX6_parse_31 (by decide) (fun c31 => absurd c31 (by decide)) (fun c31 => ?_)
  refine lv_aload_n hx hb dX6_parse_34 rfl (lv_at hl 2 rfl) ?_
  refine h_gets X Y (hsg_Z X.2.2.2.2.2.2.2.2.1 X.2.2.2.2.2.2.2.2.2.1 (k := 0) (by decide)) kfl_X6_48 dX6_parse_35 ?_
  refine h_callV (rest := []) X Y (c_takesY l G Mz10 A N sg nb wd hN hTk hs7 scb 25 snb nnb hPa 0 (by omega) hgc (by omega)) gw_X6_51 dsc_X6_takes hPa.1 rfl rfl rfl hl.1 rfl (Nat.le_of_ble_eq_true rfl) ⟨Nat.le_of_ble_eq_true rfl, Nat.le_of_ble_eq_true rfl⟩ ⟨Nat.le_of_ble_eq_true rfl, Nat.le_of_ble_eq_true rfl⟩ dX6_parse_38 ?_
  rintro _ Mz11 H locs ⟨rfl, hPa, hfa⟩ Y
  try dsimp only [Option.toList, List.nil_append, List.singleton_append]
  have hTk := hTk.fr hfa (fun j z1 z2 z3 => by omega)
  have hLa := hLa.fr hfa (fun j hj => by omega)
  have hLb := hLb.fr hfa (fun j hj => by omega)
  have hls := hfa _ _ _ hls (by omega)
  have hle := hfa _ _ _ hle (by omega)
  have hfr := hFr.tr hfr (hfa.mono (fun u z => by omega))
  have hPa : PaV G Mz11 A sg scb 26 snb nnb := hPa
  refine lv_if_eq (tgt := 59) hx hb dX6_parse_41 (by decide) (fun c41 => absurd c41 (by decide)) (fun c41 => ?_)
  refine lv_aload_n hx hb dX6_parse_44 rfl (lv_at hl 1 rfl) ?_
  refine lv_aload_n hx hb dX6_parse_45 rfl (lv_at hl 2 rfl) ?_
  refine h_callV (rest := [.ref qz3]) X Y (c_readLc0 l G Mz11 A N sg nb wd hN hTk hs7 scb 26 snb nnb hPa 2200 (by omega) (fun j hj => (hpat (26 + j) (by omega)).trans (fp_10_c j hj)) (by omega)) gw_X6_55 dsc_X6_readLayer hPa.1 rfl rfl rfl hl.1 rfl (Nat.le_of_ble_eq_true rfl) ⟨Nat.le_of_ble_eq_true rfl, Nat.le_of_ble_eq_true rfl⟩ ⟨Nat.le_of_ble_eq_true rfl, Nat.le_of_ble_eq_true rfl⟩ dX6_parse_46 ?_
  rintro _ Mz12 H locs ⟨qc, Lc, Fc, scc, snc, nnc, rfl, hLc, hSc, hPa, hfa⟩ Y
  try dsimp only [Option.toList, List.nil_append, List.singleton_append]
  have hTk := hTk.fr hfa (fun j z1 z2 z3 => by omega)
  have hLa := hLa.fr hfa (fun j hj => by omega)
  have hLb := hLb.fr hfa (fun j hj => by omega)
  have hls := hfa _ _ _ hls (by omega)
  have hle := hfa _ _ _ hle (by omega)
  have hfr := hFr.tr hfr (hfa.mono (fun u z => by omega))
  have hPa : PaV G Mz12 A sg scc 51 snc nnc := hPa
  refine h_callV (rest := []) X Y (c_add l G Mz12 qz3 3013 3014 2 7 qc 2200 (0 + 1 + 1) e2 (gq qa qb 0) _ hls (by omega) (by omega) tCa_layer (fun i hi => by rcases (show i = 0 ∨ i = 1 by omega) with rfl | rfl; exact ⟨2000, _, by omega, by omega, hLa.1.1⟩; exact ⟨2100, _, by omega, by omega, hLb.1.1⟩) hLc.1.1 (by omega) (by omega) (Or.inr ⟨cap2, f2, hle, by omega, k2, k3, fun i hi => by rcases (show i = 0 ∨ i = 1 by omega) with rfl | rfl; exact hf2a; exact hf2b⟩)) gw_X6_59 dsc_Jx4a65c_add_9ea2d hls rfl rfl rfl hl.1 rfl (Nat.le_of_ble_eq_true rfl) ⟨Nat.le_of_ble_eq_true rfl, Nat.le_of_ble_eq_true rfl⟩ ⟨Nat.le_of_ble_eq_true rfl, Nat.le_of_ble_eq_true rfl⟩ dX6_parse_49 ?_
  rintro _ Mz13 H locs ⟨rfl, e3, cap3, f3, hls, hle, k1, k2, k3, kf, kn, hfa⟩ Y
  try dsimp only [Option.toList, List.singleton_append]
  have hf3 : ∀ i, i < 3 → f3 i = some (gq qa qb qc i) := fun i hi => by rcases (show i = 0 ∨ i = 1 ∨ i = 2 by omega) with rfl | rfl | rfl; exact kf 0 (by omega); exact kf 1 (by omega); exact kn
  have hTk := hTk.fr hfa (fun j z1 z2 z3 => by omega)
  have hPa := hPa.fr hfa (by omega)
  have hLa := hLa.fr hfa (fun j hj => by omega)
  have hLb := hLb.fr hfa (fun j hj => by omega)
  have hLc := hLc.fr hfa (fun j hj => by omega)
  have hfr := hFr.tr hfr (hfa.mono (fun u z => by omega))
  refine lv_pop hx hb dX6_parse_52 rfl ?_
  refine lv_iinc (v := nI 3) (lv' := [(2, .int (nI 3)), (1, .ref qz3), (0, .ref (A 8))]) hx hb dX6_parse_53 hl (k := 0) rfl (by decide) (by decide) rfl (fun ls hl => ?_)
  refine lv_goto (tgt := 27) hx hb dX6_parse_56 (by decide) ?_
  refine lv_iload_n hx hb dX6_parse_27 rfl (lv_at hl 0 rfl) ?_
  refine lv_sipush (v := 400) hx hb dX6_parse_28 (by decide) ?_
  refine lv_icmp_ge (tgt := 59) hx hb dX6_parse_31 (by decide) (fun c31 => absurd c31 (by decide)) (fun c31 => ?_)
  refine lv_aload_n hx hb dX6_parse_34 rfl (lv_at hl 2 rfl) ?_
  refine h_gets X Y (hsg_Z X.2.2.2.2.2.2.2.2.1 X.2.2.2.2.2.2.2.2.2.1 (k := 0) (by decide)) kfl_X6_48 dX6_parse_35 ?_
  refine h_callVr (rest := []) X Y (c_takesN l G Mz13 A N sg nb wd hN hTk hs7 scc 51 snc nnc hPa 0 (by omega) (by omega) (by omega)) rfl rfl gw_X6_51 dsc_X6_takes hPa.1 rfl rfl rfl rfl hl.1 (Nat.le_of_ble_eq_true rfl) ⟨Nat.le_of_ble_eq_true rfl, Nat.le_of_ble_eq_true rfl⟩ ⟨Nat.le_of_ble_eq_true rfl, Nat.le_of_ble_eq_true rfl⟩ dX6_parse_38 (fun H locs Y => ?_)
  refine lv_if_eq (tgt := 59) hx hb dX6_parse_41 (by decide) (fun c41 => ?_) (fun c41 => absurd (by decide) c41)
  refine lv_aload_n hx hb dX6_parse_59 rfl (lv_at hl 2 rfl) ?_
  refine h_get X Y (k := 5) (v := .ref (hSg G (sg 51))) hPa.1 rfl hin_X6 (by decide) kfl_X6_32 rfl dX6_parse_60 ?_
  refine h_gets X Y (hsg_Z X.2.2.2.2.2.2.2.2.1 X.2.2.2.2.2.2.2.2.2.1 (k := 36) (by decide)) kfl_X6_63 dX6_parse_63 ?_
  refine lv_acmp_eq (rx := some (hSg G (sg 51))) (ry := some (hSg G 36)) (tgt := 76) hx hb dX6_parse_66 (by decide) (fun c66 => ?_) (fun c66 => absurd (congrArg (fun z => some (hSg G z)) hgn) c66)
  refine lv_aload_n hx hb dX6_parse_76 rfl (lv_at hl 1 rfl) ?_
  exact h_aret (v := some qz3) X Y (Or.inl ⟨_, rfl⟩) ⟨qz3, e3, qa, qb, qc, La, Lb, Lc, Fa, Fb, Fc, _, _, _, rfl, ⟨_, hls⟩, ⟨cap3, f3, k1, k3, hf3, hle⟩, hLa, hLb, hLc, hSa, hSb, hSc, hPa, hfr⟩ (by show _ ≤ 100; omega) (by show _ ≤ 22000; omega) dX6_parse_77
theorem fp_11_7 : ∀ i, i < 54 → (fPat true true).getD i 0 < 37 := by decide
theorem fp_11_a : ∀ j, j < 7 → (fPat true true).getD (1 + j) 0 = [33, 34, 1, 34, 2, 34, 22].getD j 0 := by decide
theorem fp_11_b : ∀ j, j < 16 → (fPat true true).getD (9 + j) 0 = [33, 34, 1, 15, 26, 34, 24, 34, 3, 34, 4, 34, 7, 8, 33, 22].getD j 0 := by decide
theorem fp_11_c : ∀ j, j < 27 → (fPat true true).getD (26 + j) 0 = [33, 34, 24, 34, 26, 15, 1, 34, 5, 34, 6, 34, 7, 8, 33, 23, 33, 9, 17, 32, 34, 11, 12, 15, 28, 34, 22].getD j 0 := by decide
set_option maxHeartbeats 2000000 in
set_option maxRecDepth 100000 in
theorem c_parse11 (l : Launch) (G : hG) (M : hM) (A : Nat → Nat) (N : Nat) (sg : Nat → Nat) (nb : Nat → Int32) (wd : Nat → Int64) (hN : N < 400) (hTk : TkV G M A N sg nb wd) (hNv : N = 53) (hpat : ∀ j, j ≤ 53 → sg j = (fPat true true).getD j 0) (sc np : Nat) (c9 : Nat) (sn : Nat → Option Nat) (nn : Nat → Int32) (hp8 : M (A 8) = some (8, .inr (8, [.ref (A 3), .ref (A 9), .ref (A 10), .int (nI sc), .int (nI np), .ref (hSg G c9)]))) (hp9 : M (A 9) = some (9, .inl (hT G 3, 400, .inr (.inr (.inr (.inr sn)))))) (hp10 : M (A 10) = some (10, .inl (hT G 0, 400, .inl nn))) : hCT l G yX6_parse cX6_parse 3 (Option.some (FieldType.object "java/util/List")) (hRm 12 100 22000) M [.ref (A 8)] (fun v M' => ∃ lst e0 qa qb qc La Lb Lc Fa Fb Fc sc1 sn1 nn1, v = some (.ref lst) ∧ LsO M' lst 3013 e0 3 ∧ LsE G M' e0 3014 3 (gq qa qb qc) ∧ LaP G M' qa 2000 La Fa ∧ LaP G M' qb 2100 Lb Fb ∧ LaP G M' qc 2200 Lc Fc ∧ shA nb 1 La Fa ∧ shB nb 9 Lb Fb ∧ shC nb 26 12 Lc Fc ∧ PaV G M' A sg sc1 53 sn1 nn1 ∧ hFr (fun u => u = 8 ∨ u = 9 ∨ u = 10 ∨ (2000 ≤ u ∧ u < 2300) ∨ u = 3013 ∨ u = 3014) M M') := by
  refine hCT.of (own := RX6) (nm := "parse") (by decide) rfl rfl (Nat.le_of_ble_eq_true rfl) ?_
  intro p e s m args below meth c ls X Y hl
  have hx := X.1
  have hb := X.2.1
  have hl : lv_has ls 3 [(0, .ref (A 8))] := hl
  have hs7 : ∀ i, i ≤ N → sg i < 37 := fun i hi => by rw [hpat i (by omega)]; exact fp_11_7 i (by omega)
  have hg0 : sg 0 = 0 := hpat 0 (by omega)
  have hg8 : sg 8 = 0 := hpat 8 (by omega)
  have hgc : sg 25 = 0 := hpat 25 (by omega)
  have hgn : sg 53 = 36 := hpat 53 (by omega)
  have hfr : hFr (fun u => u = 8 ∨ u = 9 ∨ u = 10 ∨ (2000 ≤ u ∧ u < 2300) ∨ u = 3013 ∨ u = 3014) M M := hFr.rf
  refine lv_aload_n hx hb dX6_parse_0 rfl (lv_at hl 0 rfl) ?_
  refine lv_iconst (v := 0) hx hb dX6_parse_1 (by decide) ?_
  refine h_put X Y (k := 4) (v := .int 0) hp8 rfl hin_X6 tyX6_ok nmX6 (by decide) kfl_X6_25 rfl rfl rfl (Nat.le_of_ble_eq_true rfl) dX6_parse_2 (fun H locs Y => ?_)
  have Y : hHS G (hup M (A 8) (8, .inr (8, [.ref (A 3), .ref (A 9), .ref (A 10), .int (nI sc), .int 0, .ref (hSg G c9)]))) s H locs := Y
  have hp9 := hup_tag (x := (8, .inr (8, [.ref (A 3), .ref (A 9), .ref (A 10), .int (nI sc), .int 0, .ref (hSg G c9)]))) hp9 hp8 (by omega)
  have hp10 := hup_tag (x := (8, .inr (8, [.ref (A 3), .ref (A 9), .ref (A 10), .int (nI sc), .int 0, .ref (hSg G c9)]))) hp10 hp8 (by omega)
  have hTk := hTk.fr (Z := fun u => u = 8 ∨ u = 9 ∨ u = 10) (hFr.put (x := (8, .inr (8, [.ref (A 3), .ref (A 9), .ref (A 10), .int (nI sc), .int 0, .ref (hSg G c9)]))) hFr.rf hp8 (by omega)) (fun j z1 z2 z3 => by omega)
  have hfr := hfr.put (x := (8, .inr (8, [.ref (A 3), .ref (A 9), .ref (A 10), .int (nI sc), .int 0, .ref (hSg G c9)]))) hp8 (by omega)
  have hp8 : hup M (A 8) (8, .inr (8, [.ref (A 3), .ref (A 9), .ref (A 10), .int (nI sc), .int 0, .ref (hSg G c9)])) (A 8) = some (8, .inr (8, [.ref (A 3), .ref (A 9), .ref (A 10), .int (nI sc), .int 0, .ref (hSg G c9)])) := hup_eq
  generalize hup M (A 8) (8, .inr (8, [.ref (A 3), .ref (A 9), .ref (A 10), .int (nI sc), .int 0, .ref (hSg G c9)])) = Mz1 at Y hp8 hp9 hp10 hTk hfr
  refine lv_aload_n hx hb dX6_parse_5 rfl (lv_at hl 0 rfl) ?_
  refine lv_aload_n hx hb dX6_parse_6 rfl (lv_at hl 0 rfl) ?_
  refine h_get X Y (k := 0) (v := .ref (A 3)) hp8 rfl hin_X6 (by decide) kfl_X6_35 rfl dX6_parse_7 ?_
  refine lv_iconst (v := 0) hx hb dX6_parse_10 (by decide) ?_
  refine h_callVr (rest := [.ref (A 8)]) X Y (c_signAt l G Mz1 A N sg nb wd hN hTk 0 (by omega)) rfl rfl gw_X6_39 dsc_X9_signAt hTk.1 rfl rfl rfl rfl hl.1 (Nat.le_of_ble_eq_true rfl) ⟨Nat.le_of_ble_eq_true rfl, Nat.le_of_ble_eq_true rfl⟩ ⟨Nat.le_of_ble_eq_true rfl, Nat.le_of_ble_eq_true rfl⟩ dX6_parse_11 (fun H locs Y => ?_)
  refine h_put X Y (k := 5) (v := .ref (hSg G (sg 0))) hp8 rfl hin_X6 tyX6_ok nmX6 (by decide) kfl_X6_32 rfl rfl rfl (Nat.le_of_ble_eq_true rfl) dX6_parse_14 (fun H locs Y => ?_)
  have Y : hHS G (hup Mz1 (A 8) (8, .inr (8, [.ref (A 3), .ref (A 9), .ref (A 10), .int (nI sc), .int 0, .ref (hSg G (sg 0))]))) s H locs := Y
  have hp9 := hup_tag (x := (8, .inr (8, [.ref (A 3), .ref (A 9), .ref (A 10), .int (nI sc), .int 0, .ref (hSg G (sg 0))]))) hp9 hp8 (by omega)
  have hp10 := hup_tag (x := (8, .inr (8, [.ref (A 3), .ref (A 9), .ref (A 10), .int (nI sc), .int 0, .ref (hSg G (sg 0))]))) hp10 hp8 (by omega)
  have hTk := hTk.fr (Z := fun u => u = 8 ∨ u = 9 ∨ u = 10) (hFr.put (x := (8, .inr (8, [.ref (A 3), .ref (A 9), .ref (A 10), .int (nI sc), .int 0, .ref (hSg G (sg 0))]))) hFr.rf hp8 (by omega)) (fun j z1 z2 z3 => by omega)
  have hfr := hfr.put (x := (8, .inr (8, [.ref (A 3), .ref (A 9), .ref (A 10), .int (nI sc), .int 0, .ref (hSg G (sg 0))]))) hp8 (by omega)
  have hp8 : hup Mz1 (A 8) (8, .inr (8, [.ref (A 3), .ref (A 9), .ref (A 10), .int (nI sc), .int 0, .ref (hSg G (sg 0))])) (A 8) = some (8, .inr (8, [.ref (A 3), .ref (A 9), .ref (A 10), .int (nI sc), .int 0, .ref (hSg G (sg 0))])) := hup_eq
  generalize hup Mz1 (A 8) (8, .inr (8, [.ref (A 3), .ref (A 9), .ref (A 10), .int (nI sc), .int 0, .ref (hSg G (sg 0))])) = Mz2 at Y hp8 hp9 hp10 hTk hfr
  have hPa : PaV G Mz2 A sg sc 0 sn nn := ⟨hp8, hp9, hp10⟩
  refine h_new (ci := 2) X Y (3013) (fs := [.int 0, .null, .int 0]) rfl hin_Jx4a65c tyJx4a65c_ok kcl_X6_45 kinst_Jx4a65c kini_Jx4a65c (fun j hj => match j, hj with | 0, _ => rfl | 1, _ => rfl | 2, _ => rfl | z9 + 3, h9 => absurd h9 (by omega)) (Nat.le_of_ble_eq_true rfl) (Nat.le_of_ble_eq_true rfl) dX6_parse_17 (fun qz3 Mz3 H fz3 hg3 Y => ?_)
  have hTk := hTk.fr (Z := fun _ => False) (hFr.grow hFr.rf hg3) (fun j z1 z2 z => z)
  have hPa := hPa.fr (Z := fun _ => False) (hFr.grow hFr.rf hg3) ⟨id, id, id⟩
  have hfr := hfr.grow hg3
  refine lv_dup hx hb dX6_parse_20 rfl ?_
  refine h_callI (rest := [.ref qz3]) X Y (c_listInit l G Mz3 qz3 3013 fz3) (hgi0 kco_Jx4a65c_init_da8c8) kini_Jx4a65c kml_X6_47 kin_Jx4a65c_init_da8c8 rfl dsc_Jx4a65c_init_da8c8.2 rfl hl.1 rfl (Nat.le_of_ble_eq_true rfl) ⟨Nat.le_of_ble_eq_true rfl, Nat.le_of_ble_eq_true rfl⟩ ⟨Nat.le_of_ble_eq_true rfl, Nat.le_of_ble_eq_true rfl⟩ dX6_parse_21 ?_
  rintro _ Mz4 H locs ⟨rfl, hls, hfa⟩ Y
  try dsimp only [Option.toList, List.nil_append]
  have hTk := hTk.fr hfa (fun j z1 z2 z3 => by omega)
  have hPa := hPa.fr hfa (by omega)
  have hfr := hFr.tr hfr (hfa.mono (fun u z => by omega))
  refine lv_astore_n (lv' := [(1, .ref qz3), (0, .ref (A 8))]) hx hb dX6_parse_24 rfl hl (by decide) rfl (fun ls hl => ?_)
  refine lv_iconst (v := 0) hx hb dX6_parse_25 (by decide) ?_
  refine lv_istore_n (lv' := [(2, .int 0), (1, .ref qz3), (0, .ref (A 8))]) hx hb dX6_parse_26 rfl hl (by decide) rfl (fun ls hl => ?_)
  refine lv_iload_n hx hb dX6_parse_27 rfl (lv_at hl 0 rfl) ?_
  refine lv_sipush (v := 400) hx hb dX6_parse_28 (by decide) ?_
  refine lv_icmp_ge (tgt := 59) hx hb dX6_parse_31 (by decide) (fun c31 => absurd c31 (by decide)) (fun c31 => ?_)
  refine lv_aload_n hx hb dX6_parse_34 rfl (lv_at hl 2 rfl) ?_
  refine h_gets X Y (hsg_Z X.2.2.2.2.2.2.2.2.1 X.2.2.2.2.2.2.2.2.2.1 (k := 0) (by decide)) kfl_X6_48 dX6_parse_35 ?_
  refine h_callV (rest := []) X Y (c_takesY l G Mz4 A N sg nb wd hN hTk hs7 sc 0 sn nn hPa 0 (by omega) hg0 (by omega)) gw_X6_51 dsc_X6_takes hPa.1 rfl rfl rfl hl.1 rfl (Nat.le_of_ble_eq_true rfl) ⟨Nat.le_of_ble_eq_true rfl, Nat.le_of_ble_eq_true rfl⟩ ⟨Nat.le_of_ble_eq_true rfl, Nat.le_of_ble_eq_true rfl⟩ dX6_parse_38 ?_
  rintro _ Mz5 H locs ⟨rfl, hPa, hfa⟩ Y
  try dsimp only [Option.toList, List.nil_append, List.singleton_append]
  have hTk := hTk.fr hfa (fun j z1 z2 z3 => by omega)
  have hls := hfa _ _ _ hls (by omega)
  have hfr := hFr.tr hfr (hfa.mono (fun u z => by omega))
  have hPa : PaV G Mz5 A sg sc 1 sn nn := hPa
  refine lv_if_eq (tgt := 59) hx hb dX6_parse_41 (by decide) (fun c41 => absurd c41 (by decide)) (fun c41 => ?_)
  refine lv_aload_n hx hb dX6_parse_44 rfl (lv_at hl 1 rfl) ?_
  refine lv_aload_n hx hb dX6_parse_45 rfl (lv_at hl 2 rfl) ?_
  refine h_callV (rest := [.ref qz3]) X Y (c_readLa l G Mz5 A N sg nb wd hN hTk hs7 sc 1 sn nn hPa 2000 (by omega) (fun j hj => (hpat (1 + j) (by omega)).trans (fp_11_a j hj)) (by omega)) gw_X6_55 dsc_X6_readLayer hPa.1 rfl rfl rfl hl.1 rfl (Nat.le_of_ble_eq_true rfl) ⟨Nat.le_of_ble_eq_true rfl, Nat.le_of_ble_eq_true rfl⟩ ⟨Nat.le_of_ble_eq_true rfl, Nat.le_of_ble_eq_true rfl⟩ dX6_parse_46 ?_
  rintro _ Mz6 H locs ⟨qa, La, Fa, sca, sna, nna, rfl, hLa, hSa, hPa, hfa⟩ Y
  try dsimp only [Option.toList, List.nil_append, List.singleton_append]
  have hTk := hTk.fr hfa (fun j z1 z2 z3 => by omega)
  have hls := hfa _ _ _ hls (by omega)
  have hfr := hFr.tr hfr (hfa.mono (fun u z => by omega))
  have hPa : PaV G Mz6 A sg sca 8 sna nna := hPa
  refine h_callV (rest := []) X Y (c_add l G Mz6 qz3 3013 3014 0 7 qa 2000 (0) (hDE G) (fun _ => 0) _ hls (by omega) (by omega) tCa_layer (fun i hi => absurd hi (by omega)) hLa.1.1 (by omega) (by omega) (Or.inl ⟨rfl, rfl⟩)) gw_X6_59 dsc_Jx4a65c_add_9ea2d hls rfl rfl rfl hl.1 rfl (Nat.le_of_ble_eq_true rfl) ⟨Nat.le_of_ble_eq_true rfl, Nat.le_of_ble_eq_true rfl⟩ ⟨Nat.le_of_ble_eq_true rfl, Nat.le_of_ble_eq_true rfl⟩ dX6_parse_49 ?_
  rintro _ Mz7 H locs ⟨rfl, e1, cap1, f1, hls, hle, k1, k2, k3, kf, kn, hfa⟩ Y
  try dsimp only [Option.toList, List.singleton_append]
  have hf1a : f1 0 = some qa := kn
  have hTk := hTk.fr hfa (fun j z1 z2 z3 => by omega)
  have hPa := hPa.fr hfa (by omega)
  have hLa := hLa.fr hfa (fun j hj => by omega)
  have hfr := hFr.tr hfr (hfa.mono (fun u z => by omega))
  refine lv_pop hx hb dX6_parse_52 rfl ?_
  refine lv_iinc (v := nI 1) (lv' := [(2, .int (nI 1)), (1, .ref qz3), (0, .ref (A 8))]) hx hb dX6_parse_53 hl (k := 0) rfl (by decide) (by decide) rfl (fun ls hl => ?_)
  refine lv_goto (tgt := 27) hx hb dX6_parse_56 (by decide) ?_
  refine lv_iload_n hx hb dX6_parse_27 rfl (lv_at hl 0 rfl) ?_
  refine lv_sipush (v := 400) hx hb dX6_parse_28 (by decide) ?_
  refine lv_icmp_ge (tgt := 59) hx hb dX6_parse_31 (by decide) (fun c31 => absurd c31 (by decide)) (fun c31 => ?_)
  refine lv_aload_n hx hb dX6_parse_34 rfl (lv_at hl 2 rfl) ?_
  refine h_gets X Y (hsg_Z X.2.2.2.2.2.2.2.2.1 X.2.2.2.2.2.2.2.2.2.1 (k := 0) (by decide)) kfl_X6_48 dX6_parse_35 ?_
  refine h_callV (rest := []) X Y (c_takesY l G Mz7 A N sg nb wd hN hTk hs7 sca 8 sna nna hPa 0 (by omega) hg8 (by omega)) gw_X6_51 dsc_X6_takes hPa.1 rfl rfl rfl hl.1 rfl (Nat.le_of_ble_eq_true rfl) ⟨Nat.le_of_ble_eq_true rfl, Nat.le_of_ble_eq_true rfl⟩ ⟨Nat.le_of_ble_eq_true rfl, Nat.le_of_ble_eq_true rfl⟩ dX6_parse_38 ?_
  rintro _ Mz8 H locs ⟨rfl, hPa, hfa⟩ Y
  try dsimp only [Option.toList, List.nil_append, List.singleton_append]
  have hTk := hTk.fr hfa (fun j z1 z2 z3 => by omega)
  have hLa := hLa.fr hfa (fun j hj => by omega)
  have hls := hfa _ _ _ hls (by omega)
  have hle := hfa _ _ _ hle (by omega)
  have hfr := hFr.tr hfr (hfa.mono (fun u z => by omega))
  have hPa : PaV G Mz8 A sg sca 9 sna nna := hPa
  refine lv_if_eq (tgt := 59) hx hb dX6_parse_41 (by decide) (fun c41 => absurd c41 (by decide)) (fun c41 => ?_)
  refine lv_aload_n hx hb dX6_parse_44 rfl (lv_at hl 1 rfl) ?_
  refine lv_aload_n hx hb dX6_parse_45 rfl (lv_at hl 2 rfl) ?_
  refine h_callV (rest := [.ref qz3]) X Y (c_readLb1 l G Mz8 A N sg nb wd hN hTk hs7 sca 9 sna nna hPa 2100 (by omega) (fun j hj => (hpat (9 + j) (by omega)).trans (fp_11_b j hj)) (by omega)) gw_X6_55 dsc_X6_readLayer hPa.1 rfl rfl rfl hl.1 rfl (Nat.le_of_ble_eq_true rfl) ⟨Nat.le_of_ble_eq_true rfl, Nat.le_of_ble_eq_true rfl⟩ ⟨Nat.le_of_ble_eq_true rfl, Nat.le_of_ble_eq_true rfl⟩ dX6_parse_46 ?_
  rintro _ Mz9 H locs ⟨qb, Lb, Fb, scb, snb, nnb, rfl, hLb, hSb, hPa, hfa⟩ Y
  try dsimp only [Option.toList, List.nil_append, List.singleton_append]
  have hTk := hTk.fr hfa (fun j z1 z2 z3 => by omega)
  have hLa := hLa.fr hfa (fun j hj => by omega)
  have hls := hfa _ _ _ hls (by omega)
  have hle := hfa _ _ _ hle (by omega)
  have hfr := hFr.tr hfr (hfa.mono (fun u z => by omega))
  have hPa : PaV G Mz9 A sg scb 25 snb nnb := hPa
  refine h_callV (rest := []) X Y (c_add l G Mz9 qz3 3013 3014 1 7 qb 2100 (0 + 1) e1 (fun _ => qa) _ hls (by omega) (by omega) tCa_layer (fun i hi => ⟨2000, _, by omega, by omega, hLa.1.1⟩) hLb.1.1 (by omega) (by omega) (Or.inr ⟨cap1, f1, hle, by omega, k2, k3, fun i hi => (show i = 0 by omega) ▸ hf1a⟩)) gw_X6_59 dsc_Jx4a65c_add_9ea2d hls rfl rfl rfl hl.1 rfl (Nat.le_of_ble_eq_true rfl) ⟨Nat.le_of_ble_eq_true rfl, Nat.le_of_ble_eq_true rfl⟩ ⟨Nat.le_of_ble_eq_true rfl, Nat.le_of_ble_eq_true rfl⟩ dX6_parse_49 ?_
  rintro _ Mz10 H locs ⟨rfl, e2, cap2, f2, hls, hle, k1, k2, k3, kf, kn, hfa⟩ Y
  try dsimp only [Option.toList, List.singleton_append]
  have hf2a : f2 0 = some qa := kf 0 (by omega)
  have hf2b : f2 1 = some qb := kn
  have hTk := hTk.fr hfa (fun j z1 z2 z3 => by omega)
  have hPa := hPa.fr hfa (by omega)
  have hLa := hLa.fr hfa (fun j hj => by omega)
  have hLb := hLb.fr hfa (fun j hj => by omega)
  have hfr := hFr.tr hfr (hfa.mono (fun u z => by omega))
  refine lv_pop hx hb dX6_parse_52 rfl ?_
  refine lv_iinc (v := nI 2) (lv' := [(2, .int (nI 2)), (1, .ref qz3), (0, .ref (A 8))]) hx hb dX6_parse_53 hl (k := 0) rfl (by decide) (by decide) rfl (fun ls hl => ?_)
  refine lv_goto (tgt := 27) hx hb dX6_parse_56 (by decide) ?_
  refine lv_iload_n hx hb dX6_parse_27 rfl (lv_at hl 0 rfl) ?_
  refine lv_sipush (v := 400) hx hb dX6_parse_28 (by decide) ?_
  refine lv_icmp_ge (tgt := 59) hx hb dX6_parse_31 (by decide) (fun c31 => absurd c31 (by decide)) (fun c31 => ?_)
  refine lv_aload_n hx hb dX6_parse_34 rfl (lv_at hl 2 rfl) ?_
  refine h_gets X Y (hsg_Z X.2.2.2.2.2.2.2.2.1 X.2.2.2.2.2.2.2.2.2.1 (k := 0) (by decide)) kfl_X6_48 dX6_parse_35 ?_
  refine h_callV (rest := []) X Y (c_takesY l G Mz10 A N sg nb wd hN hTk hs7 scb 25 snb nnb hPa 0 (by omega) hgc (by omega)) gw_X6_51 dsc_X6_takes hPa.1 rfl rfl rfl hl.1 rfl (Nat.le_of_ble_eq_true rfl) ⟨Nat.le_of_ble_eq_true rfl, Nat.le_of_ble_eq_true rfl⟩ ⟨Nat.le_of_ble_eq_true rfl, Nat.le_of_ble_eq_true rfl⟩ dX6_parse_38 ?_
  rintro _ Mz11 H locs ⟨rfl, hPa, hfa⟩ Y
  try dsimp only [Option.toList, List.nil_append, List.singleton_append]
  have hTk := hTk.fr hfa (fun j z1 z2 z3 => by omega)
  have hLa := hLa.fr hfa (fun j hj => by omega)
  have hLb := hLb.fr hfa (fun j hj => by omega)
  have hls := hfa _ _ _ hls (by omega)
  have hle := hfa _ _ _ hle (by omega)
  have hfr := hFr.tr hfr (hfa.mono (fun u z => by omega))
  have hPa : PaV G Mz11 A sg scb 26 snb nnb := hPa
  refine lv_if_eq (tgt := 59) hx hb dX6_parse_41 (by decide) (fun c41 => absurd c41 (by decide)) (fun c41 => ?_)
  refine lv_aload_n hx hb dX6_parse_44 rfl (lv_at hl 1 rfl) ?_
  refine lv_aload_n hx hb dX6_parse_45 rfl (lv_at hl 2 rfl) ?_
  refine h_callV (rest := [.ref qz3]) X Y (c_readLc1 l G Mz11 A N sg nb wd hN hTk hs7 scb 26 snb nnb hPa 2200 (by omega) (fun j hj => (hpat (26 + j) (by omega)).trans (fp_11_c j hj)) (by omega)) gw_X6_55 dsc_X6_readLayer hPa.1 rfl rfl rfl hl.1 rfl (Nat.le_of_ble_eq_true rfl) ⟨Nat.le_of_ble_eq_true rfl, Nat.le_of_ble_eq_true rfl⟩ ⟨Nat.le_of_ble_eq_true rfl, Nat.le_of_ble_eq_true rfl⟩ dX6_parse_46 ?_
  rintro _ Mz12 H locs ⟨qc, Lc, Fc, scc, snc, nnc, rfl, hLc, hSc, hPa, hfa⟩ Y
  try dsimp only [Option.toList, List.nil_append, List.singleton_append]
  have hTk := hTk.fr hfa (fun j z1 z2 z3 => by omega)
  have hLa := hLa.fr hfa (fun j hj => by omega)
  have hLb := hLb.fr hfa (fun j hj => by omega)
  have hls := hfa _ _ _ hls (by omega)
  have hle := hfa _ _ _ hle (by omega)
  have hfr := hFr.tr hfr (hfa.mono (fun u z => by omega))
  have hPa : PaV G Mz12 A sg scc 53 snc nnc := hPa
  refine h_callV (rest := []) X Y (c_add l G Mz12 qz3 3013 3014 2 7 qc 2200 (0 + 1 + 1) e2 (gq qa qb 0) _ hls (by omega) (by omega) tCa_layer (fun i hi => by rcases (show i = 0 ∨ i = 1 by omega) with rfl | rfl; exact ⟨2000, _, by omega, by omega, hLa.1.1⟩; exact ⟨2100, _, by omega, by omega, hLb.1.1⟩) hLc.1.1 (by omega) (by omega) (Or.inr ⟨cap2, f2, hle, by omega, k2, k3, fun i hi => by rcases (show i = 0 ∨ i = 1 by omega) with rfl | rfl; exact hf2a; exact hf2b⟩)) gw_X6_59 dsc_Jx4a65c_add_9ea2d hls rfl rfl rfl hl.1 rfl (Nat.le_of_ble_eq_true rfl) ⟨Nat.le_of_ble_eq_true rfl, Nat.le_of_ble_eq_true rfl⟩ ⟨Nat.le_of_ble_eq_true rfl, Nat.le_of_ble_eq_true rfl⟩ dX6_parse_49 ?_
  rintro _ Mz13 H locs ⟨rfl, e3, cap3, f3, hls, hle, k1, k2, k3, kf, kn, hfa⟩ Y
  try dsimp only [Option.toList, List.singleton_append]
  have hf3 : ∀ i, i < 3 → f3 i = some (gq qa qb qc i) := fun i hi => by rcases (show i = 0 ∨ i = 1 ∨ i = 2 by omega) with rfl | rfl | rfl; exact kf 0 (by omega); exact kf 1 (by omega); exact kn
  have hTk := hTk.fr hfa (fun j z1 z2 z3 => by omega)
  have hPa := hPa.fr hfa (by omega)
  have hLa := hLa.fr hfa (fun j hj => by omega)
  have hLb := hLb.fr hfa (fun j hj => by omega)
  have hLc := hLc.fr hfa (fun j hj => by omega)
  have hfr := hFr.tr hfr (hfa.mono (fun u z => by omega))
  refine lv_pop hx hb dX6_parse_52 rfl ?_
  refine lv_iinc (v := nI 3) (lv' := [(2, .int (nI 3)), (1, .ref qz3), (0, .ref (A 8))]) hx hb dX6_parse_53 hl (k := 0) rfl (by decide) (by decide) rfl (fun ls hl => ?_)
  refine lv_goto (tgt := 27) hx hb dX6_parse_56 (by decide) ?_
  refine lv_iload_n hx hb dX6_parse_27 rfl (lv_at hl 0 rfl) ?_
  refine lv_sipush (v := 400) hx hb dX6_parse_28 (by decide) ?_
  refine lv_icmp_ge (tgt := 59) hx hb dX6_parse_31 (by decide) (fun c31 => absurd c31 (by decide)) (fun c31 => ?_)
  refine lv_aload_n hx hb dX6_parse_34 rfl (lv_at hl 2 rfl) ?_
  refine h_gets X Y (hsg_Z X.2.2.2.2.2.2.2.2.1 X.2.2.2.2.2.2.2.2.2.1 (k := 0) (by decide)) kfl_X6_48 dX6_parse_35 ?_
  refine h_callVr (rest := []) X Y (c_takesN l G Mz13 A N sg nb wd hN hTk hs7 scc 53 snc nnc hPa 0 (by omega) (by omega) (by omega)) rfl rfl gw_X6_51 dsc_X6_takes hPa.1 rfl rfl rfl rfl hl.1 (Nat.le_of_ble_eq_true rfl) ⟨Nat.le_of_ble_eq_true rfl, Nat.le_of_ble_eq_true rfl⟩ ⟨Nat.le_of_ble_eq_true rfl, Nat.le_of_ble_eq_true rfl⟩ dX6_parse_38 (fun H locs Y => ?_)
  refine lv_if_eq (tgt := 59) hx hb dX6_parse_41 (by decide) (fun c41 => ?_) (fun c41 => absurd (by decide) c41)
  refine lv_aload_n hx hb dX6_parse_59 rfl (lv_at hl 2 rfl) ?_
  refine h_get X Y (k := 5) (v := .ref (hSg G (sg 53))) hPa.1 rfl hin_X6 (by decide) kfl_X6_32 rfl dX6_parse_60 ?_
  refine h_gets X Y (hsg_Z X.2.2.2.2.2.2.2.2.1 X.2.2.2.2.2.2.2.2.2.1 (k := 36) (by decide)) kfl_X6_63 dX6_parse_63 ?_
  refine lv_acmp_eq (rx := some (hSg G (sg 53))) (ry := some (hSg G 36)) (tgt := 76) hx hb dX6_parse_66 (by decide) (fun c66 => ?_) (fun c66 => absurd (congrArg (fun z => some (hSg G z)) hgn) c66)
  refine lv_aload_n hx hb dX6_parse_76 rfl (lv_at hl 1 rfl) ?_
  exact h_aret (v := some qz3) X Y (Or.inl ⟨_, rfl⟩) ⟨qz3, e3, qa, qb, qc, La, Lb, Lc, Fa, Fb, Fc, _, _, _, rfl, ⟨_, hls⟩, ⟨cap3, f3, k1, k3, hf3, hle⟩, hLa, hLb, hLc, hSa, hSb, hSc, hPa, hfr⟩ (by show _ ≤ 100; omega) (by show _ ≤ 22000; omega) dX6_parse_77
theorem dX6_wrongToken_0 : decode cX6_wrongToken 0 = .ok (.aload_n 0, 1) := by decide +kernel
theorem dX6_wrongToken_1 : decode cX6_wrongToken 1 = .ok (.getfield 32, 3) := by decide +kernel
theorem dX6_wrongToken_4 : decode cX6_wrongToken 4 = .ok (.getstatic 28, 3) := by decide +kernel
theorem dX6_wrongToken_7 : decode cX6_wrongToken 7 = .ok (.if_acmp .ne 10, 3) := by decide +kernel
theorem dX6_wrongToken_17 : decode cX6_wrongToken 17 = .ok (.iconst (-1), 1) := by decide +kernel
theorem dX6_wrongToken_18 : decode cX6_wrongToken 18 = .ok (.ireturn, 1) := by decide +kernel
set_option maxHeartbeats 400000 in
set_option maxRecDepth 100000 in
theorem c_wrongTok (l : Launch) (G : hG) (M : hM) (A : Nat → Nat) (sg : Nat → Nat) (sc np : Nat) (sn : Nat → Option Nat) (nn : Nat → Int32) (hPa : PaV G M A sg sc np sn nn) (hs9 : sg np < 37) : hCT l G yX6_wrongToken cX6_wrongToken 1 (Option.some FieldType.int) (hRm 1 0 0) M [.ref (A 8)] (hRd M (.int (-1))) := by
  refine hCT.of (own := RX6) (nm := "wrongToken") (by decide) rfl rfl (Nat.le_of_ble_eq_true rfl) ?_
  intro p e s m args below meth c ls X Y hl
  have hx := X.1
  have hb := X.2.1
  have hl : lv_has ls 1 [(0, .ref (A 8))] := hl
  refine lv_aload_n hx hb dX6_wrongToken_0 rfl (lv_at hl 0 rfl) ?_
  refine h_get X Y (k := 5) (v := .ref (hSg G (sg np))) hPa.1 rfl hin_X6 (by decide) kfl_X6_32 rfl dX6_wrongToken_1 ?_
  refine h_gets X Y (hsg_Z X.2.2.2.2.2.2.2.2.1 X.2.2.2.2.2.2.2.2.2.1 (k := 37) (by decide)) kfl_X6_28 dX6_wrongToken_4 ?_
  refine lv_acmp_ne (rx := some (hSg G (sg np))) (ry := some (hSg G 37)) (tgt := 17) hx hb dX6_wrongToken_7 (by decide) (fun c7 => ?_) (fun c7 => absurd (hsg_inj X.2.2.2.2.2.2.2.2.1 (by omega) (by omega) (Option.some.inj c7)) (by omega))
  refine lv_iconst (v := (-1)) hx hb dX6_wrongToken_17 (by decide) ?_
  exact h_iret X Y ⟨rfl, rfl⟩ (Nat.le_refl _) (Nat.le_refl _) dX6_wrongToken_18
