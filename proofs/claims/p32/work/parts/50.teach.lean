-- A TEXT IS TAUGHT
theorem TkV.congr {G : hG} {M : hM} {A : Nat → Nat} {N : Nat} {sg : Nat → Nat} {nb nb' : Nat → Int32} {wd wd' : Nat → Int64} (h1 : ∀ i, i ≤ N → nb i = nb' i) (h2 : ∀ i, i ≤ N → wd i = wd' i) (hV : TkV G M A N sg nb wd) : TkV G M A N sg nb' wd' := by
  obtain ⟨k0, k4, k5, ⟨f6, e6, k6⟩, f7, e7, k7⟩ := hV
  exact ⟨k0, k4, k5, ⟨f6, fun i hi => (e6 i hi).trans (h1 i hi), k6⟩, f7, fun i hi => (e7 i hi).trans (h2 i hi), k7⟩
/-- the law's numbers are told to the parts of the layers -/
theorem LySt.lav {G : hG} {M : hM} {a t : Nat} {L : hLy} {F : Nat → hFo} {N1 : Nat → Nat → Int32} {B1 : Nat → Int64} (h : LaP G M a t (lyZ L N1 B1) F) : LaV G M a t (lyZ L N1 B1) F := ⟨h.1, h.2.1, h.2.2.1, fun q hq => h.2.2.2.2.2 q hq⟩
theorem LySt.lavA {G : hG} {M : hM} {a t : Nat} {L : hLy} {F : Nat → hFo} {N1 : Nat → Nat → Int32} {B1 : Nat → Int64} (h : LaP G M a t (lyZ L N1 B1) F) (hR : lyR L 2 = none) : LaV G M a t (lyZ L N1 B1) (fA F) := ⟨h.1, h.2.1, h.2.2.1, fun q hq => absurd (hR.symm.trans hq) (by simp)⟩
theorem gw_X11_107 : GoodIn hGW (wsV RX11 107 RX9 yX9_read (Cond.code yX9_read cX9_read 7 (Option.none) :: hGW)) := hgi4 kml_X11_107 kin_X9_read kse_X9_X9_read_X9_read kini_X9 kco_X9_read
theorem dsc_X9_read : yX9_read.cls = RX9 ∧ yX9_read.cls ≠ "java/lang/invoke/MethodHandle" ∧ yX9_read.cls ≠ "java/lang/invoke/VarHandle" ∧ (parseMethodDescriptor yX9_read.desc).map (fun d => d.parameters.length) = some 1 := ⟨rfl, by decide +kernel, by decide +kernel, by decide +kernel⟩
theorem gw_X11_111 : GoodIn hGW (wsV RX11 111 RX6 yX6_parse (Cond.code yX6_parse cX6_parse 3 (Option.some (FieldType.object "java/util/List")) :: hGW)) := hgi4 kml_X11_111 kin_X6_parse kse_X6_X6_parse_X6_parse kini_X6 kco_X6_parse
theorem dsc_X6_parse : yX6_parse.cls = RX6 ∧ yX6_parse.cls ≠ "java/lang/invoke/MethodHandle" ∧ yX6_parse.cls ≠ "java/lang/invoke/VarHandle" ∧ (parseMethodDescriptor yX6_parse.desc).map (fun d => d.parameters.length) = some 0 := ⟨rfl, by decide +kernel, by decide +kernel, by decide +kernel⟩
theorem gw_X11_115 : GoodIn hGW (wsV RX11 115 RX6 yX6_wrongToken (Cond.code yX6_wrongToken cX6_wrongToken 1 (Option.some FieldType.int) :: hGW)) := hgi4 kml_X11_115 kin_X6_wrongToken kse_X6_X6_wrongToken_X6_wrongToken kini_X6 kco_X6_wrongToken
theorem dsc_X6_wrongToken : yX6_wrongToken.cls = RX6 ∧ yX6_wrongToken.cls ≠ "java/lang/invoke/MethodHandle" ∧ yX6_wrongToken.cls ≠ "java/lang/invoke/VarHandle" ∧ (parseMethodDescriptor yX6_wrongToken.desc).map (fun d => d.parameters.length) = some 0 := ⟨rfl, by decide +kernel, by decide +kernel, by decide +kernel⟩
theorem gw_X11_119 : GoodIn hGW (wsV RX11 119 RX2 yX2_check (Cond.code yX2_check cX2_check 4 (Option.some FieldType.int) :: hGW)) := hgi4 kml_X11_119 kin_X2_check kse_X2_X2_check_X2_check kini_X2 kco_X2_check
theorem dsc_X2_check : yX2_check.cls = RX2 ∧ yX2_check.cls ≠ "java/lang/invoke/MethodHandle" ∧ yX2_check.cls ≠ "java/lang/invoke/VarHandle" ∧ (parseMethodDescriptor yX2_check.desc).map (fun d => d.parameters.length) = some 1 := ⟨rfl, by decide +kernel, by decide +kernel, by decide +kernel⟩
theorem gw_X11_123 : GoodIn hGW (wsV RX11 123 RX2 yX2_wrongToken (Cond.code yX2_wrongToken cX2_wrongToken 1 (Option.some FieldType.int) :: hGW)) := hgi4 kml_X11_123 kin_X2_wrongToken kse_X2_X2_wrongToken_X2_wrongToken kini_X2 kco_X2_wrongToken
theorem dsc_X2_wrongToken : yX2_wrongToken.cls = RX2 ∧ yX2_wrongToken.cls ≠ "java/lang/invoke/MethodHandle" ∧ yX2_wrongToken.cls ≠ "java/lang/invoke/VarHandle" ∧ (parseMethodDescriptor yX2_wrongToken.desc).map (fun d => d.parameters.length) = some 0 := ⟨rfl, by decide +kernel, by decide +kernel, by decide +kernel⟩
theorem gw_X11_128 : GoodIn hGW (wsV RX11 128 RX11 yX11_adopt (Cond.code yX11_adopt cX11_adopt 3 (Option.none) :: hGW)) := hgi4 kml_X11_128 kin_X11_adopt kse_X11_X11_adopt_X11_adopt kini_X11 kco_X11_adopt
theorem dsc_X11_adopt : yX11_adopt.cls = RX11 ∧ yX11_adopt.cls ≠ "java/lang/invoke/MethodHandle" ∧ yX11_adopt.cls ≠ "java/lang/invoke/VarHandle" ∧ (parseMethodDescriptor yX11_adopt.desc).map (fun d => d.parameters.length) = some 1 := ⟨rfl, by decide +kernel, by decide +kernel, by decide +kernel⟩
theorem dX11_teach_0 : decode cX11_teach 0 = .ok (.aload_n 0, 1) := by decide +kernel
theorem dX11_teach_1 : decode cX11_teach 1 = .ok (.getfield 19, 3) := by decide +kernel
theorem dX11_teach_4 : decode cX11_teach 4 = .ok (.aload_n 0, 1) := by decide +kernel
theorem dX11_teach_5 : decode cX11_teach 5 = .ok (.getfield 10, 3) := by decide +kernel
theorem dX11_teach_8 : decode cX11_teach 8 = .ok (.invokevirtual 107, 3) := by decide +kernel
theorem dX11_teach_11 : decode cX11_teach 11 = .ok (.aload_n 0, 1) := by decide +kernel
theorem dX11_teach_12 : decode cX11_teach 12 = .ok (.getfield 10, 3) := by decide +kernel
theorem dX11_teach_15 : decode cX11_teach 15 = .ok (.iconst 0, 1) := by decide +kernel
theorem dX11_teach_16 : decode cX11_teach 16 = .ok (.putfield 88, 3) := by decide +kernel
theorem dX11_teach_19 : decode cX11_teach 19 = .ok (.aload_n 0, 1) := by decide +kernel
theorem dX11_teach_20 : decode cX11_teach 20 = .ok (.getfield 28, 3) := by decide +kernel
theorem dX11_teach_23 : decode cX11_teach 23 = .ok (.invokevirtual 111, 3) := by decide +kernel
theorem dX11_teach_26 : decode cX11_teach 26 = .ok (.astore_n 1, 1) := by decide +kernel
theorem dX11_teach_27 : decode cX11_teach 27 = .ok (.aload_n 0, 1) := by decide +kernel
theorem dX11_teach_28 : decode cX11_teach 28 = .ok (.getfield 28, 3) := by decide +kernel
theorem dX11_teach_31 : decode cX11_teach 31 = .ok (.invokevirtual 115, 3) := by decide +kernel
theorem dX11_teach_34 : decode cX11_teach 34 = .ok (.istore_n 2, 1) := by decide +kernel
theorem dX11_teach_35 : decode cX11_teach 35 = .ok (.iload_n 2, 1) := by decide +kernel
theorem dX11_teach_36 : decode cX11_teach 36 = .ok (.iconst (-1), 1) := by decide +kernel
theorem dX11_teach_37 : decode cX11_teach 37 = .ok (.if_icmp .ne 7, 3) := by decide +kernel
theorem dX11_teach_40 : decode cX11_teach 40 = .ok (.iconst 0, 1) := by decide +kernel
theorem dX11_teach_41 : decode cX11_teach 41 = .ok (.goto 4, 3) := by decide +kernel
theorem dX11_teach_45 : decode cX11_teach 45 = .ok (.istore_n 3, 1) := by decide +kernel
theorem dX11_teach_46 : decode cX11_teach 46 = .ok (.iload_n 3, 1) := by decide +kernel
theorem dX11_teach_47 : decode cX11_teach 47 = .ok (.ifCond .ne 20, 3) := by decide +kernel
theorem dX11_teach_50 : decode cX11_teach 50 = .ok (.aload_n 0, 1) := by decide +kernel
theorem dX11_teach_51 : decode cX11_teach 51 = .ok (.getfield 35, 3) := by decide +kernel
theorem dX11_teach_54 : decode cX11_teach 54 = .ok (.aload_n 1, 1) := by decide +kernel
theorem dX11_teach_55 : decode cX11_teach 55 = .ok (.invokevirtual 119, 3) := by decide +kernel
theorem dX11_teach_58 : decode cX11_teach 58 = .ok (.istore_n 3, 1) := by decide +kernel
theorem dX11_teach_59 : decode cX11_teach 59 = .ok (.aload_n 0, 1) := by decide +kernel
theorem dX11_teach_60 : decode cX11_teach 60 = .ok (.getfield 35, 3) := by decide +kernel
theorem dX11_teach_63 : decode cX11_teach 63 = .ok (.invokevirtual 123, 3) := by decide +kernel
theorem dX11_teach_66 : decode cX11_teach 66 = .ok (.istore_n 2, 1) := by decide +kernel
theorem dX11_teach_67 : decode cX11_teach 67 = .ok (.aload_n 0, 1) := by decide +kernel
theorem dX11_teach_68 : decode cX11_teach 68 = .ok (.iload_n 3, 1) := by decide +kernel
theorem dX11_teach_69 : decode cX11_teach 69 = .ok (.ifCond .ne 7, 3) := by decide +kernel
theorem dX11_teach_72 : decode cX11_teach 72 = .ok (.iconst (-1), 1) := by decide +kernel
theorem dX11_teach_73 : decode cX11_teach 73 = .ok (.goto 11, 3) := by decide +kernel
theorem dX11_teach_84 : decode cX11_teach 84 = .ok (.putfield 85, 3) := by decide +kernel
theorem dX11_teach_87 : decode cX11_teach 87 = .ok (.iload_n 3, 1) := by decide +kernel
theorem dX11_teach_88 : decode cX11_teach 88 = .ok (.ifCond .ne 8, 3) := by decide +kernel
theorem dX11_teach_91 : decode cX11_teach 91 = .ok (.aload_n 0, 1) := by decide +kernel
theorem dX11_teach_92 : decode cX11_teach 92 = .ok (.aload_n 1, 1) := by decide +kernel
theorem dX11_teach_93 : decode cX11_teach 93 = .ok (.invokevirtual 128, 3) := by decide +kernel
theorem dX11_teach_96 : decode cX11_teach 96 = .ok (.iload_n 3, 1) := by decide +kernel
theorem dX11_teach_97 : decode cX11_teach 97 = .ok (.ireturn, 1) := by decide +kernel
set_option maxHeartbeats 2000000 in
set_option maxRecDepth 100000 in
theorem c_teach00 (l : Launch) (G : hG) (M : hM) (A : Nat → Nat) (now n : Nat) (tail er : Int32) (pr ex : Nat → Int32) (hQ : QV G M (s00 A) (now, tail, er, nI n, pr, ex)) (h14 : A 14 = hDE G) (f : Nat → Int32) (B : Nat → Nat) (hn : n ≤ 2000) (ht2 : M (A 2) = some (2, .inl (hT G 1, 2000, .inl f))) (hB : tB f B n) (cnt : Int32) (g4 : Nat → Option Nat) (g5 g6 : Nat → Int32) (g7 : Nat → Int64) (hk0 : M (A 3) = some (3, .inr (10, [.ref (A 4), .ref (A 5), .ref (A 6), .ref (A 7), .int cnt]))) (hk4 : M (A 4) = some (4, .inl (hT G 3, 401, .inr (.inr (.inr (.inr g4)))))) (hk5 : M (A 5) = some (5, .inl (hT G 0, 401, .inl g5))) (hk6 : M (A 6) = some (6, .inl (hT G 0, 401, .inl g6))) (hk7 : M (A 7) = some (7, .inl (hT G 2, 401, .inr (.inl g7)))) (sc np c9 : Nat) (sn : Nat → Option Nat) (nn : Nat → Int32) (hp8 : M (A 8) = some (8, .inr (8, [.ref (A 3), .ref (A 9), .ref (A 10), .int (nI sc), .int (nI np), .ref (hSg G c9)]))) (hp9 : M (A 9) = some (9, .inl (hT G 3, 400, .inr (.inr (.inr (.inr sn)))))) (hp10 : M (A 10) = some (10, .inl (hT G 0, 400, .inl nn))) (c0 wr : Int32) (g12 : Nat → Int64) (hc11 : M (A 11) = some (11, .inr (4, [.ref (A 3), .ref (A 12), .int c0, .int wr]))) (hc12 : M (A 12) = some (12, .inl (hT G 2, 8, .inr (.inl g12)))) (N : Nat) (hN : N < 400) (ts en tk : Nat → Nat) (hen0 : en 0 = 0) (htN : ts N = n) (htk36 : tk N = 36) (hbl : ∀ i, i ≤ N → en i ≤ ts i ∧ ∀ j, en i ≤ j → j < ts i → B j = 32) (hat : ∀ i, i < N → TkAt B n (ts i) (en (i + 1)) (tk i) ∧ B (ts i) ≠ 32 ∧ B (ts i) ≠ 10) (hkwE : kwIs B n n (n + 2) 37) (hNv : N = 48) (hpat : ∀ j, j ≤ 48 → tk j = (fPat false false).getD j 0) (nb : Nat → Int32) (wd : Nat → Int64) (hnb : ∀ i, i ≤ N → (if tk i = 34 then tNum B (ts i) (en (i + 1) - ts i) else 0) = nb i) (hwd : ∀ i, i ≤ N → (if tk i = 33 then tWd B n (ts i) (en (i + 1) - ts i) else 0) = wd i) (hw1 : wd 1 = 38) (hw2 : wd 9 = 76) (hw3 : wd 23 = 114) (hv2 : wd 35 = 38) (hv3 : wd 37 = 76) (hbk : nbOk nb) (x6 rr : Nat) (h6 : nb 6 = nI x6) (h6b : 1 ≤ x6 ∧ x6 ≤ 100) (h9 : nb 32 = nI rr) (h9b : rr < 5) : hCT l G yX11_teach cX11_teach 4 (Option.some FieldType.int) (hRm 13 110 23000) M [.ref (A 0)] (fun v M' => v = some (.int 0) ∧ ∃ S', QV G M' S' (now, tail, -1, 0, pr, ex) ∧ sN S' = 3 ∧ sM S' = 0 ∧ sA S' 0 = A 0 ∧ sA S' 16 = A 16 ∧ ∀ k, k < 3 → GL (sL S' k) (sF S' k)) := by
  refine hCT.of (own := RX11) (nm := "teach") (by decide) rfl rfl (Nat.le_of_ble_eq_true rfl) ?_
  intro p e s m args below meth c ls X Y hl
  have hx := X.1
  have hb := X.2.1
  have hl : lv_has ls 4 [(0, .ref (A 0))] := hl
  obtain ⟨⟨hl13, -, -, -, -, -⟩, -, ⟨ho0, ho1, -⟩, -, -, -, -⟩ := id hQ
  obtain ⟨mc0, hl13⟩ := hl13
  have hl13 : M (A 13) = some (13, .inr (2, [.int mc0, .ref (A 14), .int 0])) := hl13
  rw [h14] at hl13
  have ho0 : M (A 0) = some (0, .inr (12, hoO (s00 A) (now, tail, er, nI n, pr, ex))) := ho0
  have ho1 : M (A 1) = some (1, .inr (9, [.ref (A 2), .int (nI n)])) := ho1
  have hfr : hFr (fun u => u = 0 ∨ u = 1 ∨ (3 ≤ u ∧ u < 15) ∨ (2000 ≤ u ∧ u < 2300) ∨ u = 3013 ∨ u = 3014) M M := hFr.rf
  refine lv_aload_n hx hb dX11_teach_0 rfl (lv_at hl 0 rfl) ?_
  refine h_get X Y (k := 1) (v := .ref (A 3)) ho0 rfl hin_X11 (by decide) kfl_X11_19 rfl dX11_teach_1 ?_
  refine lv_aload_n hx hb dX11_teach_4 rfl (lv_at hl 0 rfl) ?_
  refine h_get X Y (k := 0) (v := .ref (A 1)) ho0 rfl hin_X11 (by decide) kfl_X11_10 rfl dX11_teach_5 ?_
  refine h_callV (rest := []) X Y (c_read l G M (A 1) (A 2) n f B hn ho1 ht2 hB A cnt g4 g5 g6 g7 hk0 hk4 hk5 hk6 hk7 N hN ts en tk hen0 htN htk36 hbl hat hkwE) gw_X11_107 dsc_X9_read hk0 rfl rfl rfl hl.1 rfl (Nat.le_of_ble_eq_true rfl) ⟨Nat.le_of_ble_eq_true rfl, Nat.le_of_ble_eq_true rfl⟩ ⟨Nat.le_of_ble_eq_true rfl, Nat.le_of_ble_eq_true rfl⟩ dX11_teach_8 ?_
  rintro _ M1 H locs ⟨rfl, hTk, hfa⟩ Y
  try dsimp only [Option.toList, List.nil_append, List.singleton_append]
  have ho0 := hfa _ _ _ ho0 (by omega)
  have ho1 := hfa _ _ _ ho1 (by omega)
  have hl13 := hfa _ _ _ hl13 (by omega)
  have hp8 := hfa _ _ _ hp8 (by omega)
  have hp9 := hfa _ _ _ hp9 (by omega)
  have hp10 := hfa _ _ _ hp10 (by omega)
  have hc11 := hfa _ _ _ hc11 (by omega)
  have hc12 := hfa _ _ _ hc12 (by omega)
  have hfr := hFr.tr hfr (hfa.mono (fun u z => by omega))
  have hTk := hTk.congr hnb hwd
  refine lv_aload_n hx hb dX11_teach_11 rfl (lv_at hl 0 rfl) ?_
  refine h_get X Y (k := 0) (v := .ref (A 1)) ho0 rfl hin_X11 (by decide) kfl_X11_10 rfl dX11_teach_12 ?_
  refine lv_iconst (v := 0) hx hb dX11_teach_15 (by decide) ?_
  refine h_put X Y (k := 1) (v := .int 0) ho1 rfl hin_X8 tyX8_ok nmX8 (by decide) kfl_X11_88 rfl rfl rfl (Nat.le_of_ble_eq_true rfl) dX11_teach_16 (fun H locs Y => ?_)
  have Y : hHS G (hup M1 (A 1) (1, .inr (9, [.ref (A 2), .int 0]))) s H locs := Y
  have hfa : hFr (fun u => u = 1) M1 (hup M1 (A 1) (1, .inr (9, [.ref (A 2), .int 0]))) := hFr.put hFr.rf ho1 rfl
  have ho0 := hfa _ _ _ ho0 (by omega)
  have hl13 := hfa _ _ _ hl13 (by omega)
  have hp8 := hfa _ _ _ hp8 (by omega)
  have hp9 := hfa _ _ _ hp9 (by omega)
  have hp10 := hfa _ _ _ hp10 (by omega)
  have hc11 := hfa _ _ _ hc11 (by omega)
  have hc12 := hfa _ _ _ hc12 (by omega)
  have hTk := hTk.fr hfa (fun j z1 z2 z3 => by omega)
  have hfr := hFr.tr hfr (hfa.mono (fun u z => by omega))
  have ho1 : (hup M1 (A 1) (1, .inr (9, [.ref (A 2), .int 0]))) (A 1) = some (1, .inr (9, [.ref (A 2), .int 0])) := hup_eq
  have Y : hHS G (hup M1 (A 1) (1, .inr (9, [.ref (A 2), .int 0]))) s H locs := Y
  generalize hup M1 (A 1) (1, .inr (9, [.ref (A 2), .int 0])) = M2 at Y hfa hfr ho0 ho1 hl13 hp8 hp9 hp10 hc11 hc12 hTk
  refine lv_aload_n hx hb dX11_teach_19 rfl (lv_at hl 0 rfl) ?_
  refine h_get X Y (k := 2) (v := .ref (A 8)) ho0 rfl hin_X11 (by decide) kfl_X11_28 rfl dX11_teach_20 ?_
  refine h_callV (rest := []) X Y (c_parse00 l G M2 A N tk nb wd hN hTk hNv hpat sc np c9 sn nn hp8 hp9 hp10) gw_X11_111 dsc_X6_parse hp8 rfl rfl rfl hl.1 rfl (Nat.le_of_ble_eq_true rfl) ⟨Nat.le_of_ble_eq_true rfl, Nat.le_of_ble_eq_true rfl⟩ ⟨Nat.le_of_ble_eq_true rfl, Nat.le_of_ble_eq_true rfl⟩ dX11_teach_23 ?_
  rintro _ M3 H locs ⟨lst, e0, qa, qb, qc, La, Lb, Lc, Fa, Fb, Fc, sc1, sn1, nn1, rfl, hlO, hlE, hLa, hLb, hLc, hSa, hSb, hSc, hPa, hfa⟩ Y
  try dsimp only [Option.toList, List.nil_append, List.singleton_append]
  have ho0 := hfa _ _ _ ho0 (by omega)
  have ho1 := hfa _ _ _ ho1 (by omega)
  have hl13 := hfa _ _ _ hl13 (by omega)
  have hc11 := hfa _ _ _ hc11 (by omega)
  have hc12 := hfa _ _ _ hc12 (by omega)
  have hTk := hTk.fr hfa (fun j z1 z2 z3 => by omega)
  have hfr := hFr.tr hfr (hfa.mono (fun u z => by omega))
  refine lv_astore_n (lv' := [(1, .ref lst), (0, .ref (A 0))]) hx hb dX11_teach_26 rfl hl (by decide) rfl (fun ls hl => ?_)
  refine lv_aload_n hx hb dX11_teach_27 rfl (lv_at hl 1 rfl) ?_
  refine h_get X Y (k := 2) (v := .ref (A 8)) ho0 rfl hin_X11 (by decide) kfl_X11_28 rfl dX11_teach_28 ?_
  refine h_callVr (rest := []) X Y (c_wrongTok l G M3 A tk sc1 48 sn1 nn1 hPa (by rw [hpat 48 (by omega)]; decide)) rfl rfl gw_X11_115 dsc_X6_wrongToken hPa.1 rfl rfl rfl rfl hl.1 (Nat.le_of_ble_eq_true rfl) ⟨Nat.le_of_ble_eq_true rfl, Nat.le_of_ble_eq_true rfl⟩ ⟨Nat.le_of_ble_eq_true rfl, Nat.le_of_ble_eq_true rfl⟩ dX11_teach_31 (fun H locs Y => ?_)
  refine lv_istore_n (lv' := [(2, .int (-1)), (1, .ref lst), (0, .ref (A 0))]) hx hb dX11_teach_34 rfl hl (by decide) rfl (fun ls hl => ?_)
  refine lv_iload_n hx hb dX11_teach_35 rfl (lv_at hl 0 rfl) ?_
  refine lv_iconst (v := (-1)) hx hb dX11_teach_36 (by decide) ?_
  refine lv_icmp_ne (tgt := 44) hx hb dX11_teach_37 (by decide) (fun c37 => absurd rfl c37) (fun c37 => ?_)
  refine lv_iconst (v := 0) hx hb dX11_teach_40 (by decide) ?_
  refine lv_goto (tgt := 45) hx hb dX11_teach_41 (by decide) ?_
  refine lv_istore_n (lv' := [(3, .int 0), (2, .int (-1)), (1, .ref lst), (0, .ref (A 0))]) hx hb dX11_teach_45 rfl hl (by decide) rfl (fun ls hl => ?_)
  refine lv_iload_n hx hb dX11_teach_46 rfl (lv_at hl 0 rfl) ?_
  refine lv_if_ne (tgt := 67) hx hb dX11_teach_47 (by decide) (fun c47 => absurd (by decide) c47) (fun c47 => ?_)
  refine lv_aload_n hx hb dX11_teach_50 rfl (lv_at hl 3 rfl) ?_
  refine h_get X Y (k := 3) (v := .ref (A 11)) ho0 rfl hin_X11 (by decide) kfl_X11_35 rfl dX11_teach_51 ?_
  refine lv_aload_n hx hb dX11_teach_54 rfl (lv_at hl 2 rfl) ?_
  refine h_callV (rest := []) X Y (c_check00 l G M3 A N tk nb wd hN hTk hNv hpat c0 wr g12 hc11 hc12 lst e0 qa qb qc La Lb Lc Fa Fb Fc hlO hlE hLa hLb hLc hSc.1 hw1 hw2 hw3 hv2 hv3 (by rw [h6]; exact fun z9 => absurd ((nI_ltI (a := x6) (b := 1) (by omega) (by omega)).mp z9) (by omega)) (by rw [h6]; exact (nI_leI (a := x6) (b := 100) (by omega) (by omega)).mpr (by omega)) (by rw [h9]; exact (nI_leI (a := rr) (b := 4) (by omega) (by omega)).mpr (by omega))) gw_X11_119 dsc_X2_check hc11 rfl rfl rfl hl.1 rfl (Nat.le_of_ble_eq_true rfl) ⟨Nat.le_of_ble_eq_true rfl, Nat.le_of_ble_eq_true rfl⟩ ⟨Nat.le_of_ble_eq_true rfl, Nat.le_of_ble_eq_true rfl⟩ dX11_teach_55 ?_
  rintro _ M4 H locs ⟨rfl, ⟨g13, hc11, hc12⟩, hLa, hLb, hLc, hfa⟩ Y
  try dsimp only [Option.toList, List.nil_append, List.singleton_append]
  have ho0 := hfa _ _ _ ho0 (by omega)
  have ho1 := hfa _ _ _ ho1 (by omega)
  have hl13 := hfa _ _ _ hl13 (by omega)
  have hTk := hTk.fr hfa (fun j z1 z2 z3 => by omega)
  have hlO := hlO.fr hfa (by omega)
  have hlE := hlE.fr hfa (by omega)
  have hfr := hFr.tr hfr (hfa.mono (fun u z => by omega))
  refine lv_istore_n (lv' := [(3, .int 0), (2, .int (-1)), (1, .ref lst), (0, .ref (A 0))]) hx hb dX11_teach_58 rfl hl (by decide) rfl (fun ls hl => ?_)
  refine lv_aload_n hx hb dX11_teach_59 rfl (lv_at hl 3 rfl) ?_
  refine h_get X Y (k := 3) (v := .ref (A 11)) ho0 rfl hin_X11 (by decide) kfl_X11_35 rfl dX11_teach_60 ?_
  refine h_callVr (rest := []) X Y (c_chkWrong l G M4 A 3 (-1) hc11) rfl rfl gw_X11_123 dsc_X2_wrongToken hc11 rfl rfl rfl rfl hl.1 (Nat.le_of_ble_eq_true rfl) ⟨Nat.le_of_ble_eq_true rfl, Nat.le_of_ble_eq_true rfl⟩ ⟨Nat.le_of_ble_eq_true rfl, Nat.le_of_ble_eq_true rfl⟩ dX11_teach_63 (fun H locs Y => ?_)
  refine lv_istore_n (lv' := [(2, .int (-1)), (3, .int 0), (1, .ref lst), (0, .ref (A 0))]) hx hb dX11_teach_66 rfl hl (by decide) rfl (fun ls hl => ?_)
  refine lv_aload_n hx hb dX11_teach_67 rfl (lv_at hl 3 rfl) ?_
  refine lv_iload_n hx hb dX11_teach_68 rfl (lv_at hl 1 rfl) ?_
  refine lv_if_ne (tgt := 76) hx hb dX11_teach_69 (by decide) (fun c69 => absurd (by decide) c69) (fun c69 => ?_)
  refine lv_iconst (v := (-1)) hx hb dX11_teach_72 (by decide) ?_
  refine lv_goto (tgt := 84) hx hb dX11_teach_73 (by decide) ?_
  refine h_put X Y (k := 14) (v := .int (-1)) ho0 rfl hin_X11 tyX11_ok nmX11 (by decide) kfl_X11_85 rfl rfl rfl (Nat.le_of_ble_eq_true rfl) dX11_teach_84 (fun H locs Y => ?_)
  have Y : hHS G (hup M4 (A 0) (0, .inr (12, [.ref (A 1), .ref (A 3), .ref (A 8), .ref (A 11), .ref (A 13), .ref (A 15), .ref (A 100), .ref (A 200), .ref (A 300), .ref (A 19), .ref (A 17), .ref (A 18), .int (nI now), .int tail, .int (-1)]))) s H locs := Y
  have hfa : hFr (fun u => u = 0) M4 (hup M4 (A 0) (0, .inr (12, hoO (s00 A) (now, tail, -1, 0, pr, ex)))) := hFr.put hFr.rf ho0 rfl
  have ho1 := hfa _ _ _ ho1 (by omega)
  have hl13 := hfa _ _ _ hl13 (by omega)
  have hc11 := hfa _ _ _ hc11 (by omega)
  have hc12 := hfa _ _ _ hc12 (by omega)
  have hTk := hTk.fr hfa (fun j z1 z2 z3 => by omega)
  have hlO := hlO.fr hfa (by omega)
  have hlE := hlE.fr hfa (by omega)
  have hLa := hLa.fr hfa (fun j hj => by omega)
  have hLb := hLb.fr hfa (fun j hj => by omega)
  have hLc := hLc.fr hfa (fun j hj => by omega)
  have hfr := hFr.tr hfr (hfa.mono (fun u z => by omega))
  have ho0 : (hup M4 (A 0) (0, .inr (12, hoO (s00 A) (now, tail, -1, 0, pr, ex)))) (A 0) = some (0, .inr (12, hoO (s00 A) (now, tail, -1, 0, pr, ex))) := hup_eq
  have Y : hHS G (hup M4 (A 0) (0, .inr (12, hoO (s00 A) (now, tail, -1, 0, pr, ex)))) s H locs := Y
  generalize hup M4 (A 0) (0, .inr (12, hoO (s00 A) (now, tail, -1, 0, pr, ex))) = M5 at Y hfa hfr ho0 ho1 hl13 hc11 hc12 hTk hlO hlE hLa hLb hLc
  refine lv_iload_n hx hb dX11_teach_87 rfl (lv_at hl 1 rfl) ?_
  refine lv_if_ne (tgt := 96) hx hb dX11_teach_88 (by decide) (fun c88 => absurd (by decide) c88) (fun c88 => ?_)
  refine lv_aload_n hx hb dX11_teach_91 rfl (lv_at hl 3 rfl) ?_
  refine lv_aload_n hx hb dX11_teach_92 rfl (lv_at hl 2 rfl) ?_
  refine h_callV (rest := []) X Y (c_adopt l G M5 A (now, tail, -1, 0, pr, ex) ho0 mc0 hl13 lst e0 qa qb qc (lyU La 0 (nb (5 + 1))) Lb (lyNt (lyNt (lyU Lc 1 (nb (31 + 1))) 0) 1) Fa Fb Fc hlO hlE hLa hLb hLc (hSa.g.congr rfl) (hSb.g.congr rfl) (hSc.g.congr rfl)) gw_X11_128 dsc_X11_adopt ho0 rfl rfl rfl hl.1 rfl (Nat.le_of_ble_eq_true rfl) ⟨Nat.le_of_ble_eq_true rfl, Nat.le_of_ble_eq_true rfl⟩ ⟨Nat.le_of_ble_eq_true rfl, Nat.le_of_ble_eq_true rfl⟩ dX11_teach_93 ?_
  rintro _ M6 H locs ⟨rfl, ⟨mc1, q, cap, ff, hl13, hl14, k1, k2, k3⟩, ⟨Na, Ba, hZa, hSZa⟩, ⟨Nb, Bb, hZb, hSZb⟩, ⟨Nc, Bc, hZc, hSZc⟩, hfa⟩ Y
  try dsimp only [Option.toList, List.nil_append, List.singleton_append]
  have ho0 := hfa _ _ _ ho0 (by omega)
  have ho1 := hfa _ _ _ ho1 (by omega)
  have hc11 := hfa _ _ _ hc11 (by omega)
  have hc12 := hfa _ _ _ hc12 (by omega)
  have hTk := hTk.fr hfa (fun j z1 z2 z3 => by omega)
  have hlO := hlO.fr hfa (by omega)
  have hlE := hlE.fr hfa (by omega)
  have hfr := hFr.tr hfr (hfa.mono (fun u z => by omega))
  refine lv_iload_n hx hb dX11_teach_96 rfl (lv_at hl 1 rfl) ?_
  have ga : GL (lyZ (lyU La 0 (nb (5 + 1))) Na Ba) (fA Fa) := GL.a hSa hbk (show (lyU La 0 (nb (5 + 1))) = lyU La 0 (nI x6) from congrArg (lyU La 0) h6) h6b hSZa
  have gb : GL (lyZ Lb Nb Bb) (fA Fb) := GL.b hSb hbk ⟨rfl, rfl, rfl, rfl⟩ hSZb
  have eI : lyI Lc = lyI0 := hSc.1
  have eN : lyN Lc 0 = lyT0 := hSc.2.1
  have gc : GL (lyZ (lyNt (lyNt (lyU Lc 1 (nb (31 + 1))) 0) 1) Nc Bc) Fc := GL.c (n := 0) hSc hbk ⟨rfl, h9, (by show lyI Lc 2 = nI 0; rw [eI]; rfl), rfl⟩ h9b (by decide) (fun k hk => absurd hk (by omega)) hSZc
  have fga := hSa.g
  have fgb := hSb.g
  have fgc := hSc.g
  obtain ⟨zc, hzc⟩ := hSc.2.2.1.2.2
  exact h_iret X Y ⟨rfl, _, QV.taught hQ hfr ho0 ho1 hl13 hl14 k1 k2 k3 (LySt.lavA hZa hSa.2.2.1.2.2) (LySt.lavA hZb hSb.2.2.1.2.2) (LySt.lav hZc) ⟨fga.1, fga.2.1, fga.1, ga.2.2.2.imp (fun n hn => ⟨hn.1, hn.2.1⟩)⟩ ⟨fgb.1, fgb.2.1, fgb.1, gb.2.2.2.imp (fun n hn => ⟨hn.1, hn.2.1⟩)⟩ ⟨fgc.1, fgc.2.1, fgc.2.2.2.2 zc hzc, gc.2.2.2.imp (fun n hn => ⟨hn.1, hn.2.1⟩)⟩, rfl, rfl, rfl, rfl, fun k hk => (by rcases (show k = 0 ∨ k = 1 ∨ k = 2 by omega) with rfl | rfl | rfl; exact ga; exact gb; exact gc)⟩ (by show _ ≤ 110; omega) (by show _ ≤ 23000; omega) dX11_teach_97
set_option maxHeartbeats 2000000 in
set_option maxRecDepth 100000 in
theorem c_teach01 (l : Launch) (G : hG) (M : hM) (A : Nat → Nat) (now n : Nat) (tail er : Int32) (pr ex : Nat → Int32) (hQ : QV G M (s00 A) (now, tail, er, nI n, pr, ex)) (h14 : A 14 = hDE G) (f : Nat → Int32) (B : Nat → Nat) (hn : n ≤ 2000) (ht2 : M (A 2) = some (2, .inl (hT G 1, 2000, .inl f))) (hB : tB f B n) (cnt : Int32) (g4 : Nat → Option Nat) (g5 g6 : Nat → Int32) (g7 : Nat → Int64) (hk0 : M (A 3) = some (3, .inr (10, [.ref (A 4), .ref (A 5), .ref (A 6), .ref (A 7), .int cnt]))) (hk4 : M (A 4) = some (4, .inl (hT G 3, 401, .inr (.inr (.inr (.inr g4)))))) (hk5 : M (A 5) = some (5, .inl (hT G 0, 401, .inl g5))) (hk6 : M (A 6) = some (6, .inl (hT G 0, 401, .inl g6))) (hk7 : M (A 7) = some (7, .inl (hT G 2, 401, .inr (.inl g7)))) (sc np c9 : Nat) (sn : Nat → Option Nat) (nn : Nat → Int32) (hp8 : M (A 8) = some (8, .inr (8, [.ref (A 3), .ref (A 9), .ref (A 10), .int (nI sc), .int (nI np), .ref (hSg G c9)]))) (hp9 : M (A 9) = some (9, .inl (hT G 3, 400, .inr (.inr (.inr (.inr sn)))))) (hp10 : M (A 10) = some (10, .inl (hT G 0, 400, .inl nn))) (c0 wr : Int32) (g12 : Nat → Int64) (hc11 : M (A 11) = some (11, .inr (4, [.ref (A 3), .ref (A 12), .int c0, .int wr]))) (hc12 : M (A 12) = some (12, .inl (hT G 2, 8, .inr (.inl g12)))) (N : Nat) (hN : N < 400) (ts en tk : Nat → Nat) (hen0 : en 0 = 0) (htN : ts N = n) (htk36 : tk N = 36) (hbl : ∀ i, i ≤ N → en i ≤ ts i ∧ ∀ j, en i ≤ j → j < ts i → B j = 32) (hat : ∀ i, i < N → TkAt B n (ts i) (en (i + 1)) (tk i) ∧ B (ts i) ≠ 32 ∧ B (ts i) ≠ 10) (hkwE : kwIs B n n (n + 2) 37) (hNv : N = 50) (hpat : ∀ j, j ≤ 50 → tk j = (fPat false true).getD j 0) (nb : Nat → Int32) (wd : Nat → Int64) (hnb : ∀ i, i ≤ N → (if tk i = 34 then tNum B (ts i) (en (i + 1) - ts i) else 0) = nb i) (hwd : ∀ i, i ≤ N → (if tk i = 33 then tWd B n (ts i) (en (i + 1) - ts i) else 0) = wd i) (hw1 : wd 1 = 38) (hw2 : wd 9 = 76) (hw3 : wd 23 = 114) (hv2 : wd 37 = 38) (hv3 : wd 39 = 76) (hbk : nbOk nb) (x6 rr : Nat) (h6 : nb 6 = nI x6) (h6b : 1 ≤ x6 ∧ x6 ≤ 100) (h9 : nb 32 = nI rr) (h9b : rr < 5) (h9c : 1 ≤ rr) (ap : Nat) (h11 : nb 34 = nI ap) (h11b : ap ≤ 300) : hCT l G yX11_teach cX11_teach 4 (Option.some FieldType.int) (hRm 13 110 23000) M [.ref (A 0)] (fun v M' => v = some (.int 0) ∧ ∃ S', QV G M' S' (now, tail, -1, 0, pr, ex) ∧ sN S' = 3 ∧ sM S' = 0 ∧ sA S' 0 = A 0 ∧ sA S' 16 = A 16 ∧ ∀ k, k < 3 → GL (sL S' k) (sF S' k)) := by
  refine hCT.of (own := RX11) (nm := "teach") (by decide) rfl rfl (Nat.le_of_ble_eq_true rfl) ?_
  intro p e s m args below meth c ls X Y hl
  have hx := X.1
  have hb := X.2.1
  have hl : lv_has ls 4 [(0, .ref (A 0))] := hl
  obtain ⟨⟨hl13, -, -, -, -, -⟩, -, ⟨ho0, ho1, -⟩, -, -, -, -⟩ := id hQ
  obtain ⟨mc0, hl13⟩ := hl13
  have hl13 : M (A 13) = some (13, .inr (2, [.int mc0, .ref (A 14), .int 0])) := hl13
  rw [h14] at hl13
  have ho0 : M (A 0) = some (0, .inr (12, hoO (s00 A) (now, tail, er, nI n, pr, ex))) := ho0
  have ho1 : M (A 1) = some (1, .inr (9, [.ref (A 2), .int (nI n)])) := ho1
  have hfr : hFr (fun u => u = 0 ∨ u = 1 ∨ (3 ≤ u ∧ u < 15) ∨ (2000 ≤ u ∧ u < 2300) ∨ u = 3013 ∨ u = 3014) M M := hFr.rf
  refine lv_aload_n hx hb dX11_teach_0 rfl (lv_at hl 0 rfl) ?_
  refine h_get X Y (k := 1) (v := .ref (A 3)) ho0 rfl hin_X11 (by decide) kfl_X11_19 rfl dX11_teach_1 ?_
  refine lv_aload_n hx hb dX11_teach_4 rfl (lv_at hl 0 rfl) ?_
  refine h_get X Y (k := 0) (v := .ref (A 1)) ho0 rfl hin_X11 (by decide) kfl_X11_10 rfl dX11_teach_5 ?_
  refine h_callV (rest := []) X Y (c_read l G M (A 1) (A 2) n f B hn ho1 ht2 hB A cnt g4 g5 g6 g7 hk0 hk4 hk5 hk6 hk7 N hN ts en tk hen0 htN htk36 hbl hat hkwE) gw_X11_107 dsc_X9_read hk0 rfl rfl rfl hl.1 rfl (Nat.le_of_ble_eq_true rfl) ⟨Nat.le_of_ble_eq_true rfl, Nat.le_of_ble_eq_true rfl⟩ ⟨Nat.le_of_ble_eq_true rfl, Nat.le_of_ble_eq_true rfl⟩ dX11_teach_8 ?_
  rintro _ M1 H locs ⟨rfl, hTk, hfa⟩ Y
  try dsimp only [Option.toList, List.nil_append, List.singleton_append]
  have ho0 := hfa _ _ _ ho0 (by omega)
  have ho1 := hfa _ _ _ ho1 (by omega)
  have hl13 := hfa _ _ _ hl13 (by omega)
  have hp8 := hfa _ _ _ hp8 (by omega)
  have hp9 := hfa _ _ _ hp9 (by omega)
  have hp10 := hfa _ _ _ hp10 (by omega)
  have hc11 := hfa _ _ _ hc11 (by omega)
  have hc12 := hfa _ _ _ hc12 (by omega)
  have hfr := hFr.tr hfr (hfa.mono (fun u z => by omega))
  have hTk := hTk.congr hnb hwd
  refine lv_aload_n hx hb dX11_teach_11 rfl (lv_at hl 0 rfl) ?_
  refine h_get X Y (k := 0) (v := .ref (A 1)) ho0 rfl hin_X11 (by decide) kfl_X11_10 rfl dX11_teach_12 ?_
  refine lv_iconst (v := 0) hx hb dX11_teach_15 (by decide) ?_
  refine h_put X Y (k := 1) (v := .int 0) ho1 rfl hin_X8 tyX8_ok nmX8 (by decide) kfl_X11_88 rfl rfl rfl (Nat.le_of_ble_eq_true rfl) dX11_teach_16 (fun H locs Y => ?_)
  have Y : hHS G (hup M1 (A 1) (1, .inr (9, [.ref (A 2), .int 0]))) s H locs := Y
  have hfa : hFr (fun u => u = 1) M1 (hup M1 (A 1) (1, .inr (9, [.ref (A 2), .int 0]))) := hFr.put hFr.rf ho1 rfl
  have ho0 := hfa _ _ _ ho0 (by omega)
  have hl13 := hfa _ _ _ hl13 (by omega)
  have hp8 := hfa _ _ _ hp8 (by omega)
  have hp9 := hfa _ _ _ hp9 (by omega)
  have hp10 := hfa _ _ _ hp10 (by omega)
  have hc11 := hfa _ _ _ hc11 (by omega)
  have hc12 := hfa _ _ _ hc12 (by omega)
  have hTk := hTk.fr hfa (fun j z1 z2 z3 => by omega)
  have hfr := hFr.tr hfr (hfa.mono (fun u z => by omega))
  have ho1 : (hup M1 (A 1) (1, .inr (9, [.ref (A 2), .int 0]))) (A 1) = some (1, .inr (9, [.ref (A 2), .int 0])) := hup_eq
  have Y : hHS G (hup M1 (A 1) (1, .inr (9, [.ref (A 2), .int 0]))) s H locs := Y
  generalize hup M1 (A 1) (1, .inr (9, [.ref (A 2), .int 0])) = M2 at Y hfa hfr ho0 ho1 hl13 hp8 hp9 hp10 hc11 hc12 hTk
  refine lv_aload_n hx hb dX11_teach_19 rfl (lv_at hl 0 rfl) ?_
  refine h_get X Y (k := 2) (v := .ref (A 8)) ho0 rfl hin_X11 (by decide) kfl_X11_28 rfl dX11_teach_20 ?_
  refine h_callV (rest := []) X Y (c_parse01 l G M2 A N tk nb wd hN hTk hNv hpat sc np c9 sn nn hp8 hp9 hp10) gw_X11_111 dsc_X6_parse hp8 rfl rfl rfl hl.1 rfl (Nat.le_of_ble_eq_true rfl) ⟨Nat.le_of_ble_eq_true rfl, Nat.le_of_ble_eq_true rfl⟩ ⟨Nat.le_of_ble_eq_true rfl, Nat.le_of_ble_eq_true rfl⟩ dX11_teach_23 ?_
  rintro _ M3 H locs ⟨lst, e0, qa, qb, qc, La, Lb, Lc, Fa, Fb, Fc, sc1, sn1, nn1, rfl, hlO, hlE, hLa, hLb, hLc, hSa, hSb, hSc, hPa, hfa⟩ Y
  try dsimp only [Option.toList, List.nil_append, List.singleton_append]
  have ho0 := hfa _ _ _ ho0 (by omega)
  have ho1 := hfa _ _ _ ho1 (by omega)
  have hl13 := hfa _ _ _ hl13 (by omega)
  have hc11 := hfa _ _ _ hc11 (by omega)
  have hc12 := hfa _ _ _ hc12 (by omega)
  have hTk := hTk.fr hfa (fun j z1 z2 z3 => by omega)
  have hfr := hFr.tr hfr (hfa.mono (fun u z => by omega))
  refine lv_astore_n (lv' := [(1, .ref lst), (0, .ref (A 0))]) hx hb dX11_teach_26 rfl hl (by decide) rfl (fun ls hl => ?_)
  refine lv_aload_n hx hb dX11_teach_27 rfl (lv_at hl 1 rfl) ?_
  refine h_get X Y (k := 2) (v := .ref (A 8)) ho0 rfl hin_X11 (by decide) kfl_X11_28 rfl dX11_teach_28 ?_
  refine h_callVr (rest := []) X Y (c_wrongTok l G M3 A tk sc1 50 sn1 nn1 hPa (by rw [hpat 50 (by omega)]; decide)) rfl rfl gw_X11_115 dsc_X6_wrongToken hPa.1 rfl rfl rfl rfl hl.1 (Nat.le_of_ble_eq_true rfl) ⟨Nat.le_of_ble_eq_true rfl, Nat.le_of_ble_eq_true rfl⟩ ⟨Nat.le_of_ble_eq_true rfl, Nat.le_of_ble_eq_true rfl⟩ dX11_teach_31 (fun H locs Y => ?_)
  refine lv_istore_n (lv' := [(2, .int (-1)), (1, .ref lst), (0, .ref (A 0))]) hx hb dX11_teach_34 rfl hl (by decide) rfl (fun ls hl => ?_)
  refine lv_iload_n hx hb dX11_teach_35 rfl (lv_at hl 0 rfl) ?_
  refine lv_iconst (v := (-1)) hx hb dX11_teach_36 (by decide) ?_
  refine lv_icmp_ne (tgt := 44) hx hb dX11_teach_37 (by decide) (fun c37 => absurd rfl c37) (fun c37 => ?_)
  refine lv_iconst (v := 0) hx hb dX11_teach_40 (by decide) ?_
  refine lv_goto (tgt := 45) hx hb dX11_teach_41 (by decide) ?_
  refine lv_istore_n (lv' := [(3, .int 0), (2, .int (-1)), (1, .ref lst), (0, .ref (A 0))]) hx hb dX11_teach_45 rfl hl (by decide) rfl (fun ls hl => ?_)
  refine lv_iload_n hx hb dX11_teach_46 rfl (lv_at hl 0 rfl) ?_
  refine lv_if_ne (tgt := 67) hx hb dX11_teach_47 (by decide) (fun c47 => absurd (by decide) c47) (fun c47 => ?_)
  refine lv_aload_n hx hb dX11_teach_50 rfl (lv_at hl 3 rfl) ?_
  refine h_get X Y (k := 3) (v := .ref (A 11)) ho0 rfl hin_X11 (by decide) kfl_X11_35 rfl dX11_teach_51 ?_
  refine lv_aload_n hx hb dX11_teach_54 rfl (lv_at hl 2 rfl) ?_
  refine h_callV (rest := []) X Y (c_check01 l G M3 A N tk nb wd hN hTk hNv hpat c0 wr g12 hc11 hc12 lst e0 qa qb qc La Lb Lc Fa Fb Fc hlO hlE hLa hLb hLc hSc.1 hw1 hw2 hw3 hv2 hv3 (by rw [h6]; exact fun z9 => absurd ((nI_ltI (a := x6) (b := 1) (by omega) (by omega)).mp z9) (by omega)) (by rw [h6]; exact (nI_leI (a := x6) (b := 100) (by omega) (by omega)).mpr (by omega)) (by rw [h9]; exact (nI_leI (a := rr) (b := 4) (by omega) (by omega)).mpr (by omega)) (by rw [h11]; exact (nI_leI (a := ap) (b := 300) (by omega) (by omega)).mpr (by omega)) (by rw [h9]; exact (nI_ltI (a := 0) (b := rr) (by omega) (by omega)).mpr (by omega))) gw_X11_119 dsc_X2_check hc11 rfl rfl rfl hl.1 rfl (Nat.le_of_ble_eq_true rfl) ⟨Nat.le_of_ble_eq_true rfl, Nat.le_of_ble_eq_true rfl⟩ ⟨Nat.le_of_ble_eq_true rfl, Nat.le_of_ble_eq_true rfl⟩ dX11_teach_55 ?_
  rintro _ M4 H locs ⟨rfl, ⟨g13, hc11, hc12⟩, hLa, hLb, hLc, hfa⟩ Y
  try dsimp only [Option.toList, List.nil_append, List.singleton_append]
  have ho0 := hfa _ _ _ ho0 (by omega)
  have ho1 := hfa _ _ _ ho1 (by omega)
  have hl13 := hfa _ _ _ hl13 (by omega)
  have hTk := hTk.fr hfa (fun j z1 z2 z3 => by omega)
  have hlO := hlO.fr hfa (by omega)
  have hlE := hlE.fr hfa (by omega)
  have hfr := hFr.tr hfr (hfa.mono (fun u z => by omega))
  refine lv_istore_n (lv' := [(3, .int 0), (2, .int (-1)), (1, .ref lst), (0, .ref (A 0))]) hx hb dX11_teach_58 rfl hl (by decide) rfl (fun ls hl => ?_)
  refine lv_aload_n hx hb dX11_teach_59 rfl (lv_at hl 3 rfl) ?_
  refine h_get X Y (k := 3) (v := .ref (A 11)) ho0 rfl hin_X11 (by decide) kfl_X11_35 rfl dX11_teach_60 ?_
  refine h_callVr (rest := []) X Y (c_chkWrong l G M4 A 3 (-1) hc11) rfl rfl gw_X11_123 dsc_X2_wrongToken hc11 rfl rfl rfl rfl hl.1 (Nat.le_of_ble_eq_true rfl) ⟨Nat.le_of_ble_eq_true rfl, Nat.le_of_ble_eq_true rfl⟩ ⟨Nat.le_of_ble_eq_true rfl, Nat.le_of_ble_eq_true rfl⟩ dX11_teach_63 (fun H locs Y => ?_)
  refine lv_istore_n (lv' := [(2, .int (-1)), (3, .int 0), (1, .ref lst), (0, .ref (A 0))]) hx hb dX11_teach_66 rfl hl (by decide) rfl (fun ls hl => ?_)
  refine lv_aload_n hx hb dX11_teach_67 rfl (lv_at hl 3 rfl) ?_
  refine lv_iload_n hx hb dX11_teach_68 rfl (lv_at hl 1 rfl) ?_
  refine lv_if_ne (tgt := 76) hx hb dX11_teach_69 (by decide) (fun c69 => absurd (by decide) c69) (fun c69 => ?_)
  refine lv_iconst (v := (-1)) hx hb dX11_teach_72 (by decide) ?_
  refine lv_goto (tgt := 84) hx hb dX11_teach_73 (by decide) ?_
  refine h_put X Y (k := 14) (v := .int (-1)) ho0 rfl hin_X11 tyX11_ok nmX11 (by decide) kfl_X11_85 rfl rfl rfl (Nat.le_of_ble_eq_true rfl) dX11_teach_84 (fun H locs Y => ?_)
  have Y : hHS G (hup M4 (A 0) (0, .inr (12, [.ref (A 1), .ref (A 3), .ref (A 8), .ref (A 11), .ref (A 13), .ref (A 15), .ref (A 100), .ref (A 200), .ref (A 300), .ref (A 19), .ref (A 17), .ref (A 18), .int (nI now), .int tail, .int (-1)]))) s H locs := Y
  have hfa : hFr (fun u => u = 0) M4 (hup M4 (A 0) (0, .inr (12, hoO (s00 A) (now, tail, -1, 0, pr, ex)))) := hFr.put hFr.rf ho0 rfl
  have ho1 := hfa _ _ _ ho1 (by omega)
  have hl13 := hfa _ _ _ hl13 (by omega)
  have hc11 := hfa _ _ _ hc11 (by omega)
  have hc12 := hfa _ _ _ hc12 (by omega)
  have hTk := hTk.fr hfa (fun j z1 z2 z3 => by omega)
  have hlO := hlO.fr hfa (by omega)
  have hlE := hlE.fr hfa (by omega)
  have hLa := hLa.fr hfa (fun j hj => by omega)
  have hLb := hLb.fr hfa (fun j hj => by omega)
  have hLc := hLc.fr hfa (fun j hj => by omega)
  have hfr := hFr.tr hfr (hfa.mono (fun u z => by omega))
  have ho0 : (hup M4 (A 0) (0, .inr (12, hoO (s00 A) (now, tail, -1, 0, pr, ex)))) (A 0) = some (0, .inr (12, hoO (s00 A) (now, tail, -1, 0, pr, ex))) := hup_eq
  have Y : hHS G (hup M4 (A 0) (0, .inr (12, hoO (s00 A) (now, tail, -1, 0, pr, ex)))) s H locs := Y
  generalize hup M4 (A 0) (0, .inr (12, hoO (s00 A) (now, tail, -1, 0, pr, ex))) = M5 at Y hfa hfr ho0 ho1 hl13 hc11 hc12 hTk hlO hlE hLa hLb hLc
  refine lv_iload_n hx hb dX11_teach_87 rfl (lv_at hl 1 rfl) ?_
  refine lv_if_ne (tgt := 96) hx hb dX11_teach_88 (by decide) (fun c88 => absurd (by decide) c88) (fun c88 => ?_)
  refine lv_aload_n hx hb dX11_teach_91 rfl (lv_at hl 3 rfl) ?_
  refine lv_aload_n hx hb dX11_teach_92 rfl (lv_at hl 2 rfl) ?_
  refine h_callV (rest := []) X Y (c_adopt l G M5 A (now, tail, -1, 0, pr, ex) ho0 mc0 hl13 lst e0 qa qb qc (lyU La 0 (nb (5 + 1))) Lb (lyNt (lyNt (lyX (lyU Lc 1 (nb (31 + 1))) (nb (33 + 1))) 0) 1) Fa Fb Fc hlO hlE hLa hLb hLc (hSa.g.congr rfl) (hSb.g.congr rfl) (hSc.g.congr rfl)) gw_X11_128 dsc_X11_adopt ho0 rfl rfl rfl hl.1 rfl (Nat.le_of_ble_eq_true rfl) ⟨Nat.le_of_ble_eq_true rfl, Nat.le_of_ble_eq_true rfl⟩ ⟨Nat.le_of_ble_eq_true rfl, Nat.le_of_ble_eq_true rfl⟩ dX11_teach_93 ?_
  rintro _ M6 H locs ⟨rfl, ⟨mc1, q, cap, ff, hl13, hl14, k1, k2, k3⟩, ⟨Na, Ba, hZa, hSZa⟩, ⟨Nb, Bb, hZb, hSZb⟩, ⟨Nc, Bc, hZc, hSZc⟩, hfa⟩ Y
  try dsimp only [Option.toList, List.nil_append, List.singleton_append]
  have ho0 := hfa _ _ _ ho0 (by omega)
  have ho1 := hfa _ _ _ ho1 (by omega)
  have hc11 := hfa _ _ _ hc11 (by omega)
  have hc12 := hfa _ _ _ hc12 (by omega)
  have hTk := hTk.fr hfa (fun j z1 z2 z3 => by omega)
  have hlO := hlO.fr hfa (by omega)
  have hlE := hlE.fr hfa (by omega)
  have hfr := hFr.tr hfr (hfa.mono (fun u z => by omega))
  refine lv_iload_n hx hb dX11_teach_96 rfl (lv_at hl 1 rfl) ?_
  have ga : GL (lyZ (lyU La 0 (nb (5 + 1))) Na Ba) (fA Fa) := GL.a hSa hbk (show (lyU La 0 (nb (5 + 1))) = lyU La 0 (nI x6) from congrArg (lyU La 0) h6) h6b hSZa
  have gb : GL (lyZ Lb Nb Bb) (fA Fb) := GL.b hSb hbk ⟨rfl, rfl, rfl, rfl⟩ hSZb
  have eI : lyI Lc = lyI0 := hSc.1
  have eN : lyN Lc 0 = lyT0 := hSc.2.1
  have gc : GL (lyZ (lyNt (lyNt (lyX (lyU Lc 1 (nb (31 + 1))) (nb (33 + 1))) 0) 1) Nc Bc) Fc := GL.c (n := 1) hSc hbk ⟨rfl, h9, rfl, rfl⟩ h9b (by decide) (fun k hk => by rcases (show k = 0 by omega) with rfl; show 0 ≤ (nb 34).toInt ∧ (nb 34).toInt ≤ 300; rw [h11, nI_toInt (by omega)]; omega) hSZc
  have fga := hSa.g
  have fgb := hSb.g
  have fgc := hSc.g
  obtain ⟨zc, hzc⟩ := hSc.2.2.1.2.2
  exact h_iret X Y ⟨rfl, _, QV.taught hQ hfr ho0 ho1 hl13 hl14 k1 k2 k3 (LySt.lavA hZa hSa.2.2.1.2.2) (LySt.lavA hZb hSb.2.2.1.2.2) (LySt.lav hZc) ⟨fga.1, fga.2.1, fga.1, ga.2.2.2.imp (fun n hn => ⟨hn.1, hn.2.1⟩)⟩ ⟨fgb.1, fgb.2.1, fgb.1, gb.2.2.2.imp (fun n hn => ⟨hn.1, hn.2.1⟩)⟩ ⟨fgc.1, fgc.2.1, fgc.2.2.2.2 zc hzc, gc.2.2.2.imp (fun n hn => ⟨hn.1, hn.2.1⟩)⟩, rfl, rfl, rfl, rfl, fun k hk => (by rcases (show k = 0 ∨ k = 1 ∨ k = 2 by omega) with rfl | rfl | rfl; exact ga; exact gb; exact gc)⟩ (by show _ ≤ 110; omega) (by show _ ≤ 23000; omega) dX11_teach_97
set_option maxHeartbeats 2000000 in
set_option maxRecDepth 100000 in
theorem c_teach10 (l : Launch) (G : hG) (M : hM) (A : Nat → Nat) (now n : Nat) (tail er : Int32) (pr ex : Nat → Int32) (hQ : QV G M (s00 A) (now, tail, er, nI n, pr, ex)) (h14 : A 14 = hDE G) (f : Nat → Int32) (B : Nat → Nat) (hn : n ≤ 2000) (ht2 : M (A 2) = some (2, .inl (hT G 1, 2000, .inl f))) (hB : tB f B n) (cnt : Int32) (g4 : Nat → Option Nat) (g5 g6 : Nat → Int32) (g7 : Nat → Int64) (hk0 : M (A 3) = some (3, .inr (10, [.ref (A 4), .ref (A 5), .ref (A 6), .ref (A 7), .int cnt]))) (hk4 : M (A 4) = some (4, .inl (hT G 3, 401, .inr (.inr (.inr (.inr g4)))))) (hk5 : M (A 5) = some (5, .inl (hT G 0, 401, .inl g5))) (hk6 : M (A 6) = some (6, .inl (hT G 0, 401, .inl g6))) (hk7 : M (A 7) = some (7, .inl (hT G 2, 401, .inr (.inl g7)))) (sc np c9 : Nat) (sn : Nat → Option Nat) (nn : Nat → Int32) (hp8 : M (A 8) = some (8, .inr (8, [.ref (A 3), .ref (A 9), .ref (A 10), .int (nI sc), .int (nI np), .ref (hSg G c9)]))) (hp9 : M (A 9) = some (9, .inl (hT G 3, 400, .inr (.inr (.inr (.inr sn)))))) (hp10 : M (A 10) = some (10, .inl (hT G 0, 400, .inl nn))) (c0 wr : Int32) (g12 : Nat → Int64) (hc11 : M (A 11) = some (11, .inr (4, [.ref (A 3), .ref (A 12), .int c0, .int wr]))) (hc12 : M (A 12) = some (12, .inl (hT G 2, 8, .inr (.inl g12)))) (N : Nat) (hN : N < 400) (ts en tk : Nat → Nat) (hen0 : en 0 = 0) (htN : ts N = n) (htk36 : tk N = 36) (hbl : ∀ i, i ≤ N → en i ≤ ts i ∧ ∀ j, en i ≤ j → j < ts i → B j = 32) (hat : ∀ i, i < N → TkAt B n (ts i) (en (i + 1)) (tk i) ∧ B (ts i) ≠ 32 ∧ B (ts i) ≠ 10) (hkwE : kwIs B n n (n + 2) 37) (hNv : N = 51) (hpat : ∀ j, j ≤ 51 → tk j = (fPat true false).getD j 0) (nb : Nat → Int32) (wd : Nat → Int64) (hnb : ∀ i, i ≤ N → (if tk i = 34 then tNum B (ts i) (en (i + 1) - ts i) else 0) = nb i) (hwd : ∀ i, i ≤ N → (if tk i = 33 then tWd B n (ts i) (en (i + 1) - ts i) else 0) = wd i) (hw1 : wd 1 = 38) (hw2 : wd 9 = 76) (hw3 : wd 26 = 114) (hv1 : wd 23 = 38) (hv2 : wd 38 = 38) (hv3 : wd 40 = 76) (hbk : nbOk nb) (x6 rr : Nat) (h6 : nb 6 = nI x6) (h6b : 1 ≤ x6 ∧ x6 ≤ 100) (h9 : nb 35 = nI rr) (h9b : rr < 5) : hCT l G yX11_teach cX11_teach 4 (Option.some FieldType.int) (hRm 13 110 23000) M [.ref (A 0)] (fun v M' => v = some (.int 0) ∧ ∃ S', QV G M' S' (now, tail, -1, 0, pr, ex) ∧ sN S' = 3 ∧ sM S' = 0 ∧ sA S' 0 = A 0 ∧ sA S' 16 = A 16 ∧ ∀ k, k < 3 → GL (sL S' k) (sF S' k)) := by
  refine hCT.of (own := RX11) (nm := "teach") (by decide) rfl rfl (Nat.le_of_ble_eq_true rfl) ?_
  intro p e s m args below meth c ls X Y hl
  have hx := X.1
  have hb := X.2.1
  have hl : lv_has ls 4 [(0, .ref (A 0))] := hl
  obtain ⟨⟨hl13, -, -, -, -, -⟩, -, ⟨ho0, ho1, -⟩, -, -, -, -⟩ := id hQ
  obtain ⟨mc0, hl13⟩ := hl13
  have hl13 : M (A 13) = some (13, .inr (2, [.int mc0, .ref (A 14), .int 0])) := hl13
  rw [h14] at hl13
  have ho0 : M (A 0) = some (0, .inr (12, hoO (s00 A) (now, tail, er, nI n, pr, ex))) := ho0
  have ho1 : M (A 1) = some (1, .inr (9, [.ref (A 2), .int (nI n)])) := ho1
  have hfr : hFr (fun u => u = 0 ∨ u = 1 ∨ (3 ≤ u ∧ u < 15) ∨ (2000 ≤ u ∧ u < 2300) ∨ u = 3013 ∨ u = 3014) M M := hFr.rf
  refine lv_aload_n hx hb dX11_teach_0 rfl (lv_at hl 0 rfl) ?_
  refine h_get X Y (k := 1) (v := .ref (A 3)) ho0 rfl hin_X11 (by decide) kfl_X11_19 rfl dX11_teach_1 ?_
  refine lv_aload_n hx hb dX11_teach_4 rfl (lv_at hl 0 rfl) ?_
  refine h_get X Y (k := 0) (v := .ref (A 1)) ho0 rfl hin_X11 (by decide) kfl_X11_10 rfl dX11_teach_5 ?_
  refine h_callV (rest := []) X Y (c_read l G M (A 1) (A 2) n f B hn ho1 ht2 hB A cnt g4 g5 g6 g7 hk0 hk4 hk5 hk6 hk7 N hN ts en tk hen0 htN htk36 hbl hat hkwE) gw_X11_107 dsc_X9_read hk0 rfl rfl rfl hl.1 rfl (Nat.le_of_ble_eq_true rfl) ⟨Nat.le_of_ble_eq_true rfl, Nat.le_of_ble_eq_true rfl⟩ ⟨Nat.le_of_ble_eq_true rfl, Nat.le_of_ble_eq_true rfl⟩ dX11_teach_8 ?_
  rintro _ M1 H locs ⟨rfl, hTk, hfa⟩ Y
  try dsimp only [Option.toList, List.nil_append, List.singleton_append]
  have ho0 := hfa _ _ _ ho0 (by omega)
  have ho1 := hfa _ _ _ ho1 (by omega)
  have hl13 := hfa _ _ _ hl13 (by omega)
  have hp8 := hfa _ _ _ hp8 (by omega)
  have hp9 := hfa _ _ _ hp9 (by omega)
  have hp10 := hfa _ _ _ hp10 (by omega)
  have hc11 := hfa _ _ _ hc11 (by omega)
  have hc12 := hfa _ _ _ hc12 (by omega)
  have hfr := hFr.tr hfr (hfa.mono (fun u z => by omega))
  have hTk := hTk.congr hnb hwd
  refine lv_aload_n hx hb dX11_teach_11 rfl (lv_at hl 0 rfl) ?_
  refine h_get X Y (k := 0) (v := .ref (A 1)) ho0 rfl hin_X11 (by decide) kfl_X11_10 rfl dX11_teach_12 ?_
  refine lv_iconst (v := 0) hx hb dX11_teach_15 (by decide) ?_
  refine h_put X Y (k := 1) (v := .int 0) ho1 rfl hin_X8 tyX8_ok nmX8 (by decide) kfl_X11_88 rfl rfl rfl (Nat.le_of_ble_eq_true rfl) dX11_teach_16 (fun H locs Y => ?_)
  have Y : hHS G (hup M1 (A 1) (1, .inr (9, [.ref (A 2), .int 0]))) s H locs := Y
  have hfa : hFr (fun u => u = 1) M1 (hup M1 (A 1) (1, .inr (9, [.ref (A 2), .int 0]))) := hFr.put hFr.rf ho1 rfl
  have ho0 := hfa _ _ _ ho0 (by omega)
  have hl13 := hfa _ _ _ hl13 (by omega)
  have hp8 := hfa _ _ _ hp8 (by omega)
  have hp9 := hfa _ _ _ hp9 (by omega)
  have hp10 := hfa _ _ _ hp10 (by omega)
  have hc11 := hfa _ _ _ hc11 (by omega)
  have hc12 := hfa _ _ _ hc12 (by omega)
  have hTk := hTk.fr hfa (fun j z1 z2 z3 => by omega)
  have hfr := hFr.tr hfr (hfa.mono (fun u z => by omega))
  have ho1 : (hup M1 (A 1) (1, .inr (9, [.ref (A 2), .int 0]))) (A 1) = some (1, .inr (9, [.ref (A 2), .int 0])) := hup_eq
  have Y : hHS G (hup M1 (A 1) (1, .inr (9, [.ref (A 2), .int 0]))) s H locs := Y
  generalize hup M1 (A 1) (1, .inr (9, [.ref (A 2), .int 0])) = M2 at Y hfa hfr ho0 ho1 hl13 hp8 hp9 hp10 hc11 hc12 hTk
  refine lv_aload_n hx hb dX11_teach_19 rfl (lv_at hl 0 rfl) ?_
  refine h_get X Y (k := 2) (v := .ref (A 8)) ho0 rfl hin_X11 (by decide) kfl_X11_28 rfl dX11_teach_20 ?_
  refine h_callV (rest := []) X Y (c_parse10 l G M2 A N tk nb wd hN hTk hNv hpat sc np c9 sn nn hp8 hp9 hp10) gw_X11_111 dsc_X6_parse hp8 rfl rfl rfl hl.1 rfl (Nat.le_of_ble_eq_true rfl) ⟨Nat.le_of_ble_eq_true rfl, Nat.le_of_ble_eq_true rfl⟩ ⟨Nat.le_of_ble_eq_true rfl, Nat.le_of_ble_eq_true rfl⟩ dX11_teach_23 ?_
  rintro _ M3 H locs ⟨lst, e0, qa, qb, qc, La, Lb, Lc, Fa, Fb, Fc, sc1, sn1, nn1, rfl, hlO, hlE, hLa, hLb, hLc, hSa, hSb, hSc, hPa, hfa⟩ Y
  try dsimp only [Option.toList, List.nil_append, List.singleton_append]
  have ho0 := hfa _ _ _ ho0 (by omega)
  have ho1 := hfa _ _ _ ho1 (by omega)
  have hl13 := hfa _ _ _ hl13 (by omega)
  have hc11 := hfa _ _ _ hc11 (by omega)
  have hc12 := hfa _ _ _ hc12 (by omega)
  have hTk := hTk.fr hfa (fun j z1 z2 z3 => by omega)
  have hfr := hFr.tr hfr (hfa.mono (fun u z => by omega))
  refine lv_astore_n (lv' := [(1, .ref lst), (0, .ref (A 0))]) hx hb dX11_teach_26 rfl hl (by decide) rfl (fun ls hl => ?_)
  refine lv_aload_n hx hb dX11_teach_27 rfl (lv_at hl 1 rfl) ?_
  refine h_get X Y (k := 2) (v := .ref (A 8)) ho0 rfl hin_X11 (by decide) kfl_X11_28 rfl dX11_teach_28 ?_
  refine h_callVr (rest := []) X Y (c_wrongTok l G M3 A tk sc1 51 sn1 nn1 hPa (by rw [hpat 51 (by omega)]; decide)) rfl rfl gw_X11_115 dsc_X6_wrongToken hPa.1 rfl rfl rfl rfl hl.1 (Nat.le_of_ble_eq_true rfl) ⟨Nat.le_of_ble_eq_true rfl, Nat.le_of_ble_eq_true rfl⟩ ⟨Nat.le_of_ble_eq_true rfl, Nat.le_of_ble_eq_true rfl⟩ dX11_teach_31 (fun H locs Y => ?_)
  refine lv_istore_n (lv' := [(2, .int (-1)), (1, .ref lst), (0, .ref (A 0))]) hx hb dX11_teach_34 rfl hl (by decide) rfl (fun ls hl => ?_)
  refine lv_iload_n hx hb dX11_teach_35 rfl (lv_at hl 0 rfl) ?_
  refine lv_iconst (v := (-1)) hx hb dX11_teach_36 (by decide) ?_
  refine lv_icmp_ne (tgt := 44) hx hb dX11_teach_37 (by decide) (fun c37 => absurd rfl c37) (fun c37 => ?_)
  refine lv_iconst (v := 0) hx hb dX11_teach_40 (by decide) ?_
  refine lv_goto (tgt := 45) hx hb dX11_teach_41 (by decide) ?_
  refine lv_istore_n (lv' := [(3, .int 0), (2, .int (-1)), (1, .ref lst), (0, .ref (A 0))]) hx hb dX11_teach_45 rfl hl (by decide) rfl (fun ls hl => ?_)
  refine lv_iload_n hx hb dX11_teach_46 rfl (lv_at hl 0 rfl) ?_
  refine lv_if_ne (tgt := 67) hx hb dX11_teach_47 (by decide) (fun c47 => absurd (by decide) c47) (fun c47 => ?_)
  refine lv_aload_n hx hb dX11_teach_50 rfl (lv_at hl 3 rfl) ?_
  refine h_get X Y (k := 3) (v := .ref (A 11)) ho0 rfl hin_X11 (by decide) kfl_X11_35 rfl dX11_teach_51 ?_
  refine lv_aload_n hx hb dX11_teach_54 rfl (lv_at hl 2 rfl) ?_
  refine h_callV (rest := []) X Y (c_check10 l G M3 A N tk nb wd hN hTk hNv hpat c0 wr g12 hc11 hc12 lst e0 qa qb qc La Lb Lc Fa Fb Fc hlO hlE hLa hLb hLc hSc.1 hw1 hw2 hw3 hv1 hv2 hv3 (by rw [h6]; exact fun z9 => absurd ((nI_ltI (a := x6) (b := 1) (by omega) (by omega)).mp z9) (by omega)) (by rw [h6]; exact (nI_leI (a := x6) (b := 100) (by omega) (by omega)).mpr (by omega)) (by rw [h9]; exact (nI_leI (a := rr) (b := 4) (by omega) (by omega)).mpr (by omega))) gw_X11_119 dsc_X2_check hc11 rfl rfl rfl hl.1 rfl (Nat.le_of_ble_eq_true rfl) ⟨Nat.le_of_ble_eq_true rfl, Nat.le_of_ble_eq_true rfl⟩ ⟨Nat.le_of_ble_eq_true rfl, Nat.le_of_ble_eq_true rfl⟩ dX11_teach_55 ?_
  rintro _ M4 H locs ⟨rfl, ⟨g13, hc11, hc12⟩, hLa, hLb, hLc, hfa⟩ Y
  try dsimp only [Option.toList, List.nil_append, List.singleton_append]
  have ho0 := hfa _ _ _ ho0 (by omega)
  have ho1 := hfa _ _ _ ho1 (by omega)
  have hl13 := hfa _ _ _ hl13 (by omega)
  have hTk := hTk.fr hfa (fun j z1 z2 z3 => by omega)
  have hlO := hlO.fr hfa (by omega)
  have hlE := hlE.fr hfa (by omega)
  have hfr := hFr.tr hfr (hfa.mono (fun u z => by omega))
  refine lv_istore_n (lv' := [(3, .int 0), (2, .int (-1)), (1, .ref lst), (0, .ref (A 0))]) hx hb dX11_teach_58 rfl hl (by decide) rfl (fun ls hl => ?_)
  refine lv_aload_n hx hb dX11_teach_59 rfl (lv_at hl 3 rfl) ?_
  refine h_get X Y (k := 3) (v := .ref (A 11)) ho0 rfl hin_X11 (by decide) kfl_X11_35 rfl dX11_teach_60 ?_
  refine h_callVr (rest := []) X Y (c_chkWrong l G M4 A 3 (-1) hc11) rfl rfl gw_X11_123 dsc_X2_wrongToken hc11 rfl rfl rfl rfl hl.1 (Nat.le_of_ble_eq_true rfl) ⟨Nat.le_of_ble_eq_true rfl, Nat.le_of_ble_eq_true rfl⟩ ⟨Nat.le_of_ble_eq_true rfl, Nat.le_of_ble_eq_true rfl⟩ dX11_teach_63 (fun H locs Y => ?_)
  refine lv_istore_n (lv' := [(2, .int (-1)), (3, .int 0), (1, .ref lst), (0, .ref (A 0))]) hx hb dX11_teach_66 rfl hl (by decide) rfl (fun ls hl => ?_)
  refine lv_aload_n hx hb dX11_teach_67 rfl (lv_at hl 3 rfl) ?_
  refine lv_iload_n hx hb dX11_teach_68 rfl (lv_at hl 1 rfl) ?_
  refine lv_if_ne (tgt := 76) hx hb dX11_teach_69 (by decide) (fun c69 => absurd (by decide) c69) (fun c69 => ?_)
  refine lv_iconst (v := (-1)) hx hb dX11_teach_72 (by decide) ?_
  refine lv_goto (tgt := 84) hx hb dX11_teach_73 (by decide) ?_
  refine h_put X Y (k := 14) (v := .int (-1)) ho0 rfl hin_X11 tyX11_ok nmX11 (by decide) kfl_X11_85 rfl rfl rfl (Nat.le_of_ble_eq_true rfl) dX11_teach_84 (fun H locs Y => ?_)
  have Y : hHS G (hup M4 (A 0) (0, .inr (12, [.ref (A 1), .ref (A 3), .ref (A 8), .ref (A 11), .ref (A 13), .ref (A 15), .ref (A 100), .ref (A 200), .ref (A 300), .ref (A 19), .ref (A 17), .ref (A 18), .int (nI now), .int tail, .int (-1)]))) s H locs := Y
  have hfa : hFr (fun u => u = 0) M4 (hup M4 (A 0) (0, .inr (12, hoO (s00 A) (now, tail, -1, 0, pr, ex)))) := hFr.put hFr.rf ho0 rfl
  have ho1 := hfa _ _ _ ho1 (by omega)
  have hl13 := hfa _ _ _ hl13 (by omega)
  have hc11 := hfa _ _ _ hc11 (by omega)
  have hc12 := hfa _ _ _ hc12 (by omega)
  have hTk := hTk.fr hfa (fun j z1 z2 z3 => by omega)
  have hlO := hlO.fr hfa (by omega)
  have hlE := hlE.fr hfa (by omega)
  have hLa := hLa.fr hfa (fun j hj => by omega)
  have hLb := hLb.fr hfa (fun j hj => by omega)
  have hLc := hLc.fr hfa (fun j hj => by omega)
  have hfr := hFr.tr hfr (hfa.mono (fun u z => by omega))
  have ho0 : (hup M4 (A 0) (0, .inr (12, hoO (s00 A) (now, tail, -1, 0, pr, ex)))) (A 0) = some (0, .inr (12, hoO (s00 A) (now, tail, -1, 0, pr, ex))) := hup_eq
  have Y : hHS G (hup M4 (A 0) (0, .inr (12, hoO (s00 A) (now, tail, -1, 0, pr, ex)))) s H locs := Y
  generalize hup M4 (A 0) (0, .inr (12, hoO (s00 A) (now, tail, -1, 0, pr, ex))) = M5 at Y hfa hfr ho0 ho1 hl13 hc11 hc12 hTk hlO hlE hLa hLb hLc
  refine lv_iload_n hx hb dX11_teach_87 rfl (lv_at hl 1 rfl) ?_
  refine lv_if_ne (tgt := 96) hx hb dX11_teach_88 (by decide) (fun c88 => absurd (by decide) c88) (fun c88 => ?_)
  refine lv_aload_n hx hb dX11_teach_91 rfl (lv_at hl 3 rfl) ?_
  refine lv_aload_n hx hb dX11_teach_92 rfl (lv_at hl 2 rfl) ?_
  refine h_callV (rest := []) X Y (c_adopt l G M5 A (now, tail, -1, 0, pr, ex) ho0 mc0 hl13 lst e0 qa qb qc (lyU La 0 (nb (5 + 1))) (lyNt Lb 0) (lyNt (lyNt (lyU Lc 1 (nb (34 + 1))) 0) 1) Fa Fb Fc hlO hlE hLa hLb hLc (hSa.g.congr rfl) (hSb.g.congr rfl) (hSc.g.congr rfl)) gw_X11_128 dsc_X11_adopt ho0 rfl rfl rfl hl.1 rfl (Nat.le_of_ble_eq_true rfl) ⟨Nat.le_of_ble_eq_true rfl, Nat.le_of_ble_eq_true rfl⟩ ⟨Nat.le_of_ble_eq_true rfl, Nat.le_of_ble_eq_true rfl⟩ dX11_teach_93 ?_
  rintro _ M6 H locs ⟨rfl, ⟨mc1, q, cap, ff, hl13, hl14, k1, k2, k3⟩, ⟨Na, Ba, hZa, hSZa⟩, ⟨Nb, Bb, hZb, hSZb⟩, ⟨Nc, Bc, hZc, hSZc⟩, hfa⟩ Y
  try dsimp only [Option.toList, List.nil_append, List.singleton_append]
  have ho0 := hfa _ _ _ ho0 (by omega)
  have ho1 := hfa _ _ _ ho1 (by omega)
  have hc11 := hfa _ _ _ hc11 (by omega)
  have hc12 := hfa _ _ _ hc12 (by omega)
  have hTk := hTk.fr hfa (fun j z1 z2 z3 => by omega)
  have hlO := hlO.fr hfa (by omega)
  have hlE := hlE.fr hfa (by omega)
  have hfr := hFr.tr hfr (hfa.mono (fun u z => by omega))
  refine lv_iload_n hx hb dX11_teach_96 rfl (lv_at hl 1 rfl) ?_
  have ga : GL (lyZ (lyU La 0 (nb (5 + 1))) Na Ba) (fA Fa) := GL.a hSa hbk (show (lyU La 0 (nb (5 + 1))) = lyU La 0 (nI x6) from congrArg (lyU La 0) h6) h6b hSZa
  have gb : GL (lyZ (lyNt Lb 0) Nb Bb) (fA Fb) := GL.b hSb hbk ⟨rfl, rfl, rfl, rfl⟩ hSZb
  have eI : lyI Lc = lyI0 := hSc.1
  have eN : lyN Lc 0 = lyT0 := hSc.2.1
  have gc : GL (lyZ (lyNt (lyNt (lyU Lc 1 (nb (34 + 1))) 0) 1) Nc Bc) Fc := GL.c (n := 0) hSc hbk ⟨rfl, h9, (by show lyI Lc 2 = nI 0; rw [eI]; rfl), rfl⟩ h9b (by decide) (fun k hk => absurd hk (by omega)) hSZc
  have fga := hSa.g
  have fgb := hSb.g
  have fgc := hSc.g
  obtain ⟨zc, hzc⟩ := hSc.2.2.1.2.2
  exact h_iret X Y ⟨rfl, _, QV.taught hQ hfr ho0 ho1 hl13 hl14 k1 k2 k3 (LySt.lavA hZa hSa.2.2.1.2.2) (LySt.lavA hZb hSb.2.2.1.2.2) (LySt.lav hZc) ⟨fga.1, fga.2.1, fga.1, ga.2.2.2.imp (fun n hn => ⟨hn.1, hn.2.1⟩)⟩ ⟨fgb.1, fgb.2.1, fgb.1, gb.2.2.2.imp (fun n hn => ⟨hn.1, hn.2.1⟩)⟩ ⟨fgc.1, fgc.2.1, fgc.2.2.2.2 zc hzc, gc.2.2.2.imp (fun n hn => ⟨hn.1, hn.2.1⟩)⟩, rfl, rfl, rfl, rfl, fun k hk => (by rcases (show k = 0 ∨ k = 1 ∨ k = 2 by omega) with rfl | rfl | rfl; exact ga; exact gb; exact gc)⟩ (by show _ ≤ 110; omega) (by show _ ≤ 23000; omega) dX11_teach_97
set_option maxHeartbeats 2000000 in
set_option maxRecDepth 100000 in
theorem c_teach11 (l : Launch) (G : hG) (M : hM) (A : Nat → Nat) (now n : Nat) (tail er : Int32) (pr ex : Nat → Int32) (hQ : QV G M (s00 A) (now, tail, er, nI n, pr, ex)) (h14 : A 14 = hDE G) (f : Nat → Int32) (B : Nat → Nat) (hn : n ≤ 2000) (ht2 : M (A 2) = some (2, .inl (hT G 1, 2000, .inl f))) (hB : tB f B n) (cnt : Int32) (g4 : Nat → Option Nat) (g5 g6 : Nat → Int32) (g7 : Nat → Int64) (hk0 : M (A 3) = some (3, .inr (10, [.ref (A 4), .ref (A 5), .ref (A 6), .ref (A 7), .int cnt]))) (hk4 : M (A 4) = some (4, .inl (hT G 3, 401, .inr (.inr (.inr (.inr g4)))))) (hk5 : M (A 5) = some (5, .inl (hT G 0, 401, .inl g5))) (hk6 : M (A 6) = some (6, .inl (hT G 0, 401, .inl g6))) (hk7 : M (A 7) = some (7, .inl (hT G 2, 401, .inr (.inl g7)))) (sc np c9 : Nat) (sn : Nat → Option Nat) (nn : Nat → Int32) (hp8 : M (A 8) = some (8, .inr (8, [.ref (A 3), .ref (A 9), .ref (A 10), .int (nI sc), .int (nI np), .ref (hSg G c9)]))) (hp9 : M (A 9) = some (9, .inl (hT G 3, 400, .inr (.inr (.inr (.inr sn)))))) (hp10 : M (A 10) = some (10, .inl (hT G 0, 400, .inl nn))) (c0 wr : Int32) (g12 : Nat → Int64) (hc11 : M (A 11) = some (11, .inr (4, [.ref (A 3), .ref (A 12), .int c0, .int wr]))) (hc12 : M (A 12) = some (12, .inl (hT G 2, 8, .inr (.inl g12)))) (N : Nat) (hN : N < 400) (ts en tk : Nat → Nat) (hen0 : en 0 = 0) (htN : ts N = n) (htk36 : tk N = 36) (hbl : ∀ i, i ≤ N → en i ≤ ts i ∧ ∀ j, en i ≤ j → j < ts i → B j = 32) (hat : ∀ i, i < N → TkAt B n (ts i) (en (i + 1)) (tk i) ∧ B (ts i) ≠ 32 ∧ B (ts i) ≠ 10) (hkwE : kwIs B n n (n + 2) 37) (hNv : N = 53) (hpat : ∀ j, j ≤ 53 → tk j = (fPat true true).getD j 0) (nb : Nat → Int32) (wd : Nat → Int64) (hnb : ∀ i, i ≤ N → (if tk i = 34 then tNum B (ts i) (en (i + 1) - ts i) else 0) = nb i) (hwd : ∀ i, i ≤ N → (if tk i = 33 then tWd B n (ts i) (en (i + 1) - ts i) else 0) = wd i) (hw1 : wd 1 = 38) (hw2 : wd 9 = 76) (hw3 : wd 26 = 114) (hv1 : wd 23 = 38) (hv2 : wd 40 = 38) (hv3 : wd 42 = 76) (hbk : nbOk nb) (x6 rr : Nat) (h6 : nb 6 = nI x6) (h6b : 1 ≤ x6 ∧ x6 ≤ 100) (h9 : nb 35 = nI rr) (h9b : rr < 5) (h9c : 1 ≤ rr) (ap : Nat) (h11 : nb 37 = nI ap) (h11b : ap ≤ 300) : hCT l G yX11_teach cX11_teach 4 (Option.some FieldType.int) (hRm 13 110 23000) M [.ref (A 0)] (fun v M' => v = some (.int 0) ∧ ∃ S', QV G M' S' (now, tail, -1, 0, pr, ex) ∧ sN S' = 3 ∧ sM S' = 0 ∧ sA S' 0 = A 0 ∧ sA S' 16 = A 16 ∧ ∀ k, k < 3 → GL (sL S' k) (sF S' k)) := by
  refine hCT.of (own := RX11) (nm := "teach") (by decide) rfl rfl (Nat.le_of_ble_eq_true rfl) ?_
  intro p e s m args below meth c ls X Y hl
  have hx := X.1
  have hb := X.2.1
  have hl : lv_has ls 4 [(0, .ref (A 0))] := hl
  obtain ⟨⟨hl13, -, -, -, -, -⟩, -, ⟨ho0, ho1, -⟩, -, -, -, -⟩ := id hQ
  obtain ⟨mc0, hl13⟩ := hl13
  have hl13 : M (A 13) = some (13, .inr (2, [.int mc0, .ref (A 14), .int 0])) := hl13
  rw [h14] at hl13
  have ho0 : M (A 0) = some (0, .inr (12, hoO (s00 A) (now, tail, er, nI n, pr, ex))) := ho0
  have ho1 : M (A 1) = some (1, .inr (9, [.ref (A 2), .int (nI n)])) := ho1
  have hfr : hFr (fun u => u = 0 ∨ u = 1 ∨ (3 ≤ u ∧ u < 15) ∨ (2000 ≤ u ∧ u < 2300) ∨ u = 3013 ∨ u = 3014) M M := hFr.rf
  refine lv_aload_n hx hb dX11_teach_0 rfl (lv_at hl 0 rfl) ?_
  refine h_get X Y (k := 1) (v := .ref (A 3)) ho0 rfl hin_X11 (by decide) kfl_X11_19 rfl dX11_teach_1 ?_
  refine lv_aload_n hx hb dX11_teach_4 rfl (lv_at hl 0 rfl) ?_
  refine h_get X Y (k := 0) (v := .ref (A 1)) ho0 rfl hin_X11 (by decide) kfl_X11_10 rfl dX11_teach_5 ?_
  refine h_callV (rest := []) X Y (c_read l G M (A 1) (A 2) n f B hn ho1 ht2 hB A cnt g4 g5 g6 g7 hk0 hk4 hk5 hk6 hk7 N hN ts en tk hen0 htN htk36 hbl hat hkwE) gw_X11_107 dsc_X9_read hk0 rfl rfl rfl hl.1 rfl (Nat.le_of_ble_eq_true rfl) ⟨Nat.le_of_ble_eq_true rfl, Nat.le_of_ble_eq_true rfl⟩ ⟨Nat.le_of_ble_eq_true rfl, Nat.le_of_ble_eq_true rfl⟩ dX11_teach_8 ?_
  rintro _ M1 H locs ⟨rfl, hTk, hfa⟩ Y
  try dsimp only [Option.toList, List.nil_append, List.singleton_append]
  have ho0 := hfa _ _ _ ho0 (by omega)
  have ho1 := hfa _ _ _ ho1 (by omega)
  have hl13 := hfa _ _ _ hl13 (by omega)
  have hp8 := hfa _ _ _ hp8 (by omega)
  have hp9 := hfa _ _ _ hp9 (by omega)
  have hp10 := hfa _ _ _ hp10 (by omega)
  have hc11 := hfa _ _ _ hc11 (by omega)
  have hc12 := hfa _ _ _ hc12 (by omega)
  have hfr := hFr.tr hfr (hfa.mono (fun u z => by omega))
  have hTk := hTk.congr hnb hwd
  refine lv_aload_n hx hb dX11_teach_11 rfl (lv_at hl 0 rfl) ?_
  refine h_get X Y (k := 0) (v := .ref (A 1)) ho0 rfl hin_X11 (by decide) kfl_X11_10 rfl dX11_teach_12 ?_
  refine lv_iconst (v := 0) hx hb dX11_teach_15 (by decide) ?_
  refine h_put X Y (k := 1) (v := .int 0) ho1 rfl hin_X8 tyX8_ok nmX8 (by decide) kfl_X11_88 rfl rfl rfl (Nat.le_of_ble_eq_true rfl) dX11_teach_16 (fun H locs Y => ?_)
  have Y : hHS G (hup M1 (A 1) (1, .inr (9, [.ref (A 2), .int 0]))) s H locs := Y
  have hfa : hFr (fun u => u = 1) M1 (hup M1 (A 1) (1, .inr (9, [.ref (A 2), .int 0]))) := hFr.put hFr.rf ho1 rfl
  have ho0 := hfa _ _ _ ho0 (by omega)
  have hl13 := hfa _ _ _ hl13 (by omega)
  have hp8 := hfa _ _ _ hp8 (by omega)
  have hp9 := hfa _ _ _ hp9 (by omega)
  have hp10 := hfa _ _ _ hp10 (by omega)
  have hc11 := hfa _ _ _ hc11 (by omega)
  have hc12 := hfa _ _ _ hc12 (by omega)
  have hTk := hTk.fr hfa (fun j z1 z2 z3 => by omega)
  have hfr := hFr.tr hfr (hfa.mono (fun u z => by omega))
  have ho1 : (hup M1 (A 1) (1, .inr (9, [.ref (A 2), .int 0]))) (A 1) = some (1, .inr (9, [.ref (A 2), .int 0])) := hup_eq
  have Y : hHS G (hup M1 (A 1) (1, .inr (9, [.ref (A 2), .int 0]))) s H locs := Y
  generalize hup M1 (A 1) (1, .inr (9, [.ref (A 2), .int 0])) = M2 at Y hfa hfr ho0 ho1 hl13 hp8 hp9 hp10 hc11 hc12 hTk
  refine lv_aload_n hx hb dX11_teach_19 rfl (lv_at hl 0 rfl) ?_
  refine h_get X Y (k := 2) (v := .ref (A 8)) ho0 rfl hin_X11 (by decide) kfl_X11_28 rfl dX11_teach_20 ?_
  refine h_callV (rest := []) X Y (c_parse11 l G M2 A N tk nb wd hN hTk hNv hpat sc np c9 sn nn hp8 hp9 hp10) gw_X11_111 dsc_X6_parse hp8 rfl rfl rfl hl.1 rfl (Nat.le_of_ble_eq_true rfl) ⟨Nat.le_of_ble_eq_true rfl, Nat.le_of_ble_eq_true rfl⟩ ⟨Nat.le_of_ble_eq_true rfl, Nat.le_of_ble_eq_true rfl⟩ dX11_teach_23 ?_
  rintro _ M3 H locs ⟨lst, e0, qa, qb, qc, La, Lb, Lc, Fa, Fb, Fc, sc1, sn1, nn1, rfl, hlO, hlE, hLa, hLb, hLc, hSa, hSb, hSc, hPa, hfa⟩ Y
  try dsimp only [Option.toList, List.nil_append, List.singleton_append]
  have ho0 := hfa _ _ _ ho0 (by omega)
  have ho1 := hfa _ _ _ ho1 (by omega)
  have hl13 := hfa _ _ _ hl13 (by omega)
  have hc11 := hfa _ _ _ hc11 (by omega)
  have hc12 := hfa _ _ _ hc12 (by omega)
  have hTk := hTk.fr hfa (fun j z1 z2 z3 => by omega)
  have hfr := hFr.tr hfr (hfa.mono (fun u z => by omega))
  refine lv_astore_n (lv' := [(1, .ref lst), (0, .ref (A 0))]) hx hb dX11_teach_26 rfl hl (by decide) rfl (fun ls hl => ?_)
  refine lv_aload_n hx hb dX11_teach_27 rfl (lv_at hl 1 rfl) ?_
  refine h_get X Y (k := 2) (v := .ref (A 8)) ho0 rfl hin_X11 (by decide) kfl_X11_28 rfl dX11_teach_28 ?_
  refine h_callVr (rest := []) X Y (c_wrongTok l G M3 A tk sc1 53 sn1 nn1 hPa (by rw [hpat 53 (by omega)]; decide)) rfl rfl gw_X11_115 dsc_X6_wrongToken hPa.1 rfl rfl rfl rfl hl.1 (Nat.le_of_ble_eq_true rfl) ⟨Nat.le_of_ble_eq_true rfl, Nat.le_of_ble_eq_true rfl⟩ ⟨Nat.le_of_ble_eq_true rfl, Nat.le_of_ble_eq_true rfl⟩ dX11_teach_31 (fun H locs Y => ?_)
  refine lv_istore_n (lv' := [(2, .int (-1)), (1, .ref lst), (0, .ref (A 0))]) hx hb dX11_teach_34 rfl hl (by decide) rfl (fun ls hl => ?_)
  refine lv_iload_n hx hb dX11_teach_35 rfl (lv_at hl 0 rfl) ?_
  refine lv_iconst (v := (-1)) hx hb dX11_teach_36 (by decide) ?_
  refine lv_icmp_ne (tgt := 44) hx hb dX11_teach_37 (by decide) (fun c37 => absurd rfl c37) (fun c37 => ?_)
  refine lv_iconst (v := 0) hx hb dX11_teach_40 (by decide) ?_
  refine lv_goto (tgt := 45) hx hb dX11_teach_41 (by decide) ?_
  refine lv_istore_n (lv' := [(3, .int 0), (2, .int (-1)), (1, .ref lst), (0, .ref (A 0))]) hx hb dX11_teach_45 rfl hl (by decide) rfl (fun ls hl => ?_)
  refine lv_iload_n hx hb dX11_teach_46 rfl (lv_at hl 0 rfl) ?_
  refine lv_if_ne (tgt := 67) hx hb dX11_teach_47 (by decide) (fun c47 => absurd (by decide) c47) (fun c47 => ?_)
  refine lv_aload_n hx hb dX11_teach_50 rfl (lv_at hl 3 rfl) ?_
  refine h_get X Y (k := 3) (v := .ref (A 11)) ho0 rfl hin_X11 (by decide) kfl_X11_35 rfl dX11_teach_51 ?_
  refine lv_aload_n hx hb dX11_teach_54 rfl (lv_at hl 2 rfl) ?_
  refine h_callV (rest := []) X Y (c_check11 l G M3 A N tk nb wd hN hTk hNv hpat c0 wr g12 hc11 hc12 lst e0 qa qb qc La Lb Lc Fa Fb Fc hlO hlE hLa hLb hLc hSc.1 hw1 hw2 hw3 hv1 hv2 hv3 (by rw [h6]; exact fun z9 => absurd ((nI_ltI (a := x6) (b := 1) (by omega) (by omega)).mp z9) (by omega)) (by rw [h6]; exact (nI_leI (a := x6) (b := 100) (by omega) (by omega)).mpr (by omega)) (by rw [h9]; exact (nI_leI (a := rr) (b := 4) (by omega) (by omega)).mpr (by omega)) (by rw [h11]; exact (nI_leI (a := ap) (b := 300) (by omega) (by omega)).mpr (by omega)) (by rw [h9]; exact (nI_ltI (a := 0) (b := rr) (by omega) (by omega)).mpr (by omega))) gw_X11_119 dsc_X2_check hc11 rfl rfl rfl hl.1 rfl (Nat.le_of_ble_eq_true rfl) ⟨Nat.le_of_ble_eq_true rfl, Nat.le_of_ble_eq_true rfl⟩ ⟨Nat.le_of_ble_eq_true rfl, Nat.le_of_ble_eq_true rfl⟩ dX11_teach_55 ?_
  rintro _ M4 H locs ⟨rfl, ⟨g13, hc11, hc12⟩, hLa, hLb, hLc, hfa⟩ Y
  try dsimp only [Option.toList, List.nil_append, List.singleton_append]
  have ho0 := hfa _ _ _ ho0 (by omega)
  have ho1 := hfa _ _ _ ho1 (by omega)
  have hl13 := hfa _ _ _ hl13 (by omega)
  have hTk := hTk.fr hfa (fun j z1 z2 z3 => by omega)
  have hlO := hlO.fr hfa (by omega)
  have hlE := hlE.fr hfa (by omega)
  have hfr := hFr.tr hfr (hfa.mono (fun u z => by omega))
  refine lv_istore_n (lv' := [(3, .int 0), (2, .int (-1)), (1, .ref lst), (0, .ref (A 0))]) hx hb dX11_teach_58 rfl hl (by decide) rfl (fun ls hl => ?_)
  refine lv_aload_n hx hb dX11_teach_59 rfl (lv_at hl 3 rfl) ?_
  refine h_get X Y (k := 3) (v := .ref (A 11)) ho0 rfl hin_X11 (by decide) kfl_X11_35 rfl dX11_teach_60 ?_
  refine h_callVr (rest := []) X Y (c_chkWrong l G M4 A 3 (-1) hc11) rfl rfl gw_X11_123 dsc_X2_wrongToken hc11 rfl rfl rfl rfl hl.1 (Nat.le_of_ble_eq_true rfl) ⟨Nat.le_of_ble_eq_true rfl, Nat.le_of_ble_eq_true rfl⟩ ⟨Nat.le_of_ble_eq_true rfl, Nat.le_of_ble_eq_true rfl⟩ dX11_teach_63 (fun H locs Y => ?_)
  refine lv_istore_n (lv' := [(2, .int (-1)), (3, .int 0), (1, .ref lst), (0, .ref (A 0))]) hx hb dX11_teach_66 rfl hl (by decide) rfl (fun ls hl => ?_)
  refine lv_aload_n hx hb dX11_teach_67 rfl (lv_at hl 3 rfl) ?_
  refine lv_iload_n hx hb dX11_teach_68 rfl (lv_at hl 1 rfl) ?_
  refine lv_if_ne (tgt := 76) hx hb dX11_teach_69 (by decide) (fun c69 => absurd (by decide) c69) (fun c69 => ?_)
  refine lv_iconst (v := (-1)) hx hb dX11_teach_72 (by decide) ?_
  refine lv_goto (tgt := 84) hx hb dX11_teach_73 (by decide) ?_
  refine h_put X Y (k := 14) (v := .int (-1)) ho0 rfl hin_X11 tyX11_ok nmX11 (by decide) kfl_X11_85 rfl rfl rfl (Nat.le_of_ble_eq_true rfl) dX11_teach_84 (fun H locs Y => ?_)
  have Y : hHS G (hup M4 (A 0) (0, .inr (12, [.ref (A 1), .ref (A 3), .ref (A 8), .ref (A 11), .ref (A 13), .ref (A 15), .ref (A 100), .ref (A 200), .ref (A 300), .ref (A 19), .ref (A 17), .ref (A 18), .int (nI now), .int tail, .int (-1)]))) s H locs := Y
  have hfa : hFr (fun u => u = 0) M4 (hup M4 (A 0) (0, .inr (12, hoO (s00 A) (now, tail, -1, 0, pr, ex)))) := hFr.put hFr.rf ho0 rfl
  have ho1 := hfa _ _ _ ho1 (by omega)
  have hl13 := hfa _ _ _ hl13 (by omega)
  have hc11 := hfa _ _ _ hc11 (by omega)
  have hc12 := hfa _ _ _ hc12 (by omega)
  have hTk := hTk.fr hfa (fun j z1 z2 z3 => by omega)
  have hlO := hlO.fr hfa (by omega)
  have hlE := hlE.fr hfa (by omega)
  have hLa := hLa.fr hfa (fun j hj => by omega)
  have hLb := hLb.fr hfa (fun j hj => by omega)
  have hLc := hLc.fr hfa (fun j hj => by omega)
  have hfr := hFr.tr hfr (hfa.mono (fun u z => by omega))
  have ho0 : (hup M4 (A 0) (0, .inr (12, hoO (s00 A) (now, tail, -1, 0, pr, ex)))) (A 0) = some (0, .inr (12, hoO (s00 A) (now, tail, -1, 0, pr, ex))) := hup_eq
  have Y : hHS G (hup M4 (A 0) (0, .inr (12, hoO (s00 A) (now, tail, -1, 0, pr, ex)))) s H locs := Y
  generalize hup M4 (A 0) (0, .inr (12, hoO (s00 A) (now, tail, -1, 0, pr, ex))) = M5 at Y hfa hfr ho0 ho1 hl13 hc11 hc12 hTk hlO hlE hLa hLb hLc
  refine lv_iload_n hx hb dX11_teach_87 rfl (lv_at hl 1 rfl) ?_
  refine lv_if_ne (tgt := 96) hx hb dX11_teach_88 (by decide) (fun c88 => absurd (by decide) c88) (fun c88 => ?_)
  refine lv_aload_n hx hb dX11_teach_91 rfl (lv_at hl 3 rfl) ?_
  refine lv_aload_n hx hb dX11_teach_92 rfl (lv_at hl 2 rfl) ?_
  refine h_callV (rest := []) X Y (c_adopt l G M5 A (now, tail, -1, 0, pr, ex) ho0 mc0 hl13 lst e0 qa qb qc (lyU La 0 (nb (5 + 1))) (lyNt Lb 0) (lyNt (lyNt (lyX (lyU Lc 1 (nb (34 + 1))) (nb (36 + 1))) 0) 1) Fa Fb Fc hlO hlE hLa hLb hLc (hSa.g.congr rfl) (hSb.g.congr rfl) (hSc.g.congr rfl)) gw_X11_128 dsc_X11_adopt ho0 rfl rfl rfl hl.1 rfl (Nat.le_of_ble_eq_true rfl) ⟨Nat.le_of_ble_eq_true rfl, Nat.le_of_ble_eq_true rfl⟩ ⟨Nat.le_of_ble_eq_true rfl, Nat.le_of_ble_eq_true rfl⟩ dX11_teach_93 ?_
  rintro _ M6 H locs ⟨rfl, ⟨mc1, q, cap, ff, hl13, hl14, k1, k2, k3⟩, ⟨Na, Ba, hZa, hSZa⟩, ⟨Nb, Bb, hZb, hSZb⟩, ⟨Nc, Bc, hZc, hSZc⟩, hfa⟩ Y
  try dsimp only [Option.toList, List.nil_append, List.singleton_append]
  have ho0 := hfa _ _ _ ho0 (by omega)
  have ho1 := hfa _ _ _ ho1 (by omega)
  have hc11 := hfa _ _ _ hc11 (by omega)
  have hc12 := hfa _ _ _ hc12 (by omega)
  have hTk := hTk.fr hfa (fun j z1 z2 z3 => by omega)
  have hlO := hlO.fr hfa (by omega)
  have hlE := hlE.fr hfa (by omega)
  have hfr := hFr.tr hfr (hfa.mono (fun u z => by omega))
  refine lv_iload_n hx hb dX11_teach_96 rfl (lv_at hl 1 rfl) ?_
  have ga : GL (lyZ (lyU La 0 (nb (5 + 1))) Na Ba) (fA Fa) := GL.a hSa hbk (show (lyU La 0 (nb (5 + 1))) = lyU La 0 (nI x6) from congrArg (lyU La 0) h6) h6b hSZa
  have gb : GL (lyZ (lyNt Lb 0) Nb Bb) (fA Fb) := GL.b hSb hbk ⟨rfl, rfl, rfl, rfl⟩ hSZb
  have eI : lyI Lc = lyI0 := hSc.1
  have eN : lyN Lc 0 = lyT0 := hSc.2.1
  have gc : GL (lyZ (lyNt (lyNt (lyX (lyU Lc 1 (nb (34 + 1))) (nb (36 + 1))) 0) 1) Nc Bc) Fc := GL.c (n := 1) hSc hbk ⟨rfl, h9, rfl, rfl⟩ h9b (by decide) (fun k hk => by rcases (show k = 0 by omega) with rfl; show 0 ≤ (nb 37).toInt ∧ (nb 37).toInt ≤ 300; rw [h11, nI_toInt (by omega)]; omega) hSZc
  have fga := hSa.g
  have fgb := hSb.g
  have fgc := hSc.g
  obtain ⟨zc, hzc⟩ := hSc.2.2.1.2.2
  exact h_iret X Y ⟨rfl, _, QV.taught hQ hfr ho0 ho1 hl13 hl14 k1 k2 k3 (LySt.lavA hZa hSa.2.2.1.2.2) (LySt.lavA hZb hSb.2.2.1.2.2) (LySt.lav hZc) ⟨fga.1, fga.2.1, fga.1, ga.2.2.2.imp (fun n hn => ⟨hn.1, hn.2.1⟩)⟩ ⟨fgb.1, fgb.2.1, fgb.1, gb.2.2.2.imp (fun n hn => ⟨hn.1, hn.2.1⟩)⟩ ⟨fgc.1, fgc.2.1, fgc.2.2.2.2 zc hzc, gc.2.2.2.imp (fun n hn => ⟨hn.1, hn.2.1⟩)⟩, rfl, rfl, rfl, rfl, fun k hk => (by rcases (show k = 0 ∨ k = 1 ∨ k = 2 by omega) with rfl | rfl | rfl; exact ga; exact gb; exact gc)⟩ (by show _ ≤ 110; omega) (by show _ ≤ 23000; omega) dX11_teach_97
