-- LAYERS ARE READ
def lyS (L : hLy) (j q : Nat) : hLy := (lyA L, va_up (lyR L) j (some q), lyI L, lyN L, lyB L)
/-- a layer as it is read: with its formulas -/
def LaP (G : hG) (M : hM) (a t : Nat) (L : hLy) (F : Nat → hFo) : Prop := LyV G M a t L ∧ FoV G M (lyA L 0) (t + 10) (F 0) ∧ FoV G M (lyA L 1) (t + 20) (F 1) ∧ (∀ q, lyR L 0 = some q → FoV G M q (t + 30) (F 2)) ∧ (∀ q, lyR L 1 = some q → FoV G M q (t + 40) (F 3)) ∧ (∀ q, lyR L 2 = some q → FoV G M q (t + 50) (F 4))
theorem LaP.fr {G : hG} {Z : Nat → Prop} {M M' : hM} {a t : Nat} {L : hLy} {F : Nat → hFo} (h : hFr Z M M') (hz : ∀ j, j < 100 → ¬ Z (t + j)) (hL : LaP G M a t L F) : LaP G M' a t L F :=
  ⟨hL.1.fr h (fun j hj => hz j (by omega)), hL.2.1.fr h (fun j hj => by rw [Nat.add_assoc]; exact hz _ (by omega)), hL.2.2.1.fr h (fun j hj => by rw [Nat.add_assoc]; exact hz _ (by omega)), fun q hq => (hL.2.2.2.1 q hq).fr h (fun j hj => by rw [Nat.add_assoc]; exact hz _ (by omega)), fun q hq => (hL.2.2.2.2.1 q hq).fr h (fun j hj => by rw [Nat.add_assoc]; exact hz _ (by omega)), fun q hq => (hL.2.2.2.2.2 q hq).fr h (fun j hj => by rw [Nat.add_assoc]; exact hz _ (by omega))⟩
def lyF (F0 F1 F2 F3 F4 : hFo) : Nat → hFo := fun k => match k with | 0 => F0 | 1 => F1 | 2 => F2 | 3 => F3 | _ => F4
def shA (nb : Nat → Int32) (p : Nat) (L : hLy) (F : Nat → hFo) : Prop := lyI L = lyI0 ∧ lyN L 0 = lyT0 ∧ (lyR L 0 = none ∧ lyR L 1 = none ∧ lyR L 2 = none) ∧ FoL (F 0) [34] [nb (p + 1)] ∧ FoL (F 1) [34] [nb (p + 3)]
def shB (nb : Nat → Int32) (p : Nat) (L : hLy) (F : Nat → hFo) : Prop := lyI L = lyI0 ∧ lyN L 0 = lyT0 ∧ ((∃ z, lyR L 0 = some z) ∧ (∃ z, lyR L 1 = some z) ∧ lyR L 2 = none) ∧ FoL (F 0) [34] [nb (p + 1)] ∧ FoL (F 1) [15, 34, 26, 34, 24] [nb (p + 3), nb (p + 5), 0, nb (p + 7), 0] ∧ FoL (F 2) [34] [nb (p + 9)] ∧ FoL (F 3) [34] [nb (p + 11)]
def shC (nb : Nat → Int32) (p b : Nat) (L : hLy) (F : Nat → hFo) : Prop := lyI L = lyI0 ∧ lyN L 0 = lyT0 ∧ (lyR L 0 = none ∧ lyR L 1 = none ∧ ∃ z, lyR L 2 = some z) ∧ FoL (F 0) [34, 34, 15, 26, 24] [nb (p + 1), nb (p + 3), nb (p + 5), 0, 0] ∧ FoL (F 1) [34] [nb (p + 7)] ∧ FoL (F 4) [17, 34, 32, 15, 34, 28, 12, 11] [nb (p + (b + 6)), nb (p + (b + 8)), 0, nb (p + (b + 11)), nb (p + (b + 13)), 0, 0, 0]
theorem gw_X6_73 : GoodIn hGW (wsV RX6 73 RX6 yX6_readSum (Cond.code yX6_readSum cX6_readSum 1 (Option.some (FieldType.object "LossHouse$Formula")) :: hGW)) := hgi4 kml_X6_73 kin_X6_readSum kse_X6_X6_readSum_X6_readSum kini_X6 kco_X6_readSum
theorem dsc_X6_readSum : yX6_readSum.cls = RX6 ∧ yX6_readSum.cls ≠ "java/lang/invoke/MethodHandle" ∧ yX6_readSum.cls ≠ "java/lang/invoke/VarHandle" ∧ (parseMethodDescriptor yX6_readSum.desc).map (fun d => d.parameters.length) = some 0 := ⟨rfl, by decide +kernel, by decide +kernel, by decide +kernel⟩
theorem dsc_X5_init : yX5_init.cls = RX5 ∧ yX5_init.cls ≠ "java/lang/invoke/MethodHandle" ∧ yX5_init.cls ≠ "java/lang/invoke/VarHandle" ∧ (parseMethodDescriptor yX5_init.desc).map (fun d => d.parameters.length) = some 2 := ⟨rfl, by decide +kernel, by decide +kernel, by decide +kernel⟩
theorem dX6_readLayer_0 : decode cX6_readLayer 0 = .ok (.aload_n 0, 1) := by decide +kernel
theorem dX6_readLayer_1 : decode cX6_readLayer 1 = .ok (.getstatic 66, 3) := by decide +kernel
theorem dX6_readLayer_4 : decode cX6_readLayer 4 = .ok (.invokevirtual 69, 3) := by decide +kernel
theorem dX6_readLayer_7 : decode cX6_readLayer 7 = .ok (.aload_n 0, 1) := by decide +kernel
theorem dX6_readLayer_8 : decode cX6_readLayer 8 = .ok (.invokevirtual 73, 3) := by decide +kernel
theorem dX6_readLayer_11 : decode cX6_readLayer 11 = .ok (.astore_n 1, 1) := by decide +kernel
theorem dX6_readLayer_12 : decode cX6_readLayer 12 = .ok (.aload_n 0, 1) := by decide +kernel
theorem dX6_readLayer_13 : decode cX6_readLayer 13 = .ok (.getstatic 77, 3) := by decide +kernel
theorem dX6_readLayer_16 : decode cX6_readLayer 16 = .ok (.invokevirtual 69, 3) := by decide +kernel
theorem dX6_readLayer_19 : decode cX6_readLayer 19 = .ok (.new 80, 3) := by decide +kernel
theorem dX6_readLayer_22 : decode cX6_readLayer 22 = .ok (.dup, 1) := by decide +kernel
theorem dX6_readLayer_23 : decode cX6_readLayer 23 = .ok (.aload_n 1, 1) := by decide +kernel
theorem dX6_readLayer_24 : decode cX6_readLayer 24 = .ok (.aload_n 0, 1) := by decide +kernel
theorem dX6_readLayer_25 : decode cX6_readLayer 25 = .ok (.invokevirtual 73, 3) := by decide +kernel
theorem dX6_readLayer_28 : decode cX6_readLayer 28 = .ok (.invokespecial 82, 3) := by decide +kernel
theorem dX6_readLayer_31 : decode cX6_readLayer 31 = .ok (.astore_n 2, 1) := by decide +kernel
theorem dX6_readLayer_32 : decode cX6_readLayer 32 = .ok (.aload_n 0, 1) := by decide +kernel
theorem dX6_readLayer_33 : decode cX6_readLayer 33 = .ok (.getstatic 85, 3) := by decide +kernel
theorem dX6_readLayer_36 : decode cX6_readLayer 36 = .ok (.invokevirtual 51, 3) := by decide +kernel
theorem dX6_readLayer_39 : decode cX6_readLayer 39 = .ok (.ifCond .eq 10, 3) := by decide +kernel
theorem dX6_readLayer_42 : decode cX6_readLayer 42 = .ok (.aload_n 0, 1) := by decide +kernel
theorem dX6_readLayer_43 : decode cX6_readLayer 43 = .ok (.getstatic 88, 3) := by decide +kernel
theorem dX6_readLayer_46 : decode cX6_readLayer 46 = .ok (.invokevirtual 69, 3) := by decide +kernel
theorem dX6_readLayer_49 : decode cX6_readLayer 49 = .ok (.aload_n 0, 1) := by decide +kernel
theorem dX6_readLayer_50 : decode cX6_readLayer 50 = .ok (.getstatic 91, 3) := by decide +kernel
theorem dX6_readLayer_53 : decode cX6_readLayer 53 = .ok (.invokevirtual 51, 3) := by decide +kernel
theorem dX6_readLayer_56 : decode cX6_readLayer 56 = .ok (.ifCond .eq 11, 3) := by decide +kernel
theorem dX6_readLayer_67 : decode cX6_readLayer 67 = .ok (.aload_n 0, 1) := by decide +kernel
theorem dX6_readLayer_68 : decode cX6_readLayer 68 = .ok (.getstatic 98, 3) := by decide +kernel
theorem dX6_readLayer_71 : decode cX6_readLayer 71 = .ok (.invokevirtual 51, 3) := by decide +kernel
theorem dX6_readLayer_74 : decode cX6_readLayer 74 = .ok (.ifCond .eq 11, 3) := by decide +kernel
theorem dX6_readLayer_85 : decode cX6_readLayer 85 = .ok (.aload_n 0, 1) := by decide +kernel
theorem dX6_readLayer_86 : decode cX6_readLayer 86 = .ok (.getstatic 104, 3) := by decide +kernel
theorem dX6_readLayer_89 : decode cX6_readLayer 89 = .ok (.invokevirtual 51, 3) := by decide +kernel
theorem dX6_readLayer_92 : decode cX6_readLayer 92 = .ok (.ifCond .eq 20, 3) := by decide +kernel
theorem dX6_readLayer_112 : decode cX6_readLayer 112 = .ok (.aload_n 0, 1) := by decide +kernel
theorem dX6_readLayer_113 : decode cX6_readLayer 113 = .ok (.getstatic 114, 3) := by decide +kernel
theorem dX6_readLayer_116 : decode cX6_readLayer 116 = .ok (.invokevirtual 51, 3) := by decide +kernel
theorem dX6_readLayer_119 : decode cX6_readLayer 119 = .ok (.ifCond .eq 27, 3) := by decide +kernel
theorem dX6_readLayer_146 : decode cX6_readLayer 146 = .ok (.aload_n 0, 1) := by decide +kernel
theorem dX6_readLayer_147 : decode cX6_readLayer 147 = .ok (.getstatic 123, 3) := by decide +kernel
theorem dX6_readLayer_150 : decode cX6_readLayer 150 = .ok (.invokevirtual 51, 3) := by decide +kernel
theorem dX6_readLayer_153 : decode cX6_readLayer 153 = .ok (.ifCond .eq 11, 3) := by decide +kernel
theorem dX6_readLayer_164 : decode cX6_readLayer 164 = .ok (.aload_n 0, 1) := by decide +kernel
theorem dX6_readLayer_165 : decode cX6_readLayer 165 = .ok (.getstatic 132, 3) := by decide +kernel
theorem dX6_readLayer_168 : decode cX6_readLayer 168 = .ok (.invokevirtual 69, 3) := by decide +kernel
theorem dX6_readLayer_171 : decode cX6_readLayer 171 = .ok (.aload_n 2, 1) := by decide +kernel
theorem dX6_readLayer_172 : decode cX6_readLayer 172 = .ok (.areturn, 1) := by decide +kernel
set_option maxHeartbeats 400000 in
set_option maxRecDepth 100000 in
theorem c_readLa (l : Launch) (G : hG) (M : hM) (A : Nat → Nat) (N : Nat) (sg : Nat → Nat) (nb : Nat → Int32) (wd : Nat → Int64) (hN : N < 400) (hTk : TkV G M A N sg nb wd) (hs7 : ∀ i, i ≤ N → sg i < 37) (sc np : Nat) (sn : Nat → Option Nat) (nn : Nat → Int32) (hPa : PaV G M A sg sc np sn nn) (t : Nat) (ht : 2000 ≤ t) (hpat : ∀ j, j < 7 → sg (np + j) = [33, 34, 1, 34, 2, 34, 22].getD j 0) (hlt : np + 7 ≤ N) : hCT l G yX6_readLayer cX6_readLayer 3 (Option.some (FieldType.object "LossHouse$Layer")) (hRm 11 30 7000) M [.ref (A 8)] (fun v M' => ∃ q L F sc1 sn1 nn1, v = some (.ref q) ∧ LaP G M' q t L F ∧ shA nb np L F ∧ PaV G M' A sg sc1 (np + 7) sn1 nn1 ∧ hFr (fun u => u = 8 ∨ u = 9 ∨ u = 10 ∨ (t ≤ u ∧ u < t + 100)) M M') := by
  refine hCT.of (own := RX6) (nm := "readLayer") (by decide) rfl rfl (Nat.le_of_ble_eq_true rfl) ?_
  intro p e s m args below meth c ls X Y hl
  have hx := X.1
  have hb := X.2.1
  have hl : lv_has ls 3 [(0, .ref (A 8))] := hl
  have hfr : hFr (fun u => u = 8 ∨ u = 9 ∨ u = 10) M M := hFr.rf
  have hs90 := hs7 (np) (by omega)
  have hs91 := hs7 (np + 1) (by omega)
  have hs92 := hs7 (np + 2) (by omega)
  have hs93 := hs7 (np + 3) (by omega)
  have hs94 := hs7 (np + 4) (by omega)
  have hs95 := hs7 (np + 5) (by omega)
  have hs96 := hs7 (np + 6) (by omega)
  have hs97 := hs7 (np + 7) (by omega)
  have kq0 : sg (np) = 33 := hpat 0 (by omega)
  have kq1 : sg (np + 1) = 34 := hpat 1 (by omega)
  have kq2 : sg (np + 2) = 1 := hpat 2 (by omega)
  have kq3 : sg (np + 3) = 34 := hpat 3 (by omega)
  have kq4 : sg (np + 4) = 2 := hpat 4 (by omega)
  have kq5 : sg (np + 5) = 34 := hpat 5 (by omega)
  have kq6 : sg (np + 6) = 22 := hpat 6 (by omega)
  have hfr : hFr (fun u => u = 8 ∨ u = 9 ∨ u = 10 ∨ (t ≤ u ∧ u < t + 100)) M M := hFr.rf
  refine lv_aload_n hx hb dX6_readLayer_0 rfl (lv_at hl 0 rfl) ?_
  refine h_gets X Y (hsg_Z X.2.2.2.2.2.2.2.2.1 X.2.2.2.2.2.2.2.2.2.1 (k := 33) (by decide)) kfl_X6_66 dX6_readLayer_1 ?_
  refine h_callV (rest := []) X Y (c_need l G M A N sg nb wd hN hTk hs7 sc np sn nn hPa 33 (by omega) kq0 (by omega)) gw_X6_69 dsc_X6_need hPa.1 rfl rfl rfl hl.1 rfl (Nat.le_of_ble_eq_true rfl) ⟨Nat.le_of_ble_eq_true rfl, Nat.le_of_ble_eq_true rfl⟩ ⟨Nat.le_of_ble_eq_true rfl, Nat.le_of_ble_eq_true rfl⟩ dX6_readLayer_4 ?_
  rintro _ Mz1 H locs ⟨rfl, hPa, hfa⟩ Y
  try dsimp only [Option.toList, List.nil_append, List.singleton_append]
  have hTk := hTk.fr hfa (fun j z1 z2 z3 => by omega)
  have hfr := hFr.tr hfr (hfa.mono (fun u z => by omega))
  refine lv_aload_n hx hb dX6_readLayer_7 rfl (lv_at hl 0 rfl) ?_
  refine h_callV (rest := []) X Y (c_readN l G Mz1 A N sg nb wd hN hTk hs7 sc (np + 1) sn nn hPa (t + 10) (by omega) (Or.inl kq1) (by rw [show sg (np + 1 + 1) = 1 from kq2]; decide) (by omega)) gw_X6_73 dsc_X6_readSum hPa.1 rfl rfl rfl hl.1 rfl (Nat.le_of_ble_eq_true rfl) ⟨Nat.le_of_ble_eq_true rfl, Nat.le_of_ble_eq_true rfl⟩ ⟨Nat.le_of_ble_eq_true rfl, Nat.le_of_ble_eq_true rfl⟩ dX6_readLayer_8 ?_
  rintro _ Mz2 H locs ⟨qf3, Fz3, sc3, sn3, nn3, rfl, hFz3, hLz3, hPa, hfa⟩ Y
  try dsimp only [Option.toList, List.nil_append, List.singleton_append]
  have hTk := hTk.fr hfa (fun j z1 z2 z3 => by omega)
  have hfr := hFr.tr hfr (hfa.mono (fun u z => by omega))
  refine lv_astore_n (lv' := [(1, .ref qf3), (0, .ref (A 8))]) hx hb dX6_readLayer_11 rfl hl (by decide) rfl (fun ls hl => ?_)
  refine lv_aload_n hx hb dX6_readLayer_12 rfl (lv_at hl 1 rfl) ?_
  refine h_gets X Y (hsg_Z X.2.2.2.2.2.2.2.2.1 X.2.2.2.2.2.2.2.2.2.1 (k := 1) (by decide)) kfl_X6_77 dX6_readLayer_13 ?_
  refine h_callV (rest := []) X Y (c_need l G Mz2 A N sg nb wd hN hTk hs7 sc3 (np + 2) sn3 nn3 hPa 1 (by omega) kq2 (by omega)) gw_X6_69 dsc_X6_need hPa.1 rfl rfl rfl hl.1 rfl (Nat.le_of_ble_eq_true rfl) ⟨Nat.le_of_ble_eq_true rfl, Nat.le_of_ble_eq_true rfl⟩ ⟨Nat.le_of_ble_eq_true rfl, Nat.le_of_ble_eq_true rfl⟩ dX6_readLayer_16 ?_
  rintro _ Mz4 H locs ⟨rfl, hPa, hfa⟩ Y
  try dsimp only [Option.toList, List.nil_append, List.singleton_append]
  have hTk := hTk.fr hfa (fun j z1 z2 z3 => by omega)
  have hFz3 := hFz3.fr hfa (fun j hj => by omega)
  have hfr := hFr.tr hfr (hfa.mono (fun u z => by omega))
  refine h_new (ci := 7) X Y (t) (fs := [.null, .null, .null, .null, .null, .int 0, .int 0, .null, .int 0, .int 0, .null, .null, .null, .null]) rfl hin_X5 tyX5_ok kcl_X6_80 kinst_X5 kini_X5 (fun j hj => match j, hj with | 0, _ => rfl | 1, _ => rfl | 2, _ => rfl | 3, _ => rfl | 4, _ => rfl | 5, _ => rfl | 6, _ => rfl | 7, _ => rfl | 8, _ => rfl | 9, _ => rfl | 10, _ => rfl | 11, _ => rfl | 12, _ => rfl | 13, _ => rfl | z9 + 14, h9 => absurd h9 (by omega)) (Nat.le_of_ble_eq_true rfl) (Nat.le_of_ble_eq_true rfl) dX6_readLayer_19 (fun qz5 Mz5 H fz5 hg5 Y => ?_)
  have hPa := hPa.fr (Z := fun _ => False) (hFr.grow hFr.rf hg5) ⟨id, id, id⟩
  have hTk := hTk.fr (Z := fun _ => False) (hFr.grow hFr.rf hg5) (fun j z1 z2 z => z)
  have hfr := hFr.grow hfr hg5
  have hFz3 := FoV.grow hg5 hFz3
  have hly0 := fz5
  refine lv_dup hx hb dX6_readLayer_22 rfl ?_
  refine lv_aload_n hx hb dX6_readLayer_23 rfl (lv_at hl 0 rfl) ?_
  refine lv_aload_n hx hb dX6_readLayer_24 rfl (lv_at hl 1 rfl) ?_
  refine h_callV (rest := [.ref qf3, .ref qz5, .ref qz5]) X Y (c_readN l G Mz5 A N sg nb wd hN hTk hs7 sc3 (np + 3) sn3 nn3 hPa (t + 20) (by omega) (Or.inl kq3) (by rw [show sg (np + 3 + 1) = 2 from kq4]; decide) (by omega)) gw_X6_73 dsc_X6_readSum hPa.1 rfl rfl rfl hl.1 rfl (Nat.le_of_ble_eq_true rfl) ⟨Nat.le_of_ble_eq_true rfl, Nat.le_of_ble_eq_true rfl⟩ ⟨Nat.le_of_ble_eq_true rfl, Nat.le_of_ble_eq_true rfl⟩ dX6_readLayer_25 ?_
  rintro _ Mz6 H locs ⟨qf7, Fz7, sc7, sn7, nn7, rfl, hFz7, hLz7, hPa, hfa⟩ Y
  try dsimp only [Option.toList, List.nil_append, List.singleton_append]
  have hTk := hTk.fr hfa (fun j z1 z2 z3 => by omega)
  have hFz3 := hFz3.fr hfa (fun j hj => by omega)
  have hfr := hFr.tr hfr (hfa.mono (fun u z => by omega))
  have hly0 := hfa _ _ _ hly0 (by omega)
  refine h_callI (rest := [.ref qz5]) X Y (c_layInit l G Mz6 qz5 t qf3 qf7 hly0) (hgi0 kco_X5_init) kini_X5 kml_X6_82 kin_X5_init rfl dsc_X5_init.2 rfl hl.1 rfl (Nat.le_of_ble_eq_true rfl) ⟨Nat.le_of_ble_eq_true rfl, Nat.le_of_ble_eq_true rfl⟩ ⟨Nat.le_of_ble_eq_true rfl, Nat.le_of_ble_eq_true rfl⟩ dX6_readLayer_28 ?_
  rintro _ Mz8 H locs ⟨rfl, r2, r3, r4, r5, r6, hLy, hfa⟩ Y
  try dsimp only [Option.toList, List.nil_append]
  have hTk := hTk.fr hfa (fun j z1 z2 z3 => by omega)
  have hPa := hPa.fr hfa (by omega)
  have hFz3 := hFz3.fr hfa (fun j hj => by omega)
  have hFz7 := hFz7.fr hfa (fun j hj => by omega)
  have hfr := hFr.tr hfr (hfa.mono (fun u z => by omega))
  refine lv_astore_n (lv' := [(2, .ref qz5), (1, .ref qf3), (0, .ref (A 8))]) hx hb dX6_readLayer_31 rfl hl (by decide) rfl (fun ls hl => ?_)
  refine lv_aload_n hx hb dX6_readLayer_32 rfl (lv_at hl 2 rfl) ?_
  refine h_gets X Y (hsg_Z X.2.2.2.2.2.2.2.2.1 X.2.2.2.2.2.2.2.2.2.1 (k := 2) (by decide)) kfl_X6_85 dX6_readLayer_33 ?_
  refine h_callV (rest := []) X Y (c_takesY l G Mz8 A N sg nb wd hN hTk hs7 sc7 (np + 4) sn7 nn7 hPa 2 (by omega) kq4 (by omega)) gw_X6_51 dsc_X6_takes hPa.1 rfl rfl rfl hl.1 rfl (Nat.le_of_ble_eq_true rfl) ⟨Nat.le_of_ble_eq_true rfl, Nat.le_of_ble_eq_true rfl⟩ ⟨Nat.le_of_ble_eq_true rfl, Nat.le_of_ble_eq_true rfl⟩ dX6_readLayer_36 ?_
  rintro _ Mz9 H locs ⟨rfl, hPa, hfa⟩ Y
  try dsimp only [Option.toList, List.nil_append, List.singleton_append]
  have hTk := hTk.fr hfa (fun j z1 z2 z3 => by omega)
  have hFz3 := hFz3.fr hfa (fun j hj => by omega)
  have hFz7 := hFz7.fr hfa (fun j hj => by omega)
  have hLy := hLy.fr hfa (fun j hj => by omega)
  have hfr := hFr.tr hfr (hfa.mono (fun u z => by omega))
  refine lv_if_eq (tgt := 49) hx hb dX6_readLayer_39 (by decide) (fun c39 => absurd c39 (by decide)) (fun c39 => ?_)
  refine lv_aload_n hx hb dX6_readLayer_42 rfl (lv_at hl 2 rfl) ?_
  refine h_gets X Y (hsg_Z X.2.2.2.2.2.2.2.2.1 X.2.2.2.2.2.2.2.2.2.1 (k := 34) (by decide)) kfl_X6_88 dX6_readLayer_43 ?_
  refine h_callV (rest := []) X Y (c_need l G Mz9 A N sg nb wd hN hTk hs7 sc7 (np + 5) sn7 nn7 hPa 34 (by omega) kq5 (by omega)) gw_X6_69 dsc_X6_need hPa.1 rfl rfl rfl hl.1 rfl (Nat.le_of_ble_eq_true rfl) ⟨Nat.le_of_ble_eq_true rfl, Nat.le_of_ble_eq_true rfl⟩ ⟨Nat.le_of_ble_eq_true rfl, Nat.le_of_ble_eq_true rfl⟩ dX6_readLayer_46 ?_
  rintro _ Mz10 H locs ⟨rfl, hPa, hfa⟩ Y
  try dsimp only [Option.toList, List.nil_append, List.singleton_append]
  have hTk := hTk.fr hfa (fun j z1 z2 z3 => by omega)
  have hFz3 := hFz3.fr hfa (fun j hj => by omega)
  have hFz7 := hFz7.fr hfa (fun j hj => by omega)
  have hLy := hLy.fr hfa (fun j hj => by omega)
  have hfr := hFr.tr hfr (hfa.mono (fun u z => by omega))
  refine lv_aload_n hx hb dX6_readLayer_49 rfl (lv_at hl 2 rfl) ?_
  refine h_gets X Y (hsg_Z X.2.2.2.2.2.2.2.2.1 X.2.2.2.2.2.2.2.2.2.1 (k := 3) (by decide)) kfl_X6_91 dX6_readLayer_50 ?_
  refine h_callVr (rest := []) X Y (c_takesN l G Mz10 A N sg nb wd hN hTk hs7 sc7 (np + 6) sn7 nn7 hPa 3 (by omega) (by omega) (by omega)) rfl rfl gw_X6_51 dsc_X6_takes hPa.1 rfl rfl rfl rfl hl.1 (Nat.le_of_ble_eq_true rfl) ⟨Nat.le_of_ble_eq_true rfl, Nat.le_of_ble_eq_true rfl⟩ ⟨Nat.le_of_ble_eq_true rfl, Nat.le_of_ble_eq_true rfl⟩ dX6_readLayer_53 (fun H locs Y => ?_)
  refine lv_if_eq (tgt := 67) hx hb dX6_readLayer_56 (by decide) (fun c56 => ?_) (fun c56 => absurd (by decide) c56)
  refine lv_aload_n hx hb dX6_readLayer_67 rfl (lv_at hl 2 rfl) ?_
  refine h_gets X Y (hsg_Z X.2.2.2.2.2.2.2.2.1 X.2.2.2.2.2.2.2.2.2.1 (k := 4) (by decide)) kfl_X6_98 dX6_readLayer_68 ?_
  refine h_callVr (rest := []) X Y (c_takesN l G Mz10 A N sg nb wd hN hTk hs7 sc7 (np + 6) sn7 nn7 hPa 4 (by omega) (by omega) (by omega)) rfl rfl gw_X6_51 dsc_X6_takes hPa.1 rfl rfl rfl rfl hl.1 (Nat.le_of_ble_eq_true rfl) ⟨Nat.le_of_ble_eq_true rfl, Nat.le_of_ble_eq_true rfl⟩ ⟨Nat.le_of_ble_eq_true rfl, Nat.le_of_ble_eq_true rfl⟩ dX6_readLayer_71 (fun H locs Y => ?_)
  refine lv_if_eq (tgt := 85) hx hb dX6_readLayer_74 (by decide) (fun c74 => ?_) (fun c74 => absurd (by decide) c74)
  refine lv_aload_n hx hb dX6_readLayer_85 rfl (lv_at hl 2 rfl) ?_
  refine h_gets X Y (hsg_Z X.2.2.2.2.2.2.2.2.1 X.2.2.2.2.2.2.2.2.2.1 (k := 5) (by decide)) kfl_X6_104 dX6_readLayer_86 ?_
  refine h_callVr (rest := []) X Y (c_takesN l G Mz10 A N sg nb wd hN hTk hs7 sc7 (np + 6) sn7 nn7 hPa 5 (by omega) (by omega) (by omega)) rfl rfl gw_X6_51 dsc_X6_takes hPa.1 rfl rfl rfl rfl hl.1 (Nat.le_of_ble_eq_true rfl) ⟨Nat.le_of_ble_eq_true rfl, Nat.le_of_ble_eq_true rfl⟩ ⟨Nat.le_of_ble_eq_true rfl, Nat.le_of_ble_eq_true rfl⟩ dX6_readLayer_89 (fun H locs Y => ?_)
  refine lv_if_eq (tgt := 112) hx hb dX6_readLayer_92 (by decide) (fun c92 => ?_) (fun c92 => absurd (by decide) c92)
  refine lv_aload_n hx hb dX6_readLayer_112 rfl (lv_at hl 2 rfl) ?_
  refine h_gets X Y (hsg_Z X.2.2.2.2.2.2.2.2.1 X.2.2.2.2.2.2.2.2.2.1 (k := 7) (by decide)) kfl_X6_114 dX6_readLayer_113 ?_
  refine h_callVr (rest := []) X Y (c_takesN l G Mz10 A N sg nb wd hN hTk hs7 sc7 (np + 6) sn7 nn7 hPa 7 (by omega) (by omega) (by omega)) rfl rfl gw_X6_51 dsc_X6_takes hPa.1 rfl rfl rfl rfl hl.1 (Nat.le_of_ble_eq_true rfl) ⟨Nat.le_of_ble_eq_true rfl, Nat.le_of_ble_eq_true rfl⟩ ⟨Nat.le_of_ble_eq_true rfl, Nat.le_of_ble_eq_true rfl⟩ dX6_readLayer_116 (fun H locs Y => ?_)
  refine lv_if_eq (tgt := 146) hx hb dX6_readLayer_119 (by decide) (fun c119 => ?_) (fun c119 => absurd (by decide) c119)
  refine lv_aload_n hx hb dX6_readLayer_146 rfl (lv_at hl 2 rfl) ?_
  refine h_gets X Y (hsg_Z X.2.2.2.2.2.2.2.2.1 X.2.2.2.2.2.2.2.2.2.1 (k := 9) (by decide)) kfl_X6_123 dX6_readLayer_147 ?_
  refine h_callVr (rest := []) X Y (c_takesN l G Mz10 A N sg nb wd hN hTk hs7 sc7 (np + 6) sn7 nn7 hPa 9 (by omega) (by omega) (by omega)) rfl rfl gw_X6_51 dsc_X6_takes hPa.1 rfl rfl rfl rfl hl.1 (Nat.le_of_ble_eq_true rfl) ⟨Nat.le_of_ble_eq_true rfl, Nat.le_of_ble_eq_true rfl⟩ ⟨Nat.le_of_ble_eq_true rfl, Nat.le_of_ble_eq_true rfl⟩ dX6_readLayer_150 (fun H locs Y => ?_)
  refine lv_if_eq (tgt := 164) hx hb dX6_readLayer_153 (by decide) (fun c153 => ?_) (fun c153 => absurd (by decide) c153)
  refine lv_aload_n hx hb dX6_readLayer_164 rfl (lv_at hl 2 rfl) ?_
  refine h_gets X Y (hsg_Z X.2.2.2.2.2.2.2.2.1 X.2.2.2.2.2.2.2.2.2.1 (k := 22) (by decide)) kfl_X6_132 dX6_readLayer_165 ?_
  refine h_callV (rest := []) X Y (c_need l G Mz10 A N sg nb wd hN hTk hs7 sc7 (np + 6) sn7 nn7 hPa 22 (by omega) kq6 (by omega)) gw_X6_69 dsc_X6_need hPa.1 rfl rfl rfl hl.1 rfl (Nat.le_of_ble_eq_true rfl) ⟨Nat.le_of_ble_eq_true rfl, Nat.le_of_ble_eq_true rfl⟩ ⟨Nat.le_of_ble_eq_true rfl, Nat.le_of_ble_eq_true rfl⟩ dX6_readLayer_168 ?_
  rintro _ Mz11 H locs ⟨rfl, hPa, hfa⟩ Y
  try dsimp only [Option.toList, List.nil_append, List.singleton_append]
  have hTk := hTk.fr hfa (fun j z1 z2 z3 => by omega)
  have hFz3 := hFz3.fr hfa (fun j hj => by omega)
  have hFz7 := hFz7.fr hfa (fun j hj => by omega)
  have hLy := hLy.fr hfa (fun j hj => by omega)
  have hfr := hFr.tr hfr (hfa.mono (fun u z => by omega))
  refine lv_aload_n hx hb dX6_readLayer_171 rfl (lv_at hl 0 rfl) ?_
  rw [kq1] at hLz3
  rw [kq3] at hLz7
  exact h_aret (v := some qz5) X Y (Or.inl ⟨_, rfl⟩) ⟨qz5, _, lyF Fz3 Fz7 default default default, _, _, _, rfl, ⟨hLy, hFz3, hFz7, (fun q hq => absurd hq (by simp [lyS, ly0, lyR, va_up])), (fun q hq => absurd hq (by simp [lyS, ly0, lyR, va_up])), (fun q hq => absurd hq (by simp [lyS, ly0, lyR, va_up]))⟩, ⟨rfl, rfl, ⟨rfl, rfl, rfl⟩, hLz3, hLz7⟩, hPa, hfr⟩ (by show _ ≤ 30; omega) (by show _ ≤ 7000; omega) dX6_readLayer_172
theorem dX6_readLayer_59 : decode cX6_readLayer 59 = .ok (.aload_n 2, 1) := by decide +kernel
theorem dX6_readLayer_60 : decode cX6_readLayer 60 = .ok (.aload_n 0, 1) := by decide +kernel
theorem dX6_readLayer_61 : decode cX6_readLayer 61 = .ok (.invokevirtual 73, 3) := by decide +kernel
theorem dX6_readLayer_64 : decode cX6_readLayer 64 = .ok (.putfield 94, 3) := by decide +kernel
theorem dX6_readLayer_77 : decode cX6_readLayer 77 = .ok (.aload_n 2, 1) := by decide +kernel
theorem dX6_readLayer_78 : decode cX6_readLayer 78 = .ok (.aload_n 0, 1) := by decide +kernel
theorem dX6_readLayer_79 : decode cX6_readLayer 79 = .ok (.invokevirtual 73, 3) := by decide +kernel
theorem dX6_readLayer_82 : decode cX6_readLayer 82 = .ok (.putfield 101, 3) := by decide +kernel
set_option maxHeartbeats 400000 in
set_option maxRecDepth 100000 in
theorem c_readLb0 (l : Launch) (G : hG) (M : hM) (A : Nat → Nat) (N : Nat) (sg : Nat → Nat) (nb : Nat → Int32) (wd : Nat → Int64) (hN : N < 400) (hTk : TkV G M A N sg nb wd) (hs7 : ∀ i, i ≤ N → sg i < 37) (sc np : Nat) (sn : Nat → Option Nat) (nn : Nat → Int32) (hPa : PaV G M A sg sc np sn nn) (t : Nat) (ht : 2000 ≤ t) (hpat : ∀ j, j < 13 → sg (np + j) = [33, 34, 1, 15, 26, 34, 24, 34, 3, 34, 4, 34, 22].getD j 0) (hlt : np + 13 ≤ N) : hCT l G yX6_readLayer cX6_readLayer 3 (Option.some (FieldType.object "LossHouse$Layer")) (hRm 11 30 7000) M [.ref (A 8)] (fun v M' => ∃ q L F sc1 sn1 nn1, v = some (.ref q) ∧ LaP G M' q t L F ∧ shB nb np L F ∧ PaV G M' A sg sc1 (np + 13) sn1 nn1 ∧ hFr (fun u => u = 8 ∨ u = 9 ∨ u = 10 ∨ (t ≤ u ∧ u < t + 100)) M M') := by
  refine hCT.of (own := RX6) (nm := "readLayer") (by decide) rfl rfl (Nat.le_of_ble_eq_true rfl) ?_
  intro p e s m args below meth c ls X Y hl
  have hx := X.1
  have hb := X.2.1
  have hl : lv_has ls 3 [(0, .ref (A 8))] := hl
  have hfr : hFr (fun u => u = 8 ∨ u = 9 ∨ u = 10) M M := hFr.rf
  have hs90 := hs7 (np) (by omega)
  have hs91 := hs7 (np + 1) (by omega)
  have hs92 := hs7 (np + 2) (by omega)
  have hs93 := hs7 (np + 3) (by omega)
  have hs94 := hs7 (np + 4) (by omega)
  have hs95 := hs7 (np + 5) (by omega)
  have hs96 := hs7 (np + 6) (by omega)
  have hs97 := hs7 (np + 7) (by omega)
  have hs98 := hs7 (np + 8) (by omega)
  have hs99 := hs7 (np + 9) (by omega)
  have hs910 := hs7 (np + 10) (by omega)
  have hs911 := hs7 (np + 11) (by omega)
  have hs912 := hs7 (np + 12) (by omega)
  have hs913 := hs7 (np + 13) (by omega)
  have kq0 : sg (np) = 33 := hpat 0 (by omega)
  have kq1 : sg (np + 1) = 34 := hpat 1 (by omega)
  have kq2 : sg (np + 2) = 1 := hpat 2 (by omega)
  have kq3 : sg (np + 3) = 15 := hpat 3 (by omega)
  have kq4 : sg (np + 4) = 26 := hpat 4 (by omega)
  have kq5 : sg (np + 5) = 34 := hpat 5 (by omega)
  have kq6 : sg (np + 6) = 24 := hpat 6 (by omega)
  have kq7 : sg (np + 7) = 34 := hpat 7 (by omega)
  have kq8 : sg (np + 8) = 3 := hpat 8 (by omega)
  have kq9 : sg (np + 9) = 34 := hpat 9 (by omega)
  have kq10 : sg (np + 10) = 4 := hpat 10 (by omega)
  have kq11 : sg (np + 11) = 34 := hpat 11 (by omega)
  have kq12 : sg (np + 12) = 22 := hpat 12 (by omega)
  have hfr : hFr (fun u => u = 8 ∨ u = 9 ∨ u = 10 ∨ (t ≤ u ∧ u < t + 100)) M M := hFr.rf
  refine lv_aload_n hx hb dX6_readLayer_0 rfl (lv_at hl 0 rfl) ?_
  refine h_gets X Y (hsg_Z X.2.2.2.2.2.2.2.2.1 X.2.2.2.2.2.2.2.2.2.1 (k := 33) (by decide)) kfl_X6_66 dX6_readLayer_1 ?_
  refine h_callV (rest := []) X Y (c_need l G M A N sg nb wd hN hTk hs7 sc np sn nn hPa 33 (by omega) kq0 (by omega)) gw_X6_69 dsc_X6_need hPa.1 rfl rfl rfl hl.1 rfl (Nat.le_of_ble_eq_true rfl) ⟨Nat.le_of_ble_eq_true rfl, Nat.le_of_ble_eq_true rfl⟩ ⟨Nat.le_of_ble_eq_true rfl, Nat.le_of_ble_eq_true rfl⟩ dX6_readLayer_4 ?_
  rintro _ Mz1 H locs ⟨rfl, hPa, hfa⟩ Y
  try dsimp only [Option.toList, List.nil_append, List.singleton_append]
  have hTk := hTk.fr hfa (fun j z1 z2 z3 => by omega)
  have hfr := hFr.tr hfr (hfa.mono (fun u z => by omega))
  refine lv_aload_n hx hb dX6_readLayer_7 rfl (lv_at hl 0 rfl) ?_
  refine h_callV (rest := []) X Y (c_readN l G Mz1 A N sg nb wd hN hTk hs7 sc (np + 1) sn nn hPa (t + 10) (by omega) (Or.inl kq1) (by rw [show sg (np + 1 + 1) = 1 from kq2]; decide) (by omega)) gw_X6_73 dsc_X6_readSum hPa.1 rfl rfl rfl hl.1 rfl (Nat.le_of_ble_eq_true rfl) ⟨Nat.le_of_ble_eq_true rfl, Nat.le_of_ble_eq_true rfl⟩ ⟨Nat.le_of_ble_eq_true rfl, Nat.le_of_ble_eq_true rfl⟩ dX6_readLayer_8 ?_
  rintro _ Mz2 H locs ⟨qf3, Fz3, sc3, sn3, nn3, rfl, hFz3, hLz3, hPa, hfa⟩ Y
  try dsimp only [Option.toList, List.nil_append, List.singleton_append]
  have hTk := hTk.fr hfa (fun j z1 z2 z3 => by omega)
  have hfr := hFr.tr hfr (hfa.mono (fun u z => by omega))
  refine lv_astore_n (lv' := [(1, .ref qf3), (0, .ref (A 8))]) hx hb dX6_readLayer_11 rfl hl (by decide) rfl (fun ls hl => ?_)
  refine lv_aload_n hx hb dX6_readLayer_12 rfl (lv_at hl 1 rfl) ?_
  refine h_gets X Y (hsg_Z X.2.2.2.2.2.2.2.2.1 X.2.2.2.2.2.2.2.2.2.1 (k := 1) (by decide)) kfl_X6_77 dX6_readLayer_13 ?_
  refine h_callV (rest := []) X Y (c_need l G Mz2 A N sg nb wd hN hTk hs7 sc3 (np + 2) sn3 nn3 hPa 1 (by omega) kq2 (by omega)) gw_X6_69 dsc_X6_need hPa.1 rfl rfl rfl hl.1 rfl (Nat.le_of_ble_eq_true rfl) ⟨Nat.le_of_ble_eq_true rfl, Nat.le_of_ble_eq_true rfl⟩ ⟨Nat.le_of_ble_eq_true rfl, Nat.le_of_ble_eq_true rfl⟩ dX6_readLayer_16 ?_
  rintro _ Mz4 H locs ⟨rfl, hPa, hfa⟩ Y
  try dsimp only [Option.toList, List.nil_append, List.singleton_append]
  have hTk := hTk.fr hfa (fun j z1 z2 z3 => by omega)
  have hFz3 := hFz3.fr hfa (fun j hj => by omega)
  have hfr := hFr.tr hfr (hfa.mono (fun u z => by omega))
  refine h_new (ci := 7) X Y (t) (fs := [.null, .null, .null, .null, .null, .int 0, .int 0, .null, .int 0, .int 0, .null, .null, .null, .null]) rfl hin_X5 tyX5_ok kcl_X6_80 kinst_X5 kini_X5 (fun j hj => match j, hj with | 0, _ => rfl | 1, _ => rfl | 2, _ => rfl | 3, _ => rfl | 4, _ => rfl | 5, _ => rfl | 6, _ => rfl | 7, _ => rfl | 8, _ => rfl | 9, _ => rfl | 10, _ => rfl | 11, _ => rfl | 12, _ => rfl | 13, _ => rfl | z9 + 14, h9 => absurd h9 (by omega)) (Nat.le_of_ble_eq_true rfl) (Nat.le_of_ble_eq_true rfl) dX6_readLayer_19 (fun qz5 Mz5 H fz5 hg5 Y => ?_)
  have hPa := hPa.fr (Z := fun _ => False) (hFr.grow hFr.rf hg5) ⟨id, id, id⟩
  have hTk := hTk.fr (Z := fun _ => False) (hFr.grow hFr.rf hg5) (fun j z1 z2 z => z)
  have hfr := hFr.grow hfr hg5
  have hFz3 := FoV.grow hg5 hFz3
  have hly0 := fz5
  refine lv_dup hx hb dX6_readLayer_22 rfl ?_
  refine lv_aload_n hx hb dX6_readLayer_23 rfl (lv_at hl 0 rfl) ?_
  refine lv_aload_n hx hb dX6_readLayer_24 rfl (lv_at hl 1 rfl) ?_
  refine h_callV (rest := [.ref qf3, .ref qz5, .ref qz5]) X Y (c_readA l G Mz5 A N sg nb wd hN hTk hs7 sc3 (np + 3) sn3 nn3 hPa (t + 20) (by omega) (Or.inr (Or.inl kq3)) kq4 (Or.inl kq5) kq6 (Or.inl kq7) (by rw [show sg (np + 3 + 5) = 3 from kq8]; decide) (by omega)) gw_X6_73 dsc_X6_readSum hPa.1 rfl rfl rfl hl.1 rfl (Nat.le_of_ble_eq_true rfl) ⟨Nat.le_of_ble_eq_true rfl, Nat.le_of_ble_eq_true rfl⟩ ⟨Nat.le_of_ble_eq_true rfl, Nat.le_of_ble_eq_true rfl⟩ dX6_readLayer_25 ?_
  rintro _ Mz6 H locs ⟨qf7, Fz7, sc7, sn7, nn7, rfl, hFz7, hLz7, hPa, hfa⟩ Y
  try dsimp only [Option.toList, List.nil_append, List.singleton_append]
  have hTk := hTk.fr hfa (fun j z1 z2 z3 => by omega)
  have hFz3 := hFz3.fr hfa (fun j hj => by omega)
  have hfr := hFr.tr hfr (hfa.mono (fun u z => by omega))
  have hly0 := hfa _ _ _ hly0 (by omega)
  refine h_callI (rest := [.ref qz5]) X Y (c_layInit l G Mz6 qz5 t qf3 qf7 hly0) (hgi0 kco_X5_init) kini_X5 kml_X6_82 kin_X5_init rfl dsc_X5_init.2 rfl hl.1 rfl (Nat.le_of_ble_eq_true rfl) ⟨Nat.le_of_ble_eq_true rfl, Nat.le_of_ble_eq_true rfl⟩ ⟨Nat.le_of_ble_eq_true rfl, Nat.le_of_ble_eq_true rfl⟩ dX6_readLayer_28 ?_
  rintro _ Mz8 H locs ⟨rfl, r2, r3, r4, r5, r6, hLy, hfa⟩ Y
  try dsimp only [Option.toList, List.nil_append]
  have hTk := hTk.fr hfa (fun j z1 z2 z3 => by omega)
  have hPa := hPa.fr hfa (by omega)
  have hFz3 := hFz3.fr hfa (fun j hj => by omega)
  have hFz7 := hFz7.fr hfa (fun j hj => by omega)
  have hfr := hFr.tr hfr (hfa.mono (fun u z => by omega))
  refine lv_astore_n (lv' := [(2, .ref qz5), (1, .ref qf3), (0, .ref (A 8))]) hx hb dX6_readLayer_31 rfl hl (by decide) rfl (fun ls hl => ?_)
  refine lv_aload_n hx hb dX6_readLayer_32 rfl (lv_at hl 2 rfl) ?_
  refine h_gets X Y (hsg_Z X.2.2.2.2.2.2.2.2.1 X.2.2.2.2.2.2.2.2.2.1 (k := 2) (by decide)) kfl_X6_85 dX6_readLayer_33 ?_
  refine h_callVr (rest := []) X Y (c_takesN l G Mz8 A N sg nb wd hN hTk hs7 sc7 (np + 8) sn7 nn7 hPa 2 (by omega) (by omega) (by omega)) rfl rfl gw_X6_51 dsc_X6_takes hPa.1 rfl rfl rfl rfl hl.1 (Nat.le_of_ble_eq_true rfl) ⟨Nat.le_of_ble_eq_true rfl, Nat.le_of_ble_eq_true rfl⟩ ⟨Nat.le_of_ble_eq_true rfl, Nat.le_of_ble_eq_true rfl⟩ dX6_readLayer_36 (fun H locs Y => ?_)
  refine lv_if_eq (tgt := 49) hx hb dX6_readLayer_39 (by decide) (fun c39 => ?_) (fun c39 => absurd (by decide) c39)
  refine lv_aload_n hx hb dX6_readLayer_49 rfl (lv_at hl 2 rfl) ?_
  refine h_gets X Y (hsg_Z X.2.2.2.2.2.2.2.2.1 X.2.2.2.2.2.2.2.2.2.1 (k := 3) (by decide)) kfl_X6_91 dX6_readLayer_50 ?_
  refine h_callV (rest := []) X Y (c_takesY l G Mz8 A N sg nb wd hN hTk hs7 sc7 (np + 8) sn7 nn7 hPa 3 (by omega) kq8 (by omega)) gw_X6_51 dsc_X6_takes hPa.1 rfl rfl rfl hl.1 rfl (Nat.le_of_ble_eq_true rfl) ⟨Nat.le_of_ble_eq_true rfl, Nat.le_of_ble_eq_true rfl⟩ ⟨Nat.le_of_ble_eq_true rfl, Nat.le_of_ble_eq_true rfl⟩ dX6_readLayer_53 ?_
  rintro _ Mz9 H locs ⟨rfl, hPa, hfa⟩ Y
  try dsimp only [Option.toList, List.nil_append, List.singleton_append]
  have hTk := hTk.fr hfa (fun j z1 z2 z3 => by omega)
  have hFz3 := hFz3.fr hfa (fun j hj => by omega)
  have hFz7 := hFz7.fr hfa (fun j hj => by omega)
  have hLy := hLy.fr hfa (fun j hj => by omega)
  have hfr := hFr.tr hfr (hfa.mono (fun u z => by omega))
  refine lv_if_eq (tgt := 67) hx hb dX6_readLayer_56 (by decide) (fun c56 => absurd c56 (by decide)) (fun c56 => ?_)
  refine lv_aload_n hx hb dX6_readLayer_59 rfl (lv_at hl 0 rfl) ?_
  refine lv_aload_n hx hb dX6_readLayer_60 rfl (lv_at hl 2 rfl) ?_
  refine h_callV (rest := [.ref qz5]) X Y (c_readN l G Mz9 A N sg nb wd hN hTk hs7 sc7 (np + 9) sn7 nn7 hPa (t + 30) (by omega) (Or.inl kq9) (by rw [show sg (np + 9 + 1) = 4 from kq10]; decide) (by omega)) gw_X6_73 dsc_X6_readSum hPa.1 rfl rfl rfl hl.1 rfl (Nat.le_of_ble_eq_true rfl) ⟨Nat.le_of_ble_eq_true rfl, Nat.le_of_ble_eq_true rfl⟩ ⟨Nat.le_of_ble_eq_true rfl, Nat.le_of_ble_eq_true rfl⟩ dX6_readLayer_61 ?_
  rintro _ Mz10 H locs ⟨qf11, Fz11, sc11, sn11, nn11, rfl, hFz11, hLz11, hPa, hfa⟩ Y
  try dsimp only [Option.toList, List.nil_append, List.singleton_append]
  have hTk := hTk.fr hfa (fun j z1 z2 z3 => by omega)
  have hFz3 := hFz3.fr hfa (fun j hj => by omega)
  have hFz7 := hFz7.fr hfa (fun j hj => by omega)
  have hLy := hLy.fr hfa (fun j hj => by omega)
  have hfr := hFr.tr hfr (hfa.mono (fun u z => by omega))
  refine h_putN X Y (k := 2) (v := .ref qf11) hLy.1 rfl hin_X5 tyX5_ok nmX5 (by decide) (kfn_X6_94 X.2.2.2.2.2.2.2.2.1 X.2.2.2.2.2.2.2.2.2.1) rfl rfl rfl (Nat.le_of_ble_eq_true rfl) dX6_readLayer_64 (fun H locs Y => ?_)
  have Y : hHS G (hup Mz10 qz5 (t, .inr (7, [.ref (lyA (ly0 qf3 qf7 r2 r3 r4 r5 r6) 0), .ref (lyA (ly0 qf3 qf7 r2 r3 r4 r5 r6) 1), .ref qf11, va_rf (lyR (ly0 qf3 qf7 r2 r3 r4 r5 r6) 1), va_rf (lyR (ly0 qf3 qf7 r2 r3 r4 r5 r6) 2), .int (lyI (ly0 qf3 qf7 r2 r3 r4 r5 r6) 0), .int (lyI (ly0 qf3 qf7 r2 r3 r4 r5 r6) 1), .ref (lyA (ly0 qf3 qf7 r2 r3 r4 r5 r6) 2), .int (lyI (ly0 qf3 qf7 r2 r3 r4 r5 r6) 2), .int (lyI (ly0 qf3 qf7 r2 r3 r4 r5 r6) 3), .ref (lyA (ly0 qf3 qf7 r2 r3 r4 r5 r6) 3), .ref (lyA (ly0 qf3 qf7 r2 r3 r4 r5 r6) 4), .ref (lyA (ly0 qf3 qf7 r2 r3 r4 r5 r6) 5), .ref (lyA (ly0 qf3 qf7 r2 r3 r4 r5 r6) 6)]))) s H locs := Y
  have hfa : hFr (fun u => u = t) Mz10 (hup Mz10 qz5 (t, .inr (7, lyO (lyS (ly0 qf3 qf7 r2 r3 r4 r5 r6) 0 qf11)))) := hFr.put hFr.rf hLy.1 rfl
  have hLy : LyV G (hup Mz10 qz5 (t, .inr (7, lyO (lyS (ly0 qf3 qf7 r2 r3 r4 r5 r6) 0 qf11)))) qz5 t (lyS (ly0 qf3 qf7 r2 r3 r4 r5 r6) 0 qf11) := ⟨hup_eq, hfa _ _ _ hLy.2.1 (by omega), hfa _ _ _ hLy.2.2.1 (by omega), hfa _ _ _ hLy.2.2.2.1 (by omega), hfa _ _ _ hLy.2.2.2.2.1 (by omega), hfa _ _ _ hLy.2.2.2.2.2 (by omega)⟩
  have hTk := hTk.fr hfa (fun j z1 z2 z3 => by omega)
  have hPa := hPa.fr hfa (by omega)
  have hFz3 := hFz3.fr hfa (fun j hj => by omega)
  have hFz7 := hFz7.fr hfa (fun j hj => by omega)
  have hFz11 := hFz11.fr hfa (fun j hj => by omega)
  have hfr := hFr.tr hfr (hfa.mono (fun u z => by omega))
  have Y : hHS G (hup Mz10 qz5 (t, .inr (7, lyO (lyS (ly0 qf3 qf7 r2 r3 r4 r5 r6) 0 qf11)))) s H locs := Y
  generalize hup Mz10 qz5 (t, .inr (7, lyO (lyS (ly0 qf3 qf7 r2 r3 r4 r5 r6) 0 qf11))) = Mz12 at Y hfa hLy hTk hPa hfr hFz3 hFz7 hFz11
  refine lv_aload_n hx hb dX6_readLayer_67 rfl (lv_at hl 2 rfl) ?_
  refine h_gets X Y (hsg_Z X.2.2.2.2.2.2.2.2.1 X.2.2.2.2.2.2.2.2.2.1 (k := 4) (by decide)) kfl_X6_98 dX6_readLayer_68 ?_
  refine h_callV (rest := []) X Y (c_takesY l G Mz12 A N sg nb wd hN hTk hs7 sc11 (np + 10) sn11 nn11 hPa 4 (by omega) kq10 (by omega)) gw_X6_51 dsc_X6_takes hPa.1 rfl rfl rfl hl.1 rfl (Nat.le_of_ble_eq_true rfl) ⟨Nat.le_of_ble_eq_true rfl, Nat.le_of_ble_eq_true rfl⟩ ⟨Nat.le_of_ble_eq_true rfl, Nat.le_of_ble_eq_true rfl⟩ dX6_readLayer_71 ?_
  rintro _ Mz13 H locs ⟨rfl, hPa, hfa⟩ Y
  try dsimp only [Option.toList, List.nil_append, List.singleton_append]
  have hTk := hTk.fr hfa (fun j z1 z2 z3 => by omega)
  have hFz3 := hFz3.fr hfa (fun j hj => by omega)
  have hFz7 := hFz7.fr hfa (fun j hj => by omega)
  have hFz11 := hFz11.fr hfa (fun j hj => by omega)
  have hLy := hLy.fr hfa (fun j hj => by omega)
  have hfr := hFr.tr hfr (hfa.mono (fun u z => by omega))
  refine lv_if_eq (tgt := 85) hx hb dX6_readLayer_74 (by decide) (fun c74 => absurd c74 (by decide)) (fun c74 => ?_)
  refine lv_aload_n hx hb dX6_readLayer_77 rfl (lv_at hl 0 rfl) ?_
  refine lv_aload_n hx hb dX6_readLayer_78 rfl (lv_at hl 2 rfl) ?_
  refine h_callV (rest := [.ref qz5]) X Y (c_readN l G Mz13 A N sg nb wd hN hTk hs7 sc11 (np + 11) sn11 nn11 hPa (t + 40) (by omega) (Or.inl kq11) (by rw [show sg (np + 11 + 1) = 22 from kq12]; decide) (by omega)) gw_X6_73 dsc_X6_readSum hPa.1 rfl rfl rfl hl.1 rfl (Nat.le_of_ble_eq_true rfl) ⟨Nat.le_of_ble_eq_true rfl, Nat.le_of_ble_eq_true rfl⟩ ⟨Nat.le_of_ble_eq_true rfl, Nat.le_of_ble_eq_true rfl⟩ dX6_readLayer_79 ?_
  rintro _ Mz14 H locs ⟨qf15, Fz15, sc15, sn15, nn15, rfl, hFz15, hLz15, hPa, hfa⟩ Y
  try dsimp only [Option.toList, List.nil_append, List.singleton_append]
  have hTk := hTk.fr hfa (fun j z1 z2 z3 => by omega)
  have hFz3 := hFz3.fr hfa (fun j hj => by omega)
  have hFz7 := hFz7.fr hfa (fun j hj => by omega)
  have hFz11 := hFz11.fr hfa (fun j hj => by omega)
  have hLy := hLy.fr hfa (fun j hj => by omega)
  have hfr := hFr.tr hfr (hfa.mono (fun u z => by omega))
  refine h_putN X Y (k := 3) (v := .ref qf15) hLy.1 rfl hin_X5 tyX5_ok nmX5 (by decide) (kfn_X6_101 X.2.2.2.2.2.2.2.2.1 X.2.2.2.2.2.2.2.2.2.1) rfl rfl rfl (Nat.le_of_ble_eq_true rfl) dX6_readLayer_82 (fun H locs Y => ?_)
  have Y : hHS G (hup Mz14 qz5 (t, .inr (7, [.ref (lyA (lyS (ly0 qf3 qf7 r2 r3 r4 r5 r6) 0 qf11) 0), .ref (lyA (lyS (ly0 qf3 qf7 r2 r3 r4 r5 r6) 0 qf11) 1), va_rf (lyR (lyS (ly0 qf3 qf7 r2 r3 r4 r5 r6) 0 qf11) 0), .ref qf15, va_rf (lyR (lyS (ly0 qf3 qf7 r2 r3 r4 r5 r6) 0 qf11) 2), .int (lyI (lyS (ly0 qf3 qf7 r2 r3 r4 r5 r6) 0 qf11) 0), .int (lyI (lyS (ly0 qf3 qf7 r2 r3 r4 r5 r6) 0 qf11) 1), .ref (lyA (lyS (ly0 qf3 qf7 r2 r3 r4 r5 r6) 0 qf11) 2), .int (lyI (lyS (ly0 qf3 qf7 r2 r3 r4 r5 r6) 0 qf11) 2), .int (lyI (lyS (ly0 qf3 qf7 r2 r3 r4 r5 r6) 0 qf11) 3), .ref (lyA (lyS (ly0 qf3 qf7 r2 r3 r4 r5 r6) 0 qf11) 3), .ref (lyA (lyS (ly0 qf3 qf7 r2 r3 r4 r5 r6) 0 qf11) 4), .ref (lyA (lyS (ly0 qf3 qf7 r2 r3 r4 r5 r6) 0 qf11) 5), .ref (lyA (lyS (ly0 qf3 qf7 r2 r3 r4 r5 r6) 0 qf11) 6)]))) s H locs := Y
  have hfa : hFr (fun u => u = t) Mz14 (hup Mz14 qz5 (t, .inr (7, lyO (lyS (lyS (ly0 qf3 qf7 r2 r3 r4 r5 r6) 0 qf11) 1 qf15)))) := hFr.put hFr.rf hLy.1 rfl
  have hLy : LyV G (hup Mz14 qz5 (t, .inr (7, lyO (lyS (lyS (ly0 qf3 qf7 r2 r3 r4 r5 r6) 0 qf11) 1 qf15)))) qz5 t (lyS (lyS (ly0 qf3 qf7 r2 r3 r4 r5 r6) 0 qf11) 1 qf15) := ⟨hup_eq, hfa _ _ _ hLy.2.1 (by omega), hfa _ _ _ hLy.2.2.1 (by omega), hfa _ _ _ hLy.2.2.2.1 (by omega), hfa _ _ _ hLy.2.2.2.2.1 (by omega), hfa _ _ _ hLy.2.2.2.2.2 (by omega)⟩
  have hTk := hTk.fr hfa (fun j z1 z2 z3 => by omega)
  have hPa := hPa.fr hfa (by omega)
  have hFz3 := hFz3.fr hfa (fun j hj => by omega)
  have hFz7 := hFz7.fr hfa (fun j hj => by omega)
  have hFz11 := hFz11.fr hfa (fun j hj => by omega)
  have hFz15 := hFz15.fr hfa (fun j hj => by omega)
  have hfr := hFr.tr hfr (hfa.mono (fun u z => by omega))
  have Y : hHS G (hup Mz14 qz5 (t, .inr (7, lyO (lyS (lyS (ly0 qf3 qf7 r2 r3 r4 r5 r6) 0 qf11) 1 qf15)))) s H locs := Y
  generalize hup Mz14 qz5 (t, .inr (7, lyO (lyS (lyS (ly0 qf3 qf7 r2 r3 r4 r5 r6) 0 qf11) 1 qf15))) = Mz16 at Y hfa hLy hTk hPa hfr hFz3 hFz7 hFz11 hFz15
  refine lv_aload_n hx hb dX6_readLayer_85 rfl (lv_at hl 2 rfl) ?_
  refine h_gets X Y (hsg_Z X.2.2.2.2.2.2.2.2.1 X.2.2.2.2.2.2.2.2.2.1 (k := 5) (by decide)) kfl_X6_104 dX6_readLayer_86 ?_
  refine h_callVr (rest := []) X Y (c_takesN l G Mz16 A N sg nb wd hN hTk hs7 sc15 (np + 12) sn15 nn15 hPa 5 (by omega) (by omega) (by omega)) rfl rfl gw_X6_51 dsc_X6_takes hPa.1 rfl rfl rfl rfl hl.1 (Nat.le_of_ble_eq_true rfl) ⟨Nat.le_of_ble_eq_true rfl, Nat.le_of_ble_eq_true rfl⟩ ⟨Nat.le_of_ble_eq_true rfl, Nat.le_of_ble_eq_true rfl⟩ dX6_readLayer_89 (fun H locs Y => ?_)
  refine lv_if_eq (tgt := 112) hx hb dX6_readLayer_92 (by decide) (fun c92 => ?_) (fun c92 => absurd (by decide) c92)
  refine lv_aload_n hx hb dX6_readLayer_112 rfl (lv_at hl 2 rfl) ?_
  refine h_gets X Y (hsg_Z X.2.2.2.2.2.2.2.2.1 X.2.2.2.2.2.2.2.2.2.1 (k := 7) (by decide)) kfl_X6_114 dX6_readLayer_113 ?_
  refine h_callVr (rest := []) X Y (c_takesN l G Mz16 A N sg nb wd hN hTk hs7 sc15 (np + 12) sn15 nn15 hPa 7 (by omega) (by omega) (by omega)) rfl rfl gw_X6_51 dsc_X6_takes hPa.1 rfl rfl rfl rfl hl.1 (Nat.le_of_ble_eq_true rfl) ⟨Nat.le_of_ble_eq_true rfl, Nat.le_of_ble_eq_true rfl⟩ ⟨Nat.le_of_ble_eq_true rfl, Nat.le_of_ble_eq_true rfl⟩ dX6_readLayer_116 (fun H locs Y => ?_)
  refine lv_if_eq (tgt := 146) hx hb dX6_readLayer_119 (by decide) (fun c119 => ?_) (fun c119 => absurd (by decide) c119)
  refine lv_aload_n hx hb dX6_readLayer_146 rfl (lv_at hl 2 rfl) ?_
  refine h_gets X Y (hsg_Z X.2.2.2.2.2.2.2.2.1 X.2.2.2.2.2.2.2.2.2.1 (k := 9) (by decide)) kfl_X6_123 dX6_readLayer_147 ?_
  refine h_callVr (rest := []) X Y (c_takesN l G Mz16 A N sg nb wd hN hTk hs7 sc15 (np + 12) sn15 nn15 hPa 9 (by omega) (by omega) (by omega)) rfl rfl gw_X6_51 dsc_X6_takes hPa.1 rfl rfl rfl rfl hl.1 (Nat.le_of_ble_eq_true rfl) ⟨Nat.le_of_ble_eq_true rfl, Nat.le_of_ble_eq_true rfl⟩ ⟨Nat.le_of_ble_eq_true rfl, Nat.le_of_ble_eq_true rfl⟩ dX6_readLayer_150 (fun H locs Y => ?_)
  refine lv_if_eq (tgt := 164) hx hb dX6_readLayer_153 (by decide) (fun c153 => ?_) (fun c153 => absurd (by decide) c153)
  refine lv_aload_n hx hb dX6_readLayer_164 rfl (lv_at hl 2 rfl) ?_
  refine h_gets X Y (hsg_Z X.2.2.2.2.2.2.2.2.1 X.2.2.2.2.2.2.2.2.2.1 (k := 22) (by decide)) kfl_X6_132 dX6_readLayer_165 ?_
  refine h_callV (rest := []) X Y (c_need l G Mz16 A N sg nb wd hN hTk hs7 sc15 (np + 12) sn15 nn15 hPa 22 (by omega) kq12 (by omega)) gw_X6_69 dsc_X6_need hPa.1 rfl rfl rfl hl.1 rfl (Nat.le_of_ble_eq_true rfl) ⟨Nat.le_of_ble_eq_true rfl, Nat.le_of_ble_eq_true rfl⟩ ⟨Nat.le_of_ble_eq_true rfl, Nat.le_of_ble_eq_true rfl⟩ dX6_readLayer_168 ?_
  rintro _ Mz17 H locs ⟨rfl, hPa, hfa⟩ Y
  try dsimp only [Option.toList, List.nil_append, List.singleton_append]
  have hTk := hTk.fr hfa (fun j z1 z2 z3 => by omega)
  have hFz3 := hFz3.fr hfa (fun j hj => by omega)
  have hFz7 := hFz7.fr hfa (fun j hj => by omega)
  have hFz11 := hFz11.fr hfa (fun j hj => by omega)
  have hFz15 := hFz15.fr hfa (fun j hj => by omega)
  have hLy := hLy.fr hfa (fun j hj => by omega)
  have hfr := hFr.tr hfr (hfa.mono (fun u z => by omega))
  refine lv_aload_n hx hb dX6_readLayer_171 rfl (lv_at hl 0 rfl) ?_
  rw [kq1] at hLz3
  rw [kq3, kq5, kq4, kq7, kq6] at hLz7
  rw [kq9] at hLz11
  rw [kq11] at hLz15
  exact h_aret (v := some qz5) X Y (Or.inl ⟨_, rfl⟩) ⟨qz5, _, lyF Fz3 Fz7 Fz11 Fz15 default, _, _, _, rfl, ⟨hLy, hFz3, hFz7, (fun q hq => by cases hq; exact hFz11), (fun q hq => by cases hq; exact hFz15), (fun q hq => absurd hq (by simp [lyS, ly0, lyR, va_up]))⟩, ⟨rfl, rfl, ⟨⟨_, rfl⟩, ⟨_, rfl⟩, rfl⟩, hLz3, hLz7, hLz11, hLz15⟩, hPa, hfr⟩ (by show _ ≤ 30; omega) (by show _ ≤ 7000; omega) dX6_readLayer_172
theorem gw_X6_110 : GoodIn hGW (wsV RX6 110 RX6 yX6_needEach (Cond.code yX6_needEach cX6_needEach 4 (Option.none) :: hGW)) := hgi4 kml_X6_110 kin_X6_needEach kse_X6_X6_needEach_X6_needEach kini_X6 kco_X6_needEach
theorem dsc_X6_needEach : yX6_needEach.cls = RX6 ∧ yX6_needEach.cls ≠ "java/lang/invoke/MethodHandle" ∧ yX6_needEach.cls ≠ "java/lang/invoke/VarHandle" ∧ (parseMethodDescriptor yX6_needEach.desc).map (fun d => d.parameters.length) = some 2 := ⟨rfl, by decide +kernel, by decide +kernel, by decide +kernel⟩
theorem dX6_readLayer_122 : decode cX6_readLayer 122 = .ok (.aload_n 0, 1) := by decide +kernel
theorem dX6_readLayer_123 : decode cX6_readLayer 123 = .ok (.getstatic 117, 3) := by decide +kernel
theorem dX6_readLayer_126 : decode cX6_readLayer 126 = .ok (.invokevirtual 69, 3) := by decide +kernel
theorem dX6_readLayer_129 : decode cX6_readLayer 129 = .ok (.aload_n 0, 1) := by decide +kernel
theorem dX6_readLayer_130 : decode cX6_readLayer 130 = .ok (.getstatic 66, 3) := by decide +kernel
theorem dX6_readLayer_133 : decode cX6_readLayer 133 = .ok (.invokevirtual 69, 3) := by decide +kernel
theorem dX6_readLayer_136 : decode cX6_readLayer 136 = .ok (.aload_n 0, 1) := by decide +kernel
theorem dX6_readLayer_137 : decode cX6_readLayer 137 = .ok (.getstatic 120, 3) := by decide +kernel
theorem dX6_readLayer_140 : decode cX6_readLayer 140 = .ok (.getstatic 66, 3) := by decide +kernel
theorem dX6_readLayer_143 : decode cX6_readLayer 143 = .ok (.invokevirtual 110, 3) := by decide +kernel
set_option maxHeartbeats 400000 in
set_option maxRecDepth 100000 in
theorem c_readLb1 (l : Launch) (G : hG) (M : hM) (A : Nat → Nat) (N : Nat) (sg : Nat → Nat) (nb : Nat → Int32) (wd : Nat → Int64) (hN : N < 400) (hTk : TkV G M A N sg nb wd) (hs7 : ∀ i, i ≤ N → sg i < 37) (sc np : Nat) (sn : Nat → Option Nat) (nn : Nat → Int32) (hPa : PaV G M A sg sc np sn nn) (t : Nat) (ht : 2000 ≤ t) (hpat : ∀ j, j < 16 → sg (np + j) = [33, 34, 1, 15, 26, 34, 24, 34, 3, 34, 4, 34, 7, 8, 33, 22].getD j 0) (hlt : np + 16 ≤ N) : hCT l G yX6_readLayer cX6_readLayer 3 (Option.some (FieldType.object "LossHouse$Layer")) (hRm 11 30 7000) M [.ref (A 8)] (fun v M' => ∃ q L F sc1 sn1 nn1, v = some (.ref q) ∧ LaP G M' q t L F ∧ shB nb np L F ∧ PaV G M' A sg sc1 (np + 16) sn1 nn1 ∧ hFr (fun u => u = 8 ∨ u = 9 ∨ u = 10 ∨ (t ≤ u ∧ u < t + 100)) M M') := by
  refine hCT.of (own := RX6) (nm := "readLayer") (by decide) rfl rfl (Nat.le_of_ble_eq_true rfl) ?_
  intro p e s m args below meth c ls X Y hl
  have hx := X.1
  have hb := X.2.1
  have hl : lv_has ls 3 [(0, .ref (A 8))] := hl
  have hfr : hFr (fun u => u = 8 ∨ u = 9 ∨ u = 10) M M := hFr.rf
  have hs90 := hs7 (np) (by omega)
  have hs91 := hs7 (np + 1) (by omega)
  have hs92 := hs7 (np + 2) (by omega)
  have hs93 := hs7 (np + 3) (by omega)
  have hs94 := hs7 (np + 4) (by omega)
  have hs95 := hs7 (np + 5) (by omega)
  have hs96 := hs7 (np + 6) (by omega)
  have hs97 := hs7 (np + 7) (by omega)
  have hs98 := hs7 (np + 8) (by omega)
  have hs99 := hs7 (np + 9) (by omega)
  have hs910 := hs7 (np + 10) (by omega)
  have hs911 := hs7 (np + 11) (by omega)
  have hs912 := hs7 (np + 12) (by omega)
  have hs913 := hs7 (np + 13) (by omega)
  have hs914 := hs7 (np + 14) (by omega)
  have hs915 := hs7 (np + 15) (by omega)
  have hs916 := hs7 (np + 16) (by omega)
  have kq0 : sg (np) = 33 := hpat 0 (by omega)
  have kq1 : sg (np + 1) = 34 := hpat 1 (by omega)
  have kq2 : sg (np + 2) = 1 := hpat 2 (by omega)
  have kq3 : sg (np + 3) = 15 := hpat 3 (by omega)
  have kq4 : sg (np + 4) = 26 := hpat 4 (by omega)
  have kq5 : sg (np + 5) = 34 := hpat 5 (by omega)
  have kq6 : sg (np + 6) = 24 := hpat 6 (by omega)
  have kq7 : sg (np + 7) = 34 := hpat 7 (by omega)
  have kq8 : sg (np + 8) = 3 := hpat 8 (by omega)
  have kq9 : sg (np + 9) = 34 := hpat 9 (by omega)
  have kq10 : sg (np + 10) = 4 := hpat 10 (by omega)
  have kq11 : sg (np + 11) = 34 := hpat 11 (by omega)
  have kq12 : sg (np + 12) = 7 := hpat 12 (by omega)
  have kq13 : sg (np + 13) = 8 := hpat 13 (by omega)
  have kq14 : sg (np + 14) = 33 := hpat 14 (by omega)
  have kq15 : sg (np + 15) = 22 := hpat 15 (by omega)
  have hfr : hFr (fun u => u = 8 ∨ u = 9 ∨ u = 10 ∨ (t ≤ u ∧ u < t + 100)) M M := hFr.rf
  refine lv_aload_n hx hb dX6_readLayer_0 rfl (lv_at hl 0 rfl) ?_
  refine h_gets X Y (hsg_Z X.2.2.2.2.2.2.2.2.1 X.2.2.2.2.2.2.2.2.2.1 (k := 33) (by decide)) kfl_X6_66 dX6_readLayer_1 ?_
  refine h_callV (rest := []) X Y (c_need l G M A N sg nb wd hN hTk hs7 sc np sn nn hPa 33 (by omega) kq0 (by omega)) gw_X6_69 dsc_X6_need hPa.1 rfl rfl rfl hl.1 rfl (Nat.le_of_ble_eq_true rfl) ⟨Nat.le_of_ble_eq_true rfl, Nat.le_of_ble_eq_true rfl⟩ ⟨Nat.le_of_ble_eq_true rfl, Nat.le_of_ble_eq_true rfl⟩ dX6_readLayer_4 ?_
  rintro _ Mz1 H locs ⟨rfl, hPa, hfa⟩ Y
  try dsimp only [Option.toList, List.nil_append, List.singleton_append]
  have hTk := hTk.fr hfa (fun j z1 z2 z3 => by omega)
  have hfr := hFr.tr hfr (hfa.mono (fun u z => by omega))
  refine lv_aload_n hx hb dX6_readLayer_7 rfl (lv_at hl 0 rfl) ?_
  refine h_callV (rest := []) X Y (c_readN l G Mz1 A N sg nb wd hN hTk hs7 sc (np + 1) sn nn hPa (t + 10) (by omega) (Or.inl kq1) (by rw [show sg (np + 1 + 1) = 1 from kq2]; decide) (by omega)) gw_X6_73 dsc_X6_readSum hPa.1 rfl rfl rfl hl.1 rfl (Nat.le_of_ble_eq_true rfl) ⟨Nat.le_of_ble_eq_true rfl, Nat.le_of_ble_eq_true rfl⟩ ⟨Nat.le_of_ble_eq_true rfl, Nat.le_of_ble_eq_true rfl⟩ dX6_readLayer_8 ?_
  rintro _ Mz2 H locs ⟨qf3, Fz3, sc3, sn3, nn3, rfl, hFz3, hLz3, hPa, hfa⟩ Y
  try dsimp only [Option.toList, List.nil_append, List.singleton_append]
  have hTk := hTk.fr hfa (fun j z1 z2 z3 => by omega)
  have hfr := hFr.tr hfr (hfa.mono (fun u z => by omega))
  refine lv_astore_n (lv' := [(1, .ref qf3), (0, .ref (A 8))]) hx hb dX6_readLayer_11 rfl hl (by decide) rfl (fun ls hl => ?_)
  refine lv_aload_n hx hb dX6_readLayer_12 rfl (lv_at hl 1 rfl) ?_
  refine h_gets X Y (hsg_Z X.2.2.2.2.2.2.2.2.1 X.2.2.2.2.2.2.2.2.2.1 (k := 1) (by decide)) kfl_X6_77 dX6_readLayer_13 ?_
  refine h_callV (rest := []) X Y (c_need l G Mz2 A N sg nb wd hN hTk hs7 sc3 (np + 2) sn3 nn3 hPa 1 (by omega) kq2 (by omega)) gw_X6_69 dsc_X6_need hPa.1 rfl rfl rfl hl.1 rfl (Nat.le_of_ble_eq_true rfl) ⟨Nat.le_of_ble_eq_true rfl, Nat.le_of_ble_eq_true rfl⟩ ⟨Nat.le_of_ble_eq_true rfl, Nat.le_of_ble_eq_true rfl⟩ dX6_readLayer_16 ?_
  rintro _ Mz4 H locs ⟨rfl, hPa, hfa⟩ Y
  try dsimp only [Option.toList, List.nil_append, List.singleton_append]
  have hTk := hTk.fr hfa (fun j z1 z2 z3 => by omega)
  have hFz3 := hFz3.fr hfa (fun j hj => by omega)
  have hfr := hFr.tr hfr (hfa.mono (fun u z => by omega))
  refine h_new (ci := 7) X Y (t) (fs := [.null, .null, .null, .null, .null, .int 0, .int 0, .null, .int 0, .int 0, .null, .null, .null, .null]) rfl hin_X5 tyX5_ok kcl_X6_80 kinst_X5 kini_X5 (fun j hj => match j, hj with | 0, _ => rfl | 1, _ => rfl | 2, _ => rfl | 3, _ => rfl | 4, _ => rfl | 5, _ => rfl | 6, _ => rfl | 7, _ => rfl | 8, _ => rfl | 9, _ => rfl | 10, _ => rfl | 11, _ => rfl | 12, _ => rfl | 13, _ => rfl | z9 + 14, h9 => absurd h9 (by omega)) (Nat.le_of_ble_eq_true rfl) (Nat.le_of_ble_eq_true rfl) dX6_readLayer_19 (fun qz5 Mz5 H fz5 hg5 Y => ?_)
  have hPa := hPa.fr (Z := fun _ => False) (hFr.grow hFr.rf hg5) ⟨id, id, id⟩
  have hTk := hTk.fr (Z := fun _ => False) (hFr.grow hFr.rf hg5) (fun j z1 z2 z => z)
  have hfr := hFr.grow hfr hg5
  have hFz3 := FoV.grow hg5 hFz3
  have hly0 := fz5
  refine lv_dup hx hb dX6_readLayer_22 rfl ?_
  refine lv_aload_n hx hb dX6_readLayer_23 rfl (lv_at hl 0 rfl) ?_
  refine lv_aload_n hx hb dX6_readLayer_24 rfl (lv_at hl 1 rfl) ?_
  refine h_callV (rest := [.ref qf3, .ref qz5, .ref qz5]) X Y (c_readA l G Mz5 A N sg nb wd hN hTk hs7 sc3 (np + 3) sn3 nn3 hPa (t + 20) (by omega) (Or.inr (Or.inl kq3)) kq4 (Or.inl kq5) kq6 (Or.inl kq7) (by rw [show sg (np + 3 + 5) = 3 from kq8]; decide) (by omega)) gw_X6_73 dsc_X6_readSum hPa.1 rfl rfl rfl hl.1 rfl (Nat.le_of_ble_eq_true rfl) ⟨Nat.le_of_ble_eq_true rfl, Nat.le_of_ble_eq_true rfl⟩ ⟨Nat.le_of_ble_eq_true rfl, Nat.le_of_ble_eq_true rfl⟩ dX6_readLayer_25 ?_
  rintro _ Mz6 H locs ⟨qf7, Fz7, sc7, sn7, nn7, rfl, hFz7, hLz7, hPa, hfa⟩ Y
  try dsimp only [Option.toList, List.nil_append, List.singleton_append]
  have hTk := hTk.fr hfa (fun j z1 z2 z3 => by omega)
  have hFz3 := hFz3.fr hfa (fun j hj => by omega)
  have hfr := hFr.tr hfr (hfa.mono (fun u z => by omega))
  have hly0 := hfa _ _ _ hly0 (by omega)
  refine h_callI (rest := [.ref qz5]) X Y (c_layInit l G Mz6 qz5 t qf3 qf7 hly0) (hgi0 kco_X5_init) kini_X5 kml_X6_82 kin_X5_init rfl dsc_X5_init.2 rfl hl.1 rfl (Nat.le_of_ble_eq_true rfl) ⟨Nat.le_of_ble_eq_true rfl, Nat.le_of_ble_eq_true rfl⟩ ⟨Nat.le_of_ble_eq_true rfl, Nat.le_of_ble_eq_true rfl⟩ dX6_readLayer_28 ?_
  rintro _ Mz8 H locs ⟨rfl, r2, r3, r4, r5, r6, hLy, hfa⟩ Y
  try dsimp only [Option.toList, List.nil_append]
  have hTk := hTk.fr hfa (fun j z1 z2 z3 => by omega)
  have hPa := hPa.fr hfa (by omega)
  have hFz3 := hFz3.fr hfa (fun j hj => by omega)
  have hFz7 := hFz7.fr hfa (fun j hj => by omega)
  have hfr := hFr.tr hfr (hfa.mono (fun u z => by omega))
  refine lv_astore_n (lv' := [(2, .ref qz5), (1, .ref qf3), (0, .ref (A 8))]) hx hb dX6_readLayer_31 rfl hl (by decide) rfl (fun ls hl => ?_)
  refine lv_aload_n hx hb dX6_readLayer_32 rfl (lv_at hl 2 rfl) ?_
  refine h_gets X Y (hsg_Z X.2.2.2.2.2.2.2.2.1 X.2.2.2.2.2.2.2.2.2.1 (k := 2) (by decide)) kfl_X6_85 dX6_readLayer_33 ?_
  refine h_callVr (rest := []) X Y (c_takesN l G Mz8 A N sg nb wd hN hTk hs7 sc7 (np + 8) sn7 nn7 hPa 2 (by omega) (by omega) (by omega)) rfl rfl gw_X6_51 dsc_X6_takes hPa.1 rfl rfl rfl rfl hl.1 (Nat.le_of_ble_eq_true rfl) ⟨Nat.le_of_ble_eq_true rfl, Nat.le_of_ble_eq_true rfl⟩ ⟨Nat.le_of_ble_eq_true rfl, Nat.le_of_ble_eq_true rfl⟩ dX6_readLayer_36 (fun H locs Y => ?_)
  refine lv_if_eq (tgt := 49) hx hb dX6_readLayer_39 (by decide) (fun c39 => ?_) (fun c39 => absurd (by decide) c39)
  refine lv_aload_n hx hb dX6_readLayer_49 rfl (lv_at hl 2 rfl) ?_
  refine h_gets X Y (hsg_Z X.2.2.2.2.2.2.2.2.1 X.2.2.2.2.2.2.2.2.2.1 (k := 3) (by decide)) kfl_X6_91 dX6_readLayer_50 ?_
  refine h_callV (rest := []) X Y (c_takesY l G Mz8 A N sg nb wd hN hTk hs7 sc7 (np + 8) sn7 nn7 hPa 3 (by omega) kq8 (by omega)) gw_X6_51 dsc_X6_takes hPa.1 rfl rfl rfl hl.1 rfl (Nat.le_of_ble_eq_true rfl) ⟨Nat.le_of_ble_eq_true rfl, Nat.le_of_ble_eq_true rfl⟩ ⟨Nat.le_of_ble_eq_true rfl, Nat.le_of_ble_eq_true rfl⟩ dX6_readLayer_53 ?_
  rintro _ Mz9 H locs ⟨rfl, hPa, hfa⟩ Y
  try dsimp only [Option.toList, List.nil_append, List.singleton_append]
  have hTk := hTk.fr hfa (fun j z1 z2 z3 => by omega)
  have hFz3 := hFz3.fr hfa (fun j hj => by omega)
  have hFz7 := hFz7.fr hfa (fun j hj => by omega)
  have hLy := hLy.fr hfa (fun j hj => by omega)
  have hfr := hFr.tr hfr (hfa.mono (fun u z => by omega))
  refine lv_if_eq (tgt := 67) hx hb dX6_readLayer_56 (by decide) (fun c56 => absurd c56 (by decide)) (fun c56 => ?_)
  refine lv_aload_n hx hb dX6_readLayer_59 rfl (lv_at hl 0 rfl) ?_
  refine lv_aload_n hx hb dX6_readLayer_60 rfl (lv_at hl 2 rfl) ?_
  refine h_callV (rest := [.ref qz5]) X Y (c_readN l G Mz9 A N sg nb wd hN hTk hs7 sc7 (np + 9) sn7 nn7 hPa (t + 30) (by omega) (Or.inl kq9) (by rw [show sg (np + 9 + 1) = 4 from kq10]; decide) (by omega)) gw_X6_73 dsc_X6_readSum hPa.1 rfl rfl rfl hl.1 rfl (Nat.le_of_ble_eq_true rfl) ⟨Nat.le_of_ble_eq_true rfl, Nat.le_of_ble_eq_true rfl⟩ ⟨Nat.le_of_ble_eq_true rfl, Nat.le_of_ble_eq_true rfl⟩ dX6_readLayer_61 ?_
  rintro _ Mz10 H locs ⟨qf11, Fz11, sc11, sn11, nn11, rfl, hFz11, hLz11, hPa, hfa⟩ Y
  try dsimp only [Option.toList, List.nil_append, List.singleton_append]
  have hTk := hTk.fr hfa (fun j z1 z2 z3 => by omega)
  have hFz3 := hFz3.fr hfa (fun j hj => by omega)
  have hFz7 := hFz7.fr hfa (fun j hj => by omega)
  have hLy := hLy.fr hfa (fun j hj => by omega)
  have hfr := hFr.tr hfr (hfa.mono (fun u z => by omega))
  refine h_putN X Y (k := 2) (v := .ref qf11) hLy.1 rfl hin_X5 tyX5_ok nmX5 (by decide) (kfn_X6_94 X.2.2.2.2.2.2.2.2.1 X.2.2.2.2.2.2.2.2.2.1) rfl rfl rfl (Nat.le_of_ble_eq_true rfl) dX6_readLayer_64 (fun H locs Y => ?_)
  have Y : hHS G (hup Mz10 qz5 (t, .inr (7, [.ref (lyA (ly0 qf3 qf7 r2 r3 r4 r5 r6) 0), .ref (lyA (ly0 qf3 qf7 r2 r3 r4 r5 r6) 1), .ref qf11, va_rf (lyR (ly0 qf3 qf7 r2 r3 r4 r5 r6) 1), va_rf (lyR (ly0 qf3 qf7 r2 r3 r4 r5 r6) 2), .int (lyI (ly0 qf3 qf7 r2 r3 r4 r5 r6) 0), .int (lyI (ly0 qf3 qf7 r2 r3 r4 r5 r6) 1), .ref (lyA (ly0 qf3 qf7 r2 r3 r4 r5 r6) 2), .int (lyI (ly0 qf3 qf7 r2 r3 r4 r5 r6) 2), .int (lyI (ly0 qf3 qf7 r2 r3 r4 r5 r6) 3), .ref (lyA (ly0 qf3 qf7 r2 r3 r4 r5 r6) 3), .ref (lyA (ly0 qf3 qf7 r2 r3 r4 r5 r6) 4), .ref (lyA (ly0 qf3 qf7 r2 r3 r4 r5 r6) 5), .ref (lyA (ly0 qf3 qf7 r2 r3 r4 r5 r6) 6)]))) s H locs := Y
  have hfa : hFr (fun u => u = t) Mz10 (hup Mz10 qz5 (t, .inr (7, lyO (lyS (ly0 qf3 qf7 r2 r3 r4 r5 r6) 0 qf11)))) := hFr.put hFr.rf hLy.1 rfl
  have hLy : LyV G (hup Mz10 qz5 (t, .inr (7, lyO (lyS (ly0 qf3 qf7 r2 r3 r4 r5 r6) 0 qf11)))) qz5 t (lyS (ly0 qf3 qf7 r2 r3 r4 r5 r6) 0 qf11) := ⟨hup_eq, hfa _ _ _ hLy.2.1 (by omega), hfa _ _ _ hLy.2.2.1 (by omega), hfa _ _ _ hLy.2.2.2.1 (by omega), hfa _ _ _ hLy.2.2.2.2.1 (by omega), hfa _ _ _ hLy.2.2.2.2.2 (by omega)⟩
  have hTk := hTk.fr hfa (fun j z1 z2 z3 => by omega)
  have hPa := hPa.fr hfa (by omega)
  have hFz3 := hFz3.fr hfa (fun j hj => by omega)
  have hFz7 := hFz7.fr hfa (fun j hj => by omega)
  have hFz11 := hFz11.fr hfa (fun j hj => by omega)
  have hfr := hFr.tr hfr (hfa.mono (fun u z => by omega))
  have Y : hHS G (hup Mz10 qz5 (t, .inr (7, lyO (lyS (ly0 qf3 qf7 r2 r3 r4 r5 r6) 0 qf11)))) s H locs := Y
  generalize hup Mz10 qz5 (t, .inr (7, lyO (lyS (ly0 qf3 qf7 r2 r3 r4 r5 r6) 0 qf11))) = Mz12 at Y hfa hLy hTk hPa hfr hFz3 hFz7 hFz11
  refine lv_aload_n hx hb dX6_readLayer_67 rfl (lv_at hl 2 rfl) ?_
  refine h_gets X Y (hsg_Z X.2.2.2.2.2.2.2.2.1 X.2.2.2.2.2.2.2.2.2.1 (k := 4) (by decide)) kfl_X6_98 dX6_readLayer_68 ?_
  refine h_callV (rest := []) X Y (c_takesY l G Mz12 A N sg nb wd hN hTk hs7 sc11 (np + 10) sn11 nn11 hPa 4 (by omega) kq10 (by omega)) gw_X6_51 dsc_X6_takes hPa.1 rfl rfl rfl hl.1 rfl (Nat.le_of_ble_eq_true rfl) ⟨Nat.le_of_ble_eq_true rfl, Nat.le_of_ble_eq_true rfl⟩ ⟨Nat.le_of_ble_eq_true rfl, Nat.le_of_ble_eq_true rfl⟩ dX6_readLayer_71 ?_
  rintro _ Mz13 H locs ⟨rfl, hPa, hfa⟩ Y
  try dsimp only [Option.toList, List.nil_append, List.singleton_append]
  have hTk := hTk.fr hfa (fun j z1 z2 z3 => by omega)
  have hFz3 := hFz3.fr hfa (fun j hj => by omega)
  have hFz7 := hFz7.fr hfa (fun j hj => by omega)
  have hFz11 := hFz11.fr hfa (fun j hj => by omega)
  have hLy := hLy.fr hfa (fun j hj => by omega)
  have hfr := hFr.tr hfr (hfa.mono (fun u z => by omega))
  refine lv_if_eq (tgt := 85) hx hb dX6_readLayer_74 (by decide) (fun c74 => absurd c74 (by decide)) (fun c74 => ?_)
  refine lv_aload_n hx hb dX6_readLayer_77 rfl (lv_at hl 0 rfl) ?_
  refine lv_aload_n hx hb dX6_readLayer_78 rfl (lv_at hl 2 rfl) ?_
  refine h_callV (rest := [.ref qz5]) X Y (c_readN l G Mz13 A N sg nb wd hN hTk hs7 sc11 (np + 11) sn11 nn11 hPa (t + 40) (by omega) (Or.inl kq11) (by rw [show sg (np + 11 + 1) = 7 from kq12]; decide) (by omega)) gw_X6_73 dsc_X6_readSum hPa.1 rfl rfl rfl hl.1 rfl (Nat.le_of_ble_eq_true rfl) ⟨Nat.le_of_ble_eq_true rfl, Nat.le_of_ble_eq_true rfl⟩ ⟨Nat.le_of_ble_eq_true rfl, Nat.le_of_ble_eq_true rfl⟩ dX6_readLayer_79 ?_
  rintro _ Mz14 H locs ⟨qf15, Fz15, sc15, sn15, nn15, rfl, hFz15, hLz15, hPa, hfa⟩ Y
  try dsimp only [Option.toList, List.nil_append, List.singleton_append]
  have hTk := hTk.fr hfa (fun j z1 z2 z3 => by omega)
  have hFz3 := hFz3.fr hfa (fun j hj => by omega)
  have hFz7 := hFz7.fr hfa (fun j hj => by omega)
  have hFz11 := hFz11.fr hfa (fun j hj => by omega)
  have hLy := hLy.fr hfa (fun j hj => by omega)
  have hfr := hFr.tr hfr (hfa.mono (fun u z => by omega))
  refine h_putN X Y (k := 3) (v := .ref qf15) hLy.1 rfl hin_X5 tyX5_ok nmX5 (by decide) (kfn_X6_101 X.2.2.2.2.2.2.2.2.1 X.2.2.2.2.2.2.2.2.2.1) rfl rfl rfl (Nat.le_of_ble_eq_true rfl) dX6_readLayer_82 (fun H locs Y => ?_)
  have Y : hHS G (hup Mz14 qz5 (t, .inr (7, [.ref (lyA (lyS (ly0 qf3 qf7 r2 r3 r4 r5 r6) 0 qf11) 0), .ref (lyA (lyS (ly0 qf3 qf7 r2 r3 r4 r5 r6) 0 qf11) 1), va_rf (lyR (lyS (ly0 qf3 qf7 r2 r3 r4 r5 r6) 0 qf11) 0), .ref qf15, va_rf (lyR (lyS (ly0 qf3 qf7 r2 r3 r4 r5 r6) 0 qf11) 2), .int (lyI (lyS (ly0 qf3 qf7 r2 r3 r4 r5 r6) 0 qf11) 0), .int (lyI (lyS (ly0 qf3 qf7 r2 r3 r4 r5 r6) 0 qf11) 1), .ref (lyA (lyS (ly0 qf3 qf7 r2 r3 r4 r5 r6) 0 qf11) 2), .int (lyI (lyS (ly0 qf3 qf7 r2 r3 r4 r5 r6) 0 qf11) 2), .int (lyI (lyS (ly0 qf3 qf7 r2 r3 r4 r5 r6) 0 qf11) 3), .ref (lyA (lyS (ly0 qf3 qf7 r2 r3 r4 r5 r6) 0 qf11) 3), .ref (lyA (lyS (ly0 qf3 qf7 r2 r3 r4 r5 r6) 0 qf11) 4), .ref (lyA (lyS (ly0 qf3 qf7 r2 r3 r4 r5 r6) 0 qf11) 5), .ref (lyA (lyS (ly0 qf3 qf7 r2 r3 r4 r5 r6) 0 qf11) 6)]))) s H locs := Y
  have hfa : hFr (fun u => u = t) Mz14 (hup Mz14 qz5 (t, .inr (7, lyO (lyS (lyS (ly0 qf3 qf7 r2 r3 r4 r5 r6) 0 qf11) 1 qf15)))) := hFr.put hFr.rf hLy.1 rfl
  have hLy : LyV G (hup Mz14 qz5 (t, .inr (7, lyO (lyS (lyS (ly0 qf3 qf7 r2 r3 r4 r5 r6) 0 qf11) 1 qf15)))) qz5 t (lyS (lyS (ly0 qf3 qf7 r2 r3 r4 r5 r6) 0 qf11) 1 qf15) := ⟨hup_eq, hfa _ _ _ hLy.2.1 (by omega), hfa _ _ _ hLy.2.2.1 (by omega), hfa _ _ _ hLy.2.2.2.1 (by omega), hfa _ _ _ hLy.2.2.2.2.1 (by omega), hfa _ _ _ hLy.2.2.2.2.2 (by omega)⟩
  have hTk := hTk.fr hfa (fun j z1 z2 z3 => by omega)
  have hPa := hPa.fr hfa (by omega)
  have hFz3 := hFz3.fr hfa (fun j hj => by omega)
  have hFz7 := hFz7.fr hfa (fun j hj => by omega)
  have hFz11 := hFz11.fr hfa (fun j hj => by omega)
  have hFz15 := hFz15.fr hfa (fun j hj => by omega)
  have hfr := hFr.tr hfr (hfa.mono (fun u z => by omega))
  have Y : hHS G (hup Mz14 qz5 (t, .inr (7, lyO (lyS (lyS (ly0 qf3 qf7 r2 r3 r4 r5 r6) 0 qf11) 1 qf15)))) s H locs := Y
  generalize hup Mz14 qz5 (t, .inr (7, lyO (lyS (lyS (ly0 qf3 qf7 r2 r3 r4 r5 r6) 0 qf11) 1 qf15))) = Mz16 at Y hfa hLy hTk hPa hfr hFz3 hFz7 hFz11 hFz15
  refine lv_aload_n hx hb dX6_readLayer_85 rfl (lv_at hl 2 rfl) ?_
  refine h_gets X Y (hsg_Z X.2.2.2.2.2.2.2.2.1 X.2.2.2.2.2.2.2.2.2.1 (k := 5) (by decide)) kfl_X6_104 dX6_readLayer_86 ?_
  refine h_callVr (rest := []) X Y (c_takesN l G Mz16 A N sg nb wd hN hTk hs7 sc15 (np + 12) sn15 nn15 hPa 5 (by omega) (by omega) (by omega)) rfl rfl gw_X6_51 dsc_X6_takes hPa.1 rfl rfl rfl rfl hl.1 (Nat.le_of_ble_eq_true rfl) ⟨Nat.le_of_ble_eq_true rfl, Nat.le_of_ble_eq_true rfl⟩ ⟨Nat.le_of_ble_eq_true rfl, Nat.le_of_ble_eq_true rfl⟩ dX6_readLayer_89 (fun H locs Y => ?_)
  refine lv_if_eq (tgt := 112) hx hb dX6_readLayer_92 (by decide) (fun c92 => ?_) (fun c92 => absurd (by decide) c92)
  refine lv_aload_n hx hb dX6_readLayer_112 rfl (lv_at hl 2 rfl) ?_
  refine h_gets X Y (hsg_Z X.2.2.2.2.2.2.2.2.1 X.2.2.2.2.2.2.2.2.2.1 (k := 7) (by decide)) kfl_X6_114 dX6_readLayer_113 ?_
  refine h_callV (rest := []) X Y (c_takesY l G Mz16 A N sg nb wd hN hTk hs7 sc15 (np + 12) sn15 nn15 hPa 7 (by omega) kq12 (by omega)) gw_X6_51 dsc_X6_takes hPa.1 rfl rfl rfl hl.1 rfl (Nat.le_of_ble_eq_true rfl) ⟨Nat.le_of_ble_eq_true rfl, Nat.le_of_ble_eq_true rfl⟩ ⟨Nat.le_of_ble_eq_true rfl, Nat.le_of_ble_eq_true rfl⟩ dX6_readLayer_116 ?_
  rintro _ Mz17 H locs ⟨rfl, hPa, hfa⟩ Y
  try dsimp only [Option.toList, List.nil_append, List.singleton_append]
  have hTk := hTk.fr hfa (fun j z1 z2 z3 => by omega)
  have hFz3 := hFz3.fr hfa (fun j hj => by omega)
  have hFz7 := hFz7.fr hfa (fun j hj => by omega)
  have hFz11 := hFz11.fr hfa (fun j hj => by omega)
  have hFz15 := hFz15.fr hfa (fun j hj => by omega)
  have hLy := hLy.fr hfa (fun j hj => by omega)
  have hfr := hFr.tr hfr (hfa.mono (fun u z => by omega))
  refine lv_if_eq (tgt := 146) hx hb dX6_readLayer_119 (by decide) (fun c119 => absurd c119 (by decide)) (fun c119 => ?_)
  refine lv_aload_n hx hb dX6_readLayer_122 rfl (lv_at hl 2 rfl) ?_
  refine h_gets X Y (hsg_Z X.2.2.2.2.2.2.2.2.1 X.2.2.2.2.2.2.2.2.2.1 (k := 8) (by decide)) kfl_X6_117 dX6_readLayer_123 ?_
  refine h_callV (rest := []) X Y (c_need l G Mz17 A N sg nb wd hN hTk hs7 sc15 (np + 13) sn15 nn15 hPa 8 (by omega) kq13 (by omega)) gw_X6_69 dsc_X6_need hPa.1 rfl rfl rfl hl.1 rfl (Nat.le_of_ble_eq_true rfl) ⟨Nat.le_of_ble_eq_true rfl, Nat.le_of_ble_eq_true rfl⟩ ⟨Nat.le_of_ble_eq_true rfl, Nat.le_of_ble_eq_true rfl⟩ dX6_readLayer_126 ?_
  rintro _ Mz18 H locs ⟨rfl, hPa, hfa⟩ Y
  try dsimp only [Option.toList, List.nil_append, List.singleton_append]
  have hTk := hTk.fr hfa (fun j z1 z2 z3 => by omega)
  have hFz3 := hFz3.fr hfa (fun j hj => by omega)
  have hFz7 := hFz7.fr hfa (fun j hj => by omega)
  have hFz11 := hFz11.fr hfa (fun j hj => by omega)
  have hFz15 := hFz15.fr hfa (fun j hj => by omega)
  have hLy := hLy.fr hfa (fun j hj => by omega)
  have hfr := hFr.tr hfr (hfa.mono (fun u z => by omega))
  refine lv_aload_n hx hb dX6_readLayer_129 rfl (lv_at hl 2 rfl) ?_
  refine h_gets X Y (hsg_Z X.2.2.2.2.2.2.2.2.1 X.2.2.2.2.2.2.2.2.2.1 (k := 33) (by decide)) kfl_X6_66 dX6_readLayer_130 ?_
  refine h_callV (rest := []) X Y (c_need l G Mz18 A N sg nb wd hN hTk hs7 sc15 (np + 14) sn15 nn15 hPa 33 (by omega) kq14 (by omega)) gw_X6_69 dsc_X6_need hPa.1 rfl rfl rfl hl.1 rfl (Nat.le_of_ble_eq_true rfl) ⟨Nat.le_of_ble_eq_true rfl, Nat.le_of_ble_eq_true rfl⟩ ⟨Nat.le_of_ble_eq_true rfl, Nat.le_of_ble_eq_true rfl⟩ dX6_readLayer_133 ?_
  rintro _ Mz19 H locs ⟨rfl, hPa, hfa⟩ Y
  try dsimp only [Option.toList, List.nil_append, List.singleton_append]
  have hTk := hTk.fr hfa (fun j z1 z2 z3 => by omega)
  have hFz3 := hFz3.fr hfa (fun j hj => by omega)
  have hFz7 := hFz7.fr hfa (fun j hj => by omega)
  have hFz11 := hFz11.fr hfa (fun j hj => by omega)
  have hFz15 := hFz15.fr hfa (fun j hj => by omega)
  have hLy := hLy.fr hfa (fun j hj => by omega)
  have hfr := hFr.tr hfr (hfa.mono (fun u z => by omega))
  refine lv_aload_n hx hb dX6_readLayer_136 rfl (lv_at hl 2 rfl) ?_
  refine h_gets X Y (hsg_Z X.2.2.2.2.2.2.2.2.1 X.2.2.2.2.2.2.2.2.2.1 (k := 23) (by decide)) kfl_X6_120 dX6_readLayer_137 ?_
  refine h_gets X Y (hsg_Z X.2.2.2.2.2.2.2.2.1 X.2.2.2.2.2.2.2.2.2.1 (k := 33) (by decide)) kfl_X6_66 dX6_readLayer_140 ?_
  refine h_callV (rest := []) X Y (c_needEach0 l G Mz19 A N sg nb wd hN hTk hs7 sc15 (np + 15) sn15 nn15 hPa 23 33 (by omega) (by omega) (by omega)) gw_X6_110 dsc_X6_needEach hPa.1 rfl rfl rfl hl.1 rfl (Nat.le_of_ble_eq_true rfl) ⟨Nat.le_of_ble_eq_true rfl, Nat.le_of_ble_eq_true rfl⟩ ⟨Nat.le_of_ble_eq_true rfl, Nat.le_of_ble_eq_true rfl⟩ dX6_readLayer_143 ?_
  rintro _ Mz20 H locs ⟨rfl, hPa, hfa⟩ Y
  try dsimp only [Option.toList, List.nil_append, List.singleton_append]
  have hTk := hTk.fr hfa (fun j z1 z2 z3 => by omega)
  have hFz3 := hFz3.fr hfa (fun j hj => by omega)
  have hFz7 := hFz7.fr hfa (fun j hj => by omega)
  have hFz11 := hFz11.fr hfa (fun j hj => by omega)
  have hFz15 := hFz15.fr hfa (fun j hj => by omega)
  have hLy := hLy.fr hfa (fun j hj => by omega)
  have hfr := hFr.tr hfr (hfa.mono (fun u z => by omega))
  refine lv_aload_n hx hb dX6_readLayer_146 rfl (lv_at hl 2 rfl) ?_
  refine h_gets X Y (hsg_Z X.2.2.2.2.2.2.2.2.1 X.2.2.2.2.2.2.2.2.2.1 (k := 9) (by decide)) kfl_X6_123 dX6_readLayer_147 ?_
  refine h_callVr (rest := []) X Y (c_takesN l G Mz20 A N sg nb wd hN hTk hs7 sc15 (np + 15) sn15 nn15 hPa 9 (by omega) (by omega) (by omega)) rfl rfl gw_X6_51 dsc_X6_takes hPa.1 rfl rfl rfl rfl hl.1 (Nat.le_of_ble_eq_true rfl) ⟨Nat.le_of_ble_eq_true rfl, Nat.le_of_ble_eq_true rfl⟩ ⟨Nat.le_of_ble_eq_true rfl, Nat.le_of_ble_eq_true rfl⟩ dX6_readLayer_150 (fun H locs Y => ?_)
  refine lv_if_eq (tgt := 164) hx hb dX6_readLayer_153 (by decide) (fun c153 => ?_) (fun c153 => absurd (by decide) c153)
  refine lv_aload_n hx hb dX6_readLayer_164 rfl (lv_at hl 2 rfl) ?_
  refine h_gets X Y (hsg_Z X.2.2.2.2.2.2.2.2.1 X.2.2.2.2.2.2.2.2.2.1 (k := 22) (by decide)) kfl_X6_132 dX6_readLayer_165 ?_
  refine h_callV (rest := []) X Y (c_need l G Mz20 A N sg nb wd hN hTk hs7 sc15 (np + 15) sn15 nn15 hPa 22 (by omega) kq15 (by omega)) gw_X6_69 dsc_X6_need hPa.1 rfl rfl rfl hl.1 rfl (Nat.le_of_ble_eq_true rfl) ⟨Nat.le_of_ble_eq_true rfl, Nat.le_of_ble_eq_true rfl⟩ ⟨Nat.le_of_ble_eq_true rfl, Nat.le_of_ble_eq_true rfl⟩ dX6_readLayer_168 ?_
  rintro _ Mz21 H locs ⟨rfl, hPa, hfa⟩ Y
  try dsimp only [Option.toList, List.nil_append, List.singleton_append]
  have hTk := hTk.fr hfa (fun j z1 z2 z3 => by omega)
  have hFz3 := hFz3.fr hfa (fun j hj => by omega)
  have hFz7 := hFz7.fr hfa (fun j hj => by omega)
  have hFz11 := hFz11.fr hfa (fun j hj => by omega)
  have hFz15 := hFz15.fr hfa (fun j hj => by omega)
  have hLy := hLy.fr hfa (fun j hj => by omega)
  have hfr := hFr.tr hfr (hfa.mono (fun u z => by omega))
  refine lv_aload_n hx hb dX6_readLayer_171 rfl (lv_at hl 0 rfl) ?_
  rw [kq1] at hLz3
  rw [kq3, kq5, kq4, kq7, kq6] at hLz7
  rw [kq9] at hLz11
  rw [kq11] at hLz15
  exact h_aret (v := some qz5) X Y (Or.inl ⟨_, rfl⟩) ⟨qz5, _, lyF Fz3 Fz7 Fz11 Fz15 default, _, _, _, rfl, ⟨hLy, hFz3, hFz7, (fun q hq => by cases hq; exact hFz11), (fun q hq => by cases hq; exact hFz15), (fun q hq => absurd hq (by simp [lyS, ly0, lyR, va_up]))⟩, ⟨rfl, rfl, ⟨⟨_, rfl⟩, ⟨_, rfl⟩, rfl⟩, hLz3, hLz7, hLz11, hLz15⟩, hPa, hfr⟩ (by show _ ≤ 30; omega) (by show _ ≤ 7000; omega) dX6_readLayer_172
theorem gw_X6_126 : GoodIn hGW (wsV RX6 126 RX6 yX6_readTest (Cond.code yX6_readTest cX6_readTest 1 (Option.some (FieldType.object "LossHouse$Formula")) :: hGW)) := hgi4 kml_X6_126 kin_X6_readTest kse_X6_X6_readTest_X6_readTest kini_X6 kco_X6_readTest
theorem dsc_X6_readTest : yX6_readTest.cls = RX6 ∧ yX6_readTest.cls ≠ "java/lang/invoke/MethodHandle" ∧ yX6_readTest.cls ≠ "java/lang/invoke/VarHandle" ∧ (parseMethodDescriptor yX6_readTest.desc).map (fun d => d.parameters.length) = some 0 := ⟨rfl, by decide +kernel, by decide +kernel, by decide +kernel⟩
theorem dX6_readLayer_95 : decode cX6_readLayer 95 = .ok (.aload_n 0, 1) := by decide +kernel
theorem dX6_readLayer_96 : decode cX6_readLayer 96 = .ok (.getstatic 88, 3) := by decide +kernel
theorem dX6_readLayer_99 : decode cX6_readLayer 99 = .ok (.invokevirtual 69, 3) := by decide +kernel
theorem dX6_readLayer_102 : decode cX6_readLayer 102 = .ok (.aload_n 0, 1) := by decide +kernel
theorem dX6_readLayer_103 : decode cX6_readLayer 103 = .ok (.getstatic 107, 3) := by decide +kernel
theorem dX6_readLayer_106 : decode cX6_readLayer 106 = .ok (.getstatic 88, 3) := by decide +kernel
theorem dX6_readLayer_109 : decode cX6_readLayer 109 = .ok (.invokevirtual 110, 3) := by decide +kernel
theorem dX6_readLayer_156 : decode cX6_readLayer 156 = .ok (.aload_n 2, 1) := by decide +kernel
theorem dX6_readLayer_157 : decode cX6_readLayer 157 = .ok (.aload_n 0, 1) := by decide +kernel
theorem dX6_readLayer_158 : decode cX6_readLayer 158 = .ok (.invokevirtual 126, 3) := by decide +kernel
theorem dX6_readLayer_161 : decode cX6_readLayer 161 = .ok (.putfield 129, 3) := by decide +kernel
set_option maxHeartbeats 400000 in
set_option maxRecDepth 100000 in
theorem c_readLc0 (l : Launch) (G : hG) (M : hM) (A : Nat → Nat) (N : Nat) (sg : Nat → Nat) (nb : Nat → Int32) (wd : Nat → Int64) (hN : N < 400) (hTk : TkV G M A N sg nb wd) (hs7 : ∀ i, i ≤ N → sg i < 37) (sc np : Nat) (sn : Nat → Option Nat) (nn : Nat → Int32) (hPa : PaV G M A sg sc np sn nn) (t : Nat) (ht : 2000 ≤ t) (hpat : ∀ j, j < 25 → sg (np + j) = [33, 34, 24, 34, 26, 15, 1, 34, 5, 34, 7, 8, 33, 23, 33, 9, 17, 32, 34, 11, 12, 15, 28, 34, 22].getD j 0) (hlt : np + 25 ≤ N) : hCT l G yX6_readLayer cX6_readLayer 3 (Option.some (FieldType.object "LossHouse$Layer")) (hRm 11 30 7000) M [.ref (A 8)] (fun v M' => ∃ q L F sc1 sn1 nn1, v = some (.ref q) ∧ LaP G M' q t L F ∧ shC nb np 10 L F ∧ PaV G M' A sg sc1 (np + 25) sn1 nn1 ∧ hFr (fun u => u = 8 ∨ u = 9 ∨ u = 10 ∨ (t ≤ u ∧ u < t + 100)) M M') := by
  refine hCT.of (own := RX6) (nm := "readLayer") (by decide) rfl rfl (Nat.le_of_ble_eq_true rfl) ?_
  intro p e s m args below meth c ls X Y hl
  have hx := X.1
  have hb := X.2.1
  have hl : lv_has ls 3 [(0, .ref (A 8))] := hl
  have hfr : hFr (fun u => u = 8 ∨ u = 9 ∨ u = 10) M M := hFr.rf
  have hs90 := hs7 (np) (by omega)
  have hs91 := hs7 (np + 1) (by omega)
  have hs92 := hs7 (np + 2) (by omega)
  have hs93 := hs7 (np + 3) (by omega)
  have hs94 := hs7 (np + 4) (by omega)
  have hs95 := hs7 (np + 5) (by omega)
  have hs96 := hs7 (np + 6) (by omega)
  have hs97 := hs7 (np + 7) (by omega)
  have hs98 := hs7 (np + 8) (by omega)
  have hs99 := hs7 (np + 9) (by omega)
  have hs910 := hs7 (np + 10) (by omega)
  have hs911 := hs7 (np + 11) (by omega)
  have hs912 := hs7 (np + 12) (by omega)
  have hs913 := hs7 (np + 13) (by omega)
  have hs914 := hs7 (np + 14) (by omega)
  have hs915 := hs7 (np + 15) (by omega)
  have hs916 := hs7 (np + 16) (by omega)
  have hs917 := hs7 (np + 17) (by omega)
  have hs918 := hs7 (np + 18) (by omega)
  have hs919 := hs7 (np + 19) (by omega)
  have hs920 := hs7 (np + 20) (by omega)
  have hs921 := hs7 (np + 21) (by omega)
  have hs922 := hs7 (np + 22) (by omega)
  have hs923 := hs7 (np + 23) (by omega)
  have hs924 := hs7 (np + 24) (by omega)
  have hs925 := hs7 (np + 25) (by omega)
  have kq0 : sg (np) = 33 := hpat 0 (by omega)
  have kq1 : sg (np + 1) = 34 := hpat 1 (by omega)
  have kq2 : sg (np + 2) = 24 := hpat 2 (by omega)
  have kq3 : sg (np + 3) = 34 := hpat 3 (by omega)
  have kq4 : sg (np + 4) = 26 := hpat 4 (by omega)
  have kq5 : sg (np + 5) = 15 := hpat 5 (by omega)
  have kq6 : sg (np + 6) = 1 := hpat 6 (by omega)
  have kq7 : sg (np + 7) = 34 := hpat 7 (by omega)
  have kq8 : sg (np + 8) = 5 := hpat 8 (by omega)
  have kq9 : sg (np + 9) = 34 := hpat 9 (by omega)
  have kq10 : sg (np + 10) = 7 := hpat 10 (by omega)
  have kq11 : sg (np + 11) = 8 := hpat 11 (by omega)
  have kq12 : sg (np + 12) = 33 := hpat 12 (by omega)
  have kq13 : sg (np + 13) = 23 := hpat 13 (by omega)
  have kq14 : sg (np + 14) = 33 := hpat 14 (by omega)
  have kq15 : sg (np + 15) = 9 := hpat 15 (by omega)
  have kq16 : sg (np + 16) = 17 := hpat 16 (by omega)
  have kq17 : sg (np + 17) = 32 := hpat 17 (by omega)
  have kq18 : sg (np + 18) = 34 := hpat 18 (by omega)
  have kq19 : sg (np + 19) = 11 := hpat 19 (by omega)
  have kq20 : sg (np + 20) = 12 := hpat 20 (by omega)
  have kq21 : sg (np + 21) = 15 := hpat 21 (by omega)
  have kq22 : sg (np + 22) = 28 := hpat 22 (by omega)
  have kq23 : sg (np + 23) = 34 := hpat 23 (by omega)
  have kq24 : sg (np + 24) = 22 := hpat 24 (by omega)
  have hfr : hFr (fun u => u = 8 ∨ u = 9 ∨ u = 10 ∨ (t ≤ u ∧ u < t + 100)) M M := hFr.rf
  refine lv_aload_n hx hb dX6_readLayer_0 rfl (lv_at hl 0 rfl) ?_
  refine h_gets X Y (hsg_Z X.2.2.2.2.2.2.2.2.1 X.2.2.2.2.2.2.2.2.2.1 (k := 33) (by decide)) kfl_X6_66 dX6_readLayer_1 ?_
  refine h_callV (rest := []) X Y (c_need l G M A N sg nb wd hN hTk hs7 sc np sn nn hPa 33 (by omega) kq0 (by omega)) gw_X6_69 dsc_X6_need hPa.1 rfl rfl rfl hl.1 rfl (Nat.le_of_ble_eq_true rfl) ⟨Nat.le_of_ble_eq_true rfl, Nat.le_of_ble_eq_true rfl⟩ ⟨Nat.le_of_ble_eq_true rfl, Nat.le_of_ble_eq_true rfl⟩ dX6_readLayer_4 ?_
  rintro _ Mz1 H locs ⟨rfl, hPa, hfa⟩ Y
  try dsimp only [Option.toList, List.nil_append, List.singleton_append]
  have hTk := hTk.fr hfa (fun j z1 z2 z3 => by omega)
  have hfr := hFr.tr hfr (hfa.mono (fun u z => by omega))
  refine lv_aload_n hx hb dX6_readLayer_7 rfl (lv_at hl 0 rfl) ?_
  refine h_callV (rest := []) X Y (c_readB l G Mz1 A N sg nb wd hN hTk hs7 sc (np + 1) sn nn hPa (t + 10) (by omega) (Or.inl kq1) kq2 (Or.inl kq3) kq4 (Or.inr (Or.inl kq5)) (by rw [show sg (np + 1 + 5) = 1 from kq6]; decide) (by omega)) gw_X6_73 dsc_X6_readSum hPa.1 rfl rfl rfl hl.1 rfl (Nat.le_of_ble_eq_true rfl) ⟨Nat.le_of_ble_eq_true rfl, Nat.le_of_ble_eq_true rfl⟩ ⟨Nat.le_of_ble_eq_true rfl, Nat.le_of_ble_eq_true rfl⟩ dX6_readLayer_8 ?_
  rintro _ Mz2 H locs ⟨qf3, Fz3, sc3, sn3, nn3, rfl, hFz3, hLz3, hPa, hfa⟩ Y
  try dsimp only [Option.toList, List.nil_append, List.singleton_append]
  have hTk := hTk.fr hfa (fun j z1 z2 z3 => by omega)
  have hfr := hFr.tr hfr (hfa.mono (fun u z => by omega))
  refine lv_astore_n (lv' := [(1, .ref qf3), (0, .ref (A 8))]) hx hb dX6_readLayer_11 rfl hl (by decide) rfl (fun ls hl => ?_)
  refine lv_aload_n hx hb dX6_readLayer_12 rfl (lv_at hl 1 rfl) ?_
  refine h_gets X Y (hsg_Z X.2.2.2.2.2.2.2.2.1 X.2.2.2.2.2.2.2.2.2.1 (k := 1) (by decide)) kfl_X6_77 dX6_readLayer_13 ?_
  refine h_callV (rest := []) X Y (c_need l G Mz2 A N sg nb wd hN hTk hs7 sc3 (np + 6) sn3 nn3 hPa 1 (by omega) kq6 (by omega)) gw_X6_69 dsc_X6_need hPa.1 rfl rfl rfl hl.1 rfl (Nat.le_of_ble_eq_true rfl) ⟨Nat.le_of_ble_eq_true rfl, Nat.le_of_ble_eq_true rfl⟩ ⟨Nat.le_of_ble_eq_true rfl, Nat.le_of_ble_eq_true rfl⟩ dX6_readLayer_16 ?_
  rintro _ Mz4 H locs ⟨rfl, hPa, hfa⟩ Y
  try dsimp only [Option.toList, List.nil_append, List.singleton_append]
  have hTk := hTk.fr hfa (fun j z1 z2 z3 => by omega)
  have hFz3 := hFz3.fr hfa (fun j hj => by omega)
  have hfr := hFr.tr hfr (hfa.mono (fun u z => by omega))
  refine h_new (ci := 7) X Y (t) (fs := [.null, .null, .null, .null, .null, .int 0, .int 0, .null, .int 0, .int 0, .null, .null, .null, .null]) rfl hin_X5 tyX5_ok kcl_X6_80 kinst_X5 kini_X5 (fun j hj => match j, hj with | 0, _ => rfl | 1, _ => rfl | 2, _ => rfl | 3, _ => rfl | 4, _ => rfl | 5, _ => rfl | 6, _ => rfl | 7, _ => rfl | 8, _ => rfl | 9, _ => rfl | 10, _ => rfl | 11, _ => rfl | 12, _ => rfl | 13, _ => rfl | z9 + 14, h9 => absurd h9 (by omega)) (Nat.le_of_ble_eq_true rfl) (Nat.le_of_ble_eq_true rfl) dX6_readLayer_19 (fun qz5 Mz5 H fz5 hg5 Y => ?_)
  have hPa := hPa.fr (Z := fun _ => False) (hFr.grow hFr.rf hg5) ⟨id, id, id⟩
  have hTk := hTk.fr (Z := fun _ => False) (hFr.grow hFr.rf hg5) (fun j z1 z2 z => z)
  have hfr := hFr.grow hfr hg5
  have hFz3 := FoV.grow hg5 hFz3
  have hly0 := fz5
  refine lv_dup hx hb dX6_readLayer_22 rfl ?_
  refine lv_aload_n hx hb dX6_readLayer_23 rfl (lv_at hl 0 rfl) ?_
  refine lv_aload_n hx hb dX6_readLayer_24 rfl (lv_at hl 1 rfl) ?_
  refine h_callV (rest := [.ref qf3, .ref qz5, .ref qz5]) X Y (c_readN l G Mz5 A N sg nb wd hN hTk hs7 sc3 (np + 7) sn3 nn3 hPa (t + 20) (by omega) (Or.inl kq7) (by rw [show sg (np + 7 + 1) = 5 from kq8]; decide) (by omega)) gw_X6_73 dsc_X6_readSum hPa.1 rfl rfl rfl hl.1 rfl (Nat.le_of_ble_eq_true rfl) ⟨Nat.le_of_ble_eq_true rfl, Nat.le_of_ble_eq_true rfl⟩ ⟨Nat.le_of_ble_eq_true rfl, Nat.le_of_ble_eq_true rfl⟩ dX6_readLayer_25 ?_
  rintro _ Mz6 H locs ⟨qf7, Fz7, sc7, sn7, nn7, rfl, hFz7, hLz7, hPa, hfa⟩ Y
  try dsimp only [Option.toList, List.nil_append, List.singleton_append]
  have hTk := hTk.fr hfa (fun j z1 z2 z3 => by omega)
  have hFz3 := hFz3.fr hfa (fun j hj => by omega)
  have hfr := hFr.tr hfr (hfa.mono (fun u z => by omega))
  have hly0 := hfa _ _ _ hly0 (by omega)
  refine h_callI (rest := [.ref qz5]) X Y (c_layInit l G Mz6 qz5 t qf3 qf7 hly0) (hgi0 kco_X5_init) kini_X5 kml_X6_82 kin_X5_init rfl dsc_X5_init.2 rfl hl.1 rfl (Nat.le_of_ble_eq_true rfl) ⟨Nat.le_of_ble_eq_true rfl, Nat.le_of_ble_eq_true rfl⟩ ⟨Nat.le_of_ble_eq_true rfl, Nat.le_of_ble_eq_true rfl⟩ dX6_readLayer_28 ?_
  rintro _ Mz8 H locs ⟨rfl, r2, r3, r4, r5, r6, hLy, hfa⟩ Y
  try dsimp only [Option.toList, List.nil_append]
  have hTk := hTk.fr hfa (fun j z1 z2 z3 => by omega)
  have hPa := hPa.fr hfa (by omega)
  have hFz3 := hFz3.fr hfa (fun j hj => by omega)
  have hFz7 := hFz7.fr hfa (fun j hj => by omega)
  have hfr := hFr.tr hfr (hfa.mono (fun u z => by omega))
  refine lv_astore_n (lv' := [(2, .ref qz5), (1, .ref qf3), (0, .ref (A 8))]) hx hb dX6_readLayer_31 rfl hl (by decide) rfl (fun ls hl => ?_)
  refine lv_aload_n hx hb dX6_readLayer_32 rfl (lv_at hl 2 rfl) ?_
  refine h_gets X Y (hsg_Z X.2.2.2.2.2.2.2.2.1 X.2.2.2.2.2.2.2.2.2.1 (k := 2) (by decide)) kfl_X6_85 dX6_readLayer_33 ?_
  refine h_callVr (rest := []) X Y (c_takesN l G Mz8 A N sg nb wd hN hTk hs7 sc7 (np + 8) sn7 nn7 hPa 2 (by omega) (by omega) (by omega)) rfl rfl gw_X6_51 dsc_X6_takes hPa.1 rfl rfl rfl rfl hl.1 (Nat.le_of_ble_eq_true rfl) ⟨Nat.le_of_ble_eq_true rfl, Nat.le_of_ble_eq_true rfl⟩ ⟨Nat.le_of_ble_eq_true rfl, Nat.le_of_ble_eq_true rfl⟩ dX6_readLayer_36 (fun H locs Y => ?_)
  refine lv_if_eq (tgt := 49) hx hb dX6_readLayer_39 (by decide) (fun c39 => ?_) (fun c39 => absurd (by decide) c39)
  refine lv_aload_n hx hb dX6_readLayer_49 rfl (lv_at hl 2 rfl) ?_
  refine h_gets X Y (hsg_Z X.2.2.2.2.2.2.2.2.1 X.2.2.2.2.2.2.2.2.2.1 (k := 3) (by decide)) kfl_X6_91 dX6_readLayer_50 ?_
  refine h_callVr (rest := []) X Y (c_takesN l G Mz8 A N sg nb wd hN hTk hs7 sc7 (np + 8) sn7 nn7 hPa 3 (by omega) (by omega) (by omega)) rfl rfl gw_X6_51 dsc_X6_takes hPa.1 rfl rfl rfl rfl hl.1 (Nat.le_of_ble_eq_true rfl) ⟨Nat.le_of_ble_eq_true rfl, Nat.le_of_ble_eq_true rfl⟩ ⟨Nat.le_of_ble_eq_true rfl, Nat.le_of_ble_eq_true rfl⟩ dX6_readLayer_53 (fun H locs Y => ?_)
  refine lv_if_eq (tgt := 67) hx hb dX6_readLayer_56 (by decide) (fun c56 => ?_) (fun c56 => absurd (by decide) c56)
  refine lv_aload_n hx hb dX6_readLayer_67 rfl (lv_at hl 2 rfl) ?_
  refine h_gets X Y (hsg_Z X.2.2.2.2.2.2.2.2.1 X.2.2.2.2.2.2.2.2.2.1 (k := 4) (by decide)) kfl_X6_98 dX6_readLayer_68 ?_
  refine h_callVr (rest := []) X Y (c_takesN l G Mz8 A N sg nb wd hN hTk hs7 sc7 (np + 8) sn7 nn7 hPa 4 (by omega) (by omega) (by omega)) rfl rfl gw_X6_51 dsc_X6_takes hPa.1 rfl rfl rfl rfl hl.1 (Nat.le_of_ble_eq_true rfl) ⟨Nat.le_of_ble_eq_true rfl, Nat.le_of_ble_eq_true rfl⟩ ⟨Nat.le_of_ble_eq_true rfl, Nat.le_of_ble_eq_true rfl⟩ dX6_readLayer_71 (fun H locs Y => ?_)
  refine lv_if_eq (tgt := 85) hx hb dX6_readLayer_74 (by decide) (fun c74 => ?_) (fun c74 => absurd (by decide) c74)
  refine lv_aload_n hx hb dX6_readLayer_85 rfl (lv_at hl 2 rfl) ?_
  refine h_gets X Y (hsg_Z X.2.2.2.2.2.2.2.2.1 X.2.2.2.2.2.2.2.2.2.1 (k := 5) (by decide)) kfl_X6_104 dX6_readLayer_86 ?_
  refine h_callV (rest := []) X Y (c_takesY l G Mz8 A N sg nb wd hN hTk hs7 sc7 (np + 8) sn7 nn7 hPa 5 (by omega) kq8 (by omega)) gw_X6_51 dsc_X6_takes hPa.1 rfl rfl rfl hl.1 rfl (Nat.le_of_ble_eq_true rfl) ⟨Nat.le_of_ble_eq_true rfl, Nat.le_of_ble_eq_true rfl⟩ ⟨Nat.le_of_ble_eq_true rfl, Nat.le_of_ble_eq_true rfl⟩ dX6_readLayer_89 ?_
  rintro _ Mz9 H locs ⟨rfl, hPa, hfa⟩ Y
  try dsimp only [Option.toList, List.nil_append, List.singleton_append]
  have hTk := hTk.fr hfa (fun j z1 z2 z3 => by omega)
  have hFz3 := hFz3.fr hfa (fun j hj => by omega)
  have hFz7 := hFz7.fr hfa (fun j hj => by omega)
  have hLy := hLy.fr hfa (fun j hj => by omega)
  have hfr := hFr.tr hfr (hfa.mono (fun u z => by omega))
  refine lv_if_eq (tgt := 112) hx hb dX6_readLayer_92 (by decide) (fun c92 => absurd c92 (by decide)) (fun c92 => ?_)
  refine lv_aload_n hx hb dX6_readLayer_95 rfl (lv_at hl 2 rfl) ?_
  refine h_gets X Y (hsg_Z X.2.2.2.2.2.2.2.2.1 X.2.2.2.2.2.2.2.2.2.1 (k := 34) (by decide)) kfl_X6_88 dX6_readLayer_96 ?_
  refine h_callV (rest := []) X Y (c_need l G Mz9 A N sg nb wd hN hTk hs7 sc7 (np + 9) sn7 nn7 hPa 34 (by omega) kq9 (by omega)) gw_X6_69 dsc_X6_need hPa.1 rfl rfl rfl hl.1 rfl (Nat.le_of_ble_eq_true rfl) ⟨Nat.le_of_ble_eq_true rfl, Nat.le_of_ble_eq_true rfl⟩ ⟨Nat.le_of_ble_eq_true rfl, Nat.le_of_ble_eq_true rfl⟩ dX6_readLayer_99 ?_
  rintro _ Mz10 H locs ⟨rfl, hPa, hfa⟩ Y
  try dsimp only [Option.toList, List.nil_append, List.singleton_append]
  have hTk := hTk.fr hfa (fun j z1 z2 z3 => by omega)
  have hFz3 := hFz3.fr hfa (fun j hj => by omega)
  have hFz7 := hFz7.fr hfa (fun j hj => by omega)
  have hLy := hLy.fr hfa (fun j hj => by omega)
  have hfr := hFr.tr hfr (hfa.mono (fun u z => by omega))
  refine lv_aload_n hx hb dX6_readLayer_102 rfl (lv_at hl 2 rfl) ?_
  refine h_gets X Y (hsg_Z X.2.2.2.2.2.2.2.2.1 X.2.2.2.2.2.2.2.2.2.1 (k := 6) (by decide)) kfl_X6_107 dX6_readLayer_103 ?_
  refine h_gets X Y (hsg_Z X.2.2.2.2.2.2.2.2.1 X.2.2.2.2.2.2.2.2.2.1 (k := 34) (by decide)) kfl_X6_88 dX6_readLayer_106 ?_
  refine h_callV (rest := []) X Y (c_needEach0 l G Mz10 A N sg nb wd hN hTk hs7 sc7 (np + 10) sn7 nn7 hPa 6 34 (by omega) (by omega) (by omega)) gw_X6_110 dsc_X6_needEach hPa.1 rfl rfl rfl hl.1 rfl (Nat.le_of_ble_eq_true rfl) ⟨Nat.le_of_ble_eq_true rfl, Nat.le_of_ble_eq_true rfl⟩ ⟨Nat.le_of_ble_eq_true rfl, Nat.le_of_ble_eq_true rfl⟩ dX6_readLayer_109 ?_
  rintro _ Mz11 H locs ⟨rfl, hPa, hfa⟩ Y
  try dsimp only [Option.toList, List.nil_append, List.singleton_append]
  have hTk := hTk.fr hfa (fun j z1 z2 z3 => by omega)
  have hFz3 := hFz3.fr hfa (fun j hj => by omega)
  have hFz7 := hFz7.fr hfa (fun j hj => by omega)
  have hLy := hLy.fr hfa (fun j hj => by omega)
  have hfr := hFr.tr hfr (hfa.mono (fun u z => by omega))
  refine lv_aload_n hx hb dX6_readLayer_112 rfl (lv_at hl 2 rfl) ?_
  refine h_gets X Y (hsg_Z X.2.2.2.2.2.2.2.2.1 X.2.2.2.2.2.2.2.2.2.1 (k := 7) (by decide)) kfl_X6_114 dX6_readLayer_113 ?_
  refine h_callV (rest := []) X Y (c_takesY l G Mz11 A N sg nb wd hN hTk hs7 sc7 (np + 10) sn7 nn7 hPa 7 (by omega) kq10 (by omega)) gw_X6_51 dsc_X6_takes hPa.1 rfl rfl rfl hl.1 rfl (Nat.le_of_ble_eq_true rfl) ⟨Nat.le_of_ble_eq_true rfl, Nat.le_of_ble_eq_true rfl⟩ ⟨Nat.le_of_ble_eq_true rfl, Nat.le_of_ble_eq_true rfl⟩ dX6_readLayer_116 ?_
  rintro _ Mz12 H locs ⟨rfl, hPa, hfa⟩ Y
  try dsimp only [Option.toList, List.nil_append, List.singleton_append]
  have hTk := hTk.fr hfa (fun j z1 z2 z3 => by omega)
  have hFz3 := hFz3.fr hfa (fun j hj => by omega)
  have hFz7 := hFz7.fr hfa (fun j hj => by omega)
  have hLy := hLy.fr hfa (fun j hj => by omega)
  have hfr := hFr.tr hfr (hfa.mono (fun u z => by omega))
  refine lv_if_eq (tgt := 146) hx hb dX6_readLayer_119 (by decide) (fun c119 => absurd c119 (by decide)) (fun c119 => ?_)
  refine lv_aload_n hx hb dX6_readLayer_122 rfl (lv_at hl 2 rfl) ?_
  refine h_gets X Y (hsg_Z X.2.2.2.2.2.2.2.2.1 X.2.2.2.2.2.2.2.2.2.1 (k := 8) (by decide)) kfl_X6_117 dX6_readLayer_123 ?_
  refine h_callV (rest := []) X Y (c_need l G Mz12 A N sg nb wd hN hTk hs7 sc7 (np + 11) sn7 nn7 hPa 8 (by omega) kq11 (by omega)) gw_X6_69 dsc_X6_need hPa.1 rfl rfl rfl hl.1 rfl (Nat.le_of_ble_eq_true rfl) ⟨Nat.le_of_ble_eq_true rfl, Nat.le_of_ble_eq_true rfl⟩ ⟨Nat.le_of_ble_eq_true rfl, Nat.le_of_ble_eq_true rfl⟩ dX6_readLayer_126 ?_
  rintro _ Mz13 H locs ⟨rfl, hPa, hfa⟩ Y
  try dsimp only [Option.toList, List.nil_append, List.singleton_append]
  have hTk := hTk.fr hfa (fun j z1 z2 z3 => by omega)
  have hFz3 := hFz3.fr hfa (fun j hj => by omega)
  have hFz7 := hFz7.fr hfa (fun j hj => by omega)
  have hLy := hLy.fr hfa (fun j hj => by omega)
  have hfr := hFr.tr hfr (hfa.mono (fun u z => by omega))
  refine lv_aload_n hx hb dX6_readLayer_129 rfl (lv_at hl 2 rfl) ?_
  refine h_gets X Y (hsg_Z X.2.2.2.2.2.2.2.2.1 X.2.2.2.2.2.2.2.2.2.1 (k := 33) (by decide)) kfl_X6_66 dX6_readLayer_130 ?_
  refine h_callV (rest := []) X Y (c_need l G Mz13 A N sg nb wd hN hTk hs7 sc7 (np + 12) sn7 nn7 hPa 33 (by omega) kq12 (by omega)) gw_X6_69 dsc_X6_need hPa.1 rfl rfl rfl hl.1 rfl (Nat.le_of_ble_eq_true rfl) ⟨Nat.le_of_ble_eq_true rfl, Nat.le_of_ble_eq_true rfl⟩ ⟨Nat.le_of_ble_eq_true rfl, Nat.le_of_ble_eq_true rfl⟩ dX6_readLayer_133 ?_
  rintro _ Mz14 H locs ⟨rfl, hPa, hfa⟩ Y
  try dsimp only [Option.toList, List.nil_append, List.singleton_append]
  have hTk := hTk.fr hfa (fun j z1 z2 z3 => by omega)
  have hFz3 := hFz3.fr hfa (fun j hj => by omega)
  have hFz7 := hFz7.fr hfa (fun j hj => by omega)
  have hLy := hLy.fr hfa (fun j hj => by omega)
  have hfr := hFr.tr hfr (hfa.mono (fun u z => by omega))
  refine lv_aload_n hx hb dX6_readLayer_136 rfl (lv_at hl 2 rfl) ?_
  refine h_gets X Y (hsg_Z X.2.2.2.2.2.2.2.2.1 X.2.2.2.2.2.2.2.2.2.1 (k := 23) (by decide)) kfl_X6_120 dX6_readLayer_137 ?_
  refine h_gets X Y (hsg_Z X.2.2.2.2.2.2.2.2.1 X.2.2.2.2.2.2.2.2.2.1 (k := 33) (by decide)) kfl_X6_66 dX6_readLayer_140 ?_
  refine h_callV (rest := []) X Y (c_needEach1 l G Mz14 A N sg nb wd hN hTk hs7 sc7 (np + 13) sn7 nn7 hPa 23 33 (by omega) (by omega) kq13 kq14 (by rw [show sg (np + 13 + 2) = 9 from kq15]; decide) (by omega)) gw_X6_110 dsc_X6_needEach hPa.1 rfl rfl rfl hl.1 rfl (Nat.le_of_ble_eq_true rfl) ⟨Nat.le_of_ble_eq_true rfl, Nat.le_of_ble_eq_true rfl⟩ ⟨Nat.le_of_ble_eq_true rfl, Nat.le_of_ble_eq_true rfl⟩ dX6_readLayer_143 ?_
  rintro _ Mz15 H locs ⟨rfl, hPa, hfa⟩ Y
  try dsimp only [Option.toList, List.nil_append, List.singleton_append]
  have hTk := hTk.fr hfa (fun j z1 z2 z3 => by omega)
  have hFz3 := hFz3.fr hfa (fun j hj => by omega)
  have hFz7 := hFz7.fr hfa (fun j hj => by omega)
  have hLy := hLy.fr hfa (fun j hj => by omega)
  have hfr := hFr.tr hfr (hfa.mono (fun u z => by omega))
  refine lv_aload_n hx hb dX6_readLayer_146 rfl (lv_at hl 2 rfl) ?_
  refine h_gets X Y (hsg_Z X.2.2.2.2.2.2.2.2.1 X.2.2.2.2.2.2.2.2.2.1 (k := 9) (by decide)) kfl_X6_123 dX6_readLayer_147 ?_
  refine h_callV (rest := []) X Y (c_takesY l G Mz15 A N sg nb wd hN hTk hs7 sc7 (np + 15) sn7 nn7 hPa 9 (by omega) kq15 (by omega)) gw_X6_51 dsc_X6_takes hPa.1 rfl rfl rfl hl.1 rfl (Nat.le_of_ble_eq_true rfl) ⟨Nat.le_of_ble_eq_true rfl, Nat.le_of_ble_eq_true rfl⟩ ⟨Nat.le_of_ble_eq_true rfl, Nat.le_of_ble_eq_true rfl⟩ dX6_readLayer_150 ?_
  rintro _ Mz16 H locs ⟨rfl, hPa, hfa⟩ Y
  try dsimp only [Option.toList, List.nil_append, List.singleton_append]
  have hTk := hTk.fr hfa (fun j z1 z2 z3 => by omega)
  have hFz3 := hFz3.fr hfa (fun j hj => by omega)
  have hFz7 := hFz7.fr hfa (fun j hj => by omega)
  have hLy := hLy.fr hfa (fun j hj => by omega)
  have hfr := hFr.tr hfr (hfa.mono (fun u z => by omega))
  refine lv_if_eq (tgt := 164) hx hb dX6_readLayer_153 (by decide) (fun c153 => absurd c153 (by decide)) (fun c153 => ?_)
  refine lv_aload_n hx hb dX6_readLayer_156 rfl (lv_at hl 0 rfl) ?_
  refine lv_aload_n hx hb dX6_readLayer_157 rfl (lv_at hl 2 rfl) ?_
  refine h_callV (rest := [.ref qz5]) X Y (c_readT l G Mz16 A N sg nb wd hN hTk hs7 sc7 (np + 16) sn7 nn7 hPa (t + 50) (by omega) (Or.inr (Or.inr kq16)) (Or.inr kq17) (Or.inl kq18) kq19 kq20 (Or.inr (Or.inl kq21)) (Or.inl kq22) (Or.inl kq23) kq24 (by omega)) gw_X6_126 dsc_X6_readTest hPa.1 rfl rfl rfl hl.1 rfl (Nat.le_of_ble_eq_true rfl) ⟨Nat.le_of_ble_eq_true rfl, Nat.le_of_ble_eq_true rfl⟩ ⟨Nat.le_of_ble_eq_true rfl, Nat.le_of_ble_eq_true rfl⟩ dX6_readLayer_158 ?_
  rintro _ Mz17 H locs ⟨qf18, Fz18, sc18, sn18, nn18, rfl, hFz18, hLz18, hPa, hfa⟩ Y
  try dsimp only [Option.toList, List.nil_append, List.singleton_append]
  have hTk := hTk.fr hfa (fun j z1 z2 z3 => by omega)
  have hFz3 := hFz3.fr hfa (fun j hj => by omega)
  have hFz7 := hFz7.fr hfa (fun j hj => by omega)
  have hLy := hLy.fr hfa (fun j hj => by omega)
  have hfr := hFr.tr hfr (hfa.mono (fun u z => by omega))
  refine h_putN X Y (k := 4) (v := .ref qf18) hLy.1 rfl hin_X5 tyX5_ok nmX5 (by decide) (kfn_X6_129 X.2.2.2.2.2.2.2.2.1 X.2.2.2.2.2.2.2.2.2.1) rfl rfl rfl (Nat.le_of_ble_eq_true rfl) dX6_readLayer_161 (fun H locs Y => ?_)
  have Y : hHS G (hup Mz17 qz5 (t, .inr (7, [.ref (lyA (ly0 qf3 qf7 r2 r3 r4 r5 r6) 0), .ref (lyA (ly0 qf3 qf7 r2 r3 r4 r5 r6) 1), va_rf (lyR (ly0 qf3 qf7 r2 r3 r4 r5 r6) 0), va_rf (lyR (ly0 qf3 qf7 r2 r3 r4 r5 r6) 1), .ref qf18, .int (lyI (ly0 qf3 qf7 r2 r3 r4 r5 r6) 0), .int (lyI (ly0 qf3 qf7 r2 r3 r4 r5 r6) 1), .ref (lyA (ly0 qf3 qf7 r2 r3 r4 r5 r6) 2), .int (lyI (ly0 qf3 qf7 r2 r3 r4 r5 r6) 2), .int (lyI (ly0 qf3 qf7 r2 r3 r4 r5 r6) 3), .ref (lyA (ly0 qf3 qf7 r2 r3 r4 r5 r6) 3), .ref (lyA (ly0 qf3 qf7 r2 r3 r4 r5 r6) 4), .ref (lyA (ly0 qf3 qf7 r2 r3 r4 r5 r6) 5), .ref (lyA (ly0 qf3 qf7 r2 r3 r4 r5 r6) 6)]))) s H locs := Y
  have hfa : hFr (fun u => u = t) Mz17 (hup Mz17 qz5 (t, .inr (7, lyO (lyS (ly0 qf3 qf7 r2 r3 r4 r5 r6) 2 qf18)))) := hFr.put hFr.rf hLy.1 rfl
  have hLy : LyV G (hup Mz17 qz5 (t, .inr (7, lyO (lyS (ly0 qf3 qf7 r2 r3 r4 r5 r6) 2 qf18)))) qz5 t (lyS (ly0 qf3 qf7 r2 r3 r4 r5 r6) 2 qf18) := ⟨hup_eq, hfa _ _ _ hLy.2.1 (by omega), hfa _ _ _ hLy.2.2.1 (by omega), hfa _ _ _ hLy.2.2.2.1 (by omega), hfa _ _ _ hLy.2.2.2.2.1 (by omega), hfa _ _ _ hLy.2.2.2.2.2 (by omega)⟩
  have hTk := hTk.fr hfa (fun j z1 z2 z3 => by omega)
  have hPa := hPa.fr hfa (by omega)
  have hFz3 := hFz3.fr hfa (fun j hj => by omega)
  have hFz7 := hFz7.fr hfa (fun j hj => by omega)
  have hFz18 := hFz18.fr hfa (fun j hj => by omega)
  have hfr := hFr.tr hfr (hfa.mono (fun u z => by omega))
  have Y : hHS G (hup Mz17 qz5 (t, .inr (7, lyO (lyS (ly0 qf3 qf7 r2 r3 r4 r5 r6) 2 qf18)))) s H locs := Y
  generalize hup Mz17 qz5 (t, .inr (7, lyO (lyS (ly0 qf3 qf7 r2 r3 r4 r5 r6) 2 qf18))) = Mz19 at Y hfa hLy hTk hPa hfr hFz3 hFz7 hFz18
  refine lv_aload_n hx hb dX6_readLayer_164 rfl (lv_at hl 2 rfl) ?_
  refine h_gets X Y (hsg_Z X.2.2.2.2.2.2.2.2.1 X.2.2.2.2.2.2.2.2.2.1 (k := 22) (by decide)) kfl_X6_132 dX6_readLayer_165 ?_
  refine h_callV (rest := []) X Y (c_need l G Mz19 A N sg nb wd hN hTk hs7 sc18 (np + 24) sn18 nn18 hPa 22 (by omega) kq24 (by omega)) gw_X6_69 dsc_X6_need hPa.1 rfl rfl rfl hl.1 rfl (Nat.le_of_ble_eq_true rfl) ⟨Nat.le_of_ble_eq_true rfl, Nat.le_of_ble_eq_true rfl⟩ ⟨Nat.le_of_ble_eq_true rfl, Nat.le_of_ble_eq_true rfl⟩ dX6_readLayer_168 ?_
  rintro _ Mz20 H locs ⟨rfl, hPa, hfa⟩ Y
  try dsimp only [Option.toList, List.nil_append, List.singleton_append]
  have hTk := hTk.fr hfa (fun j z1 z2 z3 => by omega)
  have hFz3 := hFz3.fr hfa (fun j hj => by omega)
  have hFz7 := hFz7.fr hfa (fun j hj => by omega)
  have hFz18 := hFz18.fr hfa (fun j hj => by omega)
  have hLy := hLy.fr hfa (fun j hj => by omega)
  have hfr := hFr.tr hfr (hfa.mono (fun u z => by omega))
  refine lv_aload_n hx hb dX6_readLayer_171 rfl (lv_at hl 0 rfl) ?_
  rw [kq1, kq3, kq5, kq4, kq2] at hLz3
  rw [kq7] at hLz7
  rw [kq16, kq18, kq17, kq21, kq23, kq22] at hLz18
  exact h_aret (v := some qz5) X Y (Or.inl ⟨_, rfl⟩) ⟨qz5, _, lyF Fz3 Fz7 default default Fz18, _, _, _, rfl, ⟨hLy, hFz3, hFz7, (fun q hq => absurd hq (by simp [lyS, ly0, lyR, va_up])), (fun q hq => absurd hq (by simp [lyS, ly0, lyR, va_up])), (fun q hq => by cases hq; exact hFz18)⟩, ⟨rfl, rfl, ⟨rfl, rfl, ⟨_, rfl⟩⟩, hLz3, hLz7, hLz18⟩, hPa, hfr⟩ (by show _ ≤ 30; omega) (by show _ ≤ 7000; omega) dX6_readLayer_172
set_option maxHeartbeats 400000 in
set_option maxRecDepth 100000 in
theorem c_readLc1 (l : Launch) (G : hG) (M : hM) (A : Nat → Nat) (N : Nat) (sg : Nat → Nat) (nb : Nat → Int32) (wd : Nat → Int64) (hN : N < 400) (hTk : TkV G M A N sg nb wd) (hs7 : ∀ i, i ≤ N → sg i < 37) (sc np : Nat) (sn : Nat → Option Nat) (nn : Nat → Int32) (hPa : PaV G M A sg sc np sn nn) (t : Nat) (ht : 2000 ≤ t) (hpat : ∀ j, j < 27 → sg (np + j) = [33, 34, 24, 34, 26, 15, 1, 34, 5, 34, 6, 34, 7, 8, 33, 23, 33, 9, 17, 32, 34, 11, 12, 15, 28, 34, 22].getD j 0) (hlt : np + 27 ≤ N) : hCT l G yX6_readLayer cX6_readLayer 3 (Option.some (FieldType.object "LossHouse$Layer")) (hRm 11 30 7000) M [.ref (A 8)] (fun v M' => ∃ q L F sc1 sn1 nn1, v = some (.ref q) ∧ LaP G M' q t L F ∧ shC nb np 12 L F ∧ PaV G M' A sg sc1 (np + 27) sn1 nn1 ∧ hFr (fun u => u = 8 ∨ u = 9 ∨ u = 10 ∨ (t ≤ u ∧ u < t + 100)) M M') := by
  refine hCT.of (own := RX6) (nm := "readLayer") (by decide) rfl rfl (Nat.le_of_ble_eq_true rfl) ?_
  intro p e s m args below meth c ls X Y hl
  have hx := X.1
  have hb := X.2.1
  have hl : lv_has ls 3 [(0, .ref (A 8))] := hl
  have hfr : hFr (fun u => u = 8 ∨ u = 9 ∨ u = 10) M M := hFr.rf
  have hs90 := hs7 (np) (by omega)
  have hs91 := hs7 (np + 1) (by omega)
  have hs92 := hs7 (np + 2) (by omega)
  have hs93 := hs7 (np + 3) (by omega)
  have hs94 := hs7 (np + 4) (by omega)
  have hs95 := hs7 (np + 5) (by omega)
  have hs96 := hs7 (np + 6) (by omega)
  have hs97 := hs7 (np + 7) (by omega)
  have hs98 := hs7 (np + 8) (by omega)
  have hs99 := hs7 (np + 9) (by omega)
  have hs910 := hs7 (np + 10) (by omega)
  have hs911 := hs7 (np + 11) (by omega)
  have hs912 := hs7 (np + 12) (by omega)
  have hs913 := hs7 (np + 13) (by omega)
  have hs914 := hs7 (np + 14) (by omega)
  have hs915 := hs7 (np + 15) (by omega)
  have hs916 := hs7 (np + 16) (by omega)
  have hs917 := hs7 (np + 17) (by omega)
  have hs918 := hs7 (np + 18) (by omega)
  have hs919 := hs7 (np + 19) (by omega)
  have hs920 := hs7 (np + 20) (by omega)
  have hs921 := hs7 (np + 21) (by omega)
  have hs922 := hs7 (np + 22) (by omega)
  have hs923 := hs7 (np + 23) (by omega)
  have hs924 := hs7 (np + 24) (by omega)
  have hs925 := hs7 (np + 25) (by omega)
  have hs926 := hs7 (np + 26) (by omega)
  have hs927 := hs7 (np + 27) (by omega)
  have kq0 : sg (np) = 33 := hpat 0 (by omega)
  have kq1 : sg (np + 1) = 34 := hpat 1 (by omega)
  have kq2 : sg (np + 2) = 24 := hpat 2 (by omega)
  have kq3 : sg (np + 3) = 34 := hpat 3 (by omega)
  have kq4 : sg (np + 4) = 26 := hpat 4 (by omega)
  have kq5 : sg (np + 5) = 15 := hpat 5 (by omega)
  have kq6 : sg (np + 6) = 1 := hpat 6 (by omega)
  have kq7 : sg (np + 7) = 34 := hpat 7 (by omega)
  have kq8 : sg (np + 8) = 5 := hpat 8 (by omega)
  have kq9 : sg (np + 9) = 34 := hpat 9 (by omega)
  have kq10 : sg (np + 10) = 6 := hpat 10 (by omega)
  have kq11 : sg (np + 11) = 34 := hpat 11 (by omega)
  have kq12 : sg (np + 12) = 7 := hpat 12 (by omega)
  have kq13 : sg (np + 13) = 8 := hpat 13 (by omega)
  have kq14 : sg (np + 14) = 33 := hpat 14 (by omega)
  have kq15 : sg (np + 15) = 23 := hpat 15 (by omega)
  have kq16 : sg (np + 16) = 33 := hpat 16 (by omega)
  have kq17 : sg (np + 17) = 9 := hpat 17 (by omega)
  have kq18 : sg (np + 18) = 17 := hpat 18 (by omega)
  have kq19 : sg (np + 19) = 32 := hpat 19 (by omega)
  have kq20 : sg (np + 20) = 34 := hpat 20 (by omega)
  have kq21 : sg (np + 21) = 11 := hpat 21 (by omega)
  have kq22 : sg (np + 22) = 12 := hpat 22 (by omega)
  have kq23 : sg (np + 23) = 15 := hpat 23 (by omega)
  have kq24 : sg (np + 24) = 28 := hpat 24 (by omega)
  have kq25 : sg (np + 25) = 34 := hpat 25 (by omega)
  have kq26 : sg (np + 26) = 22 := hpat 26 (by omega)
  have hfr : hFr (fun u => u = 8 ∨ u = 9 ∨ u = 10 ∨ (t ≤ u ∧ u < t + 100)) M M := hFr.rf
  refine lv_aload_n hx hb dX6_readLayer_0 rfl (lv_at hl 0 rfl) ?_
  refine h_gets X Y (hsg_Z X.2.2.2.2.2.2.2.2.1 X.2.2.2.2.2.2.2.2.2.1 (k := 33) (by decide)) kfl_X6_66 dX6_readLayer_1 ?_
  refine h_callV (rest := []) X Y (c_need l G M A N sg nb wd hN hTk hs7 sc np sn nn hPa 33 (by omega) kq0 (by omega)) gw_X6_69 dsc_X6_need hPa.1 rfl rfl rfl hl.1 rfl (Nat.le_of_ble_eq_true rfl) ⟨Nat.le_of_ble_eq_true rfl, Nat.le_of_ble_eq_true rfl⟩ ⟨Nat.le_of_ble_eq_true rfl, Nat.le_of_ble_eq_true rfl⟩ dX6_readLayer_4 ?_
  rintro _ Mz1 H locs ⟨rfl, hPa, hfa⟩ Y
  try dsimp only [Option.toList, List.nil_append, List.singleton_append]
  have hTk := hTk.fr hfa (fun j z1 z2 z3 => by omega)
  have hfr := hFr.tr hfr (hfa.mono (fun u z => by omega))
  refine lv_aload_n hx hb dX6_readLayer_7 rfl (lv_at hl 0 rfl) ?_
  refine h_callV (rest := []) X Y (c_readB l G Mz1 A N sg nb wd hN hTk hs7 sc (np + 1) sn nn hPa (t + 10) (by omega) (Or.inl kq1) kq2 (Or.inl kq3) kq4 (Or.inr (Or.inl kq5)) (by rw [show sg (np + 1 + 5) = 1 from kq6]; decide) (by omega)) gw_X6_73 dsc_X6_readSum hPa.1 rfl rfl rfl hl.1 rfl (Nat.le_of_ble_eq_true rfl) ⟨Nat.le_of_ble_eq_true rfl, Nat.le_of_ble_eq_true rfl⟩ ⟨Nat.le_of_ble_eq_true rfl, Nat.le_of_ble_eq_true rfl⟩ dX6_readLayer_8 ?_
  rintro _ Mz2 H locs ⟨qf3, Fz3, sc3, sn3, nn3, rfl, hFz3, hLz3, hPa, hfa⟩ Y
  try dsimp only [Option.toList, List.nil_append, List.singleton_append]
  have hTk := hTk.fr hfa (fun j z1 z2 z3 => by omega)
  have hfr := hFr.tr hfr (hfa.mono (fun u z => by omega))
  refine lv_astore_n (lv' := [(1, .ref qf3), (0, .ref (A 8))]) hx hb dX6_readLayer_11 rfl hl (by decide) rfl (fun ls hl => ?_)
  refine lv_aload_n hx hb dX6_readLayer_12 rfl (lv_at hl 1 rfl) ?_
  refine h_gets X Y (hsg_Z X.2.2.2.2.2.2.2.2.1 X.2.2.2.2.2.2.2.2.2.1 (k := 1) (by decide)) kfl_X6_77 dX6_readLayer_13 ?_
  refine h_callV (rest := []) X Y (c_need l G Mz2 A N sg nb wd hN hTk hs7 sc3 (np + 6) sn3 nn3 hPa 1 (by omega) kq6 (by omega)) gw_X6_69 dsc_X6_need hPa.1 rfl rfl rfl hl.1 rfl (Nat.le_of_ble_eq_true rfl) ⟨Nat.le_of_ble_eq_true rfl, Nat.le_of_ble_eq_true rfl⟩ ⟨Nat.le_of_ble_eq_true rfl, Nat.le_of_ble_eq_true rfl⟩ dX6_readLayer_16 ?_
  rintro _ Mz4 H locs ⟨rfl, hPa, hfa⟩ Y
  try dsimp only [Option.toList, List.nil_append, List.singleton_append]
  have hTk := hTk.fr hfa (fun j z1 z2 z3 => by omega)
  have hFz3 := hFz3.fr hfa (fun j hj => by omega)
  have hfr := hFr.tr hfr (hfa.mono (fun u z => by omega))
  refine h_new (ci := 7) X Y (t) (fs := [.null, .null, .null, .null, .null, .int 0, .int 0, .null, .int 0, .int 0, .null, .null, .null, .null]) rfl hin_X5 tyX5_ok kcl_X6_80 kinst_X5 kini_X5 (fun j hj => match j, hj with | 0, _ => rfl | 1, _ => rfl | 2, _ => rfl | 3, _ => rfl | 4, _ => rfl | 5, _ => rfl | 6, _ => rfl | 7, _ => rfl | 8, _ => rfl | 9, _ => rfl | 10, _ => rfl | 11, _ => rfl | 12, _ => rfl | 13, _ => rfl | z9 + 14, h9 => absurd h9 (by omega)) (Nat.le_of_ble_eq_true rfl) (Nat.le_of_ble_eq_true rfl) dX6_readLayer_19 (fun qz5 Mz5 H fz5 hg5 Y => ?_)
  have hPa := hPa.fr (Z := fun _ => False) (hFr.grow hFr.rf hg5) ⟨id, id, id⟩
  have hTk := hTk.fr (Z := fun _ => False) (hFr.grow hFr.rf hg5) (fun j z1 z2 z => z)
  have hfr := hFr.grow hfr hg5
  have hFz3 := FoV.grow hg5 hFz3
  have hly0 := fz5
  refine lv_dup hx hb dX6_readLayer_22 rfl ?_
  refine lv_aload_n hx hb dX6_readLayer_23 rfl (lv_at hl 0 rfl) ?_
  refine lv_aload_n hx hb dX6_readLayer_24 rfl (lv_at hl 1 rfl) ?_
  refine h_callV (rest := [.ref qf3, .ref qz5, .ref qz5]) X Y (c_readN l G Mz5 A N sg nb wd hN hTk hs7 sc3 (np + 7) sn3 nn3 hPa (t + 20) (by omega) (Or.inl kq7) (by rw [show sg (np + 7 + 1) = 5 from kq8]; decide) (by omega)) gw_X6_73 dsc_X6_readSum hPa.1 rfl rfl rfl hl.1 rfl (Nat.le_of_ble_eq_true rfl) ⟨Nat.le_of_ble_eq_true rfl, Nat.le_of_ble_eq_true rfl⟩ ⟨Nat.le_of_ble_eq_true rfl, Nat.le_of_ble_eq_true rfl⟩ dX6_readLayer_25 ?_
  rintro _ Mz6 H locs ⟨qf7, Fz7, sc7, sn7, nn7, rfl, hFz7, hLz7, hPa, hfa⟩ Y
  try dsimp only [Option.toList, List.nil_append, List.singleton_append]
  have hTk := hTk.fr hfa (fun j z1 z2 z3 => by omega)
  have hFz3 := hFz3.fr hfa (fun j hj => by omega)
  have hfr := hFr.tr hfr (hfa.mono (fun u z => by omega))
  have hly0 := hfa _ _ _ hly0 (by omega)
  refine h_callI (rest := [.ref qz5]) X Y (c_layInit l G Mz6 qz5 t qf3 qf7 hly0) (hgi0 kco_X5_init) kini_X5 kml_X6_82 kin_X5_init rfl dsc_X5_init.2 rfl hl.1 rfl (Nat.le_of_ble_eq_true rfl) ⟨Nat.le_of_ble_eq_true rfl, Nat.le_of_ble_eq_true rfl⟩ ⟨Nat.le_of_ble_eq_true rfl, Nat.le_of_ble_eq_true rfl⟩ dX6_readLayer_28 ?_
  rintro _ Mz8 H locs ⟨rfl, r2, r3, r4, r5, r6, hLy, hfa⟩ Y
  try dsimp only [Option.toList, List.nil_append]
  have hTk := hTk.fr hfa (fun j z1 z2 z3 => by omega)
  have hPa := hPa.fr hfa (by omega)
  have hFz3 := hFz3.fr hfa (fun j hj => by omega)
  have hFz7 := hFz7.fr hfa (fun j hj => by omega)
  have hfr := hFr.tr hfr (hfa.mono (fun u z => by omega))
  refine lv_astore_n (lv' := [(2, .ref qz5), (1, .ref qf3), (0, .ref (A 8))]) hx hb dX6_readLayer_31 rfl hl (by decide) rfl (fun ls hl => ?_)
  refine lv_aload_n hx hb dX6_readLayer_32 rfl (lv_at hl 2 rfl) ?_
  refine h_gets X Y (hsg_Z X.2.2.2.2.2.2.2.2.1 X.2.2.2.2.2.2.2.2.2.1 (k := 2) (by decide)) kfl_X6_85 dX6_readLayer_33 ?_
  refine h_callVr (rest := []) X Y (c_takesN l G Mz8 A N sg nb wd hN hTk hs7 sc7 (np + 8) sn7 nn7 hPa 2 (by omega) (by omega) (by omega)) rfl rfl gw_X6_51 dsc_X6_takes hPa.1 rfl rfl rfl rfl hl.1 (Nat.le_of_ble_eq_true rfl) ⟨Nat.le_of_ble_eq_true rfl, Nat.le_of_ble_eq_true rfl⟩ ⟨Nat.le_of_ble_eq_true rfl, Nat.le_of_ble_eq_true rfl⟩ dX6_readLayer_36 (fun H locs Y => ?_)
  refine lv_if_eq (tgt := 49) hx hb dX6_readLayer_39 (by decide) (fun c39 => ?_) (fun c39 => absurd (by decide) c39)
  refine lv_aload_n hx hb dX6_readLayer_49 rfl (lv_at hl 2 rfl) ?_
  refine h_gets X Y (hsg_Z X.2.2.2.2.2.2.2.2.1 X.2.2.2.2.2.2.2.2.2.1 (k := 3) (by decide)) kfl_X6_91 dX6_readLayer_50 ?_
  refine h_callVr (rest := []) X Y (c_takesN l G Mz8 A N sg nb wd hN hTk hs7 sc7 (np + 8) sn7 nn7 hPa 3 (by omega) (by omega) (by omega)) rfl rfl gw_X6_51 dsc_X6_takes hPa.1 rfl rfl rfl rfl hl.1 (Nat.le_of_ble_eq_true rfl) ⟨Nat.le_of_ble_eq_true rfl, Nat.le_of_ble_eq_true rfl⟩ ⟨Nat.le_of_ble_eq_true rfl, Nat.le_of_ble_eq_true rfl⟩ dX6_readLayer_53 (fun H locs Y => ?_)
  refine lv_if_eq (tgt := 67) hx hb dX6_readLayer_56 (by decide) (fun c56 => ?_) (fun c56 => absurd (by decide) c56)
  refine lv_aload_n hx hb dX6_readLayer_67 rfl (lv_at hl 2 rfl) ?_
  refine h_gets X Y (hsg_Z X.2.2.2.2.2.2.2.2.1 X.2.2.2.2.2.2.2.2.2.1 (k := 4) (by decide)) kfl_X6_98 dX6_readLayer_68 ?_
  refine h_callVr (rest := []) X Y (c_takesN l G Mz8 A N sg nb wd hN hTk hs7 sc7 (np + 8) sn7 nn7 hPa 4 (by omega) (by omega) (by omega)) rfl rfl gw_X6_51 dsc_X6_takes hPa.1 rfl rfl rfl rfl hl.1 (Nat.le_of_ble_eq_true rfl) ⟨Nat.le_of_ble_eq_true rfl, Nat.le_of_ble_eq_true rfl⟩ ⟨Nat.le_of_ble_eq_true rfl, Nat.le_of_ble_eq_true rfl⟩ dX6_readLayer_71 (fun H locs Y => ?_)
  refine lv_if_eq (tgt := 85) hx hb dX6_readLayer_74 (by decide) (fun c74 => ?_) (fun c74 => absurd (by decide) c74)
  refine lv_aload_n hx hb dX6_readLayer_85 rfl (lv_at hl 2 rfl) ?_
  refine h_gets X Y (hsg_Z X.2.2.2.2.2.2.2.2.1 X.2.2.2.2.2.2.2.2.2.1 (k := 5) (by decide)) kfl_X6_104 dX6_readLayer_86 ?_
  refine h_callV (rest := []) X Y (c_takesY l G Mz8 A N sg nb wd hN hTk hs7 sc7 (np + 8) sn7 nn7 hPa 5 (by omega) kq8 (by omega)) gw_X6_51 dsc_X6_takes hPa.1 rfl rfl rfl hl.1 rfl (Nat.le_of_ble_eq_true rfl) ⟨Nat.le_of_ble_eq_true rfl, Nat.le_of_ble_eq_true rfl⟩ ⟨Nat.le_of_ble_eq_true rfl, Nat.le_of_ble_eq_true rfl⟩ dX6_readLayer_89 ?_
  rintro _ Mz9 H locs ⟨rfl, hPa, hfa⟩ Y
  try dsimp only [Option.toList, List.nil_append, List.singleton_append]
  have hTk := hTk.fr hfa (fun j z1 z2 z3 => by omega)
  have hFz3 := hFz3.fr hfa (fun j hj => by omega)
  have hFz7 := hFz7.fr hfa (fun j hj => by omega)
  have hLy := hLy.fr hfa (fun j hj => by omega)
  have hfr := hFr.tr hfr (hfa.mono (fun u z => by omega))
  refine lv_if_eq (tgt := 112) hx hb dX6_readLayer_92 (by decide) (fun c92 => absurd c92 (by decide)) (fun c92 => ?_)
  refine lv_aload_n hx hb dX6_readLayer_95 rfl (lv_at hl 2 rfl) ?_
  refine h_gets X Y (hsg_Z X.2.2.2.2.2.2.2.2.1 X.2.2.2.2.2.2.2.2.2.1 (k := 34) (by decide)) kfl_X6_88 dX6_readLayer_96 ?_
  refine h_callV (rest := []) X Y (c_need l G Mz9 A N sg nb wd hN hTk hs7 sc7 (np + 9) sn7 nn7 hPa 34 (by omega) kq9 (by omega)) gw_X6_69 dsc_X6_need hPa.1 rfl rfl rfl hl.1 rfl (Nat.le_of_ble_eq_true rfl) ⟨Nat.le_of_ble_eq_true rfl, Nat.le_of_ble_eq_true rfl⟩ ⟨Nat.le_of_ble_eq_true rfl, Nat.le_of_ble_eq_true rfl⟩ dX6_readLayer_99 ?_
  rintro _ Mz10 H locs ⟨rfl, hPa, hfa⟩ Y
  try dsimp only [Option.toList, List.nil_append, List.singleton_append]
  have hTk := hTk.fr hfa (fun j z1 z2 z3 => by omega)
  have hFz3 := hFz3.fr hfa (fun j hj => by omega)
  have hFz7 := hFz7.fr hfa (fun j hj => by omega)
  have hLy := hLy.fr hfa (fun j hj => by omega)
  have hfr := hFr.tr hfr (hfa.mono (fun u z => by omega))
  refine lv_aload_n hx hb dX6_readLayer_102 rfl (lv_at hl 2 rfl) ?_
  refine h_gets X Y (hsg_Z X.2.2.2.2.2.2.2.2.1 X.2.2.2.2.2.2.2.2.2.1 (k := 6) (by decide)) kfl_X6_107 dX6_readLayer_103 ?_
  refine h_gets X Y (hsg_Z X.2.2.2.2.2.2.2.2.1 X.2.2.2.2.2.2.2.2.2.1 (k := 34) (by decide)) kfl_X6_88 dX6_readLayer_106 ?_
  refine h_callV (rest := []) X Y (c_needEach1 l G Mz10 A N sg nb wd hN hTk hs7 sc7 (np + 10) sn7 nn7 hPa 6 34 (by omega) (by omega) kq10 kq11 (by rw [show sg (np + 10 + 2) = 7 from kq12]; decide) (by omega)) gw_X6_110 dsc_X6_needEach hPa.1 rfl rfl rfl hl.1 rfl (Nat.le_of_ble_eq_true rfl) ⟨Nat.le_of_ble_eq_true rfl, Nat.le_of_ble_eq_true rfl⟩ ⟨Nat.le_of_ble_eq_true rfl, Nat.le_of_ble_eq_true rfl⟩ dX6_readLayer_109 ?_
  rintro _ Mz11 H locs ⟨rfl, hPa, hfa⟩ Y
  try dsimp only [Option.toList, List.nil_append, List.singleton_append]
  have hTk := hTk.fr hfa (fun j z1 z2 z3 => by omega)
  have hFz3 := hFz3.fr hfa (fun j hj => by omega)
  have hFz7 := hFz7.fr hfa (fun j hj => by omega)
  have hLy := hLy.fr hfa (fun j hj => by omega)
  have hfr := hFr.tr hfr (hfa.mono (fun u z => by omega))
  refine lv_aload_n hx hb dX6_readLayer_112 rfl (lv_at hl 2 rfl) ?_
  refine h_gets X Y (hsg_Z X.2.2.2.2.2.2.2.2.1 X.2.2.2.2.2.2.2.2.2.1 (k := 7) (by decide)) kfl_X6_114 dX6_readLayer_113 ?_
  refine h_callV (rest := []) X Y (c_takesY l G Mz11 A N sg nb wd hN hTk hs7 sc7 (np + 12) sn7 nn7 hPa 7 (by omega) kq12 (by omega)) gw_X6_51 dsc_X6_takes hPa.1 rfl rfl rfl hl.1 rfl (Nat.le_of_ble_eq_true rfl) ⟨Nat.le_of_ble_eq_true rfl, Nat.le_of_ble_eq_true rfl⟩ ⟨Nat.le_of_ble_eq_true rfl, Nat.le_of_ble_eq_true rfl⟩ dX6_readLayer_116 ?_
  rintro _ Mz12 H locs ⟨rfl, hPa, hfa⟩ Y
  try dsimp only [Option.toList, List.nil_append, List.singleton_append]
  have hTk := hTk.fr hfa (fun j z1 z2 z3 => by omega)
  have hFz3 := hFz3.fr hfa (fun j hj => by omega)
  have hFz7 := hFz7.fr hfa (fun j hj => by omega)
  have hLy := hLy.fr hfa (fun j hj => by omega)
  have hfr := hFr.tr hfr (hfa.mono (fun u z => by omega))
  refine lv_if_eq (tgt := 146) hx hb dX6_readLayer_119 (by decide) (fun c119 => absurd c119 (by decide)) (fun c119 => ?_)
  refine lv_aload_n hx hb dX6_readLayer_122 rfl (lv_at hl 2 rfl) ?_
  refine h_gets X Y (hsg_Z X.2.2.2.2.2.2.2.2.1 X.2.2.2.2.2.2.2.2.2.1 (k := 8) (by decide)) kfl_X6_117 dX6_readLayer_123 ?_
  refine h_callV (rest := []) X Y (c_need l G Mz12 A N sg nb wd hN hTk hs7 sc7 (np + 13) sn7 nn7 hPa 8 (by omega) kq13 (by omega)) gw_X6_69 dsc_X6_need hPa.1 rfl rfl rfl hl.1 rfl (Nat.le_of_ble_eq_true rfl) ⟨Nat.le_of_ble_eq_true rfl, Nat.le_of_ble_eq_true rfl⟩ ⟨Nat.le_of_ble_eq_true rfl, Nat.le_of_ble_eq_true rfl⟩ dX6_readLayer_126 ?_
  rintro _ Mz13 H locs ⟨rfl, hPa, hfa⟩ Y
  try dsimp only [Option.toList, List.nil_append, List.singleton_append]
  have hTk := hTk.fr hfa (fun j z1 z2 z3 => by omega)
  have hFz3 := hFz3.fr hfa (fun j hj => by omega)
  have hFz7 := hFz7.fr hfa (fun j hj => by omega)
  have hLy := hLy.fr hfa (fun j hj => by omega)
  have hfr := hFr.tr hfr (hfa.mono (fun u z => by omega))
  refine lv_aload_n hx hb dX6_readLayer_129 rfl (lv_at hl 2 rfl) ?_
  refine h_gets X Y (hsg_Z X.2.2.2.2.2.2.2.2.1 X.2.2.2.2.2.2.2.2.2.1 (k := 33) (by decide)) kfl_X6_66 dX6_readLayer_130 ?_
  refine h_callV (rest := []) X Y (c_need l G Mz13 A N sg nb wd hN hTk hs7 sc7 (np + 14) sn7 nn7 hPa 33 (by omega) kq14 (by omega)) gw_X6_69 dsc_X6_need hPa.1 rfl rfl rfl hl.1 rfl (Nat.le_of_ble_eq_true rfl) ⟨Nat.le_of_ble_eq_true rfl, Nat.le_of_ble_eq_true rfl⟩ ⟨Nat.le_of_ble_eq_true rfl, Nat.le_of_ble_eq_true rfl⟩ dX6_readLayer_133 ?_
  rintro _ Mz14 H locs ⟨rfl, hPa, hfa⟩ Y
  try dsimp only [Option.toList, List.nil_append, List.singleton_append]
  have hTk := hTk.fr hfa (fun j z1 z2 z3 => by omega)
  have hFz3 := hFz3.fr hfa (fun j hj => by omega)
  have hFz7 := hFz7.fr hfa (fun j hj => by omega)
  have hLy := hLy.fr hfa (fun j hj => by omega)
  have hfr := hFr.tr hfr (hfa.mono (fun u z => by omega))
  refine lv_aload_n hx hb dX6_readLayer_136 rfl (lv_at hl 2 rfl) ?_
  refine h_gets X Y (hsg_Z X.2.2.2.2.2.2.2.2.1 X.2.2.2.2.2.2.2.2.2.1 (k := 23) (by decide)) kfl_X6_120 dX6_readLayer_137 ?_
  refine h_gets X Y (hsg_Z X.2.2.2.2.2.2.2.2.1 X.2.2.2.2.2.2.2.2.2.1 (k := 33) (by decide)) kfl_X6_66 dX6_readLayer_140 ?_
  refine h_callV (rest := []) X Y (c_needEach1 l G Mz14 A N sg nb wd hN hTk hs7 sc7 (np + 15) sn7 nn7 hPa 23 33 (by omega) (by omega) kq15 kq16 (by rw [show sg (np + 15 + 2) = 9 from kq17]; decide) (by omega)) gw_X6_110 dsc_X6_needEach hPa.1 rfl rfl rfl hl.1 rfl (Nat.le_of_ble_eq_true rfl) ⟨Nat.le_of_ble_eq_true rfl, Nat.le_of_ble_eq_true rfl⟩ ⟨Nat.le_of_ble_eq_true rfl, Nat.le_of_ble_eq_true rfl⟩ dX6_readLayer_143 ?_
  rintro _ Mz15 H locs ⟨rfl, hPa, hfa⟩ Y
  try dsimp only [Option.toList, List.nil_append, List.singleton_append]
  have hTk := hTk.fr hfa (fun j z1 z2 z3 => by omega)
  have hFz3 := hFz3.fr hfa (fun j hj => by omega)
  have hFz7 := hFz7.fr hfa (fun j hj => by omega)
  have hLy := hLy.fr hfa (fun j hj => by omega)
  have hfr := hFr.tr hfr (hfa.mono (fun u z => by omega))
  refine lv_aload_n hx hb dX6_readLayer_146 rfl (lv_at hl 2 rfl) ?_
  refine h_gets X Y (hsg_Z X.2.2.2.2.2.2.2.2.1 X.2.2.2.2.2.2.2.2.2.1 (k := 9) (by decide)) kfl_X6_123 dX6_readLayer_147 ?_
  refine h_callV (rest := []) X Y (c_takesY l G Mz15 A N sg nb wd hN hTk hs7 sc7 (np + 17) sn7 nn7 hPa 9 (by omega) kq17 (by omega)) gw_X6_51 dsc_X6_takes hPa.1 rfl rfl rfl hl.1 rfl (Nat.le_of_ble_eq_true rfl) ⟨Nat.le_of_ble_eq_true rfl, Nat.le_of_ble_eq_true rfl⟩ ⟨Nat.le_of_ble_eq_true rfl, Nat.le_of_ble_eq_true rfl⟩ dX6_readLayer_150 ?_
  rintro _ Mz16 H locs ⟨rfl, hPa, hfa⟩ Y
  try dsimp only [Option.toList, List.nil_append, List.singleton_append]
  have hTk := hTk.fr hfa (fun j z1 z2 z3 => by omega)
  have hFz3 := hFz3.fr hfa (fun j hj => by omega)
  have hFz7 := hFz7.fr hfa (fun j hj => by omega)
  have hLy := hLy.fr hfa (fun j hj => by omega)
  have hfr := hFr.tr hfr (hfa.mono (fun u z => by omega))
  refine lv_if_eq (tgt := 164) hx hb dX6_readLayer_153 (by decide) (fun c153 => absurd c153 (by decide)) (fun c153 => ?_)
  refine lv_aload_n hx hb dX6_readLayer_156 rfl (lv_at hl 0 rfl) ?_
  refine lv_aload_n hx hb dX6_readLayer_157 rfl (lv_at hl 2 rfl) ?_
  refine h_callV (rest := [.ref qz5]) X Y (c_readT l G Mz16 A N sg nb wd hN hTk hs7 sc7 (np + 18) sn7 nn7 hPa (t + 50) (by omega) (Or.inr (Or.inr kq18)) (Or.inr kq19) (Or.inl kq20) kq21 kq22 (Or.inr (Or.inl kq23)) (Or.inl kq24) (Or.inl kq25) kq26 (by omega)) gw_X6_126 dsc_X6_readTest hPa.1 rfl rfl rfl hl.1 rfl (Nat.le_of_ble_eq_true rfl) ⟨Nat.le_of_ble_eq_true rfl, Nat.le_of_ble_eq_true rfl⟩ ⟨Nat.le_of_ble_eq_true rfl, Nat.le_of_ble_eq_true rfl⟩ dX6_readLayer_158 ?_
  rintro _ Mz17 H locs ⟨qf18, Fz18, sc18, sn18, nn18, rfl, hFz18, hLz18, hPa, hfa⟩ Y
  try dsimp only [Option.toList, List.nil_append, List.singleton_append]
  have hTk := hTk.fr hfa (fun j z1 z2 z3 => by omega)
  have hFz3 := hFz3.fr hfa (fun j hj => by omega)
  have hFz7 := hFz7.fr hfa (fun j hj => by omega)
  have hLy := hLy.fr hfa (fun j hj => by omega)
  have hfr := hFr.tr hfr (hfa.mono (fun u z => by omega))
  refine h_putN X Y (k := 4) (v := .ref qf18) hLy.1 rfl hin_X5 tyX5_ok nmX5 (by decide) (kfn_X6_129 X.2.2.2.2.2.2.2.2.1 X.2.2.2.2.2.2.2.2.2.1) rfl rfl rfl (Nat.le_of_ble_eq_true rfl) dX6_readLayer_161 (fun H locs Y => ?_)
  have Y : hHS G (hup Mz17 qz5 (t, .inr (7, [.ref (lyA (ly0 qf3 qf7 r2 r3 r4 r5 r6) 0), .ref (lyA (ly0 qf3 qf7 r2 r3 r4 r5 r6) 1), va_rf (lyR (ly0 qf3 qf7 r2 r3 r4 r5 r6) 0), va_rf (lyR (ly0 qf3 qf7 r2 r3 r4 r5 r6) 1), .ref qf18, .int (lyI (ly0 qf3 qf7 r2 r3 r4 r5 r6) 0), .int (lyI (ly0 qf3 qf7 r2 r3 r4 r5 r6) 1), .ref (lyA (ly0 qf3 qf7 r2 r3 r4 r5 r6) 2), .int (lyI (ly0 qf3 qf7 r2 r3 r4 r5 r6) 2), .int (lyI (ly0 qf3 qf7 r2 r3 r4 r5 r6) 3), .ref (lyA (ly0 qf3 qf7 r2 r3 r4 r5 r6) 3), .ref (lyA (ly0 qf3 qf7 r2 r3 r4 r5 r6) 4), .ref (lyA (ly0 qf3 qf7 r2 r3 r4 r5 r6) 5), .ref (lyA (ly0 qf3 qf7 r2 r3 r4 r5 r6) 6)]))) s H locs := Y
  have hfa : hFr (fun u => u = t) Mz17 (hup Mz17 qz5 (t, .inr (7, lyO (lyS (ly0 qf3 qf7 r2 r3 r4 r5 r6) 2 qf18)))) := hFr.put hFr.rf hLy.1 rfl
  have hLy : LyV G (hup Mz17 qz5 (t, .inr (7, lyO (lyS (ly0 qf3 qf7 r2 r3 r4 r5 r6) 2 qf18)))) qz5 t (lyS (ly0 qf3 qf7 r2 r3 r4 r5 r6) 2 qf18) := ⟨hup_eq, hfa _ _ _ hLy.2.1 (by omega), hfa _ _ _ hLy.2.2.1 (by omega), hfa _ _ _ hLy.2.2.2.1 (by omega), hfa _ _ _ hLy.2.2.2.2.1 (by omega), hfa _ _ _ hLy.2.2.2.2.2 (by omega)⟩
  have hTk := hTk.fr hfa (fun j z1 z2 z3 => by omega)
  have hPa := hPa.fr hfa (by omega)
  have hFz3 := hFz3.fr hfa (fun j hj => by omega)
  have hFz7 := hFz7.fr hfa (fun j hj => by omega)
  have hFz18 := hFz18.fr hfa (fun j hj => by omega)
  have hfr := hFr.tr hfr (hfa.mono (fun u z => by omega))
  have Y : hHS G (hup Mz17 qz5 (t, .inr (7, lyO (lyS (ly0 qf3 qf7 r2 r3 r4 r5 r6) 2 qf18)))) s H locs := Y
  generalize hup Mz17 qz5 (t, .inr (7, lyO (lyS (ly0 qf3 qf7 r2 r3 r4 r5 r6) 2 qf18))) = Mz19 at Y hfa hLy hTk hPa hfr hFz3 hFz7 hFz18
  refine lv_aload_n hx hb dX6_readLayer_164 rfl (lv_at hl 2 rfl) ?_
  refine h_gets X Y (hsg_Z X.2.2.2.2.2.2.2.2.1 X.2.2.2.2.2.2.2.2.2.1 (k := 22) (by decide)) kfl_X6_132 dX6_readLayer_165 ?_
  refine h_callV (rest := []) X Y (c_need l G Mz19 A N sg nb wd hN hTk hs7 sc18 (np + 26) sn18 nn18 hPa 22 (by omega) kq26 (by omega)) gw_X6_69 dsc_X6_need hPa.1 rfl rfl rfl hl.1 rfl (Nat.le_of_ble_eq_true rfl) ⟨Nat.le_of_ble_eq_true rfl, Nat.le_of_ble_eq_true rfl⟩ ⟨Nat.le_of_ble_eq_true rfl, Nat.le_of_ble_eq_true rfl⟩ dX6_readLayer_168 ?_
  rintro _ Mz20 H locs ⟨rfl, hPa, hfa⟩ Y
  try dsimp only [Option.toList, List.nil_append, List.singleton_append]
  have hTk := hTk.fr hfa (fun j z1 z2 z3 => by omega)
  have hFz3 := hFz3.fr hfa (fun j hj => by omega)
  have hFz7 := hFz7.fr hfa (fun j hj => by omega)
  have hFz18 := hFz18.fr hfa (fun j hj => by omega)
  have hLy := hLy.fr hfa (fun j hj => by omega)
  have hfr := hFr.tr hfr (hfa.mono (fun u z => by omega))
  refine lv_aload_n hx hb dX6_readLayer_171 rfl (lv_at hl 0 rfl) ?_
  rw [kq1, kq3, kq5, kq4, kq2] at hLz3
  rw [kq7] at hLz7
  rw [kq18, kq20, kq19, kq23, kq25, kq24] at hLz18
  exact h_aret (v := some qz5) X Y (Or.inl ⟨_, rfl⟩) ⟨qz5, _, lyF Fz3 Fz7 default default Fz18, _, _, _, rfl, ⟨hLy, hFz3, hFz7, (fun q hq => absurd hq (by simp [lyS, ly0, lyR, va_up])), (fun q hq => absurd hq (by simp [lyS, ly0, lyR, va_up])), (fun q hq => by cases hq; exact hFz18)⟩, ⟨rfl, rfl, ⟨rfl, rfl, ⟨_, rfl⟩⟩, hLz3, hLz7, hLz18⟩, hPa, hfr⟩ (by show _ ≤ 30; omega) (by show _ ≤ 7000; omega) dX6_readLayer_172
