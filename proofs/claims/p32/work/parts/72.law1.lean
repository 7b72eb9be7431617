-- THE LAW: WHAT IT ASKS OF EVERY CLAIM
theorem lg_cmp_s (x : Int64) : lg_cmp x x = 0 := by
  unfold lg_cmp
  rw [if_neg (show ¬ x > x from fun q => Int64.lt_irrefl q), if_pos rfl]
theorem sMaxL_0s (a b : Nat) (ha : a < 2 ^ 62) (hb : b < 2 ^ 62) : sMaxL 0 (lN a - lN b) = lN (a - b) := by
  unfold sMaxL
  by_cases h : b ≤ a
  · rw [lN_sub h]
    by_cases h0 : a - b = 0
    · rw [h0]; rfl
    · exact if_neg (fun q => absurd ((pk_lLT (a := a - b) (b := 0) (by omega) (by omega)).mp q) (by omega))
  · have h1 : (lN a - lN b).toInt = (a : Int) - b := by
      rw [Int64.toInt_sub, pk_lT (by omega), pk_lT (by omega)]
      exact Int.bmod_eq_of_le (by omega) (by omega)
    have h0 : (0 : Int64).toInt = 0 := by decide
    rw [if_pos (by rw [Int64.lt_iff_toInt_lt, h1, h0]; omega), show a - b = 0 by omega]
    rfl
theorem gw_L_149 : GoodIn hGW (wsV RL 149 RX11 yX11_claim (Cond.code yX11_claim cX11_claim 3 (Option.some FieldType.int) :: hGW)) := hgi4 kml_L_149 kin_X11_claim kse_X11_X11_claim_X11_claim kini_X11 kco_X11_claim
theorem dsc_X11_claim : yX11_claim.cls = RX11 ∧ yX11_claim.cls ≠ "java/lang/invoke/MethodHandle" ∧ yX11_claim.cls ≠ "java/lang/invoke/VarHandle" ∧ (parseMethodDescriptor yX11_claim.desc).map (fun d => d.parameters.length) = some 2 := ⟨rfl, by decide +kernel, by decide +kernel, by decide +kernel⟩
theorem dL_law_74 : decode cL_law 74 = .ok (.aload_n 1, 1) := by decide +kernel
theorem dL_law_75 : decode cL_law 75 = .ok (.iload 12, 2) := by decide +kernel
theorem dL_law_77 : decode cL_law 77 = .ok (.bipush 7, 2) := by decide +kernel
theorem dL_law_79 : decode cL_law 79 = .ok (.invokevirtual 149, 3) := by decide +kernel
theorem dL_law_82 : decode cL_law 82 = .ok (.istore 13, 2) := by decide +kernel
theorem dL_law_84 : decode cL_law 84 = .ok (.iload 13, 2) := by decide +kernel
theorem dL_law_86 : decode cL_law 86 = .ok (.ifCond .lt 89, 3) := by decide +kernel
theorem dL_law_89 : decode cL_law 89 = .ok (.iload 13, 2) := by decide +kernel
theorem dL_law_91 : decode cL_law 91 = .ok (.aload_n 1, 1) := by decide +kernel
theorem dL_law_92 : decode cL_law 92 = .ok (.iload 12, 2) := by decide +kernel
theorem dL_law_94 : decode cL_law 94 = .ok (.iconst 4, 1) := by decide +kernel
theorem dL_law_95 : decode cL_law 95 = .ok (.invokevirtual 149, 3) := by decide +kernel
theorem dL_law_98 : decode cL_law 98 = .ok (.if_icmp .gt 77, 3) := by decide +kernel
theorem dL_law_101 : decode cL_law 101 = .ok (.aload_n 1, 1) := by decide +kernel
theorem dL_law_102 : decode cL_law 102 = .ok (.iload 12, 2) := by decide +kernel
theorem dL_law_104 : decode cL_law 104 = .ok (.bipush 6, 2) := by decide +kernel
theorem dL_law_106 : decode cL_law 106 = .ok (.invokevirtual 149, 3) := by decide +kernel
theorem dL_law_109 : decode cL_law 109 = .ok (.ifCond .lt 66, 3) := by decide +kernel
theorem dL_law_112 : decode cL_law 112 = .ok (.aload_n 1, 1) := by decide +kernel
theorem dL_law_113 : decode cL_law 113 = .ok (.iload 12, 2) := by decide +kernel
theorem dL_law_115 : decode cL_law 115 = .ok (.bipush 6, 2) := by decide +kernel
theorem dL_law_117 : decode cL_law 117 = .ok (.invokevirtual 149, 3) := by decide +kernel
theorem dL_law_120 : decode cL_law 120 = .ok (.aload_n 1, 1) := by decide +kernel
theorem dL_law_121 : decode cL_law 121 = .ok (.iload 12, 2) := by decide +kernel
theorem dL_law_123 : decode cL_law 123 = .ok (.iconst 2, 1) := by decide +kernel
theorem dL_law_124 : decode cL_law 124 = .ok (.invokevirtual 149, 3) := by decide +kernel
theorem dL_law_127 : decode cL_law 127 = .ok (.if_icmp .gt 48, 3) := by decide +kernel
theorem dL_law_130 : decode cL_law 130 = .ok (.aload_n 1, 1) := by decide +kernel
theorem dL_law_131 : decode cL_law 131 = .ok (.iload 12, 2) := by decide +kernel
theorem dL_law_133 : decode cL_law 133 = .ok (.iconst 4, 1) := by decide +kernel
theorem dL_law_134 : decode cL_law 134 = .ok (.invokevirtual 149, 3) := by decide +kernel
theorem dL_law_137 : decode cL_law 137 = .ok (.aload_n 1, 1) := by decide +kernel
theorem dL_law_138 : decode cL_law 138 = .ok (.iload 12, 2) := by decide +kernel
theorem dL_law_140 : decode cL_law 140 = .ok (.iconst 2, 1) := by decide +kernel
theorem dL_law_141 : decode cL_law 141 = .ok (.invokevirtual 149, 3) := by decide +kernel
theorem dL_law_144 : decode cL_law 144 = .ok (.aload_n 1, 1) := by decide +kernel
theorem dL_law_145 : decode cL_law 145 = .ok (.iload 12, 2) := by decide +kernel
theorem dL_law_147 : decode cL_law 147 = .ok (.iconst 3, 1) := by decide +kernel
theorem dL_law_148 : decode cL_law 148 = .ok (.invokevirtual 149, 3) := by decide +kernel
theorem dL_law_151 : decode cL_law 151 = .ok (.iadd, 1) := by decide +kernel
theorem dL_law_152 : decode cL_law 152 = .ok (.if_icmp .ne 23, 3) := by decide +kernel
theorem dL_law_155 : decode cL_law 155 = .ok (.aload_n 1, 1) := by decide +kernel
theorem dL_law_156 : decode cL_law 156 = .ok (.iload 12, 2) := by decide +kernel
theorem dL_law_158 : decode cL_law 158 = .ok (.iconst 5, 1) := by decide +kernel
theorem dL_law_159 : decode cL_law 159 = .ok (.invokevirtual 149, 3) := by decide +kernel
theorem dL_law_162 : decode cL_law 162 = .ok (.ifCond .ne 15, 3) := by decide +kernel
theorem dL_law_165 : decode cL_law 165 = .ok (.aload_n 1, 1) := by decide +kernel
theorem dL_law_166 : decode cL_law 166 = .ok (.iload 12, 2) := by decide +kernel
theorem dL_law_168 : decode cL_law 168 = .ok (.iconst 3, 1) := by decide +kernel
theorem dL_law_169 : decode cL_law 169 = .ok (.invokevirtual 149, 3) := by decide +kernel
theorem dL_law_172 : decode cL_law 172 = .ok (.ifCond .eq 5, 3) := by decide +kernel
set_option maxHeartbeats 400000 in
set_option maxRecDepth 100000 in
theorem law_a {nm : String} (l : Launch) (G : hG) (p : Program) (e : Env) (s : State) (m : MethodId) (args : Array Value) (below : List Frame) (meth : Method) (c : Code) (M : hM) (H : Heap) (locs : List Loc) (ls : Array Slot) (cells slots : Nat) (Q : State → Prop) (hcs : cells ≤ 600086) (hss : slots ≤ 7301442) (X : hCX G p s m args meth c cL_law 18 ret RL nm) (Y : hHS G M s H locs) (S : hSy) (h : hHo) (hQv : QV G M S h) (hGC : GC S (hNow h)) (a0 : Nat) (ha0 : sA S 0 = a0) (tt bb : Nat) (sm : Int64) (al ic : Int64) (i : Nat) (hi : i < sM S) (hl : lv_has ls 18 [(0, .ref G.2.1), (1, .ref (a0)), (2, .ref tt), (3, .ref bb), (4, .int (nI (sM S))), (5, .int (nI (hNow h))), (6, .long sm), (8, .long al), (10, .long ic), (12, .int (nI i))]) (kk : ∀  (M' : hM) (H : Heap) (locs : List Loc) (ls : Array Slot), hHS G M' s H locs → QV G M' S h → lv_has ls 18 [(0, .ref G.2.1), (1, .ref (a0)), (2, .ref tt), (3, .ref bb), (4, .int (nI (sM S))), (5, .int (nI (hNow h))), (6, .long sm), (8, .long al), (10, .long ic), (12, .int (nI i)), (13, .int (nI (lfN S (-1) i)))] → W p l e room_1 s m args below meth c H locs cells slots Q (F0 m 177 ls [])) : W p l e room_1 s m args below meth c H locs cells slots Q (F0 m 74 ls []) := by
  subst ha0
  have hx := X.1
  have hb := X.2.1
  have h40 : sM S ≤ 40 := hGC.1.2.2.1
  have hn10 : hNow h < 10 := hGC.2.1
  have hN3 : sN S = 3 := hGC.1.1
  have ho0 := hQv.2.2.1.1
  obtain ⟨pp, r, hpb, hrb, e1, e2, ea1, ea2, e4, hop⟩ := (hGC.2.2 i hi).1.am
  have hl7 := (lefts_in hGC false (-1) i hi).2
  have hl6 := (lefts_in hGC true (-1) i hi).2
  rw [vn_e (by omega) ea2] at hl7
  rw [vn_e (by omega) ea1] at hl6
  have hl7 : lfN S (-1) i ≤ pp + r := hl7
  have hl6 : vn (qLeft S true i) ≤ pp := hl6
  have hyn : clY (sC S i) ≤ hNow h := (hGC.2.2 i hi).2
  refine lv_aload_n hx hb dL_law_74 rfl (lv_at hl 1 rfl) ?_
  refine lv_iload hx hb dL_law_75 (lv_at hl 9 rfl) ?_
  refine lv_bipush (v := 7) hx hb dL_law_77 (by decide) ?_
  refine h_callV (rest := []) X Y (c_claim l G M S h hQv i 7 hi (by decide)) gw_L_149 dsc_X11_claim ho0 rfl rfl rfl hl.1 rfl (Nat.le_of_ble_eq_true rfl) ⟨Nat.le_of_ble_eq_true rfl, Nat.le_of_ble_eq_true rfl⟩ ⟨(by show _ ≤ 600086; first | omega | (dsimp only [hRm]; omega)), (by show _ ≤ 7301442; first | omega | (dsimp only [hRm]; omega))⟩ dL_law_79 ?_
  rintro _ Mz1 H locs ⟨rfl, hs9⟩ Y
  have hQv := hQv.sim hs9
  have ho0 := hQv.2.2.1.1
  try dsimp only [Option.toList, List.singleton_append]
  refine h_ev (y := nI (lfN S (-1) i)) (lefts_in hGC false (-1) i hi).1 ?_
  refine lv_istore (lv' := [(13, .int (nI (lfN S (-1) i))), (0, .ref G.2.1), (1, .ref (sA S 0)), (2, .ref tt), (3, .ref bb), (4, .int (nI (sM S))), (5, .int (nI (hNow h))), (6, .long sm), (8, .long al), (10, .long ic), (12, .int (nI i))]) hx hb dL_law_82 hl (by decide) rfl (fun ls hl => ?_)
  refine lv_iload hx hb dL_law_84 (lv_at hl 0 rfl) ?_
  refine lv_if_lt (tgt := 175) hx hb dL_law_86 (by decide) (fun c86 => absurd (show (lfN S (-1) i) < 0 from (nI_ltI (a := (lfN S (-1) i)) (b := 0) (by omega) (by omega)).mp c86) (by omega)) (fun c86 => ?_)
  have c86 : ¬ (lfN S (-1) i) < 0 := fun z9 => c86 ((nI_ltI (a := (lfN S (-1) i)) (b := 0) (by omega) (by omega)).mpr z9)
  refine lv_iload hx hb dL_law_89 (lv_at hl 0 rfl) ?_
  refine lv_aload_n hx hb dL_law_91 rfl (lv_at hl 2 rfl) ?_
  refine lv_iload hx hb dL_law_92 (lv_at hl 10 rfl) ?_
  refine lv_iconst (v := 4) hx hb dL_law_94 (by decide) ?_
  refine h_callV (rest := [.int (nI (lfN S (-1) i))]) X Y (c_claim l G Mz1 S h hQv i 4 hi (by decide)) gw_L_149 dsc_X11_claim ho0 rfl rfl rfl hl.1 rfl (Nat.le_of_ble_eq_true rfl) ⟨Nat.le_of_ble_eq_true rfl, Nat.le_of_ble_eq_true rfl⟩ ⟨(by show _ ≤ 600086; first | omega | (dsimp only [hRm]; omega)), (by show _ ≤ 7301442; first | omega | (dsimp only [hRm]; omega))⟩ dL_law_95 ?_
  rintro _ Mz2 H locs ⟨rfl, hs9⟩ Y
  have hQv := hQv.sim hs9
  have ho0 := hQv.2.2.1.1
  try dsimp only [Option.toList, List.singleton_append]
  refine h_ev (y := nI (pp + r)) e4 ?_
  refine lv_icmp_gt (tgt := 175) hx hb dL_law_98 (by decide) (fun c98 => absurd (show (pp + r) < (lfN S (-1) i) from (nI_ltI (a := (pp + r)) (b := (lfN S (-1) i)) (by omega) (by omega)).mp c98) (by omega)) (fun c98 => ?_)
  have c98 : ¬ (pp + r) < (lfN S (-1) i) := fun z9 => c98 ((nI_ltI (a := (pp + r)) (b := (lfN S (-1) i)) (by omega) (by omega)).mpr z9)
  refine lv_aload_n hx hb dL_law_101 rfl (lv_at hl 2 rfl) ?_
  refine lv_iload hx hb dL_law_102 (lv_at hl 10 rfl) ?_
  refine lv_bipush (v := 6) hx hb dL_law_104 (by decide) ?_
  refine h_callV (rest := []) X Y (c_claim l G Mz2 S h hQv i 6 hi (by decide)) gw_L_149 dsc_X11_claim ho0 rfl rfl rfl hl.1 rfl (Nat.le_of_ble_eq_true rfl) ⟨Nat.le_of_ble_eq_true rfl, Nat.le_of_ble_eq_true rfl⟩ ⟨(by show _ ≤ 600086; first | omega | (dsimp only [hRm]; omega)), (by show _ ≤ 7301442; first | omega | (dsimp only [hRm]; omega))⟩ dL_law_106 ?_
  rintro _ Mz3 H locs ⟨rfl, hs9⟩ Y
  have hQv := hQv.sim hs9
  have ho0 := hQv.2.2.1.1
  try dsimp only [Option.toList, List.singleton_append]
  refine h_ev (y := nI (vn (qLeft S true i))) (lefts_in hGC true (-1) i hi).1 ?_
  refine lv_if_lt (tgt := 175) hx hb dL_law_109 (by decide) (fun c109 => absurd (show (vn (qLeft S true i)) < 0 from (nI_ltI (a := (vn (qLeft S true i))) (b := 0) (by omega) (by omega)).mp c109) (by omega)) (fun c109 => ?_)
  have c109 : ¬ (vn (qLeft S true i)) < 0 := fun z9 => c109 ((nI_ltI (a := (vn (qLeft S true i))) (b := 0) (by omega) (by omega)).mpr z9)
  refine lv_aload_n hx hb dL_law_112 rfl (lv_at hl 2 rfl) ?_
  refine lv_iload hx hb dL_law_113 (lv_at hl 10 rfl) ?_
  refine lv_bipush (v := 6) hx hb dL_law_115 (by decide) ?_
  refine h_callV (rest := []) X Y (c_claim l G Mz3 S h hQv i 6 hi (by decide)) gw_L_149 dsc_X11_claim ho0 rfl rfl rfl hl.1 rfl (Nat.le_of_ble_eq_true rfl) ⟨Nat.le_of_ble_eq_true rfl, Nat.le_of_ble_eq_true rfl⟩ ⟨(by show _ ≤ 600086; first | omega | (dsimp only [hRm]; omega)), (by show _ ≤ 7301442; first | omega | (dsimp only [hRm]; omega))⟩ dL_law_117 ?_
  rintro _ Mz4 H locs ⟨rfl, hs9⟩ Y
  have hQv := hQv.sim hs9
  have ho0 := hQv.2.2.1.1
  try dsimp only [Option.toList, List.singleton_append]
  refine h_ev (y := nI (vn (qLeft S true i))) (lefts_in hGC true (-1) i hi).1 ?_
  refine lv_aload_n hx hb dL_law_120 rfl (lv_at hl 2 rfl) ?_
  refine lv_iload hx hb dL_law_121 (lv_at hl 10 rfl) ?_
  refine lv_iconst (v := 2) hx hb dL_law_123 (by decide) ?_
  refine h_callV (rest := [.int (nI (vn (qLeft S true i)))]) X Y (c_claim l G Mz4 S h hQv i 2 hi (by decide)) gw_L_149 dsc_X11_claim ho0 rfl rfl rfl hl.1 rfl (Nat.le_of_ble_eq_true rfl) ⟨Nat.le_of_ble_eq_true rfl, Nat.le_of_ble_eq_true rfl⟩ ⟨(by show _ ≤ 600086; first | omega | (dsimp only [hRm]; omega)), (by show _ ≤ 7301442; first | omega | (dsimp only [hRm]; omega))⟩ dL_law_124 ?_
  rintro _ Mz5 H locs ⟨rfl, hs9⟩ Y
  have hQv := hQv.sim hs9
  have ho0 := hQv.2.2.1.1
  try dsimp only [Option.toList, List.singleton_append]
  refine h_ev (y := nI pp) e1 ?_
  refine lv_icmp_gt (tgt := 175) hx hb dL_law_127 (by decide) (fun c127 => absurd (show pp < (vn (qLeft S true i)) from (nI_ltI (a := pp) (b := (vn (qLeft S true i))) (by omega) (by omega)).mp c127) (by omega)) (fun c127 => ?_)
  have c127 : ¬ pp < (vn (qLeft S true i)) := fun z9 => c127 ((nI_ltI (a := pp) (b := (vn (qLeft S true i))) (by omega) (by omega)).mpr z9)
  refine lv_aload_n hx hb dL_law_130 rfl (lv_at hl 2 rfl) ?_
  refine lv_iload hx hb dL_law_131 (lv_at hl 10 rfl) ?_
  refine lv_iconst (v := 4) hx hb dL_law_133 (by decide) ?_
  refine h_callV (rest := []) X Y (c_claim l G Mz5 S h hQv i 4 hi (by decide)) gw_L_149 dsc_X11_claim ho0 rfl rfl rfl hl.1 rfl (Nat.le_of_ble_eq_true rfl) ⟨Nat.le_of_ble_eq_true rfl, Nat.le_of_ble_eq_true rfl⟩ ⟨(by show _ ≤ 600086; first | omega | (dsimp only [hRm]; omega)), (by show _ ≤ 7301442; first | omega | (dsimp only [hRm]; omega))⟩ dL_law_134 ?_
  rintro _ Mz6 H locs ⟨rfl, hs9⟩ Y
  have hQv := hQv.sim hs9
  have ho0 := hQv.2.2.1.1
  try dsimp only [Option.toList, List.singleton_append]
  refine h_ev (y := nI (pp + r)) e4 ?_
  refine lv_aload_n hx hb dL_law_137 rfl (lv_at hl 2 rfl) ?_
  refine lv_iload hx hb dL_law_138 (lv_at hl 10 rfl) ?_
  refine lv_iconst (v := 2) hx hb dL_law_140 (by decide) ?_
  refine h_callV (rest := [.int (nI (pp + r))]) X Y (c_claim l G Mz6 S h hQv i 2 hi (by decide)) gw_L_149 dsc_X11_claim ho0 rfl rfl rfl hl.1 rfl (Nat.le_of_ble_eq_true rfl) ⟨Nat.le_of_ble_eq_true rfl, Nat.le_of_ble_eq_true rfl⟩ ⟨(by show _ ≤ 600086; first | omega | (dsimp only [hRm]; omega)), (by show _ ≤ 7301442; first | omega | (dsimp only [hRm]; omega))⟩ dL_law_141 ?_
  rintro _ Mz7 H locs ⟨rfl, hs9⟩ Y
  have hQv := hQv.sim hs9
  have ho0 := hQv.2.2.1.1
  try dsimp only [Option.toList, List.singleton_append]
  refine h_ev (y := nI pp) e1 ?_
  refine lv_aload_n hx hb dL_law_144 rfl (lv_at hl 2 rfl) ?_
  refine lv_iload hx hb dL_law_145 (lv_at hl 10 rfl) ?_
  refine lv_iconst (v := 3) hx hb dL_law_147 (by decide) ?_
  refine h_callV (rest := [.int (nI pp), .int (nI (pp + r))]) X Y (c_claim l G Mz7 S h hQv i 3 hi (by decide)) gw_L_149 dsc_X11_claim ho0 rfl rfl rfl hl.1 rfl (Nat.le_of_ble_eq_true rfl) ⟨Nat.le_of_ble_eq_true rfl, Nat.le_of_ble_eq_true rfl⟩ ⟨(by show _ ≤ 600086; first | omega | (dsimp only [hRm]; omega)), (by show _ ≤ 7301442; first | omega | (dsimp only [hRm]; omega))⟩ dL_law_148 ?_
  rintro _ Mz8 H locs ⟨rfl, hs9⟩ Y
  have hQv := hQv.sim hs9
  have ho0 := hQv.2.2.1.1
  try dsimp only [Option.toList, List.singleton_append]
  refine h_ev (y := nI r) e2 ?_
  refine lv_iadd hx hb dL_law_151 ?_
  refine h_ev (y := nI (pp + r)) (nI_add pp r) ?_
  refine lv_icmp_ne (tgt := 175) hx hb dL_law_152 (by decide) (fun c152 => absurd (show ¬ (pp + r) = (pp + r) from fun z9 => c152 ((nI_eq (a := (pp + r)) (b := (pp + r)) (by omega) (by omega)).mpr z9)) (by omega)) (fun c152 => ?_)
  have c152 : (pp + r) = (pp + r) := (nI_eq (a := (pp + r)) (b := (pp + r)) (by omega) (by omega)).mp c152
  refine lv_aload_n hx hb dL_law_155 rfl (lv_at hl 2 rfl) ?_
  refine lv_iload hx hb dL_law_156 (lv_at hl 10 rfl) ?_
  refine lv_iconst (v := 5) hx hb dL_law_158 (by decide) ?_
  refine h_callV (rest := []) X Y (c_claim l G Mz8 S h hQv i 5 hi (by decide)) gw_L_149 dsc_X11_claim ho0 rfl rfl rfl hl.1 rfl (Nat.le_of_ble_eq_true rfl) ⟨Nat.le_of_ble_eq_true rfl, Nat.le_of_ble_eq_true rfl⟩ ⟨(by show _ ≤ 600086; first | omega | (dsimp only [hRm]; omega)), (by show _ ≤ 7301442; first | omega | (dsimp only [hRm]; omega))⟩ dL_law_159 ?_
  rintro _ Mz9 H locs ⟨rfl, hs9⟩ Y
  have hQv := hQv.sim hs9
  have ho0 := hQv.2.2.1.1
  try dsimp only [Option.toList, List.singleton_append]
  refine h_ev (y := clOpen (sC S i)) rfl ?_
  refine lv_if_ne (tgt := 177) hx hb dL_law_162 (by decide) (fun c162 => ?_) (fun c162 => ?_)
  · exact W.wid (by first | omega | (dsimp only [hRm]; omega) | (simp [hRm]; omega)) (by first | omega | (dsimp only [hRm]; omega) | (simp [hRm]; omega)) (kk _ _ _ _ Y hQv (lv_sub hl [1, 2, 3, 4, 5, 6, 7, 8, 9, 10, 0] rfl))
  · have hr0 : r = 0 := hop c162
    refine lv_aload_n hx hb dL_law_165 rfl (lv_at hl 2 rfl) ?_
    refine lv_iload hx hb dL_law_166 (lv_at hl 10 rfl) ?_
    refine lv_iconst (v := 3) hx hb dL_law_168 (by decide) ?_
    refine h_callV (rest := []) X Y (c_claim l G Mz9 S h hQv i 3 hi (by decide)) gw_L_149 dsc_X11_claim ho0 rfl rfl rfl hl.1 rfl (Nat.le_of_ble_eq_true rfl) ⟨Nat.le_of_ble_eq_true rfl, Nat.le_of_ble_eq_true rfl⟩ ⟨(by show _ ≤ 600086; first | omega | (dsimp only [hRm]; omega)), (by show _ ≤ 7301442; first | omega | (dsimp only [hRm]; omega))⟩ dL_law_169 ?_
    rintro _ Mz10 H locs ⟨rfl, hs9⟩ Y
    have hQv := hQv.sim hs9
    have ho0 := hQv.2.2.1.1
    try dsimp only [Option.toList, List.singleton_append]
    refine h_ev (y := nI r) e2 ?_
    refine lv_if_eq (tgt := 177) hx hb dL_law_172 (by decide) (fun c172 => ?_) (fun c172 => absurd (show ¬ r = 0 from fun z9 => c172 ((nI_eq (a := r) (b := 0) (by omega) (by omega)).mpr z9)) (by omega))
    have c172 : r = 0 := (nI_eq (a := r) (b := 0) (by omega) (by omega)).mp c172
    exact W.wid (by first | omega | (dsimp only [hRm]; omega) | (simp [hRm]; omega)) (by first | omega | (dsimp only [hRm]; omega) | (simp [hRm]; omega)) (kk _ _ _ _ Y hQv (lv_sub hl [1, 2, 3, 4, 5, 6, 7, 8, 9, 10, 0] rfl))
