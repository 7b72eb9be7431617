theorem gw_L_97 : GoodIn hGW (wsV RL 97 RX11 yX11_open (Cond.code yX11_open cX11_open 4 (Option.some FieldType.int) :: hGW)) := hgi4 kml_L_97 kin_X11_open kse_X11_X11_open_X11_open kini_X11 kco_X11_open
theorem dsc_X11_open : yX11_open.cls = RX11 ∧ yX11_open.cls ≠ "java/lang/invoke/MethodHandle" ∧ yX11_open.cls ≠ "java/lang/invoke/VarHandle" ∧ (parseMethodDescriptor yX11_open.desc).map (fun d => d.parameters.length) = some 3 := ⟨rfl, by decide +kernel, by decide +kernel, by decide +kernel⟩
theorem dL_play_120 : decode cL_play 120 = .ok (.iload 4, 2) := by decide +kernel
theorem dL_play_122 : decode cL_play 122 = .ok (.iconst 4, 1) := by decide +kernel
theorem dL_play_123 : decode cL_play 123 = .ok (.ishr, 1) := by decide +kernel
theorem dL_play_124 : decode cL_play 124 = .ok (.iload 6, 2) := by decide +kernel
theorem dL_play_126 : decode cL_play 126 = .ok (.iconst 1, 1) := by decide +kernel
theorem dL_play_127 : decode cL_play 127 = .ok (.iadd, 1) := by decide +kernel
theorem dL_play_128 : decode cL_play 128 = .ok (.invokestatic 42, 3) := by decide +kernel
theorem dL_play_131 : decode cL_play 131 = .ok (.istore 8, 2) := by decide +kernel
theorem dL_play_133 : decode cL_play 133 = .ok (.iload 4, 2) := by decide +kernel
theorem dL_play_135 : decode cL_play 135 = .ok (.bipush 6, 2) := by decide +kernel
theorem dL_play_137 : decode cL_play 137 = .ok (.ishr, 1) := by decide +kernel
theorem dL_play_138 : decode cL_play 138 = .ok (.bipush 6, 2) := by decide +kernel
theorem dL_play_140 : decode cL_play 140 = .ok (.invokestatic 42, 3) := by decide +kernel
theorem dL_play_143 : decode cL_play 143 = .ok (.istore 9, 2) := by decide +kernel
theorem dL_play_145 : decode cL_play 145 = .ok (.iload 4, 2) := by decide +kernel
theorem dL_play_147 : decode cL_play 147 = .ok (.iconst 5, 1) := by decide +kernel
theorem dL_play_148 : decode cL_play 148 = .ok (.ishr, 1) := by decide +kernel
theorem dL_play_149 : decode cL_play 149 = .ok (.ldc 96, 2) := by decide +kernel
theorem dL_play_151 : decode cL_play 151 = .ok (.invokestatic 42, 3) := by decide +kernel
theorem dL_play_154 : decode cL_play 154 = .ok (.istore 10, 2) := by decide +kernel
theorem dL_play_156 : decode cL_play 156 = .ok (.iload 5, 2) := by decide +kernel
theorem dL_play_158 : decode cL_play 158 = .ok (.bipush 40, 2) := by decide +kernel
theorem dL_play_160 : decode cL_play 160 = .ok (.if_icmp .ne 6, 3) := by decide +kernel
theorem dL_play_163 : decode cL_play 163 = .ok (.goto 484, 3) := by decide +kernel
theorem dL_play_166 : decode cL_play 166 = .ok (.aload_n 0, 1) := by decide +kernel
theorem dL_play_167 : decode cL_play 167 = .ok (.iload 8, 2) := by decide +kernel
theorem dL_play_169 : decode cL_play 169 = .ok (.iload 9, 2) := by decide +kernel
theorem dL_play_171 : decode cL_play 171 = .ok (.iload 10, 2) := by decide +kernel
theorem dL_play_173 : decode cL_play 173 = .ok (.invokevirtual 97, 3) := by decide +kernel
theorem dL_play_176 : decode cL_play 176 = .ok (.iload 5, 2) := by decide +kernel
theorem dL_play_178 : decode cL_play 178 = .ok (.if_icmp .eq 5, 3) := by decide +kernel
theorem dL_play_183 : decode cL_play 183 = .ok (.iconst 5, 1) := by decide +kernel
theorem dL_play_184 : decode cL_play 184 = .ok (.newarray .int, 2) := by decide +kernel
theorem dL_play_186 : decode cL_play 186 = .ok (.dup, 1) := by decide +kernel
theorem dL_play_187 : decode cL_play 187 = .ok (.iconst 0, 1) := by decide +kernel
theorem dL_play_188 : decode cL_play 188 = .ok (.iload 8, 2) := by decide +kernel
theorem dL_play_190 : decode cL_play 190 = .ok (.iastore, 1) := by decide +kernel
theorem dL_play_191 : decode cL_play 191 = .ok (.dup, 1) := by decide +kernel
theorem dL_play_192 : decode cL_play 192 = .ok (.iconst 1, 1) := by decide +kernel
theorem dL_play_193 : decode cL_play 193 = .ok (.iload 9, 2) := by decide +kernel
theorem dL_play_195 : decode cL_play 195 = .ok (.iastore, 1) := by decide +kernel
theorem dL_play_196 : decode cL_play 196 = .ok (.dup, 1) := by decide +kernel
theorem dL_play_197 : decode cL_play 197 = .ok (.iconst 2, 1) := by decide +kernel
theorem dL_play_198 : decode cL_play 198 = .ok (.iconst 0, 1) := by decide +kernel
theorem dL_play_199 : decode cL_play 199 = .ok (.iastore, 1) := by decide +kernel
theorem dL_play_200 : decode cL_play 200 = .ok (.dup, 1) := by decide +kernel
theorem dL_play_201 : decode cL_play 201 = .ok (.iconst 3, 1) := by decide +kernel
theorem dL_play_202 : decode cL_play 202 = .ok (.iload 10, 2) := by decide +kernel
theorem dL_play_204 : decode cL_play 204 = .ok (.iastore, 1) := by decide +kernel
theorem dL_play_205 : decode cL_play 205 = .ok (.dup, 1) := by decide +kernel
theorem dL_play_206 : decode cL_play 206 = .ok (.iconst 4, 1) := by decide +kernel
theorem dL_play_207 : decode cL_play 207 = .ok (.iconst 1, 1) := by decide +kernel
theorem dL_play_208 : decode cL_play 208 = .ok (.iastore, 1) := by decide +kernel
theorem dL_play_209 : decode cL_play 209 = .ok (.astore 11, 2) := by decide +kernel
theorem dL_play_211 : decode cL_play 211 = .ok (.aload 11, 2) := by decide +kernel
theorem dL_play_213 : decode cL_play 213 = .ok (.iconst 0, 1) := by decide +kernel
theorem dL_play_214 : decode cL_play 214 = .ok (.aload_n 2, 1) := by decide +kernel
theorem dL_play_215 : decode cL_play 215 = .ok (.iconst 5, 1) := by decide +kernel
theorem dL_play_216 : decode cL_play 216 = .ok (.iload 5, 2) := by decide +kernel
theorem dL_play_218 : decode cL_play 218 = .ok (.imul, 1) := by decide +kernel
theorem dL_play_219 : decode cL_play 219 = .ok (.iconst 5, 1) := by decide +kernel
theorem dL_play_220 : decode cL_play 220 = .ok (.invokestatic 101, 3) := by decide +kernel
theorem dL_play_223 : decode cL_play 223 = .ok (.aload_n 2, 1) := by decide +kernel
theorem dL_play_224 : decode cL_play 224 = .ok (.sipush 1000, 3) := by decide +kernel
theorem dL_play_227 : decode cL_play 227 = .ok (.dup2, 1) := by decide +kernel
theorem dL_play_228 : decode cL_play 228 = .ok (.iaload, 1) := by decide +kernel
theorem dL_play_229 : decode cL_play 229 = .ok (.iconst 1, 1) := by decide +kernel
theorem dL_play_230 : decode cL_play 230 = .ok (.iadd, 1) := by decide +kernel
theorem dL_play_231 : decode cL_play 231 = .ok (.iastore, 1) := by decide +kernel
theorem dL_play_232 : decode cL_play 232 = .ok (.goto 415, 3) := by decide +kernel
set_option maxHeartbeats 400000 in
set_option maxRecDepth 100000 in
theorem play_open (l : Launch) (G : hG) (p : Program) (e : Env) (s : State) (m : MethodId) (args : Array Value) (below : List Frame) (meth : Method) (c : Code) (M : hM) (H : Heap) (locs : List Loc) (ls : Array Slot) (cells slots : Nat) (Q : State → Prop) (hcs : cells + 5 ≤ 400) (hss : slots + 92 ≤ 8000) (X : hCX G p s m args meth c cL_play 12 (Option.some (FieldType.array FieldType.int)) RL "play") (Y : hHS G M s H locs) (S0 S : hSy) (h0 h : hHo) (b a0 i : Nat) (f : Nat → Int32) (ha0 : sA S 0 = a0) (I : PlI G M S0 h0 S h b f) (ci : Nat) (vv : Int32) (hl : lv_has ls 12 [(7, .int (nI ci)), (6, .int (nI (hNow h))), (5, .int (nI (sM S))), (4, .int vv), (3, .int (nI i)), (2, .ref b), (0, .ref (a0)), (1, .ref G.2.1)]) (kk : ∀ (M' : hM) (H : Heap) (locs : List Loc) (ls : Array Slot) (S' : hSy) (h' : hHo) (f' : Nat → Int32), hHS G M' s H locs → lv_has ls 12 [(0, .ref a0), (1, .ref G.2.1), (2, .ref b), (3, .int (nI i))] → PlI G M' S0 h0 S' h' b f' → W p l e (hRm 12 400 8000) s m args below meth c H locs (cells + 5) (slots + 92) Q (F0 m 647 ls [])) : W p l e (hRm 12 400 8000) s m args below meth c H locs cells slots Q (F0 m 120 ls []) := by
  subst ha0
  have hx := X.1
  have hb := X.2.1
  obtain ⟨hPv, hbr, ⟨hB0, hB1, hBr⟩, hCI, hSe, hhe⟩ := id I
  have h40 : sM S ≤ 40 := hPv.1.2.1.2.1
  have hn10 : hNow h < 10 := hPv.1.2.2.2.2.2.1
  have ho0 := hPv.1.2.2.1.1
  refine lv_iload hx hb dL_play_120 (lv_at hl 3 rfl) ?_
  refine lv_iconst (v := 4) hx hb dL_play_122 (by decide) ?_
  refine lv_ishr hx hb dL_play_123 ?_
  refine lv_iload hx hb dL_play_124 (lv_at hl 1 rfl) ?_
  refine lv_iconst (v := 1) hx hb dL_play_126 (by decide) ?_
  refine lv_iadd hx hb dL_play_127 ?_
  refine h_ev (y := nI ((hNow h) + 1)) (nI_1 (hNow h)) ?_
  refine h_callSr (rest := []) X Y (c_below l G M (vv >>> (4 &&& 31)) ((hNow h) + 1) (by omega)) rfl rfl gw_L_42 dsc_L_below.2 rfl rfl hl.1 (Nat.le_of_ble_eq_true rfl) ⟨Nat.le_of_ble_eq_true rfl, Nat.le_of_ble_eq_true rfl⟩ ⟨(by show _ ≤ 400; first | omega | (dsimp only [hRm]; omega)), (by show _ ≤ 8000; first | omega | (dsimp only [hRm]; omega))⟩ dL_play_128 (fun H locs Y => ?_)
  refine lv_istore (lv' := [(8, .int (nI (bel (vv >>> (4 &&& 31)) ((hNow h) + 1)))), (7, .int (nI ci)), (6, .int (nI (hNow h))), (5, .int (nI (sM S))), (4, .int vv), (3, .int (nI i)), (2, .ref b), (0, .ref (sA S 0)), (1, .ref G.2.1)]) hx hb dL_play_131 hl (by decide) rfl (fun ls hl => ?_)
  refine lv_iload hx hb dL_play_133 (lv_at hl 4 rfl) ?_
  refine lv_bipush (v := 6) hx hb dL_play_135 (by decide) ?_
  refine lv_ishr hx hb dL_play_137 ?_
  refine lv_bipush (v := 6) hx hb dL_play_138 (by decide) ?_
  refine h_callSr (rest := []) X Y (c_below l G M (vv >>> (6 &&& 31)) 6 (by omega)) rfl rfl gw_L_42 dsc_L_below.2 rfl rfl hl.1 (Nat.le_of_ble_eq_true rfl) ⟨Nat.le_of_ble_eq_true rfl, Nat.le_of_ble_eq_true rfl⟩ ⟨(by show _ ≤ 400; first | omega | (dsimp only [hRm]; omega)), (by show _ ≤ 8000; first | omega | (dsimp only [hRm]; omega))⟩ dL_play_140 (fun H locs Y => ?_)
  refine lv_istore (lv' := [(9, .int (nI (bel (vv >>> (6 &&& 31)) 6))), (8, .int (nI (bel (vv >>> (4 &&& 31)) ((hNow h) + 1)))), (7, .int (nI ci)), (6, .int (nI (hNow h))), (5, .int (nI (sM S))), (4, .int vv), (3, .int (nI i)), (2, .ref b), (0, .ref (sA S 0)), (1, .ref G.2.1)]) hx hb dL_play_143 hl (by decide) rfl (fun ls hl => ?_)
  refine lv_iload hx hb dL_play_145 (lv_at hl 5 rfl) ?_
  refine lv_iconst (v := 5) hx hb dL_play_147 (by decide) ?_
  refine lv_ishr hx hb dL_play_148 ?_
  refine lv_ldc hx hb X.2.2.2.2.1 (X.2.2.2.2.2.1 _ kcI_L_96) dL_play_149 ?_
  refine h_callSr (rest := []) X Y (c_below l G M (vv >>> (5 &&& 31)) 100000 (by omega)) rfl rfl gw_L_42 dsc_L_below.2 rfl rfl hl.1 (Nat.le_of_ble_eq_true rfl) ⟨Nat.le_of_ble_eq_true rfl, Nat.le_of_ble_eq_true rfl⟩ ⟨(by show _ ≤ 400; first | omega | (dsimp only [hRm]; omega)), (by show _ ≤ 8000; first | omega | (dsimp only [hRm]; omega))⟩ dL_play_151 (fun H locs Y => ?_)
  refine lv_istore (lv' := [(10, .int (nI (bel (vv >>> (5 &&& 31)) 100000))), (9, .int (nI (bel (vv >>> (6 &&& 31)) 6))), (8, .int (nI (bel (vv >>> (4 &&& 31)) ((hNow h) + 1)))), (7, .int (nI ci)), (6, .int (nI (hNow h))), (5, .int (nI (sM S))), (4, .int vv), (3, .int (nI i)), (2, .ref b), (0, .ref (sA S 0)), (1, .ref G.2.1)]) hx hb dL_play_154 hl (by decide) rfl (fun ls hl => ?_)
  refine lv_iload hx hb dL_play_156 (lv_at hl 5 rfl) ?_
  refine lv_bipush (v := 40) hx hb dL_play_158 (by decide) ?_
  refine lv_icmp_ne (tgt := 166) hx hb dL_play_160 (by decide) (fun c160 => ?_) (fun c160 => ?_)
  · have c160 : ¬ (sM S) = 40 := fun z9 => c160 ((nI_eq (a := (sM S)) (b := 40) (by omega) (by omega)).mpr z9)
    have hm40 : sM S < 40 := by omega
    refine lv_aload_n hx hb dL_play_166 rfl (lv_at hl 9 rfl) ?_
    refine lv_iload hx hb dL_play_167 (lv_at hl 2 rfl) ?_
    refine lv_iload hx hb dL_play_169 (lv_at hl 1 rfl) ?_
    refine lv_iload hx hb dL_play_171 (lv_at hl 0 rfl) ?_
    have hy := bel_lt (vv >>> (4 &&& 31)) (y := hNow h + 1) (by omega)
    have hx1 := bel_lt (vv >>> (6 &&& 31)) (y := 6) (by omega)
    have hx2 := bel_lt (vv >>> (5 &&& 31)) (y := 100000) (by omega)
    refine h_callV (rest := []) X Y (c_open2 l G M S h hPv (bel (vv >>> (4 &&& 31)) ((hNow h) + 1)) (nI (bel (vv >>> (6 &&& 31)) 6)) (nI (bel (vv >>> (5 &&& 31)) 100000)) (by omega) (nI_nn (by omega)) ((nI_leI (b := 5) (by omega) (by omega)).mpr (by omega)) (nI_nn (by omega)) ((nI_leI (b := 1000000) (by omega) (by omega)).mpr (by omega)) (by omega)) gw_L_97 dsc_X11_open ho0 rfl rfl rfl hl.1 rfl (Nat.le_of_ble_eq_true rfl) ⟨Nat.le_of_ble_eq_true rfl, Nat.le_of_ble_eq_true rfl⟩ ⟨(by show _ ≤ 400; first | omega | (dsimp only [hRm]; omega)), (by show _ ≤ 8000; first | omega | (dsimp only [hRm]; omega))⟩ dL_play_173 ?_
    rintro _ M2 H locs ⟨rfl, ⟨r0, r1, q9, q0, hPv2⟩, hfz⟩ Y
    try dsimp only [Option.toList, List.singleton_append]
    have hbr := hfz _ _ _ hbr (by unfold hZp; omega)
    have hfr : hFr (fun u => 4000 ≤ u) M2 M2 := hFr.rf
    refine lv_iload hx hb dL_play_176 (lv_at hl 5 rfl) ?_
    refine lv_icmp_eq (tgt := 183) hx hb dL_play_178 (by decide) (fun c178 => ?_) (fun c178 => absurd (show ¬ (sM S) = (sM S) from fun z9 => c178 ((nI_eq (a := (sM S)) (b := (sM S)) (by omega) (by omega)).mpr z9)) (by omega))
    have c178 : (sM S) = (sM S) := (nI_eq (a := (sM S)) (b := (sM S)) (by omega) (by omega)).mp c178
    refine lv_iconst (v := 5) hx hb dL_play_183 (by decide) ?_
    refine h_newI X Y (4801) (n := 5) (by decide) (by show _ ≤ 400; first | omega | (dsimp only [hRm]; omega)) (by show _ ≤ 8000; first | omega | (dsimp only [hRm]; omega)) dL_play_184 (fun qz1 Mz1 H fz1 hg1 Y => ?_)
    have hbr := hg1 _ _ hbr
    have hfr := hfr.grow hg1
    refine lv_dup hx hb dL_play_186 rfl ?_
    refine lv_iconst (v := 0) hx hb dL_play_187 (by decide) ?_
    refine lv_iload hx hb dL_play_188 (lv_at hl 2 rfl) ?_
    refine h_iast X Y (i := 0) fz1 (by omega) (by decide) dL_play_190 (fun H locs Y => ?_)
    have hbr := hup_tag (x := (4801, .inl (hT G 0, 5, .inl (upd (fun _ => 0) 0 (nI (bel (vv >>> (4 &&& 31)) ((hNow h) + 1))))))) hbr fz1 (by omega)
    have hfr := hfr.put (x := (4801, .inl (hT G 0, 5, .inl (upd (fun _ => 0) 0 (nI (bel (vv >>> (4 &&& 31)) ((hNow h) + 1))))))) fz1 (by decide)
    have fz1 : hup Mz1 qz1 (4801, .inl (hT G 0, 5, .inl (upd (fun _ => 0) 0 (nI (bel (vv >>> (4 &&& 31)) ((hNow h) + 1)))))) qz1 = some (4801, .inl (hT G 0, 5, .inl (upd (fun _ => 0) 0 (nI (bel (vv >>> (4 &&& 31)) ((hNow h) + 1)))))) := hup_eq
    generalize hup Mz1 qz1 (4801, .inl (hT G 0, 5, .inl (upd (fun _ => 0) 0 (nI (bel (vv >>> (4 &&& 31)) ((hNow h) + 1)))))) = Mz2 at Y fz1 hbr hfr
    refine lv_dup hx hb dL_play_191 rfl ?_
    refine lv_iconst (v := 1) hx hb dL_play_192 (by decide) ?_
    refine lv_iload hx hb dL_play_193 (lv_at hl 1 rfl) ?_
    refine h_iast X Y (i := 1) fz1 (by omega) (by decide) dL_play_195 (fun H locs Y => ?_)
    have hbr := hup_tag (x := (4801, .inl (hT G 0, 5, .inl (upd (upd (fun _ => 0) 0 (nI (bel (vv >>> (4 &&& 31)) ((hNow h) + 1)))) 1 (nI (bel (vv >>> (6 &&& 31)) 6)))))) hbr fz1 (by omega)
    have hfr := hfr.put (x := (4801, .inl (hT G 0, 5, .inl (upd (upd (fun _ => 0) 0 (nI (bel (vv >>> (4 &&& 31)) ((hNow h) + 1)))) 1 (nI (bel (vv >>> (6 &&& 31)) 6)))))) fz1 (by decide)
    have fz1 : hup Mz2 qz1 (4801, .inl (hT G 0, 5, .inl (upd (upd (fun _ => 0) 0 (nI (bel (vv >>> (4 &&& 31)) ((hNow h) + 1)))) 1 (nI (bel (vv >>> (6 &&& 31)) 6))))) qz1 = some (4801, .inl (hT G 0, 5, .inl (upd (upd (fun _ => 0) 0 (nI (bel (vv >>> (4 &&& 31)) ((hNow h) + 1)))) 1 (nI (bel (vv >>> (6 &&& 31)) 6))))) := hup_eq
    generalize hup Mz2 qz1 (4801, .inl (hT G 0, 5, .inl (upd (upd (fun _ => 0) 0 (nI (bel (vv >>> (4 &&& 31)) ((hNow h) + 1)))) 1 (nI (bel (vv >>> (6 &&& 31)) 6))))) = Mz3 at Y fz1 hbr hfr
    refine lv_dup hx hb dL_play_196 rfl ?_
    refine lv_iconst (v := 2) hx hb dL_play_197 (by decide) ?_
    refine lv_iconst (v := 0) hx hb dL_play_198 (by decide) ?_
    refine h_iast X Y (i := 2) fz1 (by omega) (by decide) dL_play_199 (fun H locs Y => ?_)
    have hbr := hup_tag (x := (4801, .inl (hT G 0, 5, .inl (upd (upd (upd (fun _ => 0) 0 (nI (bel (vv >>> (4 &&& 31)) ((hNow h) + 1)))) 1 (nI (bel (vv >>> (6 &&& 31)) 6))) 2 0)))) hbr fz1 (by omega)
    have hfr := hfr.put (x := (4801, .inl (hT G 0, 5, .inl (upd (upd (upd (fun _ => 0) 0 (nI (bel (vv >>> (4 &&& 31)) ((hNow h) + 1)))) 1 (nI (bel (vv >>> (6 &&& 31)) 6))) 2 0)))) fz1 (by decide)
    have fz1 : hup Mz3 qz1 (4801, .inl (hT G 0, 5, .inl (upd (upd (upd (fun _ => 0) 0 (nI (bel (vv >>> (4 &&& 31)) ((hNow h) + 1)))) 1 (nI (bel (vv >>> (6 &&& 31)) 6))) 2 0))) qz1 = some (4801, .inl (hT G 0, 5, .inl (upd (upd (upd (fun _ => 0) 0 (nI (bel (vv >>> (4 &&& 31)) ((hNow h) + 1)))) 1 (nI (bel (vv >>> (6 &&& 31)) 6))) 2 0))) := hup_eq
    generalize hup Mz3 qz1 (4801, .inl (hT G 0, 5, .inl (upd (upd (upd (fun _ => 0) 0 (nI (bel (vv >>> (4 &&& 31)) ((hNow h) + 1)))) 1 (nI (bel (vv >>> (6 &&& 31)) 6))) 2 0))) = Mz4 at Y fz1 hbr hfr
    refine lv_dup hx hb dL_play_200 rfl ?_
    refine lv_iconst (v := 3) hx hb dL_play_201 (by decide) ?_
    refine lv_iload hx hb dL_play_202 (lv_at hl 0 rfl) ?_
    refine h_iast X Y (i := 3) fz1 (by omega) (by decide) dL_play_204 (fun H locs Y => ?_)
    have hbr := hup_tag (x := (4801, .inl (hT G 0, 5, .inl (upd (upd (upd (upd (fun _ => 0) 0 (nI (bel (vv >>> (4 &&& 31)) ((hNow h) + 1)))) 1 (nI (bel (vv >>> (6 &&& 31)) 6))) 2 0) 3 (nI (bel (vv >>> (5 &&& 31)) 100000)))))) hbr fz1 (by omega)
    have hfr := hfr.put (x := (4801, .inl (hT G 0, 5, .inl (upd (upd (upd (upd (fun _ => 0) 0 (nI (bel (vv >>> (4 &&& 31)) ((hNow h) + 1)))) 1 (nI (bel (vv >>> (6 &&& 31)) 6))) 2 0) 3 (nI (bel (vv >>> (5 &&& 31)) 100000)))))) fz1 (by decide)
    have fz1 : hup Mz4 qz1 (4801, .inl (hT G 0, 5, .inl (upd (upd (upd (upd (fun _ => 0) 0 (nI (bel (vv >>> (4 &&& 31)) ((hNow h) + 1)))) 1 (nI (bel (vv >>> (6 &&& 31)) 6))) 2 0) 3 (nI (bel (vv >>> (5 &&& 31)) 100000))))) qz1 = some (4801, .inl (hT G 0, 5, .inl (upd (upd (upd (upd (fun _ => 0) 0 (nI (bel (vv >>> (4 &&& 31)) ((hNow h) + 1)))) 1 (nI (bel (vv >>> (6 &&& 31)) 6))) 2 0) 3 (nI (bel (vv >>> (5 &&& 31)) 100000))))) := hup_eq
    generalize hup Mz4 qz1 (4801, .inl (hT G 0, 5, .inl (upd (upd (upd (upd (fun _ => 0) 0 (nI (bel (vv >>> (4 &&& 31)) ((hNow h) + 1)))) 1 (nI (bel (vv >>> (6 &&& 31)) 6))) 2 0) 3 (nI (bel (vv >>> (5 &&& 31)) 100000))))) = Mz5 at Y fz1 hbr hfr
    refine lv_dup hx hb dL_play_205 rfl ?_
    refine lv_iconst (v := 4) hx hb dL_play_206 (by decide) ?_
    refine lv_iconst (v := 1) hx hb dL_play_207 (by decide) ?_
    refine h_iast X Y (i := 4) fz1 (by omega) (by decide) dL_play_208 (fun H locs Y => ?_)
    have hbr := hup_tag (x := (4801, .inl (hT G 0, 5, .inl (upd (upd (upd (upd (upd (fun _ => 0) 0 (nI (bel (vv >>> (4 &&& 31)) ((hNow h) + 1)))) 1 (nI (bel (vv >>> (6 &&& 31)) 6))) 2 0) 3 (nI (bel (vv >>> (5 &&& 31)) 100000))) 4 1)))) hbr fz1 (by omega)
    have hfr := hfr.put (x := (4801, .inl (hT G 0, 5, .inl (upd (upd (upd (upd (upd (fun _ => 0) 0 (nI (bel (vv >>> (4 &&& 31)) ((hNow h) + 1)))) 1 (nI (bel (vv >>> (6 &&& 31)) 6))) 2 0) 3 (nI (bel (vv >>> (5 &&& 31)) 100000))) 4 1)))) fz1 (by decide)
    have fz1 : hup Mz5 qz1 (4801, .inl (hT G 0, 5, .inl (upd (upd (upd (upd (upd (fun _ => 0) 0 (nI (bel (vv >>> (4 &&& 31)) ((hNow h) + 1)))) 1 (nI (bel (vv >>> (6 &&& 31)) 6))) 2 0) 3 (nI (bel (vv >>> (5 &&& 31)) 100000))) 4 1))) qz1 = some (4801, .inl (hT G 0, 5, .inl (upd (upd (upd (upd (upd (fun _ => 0) 0 (nI (bel (vv >>> (4 &&& 31)) ((hNow h) + 1)))) 1 (nI (bel (vv >>> (6 &&& 31)) 6))) 2 0) 3 (nI (bel (vv >>> (5 &&& 31)) 100000))) 4 1))) := hup_eq
    generalize hup Mz5 qz1 (4801, .inl (hT G 0, 5, .inl (upd (upd (upd (upd (upd (fun _ => 0) 0 (nI (bel (vv >>> (4 &&& 31)) ((hNow h) + 1)))) 1 (nI (bel (vv >>> (6 &&& 31)) 6))) 2 0) 3 (nI (bel (vv >>> (5 &&& 31)) 100000))) 4 1))) = Mz6 at Y fz1 hbr hfr
    refine lv_astore (lv' := [(11, .ref qz1), (10, .int (nI (bel (vv >>> (5 &&& 31)) 100000))), (9, .int (nI (bel (vv >>> (6 &&& 31)) 6))), (8, .int (nI (bel (vv >>> (4 &&& 31)) ((hNow h) + 1)))), (7, .int (nI ci)), (6, .int (nI (hNow h))), (5, .int (nI (sM S))), (4, .int vv), (3, .int (nI i)), (2, .ref b), (0, .ref (sA S 0)), (1, .ref G.2.1)]) hx hb dL_play_209 hl (by decide) rfl (fun ls hl => ?_)
    refine lv_aload hx hb dL_play_211 (lv_at hl 0 rfl) ?_
    refine lv_iconst (v := 0) hx hb dL_play_213 (by decide) ?_
    refine lv_aload_n hx hb dL_play_214 rfl (lv_at hl 9 rfl) ?_
    refine lv_iconst (v := 5) hx hb dL_play_215 (by decide) ?_
    refine lv_iload hx hb dL_play_216 (lv_at hl 6 rfl) ?_
    refine lv_imul hx hb dL_play_218 ?_
    refine h_ev (y := nI (5 * sM S)) (pk_mul 5 (sM S)) ?_
    refine lv_iconst (v := 5) hx hb dL_play_219 (by decide) ?_
    refine h_cpb (k := 5) (dp := 5 * sM S) (t0 := 0) X Y hl.1 fz1 hbr rfl rfl (by omega) (by omega) (by omega) (by omega) (fun _ _ => rfl) kml_L_101 (Nat.le_of_ble_eq_true rfl) (Nat.le_of_ble_eq_true rfl) dL_play_220 (fun H locs Y => ?_)
    have hfr := hfr.put (x := (4800, .inl (hT G 0, 1002, .inl (va_cpy (upd (upd (upd (upd (upd (fun _ => 0) 0 (nI (bel (vv >>> (4 &&& 31)) ((hNow h) + 1)))) 1 (nI (bel (vv >>> (6 &&& 31)) 6))) 2 0) 3 (nI (bel (vv >>> (5 &&& 31)) 100000))) 4 1) f 0 (5 * sM S) 5)))) hbr (by decide)
    have hbr : hup Mz6 b (4800, .inl (hT G 0, 1002, .inl (va_cpy (upd (upd (upd (upd (upd (fun _ => 0) 0 (nI (bel (vv >>> (4 &&& 31)) ((hNow h) + 1)))) 1 (nI (bel (vv >>> (6 &&& 31)) 6))) 2 0) 3 (nI (bel (vv >>> (5 &&& 31)) 100000))) 4 1) f 0 (5 * sM S) 5))) b = some (4800, .inl (hT G 0, 1002, .inl (va_cpy (upd (upd (upd (upd (upd (fun _ => 0) 0 (nI (bel (vv >>> (4 &&& 31)) ((hNow h) + 1)))) 1 (nI (bel (vv >>> (6 &&& 31)) 6))) 2 0) 3 (nI (bel (vv >>> (5 &&& 31)) 100000))) 4 1) f 0 (5 * sM S) 5))) := hup_eq
    generalize hup Mz6 b (4800, .inl (hT G 0, 1002, .inl (va_cpy (upd (upd (upd (upd (upd (fun _ => 0) 0 (nI (bel (vv >>> (4 &&& 31)) ((hNow h) + 1)))) 1 (nI (bel (vv >>> (6 &&& 31)) 6))) 2 0) 3 (nI (bel (vv >>> (5 &&& 31)) 100000))) 4 1) f 0 (5 * sM S) 5))) = Mz7 at Y hfr hbr
    obtain ⟨fc, hfc⟩ : ∃ fc, fc = va_cpy (upd (upd (upd (upd (upd (fun _ => 0) 0 (nI (bel (vv >>> (4 &&& 31)) ((hNow h) + 1)))) 1 (nI (bel (vv >>> (6 &&& 31)) 6))) 2 0) 3 (nI (bel (vv >>> (5 &&& 31)) 100000))) 4 1) f 0 (5 * sM S) 5 := ⟨_, rfl⟩
    rw [← hfc] at hbr
    refine lv_aload_n hx hb dL_play_223 rfl (lv_at hl 9 rfl) ?_
    refine lv_sipush (v := 1000) hx hb dL_play_224 (by decide) ?_
    refine lv_dup2_11 hx hb dL_play_227 rfl rfl ?_
    refine h_iald X Y (i := 1000) hbr (by omega) (by decide) dL_play_228 ?_
    refine h_ev (y := nI (sM S)) (show fc 1000 = nI (sM S) from by rw [hfc]; exact (if_neg (by omega)).trans hB0) ?_
    refine lv_iconst (v := 1) hx hb dL_play_229 (by decide) ?_
    refine lv_iadd hx hb dL_play_230 ?_
    refine h_ev (y := nI ((sM S) + 1)) (nI_1 (sM S)) ?_
    refine h_iast X Y (i := 1000) hbr (by omega) (by decide) dL_play_231 (fun H locs Y => ?_)
    have hfr := hfr.put (x := (4800, .inl (hT G 0, 1002, .inl (upd fc 1000 (nI ((sM S) + 1)))))) hbr (by decide)
    have hbr : hup Mz7 b (4800, .inl (hT G 0, 1002, .inl (upd fc 1000 (nI ((sM S) + 1))))) b = some (4800, .inl (hT G 0, 1002, .inl (upd fc 1000 (nI ((sM S) + 1))))) := hup_eq
    generalize hup Mz7 b (4800, .inl (hT G 0, 1002, .inl (upd fc 1000 (nI ((sM S) + 1))))) = Mz8 at Y hbr hfr
    refine lv_goto (tgt := 647) hx hb dL_play_232 (by decide) ?_
    exact W.wid (by first | omega | (dsimp only [hRm]; omega) | (simp [hRm]; omega)) (by first | omega | (dsimp only [hRm]; omega) | (simp [hRm]; omega)) (kk _ _ _ _ _ _ _ Y (lv_sub hl [10, 11, 9, 8] rfl) (PlI.add (Cn := cNew r0 r1 (bel (vv >>> (4 &&& 31)) ((hNow h) + 1)) (nI (bel (vv >>> (6 &&& 31)) 6)) (nI (bel (vv >>> (5 &&& 31)) 100000))) (A' := aAdd S q9 q0) I hm40 (by unfold aAdd; rw [if_neg (by omega), if_neg (by omega)]) (PV.fr9 hfr (fun u z => z) hPv2) hbr (fun j hj => by rw [pk_un (by omega), hfc]; exact if_neg (by omega)) pk_us (by rw [pk_un (by omega), hfc]; exact (if_pos (by omega)).trans (by rw [show 0 + (5 * sM S - 5 * sM S) = 0 by omega]; rfl)) (by rw [pk_un (by omega), hfc]; exact (if_pos (by omega)).trans (by rw [show 0 + (5 * sM S + 2 - 5 * sM S) = 2 by omega]; rfl)) (by rw [pk_un (by omega), hfc]; exact (if_pos (by omega)).trans (by rw [show 0 + (5 * sM S + 3 - 5 * sM S) = 3 by omega]; rfl)) (by rw [pk_un (by omega), hfc]; exact (if_pos (by omega)).trans (by rw [show 0 + (5 * sM S + 4 - 5 * sM S) = 4 by omega]; rfl)) (CI.new (by omega) (by omega))))
  · have c160 : (sM S) = 40 := (nI_eq (a := (sM S)) (b := 40) (by omega) (by omega)).mp c160
    refine lv_goto (tgt := 647) hx hb dL_play_163 (by decide) ?_
    exact W.wid (by first | omega | (dsimp only [hRm]; omega) | (simp [hRm]; omega)) (by first | omega | (dsimp only [hRm]; omega) | (simp [hRm]; omega)) (kk _ _ _ _ _ _ _ Y (lv_sub hl [9, 10, 8, 7] rfl) I)
