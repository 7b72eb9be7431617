-- STRINGS AND THEIR BUILDERS
theorem t_fb : ∀ b, b < 128 → fits .byte (.int (nI b)) = true := by decide +kernel
theorem t_nb : ∀ b, b < 128 → vp_nar .byte (nI b) = nI b := by decide +kernel
theorem t_maxN (a b : Nat) (ha : a < 2147483648) (hb : b < 2147483648) : sMax (nI a) (nI b) = nI (max a b) := by
  unfold sMax
  by_cases h : a < b
  · rw [if_pos ((nI_ltI ha hb).mpr h), Nat.max_eq_right (by omega)]
  · rw [if_neg (fun z => h ((nI_ltI ha hb).mp z)), Nat.max_eq_left (by omega)]
theorem cpy_fit {f g : Nat → Int32} {off L : Nat} (hf : ∀ i, i < L → fits .byte (.int (f i)) = true) (hg : sb_Fit g) : sb_Fit (va_cpy f g 0 off L) := fun j => by
  unfold va_cpy
  by_cases hj : off ≤ j ∧ j < off + L
  · rw [if_pos hj]; exact hf _ (by omega)
  · rw [if_neg hj]; exact hg j
/-- a string of the map -/
def StM (G : hG) (M : hM) (q L : Nat) (W : Nat → Nat) : Prop := ∃ (t va : Nat) (x3 x4 : Int32) (f : Nat → Int32), M q = some (t, .inr (0, [.ref va, .int 0, .int x3, .int x4])) ∧ M va = some (t + 1, .inl (hT G 1, L, .inl f)) ∧ ∀ i, i < L → f i = nI (W i) ∧ W i < 128
def StV (G : hG) (M : hM) (q L : Nat) (W : Nat → Nat) : Prop := sS G q L W ∨ StM G M q L W
theorem StV.lt {G : hG} {M : hM} {q L : Nat} {W : Nat → Nat} (h : StV G M q L W) : ∀ i, i < L → W i < 128 := by
  rcases h with h | ⟨t, va, x3, x4, f, h0, h1, h2⟩
  · exact h.2.2.2
  · exact fun i hi => (h2 i hi).2
theorem StV.recv {G : hG} {p : Program} {s : State} {m : MethodId} {args : Array Value} {meth : Method} {c : Code} {cc : ByteArray} {maxL : Nat} {ret : Option FieldType} {own nm : String} {M : hM} {q L : Nat} {W : Nat → Nat} {H : Heap} {locs : List Loc} (X : hCX G p s m args meth c cc maxL ret own nm) (Y : hHS G M s H locs) (h : StV G M q L W) : ∃ cellB : Cell, H[q]? = some cellB ∧ cellB.vm.isStatics = false ∧ s.vm.findClass RJ0 = some cellB.cls := by
  rcases h with h | ⟨t, va, x3, x4, f, h0, h1, h2⟩
  · exact h_recvO Y (hO_at X.2.2.2.2.2.2.2.2.2.1 h.1)
  · exact h_recv X Y h0 (r := (RJ0, TJ0, 4)) rfl
theorem StV.fr {G : hG} {Z : Nat → Prop} {M M' : hM} {q L : Nat} {W : Nat → Nat} (h : hFr Z M M') (hz : ∀ (t : Nat) (e : va_E), M q = some (t, e) → ¬ Z t ∧ ¬ Z (t + 1)) (hV : StV G M q L W) : StV G M' q L W := by
  rcases hV with hV | ⟨t, va, x3, x4, f, h0, h1, h2⟩
  · exact Or.inl hV
  · exact Or.inr ⟨t, va, x3, x4, f, h _ _ _ h0 (hz t _ h0).1, h _ _ _ h1 (hz t _ h0).2, h2⟩
/-- a builder that holds n letters -/
def SbV (G : hG) (M : hM) (a t n cap : Nat) (T : Nat → Nat) : Prop := ∃ (va : Nat) (f : Nat → Int32), M a = some (t, .inr (1, [.ref va, .int 0, .int 0, .int (nI n)])) ∧ M va = some (t + 1, .inl (hT G 1, cap, .inl f)) ∧ n ≤ cap ∧ cap ≤ 1300 ∧ sb_Fit f ∧ ∀ i, i < n → f i = nI (T i) ∧ T i < 128
theorem SbV.fr {G : hG} {Z : Nat → Prop} {M M' : hM} {a t n cap : Nat} {T : Nat → Nat} (h : hFr Z M M') (hz : ¬ Z t ∧ ¬ Z (t + 1)) (hV : SbV G M a t n cap T) : SbV G M' a t n cap T := by
  obtain ⟨va, f, h0, h1, h2⟩ := hV
  exact ⟨va, f, h _ _ _ h0 hz.1, h _ _ _ h1 hz.2, h2⟩
theorem SbV.obj {G : hG} {M : hM} {a t n cap : Nat} {T : Nat → Nat} (hV : SbV G M a t n cap T) : ∃ fs, M a = some (t, .inr (1, fs)) := by
  obtain ⟨va, f, h0, -⟩ := hV
  exact ⟨_, h0⟩
theorem ksu_J4 : Cond.superclass RJ4 RJ5 ∈ hGW := hgw 1308 (by decide +kernel) (by decide +kernel)
set_option maxHeartbeats 400000 in
set_option maxRecDepth 100000 in
theorem c_coderM (l : Launch) (G : hG) (M : hM) (q0 L0 : Nat) (W0 : Nat → Nat) (hq : StM G M q0 L0 W0) : hCT l G yJ0_coder_7d493 cJ0_coder_7d493 1 (Option.some FieldType.byte) (hRm 1 0 0) M [.ref q0] (hRd M (.int 0)) := by
  refine hCT.of (own := RJ0) (nm := "coder") (by decide) rfl rfl (Nat.le_of_ble_eq_true rfl) ?_
  intro p e s m args below meth c ls X Y hl
  have hx := X.1
  have hb := X.2.1
  have hl : lv_has ls 1 [(0, .ref q0)] := hl
  obtain ⟨t, va, x3, x4, f, h0, h1, h2⟩ := hq
  refine h_gets X Y (hCS_Z X.2.2.2.2.2.2.2.2.1 X.2.2.2.2.2.2.2.2.2.1) kfl_J0_38 dJ0_coder_7d493_0 ?_
  refine lv_if_eq (tgt := 13) hx hb dJ0_coder_7d493_3 (by decide) (fun c3 => absurd c3 (by decide)) (fun c3 => ?_)
  refine lv_aload_n hx hb dJ0_coder_7d493_6 rfl (lv_at hl 0 rfl) ?_
  refine h_get X Y (k := 1) (v := .int 0) h0 rfl hin_J0 (by decide) kfl_J0_15 rfl dJ0_coder_7d493_7 ?_
  refine lv_goto (tgt := 14) hx hb dJ0_coder_7d493_10 (by decide) ?_
  exact h_zret X Y rfl ⟨rfl, rfl⟩ (Nat.le_refl _) (Nat.le_refl _) dJ0_coder_7d493_14
set_option maxHeartbeats 400000 in
set_option maxRecDepth 100000 in
theorem c_lenM (l : Launch) (G : hG) (M : hM) (q0 L0 : Nat) (W0 : Nat → Nat) (hq : StM G M q0 L0 W0) (hL : L0 < 1000) : hCT l G yJ0_length_8abf5 cJ0_length_8abf5 1 (Option.some FieldType.int) (hRm 2 0 0) M [.ref q0] (hRd M (.int (nI L0))) := by
  refine hCT.of (own := RJ0) (nm := "length") (by decide) rfl rfl (Nat.le_of_ble_eq_true rfl) ?_
  intro p e s m args below meth c ls X Y hl
  have hx := X.1
  have hb := X.2.1
  have hl : lv_has ls 1 [(0, .ref q0)] := hl
  have hqm := hq
  obtain ⟨t, va, x3, x4, f, h0, h1, h2⟩ := hq
  refine lv_aload_n hx hb dJ0_length_8abf5_0 rfl (lv_at hl 0 rfl) ?_
  refine h_get X Y (k := 0) (v := .ref va) h0 rfl hin_J0 (by decide) kfl_J0_9 rfl dJ0_length_8abf5_1 ?_
  refine h_alen X Y 1 h1 rfl dJ0_length_8abf5_4 ?_
  refine lv_aload_n hx hb dJ0_length_8abf5_5 rfl (lv_at hl 0 rfl) ?_
  refine h_callVr (rest := [.int (nI L0)]) X Y (c_coderM l G M q0 L0 W0 hqm) rfl rfl gw_J0_335 dsc_J0_coder_7d493 h0 rfl rfl rfl rfl hl.1 (Nat.le_of_ble_eq_true rfl) ⟨Nat.le_of_ble_eq_true rfl, Nat.le_of_ble_eq_true rfl⟩ ⟨Nat.le_of_ble_eq_true rfl, Nat.le_of_ble_eq_true rfl⟩ dJ0_length_8abf5_6 (fun H locs Y => ?_)
  refine lv_ishr hx hb dJ0_length_8abf5_9 ?_
  refine h_ev (y := nI L0) (sb_shr0 _) ?_
  exact h_iret X Y ⟨rfl, rfl⟩ (Nat.le_refl _) (Nat.le_refl _) dJ0_length_8abf5_10
theorem c_coder2 (l : Launch) (G : hG) (M : hM) (q0 L0 : Nat) (W0 : Nat → Nat) (hq : StV G M q0 L0 W0) : hCT l G yJ0_coder_7d493 cJ0_coder_7d493 1 (some FieldType.byte) (hRm 1 0 0) M [.ref q0] (hRd M (.int 0)) := by
  rcases hq with hq | hq
  · exact c_coder l G M q0 L0 W0 hq
  · exact c_coderM l G M q0 L0 W0 hq
theorem c_len2 (l : Launch) (G : hG) (M : hM) (q0 L0 : Nat) (W0 : Nat → Nat) (hq : StV G M q0 L0 W0) (hL : L0 < 1000) : hCT l G yJ0_length_8abf5 cJ0_length_8abf5 1 (some FieldType.int) (hRm 2 0 0) M [.ref q0] (hRd M (.int (nI L0))) := by
  rcases hq with hq | hq
  · exact c_strLen l G M q0 L0 W0 hq hL
  · exact c_lenM l G M q0 L0 W0 hq hL
set_option maxHeartbeats 400000 in
set_option maxRecDepth 100000 in
theorem c_newLen2 (l : Launch) (G : hG) (M : hM) (n g k : Nat) (hn : n < 100000) (hg : g < 100000) (hk : k < 100000) (hk1 : 1 ≤ k) : hCT l G yJ8_newLength_cabcc cJ8_newLength_cabcc 4 (Option.some FieldType.int) (hRm 2 0 0) M [.int (nI n), .int (nI g), .int (nI k)] (hRd M (.int (nI (n + max g k)))) := by
  refine hCT.of (own := RJ8) (nm := "newLength") (by decide) rfl rfl (Nat.le_of_ble_eq_true rfl) ?_
  intro p e s m args below meth c ls X Y hl
  have hx := X.1
  have hb := X.2.1
  have hl : lv_has ls 4 [(0, .int (nI n)), (1, .int (nI g)), (2, .int (nI k))] := hl
  refine lv_iload_n hx hb dJ8_newLength_cabcc_0 rfl (lv_at hl 0 rfl) ?_
  refine lv_iload_n hx hb dJ8_newLength_cabcc_1 rfl (lv_at hl 1 rfl) ?_
  refine lv_iload_n hx hb dJ8_newLength_cabcc_2 rfl (lv_at hl 2 rfl) ?_
  refine h_mmax X kml_J8_194 hl.1 (Nat.le_of_ble_eq_true rfl) (Nat.le_of_ble_eq_true rfl) ⟨Nat.le_of_ble_eq_true rfl, Nat.le_of_ble_eq_true rfl⟩ dJ8_newLength_cabcc_3 ?_
  refine h_ev (y := nI (max g k)) (t_maxN g k (by omega) (by omega)) ?_
  refine lv_iadd hx hb dJ8_newLength_cabcc_6 ?_
  refine h_ev (y := nI (n + (max g k))) (nI_add n (max g k)) ?_
  refine lv_istore_n (lv' := [(3, .int (nI (n + (max g k)))), (0, .int (nI n)), (1, .int (nI g)), (2, .int (nI k))]) hx hb dJ8_newLength_cabcc_7 rfl hl (by decide) rfl (fun ls hl => ?_)
  refine lv_iconst (v := 0) hx hb dJ8_newLength_cabcc_8 (by decide) ?_
  refine lv_iload_n hx hb dJ8_newLength_cabcc_9 rfl (lv_at hl 0 rfl) ?_
  refine lv_icmp_ge (tgt := 21) hx hb dJ8_newLength_cabcc_10 (by decide) (fun c10 => absurd (show (n + (max g k)) ≤ 0 from (nI_leI (a := (n + (max g k))) (b := 0) (by omega) (by omega)).mp c10) (by omega)) (fun c10 => ?_)
  have c10 : ¬ (n + (max g k)) ≤ 0 := fun z9 => c10 ((nI_leI (a := (n + (max g k))) (b := 0) (by omega) (by omega)).mpr z9)
  refine lv_iload_n hx hb dJ8_newLength_cabcc_13 rfl (lv_at hl 0 rfl) ?_
  refine lv_ldc hx hb X.2.2.2.2.1 (X.2.2.2.2.2.1 _ kcI_J8_200) dJ8_newLength_cabcc_14 ?_
  refine lv_icmp_gt (tgt := 21) hx hb dJ8_newLength_cabcc_16 (by decide) (fun c16 => absurd (show 2147483639 < (n + (max g k)) from (nI_ltI (a := 2147483639) (b := (n + (max g k))) (by omega) (by omega)).mp c16) (by omega)) (fun c16 => ?_)
  have c16 : ¬ 2147483639 < (n + (max g k)) := fun z9 => c16 ((nI_ltI (a := 2147483639) (b := (n + (max g k))) (by omega) (by omega)).mpr z9)
  refine lv_iload_n hx hb dJ8_newLength_cabcc_19 rfl (lv_at hl 0 rfl) ?_
  exact h_iret X Y ⟨rfl, rfl⟩ (Nat.le_refl _) (Nat.le_refl _) dJ8_newLength_cabcc_20
theorem dJ7_copyOf_9075b_0 : decode cJ7_copyOf_9075b 0 = .ok (.iload_n 1, 1) := by decide +kernel
theorem dJ7_copyOf_9075b_1 : decode cJ7_copyOf_9075b 1 = .ok (.aload_n 0, 1) := by decide +kernel
theorem dJ7_copyOf_9075b_2 : decode cJ7_copyOf_9075b 2 = .ok (.arraylength, 1) := by decide +kernel
theorem dJ7_copyOf_9075b_3 : decode cJ7_copyOf_9075b 3 = .ok (.if_icmp .ne 11, 3) := by decide +kernel
theorem dJ7_copyOf_9075b_14 : decode cJ7_copyOf_9075b 14 = .ok (.iload_n 1, 1) := by decide +kernel
theorem dJ7_copyOf_9075b_15 : decode cJ7_copyOf_9075b 15 = .ok (.newarray .byte, 2) := by decide +kernel
theorem dJ7_copyOf_9075b_17 : decode cJ7_copyOf_9075b 17 = .ok (.astore_n 2, 1) := by decide +kernel
theorem dJ7_copyOf_9075b_18 : decode cJ7_copyOf_9075b 18 = .ok (.aload_n 0, 1) := by decide +kernel
theorem dJ7_copyOf_9075b_19 : decode cJ7_copyOf_9075b 19 = .ok (.iconst 0, 1) := by decide +kernel
theorem dJ7_copyOf_9075b_20 : decode cJ7_copyOf_9075b 20 = .ok (.aload_n 2, 1) := by decide +kernel
theorem dJ7_copyOf_9075b_21 : decode cJ7_copyOf_9075b 21 = .ok (.iconst 0, 1) := by decide +kernel
theorem dJ7_copyOf_9075b_22 : decode cJ7_copyOf_9075b 22 = .ok (.aload_n 0, 1) := by decide +kernel
theorem dJ7_copyOf_9075b_23 : decode cJ7_copyOf_9075b 23 = .ok (.arraylength, 1) := by decide +kernel
theorem dJ7_copyOf_9075b_24 : decode cJ7_copyOf_9075b 24 = .ok (.iload_n 1, 1) := by decide +kernel
theorem dJ7_copyOf_9075b_25 : decode cJ7_copyOf_9075b 25 = .ok (.invokestatic 304, 3) := by decide +kernel
theorem dJ7_copyOf_9075b_28 : decode cJ7_copyOf_9075b 28 = .ok (.invokestatic 150, 3) := by decide +kernel
theorem dJ7_copyOf_9075b_31 : decode cJ7_copyOf_9075b 31 = .ok (.aload_n 2, 1) := by decide +kernel
theorem dJ7_copyOf_9075b_32 : decode cJ7_copyOf_9075b 32 = .ok (.areturn, 1) := by decide +kernel
set_option maxHeartbeats 400000 in
set_option maxRecDepth 100000 in
theorem c_copyOfB (l : Launch) (G : hG) (M : hM) (a0 u n0 mm te : Nat) (f : Nat → Int32) (h0 : M a0 = some (u, .inl (hT G 1, n0, .inl f))) (hm : n0 < mm) (hmm : mm ≤ 1300) (hft : sb_Fit f) : hCT l G yJ7_copyOf_9075b cJ7_copyOf_9075b 3 (Option.some (FieldType.array FieldType.byte)) (hRm 2 1 1300) M [.ref a0, .int (nI mm)] (fun v M' => ∃ q g, v = some (.ref q) ∧ M' q = some (te, .inl (hT G 1, mm, .inl g)) ∧ sb_Fit g ∧ (∀ i, i < n0 → g i = f i) ∧ hFr (fun u => u = te) M M') := by
  refine hCT.of (own := RJ7) (nm := "copyOf") (by decide) rfl rfl (Nat.le_of_ble_eq_true rfl) ?_
  intro p e s m args below meth c ls X Y hl
  have hx := X.1
  have hb := X.2.1
  have hl : lv_has ls 3 [(0, .ref a0), (1, .int (nI mm))] := hl
  refine lv_iload_n hx hb dJ7_copyOf_9075b_0 rfl (lv_at hl 1 rfl) ?_
  refine lv_aload_n hx hb dJ7_copyOf_9075b_1 rfl (lv_at hl 0 rfl) ?_
  refine h_alen X Y 1 h0 rfl dJ7_copyOf_9075b_2 ?_
  refine lv_icmp_ne (tgt := 14) hx hb dJ7_copyOf_9075b_3 (by decide) (fun c3 => ?_) (fun c3 => absurd (show mm = n0 from (nI_eq (a := mm) (b := n0) (by omega) (by omega)).mp c3) (by omega))
  have c3 : ¬ mm = n0 := fun z9 => c3 ((nI_eq (a := mm) (b := n0) (by omega) (by omega)).mpr z9)
  refine lv_iload_n hx hb dJ7_copyOf_9075b_14 rfl (lv_at hl 1 rfl) ?_
  refine h_newB X Y (te) (n := mm) (by omega) (Nat.le_of_ble_eq_true rfl) (by show _ ≤ 1300; omega) dJ7_copyOf_9075b_15 (fun qz1 Mz1 H fz1 hg1 Y => ?_)
  have hfr : hFr (fun u => u = te) M Mz1 := hFr.grow hFr.rf hg1
  have h0 := hg1 _ _ h0
  have hg99 := hg1
  refine lv_astore_n (lv' := [(2, .ref qz1), (0, .ref a0), (1, .int (nI mm))]) hx hb dJ7_copyOf_9075b_17 rfl hl (by decide) rfl (fun ls hl => ?_)
  refine lv_aload_n hx hb dJ7_copyOf_9075b_18 rfl (lv_at hl 1 rfl) ?_
  refine lv_iconst (v := 0) hx hb dJ7_copyOf_9075b_19 (by decide) ?_
  refine lv_aload_n hx hb dJ7_copyOf_9075b_20 rfl (lv_at hl 0 rfl) ?_
  refine lv_iconst (v := 0) hx hb dJ7_copyOf_9075b_21 (by decide) ?_
  refine lv_aload_n hx hb dJ7_copyOf_9075b_22 rfl (lv_at hl 1 rfl) ?_
  refine h_alen X Y 1 h0 rfl dJ7_copyOf_9075b_23 ?_
  refine lv_iload_n hx hb dJ7_copyOf_9075b_24 rfl (lv_at hl 2 rfl) ?_
  refine h_mmin X kml_J7_304 hl.1 (Nat.le_of_ble_eq_true rfl) (Nat.le_of_ble_eq_true rfl) ⟨(by show _ ≤ 1; omega), (by show _ ≤ 1300; omega)⟩ dJ7_copyOf_9075b_25 ?_
  refine h_ev (y := nI n0) (t_min n0 mm (by omega) (by omega)) ?_
  refine h_cpb (k := n0) (dp := 0) (t0 := 1) X Y hl.1 h0 fz1 rfl rfl (Nat.le_refl _) (by omega) (by omega) (by omega) (fun i hi => hft i) kml_J7_150 (Nat.le_of_ble_eq_true rfl) (Nat.le_of_ble_eq_true rfl) dJ7_copyOf_9075b_28 (fun H locs Y => ?_)
  have hfr := hfr.put (x := (te, .inl (hT G 1, mm, .inl (va_cpy f (fun _ => 0) 0 0 n0)))) fz1 rfl
  have hq9 : hup Mz1 qz1 (te, .inl (hT G 1, mm, .inl (va_cpy f (fun _ => 0) 0 0 n0))) qz1 = some (te, .inl (hT G 1, mm, .inl (va_cpy f (fun _ => 0) 0 0 n0))) := hup_eq
  refine lv_aload_n hx hb dJ7_copyOf_9075b_31 rfl (lv_at hl 0 rfl) ?_
  exact h_aret (v := some qz1) X Y (Or.inr ⟨_, rfl⟩) ⟨qz1, _, rfl, hq9, sb_fitC hft sb_fit0, fun i hi => sb_cpy0 hi, hfr⟩ (by show _ ≤ 1; omega) (by show _ ≤ 1300; omega) dJ7_copyOf_9075b_32
theorem gw_J5_114 : GoodIn hGW (va_wsS RJ5 114 yJ8_newLength_cabcc (Cond.code yJ8_newLength_cabcc cJ8_newLength_cabcc 4 (Option.some FieldType.int) :: hGW)) := hgi3 kml_J5_114 kst_J8_newLength_cabcc kini_J8 kco_J8_newLength_cabcc
theorem dJ5_newCapacity_0f7a4_0 : decode cJ5_newCapacity_0f7a4 0 = .ok (.aload_n 0, 1) := by decide +kernel
theorem dJ5_newCapacity_0f7a4_1 : decode cJ5_newCapacity_0f7a4 1 = .ok (.getfield 15, 3) := by decide +kernel
theorem dJ5_newCapacity_0f7a4_4 : decode cJ5_newCapacity_0f7a4 4 = .ok (.arraylength, 1) := by decide +kernel
theorem dJ5_newCapacity_0f7a4_5 : decode cJ5_newCapacity_0f7a4 5 = .ok (.istore_n 2, 1) := by decide +kernel
theorem dJ5_newCapacity_0f7a4_6 : decode cJ5_newCapacity_0f7a4 6 = .ok (.iload_n 1, 1) := by decide +kernel
theorem dJ5_newCapacity_0f7a4_7 : decode cJ5_newCapacity_0f7a4 7 = .ok (.aload_n 0, 1) := by decide +kernel
theorem dJ5_newCapacity_0f7a4_8 : decode cJ5_newCapacity_0f7a4 8 = .ok (.getfield 22, 3) := by decide +kernel
theorem dJ5_newCapacity_0f7a4_11 : decode cJ5_newCapacity_0f7a4 11 = .ok (.ishl, 1) := by decide +kernel
theorem dJ5_newCapacity_0f7a4_12 : decode cJ5_newCapacity_0f7a4 12 = .ok (.istore_n 3, 1) := by decide +kernel
theorem dJ5_newCapacity_0f7a4_13 : decode cJ5_newCapacity_0f7a4 13 = .ok (.iload_n 3, 1) := by decide +kernel
theorem dJ5_newCapacity_0f7a4_14 : decode cJ5_newCapacity_0f7a4 14 = .ok (.iload_n 2, 1) := by decide +kernel
theorem dJ5_newCapacity_0f7a4_15 : decode cJ5_newCapacity_0f7a4 15 = .ok (.isub, 1) := by decide +kernel
theorem dJ5_newCapacity_0f7a4_16 : decode cJ5_newCapacity_0f7a4 16 = .ok (.istore 4, 2) := by decide +kernel
theorem dJ5_newCapacity_0f7a4_18 : decode cJ5_newCapacity_0f7a4 18 = .ok (.iload_n 2, 1) := by decide +kernel
theorem dJ5_newCapacity_0f7a4_19 : decode cJ5_newCapacity_0f7a4 19 = .ok (.iload 4, 2) := by decide +kernel
theorem dJ5_newCapacity_0f7a4_21 : decode cJ5_newCapacity_0f7a4 21 = .ok (.iload_n 2, 1) := by decide +kernel
theorem dJ5_newCapacity_0f7a4_22 : decode cJ5_newCapacity_0f7a4 22 = .ok (.iconst 2, 1) := by decide +kernel
theorem dJ5_newCapacity_0f7a4_23 : decode cJ5_newCapacity_0f7a4 23 = .ok (.aload_n 0, 1) := by decide +kernel
theorem dJ5_newCapacity_0f7a4_24 : decode cJ5_newCapacity_0f7a4 24 = .ok (.getfield 22, 3) := by decide +kernel
theorem dJ5_newCapacity_0f7a4_27 : decode cJ5_newCapacity_0f7a4 27 = .ok (.ishl, 1) := by decide +kernel
theorem dJ5_newCapacity_0f7a4_28 : decode cJ5_newCapacity_0f7a4 28 = .ok (.iadd, 1) := by decide +kernel
theorem dJ5_newCapacity_0f7a4_29 : decode cJ5_newCapacity_0f7a4 29 = .ok (.invokestatic 114, 3) := by decide +kernel
theorem dJ5_newCapacity_0f7a4_32 : decode cJ5_newCapacity_0f7a4 32 = .ok (.istore 5, 2) := by decide +kernel
theorem dJ5_newCapacity_0f7a4_34 : decode cJ5_newCapacity_0f7a4 34 = .ok (.iload 5, 2) := by decide +kernel
theorem dJ5_newCapacity_0f7a4_36 : decode cJ5_newCapacity_0f7a4 36 = .ok (.ldc 39, 2) := by decide +kernel
theorem dJ5_newCapacity_0f7a4_38 : decode cJ5_newCapacity_0f7a4 38 = .ok (.if_icmp .ne 13, 3) := by decide +kernel
theorem dJ5_newCapacity_0f7a4_51 : decode cJ5_newCapacity_0f7a4 51 = .ok (.iload 5, 2) := by decide +kernel
theorem dJ5_newCapacity_0f7a4_53 : decode cJ5_newCapacity_0f7a4 53 = .ok (.aload_n 0, 1) := by decide +kernel
theorem dJ5_newCapacity_0f7a4_54 : decode cJ5_newCapacity_0f7a4 54 = .ok (.getfield 22, 3) := by decide +kernel
theorem dJ5_newCapacity_0f7a4_57 : decode cJ5_newCapacity_0f7a4 57 = .ok (.ishr, 1) := by decide +kernel
theorem dJ5_newCapacity_0f7a4_58 : decode cJ5_newCapacity_0f7a4 58 = .ok (.ireturn, 1) := by decide +kernel
set_option maxHeartbeats 400000 in
set_option maxRecDepth 100000 in
theorem c_newCap (l : Launch) (G : hG) (M : hM) (a t n cap : Nat) (T : Nat → Nat) (hV : SbV G M a t n cap T) (qm : Nat) (hqm : cap < qm) (hqm2 : qm ≤ 600) : hCT l G yJ5_newCapacity_0f7a4 cJ5_newCapacity_0f7a4 6 (Option.some FieldType.int) (hRm 3 0 0) M [.ref a, .int (nI qm)] (hRd M (.int (nI (cap + max (qm - cap) (cap + 2))))) := by
  refine hCT.of (own := RJ5) (nm := "newCapacity") (by decide) rfl rfl (Nat.le_of_ble_eq_true rfl) ?_
  intro p e s m args below meth c ls X Y hl
  have hx := X.1
  have hb := X.2.1
  have hl : lv_has ls 6 [(0, .ref a), (1, .int (nI qm))] := hl
  obtain ⟨va, f, hb0, hb1, hnc, hcap, hft, hT0⟩ := id hV
  refine lv_aload_n hx hb dJ5_newCapacity_0f7a4_0 rfl (lv_at hl 0 rfl) ?_
  refine h_get X Y (k := 0) (v := .ref va) hb0 rfl hin_J4 (by decide) kfl_J5_15 rfl dJ5_newCapacity_0f7a4_1 ?_
  refine h_alen X Y 1 hb1 rfl dJ5_newCapacity_0f7a4_4 ?_
  refine lv_istore_n (lv' := [(2, .int (nI cap)), (0, .ref a), (1, .int (nI qm))]) hx hb dJ5_newCapacity_0f7a4_5 rfl hl (by decide) rfl (fun ls hl => ?_)
  refine lv_iload_n hx hb dJ5_newCapacity_0f7a4_6 rfl (lv_at hl 2 rfl) ?_
  refine lv_aload_n hx hb dJ5_newCapacity_0f7a4_7 rfl (lv_at hl 1 rfl) ?_
  refine h_get X Y (k := 1) (v := .int 0) hb0 rfl hin_J4 (by decide) kfl_J5_22 rfl dJ5_newCapacity_0f7a4_8 ?_
  refine lv_ishl hx hb dJ5_newCapacity_0f7a4_11 ?_
  refine h_ev (y := nI qm) (sb_shl0 _) ?_
  refine lv_istore_n (lv' := [(3, .int (nI qm)), (2, .int (nI cap)), (0, .ref a), (1, .int (nI qm))]) hx hb dJ5_newCapacity_0f7a4_12 rfl hl (by decide) rfl (fun ls hl => ?_)
  refine lv_iload_n hx hb dJ5_newCapacity_0f7a4_13 rfl (lv_at hl 0 rfl) ?_
  refine lv_iload_n hx hb dJ5_newCapacity_0f7a4_14 rfl (lv_at hl 1 rfl) ?_
  refine lv_isub hx hb dJ5_newCapacity_0f7a4_15 ?_
  refine h_ev (y := nI (qm - cap)) (pk_sub (by omega)) ?_
  refine lv_istore (lv' := [(4, .int (nI (qm - cap))), (3, .int (nI qm)), (2, .int (nI cap)), (0, .ref a), (1, .int (nI qm))]) hx hb dJ5_newCapacity_0f7a4_16 hl (by decide) rfl (fun ls hl => ?_)
  refine lv_iload_n hx hb dJ5_newCapacity_0f7a4_18 rfl (lv_at hl 2 rfl) ?_
  refine lv_iload hx hb dJ5_newCapacity_0f7a4_19 (lv_at hl 0 rfl) ?_
  refine lv_iload_n hx hb dJ5_newCapacity_0f7a4_21 rfl (lv_at hl 2 rfl) ?_
  refine lv_iconst (v := 2) hx hb dJ5_newCapacity_0f7a4_22 (by decide) ?_
  refine lv_aload_n hx hb dJ5_newCapacity_0f7a4_23 rfl (lv_at hl 3 rfl) ?_
  refine h_get X Y (k := 1) (v := .int 0) hb0 rfl hin_J4 (by decide) kfl_J5_22 rfl dJ5_newCapacity_0f7a4_24 ?_
  refine lv_ishl hx hb dJ5_newCapacity_0f7a4_27 ?_
  refine h_ev (y := nI 2) (sb_shl0 2) ?_
  refine lv_iadd hx hb dJ5_newCapacity_0f7a4_28 ?_
  refine h_ev (y := nI (cap + 2)) (nI_add cap 2) ?_
  refine h_callSr (rest := []) X Y (c_newLen2 l G M cap (qm - cap) (cap + 2) (by omega) (by omega) (by omega) (by omega)) rfl rfl gw_J5_114 dsc_J8_newLength_cabcc.2 rfl rfl hl.1 (Nat.le_of_ble_eq_true rfl) ⟨Nat.le_of_ble_eq_true rfl, Nat.le_of_ble_eq_true rfl⟩ ⟨Nat.le_of_ble_eq_true rfl, Nat.le_of_ble_eq_true rfl⟩ dJ5_newCapacity_0f7a4_29 (fun H locs Y => ?_)
  refine lv_istore (lv' := [(5, .int (nI (cap + max (qm - cap) (cap + 2)))), (4, .int (nI (qm - cap))), (3, .int (nI qm)), (2, .int (nI cap)), (0, .ref a), (1, .int (nI qm))]) hx hb dJ5_newCapacity_0f7a4_32 hl (by decide) rfl (fun ls hl => ?_)
  refine lv_iload hx hb dJ5_newCapacity_0f7a4_34 (lv_at hl 0 rfl) ?_
  refine lv_ldc hx hb X.2.2.2.2.1 (X.2.2.2.2.2.1 _ kcI_J5_39) dJ5_newCapacity_0f7a4_36 ?_
  refine lv_icmp_ne (tgt := 51) hx hb dJ5_newCapacity_0f7a4_38 (by decide) (fun c38 => ?_) (fun c38 => absurd (show (cap + max (qm - cap) (cap + 2)) = 2147483647 from (nI_eq (a := (cap + max (qm - cap) (cap + 2))) (b := 2147483647) (by omega) (by omega)).mp c38) (by omega))
  have c38 : ¬ (cap + max (qm - cap) (cap + 2)) = 2147483647 := fun z9 => c38 ((nI_eq (a := (cap + max (qm - cap) (cap + 2))) (b := 2147483647) (by omega) (by omega)).mpr z9)
  refine lv_iload hx hb dJ5_newCapacity_0f7a4_51 (lv_at hl 0 rfl) ?_
  refine lv_aload_n hx hb dJ5_newCapacity_0f7a4_53 rfl (lv_at hl 4 rfl) ?_
  refine h_get X Y (k := 1) (v := .int 0) hb0 rfl hin_J4 (by decide) kfl_J5_22 rfl dJ5_newCapacity_0f7a4_54 ?_
  refine lv_ishr hx hb dJ5_newCapacity_0f7a4_57 ?_
  refine h_ev (y := nI (cap + max (qm - cap) (cap + 2))) (sb_shr0 _) ?_
  exact h_iret X Y ⟨rfl, rfl⟩ (Nat.le_refl _) (Nat.le_refl _) dJ5_newCapacity_0f7a4_58
theorem dsc_J5_newCapacity_0f7a4 : yJ5_newCapacity_0f7a4.cls = RJ5 ∧ yJ5_newCapacity_0f7a4.cls ≠ "java/lang/invoke/MethodHandle" ∧ yJ5_newCapacity_0f7a4.cls ≠ "java/lang/invoke/VarHandle" ∧ (parseMethodDescriptor yJ5_newCapacity_0f7a4.desc).map (fun d => d.parameters.length) = some 1 := ⟨rfl, by decide +kernel, by decide +kernel, by decide +kernel⟩
theorem gw_J5_108 : GoodIn hGW (va_wsS RJ5 108 yJ7_copyOf_9075b (Cond.code yJ7_copyOf_9075b cJ7_copyOf_9075b 3 (Option.some (FieldType.array FieldType.byte)) :: hGW)) := hgi3 kml_J5_108 kst_J7_copyOf_9075b kini_J7 kco_J7_copyOf_9075b
theorem dsc_J7_copyOf_9075b : yJ7_copyOf_9075b.cls = RJ7 ∧ yJ7_copyOf_9075b.cls ≠ "java/lang/invoke/MethodHandle" ∧ yJ7_copyOf_9075b.cls ≠ "java/lang/invoke/VarHandle" ∧ (parseMethodDescriptor yJ7_copyOf_9075b.desc).map (fun d => d.parameters.length) = some 2 := ⟨rfl, by decide +kernel, by decide +kernel, by decide +kernel⟩
theorem dJ5_ensureCapacityInternal_d00df_0 : decode cJ5_ensureCapacityInternal_d00df 0 = .ok (.aload_n 0, 1) := by decide +kernel
theorem dJ5_ensureCapacityInternal_d00df_1 : decode cJ5_ensureCapacityInternal_d00df 1 = .ok (.getfield 15, 3) := by decide +kernel
theorem dJ5_ensureCapacityInternal_d00df_4 : decode cJ5_ensureCapacityInternal_d00df 4 = .ok (.arraylength, 1) := by decide +kernel
theorem dJ5_ensureCapacityInternal_d00df_5 : decode cJ5_ensureCapacityInternal_d00df 5 = .ok (.aload_n 0, 1) := by decide +kernel
theorem dJ5_ensureCapacityInternal_d00df_6 : decode cJ5_ensureCapacityInternal_d00df 6 = .ok (.getfield 22, 3) := by decide +kernel
theorem dJ5_ensureCapacityInternal_d00df_9 : decode cJ5_ensureCapacityInternal_d00df 9 = .ok (.ishr, 1) := by decide +kernel
theorem dJ5_ensureCapacityInternal_d00df_10 : decode cJ5_ensureCapacityInternal_d00df 10 = .ok (.istore_n 2, 1) := by decide +kernel
theorem dJ5_ensureCapacityInternal_d00df_11 : decode cJ5_ensureCapacityInternal_d00df 11 = .ok (.iload_n 1, 1) := by decide +kernel
theorem dJ5_ensureCapacityInternal_d00df_12 : decode cJ5_ensureCapacityInternal_d00df 12 = .ok (.iload_n 2, 1) := by decide +kernel
theorem dJ5_ensureCapacityInternal_d00df_13 : decode cJ5_ensureCapacityInternal_d00df 13 = .ok (.isub, 1) := by decide +kernel
theorem dJ5_ensureCapacityInternal_d00df_14 : decode cJ5_ensureCapacityInternal_d00df 14 = .ok (.ifCond .le 24, 3) := by decide +kernel
theorem dJ5_ensureCapacityInternal_d00df_17 : decode cJ5_ensureCapacityInternal_d00df 17 = .ok (.aload_n 0, 1) := by decide +kernel
theorem dJ5_ensureCapacityInternal_d00df_18 : decode cJ5_ensureCapacityInternal_d00df 18 = .ok (.aload_n 0, 1) := by decide +kernel
theorem dJ5_ensureCapacityInternal_d00df_19 : decode cJ5_ensureCapacityInternal_d00df 19 = .ok (.getfield 15, 3) := by decide +kernel
theorem dJ5_ensureCapacityInternal_d00df_22 : decode cJ5_ensureCapacityInternal_d00df 22 = .ok (.aload_n 0, 1) := by decide +kernel
theorem dJ5_ensureCapacityInternal_d00df_23 : decode cJ5_ensureCapacityInternal_d00df 23 = .ok (.iload_n 1, 1) := by decide +kernel
theorem dJ5_ensureCapacityInternal_d00df_24 : decode cJ5_ensureCapacityInternal_d00df 24 = .ok (.invokevirtual 104, 3) := by decide +kernel
theorem dJ5_ensureCapacityInternal_d00df_27 : decode cJ5_ensureCapacityInternal_d00df 27 = .ok (.aload_n 0, 1) := by decide +kernel
theorem dJ5_ensureCapacityInternal_d00df_28 : decode cJ5_ensureCapacityInternal_d00df 28 = .ok (.getfield 22, 3) := by decide +kernel
theorem dJ5_ensureCapacityInternal_d00df_31 : decode cJ5_ensureCapacityInternal_d00df 31 = .ok (.ishl, 1) := by decide +kernel
theorem dJ5_ensureCapacityInternal_d00df_32 : decode cJ5_ensureCapacityInternal_d00df 32 = .ok (.invokestatic 108, 3) := by decide +kernel
theorem dJ5_ensureCapacityInternal_d00df_35 : decode cJ5_ensureCapacityInternal_d00df 35 = .ok (.putfield 15, 3) := by decide +kernel
theorem dJ5_ensureCapacityInternal_d00df_38 : decode cJ5_ensureCapacityInternal_d00df 38 = .ok (.return_, 1) := by decide +kernel
set_option maxHeartbeats 400000 in
set_option maxRecDepth 100000 in
theorem c_ensure (l : Launch) (G : hG) (M : hM) (a t n cap : Nat) (T : Nat → Nat) (hV : SbV G M a t n cap T) (qm : Nat) (hqm2 : qm ≤ 600) : hCT l G yJ5_ensureCapacityInternal_d00df cJ5_ensureCapacityInternal_d00df 3 (Option.none) (hRm 4 1 1300) M [.ref a, .int (nI qm)] (fun v M' => v = none ∧ ∃ cap', SbV G M' a t n cap' T ∧ qm ≤ cap' ∧ hFr (fun u => u = t ∨ u = t + 1) M M') := by
  refine hCT.of (own := RJ5) (nm := "ensureCapacityInternal") (by decide) rfl rfl (Nat.le_of_ble_eq_true rfl) ?_
  intro p e s m args below meth c ls X Y hl
  have hx := X.1
  have hb := X.2.1
  have hl : lv_has ls 3 [(0, .ref a), (1, .int (nI qm))] := hl
  obtain ⟨va, f, hb0, hb1, hnc, hcap, hft, hT0⟩ := id hV
  refine lv_aload_n hx hb dJ5_ensureCapacityInternal_d00df_0 rfl (lv_at hl 0 rfl) ?_
  refine h_get X Y (k := 0) (v := .ref va) hb0 rfl hin_J4 (by decide) kfl_J5_15 rfl dJ5_ensureCapacityInternal_d00df_1 ?_
  refine h_alen X Y 1 hb1 rfl dJ5_ensureCapacityInternal_d00df_4 ?_
  refine lv_aload_n hx hb dJ5_ensureCapacityInternal_d00df_5 rfl (lv_at hl 0 rfl) ?_
  refine h_get X Y (k := 1) (v := .int 0) hb0 rfl hin_J4 (by decide) kfl_J5_22 rfl dJ5_ensureCapacityInternal_d00df_6 ?_
  refine lv_ishr hx hb dJ5_ensureCapacityInternal_d00df_9 ?_
  refine h_ev (y := nI cap) (sb_shr0 _) ?_
  refine lv_istore_n (lv' := [(2, .int (nI cap)), (0, .ref a), (1, .int (nI qm))]) hx hb dJ5_ensureCapacityInternal_d00df_10 rfl hl (by decide) rfl (fun ls hl => ?_)
  refine lv_iload_n hx hb dJ5_ensureCapacityInternal_d00df_11 rfl (lv_at hl 2 rfl) ?_
  refine lv_iload_n hx hb dJ5_ensureCapacityInternal_d00df_12 rfl (lv_at hl 0 rfl) ?_
  rcases Nat.lt_or_ge cap qm with hlt | hge
  · refine lv_isub hx hb dJ5_ensureCapacityInternal_d00df_13 ?_
    refine h_ev (y := nI (qm - cap)) (pk_sub (by omega)) ?_
    refine lv_if_le (tgt := 38) hx hb dJ5_ensureCapacityInternal_d00df_14 (by decide) (fun c14 => absurd (show (qm - cap) ≤ 0 from (nI_leI (a := (qm - cap)) (b := 0) (by omega) (by omega)).mp c14) (by omega)) (fun c14 => ?_)
    have c14 : ¬ (qm - cap) ≤ 0 := fun z9 => c14 ((nI_leI (a := (qm - cap)) (b := 0) (by omega) (by omega)).mpr z9)
    refine lv_aload_n hx hb dJ5_ensureCapacityInternal_d00df_17 rfl (lv_at hl 1 rfl) ?_
    refine lv_aload_n hx hb dJ5_ensureCapacityInternal_d00df_18 rfl (lv_at hl 1 rfl) ?_
    refine h_get X Y (k := 0) (v := .ref va) hb0 rfl hin_J4 (by decide) kfl_J5_15 rfl dJ5_ensureCapacityInternal_d00df_19 ?_
    refine lv_aload_n hx hb dJ5_ensureCapacityInternal_d00df_22 rfl (lv_at hl 1 rfl) ?_
    refine lv_iload_n hx hb dJ5_ensureCapacityInternal_d00df_23 rfl (lv_at hl 2 rfl) ?_
    refine h_callP (rest := [.ref va, .ref a]) X Y (c_newCap l G M a t n cap T hV qm hlt hqm2) kco_J5_newCapacity_0f7a4 kini_J5 kml_J5_104 ksm_J5_newCapacity_I_I kin_J5_newCapacity_0f7a4 (ksl_J5_newCapacity_0f7a4 X.2.2.2.2.2.2.2.2.1 X.2.2.2.2.2.2.2.2.2.1) dsc_J5_newCapacity_0f7a4.2 hb0 rfl rfl rfl hl.1 rfl (Nat.le_of_ble_eq_true rfl) ⟨Nat.le_of_ble_eq_true rfl, Nat.le_of_ble_eq_true rfl⟩ ⟨(by show _ ≤ 1; decide), (by show _ ≤ 1300; decide)⟩ dJ5_ensureCapacityInternal_d00df_24 ?_
    rintro _ Mz1 H locs ⟨rfl, hM9⟩ Y
    try dsimp only [Option.toList, List.nil_append, List.singleton_append]
    rw [hM9] at Y
    refine lv_aload_n hx hb dJ5_ensureCapacityInternal_d00df_27 rfl (lv_at hl 1 rfl) ?_
    refine h_get X Y (k := 1) (v := .int 0) hb0 rfl hin_J4 (by decide) kfl_J5_22 rfl dJ5_ensureCapacityInternal_d00df_28 ?_
    refine lv_ishl hx hb dJ5_ensureCapacityInternal_d00df_31 ?_
    refine h_ev (y := nI (cap + max (qm - cap) (cap + 2))) (sb_shl0 _) ?_
    refine h_callS (rest := [.ref a]) X Y (c_copyOfB l G M va (t + 1) cap (cap + max (qm - cap) (cap + 2)) (t + 1) f hb1 (by omega) (by omega) hft) gw_J5_108 dsc_J7_copyOf_9075b.2 rfl hl.1 rfl (Nat.le_of_ble_eq_true rfl) ⟨Nat.le_of_ble_eq_true rfl, Nat.le_of_ble_eq_true rfl⟩ ⟨(by show _ ≤ 1; decide), (by show _ ≤ 1300; decide)⟩ dJ5_ensureCapacityInternal_d00df_32 ?_
    rintro _ M1 H locs ⟨q, g, rfl, hq9, hgf, hgi, hfa⟩ Y
    try dsimp only [Option.toList, List.singleton_append]
    have hb0 := hfa _ _ _ hb0 (by omega)
    have hfr : hFr (fun u => u = t ∨ u = t + 1) M M1 := hfa.mono (fun u z => Or.inr z)
    refine h_put X Y (k := 0) (v := .ref q) hb0 rfl hin_J4 tyJ4_ok nmJ4 (by decide) kfl_J5_15 rfl rfl rfl (Nat.le_of_ble_eq_true rfl) dJ5_ensureCapacityInternal_d00df_35 (fun H locs Y => ?_)
    have Y : hHS G (hup M1 a (t, .inr (1, [.ref q, .int 0, .int 0, .int (nI n)]))) s H locs := Y
    have hq9 := hup_tag (x := (t, .inr (1, [.ref q, .int 0, .int 0, .int (nI n)]))) hq9 hb0 (by omega)
    have hfr := hfr.put (x := (t, .inr (1, [.ref q, .int 0, .int 0, .int (nI n)]))) hb0 (Or.inl rfl)
    have hb0 : hup M1 a (t, .inr (1, [.ref q, .int 0, .int 0, .int (nI n)])) a = some (t, .inr (1, [.ref q, .int 0, .int 0, .int (nI n)])) := hup_eq
    generalize hup M1 a (t, .inr (1, [.ref q, .int 0, .int 0, .int (nI n)])) = Mz2 at Y hb0 hq9 hfr
    exact h_vret X Y ⟨rfl, _, ⟨q, g, hb0, hq9, by omega, by omega, hgf, fun i hi => ⟨(hgi i (by omega)).trans (hT0 i hi).1, (hT0 i hi).2⟩⟩, by omega, hfr⟩ (by show _ ≤ 1; decide) (by show _ ≤ 1300; decide) dJ5_ensureCapacityInternal_d00df_38
  · refine lv_isub hx hb dJ5_ensureCapacityInternal_d00df_13 ?_
    refine lv_if_le (tgt := 38) hx hb dJ5_ensureCapacityInternal_d00df_14 (by decide) (fun c14 => ?_) (fun c14 => absurd (show nI qm - nI cap ≤ 0 from Int32.le_iff_toInt_le.mpr (by rw [pk_sub_toInt (by omega) (by omega), show (0 : Int32).toInt = 0 from by decide]; omega)) c14)
    exact h_vret X Y ⟨rfl, cap, hV, hge, hFr.rf⟩ (by show _ ≤ 1; decide) (by show _ ≤ 1300; decide) dJ5_ensureCapacityInternal_d00df_38
theorem dJ0_getBytes_840e7_0 : decode cJ0_getBytes_840e7 0 = .ok (.aload_n 0, 1) := by decide +kernel
theorem dJ0_getBytes_840e7_1 : decode cJ0_getBytes_840e7 1 = .ok (.invokevirtual 335, 3) := by decide +kernel
theorem dJ0_getBytes_840e7_4 : decode cJ0_getBytes_840e7 4 = .ok (.iload_n 3, 1) := by decide +kernel
theorem dJ0_getBytes_840e7_5 : decode cJ0_getBytes_840e7 5 = .ok (.if_icmp .ne 23, 3) := by decide +kernel
theorem dJ0_getBytes_840e7_8 : decode cJ0_getBytes_840e7 8 = .ok (.aload_n 0, 1) := by decide +kernel
theorem dJ0_getBytes_840e7_9 : decode cJ0_getBytes_840e7 9 = .ok (.getfield 9, 3) := by decide +kernel
theorem dJ0_getBytes_840e7_12 : decode cJ0_getBytes_840e7 12 = .ok (.iconst 0, 1) := by decide +kernel
theorem dJ0_getBytes_840e7_13 : decode cJ0_getBytes_840e7 13 = .ok (.aload_n 1, 1) := by decide +kernel
theorem dJ0_getBytes_840e7_14 : decode cJ0_getBytes_840e7 14 = .ok (.iload_n 2, 1) := by decide +kernel
theorem dJ0_getBytes_840e7_15 : decode cJ0_getBytes_840e7 15 = .ok (.iload_n 3, 1) := by decide +kernel
theorem dJ0_getBytes_840e7_16 : decode cJ0_getBytes_840e7 16 = .ok (.ishl, 1) := by decide +kernel
theorem dJ0_getBytes_840e7_17 : decode cJ0_getBytes_840e7 17 = .ok (.aload_n 0, 1) := by decide +kernel
theorem dJ0_getBytes_840e7_18 : decode cJ0_getBytes_840e7 18 = .ok (.getfield 9, 3) := by decide +kernel
theorem dJ0_getBytes_840e7_21 : decode cJ0_getBytes_840e7 21 = .ok (.arraylength, 1) := by decide +kernel
theorem dJ0_getBytes_840e7_22 : decode cJ0_getBytes_840e7 22 = .ok (.invokestatic 212, 3) := by decide +kernel
theorem dJ0_getBytes_840e7_25 : decode cJ0_getBytes_840e7 25 = .ok (.goto 18, 3) := by decide +kernel
theorem dJ0_getBytes_840e7_43 : decode cJ0_getBytes_840e7 43 = .ok (.return_, 1) := by decide +kernel
set_option maxHeartbeats 400000 in
set_option maxRecDepth 100000 in
theorem c_getBytesM (l : Launch) (G : hG) (M : hM) (q0 L0 : Nat) (W0 : Nat → Nat) (hq : StM G M q0 L0 W0) (d0 ud off cap : Nat) (g : Nat → Int32) (hd : M d0 = some (ud, .inl (hT G 1, cap, .inl g))) (hoc : off + L0 ≤ cap) (hcap : cap ≤ 1300) (hgf : sb_Fit g) : hCT l G yJ0_getBytes_840e7 cJ0_getBytes_840e7 4 (Option.none) (hRm 2 0 0) M [.ref q0, .ref d0, .int (nI off), .int 0] (fun v M' => v = none ∧ (∃ g', M' d0 = some (ud, .inl (hT G 1, cap, .inl g')) ∧ sb_Fit g' ∧ (∀ j, j < off → g' j = g j) ∧ ∀ i, i < L0 → g' (off + i) = nI (W0 i)) ∧ hFr (fun u => u = ud) M M') := by
  refine hCT.of (own := RJ0) (nm := "getBytes") (by decide) rfl rfl (Nat.le_of_ble_eq_true rfl) ?_
  intro p e s m args below meth c ls X Y hl
  have hx := X.1
  have hb := X.2.1
  have hl : lv_has ls 4 [(0, .ref q0), (1, .ref d0), (2, .int (nI off)), (3, .int 0)] := hl
  have hqm := hq
  obtain ⟨t, va, x3, x4, f, h0, h1, h2⟩ := hq
  refine lv_aload_n hx hb dJ0_getBytes_840e7_0 rfl (lv_at hl 0 rfl) ?_
  refine h_callVr (rest := []) X Y (c_coderM l G M q0 L0 W0 hqm) rfl rfl gw_J0_335 dsc_J0_coder_7d493 h0 rfl rfl rfl rfl hl.1 (Nat.le_of_ble_eq_true rfl) ⟨Nat.le_of_ble_eq_true rfl, Nat.le_of_ble_eq_true rfl⟩ ⟨Nat.le_of_ble_eq_true rfl, Nat.le_of_ble_eq_true rfl⟩ dJ0_getBytes_840e7_1 (fun H locs Y => ?_)
  refine lv_iload_n hx hb dJ0_getBytes_840e7_4 rfl (lv_at hl 3 rfl) ?_
  refine lv_icmp_ne (tgt := 28) hx hb dJ0_getBytes_840e7_5 (by decide) (fun c5 => absurd (by decide) c5) (fun c5 => ?_)
  refine lv_aload_n hx hb dJ0_getBytes_840e7_8 rfl (lv_at hl 0 rfl) ?_
  refine h_get X Y (k := 0) (v := .ref va) h0 rfl hin_J0 (by decide) kfl_J0_9 rfl dJ0_getBytes_840e7_9 ?_
  refine lv_iconst (v := 0) hx hb dJ0_getBytes_840e7_12 (by decide) ?_
  refine lv_aload_n hx hb dJ0_getBytes_840e7_13 rfl (lv_at hl 1 rfl) ?_
  refine lv_iload_n hx hb dJ0_getBytes_840e7_14 rfl (lv_at hl 2 rfl) ?_
  refine lv_iload_n hx hb dJ0_getBytes_840e7_15 rfl (lv_at hl 3 rfl) ?_
  refine lv_ishl hx hb dJ0_getBytes_840e7_16 ?_
  refine h_ev (y := nI off) (sb_shl0 _) ?_
  refine lv_aload_n hx hb dJ0_getBytes_840e7_17 rfl (lv_at hl 0 rfl) ?_
  refine h_get X Y (k := 0) (v := .ref va) h0 rfl hin_J0 (by decide) kfl_J0_9 rfl dJ0_getBytes_840e7_18 ?_
  refine h_alen X Y 1 h1 rfl dJ0_getBytes_840e7_21 ?_
  refine h_cpb (k := L0) (dp := off) (t0 := 1) X Y hl.1 h1 hd rfl rfl (Nat.le_refl _) hoc (by omega) (by omega) (fun i hi => by rw [(h2 i hi).1]; exact t_fb _ (h2 i hi).2) kml_J0_212 (Nat.le_of_ble_eq_true rfl) (Nat.le_of_ble_eq_true rfl) dJ0_getBytes_840e7_22 (fun H locs Y => ?_)
  have hfr : hFr (fun u => u = ud) M _ := (hFr.rf (M := M)).put (x := (ud, .inl (hT G 1, cap, .inl (va_cpy f g 0 off L0)))) hd rfl
  have hd9 : hup M d0 (ud, .inl (hT G 1, cap, .inl (va_cpy f g 0 off L0))) d0 = some (ud, .inl (hT G 1, cap, .inl (va_cpy f g 0 off L0))) := hup_eq
  refine lv_goto (tgt := 43) hx hb dJ0_getBytes_840e7_25 (by decide) ?_
  exact h_vret X Y ⟨rfl, ⟨_, hd9, (cpy_fit (fun i hi => by rw [(h2 i hi).1]; exact t_fb _ (h2 i hi).2) hgf), fun j hj => pk_cpy_out (Or.inl hj), fun i hi => ((pk_cpy_in (by omega) (by omega)).trans (by rw [show 0 + (off + i - off) = i by omega]; exact (h2 i hi).1))⟩, hfr⟩ (Nat.le_refl _) (Nat.le_refl _) dJ0_getBytes_840e7_43
set_option maxHeartbeats 400000 in
set_option maxRecDepth 100000 in
theorem c_getBytesS (l : Launch) (G : hG) (M : hM) (q0 L0 : Nat) (W0 : Nat → Nat) (hq : sS G q0 L0 W0) (d0 ud off cap : Nat) (g : Nat → Int32) (hd : M d0 = some (ud, .inl (hT G 1, cap, .inl g))) (hoc : off + L0 ≤ cap) (hcap : cap ≤ 1300) (hgf : sb_Fit g) : hCT l G yJ0_getBytes_840e7 cJ0_getBytes_840e7 4 (Option.none) (hRm 2 0 0) M [.ref q0, .ref d0, .int (nI off), .int 0] (fun v M' => v = none ∧ (∃ g', M' d0 = some (ud, .inl (hT G 1, cap, .inl g')) ∧ sb_Fit g' ∧ (∀ j, j < off → g' j = g j) ∧ ∀ i, i < L0 → g' (off + i) = nI (W0 i)) ∧ hFr (fun u => u = ud) M M') := by
  refine hCT.of (own := RJ0) (nm := "getBytes") (by decide) rfl rfl (Nat.le_of_ble_eq_true rfl) ?_
  intro p e s m args below meth c ls X Y hl
  have hx := X.1
  have hb := X.2.1
  have hl : lv_has ls 4 [(0, .ref q0), (1, .ref d0), (2, .int (nI off)), (3, .int 0)] := hl
  obtain ⟨va, hva, hvT⟩ := hq.2.2.1
  refine lv_aload_n hx hb dJ0_getBytes_840e7_0 rfl (lv_at hl 0 rfl) ?_
  refine h_callOr (rest := []) X Y (c_coder l G M q0 L0 W0 hq) rfl rfl gw_J0_335 dsc_J0_coder_7d493 hq.1 rfl rfl hl.1 (Nat.le_of_ble_eq_true rfl) ⟨Nat.le_of_ble_eq_true rfl, Nat.le_of_ble_eq_true rfl⟩ ⟨Nat.le_of_ble_eq_true rfl, Nat.le_of_ble_eq_true rfl⟩ dJ0_getBytes_840e7_1 (fun H locs Y => ?_)
  refine lv_iload_n hx hb dJ0_getBytes_840e7_4 rfl (lv_at hl 3 rfl) ?_
  refine lv_icmp_ne (tgt := 28) hx hb dJ0_getBytes_840e7_5 (by decide) (fun c5 => absurd (by decide) c5) (fun c5 => ?_)
  refine lv_aload_n hx hb dJ0_getBytes_840e7_8 rfl (lv_at hl 0 rfl) ?_
  refine h_getC X Y (hOF_at X.2.2.2.2.2.2.2.2.2.1 hva) kfl_J0_9 dJ0_getBytes_840e7_9 ?_
  refine lv_iconst (v := 0) hx hb dJ0_getBytes_840e7_12 (by decide) ?_
  refine lv_aload_n hx hb dJ0_getBytes_840e7_13 rfl (lv_at hl 1 rfl) ?_
  refine lv_iload_n hx hb dJ0_getBytes_840e7_14 rfl (lv_at hl 2 rfl) ?_
  refine lv_iload_n hx hb dJ0_getBytes_840e7_15 rfl (lv_at hl 3 rfl) ?_
  refine lv_ishl hx hb dJ0_getBytes_840e7_16 ?_
  refine h_ev (y := nI off) (sb_shl0 _) ?_
  refine lv_aload_n hx hb dJ0_getBytes_840e7_17 rfl (lv_at hl 0 rfl) ?_
  refine h_getC X Y (hOF_at X.2.2.2.2.2.2.2.2.2.1 hva) kfl_J0_9 dJ0_getBytes_840e7_18 ?_
  refine h_lenT X Y (hT_at X.2.2.2.2.2.2.2.2.2.1 hvT) dJ0_getBytes_840e7_21 ?_
  refine h_cpbT (k := L0) (dp := off) (f := fun i => nI (W0 i)) X Y hl.1 (hT_at X.2.2.2.2.2.2.2.2.2.1 hvT) hd (Nat.le_refl _) hoc (by omega) (by omega) (fun i hi => t_fb _ (hq.2.2.2 i hi)) kml_J0_212 (Nat.le_of_ble_eq_true rfl) (Nat.le_of_ble_eq_true rfl) dJ0_getBytes_840e7_22 (fun H locs Y => ?_)
  have hfr : hFr (fun u => u = ud) M _ := (hFr.rf (M := M)).put (x := (ud, .inl (hT G 1, cap, .inl (va_cpy (fun i => nI (W0 i)) g 0 off L0)))) hd rfl
  have hd9 : hup M d0 (ud, .inl (hT G 1, cap, .inl (va_cpy (fun i => nI (W0 i)) g 0 off L0))) d0 = some (ud, .inl (hT G 1, cap, .inl (va_cpy (fun i => nI (W0 i)) g 0 off L0))) := hup_eq
  refine lv_goto (tgt := 43) hx hb dJ0_getBytes_840e7_25 (by decide) ?_
  exact h_vret X Y ⟨rfl, ⟨_, hd9, (cpy_fit (fun i hi => t_fb _ (hq.2.2.2 i hi)) hgf), fun j hj => pk_cpy_out (Or.inl hj), fun i hi => ((pk_cpy_in (by omega) (by omega)).trans (by rw [show 0 + (off + i - off) = i by omega]))⟩, hfr⟩ (Nat.le_refl _) (Nat.le_refl _) dJ0_getBytes_840e7_43
theorem c_getBytes2 (l : Launch) (G : hG) (M : hM) (q0 L0 : Nat) (W0 : Nat → Nat) (hq : StV G M q0 L0 W0) (d0 ud off cap : Nat) (g : Nat → Int32) (hd : M d0 = some (ud, .inl (hT G 1, cap, .inl g))) (hoc : off + L0 ≤ cap) (hcap : cap ≤ 1300) (hgf : sb_Fit g) : hCT l G yJ0_getBytes_840e7 cJ0_getBytes_840e7 4 none (hRm 2 0 0) M [.ref q0, .ref d0, .int (nI off), .int 0] (fun v M' => v = none ∧ (∃ g', M' d0 = some (ud, .inl (hT G 1, cap, .inl g')) ∧ sb_Fit g' ∧ (∀ j, j < off → g' j = g j) ∧ ∀ i, i < L0 → g' (off + i) = nI (W0 i)) ∧ hFr (fun u => u = ud) M M') := by
  rcases hq with hq | hq
  · exact c_getBytesS l G M q0 L0 W0 hq d0 ud off cap g hd hoc hcap hgf
  · exact c_getBytesM l G M q0 L0 W0 hq d0 ud off cap g hd hoc hcap hgf
theorem gw_J5_40 : GoodIn hGW (wsV RJ5 40 RJ0 yJ0_coder_7d493 (Cond.code yJ0_coder_7d493 cJ0_coder_7d493 1 (Option.some FieldType.byte) :: hGW)) := hgi4 kml_J5_40 kin_J0_coder_7d493 kse_J0_J0_coder_7d493_J0_coder_7d493 kini_J0 kco_J0_coder_7d493
theorem dJ5_inflateIfNeededFor_a7421_0 : decode cJ5_inflateIfNeededFor_a7421 0 = .ok (.getstatic 18, 3) := by decide +kernel
theorem dJ5_inflateIfNeededFor_a7421_3 : decode cJ5_inflateIfNeededFor_a7421 3 = .ok (.ifCond .eq 18, 3) := by decide +kernel
theorem dJ5_inflateIfNeededFor_a7421_6 : decode cJ5_inflateIfNeededFor_a7421 6 = .ok (.aload_n 0, 1) := by decide +kernel
theorem dJ5_inflateIfNeededFor_a7421_7 : decode cJ5_inflateIfNeededFor_a7421 7 = .ok (.getfield 22, 3) := by decide +kernel
theorem dJ5_inflateIfNeededFor_a7421_10 : decode cJ5_inflateIfNeededFor_a7421 10 = .ok (.aload_n 1, 1) := by decide +kernel
theorem dJ5_inflateIfNeededFor_a7421_11 : decode cJ5_inflateIfNeededFor_a7421 11 = .ok (.invokevirtual 40, 3) := by decide +kernel
theorem dJ5_inflateIfNeededFor_a7421_14 : decode cJ5_inflateIfNeededFor_a7421 14 = .ok (.if_icmp .eq 7, 3) := by decide +kernel
theorem dJ5_inflateIfNeededFor_a7421_21 : decode cJ5_inflateIfNeededFor_a7421 21 = .ok (.return_, 1) := by decide +kernel
set_option maxHeartbeats 400000 in
set_option maxRecDepth 100000 in
theorem c_infl (l : Launch) (G : hG) (M : hM) (a t n cap : Nat) (T : Nat → Nat) (hV : SbV G M a t n cap T) (q0 L0 : Nat) (W0 : Nat → Nat) (hq : StV G M q0 L0 W0) : hCT l G yJ5_inflateIfNeededFor_a7421 cJ5_inflateIfNeededFor_a7421 2 (Option.none) (hRm 2 0 0) M [.ref a, .ref q0] (fun v M' => v = none ∧ M' = M) := by
  refine hCT.of (own := RJ5) (nm := "inflateIfNeededFor") (by decide) rfl rfl (Nat.le_of_ble_eq_true rfl) ?_
  intro p e s m args below meth c ls X Y hl
  have hx := X.1
  have hb := X.2.1
  have hl : lv_has ls 2 [(0, .ref a), (1, .ref q0)] := hl
  obtain ⟨va, f, hb0, hb1, hnc, hcap, hft, hT0⟩ := id hV
  refine h_gets X Y (hCS_Z X.2.2.2.2.2.2.2.2.1 X.2.2.2.2.2.2.2.2.2.1) kfl_J5_18 dJ5_inflateIfNeededFor_a7421_0 ?_
  refine lv_if_eq (tgt := 21) hx hb dJ5_inflateIfNeededFor_a7421_3 (by decide) (fun c3 => absurd c3 (by decide)) (fun c3 => ?_)
  refine lv_aload_n hx hb dJ5_inflateIfNeededFor_a7421_6 rfl (lv_at hl 0 rfl) ?_
  refine h_get X Y (k := 1) (v := .int 0) hb0 rfl hin_J4 (by decide) kfl_J5_22 rfl dJ5_inflateIfNeededFor_a7421_7 ?_
  refine lv_aload_n hx hb dJ5_inflateIfNeededFor_a7421_10 rfl (lv_at hl 1 rfl) ?_
  refine h_callGr (rest := [.int 0]) X Y (c_coder2 l G M q0 L0 W0 hq) rfl rfl gw_J5_40 dsc_J0_coder_7d493 (StV.recv X Y hq) rfl rfl hl.1 (Nat.le_of_ble_eq_true rfl) ⟨Nat.le_of_ble_eq_true rfl, Nat.le_of_ble_eq_true rfl⟩ ⟨Nat.le_of_ble_eq_true rfl, Nat.le_of_ble_eq_true rfl⟩ dJ5_inflateIfNeededFor_a7421_11 (fun H locs Y => ?_)
  refine lv_icmp_eq (tgt := 21) hx hb dJ5_inflateIfNeededFor_a7421_14 (by decide) (fun c14 => ?_) (fun c14 => absurd (by decide) c14)
  exact h_vret X Y ⟨rfl, rfl⟩ (Nat.le_refl _) (Nat.le_refl _) dJ5_inflateIfNeededFor_a7421_21
theorem dsc_J5_inflateIfNeededFor_a7421 : yJ5_inflateIfNeededFor_a7421.cls = RJ5 ∧ yJ5_inflateIfNeededFor_a7421.cls ≠ "java/lang/invoke/MethodHandle" ∧ yJ5_inflateIfNeededFor_a7421.cls ≠ "java/lang/invoke/VarHandle" ∧ (parseMethodDescriptor yJ5_inflateIfNeededFor_a7421.desc).map (fun d => d.parameters.length) = some 1 := ⟨rfl, by decide +kernel, by decide +kernel, by decide +kernel⟩
theorem gw_J5_399 : GoodIn hGW (wsV RJ5 399 RJ0 yJ0_getBytes_840e7 (Cond.code yJ0_getBytes_840e7 cJ0_getBytes_840e7 4 (Option.none) :: hGW)) := hgi4 kml_J5_399 kin_J0_getBytes_840e7 kse_J0_J0_getBytes_840e7_J0_getBytes_840e7 kini_J0 kco_J0_getBytes_840e7
theorem dsc_J0_getBytes_840e7 : yJ0_getBytes_840e7.cls = RJ0 ∧ yJ0_getBytes_840e7.cls ≠ "java/lang/invoke/MethodHandle" ∧ yJ0_getBytes_840e7.cls ≠ "java/lang/invoke/VarHandle" ∧ (parseMethodDescriptor yJ0_getBytes_840e7.desc).map (fun d => d.parameters.length) = some 3 := ⟨rfl, by decide +kernel, by decide +kernel, by decide +kernel⟩
theorem dJ5_putStringAt_47b60_0 : decode cJ5_putStringAt_47b60 0 = .ok (.aload_n 0, 1) := by decide +kernel
theorem dJ5_putStringAt_47b60_1 : decode cJ5_putStringAt_47b60 1 = .ok (.aload_n 2, 1) := by decide +kernel
theorem dJ5_putStringAt_47b60_2 : decode cJ5_putStringAt_47b60 2 = .ok (.invokevirtual 397, 3) := by decide +kernel
theorem dJ5_putStringAt_47b60_5 : decode cJ5_putStringAt_47b60 5 = .ok (.aload_n 2, 1) := by decide +kernel
theorem dJ5_putStringAt_47b60_6 : decode cJ5_putStringAt_47b60 6 = .ok (.aload_n 0, 1) := by decide +kernel
theorem dJ5_putStringAt_47b60_7 : decode cJ5_putStringAt_47b60 7 = .ok (.getfield 15, 3) := by decide +kernel
theorem dJ5_putStringAt_47b60_10 : decode cJ5_putStringAt_47b60 10 = .ok (.iload_n 1, 1) := by decide +kernel
theorem dJ5_putStringAt_47b60_11 : decode cJ5_putStringAt_47b60 11 = .ok (.aload_n 0, 1) := by decide +kernel
theorem dJ5_putStringAt_47b60_12 : decode cJ5_putStringAt_47b60 12 = .ok (.getfield 22, 3) := by decide +kernel
theorem dJ5_putStringAt_47b60_15 : decode cJ5_putStringAt_47b60 15 = .ok (.invokevirtual 399, 3) := by decide +kernel
theorem dJ5_putStringAt_47b60_18 : decode cJ5_putStringAt_47b60 18 = .ok (.return_, 1) := by decide +kernel
set_option maxHeartbeats 400000 in
set_option maxRecDepth 100000 in
theorem c_putStr (l : Launch) (G : hG) (M : hM) (a t n cap : Nat) (T : Nat → Nat) (hV : SbV G M a t n cap T) (q0 L0 : Nat) (W0 : Nat → Nat) (hq : StV G M q0 L0 W0) (hnl : n + L0 ≤ cap) : hCT l G yJ5_putStringAt_47b60 cJ5_putStringAt_47b60 3 (Option.none) (hRm 3 0 0) M [.ref a, .int (nI n), .ref q0] (fun v M' => v = none ∧ (∃ va f, M' a = some (t, .inr (1, [.ref va, .int 0, .int 0, .int (nI n)])) ∧ M' va = some (t + 1, .inl (hT G 1, cap, .inl f)) ∧ sb_Fit f ∧ ∀ i, i < n + L0 → f i = nI (sb_cat T n W0 i) ∧ sb_cat T n W0 i < 128) ∧ hFr (fun u => u = t + 1) M M') := by
  refine hCT.of (own := RJ5) (nm := "putStringAt") (by decide) rfl rfl (Nat.le_of_ble_eq_true rfl) ?_
  intro p e s m args below meth c ls X Y hl
  have hx := X.1
  have hb := X.2.1
  have hl : lv_has ls 3 [(0, .ref a), (1, .int (nI n)), (2, .ref q0)] := hl
  obtain ⟨va, f, hb0, hb1, hnc, hcap, hft, hT0⟩ := id hV
  refine lv_aload_n hx hb dJ5_putStringAt_47b60_0 rfl (lv_at hl 0 rfl) ?_
  refine lv_aload_n hx hb dJ5_putStringAt_47b60_1 rfl (lv_at hl 2 rfl) ?_
  refine h_callP (rest := []) X Y (c_infl l G M a t n cap T hV q0 L0 W0 hq) kco_J5_inflateIfNeededFor_a7421 kini_J5 kml_J5_397 ksm_J5_inflateIfNeededFor_Ljava_lang_String__V kin_J5_inflateIfNeededFor_a7421 (ksl_J5_inflateIfNeededFor_a7421 X.2.2.2.2.2.2.2.2.1 X.2.2.2.2.2.2.2.2.2.1) dsc_J5_inflateIfNeededFor_a7421.2 hb0 rfl rfl rfl hl.1 rfl (Nat.le_of_ble_eq_true rfl) ⟨Nat.le_of_ble_eq_true rfl, Nat.le_of_ble_eq_true rfl⟩ ⟨Nat.le_of_ble_eq_true rfl, Nat.le_of_ble_eq_true rfl⟩ dJ5_putStringAt_47b60_2 ?_
  rintro _ Mz1 H locs ⟨rfl, hM9⟩ Y
  try dsimp only [Option.toList, List.nil_append, List.singleton_append]
  rw [hM9] at Y
  refine lv_aload_n hx hb dJ5_putStringAt_47b60_5 rfl (lv_at hl 2 rfl) ?_
  refine lv_aload_n hx hb dJ5_putStringAt_47b60_6 rfl (lv_at hl 0 rfl) ?_
  refine h_get X Y (k := 0) (v := .ref va) hb0 rfl hin_J4 (by decide) kfl_J5_15 rfl dJ5_putStringAt_47b60_7 ?_
  refine lv_iload_n hx hb dJ5_putStringAt_47b60_10 rfl (lv_at hl 1 rfl) ?_
  refine lv_aload_n hx hb dJ5_putStringAt_47b60_11 rfl (lv_at hl 0 rfl) ?_
  refine h_get X Y (k := 1) (v := .int 0) hb0 rfl hin_J4 (by decide) kfl_J5_22 rfl dJ5_putStringAt_47b60_12 ?_
  refine h_callG (rest := []) X Y (c_getBytes2 l G M q0 L0 W0 hq va (t + 1) n cap f hb1 hnl hcap hft) gw_J5_399 dsc_J0_getBytes_840e7 (StV.recv X Y hq) rfl rfl hl.1 (Nat.le_of_ble_eq_true rfl) ⟨Nat.le_of_ble_eq_true rfl, Nat.le_of_ble_eq_true rfl⟩ ⟨Nat.le_of_ble_eq_true rfl, Nat.le_of_ble_eq_true rfl⟩ dJ5_putStringAt_47b60_15 ?_
  rintro _ M1 H locs ⟨rfl, ⟨g, hd9, hgf, hg1, hg2⟩, hfa⟩ Y
  try dsimp only [Option.toList, List.nil_append]
  have hlt := StV.lt hq
  have hfin : ∀ i, i < n + L0 → g i = nI (sb_cat T n W0 i) ∧ sb_cat T n W0 i < 128 := by
    intro i hi
    rcases Nat.lt_or_ge i n with hin | hin
    · rw [sb_cat_lo hin, hg1 i hin]; exact hT0 i hin
    · obtain ⟨j, rfl⟩ := Nat.exists_eq_add_of_le hin
      rw [sb_cat_hi, hg2 j (by omega)]
      exact ⟨rfl, hlt j (by omega)⟩
  exact h_vret X Y ⟨rfl, ⟨va, g, hfa _ _ _ hb0 (by omega), hd9, hgf, hfin⟩, hfa⟩ (Nat.le_refl _) (Nat.le_refl _) dJ5_putStringAt_47b60_18
theorem gw_J5_32 : GoodIn hGW (wsV RJ5 32 RJ0 yJ0_length_8abf5 (Cond.code yJ0_length_8abf5 cJ0_length_8abf5 1 (Option.some FieldType.int) :: hGW)) := hgi4 kml_J5_32 kin_J0_length_8abf5 kse_J0_J0_length_8abf5_J0_length_8abf5 kini_J0 kco_J0_length_8abf5
theorem dsc_J5_ensureCapacityInternal_d00df : yJ5_ensureCapacityInternal_d00df.cls = RJ5 ∧ yJ5_ensureCapacityInternal_d00df.cls ≠ "java/lang/invoke/MethodHandle" ∧ yJ5_ensureCapacityInternal_d00df.cls ≠ "java/lang/invoke/VarHandle" ∧ (parseMethodDescriptor yJ5_ensureCapacityInternal_d00df.desc).map (fun d => d.parameters.length) = some 1 := ⟨rfl, by decide +kernel, by decide +kernel, by decide +kernel⟩
theorem dsc_J5_putStringAt_47b60 : yJ5_putStringAt_47b60.cls = RJ5 ∧ yJ5_putStringAt_47b60.cls ≠ "java/lang/invoke/MethodHandle" ∧ yJ5_putStringAt_47b60.cls ≠ "java/lang/invoke/VarHandle" ∧ (parseMethodDescriptor yJ5_putStringAt_47b60.desc).map (fun d => d.parameters.length) = some 2 := ⟨rfl, by decide +kernel, by decide +kernel, by decide +kernel⟩
theorem dJ5_append_cf1ce_0 : decode cJ5_append_cf1ce 0 = .ok (.aload_n 1, 1) := by decide +kernel
theorem dJ5_append_cf1ce_1 : decode cJ5_append_cf1ce 1 = .ok (.ifnonnull 8, 3) := by decide +kernel
theorem dJ5_append_cf1ce_9 : decode cJ5_append_cf1ce 9 = .ok (.aload_n 1, 1) := by decide +kernel
theorem dJ5_append_cf1ce_10 : decode cJ5_append_cf1ce 10 = .ok (.invokevirtual 32, 3) := by decide +kernel
theorem dJ5_append_cf1ce_13 : decode cJ5_append_cf1ce 13 = .ok (.istore_n 2, 1) := by decide +kernel
theorem dJ5_append_cf1ce_14 : decode cJ5_append_cf1ce 14 = .ok (.aload_n 0, 1) := by decide +kernel
theorem dJ5_append_cf1ce_15 : decode cJ5_append_cf1ce 15 = .ok (.aload_n 0, 1) := by decide +kernel
theorem dJ5_append_cf1ce_16 : decode cJ5_append_cf1ce 16 = .ok (.getfield 79, 3) := by decide +kernel
theorem dJ5_append_cf1ce_19 : decode cJ5_append_cf1ce 19 = .ok (.iload_n 2, 1) := by decide +kernel
theorem dJ5_append_cf1ce_20 : decode cJ5_append_cf1ce 20 = .ok (.iadd, 1) := by decide +kernel
theorem dJ5_append_cf1ce_21 : decode cJ5_append_cf1ce 21 = .ok (.invokevirtual 100, 3) := by decide +kernel
theorem dJ5_append_cf1ce_24 : decode cJ5_append_cf1ce 24 = .ok (.aload_n 0, 1) := by decide +kernel
theorem dJ5_append_cf1ce_25 : decode cJ5_append_cf1ce 25 = .ok (.aload_n 0, 1) := by decide +kernel
theorem dJ5_append_cf1ce_26 : decode cJ5_append_cf1ce 26 = .ok (.getfield 79, 3) := by decide +kernel
theorem dJ5_append_cf1ce_29 : decode cJ5_append_cf1ce 29 = .ok (.aload_n 1, 1) := by decide +kernel
theorem dJ5_append_cf1ce_30 : decode cJ5_append_cf1ce 30 = .ok (.invokevirtual 208, 3) := by decide +kernel
theorem dJ5_append_cf1ce_33 : decode cJ5_append_cf1ce 33 = .ok (.aload_n 0, 1) := by decide +kernel
theorem dJ5_append_cf1ce_34 : decode cJ5_append_cf1ce 34 = .ok (.dup, 1) := by decide +kernel
theorem dJ5_append_cf1ce_35 : decode cJ5_append_cf1ce 35 = .ok (.getfield 79, 3) := by decide +kernel
theorem dJ5_append_cf1ce_38 : decode cJ5_append_cf1ce 38 = .ok (.iload_n 2, 1) := by decide +kernel
theorem dJ5_append_cf1ce_39 : decode cJ5_append_cf1ce 39 = .ok (.iadd, 1) := by decide +kernel
theorem dJ5_append_cf1ce_40 : decode cJ5_append_cf1ce 40 = .ok (.putfield 79, 3) := by decide +kernel
theorem dJ5_append_cf1ce_43 : decode cJ5_append_cf1ce 43 = .ok (.aload_n 0, 1) := by decide +kernel
theorem dJ5_append_cf1ce_44 : decode cJ5_append_cf1ce 44 = .ok (.areturn, 1) := by decide +kernel
set_option maxHeartbeats 400000 in
set_option maxRecDepth 100000 in
theorem c_append5 (l : Launch) (G : hG) (M : hM) (a t n cap : Nat) (T : Nat → Nat) (hV : SbV G M a t n cap T) (q0 L0 : Nat) (W0 : Nat → Nat) (hq : StV G M q0 L0 W0) (hz : ∀ (u : Nat) (e : va_E), M q0 = some (u, e) → u + 1 < t ∨ t + 1 < u) (hnl : n + L0 ≤ 600) : hCT l G yJ5_append_cf1ce cJ5_append_cf1ce 3 (Option.some (FieldType.object "java/lang/AbstractStringBuilder")) (hRm 5 1 1300) M [.ref a, .ref q0] (fun v M' => v = some (.ref a) ∧ (∃ cap', SbV G M' a t (n + L0) cap' (sb_cat T n W0)) ∧ hFr (fun u => u = t ∨ u = t + 1) M M') := by
  refine hCT.of (own := RJ5) (nm := "append") (by decide) rfl rfl (Nat.le_of_ble_eq_true rfl) ?_
  intro p e s m args below meth c ls X Y hl
  have hx := X.1
  have hb := X.2.1
  have hl : lv_has ls 3 [(0, .ref a), (1, .ref q0)] := hl
  obtain ⟨va, f, hb0, hb1, hnc, hcap, hft, hT0⟩ := id hV
  refine lv_aload_n hx hb dJ5_append_cf1ce_0 rfl (lv_at hl 1 rfl) ?_
  refine lv_ifnonnull (tgt := 9) hx hb dJ5_append_cf1ce_1 (by decide) ?_
  refine lv_aload_n hx hb dJ5_append_cf1ce_9 rfl (lv_at hl 1 rfl) ?_
  refine h_callGr (rest := []) X Y (c_len2 l G M q0 L0 W0 hq (by omega)) rfl rfl gw_J5_32 dsc_J0_length_8abf5 (StV.recv X Y hq) rfl rfl hl.1 (Nat.le_of_ble_eq_true rfl) ⟨Nat.le_of_ble_eq_true rfl, Nat.le_of_ble_eq_true rfl⟩ ⟨Nat.le_of_ble_eq_true rfl, Nat.le_of_ble_eq_true rfl⟩ dJ5_append_cf1ce_10 (fun H locs Y => ?_)
  refine lv_istore_n (lv' := [(2, .int (nI L0)), (0, .ref a), (1, .ref q0)]) hx hb dJ5_append_cf1ce_13 rfl hl (by decide) rfl (fun ls hl => ?_)
  refine lv_aload_n hx hb dJ5_append_cf1ce_14 rfl (lv_at hl 1 rfl) ?_
  refine lv_aload_n hx hb dJ5_append_cf1ce_15 rfl (lv_at hl 1 rfl) ?_
  refine h_get X Y (k := 3) (v := .int (nI n)) hb0 rfl hin_J4 (by decide) kfl_J5_79 rfl dJ5_append_cf1ce_16 ?_
  refine lv_iload_n hx hb dJ5_append_cf1ce_19 rfl (lv_at hl 0 rfl) ?_
  refine lv_iadd hx hb dJ5_append_cf1ce_20 ?_
  refine h_ev (y := nI (n + L0)) (nI_add n L0) ?_
  refine h_callP (rest := []) X Y (c_ensure l G M a t n cap T hV (n + L0) hnl) kco_J5_ensureCapacityInternal_d00df kini_J5 kml_J5_100 ksm_J5_ensureCapacityInternal_I_V kin_J5_ensureCapacityInternal_d00df (ksl_J5_ensureCapacityInternal_d00df X.2.2.2.2.2.2.2.2.1 X.2.2.2.2.2.2.2.2.2.1) dsc_J5_ensureCapacityInternal_d00df.2 hb0 rfl rfl rfl hl.1 rfl (Nat.le_of_ble_eq_true rfl) ⟨Nat.le_of_ble_eq_true rfl, Nat.le_of_ble_eq_true rfl⟩ ⟨Nat.le_of_ble_eq_true rfl, Nat.le_of_ble_eq_true rfl⟩ dJ5_append_cf1ce_21 ?_
  rintro _ Mz1 H locs ⟨rfl, hpost⟩ Y
  try dsimp only [Option.toList, List.nil_append, List.singleton_append]
  obtain ⟨cap2, hV, hq2, hfa⟩ := hpost
  have hq := hq.fr hfa (fun u z1 z2 => by have := hz u z1 z2; omega)
  obtain ⟨va, f, hb0, hb1, hnc, hcap, hft, hT0⟩ := id hV
  refine lv_aload_n hx hb dJ5_append_cf1ce_24 rfl (lv_at hl 1 rfl) ?_
  refine lv_aload_n hx hb dJ5_append_cf1ce_25 rfl (lv_at hl 1 rfl) ?_
  refine h_get X Y (k := 3) (v := .int (nI n)) hb0 rfl hin_J4 (by decide) kfl_J5_79 rfl dJ5_append_cf1ce_26 ?_
  refine lv_aload_n hx hb dJ5_append_cf1ce_29 rfl (lv_at hl 2 rfl) ?_
  refine h_callP (rest := []) X Y (c_putStr l G Mz1 a t n cap2 T hV q0 L0 W0 hq hq2) kco_J5_putStringAt_47b60 kini_J5 kml_J5_208 ksm_J5_putStringAt_ILjava_lang_String__V kin_J5_putStringAt_47b60 (ksl_J5_putStringAt_47b60 X.2.2.2.2.2.2.2.2.1 X.2.2.2.2.2.2.2.2.2.1) dsc_J5_putStringAt_47b60.2 hb0 rfl rfl rfl hl.1 rfl (Nat.le_of_ble_eq_true rfl) ⟨Nat.le_of_ble_eq_true rfl, Nat.le_of_ble_eq_true rfl⟩ ⟨Nat.le_of_ble_eq_true rfl, Nat.le_of_ble_eq_true rfl⟩ dJ5_append_cf1ce_30 ?_
  rintro _ Mz2 H locs ⟨rfl, hpost⟩ Y
  try dsimp only [Option.toList, List.nil_append, List.singleton_append]
  obtain ⟨⟨va2, f2, hb0, hb1, hft2, hfin⟩, hfb⟩ := hpost
  have hfr : hFr (fun u => u = t ∨ u = t + 1) M Mz2 := hFr.tr hfa (hfb.mono (fun u z => Or.inr z))
  refine lv_aload_n hx hb dJ5_append_cf1ce_33 rfl (lv_at hl 1 rfl) ?_
  refine lv_dup hx hb dJ5_append_cf1ce_34 rfl ?_
  refine h_get X Y (k := 3) (v := .int (nI n)) hb0 rfl hin_J4 (by decide) kfl_J5_79 rfl dJ5_append_cf1ce_35 ?_
  refine lv_iload_n hx hb dJ5_append_cf1ce_38 rfl (lv_at hl 0 rfl) ?_
  refine lv_iadd hx hb dJ5_append_cf1ce_39 ?_
  refine h_ev (y := nI (n + L0)) (nI_add n L0) ?_
  refine h_put X Y (k := 3) (v := .int (nI (n + L0))) hb0 rfl hin_J4 tyJ4_ok nmJ4 (by decide) kfl_J5_79 rfl rfl rfl (Nat.le_of_ble_eq_true rfl) dJ5_append_cf1ce_40 (fun H locs Y => ?_)
  have Y : hHS G (hup Mz2 a (t, .inr (1, [.ref va2, .int 0, .int 0, .int (nI (n + L0))]))) s H locs := Y
  have hb1 := hup_tag (x := (t, .inr (1, [.ref va2, .int 0, .int 0, .int (nI (n + L0))]))) hb1 hb0 (by omega)
  have hfr := hfr.put (x := (t, .inr (1, [.ref va2, .int 0, .int 0, .int (nI (n + L0))]))) hb0 (Or.inl rfl)
  have hb0 : hup Mz2 a (t, .inr (1, [.ref va2, .int 0, .int 0, .int (nI (n + L0))])) a = some (t, .inr (1, [.ref va2, .int 0, .int 0, .int (nI (n + L0))])) := hup_eq
  generalize hup Mz2 a (t, .inr (1, [.ref va2, .int 0, .int 0, .int (nI (n + L0))])) = Mz3 at Y hb0 hb1 hfr
  refine lv_aload_n hx hb dJ5_append_cf1ce_43 rfl (lv_at hl 1 rfl) ?_
  exact h_aret (v := some a) X Y (Or.inl ⟨_, rfl⟩) ⟨rfl, ⟨cap2, va2, f2, hb0, hb1, hq2, hcap, hft2, hfin⟩, hfr⟩ (Nat.le_of_ble_eq_true rfl) (Nat.le_of_ble_eq_true rfl) dJ5_append_cf1ce_44
theorem gsu_J4_29 : GoodIn hGW (va_wsSU RJ4 29 yJ5_append_cf1ce (Cond.code yJ5_append_cf1ce cJ5_append_cf1ce 3 (Option.some (FieldType.object "java/lang/AbstractStringBuilder")) :: hGW)) := hgi5 kml_J4_29 ksm_J5_append_Ljava_lang_String__Ljava_lang_AbstractStringBuilder_ ksu_J4 kin_J5_append_cf1ce kini_J5 kco_J5_append_cf1ce
theorem dss_J5_append_cf1ce : yJ5_append_cf1ce.name ≠ "<init>" ∧ (parseMethodDescriptor yJ5_append_cf1ce.desc).map (fun d => d.parameters.length) = some 1 := ⟨by decide +kernel, by decide +kernel⟩
theorem dJ4_append_15ec4_0 : decode cJ4_append_15ec4 0 = .ok (.aload_n 0, 1) := by decide +kernel
theorem dJ4_append_15ec4_1 : decode cJ4_append_15ec4 1 = .ok (.aload_n 1, 1) := by decide +kernel
theorem dJ4_append_15ec4_2 : decode cJ4_append_15ec4 2 = .ok (.invokespecial 29, 3) := by decide +kernel
theorem dJ4_append_15ec4_5 : decode cJ4_append_15ec4 5 = .ok (.pop, 1) := by decide +kernel
theorem dJ4_append_15ec4_6 : decode cJ4_append_15ec4 6 = .ok (.aload_n 0, 1) := by decide +kernel
theorem dJ4_append_15ec4_7 : decode cJ4_append_15ec4 7 = .ok (.areturn, 1) := by decide +kernel
set_option maxHeartbeats 400000 in
set_option maxRecDepth 100000 in
theorem c_sbApp (l : Launch) (G : hG) (M : hM) (a t n cap : Nat) (T : Nat → Nat) (hV : SbV G M a t n cap T) (q0 L0 : Nat) (W0 : Nat → Nat) (hq : StV G M q0 L0 W0) (hz : ∀ (u : Nat) (e : va_E), M q0 = some (u, e) → u + 1 < t ∨ t + 1 < u) (hnl : n + L0 ≤ 600) : hCT l G yJ4_append_15ec4 cJ4_append_15ec4 2 (Option.some (FieldType.object "java/lang/StringBuilder")) (hRm 6 1 1300) M [.ref a, .ref q0] (fun v M' => v = some (.ref a) ∧ (∃ cap', SbV G M' a t (n + L0) cap' (sb_cat T n W0)) ∧ hFr (fun u => u = t ∨ u = t + 1) M M') := by
  refine hCT.of (own := RJ4) (nm := "append") (by decide) rfl rfl (Nat.le_of_ble_eq_true rfl) ?_
  intro p e s m args below meth c ls X Y hl
  have hx := X.1
  have hb := X.2.1
  have hl : lv_has ls 2 [(0, .ref a), (1, .ref q0)] := hl
  obtain ⟨va, f, hb0, hb1, hnc, hcap, hft, hT0⟩ := id hV
  refine lv_aload_n hx hb dJ4_append_15ec4_0 rfl (lv_at hl 0 rfl) ?_
  refine lv_aload_n hx hb dJ4_append_15ec4_1 rfl (lv_at hl 1 rfl) ?_
  refine h_callSU (rest := []) X Y (c_append5 l G M a t n cap T hV q0 L0 W0 hq hz hnl) gsu_J4_29 dss_J5_append_cf1ce hb0 rfl rfl hl.1 rfl (Nat.le_of_ble_eq_true rfl) ⟨Nat.le_of_ble_eq_true rfl, Nat.le_of_ble_eq_true rfl⟩ ⟨Nat.le_of_ble_eq_true rfl, Nat.le_of_ble_eq_true rfl⟩ dJ4_append_15ec4_2 ?_
  rintro _ Mz1 H locs ⟨rfl, hres⟩ Y
  try dsimp only [Option.toList, List.nil_append, List.singleton_append]
  refine lv_pop hx hb dJ4_append_15ec4_5 rfl ?_
  refine lv_aload_n hx hb dJ4_append_15ec4_6 rfl (lv_at hl 0 rfl) ?_
  exact h_aret (v := some a) X Y (Or.inl ⟨_, rfl⟩) ⟨rfl, hres⟩ (Nat.le_of_ble_eq_true rfl) (Nat.le_of_ble_eq_true rfl) dJ4_append_15ec4_7
