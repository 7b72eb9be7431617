-- THE TOKENS ARE READ
theorem h_evL {p : Program} {l : Launch} {e : Env} {R : Room} {s : State} {m : MethodId} {args : Array Value} {below : List Frame} {meth : Method} {c : Code} {H : Heap} {locs : List Loc} {cells slots : Nat} {Q : State → Prop} {pc : Nat} {ls : Array Slot} {rest : List Value} {x y : Int64} (h : x = y) (kk : W p l e R s m args below meth c H locs cells slots Q (F0 m pc ls (.long y :: rest))) : W p l e R s m args below meth c H locs cells slots Q (F0 m pc ls (.long x :: rest)) := h ▸ kk
/-- the tokens, the last one the end of the tape: their signs, numbers, words -/
def TkV (G : hG) (M : hM) (A : Nat → Nat) (N : Nat) (sg : Nat → Nat) (nb : Nat → Int32) (wd : Nat → Int64) : Prop :=
  M (A 3) = some (3, .inr (10, [.ref (A 4), .ref (A 5), .ref (A 6), .ref (A 7), .int (nI (N + 1))]))
  ∧ (∃ f : Nat → Option Nat, (∀ i, i ≤ N → f i = some (hSg G (sg i))) ∧ M (A 4) = some (4, .inl (hT G 3, 401, .inr (.inr (.inr (.inr f))))))
  ∧ (∃ f : Nat → Int32, M (A 5) = some (5, .inl (hT G 0, 401, .inl f)))
  ∧ (∃ f : Nat → Int32, (∀ i, i ≤ N → f i = nb i) ∧ M (A 6) = some (6, .inl (hT G 0, 401, .inl f)))
  ∧ ∃ f : Nat → Int64, (∀ i, i ≤ N → f i = wd i) ∧ M (A 7) = some (7, .inl (hT G 2, 401, .inr (.inl f)))
theorem TkV.fr {G : hG} {Z : Nat → Prop} {M M' : hM} {A : Nat → Nat} {N : Nat} {sg : Nat → Nat} {nb : Nat → Int32} {wd : Nat → Int64} (h : hFr Z M M') (hz : ∀ j, 3 ≤ j → j < 8 → ¬ Z j) (hV : TkV G M A N sg nb wd) : TkV G M' A N sg nb wd := by
  obtain ⟨h0, ⟨f, h1, h2⟩, ⟨f5, h3⟩, ⟨f6, h4, h5⟩, f7, h6, h7⟩ := hV
  exact ⟨h _ _ _ h0 (hz 3 (by omega) (by omega)), ⟨f, h1, h _ _ _ h2 (hz 4 (by omega) (by omega))⟩, ⟨f5, h _ _ _ h3 (hz 5 (by omega) (by omega))⟩, ⟨f6, h4, h _ _ _ h5 (hz 6 (by omega) (by omega))⟩, f7, h6, h _ _ _ h7 (hz 7 (by omega) (by omega))⟩
theorem TkAt.ne36 {B : Nat → Nat} {n s e k : Nat} (h : TkAt B n s e k) : k ≠ 36 := by
  have no : s < e → ¬ kwIs B n s e 36 := fun hse q => by
    rcases q with ⟨-, -, q, -⟩ | ⟨q, -⟩
    · have : sgL 36 = 0 := by decide
      omega
    · omega
  obtain ⟨hse, -, h | h | h⟩ := h
  · omega
  · rcases h.2.2.2.2 with z | z
    · omega
    · intro q; subst q; exact no hse z.2
  · intro q; subst q; exact no hse h.2.2.2.1
theorem c_numberAt2 (l : Launch) (G : hG) (M : hM) (a r n : Nat) (f : Nat → Int32) (B : Nat → Nat) (hn : n ≤ 2000) (ht1 : M a = some (1, .inr (9, [.ref r, .int (nI n)]))) (ht2 : M r = some (2, .inl (hT G 1, 2000, .inl f))) (hB : tB f B n) (p0 e0 : Nat) (hpe : p0 ≤ e0) (hen : e0 ≤ n) : hCT l G yX8_numberAt cX8_numberAt 5 (some FieldType.int) (hRm 2 0 0) M [.ref a, .int (nI p0), .int (nI e0)] (hRd M (.int (tNum B p0 (e0 - p0)))) := by
  obtain ⟨k, rfl⟩ := Nat.exists_eq_add_of_le hpe
  rw [Nat.add_sub_cancel_left]
  exact c_numberAt l G M a r n f B hn ht1 ht2 hB p0 k hen
theorem c_wordAt2 (l : Launch) (G : hG) (M : hM) (a r n : Nat) (f : Nat → Int32) (B : Nat → Nat) (hn : n ≤ 2000) (ht1 : M a = some (1, .inr (9, [.ref r, .int (nI n)]))) (ht2 : M r = some (2, .inl (hT G 1, 2000, .inl f))) (hB : tB f B n) (p0 e0 : Nat) (hpe : p0 ≤ e0) (hen : e0 ≤ n) : hCT l G yX8_wordAt cX8_wordAt 7 (some FieldType.long) (hRm 3 0 0) M [.ref a, .int (nI p0), .int (nI e0)] (hRd M (.long (tWd B n p0 (e0 - p0)))) := by
  obtain ⟨k, rfl⟩ := Nat.exists_eq_add_of_le hpe
  rw [Nat.add_sub_cancel_left]
  exact c_wordAt l G M a r n f B hn ht1 ht2 hB p0 k hen
theorem dX9_signAt_0 : decode cX9_signAt 0 = .ok (.iload_n 1, 1) := by decide +kernel
theorem dX9_signAt_1 : decode cX9_signAt 1 = .ok (.ifCond .lt 29, 3) := by decide +kernel
theorem dX9_signAt_4 : decode cX9_signAt 4 = .ok (.iload_n 1, 1) := by decide +kernel
theorem dX9_signAt_5 : decode cX9_signAt 5 = .ok (.aload_n 0, 1) := by decide +kernel
theorem dX9_signAt_6 : decode cX9_signAt 6 = .ok (.getfield 28, 3) := by decide +kernel
theorem dX9_signAt_9 : decode cX9_signAt 9 = .ok (.if_icmp .ge 21, 3) := by decide +kernel
theorem dX9_signAt_12 : decode cX9_signAt 12 = .ok (.iload_n 1, 1) := by decide +kernel
theorem dX9_signAt_13 : decode cX9_signAt 13 = .ok (.aload_n 0, 1) := by decide +kernel
theorem dX9_signAt_14 : decode cX9_signAt 14 = .ok (.getfield 11, 3) := by decide +kernel
theorem dX9_signAt_17 : decode cX9_signAt 17 = .ok (.arraylength, 1) := by decide +kernel
theorem dX9_signAt_18 : decode cX9_signAt 18 = .ok (.if_icmp .ge 12, 3) := by decide +kernel
theorem dX9_signAt_21 : decode cX9_signAt 21 = .ok (.aload_n 0, 1) := by decide +kernel
theorem dX9_signAt_22 : decode cX9_signAt 22 = .ok (.getfield 11, 3) := by decide +kernel
theorem dX9_signAt_25 : decode cX9_signAt 25 = .ok (.iload_n 1, 1) := by decide +kernel
theorem dX9_signAt_26 : decode cX9_signAt 26 = .ok (.aaload, 1) := by decide +kernel
theorem dX9_signAt_27 : decode cX9_signAt 27 = .ok (.goto 6, 3) := by decide +kernel
theorem dX9_signAt_33 : decode cX9_signAt 33 = .ok (.areturn, 1) := by decide +kernel
set_option maxHeartbeats 400000 in
set_option maxRecDepth 100000 in
theorem c_signAt (l : Launch) (G : hG) (M : hM) (A : Nat → Nat) (N : Nat) (sg : Nat → Nat) (nb : Nat → Int32) (wd : Nat → Int64) (hN : N < 400) (hTk : TkV G M A N sg nb wd) (i : Nat) (hi : i ≤ N) : hCT l G yX9_signAt cX9_signAt 2 (Option.some (FieldType.object "LossHouse$Sign")) (hRm 1 0 0) M [.ref (A 3), .int (nI i)] (hRd M (.ref (hSg G (sg i)))) := by
  refine hCT.of (own := RX9) (nm := "signAt") (by decide) rfl rfl (Nat.le_of_ble_eq_true rfl) ?_
  intro p e s m args below meth c ls X Y hl
  have hx := X.1
  have hb := X.2.1
  have hl : lv_has ls 2 [(0, .ref (A 3)), (1, .int (nI i))] := hl
  obtain ⟨hk0, ⟨fk4, hfk4, hk4⟩, ⟨fk5, hk5⟩, ⟨fk6, hfk6, hk6⟩, fk7, hfk7, hk7⟩ := id hTk
  refine lv_iload_n hx hb dX9_signAt_0 rfl (lv_at hl 1 rfl) ?_
  refine lv_if_lt (tgt := 30) hx hb dX9_signAt_1 (by decide) (fun c1 => absurd (show i < 0 from (nI_ltI (a := i) (b := 0) (by omega) (by omega)).mp c1) (by omega)) (fun c1 => ?_)
  have c1 : ¬ i < 0 := fun z9 => c1 ((nI_ltI (a := i) (b := 0) (by omega) (by omega)).mpr z9)
  refine lv_iload_n hx hb dX9_signAt_4 rfl (lv_at hl 1 rfl) ?_
  refine lv_aload_n hx hb dX9_signAt_5 rfl (lv_at hl 0 rfl) ?_
  refine h_get X Y (k := 4) (v := .int (nI (N + 1))) hk0 rfl hin_X9 (by decide) kfl_X9_28 rfl dX9_signAt_6 ?_
  refine lv_icmp_ge (tgt := 30) hx hb dX9_signAt_9 (by decide) (fun c9 => absurd (show (N + 1) ≤ i from (nI_leI (a := (N + 1)) (b := i) (by omega) (by omega)).mp c9) (by omega)) (fun c9 => ?_)
  have c9 : ¬ (N + 1) ≤ i := fun z9 => c9 ((nI_leI (a := (N + 1)) (b := i) (by omega) (by omega)).mpr z9)
  refine lv_iload_n hx hb dX9_signAt_12 rfl (lv_at hl 1 rfl) ?_
  refine lv_aload_n hx hb dX9_signAt_13 rfl (lv_at hl 0 rfl) ?_
  refine h_get X Y (k := 0) (v := .ref (A 4)) hk0 rfl hin_X9 (by decide) kfl_X9_11 rfl dX9_signAt_14 ?_
  refine h_alen X Y 3 hk4 rfl dX9_signAt_17 ?_
  refine lv_icmp_ge (tgt := 30) hx hb dX9_signAt_18 (by decide) (fun c18 => absurd (show 401 ≤ i from (nI_leI (a := 401) (b := i) (by omega) (by omega)).mp c18) (by omega)) (fun c18 => ?_)
  have c18 : ¬ 401 ≤ i := fun z9 => c18 ((nI_leI (a := 401) (b := i) (by omega) (by omega)).mpr z9)
  refine lv_aload_n hx hb dX9_signAt_21 rfl (lv_at hl 0 rfl) ?_
  refine h_get X Y (k := 0) (v := .ref (A 4)) hk0 rfl hin_X9 (by decide) kfl_X9_11 rfl dX9_signAt_22 ?_
  refine lv_iload_n hx hb dX9_signAt_25 rfl (lv_at hl 1 rfl) ?_
  refine h_aald X Y 3 (i := i) hk4 rfl (by omega) (by decide) dX9_signAt_26 ?_
  refine h_rf (hfk4 i (by omega)) ?_
  refine lv_goto (tgt := 33) hx hb dX9_signAt_27 (by decide) ?_
  exact h_aret (v := some (hSg G (sg i))) X Y (Or.inl ⟨_, rfl⟩) ⟨rfl, rfl⟩ (Nat.le_refl _) (Nat.le_refl _) dX9_signAt_33
theorem dX9_numberAt_0 : decode cX9_numberAt 0 = .ok (.iload_n 1, 1) := by decide +kernel
theorem dX9_numberAt_1 : decode cX9_numberAt 1 = .ok (.ifCond .lt 21, 3) := by decide +kernel
theorem dX9_numberAt_4 : decode cX9_numberAt 4 = .ok (.iload_n 1, 1) := by decide +kernel
theorem dX9_numberAt_5 : decode cX9_numberAt 5 = .ok (.aload_n 0, 1) := by decide +kernel
theorem dX9_numberAt_6 : decode cX9_numberAt 6 = .ok (.getfield 21, 3) := by decide +kernel
theorem dX9_numberAt_9 : decode cX9_numberAt 9 = .ok (.arraylength, 1) := by decide +kernel
theorem dX9_numberAt_10 : decode cX9_numberAt 10 = .ok (.if_icmp .ge 12, 3) := by decide +kernel
theorem dX9_numberAt_13 : decode cX9_numberAt 13 = .ok (.aload_n 0, 1) := by decide +kernel
theorem dX9_numberAt_14 : decode cX9_numberAt 14 = .ok (.getfield 21, 3) := by decide +kernel
theorem dX9_numberAt_17 : decode cX9_numberAt 17 = .ok (.iload_n 1, 1) := by decide +kernel
theorem dX9_numberAt_18 : decode cX9_numberAt 18 = .ok (.iaload, 1) := by decide +kernel
theorem dX9_numberAt_19 : decode cX9_numberAt 19 = .ok (.goto 4, 3) := by decide +kernel
theorem dX9_numberAt_23 : decode cX9_numberAt 23 = .ok (.ireturn, 1) := by decide +kernel
set_option maxHeartbeats 400000 in
set_option maxRecDepth 100000 in
theorem c_tokNum (l : Launch) (G : hG) (M : hM) (A : Nat → Nat) (N : Nat) (sg : Nat → Nat) (nb : Nat → Int32) (wd : Nat → Int64) (hN : N < 400) (hTk : TkV G M A N sg nb wd) (i : Nat) (hi : i ≤ N) : hCT l G yX9_numberAt cX9_numberAt 2 (Option.some FieldType.int) (hRm 1 0 0) M [.ref (A 3), .int (nI i)] (hRd M (.int (nb i))) := by
  refine hCT.of (own := RX9) (nm := "numberAt") (by decide) rfl rfl (Nat.le_of_ble_eq_true rfl) ?_
  intro p e s m args below meth c ls X Y hl
  have hx := X.1
  have hb := X.2.1
  have hl : lv_has ls 2 [(0, .ref (A 3)), (1, .int (nI i))] := hl
  obtain ⟨hk0, ⟨fk4, hfk4, hk4⟩, ⟨fk5, hk5⟩, ⟨fk6, hfk6, hk6⟩, fk7, hfk7, hk7⟩ := id hTk
  refine lv_iload_n hx hb dX9_numberAt_0 rfl (lv_at hl 1 rfl) ?_
  refine lv_if_lt (tgt := 22) hx hb dX9_numberAt_1 (by decide) (fun c1 => absurd (show i < 0 from (nI_ltI (a := i) (b := 0) (by omega) (by omega)).mp c1) (by omega)) (fun c1 => ?_)
  have c1 : ¬ i < 0 := fun z9 => c1 ((nI_ltI (a := i) (b := 0) (by omega) (by omega)).mpr z9)
  refine lv_iload_n hx hb dX9_numberAt_4 rfl (lv_at hl 1 rfl) ?_
  refine lv_aload_n hx hb dX9_numberAt_5 rfl (lv_at hl 0 rfl) ?_
  refine h_get X Y (k := 2) (v := .ref (A 6)) hk0 rfl hin_X9 (by decide) kfl_X9_21 rfl dX9_numberAt_6 ?_
  refine h_alen X Y 0 hk6 rfl dX9_numberAt_9 ?_
  refine lv_icmp_ge (tgt := 22) hx hb dX9_numberAt_10 (by decide) (fun c10 => absurd (show 401 ≤ i from (nI_leI (a := 401) (b := i) (by omega) (by omega)).mp c10) (by omega)) (fun c10 => ?_)
  have c10 : ¬ 401 ≤ i := fun z9 => c10 ((nI_leI (a := 401) (b := i) (by omega) (by omega)).mpr z9)
  refine lv_aload_n hx hb dX9_numberAt_13 rfl (lv_at hl 0 rfl) ?_
  refine h_get X Y (k := 2) (v := .ref (A 6)) hk0 rfl hin_X9 (by decide) kfl_X9_21 rfl dX9_numberAt_14 ?_
  refine lv_iload_n hx hb dX9_numberAt_17 rfl (lv_at hl 1 rfl) ?_
  refine h_iald X Y (i := i) hk6 (by omega) (by decide) dX9_numberAt_18 ?_
  refine lv_goto (tgt := 23) hx hb dX9_numberAt_19 (by decide) ?_
  exact h_iret X Y ⟨congrArg (fun z => some (Value.int z)) (hfk6 i hi), rfl⟩ (Nat.le_refl _) (Nat.le_refl _) dX9_numberAt_23
theorem dX9_wordAt_0 : decode cX9_wordAt 0 = .ok (.iload_n 1, 1) := by decide +kernel
theorem dX9_wordAt_1 : decode cX9_wordAt 1 = .ok (.ifCond .lt 21, 3) := by decide +kernel
theorem dX9_wordAt_4 : decode cX9_wordAt 4 = .ok (.iload_n 1, 1) := by decide +kernel
theorem dX9_wordAt_5 : decode cX9_wordAt 5 = .ok (.aload_n 0, 1) := by decide +kernel
theorem dX9_wordAt_6 : decode cX9_wordAt 6 = .ok (.getfield 24, 3) := by decide +kernel
theorem dX9_wordAt_9 : decode cX9_wordAt 9 = .ok (.arraylength, 1) := by decide +kernel
theorem dX9_wordAt_10 : decode cX9_wordAt 10 = .ok (.if_icmp .ge 12, 3) := by decide +kernel
theorem dX9_wordAt_13 : decode cX9_wordAt 13 = .ok (.aload_n 0, 1) := by decide +kernel
theorem dX9_wordAt_14 : decode cX9_wordAt 14 = .ok (.getfield 24, 3) := by decide +kernel
theorem dX9_wordAt_17 : decode cX9_wordAt 17 = .ok (.iload_n 1, 1) := by decide +kernel
theorem dX9_wordAt_18 : decode cX9_wordAt 18 = .ok (.laload, 1) := by decide +kernel
theorem dX9_wordAt_19 : decode cX9_wordAt 19 = .ok (.goto 4, 3) := by decide +kernel
theorem dX9_wordAt_23 : decode cX9_wordAt 23 = .ok (.lreturn, 1) := by decide +kernel
set_option maxHeartbeats 400000 in
set_option maxRecDepth 100000 in
theorem c_tokWd (l : Launch) (G : hG) (M : hM) (A : Nat → Nat) (N : Nat) (sg : Nat → Nat) (nb : Nat → Int32) (wd : Nat → Int64) (hN : N < 400) (hTk : TkV G M A N sg nb wd) (i : Nat) (hi : i ≤ N) : hCT l G yX9_wordAt cX9_wordAt 2 (Option.some FieldType.long) (hRm 1 0 0) M [.ref (A 3), .int (nI i)] (hRd M (.long (wd i))) := by
  refine hCT.of (own := RX9) (nm := "wordAt") (by decide) rfl rfl (Nat.le_of_ble_eq_true rfl) ?_
  intro p e s m args below meth c ls X Y hl
  have hx := X.1
  have hb := X.2.1
  have hl : lv_has ls 2 [(0, .ref (A 3)), (1, .int (nI i))] := hl
  obtain ⟨hk0, ⟨fk4, hfk4, hk4⟩, ⟨fk5, hk5⟩, ⟨fk6, hfk6, hk6⟩, fk7, hfk7, hk7⟩ := id hTk
  refine lv_iload_n hx hb dX9_wordAt_0 rfl (lv_at hl 1 rfl) ?_
  refine lv_if_lt (tgt := 22) hx hb dX9_wordAt_1 (by decide) (fun c1 => absurd (show i < 0 from (nI_ltI (a := i) (b := 0) (by omega) (by omega)).mp c1) (by omega)) (fun c1 => ?_)
  have c1 : ¬ i < 0 := fun z9 => c1 ((nI_ltI (a := i) (b := 0) (by omega) (by omega)).mpr z9)
  refine lv_iload_n hx hb dX9_wordAt_4 rfl (lv_at hl 1 rfl) ?_
  refine lv_aload_n hx hb dX9_wordAt_5 rfl (lv_at hl 0 rfl) ?_
  refine h_get X Y (k := 3) (v := .ref (A 7)) hk0 rfl hin_X9 (by decide) kfl_X9_24 rfl dX9_wordAt_6 ?_
  refine h_alen X Y 2 hk7 rfl dX9_wordAt_9 ?_
  refine lv_icmp_ge (tgt := 22) hx hb dX9_wordAt_10 (by decide) (fun c10 => absurd (show 401 ≤ i from (nI_leI (a := 401) (b := i) (by omega) (by omega)).mp c10) (by omega)) (fun c10 => ?_)
  have c10 : ¬ 401 ≤ i := fun z9 => c10 ((nI_leI (a := 401) (b := i) (by omega) (by omega)).mpr z9)
  refine lv_aload_n hx hb dX9_wordAt_13 rfl (lv_at hl 0 rfl) ?_
  refine h_get X Y (k := 3) (v := .ref (A 7)) hk0 rfl hin_X9 (by decide) kfl_X9_24 rfl dX9_wordAt_14 ?_
  refine lv_iload_n hx hb dX9_wordAt_17 rfl (lv_at hl 1 rfl) ?_
  refine h_lald X Y (i := i) hk7 (by omega) (by decide) dX9_wordAt_18 ?_
  refine lv_goto (tgt := 23) hx hb dX9_wordAt_19 (by decide) ?_
  exact h_lret X Y ⟨congrArg (fun z => some (Value.long z)) (hfk7 i hi), rfl⟩ (Nat.le_refl _) (Nat.le_refl _) dX9_wordAt_23
theorem gw_X9_32 : GoodIn hGW (wsV RX9 32 RX8 yX8_behindBlanks (Cond.code yX8_behindBlanks cX8_behindBlanks 3 (Option.some FieldType.int) :: hGW)) := hgi4 kml_X9_32 kin_X8_behindBlanks kse_X8_X8_behindBlanks_X8_behindBlanks kini_X8 kco_X8_behindBlanks
theorem dsc_X8_behindBlanks : yX8_behindBlanks.cls = RX8 ∧ yX8_behindBlanks.cls ≠ "java/lang/invoke/MethodHandle" ∧ yX8_behindBlanks.cls ≠ "java/lang/invoke/VarHandle" ∧ (parseMethodDescriptor yX8_behindBlanks.desc).map (fun d => d.parameters.length) = some 1 := ⟨rfl, by decide +kernel, by decide +kernel, by decide +kernel⟩
theorem gw_X9_38 : GoodIn hGW (wsV RX9 38 RX9 yX9_endOf (Cond.code yX9_endOf cX9_endOf 3 (Option.some FieldType.int) :: hGW)) := hgi4 kml_X9_38 kin_X9_endOf kse_X9_X9_endOf_X9_endOf kini_X9 kco_X9_endOf
theorem dsc_X9_endOf : yX9_endOf.cls = RX9 ∧ yX9_endOf.cls ≠ "java/lang/invoke/MethodHandle" ∧ yX9_endOf.cls ≠ "java/lang/invoke/VarHandle" ∧ (parseMethodDescriptor yX9_endOf.desc).map (fun d => d.parameters.length) = some 2 := ⟨rfl, by decide +kernel, by decide +kernel, by decide +kernel⟩
theorem gw_X9_42 : GoodIn hGW (wsV RX9 42 RX9 yX9_signOf (Cond.code yX9_signOf cX9_signOf 6 (Option.some (FieldType.object "LossHouse$Sign")) :: hGW)) := hgi4 kml_X9_42 kin_X9_signOf kse_X9_X9_signOf_X9_signOf kini_X9 kco_X9_signOf
theorem dsc_X9_signOf : yX9_signOf.cls = RX9 ∧ yX9_signOf.cls ≠ "java/lang/invoke/MethodHandle" ∧ yX9_signOf.cls ≠ "java/lang/invoke/VarHandle" ∧ (parseMethodDescriptor yX9_signOf.desc).map (fun d => d.parameters.length) = some 3 := ⟨rfl, by decide +kernel, by decide +kernel, by decide +kernel⟩
theorem gw_X9_63 : GoodIn hGW (wsV RX9 63 RX8 yX8_wordAt (Cond.code yX8_wordAt cX8_wordAt 7 (Option.some FieldType.long) :: hGW)) := hgi4 kml_X9_63 kin_X8_wordAt kse_X8_X8_wordAt_X8_wordAt kini_X8 kco_X8_wordAt
theorem dsc_X8_wordAt : yX8_wordAt.cls = RX8 ∧ yX8_wordAt.cls ≠ "java/lang/invoke/MethodHandle" ∧ yX8_wordAt.cls ≠ "java/lang/invoke/VarHandle" ∧ (parseMethodDescriptor yX8_wordAt.desc).map (fun d => d.parameters.length) = some 2 := ⟨rfl, by decide +kernel, by decide +kernel, by decide +kernel⟩
theorem gw_X9_56 : GoodIn hGW (wsV RX9 56 RX8 yX8_numberAt (Cond.code yX8_numberAt cX8_numberAt 5 (Option.some FieldType.int) :: hGW)) := hgi4 kml_X9_56 kin_X8_numberAt kse_X8_X8_numberAt_X8_numberAt kini_X8 kco_X8_numberAt
theorem dsc_X8_numberAt : yX8_numberAt.cls = RX8 ∧ yX8_numberAt.cls ≠ "java/lang/invoke/MethodHandle" ∧ yX8_numberAt.cls ≠ "java/lang/invoke/VarHandle" ∧ (parseMethodDescriptor yX8_numberAt.desc).map (fun d => d.parameters.length) = some 2 := ⟨rfl, by decide +kernel, by decide +kernel, by decide +kernel⟩
theorem dX9_read_0 : decode cX9_read 0 = .ok (.aload_n 0, 1) := by decide +kernel
theorem dX9_read_1 : decode cX9_read 1 = .ok (.iconst 0, 1) := by decide +kernel
theorem dX9_read_2 : decode cX9_read 2 = .ok (.putfield 28, 3) := by decide +kernel
theorem dX9_read_5 : decode cX9_read 5 = .ok (.iconst 0, 1) := by decide +kernel
theorem dX9_read_6 : decode cX9_read 6 = .ok (.istore_n 2, 1) := by decide +kernel
theorem dX9_read_7 : decode cX9_read 7 = .ok (.iconst 0, 1) := by decide +kernel
theorem dX9_read_8 : decode cX9_read 8 = .ok (.istore_n 3, 1) := by decide +kernel
theorem dX9_read_9 : decode cX9_read 9 = .ok (.iload_n 3, 1) := by decide +kernel
theorem dX9_read_10 : decode cX9_read 10 = .ok (.sipush 400, 3) := by decide +kernel
theorem dX9_read_13 : decode cX9_read 13 = .ok (.if_icmp .gt 151, 3) := by decide +kernel
theorem dX9_read_16 : decode cX9_read 16 = .ok (.aload_n 1, 1) := by decide +kernel
theorem dX9_read_17 : decode cX9_read 17 = .ok (.iload_n 2, 1) := by decide +kernel
theorem dX9_read_18 : decode cX9_read 18 = .ok (.invokevirtual 32, 3) := by decide +kernel
theorem dX9_read_21 : decode cX9_read 21 = .ok (.istore 4, 2) := by decide +kernel
theorem dX9_read_23 : decode cX9_read 23 = .ok (.aload_n 0, 1) := by decide +kernel
theorem dX9_read_24 : decode cX9_read 24 = .ok (.aload_n 1, 1) := by decide +kernel
theorem dX9_read_25 : decode cX9_read 25 = .ok (.iload 4, 2) := by decide +kernel
theorem dX9_read_27 : decode cX9_read 27 = .ok (.invokevirtual 38, 3) := by decide +kernel
theorem dX9_read_30 : decode cX9_read 30 = .ok (.istore 5, 2) := by decide +kernel
theorem dX9_read_32 : decode cX9_read 32 = .ok (.aload_n 0, 1) := by decide +kernel
theorem dX9_read_33 : decode cX9_read 33 = .ok (.aload_n 1, 1) := by decide +kernel
theorem dX9_read_34 : decode cX9_read 34 = .ok (.iload 4, 2) := by decide +kernel
theorem dX9_read_36 : decode cX9_read 36 = .ok (.iload 5, 2) := by decide +kernel
theorem dX9_read_38 : decode cX9_read 38 = .ok (.invokevirtual 42, 3) := by decide +kernel
theorem dX9_read_41 : decode cX9_read 41 = .ok (.astore 6, 2) := by decide +kernel
theorem dX9_read_43 : decode cX9_read 43 = .ok (.iload_n 3, 1) := by decide +kernel
theorem dX9_read_44 : decode cX9_read 44 = .ok (.sipush 400, 3) := by decide +kernel
theorem dX9_read_47 : decode cX9_read 47 = .ok (.if_icmp .ne 16, 3) := by decide +kernel
theorem dX9_read_63 : decode cX9_read 63 = .ok (.aload_n 0, 1) := by decide +kernel
theorem dX9_read_64 : decode cX9_read 64 = .ok (.getfield 11, 3) := by decide +kernel
theorem dX9_read_67 : decode cX9_read 67 = .ok (.iload_n 3, 1) := by decide +kernel
theorem dX9_read_68 : decode cX9_read 68 = .ok (.aload 6, 2) := by decide +kernel
theorem dX9_read_70 : decode cX9_read 70 = .ok (.aastore, 1) := by decide +kernel
theorem dX9_read_71 : decode cX9_read 71 = .ok (.aload_n 0, 1) := by decide +kernel
theorem dX9_read_72 : decode cX9_read 72 = .ok (.getfield 17, 3) := by decide +kernel
theorem dX9_read_75 : decode cX9_read 75 = .ok (.iload_n 3, 1) := by decide +kernel
theorem dX9_read_76 : decode cX9_read 76 = .ok (.iload 4, 2) := by decide +kernel
theorem dX9_read_78 : decode cX9_read 78 = .ok (.iastore, 1) := by decide +kernel
theorem dX9_read_79 : decode cX9_read 79 = .ok (.aload_n 0, 1) := by decide +kernel
theorem dX9_read_80 : decode cX9_read 80 = .ok (.getfield 21, 3) := by decide +kernel
theorem dX9_read_83 : decode cX9_read 83 = .ok (.iload_n 3, 1) := by decide +kernel
theorem dX9_read_84 : decode cX9_read 84 = .ok (.aload 6, 2) := by decide +kernel
theorem dX9_read_86 : decode cX9_read 86 = .ok (.getstatic 53, 3) := by decide +kernel
theorem dX9_read_89 : decode cX9_read 89 = .ok (.if_acmp .ne 14, 3) := by decide +kernel
theorem dX9_read_92 : decode cX9_read 92 = .ok (.aload_n 1, 1) := by decide +kernel
theorem dX9_read_93 : decode cX9_read 93 = .ok (.iload 4, 2) := by decide +kernel
theorem dX9_read_95 : decode cX9_read 95 = .ok (.iload 5, 2) := by decide +kernel
theorem dX9_read_97 : decode cX9_read 97 = .ok (.invokevirtual 56, 3) := by decide +kernel
theorem dX9_read_100 : decode cX9_read 100 = .ok (.goto 4, 3) := by decide +kernel
theorem dX9_read_103 : decode cX9_read 103 = .ok (.iconst 0, 1) := by decide +kernel
theorem dX9_read_104 : decode cX9_read 104 = .ok (.iastore, 1) := by decide +kernel
theorem dX9_read_105 : decode cX9_read 105 = .ok (.aload_n 0, 1) := by decide +kernel
theorem dX9_read_106 : decode cX9_read 106 = .ok (.getfield 24, 3) := by decide +kernel
theorem dX9_read_109 : decode cX9_read 109 = .ok (.iload_n 3, 1) := by decide +kernel
theorem dX9_read_110 : decode cX9_read 110 = .ok (.aload 6, 2) := by decide +kernel
theorem dX9_read_112 : decode cX9_read 112 = .ok (.getstatic 60, 3) := by decide +kernel
theorem dX9_read_115 : decode cX9_read 115 = .ok (.if_acmp .ne 14, 3) := by decide +kernel
theorem dX9_read_118 : decode cX9_read 118 = .ok (.aload_n 1, 1) := by decide +kernel
theorem dX9_read_119 : decode cX9_read 119 = .ok (.iload 4, 2) := by decide +kernel
theorem dX9_read_121 : decode cX9_read 121 = .ok (.iload 5, 2) := by decide +kernel
theorem dX9_read_123 : decode cX9_read 123 = .ok (.invokevirtual 63, 3) := by decide +kernel
theorem dX9_read_126 : decode cX9_read 126 = .ok (.goto 4, 3) := by decide +kernel
theorem dX9_read_129 : decode cX9_read 129 = .ok (.lconst 0, 1) := by decide +kernel
theorem dX9_read_130 : decode cX9_read 130 = .ok (.lastore, 1) := by decide +kernel
theorem dX9_read_131 : decode cX9_read 131 = .ok (.aload_n 0, 1) := by decide +kernel
theorem dX9_read_132 : decode cX9_read 132 = .ok (.iload_n 3, 1) := by decide +kernel
theorem dX9_read_133 : decode cX9_read 133 = .ok (.iconst 1, 1) := by decide +kernel
theorem dX9_read_134 : decode cX9_read 134 = .ok (.iadd, 1) := by decide +kernel
theorem dX9_read_135 : decode cX9_read 135 = .ok (.putfield 28, 3) := by decide +kernel
theorem dX9_read_138 : decode cX9_read 138 = .ok (.iload 5, 2) := by decide +kernel
theorem dX9_read_140 : decode cX9_read 140 = .ok (.istore_n 2, 1) := by decide +kernel
theorem dX9_read_141 : decode cX9_read 141 = .ok (.aload 6, 2) := by decide +kernel
theorem dX9_read_143 : decode cX9_read 143 = .ok (.getstatic 46, 3) := by decide +kernel
theorem dX9_read_146 : decode cX9_read 146 = .ok (.if_acmp .eq 11, 3) := by decide +kernel
theorem dX9_read_149 : decode cX9_read 149 = .ok (.aload 6, 2) := by decide +kernel
theorem dX9_read_151 : decode cX9_read 151 = .ok (.getstatic 50, 3) := by decide +kernel
theorem dX9_read_154 : decode cX9_read 154 = .ok (.if_acmp .ne 4, 3) := by decide +kernel
theorem dX9_read_157 : decode cX9_read 157 = .ok (.return_, 1) := by decide +kernel
theorem dX9_read_158 : decode cX9_read 158 = .ok (.iinc 3 1, 3) := by decide +kernel
theorem dX9_read_161 : decode cX9_read 161 = .ok (.goto (-152), 3) := by decide +kernel
set_option maxHeartbeats 1000000 in
set_option maxRecDepth 100000 in
theorem c_read (l : Launch) (G : hG) (M : hM) (a r n : Nat) (f : Nat → Int32) (B : Nat → Nat) (hn : n ≤ 2000) (ht1 : M a = some (1, .inr (9, [.ref r, .int (nI n)]))) (ht2 : M r = some (2, .inl (hT G 1, 2000, .inl f))) (hB : tB f B n) (A : Nat → Nat) (cnt : Int32) (g4 : Nat → Option Nat) (g5 g6 : Nat → Int32) (g7 : Nat → Int64) (hk0 : M (A 3) = some (3, .inr (10, [.ref (A 4), .ref (A 5), .ref (A 6), .ref (A 7), .int cnt]))) (hk4 : M (A 4) = some (4, .inl (hT G 3, 401, .inr (.inr (.inr (.inr g4)))))) (hk5 : M (A 5) = some (5, .inl (hT G 0, 401, .inl g5))) (hk6 : M (A 6) = some (6, .inl (hT G 0, 401, .inl g6))) (hk7 : M (A 7) = some (7, .inl (hT G 2, 401, .inr (.inl g7)))) (N : Nat) (hN : N < 400) (ts en tk : Nat → Nat) (hen0 : en 0 = 0) (htN : ts N = n) (htk36 : tk N = 36) (hbl : ∀ i, i ≤ N → en i ≤ ts i ∧ ∀ j, en i ≤ j → j < ts i → B j = 32) (hat : ∀ i, i < N → TkAt B n (ts i) (en (i + 1)) (tk i) ∧ B (ts i) ≠ 32 ∧ B (ts i) ≠ 10) (hkwE : kwIs B n n (n + 2) 37) : hCT l G yX9_read cX9_read 7 (Option.none) (hRm 8 0 0) M [.ref (A 3), .ref a] (fun v M' => v = none ∧ TkV G M' A N tk (fun i => if tk i = 34 then tNum B (ts i) (en (i + 1) - ts i) else 0) (fun i => if tk i = 33 then tWd B n (ts i) (en (i + 1) - ts i) else 0) ∧ hFr (fun u => u = 3 ∨ u = 4 ∨ u = 5 ∨ u = 6 ∨ u = 7) M M') := by
  refine hCT.of (own := RX9) (nm := "read") (by decide) rfl rfl (Nat.le_of_ble_eq_true rfl) ?_
  intro p e s m args below meth c ls X Y hl
  have hx := X.1
  have hb := X.2.1
  have hl : lv_has ls 7 [(0, .ref (A 3)), (1, .ref a)] := hl
  have hfr : hFr (fun u => u = 3 ∨ u = 4 ∨ u = 5 ∨ u = 6 ∨ u = 7) M M := hFr.rf
  refine lv_aload_n hx hb dX9_read_0 rfl (lv_at hl 0 rfl) ?_
  refine lv_iconst (v := 0) hx hb dX9_read_1 (by decide) ?_
  refine h_put X Y (k := 4) (v := .int 0) hk0 rfl hin_X9 tyX9_ok nmX9 (by decide) kfl_X9_28 rfl rfl rfl (Nat.le_of_ble_eq_true rfl) dX9_read_2 (fun H locs Y => ?_)
  have Y : hHS G (hup M (A 3) (3, .inr (10, [.ref (A 4), .ref (A 5), .ref (A 6), .ref (A 7), .int 0]))) s H locs := Y
  have ht1 := hup_tag (x := (3, .inr (10, [.ref (A 4), .ref (A 5), .ref (A 6), .ref (A 7), .int 0]))) ht1 hk0 (by omega)
  have ht2 := hup_tag (x := (3, .inr (10, [.ref (A 4), .ref (A 5), .ref (A 6), .ref (A 7), .int 0]))) ht2 hk0 (by omega)
  have hk4 := hup_tag (x := (3, .inr (10, [.ref (A 4), .ref (A 5), .ref (A 6), .ref (A 7), .int 0]))) hk4 hk0 (by omega)
  have hk5 := hup_tag (x := (3, .inr (10, [.ref (A 4), .ref (A 5), .ref (A 6), .ref (A 7), .int 0]))) hk5 hk0 (by omega)
  have hk6 := hup_tag (x := (3, .inr (10, [.ref (A 4), .ref (A 5), .ref (A 6), .ref (A 7), .int 0]))) hk6 hk0 (by omega)
  have hk7 := hup_tag (x := (3, .inr (10, [.ref (A 4), .ref (A 5), .ref (A 6), .ref (A 7), .int 0]))) hk7 hk0 (by omega)
  have hfr := hfr.put (x := (3, .inr (10, [.ref (A 4), .ref (A 5), .ref (A 6), .ref (A 7), .int 0]))) hk0 (Or.inl rfl)
  have hk0 : hup M (A 3) (3, .inr (10, [.ref (A 4), .ref (A 5), .ref (A 6), .ref (A 7), .int 0])) (A 3) = some (3, .inr (10, [.ref (A 4), .ref (A 5), .ref (A 6), .ref (A 7), .int 0])) := hup_eq
  generalize hup M (A 3) (3, .inr (10, [.ref (A 4), .ref (A 5), .ref (A 6), .ref (A 7), .int 0])) = Mz1 at Y hk0 ht1 ht2 hk4 hk5 hk6 hk7 hfr
  refine lv_iconst (v := 0) hx hb dX9_read_5 (by decide) ?_
  refine lv_istore_n (lv' := [(2, .int 0), (0, .ref (A 3)), (1, .ref a)]) hx hb dX9_read_6 rfl hl (by decide) rfl (fun ls hl => ?_)
  refine lv_iconst (v := 0) hx hb dX9_read_7 (by decide) ?_
  refine lv_istore_n (lv' := [(3, .int 0), (2, .int 0), (0, .ref (A 3)), (1, .ref a)]) hx hb dX9_read_8 rfl hl (by decide) rfl (fun ls hl => ?_)
  have hl : lv_has ls 7 [(3, .int (nI 0)), (2, .int (nI (en 0))), (0, .ref (A 3)), (1, .ref a)] := by rw [hen0]; exact lv_sub hl [0, 1, 2, 3] rfl
  have loop : ∀ (d i : Nat), i + d = N + 2 → i ≤ N → ∀ (M1 : hM) (c1 : Int32) (k4 : Nat → Option Nat) (k5 k6 : Nat → Int32) (k7 : Nat → Int64), M1 a = some (1, .inr (9, [.ref r, .int (nI n)])) → M1 r = some (2, .inl (hT G 1, 2000, .inl f)) → M1 (A 3) = some (3, .inr (10, [.ref (A 4), .ref (A 5), .ref (A 6), .ref (A 7), .int c1])) → M1 (A 4) = some (4, .inl (hT G 3, 401, .inr (.inr (.inr (.inr k4))))) → M1 (A 5) = some (5, .inl (hT G 0, 401, .inl k5)) → M1 (A 6) = some (6, .inl (hT G 0, 401, .inl k6)) → M1 (A 7) = some (7, .inl (hT G 2, 401, .inr (.inl k7))) → hFr (fun u => u = 3 ∨ u = 4 ∨ u = 5 ∨ u = 6 ∨ u = 7) M M1 → (∀ j, j < i → k4 j = some (hSg G (tk j))) → (∀ j, j < i → k6 j = if tk j = 34 then tNum B (ts j) (en (j + 1) - ts j) else 0) → (∀ j, j < i → k7 j = if tk j = 33 then tWd B n (ts j) (en (j + 1) - ts j) else 0) → ∀ (H : Heap) (locs : List Loc) (ls : Array Slot), hHS G M1 s H locs → lv_has ls 7 [(0, .ref (A 3)), (1, .ref a), (2, .int (nI (en i))), (3, .int (nI i))] → W p l e (hRm 8 0 0) s m args below meth c H locs 0 0 (MQ below (hQ G (fun v M' => v = none ∧ TkV G M' A N tk (fun i => if tk i = 34 then tNum B (ts i) (en (i + 1) - ts i) else 0) (fun i => if tk i = 33 then tWd B n (ts i) (en (i + 1) - ts i) else 0) ∧ hFr (fun u => u = 3 ∨ u = 4 ∨ u = 5 ∨ u = 6 ∨ u = 7) M M')) args s 0 0 (hA G)) (F0 m 9 ls []) := by
    intro d
    induction d with
    | zero => intro i h1; intros; exact absurd h1 (by omega)
    | succ d ih =>
      intro i h1 h2 M1 c1 k4 k5 k6 k7 ht1 ht2 hk0 hk4 hk5 hk6 hk7 hfr hq4 hq6 hq7 H locs ls Y hl
      refine lv_iload_n hx hb dX9_read_9 rfl (lv_at hl 3 rfl) ?_
      refine lv_sipush (v := 400) hx hb dX9_read_10 (by decide) ?_
      refine lv_icmp_gt (tgt := 164) hx hb dX9_read_13 (by decide) (fun c13 => absurd (show 400 < i from (nI_ltI (a := 400) (b := i) (by omega) (by omega)).mp c13) (by omega)) (fun c13 => ?_)
      have c13 : ¬ 400 < i := fun z9 => c13 ((nI_ltI (a := 400) (b := i) (by omega) (by omega)).mpr z9)
      obtain ⟨hb1, hb2⟩ := hbl i h2
      rcases Nat.lt_or_ge i N with hlt | hge
      · obtain ⟨hTk, hnb1, hnb2⟩ := hat i hlt
        have hse := hTk.1
        have hee := hTk.2.1
        have hk37 := hTk.lt
        have hk36 := hTk.ne36
        refine lv_aload_n hx hb dX9_read_16 rfl (lv_at hl 1 rfl) ?_
        refine lv_iload_n hx hb dX9_read_17 rfl (lv_at hl 2 rfl) ?_
        refine h_callVr (rest := []) X Y (c_behindBlanks l G M1 a r n f B hn ht1 ht2 hB (en i) (ts i) hb1 (by omega) hb2 (Or.inr ⟨hnb1, hnb2⟩)) rfl rfl gw_X9_32 dsc_X8_behindBlanks ht1 rfl rfl rfl rfl hl.1 (Nat.le_of_ble_eq_true rfl) ⟨Nat.le_of_ble_eq_true rfl, Nat.le_of_ble_eq_true rfl⟩ ⟨Nat.le_of_ble_eq_true rfl, Nat.le_of_ble_eq_true rfl⟩ dX9_read_18 (fun H locs Y => ?_)
        refine lv_istore (lv' := [(4, .int (nI (ts i))), (0, .ref (A 3)), (1, .ref a), (2, .int (nI (en i))), (3, .int (nI i))]) hx hb dX9_read_21 hl (by decide) rfl (fun ls hl => ?_)
        refine lv_aload_n hx hb dX9_read_23 rfl (lv_at hl 1 rfl) ?_
        refine lv_aload_n hx hb dX9_read_24 rfl (lv_at hl 2 rfl) ?_
        refine lv_iload hx hb dX9_read_25 (lv_at hl 0 rfl) ?_
        refine h_callVr (rest := []) X Y (c_endOf l G M1 a r n f B hn ht1 ht2 hB (A 3) _ hk0 (ts i) (en (i + 1)) (tk i) hTk) rfl rfl gw_X9_38 dsc_X9_endOf hk0 rfl rfl rfl rfl hl.1 (Nat.le_of_ble_eq_true rfl) ⟨Nat.le_of_ble_eq_true rfl, Nat.le_of_ble_eq_true rfl⟩ ⟨Nat.le_of_ble_eq_true rfl, Nat.le_of_ble_eq_true rfl⟩ dX9_read_27 (fun H locs Y => ?_)
        refine lv_istore (lv' := [(5, .int (nI (en (i + 1)))), (4, .int (nI (ts i))), (0, .ref (A 3)), (1, .ref a), (2, .int (nI (en i))), (3, .int (nI i))]) hx hb dX9_read_30 hl (by decide) rfl (fun ls hl => ?_)
        refine lv_aload_n hx hb dX9_read_32 rfl (lv_at hl 2 rfl) ?_
        refine lv_aload_n hx hb dX9_read_33 rfl (lv_at hl 3 rfl) ?_
        refine lv_iload hx hb dX9_read_34 (lv_at hl 1 rfl) ?_
        refine lv_iload hx hb dX9_read_36 (lv_at hl 0 rfl) ?_
        refine h_callVr (rest := []) X Y (c_signOf l G M1 a r n f B hn ht1 ht2 hB (A 3) _ hk0 (ts i) (en (i + 1)) (tk i) hTk) rfl rfl gw_X9_42 dsc_X9_signOf hk0 rfl rfl rfl rfl hl.1 (Nat.le_of_ble_eq_true rfl) ⟨Nat.le_of_ble_eq_true rfl, Nat.le_of_ble_eq_true rfl⟩ ⟨Nat.le_of_ble_eq_true rfl, Nat.le_of_ble_eq_true rfl⟩ dX9_read_38 (fun H locs Y => ?_)
        refine lv_astore (lv' := [(6, .ref (hSg G (tk i))), (5, .int (nI (en (i + 1)))), (4, .int (nI (ts i))), (0, .ref (A 3)), (1, .ref a), (2, .int (nI (en i))), (3, .int (nI i))]) hx hb dX9_read_41 hl (by decide) rfl (fun ls hl => ?_)
        refine lv_iload_n hx hb dX9_read_43 rfl (lv_at hl 6 rfl) ?_
        refine lv_sipush (v := 400) hx hb dX9_read_44 (by decide) ?_
        refine lv_icmp_ne (tgt := 63) hx hb dX9_read_47 (by decide) (fun c47 => ?_) (fun c47 => absurd (show i = 400 from (nI_eq (a := i) (b := 400) (by omega) (by omega)).mp c47) (by omega))
        have c47 : ¬ i = 400 := fun z9 => c47 ((nI_eq (a := i) (b := 400) (by omega) (by omega)).mpr z9)
        refine lv_aload_n hx hb dX9_read_63 rfl (lv_at hl 3 rfl) ?_
        refine h_get X Y (k := 0) (v := .ref (A 4)) hk0 rfl hin_X9 (by decide) kfl_X9_11 rfl dX9_read_64 ?_
        refine lv_iload_n hx hb dX9_read_67 rfl (lv_at hl 6 rfl) ?_
        refine lv_aload hx hb dX9_read_68 (lv_at hl 0 rfl) ?_
        refine h_aastG X Y (i := i) (k := tk i) hk4 (by omega) (by omega) (by decide) dX9_read_70 (fun H locs Y => ?_)
        have ht1 := hup_tag (x := (4, .inl (hT G 3, 401, .inr (.inr (.inr (.inr (va_up k4 i (some (hSg G (tk i)))))))))) ht1 hk4 (by omega)
        have ht2 := hup_tag (x := (4, .inl (hT G 3, 401, .inr (.inr (.inr (.inr (va_up k4 i (some (hSg G (tk i)))))))))) ht2 hk4 (by omega)
        have hk0 := hup_tag (x := (4, .inl (hT G 3, 401, .inr (.inr (.inr (.inr (va_up k4 i (some (hSg G (tk i)))))))))) hk0 hk4 (by omega)
        have hk5 := hup_tag (x := (4, .inl (hT G 3, 401, .inr (.inr (.inr (.inr (va_up k4 i (some (hSg G (tk i)))))))))) hk5 hk4 (by omega)
        have hk6 := hup_tag (x := (4, .inl (hT G 3, 401, .inr (.inr (.inr (.inr (va_up k4 i (some (hSg G (tk i)))))))))) hk6 hk4 (by omega)
        have hk7 := hup_tag (x := (4, .inl (hT G 3, 401, .inr (.inr (.inr (.inr (va_up k4 i (some (hSg G (tk i)))))))))) hk7 hk4 (by omega)
        have hfr := hfr.put (x := (4, .inl (hT G 3, 401, .inr (.inr (.inr (.inr (va_up k4 i (some (hSg G (tk i)))))))))) hk4 (Or.inr (Or.inl rfl))
        have hk4 : hup M1 (A 4) (4, .inl (hT G 3, 401, .inr (.inr (.inr (.inr (va_up k4 i (some (hSg G (tk i))))))))) (A 4) = some (4, .inl (hT G 3, 401, .inr (.inr (.inr (.inr (va_up k4 i (some (hSg G (tk i))))))))) := hup_eq
        generalize hup M1 (A 4) (4, .inl (hT G 3, 401, .inr (.inr (.inr (.inr (va_up k4 i (some (hSg G (tk i))))))))) = Mz2 at Y hk4 ht1 ht2 hk0 hk5 hk6 hk7 hfr
        refine lv_aload_n hx hb dX9_read_71 rfl (lv_at hl 3 rfl) ?_
        refine h_get X Y (k := 1) (v := .ref (A 5)) hk0 rfl hin_X9 (by decide) kfl_X9_17 rfl dX9_read_72 ?_
        refine lv_iload_n hx hb dX9_read_75 rfl (lv_at hl 6 rfl) ?_
        refine lv_iload hx hb dX9_read_76 (lv_at hl 2 rfl) ?_
        refine h_iast X Y (i := i) hk5 (by omega) (by decide) dX9_read_78 (fun H locs Y => ?_)
        have ht1 := hup_tag (x := (5, .inl (hT G 0, 401, .inl (upd k5 i (nI (ts i)))))) ht1 hk5 (by omega)
        have ht2 := hup_tag (x := (5, .inl (hT G 0, 401, .inl (upd k5 i (nI (ts i)))))) ht2 hk5 (by omega)
        have hk0 := hup_tag (x := (5, .inl (hT G 0, 401, .inl (upd k5 i (nI (ts i)))))) hk0 hk5 (by omega)
        have hk4 := hup_tag (x := (5, .inl (hT G 0, 401, .inl (upd k5 i (nI (ts i)))))) hk4 hk5 (by omega)
        have hk6 := hup_tag (x := (5, .inl (hT G 0, 401, .inl (upd k5 i (nI (ts i)))))) hk6 hk5 (by omega)
        have hk7 := hup_tag (x := (5, .inl (hT G 0, 401, .inl (upd k5 i (nI (ts i)))))) hk7 hk5 (by omega)
        have hfr := hfr.put (x := (5, .inl (hT G 0, 401, .inl (upd k5 i (nI (ts i)))))) hk5 (Or.inr (Or.inr (Or.inl rfl)))
        have hk5 : hup Mz2 (A 5) (5, .inl (hT G 0, 401, .inl (upd k5 i (nI (ts i))))) (A 5) = some (5, .inl (hT G 0, 401, .inl (upd k5 i (nI (ts i))))) := hup_eq
        generalize hup Mz2 (A 5) (5, .inl (hT G 0, 401, .inl (upd k5 i (nI (ts i))))) = Mz3 at Y hk5 ht1 ht2 hk0 hk4 hk6 hk7 hfr
        refine lv_aload_n hx hb dX9_read_79 rfl (lv_at hl 3 rfl) ?_
        refine h_get X Y (k := 2) (v := .ref (A 6)) hk0 rfl hin_X9 (by decide) kfl_X9_21 rfl dX9_read_80 ?_
        refine lv_iload_n hx hb dX9_read_83 rfl (lv_at hl 6 rfl) ?_
        have tail104 : ∀ (H : Heap) (locs : List Loc) (ls : Array Slot), hHS G Mz3 s H locs → lv_has ls 7 [(6, .ref (hSg G (tk i))), (5, .int (nI (en (i + 1)))), (4, .int (nI (ts i))), (0, .ref (A 3)), (1, .ref a), (2, .int (nI (en i))), (3, .int (nI i))] → W p l e (hRm 8 0 0) s m args below meth c H locs 0 0 (MQ below (hQ G (fun v M' => v = none ∧ TkV G M' A N tk (fun i => if tk i = 34 then tNum B (ts i) (en (i + 1) - ts i) else 0) (fun i => if tk i = 33 then tWd B n (ts i) (en (i + 1) - ts i) else 0) ∧ hFr (fun u => u = 3 ∨ u = 4 ∨ u = 5 ∨ u = 6 ∨ u = 7) M M')) args s 0 0 (hA G)) (F0 m 104 ls [.int (if tk i = 34 then tNum B (ts i) (en (i + 1) - ts i) else 0), .int (nI i), .ref (A 6)]) := by
          intro H locs ls Y hl
          refine h_iast X Y (i := i) hk6 (by omega) (by decide) dX9_read_104 (fun H locs Y => ?_)
          have ht1 := hup_tag (x := (6, .inl (hT G 0, 401, .inl (upd k6 i (if tk i = 34 then tNum B (ts i) (en (i + 1) - ts i) else 0))))) ht1 hk6 (by omega)
          have ht2 := hup_tag (x := (6, .inl (hT G 0, 401, .inl (upd k6 i (if tk i = 34 then tNum B (ts i) (en (i + 1) - ts i) else 0))))) ht2 hk6 (by omega)
          have hk0 := hup_tag (x := (6, .inl (hT G 0, 401, .inl (upd k6 i (if tk i = 34 then tNum B (ts i) (en (i + 1) - ts i) else 0))))) hk0 hk6 (by omega)
          have hk4 := hup_tag (x := (6, .inl (hT G 0, 401, .inl (upd k6 i (if tk i = 34 then tNum B (ts i) (en (i + 1) - ts i) else 0))))) hk4 hk6 (by omega)
          have hk5 := hup_tag (x := (6, .inl (hT G 0, 401, .inl (upd k6 i (if tk i = 34 then tNum B (ts i) (en (i + 1) - ts i) else 0))))) hk5 hk6 (by omega)
          have hk7 := hup_tag (x := (6, .inl (hT G 0, 401, .inl (upd k6 i (if tk i = 34 then tNum B (ts i) (en (i + 1) - ts i) else 0))))) hk7 hk6 (by omega)
          have hfr := hfr.put (x := (6, .inl (hT G 0, 401, .inl (upd k6 i (if tk i = 34 then tNum B (ts i) (en (i + 1) - ts i) else 0))))) hk6 (Or.inr (Or.inr (Or.inr (Or.inl rfl))))
          have hk6 : hup Mz3 (A 6) (6, .inl (hT G 0, 401, .inl (upd k6 i (if tk i = 34 then tNum B (ts i) (en (i + 1) - ts i) else 0)))) (A 6) = some (6, .inl (hT G 0, 401, .inl (upd k6 i (if tk i = 34 then tNum B (ts i) (en (i + 1) - ts i) else 0)))) := hup_eq
          generalize hup Mz3 (A 6) (6, .inl (hT G 0, 401, .inl (upd k6 i (if tk i = 34 then tNum B (ts i) (en (i + 1) - ts i) else 0)))) = Mz4 at Y hk6 ht1 ht2 hk0 hk4 hk5 hk7 hfr
          refine lv_aload_n hx hb dX9_read_105 rfl (lv_at hl 3 rfl) ?_
          refine h_get X Y (k := 3) (v := .ref (A 7)) hk0 rfl hin_X9 (by decide) kfl_X9_24 rfl dX9_read_106 ?_
          refine lv_iload_n hx hb dX9_read_109 rfl (lv_at hl 6 rfl) ?_
          have tail130 : ∀ (H : Heap) (locs : List Loc) (ls : Array Slot), hHS G Mz4 s H locs → lv_has ls 7 [(6, .ref (hSg G (tk i))), (5, .int (nI (en (i + 1)))), (4, .int (nI (ts i))), (0, .ref (A 3)), (1, .ref a), (2, .int (nI (en i))), (3, .int (nI i))] → W p l e (hRm 8 0 0) s m args below meth c H locs 0 0 (MQ below (hQ G (fun v M' => v = none ∧ TkV G M' A N tk (fun i => if tk i = 34 then tNum B (ts i) (en (i + 1) - ts i) else 0) (fun i => if tk i = 33 then tWd B n (ts i) (en (i + 1) - ts i) else 0) ∧ hFr (fun u => u = 3 ∨ u = 4 ∨ u = 5 ∨ u = 6 ∨ u = 7) M M')) args s 0 0 (hA G)) (F0 m 130 ls [.long (if tk i = 33 then tWd B n (ts i) (en (i + 1) - ts i) else 0), .int (nI i), .ref (A 7)]) := by
            intro H locs ls Y hl
            refine h_last X Y (i := i) hk7 (by omega) (by decide) dX9_read_130 (fun H locs Y => ?_)
            have ht1 := hup_tag (x := (7, .inl (hT G 2, 401, .inr (.inl (vp_updL k7 i (if tk i = 33 then tWd B n (ts i) (en (i + 1) - ts i) else 0)))))) ht1 hk7 (by omega)
            have ht2 := hup_tag (x := (7, .inl (hT G 2, 401, .inr (.inl (vp_updL k7 i (if tk i = 33 then tWd B n (ts i) (en (i + 1) - ts i) else 0)))))) ht2 hk7 (by omega)
            have hk0 := hup_tag (x := (7, .inl (hT G 2, 401, .inr (.inl (vp_updL k7 i (if tk i = 33 then tWd B n (ts i) (en (i + 1) - ts i) else 0)))))) hk0 hk7 (by omega)
            have hk4 := hup_tag (x := (7, .inl (hT G 2, 401, .inr (.inl (vp_updL k7 i (if tk i = 33 then tWd B n (ts i) (en (i + 1) - ts i) else 0)))))) hk4 hk7 (by omega)
            have hk5 := hup_tag (x := (7, .inl (hT G 2, 401, .inr (.inl (vp_updL k7 i (if tk i = 33 then tWd B n (ts i) (en (i + 1) - ts i) else 0)))))) hk5 hk7 (by omega)
            have hk6 := hup_tag (x := (7, .inl (hT G 2, 401, .inr (.inl (vp_updL k7 i (if tk i = 33 then tWd B n (ts i) (en (i + 1) - ts i) else 0)))))) hk6 hk7 (by omega)
            have hfr := hfr.put (x := (7, .inl (hT G 2, 401, .inr (.inl (vp_updL k7 i (if tk i = 33 then tWd B n (ts i) (en (i + 1) - ts i) else 0)))))) hk7 (Or.inr (Or.inr (Or.inr (Or.inr rfl))))
            have hk7 : hup Mz4 (A 7) (7, .inl (hT G 2, 401, .inr (.inl (vp_updL k7 i (if tk i = 33 then tWd B n (ts i) (en (i + 1) - ts i) else 0))))) (A 7) = some (7, .inl (hT G 2, 401, .inr (.inl (vp_updL k7 i (if tk i = 33 then tWd B n (ts i) (en (i + 1) - ts i) else 0))))) := hup_eq
            generalize hup Mz4 (A 7) (7, .inl (hT G 2, 401, .inr (.inl (vp_updL k7 i (if tk i = 33 then tWd B n (ts i) (en (i + 1) - ts i) else 0))))) = Mz5 at Y hk7 ht1 ht2 hk0 hk4 hk5 hk6 hfr
            refine lv_aload_n hx hb dX9_read_131 rfl (lv_at hl 3 rfl) ?_
            refine lv_iload_n hx hb dX9_read_132 rfl (lv_at hl 6 rfl) ?_
            refine lv_iconst (v := 1) hx hb dX9_read_133 (by decide) ?_
            refine lv_iadd hx hb dX9_read_134 ?_
            refine h_ev (y := nI (i + 1)) (nI_1 i) ?_
            refine h_put X Y (k := 4) (v := .int (nI (i + 1))) hk0 rfl hin_X9 tyX9_ok nmX9 (by decide) kfl_X9_28 rfl rfl rfl (Nat.le_of_ble_eq_true rfl) dX9_read_135 (fun H locs Y => ?_)
            have Y : hHS G (hup Mz5 (A 3) (3, .inr (10, [.ref (A 4), .ref (A 5), .ref (A 6), .ref (A 7), .int (nI (i + 1))]))) s H locs := Y
            have ht1 := hup_tag (x := (3, .inr (10, [.ref (A 4), .ref (A 5), .ref (A 6), .ref (A 7), .int (nI (i + 1))]))) ht1 hk0 (by omega)
            have ht2 := hup_tag (x := (3, .inr (10, [.ref (A 4), .ref (A 5), .ref (A 6), .ref (A 7), .int (nI (i + 1))]))) ht2 hk0 (by omega)
            have hk4 := hup_tag (x := (3, .inr (10, [.ref (A 4), .ref (A 5), .ref (A 6), .ref (A 7), .int (nI (i + 1))]))) hk4 hk0 (by omega)
            have hk5 := hup_tag (x := (3, .inr (10, [.ref (A 4), .ref (A 5), .ref (A 6), .ref (A 7), .int (nI (i + 1))]))) hk5 hk0 (by omega)
            have hk6 := hup_tag (x := (3, .inr (10, [.ref (A 4), .ref (A 5), .ref (A 6), .ref (A 7), .int (nI (i + 1))]))) hk6 hk0 (by omega)
            have hk7 := hup_tag (x := (3, .inr (10, [.ref (A 4), .ref (A 5), .ref (A 6), .ref (A 7), .int (nI (i + 1))]))) hk7 hk0 (by omega)
            have hfr := hfr.put (x := (3, .inr (10, [.ref (A 4), .ref (A 5), .ref (A 6), .ref (A 7), .int (nI (i + 1))]))) hk0 (Or.inl rfl)
            have hk0 : hup Mz5 (A 3) (3, .inr (10, [.ref (A 4), .ref (A 5), .ref (A 6), .ref (A 7), .int (nI (i + 1))])) (A 3) = some (3, .inr (10, [.ref (A 4), .ref (A 5), .ref (A 6), .ref (A 7), .int (nI (i + 1))])) := hup_eq
            generalize hup Mz5 (A 3) (3, .inr (10, [.ref (A 4), .ref (A 5), .ref (A 6), .ref (A 7), .int (nI (i + 1))])) = Mz6 at Y hk0 ht1 ht2 hk4 hk5 hk6 hk7 hfr
            refine lv_iload hx hb dX9_read_138 (lv_at hl 1 rfl) ?_
            refine lv_istore_n (lv' := [(2, .int (nI (en (i + 1)))), (6, .ref (hSg G (tk i))), (5, .int (nI (en (i + 1)))), (4, .int (nI (ts i))), (0, .ref (A 3)), (1, .ref a), (3, .int (nI i))]) hx hb dX9_read_140 rfl hl (by decide) rfl (fun ls hl => ?_)
            refine lv_aload hx hb dX9_read_141 (lv_at hl 1 rfl) ?_
            refine h_gets X Y (hsg_Z X.2.2.2.2.2.2.2.2.1 X.2.2.2.2.2.2.2.2.2.1 (k := 36) (by decide)) kfl_X9_46 dX9_read_143 ?_
            refine lv_acmp_eq (rx := some (hSg G (tk i))) (ry := some (hSg G 36)) (tgt := 157) hx hb dX9_read_146 (by decide) (fun c146 => absurd (hsg_inj X.2.2.2.2.2.2.2.2.1 (by omega) (by omega) (Option.some.inj c146)) hk36) (fun c146 => ?_)
            refine lv_aload hx hb dX9_read_149 (lv_at hl 1 rfl) ?_
            refine h_gets X Y (hsg_Z X.2.2.2.2.2.2.2.2.1 X.2.2.2.2.2.2.2.2.2.1 (k := 37) (by decide)) kfl_X9_50 dX9_read_151 ?_
            refine lv_acmp_ne (rx := some (hSg G (tk i))) (ry := some (hSg G 37)) (tgt := 158) hx hb dX9_read_154 (by decide) (fun c154 => ?_) (fun c154 => absurd (hsg_inj X.2.2.2.2.2.2.2.2.1 (by omega) (by omega) (Option.some.inj c154)) (by omega))
            refine lv_iinc (v := nI (i + 1)) (lv' := [(3, .int (nI (i + 1))), (2, .int (nI (en (i + 1)))), (6, .ref (hSg G (tk i))), (5, .int (nI (en (i + 1)))), (4, .int (nI (ts i))), (0, .ref (A 3)), (1, .ref a)]) hx hb dX9_read_158 hl (k := 6) rfl (nI_1 i) (by decide) rfl (fun ls hl => ?_)
            refine lv_goto (tgt := 9) hx hb dX9_read_161 (by decide) ?_
            have hq4 : ∀ j, j < i + 1 → (va_up k4 i (some (hSg G (tk i)))) j = some (hSg G (tk j)) := by
              intro j hj
              by_cases e9 : j = i
              · subst e9; exact va_up_self _ _ _
              · rw [va_up_ne _ _ e9]; exact hq4 j (by omega)
            have hq6 : ∀ j, j < i + 1 → (upd k6 i (if tk i = 34 then tNum B (ts i) (en (i + 1) - ts i) else 0)) j = if tk j = 34 then tNum B (ts j) (en (j + 1) - ts j) else 0 := by
              intro j hj
              by_cases e9 : j = i
              · subst e9; exact pk_us
              · rw [pk_un e9]; exact hq6 j (by omega)
            have hq7 : ∀ j, j < i + 1 → (vp_updL k7 i (if tk i = 33 then tWd B n (ts i) (en (i + 1) - ts i) else 0)) j = if tk j = 33 then tWd B n (ts j) (en (j + 1) - ts j) else 0 := by
              intro j hj
              by_cases e9 : j = i
              · subst e9; exact pk_uLs
              · rw [pk_uLn e9]; exact hq7 j (by omega)
            exact ih (i + 1) (by omega) (by omega) Mz6 _ _ _ _ _ ht1 ht2 hk0 hk4 hk5 hk6 hk7 hfr hq4 hq6 hq7 _ _ _ Y (lv_sub hl [5, 6, 1, 0] rfl)
          refine lv_aload hx hb dX9_read_110 (lv_at hl 0 rfl) ?_
          refine h_gets X Y (hsg_Z X.2.2.2.2.2.2.2.2.1 X.2.2.2.2.2.2.2.2.2.1 (k := 33) (by decide)) kfl_X9_60 dX9_read_112 ?_
          by_cases h33 : tk i = 33
          · refine lv_acmp_ne (rx := some (hSg G (tk i))) (ry := some (hSg G 33)) (tgt := 129) hx hb dX9_read_115 (by decide) (fun z9 => absurd (by rw [h33]) z9) (fun _ => ?_)
            refine lv_aload_n hx hb dX9_read_118 rfl (lv_at hl 4 rfl) ?_
            refine lv_iload hx hb dX9_read_119 (lv_at hl 2 rfl) ?_
            refine lv_iload hx hb dX9_read_121 (lv_at hl 1 rfl) ?_
            refine h_callVr (rest := [.int (nI i), .ref (A 7)]) X Y (c_wordAt2 l G Mz4 a r n f B hn ht1 ht2 hB (ts i) (en (i + 1)) (by omega) hee) rfl rfl gw_X9_63 dsc_X8_wordAt ht1 rfl rfl rfl rfl hl.1 (Nat.le_of_ble_eq_true rfl) ⟨Nat.le_of_ble_eq_true rfl, Nat.le_of_ble_eq_true rfl⟩ ⟨Nat.le_of_ble_eq_true rfl, Nat.le_of_ble_eq_true rfl⟩ dX9_read_123 (fun H locs Y => ?_)
            refine lv_goto (tgt := 130) hx hb dX9_read_126 (by decide) ?_
            refine h_evL (y := if tk i = 33 then tWd B n (ts i) (en (i + 1) - ts i) else 0) ((if_pos h33).symm) ?_
            exact tail130 _ _ _ Y (lv_sub hl [0, 1, 2, 3, 4, 5, 6] rfl)
          · refine lv_acmp_ne (rx := some (hSg G (tk i))) (ry := some (hSg G 33)) (tgt := 129) hx hb dX9_read_115 (by decide) (fun _ => ?_) (fun z9 => absurd (hsg_inj X.2.2.2.2.2.2.2.2.1 (by omega) (by omega) (Option.some.inj z9)) h33)
            refine lv_lconst (v := 0) hx hb dX9_read_129 (by decide) ?_
            refine h_evL (y := if tk i = 33 then tWd B n (ts i) (en (i + 1) - ts i) else 0) ((if_neg h33).symm) ?_
            exact tail130 _ _ _ Y (lv_sub hl [0, 1, 2, 3, 4, 5, 6] rfl)
        refine lv_aload hx hb dX9_read_84 (lv_at hl 0 rfl) ?_
        refine h_gets X Y (hsg_Z X.2.2.2.2.2.2.2.2.1 X.2.2.2.2.2.2.2.2.2.1 (k := 34) (by decide)) kfl_X9_53 dX9_read_86 ?_
        by_cases h34 : tk i = 34
        · refine lv_acmp_ne (rx := some (hSg G (tk i))) (ry := some (hSg G 34)) (tgt := 103) hx hb dX9_read_89 (by decide) (fun z9 => absurd (by rw [h34]) z9) (fun _ => ?_)
          refine lv_aload_n hx hb dX9_read_92 rfl (lv_at hl 4 rfl) ?_
          refine lv_iload hx hb dX9_read_93 (lv_at hl 2 rfl) ?_
          refine lv_iload hx hb dX9_read_95 (lv_at hl 1 rfl) ?_
          refine h_callVr (rest := [.int (nI i), .ref (A 6)]) X Y (c_numberAt2 l G Mz3 a r n f B hn ht1 ht2 hB (ts i) (en (i + 1)) (by omega) hee) rfl rfl gw_X9_56 dsc_X8_numberAt ht1 rfl rfl rfl rfl hl.1 (Nat.le_of_ble_eq_true rfl) ⟨Nat.le_of_ble_eq_true rfl, Nat.le_of_ble_eq_true rfl⟩ ⟨Nat.le_of_ble_eq_true rfl, Nat.le_of_ble_eq_true rfl⟩ dX9_read_97 (fun H locs Y => ?_)
          refine lv_goto (tgt := 104) hx hb dX9_read_100 (by decide) ?_
          refine h_ev (y := if tk i = 34 then tNum B (ts i) (en (i + 1) - ts i) else 0) ((if_pos h34).symm) ?_
          exact tail104 _ _ _ Y (lv_sub hl [0, 1, 2, 3, 4, 5, 6] rfl)
        · refine lv_acmp_ne (rx := some (hSg G (tk i))) (ry := some (hSg G 34)) (tgt := 103) hx hb dX9_read_89 (by decide) (fun _ => ?_) (fun z9 => absurd (hsg_inj X.2.2.2.2.2.2.2.2.1 (by omega) (by omega) (Option.some.inj z9)) h34)
          refine lv_iconst (v := 0) hx hb dX9_read_103 (by decide) ?_
          refine h_ev (y := if tk i = 34 then tNum B (ts i) (en (i + 1) - ts i) else 0) ((if_neg h34).symm) ?_
          exact tail104 _ _ _ Y (lv_sub hl [0, 1, 2, 3, 4, 5, 6] rfl)
      · obtain rfl : i = N := by omega
        refine lv_aload_n hx hb dX9_read_16 rfl (lv_at hl 1 rfl) ?_
        refine lv_iload_n hx hb dX9_read_17 rfl (lv_at hl 2 rfl) ?_
        refine h_callVr (rest := []) X Y (c_behindBlanks l G M1 a r n f B hn ht1 ht2 hB (en i) (ts i) hb1 (by omega) hb2 (Or.inl htN)) rfl rfl gw_X9_32 dsc_X8_behindBlanks ht1 rfl rfl rfl rfl hl.1 (Nat.le_of_ble_eq_true rfl) ⟨Nat.le_of_ble_eq_true rfl, Nat.le_of_ble_eq_true rfl⟩ ⟨Nat.le_of_ble_eq_true rfl, Nat.le_of_ble_eq_true rfl⟩ dX9_read_18 (fun H locs Y => ?_)
        refine lv_istore (lv' := [(4, .int (nI (ts i))), (0, .ref (A 3)), (1, .ref a), (2, .int (nI (en i))), (3, .int (nI i))]) hx hb dX9_read_21 hl (by decide) rfl (fun ls hl => ?_)
        refine lv_aload_n hx hb dX9_read_23 rfl (lv_at hl 1 rfl) ?_
        refine lv_aload_n hx hb dX9_read_24 rfl (lv_at hl 2 rfl) ?_
        refine lv_iload hx hb dX9_read_25 (lv_at hl 0 rfl) ?_
        refine h_callVr (rest := []) X Y (htN.symm ▸ c_endOfE l G M1 a r n f B hn ht1 ht2 hB (A 3) _ hk0 hkwE) rfl rfl gw_X9_38 dsc_X9_endOf hk0 rfl rfl rfl rfl hl.1 (Nat.le_of_ble_eq_true rfl) ⟨Nat.le_of_ble_eq_true rfl, Nat.le_of_ble_eq_true rfl⟩ ⟨Nat.le_of_ble_eq_true rfl, Nat.le_of_ble_eq_true rfl⟩ dX9_read_27 (fun H locs Y => ?_)
        refine lv_istore (lv' := [(5, .int (nI (ts i + 1))), (4, .int (nI (ts i))), (0, .ref (A 3)), (1, .ref a), (2, .int (nI (en i))), (3, .int (nI i))]) hx hb dX9_read_30 hl (by decide) rfl (fun ls hl => ?_)
        refine lv_aload_n hx hb dX9_read_32 rfl (lv_at hl 2 rfl) ?_
        refine lv_aload_n hx hb dX9_read_33 rfl (lv_at hl 3 rfl) ?_
        refine lv_iload hx hb dX9_read_34 (lv_at hl 1 rfl) ?_
        refine lv_iload hx hb dX9_read_36 (lv_at hl 0 rfl) ?_
        refine h_callVr (rest := []) X Y (htN.symm ▸ c_signOfE l G M1 a r n f B hn ht1 ht2 hB (A 3) _ hk0 (ts i + 1)) rfl rfl gw_X9_42 dsc_X9_signOf hk0 rfl rfl rfl rfl hl.1 (Nat.le_of_ble_eq_true rfl) ⟨Nat.le_of_ble_eq_true rfl, Nat.le_of_ble_eq_true rfl⟩ ⟨Nat.le_of_ble_eq_true rfl, Nat.le_of_ble_eq_true rfl⟩ dX9_read_38 (fun H locs Y => ?_)
        rw [← htk36]
        refine lv_astore (lv' := [(6, .ref (hSg G (tk i))), (5, .int (nI (ts i + 1))), (4, .int (nI (ts i))), (0, .ref (A 3)), (1, .ref a), (2, .int (nI (en i))), (3, .int (nI i))]) hx hb dX9_read_41 hl (by decide) rfl (fun ls hl => ?_)
        refine lv_iload_n hx hb dX9_read_43 rfl (lv_at hl 6 rfl) ?_
        refine lv_sipush (v := 400) hx hb dX9_read_44 (by decide) ?_
        refine lv_icmp_ne (tgt := 63) hx hb dX9_read_47 (by decide) (fun c47 => ?_) (fun c47 => absurd (show i = 400 from (nI_eq (a := i) (b := 400) (by omega) (by omega)).mp c47) (by omega))
        have c47 : ¬ i = 400 := fun z9 => c47 ((nI_eq (a := i) (b := 400) (by omega) (by omega)).mpr z9)
        refine lv_aload_n hx hb dX9_read_63 rfl (lv_at hl 3 rfl) ?_
        refine h_get X Y (k := 0) (v := .ref (A 4)) hk0 rfl hin_X9 (by decide) kfl_X9_11 rfl dX9_read_64 ?_
        refine lv_iload_n hx hb dX9_read_67 rfl (lv_at hl 6 rfl) ?_
        refine lv_aload hx hb dX9_read_68 (lv_at hl 0 rfl) ?_
        refine h_aastG X Y (i := i) (k := tk i) hk4 (by omega) (by omega) (by decide) dX9_read_70 (fun H locs Y => ?_)
        have ht1 := hup_tag (x := (4, .inl (hT G 3, 401, .inr (.inr (.inr (.inr (va_up k4 i (some (hSg G (tk i)))))))))) ht1 hk4 (by omega)
        have ht2 := hup_tag (x := (4, .inl (hT G 3, 401, .inr (.inr (.inr (.inr (va_up k4 i (some (hSg G (tk i)))))))))) ht2 hk4 (by omega)
        have hk0 := hup_tag (x := (4, .inl (hT G 3, 401, .inr (.inr (.inr (.inr (va_up k4 i (some (hSg G (tk i)))))))))) hk0 hk4 (by omega)
        have hk5 := hup_tag (x := (4, .inl (hT G 3, 401, .inr (.inr (.inr (.inr (va_up k4 i (some (hSg G (tk i)))))))))) hk5 hk4 (by omega)
        have hk6 := hup_tag (x := (4, .inl (hT G 3, 401, .inr (.inr (.inr (.inr (va_up k4 i (some (hSg G (tk i)))))))))) hk6 hk4 (by omega)
        have hk7 := hup_tag (x := (4, .inl (hT G 3, 401, .inr (.inr (.inr (.inr (va_up k4 i (some (hSg G (tk i)))))))))) hk7 hk4 (by omega)
        have hfr := hfr.put (x := (4, .inl (hT G 3, 401, .inr (.inr (.inr (.inr (va_up k4 i (some (hSg G (tk i)))))))))) hk4 (Or.inr (Or.inl rfl))
        have hk4 : hup M1 (A 4) (4, .inl (hT G 3, 401, .inr (.inr (.inr (.inr (va_up k4 i (some (hSg G (tk i))))))))) (A 4) = some (4, .inl (hT G 3, 401, .inr (.inr (.inr (.inr (va_up k4 i (some (hSg G (tk i))))))))) := hup_eq
        generalize hup M1 (A 4) (4, .inl (hT G 3, 401, .inr (.inr (.inr (.inr (va_up k4 i (some (hSg G (tk i))))))))) = Mz7 at Y hk4 ht1 ht2 hk0 hk5 hk6 hk7 hfr
        refine lv_aload_n hx hb dX9_read_71 rfl (lv_at hl 3 rfl) ?_
        refine h_get X Y (k := 1) (v := .ref (A 5)) hk0 rfl hin_X9 (by decide) kfl_X9_17 rfl dX9_read_72 ?_
        refine lv_iload_n hx hb dX9_read_75 rfl (lv_at hl 6 rfl) ?_
        refine lv_iload hx hb dX9_read_76 (lv_at hl 2 rfl) ?_
        refine h_iast X Y (i := i) hk5 (by omega) (by decide) dX9_read_78 (fun H locs Y => ?_)
        have ht1 := hup_tag (x := (5, .inl (hT G 0, 401, .inl (upd k5 i (nI (ts i)))))) ht1 hk5 (by omega)
        have ht2 := hup_tag (x := (5, .inl (hT G 0, 401, .inl (upd k5 i (nI (ts i)))))) ht2 hk5 (by omega)
        have hk0 := hup_tag (x := (5, .inl (hT G 0, 401, .inl (upd k5 i (nI (ts i)))))) hk0 hk5 (by omega)
        have hk4 := hup_tag (x := (5, .inl (hT G 0, 401, .inl (upd k5 i (nI (ts i)))))) hk4 hk5 (by omega)
        have hk6 := hup_tag (x := (5, .inl (hT G 0, 401, .inl (upd k5 i (nI (ts i)))))) hk6 hk5 (by omega)
        have hk7 := hup_tag (x := (5, .inl (hT G 0, 401, .inl (upd k5 i (nI (ts i)))))) hk7 hk5 (by omega)
        have hfr := hfr.put (x := (5, .inl (hT G 0, 401, .inl (upd k5 i (nI (ts i)))))) hk5 (Or.inr (Or.inr (Or.inl rfl)))
        have hk5 : hup Mz7 (A 5) (5, .inl (hT G 0, 401, .inl (upd k5 i (nI (ts i))))) (A 5) = some (5, .inl (hT G 0, 401, .inl (upd k5 i (nI (ts i))))) := hup_eq
        generalize hup Mz7 (A 5) (5, .inl (hT G 0, 401, .inl (upd k5 i (nI (ts i))))) = Mz8 at Y hk5 ht1 ht2 hk0 hk4 hk6 hk7 hfr
        refine lv_aload_n hx hb dX9_read_79 rfl (lv_at hl 3 rfl) ?_
        refine h_get X Y (k := 2) (v := .ref (A 6)) hk0 rfl hin_X9 (by decide) kfl_X9_21 rfl dX9_read_80 ?_
        refine lv_iload_n hx hb dX9_read_83 rfl (lv_at hl 6 rfl) ?_
        have tail104 : ∀ (H : Heap) (locs : List Loc) (ls : Array Slot), hHS G Mz8 s H locs → lv_has ls 7 [(6, .ref (hSg G (tk i))), (5, .int (nI (ts i + 1))), (4, .int (nI (ts i))), (0, .ref (A 3)), (1, .ref a), (2, .int (nI (en i))), (3, .int (nI i))] → W p l e (hRm 8 0 0) s m args below meth c H locs 0 0 (MQ below (hQ G (fun v M' => v = none ∧ TkV G M' A i tk (fun i => if tk i = 34 then tNum B (ts i) (en (i + 1) - ts i) else 0) (fun i => if tk i = 33 then tWd B n (ts i) (en (i + 1) - ts i) else 0) ∧ hFr (fun u => u = 3 ∨ u = 4 ∨ u = 5 ∨ u = 6 ∨ u = 7) M M')) args s 0 0 (hA G)) (F0 m 104 ls [.int (if tk i = 34 then tNum B (ts i) (en (i + 1) - ts i) else 0), .int (nI i), .ref (A 6)]) := by
          intro H locs ls Y hl
          refine h_iast X Y (i := i) hk6 (by omega) (by decide) dX9_read_104 (fun H locs Y => ?_)
          have ht1 := hup_tag (x := (6, .inl (hT G 0, 401, .inl (upd k6 i (if tk i = 34 then tNum B (ts i) (en (i + 1) - ts i) else 0))))) ht1 hk6 (by omega)
          have ht2 := hup_tag (x := (6, .inl (hT G 0, 401, .inl (upd k6 i (if tk i = 34 then tNum B (ts i) (en (i + 1) - ts i) else 0))))) ht2 hk6 (by omega)
          have hk0 := hup_tag (x := (6, .inl (hT G 0, 401, .inl (upd k6 i (if tk i = 34 then tNum B (ts i) (en (i + 1) - ts i) else 0))))) hk0 hk6 (by omega)
          have hk4 := hup_tag (x := (6, .inl (hT G 0, 401, .inl (upd k6 i (if tk i = 34 then tNum B (ts i) (en (i + 1) - ts i) else 0))))) hk4 hk6 (by omega)
          have hk5 := hup_tag (x := (6, .inl (hT G 0, 401, .inl (upd k6 i (if tk i = 34 then tNum B (ts i) (en (i + 1) - ts i) else 0))))) hk5 hk6 (by omega)
          have hk7 := hup_tag (x := (6, .inl (hT G 0, 401, .inl (upd k6 i (if tk i = 34 then tNum B (ts i) (en (i + 1) - ts i) else 0))))) hk7 hk6 (by omega)
          have hfr := hfr.put (x := (6, .inl (hT G 0, 401, .inl (upd k6 i (if tk i = 34 then tNum B (ts i) (en (i + 1) - ts i) else 0))))) hk6 (Or.inr (Or.inr (Or.inr (Or.inl rfl))))
          have hk6 : hup Mz8 (A 6) (6, .inl (hT G 0, 401, .inl (upd k6 i (if tk i = 34 then tNum B (ts i) (en (i + 1) - ts i) else 0)))) (A 6) = some (6, .inl (hT G 0, 401, .inl (upd k6 i (if tk i = 34 then tNum B (ts i) (en (i + 1) - ts i) else 0)))) := hup_eq
          generalize hup Mz8 (A 6) (6, .inl (hT G 0, 401, .inl (upd k6 i (if tk i = 34 then tNum B (ts i) (en (i + 1) - ts i) else 0)))) = Mz9 at Y hk6 ht1 ht2 hk0 hk4 hk5 hk7 hfr
          refine lv_aload_n hx hb dX9_read_105 rfl (lv_at hl 3 rfl) ?_
          refine h_get X Y (k := 3) (v := .ref (A 7)) hk0 rfl hin_X9 (by decide) kfl_X9_24 rfl dX9_read_106 ?_
          refine lv_iload_n hx hb dX9_read_109 rfl (lv_at hl 6 rfl) ?_
          have tail130 : ∀ (H : Heap) (locs : List Loc) (ls : Array Slot), hHS G Mz9 s H locs → lv_has ls 7 [(6, .ref (hSg G (tk i))), (5, .int (nI (ts i + 1))), (4, .int (nI (ts i))), (0, .ref (A 3)), (1, .ref a), (2, .int (nI (en i))), (3, .int (nI i))] → W p l e (hRm 8 0 0) s m args below meth c H locs 0 0 (MQ below (hQ G (fun v M' => v = none ∧ TkV G M' A i tk (fun i => if tk i = 34 then tNum B (ts i) (en (i + 1) - ts i) else 0) (fun i => if tk i = 33 then tWd B n (ts i) (en (i + 1) - ts i) else 0) ∧ hFr (fun u => u = 3 ∨ u = 4 ∨ u = 5 ∨ u = 6 ∨ u = 7) M M')) args s 0 0 (hA G)) (F0 m 130 ls [.long (if tk i = 33 then tWd B n (ts i) (en (i + 1) - ts i) else 0), .int (nI i), .ref (A 7)]) := by
            intro H locs ls Y hl
            refine h_last X Y (i := i) hk7 (by omega) (by decide) dX9_read_130 (fun H locs Y => ?_)
            have ht1 := hup_tag (x := (7, .inl (hT G 2, 401, .inr (.inl (vp_updL k7 i (if tk i = 33 then tWd B n (ts i) (en (i + 1) - ts i) else 0)))))) ht1 hk7 (by omega)
            have ht2 := hup_tag (x := (7, .inl (hT G 2, 401, .inr (.inl (vp_updL k7 i (if tk i = 33 then tWd B n (ts i) (en (i + 1) - ts i) else 0)))))) ht2 hk7 (by omega)
            have hk0 := hup_tag (x := (7, .inl (hT G 2, 401, .inr (.inl (vp_updL k7 i (if tk i = 33 then tWd B n (ts i) (en (i + 1) - ts i) else 0)))))) hk0 hk7 (by omega)
            have hk4 := hup_tag (x := (7, .inl (hT G 2, 401, .inr (.inl (vp_updL k7 i (if tk i = 33 then tWd B n (ts i) (en (i + 1) - ts i) else 0)))))) hk4 hk7 (by omega)
            have hk5 := hup_tag (x := (7, .inl (hT G 2, 401, .inr (.inl (vp_updL k7 i (if tk i = 33 then tWd B n (ts i) (en (i + 1) - ts i) else 0)))))) hk5 hk7 (by omega)
            have hk6 := hup_tag (x := (7, .inl (hT G 2, 401, .inr (.inl (vp_updL k7 i (if tk i = 33 then tWd B n (ts i) (en (i + 1) - ts i) else 0)))))) hk6 hk7 (by omega)
            have hfr := hfr.put (x := (7, .inl (hT G 2, 401, .inr (.inl (vp_updL k7 i (if tk i = 33 then tWd B n (ts i) (en (i + 1) - ts i) else 0)))))) hk7 (Or.inr (Or.inr (Or.inr (Or.inr rfl))))
            have hk7 : hup Mz9 (A 7) (7, .inl (hT G 2, 401, .inr (.inl (vp_updL k7 i (if tk i = 33 then tWd B n (ts i) (en (i + 1) - ts i) else 0))))) (A 7) = some (7, .inl (hT G 2, 401, .inr (.inl (vp_updL k7 i (if tk i = 33 then tWd B n (ts i) (en (i + 1) - ts i) else 0))))) := hup_eq
            generalize hup Mz9 (A 7) (7, .inl (hT G 2, 401, .inr (.inl (vp_updL k7 i (if tk i = 33 then tWd B n (ts i) (en (i + 1) - ts i) else 0))))) = Mz10 at Y hk7 ht1 ht2 hk0 hk4 hk5 hk6 hfr
            refine lv_aload_n hx hb dX9_read_131 rfl (lv_at hl 3 rfl) ?_
            refine lv_iload_n hx hb dX9_read_132 rfl (lv_at hl 6 rfl) ?_
            refine lv_iconst (v := 1) hx hb dX9_read_133 (by decide) ?_
            refine lv_iadd hx hb dX9_read_134 ?_
            refine h_ev (y := nI (i + 1)) (nI_1 i) ?_
            refine h_put X Y (k := 4) (v := .int (nI (i + 1))) hk0 rfl hin_X9 tyX9_ok nmX9 (by decide) kfl_X9_28 rfl rfl rfl (Nat.le_of_ble_eq_true rfl) dX9_read_135 (fun H locs Y => ?_)
            have Y : hHS G (hup Mz10 (A 3) (3, .inr (10, [.ref (A 4), .ref (A 5), .ref (A 6), .ref (A 7), .int (nI (i + 1))]))) s H locs := Y
            have ht1 := hup_tag (x := (3, .inr (10, [.ref (A 4), .ref (A 5), .ref (A 6), .ref (A 7), .int (nI (i + 1))]))) ht1 hk0 (by omega)
            have ht2 := hup_tag (x := (3, .inr (10, [.ref (A 4), .ref (A 5), .ref (A 6), .ref (A 7), .int (nI (i + 1))]))) ht2 hk0 (by omega)
            have hk4 := hup_tag (x := (3, .inr (10, [.ref (A 4), .ref (A 5), .ref (A 6), .ref (A 7), .int (nI (i + 1))]))) hk4 hk0 (by omega)
            have hk5 := hup_tag (x := (3, .inr (10, [.ref (A 4), .ref (A 5), .ref (A 6), .ref (A 7), .int (nI (i + 1))]))) hk5 hk0 (by omega)
            have hk6 := hup_tag (x := (3, .inr (10, [.ref (A 4), .ref (A 5), .ref (A 6), .ref (A 7), .int (nI (i + 1))]))) hk6 hk0 (by omega)
            have hk7 := hup_tag (x := (3, .inr (10, [.ref (A 4), .ref (A 5), .ref (A 6), .ref (A 7), .int (nI (i + 1))]))) hk7 hk0 (by omega)
            have hfr := hfr.put (x := (3, .inr (10, [.ref (A 4), .ref (A 5), .ref (A 6), .ref (A 7), .int (nI (i + 1))]))) hk0 (Or.inl rfl)
            have hk0 : hup Mz10 (A 3) (3, .inr (10, [.ref (A 4), .ref (A 5), .ref (A 6), .ref (A 7), .int (nI (i + 1))])) (A 3) = some (3, .inr (10, [.ref (A 4), .ref (A 5), .ref (A 6), .ref (A 7), .int (nI (i + 1))])) := hup_eq
            generalize hup Mz10 (A 3) (3, .inr (10, [.ref (A 4), .ref (A 5), .ref (A 6), .ref (A 7), .int (nI (i + 1))])) = Mz11 at Y hk0 ht1 ht2 hk4 hk5 hk6 hk7 hfr
            refine lv_iload hx hb dX9_read_138 (lv_at hl 1 rfl) ?_
            refine lv_istore_n (lv' := [(2, .int (nI (ts i + 1))), (6, .ref (hSg G (tk i))), (5, .int (nI (ts i + 1))), (4, .int (nI (ts i))), (0, .ref (A 3)), (1, .ref a), (3, .int (nI i))]) hx hb dX9_read_140 rfl hl (by decide) rfl (fun ls hl => ?_)
            refine lv_aload hx hb dX9_read_141 (lv_at hl 1 rfl) ?_
            refine h_gets X Y (hsg_Z X.2.2.2.2.2.2.2.2.1 X.2.2.2.2.2.2.2.2.2.1 (k := 36) (by decide)) kfl_X9_46 dX9_read_143 ?_
            refine lv_acmp_eq (rx := some (hSg G (tk i))) (ry := some (hSg G 36)) (tgt := 157) hx hb dX9_read_146 (by decide) (fun c146 => ?_) (fun c146 => absurd (by rw [htk36]) c146)
            have hq4 : ∀ j, j < i + 1 → (va_up k4 i (some (hSg G (tk i)))) j = some (hSg G (tk j)) := by
              intro j hj
              by_cases e9 : j = i
              · subst e9; exact va_up_self _ _ _
              · rw [va_up_ne _ _ e9]; exact hq4 j (by omega)
            have hq6 : ∀ j, j < i + 1 → (upd k6 i (if tk i = 34 then tNum B (ts i) (en (i + 1) - ts i) else 0)) j = if tk j = 34 then tNum B (ts j) (en (j + 1) - ts j) else 0 := by
              intro j hj
              by_cases e9 : j = i
              · subst e9; exact pk_us
              · rw [pk_un e9]; exact hq6 j (by omega)
            have hq7 : ∀ j, j < i + 1 → (vp_updL k7 i (if tk i = 33 then tWd B n (ts i) (en (i + 1) - ts i) else 0)) j = if tk j = 33 then tWd B n (ts j) (en (j + 1) - ts j) else 0 := by
              intro j hj
              by_cases e9 : j = i
              · subst e9; exact pk_uLs
              · rw [pk_uLn e9]; exact hq7 j (by omega)
            exact h_vret X Y ⟨rfl, ⟨hk0, ⟨_, fun j hj => hq4 j (by omega), hk4⟩, ⟨_, hk5⟩, ⟨_, fun j hj => hq6 j (by omega), hk6⟩, _, fun j hj => hq7 j (by omega), hk7⟩, hfr⟩ (Nat.le_of_ble_eq_true rfl) (Nat.le_of_ble_eq_true rfl) dX9_read_157
          refine lv_aload hx hb dX9_read_110 (lv_at hl 0 rfl) ?_
          refine h_gets X Y (hsg_Z X.2.2.2.2.2.2.2.2.1 X.2.2.2.2.2.2.2.2.2.1 (k := 33) (by decide)) kfl_X9_60 dX9_read_112 ?_
          have h33 : ¬ tk i = 33 := by omega
          refine lv_acmp_ne (rx := some (hSg G (tk i))) (ry := some (hSg G 33)) (tgt := 129) hx hb dX9_read_115 (by decide) (fun _ => ?_) (fun z9 => absurd (hsg_inj X.2.2.2.2.2.2.2.2.1 (by omega) (by omega) (Option.some.inj z9)) h33)
          refine lv_lconst (v := 0) hx hb dX9_read_129 (by decide) ?_
          refine h_evL (y := if tk i = 33 then tWd B n (ts i) (en (i + 1) - ts i) else 0) ((if_neg h33).symm) ?_
          exact tail130 _ _ _ Y (lv_sub hl [0, 1, 2, 3, 4, 5, 6] rfl)
        refine lv_aload hx hb dX9_read_84 (lv_at hl 0 rfl) ?_
        refine h_gets X Y (hsg_Z X.2.2.2.2.2.2.2.2.1 X.2.2.2.2.2.2.2.2.2.1 (k := 34) (by decide)) kfl_X9_53 dX9_read_86 ?_
        have h34 : ¬ tk i = 34 := by omega
        refine lv_acmp_ne (rx := some (hSg G (tk i))) (ry := some (hSg G 34)) (tgt := 103) hx hb dX9_read_89 (by decide) (fun _ => ?_) (fun z9 => absurd (hsg_inj X.2.2.2.2.2.2.2.2.1 (by omega) (by omega) (Option.some.inj z9)) h34)
        refine lv_iconst (v := 0) hx hb dX9_read_103 (by decide) ?_
        refine h_ev (y := if tk i = 34 then tNum B (ts i) (en (i + 1) - ts i) else 0) ((if_neg h34).symm) ?_
        exact tail104 _ _ _ Y (lv_sub hl [0, 1, 2, 3, 4, 5, 6] rfl)
  exact loop (N + 2) 0 (by omega) (by omega) Mz1 _ _ _ _ _ ht1 ht2 hk0 hk4 hk5 hk6 hk7 hfr (fun j z9 => absurd z9 (by omega)) (fun j z9 => absurd z9 (by omega)) (fun j z9 => absurd z9 (by omega)) _ _ _ Y (lv_sub hl [2, 3, 1, 0] rfl)
