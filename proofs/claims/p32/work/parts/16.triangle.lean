-- TRIANGLES
def hS2 (j u : Nat) : Prop := 400 + 20 * j ≤ u ∧ u < 400 + 20 * j + 20
def TrV (G : hG) (M : hM) (S : hSy) (j : Nat) (ce : Nat → Nat → Int32) (nw : Int32) : Prop := M (sA S (400 + 20 * j)) = some (400 + 20 * j, .inr (11, [.ref (sA S (400 + 20 * j + 1)), .int nw]))
  ∧ (∃ f : Nat → Option Nat, (∀ i, i < 10 → f i = some (sA S (400 + 20 * j + 2 + i))) ∧ M (sA S (400 + 20 * j + 1)) = some (400 + 20 * j + 1, .inl (hT G 5, 10, .inr (.inr (.inr (.inr f))))))
  ∧ ∀ i, i < 10 → M (sA S (400 + 20 * j + 2 + i)) = some (400 + 20 * j + 2 + i, .inl (hT G 0, 10, .inl (ce i)))
theorem hS2_scr {j : Nat} (hj : j < 4) : ∀ u, hS2 j u → hScr u := fun u h => by unfold hS2 at h; exact Or.inr (by omega)
theorem hS2_ces {j cx : Nat} (hc : cx < 3) : ∀ u, hS2 j u → ¬ (100 * (cx + 1) ≤ u ∧ u < 100 * (cx + 1) + 100) := fun u h => by unfold hS2 at h; omega
theorem hS2_tri {i j : Nat} (hne : i ≠ j) : ∀ u, hS2 i u → ¬ hS2 j u := fun u h => by unfold hS2 at h ⊢; omega
theorem hS1_tri {cx j : Nat} (hc : cx < 3) : ∀ u, hS1 cx u → ¬ hS2 j u ∨ 2000 ≤ u := fun u h => by unfold hS1 hS0 at h; unfold hS2; omega
theorem TrV.sim {G : hG} {Z : Nat → Prop} {M M' : hM} {S : hSy} {j : Nat} {ce : Nat → Nat → Int32} {nw : Int32} (h : hSim G Z M M') (hs : ∀ u, hS2 j u → ¬ Z u) (hV : TrV G M S j ce nw) : TrV G M' S j ce nw := by
  obtain ⟨h1, ⟨f, h2, h3⟩, h4⟩ := hV
  exact ⟨h.keep h1 (hs _ (by unfold hS2; omega)), ⟨f, h2, h.oth h3⟩, fun i hi => h.keep (h4 i hi) (hs _ (by unfold hS2; omega))⟩
theorem TrV.putRow {G : hG} {M : hM} {S : hSy} {j : Nat} {ce : Nat → Nat → Int32} {nw : Int32} (hj : j < 4) (i : Nat) (hi : i < 10) (b : Nat → Int32) (hV : TrV G M S j ce nw) (hS : SyV G M S) : TrV G (hup M (sA S (400 + 20 * j + 2 + i)) (400 + 20 * j + 2 + i, .inl (hT G 0, 10, .inl b))) S j (va_up ce i b) nw ∧ SyV G (hup M (sA S (400 + 20 * j + 2 + i)) (400 + 20 * j + 2 + i, .inl (hT G 0, 10, .inl b))) S ∧ hSim G (hS2 j) M (hup M (sA S (400 + 20 * j + 2 + i)) (400 + 20 * j + 2 + i, .inl (hT G 0, 10, .inl b))) := by
  obtain ⟨h1, ⟨f, h2, h3⟩, h4⟩ := hV
  have hq : hSim G (hS2 j) M (hup M (sA S (400 + 20 * j + 2 + i)) (400 + 20 * j + 2 + i, .inl (hT G 0, 10, .inl b))) := hSim.put (h4 i hi) (by unfold hS2; omega)
  refine ⟨⟨hup_tag h1 (h4 i hi) (by omega), ⟨f, h2, hup_tag h3 (h4 i hi) (by omega)⟩, fun k hk => ?_⟩, hS.sim hq (hS2_scr hj), hq⟩
  by_cases e : k = i
  · subst e; rw [va_up_self]; exact hup_eq
  · rw [va_up_ne _ _ e]; exact hup_tag (h4 k hk) (h4 i hi) (by omega)
theorem TrV.putNow {G : hG} {M : hM} {S : hSy} {j : Nat} {ce : Nat → Nat → Int32} {nw : Int32} (hj : j < 4) (v : Int32) (hV : TrV G M S j ce nw) (hS : SyV G M S) : TrV G (hup M (sA S (400 + 20 * j)) (400 + 20 * j, .inr (11, [.ref (sA S (400 + 20 * j + 1)), .int v]))) S j ce v ∧ SyV G (hup M (sA S (400 + 20 * j)) (400 + 20 * j, .inr (11, [.ref (sA S (400 + 20 * j + 1)), .int v]))) S ∧ hSim G (hS2 j) M (hup M (sA S (400 + 20 * j)) (400 + 20 * j, .inr (11, [.ref (sA S (400 + 20 * j + 1)), .int v]))) := by
  obtain ⟨h1, ⟨f, h2, h3⟩, h4⟩ := hV
  have hq : hSim G (hS2 j) M (hup M (sA S (400 + 20 * j)) (400 + 20 * j, .inr (11, [.ref (sA S (400 + 20 * j + 1)), .int v]))) := hSim.putT h1 (by unfold hS2; omega)
  exact ⟨⟨hup_eq, ⟨f, h2, hup_tag h3 h1 (by omega)⟩, fun k hk => hup_tag (h4 k hk) h1 (by omega)⟩, hS.sim hq (hS2_scr hj), hq⟩
def rSumL (f : Nat → Int32) : Nat → Int64
  | 0 => 0
  | n + 1 => rSumL f n + (f n).toInt64
def trFac (ce : Nat → Nat → Int32) (nw age : Nat) : Int32 := if rSumL (fun y => ce y age) (nw - age) = 0 then 1000 else (sMinL (rSumL (fun y => ce y (age + 1)) (nw - age) * 1000 / rSumL (fun y => ce y age) (nw - age)) 1000000).toInt32
def trG (ce : Nat → Nat → Int32) (nw a0 : Nat) (z : Int64) : Nat → Int64
  | 0 => z
  | j + 1 => sMinL (trG ce nw a0 z j * (trFac ce nw (a0 + j)).toInt64 / 1000) 2000000000
def trGrown (ce : Nat → Nat → Int32) (nw : Nat) (z : Int64) (y : Nat) (tail : Int32) : Int32 := (sMinL (trG ce nw (nw - y) z (9 - (nw - y)) * tail.toInt64 / 1000) 2000000000).toInt32
theorem dX10_nowOf_0 : decode cX10_nowOf 0 = .ok (.aload_n 0, 1) := by decide +kernel
theorem dX10_nowOf_1 : decode cX10_nowOf 1 = .ok (.getfield 11, 3) := by decide +kernel
theorem dX10_nowOf_4 : decode cX10_nowOf 4 = .ok (.iload_n 1, 1) := by decide +kernel
theorem dX10_nowOf_5 : decode cX10_nowOf 5 = .ok (.aaload, 1) := by decide +kernel
theorem dX10_nowOf_6 : decode cX10_nowOf 6 = .ok (.aload_n 0, 1) := by decide +kernel
theorem dX10_nowOf_7 : decode cX10_nowOf 7 = .ok (.getfield 16, 3) := by decide +kernel
theorem dX10_nowOf_10 : decode cX10_nowOf 10 = .ok (.iload_n 1, 1) := by decide +kernel
theorem dX10_nowOf_11 : decode cX10_nowOf 11 = .ok (.isub, 1) := by decide +kernel
theorem dX10_nowOf_12 : decode cX10_nowOf 12 = .ok (.iaload, 1) := by decide +kernel
theorem dX10_nowOf_13 : decode cX10_nowOf 13 = .ok (.ireturn, 1) := by decide +kernel
set_option maxHeartbeats 400000 in
set_option maxRecDepth 100000 in
theorem c_nowOf (l : Launch) (G : hG) (M : hM) (S : hSy) (j : Nat) (ce : Nat → Nat → Int32) (nw : Nat) (hV : TrV G M S j ce (nI nw)) (hn : nw < 10) (y : Nat) (hy : y ≤ nw) : hCT l G yX10_nowOf cX10_nowOf 2 (Option.some FieldType.int) (hRm 1 0 0) M [.ref (sA S (400 + 20 * j)), .int (nI y)] (hRd M (.int (ce y (nw - y)))) := by
  refine hCT.of (own := RX10) (nm := "nowOf") (by decide) rfl rfl (Nat.le_of_ble_eq_true rfl) ?_
  intro p e s m args below meth c ls X Y hl
  have hx := X.1
  have hb := X.2.1
  have hl : lv_has ls 2 [(0, .ref (sA S (400 + 20 * j))), (1, .int (nI y))] := hl
  obtain ⟨t1, ⟨ft, hft, t2⟩, t3⟩ := id hV
  refine lv_aload_n hx hb dX10_nowOf_0 rfl (lv_at hl 0 rfl) ?_
  refine h_get X Y (k := 0) (v := .ref (sA S (400 + 20 * j + 1))) t1 rfl hin_X10 (by decide) kfl_X10_11 rfl dX10_nowOf_1 ?_
  refine lv_iload_n hx hb dX10_nowOf_4 rfl (lv_at hl 1 rfl) ?_
  refine h_aaldI X Y (i := y) t2 (by omega) (by decide) dX10_nowOf_5 ?_
  refine h_rf (hft y (by omega)) ?_
  refine lv_aload_n hx hb dX10_nowOf_6 rfl (lv_at hl 0 rfl) ?_
  refine h_get X Y (k := 1) (v := .int (nI nw)) t1 rfl hin_X10 (by decide) kfl_X10_16 rfl dX10_nowOf_7 ?_
  refine lv_iload_n hx hb dX10_nowOf_10 rfl (lv_at hl 1 rfl) ?_
  refine lv_isub hx hb dX10_nowOf_11 ?_
  refine h_ev (y := nI (nw - y)) (pk_sub hy) ?_
  refine h_iald X Y (i := (nw - y)) (t3 y (by omega)) (by omega) (by decide) dX10_nowOf_12 ?_
  exact h_iret X Y ⟨rfl, rfl⟩ (Nat.le_refl _) (Nat.le_refl _) dX10_nowOf_13
theorem dX10_factorAt_0 : decode cX10_factorAt 0 = .ok (.lconst 0, 1) := by decide +kernel
theorem dX10_factorAt_1 : decode cX10_factorAt 1 = .ok (.lstore_n 2, 1) := by decide +kernel
theorem dX10_factorAt_2 : decode cX10_factorAt 2 = .ok (.lconst 0, 1) := by decide +kernel
theorem dX10_factorAt_3 : decode cX10_factorAt 3 = .ok (.lstore 4, 2) := by decide +kernel
theorem dX10_factorAt_5 : decode cX10_factorAt 5 = .ok (.iconst 0, 1) := by decide +kernel
theorem dX10_factorAt_6 : decode cX10_factorAt 6 = .ok (.istore 6, 2) := by decide +kernel
theorem dX10_factorAt_8 : decode cX10_factorAt 8 = .ok (.iload 6, 2) := by decide +kernel
theorem dX10_factorAt_10 : decode cX10_factorAt 10 = .ok (.iload_n 1, 1) := by decide +kernel
theorem dX10_factorAt_11 : decode cX10_factorAt 11 = .ok (.iadd, 1) := by decide +kernel
theorem dX10_factorAt_12 : decode cX10_factorAt 12 = .ok (.iconst 1, 1) := by decide +kernel
theorem dX10_factorAt_13 : decode cX10_factorAt 13 = .ok (.iadd, 1) := by decide +kernel
theorem dX10_factorAt_14 : decode cX10_factorAt 14 = .ok (.aload_n 0, 1) := by decide +kernel
theorem dX10_factorAt_15 : decode cX10_factorAt 15 = .ok (.getfield 16, 3) := by decide +kernel
theorem dX10_factorAt_18 : decode cX10_factorAt 18 = .ok (.if_icmp .gt 39, 3) := by decide +kernel
theorem dX10_factorAt_21 : decode cX10_factorAt 21 = .ok (.lload_n 2, 1) := by decide +kernel
theorem dX10_factorAt_22 : decode cX10_factorAt 22 = .ok (.aload_n 0, 1) := by decide +kernel
theorem dX10_factorAt_23 : decode cX10_factorAt 23 = .ok (.getfield 11, 3) := by decide +kernel
theorem dX10_factorAt_26 : decode cX10_factorAt 26 = .ok (.iload 6, 2) := by decide +kernel
theorem dX10_factorAt_28 : decode cX10_factorAt 28 = .ok (.aaload, 1) := by decide +kernel
theorem dX10_factorAt_29 : decode cX10_factorAt 29 = .ok (.iload_n 1, 1) := by decide +kernel
theorem dX10_factorAt_30 : decode cX10_factorAt 30 = .ok (.iaload, 1) := by decide +kernel
theorem dX10_factorAt_31 : decode cX10_factorAt 31 = .ok (.i2l, 1) := by decide +kernel
theorem dX10_factorAt_32 : decode cX10_factorAt 32 = .ok (.ladd, 1) := by decide +kernel
theorem dX10_factorAt_33 : decode cX10_factorAt 33 = .ok (.lstore_n 2, 1) := by decide +kernel
theorem dX10_factorAt_34 : decode cX10_factorAt 34 = .ok (.lload 4, 2) := by decide +kernel
theorem dX10_factorAt_36 : decode cX10_factorAt 36 = .ok (.aload_n 0, 1) := by decide +kernel
theorem dX10_factorAt_37 : decode cX10_factorAt 37 = .ok (.getfield 11, 3) := by decide +kernel
theorem dX10_factorAt_40 : decode cX10_factorAt 40 = .ok (.iload 6, 2) := by decide +kernel
theorem dX10_factorAt_42 : decode cX10_factorAt 42 = .ok (.aaload, 1) := by decide +kernel
theorem dX10_factorAt_43 : decode cX10_factorAt 43 = .ok (.iload_n 1, 1) := by decide +kernel
theorem dX10_factorAt_44 : decode cX10_factorAt 44 = .ok (.iconst 1, 1) := by decide +kernel
theorem dX10_factorAt_45 : decode cX10_factorAt 45 = .ok (.iadd, 1) := by decide +kernel
theorem dX10_factorAt_46 : decode cX10_factorAt 46 = .ok (.iaload, 1) := by decide +kernel
theorem dX10_factorAt_47 : decode cX10_factorAt 47 = .ok (.i2l, 1) := by decide +kernel
theorem dX10_factorAt_48 : decode cX10_factorAt 48 = .ok (.ladd, 1) := by decide +kernel
theorem dX10_factorAt_49 : decode cX10_factorAt 49 = .ok (.lstore 4, 2) := by decide +kernel
theorem dX10_factorAt_51 : decode cX10_factorAt 51 = .ok (.iinc 6 1, 3) := by decide +kernel
theorem dX10_factorAt_54 : decode cX10_factorAt 54 = .ok (.goto (-46), 3) := by decide +kernel
theorem dX10_factorAt_57 : decode cX10_factorAt 57 = .ok (.lload_n 2, 1) := by decide +kernel
theorem dX10_factorAt_58 : decode cX10_factorAt 58 = .ok (.lconst 0, 1) := by decide +kernel
theorem dX10_factorAt_59 : decode cX10_factorAt 59 = .ok (.lcmp, 1) := by decide +kernel
theorem dX10_factorAt_60 : decode cX10_factorAt 60 = .ok (.ifCond .ne 9, 3) := by decide +kernel
theorem dX10_factorAt_63 : decode cX10_factorAt 63 = .ok (.sipush 1000, 3) := by decide +kernel
theorem dX10_factorAt_66 : decode cX10_factorAt 66 = .ok (.goto 18, 3) := by decide +kernel
theorem dX10_factorAt_69 : decode cX10_factorAt 69 = .ok (.lload 4, 2) := by decide +kernel
theorem dX10_factorAt_71 : decode cX10_factorAt 71 = .ok (.ldc2_w 20, 3) := by decide +kernel
theorem dX10_factorAt_74 : decode cX10_factorAt 74 = .ok (.lmul, 1) := by decide +kernel
theorem dX10_factorAt_75 : decode cX10_factorAt 75 = .ok (.lload_n 2, 1) := by decide +kernel
theorem dX10_factorAt_76 : decode cX10_factorAt 76 = .ok (.ldiv, 1) := by decide +kernel
theorem dX10_factorAt_77 : decode cX10_factorAt 77 = .ok (.ldc2_w 22, 3) := by decide +kernel
theorem dX10_factorAt_80 : decode cX10_factorAt 80 = .ok (.invokestatic 24, 3) := by decide +kernel
theorem dX10_factorAt_83 : decode cX10_factorAt 83 = .ok (.l2i, 1) := by decide +kernel
theorem dX10_factorAt_84 : decode cX10_factorAt 84 = .ok (.ireturn, 1) := by decide +kernel
set_option maxHeartbeats 400000 in
set_option maxRecDepth 100000 in
theorem c_factorAt (l : Launch) (G : hG) (M : hM) (S : hSy) (j : Nat) (ce : Nat → Nat → Int32) (nw : Nat) (hV : TrV G M S j ce (nI nw)) (hn : nw < 10) (age : Nat) (ha : age ≤ 8) : hCT l G yX10_factorAt cX10_factorAt 7 (Option.some FieldType.int) (hRm 1 0 0) M [.ref (sA S (400 + 20 * j)), .int (nI age)] (hRd M (.int (trFac ce nw age))) := by
  refine hCT.of (own := RX10) (nm := "factorAt") (by decide) rfl rfl (Nat.le_of_ble_eq_true rfl) ?_
  intro p e s m args below meth c ls X Y hl
  have hx := X.1
  have hb := X.2.1
  have hl : lv_has ls 7 [(0, .ref (sA S (400 + 20 * j))), (1, .int (nI age))] := hl
  obtain ⟨t1, ⟨ft, hft, t2⟩, t3⟩ := id hV
  refine lv_lconst (v := 0) hx hb dX10_factorAt_0 (by decide) ?_
  refine lv_lstore_n (lv' := [(2, .long 0), (0, .ref (sA S (400 + 20 * j))), (1, .int (nI age))]) hx hb dX10_factorAt_1 rfl hl (by decide) rfl (fun ls hl => ?_)
  refine lv_lconst (v := 0) hx hb dX10_factorAt_2 (by decide) ?_
  refine lv_lstore (lv' := [(4, .long 0), (2, .long 0), (0, .ref (sA S (400 + 20 * j))), (1, .int (nI age))]) hx hb dX10_factorAt_3 hl (by decide) rfl (fun ls hl => ?_)
  refine lv_iconst (v := 0) hx hb dX10_factorAt_5 (by decide) ?_
  refine lv_istore (lv' := [(6, .int 0), (4, .long 0), (2, .long 0), (0, .ref (sA S (400 + 20 * j))), (1, .int (nI age))]) hx hb dX10_factorAt_6 hl (by decide) rfl (fun ls hl => ?_)
  have loop : ∀ (d y : Nat), y + d = (nw - age) + 1 → y ≤ (nw - age) → ∀ (H : Heap) (locs : List Loc) (ls : Array Slot), hHS G M s H locs → lv_has ls 7 [(0, .ref (sA S (400 + 20 * j))), (1, .int (nI age)), (2, .long (rSumL (fun yy => ce yy age) y)), (4, .long (rSumL (fun yy => ce yy (age + 1)) y)), (6, .int (nI y))] → W p l e (hRm 1 0 0) s m args below meth c H locs 0 0 (MQ below (hQ G (hRd M (.int (trFac ce nw age)))) args s 0 0 (hA G)) (F0 m 8 ls []) := by
    intro d
    induction d with
    | zero => intro y h1 h2; exact absurd h1 (by omega)
    | succ d ih =>
      intro y h1 h2 H locs ls Y hl
      refine lv_iload hx hb dX10_factorAt_8 (lv_at hl 4 rfl) ?_
      refine lv_iload_n hx hb dX10_factorAt_10 rfl (lv_at hl 1 rfl) ?_
      refine lv_iadd hx hb dX10_factorAt_11 ?_
      refine h_ev (y := nI (y + age)) (nI_add y age) ?_
      refine lv_iconst (v := 1) hx hb dX10_factorAt_12 (by decide) ?_
      refine lv_iadd hx hb dX10_factorAt_13 ?_
      refine h_ev (y := nI ((y + age) + 1)) (nI_1 (y + age)) ?_
      refine lv_aload_n hx hb dX10_factorAt_14 rfl (lv_at hl 0 rfl) ?_
      refine h_get X Y (k := 1) (v := .int (nI nw)) t1 rfl hin_X10 (by decide) kfl_X10_16 rfl dX10_factorAt_15 ?_
      refine lv_icmp_gt (tgt := 57) hx hb dX10_factorAt_18 (by decide) (fun c18 => ?_) (fun c18 => ?_)
      · have c18 : nw < ((y + age) + 1) := (nI_ltI (a := nw) (b := ((y + age) + 1)) (by omega) (by omega)).mp c18
        have hk9 : y = (nw - age) := by omega
        subst hk9
        refine lv_lload_n hx hb dX10_factorAt_57 rfl (lv_at hl 2 rfl) ?_
        refine lv_lconst (v := 0) hx hb dX10_factorAt_58 (by decide) ?_
        refine W.lcmp hx hb dX10_factorAt_59 ?_
        refine lv_if_ne (tgt := 69) hx hb dX10_factorAt_60 (by decide) (fun c60 => ?_) (fun c60 => ?_)
        · refine lv_lload hx hb dX10_factorAt_69 (lv_at hl 3 rfl) ?_
          refine lv_ldc2 hx hb X.2.2.2.2.1 (X.2.2.2.2.2.1 _ kcJ_X10_20) dX10_factorAt_71 ?_
          refine lv_lmul hx hb dX10_factorAt_74 ?_
          refine lv_lload_n hx hb dX10_factorAt_75 rfl (lv_at hl 2 rfl) ?_
          refine lv_ldiv hx hb dX10_factorAt_76 (lg_cmp_n c60) ?_
          refine lv_ldc2 hx hb X.2.2.2.2.1 (X.2.2.2.2.2.1 _ kcJ_X10_22) dX10_factorAt_77 ?_
          refine h_mminL X kml_X10_24 hl.1 (Nat.le_of_ble_eq_true rfl) (Nat.le_of_ble_eq_true rfl) ⟨Nat.le_of_ble_eq_true rfl, Nat.le_of_ble_eq_true rfl⟩ dX10_factorAt_80 ?_
          refine lv_l2i (v := (sMinL (((rSumL (fun yy => ce yy (age + 1)) (nw - age)) * 1000) / (rSumL (fun yy => ce yy age) (nw - age))) 1000000).toInt32) hx hb dX10_factorAt_83 rfl ?_
          exact h_iret X Y ⟨congrArg (fun z => some (Value.int z)) (if_neg (lg_cmp_n c60)).symm, rfl⟩ (Nat.le_refl _) (Nat.le_refl _) dX10_factorAt_84
        · refine lv_sipush (v := 1000) hx hb dX10_factorAt_63 (by decide) ?_
          refine lv_goto (tgt := 84) hx hb dX10_factorAt_66 (by decide) ?_
          exact h_iret X Y ⟨congrArg (fun z => some (Value.int z)) (if_pos (lg_cmp_0 c60)).symm, rfl⟩ (Nat.le_refl _) (Nat.le_refl _) dX10_factorAt_84
      · have c18 : ¬ nw < ((y + age) + 1) := fun z9 => c18 ((nI_ltI (a := nw) (b := ((y + age) + 1)) (by omega) (by omega)).mpr z9)
        refine lv_lload_n hx hb dX10_factorAt_21 rfl (lv_at hl 2 rfl) ?_
        refine lv_aload_n hx hb dX10_factorAt_22 rfl (lv_at hl 0 rfl) ?_
        refine h_get X Y (k := 0) (v := .ref (sA S (400 + 20 * j + 1))) t1 rfl hin_X10 (by decide) kfl_X10_11 rfl dX10_factorAt_23 ?_
        refine lv_iload hx hb dX10_factorAt_26 (lv_at hl 4 rfl) ?_
        refine h_aaldI X Y (i := y) t2 (by omega) (by decide) dX10_factorAt_28 ?_
        refine h_rf (hft y (by omega)) ?_
        refine lv_iload_n hx hb dX10_factorAt_29 rfl (lv_at hl 1 rfl) ?_
        refine h_iald X Y (i := age) (t3 y (by omega)) (by omega) (by decide) dX10_factorAt_30 ?_
        refine lv_i2l (v := ((ce y) age).toInt64) hx hb dX10_factorAt_31 rfl ?_
        refine lv_ladd hx hb dX10_factorAt_32 ?_
        refine lv_lstore_n (lv' := [(2, .long ((rSumL (fun yy => ce yy age) y) + (((ce y) age).toInt64))), (0, .ref (sA S (400 + 20 * j))), (1, .int (nI age)), (4, .long (rSumL (fun yy => ce yy (age + 1)) y)), (6, .int (nI y))]) hx hb dX10_factorAt_33 rfl hl (by decide) rfl (fun ls hl => ?_)
        refine lv_lload hx hb dX10_factorAt_34 (lv_at hl 3 rfl) ?_
        refine lv_aload_n hx hb dX10_factorAt_36 rfl (lv_at hl 1 rfl) ?_
        refine h_get X Y (k := 0) (v := .ref (sA S (400 + 20 * j + 1))) t1 rfl hin_X10 (by decide) kfl_X10_11 rfl dX10_factorAt_37 ?_
        refine lv_iload hx hb dX10_factorAt_40 (lv_at hl 4 rfl) ?_
        refine h_aaldI X Y (i := y) t2 (by omega) (by decide) dX10_factorAt_42 ?_
        refine h_rf (hft y (by omega)) ?_
        refine lv_iload_n hx hb dX10_factorAt_43 rfl (lv_at hl 2 rfl) ?_
        refine lv_iconst (v := 1) hx hb dX10_factorAt_44 (by decide) ?_
        refine lv_iadd hx hb dX10_factorAt_45 ?_
        refine h_ev (y := nI (age + 1)) (nI_1 age) ?_
        refine h_iald X Y (i := (age + 1)) (t3 y (by omega)) (by omega) (by decide) dX10_factorAt_46 ?_
        refine lv_i2l (v := ((ce y) (age + 1)).toInt64) hx hb dX10_factorAt_47 rfl ?_
        refine lv_ladd hx hb dX10_factorAt_48 ?_
        refine lv_lstore (lv' := [(4, .long ((rSumL (fun yy => ce yy (age + 1)) y) + (((ce y) (age + 1)).toInt64))), (2, .long ((rSumL (fun yy => ce yy age) y) + (((ce y) age).toInt64))), (0, .ref (sA S (400 + 20 * j))), (1, .int (nI age)), (6, .int (nI y))]) hx hb dX10_factorAt_49 hl (by decide) rfl (fun ls hl => ?_)
        refine lv_iinc (v := nI (y + 1)) (lv' := [(6, .int (nI (y + 1))), (4, .long ((rSumL (fun yy => ce yy (age + 1)) y) + (((ce y) (age + 1)).toInt64))), (2, .long ((rSumL (fun yy => ce yy age) y) + (((ce y) age).toInt64))), (0, .ref (sA S (400 + 20 * j))), (1, .int (nI age))]) hx hb dX10_factorAt_51 hl (k := 4) rfl (nI_1 y) (by decide) rfl (fun ls hl => ?_)
        refine lv_goto (tgt := 8) hx hb dX10_factorAt_54 (by decide) ?_
        exact ih (y + 1) (by omega) (by omega) _ _ _ Y (lv_sub hl [3, 4, 2, 1, 0] rfl)
  exact loop ((nw - age) + 1) 0 (by omega) (by omega) _ _ _ Y (lv_sub hl [3, 4, 2, 1, 0] rfl)
theorem gw_X10_38 : GoodIn hGW (wsV RX10 38 RX10 yX10_factorAt (Cond.code yX10_factorAt cX10_factorAt 7 (Option.some FieldType.int) :: hGW)) := hgi4 kml_X10_38 kin_X10_factorAt kse_X10_X10_factorAt_X10_factorAt kini_X10 kco_X10_factorAt
theorem dsc_X10_factorAt : yX10_factorAt.cls = RX10 ∧ yX10_factorAt.cls ≠ "java/lang/invoke/MethodHandle" ∧ yX10_factorAt.cls ≠ "java/lang/invoke/VarHandle" ∧ (parseMethodDescriptor yX10_factorAt.desc).map (fun d => d.parameters.length) = some 1 := ⟨rfl, by decide +kernel, by decide +kernel, by decide +kernel⟩
theorem dX10_grown_0 : decode cX10_grown 0 = .ok (.lload_n 1, 1) := by decide +kernel
theorem dX10_grown_1 : decode cX10_grown 1 = .ok (.lstore 5, 2) := by decide +kernel
theorem dX10_grown_3 : decode cX10_grown 3 = .ok (.aload_n 0, 1) := by decide +kernel
theorem dX10_grown_4 : decode cX10_grown 4 = .ok (.getfield 16, 3) := by decide +kernel
theorem dX10_grown_7 : decode cX10_grown 7 = .ok (.iload_n 3, 1) := by decide +kernel
theorem dX10_grown_8 : decode cX10_grown 8 = .ok (.isub, 1) := by decide +kernel
theorem dX10_grown_9 : decode cX10_grown 9 = .ok (.istore 7, 2) := by decide +kernel
theorem dX10_grown_11 : decode cX10_grown 11 = .ok (.iload 7, 2) := by decide +kernel
theorem dX10_grown_13 : decode cX10_grown 13 = .ok (.bipush 8, 2) := by decide +kernel
theorem dX10_grown_15 : decode cX10_grown 15 = .ok (.if_icmp .gt 31, 3) := by decide +kernel
theorem dX10_grown_18 : decode cX10_grown 18 = .ok (.lload 5, 2) := by decide +kernel
theorem dX10_grown_20 : decode cX10_grown 20 = .ok (.aload_n 0, 1) := by decide +kernel
theorem dX10_grown_21 : decode cX10_grown 21 = .ok (.iload 7, 2) := by decide +kernel
theorem dX10_grown_23 : decode cX10_grown 23 = .ok (.invokevirtual 38, 3) := by decide +kernel
theorem dX10_grown_26 : decode cX10_grown 26 = .ok (.i2l, 1) := by decide +kernel
theorem dX10_grown_27 : decode cX10_grown 27 = .ok (.lmul, 1) := by decide +kernel
theorem dX10_grown_28 : decode cX10_grown 28 = .ok (.ldc2_w 20, 3) := by decide +kernel
theorem dX10_grown_31 : decode cX10_grown 31 = .ok (.ldiv, 1) := by decide +kernel
theorem dX10_grown_32 : decode cX10_grown 32 = .ok (.ldc2_w 41, 3) := by decide +kernel
theorem dX10_grown_35 : decode cX10_grown 35 = .ok (.invokestatic 24, 3) := by decide +kernel
theorem dX10_grown_38 : decode cX10_grown 38 = .ok (.lstore 5, 2) := by decide +kernel
theorem dX10_grown_40 : decode cX10_grown 40 = .ok (.iinc 7 1, 3) := by decide +kernel
theorem dX10_grown_43 : decode cX10_grown 43 = .ok (.goto (-32), 3) := by decide +kernel
theorem dX10_grown_46 : decode cX10_grown 46 = .ok (.lload 5, 2) := by decide +kernel
theorem dX10_grown_48 : decode cX10_grown 48 = .ok (.iload 4, 2) := by decide +kernel
theorem dX10_grown_50 : decode cX10_grown 50 = .ok (.i2l, 1) := by decide +kernel
theorem dX10_grown_51 : decode cX10_grown 51 = .ok (.lmul, 1) := by decide +kernel
theorem dX10_grown_52 : decode cX10_grown 52 = .ok (.ldc2_w 20, 3) := by decide +kernel
theorem dX10_grown_55 : decode cX10_grown 55 = .ok (.ldiv, 1) := by decide +kernel
theorem dX10_grown_56 : decode cX10_grown 56 = .ok (.ldc2_w 41, 3) := by decide +kernel
theorem dX10_grown_59 : decode cX10_grown 59 = .ok (.invokestatic 24, 3) := by decide +kernel
theorem dX10_grown_62 : decode cX10_grown 62 = .ok (.l2i, 1) := by decide +kernel
theorem dX10_grown_63 : decode cX10_grown 63 = .ok (.ireturn, 1) := by decide +kernel
set_option maxHeartbeats 400000 in
set_option maxRecDepth 100000 in
theorem c_grown (l : Launch) (G : hG) (M : hM) (S : hSy) (j : Nat) (ce : Nat → Nat → Int32) (nw : Nat) (hV : TrV G M S j ce (nI nw)) (hn : nw < 10) (z : Int64) (y : Nat) (tail : Int32) (hy : y ≤ nw) : hCT l G yX10_grown cX10_grown 8 (Option.some FieldType.int) (hRm 2 0 0) M [.ref (sA S (400 + 20 * j)), .long z, .int (nI y), .int tail] (hRd M (.int (trGrown ce nw z y tail))) := by
  refine hCT.of (own := RX10) (nm := "grown") (by decide) rfl rfl (Nat.le_of_ble_eq_true rfl) ?_
  intro p e s m args below meth c ls X Y hl
  have hx := X.1
  have hb := X.2.1
  have hl : lv_has ls 8 [(0, .ref (sA S (400 + 20 * j))), (1, .long z), (3, .int (nI y)), (4, .int tail)] := hl
  obtain ⟨t1, ⟨ft, hft, t2⟩, t3⟩ := id hV
  obtain ⟨a0, ha0⟩ : ∃ a0, a0 = nw - y := ⟨_, rfl⟩
  refine lv_lload_n hx hb dX10_grown_0 rfl (lv_at hl 1 rfl) ?_
  refine lv_lstore (lv' := [(5, .long z), (0, .ref (sA S (400 + 20 * j))), (1, .long z), (3, .int (nI y)), (4, .int tail)]) hx hb dX10_grown_1 hl (by decide) rfl (fun ls hl => ?_)
  refine lv_aload_n hx hb dX10_grown_3 rfl (lv_at hl 1 rfl) ?_
  refine h_get X Y (k := 1) (v := .int (nI nw)) t1 rfl hin_X10 (by decide) kfl_X10_16 rfl dX10_grown_4 ?_
  refine lv_iload_n hx hb dX10_grown_7 rfl (lv_at hl 3 rfl) ?_
  refine lv_isub hx hb dX10_grown_8 ?_
  refine h_ev (y := nI (nw - y)) (pk_sub hy) ?_
  refine lv_istore (lv' := [(7, .int (nI (nw - y))), (5, .long z), (0, .ref (sA S (400 + 20 * j))), (1, .long z), (3, .int (nI y)), (4, .int tail)]) hx hb dX10_grown_9 hl (by decide) rfl (fun ls hl => ?_)
  rw [show nw - y = a0 + 0 by omega] at hl
  have loop : ∀ (d i : Nat), i + d = (9 - a0) + 1 → i ≤ (9 - a0) → ∀ (H : Heap) (locs : List Loc) (ls : Array Slot), hHS G M s H locs → lv_has ls 8 [(0, .ref (sA S (400 + 20 * j))), (4, .int tail), (5, .long (trG ce nw a0 z i)), (7, .int (nI (a0 + i)))] → W p l e (hRm 2 0 0) s m args below meth c H locs 0 0 (MQ below (hQ G (hRd M (.int (trGrown ce nw z y tail)))) args s 0 0 (hA G)) (F0 m 11 ls []) := by
    intro d
    induction d with
    | zero => intro i h1 h2; exact absurd h1 (by omega)
    | succ d ih =>
      intro i h1 h2 H locs ls Y hl
      refine lv_iload hx hb dX10_grown_11 (lv_at hl 3 rfl) ?_
      refine lv_bipush (v := 8) hx hb dX10_grown_13 (by decide) ?_
      refine lv_icmp_gt (tgt := 46) hx hb dX10_grown_15 (by decide) (fun c15 => ?_) (fun c15 => ?_)
      · have c15 : 8 < (a0 + i) := (nI_ltI (a := 8) (b := (a0 + i)) (by omega) (by omega)).mp c15
        have hk9 : i = (9 - a0) := by omega
        subst hk9
        refine lv_lload hx hb dX10_grown_46 (lv_at hl 2 rfl) ?_
        refine lv_iload hx hb dX10_grown_48 (lv_at hl 1 rfl) ?_
        refine lv_i2l (v := tail.toInt64) hx hb dX10_grown_50 rfl ?_
        refine lv_lmul hx hb dX10_grown_51 ?_
        refine lv_ldc2 hx hb X.2.2.2.2.1 (X.2.2.2.2.2.1 _ kcJ_X10_20) dX10_grown_52 ?_
        refine lv_ldiv hx hb dX10_grown_55 (by decide) ?_
        refine lv_ldc2 hx hb X.2.2.2.2.1 (X.2.2.2.2.2.1 _ kcJ_X10_41) dX10_grown_56 ?_
        refine h_mminL X kml_X10_24 hl.1 (Nat.le_of_ble_eq_true rfl) (Nat.le_of_ble_eq_true rfl) ⟨Nat.le_of_ble_eq_true rfl, Nat.le_of_ble_eq_true rfl⟩ dX10_grown_59 ?_
        refine lv_l2i (v := (sMinL (((trG ce nw a0 z (9 - a0)) * tail.toInt64) / 1000) 2000000000).toInt32) hx hb dX10_grown_62 rfl ?_
        exact h_iret X Y ⟨by subst ha0; rfl, rfl⟩ (Nat.le_refl _) (Nat.le_refl _) dX10_grown_63
      · have c15 : ¬ 8 < (a0 + i) := fun z9 => c15 ((nI_ltI (a := 8) (b := (a0 + i)) (by omega) (by omega)).mpr z9)
        refine lv_lload hx hb dX10_grown_18 (lv_at hl 2 rfl) ?_
        refine lv_aload_n hx hb dX10_grown_20 rfl (lv_at hl 0 rfl) ?_
        refine lv_iload hx hb dX10_grown_21 (lv_at hl 3 rfl) ?_
        refine h_callVr (rest := [.long (trG ce nw a0 z i)]) X Y (c_factorAt l G M S j ce nw hV hn (a0 + i) (by omega)) rfl rfl gw_X10_38 dsc_X10_factorAt t1 rfl rfl rfl rfl hl.1 (Nat.le_of_ble_eq_true rfl) ⟨Nat.le_of_ble_eq_true rfl, Nat.le_of_ble_eq_true rfl⟩ ⟨Nat.le_of_ble_eq_true rfl, Nat.le_of_ble_eq_true rfl⟩ dX10_grown_23 (fun H locs Y => ?_)
        refine lv_i2l (v := (trFac ce nw (a0 + i)).toInt64) hx hb dX10_grown_26 rfl ?_
        refine lv_lmul hx hb dX10_grown_27 ?_
        refine lv_ldc2 hx hb X.2.2.2.2.1 (X.2.2.2.2.2.1 _ kcJ_X10_20) dX10_grown_28 ?_
        refine lv_ldiv hx hb dX10_grown_31 (by decide) ?_
        refine lv_ldc2 hx hb X.2.2.2.2.1 (X.2.2.2.2.2.1 _ kcJ_X10_41) dX10_grown_32 ?_
        refine h_mminL X kml_X10_24 hl.1 (Nat.le_of_ble_eq_true rfl) (Nat.le_of_ble_eq_true rfl) ⟨Nat.le_of_ble_eq_true rfl, Nat.le_of_ble_eq_true rfl⟩ dX10_grown_35 ?_
        refine lv_lstore (lv' := [(5, .long (sMinL (((trG ce nw a0 z i) * ((trFac ce nw (a0 + i)).toInt64)) / 1000) 2000000000)), (0, .ref (sA S (400 + 20 * j))), (4, .int tail), (7, .int (nI (a0 + i)))]) hx hb dX10_grown_38 hl (by decide) rfl (fun ls hl => ?_)
        refine lv_iinc (v := nI (a0 + (i + 1))) (lv' := [(7, .int (nI (a0 + (i + 1)))), (5, .long (sMinL (((trG ce nw a0 z i) * ((trFac ce nw (a0 + i)).toInt64)) / 1000) 2000000000)), (0, .ref (sA S (400 + 20 * j))), (4, .int tail)]) hx hb dX10_grown_40 hl (k := 3) rfl (nI_1 (a0 + i)) (by decide) rfl (fun ls hl => ?_)
        refine lv_goto (tgt := 11) hx hb dX10_grown_43 (by decide) ?_
        exact ih (i + 1) (by omega) (by omega) _ _ _ Y (lv_sub hl [2, 3, 1, 0] rfl)
  exact loop ((9 - a0) + 1) 0 (by omega) (by omega) _ _ _ Y (lv_sub hl [2, 5, 1, 0] rfl)
theorem gw_X10_30 : GoodIn hGW (wsV RX10 30 RX10 yX10_nowOf (Cond.code yX10_nowOf cX10_nowOf 2 (Option.some FieldType.int) :: hGW)) := hgi4 kml_X10_30 kin_X10_nowOf kse_X10_X10_nowOf_X10_nowOf kini_X10 kco_X10_nowOf
theorem dsc_X10_nowOf : yX10_nowOf.cls = RX10 ∧ yX10_nowOf.cls ≠ "java/lang/invoke/MethodHandle" ∧ yX10_nowOf.cls ≠ "java/lang/invoke/VarHandle" ∧ (parseMethodDescriptor yX10_nowOf.desc).map (fun d => d.parameters.length) = some 1 := ⟨rfl, by decide +kernel, by decide +kernel, by decide +kernel⟩
theorem gw_X10_34 : GoodIn hGW (wsV RX10 34 RX10 yX10_grown (Cond.code yX10_grown cX10_grown 8 (Option.some FieldType.int) :: hGW)) := hgi4 kml_X10_34 kin_X10_grown kse_X10_X10_grown_X10_grown kini_X10 kco_X10_grown
theorem dsc_X10_grown : yX10_grown.cls = RX10 ∧ yX10_grown.cls ≠ "java/lang/invoke/MethodHandle" ∧ yX10_grown.cls ≠ "java/lang/invoke/VarHandle" ∧ (parseMethodDescriptor yX10_grown.desc).map (fun d => d.parameters.length) = some 3 := ⟨rfl, by decide +kernel, by decide +kernel, by decide +kernel⟩
theorem dX10_ultimateOf_0 : decode cX10_ultimateOf 0 = .ok (.aload_n 0, 1) := by decide +kernel
theorem dX10_ultimateOf_1 : decode cX10_ultimateOf 1 = .ok (.aload_n 0, 1) := by decide +kernel
theorem dX10_ultimateOf_2 : decode cX10_ultimateOf 2 = .ok (.iload_n 1, 1) := by decide +kernel
theorem dX10_ultimateOf_3 : decode cX10_ultimateOf 3 = .ok (.invokevirtual 30, 3) := by decide +kernel
theorem dX10_ultimateOf_6 : decode cX10_ultimateOf 6 = .ok (.i2l, 1) := by decide +kernel
theorem dX10_ultimateOf_7 : decode cX10_ultimateOf 7 = .ok (.iload_n 1, 1) := by decide +kernel
theorem dX10_ultimateOf_8 : decode cX10_ultimateOf 8 = .ok (.iload_n 2, 1) := by decide +kernel
theorem dX10_ultimateOf_9 : decode cX10_ultimateOf 9 = .ok (.invokevirtual 34, 3) := by decide +kernel
theorem dX10_ultimateOf_12 : decode cX10_ultimateOf 12 = .ok (.ireturn, 1) := by decide +kernel
set_option maxHeartbeats 400000 in
set_option maxRecDepth 100000 in
theorem c_ultimateOf (l : Launch) (G : hG) (M : hM) (S : hSy) (j : Nat) (ce : Nat → Nat → Int32) (nw : Nat) (hV : TrV G M S j ce (nI nw)) (hn : nw < 10) (y : Nat) (tail : Int32) (hy : y ≤ nw) : hCT l G yX10_ultimateOf cX10_ultimateOf 3 (Option.some FieldType.int) (hRm 3 0 0) M [.ref (sA S (400 + 20 * j)), .int (nI y), .int tail] (hRd M (.int (trGrown ce nw (ce y (nw - y)).toInt64 y tail))) := by
  refine hCT.of (own := RX10) (nm := "ultimateOf") (by decide) rfl rfl (Nat.le_of_ble_eq_true rfl) ?_
  intro p e s m args below meth c ls X Y hl
  have hx := X.1
  have hb := X.2.1
  have hl : lv_has ls 3 [(0, .ref (sA S (400 + 20 * j))), (1, .int (nI y)), (2, .int tail)] := hl
  obtain ⟨t1, ⟨ft, hft, t2⟩, t3⟩ := id hV
  refine lv_aload_n hx hb dX10_ultimateOf_0 rfl (lv_at hl 0 rfl) ?_
  refine lv_aload_n hx hb dX10_ultimateOf_1 rfl (lv_at hl 0 rfl) ?_
  refine lv_iload_n hx hb dX10_ultimateOf_2 rfl (lv_at hl 1 rfl) ?_
  refine h_callVr (rest := [.ref (sA S (400 + 20 * j))]) X Y (c_nowOf l G M S j ce nw hV hn y hy) rfl rfl gw_X10_30 dsc_X10_nowOf t1 rfl rfl rfl rfl hl.1 (Nat.le_of_ble_eq_true rfl) ⟨Nat.le_of_ble_eq_true rfl, Nat.le_of_ble_eq_true rfl⟩ ⟨Nat.le_of_ble_eq_true rfl, Nat.le_of_ble_eq_true rfl⟩ dX10_ultimateOf_3 (fun H locs Y => ?_)
  refine lv_i2l (v := (ce y (nw - y)).toInt64) hx hb dX10_ultimateOf_6 rfl ?_
  refine lv_iload_n hx hb dX10_ultimateOf_7 rfl (lv_at hl 1 rfl) ?_
  refine lv_iload_n hx hb dX10_ultimateOf_8 rfl (lv_at hl 2 rfl) ?_
  refine h_callVr (rest := []) X Y (c_grown l G M S j ce nw hV hn ((ce y (nw - y)).toInt64) y tail hy) rfl rfl gw_X10_34 dsc_X10_grown t1 rfl rfl rfl rfl hl.1 (Nat.le_of_ble_eq_true rfl) ⟨Nat.le_of_ble_eq_true rfl, Nat.le_of_ble_eq_true rfl⟩ ⟨Nat.le_of_ble_eq_true rfl, Nat.le_of_ble_eq_true rfl⟩ dX10_ultimateOf_9 (fun H locs Y => ?_)
  exact h_iret X Y ⟨rfl, rfl⟩ (Nat.le_refl _) (Nat.le_refl _) dX10_ultimateOf_12
theorem dX10_growthOf_0 : decode cX10_growthOf 0 = .ok (.aload_n 0, 1) := by decide +kernel
theorem dX10_growthOf_1 : decode cX10_growthOf 1 = .ok (.ldc2_w 20, 3) := by decide +kernel
theorem dX10_growthOf_4 : decode cX10_growthOf 4 = .ok (.iload_n 1, 1) := by decide +kernel
theorem dX10_growthOf_5 : decode cX10_growthOf 5 = .ok (.iload_n 2, 1) := by decide +kernel
theorem dX10_growthOf_6 : decode cX10_growthOf 6 = .ok (.invokevirtual 34, 3) := by decide +kernel
theorem dX10_growthOf_9 : decode cX10_growthOf 9 = .ok (.ireturn, 1) := by decide +kernel
set_option maxHeartbeats 400000 in
set_option maxRecDepth 100000 in
theorem c_growthOf (l : Launch) (G : hG) (M : hM) (S : hSy) (j : Nat) (ce : Nat → Nat → Int32) (nw : Nat) (hV : TrV G M S j ce (nI nw)) (hn : nw < 10) (y : Nat) (tail : Int32) (hy : y ≤ nw) : hCT l G yX10_growthOf cX10_growthOf 3 (Option.some FieldType.int) (hRm 3 0 0) M [.ref (sA S (400 + 20 * j)), .int (nI y), .int tail] (hRd M (.int (trGrown ce nw 1000 y tail))) := by
  refine hCT.of (own := RX10) (nm := "growthOf") (by decide) rfl rfl (Nat.le_of_ble_eq_true rfl) ?_
  intro p e s m args below meth c ls X Y hl
  have hx := X.1
  have hb := X.2.1
  have hl : lv_has ls 3 [(0, .ref (sA S (400 + 20 * j))), (1, .int (nI y)), (2, .int tail)] := hl
  obtain ⟨t1, ⟨ft, hft, t2⟩, t3⟩ := id hV
  refine lv_aload_n hx hb dX10_growthOf_0 rfl (lv_at hl 0 rfl) ?_
  refine lv_ldc2 hx hb X.2.2.2.2.1 (X.2.2.2.2.2.1 _ kcJ_X10_20) dX10_growthOf_1 ?_
  refine lv_iload_n hx hb dX10_growthOf_4 rfl (lv_at hl 1 rfl) ?_
  refine lv_iload_n hx hb dX10_growthOf_5 rfl (lv_at hl 2 rfl) ?_
  refine h_callVr (rest := []) X Y (c_grown l G M S j ce nw hV hn 1000 y tail hy) rfl rfl gw_X10_34 dsc_X10_grown t1 rfl rfl rfl rfl hl.1 (Nat.le_of_ble_eq_true rfl) ⟨Nat.le_of_ble_eq_true rfl, Nat.le_of_ble_eq_true rfl⟩ ⟨Nat.le_of_ble_eq_true rfl, Nat.le_of_ble_eq_true rfl⟩ dX10_growthOf_6 (fun H locs Y => ?_)
  exact h_iret X Y ⟨rfl, rfl⟩ (Nat.le_refl _) (Nat.le_refl _) dX10_growthOf_9
theorem dX10_begin_0 : decode cX10_begin 0 = .ok (.aload_n 0, 1) := by decide +kernel
theorem dX10_begin_1 : decode cX10_begin 1 = .ok (.iload_n 1, 1) := by decide +kernel
theorem dX10_begin_2 : decode cX10_begin 2 = .ok (.putfield 16, 3) := by decide +kernel
theorem dX10_begin_5 : decode cX10_begin 5 = .ok (.iconst 0, 1) := by decide +kernel
theorem dX10_begin_6 : decode cX10_begin 6 = .ok (.istore_n 2, 1) := by decide +kernel
theorem dX10_begin_7 : decode cX10_begin 7 = .ok (.iload_n 2, 1) := by decide +kernel
theorem dX10_begin_8 : decode cX10_begin 8 = .ok (.bipush 10, 2) := by decide +kernel
theorem dX10_begin_10 : decode cX10_begin 10 = .ok (.if_icmp .ge 32, 3) := by decide +kernel
theorem dX10_begin_13 : decode cX10_begin 13 = .ok (.iconst 0, 1) := by decide +kernel
theorem dX10_begin_14 : decode cX10_begin 14 = .ok (.istore_n 3, 1) := by decide +kernel
theorem dX10_begin_15 : decode cX10_begin 15 = .ok (.iload_n 3, 1) := by decide +kernel
theorem dX10_begin_16 : decode cX10_begin 16 = .ok (.bipush 10, 2) := by decide +kernel
theorem dX10_begin_18 : decode cX10_begin 18 = .ok (.if_icmp .ge 18, 3) := by decide +kernel
theorem dX10_begin_21 : decode cX10_begin 21 = .ok (.aload_n 0, 1) := by decide +kernel
theorem dX10_begin_22 : decode cX10_begin 22 = .ok (.getfield 11, 3) := by decide +kernel
theorem dX10_begin_25 : decode cX10_begin 25 = .ok (.iload_n 2, 1) := by decide +kernel
theorem dX10_begin_26 : decode cX10_begin 26 = .ok (.aaload, 1) := by decide +kernel
theorem dX10_begin_27 : decode cX10_begin 27 = .ok (.iload_n 3, 1) := by decide +kernel
theorem dX10_begin_28 : decode cX10_begin 28 = .ok (.iconst 0, 1) := by decide +kernel
theorem dX10_begin_29 : decode cX10_begin 29 = .ok (.iastore, 1) := by decide +kernel
theorem dX10_begin_30 : decode cX10_begin 30 = .ok (.iinc 3 1, 3) := by decide +kernel
theorem dX10_begin_33 : decode cX10_begin 33 = .ok (.goto (-18), 3) := by decide +kernel
theorem dX10_begin_36 : decode cX10_begin 36 = .ok (.iinc 2 1, 3) := by decide +kernel
theorem dX10_begin_39 : decode cX10_begin 39 = .ok (.goto (-32), 3) := by decide +kernel
theorem dX10_begin_42 : decode cX10_begin 42 = .ok (.return_, 1) := by decide +kernel
set_option maxHeartbeats 400000 in
set_option maxRecDepth 100000 in
theorem c_begin (l : Launch) (G : hG) (M : hM) (S : hSy) (hS : SyV G M S) (j : Nat) (hj : j < 4) (ce : Nat → Nat → Int32) (nv : Int32) (hV : TrV G M S j ce nv) (nw : Nat) : hCT l G yX10_begin cX10_begin 4 (Option.none) (hRm 1 0 0) M [.ref (sA S (400 + 20 * j)), .int (nI nw)] (fun v M' => v = none ∧ ∃ ce', TrV G M' S j ce' (nI nw) ∧ (∀ i, i < 10 → ∀ k, k < 10 → ce' i k = 0) ∧ hSim G (hS2 j) M M') := by
  refine hCT.of (own := RX10) (nm := "begin") (by decide) rfl rfl (Nat.le_of_ble_eq_true rfl) ?_
  intro p e s m args below meth c ls X Y hl
  have hx := X.1
  have hb := X.2.1
  have hl : lv_has ls 4 [(0, .ref (sA S (400 + 20 * j))), (1, .int (nI nw))] := hl
  obtain ⟨t1, ⟨ft, hft, t2⟩, t3⟩ := id hV
  have hs0 : hSim G (hS2 j) M M := hSim.rf
  refine lv_aload_n hx hb dX10_begin_0 rfl (lv_at hl 0 rfl) ?_
  refine lv_iload_n hx hb dX10_begin_1 rfl (lv_at hl 1 rfl) ?_
  refine h_put X Y (k := 1) (v := .int (nI nw)) t1 rfl hin_X10 tyX10_ok nmX10 (by decide) kfl_X10_16 rfl rfl rfl (Nat.le_of_ble_eq_true rfl) dX10_begin_2 (fun H locs Y => ?_)
  have Y : hHS G (hup M (sA S (400 + 20 * j)) (400 + 20 * j, .inr (11, [.ref (sA S (400 + 20 * j + 1)), .int (nI nw)]))) s H locs := Y
  obtain ⟨hV, hS, hq⟩ := TrV.putNow hj (nI nw) hV hS
  have hs0 := hs0.tr hq
  generalize hup M _ _ = M1 at Y hV hS hq hs0
  refine lv_iconst (v := 0) hx hb dX10_begin_5 (by decide) ?_
  refine lv_istore_n (lv' := [(2, .int 0), (0, .ref (sA S (400 + 20 * j))), (1, .int (nI nw))]) hx hb dX10_begin_6 rfl hl (by decide) rfl (fun ls hl => ?_)
  have loop : ∀ (d i : Nat), i + d = 11 → i ≤ 10 → ∀ (M1 : hM) (ce1 : Nat → Nat → Int32), SyV G M1 S → TrV G M1 S j ce1 (nI nw) → hSim G (hS2 j) M M1 → (∀ x, x < i → ∀ y, y < 10 → ce1 x y = 0) → ∀ (H : Heap) (locs : List Loc) (ls : Array Slot), hHS G M1 s H locs → lv_has ls 4 [(0, .ref (sA S (400 + 20 * j))), (1, .int (nI nw)), (2, .int (nI i))] → W p l e (hRm 1 0 0) s m args below meth c H locs 0 0 (MQ below (hQ G (fun v M' => v = none ∧ ∃ ce', TrV G M' S j ce' (nI nw) ∧ (∀ i, i < 10 → ∀ k, k < 10 → ce' i k = 0) ∧ hSim G (hS2 j) M M')) args s 0 0 (hA G)) (F0 m 7 ls []) := by
    intro d
    induction d with
    | zero => intro i h1; intros; exact absurd h1 (by omega)
    | succ d ih =>
      intro i h1 h2 M1 ce1 hS hV hs0 hz1 H locs ls Y hl
      obtain ⟨t1, ⟨ft, hft, t2⟩, t3⟩ := id hV
      refine lv_iload_n hx hb dX10_begin_7 rfl (lv_at hl 2 rfl) ?_
      refine lv_bipush (v := 10) hx hb dX10_begin_8 (by decide) ?_
      refine lv_icmp_ge (tgt := 42) hx hb dX10_begin_10 (by decide) (fun c10 => ?_) (fun c10 => ?_)
      · have c10 : 10 ≤ i := (nI_leI (a := 10) (b := i) (by omega) (by omega)).mp c10
        have hk9 : i = 10 := by omega
        subst hk9
        exact h_vret X Y ⟨rfl, ce1, hV, hz1, hs0⟩ (Nat.le_refl _) (Nat.le_refl _) dX10_begin_42
      · have c10 : ¬ 10 ≤ i := fun z9 => c10 ((nI_leI (a := 10) (b := i) (by omega) (by omega)).mpr z9)
        refine lv_iconst (v := 0) hx hb dX10_begin_13 (by decide) ?_
        refine lv_istore_n (lv' := [(3, .int 0), (0, .ref (sA S (400 + 20 * j))), (1, .int (nI nw)), (2, .int (nI i))]) hx hb dX10_begin_14 rfl hl (by decide) rfl (fun ls hl => ?_)
        have loop2 : ∀ (d y : Nat), y + d = 11 → y ≤ 10 → ∀ (M2 : hM) (ce2 : Nat → Nat → Int32), SyV G M2 S → TrV G M2 S j ce2 (nI nw) → hSim G (hS2 j) M M2 → (∀ z, z < y → ce2 i z = 0) → (∀ x, x ≠ i → ce2 x = ce1 x) → ∀ (H : Heap) (locs : List Loc) (ls : Array Slot), hHS G M2 s H locs → lv_has ls 4 [(0, .ref (sA S (400 + 20 * j))), (1, .int (nI nw)), (2, .int (nI i)), (3, .int (nI y))] → W p l e (hRm 1 0 0) s m args below meth c H locs 0 0 (MQ below (hQ G (fun v M' => v = none ∧ ∃ ce', TrV G M' S j ce' (nI nw) ∧ (∀ i, i < 10 → ∀ k, k < 10 → ce' i k = 0) ∧ hSim G (hS2 j) M M')) args s 0 0 (hA G)) (F0 m 15 ls []) := by
          intro d
          induction d with
          | zero => intro y h1; intros; exact absurd h1 (by omega)
          | succ d ih2 =>
            intro y g1 g2 M2 ce2 hS hV hs0 hz2 hz3 H locs ls Y hl
            obtain ⟨t1, ⟨ft, hft, t2⟩, t3⟩ := id hV
            refine lv_iload_n hx hb dX10_begin_15 rfl (lv_at hl 3 rfl) ?_
            refine lv_bipush (v := 10) hx hb dX10_begin_16 (by decide) ?_
            refine lv_icmp_ge (tgt := 36) hx hb dX10_begin_18 (by decide) (fun c18 => ?_) (fun c18 => ?_)
            · have c18 : 10 ≤ y := (nI_leI (a := 10) (b := y) (by omega) (by omega)).mp c18
              have hk9 : y = 10 := by omega
              subst hk9
              refine lv_iinc (v := nI (i + 1)) (lv' := [(2, .int (nI (i + 1))), (0, .ref (sA S (400 + 20 * j))), (1, .int (nI nw)), (3, .int (nI 10))]) hx hb dX10_begin_36 hl (k := 2) rfl (nI_1 i) (by decide) rfl (fun ls hl => ?_)
              refine lv_goto (tgt := 7) hx hb dX10_begin_39 (by decide) ?_
              refine ih (i + 1) (by omega) (by omega) M2 _ hS hV hs0 ?_ _ _ _ Y (lv_sub hl [1, 2, 0] rfl)
              intro x hx y hy
              by_cases e : x = i
              · subst e; exact hz2 y hy
              · rw [hz3 x e]; exact hz1 x (by omega) y hy
            · have c18 : ¬ 10 ≤ y := fun z9 => c18 ((nI_leI (a := 10) (b := y) (by omega) (by omega)).mpr z9)
              refine lv_aload_n hx hb dX10_begin_21 rfl (lv_at hl 0 rfl) ?_
              refine h_get X Y (k := 0) (v := .ref (sA S (400 + 20 * j + 1))) t1 rfl hin_X10 (by decide) kfl_X10_11 rfl dX10_begin_22 ?_
              refine lv_iload_n hx hb dX10_begin_25 rfl (lv_at hl 2 rfl) ?_
              refine h_aaldI X Y (i := i) t2 (by omega) (by decide) dX10_begin_26 ?_
              refine h_rf (hft i (by omega)) ?_
              refine lv_iload_n hx hb dX10_begin_27 rfl (lv_at hl 3 rfl) ?_
              refine lv_iconst (v := 0) hx hb dX10_begin_28 (by decide) ?_
              refine h_iast X Y (i := y) (t3 i (by omega)) (by omega) (by decide) dX10_begin_29 (fun H locs Y => ?_)
              obtain ⟨hV, hS, hq⟩ := TrV.putRow hj i (by omega) (upd (ce2 i) y 0) hV hS
              have hs0 := hs0.tr hq
              generalize hup M2 _ _ = M2 at Y hV hS hq hs0
              refine lv_iinc (v := nI (y + 1)) (lv' := [(3, .int (nI (y + 1))), (0, .ref (sA S (400 + 20 * j))), (1, .int (nI nw)), (2, .int (nI i))]) hx hb dX10_begin_30 hl (k := 3) rfl (nI_1 y) (by decide) rfl (fun ls hl => ?_)
              refine lv_goto (tgt := 15) hx hb dX10_begin_33 (by decide) ?_
              refine ih2 (y + 1) (by omega) (by omega) M2 _ hS hV hs0 ?_ ?_ _ _ _ Y (lv_sub hl [1, 2, 3, 0] rfl)
              · intro z hz
                rw [va_up_self]
                by_cases e : z = y
                · subst e; exact pk_us
                · rw [pk_un e]; exact hz2 z (by omega)
              · intro x hx; rw [va_up_ne _ _ hx]; exact hz3 x hx
        exact loop2 11 0 (by omega) (by omega) M1 ce1 hS hV hs0 (fun _ z9 => absurd z9 (by omega)) (fun _ _ => rfl) _ _ _ Y (lv_sub hl [1, 2, 3, 0] rfl)
  exact loop 11 0 (by omega) (by omega) _ ce hS hV hs0 (fun _ z9 => absurd z9 (by omega)) _ _ _ Y (lv_sub hl [1, 2, 0] rfl)
