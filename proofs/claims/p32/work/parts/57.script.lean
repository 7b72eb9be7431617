-- THE SCRIPT'S CELLS, NUMBERS BELOW A BOUND, THE TERMS
/-- the script: L ints, below the law's start -/
def hSc (G : hG) (L : Nat) (xs : Nat → Int32) : Prop := va_X G.2.1 L xs (hU G) (hU G).heap ∧ G.2.1 < (hU G).heap.size ∧ L ≤ 260
theorem hSc.at {G : hG} {L : Nat} {xs : Nat → Int32} {s : State} (h : hSc G L xs) (hr : hR G s) : va_X G.2.1 L xs s s.heap ∧ G.2.1 < s.heap.size ∧ ¬ hA G G.2.1 :=
  ⟨(va_X.moved hr.1.alike h.1).kept (hr.2.2 _ h.2.1), Nat.lt_of_lt_of_le h.2.1 hr.2.1, Nat.not_le.mpr h.2.1⟩
def cel (L : Nat) (xs : Nat → Int32) (k : Nat) : Int32 := if k < L then xs k else 790386105 * nI (k + 3)
def bel (x : Int32) (y : Nat) : Nat := x.toBitVec.toNat % 2 ^ 31 % y
theorem bel_lt (x : Int32) {y : Nat} (h : 0 < y) : bel x y < y := Nat.mod_lt _ h
section SCR
variable {G : hG} {p : Program} {l : Launch} {e : Env} {R : Room} {s : State} {m : MethodId} {args : Array Value} {below : List Frame} {meth : Method} {c : Code} {H : Heap} {locs : List Loc} {cells slots : Nat} {Q : State → Prop}
variable {cc : ByteArray} {maxL : Nat} {ret : Option FieldType} {own nm : String} {M : hM} {pc : Nat} {ls : Array Slot} {rest : List Value} {a t ci index n : Nat} {cA : ClassId}
theorem h_scl {L : Nat} {xs : Nat → Int32} (X : hCX G p s m args meth c cc maxL ret own nm) (Y : hHS G M s H locs) (hs : hSc G L xs) {i : Nat} (hi : i < L) (hdg : decode cc pc = .ok (.iaload, 1))
    (kk : W p l e R s m args below meth c H locs cells slots Q (F0 m (pc + 1) ls (.int (xs i) :: rest))) : W p l e R s m args below meth c H locs cells slots Q (F0 m pc ls (.int (nI i) :: .ref G.2.1 :: rest)) := by
  obtain ⟨h1, h2, h3⟩ := hs.at X.2.2.2.2.2.2.2.2.2.1
  have hL := hs.2.2
  refine va_sld X.1 X.2.1 h1 h2 h3 Y.2 (vp_in_nI hi (by omega)) hdg ?_
  rw [nI_clamp (by omega)]
  exact kk
theorem h_scn {L : Nat} {xs : Nat → Int32} (X : hCX G p s m args meth c cc maxL ret own nm) (Y : hHS G M s H locs) (hs : hSc G L xs) (hdg : decode cc pc = .ok (.arraylength, 1))
    (kk : W p l e R s m args below meth c H locs cells slots Q (F0 m (pc + 1) ls (.int (nI L) :: rest))) : W p l e R s m args below meth c H locs cells slots Q (F0 m pc ls (.ref G.2.1 :: rest)) := by
  obtain ⟨h1, h2, h3⟩ := hs.at X.2.2.2.2.2.2.2.2.2.1
  exact va_slen X.1 X.2.1 h1 h2 h3 Y.2 hdg kk
end SCR
theorem t_rem0 (x : Nat) {y : Nat} (hx : x < 2147483648) (hy : 0 < y ∧ y < 2147483648) : nI x - nI x / nI y * nI y = nI (x % y) := pk_rem hx hy.1 hy.2
theorem t_mask (x : Int32) : x &&& 2147483647 = nI (x.toBitVec.toNat % 2 ^ 31) := pk_and x (m := 2147483647) 31 (by decide)
def wT : List Nat := [40000, 30000, 100, 60000, 4000, 30000, 90000, 20000, 2, 50000, 20000, 5, 301, 60000, 6]
theorem t_y0 {y : Nat} (hy : 0 < y ∧ y < 2147483648) : ¬ nI y = 0 := fun h => by
  have h := (nI_eq (a := y) (b := 0) (by omega) (by omega)).mp h
  omega
theorem dL_below_0 : decode cL_below 0 = .ok (.iload_n 0, 1) := by decide +kernel
theorem dL_below_1 : decode cL_below 1 = .ok (.ldc 7, 2) := by decide +kernel
theorem dL_below_3 : decode cL_below 3 = .ok (.iand, 1) := by decide +kernel
theorem dL_below_4 : decode cL_below 4 = .ok (.iload_n 1, 1) := by decide +kernel
theorem dL_below_5 : decode cL_below 5 = .ok (.irem, 1) := by decide +kernel
theorem dL_below_6 : decode cL_below 6 = .ok (.ireturn, 1) := by decide +kernel
set_option maxHeartbeats 400000 in
set_option maxRecDepth 100000 in
theorem c_below (l : Launch) (G : hG) (M : hM) (x : Int32) (y : Nat) (hy : 0 < y ∧ y < 2147483648) : hCT l G yL_below cL_below 2 (Option.some FieldType.int) (hRm 1 0 0) M [.int x, .int (nI y)] (hRd M (.int (nI (bel x y)))) := by
  refine hCT.of (own := RL) (nm := "below") (by decide) rfl rfl (Nat.le_of_ble_eq_true rfl) ?_
  intro p e s m args below meth c ls X Y hl
  have hx := X.1
  have hb := X.2.1
  have hl : lv_has ls 2 [(0, .int x), (1, .int (nI y))] := hl
  refine lv_iload_n hx hb dL_below_0 rfl (lv_at hl 0 rfl) ?_
  refine lv_ldc hx hb X.2.2.2.2.1 (X.2.2.2.2.2.1 _ kcI_L_7) dL_below_1 ?_
  refine lv_iand hx hb dL_below_3 ?_
  refine h_ev (y := nI (x.toBitVec.toNat % 2 ^ 31)) (t_mask x) ?_
  refine lv_iload_n hx hb dL_below_4 rfl (lv_at hl 1 rfl) ?_
  refine lv_irem hx hb dL_below_5 (t_y0 hy) ?_
  refine h_ev (y := nI (bel x y)) (t_rem0 _ (Nat.mod_lt _ (by decide)) hy) ?_
  exact h_iret X Y ⟨rfl, rfl⟩ (Nat.le_refl _) (Nat.le_refl _) dL_below_6
theorem dL_cell_0 : decode cL_cell 0 = .ok (.iload_n 1, 1) := by decide +kernel
theorem dL_cell_1 : decode cL_cell 1 = .ok (.aload_n 0, 1) := by decide +kernel
theorem dL_cell_2 : decode cL_cell 2 = .ok (.arraylength, 1) := by decide +kernel
theorem dL_cell_3 : decode cL_cell 3 = .ok (.if_icmp .ge 9, 3) := by decide +kernel
theorem dL_cell_6 : decode cL_cell 6 = .ok (.aload_n 0, 1) := by decide +kernel
theorem dL_cell_7 : decode cL_cell 7 = .ok (.iload_n 1, 1) := by decide +kernel
theorem dL_cell_8 : decode cL_cell 8 = .ok (.iaload, 1) := by decide +kernel
theorem dL_cell_9 : decode cL_cell 9 = .ok (.goto 9, 3) := by decide +kernel
theorem dL_cell_12 : decode cL_cell 12 = .ok (.ldc 8, 2) := by decide +kernel
theorem dL_cell_14 : decode cL_cell 14 = .ok (.iload_n 1, 1) := by decide +kernel
theorem dL_cell_15 : decode cL_cell 15 = .ok (.iconst 3, 1) := by decide +kernel
theorem dL_cell_16 : decode cL_cell 16 = .ok (.iadd, 1) := by decide +kernel
theorem dL_cell_17 : decode cL_cell 17 = .ok (.imul, 1) := by decide +kernel
theorem dL_cell_18 : decode cL_cell 18 = .ok (.ireturn, 1) := by decide +kernel
set_option maxHeartbeats 400000 in
set_option maxRecDepth 100000 in
theorem c_cell (l : Launch) (G : hG) (M : hM) (L : Nat) (xs : Nat → Int32) (hs : hSc G L xs) (k : Nat) (hk : k < 1000) : hCT l G yL_cell cL_cell 2 (Option.some FieldType.int) (hRm 1 0 0) M [.ref G.2.1, .int (nI k)] (hRd M (.int (cel L xs k))) := by
  refine hCT.of (own := RL) (nm := "cell") (by decide) rfl rfl (Nat.le_of_ble_eq_true rfl) ?_
  intro p e s m args below meth c ls X Y hl
  have hx := X.1
  have hb := X.2.1
  have hl : lv_has ls 2 [(0, .ref G.2.1), (1, .int (nI k))] := hl
  have hL := hs.2.2
  refine lv_iload_n hx hb dL_cell_0 rfl (lv_at hl 1 rfl) ?_
  refine lv_aload_n hx hb dL_cell_1 rfl (lv_at hl 0 rfl) ?_
  refine h_scn X Y hs dL_cell_2 ?_
  refine lv_icmp_ge (tgt := 12) hx hb dL_cell_3 (by decide) (fun c3 => ?_) (fun c3 => ?_)
  · have c3 : L ≤ k := (nI_leI (a := L) (b := k) (by omega) (by omega)).mp c3
    refine lv_ldc hx hb X.2.2.2.2.1 (X.2.2.2.2.2.1 _ kcI_L_8) dL_cell_12 ?_
    refine lv_iload_n hx hb dL_cell_14 rfl (lv_at hl 1 rfl) ?_
    refine lv_iconst (v := 3) hx hb dL_cell_15 (by decide) ?_
    refine lv_iadd hx hb dL_cell_16 ?_
    refine h_ev (y := nI (k + 3)) (nI_add k 3) ?_
    refine lv_imul hx hb dL_cell_17 ?_
    exact h_iret X Y ⟨congrArg (fun z => some (Value.int z)) (show 790386105 * (nI (k + 3)) = cel L xs k from (if_neg (by omega) : cel L xs k = _).symm), rfl⟩ (Nat.le_refl _) (Nat.le_refl _) dL_cell_18
  · have c3 : ¬ L ≤ k := fun z9 => c3 ((nI_leI (a := L) (b := k) (by omega) (by omega)).mpr z9)
    refine lv_aload_n hx hb dL_cell_6 rfl (lv_at hl 0 rfl) ?_
    refine lv_iload_n hx hb dL_cell_7 rfl (lv_at hl 1 rfl) ?_
    refine h_scl X Y hs (i := k) (by omega) dL_cell_8 ?_
    refine lv_goto (tgt := 18) hx hb dL_cell_9 (by decide) ?_
    exact h_iret X Y ⟨congrArg (fun z => some (Value.int z)) (show xs k = cel L xs k from (if_pos (by omega) : cel L xs k = _).symm), rfl⟩ (Nat.le_refl _) (Nat.le_refl _) dL_cell_18
/-- the terms: each below its bound -/
def tmV (L : Nat) (xs : Nat → Int32) (i : Nat) : Nat := bel (cel L xs (i % 8) >>> (nI (i / 8 * 9) &&& 31)) (wT.getD i 1)
def tmW (L : Nat) (xs : Nat → Int32) (i : Nat) : Nat := if i = 2 then tmV L xs 2 + 1 else tmV L xs i
theorem wT_pos : ∀ i, i < 15 → 0 < wT.getD i 1 ∧ wT.getD i 1 < 100000 := by decide +kernel
theorem tmV_lt (L : Nat) (xs : Nat → Int32) {i : Nat} (hi : i < 15) : tmV L xs i < wT.getD i 1 := bel_lt _ (wT_pos i hi).1
theorem t_d9 {i : Nat} (h : i < 15) : nI i / 8 = nI (i / 8) := pk_div (a := i) (d := 8) (by omega) (by omega) (by omega)
theorem t_m9 {i : Nat} (h : i < 15) : nI (i / 8) * 9 = nI (i / 8 * 9) := (pk_mul (i / 8) 9)
theorem t_r8 {i : Nat} (h : i < 15) : nI i - nI i / 8 * 8 = nI (i % 8) := pk_rem (a := i) (d := 8) (by omega) (by omega) (by omega)

theorem gw_L_36 : GoodIn hGW (va_wsS RL 36 yL_cell (Cond.code yL_cell cL_cell 2 (Option.some FieldType.int) :: hGW)) := hgi3 kml_L_36 kst_L_cell kini_L kco_L_cell
theorem dsc_L_cell : yL_cell.cls = RL ∧ yL_cell.cls ≠ "java/lang/invoke/MethodHandle" ∧ yL_cell.cls ≠ "java/lang/invoke/VarHandle" ∧ (parseMethodDescriptor yL_cell.desc).map (fun d => d.parameters.length) = some 2 := ⟨rfl, by decide +kernel, by decide +kernel, by decide +kernel⟩
theorem gw_L_42 : GoodIn hGW (va_wsS RL 42 yL_below (Cond.code yL_below cL_below 2 (Option.some FieldType.int) :: hGW)) := hgi3 kml_L_42 kst_L_below kini_L kco_L_below
theorem dsc_L_below : yL_below.cls = RL ∧ yL_below.cls ≠ "java/lang/invoke/MethodHandle" ∧ yL_below.cls ≠ "java/lang/invoke/VarHandle" ∧ (parseMethodDescriptor yL_below.desc).map (fun d => d.parameters.length) = some 2 := ⟨rfl, by decide +kernel, by decide +kernel, by decide +kernel⟩
theorem dL_terms_0 : decode cL_terms 0 = .ok (.bipush 15, 2) := by decide +kernel
theorem dL_terms_2 : decode cL_terms 2 = .ok (.newarray .int, 2) := by decide +kernel
theorem dL_terms_4 : decode cL_terms 4 = .ok (.astore_n 1, 1) := by decide +kernel
theorem dL_terms_5 : decode cL_terms 5 = .ok (.bipush 15, 2) := by decide +kernel
theorem dL_terms_7 : decode cL_terms 7 = .ok (.newarray .int, 2) := by decide +kernel
theorem dL_terms_9 : decode cL_terms 9 = .ok (.dup, 1) := by decide +kernel
theorem dL_terms_10 : decode cL_terms 10 = .ok (.iconst 0, 1) := by decide +kernel
theorem dL_terms_11 : decode cL_terms 11 = .ok (.ldc 32, 2) := by decide +kernel
theorem dL_terms_13 : decode cL_terms 13 = .ok (.iastore, 1) := by decide +kernel
theorem dL_terms_14 : decode cL_terms 14 = .ok (.dup, 1) := by decide +kernel
theorem dL_terms_15 : decode cL_terms 15 = .ok (.iconst 1, 1) := by decide +kernel
theorem dL_terms_16 : decode cL_terms 16 = .ok (.sipush 30000, 3) := by decide +kernel
theorem dL_terms_19 : decode cL_terms 19 = .ok (.iastore, 1) := by decide +kernel
theorem dL_terms_20 : decode cL_terms 20 = .ok (.dup, 1) := by decide +kernel
theorem dL_terms_21 : decode cL_terms 21 = .ok (.iconst 2, 1) := by decide +kernel
theorem dL_terms_22 : decode cL_terms 22 = .ok (.bipush 100, 2) := by decide +kernel
theorem dL_terms_24 : decode cL_terms 24 = .ok (.iastore, 1) := by decide +kernel
theorem dL_terms_25 : decode cL_terms 25 = .ok (.dup, 1) := by decide +kernel
theorem dL_terms_26 : decode cL_terms 26 = .ok (.iconst 3, 1) := by decide +kernel
theorem dL_terms_27 : decode cL_terms 27 = .ok (.ldc 33, 2) := by decide +kernel
theorem dL_terms_29 : decode cL_terms 29 = .ok (.iastore, 1) := by decide +kernel
theorem dL_terms_30 : decode cL_terms 30 = .ok (.dup, 1) := by decide +kernel
theorem dL_terms_31 : decode cL_terms 31 = .ok (.iconst 4, 1) := by decide +kernel
theorem dL_terms_32 : decode cL_terms 32 = .ok (.sipush 4000, 3) := by decide +kernel
theorem dL_terms_35 : decode cL_terms 35 = .ok (.iastore, 1) := by decide +kernel
theorem dL_terms_36 : decode cL_terms 36 = .ok (.dup, 1) := by decide +kernel
theorem dL_terms_37 : decode cL_terms 37 = .ok (.iconst 5, 1) := by decide +kernel
theorem dL_terms_38 : decode cL_terms 38 = .ok (.sipush 30000, 3) := by decide +kernel
theorem dL_terms_41 : decode cL_terms 41 = .ok (.iastore, 1) := by decide +kernel
theorem dL_terms_42 : decode cL_terms 42 = .ok (.dup, 1) := by decide +kernel
theorem dL_terms_43 : decode cL_terms 43 = .ok (.bipush 6, 2) := by decide +kernel
theorem dL_terms_45 : decode cL_terms 45 = .ok (.ldc 34, 2) := by decide +kernel
theorem dL_terms_47 : decode cL_terms 47 = .ok (.iastore, 1) := by decide +kernel
theorem dL_terms_48 : decode cL_terms 48 = .ok (.dup, 1) := by decide +kernel
theorem dL_terms_49 : decode cL_terms 49 = .ok (.bipush 7, 2) := by decide +kernel
theorem dL_terms_51 : decode cL_terms 51 = .ok (.sipush 20000, 3) := by decide +kernel
theorem dL_terms_54 : decode cL_terms 54 = .ok (.iastore, 1) := by decide +kernel
theorem dL_terms_55 : decode cL_terms 55 = .ok (.dup, 1) := by decide +kernel
theorem dL_terms_56 : decode cL_terms 56 = .ok (.bipush 8, 2) := by decide +kernel
theorem dL_terms_58 : decode cL_terms 58 = .ok (.iconst 2, 1) := by decide +kernel
theorem dL_terms_59 : decode cL_terms 59 = .ok (.iastore, 1) := by decide +kernel
theorem dL_terms_60 : decode cL_terms 60 = .ok (.dup, 1) := by decide +kernel
theorem dL_terms_61 : decode cL_terms 61 = .ok (.bipush 9, 2) := by decide +kernel
theorem dL_terms_63 : decode cL_terms 63 = .ok (.ldc 35, 2) := by decide +kernel
theorem dL_terms_65 : decode cL_terms 65 = .ok (.iastore, 1) := by decide +kernel
theorem dL_terms_66 : decode cL_terms 66 = .ok (.dup, 1) := by decide +kernel
theorem dL_terms_67 : decode cL_terms 67 = .ok (.bipush 10, 2) := by decide +kernel
theorem dL_terms_69 : decode cL_terms 69 = .ok (.sipush 20000, 3) := by decide +kernel
theorem dL_terms_72 : decode cL_terms 72 = .ok (.iastore, 1) := by decide +kernel
theorem dL_terms_73 : decode cL_terms 73 = .ok (.dup, 1) := by decide +kernel
theorem dL_terms_74 : decode cL_terms 74 = .ok (.bipush 11, 2) := by decide +kernel
theorem dL_terms_76 : decode cL_terms 76 = .ok (.iconst 5, 1) := by decide +kernel
theorem dL_terms_77 : decode cL_terms 77 = .ok (.iastore, 1) := by decide +kernel
theorem dL_terms_78 : decode cL_terms 78 = .ok (.dup, 1) := by decide +kernel
theorem dL_terms_79 : decode cL_terms 79 = .ok (.bipush 12, 2) := by decide +kernel
theorem dL_terms_81 : decode cL_terms 81 = .ok (.sipush 301, 3) := by decide +kernel
theorem dL_terms_84 : decode cL_terms 84 = .ok (.iastore, 1) := by decide +kernel
theorem dL_terms_85 : decode cL_terms 85 = .ok (.dup, 1) := by decide +kernel
theorem dL_terms_86 : decode cL_terms 86 = .ok (.bipush 13, 2) := by decide +kernel
theorem dL_terms_88 : decode cL_terms 88 = .ok (.ldc 33, 2) := by decide +kernel
theorem dL_terms_90 : decode cL_terms 90 = .ok (.iastore, 1) := by decide +kernel
theorem dL_terms_91 : decode cL_terms 91 = .ok (.dup, 1) := by decide +kernel
theorem dL_terms_92 : decode cL_terms 92 = .ok (.bipush 14, 2) := by decide +kernel
theorem dL_terms_94 : decode cL_terms 94 = .ok (.bipush 6, 2) := by decide +kernel
theorem dL_terms_96 : decode cL_terms 96 = .ok (.iastore, 1) := by decide +kernel
theorem dL_terms_97 : decode cL_terms 97 = .ok (.astore_n 2, 1) := by decide +kernel
theorem dL_terms_98 : decode cL_terms 98 = .ok (.iconst 0, 1) := by decide +kernel
theorem dL_terms_99 : decode cL_terms 99 = .ok (.istore_n 3, 1) := by decide +kernel
theorem dL_terms_100 : decode cL_terms 100 = .ok (.iload_n 3, 1) := by decide +kernel
theorem dL_terms_101 : decode cL_terms 101 = .ok (.bipush 15, 2) := by decide +kernel
theorem dL_terms_103 : decode cL_terms 103 = .ok (.if_icmp .ge 34, 3) := by decide +kernel
theorem dL_terms_106 : decode cL_terms 106 = .ok (.aload_n 1, 1) := by decide +kernel
theorem dL_terms_107 : decode cL_terms 107 = .ok (.iload_n 3, 1) := by decide +kernel
theorem dL_terms_108 : decode cL_terms 108 = .ok (.aload_n 0, 1) := by decide +kernel
theorem dL_terms_109 : decode cL_terms 109 = .ok (.iload_n 3, 1) := by decide +kernel
theorem dL_terms_110 : decode cL_terms 110 = .ok (.bipush 8, 2) := by decide +kernel
theorem dL_terms_112 : decode cL_terms 112 = .ok (.irem, 1) := by decide +kernel
theorem dL_terms_113 : decode cL_terms 113 = .ok (.invokestatic 36, 3) := by decide +kernel
theorem dL_terms_116 : decode cL_terms 116 = .ok (.iload_n 3, 1) := by decide +kernel
theorem dL_terms_117 : decode cL_terms 117 = .ok (.bipush 8, 2) := by decide +kernel
theorem dL_terms_119 : decode cL_terms 119 = .ok (.idiv, 1) := by decide +kernel
theorem dL_terms_120 : decode cL_terms 120 = .ok (.bipush 9, 2) := by decide +kernel
theorem dL_terms_122 : decode cL_terms 122 = .ok (.imul, 1) := by decide +kernel
theorem dL_terms_123 : decode cL_terms 123 = .ok (.ishr, 1) := by decide +kernel
theorem dL_terms_124 : decode cL_terms 124 = .ok (.aload_n 2, 1) := by decide +kernel
theorem dL_terms_125 : decode cL_terms 125 = .ok (.iload_n 3, 1) := by decide +kernel
theorem dL_terms_126 : decode cL_terms 126 = .ok (.iaload, 1) := by decide +kernel
theorem dL_terms_127 : decode cL_terms 127 = .ok (.invokestatic 42, 3) := by decide +kernel
theorem dL_terms_130 : decode cL_terms 130 = .ok (.iastore, 1) := by decide +kernel
theorem dL_terms_131 : decode cL_terms 131 = .ok (.iinc 3 1, 3) := by decide +kernel
theorem dL_terms_134 : decode cL_terms 134 = .ok (.goto (-34), 3) := by decide +kernel
theorem dL_terms_137 : decode cL_terms 137 = .ok (.aload_n 1, 1) := by decide +kernel
theorem dL_terms_138 : decode cL_terms 138 = .ok (.iconst 2, 1) := by decide +kernel
theorem dL_terms_139 : decode cL_terms 139 = .ok (.dup2, 1) := by decide +kernel
theorem dL_terms_140 : decode cL_terms 140 = .ok (.iaload, 1) := by decide +kernel
theorem dL_terms_141 : decode cL_terms 141 = .ok (.iconst 1, 1) := by decide +kernel
theorem dL_terms_142 : decode cL_terms 142 = .ok (.iadd, 1) := by decide +kernel
theorem dL_terms_143 : decode cL_terms 143 = .ok (.iastore, 1) := by decide +kernel
theorem dL_terms_144 : decode cL_terms 144 = .ok (.aload_n 1, 1) := by decide +kernel
theorem dL_terms_145 : decode cL_terms 145 = .ok (.areturn, 1) := by decide +kernel
set_option maxHeartbeats 400000 in
set_option maxRecDepth 100000 in
theorem c_lTerms (l : Launch) (G : hG) (M : hM) (L : Nat) (xs : Nat → Int32) (hs : hSc G L xs) : hCT l G yL_terms cL_terms 4 (Option.some (FieldType.array FieldType.int)) (hRm 2 2 30) M [.ref G.2.1] (fun v9 M' => ∃ q g, v9 = some (.ref q) ∧ M' q = some (4900, .inl (hT G 0, 15, .inl g)) ∧ (∀ i, i < 15 → g i = nI (tmW L xs i)) ∧ hFr (fun u => u = 4900 ∨ u = 4901) M M') := by
  refine hCT.of (own := RL) (nm := "terms") (by decide) rfl rfl (Nat.le_of_ble_eq_true rfl) ?_
  intro p e s m args below meth c ls X Y hl
  have hx := X.1
  have hb := X.2.1
  have hl : lv_has ls 4 [(0, .ref G.2.1)] := hl
  have hfr : hFr (fun u => u = 4900 ∨ u = 4901) M M := hFr.rf
  refine lv_bipush (v := 15) hx hb dL_terms_0 (by decide) ?_
  refine h_newI X Y (4900) (n := 15) (by decide) (Nat.le_of_ble_eq_true rfl) (Nat.le_of_ble_eq_true rfl) dL_terms_2 (fun qz1 Mz1 H fz1 hg1 Y => ?_)
  have hfr := hfr.grow hg1
  refine lv_astore_n (lv' := [(1, .ref qz1), (0, .ref G.2.1)]) hx hb dL_terms_4 rfl hl (by decide) rfl (fun ls hl => ?_)
  refine lv_bipush (v := 15) hx hb dL_terms_5 (by decide) ?_
  refine h_newI X Y (4901) (n := 15) (by decide) (Nat.le_of_ble_eq_true rfl) (Nat.le_of_ble_eq_true rfl) dL_terms_7 (fun qz2 Mz2 H fz2 hg2 Y => ?_)
  have fz1 := hg2 _ _ fz1
  have hfr := hfr.grow hg2
  refine lv_dup hx hb dL_terms_9 rfl ?_
  refine lv_iconst (v := 0) hx hb dL_terms_10 (by decide) ?_
  refine lv_ldc hx hb X.2.2.2.2.1 (X.2.2.2.2.2.1 _ kcI_L_32) dL_terms_11 ?_
  refine h_iast X Y (i := 0) fz2 (by omega) (by decide) dL_terms_13 (fun H locs Y => ?_)
  have fz1 := hup_tag (x := (4901, .inl (hT G 0, 15, .inl (upd (fun _ => 0) 0 40000)))) fz1 fz2 (by omega)
  have hfr := hfr.put (x := (4901, .inl (hT G 0, 15, .inl (upd (fun _ => 0) 0 40000)))) fz2 (Or.inr rfl)
  have fz2 : hup Mz2 qz2 (4901, .inl (hT G 0, 15, .inl (upd (fun _ => 0) 0 40000))) qz2 = some (4901, .inl (hT G 0, 15, .inl (upd (fun _ => 0) 0 40000))) := hup_eq
  generalize hup Mz2 qz2 (4901, .inl (hT G 0, 15, .inl (upd (fun _ => 0) 0 40000))) = Mz3 at Y fz2 fz1 hfr
  refine lv_dup hx hb dL_terms_14 rfl ?_
  refine lv_iconst (v := 1) hx hb dL_terms_15 (by decide) ?_
  refine lv_sipush (v := 30000) hx hb dL_terms_16 (by decide) ?_
  refine h_iast X Y (i := 1) fz2 (by omega) (by decide) dL_terms_19 (fun H locs Y => ?_)
  have fz1 := hup_tag (x := (4901, .inl (hT G 0, 15, .inl (upd (upd (fun _ => 0) 0 40000) 1 30000)))) fz1 fz2 (by omega)
  have hfr := hfr.put (x := (4901, .inl (hT G 0, 15, .inl (upd (upd (fun _ => 0) 0 40000) 1 30000)))) fz2 (Or.inr rfl)
  have fz2 : hup Mz3 qz2 (4901, .inl (hT G 0, 15, .inl (upd (upd (fun _ => 0) 0 40000) 1 30000))) qz2 = some (4901, .inl (hT G 0, 15, .inl (upd (upd (fun _ => 0) 0 40000) 1 30000))) := hup_eq
  generalize hup Mz3 qz2 (4901, .inl (hT G 0, 15, .inl (upd (upd (fun _ => 0) 0 40000) 1 30000))) = Mz4 at Y fz2 fz1 hfr
  refine lv_dup hx hb dL_terms_20 rfl ?_
  refine lv_iconst (v := 2) hx hb dL_terms_21 (by decide) ?_
  refine lv_bipush (v := 100) hx hb dL_terms_22 (by decide) ?_
  refine h_iast X Y (i := 2) fz2 (by omega) (by decide) dL_terms_24 (fun H locs Y => ?_)
  have fz1 := hup_tag (x := (4901, .inl (hT G 0, 15, .inl (upd (upd (upd (fun _ => 0) 0 40000) 1 30000) 2 100)))) fz1 fz2 (by omega)
  have hfr := hfr.put (x := (4901, .inl (hT G 0, 15, .inl (upd (upd (upd (fun _ => 0) 0 40000) 1 30000) 2 100)))) fz2 (Or.inr rfl)
  have fz2 : hup Mz4 qz2 (4901, .inl (hT G 0, 15, .inl (upd (upd (upd (fun _ => 0) 0 40000) 1 30000) 2 100))) qz2 = some (4901, .inl (hT G 0, 15, .inl (upd (upd (upd (fun _ => 0) 0 40000) 1 30000) 2 100))) := hup_eq
  generalize hup Mz4 qz2 (4901, .inl (hT G 0, 15, .inl (upd (upd (upd (fun _ => 0) 0 40000) 1 30000) 2 100))) = Mz5 at Y fz2 fz1 hfr
  refine lv_dup hx hb dL_terms_25 rfl ?_
  refine lv_iconst (v := 3) hx hb dL_terms_26 (by decide) ?_
  refine lv_ldc hx hb X.2.2.2.2.1 (X.2.2.2.2.2.1 _ kcI_L_33) dL_terms_27 ?_
  refine h_iast X Y (i := 3) fz2 (by omega) (by decide) dL_terms_29 (fun H locs Y => ?_)
  have fz1 := hup_tag (x := (4901, .inl (hT G 0, 15, .inl (upd (upd (upd (upd (fun _ => 0) 0 40000) 1 30000) 2 100) 3 60000)))) fz1 fz2 (by omega)
  have hfr := hfr.put (x := (4901, .inl (hT G 0, 15, .inl (upd (upd (upd (upd (fun _ => 0) 0 40000) 1 30000) 2 100) 3 60000)))) fz2 (Or.inr rfl)
  have fz2 : hup Mz5 qz2 (4901, .inl (hT G 0, 15, .inl (upd (upd (upd (upd (fun _ => 0) 0 40000) 1 30000) 2 100) 3 60000))) qz2 = some (4901, .inl (hT G 0, 15, .inl (upd (upd (upd (upd (fun _ => 0) 0 40000) 1 30000) 2 100) 3 60000))) := hup_eq
  generalize hup Mz5 qz2 (4901, .inl (hT G 0, 15, .inl (upd (upd (upd (upd (fun _ => 0) 0 40000) 1 30000) 2 100) 3 60000))) = Mz6 at Y fz2 fz1 hfr
  refine lv_dup hx hb dL_terms_30 rfl ?_
  refine lv_iconst (v := 4) hx hb dL_terms_31 (by decide) ?_
  refine lv_sipush (v := 4000) hx hb dL_terms_32 (by decide) ?_
  refine h_iast X Y (i := 4) fz2 (by omega) (by decide) dL_terms_35 (fun H locs Y => ?_)
  have fz1 := hup_tag (x := (4901, .inl (hT G 0, 15, .inl (upd (upd (upd (upd (upd (fun _ => 0) 0 40000) 1 30000) 2 100) 3 60000) 4 4000)))) fz1 fz2 (by omega)
  have hfr := hfr.put (x := (4901, .inl (hT G 0, 15, .inl (upd (upd (upd (upd (upd (fun _ => 0) 0 40000) 1 30000) 2 100) 3 60000) 4 4000)))) fz2 (Or.inr rfl)
  have fz2 : hup Mz6 qz2 (4901, .inl (hT G 0, 15, .inl (upd (upd (upd (upd (upd (fun _ => 0) 0 40000) 1 30000) 2 100) 3 60000) 4 4000))) qz2 = some (4901, .inl (hT G 0, 15, .inl (upd (upd (upd (upd (upd (fun _ => 0) 0 40000) 1 30000) 2 100) 3 60000) 4 4000))) := hup_eq
  generalize hup Mz6 qz2 (4901, .inl (hT G 0, 15, .inl (upd (upd (upd (upd (upd (fun _ => 0) 0 40000) 1 30000) 2 100) 3 60000) 4 4000))) = Mz7 at Y fz2 fz1 hfr
  refine lv_dup hx hb dL_terms_36 rfl ?_
  refine lv_iconst (v := 5) hx hb dL_terms_37 (by decide) ?_
  refine lv_sipush (v := 30000) hx hb dL_terms_38 (by decide) ?_
  refine h_iast X Y (i := 5) fz2 (by omega) (by decide) dL_terms_41 (fun H locs Y => ?_)
  have fz1 := hup_tag (x := (4901, .inl (hT G 0, 15, .inl (upd (upd (upd (upd (upd (upd (fun _ => 0) 0 40000) 1 30000) 2 100) 3 60000) 4 4000) 5 30000)))) fz1 fz2 (by omega)
  have hfr := hfr.put (x := (4901, .inl (hT G 0, 15, .inl (upd (upd (upd (upd (upd (upd (fun _ => 0) 0 40000) 1 30000) 2 100) 3 60000) 4 4000) 5 30000)))) fz2 (Or.inr rfl)
  have fz2 : hup Mz7 qz2 (4901, .inl (hT G 0, 15, .inl (upd (upd (upd (upd (upd (upd (fun _ => 0) 0 40000) 1 30000) 2 100) 3 60000) 4 4000) 5 30000))) qz2 = some (4901, .inl (hT G 0, 15, .inl (upd (upd (upd (upd (upd (upd (fun _ => 0) 0 40000) 1 30000) 2 100) 3 60000) 4 4000) 5 30000))) := hup_eq
  generalize hup Mz7 qz2 (4901, .inl (hT G 0, 15, .inl (upd (upd (upd (upd (upd (upd (fun _ => 0) 0 40000) 1 30000) 2 100) 3 60000) 4 4000) 5 30000))) = Mz8 at Y fz2 fz1 hfr
  refine lv_dup hx hb dL_terms_42 rfl ?_
  refine lv_bipush (v := 6) hx hb dL_terms_43 (by decide) ?_
  refine lv_ldc hx hb X.2.2.2.2.1 (X.2.2.2.2.2.1 _ kcI_L_34) dL_terms_45 ?_
  refine h_iast X Y (i := 6) fz2 (by omega) (by decide) dL_terms_47 (fun H locs Y => ?_)
  have fz1 := hup_tag (x := (4901, .inl (hT G 0, 15, .inl (upd (upd (upd (upd (upd (upd (upd (fun _ => 0) 0 40000) 1 30000) 2 100) 3 60000) 4 4000) 5 30000) 6 90000)))) fz1 fz2 (by omega)
  have hfr := hfr.put (x := (4901, .inl (hT G 0, 15, .inl (upd (upd (upd (upd (upd (upd (upd (fun _ => 0) 0 40000) 1 30000) 2 100) 3 60000) 4 4000) 5 30000) 6 90000)))) fz2 (Or.inr rfl)
  have fz2 : hup Mz8 qz2 (4901, .inl (hT G 0, 15, .inl (upd (upd (upd (upd (upd (upd (upd (fun _ => 0) 0 40000) 1 30000) 2 100) 3 60000) 4 4000) 5 30000) 6 90000))) qz2 = some (4901, .inl (hT G 0, 15, .inl (upd (upd (upd (upd (upd (upd (upd (fun _ => 0) 0 40000) 1 30000) 2 100) 3 60000) 4 4000) 5 30000) 6 90000))) := hup_eq
  generalize hup Mz8 qz2 (4901, .inl (hT G 0, 15, .inl (upd (upd (upd (upd (upd (upd (upd (fun _ => 0) 0 40000) 1 30000) 2 100) 3 60000) 4 4000) 5 30000) 6 90000))) = Mz9 at Y fz2 fz1 hfr
  refine lv_dup hx hb dL_terms_48 rfl ?_
  refine lv_bipush (v := 7) hx hb dL_terms_49 (by decide) ?_
  refine lv_sipush (v := 20000) hx hb dL_terms_51 (by decide) ?_
  refine h_iast X Y (i := 7) fz2 (by omega) (by decide) dL_terms_54 (fun H locs Y => ?_)
  have fz1 := hup_tag (x := (4901, .inl (hT G 0, 15, .inl (upd (upd (upd (upd (upd (upd (upd (upd (fun _ => 0) 0 40000) 1 30000) 2 100) 3 60000) 4 4000) 5 30000) 6 90000) 7 20000)))) fz1 fz2 (by omega)
  have hfr := hfr.put (x := (4901, .inl (hT G 0, 15, .inl (upd (upd (upd (upd (upd (upd (upd (upd (fun _ => 0) 0 40000) 1 30000) 2 100) 3 60000) 4 4000) 5 30000) 6 90000) 7 20000)))) fz2 (Or.inr rfl)
  have fz2 : hup Mz9 qz2 (4901, .inl (hT G 0, 15, .inl (upd (upd (upd (upd (upd (upd (upd (upd (fun _ => 0) 0 40000) 1 30000) 2 100) 3 60000) 4 4000) 5 30000) 6 90000) 7 20000))) qz2 = some (4901, .inl (hT G 0, 15, .inl (upd (upd (upd (upd (upd (upd (upd (upd (fun _ => 0) 0 40000) 1 30000) 2 100) 3 60000) 4 4000) 5 30000) 6 90000) 7 20000))) := hup_eq
  generalize hup Mz9 qz2 (4901, .inl (hT G 0, 15, .inl (upd (upd (upd (upd (upd (upd (upd (upd (fun _ => 0) 0 40000) 1 30000) 2 100) 3 60000) 4 4000) 5 30000) 6 90000) 7 20000))) = Mz10 at Y fz2 fz1 hfr
  refine lv_dup hx hb dL_terms_55 rfl ?_
  refine lv_bipush (v := 8) hx hb dL_terms_56 (by decide) ?_
  refine lv_iconst (v := 2) hx hb dL_terms_58 (by decide) ?_
  refine h_iast X Y (i := 8) fz2 (by omega) (by decide) dL_terms_59 (fun H locs Y => ?_)
  have fz1 := hup_tag (x := (4901, .inl (hT G 0, 15, .inl (upd (upd (upd (upd (upd (upd (upd (upd (upd (fun _ => 0) 0 40000) 1 30000) 2 100) 3 60000) 4 4000) 5 30000) 6 90000) 7 20000) 8 2)))) fz1 fz2 (by omega)
  have hfr := hfr.put (x := (4901, .inl (hT G 0, 15, .inl (upd (upd (upd (upd (upd (upd (upd (upd (upd (fun _ => 0) 0 40000) 1 30000) 2 100) 3 60000) 4 4000) 5 30000) 6 90000) 7 20000) 8 2)))) fz2 (Or.inr rfl)
  have fz2 : hup Mz10 qz2 (4901, .inl (hT G 0, 15, .inl (upd (upd (upd (upd (upd (upd (upd (upd (upd (fun _ => 0) 0 40000) 1 30000) 2 100) 3 60000) 4 4000) 5 30000) 6 90000) 7 20000) 8 2))) qz2 = some (4901, .inl (hT G 0, 15, .inl (upd (upd (upd (upd (upd (upd (upd (upd (upd (fun _ => 0) 0 40000) 1 30000) 2 100) 3 60000) 4 4000) 5 30000) 6 90000) 7 20000) 8 2))) := hup_eq
  generalize hup Mz10 qz2 (4901, .inl (hT G 0, 15, .inl (upd (upd (upd (upd (upd (upd (upd (upd (upd (fun _ => 0) 0 40000) 1 30000) 2 100) 3 60000) 4 4000) 5 30000) 6 90000) 7 20000) 8 2))) = Mz11 at Y fz2 fz1 hfr
  refine lv_dup hx hb dL_terms_60 rfl ?_
  refine lv_bipush (v := 9) hx hb dL_terms_61 (by decide) ?_
  refine lv_ldc hx hb X.2.2.2.2.1 (X.2.2.2.2.2.1 _ kcI_L_35) dL_terms_63 ?_
  refine h_iast X Y (i := 9) fz2 (by omega) (by decide) dL_terms_65 (fun H locs Y => ?_)
  have fz1 := hup_tag (x := (4901, .inl (hT G 0, 15, .inl (upd (upd (upd (upd (upd (upd (upd (upd (upd (upd (fun _ => 0) 0 40000) 1 30000) 2 100) 3 60000) 4 4000) 5 30000) 6 90000) 7 20000) 8 2) 9 50000)))) fz1 fz2 (by omega)
  have hfr := hfr.put (x := (4901, .inl (hT G 0, 15, .inl (upd (upd (upd (upd (upd (upd (upd (upd (upd (upd (fun _ => 0) 0 40000) 1 30000) 2 100) 3 60000) 4 4000) 5 30000) 6 90000) 7 20000) 8 2) 9 50000)))) fz2 (Or.inr rfl)
  have fz2 : hup Mz11 qz2 (4901, .inl (hT G 0, 15, .inl (upd (upd (upd (upd (upd (upd (upd (upd (upd (upd (fun _ => 0) 0 40000) 1 30000) 2 100) 3 60000) 4 4000) 5 30000) 6 90000) 7 20000) 8 2) 9 50000))) qz2 = some (4901, .inl (hT G 0, 15, .inl (upd (upd (upd (upd (upd (upd (upd (upd (upd (upd (fun _ => 0) 0 40000) 1 30000) 2 100) 3 60000) 4 4000) 5 30000) 6 90000) 7 20000) 8 2) 9 50000))) := hup_eq
  generalize hup Mz11 qz2 (4901, .inl (hT G 0, 15, .inl (upd (upd (upd (upd (upd (upd (upd (upd (upd (upd (fun _ => 0) 0 40000) 1 30000) 2 100) 3 60000) 4 4000) 5 30000) 6 90000) 7 20000) 8 2) 9 50000))) = Mz12 at Y fz2 fz1 hfr
  refine lv_dup hx hb dL_terms_66 rfl ?_
  refine lv_bipush (v := 10) hx hb dL_terms_67 (by decide) ?_
  refine lv_sipush (v := 20000) hx hb dL_terms_69 (by decide) ?_
  refine h_iast X Y (i := 10) fz2 (by omega) (by decide) dL_terms_72 (fun H locs Y => ?_)
  have fz1 := hup_tag (x := (4901, .inl (hT G 0, 15, .inl (upd (upd (upd (upd (upd (upd (upd (upd (upd (upd (upd (fun _ => 0) 0 40000) 1 30000) 2 100) 3 60000) 4 4000) 5 30000) 6 90000) 7 20000) 8 2) 9 50000) 10 20000)))) fz1 fz2 (by omega)
  have hfr := hfr.put (x := (4901, .inl (hT G 0, 15, .inl (upd (upd (upd (upd (upd (upd (upd (upd (upd (upd (upd (fun _ => 0) 0 40000) 1 30000) 2 100) 3 60000) 4 4000) 5 30000) 6 90000) 7 20000) 8 2) 9 50000) 10 20000)))) fz2 (Or.inr rfl)
  have fz2 : hup Mz12 qz2 (4901, .inl (hT G 0, 15, .inl (upd (upd (upd (upd (upd (upd (upd (upd (upd (upd (upd (fun _ => 0) 0 40000) 1 30000) 2 100) 3 60000) 4 4000) 5 30000) 6 90000) 7 20000) 8 2) 9 50000) 10 20000))) qz2 = some (4901, .inl (hT G 0, 15, .inl (upd (upd (upd (upd (upd (upd (upd (upd (upd (upd (upd (fun _ => 0) 0 40000) 1 30000) 2 100) 3 60000) 4 4000) 5 30000) 6 90000) 7 20000) 8 2) 9 50000) 10 20000))) := hup_eq
  generalize hup Mz12 qz2 (4901, .inl (hT G 0, 15, .inl (upd (upd (upd (upd (upd (upd (upd (upd (upd (upd (upd (fun _ => 0) 0 40000) 1 30000) 2 100) 3 60000) 4 4000) 5 30000) 6 90000) 7 20000) 8 2) 9 50000) 10 20000))) = Mz13 at Y fz2 fz1 hfr
  refine lv_dup hx hb dL_terms_73 rfl ?_
  refine lv_bipush (v := 11) hx hb dL_terms_74 (by decide) ?_
  refine lv_iconst (v := 5) hx hb dL_terms_76 (by decide) ?_
  refine h_iast X Y (i := 11) fz2 (by omega) (by decide) dL_terms_77 (fun H locs Y => ?_)
  have fz1 := hup_tag (x := (4901, .inl (hT G 0, 15, .inl (upd (upd (upd (upd (upd (upd (upd (upd (upd (upd (upd (upd (fun _ => 0) 0 40000) 1 30000) 2 100) 3 60000) 4 4000) 5 30000) 6 90000) 7 20000) 8 2) 9 50000) 10 20000) 11 5)))) fz1 fz2 (by omega)
  have hfr := hfr.put (x := (4901, .inl (hT G 0, 15, .inl (upd (upd (upd (upd (upd (upd (upd (upd (upd (upd (upd (upd (fun _ => 0) 0 40000) 1 30000) 2 100) 3 60000) 4 4000) 5 30000) 6 90000) 7 20000) 8 2) 9 50000) 10 20000) 11 5)))) fz2 (Or.inr rfl)
  have fz2 : hup Mz13 qz2 (4901, .inl (hT G 0, 15, .inl (upd (upd (upd (upd (upd (upd (upd (upd (upd (upd (upd (upd (fun _ => 0) 0 40000) 1 30000) 2 100) 3 60000) 4 4000) 5 30000) 6 90000) 7 20000) 8 2) 9 50000) 10 20000) 11 5))) qz2 = some (4901, .inl (hT G 0, 15, .inl (upd (upd (upd (upd (upd (upd (upd (upd (upd (upd (upd (upd (fun _ => 0) 0 40000) 1 30000) 2 100) 3 60000) 4 4000) 5 30000) 6 90000) 7 20000) 8 2) 9 50000) 10 20000) 11 5))) := hup_eq
  generalize hup Mz13 qz2 (4901, .inl (hT G 0, 15, .inl (upd (upd (upd (upd (upd (upd (upd (upd (upd (upd (upd (upd (fun _ => 0) 0 40000) 1 30000) 2 100) 3 60000) 4 4000) 5 30000) 6 90000) 7 20000) 8 2) 9 50000) 10 20000) 11 5))) = Mz14 at Y fz2 fz1 hfr
  refine lv_dup hx hb dL_terms_78 rfl ?_
  refine lv_bipush (v := 12) hx hb dL_terms_79 (by decide) ?_
  refine lv_sipush (v := 301) hx hb dL_terms_81 (by decide) ?_
  refine h_iast X Y (i := 12) fz2 (by omega) (by decide) dL_terms_84 (fun H locs Y => ?_)
  have fz1 := hup_tag (x := (4901, .inl (hT G 0, 15, .inl (upd (upd (upd (upd (upd (upd (upd (upd (upd (upd (upd (upd (upd (fun _ => 0) 0 40000) 1 30000) 2 100) 3 60000) 4 4000) 5 30000) 6 90000) 7 20000) 8 2) 9 50000) 10 20000) 11 5) 12 301)))) fz1 fz2 (by omega)
  have hfr := hfr.put (x := (4901, .inl (hT G 0, 15, .inl (upd (upd (upd (upd (upd (upd (upd (upd (upd (upd (upd (upd (upd (fun _ => 0) 0 40000) 1 30000) 2 100) 3 60000) 4 4000) 5 30000) 6 90000) 7 20000) 8 2) 9 50000) 10 20000) 11 5) 12 301)))) fz2 (Or.inr rfl)
  have fz2 : hup Mz14 qz2 (4901, .inl (hT G 0, 15, .inl (upd (upd (upd (upd (upd (upd (upd (upd (upd (upd (upd (upd (upd (fun _ => 0) 0 40000) 1 30000) 2 100) 3 60000) 4 4000) 5 30000) 6 90000) 7 20000) 8 2) 9 50000) 10 20000) 11 5) 12 301))) qz2 = some (4901, .inl (hT G 0, 15, .inl (upd (upd (upd (upd (upd (upd (upd (upd (upd (upd (upd (upd (upd (fun _ => 0) 0 40000) 1 30000) 2 100) 3 60000) 4 4000) 5 30000) 6 90000) 7 20000) 8 2) 9 50000) 10 20000) 11 5) 12 301))) := hup_eq
  generalize hup Mz14 qz2 (4901, .inl (hT G 0, 15, .inl (upd (upd (upd (upd (upd (upd (upd (upd (upd (upd (upd (upd (upd (fun _ => 0) 0 40000) 1 30000) 2 100) 3 60000) 4 4000) 5 30000) 6 90000) 7 20000) 8 2) 9 50000) 10 20000) 11 5) 12 301))) = Mz15 at Y fz2 fz1 hfr
  refine lv_dup hx hb dL_terms_85 rfl ?_
  refine lv_bipush (v := 13) hx hb dL_terms_86 (by decide) ?_
  refine lv_ldc hx hb X.2.2.2.2.1 (X.2.2.2.2.2.1 _ kcI_L_33) dL_terms_88 ?_
  refine h_iast X Y (i := 13) fz2 (by omega) (by decide) dL_terms_90 (fun H locs Y => ?_)
  have fz1 := hup_tag (x := (4901, .inl (hT G 0, 15, .inl (upd (upd (upd (upd (upd (upd (upd (upd (upd (upd (upd (upd (upd (upd (fun _ => 0) 0 40000) 1 30000) 2 100) 3 60000) 4 4000) 5 30000) 6 90000) 7 20000) 8 2) 9 50000) 10 20000) 11 5) 12 301) 13 60000)))) fz1 fz2 (by omega)
  have hfr := hfr.put (x := (4901, .inl (hT G 0, 15, .inl (upd (upd (upd (upd (upd (upd (upd (upd (upd (upd (upd (upd (upd (upd (fun _ => 0) 0 40000) 1 30000) 2 100) 3 60000) 4 4000) 5 30000) 6 90000) 7 20000) 8 2) 9 50000) 10 20000) 11 5) 12 301) 13 60000)))) fz2 (Or.inr rfl)
  have fz2 : hup Mz15 qz2 (4901, .inl (hT G 0, 15, .inl (upd (upd (upd (upd (upd (upd (upd (upd (upd (upd (upd (upd (upd (upd (fun _ => 0) 0 40000) 1 30000) 2 100) 3 60000) 4 4000) 5 30000) 6 90000) 7 20000) 8 2) 9 50000) 10 20000) 11 5) 12 301) 13 60000))) qz2 = some (4901, .inl (hT G 0, 15, .inl (upd (upd (upd (upd (upd (upd (upd (upd (upd (upd (upd (upd (upd (upd (fun _ => 0) 0 40000) 1 30000) 2 100) 3 60000) 4 4000) 5 30000) 6 90000) 7 20000) 8 2) 9 50000) 10 20000) 11 5) 12 301) 13 60000))) := hup_eq
  generalize hup Mz15 qz2 (4901, .inl (hT G 0, 15, .inl (upd (upd (upd (upd (upd (upd (upd (upd (upd (upd (upd (upd (upd (upd (fun _ => 0) 0 40000) 1 30000) 2 100) 3 60000) 4 4000) 5 30000) 6 90000) 7 20000) 8 2) 9 50000) 10 20000) 11 5) 12 301) 13 60000))) = Mz16 at Y fz2 fz1 hfr
  refine lv_dup hx hb dL_terms_91 rfl ?_
  refine lv_bipush (v := 14) hx hb dL_terms_92 (by decide) ?_
  refine lv_bipush (v := 6) hx hb dL_terms_94 (by decide) ?_
  refine h_iast X Y (i := 14) fz2 (by omega) (by decide) dL_terms_96 (fun H locs Y => ?_)
  have fz1 := hup_tag (x := (4901, .inl (hT G 0, 15, .inl (upd (upd (upd (upd (upd (upd (upd (upd (upd (upd (upd (upd (upd (upd (upd (fun _ => 0) 0 40000) 1 30000) 2 100) 3 60000) 4 4000) 5 30000) 6 90000) 7 20000) 8 2) 9 50000) 10 20000) 11 5) 12 301) 13 60000) 14 6)))) fz1 fz2 (by omega)
  have hfr := hfr.put (x := (4901, .inl (hT G 0, 15, .inl (upd (upd (upd (upd (upd (upd (upd (upd (upd (upd (upd (upd (upd (upd (upd (fun _ => 0) 0 40000) 1 30000) 2 100) 3 60000) 4 4000) 5 30000) 6 90000) 7 20000) 8 2) 9 50000) 10 20000) 11 5) 12 301) 13 60000) 14 6)))) fz2 (Or.inr rfl)
  have fz2 : hup Mz16 qz2 (4901, .inl (hT G 0, 15, .inl (upd (upd (upd (upd (upd (upd (upd (upd (upd (upd (upd (upd (upd (upd (upd (fun _ => 0) 0 40000) 1 30000) 2 100) 3 60000) 4 4000) 5 30000) 6 90000) 7 20000) 8 2) 9 50000) 10 20000) 11 5) 12 301) 13 60000) 14 6))) qz2 = some (4901, .inl (hT G 0, 15, .inl (upd (upd (upd (upd (upd (upd (upd (upd (upd (upd (upd (upd (upd (upd (upd (fun _ => 0) 0 40000) 1 30000) 2 100) 3 60000) 4 4000) 5 30000) 6 90000) 7 20000) 8 2) 9 50000) 10 20000) 11 5) 12 301) 13 60000) 14 6))) := hup_eq
  generalize hup Mz16 qz2 (4901, .inl (hT G 0, 15, .inl (upd (upd (upd (upd (upd (upd (upd (upd (upd (upd (upd (upd (upd (upd (upd (fun _ => 0) 0 40000) 1 30000) 2 100) 3 60000) 4 4000) 5 30000) 6 90000) 7 20000) 8 2) 9 50000) 10 20000) 11 5) 12 301) 13 60000) 14 6))) = Mz17 at Y fz2 fz1 hfr
  refine lv_astore_n (lv' := [(2, .ref qz2), (1, .ref qz1), (0, .ref G.2.1)]) hx hb dL_terms_97 rfl hl (by decide) rfl (fun ls hl => ?_)
  refine lv_iconst (v := 0) hx hb dL_terms_98 (by decide) ?_
  refine lv_istore_n (lv' := [(3, .int 0), (2, .ref qz2), (1, .ref qz1), (0, .ref G.2.1)]) hx hb dL_terms_99 rfl hl (by decide) rfl (fun ls hl => ?_)
  have hw : ∀ i, i < 15 → (upd (upd (upd (upd (upd (upd (upd (upd (upd (upd (upd (upd (upd (upd (upd (fun _ => 0) 0 40000) 1 30000) 2 100) 3 60000) 4 4000) 5 30000) 6 90000) 7 20000) 8 2) 9 50000) 10 20000) 11 5) 12 301) 13 60000) 14 6) i = nI (wT.getD i 1) := by decide +kernel
  generalize (upd (upd (upd (upd (upd (upd (upd (upd (upd (upd (upd (upd (upd (upd (upd (fun _ => 0) 0 40000) 1 30000) 2 100) 3 60000) 4 4000) 5 30000) 6 90000) 7 20000) 8 2) 9 50000) 10 20000) 11 5) 12 301) 13 60000) 14 6) = gw at hw fz2
  have loop : ∀ (d i : Nat), 15 < i + d → i ≤ 15 → ∀ (M1 : hM) (g1 : Nat → Int32), M1 qz1 = some (4900, .inl (hT G 0, 15, .inl g1)) → M1 qz2 = some (4901, .inl (hT G 0, 15, .inl gw)) → hFr (fun u => u = 4900 ∨ u = 4901) M M1 → (∀ j, j < i → g1 j = nI (tmV L xs j)) → ∀ (H : Heap) (locs : List Loc) (ls : Array Slot), hHS G M1 s H locs → lv_has ls 4 [(0, .ref G.2.1), (1, .ref qz1), (2, .ref qz2), (3, .int (nI i))] → W p l e (hRm 2 2 30) s m args below meth c H locs (0 + 1 + 1) (0 + 15 + 15) (MQ below (hQ G (fun v9 M' => ∃ q g, v9 = some (.ref q) ∧ M' q = some (4900, .inl (hT G 0, 15, .inl g)) ∧ (∀ i, i < 15 → g i = nI (tmW L xs i)) ∧ hFr (fun u => u = 4900 ∨ u = 4901) M M')) args s 2 30 (hA G)) (F0 m 100 ls []) := by
    intro d
    induction d with
    | zero => intro i h1; intros; exact absurd h1 (by omega)
    | succ d ih =>
      intro i h1 hi M1 g1 t1 t2 hfr hg1 H locs ls Y hl
      refine lv_iload_n hx hb dL_terms_100 rfl (lv_at hl 3 rfl) ?_
      refine lv_bipush (v := 15) hx hb dL_terms_101 (by decide) ?_
      refine lv_icmp_ge (tgt := 137) hx hb dL_terms_103 (by decide) (fun c103 => ?_) (fun c103 => ?_)
      · have c103 : 15 ≤ i := (nI_leI (a := 15) (b := i) (by omega) (by omega)).mp c103
        refine lv_aload_n hx hb dL_terms_137 rfl (lv_at hl 1 rfl) ?_
        refine lv_iconst (v := 2) hx hb dL_terms_138 (by decide) ?_
        refine lv_dup2_11 hx hb dL_terms_139 rfl rfl ?_
        refine h_iald X Y (i := 2) t1 (by omega) (by decide) dL_terms_140 ?_
        refine lv_iconst (v := 1) hx hb dL_terms_141 (by decide) ?_
        refine lv_iadd hx hb dL_terms_142 ?_
        refine h_iast X Y (i := 2) t1 (by omega) (by decide) dL_terms_143 (fun H locs Y => ?_)
        have t2 := hup_tag (x := (4900, .inl (hT G 0, 15, .inl (upd g1 2 ((g1 2) + 1))))) t2 t1 (by omega)
        have hfr := hfr.put (x := (4900, .inl (hT G 0, 15, .inl (upd g1 2 ((g1 2) + 1))))) t1 (Or.inl rfl)
        have t1 : hup M1 qz1 (4900, .inl (hT G 0, 15, .inl (upd g1 2 ((g1 2) + 1)))) qz1 = some (4900, .inl (hT G 0, 15, .inl (upd g1 2 ((g1 2) + 1)))) := hup_eq
        generalize hup M1 qz1 (4900, .inl (hT G 0, 15, .inl (upd g1 2 ((g1 2) + 1)))) = Mz18 at Y t1 t2 hfr
        refine lv_aload_n hx hb dL_terms_144 rfl (lv_at hl 1 rfl) ?_
        have hfin : ∀ i, i < 15 → (upd g1 2 ((g1 2) + 1)) i = nI (tmW L xs i) := by
          intro j hj
          by_cases h2 : j = 2
          · subst h2; rw [pk_us, hg1 2 (by omega)]; exact (nI_1 _)
          · rw [pk_un h2, hg1 j (by omega), tmW, if_neg h2]
        exact h_aret (v := some qz1) X Y (Or.inr ⟨_, rfl⟩) ⟨qz1, _, rfl, t1, hfin, hfr⟩ (by show _ ≤ 2; decide) (by show _ ≤ 30; decide) dL_terms_145
      · have c103 : ¬ 15 ≤ i := fun z9 => c103 ((nI_leI (a := 15) (b := i) (by omega) (by omega)).mpr z9)
        have hi9 : i < 15 := by omega
        refine lv_aload_n hx hb dL_terms_106 rfl (lv_at hl 1 rfl) ?_
        refine lv_iload_n hx hb dL_terms_107 rfl (lv_at hl 3 rfl) ?_
        refine lv_aload_n hx hb dL_terms_108 rfl (lv_at hl 0 rfl) ?_
        refine lv_iload_n hx hb dL_terms_109 rfl (lv_at hl 3 rfl) ?_
        refine lv_bipush (v := 8) hx hb dL_terms_110 (by decide) ?_
        refine lv_irem hx hb dL_terms_112 (by decide) ?_
        refine h_ev (y := nI (i % 8)) (t_r8 hi9) ?_
        refine h_callSr (rest := [.int (nI i), .ref qz1]) X Y (c_cell l G M1 L xs hs (i % 8) (by omega)) rfl rfl gw_L_36 dsc_L_cell.2 rfl rfl hl.1 (Nat.le_of_ble_eq_true rfl) ⟨Nat.le_of_ble_eq_true rfl, Nat.le_of_ble_eq_true rfl⟩ ⟨Nat.le_of_ble_eq_true rfl, Nat.le_of_ble_eq_true rfl⟩ dL_terms_113 (fun H locs Y => ?_)
        refine lv_iload_n hx hb dL_terms_116 rfl (lv_at hl 3 rfl) ?_
        refine lv_bipush (v := 8) hx hb dL_terms_117 (by decide) ?_
        refine lv_idiv hx hb dL_terms_119 (by decide) ?_
        refine h_ev (y := nI (i / 8)) (t_d9 hi9) ?_
        refine lv_bipush (v := 9) hx hb dL_terms_120 (by decide) ?_
        refine lv_imul hx hb dL_terms_122 ?_
        refine h_ev (y := nI (i / 8 * 9)) (t_m9 hi9) ?_
        refine lv_ishr hx hb dL_terms_123 ?_
        refine lv_aload_n hx hb dL_terms_124 rfl (lv_at hl 2 rfl) ?_
        refine lv_iload_n hx hb dL_terms_125 rfl (lv_at hl 3 rfl) ?_
        refine h_iald X Y (i := i) t2 (by omega) (by decide) dL_terms_126 ?_
        refine h_ev (y := nI (wT.getD i 1)) (hw i hi9) ?_
        refine h_callSr (rest := [.int (nI i), .ref qz1]) X Y (c_below l G M1 ((cel L xs (i % 8)) >>> (nI (i / 8 * 9) &&& 31)) (wT.getD i 1) ⟨(wT_pos i hi9).1, by have := (wT_pos i hi9).2; omega⟩) rfl rfl gw_L_42 dsc_L_below.2 rfl rfl hl.1 (Nat.le_of_ble_eq_true rfl) ⟨Nat.le_of_ble_eq_true rfl, Nat.le_of_ble_eq_true rfl⟩ ⟨Nat.le_of_ble_eq_true rfl, Nat.le_of_ble_eq_true rfl⟩ dL_terms_127 (fun H locs Y => ?_)
        refine h_ev (y := nI (tmV L xs i)) rfl ?_
        refine h_iast X Y (i := i) t1 (by omega) (by decide) dL_terms_130 (fun H locs Y => ?_)
        have t2 := hup_tag (x := (4900, .inl (hT G 0, 15, .inl (upd g1 i (nI (tmV L xs i)))))) t2 t1 (by omega)
        have hfr := hfr.put (x := (4900, .inl (hT G 0, 15, .inl (upd g1 i (nI (tmV L xs i)))))) t1 (Or.inl rfl)
        have t1 : hup M1 qz1 (4900, .inl (hT G 0, 15, .inl (upd g1 i (nI (tmV L xs i))))) qz1 = some (4900, .inl (hT G 0, 15, .inl (upd g1 i (nI (tmV L xs i))))) := hup_eq
        generalize hup M1 qz1 (4900, .inl (hT G 0, 15, .inl (upd g1 i (nI (tmV L xs i))))) = Mz19 at Y t1 t2 hfr
        refine lv_iinc (v := nI (i + 1)) (lv' := [(3, .int (nI (i + 1))), (0, .ref G.2.1), (1, .ref qz1), (2, .ref qz2)]) hx hb dL_terms_131 hl (k := 3) rfl (nI_1 i) (by decide) rfl (fun ls hl => ?_)
        refine lv_goto (tgt := 100) hx hb dL_terms_134 (by decide) ?_
        refine ih (i + 1) (by omega) (by omega) Mz19 _ t1 t2 hfr (fun j hj => ?_) _ _ _ Y (lv_sub hl [1, 2, 3, 0] rfl)
        rcases (show j < i ∨ j = i by omega) with hj | rfl
        · rw [pk_un (by omega)]; exact hg1 j hj
        · rw [pk_us]
  exact loop 16 0 (by omega) (by omega) Mz17 _ fz1 fz2 hfr (fun j z9 => absurd z9 (by omega)) _ _ _ Y (lv_sub hl [3, 2, 1, 0] rfl)
