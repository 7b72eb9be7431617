-- THE TAPE
section TAPEROWS
variable {G : hG} {p : Program} {l : Launch} {e : Env} {R : Room} {s : State} {m : MethodId} {args : Array Value} {below : List Frame} {meth : Method} {c : Code} {H : Heap} {locs : List Loc} {cells slots : Nat} {Q : State → Prop}
variable {cc : ByteArray} {maxL : Nat} {ret : Option FieldType} {own nm : String} {M : hM} {pc : Nat} {ls : Array Slot} {rest : List Value} {a t ci index n : Nat} {cA : ClassId}
theorem h_bast (X : hCX G p s m args meth c cc maxL ret own nm) (Y : hHS G M s H locs) {f : Nat → Int32} {i : Nat} {x : Int32} (he : M a = some (t, .inl (hT G 1, n, .inl f))) (hi : i < n) (hn : n < 2 ^ 31) (hdg : decode cc pc = .ok (.bastore, 1))
    (kk : ∀ (H1 : Heap) (locs1 : List Loc), hHS G (hup M a (t, .inl (hT G 1, n, .inl (upd f i (vp_nar .byte x))))) s H1 locs1 → W p l e R s m args below meth c H1 locs1 cells slots Q (F0 m (pc + 1) ls rest)) : W p l e R s m args below meth c H locs cells slots Q (F0 m pc ls (.int x :: .int (nI i) :: .ref a :: rest)) := by
  obtain ⟨ws, hP, hDw, hw⟩ := Y.1.list
  obtain ⟨k1, hk1⟩ := hw a t _ he
  refine va_bast (D := hD G) (cl := vwCl) X.1 X.2.1 X.2.2.2.2.2.2.2.1 hP hDw Y.2 k1 1 hk1 rfl (vp_in_nI hi hn) hdg fun H1 locs1 hP1 hD1 hS1 => ?_
  rw [nI_clamp (Nat.lt_trans hi hn)] at hP1
  exact kk H1 locs1 ⟨Y.1.wset hw he hk1 hP1, hS1⟩
end TAPEROWS
theorem tp_sh {v s : Nat} (hv : v < 2147483648) (hs : s = 0 ∨ s = 8 ∨ s = 16 ∨ s = 24) : nI v >>> ((nI s) &&& 31) = nI (v / 2 ^ s) := by
  have hd : v / 2 ^ s < 2147483648 := Nat.lt_of_le_of_lt (Nat.div_le_self _ _) hv
  apply Int32.toInt_inj.mp
  show (BitVec.sshiftRight' (nI v).toBitVec ((nI s &&& 31).toBitVec.smod 32)).toInt = _
  rw [BitVec.toInt_sshiftRight', show (nI v).toBitVec.toInt = (nI v).toInt from rfl, nI_toInt hv, nI_toInt hd]
  have e : ((nI s &&& 31).toBitVec.smod 32).toNat = s := by rcases hs with rfl | rfl | rfl | rfl <;> decide
  rw [e, Int.shiftRight_eq_div_pow]
  norm_cast
theorem tp_b0 {v : Nat} (hv : v < 2147483648) (h : v % 256 < 128) : (nI v).toInt8.toInt32 = nI (v % 256) := by
  apply Int32.toInt_inj.mp
  rw [Int8.toInt_toInt32, Int32.toInt_toInt8, nI_toInt hv, nI_toInt (by omega), Int.bmod]
  rw [if_pos (by omega)]
  omega
theorem tp_b {v : Nat} (hv : v < 2147483648) (h : v % 256 < 128) : vp_nar .byte ((nI v).toInt8.toInt32) = nI (v % 256) := by
  rw [vp_nar_byte, tp_b0 hv h, tp_b0 (by omega) (by omega), Nat.mod_mod]

def tB (f : Nat → Int32) (B : Nat → Nat) (n : Nat) : Prop := ∀ p, p < n → f p = nI (B p) ∧ B p < 128
def bt (B : Nat → Nat) (n p : Nat) : Int32 := if p < n then nI (B p) else -1
theorem t_and : ∀ b, b < 128 → nI b &&& 255 = nI b := by decide +kernel
def tLet (B : Nat → Nat) (n p : Nat) : Bool := decide (p < n ∧ 97 ≤ B p ∧ B p ≤ 122)
def tDig (B : Nat → Nat) (n p : Nat) : Bool := decide (p < n ∧ 48 ≤ B p ∧ B p ≤ 57)
/-- the number that k digits from s on tell -/
def tNum (B : Nat → Nat) (s : Nat) : Nat → Int32
  | 0 => 0
  | k + 1 => tNum B s k * 10 + nI (B (s + k)) - 48
def tWd (B : Nat → Nat) (n s : Nat) : Nat → Int64
  | 0 => 0
  | k + 1 => tWd B n s k * 37 + (if tLet B n (s + k) = true then nI (B (s + k)) - 97 + 1 else nI (B (s + k)) - 48 + 27).toInt64
theorem dX8_byteAt_0 : decode cX8_byteAt 0 = .ok (.iload_n 1, 1) := by decide +kernel
theorem dX8_byteAt_1 : decode cX8_byteAt 1 = .ok (.ifCond .lt 24, 3) := by decide +kernel
theorem dX8_byteAt_4 : decode cX8_byteAt 4 = .ok (.iload_n 1, 1) := by decide +kernel
theorem dX8_byteAt_5 : decode cX8_byteAt 5 = .ok (.aload_n 0, 1) := by decide +kernel
theorem dX8_byteAt_6 : decode cX8_byteAt 6 = .ok (.getfield 15, 3) := by decide +kernel
theorem dX8_byteAt_9 : decode cX8_byteAt 9 = .ok (.if_icmp .ge 16, 3) := by decide +kernel
theorem dX8_byteAt_12 : decode cX8_byteAt 12 = .ok (.iload_n 1, 1) := by decide +kernel
theorem dX8_byteAt_13 : decode cX8_byteAt 13 = .ok (.aload_n 0, 1) := by decide +kernel
theorem dX8_byteAt_14 : decode cX8_byteAt 14 = .ok (.getfield 9, 3) := by decide +kernel
theorem dX8_byteAt_17 : decode cX8_byteAt 17 = .ok (.arraylength, 1) := by decide +kernel
theorem dX8_byteAt_18 : decode cX8_byteAt 18 = .ok (.if_icmp .ge 7, 3) := by decide +kernel
theorem dX8_byteAt_21 : decode cX8_byteAt 21 = .ok (.iconst 1, 1) := by decide +kernel
theorem dX8_byteAt_22 : decode cX8_byteAt 22 = .ok (.goto 4, 3) := by decide +kernel
theorem dX8_byteAt_25 : decode cX8_byteAt 25 = .ok (.iconst 0, 1) := by decide +kernel
theorem dX8_byteAt_26 : decode cX8_byteAt 26 = .ok (.istore_n 2, 1) := by decide +kernel
theorem dX8_byteAt_27 : decode cX8_byteAt 27 = .ok (.iload_n 2, 1) := by decide +kernel
theorem dX8_byteAt_28 : decode cX8_byteAt 28 = .ok (.ifCond .eq 16, 3) := by decide +kernel
theorem dX8_byteAt_31 : decode cX8_byteAt 31 = .ok (.aload_n 0, 1) := by decide +kernel
theorem dX8_byteAt_32 : decode cX8_byteAt 32 = .ok (.getfield 9, 3) := by decide +kernel
theorem dX8_byteAt_35 : decode cX8_byteAt 35 = .ok (.iload_n 1, 1) := by decide +kernel
theorem dX8_byteAt_36 : decode cX8_byteAt 36 = .ok (.baload, 1) := by decide +kernel
theorem dX8_byteAt_37 : decode cX8_byteAt 37 = .ok (.sipush 255, 3) := by decide +kernel
theorem dX8_byteAt_40 : decode cX8_byteAt 40 = .ok (.iand, 1) := by decide +kernel
theorem dX8_byteAt_41 : decode cX8_byteAt 41 = .ok (.goto 4, 3) := by decide +kernel
theorem dX8_byteAt_44 : decode cX8_byteAt 44 = .ok (.iconst (-1), 1) := by decide +kernel
theorem dX8_byteAt_45 : decode cX8_byteAt 45 = .ok (.ireturn, 1) := by decide +kernel
set_option maxHeartbeats 400000 in
set_option maxRecDepth 100000 in
theorem c_byteAt (l : Launch) (G : hG) (M : hM) (a r n : Nat) (f : Nat → Int32) (B : Nat → Nat) (hn : n ≤ 2000) (ht1 : M a = some (1, .inr (9, [.ref r, .int (nI n)]))) (ht2 : M r = some (2, .inl (hT G 1, 2000, .inl f))) (hB : tB f B n) (p0 : Nat) (hp : p0 < 3000) : hCT l G yX8_byteAt cX8_byteAt 3 (Option.some FieldType.int) (hRm 1 0 0) M [.ref a, .int (nI p0)] (hRd M (.int (bt B n p0))) := by
  refine hCT.of (own := RX8) (nm := "byteAt") (by decide) rfl rfl (Nat.le_of_ble_eq_true rfl) ?_
  intro p e s m args below meth c ls X Y hl
  have hx := X.1
  have hb := X.2.1
  have hl : lv_has ls 3 [(0, .ref a), (1, .int (nI p0))] := hl
  refine lv_iload_n hx hb dX8_byteAt_0 rfl (lv_at hl 1 rfl) ?_
  refine lv_if_lt (tgt := 25) hx hb dX8_byteAt_1 (by decide) (fun c1 => absurd (show p0 < 0 from (nI_ltI (a := p0) (b := 0) (by omega) (by omega)).mp c1) (by omega)) (fun c1 => ?_)
  have c1 : ¬ p0 < 0 := fun z9 => c1 ((nI_ltI (a := p0) (b := 0) (by omega) (by omega)).mpr z9)
  refine lv_iload_n hx hb dX8_byteAt_4 rfl (lv_at hl 1 rfl) ?_
  refine lv_aload_n hx hb dX8_byteAt_5 rfl (lv_at hl 0 rfl) ?_
  refine h_get X Y (k := 1) (v := .int (nI n)) ht1 rfl hin_X8 (by decide) kfl_X8_15 rfl dX8_byteAt_6 ?_
  refine lv_icmp_ge (tgt := 25) hx hb dX8_byteAt_9 (by decide) (fun c9 => ?_) (fun c9 => ?_)
  · have c9 : n ≤ p0 := (nI_leI (a := n) (b := p0) (by omega) (by omega)).mp c9
    refine lv_iconst (v := 0) hx hb dX8_byteAt_25 (by decide) ?_
    refine lv_istore_n (lv' := [(2, .int 0), (0, .ref a), (1, .int (nI p0))]) hx hb dX8_byteAt_26 rfl hl (by decide) rfl (fun ls hl => ?_)
    refine lv_iload_n hx hb dX8_byteAt_27 rfl (lv_at hl 0 rfl) ?_
    refine lv_if_eq (tgt := 44) hx hb dX8_byteAt_28 (by decide) (fun c28 => ?_) (fun c28 => absurd (by decide) c28)
    refine lv_iconst (v := (-1)) hx hb dX8_byteAt_44 (by decide) ?_
    exact h_iret X Y ⟨congrArg (fun z => some (Value.int z)) (show bt B n p0 = _ from if_neg (by omega)).symm, rfl⟩ (Nat.le_refl _) (Nat.le_refl _) dX8_byteAt_45
  · have c9 : ¬ n ≤ p0 := fun z9 => c9 ((nI_leI (a := n) (b := p0) (by omega) (by omega)).mpr z9)
    refine lv_iload_n hx hb dX8_byteAt_12 rfl (lv_at hl 1 rfl) ?_
    refine lv_aload_n hx hb dX8_byteAt_13 rfl (lv_at hl 0 rfl) ?_
    refine h_get X Y (k := 0) (v := .ref r) ht1 rfl hin_X8 (by decide) kfl_X8_9 rfl dX8_byteAt_14 ?_
    refine h_alen X Y 1 ht2 rfl dX8_byteAt_17 ?_
    refine lv_icmp_ge (tgt := 25) hx hb dX8_byteAt_18 (by decide) (fun c18 => absurd (show 2000 ≤ p0 from (nI_leI (a := 2000) (b := p0) (by omega) (by omega)).mp c18) (by omega)) (fun c18 => ?_)
    have c18 : ¬ 2000 ≤ p0 := fun z9 => c18 ((nI_leI (a := 2000) (b := p0) (by omega) (by omega)).mpr z9)
    refine lv_iconst (v := 1) hx hb dX8_byteAt_21 (by decide) ?_
    refine lv_goto (tgt := 26) hx hb dX8_byteAt_22 (by decide) ?_
    refine lv_istore_n (lv' := [(2, .int 1), (0, .ref a), (1, .int (nI p0))]) hx hb dX8_byteAt_26 rfl hl (by decide) rfl (fun ls hl => ?_)
    refine lv_iload_n hx hb dX8_byteAt_27 rfl (lv_at hl 0 rfl) ?_
    refine lv_if_eq (tgt := 44) hx hb dX8_byteAt_28 (by decide) (fun c28 => absurd c28 (by decide)) (fun c28 => ?_)
    refine lv_aload_n hx hb dX8_byteAt_31 rfl (lv_at hl 1 rfl) ?_
    refine h_get X Y (k := 0) (v := .ref r) ht1 rfl hin_X8 (by decide) kfl_X8_9 rfl dX8_byteAt_32 ?_
    refine lv_iload_n hx hb dX8_byteAt_35 rfl (lv_at hl 2 rfl) ?_
    refine h_bald X Y (i := p0) ht2 (by omega) (by decide) dX8_byteAt_36 ?_
    refine lv_sipush (v := 255) hx hb dX8_byteAt_37 (by decide) ?_
    refine lv_iand hx hb dX8_byteAt_40 ?_
    refine h_ev (y := nI (B p0)) (by rw [(hB p0 (by omega)).1]; exact t_and _ (hB p0 (by omega)).2) ?_
    refine lv_goto (tgt := 45) hx hb dX8_byteAt_41 (by decide) ?_
    exact h_iret X Y ⟨congrArg (fun z => some (Value.int z)) (show bt B n p0 = _ from if_pos (by omega)).symm, rfl⟩ (Nat.le_refl _) (Nat.le_refl _) dX8_byteAt_45
theorem gw_X8_19 : GoodIn hGW (wsV RX8 19 RX8 yX8_byteAt (Cond.code yX8_byteAt cX8_byteAt 3 (Option.some FieldType.int) :: hGW)) := hgi4 kml_X8_19 kin_X8_byteAt kse_X8_X8_byteAt_X8_byteAt kini_X8 kco_X8_byteAt
theorem dsc_X8_byteAt : yX8_byteAt.cls = RX8 ∧ yX8_byteAt.cls ≠ "java/lang/invoke/MethodHandle" ∧ yX8_byteAt.cls ≠ "java/lang/invoke/VarHandle" ∧ (parseMethodDescriptor yX8_byteAt.desc).map (fun d => d.parameters.length) = some 1 := ⟨rfl, by decide +kernel, by decide +kernel, by decide +kernel⟩
theorem dX8_isLetter_0 : decode cX8_isLetter 0 = .ok (.aload_n 0, 1) := by decide +kernel
theorem dX8_isLetter_1 : decode cX8_isLetter 1 = .ok (.iload_n 1, 1) := by decide +kernel
theorem dX8_isLetter_2 : decode cX8_isLetter 2 = .ok (.invokevirtual 19, 3) := by decide +kernel
theorem dX8_isLetter_5 : decode cX8_isLetter 5 = .ok (.istore_n 2, 1) := by decide +kernel
theorem dX8_isLetter_6 : decode cX8_isLetter 6 = .ok (.iload_n 2, 1) := by decide +kernel
theorem dX8_isLetter_7 : decode cX8_isLetter 7 = .ok (.bipush 97, 2) := by decide +kernel
theorem dX8_isLetter_9 : decode cX8_isLetter 9 = .ok (.if_icmp .lt 13, 3) := by decide +kernel
theorem dX8_isLetter_12 : decode cX8_isLetter 12 = .ok (.iload_n 2, 1) := by decide +kernel
theorem dX8_isLetter_13 : decode cX8_isLetter 13 = .ok (.bipush 122, 2) := by decide +kernel
theorem dX8_isLetter_15 : decode cX8_isLetter 15 = .ok (.if_icmp .gt 7, 3) := by decide +kernel
theorem dX8_isLetter_18 : decode cX8_isLetter 18 = .ok (.iconst 1, 1) := by decide +kernel
theorem dX8_isLetter_19 : decode cX8_isLetter 19 = .ok (.goto 4, 3) := by decide +kernel
theorem dX8_isLetter_22 : decode cX8_isLetter 22 = .ok (.iconst 0, 1) := by decide +kernel
theorem dX8_isLetter_23 : decode cX8_isLetter 23 = .ok (.ireturn, 1) := by decide +kernel
set_option maxHeartbeats 400000 in
set_option maxRecDepth 100000 in
theorem c_isLetter (l : Launch) (G : hG) (M : hM) (a r n : Nat) (f : Nat → Int32) (B : Nat → Nat) (hn : n ≤ 2000) (ht1 : M a = some (1, .inr (9, [.ref r, .int (nI n)]))) (ht2 : M r = some (2, .inl (hT G 1, 2000, .inl f))) (hB : tB f B n) (p0 : Nat) (hp : p0 < 3000) : hCT l G yX8_isLetter cX8_isLetter 3 (Option.some FieldType.boolean) (hRm 2 0 0) M [.ref a, .int (nI p0)] (hRd M (.int (bI (tLet B n p0)))) := by
  refine hCT.of (own := RX8) (nm := "isLetter") (by decide) rfl rfl (Nat.le_of_ble_eq_true rfl) ?_
  intro p e s m args below meth c ls X Y hl
  have hx := X.1
  have hb := X.2.1
  have hl : lv_has ls 3 [(0, .ref a), (1, .int (nI p0))] := hl
  refine lv_aload_n hx hb dX8_isLetter_0 rfl (lv_at hl 0 rfl) ?_
  refine lv_iload_n hx hb dX8_isLetter_1 rfl (lv_at hl 1 rfl) ?_
  refine h_callVr (rest := []) X Y (c_byteAt l G M a r n f B hn ht1 ht2 hB p0 hp) rfl rfl gw_X8_19 dsc_X8_byteAt ht1 rfl rfl rfl rfl hl.1 (Nat.le_of_ble_eq_true rfl) ⟨Nat.le_of_ble_eq_true rfl, Nat.le_of_ble_eq_true rfl⟩ ⟨Nat.le_of_ble_eq_true rfl, Nat.le_of_ble_eq_true rfl⟩ dX8_isLetter_2 (fun H locs Y => ?_)
  rcases Nat.lt_or_ge p0 n with hlt | hge
  · have hB0 := (hB p0 hlt).2
    refine h_ev (y := nI (B p0)) (if_pos hlt) ?_
    refine lv_istore_n (lv' := [(2, .int (nI (B p0))), (0, .ref a), (1, .int (nI p0))]) hx hb dX8_isLetter_5 rfl hl (by decide) rfl (fun ls hl => ?_)
    refine lv_iload_n hx hb dX8_isLetter_6 rfl (lv_at hl 0 rfl) ?_
    refine lv_bipush (v := 97) hx hb dX8_isLetter_7 (by decide) ?_
    refine lv_icmp_lt (tgt := 22) hx hb dX8_isLetter_9 (by decide) (fun c9 => ?_) (fun c9 => ?_)
    · have c9 : (B p0) < 97 := (nI_ltI (a := (B p0)) (b := 97) (by omega) (by omega)).mp c9
      refine lv_iconst (v := 0) hx hb dX8_isLetter_22 (by decide) ?_
      exact h_zret X Y rfl ⟨congrArg (fun z => some (Value.int z)) (show _ = bI (tLet B n p0) from by unfold tLet; rw [decide_eq_false (by omega)]; rfl), rfl⟩ (Nat.le_refl _) (Nat.le_refl _) dX8_isLetter_23
    · have c9 : ¬ (B p0) < 97 := fun z9 => c9 ((nI_ltI (a := (B p0)) (b := 97) (by omega) (by omega)).mpr z9)
      refine lv_iload_n hx hb dX8_isLetter_12 rfl (lv_at hl 0 rfl) ?_
      refine lv_bipush (v := 122) hx hb dX8_isLetter_13 (by decide) ?_
      refine lv_icmp_gt (tgt := 22) hx hb dX8_isLetter_15 (by decide) (fun c15 => ?_) (fun c15 => ?_)
      · have c15 : 122 < (B p0) := (nI_ltI (a := 122) (b := (B p0)) (by omega) (by omega)).mp c15
        refine lv_iconst (v := 0) hx hb dX8_isLetter_22 (by decide) ?_
        exact h_zret X Y rfl ⟨congrArg (fun z => some (Value.int z)) (show _ = bI (tLet B n p0) from by unfold tLet; rw [decide_eq_false (by omega)]; rfl), rfl⟩ (Nat.le_refl _) (Nat.le_refl _) dX8_isLetter_23
      · have c15 : ¬ 122 < (B p0) := fun z9 => c15 ((nI_ltI (a := 122) (b := (B p0)) (by omega) (by omega)).mpr z9)
        refine lv_iconst (v := 1) hx hb dX8_isLetter_18 (by decide) ?_
        refine lv_goto (tgt := 23) hx hb dX8_isLetter_19 (by decide) ?_
        exact h_zret X Y rfl ⟨congrArg (fun z => some (Value.int z)) (show _ = bI (tLet B n p0) from by unfold tLet; rw [decide_eq_true (by omega)]; rfl), rfl⟩ (Nat.le_refl _) (Nat.le_refl _) dX8_isLetter_23
  · refine h_ev (y := (-1)) (if_neg (by omega)) ?_
    refine lv_istore_n (lv' := [(2, .int (-1)), (0, .ref a), (1, .int (nI p0))]) hx hb dX8_isLetter_5 rfl hl (by decide) rfl (fun ls hl => ?_)
    refine lv_iload_n hx hb dX8_isLetter_6 rfl (lv_at hl 0 rfl) ?_
    refine lv_bipush (v := 97) hx hb dX8_isLetter_7 (by decide) ?_
    refine lv_icmp_lt (tgt := 22) hx hb dX8_isLetter_9 (by decide) (fun c9 => ?_) (fun c9 => absurd (by decide) c9)
    refine lv_iconst (v := 0) hx hb dX8_isLetter_22 (by decide) ?_
    exact h_zret X Y rfl ⟨congrArg (fun z => some (Value.int z)) (show _ = bI (tLet B n p0) from by unfold tLet; rw [decide_eq_false (by omega)]; rfl), rfl⟩ (Nat.le_refl _) (Nat.le_refl _) dX8_isLetter_23
theorem dX8_isDigit_0 : decode cX8_isDigit 0 = .ok (.aload_n 0, 1) := by decide +kernel
theorem dX8_isDigit_1 : decode cX8_isDigit 1 = .ok (.iload_n 1, 1) := by decide +kernel
theorem dX8_isDigit_2 : decode cX8_isDigit 2 = .ok (.invokevirtual 19, 3) := by decide +kernel
theorem dX8_isDigit_5 : decode cX8_isDigit 5 = .ok (.istore_n 2, 1) := by decide +kernel
theorem dX8_isDigit_6 : decode cX8_isDigit 6 = .ok (.iload_n 2, 1) := by decide +kernel
theorem dX8_isDigit_7 : decode cX8_isDigit 7 = .ok (.bipush 48, 2) := by decide +kernel
theorem dX8_isDigit_9 : decode cX8_isDigit 9 = .ok (.if_icmp .lt 13, 3) := by decide +kernel
theorem dX8_isDigit_12 : decode cX8_isDigit 12 = .ok (.iload_n 2, 1) := by decide +kernel
theorem dX8_isDigit_13 : decode cX8_isDigit 13 = .ok (.bipush 57, 2) := by decide +kernel
theorem dX8_isDigit_15 : decode cX8_isDigit 15 = .ok (.if_icmp .gt 7, 3) := by decide +kernel
theorem dX8_isDigit_18 : decode cX8_isDigit 18 = .ok (.iconst 1, 1) := by decide +kernel
theorem dX8_isDigit_19 : decode cX8_isDigit 19 = .ok (.goto 4, 3) := by decide +kernel
theorem dX8_isDigit_22 : decode cX8_isDigit 22 = .ok (.iconst 0, 1) := by decide +kernel
theorem dX8_isDigit_23 : decode cX8_isDigit 23 = .ok (.ireturn, 1) := by decide +kernel
set_option maxHeartbeats 400000 in
set_option maxRecDepth 100000 in
theorem c_isDigit (l : Launch) (G : hG) (M : hM) (a r n : Nat) (f : Nat → Int32) (B : Nat → Nat) (hn : n ≤ 2000) (ht1 : M a = some (1, .inr (9, [.ref r, .int (nI n)]))) (ht2 : M r = some (2, .inl (hT G 1, 2000, .inl f))) (hB : tB f B n) (p0 : Nat) (hp : p0 < 3000) : hCT l G yX8_isDigit cX8_isDigit 3 (Option.some FieldType.boolean) (hRm 2 0 0) M [.ref a, .int (nI p0)] (hRd M (.int (bI (tDig B n p0)))) := by
  refine hCT.of (own := RX8) (nm := "isDigit") (by decide) rfl rfl (Nat.le_of_ble_eq_true rfl) ?_
  intro p e s m args below meth c ls X Y hl
  have hx := X.1
  have hb := X.2.1
  have hl : lv_has ls 3 [(0, .ref a), (1, .int (nI p0))] := hl
  refine lv_aload_n hx hb dX8_isDigit_0 rfl (lv_at hl 0 rfl) ?_
  refine lv_iload_n hx hb dX8_isDigit_1 rfl (lv_at hl 1 rfl) ?_
  refine h_callVr (rest := []) X Y (c_byteAt l G M a r n f B hn ht1 ht2 hB p0 hp) rfl rfl gw_X8_19 dsc_X8_byteAt ht1 rfl rfl rfl rfl hl.1 (Nat.le_of_ble_eq_true rfl) ⟨Nat.le_of_ble_eq_true rfl, Nat.le_of_ble_eq_true rfl⟩ ⟨Nat.le_of_ble_eq_true rfl, Nat.le_of_ble_eq_true rfl⟩ dX8_isDigit_2 (fun H locs Y => ?_)
  rcases Nat.lt_or_ge p0 n with hlt | hge
  · have hB0 := (hB p0 hlt).2
    refine h_ev (y := nI (B p0)) (if_pos hlt) ?_
    refine lv_istore_n (lv' := [(2, .int (nI (B p0))), (0, .ref a), (1, .int (nI p0))]) hx hb dX8_isDigit_5 rfl hl (by decide) rfl (fun ls hl => ?_)
    refine lv_iload_n hx hb dX8_isDigit_6 rfl (lv_at hl 0 rfl) ?_
    refine lv_bipush (v := 48) hx hb dX8_isDigit_7 (by decide) ?_
    refine lv_icmp_lt (tgt := 22) hx hb dX8_isDigit_9 (by decide) (fun c9 => ?_) (fun c9 => ?_)
    · have c9 : (B p0) < 48 := (nI_ltI (a := (B p0)) (b := 48) (by omega) (by omega)).mp c9
      refine lv_iconst (v := 0) hx hb dX8_isDigit_22 (by decide) ?_
      exact h_zret X Y rfl ⟨congrArg (fun z => some (Value.int z)) (show _ = bI (tDig B n p0) from by unfold tDig; rw [decide_eq_false (by omega)]; rfl), rfl⟩ (Nat.le_refl _) (Nat.le_refl _) dX8_isDigit_23
    · have c9 : ¬ (B p0) < 48 := fun z9 => c9 ((nI_ltI (a := (B p0)) (b := 48) (by omega) (by omega)).mpr z9)
      refine lv_iload_n hx hb dX8_isDigit_12 rfl (lv_at hl 0 rfl) ?_
      refine lv_bipush (v := 57) hx hb dX8_isDigit_13 (by decide) ?_
      refine lv_icmp_gt (tgt := 22) hx hb dX8_isDigit_15 (by decide) (fun c15 => ?_) (fun c15 => ?_)
      · have c15 : 57 < (B p0) := (nI_ltI (a := 57) (b := (B p0)) (by omega) (by omega)).mp c15
        refine lv_iconst (v := 0) hx hb dX8_isDigit_22 (by decide) ?_
        exact h_zret X Y rfl ⟨congrArg (fun z => some (Value.int z)) (show _ = bI (tDig B n p0) from by unfold tDig; rw [decide_eq_false (by omega)]; rfl), rfl⟩ (Nat.le_refl _) (Nat.le_refl _) dX8_isDigit_23
      · have c15 : ¬ 57 < (B p0) := fun z9 => c15 ((nI_ltI (a := 57) (b := (B p0)) (by omega) (by omega)).mpr z9)
        refine lv_iconst (v := 1) hx hb dX8_isDigit_18 (by decide) ?_
        refine lv_goto (tgt := 23) hx hb dX8_isDigit_19 (by decide) ?_
        exact h_zret X Y rfl ⟨congrArg (fun z => some (Value.int z)) (show _ = bI (tDig B n p0) from by unfold tDig; rw [decide_eq_true (by omega)]; rfl), rfl⟩ (Nat.le_refl _) (Nat.le_refl _) dX8_isDigit_23
  · refine h_ev (y := (-1)) (if_neg (by omega)) ?_
    refine lv_istore_n (lv' := [(2, .int (-1)), (0, .ref a), (1, .int (nI p0))]) hx hb dX8_isDigit_5 rfl hl (by decide) rfl (fun ls hl => ?_)
    refine lv_iload_n hx hb dX8_isDigit_6 rfl (lv_at hl 0 rfl) ?_
    refine lv_bipush (v := 48) hx hb dX8_isDigit_7 (by decide) ?_
    refine lv_icmp_lt (tgt := 22) hx hb dX8_isDigit_9 (by decide) (fun c9 => ?_) (fun c9 => absurd (by decide) c9)
    refine lv_iconst (v := 0) hx hb dX8_isDigit_22 (by decide) ?_
    exact h_zret X Y rfl ⟨congrArg (fun z => some (Value.int z)) (show _ = bI (tDig B n p0) from by unfold tDig; rw [decide_eq_false (by omega)]; rfl), rfl⟩ (Nat.le_refl _) (Nat.le_refl _) dX8_isDigit_23
theorem dX8_behindBlanks_0 : decode cX8_behindBlanks 0 = .ok (.iload_n 1, 1) := by decide +kernel
theorem dX8_behindBlanks_1 : decode cX8_behindBlanks 1 = .ok (.istore_n 2, 1) := by decide +kernel
theorem dX8_behindBlanks_2 : decode cX8_behindBlanks 2 = .ok (.iload_n 2, 1) := by decide +kernel
theorem dX8_behindBlanks_3 : decode cX8_behindBlanks 3 = .ok (.aload_n 0, 1) := by decide +kernel
theorem dX8_behindBlanks_4 : decode cX8_behindBlanks 4 = .ok (.getfield 15, 3) := by decide +kernel
theorem dX8_behindBlanks_7 : decode cX8_behindBlanks 7 = .ok (.if_icmp .ge 29, 3) := by decide +kernel
theorem dX8_behindBlanks_10 : decode cX8_behindBlanks 10 = .ok (.aload_n 0, 1) := by decide +kernel
theorem dX8_behindBlanks_11 : decode cX8_behindBlanks 11 = .ok (.iload_n 2, 1) := by decide +kernel
theorem dX8_behindBlanks_12 : decode cX8_behindBlanks 12 = .ok (.invokevirtual 19, 3) := by decide +kernel
theorem dX8_behindBlanks_15 : decode cX8_behindBlanks 15 = .ok (.bipush 32, 2) := by decide +kernel
theorem dX8_behindBlanks_17 : decode cX8_behindBlanks 17 = .ok (.if_icmp .eq 13, 3) := by decide +kernel
theorem dX8_behindBlanks_20 : decode cX8_behindBlanks 20 = .ok (.aload_n 0, 1) := by decide +kernel
theorem dX8_behindBlanks_21 : decode cX8_behindBlanks 21 = .ok (.iload_n 2, 1) := by decide +kernel
theorem dX8_behindBlanks_22 : decode cX8_behindBlanks 22 = .ok (.invokevirtual 19, 3) := by decide +kernel
theorem dX8_behindBlanks_25 : decode cX8_behindBlanks 25 = .ok (.bipush 10, 2) := by decide +kernel
theorem dX8_behindBlanks_27 : decode cX8_behindBlanks 27 = .ok (.if_icmp .ne 9, 3) := by decide +kernel
theorem dX8_behindBlanks_30 : decode cX8_behindBlanks 30 = .ok (.iinc 2 1, 3) := by decide +kernel
theorem dX8_behindBlanks_33 : decode cX8_behindBlanks 33 = .ok (.goto (-31), 3) := by decide +kernel
theorem dX8_behindBlanks_36 : decode cX8_behindBlanks 36 = .ok (.iload_n 2, 1) := by decide +kernel
theorem dX8_behindBlanks_37 : decode cX8_behindBlanks 37 = .ok (.ireturn, 1) := by decide +kernel
set_option maxHeartbeats 400000 in
set_option maxRecDepth 100000 in
theorem c_behindBlanks (l : Launch) (G : hG) (M : hM) (a r n : Nat) (f : Nat → Int32) (B : Nat → Nat) (hn : n ≤ 2000) (ht1 : M a = some (1, .inr (9, [.ref r, .int (nI n)]))) (ht2 : M r = some (2, .inl (hT G 1, 2000, .inl f))) (hB : tB f B n) (p0 e0 : Nat) (hpe : p0 ≤ e0) (hen : e0 ≤ n) (hbl : ∀ j, p0 ≤ j → j < e0 → B j = 32) (hnb : e0 = n ∨ (B e0 ≠ 32 ∧ B e0 ≠ 10)) : hCT l G yX8_behindBlanks cX8_behindBlanks 3 (Option.some FieldType.int) (hRm 2 0 0) M [.ref a, .int (nI p0)] (hRd M (.int (nI e0))) := by
  refine hCT.of (own := RX8) (nm := "behindBlanks") (by decide) rfl rfl (Nat.le_of_ble_eq_true rfl) ?_
  intro p e s m args below meth c ls X Y hl
  have hx := X.1
  have hb := X.2.1
  have hl : lv_has ls 3 [(0, .ref a), (1, .int (nI p0))] := hl
  refine lv_iload_n hx hb dX8_behindBlanks_0 rfl (lv_at hl 1 rfl) ?_
  refine lv_istore_n (lv' := [(2, .int (nI p0)), (0, .ref a), (1, .int (nI p0))]) hx hb dX8_behindBlanks_1 rfl hl (by decide) rfl (fun ls hl => ?_)
  have loop : ∀ (d k : Nat), k + d = e0 + 1 → k ≤ e0 → p0 ≤ k → ∀ (H : Heap) (locs : List Loc) (ls : Array Slot), hHS G M s H locs → lv_has ls 3 [(0, .ref a), (1, .int (nI p0)), (2, .int (nI k))] → W p l e (hRm 2 0 0) s m args below meth c H locs 0 0 (MQ below (hQ G (hRd M (.int (nI e0)))) args s 0 0 (hA G)) (F0 m 2 ls []) := by
    intro d
    induction d with
    | zero => intro k h1; intros; exact absurd h1 (by omega)
    | succ d ih =>
      intro k h1 h2 h3 H locs ls Y hl
      refine lv_iload_n hx hb dX8_behindBlanks_2 rfl (lv_at hl 2 rfl) ?_
      refine lv_aload_n hx hb dX8_behindBlanks_3 rfl (lv_at hl 0 rfl) ?_
      refine h_get X Y (k := 1) (v := .int (nI n)) ht1 rfl hin_X8 (by decide) kfl_X8_15 rfl dX8_behindBlanks_4 ?_
      refine lv_icmp_ge (tgt := 36) hx hb dX8_behindBlanks_7 (by decide) (fun c7 => ?_) (fun c7 => ?_)
      · have c7 : n ≤ k := (nI_leI (a := n) (b := k) (by omega) (by omega)).mp c7
        refine lv_iload_n hx hb dX8_behindBlanks_36 rfl (lv_at hl 2 rfl) ?_
        exact h_iret X Y ⟨congrArg (fun z => some (Value.int (nI z))) (by omega), rfl⟩ (Nat.le_refl _) (Nat.le_refl _) dX8_behindBlanks_37
      · have c7 : ¬ n ≤ k := fun z9 => c7 ((nI_leI (a := n) (b := k) (by omega) (by omega)).mpr z9)
        rcases Nat.lt_or_ge k e0 with hlt | hge
        · have h32 := hbl k h3 hlt
          refine lv_aload_n hx hb dX8_behindBlanks_10 rfl (lv_at hl 0 rfl) ?_
          refine lv_iload_n hx hb dX8_behindBlanks_11 rfl (lv_at hl 2 rfl) ?_
          refine h_callVr (rest := []) X Y (c_byteAt l G M a r n f B hn ht1 ht2 hB k (by omega)) rfl rfl gw_X8_19 dsc_X8_byteAt ht1 rfl rfl rfl rfl hl.1 (Nat.le_of_ble_eq_true rfl) ⟨Nat.le_of_ble_eq_true rfl, Nat.le_of_ble_eq_true rfl⟩ ⟨Nat.le_of_ble_eq_true rfl, Nat.le_of_ble_eq_true rfl⟩ dX8_behindBlanks_12 (fun H locs Y => ?_)
          refine h_ev (y := nI 32) ((if_pos (by omega)).trans (congrArg nI h32)) ?_
          refine lv_bipush (v := 32) hx hb dX8_behindBlanks_15 (by decide) ?_
          refine lv_icmp_eq (tgt := 30) hx hb dX8_behindBlanks_17 (by decide) (fun c17 => ?_) (fun c17 => absurd (by decide) c17)
          refine lv_iinc (v := nI (k + 1)) (lv' := [(2, .int (nI (k + 1))), (0, .ref a), (1, .int (nI p0))]) hx hb dX8_behindBlanks_30 hl (k := 2) rfl (nI_1 k) (by decide) rfl (fun ls hl => ?_)
          refine lv_goto (tgt := 2) hx hb dX8_behindBlanks_33 (by decide) ?_
          exact ih (k + 1) (by omega) (by omega) (by omega) _ _ _ Y (lv_sub hl [1, 2, 0] rfl)
        · obtain rfl : k = e0 := by omega
          have hk0 := hnb.resolve_left (by omega)
          have hBk := (hB k (by omega)).2
          refine lv_aload_n hx hb dX8_behindBlanks_10 rfl (lv_at hl 0 rfl) ?_
          refine lv_iload_n hx hb dX8_behindBlanks_11 rfl (lv_at hl 2 rfl) ?_
          refine h_callVr (rest := []) X Y (c_byteAt l G M a r n f B hn ht1 ht2 hB k (by omega)) rfl rfl gw_X8_19 dsc_X8_byteAt ht1 rfl rfl rfl rfl hl.1 (Nat.le_of_ble_eq_true rfl) ⟨Nat.le_of_ble_eq_true rfl, Nat.le_of_ble_eq_true rfl⟩ ⟨Nat.le_of_ble_eq_true rfl, Nat.le_of_ble_eq_true rfl⟩ dX8_behindBlanks_12 (fun H locs Y => ?_)
          refine h_ev (y := nI (B k)) (if_pos (by omega)) ?_
          refine lv_bipush (v := 32) hx hb dX8_behindBlanks_15 (by decide) ?_
          refine lv_icmp_eq (tgt := 30) hx hb dX8_behindBlanks_17 (by decide) (fun c17 => absurd (show (B k) = 32 from (nI_eq (a := (B k)) (b := 32) (by omega) (by omega)).mp c17) (by omega)) (fun c17 => ?_)
          have c17 : ¬ (B k) = 32 := fun z9 => c17 ((nI_eq (a := (B k)) (b := 32) (by omega) (by omega)).mpr z9)
          refine lv_aload_n hx hb dX8_behindBlanks_20 rfl (lv_at hl 0 rfl) ?_
          refine lv_iload_n hx hb dX8_behindBlanks_21 rfl (lv_at hl 2 rfl) ?_
          refine h_callVr (rest := []) X Y (c_byteAt l G M a r n f B hn ht1 ht2 hB k (by omega)) rfl rfl gw_X8_19 dsc_X8_byteAt ht1 rfl rfl rfl rfl hl.1 (Nat.le_of_ble_eq_true rfl) ⟨Nat.le_of_ble_eq_true rfl, Nat.le_of_ble_eq_true rfl⟩ ⟨Nat.le_of_ble_eq_true rfl, Nat.le_of_ble_eq_true rfl⟩ dX8_behindBlanks_22 (fun H locs Y => ?_)
          refine h_ev (y := nI (B k)) (if_pos (by omega)) ?_
          refine lv_bipush (v := 10) hx hb dX8_behindBlanks_25 (by decide) ?_
          refine lv_icmp_ne (tgt := 36) hx hb dX8_behindBlanks_27 (by decide) (fun c27 => ?_) (fun c27 => absurd (show (B k) = 10 from (nI_eq (a := (B k)) (b := 10) (by omega) (by omega)).mp c27) (by omega))
          have c27 : ¬ (B k) = 10 := fun z9 => c27 ((nI_eq (a := (B k)) (b := 10) (by omega) (by omega)).mpr z9)
          refine lv_iload_n hx hb dX8_behindBlanks_36 rfl (lv_at hl 2 rfl) ?_
          exact h_iret X Y ⟨congrArg (fun z => some (Value.int (nI z))) (by omega), rfl⟩ (Nat.le_refl _) (Nat.le_refl _) dX8_behindBlanks_37
  exact loop (e0 + 1 - p0) p0 (by omega) (by omega) (Nat.le_refl _) _ _ _ Y (lv_sub hl [1, 2, 0] rfl)
theorem gw_X8_23 : GoodIn hGW (wsV RX8 23 RX8 yX8_isDigit (Cond.code yX8_isDigit cX8_isDigit 3 (Option.some FieldType.boolean) :: hGW)) := hgi4 kml_X8_23 kin_X8_isDigit kse_X8_X8_isDigit_X8_isDigit kini_X8 kco_X8_isDigit
theorem dsc_X8_isDigit : yX8_isDigit.cls = RX8 ∧ yX8_isDigit.cls ≠ "java/lang/invoke/MethodHandle" ∧ yX8_isDigit.cls ≠ "java/lang/invoke/VarHandle" ∧ (parseMethodDescriptor yX8_isDigit.desc).map (fun d => d.parameters.length) = some 1 := ⟨rfl, by decide +kernel, by decide +kernel, by decide +kernel⟩
theorem dX8_behindDigits_0 : decode cX8_behindDigits 0 = .ok (.iload_n 1, 1) := by decide +kernel
theorem dX8_behindDigits_1 : decode cX8_behindDigits 1 = .ok (.istore_n 2, 1) := by decide +kernel
theorem dX8_behindDigits_2 : decode cX8_behindDigits 2 = .ok (.iload_n 2, 1) := by decide +kernel
theorem dX8_behindDigits_3 : decode cX8_behindDigits 3 = .ok (.aload_n 0, 1) := by decide +kernel
theorem dX8_behindDigits_4 : decode cX8_behindDigits 4 = .ok (.getfield 15, 3) := by decide +kernel
theorem dX8_behindDigits_7 : decode cX8_behindDigits 7 = .ok (.if_icmp .ge 17, 3) := by decide +kernel
theorem dX8_behindDigits_10 : decode cX8_behindDigits 10 = .ok (.aload_n 0, 1) := by decide +kernel
theorem dX8_behindDigits_11 : decode cX8_behindDigits 11 = .ok (.iload_n 2, 1) := by decide +kernel
theorem dX8_behindDigits_12 : decode cX8_behindDigits 12 = .ok (.invokevirtual 23, 3) := by decide +kernel
theorem dX8_behindDigits_15 : decode cX8_behindDigits 15 = .ok (.ifCond .eq 9, 3) := by decide +kernel
theorem dX8_behindDigits_18 : decode cX8_behindDigits 18 = .ok (.iinc 2 1, 3) := by decide +kernel
theorem dX8_behindDigits_21 : decode cX8_behindDigits 21 = .ok (.goto (-19), 3) := by decide +kernel
theorem dX8_behindDigits_24 : decode cX8_behindDigits 24 = .ok (.iload_n 2, 1) := by decide +kernel
theorem dX8_behindDigits_25 : decode cX8_behindDigits 25 = .ok (.ireturn, 1) := by decide +kernel
set_option maxHeartbeats 400000 in
set_option maxRecDepth 100000 in
theorem c_behindDigits (l : Launch) (G : hG) (M : hM) (a r n : Nat) (f : Nat → Int32) (B : Nat → Nat) (hn : n ≤ 2000) (ht1 : M a = some (1, .inr (9, [.ref r, .int (nI n)]))) (ht2 : M r = some (2, .inl (hT G 1, 2000, .inl f))) (hB : tB f B n) (p0 e0 : Nat) (hpe : p0 ≤ e0) (hen : e0 ≤ n) (hdg : ∀ j, p0 ≤ j → j < e0 → tDig B n j = true) (hnd : e0 = n ∨ tDig B n e0 = false) : hCT l G yX8_behindDigits cX8_behindDigits 3 (Option.some FieldType.int) (hRm 3 0 0) M [.ref a, .int (nI p0)] (hRd M (.int (nI e0))) := by
  refine hCT.of (own := RX8) (nm := "behindDigits") (by decide) rfl rfl (Nat.le_of_ble_eq_true rfl) ?_
  intro p e s m args below meth c ls X Y hl
  have hx := X.1
  have hb := X.2.1
  have hl : lv_has ls 3 [(0, .ref a), (1, .int (nI p0))] := hl
  refine lv_iload_n hx hb dX8_behindDigits_0 rfl (lv_at hl 1 rfl) ?_
  refine lv_istore_n (lv' := [(2, .int (nI p0)), (0, .ref a), (1, .int (nI p0))]) hx hb dX8_behindDigits_1 rfl hl (by decide) rfl (fun ls hl => ?_)
  have loop : ∀ (d k : Nat), k + d = e0 + 1 → k ≤ e0 → p0 ≤ k → ∀ (H : Heap) (locs : List Loc) (ls : Array Slot), hHS G M s H locs → lv_has ls 3 [(0, .ref a), (1, .int (nI p0)), (2, .int (nI k))] → W p l e (hRm 3 0 0) s m args below meth c H locs 0 0 (MQ below (hQ G (hRd M (.int (nI e0)))) args s 0 0 (hA G)) (F0 m 2 ls []) := by
    intro d
    induction d with
    | zero => intro k h1; intros; exact absurd h1 (by omega)
    | succ d ih =>
      intro k h1 h2 h3 H locs ls Y hl
      refine lv_iload_n hx hb dX8_behindDigits_2 rfl (lv_at hl 2 rfl) ?_
      refine lv_aload_n hx hb dX8_behindDigits_3 rfl (lv_at hl 0 rfl) ?_
      refine h_get X Y (k := 1) (v := .int (nI n)) ht1 rfl hin_X8 (by decide) kfl_X8_15 rfl dX8_behindDigits_4 ?_
      refine lv_icmp_ge (tgt := 24) hx hb dX8_behindDigits_7 (by decide) (fun c7 => ?_) (fun c7 => ?_)
      · have c7 : n ≤ k := (nI_leI (a := n) (b := k) (by omega) (by omega)).mp c7
        refine lv_iload_n hx hb dX8_behindDigits_24 rfl (lv_at hl 2 rfl) ?_
        exact h_iret X Y ⟨congrArg (fun z => some (Value.int (nI z))) (by omega), rfl⟩ (Nat.le_refl _) (Nat.le_refl _) dX8_behindDigits_25
      · have c7 : ¬ n ≤ k := fun z9 => c7 ((nI_leI (a := n) (b := k) (by omega) (by omega)).mpr z9)
        rcases Nat.lt_or_ge k e0 with hlt | hge
        · refine lv_aload_n hx hb dX8_behindDigits_10 rfl (lv_at hl 0 rfl) ?_
          refine lv_iload_n hx hb dX8_behindDigits_11 rfl (lv_at hl 2 rfl) ?_
          refine h_callVr (rest := []) X Y (c_isDigit l G M a r n f B hn ht1 ht2 hB k (by omega)) rfl rfl gw_X8_23 dsc_X8_isDigit ht1 rfl rfl rfl rfl hl.1 (Nat.le_of_ble_eq_true rfl) ⟨Nat.le_of_ble_eq_true rfl, Nat.le_of_ble_eq_true rfl⟩ ⟨Nat.le_of_ble_eq_true rfl, Nat.le_of_ble_eq_true rfl⟩ dX8_behindDigits_12 (fun H locs Y => ?_)
          refine h_ev (y := 1) (congrArg bI (hdg k h3 hlt)) ?_
          refine lv_if_eq (tgt := 24) hx hb dX8_behindDigits_15 (by decide) (fun c15 => absurd c15 (by decide)) (fun c15 => ?_)
          refine lv_iinc (v := nI (k + 1)) (lv' := [(2, .int (nI (k + 1))), (0, .ref a), (1, .int (nI p0))]) hx hb dX8_behindDigits_18 hl (k := 2) rfl (nI_1 k) (by decide) rfl (fun ls hl => ?_)
          refine lv_goto (tgt := 2) hx hb dX8_behindDigits_21 (by decide) ?_
          exact ih (k + 1) (by omega) (by omega) (by omega) _ _ _ Y (lv_sub hl [1, 2, 0] rfl)
        · obtain rfl : k = e0 := by omega
          refine lv_aload_n hx hb dX8_behindDigits_10 rfl (lv_at hl 0 rfl) ?_
          refine lv_iload_n hx hb dX8_behindDigits_11 rfl (lv_at hl 2 rfl) ?_
          refine h_callVr (rest := []) X Y (c_isDigit l G M a r n f B hn ht1 ht2 hB k (by omega)) rfl rfl gw_X8_23 dsc_X8_isDigit ht1 rfl rfl rfl rfl hl.1 (Nat.le_of_ble_eq_true rfl) ⟨Nat.le_of_ble_eq_true rfl, Nat.le_of_ble_eq_true rfl⟩ ⟨Nat.le_of_ble_eq_true rfl, Nat.le_of_ble_eq_true rfl⟩ dX8_behindDigits_12 (fun H locs Y => ?_)
          refine h_ev (y := 0) (congrArg bI (hnd.resolve_left (by omega))) ?_
          refine lv_if_eq (tgt := 24) hx hb dX8_behindDigits_15 (by decide) (fun c15 => ?_) (fun c15 => absurd (by decide) c15)
          refine lv_iload_n hx hb dX8_behindDigits_24 rfl (lv_at hl 2 rfl) ?_
          exact h_iret X Y ⟨congrArg (fun z => some (Value.int (nI z))) (by omega), rfl⟩ (Nat.le_refl _) (Nat.le_refl _) dX8_behindDigits_25
  exact loop (e0 + 1 - p0) p0 (by omega) (by omega) (Nat.le_refl _) _ _ _ Y (lv_sub hl [1, 2, 0] rfl)
theorem gw_X8_27 : GoodIn hGW (wsV RX8 27 RX8 yX8_isLetter (Cond.code yX8_isLetter cX8_isLetter 3 (Option.some FieldType.boolean) :: hGW)) := hgi4 kml_X8_27 kin_X8_isLetter kse_X8_X8_isLetter_X8_isLetter kini_X8 kco_X8_isLetter
theorem dsc_X8_isLetter : yX8_isLetter.cls = RX8 ∧ yX8_isLetter.cls ≠ "java/lang/invoke/MethodHandle" ∧ yX8_isLetter.cls ≠ "java/lang/invoke/VarHandle" ∧ (parseMethodDescriptor yX8_isLetter.desc).map (fun d => d.parameters.length) = some 1 := ⟨rfl, by decide +kernel, by decide +kernel, by decide +kernel⟩
theorem dX8_behindWord_0 : decode cX8_behindWord 0 = .ok (.iload_n 1, 1) := by decide +kernel
theorem dX8_behindWord_1 : decode cX8_behindWord 1 = .ok (.istore_n 2, 1) := by decide +kernel
theorem dX8_behindWord_2 : decode cX8_behindWord 2 = .ok (.iload_n 2, 1) := by decide +kernel
theorem dX8_behindWord_3 : decode cX8_behindWord 3 = .ok (.aload_n 0, 1) := by decide +kernel
theorem dX8_behindWord_4 : decode cX8_behindWord 4 = .ok (.getfield 15, 3) := by decide +kernel
theorem dX8_behindWord_7 : decode cX8_behindWord 7 = .ok (.if_icmp .ge 25, 3) := by decide +kernel
theorem dX8_behindWord_10 : decode cX8_behindWord 10 = .ok (.aload_n 0, 1) := by decide +kernel
theorem dX8_behindWord_11 : decode cX8_behindWord 11 = .ok (.iload_n 2, 1) := by decide +kernel
theorem dX8_behindWord_12 : decode cX8_behindWord 12 = .ok (.invokevirtual 27, 3) := by decide +kernel
theorem dX8_behindWord_15 : decode cX8_behindWord 15 = .ok (.ifCond .ne 11, 3) := by decide +kernel
theorem dX8_behindWord_18 : decode cX8_behindWord 18 = .ok (.aload_n 0, 1) := by decide +kernel
theorem dX8_behindWord_19 : decode cX8_behindWord 19 = .ok (.iload_n 2, 1) := by decide +kernel
theorem dX8_behindWord_20 : decode cX8_behindWord 20 = .ok (.invokevirtual 23, 3) := by decide +kernel
theorem dX8_behindWord_23 : decode cX8_behindWord 23 = .ok (.ifCond .eq 9, 3) := by decide +kernel
theorem dX8_behindWord_26 : decode cX8_behindWord 26 = .ok (.iinc 2 1, 3) := by decide +kernel
theorem dX8_behindWord_29 : decode cX8_behindWord 29 = .ok (.goto (-27), 3) := by decide +kernel
theorem dX8_behindWord_32 : decode cX8_behindWord 32 = .ok (.iload_n 2, 1) := by decide +kernel
theorem dX8_behindWord_33 : decode cX8_behindWord 33 = .ok (.ireturn, 1) := by decide +kernel
set_option maxHeartbeats 400000 in
set_option maxRecDepth 100000 in
theorem c_behindWord (l : Launch) (G : hG) (M : hM) (a r n : Nat) (f : Nat → Int32) (B : Nat → Nat) (hn : n ≤ 2000) (ht1 : M a = some (1, .inr (9, [.ref r, .int (nI n)]))) (ht2 : M r = some (2, .inl (hT G 1, 2000, .inl f))) (hB : tB f B n) (p0 e0 : Nat) (hpe : p0 ≤ e0) (hen : e0 ≤ n) (hwd : ∀ j, p0 ≤ j → j < e0 → tLet B n j = true ∨ tDig B n j = true) (hnw : e0 = n ∨ (tLet B n e0 = false ∧ tDig B n e0 = false)) : hCT l G yX8_behindWord cX8_behindWord 3 (Option.some FieldType.int) (hRm 3 0 0) M [.ref a, .int (nI p0)] (hRd M (.int (nI e0))) := by
  refine hCT.of (own := RX8) (nm := "behindWord") (by decide) rfl rfl (Nat.le_of_ble_eq_true rfl) ?_
  intro p e s m args below meth c ls X Y hl
  have hx := X.1
  have hb := X.2.1
  have hl : lv_has ls 3 [(0, .ref a), (1, .int (nI p0))] := hl
  refine lv_iload_n hx hb dX8_behindWord_0 rfl (lv_at hl 1 rfl) ?_
  refine lv_istore_n (lv' := [(2, .int (nI p0)), (0, .ref a), (1, .int (nI p0))]) hx hb dX8_behindWord_1 rfl hl (by decide) rfl (fun ls hl => ?_)
  have loop : ∀ (d k : Nat), k + d = e0 + 1 → k ≤ e0 → p0 ≤ k → ∀ (H : Heap) (locs : List Loc) (ls : Array Slot), hHS G M s H locs → lv_has ls 3 [(0, .ref a), (1, .int (nI p0)), (2, .int (nI k))] → W p l e (hRm 3 0 0) s m args below meth c H locs 0 0 (MQ below (hQ G (hRd M (.int (nI e0)))) args s 0 0 (hA G)) (F0 m 2 ls []) := by
    intro d
    induction d with
    | zero => intro k h1; intros; exact absurd h1 (by omega)
    | succ d ih =>
      intro k h1 h2 h3 H locs ls Y hl
      refine lv_iload_n hx hb dX8_behindWord_2 rfl (lv_at hl 2 rfl) ?_
      refine lv_aload_n hx hb dX8_behindWord_3 rfl (lv_at hl 0 rfl) ?_
      refine h_get X Y (k := 1) (v := .int (nI n)) ht1 rfl hin_X8 (by decide) kfl_X8_15 rfl dX8_behindWord_4 ?_
      refine lv_icmp_ge (tgt := 32) hx hb dX8_behindWord_7 (by decide) (fun c7 => ?_) (fun c7 => ?_)
      · have c7 : n ≤ k := (nI_leI (a := n) (b := k) (by omega) (by omega)).mp c7
        refine lv_iload_n hx hb dX8_behindWord_32 rfl (lv_at hl 2 rfl) ?_
        exact h_iret X Y ⟨congrArg (fun z => some (Value.int (nI z))) (by omega), rfl⟩ (Nat.le_refl _) (Nat.le_refl _) dX8_behindWord_33
      · have c7 : ¬ n ≤ k := fun z9 => c7 ((nI_leI (a := n) (b := k) (by omega) (by omega)).mpr z9)
        rcases Nat.lt_or_ge k e0 with hlt | hge
        · refine lv_aload_n hx hb dX8_behindWord_10 rfl (lv_at hl 0 rfl) ?_
          refine lv_iload_n hx hb dX8_behindWord_11 rfl (lv_at hl 2 rfl) ?_
          refine h_callVr (rest := []) X Y (c_isLetter l G M a r n f B hn ht1 ht2 hB k (by omega)) rfl rfl gw_X8_27 dsc_X8_isLetter ht1 rfl rfl rfl rfl hl.1 (Nat.le_of_ble_eq_true rfl) ⟨Nat.le_of_ble_eq_true rfl, Nat.le_of_ble_eq_true rfl⟩ ⟨Nat.le_of_ble_eq_true rfl, Nat.le_of_ble_eq_true rfl⟩ dX8_behindWord_12 (fun H locs Y => ?_)
          rcases Bool.eq_false_or_eq_true (tLet B n k) with hl1 | hl1
          · refine h_ev (y := 1) (congrArg bI hl1) ?_
            refine lv_if_ne (tgt := 26) hx hb dX8_behindWord_15 (by decide) (fun c15 => ?_) (fun c15 => absurd c15 (by decide))
            refine lv_iinc (v := nI (k + 1)) (lv' := [(2, .int (nI (k + 1))), (0, .ref a), (1, .int (nI p0))]) hx hb dX8_behindWord_26 hl (k := 2) rfl (nI_1 k) (by decide) rfl (fun ls hl => ?_)
            refine lv_goto (tgt := 2) hx hb dX8_behindWord_29 (by decide) ?_
            exact ih (k + 1) (by omega) (by omega) (by omega) _ _ _ Y (lv_sub hl [1, 2, 0] rfl)
          · refine h_ev (y := 0) (congrArg bI hl1) ?_
            have hd1 := (hwd k h3 hlt).resolve_left (fun z => by rw [hl1] at z; cases z)
            refine lv_if_ne (tgt := 26) hx hb dX8_behindWord_15 (by decide) (fun c15 => absurd (by decide) c15) (fun c15 => ?_)
            refine lv_aload_n hx hb dX8_behindWord_18 rfl (lv_at hl 0 rfl) ?_
            refine lv_iload_n hx hb dX8_behindWord_19 rfl (lv_at hl 2 rfl) ?_
            refine h_callVr (rest := []) X Y (c_isDigit l G M a r n f B hn ht1 ht2 hB k (by omega)) rfl rfl gw_X8_23 dsc_X8_isDigit ht1 rfl rfl rfl rfl hl.1 (Nat.le_of_ble_eq_true rfl) ⟨Nat.le_of_ble_eq_true rfl, Nat.le_of_ble_eq_true rfl⟩ ⟨Nat.le_of_ble_eq_true rfl, Nat.le_of_ble_eq_true rfl⟩ dX8_behindWord_20 (fun H locs Y => ?_)
            refine h_ev (y := 1) (congrArg bI hd1) ?_
            refine lv_if_eq (tgt := 32) hx hb dX8_behindWord_23 (by decide) (fun c23 => absurd c23 (by decide)) (fun c23 => ?_)
            refine lv_iinc (v := nI (k + 1)) (lv' := [(2, .int (nI (k + 1))), (0, .ref a), (1, .int (nI p0))]) hx hb dX8_behindWord_26 hl (k := 2) rfl (nI_1 k) (by decide) rfl (fun ls hl => ?_)
            refine lv_goto (tgt := 2) hx hb dX8_behindWord_29 (by decide) ?_
            exact ih (k + 1) (by omega) (by omega) (by omega) _ _ _ Y (lv_sub hl [1, 2, 0] rfl)
        · obtain rfl : k = e0 := by omega
          refine lv_aload_n hx hb dX8_behindWord_10 rfl (lv_at hl 0 rfl) ?_
          refine lv_iload_n hx hb dX8_behindWord_11 rfl (lv_at hl 2 rfl) ?_
          refine h_callVr (rest := []) X Y (c_isLetter l G M a r n f B hn ht1 ht2 hB k (by omega)) rfl rfl gw_X8_27 dsc_X8_isLetter ht1 rfl rfl rfl rfl hl.1 (Nat.le_of_ble_eq_true rfl) ⟨Nat.le_of_ble_eq_true rfl, Nat.le_of_ble_eq_true rfl⟩ ⟨Nat.le_of_ble_eq_true rfl, Nat.le_of_ble_eq_true rfl⟩ dX8_behindWord_12 (fun H locs Y => ?_)
          refine h_ev (y := 0) (congrArg bI (hnw.resolve_left (by omega)).1) ?_
          refine lv_if_ne (tgt := 26) hx hb dX8_behindWord_15 (by decide) (fun c15 => absurd (by decide) c15) (fun c15 => ?_)
          refine lv_aload_n hx hb dX8_behindWord_18 rfl (lv_at hl 0 rfl) ?_
          refine lv_iload_n hx hb dX8_behindWord_19 rfl (lv_at hl 2 rfl) ?_
          refine h_callVr (rest := []) X Y (c_isDigit l G M a r n f B hn ht1 ht2 hB k (by omega)) rfl rfl gw_X8_23 dsc_X8_isDigit ht1 rfl rfl rfl rfl hl.1 (Nat.le_of_ble_eq_true rfl) ⟨Nat.le_of_ble_eq_true rfl, Nat.le_of_ble_eq_true rfl⟩ ⟨Nat.le_of_ble_eq_true rfl, Nat.le_of_ble_eq_true rfl⟩ dX8_behindWord_20 (fun H locs Y => ?_)
          refine h_ev (y := 0) (congrArg bI (hnw.resolve_left (by omega)).2) ?_
          refine lv_if_eq (tgt := 32) hx hb dX8_behindWord_23 (by decide) (fun c23 => ?_) (fun c23 => absurd (by decide) c23)
          refine lv_iload_n hx hb dX8_behindWord_32 rfl (lv_at hl 2 rfl) ?_
          exact h_iret X Y ⟨congrArg (fun z => some (Value.int (nI z))) (by omega), rfl⟩ (Nat.le_refl _) (Nat.le_refl _) dX8_behindWord_33
  exact loop (e0 + 1 - p0) p0 (by omega) (by omega) (Nat.le_refl _) _ _ _ Y (lv_sub hl [1, 2, 0] rfl)
theorem dX8_numberAt_0 : decode cX8_numberAt 0 = .ok (.iconst 0, 1) := by decide +kernel
theorem dX8_numberAt_1 : decode cX8_numberAt 1 = .ok (.istore_n 3, 1) := by decide +kernel
theorem dX8_numberAt_2 : decode cX8_numberAt 2 = .ok (.iload_n 1, 1) := by decide +kernel
theorem dX8_numberAt_3 : decode cX8_numberAt 3 = .ok (.istore 4, 2) := by decide +kernel
theorem dX8_numberAt_5 : decode cX8_numberAt 5 = .ok (.iload 4, 2) := by decide +kernel
theorem dX8_numberAt_7 : decode cX8_numberAt 7 = .ok (.iload_n 2, 1) := by decide +kernel
theorem dX8_numberAt_8 : decode cX8_numberAt 8 = .ok (.if_icmp .ge 24, 3) := by decide +kernel
theorem dX8_numberAt_11 : decode cX8_numberAt 11 = .ok (.iload_n 3, 1) := by decide +kernel
theorem dX8_numberAt_12 : decode cX8_numberAt 12 = .ok (.bipush 10, 2) := by decide +kernel
theorem dX8_numberAt_14 : decode cX8_numberAt 14 = .ok (.imul, 1) := by decide +kernel
theorem dX8_numberAt_15 : decode cX8_numberAt 15 = .ok (.aload_n 0, 1) := by decide +kernel
theorem dX8_numberAt_16 : decode cX8_numberAt 16 = .ok (.iload 4, 2) := by decide +kernel
theorem dX8_numberAt_18 : decode cX8_numberAt 18 = .ok (.invokevirtual 19, 3) := by decide +kernel
theorem dX8_numberAt_21 : decode cX8_numberAt 21 = .ok (.iadd, 1) := by decide +kernel
theorem dX8_numberAt_22 : decode cX8_numberAt 22 = .ok (.bipush 48, 2) := by decide +kernel
theorem dX8_numberAt_24 : decode cX8_numberAt 24 = .ok (.isub, 1) := by decide +kernel
theorem dX8_numberAt_25 : decode cX8_numberAt 25 = .ok (.istore_n 3, 1) := by decide +kernel
theorem dX8_numberAt_26 : decode cX8_numberAt 26 = .ok (.iinc 4 1, 3) := by decide +kernel
theorem dX8_numberAt_29 : decode cX8_numberAt 29 = .ok (.goto (-24), 3) := by decide +kernel
theorem dX8_numberAt_32 : decode cX8_numberAt 32 = .ok (.iload_n 3, 1) := by decide +kernel
theorem dX8_numberAt_33 : decode cX8_numberAt 33 = .ok (.ireturn, 1) := by decide +kernel
set_option maxHeartbeats 400000 in
set_option maxRecDepth 100000 in
theorem c_numberAt (l : Launch) (G : hG) (M : hM) (a r n : Nat) (f : Nat → Int32) (B : Nat → Nat) (hn : n ≤ 2000) (ht1 : M a = some (1, .inr (9, [.ref r, .int (nI n)]))) (ht2 : M r = some (2, .inl (hT G 1, 2000, .inl f))) (hB : tB f B n) (p0 k0 : Nat) (hpe : p0 + k0 ≤ n) : hCT l G yX8_numberAt cX8_numberAt 5 (Option.some FieldType.int) (hRm 2 0 0) M [.ref a, .int (nI p0), .int (nI (p0 + k0))] (hRd M (.int (tNum B p0 k0))) := by
  refine hCT.of (own := RX8) (nm := "numberAt") (by decide) rfl rfl (Nat.le_of_ble_eq_true rfl) ?_
  intro p e s m args below meth c ls X Y hl
  have hx := X.1
  have hb := X.2.1
  have hl : lv_has ls 5 [(0, .ref a), (1, .int (nI p0)), (2, .int (nI (p0 + k0)))] := hl
  refine lv_iconst (v := 0) hx hb dX8_numberAt_0 (by decide) ?_
  refine lv_istore_n (lv' := [(3, .int 0), (0, .ref a), (1, .int (nI p0)), (2, .int (nI (p0 + k0)))]) hx hb dX8_numberAt_1 rfl hl (by decide) rfl (fun ls hl => ?_)
  refine lv_iload_n hx hb dX8_numberAt_2 rfl (lv_at hl 2 rfl) ?_
  refine lv_istore (lv' := [(4, .int (nI p0)), (3, .int 0), (0, .ref a), (1, .int (nI p0)), (2, .int (nI (p0 + k0)))]) hx hb dX8_numberAt_3 hl (by decide) rfl (fun ls hl => ?_)
  have hl : lv_has ls 5 [(4, .int (nI (p0 + 0))), (3, .int 0), (0, .ref a), (1, .int (nI p0)), (2, .int (nI (p0 + k0)))] := hl
  have loop : ∀ (d k : Nat), k + d = k0 + 1 → k ≤ k0 → ∀ (H : Heap) (locs : List Loc) (ls : Array Slot), hHS G M s H locs → lv_has ls 5 [(0, .ref a), (1, .int (nI p0)), (2, .int (nI (p0 + k0))), (3, .int (tNum B p0 k)), (4, .int (nI (p0 + k)))] → W p l e (hRm 2 0 0) s m args below meth c H locs 0 0 (MQ below (hQ G (hRd M (.int (tNum B p0 k0)))) args s 0 0 (hA G)) (F0 m 5 ls []) := by
    intro d
    induction d with
    | zero => intro k h1 h2; exact absurd h1 (by omega)
    | succ d ih =>
      intro k h1 h2 H locs ls Y hl
      refine lv_iload hx hb dX8_numberAt_5 (lv_at hl 4 rfl) ?_
      refine lv_iload_n hx hb dX8_numberAt_7 rfl (lv_at hl 2 rfl) ?_
      refine lv_icmp_ge (tgt := 32) hx hb dX8_numberAt_8 (by decide) (fun c8 => ?_) (fun c8 => ?_)
      · have c8 : (p0 + k0) ≤ (p0 + k) := (nI_leI (a := (p0 + k0)) (b := (p0 + k)) (by omega) (by omega)).mp c8
        have hk9 : k0 = k := by omega
        subst hk9
        refine lv_iload_n hx hb dX8_numberAt_32 rfl (lv_at hl 3 rfl) ?_
        exact h_iret X Y ⟨rfl, rfl⟩ (Nat.le_refl _) (Nat.le_refl _) dX8_numberAt_33
      · have c8 : ¬ (p0 + k0) ≤ (p0 + k) := fun z9 => c8 ((nI_leI (a := (p0 + k0)) (b := (p0 + k)) (by omega) (by omega)).mpr z9)
        refine lv_iload_n hx hb dX8_numberAt_11 rfl (lv_at hl 3 rfl) ?_
        refine lv_bipush (v := 10) hx hb dX8_numberAt_12 (by decide) ?_
        refine lv_imul hx hb dX8_numberAt_14 ?_
        refine lv_aload_n hx hb dX8_numberAt_15 rfl (lv_at hl 0 rfl) ?_
        refine lv_iload hx hb dX8_numberAt_16 (lv_at hl 4 rfl) ?_
        refine h_callVr (rest := [.int ((tNum B p0 k) * 10)]) X Y (c_byteAt l G M a r n f B hn ht1 ht2 hB (p0 + k) (by omega)) rfl rfl gw_X8_19 dsc_X8_byteAt ht1 rfl rfl rfl rfl hl.1 (Nat.le_of_ble_eq_true rfl) ⟨Nat.le_of_ble_eq_true rfl, Nat.le_of_ble_eq_true rfl⟩ ⟨Nat.le_of_ble_eq_true rfl, Nat.le_of_ble_eq_true rfl⟩ dX8_numberAt_18 (fun H locs Y => ?_)
        refine h_ev (y := nI (B (p0 + k))) (if_pos (by omega)) ?_
        refine lv_iadd hx hb dX8_numberAt_21 ?_
        refine lv_bipush (v := 48) hx hb dX8_numberAt_22 (by decide) ?_
        refine lv_isub hx hb dX8_numberAt_24 ?_
        refine lv_istore_n (lv' := [(3, .int ((((tNum B p0 k) * 10) + (nI (B (p0 + k)))) - 48)), (0, .ref a), (1, .int (nI p0)), (2, .int (nI (p0 + k0))), (4, .int (nI (p0 + k)))]) hx hb dX8_numberAt_25 rfl hl (by decide) rfl (fun ls hl => ?_)
        refine lv_iinc (v := nI (p0 + (k + 1))) (lv' := [(4, .int (nI (p0 + (k + 1)))), (3, .int ((((tNum B p0 k) * 10) + (nI (B (p0 + k)))) - 48)), (0, .ref a), (1, .int (nI p0)), (2, .int (nI (p0 + k0)))]) hx hb dX8_numberAt_26 hl (k := 4) rfl (nI_1 (p0 + k)) (by decide) rfl (fun ls hl => ?_)
        refine lv_goto (tgt := 5) hx hb dX8_numberAt_29 (by decide) ?_
        exact ih (k + 1) (by omega) (by omega) _ _ _ Y (lv_sub hl [2, 3, 4, 1, 0] rfl)
  exact loop (k0 + 1) 0 (by omega) (by omega) _ _ _ Y (lv_sub hl [2, 3, 4, 1, 0] rfl)
theorem dX8_wordAt_0 : decode cX8_wordAt 0 = .ok (.lconst 0, 1) := by decide +kernel
theorem dX8_wordAt_1 : decode cX8_wordAt 1 = .ok (.lstore_n 3, 1) := by decide +kernel
theorem dX8_wordAt_2 : decode cX8_wordAt 2 = .ok (.iload_n 1, 1) := by decide +kernel
theorem dX8_wordAt_3 : decode cX8_wordAt 3 = .ok (.istore 5, 2) := by decide +kernel
theorem dX8_wordAt_5 : decode cX8_wordAt 5 = .ok (.iload 5, 2) := by decide +kernel
theorem dX8_wordAt_7 : decode cX8_wordAt 7 = .ok (.iload_n 2, 1) := by decide +kernel
theorem dX8_wordAt_8 : decode cX8_wordAt 8 = .ok (.if_icmp .ge 56, 3) := by decide +kernel
theorem dX8_wordAt_11 : decode cX8_wordAt 11 = .ok (.aload_n 0, 1) := by decide +kernel
theorem dX8_wordAt_12 : decode cX8_wordAt 12 = .ok (.iload 5, 2) := by decide +kernel
theorem dX8_wordAt_14 : decode cX8_wordAt 14 = .ok (.invokevirtual 27, 3) := by decide +kernel
theorem dX8_wordAt_17 : decode cX8_wordAt 17 = .ok (.ifCond .eq 17, 3) := by decide +kernel
theorem dX8_wordAt_20 : decode cX8_wordAt 20 = .ok (.aload_n 0, 1) := by decide +kernel
theorem dX8_wordAt_21 : decode cX8_wordAt 21 = .ok (.iload 5, 2) := by decide +kernel
theorem dX8_wordAt_23 : decode cX8_wordAt 23 = .ok (.invokevirtual 19, 3) := by decide +kernel
theorem dX8_wordAt_26 : decode cX8_wordAt 26 = .ok (.bipush 97, 2) := by decide +kernel
theorem dX8_wordAt_28 : decode cX8_wordAt 28 = .ok (.isub, 1) := by decide +kernel
theorem dX8_wordAt_29 : decode cX8_wordAt 29 = .ok (.iconst 1, 1) := by decide +kernel
theorem dX8_wordAt_30 : decode cX8_wordAt 30 = .ok (.iadd, 1) := by decide +kernel
theorem dX8_wordAt_31 : decode cX8_wordAt 31 = .ok (.goto 15, 3) := by decide +kernel
theorem dX8_wordAt_34 : decode cX8_wordAt 34 = .ok (.aload_n 0, 1) := by decide +kernel
theorem dX8_wordAt_35 : decode cX8_wordAt 35 = .ok (.iload 5, 2) := by decide +kernel
theorem dX8_wordAt_37 : decode cX8_wordAt 37 = .ok (.invokevirtual 19, 3) := by decide +kernel
theorem dX8_wordAt_40 : decode cX8_wordAt 40 = .ok (.bipush 48, 2) := by decide +kernel
theorem dX8_wordAt_42 : decode cX8_wordAt 42 = .ok (.isub, 1) := by decide +kernel
theorem dX8_wordAt_43 : decode cX8_wordAt 43 = .ok (.bipush 27, 2) := by decide +kernel
theorem dX8_wordAt_45 : decode cX8_wordAt 45 = .ok (.iadd, 1) := by decide +kernel
theorem dX8_wordAt_46 : decode cX8_wordAt 46 = .ok (.istore 6, 2) := by decide +kernel
theorem dX8_wordAt_48 : decode cX8_wordAt 48 = .ok (.lload_n 3, 1) := by decide +kernel
theorem dX8_wordAt_49 : decode cX8_wordAt 49 = .ok (.ldc2_w 39, 3) := by decide +kernel
theorem dX8_wordAt_52 : decode cX8_wordAt 52 = .ok (.lmul, 1) := by decide +kernel
theorem dX8_wordAt_53 : decode cX8_wordAt 53 = .ok (.iload 6, 2) := by decide +kernel
theorem dX8_wordAt_55 : decode cX8_wordAt 55 = .ok (.i2l, 1) := by decide +kernel
theorem dX8_wordAt_56 : decode cX8_wordAt 56 = .ok (.ladd, 1) := by decide +kernel
theorem dX8_wordAt_57 : decode cX8_wordAt 57 = .ok (.lstore_n 3, 1) := by decide +kernel
theorem dX8_wordAt_58 : decode cX8_wordAt 58 = .ok (.iinc 5 1, 3) := by decide +kernel
theorem dX8_wordAt_61 : decode cX8_wordAt 61 = .ok (.goto (-56), 3) := by decide +kernel
theorem dX8_wordAt_64 : decode cX8_wordAt 64 = .ok (.lload_n 3, 1) := by decide +kernel
theorem dX8_wordAt_65 : decode cX8_wordAt 65 = .ok (.lreturn, 1) := by decide +kernel
set_option maxHeartbeats 400000 in
set_option maxRecDepth 100000 in
theorem c_wordAt (l : Launch) (G : hG) (M : hM) (a r n : Nat) (f : Nat → Int32) (B : Nat → Nat) (hn : n ≤ 2000) (ht1 : M a = some (1, .inr (9, [.ref r, .int (nI n)]))) (ht2 : M r = some (2, .inl (hT G 1, 2000, .inl f))) (hB : tB f B n) (p0 k0 : Nat) (hpe : p0 + k0 ≤ n) : hCT l G yX8_wordAt cX8_wordAt 7 (Option.some FieldType.long) (hRm 3 0 0) M [.ref a, .int (nI p0), .int (nI (p0 + k0))] (hRd M (.long (tWd B n p0 k0))) := by
  refine hCT.of (own := RX8) (nm := "wordAt") (by decide) rfl rfl (Nat.le_of_ble_eq_true rfl) ?_
  intro p e s m args below meth c ls X Y hl
  have hx := X.1
  have hb := X.2.1
  have hl : lv_has ls 7 [(0, .ref a), (1, .int (nI p0)), (2, .int (nI (p0 + k0)))] := hl
  refine lv_lconst (v := 0) hx hb dX8_wordAt_0 (by decide) ?_
  refine lv_lstore_n (lv' := [(3, .long 0), (0, .ref a), (1, .int (nI p0)), (2, .int (nI (p0 + k0)))]) hx hb dX8_wordAt_1 rfl hl (by decide) rfl (fun ls hl => ?_)
  refine lv_iload_n hx hb dX8_wordAt_2 rfl (lv_at hl 2 rfl) ?_
  refine lv_istore (lv' := [(5, .int (nI p0)), (3, .long 0), (0, .ref a), (1, .int (nI p0)), (2, .int (nI (p0 + k0)))]) hx hb dX8_wordAt_3 hl (by decide) rfl (fun ls hl => ?_)
  have hl : lv_has ls 7 [(5, .int (nI (p0 + 0))), (3, .long 0), (0, .ref a), (1, .int (nI p0)), (2, .int (nI (p0 + k0)))] := hl
  have loop : ∀ (d k : Nat), k + d = k0 + 1 → k ≤ k0 → ∀ (H : Heap) (locs : List Loc) (ls : Array Slot), hHS G M s H locs → lv_has ls 7 [(0, .ref a), (1, .int (nI p0)), (2, .int (nI (p0 + k0))), (3, .long (tWd B n p0 k)), (5, .int (nI (p0 + k)))] → W p l e (hRm 3 0 0) s m args below meth c H locs 0 0 (MQ below (hQ G (hRd M (.long (tWd B n p0 k0)))) args s 0 0 (hA G)) (F0 m 5 ls []) := by
    intro d
    induction d with
    | zero => intro k h1 h2; exact absurd h1 (by omega)
    | succ d ih =>
      intro k h1 h2 H locs ls Y hl
      refine lv_iload hx hb dX8_wordAt_5 (lv_at hl 4 rfl) ?_
      refine lv_iload_n hx hb dX8_wordAt_7 rfl (lv_at hl 2 rfl) ?_
      refine lv_icmp_ge (tgt := 64) hx hb dX8_wordAt_8 (by decide) (fun c8 => ?_) (fun c8 => ?_)
      · have c8 : (p0 + k0) ≤ (p0 + k) := (nI_leI (a := (p0 + k0)) (b := (p0 + k)) (by omega) (by omega)).mp c8
        have hk9 : k0 = k := by omega
        subst hk9
        refine lv_lload_n hx hb dX8_wordAt_64 rfl (lv_at hl 3 rfl) ?_
        exact h_lret X Y ⟨rfl, rfl⟩ (Nat.le_refl _) (Nat.le_refl _) dX8_wordAt_65
      · have c8 : ¬ (p0 + k0) ≤ (p0 + k) := fun z9 => c8 ((nI_leI (a := (p0 + k0)) (b := (p0 + k)) (by omega) (by omega)).mpr z9)
        refine lv_aload_n hx hb dX8_wordAt_11 rfl (lv_at hl 0 rfl) ?_
        refine lv_iload hx hb dX8_wordAt_12 (lv_at hl 4 rfl) ?_
        refine h_callVr (rest := []) X Y (c_isLetter l G M a r n f B hn ht1 ht2 hB (p0 + k) (by omega)) rfl rfl gw_X8_27 dsc_X8_isLetter ht1 rfl rfl rfl rfl hl.1 (Nat.le_of_ble_eq_true rfl) ⟨Nat.le_of_ble_eq_true rfl, Nat.le_of_ble_eq_true rfl⟩ ⟨Nat.le_of_ble_eq_true rfl, Nat.le_of_ble_eq_true rfl⟩ dX8_wordAt_14 (fun H locs Y => ?_)
        rcases Bool.eq_false_or_eq_true (tLet B n (p0 + k)) with hl1 | hl1
        · refine h_ev (y := 1) (congrArg bI hl1) ?_
          refine lv_if_eq (tgt := 34) hx hb dX8_wordAt_17 (by decide) (fun c17 => absurd c17 (by decide)) (fun c17 => ?_)
          refine lv_aload_n hx hb dX8_wordAt_20 rfl (lv_at hl 0 rfl) ?_
          refine lv_iload hx hb dX8_wordAt_21 (lv_at hl 4 rfl) ?_
          refine h_callVr (rest := []) X Y (c_byteAt l G M a r n f B hn ht1 ht2 hB (p0 + k) (by omega)) rfl rfl gw_X8_19 dsc_X8_byteAt ht1 rfl rfl rfl rfl hl.1 (Nat.le_of_ble_eq_true rfl) ⟨Nat.le_of_ble_eq_true rfl, Nat.le_of_ble_eq_true rfl⟩ ⟨Nat.le_of_ble_eq_true rfl, Nat.le_of_ble_eq_true rfl⟩ dX8_wordAt_23 (fun H locs Y => ?_)
          refine h_ev (y := nI (B (p0 + k))) (if_pos (by omega)) ?_
          refine lv_bipush (v := 97) hx hb dX8_wordAt_26 (by decide) ?_
          refine lv_isub hx hb dX8_wordAt_28 ?_
          refine lv_iconst (v := 1) hx hb dX8_wordAt_29 (by decide) ?_
          refine lv_iadd hx hb dX8_wordAt_30 ?_
          refine lv_goto (tgt := 46) hx hb dX8_wordAt_31 (by decide) ?_
          refine h_ev (y := if tLet B n (p0 + k) = true then nI (B (p0 + k)) - 97 + 1 else nI (B (p0 + k)) - 48 + 27) (if_pos hl1).symm ?_
          refine lv_istore (lv' := [(6, .int (if tLet B n (p0 + k) = true then nI (B (p0 + k)) - 97 + 1 else nI (B (p0 + k)) - 48 + 27)), (0, .ref a), (1, .int (nI p0)), (2, .int (nI (p0 + k0))), (3, .long (tWd B n p0 k)), (5, .int (nI (p0 + k)))]) hx hb dX8_wordAt_46 hl (by decide) rfl (fun ls hl => ?_)
          refine lv_lload_n hx hb dX8_wordAt_48 rfl (lv_at hl 4 rfl) ?_
          refine lv_ldc2 hx hb X.2.2.2.2.1 (X.2.2.2.2.2.1 _ kcJ_X8_39) dX8_wordAt_49 ?_
          refine lv_lmul hx hb dX8_wordAt_52 ?_
          refine lv_iload hx hb dX8_wordAt_53 (lv_at hl 0 rfl) ?_
          refine lv_i2l (v := (if tLet B n (p0 + k) = true then nI (B (p0 + k)) - 97 + 1 else nI (B (p0 + k)) - 48 + 27).toInt64) hx hb dX8_wordAt_55 rfl ?_
          refine lv_ladd hx hb dX8_wordAt_56 ?_
          refine lv_lstore_n (lv' := [(3, .long (((tWd B n p0 k) * 37) + ((if tLet B n (p0 + k) = true then nI (B (p0 + k)) - 97 + 1 else nI (B (p0 + k)) - 48 + 27).toInt64))), (6, .int (if tLet B n (p0 + k) = true then nI (B (p0 + k)) - 97 + 1 else nI (B (p0 + k)) - 48 + 27)), (0, .ref a), (1, .int (nI p0)), (2, .int (nI (p0 + k0))), (5, .int (nI (p0 + k)))]) hx hb dX8_wordAt_57 rfl hl (by decide) rfl (fun ls hl => ?_)
          refine lv_iinc (v := nI (p0 + (k + 1))) (lv' := [(5, .int (nI (p0 + (k + 1)))), (3, .long (((tWd B n p0 k) * 37) + ((if tLet B n (p0 + k) = true then nI (B (p0 + k)) - 97 + 1 else nI (B (p0 + k)) - 48 + 27).toInt64))), (6, .int (if tLet B n (p0 + k) = true then nI (B (p0 + k)) - 97 + 1 else nI (B (p0 + k)) - 48 + 27)), (0, .ref a), (1, .int (nI p0)), (2, .int (nI (p0 + k0)))]) hx hb dX8_wordAt_58 hl (k := 5) rfl (nI_1 (p0 + k)) (by decide) rfl (fun ls hl => ?_)
          refine lv_goto (tgt := 5) hx hb dX8_wordAt_61 (by decide) ?_
          exact ih (k + 1) (by omega) (by omega) _ _ _ Y (lv_sub hl [3, 4, 5, 1, 0] rfl)
        · refine h_ev (y := 0) (congrArg bI hl1) ?_
          refine lv_if_eq (tgt := 34) hx hb dX8_wordAt_17 (by decide) (fun c17 => ?_) (fun c17 => absurd (by decide) c17)
          refine lv_aload_n hx hb dX8_wordAt_34 rfl (lv_at hl 0 rfl) ?_
          refine lv_iload hx hb dX8_wordAt_35 (lv_at hl 4 rfl) ?_
          refine h_callVr (rest := []) X Y (c_byteAt l G M a r n f B hn ht1 ht2 hB (p0 + k) (by omega)) rfl rfl gw_X8_19 dsc_X8_byteAt ht1 rfl rfl rfl rfl hl.1 (Nat.le_of_ble_eq_true rfl) ⟨Nat.le_of_ble_eq_true rfl, Nat.le_of_ble_eq_true rfl⟩ ⟨Nat.le_of_ble_eq_true rfl, Nat.le_of_ble_eq_true rfl⟩ dX8_wordAt_37 (fun H locs Y => ?_)
          refine h_ev (y := nI (B (p0 + k))) (if_pos (by omega)) ?_
          refine lv_bipush (v := 48) hx hb dX8_wordAt_40 (by decide) ?_
          refine lv_isub hx hb dX8_wordAt_42 ?_
          refine lv_bipush (v := 27) hx hb dX8_wordAt_43 (by decide) ?_
          refine lv_iadd hx hb dX8_wordAt_45 ?_
          refine h_ev (y := if tLet B n (p0 + k) = true then nI (B (p0 + k)) - 97 + 1 else nI (B (p0 + k)) - 48 + 27) (if_neg (by rw [hl1]; decide)).symm ?_
          refine lv_istore (lv' := [(6, .int (if tLet B n (p0 + k) = true then nI (B (p0 + k)) - 97 + 1 else nI (B (p0 + k)) - 48 + 27)), (0, .ref a), (1, .int (nI p0)), (2, .int (nI (p0 + k0))), (3, .long (tWd B n p0 k)), (5, .int (nI (p0 + k)))]) hx hb dX8_wordAt_46 hl (by decide) rfl (fun ls hl => ?_)
          refine lv_lload_n hx hb dX8_wordAt_48 rfl (lv_at hl 4 rfl) ?_
          refine lv_ldc2 hx hb X.2.2.2.2.1 (X.2.2.2.2.2.1 _ kcJ_X8_39) dX8_wordAt_49 ?_
          refine lv_lmul hx hb dX8_wordAt_52 ?_
          refine lv_iload hx hb dX8_wordAt_53 (lv_at hl 0 rfl) ?_
          refine lv_i2l (v := (if tLet B n (p0 + k) = true then nI (B (p0 + k)) - 97 + 1 else nI (B (p0 + k)) - 48 + 27).toInt64) hx hb dX8_wordAt_55 rfl ?_
          refine lv_ladd hx hb dX8_wordAt_56 ?_
          refine lv_lstore_n (lv' := [(3, .long (((tWd B n p0 k) * 37) + ((if tLet B n (p0 + k) = true then nI (B (p0 + k)) - 97 + 1 else nI (B (p0 + k)) - 48 + 27).toInt64))), (6, .int (if tLet B n (p0 + k) = true then nI (B (p0 + k)) - 97 + 1 else nI (B (p0 + k)) - 48 + 27)), (0, .ref a), (1, .int (nI p0)), (2, .int (nI (p0 + k0))), (5, .int (nI (p0 + k)))]) hx hb dX8_wordAt_57 rfl hl (by decide) rfl (fun ls hl => ?_)
          refine lv_iinc (v := nI (p0 + (k + 1))) (lv' := [(5, .int (nI (p0 + (k + 1)))), (3, .long (((tWd B n p0 k) * 37) + ((if tLet B n (p0 + k) = true then nI (B (p0 + k)) - 97 + 1 else nI (B (p0 + k)) - 48 + 27).toInt64))), (6, .int (if tLet B n (p0 + k) = true then nI (B (p0 + k)) - 97 + 1 else nI (B (p0 + k)) - 48 + 27)), (0, .ref a), (1, .int (nI p0)), (2, .int (nI (p0 + k0)))]) hx hb dX8_wordAt_58 hl (k := 5) rfl (nI_1 (p0 + k)) (by decide) rfl (fun ls hl => ?_)
          refine lv_goto (tgt := 5) hx hb dX8_wordAt_61 (by decide) ?_
          exact ih (k + 1) (by omega) (by omega) _ _ _ Y (lv_sub hl [3, 4, 5, 1, 0] rfl)
  exact loop (k0 + 1) 0 (by omega) (by omega) _ _ _ Y (lv_sub hl [2, 3, 4, 1, 0] rfl)
