-- THE HOUSE'S LAYERS AND CLAIMS, AND WHAT A CESSION HOLDS; an address by its tag: sA S t
abbrev hCl : Type := (Nat → Nat) × Nat × (Nat → Int32) × (Nat → Nat → Int32)
abbrev clA (C : hCl) : Nat → Nat := C.1
abbrev clY (C : hCl) : Nat := C.2.1
/-- 0 line, 1 paid, 2 reserve, 3 whether it is open -/
abbrev clI (C : hCl) : Nat → Int32 := C.2.2.1
abbrev clN (C : hCl) : Nat → Nat → Int32 := C.2.2.2
def ClV (G : hG) (M : hM) (a t : Nat) (C : hCl) : Prop := M a = some (t, .inr (5, [.int (nI (clY C)), .int (clI C 0), .int (clI C 1), .int (clI C 2), .int (clI C 3), .ref (clA C 0), .ref (clA C 1)])) ∧ M (clA C 0) = some (t + 1, .inl (hT G 0, 10, .inl (clN C 0))) ∧ M (clA C 1) = some (t + 2, .inl (hT G 0, 10, .inl (clN C 1)))
/-- what is known of a claim at an age -/
def clKnown (C : hCl) (age now : Nat) (p : Bool) : Int32 := if now - clY C ≤ age then (if p then clI C 1 else clI C 1 + clI C 2) else (if p then clN C 0 age else clN C 1 age)
abbrev hSy : Type := Nat × (Nat → hLy) × (Nat → Nat → hFo) × Nat × (Nat → hCl) × (Nat → Nat)
abbrev sN (S : hSy) : Nat := S.1
abbrev sL (S : hSy) : Nat → hLy := S.2.1
abbrev sF (S : hSy) : Nat → Nat → hFo := S.2.2.1
abbrev sM (S : hSy) : Nat := S.2.2.2.1
abbrev sC (S : hSy) : Nat → hCl := S.2.2.2.2.1
abbrev sA (S : hSy) : Nat → Nat := S.2.2.2.2.2
/-- a formula's value, where it hangs on nothing else -/
def fv (F : hFo) (line amount : Int32) : Int32 := fSt F line amount (fun _ => 0) (foN F) 0
def FoG (F : hFo) : Prop := FoW F ∧ ∀ line amount, FoE F line amount (fv F line amount)
/-- a layer with its formulas of the limit (0), the retention (1), the test (4) -/
def LaV (G : hG) (M : hM) (a t : Nat) (L : hLy) (F : Nat → hFo) : Prop := LyV G M a t L ∧ FoV G M (lyA L 0) (t + 10) (F 0) ∧ FoV G M (lyA L 1) (t + 20) (F 1) ∧ (∀ q, lyR L 2 = some q → FoV G M q (t + 50) (F 4))
def LaG (L : hLy) (F : Nat → hFo) : Prop := FoG (F 0) ∧ FoG (F 1) ∧ FoG (F 4) ∧ ∃ n, n ≤ 4 ∧ lyI L 2 = nI n
def SyV (G : hG) (M : hM) (S : hSy) : Prop := LsO M (sA S 13) 13 (sA S 14) (sN S) ∧ (0 < sN S → LsE G M (sA S 14) 14 (sN S) (fun k => sA S (2000 + 100 * k))) ∧ LsO M (sA S 15) 15 (sA S 16) (sM S) ∧ (0 < sM S → LsE G M (sA S 16) 16 (sM S) (fun i => sA S (1000 + 10 * i)))
  ∧ (∀ k, k < sN S → LaV G M (sA S (2000 + 100 * k)) (2000 + 100 * k) (sL S k) (sF S k)) ∧ (∀ i, i < sM S → ClV G M (sA S (1000 + 10 * i)) (1000 + 10 * i) (sC S i))
/-- what always holds of them -/
def SyG (S : hSy) : Prop := sN S ≤ 8 ∧ sM S ≤ 40 ∧ (∀ k, k < sN S → LaG (sL S k) (sF S k)) ∧ ∀ i, i < sM S → clY (sC S i) < 10
def CesV (G : hG) (M : hM) (S : hSy) (cx : Nat) (am : Nat → Int32) (be yl : Nat → Nat → Int32) (lo : Nat → Int32) : Prop :=
  M (sA S (100 * (cx + 1))) = some (100 * (cx + 1), .inr (3, [.ref (sA S (100 * (cx + 1) + 1)), .ref (sA S (100 * (cx + 1) + 2)), .ref (sA S (100 * (cx + 1) + 3)), .ref (sA S (100 * (cx + 1) + 4)), .ref (sA S 13), .ref (sA S 15)]))
  ∧ M (sA S (100 * (cx + 1) + 1)) = some (100 * (cx + 1) + 1, .inl (hT G 0, 40, .inl am))
  ∧ (∃ f : Nat → Option Nat, (∀ i, i < 40 → f i = some (sA S (100 * (cx + 1) + 10 + i))) ∧ M (sA S (100 * (cx + 1) + 2)) = some (100 * (cx + 1) + 2, .inl (hT G 5, 40, .inr (.inr (.inr (.inr f))))))
  ∧ (∀ i, i < 40 → M (sA S (100 * (cx + 1) + 10 + i)) = some (100 * (cx + 1) + 10 + i, .inl (hT G 0, 8, .inl (be i))))
  ∧ (∃ f : Nat → Option Nat, (∀ k, k < 8 → f k = some (sA S (100 * (cx + 1) + 60 + k))) ∧ M (sA S (100 * (cx + 1) + 3)) = some (100 * (cx + 1) + 3, .inl (hT G 5, 8, .inr (.inr (.inr (.inr f))))))
  ∧ (∀ k, k < 8 → M (sA S (100 * (cx + 1) + 60 + k)) = some (100 * (cx + 1) + 60 + k, .inl (hT G 0, 10, .inl (yl k))))
  ∧ M (sA S (100 * (cx + 1) + 4)) = some (100 * (cx + 1) + 4, .inl (hT G 0, 8, .inl lo))
-- what is read off a cession
def rSum (f : Nat → Int32) : Nat → Int32
  | 0 => 0
  | n + 1 => rSum f n + f n
def rGiven (S : hSy) (be : Nat → Nat → Int32) (i k : Nat) : Int32 := lyShare (sL S k) (be i k)
def rAll (S : hSy) (be : Nat → Nat → Int32) (i : Nat) : Int32 := rSum (rGiven S be i) (sN S)
def rLeft (S : hSy) (am : Nat → Int32) (be : Nat → Nat → Int32) (i : Nat) : Int32 := sMax (am i - rAll S be i) 0
def rLefts (S : hSy) (am : Nat → Int32) (be : Nat → Nat → Int32) : Int32 := rSum (rLeft S am be) (sM S)
def rBorne (S : hSy) (yl : Nat → Nat → Int32) (k y : Nat) : Int32 := lyBorne (sL S k) y (yl k y)
def rNum (x : Int32) : Nat := x.toNatClampNeg
def rCharge (S : hSy) (yl : Nat → Nat → Int32) (k y : Nat) : Int32 := lyCharge (sL S k) y (rBorne S yl k y) (rNum (lyI (sL S k) 2))
def rIn (z : Int32) (f : Nat → Int32) : Nat → Int32
  | 0 => z
  | y + 1 => rIn z f y + f y
def rAcc (f : Nat → Nat → Int32) (n : Nat) : Nat → Int32
  | 0 => 0
  | k + 1 => rIn (rAcc f n k) (f k) n
def rCharges (S : hSy) (yl : Nat → Nat → Int32) : Int32 := rAcc (rCharge S yl) 10 (sN S)
def rCount (S : hSy) (be : Nat → Nat → Int32) (k y : Nat) : Nat → Nat
  | 0 => 0
  | i + 1 => if clY (sC S i) = y ∧ 0 < be i k then rCount S be k y i + 1 else rCount S be k y i
theorem rCount_le (S : hSy) (be : Nat → Nat → Int32) (k y : Nat) : ∀ i, rCount S be k y i ≤ i
  | 0 => Nat.le_refl 0
  | i + 1 => by
    have := rCount_le S be k y i
    unfold rCount
    by_cases h : clY (sC S i) = y ∧ 0 < be i k
    · rw [if_pos h]; omega
    · rw [if_neg h]; omega

theorem dX3_known_0 : decode cX3_known 0 = .ok (.iload_n 1, 1) := by decide +kernel
theorem dX3_known_1 : decode cX3_known 1 = .ok (.ifCond .lt 19, 3) := by decide +kernel
theorem dX3_known_4 : decode cX3_known 4 = .ok (.iload_n 1, 1) := by decide +kernel
theorem dX3_known_5 : decode cX3_known 5 = .ok (.iload_n 2, 1) := by decide +kernel
theorem dX3_known_6 : decode cX3_known 6 = .ok (.aload_n 0, 1) := by decide +kernel
theorem dX3_known_7 : decode cX3_known 7 = .ok (.getfield 26, 3) := by decide +kernel
theorem dX3_known_10 : decode cX3_known 10 = .ok (.isub, 1) := by decide +kernel
theorem dX3_known_11 : decode cX3_known 11 = .ok (.if_icmp .ge 9, 3) := by decide +kernel
theorem dX3_known_14 : decode cX3_known 14 = .ok (.iload_n 1, 1) := by decide +kernel
theorem dX3_known_15 : decode cX3_known 15 = .ok (.bipush 10, 2) := by decide +kernel
theorem dX3_known_17 : decode cX3_known 17 = .ok (.if_icmp .lt 24, 3) := by decide +kernel
theorem dX3_known_20 : decode cX3_known 20 = .ok (.iload_n 3, 1) := by decide +kernel
theorem dX3_known_21 : decode cX3_known 21 = .ok (.ifCond .eq 10, 3) := by decide +kernel
theorem dX3_known_24 : decode cX3_known 24 = .ok (.aload_n 0, 1) := by decide +kernel
theorem dX3_known_25 : decode cX3_known 25 = .ok (.getfield 9, 3) := by decide +kernel
theorem dX3_known_28 : decode cX3_known 28 = .ok (.goto 12, 3) := by decide +kernel
theorem dX3_known_31 : decode cX3_known 31 = .ok (.aload_n 0, 1) := by decide +kernel
theorem dX3_known_32 : decode cX3_known 32 = .ok (.getfield 9, 3) := by decide +kernel
theorem dX3_known_35 : decode cX3_known 35 = .ok (.aload_n 0, 1) := by decide +kernel
theorem dX3_known_36 : decode cX3_known 36 = .ok (.getfield 32, 3) := by decide +kernel
theorem dX3_known_39 : decode cX3_known 39 = .ok (.iadd, 1) := by decide +kernel
theorem dX3_known_40 : decode cX3_known 40 = .ok (.ireturn, 1) := by decide +kernel
theorem dX3_known_41 : decode cX3_known 41 = .ok (.iload_n 3, 1) := by decide +kernel
theorem dX3_known_42 : decode cX3_known 42 = .ok (.ifCond .eq 12, 3) := by decide +kernel
theorem dX3_known_45 : decode cX3_known 45 = .ok (.aload_n 0, 1) := by decide +kernel
theorem dX3_known_46 : decode cX3_known 46 = .ok (.getfield 19, 3) := by decide +kernel
theorem dX3_known_49 : decode cX3_known 49 = .ok (.iload_n 1, 1) := by decide +kernel
theorem dX3_known_50 : decode cX3_known 50 = .ok (.iaload, 1) := by decide +kernel
theorem dX3_known_51 : decode cX3_known 51 = .ok (.goto 9, 3) := by decide +kernel
theorem dX3_known_54 : decode cX3_known 54 = .ok (.aload_n 0, 1) := by decide +kernel
theorem dX3_known_55 : decode cX3_known 55 = .ok (.getfield 23, 3) := by decide +kernel
theorem dX3_known_58 : decode cX3_known 58 = .ok (.iload_n 1, 1) := by decide +kernel
theorem dX3_known_59 : decode cX3_known 59 = .ok (.iaload, 1) := by decide +kernel
theorem dX3_known_60 : decode cX3_known 60 = .ok (.ireturn, 1) := by decide +kernel
set_option maxHeartbeats 400000 in
set_option maxRecDepth 100000 in
theorem c_known (l : Launch) (G : hG) (M : hM) (a t : Nat) (C : hCl) (hC : ClV G M a t C) (age now : Nat) (pd : Bool) (ha : age < 10) (hn : now < 10) (hy : clY C ≤ now) : hCT l G yX3_known cX3_known 4 (Option.some FieldType.int) (hRm 1 0 0) M [.ref a, .int (nI age), .int (nI now), .int (bI pd)] (hRd M (.int (clKnown C age now pd))) := by
  refine hCT.of (own := RX3) (nm := "known") (by decide) rfl rfl (Nat.le_of_ble_eq_true rfl) ?_
  intro p e s m args below meth c ls X Y hl
  have hx := X.1
  have hb := X.2.1
  have hl : lv_has ls 4 [(0, .ref a), (1, .int (nI age)), (2, .int (nI now)), (3, .int (bI pd))] := hl
  refine lv_iload_n hx hb dX3_known_0 rfl (lv_at hl 1 rfl) ?_
  refine lv_if_lt (tgt := 20) hx hb dX3_known_1 (by decide) (fun c1 => absurd (show age < 0 from (nI_ltI (a := age) (b := 0) (by omega) (by omega)).mp c1) (by omega)) (fun c1 => ?_)
  have c1 : ¬ age < 0 := fun z9 => c1 ((nI_ltI (a := age) (b := 0) (by omega) (by omega)).mpr z9)
  refine lv_iload_n hx hb dX3_known_4 rfl (lv_at hl 1 rfl) ?_
  refine lv_iload_n hx hb dX3_known_5 rfl (lv_at hl 2 rfl) ?_
  refine lv_aload_n hx hb dX3_known_6 rfl (lv_at hl 0 rfl) ?_
  refine h_get X Y (k := 0) (v := .int (nI (clY C))) hC.1 rfl hin_X3 (by decide) kfl_X3_26 rfl dX3_known_7 ?_
  refine lv_isub hx hb dX3_known_10 ?_
  refine h_ev (y := nI (now - clY C)) (pk_sub hy) ?_
  refine lv_icmp_ge (tgt := 20) hx hb dX3_known_11 (by decide) (fun c11 => ?_) (fun c11 => ?_)
  · have c11 : (now - clY C) ≤ age := (nI_leI (a := (now - clY C)) (b := age) (by omega) (by omega)).mp c11
    refine lv_iload_n hx hb dX3_known_20 rfl (lv_at hl 3 rfl) ?_
    cases pd with
    | false =>
      refine lv_if_eq (tgt := 31) hx hb dX3_known_21 (by decide) (fun _ => ?_) (fun z9 => absurd rfl z9)
      refine lv_aload_n hx hb dX3_known_31 rfl (lv_at hl 0 rfl) ?_
      refine h_get X Y (k := 2) (v := .int (clI C 1)) hC.1 rfl hin_X3 (by decide) kfl_X3_9 rfl dX3_known_32 ?_
      refine lv_aload_n hx hb dX3_known_35 rfl (lv_at hl 0 rfl) ?_
      refine h_get X Y (k := 3) (v := .int (clI C 2)) hC.1 rfl hin_X3 (by decide) kfl_X3_32 rfl dX3_known_36 ?_
      refine lv_iadd hx hb dX3_known_39 ?_
      exact h_iret X Y ⟨congrArg (fun z => some (Value.int z)) (if_pos c11).symm, rfl⟩ (Nat.le_refl _) (Nat.le_refl _) dX3_known_40
    | true =>
      refine lv_if_eq (tgt := 31) hx hb dX3_known_21 (by decide) (fun z9 => absurd z9 (by decide)) (fun _ => ?_)
      refine lv_aload_n hx hb dX3_known_24 rfl (lv_at hl 0 rfl) ?_
      refine h_get X Y (k := 2) (v := .int (clI C 1)) hC.1 rfl hin_X3 (by decide) kfl_X3_9 rfl dX3_known_25 ?_
      refine lv_goto (tgt := 40) hx hb dX3_known_28 (by decide) ?_
      exact h_iret X Y ⟨congrArg (fun z => some (Value.int z)) (if_pos c11).symm, rfl⟩ (Nat.le_refl _) (Nat.le_refl _) dX3_known_40
  · have c11 : ¬ (now - clY C) ≤ age := fun z9 => c11 ((nI_leI (a := (now - clY C)) (b := age) (by omega) (by omega)).mpr z9)
    refine lv_iload_n hx hb dX3_known_14 rfl (lv_at hl 1 rfl) ?_
    refine lv_bipush (v := 10) hx hb dX3_known_15 (by decide) ?_
    refine lv_icmp_lt (tgt := 41) hx hb dX3_known_17 (by decide) (fun c17 => ?_) (fun c17 => absurd (show ¬ age < 10 from fun z9 => c17 ((nI_ltI (a := age) (b := 10) (by omega) (by omega)).mpr z9)) (by omega))
    have c17 : age < 10 := (nI_ltI (a := age) (b := 10) (by omega) (by omega)).mp c17
    refine lv_iload_n hx hb dX3_known_41 rfl (lv_at hl 3 rfl) ?_
    cases pd with
    | false =>
      refine lv_if_eq (tgt := 54) hx hb dX3_known_42 (by decide) (fun _ => ?_) (fun z9 => absurd rfl z9)
      refine lv_aload_n hx hb dX3_known_54 rfl (lv_at hl 0 rfl) ?_
      refine h_get X Y (k := 6) (v := .ref (clA C 1)) hC.1 rfl hin_X3 (by decide) kfl_X3_23 rfl dX3_known_55 ?_
      refine lv_iload_n hx hb dX3_known_58 rfl (lv_at hl 1 rfl) ?_
      refine h_iald X Y (i := age) hC.2.2 (by omega) (by decide) dX3_known_59 ?_
      exact h_iret X Y ⟨congrArg (fun z => some (Value.int z)) (if_neg (by omega)).symm, rfl⟩ (Nat.le_refl _) (Nat.le_refl _) dX3_known_60
    | true =>
      refine lv_if_eq (tgt := 54) hx hb dX3_known_42 (by decide) (fun z9 => absurd z9 (by decide)) (fun _ => ?_)
      refine lv_aload_n hx hb dX3_known_45 rfl (lv_at hl 0 rfl) ?_
      refine h_get X Y (k := 5) (v := .ref (clA C 0)) hC.1 rfl hin_X3 (by decide) kfl_X3_19 rfl dX3_known_46 ?_
      refine lv_iload_n hx hb dX3_known_49 rfl (lv_at hl 1 rfl) ?_
      refine h_iald X Y (i := age) hC.2.1 (by omega) (by decide) dX3_known_50 ?_
      refine lv_goto (tgt := 60) hx hb dX3_known_51 (by decide) ?_
      exact h_iret X Y ⟨congrArg (fun z => some (Value.int z)) (if_neg (by omega)).symm, rfl⟩ (Nat.le_refl _) (Nat.le_refl _) dX3_known_60
theorem gw_X1_43 : GoodIn hGW (va_wsF RX1 43 RJx4a65c ⟨"java/util/List", "get", "(I)Ljava/lang/Object;"⟩ yJx4a65c_get_915e3 (Cond.code yJx4a65c_get_915e3 cJx4a65c_get_915e3 2 (Option.some (FieldType.object "java/lang/Object")) :: hGW)) := hgi4 kml_X1_43 kse_Jx4a65c_Zjava_util_List_get__I_Ljava_lang_Object__Jx4a65c_get_915e3 kin_Jx4a65c_get_915e3 kini_Jx4a65c kco_Jx4a65c_get_915e3
theorem dsi_Jx4a65c_get_915e3 : (⟨"java/util/List", "get", "(I)Ljava/lang/Object;"⟩ : MethodName).cls ≠ "java/lang/invoke/MethodHandle" ∧ (⟨"java/util/List", "get", "(I)Ljava/lang/Object;"⟩ : MethodName).cls ≠ "java/lang/invoke/VarHandle" ∧ (parseMethodDescriptor (⟨"java/util/List", "get", "(I)Ljava/lang/Object;"⟩ : MethodName).desc).map (fun d => d.parameters.length) = some 1 := ⟨by decide +kernel, by decide +kernel, by decide +kernel⟩
theorem gw_X1_79 : GoodIn hGW (wsV RX1 79 RX5 yX5_shareOf (Cond.code yX5_shareOf cX5_shareOf 2 (Option.some FieldType.int) :: hGW)) := hgi4 kml_X1_79 kin_X5_shareOf kse_X5_X5_shareOf_X5_shareOf kini_X5 kco_X5_shareOf
theorem dsc_X5_shareOf : yX5_shareOf.cls = RX5 ∧ yX5_shareOf.cls ≠ "java/lang/invoke/MethodHandle" ∧ yX5_shareOf.cls ≠ "java/lang/invoke/VarHandle" ∧ (parseMethodDescriptor yX5_shareOf.desc).map (fun d => d.parameters.length) = some 1 := ⟨rfl, by decide +kernel, by decide +kernel, by decide +kernel⟩
theorem dX1_given_0 : decode cX1_given 0 = .ok (.aload_n 0, 1) := by decide +kernel
theorem dX1_given_1 : decode cX1_given 1 = .ok (.getfield 26, 3) := by decide +kernel
theorem dX1_given_4 : decode cX1_given 4 = .ok (.iload_n 1, 1) := by decide +kernel
theorem dX1_given_5 : decode cX1_given 5 = .ok (.invokeinterface 43 2, 5) := by decide +kernel
theorem dX1_given_10 : decode cX1_given 10 = .ok (.checkcast 53, 3) := by decide +kernel
theorem dX1_given_13 : decode cX1_given 13 = .ok (.aload_n 0, 1) := by decide +kernel
theorem dX1_given_14 : decode cX1_given 14 = .ok (.getfield 17, 3) := by decide +kernel
theorem dX1_given_17 : decode cX1_given 17 = .ok (.iload_n 2, 1) := by decide +kernel
theorem dX1_given_18 : decode cX1_given 18 = .ok (.aaload, 1) := by decide +kernel
theorem dX1_given_19 : decode cX1_given 19 = .ok (.iload_n 1, 1) := by decide +kernel
theorem dX1_given_20 : decode cX1_given 20 = .ok (.iaload, 1) := by decide +kernel
theorem dX1_given_21 : decode cX1_given 21 = .ok (.invokevirtual 79, 3) := by decide +kernel
theorem dX1_given_24 : decode cX1_given 24 = .ok (.ireturn, 1) := by decide +kernel
set_option maxHeartbeats 400000 in
set_option maxRecDepth 100000 in
theorem c_given (l : Launch) (G : hG) (M : hM) (S : hSy) (hS : SyV G M S) (hG1 : SyG S) (cx : Nat) (am : Nat → Int32) (be yl : Nat → Nat → Int32) (lo : Nat → Int32) (hV : CesV G M S cx am be yl lo) (k i : Nat) (hk : k < sN S) (hi : i < 40) : hCT l G yX1_given cX1_given 3 (Option.some FieldType.int) (hRm 4 0 0) M [.ref (sA S (100 * (cx + 1))), .int (nI k), .int (nI i)] (hRd M (.int (rGiven S be i k))) := by
  refine hCT.of (own := RX1) (nm := "given") (by decide) rfl rfl (Nat.le_of_ble_eq_true rfl) ?_
  intro p e s m args below meth c ls X Y hl
  have hx := X.1
  have hb := X.2.1
  have hl : lv_has ls 3 [(0, .ref (sA S (100 * (cx + 1)))), (1, .int (nI k)), (2, .int (nI i))] := hl
  obtain ⟨hN8, hM40, hLG, hCY⟩ := id hG1
  obtain ⟨hl13, he14, hl15, he16, hLa, hCl⟩ := id hS
  obtain ⟨mc13, hlo13⟩ := id hl13
  obtain ⟨mc15, hlo15⟩ := id hl15
  obtain ⟨ho, ham, ⟨fb, hfb, hbo⟩, hbr, ⟨fy, hfy, hyo⟩, hyr, hlo⟩ := id hV
  refine lv_aload_n hx hb dX1_given_0 rfl (lv_at hl 0 rfl) ?_
  refine h_get X Y (k := 4) (v := .ref (sA S 13)) ho rfl hin_X1 (by decide) kfl_X1_26 rfl dX1_given_1 ?_
  refine lv_iload_n hx hb dX1_given_4 rfl (lv_at hl 1 rfl) ?_
  refine h_callFr (rest := []) X Y (c_get l G M (sA S 13) 13 (sA S 14) 14 (sN S) k (fun k => sA S (2000 + 100 * k)) hl13 (he14 (by omega)) (by omega)) rfl rfl (hFw_Jx4a65c_get_915e3 X) gw_X1_43 dsi_Jx4a65c_get_915e3 hlo13 rfl rfl rfl rfl hl.1 (Nat.le_of_ble_eq_true rfl) ⟨Nat.le_of_ble_eq_true rfl, Nat.le_of_ble_eq_true rfl⟩ ⟨Nat.le_of_ble_eq_true rfl, Nat.le_of_ble_eq_true rfl⟩ dX1_given_5 (fun H locs Y => ?_)
  refine h_cast X Y (hLa k (by omega)).1.1 rfl rfl kcl_X1_53 dX1_given_10 ?_
  refine lv_aload_n hx hb dX1_given_13 rfl (lv_at hl 0 rfl) ?_
  refine h_get X Y (k := 1) (v := .ref (sA S (100 * (cx + 1) + 2))) ho rfl hin_X1 (by decide) kfl_X1_17 rfl dX1_given_14 ?_
  refine lv_iload_n hx hb dX1_given_17 rfl (lv_at hl 2 rfl) ?_
  refine h_aaldI X Y (i := i) hbo (by omega) (by decide) dX1_given_18 ?_
  refine h_rf (hfb i (by omega)) ?_
  refine lv_iload_n hx hb dX1_given_19 rfl (lv_at hl 1 rfl) ?_
  refine h_iald X Y (i := k) (hbr i (by omega)) (by omega) (by decide) dX1_given_20 ?_
  refine h_callVr (rest := []) X Y (c_shareOf l G M (sA S (2000 + 100 * k)) (2000 + 100 * k) (sL S k) (hLa k hk).1 (be i k)) rfl rfl gw_X1_79 dsc_X5_shareOf (hLa k (by omega)).1.1 rfl rfl rfl rfl hl.1 (Nat.le_of_ble_eq_true rfl) ⟨Nat.le_of_ble_eq_true rfl, Nat.le_of_ble_eq_true rfl⟩ ⟨Nat.le_of_ble_eq_true rfl, Nat.le_of_ble_eq_true rfl⟩ dX1_given_21 (fun H locs Y => ?_)
  exact h_iret X Y ⟨rfl, rfl⟩ (Nat.le_refl _) (Nat.le_refl _) dX1_given_24
theorem gw_X1_33 : GoodIn hGW (va_wsF RX1 33 RJx4a65c ⟨"java/util/List", "size", "()I"⟩ yJx4a65c_size_8abf5 (Cond.code yJx4a65c_size_8abf5 cJx4a65c_size_8abf5 1 (Option.some FieldType.int) :: hGW)) := hgi4 kml_X1_33 kse_Jx4a65c_Zjava_util_List_size___I_Jx4a65c_size_8abf5 kin_Jx4a65c_size_8abf5 kini_Jx4a65c kco_Jx4a65c_size_8abf5
theorem dsi_Jx4a65c_size_8abf5 : (⟨"java/util/List", "size", "()I"⟩ : MethodName).cls ≠ "java/lang/invoke/MethodHandle" ∧ (⟨"java/util/List", "size", "()I"⟩ : MethodName).cls ≠ "java/lang/invoke/VarHandle" ∧ (parseMethodDescriptor (⟨"java/util/List", "size", "()I"⟩ : MethodName).desc).map (fun d => d.parameters.length) = some 0 := ⟨by decide +kernel, by decide +kernel, by decide +kernel⟩
theorem gw_X1_71 : GoodIn hGW (wsV RX1 71 RX1 yX1_given (Cond.code yX1_given cX1_given 3 (Option.some FieldType.int) :: hGW)) := hgi4 kml_X1_71 kin_X1_given kse_X1_X1_given_X1_given kini_X1 kco_X1_given
theorem dsc_X1_given : yX1_given.cls = RX1 ∧ yX1_given.cls ≠ "java/lang/invoke/MethodHandle" ∧ yX1_given.cls ≠ "java/lang/invoke/VarHandle" ∧ (parseMethodDescriptor yX1_given.desc).map (fun d => d.parameters.length) = some 2 := ⟨rfl, by decide +kernel, by decide +kernel, by decide +kernel⟩
theorem dX1_allGiven_0 : decode cX1_allGiven 0 = .ok (.iconst 0, 1) := by decide +kernel
theorem dX1_allGiven_1 : decode cX1_allGiven 1 = .ok (.istore_n 2, 1) := by decide +kernel
theorem dX1_allGiven_2 : decode cX1_allGiven 2 = .ok (.iconst 0, 1) := by decide +kernel
theorem dX1_allGiven_3 : decode cX1_allGiven 3 = .ok (.istore_n 3, 1) := by decide +kernel
theorem dX1_allGiven_4 : decode cX1_allGiven 4 = .ok (.iload_n 3, 1) := by decide +kernel
theorem dX1_allGiven_5 : decode cX1_allGiven 5 = .ok (.aload_n 0, 1) := by decide +kernel
theorem dX1_allGiven_6 : decode cX1_allGiven 6 = .ok (.getfield 26, 3) := by decide +kernel
theorem dX1_allGiven_9 : decode cX1_allGiven 9 = .ok (.invokeinterface 33 1, 5) := by decide +kernel
theorem dX1_allGiven_14 : decode cX1_allGiven 14 = .ok (.if_icmp .ge 18, 3) := by decide +kernel
theorem dX1_allGiven_17 : decode cX1_allGiven 17 = .ok (.iload_n 2, 1) := by decide +kernel
theorem dX1_allGiven_18 : decode cX1_allGiven 18 = .ok (.aload_n 0, 1) := by decide +kernel
theorem dX1_allGiven_19 : decode cX1_allGiven 19 = .ok (.iload_n 3, 1) := by decide +kernel
theorem dX1_allGiven_20 : decode cX1_allGiven 20 = .ok (.iload_n 1, 1) := by decide +kernel
theorem dX1_allGiven_21 : decode cX1_allGiven 21 = .ok (.invokevirtual 71, 3) := by decide +kernel
theorem dX1_allGiven_24 : decode cX1_allGiven 24 = .ok (.iadd, 1) := by decide +kernel
theorem dX1_allGiven_25 : decode cX1_allGiven 25 = .ok (.istore_n 2, 1) := by decide +kernel
theorem dX1_allGiven_26 : decode cX1_allGiven 26 = .ok (.iinc 3 1, 3) := by decide +kernel
theorem dX1_allGiven_29 : decode cX1_allGiven 29 = .ok (.goto (-25), 3) := by decide +kernel
theorem dX1_allGiven_32 : decode cX1_allGiven 32 = .ok (.iload_n 2, 1) := by decide +kernel
theorem dX1_allGiven_33 : decode cX1_allGiven 33 = .ok (.ireturn, 1) := by decide +kernel
set_option maxHeartbeats 400000 in
set_option maxRecDepth 100000 in
theorem c_allGiven (l : Launch) (G : hG) (M : hM) (S : hSy) (hS : SyV G M S) (hG1 : SyG S) (cx : Nat) (am : Nat → Int32) (be yl : Nat → Nat → Int32) (lo : Nat → Int32) (hV : CesV G M S cx am be yl lo) (i : Nat) (hi : i < 40) : hCT l G yX1_allGiven cX1_allGiven 4 (Option.some FieldType.int) (hRm 5 0 0) M [.ref (sA S (100 * (cx + 1))), .int (nI i)] (hRd M (.int (rAll S be i))) := by
  refine hCT.of (own := RX1) (nm := "allGiven") (by decide) rfl rfl (Nat.le_of_ble_eq_true rfl) ?_
  intro p e s m args below meth c ls X Y hl
  have hx := X.1
  have hb := X.2.1
  have hl : lv_has ls 4 [(0, .ref (sA S (100 * (cx + 1)))), (1, .int (nI i))] := hl
  obtain ⟨hN8, hM40, hLG, hCY⟩ := id hG1
  obtain ⟨hl13, he14, hl15, he16, hLa, hCl⟩ := id hS
  obtain ⟨mc13, hlo13⟩ := id hl13
  obtain ⟨mc15, hlo15⟩ := id hl15
  obtain ⟨ho, ham, ⟨fb, hfb, hbo⟩, hbr, ⟨fy, hfy, hyo⟩, hyr, hlo⟩ := id hV
  refine lv_iconst (v := 0) hx hb dX1_allGiven_0 (by decide) ?_
  refine lv_istore_n (lv' := [(2, .int 0), (0, .ref (sA S (100 * (cx + 1)))), (1, .int (nI i))]) hx hb dX1_allGiven_1 rfl hl (by decide) rfl (fun ls hl => ?_)
  refine lv_iconst (v := 0) hx hb dX1_allGiven_2 (by decide) ?_
  refine lv_istore_n (lv' := [(3, .int 0), (2, .int 0), (0, .ref (sA S (100 * (cx + 1)))), (1, .int (nI i))]) hx hb dX1_allGiven_3 rfl hl (by decide) rfl (fun ls hl => ?_)
  have loop : ∀ (d k : Nat), k + d = (sN S) + 1 → k ≤ (sN S) → ∀ (H : Heap) (locs : List Loc) (ls : Array Slot), hHS G M s H locs → lv_has ls 4 [(0, .ref (sA S (100 * (cx + 1)))), (1, .int (nI i)), (2, .int (rSum (rGiven S be i) k)), (3, .int (nI k))] → W p l e (hRm 5 0 0) s m args below meth c H locs 0 0 (MQ below (hQ G (hRd M (.int (rAll S be i)))) args s 0 0 (hA G)) (F0 m 4 ls []) := by
    intro d
    induction d with
    | zero => intro k h1 h2; exact absurd h1 (by omega)
    | succ d ih =>
      intro k h1 h2 H locs ls Y hl
      refine lv_iload_n hx hb dX1_allGiven_4 rfl (lv_at hl 3 rfl) ?_
      refine lv_aload_n hx hb dX1_allGiven_5 rfl (lv_at hl 0 rfl) ?_
      refine h_get X Y (k := 4) (v := .ref (sA S 13)) ho rfl hin_X1 (by decide) kfl_X1_26 rfl dX1_allGiven_6 ?_
      refine h_callFr (rest := [.int (nI k)]) X Y (c_size l G M (sA S 13) 13 (sA S 14) (sN S) hl13) rfl rfl (hFw_Jx4a65c_size_8abf5 X) gw_X1_33 dsi_Jx4a65c_size_8abf5 hlo13 rfl rfl rfl rfl hl.1 (Nat.le_of_ble_eq_true rfl) ⟨Nat.le_of_ble_eq_true rfl, Nat.le_of_ble_eq_true rfl⟩ ⟨Nat.le_of_ble_eq_true rfl, Nat.le_of_ble_eq_true rfl⟩ dX1_allGiven_9 (fun H locs Y => ?_)
      refine lv_icmp_ge (tgt := 32) hx hb dX1_allGiven_14 (by decide) (fun c14 => ?_) (fun c14 => ?_)
      · have c14 : (sN S) ≤ k := (nI_leI (a := (sN S)) (b := k) (by omega) (by omega)).mp c14
        have hk9 : k = (sN S) := by omega
        subst hk9
        refine lv_iload_n hx hb dX1_allGiven_32 rfl (lv_at hl 2 rfl) ?_
        exact h_iret X Y ⟨rfl, rfl⟩ (Nat.le_refl _) (Nat.le_refl _) dX1_allGiven_33
      · have c14 : ¬ (sN S) ≤ k := fun z9 => c14 ((nI_leI (a := (sN S)) (b := k) (by omega) (by omega)).mpr z9)
        refine lv_iload_n hx hb dX1_allGiven_17 rfl (lv_at hl 2 rfl) ?_
        refine lv_aload_n hx hb dX1_allGiven_18 rfl (lv_at hl 0 rfl) ?_
        refine lv_iload_n hx hb dX1_allGiven_19 rfl (lv_at hl 3 rfl) ?_
        refine lv_iload_n hx hb dX1_allGiven_20 rfl (lv_at hl 1 rfl) ?_
        refine h_callVr (rest := [.int (rSum (rGiven S be i) k)]) X Y (c_given l G M S hS hG1 cx am be yl lo hV k i (by omega) hi) rfl rfl gw_X1_71 dsc_X1_given ho rfl rfl rfl rfl hl.1 (Nat.le_of_ble_eq_true rfl) ⟨Nat.le_of_ble_eq_true rfl, Nat.le_of_ble_eq_true rfl⟩ ⟨Nat.le_of_ble_eq_true rfl, Nat.le_of_ble_eq_true rfl⟩ dX1_allGiven_21 (fun H locs Y => ?_)
        refine lv_iadd hx hb dX1_allGiven_24 ?_
        refine lv_istore_n (lv' := [(2, .int ((rSum (rGiven S be i) k) + (rGiven S be i k))), (0, .ref (sA S (100 * (cx + 1)))), (1, .int (nI i)), (3, .int (nI k))]) hx hb dX1_allGiven_25 rfl hl (by decide) rfl (fun ls hl => ?_)
        refine lv_iinc (v := nI (k + 1)) (lv' := [(3, .int (nI (k + 1))), (2, .int ((rSum (rGiven S be i) k) + (rGiven S be i k))), (0, .ref (sA S (100 * (cx + 1)))), (1, .int (nI i))]) hx hb dX1_allGiven_26 hl (k := 3) rfl (nI_1 k) (by decide) rfl (fun ls hl => ?_)
        refine lv_goto (tgt := 4) hx hb dX1_allGiven_29 (by decide) ?_
        exact ih (k + 1) (by omega) (by omega) _ _ _ Y (lv_sub hl [2, 3, 1, 0] rfl)
  exact loop ((sN S) + 1) 0 (by omega) (by omega) _ _ _ Y (lv_sub hl [2, 3, 1, 0] rfl)
theorem gw_X1_83 : GoodIn hGW (wsV RX1 83 RX1 yX1_allGiven (Cond.code yX1_allGiven cX1_allGiven 4 (Option.some FieldType.int) :: hGW)) := hgi4 kml_X1_83 kin_X1_allGiven kse_X1_X1_allGiven_X1_allGiven kini_X1 kco_X1_allGiven
theorem dsc_X1_allGiven : yX1_allGiven.cls = RX1 ∧ yX1_allGiven.cls ≠ "java/lang/invoke/MethodHandle" ∧ yX1_allGiven.cls ≠ "java/lang/invoke/VarHandle" ∧ (parseMethodDescriptor yX1_allGiven.desc).map (fun d => d.parameters.length) = some 1 := ⟨rfl, by decide +kernel, by decide +kernel, by decide +kernel⟩
theorem dX1_leftOf_0 : decode cX1_leftOf 0 = .ok (.aload_n 0, 1) := by decide +kernel
theorem dX1_leftOf_1 : decode cX1_leftOf 1 = .ok (.getfield 9, 3) := by decide +kernel
theorem dX1_leftOf_4 : decode cX1_leftOf 4 = .ok (.iload_n 1, 1) := by decide +kernel
theorem dX1_leftOf_5 : decode cX1_leftOf 5 = .ok (.iaload, 1) := by decide +kernel
theorem dX1_leftOf_6 : decode cX1_leftOf 6 = .ok (.aload_n 0, 1) := by decide +kernel
theorem dX1_leftOf_7 : decode cX1_leftOf 7 = .ok (.iload_n 1, 1) := by decide +kernel
theorem dX1_leftOf_8 : decode cX1_leftOf 8 = .ok (.invokevirtual 83, 3) := by decide +kernel
theorem dX1_leftOf_11 : decode cX1_leftOf 11 = .ok (.isub, 1) := by decide +kernel
theorem dX1_leftOf_12 : decode cX1_leftOf 12 = .ok (.iconst 0, 1) := by decide +kernel
theorem dX1_leftOf_13 : decode cX1_leftOf 13 = .ok (.invokestatic 74, 3) := by decide +kernel
theorem dX1_leftOf_16 : decode cX1_leftOf 16 = .ok (.ireturn, 1) := by decide +kernel
set_option maxHeartbeats 400000 in
set_option maxRecDepth 100000 in
theorem c_leftOf (l : Launch) (G : hG) (M : hM) (S : hSy) (hS : SyV G M S) (hG1 : SyG S) (cx : Nat) (am : Nat → Int32) (be yl : Nat → Nat → Int32) (lo : Nat → Int32) (hV : CesV G M S cx am be yl lo) (i : Nat) (hi : i < 40) : hCT l G yX1_leftOf cX1_leftOf 2 (Option.some FieldType.int) (hRm 6 0 0) M [.ref (sA S (100 * (cx + 1))), .int (nI i)] (hRd M (.int (rLeft S am be i))) := by
  refine hCT.of (own := RX1) (nm := "leftOf") (by decide) rfl rfl (Nat.le_of_ble_eq_true rfl) ?_
  intro p e s m args below meth c ls X Y hl
  have hx := X.1
  have hb := X.2.1
  have hl : lv_has ls 2 [(0, .ref (sA S (100 * (cx + 1)))), (1, .int (nI i))] := hl
  obtain ⟨hN8, hM40, hLG, hCY⟩ := id hG1
  obtain ⟨hl13, he14, hl15, he16, hLa, hCl⟩ := id hS
  obtain ⟨mc13, hlo13⟩ := id hl13
  obtain ⟨mc15, hlo15⟩ := id hl15
  obtain ⟨ho, ham, ⟨fb, hfb, hbo⟩, hbr, ⟨fy, hfy, hyo⟩, hyr, hlo⟩ := id hV
  refine lv_aload_n hx hb dX1_leftOf_0 rfl (lv_at hl 0 rfl) ?_
  refine h_get X Y (k := 0) (v := .ref (sA S (100 * (cx + 1) + 1))) ho rfl hin_X1 (by decide) kfl_X1_9 rfl dX1_leftOf_1 ?_
  refine lv_iload_n hx hb dX1_leftOf_4 rfl (lv_at hl 1 rfl) ?_
  refine h_iald X Y (i := i) ham (by omega) (by decide) dX1_leftOf_5 ?_
  refine lv_aload_n hx hb dX1_leftOf_6 rfl (lv_at hl 0 rfl) ?_
  refine lv_iload_n hx hb dX1_leftOf_7 rfl (lv_at hl 1 rfl) ?_
  refine h_callVr (rest := [.int (am i)]) X Y (c_allGiven l G M S hS hG1 cx am be yl lo hV i hi) rfl rfl gw_X1_83 dsc_X1_allGiven ho rfl rfl rfl rfl hl.1 (Nat.le_of_ble_eq_true rfl) ⟨Nat.le_of_ble_eq_true rfl, Nat.le_of_ble_eq_true rfl⟩ ⟨Nat.le_of_ble_eq_true rfl, Nat.le_of_ble_eq_true rfl⟩ dX1_leftOf_8 (fun H locs Y => ?_)
  refine lv_isub hx hb dX1_leftOf_11 ?_
  refine lv_iconst (v := 0) hx hb dX1_leftOf_12 (by decide) ?_
  refine h_mmax X kml_X1_74 hl.1 (Nat.le_of_ble_eq_true rfl) (Nat.le_of_ble_eq_true rfl) ⟨Nat.le_of_ble_eq_true rfl, Nat.le_of_ble_eq_true rfl⟩ dX1_leftOf_13 ?_
  exact h_iret X Y ⟨rfl, rfl⟩ (Nat.le_refl _) (Nat.le_refl _) dX1_leftOf_16
theorem gw_X1_86 : GoodIn hGW (wsV RX1 86 RX1 yX1_leftOf (Cond.code yX1_leftOf cX1_leftOf 2 (Option.some FieldType.int) :: hGW)) := hgi4 kml_X1_86 kin_X1_leftOf kse_X1_X1_leftOf_X1_leftOf kini_X1 kco_X1_leftOf
theorem dsc_X1_leftOf : yX1_leftOf.cls = RX1 ∧ yX1_leftOf.cls ≠ "java/lang/invoke/MethodHandle" ∧ yX1_leftOf.cls ≠ "java/lang/invoke/VarHandle" ∧ (parseMethodDescriptor yX1_leftOf.desc).map (fun d => d.parameters.length) = some 1 := ⟨rfl, by decide +kernel, by decide +kernel, by decide +kernel⟩
theorem dX1_allLeft_0 : decode cX1_allLeft 0 = .ok (.iconst 0, 1) := by decide +kernel
theorem dX1_allLeft_1 : decode cX1_allLeft 1 = .ok (.istore_n 1, 1) := by decide +kernel
theorem dX1_allLeft_2 : decode cX1_allLeft 2 = .ok (.iconst 0, 1) := by decide +kernel
theorem dX1_allLeft_3 : decode cX1_allLeft 3 = .ok (.istore_n 2, 1) := by decide +kernel
theorem dX1_allLeft_4 : decode cX1_allLeft 4 = .ok (.iload_n 2, 1) := by decide +kernel
theorem dX1_allLeft_5 : decode cX1_allLeft 5 = .ok (.aload_n 0, 1) := by decide +kernel
theorem dX1_allLeft_6 : decode cX1_allLeft 6 = .ok (.getfield 30, 3) := by decide +kernel
theorem dX1_allLeft_9 : decode cX1_allLeft 9 = .ok (.invokeinterface 33 1, 5) := by decide +kernel
theorem dX1_allLeft_14 : decode cX1_allLeft 14 = .ok (.if_icmp .ge 17, 3) := by decide +kernel
theorem dX1_allLeft_17 : decode cX1_allLeft 17 = .ok (.iload_n 1, 1) := by decide +kernel
theorem dX1_allLeft_18 : decode cX1_allLeft 18 = .ok (.aload_n 0, 1) := by decide +kernel
theorem dX1_allLeft_19 : decode cX1_allLeft 19 = .ok (.iload_n 2, 1) := by decide +kernel
theorem dX1_allLeft_20 : decode cX1_allLeft 20 = .ok (.invokevirtual 86, 3) := by decide +kernel
theorem dX1_allLeft_23 : decode cX1_allLeft 23 = .ok (.iadd, 1) := by decide +kernel
theorem dX1_allLeft_24 : decode cX1_allLeft 24 = .ok (.istore_n 1, 1) := by decide +kernel
theorem dX1_allLeft_25 : decode cX1_allLeft 25 = .ok (.iinc 2 1, 3) := by decide +kernel
theorem dX1_allLeft_28 : decode cX1_allLeft 28 = .ok (.goto (-24), 3) := by decide +kernel
theorem dX1_allLeft_31 : decode cX1_allLeft 31 = .ok (.iload_n 1, 1) := by decide +kernel
theorem dX1_allLeft_32 : decode cX1_allLeft 32 = .ok (.ireturn, 1) := by decide +kernel
set_option maxHeartbeats 400000 in
set_option maxRecDepth 100000 in
theorem c_allLeft (l : Launch) (G : hG) (M : hM) (S : hSy) (hS : SyV G M S) (hG1 : SyG S) (cx : Nat) (am : Nat → Int32) (be yl : Nat → Nat → Int32) (lo : Nat → Int32) (hV : CesV G M S cx am be yl lo) : hCT l G yX1_allLeft cX1_allLeft 3 (Option.some FieldType.int) (hRm 7 0 0) M [.ref (sA S (100 * (cx + 1)))] (hRd M (.int (rLefts S am be))) := by
  refine hCT.of (own := RX1) (nm := "allLeft") (by decide) rfl rfl (Nat.le_of_ble_eq_true rfl) ?_
  intro p e s m args below meth c ls X Y hl
  have hx := X.1
  have hb := X.2.1
  have hl : lv_has ls 3 [(0, .ref (sA S (100 * (cx + 1))))] := hl
  obtain ⟨hN8, hM40, hLG, hCY⟩ := id hG1
  obtain ⟨hl13, he14, hl15, he16, hLa, hCl⟩ := id hS
  obtain ⟨mc13, hlo13⟩ := id hl13
  obtain ⟨mc15, hlo15⟩ := id hl15
  obtain ⟨ho, ham, ⟨fb, hfb, hbo⟩, hbr, ⟨fy, hfy, hyo⟩, hyr, hlo⟩ := id hV
  refine lv_iconst (v := 0) hx hb dX1_allLeft_0 (by decide) ?_
  refine lv_istore_n (lv' := [(1, .int 0), (0, .ref (sA S (100 * (cx + 1))))]) hx hb dX1_allLeft_1 rfl hl (by decide) rfl (fun ls hl => ?_)
  refine lv_iconst (v := 0) hx hb dX1_allLeft_2 (by decide) ?_
  refine lv_istore_n (lv' := [(2, .int 0), (1, .int 0), (0, .ref (sA S (100 * (cx + 1))))]) hx hb dX1_allLeft_3 rfl hl (by decide) rfl (fun ls hl => ?_)
  have loop : ∀ (d k : Nat), k + d = (sM S) + 1 → k ≤ (sM S) → ∀ (H : Heap) (locs : List Loc) (ls : Array Slot), hHS G M s H locs → lv_has ls 3 [(0, .ref (sA S (100 * (cx + 1)))), (1, .int (rSum (rLeft S am be) k)), (2, .int (nI k))] → W p l e (hRm 7 0 0) s m args below meth c H locs 0 0 (MQ below (hQ G (hRd M (.int (rLefts S am be)))) args s 0 0 (hA G)) (F0 m 4 ls []) := by
    intro d
    induction d with
    | zero => intro k h1 h2; exact absurd h1 (by omega)
    | succ d ih =>
      intro k h1 h2 H locs ls Y hl
      refine lv_iload_n hx hb dX1_allLeft_4 rfl (lv_at hl 2 rfl) ?_
      refine lv_aload_n hx hb dX1_allLeft_5 rfl (lv_at hl 0 rfl) ?_
      refine h_get X Y (k := 5) (v := .ref (sA S 15)) ho rfl hin_X1 (by decide) kfl_X1_30 rfl dX1_allLeft_6 ?_
      refine h_callFr (rest := [.int (nI k)]) X Y (c_size l G M (sA S 15) 15 (sA S 16) (sM S) hl15) rfl rfl (hFw_Jx4a65c_size_8abf5 X) gw_X1_33 dsi_Jx4a65c_size_8abf5 hlo15 rfl rfl rfl rfl hl.1 (Nat.le_of_ble_eq_true rfl) ⟨Nat.le_of_ble_eq_true rfl, Nat.le_of_ble_eq_true rfl⟩ ⟨Nat.le_of_ble_eq_true rfl, Nat.le_of_ble_eq_true rfl⟩ dX1_allLeft_9 (fun H locs Y => ?_)
      refine lv_icmp_ge (tgt := 31) hx hb dX1_allLeft_14 (by decide) (fun c14 => ?_) (fun c14 => ?_)
      · have c14 : (sM S) ≤ k := (nI_leI (a := (sM S)) (b := k) (by omega) (by omega)).mp c14
        have hk9 : k = (sM S) := by omega
        subst hk9
        refine lv_iload_n hx hb dX1_allLeft_31 rfl (lv_at hl 1 rfl) ?_
        exact h_iret X Y ⟨rfl, rfl⟩ (Nat.le_refl _) (Nat.le_refl _) dX1_allLeft_32
      · have c14 : ¬ (sM S) ≤ k := fun z9 => c14 ((nI_leI (a := (sM S)) (b := k) (by omega) (by omega)).mpr z9)
        refine lv_iload_n hx hb dX1_allLeft_17 rfl (lv_at hl 1 rfl) ?_
        refine lv_aload_n hx hb dX1_allLeft_18 rfl (lv_at hl 0 rfl) ?_
        refine lv_iload_n hx hb dX1_allLeft_19 rfl (lv_at hl 2 rfl) ?_
        refine h_callVr (rest := [.int (rSum (rLeft S am be) k)]) X Y (c_leftOf l G M S hS hG1 cx am be yl lo hV k (by omega)) rfl rfl gw_X1_86 dsc_X1_leftOf ho rfl rfl rfl rfl hl.1 (Nat.le_of_ble_eq_true rfl) ⟨Nat.le_of_ble_eq_true rfl, Nat.le_of_ble_eq_true rfl⟩ ⟨Nat.le_of_ble_eq_true rfl, Nat.le_of_ble_eq_true rfl⟩ dX1_allLeft_20 (fun H locs Y => ?_)
        refine lv_iadd hx hb dX1_allLeft_23 ?_
        refine lv_istore_n (lv' := [(1, .int ((rSum (rLeft S am be) k) + (rLeft S am be k))), (0, .ref (sA S (100 * (cx + 1)))), (2, .int (nI k))]) hx hb dX1_allLeft_24 rfl hl (by decide) rfl (fun ls hl => ?_)
        refine lv_iinc (v := nI (k + 1)) (lv' := [(2, .int (nI (k + 1))), (1, .int ((rSum (rLeft S am be) k) + (rLeft S am be k))), (0, .ref (sA S (100 * (cx + 1))))]) hx hb dX1_allLeft_25 hl (k := 2) rfl (nI_1 k) (by decide) rfl (fun ls hl => ?_)
        refine lv_goto (tgt := 4) hx hb dX1_allLeft_28 (by decide) ?_
        exact ih (k + 1) (by omega) (by omega) _ _ _ Y (lv_sub hl [2, 1, 0] rfl)
  exact loop ((sM S) + 1) 0 (by omega) (by omega) _ _ _ Y (lv_sub hl [2, 1, 0] rfl)
theorem gw_X1_63 : GoodIn hGW (wsV RX1 63 RX5 yX5_borneOf (Cond.code yX5_borneOf cX5_borneOf 6 (Option.some FieldType.int) :: hGW)) := hgi4 kml_X1_63 kin_X5_borneOf kse_X5_X5_borneOf_X5_borneOf kini_X5 kco_X5_borneOf
theorem dsc_X5_borneOf : yX5_borneOf.cls = RX5 ∧ yX5_borneOf.cls ≠ "java/lang/invoke/MethodHandle" ∧ yX5_borneOf.cls ≠ "java/lang/invoke/VarHandle" ∧ (parseMethodDescriptor yX5_borneOf.desc).map (fun d => d.parameters.length) = some 2 := ⟨rfl, by decide +kernel, by decide +kernel, by decide +kernel⟩
theorem dX1_borneIn_0 : decode cX1_borneIn 0 = .ok (.aload_n 0, 1) := by decide +kernel
theorem dX1_borneIn_1 : decode cX1_borneIn 1 = .ok (.getfield 26, 3) := by decide +kernel
theorem dX1_borneIn_4 : decode cX1_borneIn 4 = .ok (.iload_n 1, 1) := by decide +kernel
theorem dX1_borneIn_5 : decode cX1_borneIn 5 = .ok (.invokeinterface 43 2, 5) := by decide +kernel
theorem dX1_borneIn_10 : decode cX1_borneIn 10 = .ok (.checkcast 53, 3) := by decide +kernel
theorem dX1_borneIn_13 : decode cX1_borneIn 13 = .ok (.iload_n 2, 1) := by decide +kernel
theorem dX1_borneIn_14 : decode cX1_borneIn 14 = .ok (.aload_n 0, 1) := by decide +kernel
theorem dX1_borneIn_15 : decode cX1_borneIn 15 = .ok (.getfield 20, 3) := by decide +kernel
theorem dX1_borneIn_18 : decode cX1_borneIn 18 = .ok (.iload_n 1, 1) := by decide +kernel
theorem dX1_borneIn_19 : decode cX1_borneIn 19 = .ok (.aaload, 1) := by decide +kernel
theorem dX1_borneIn_20 : decode cX1_borneIn 20 = .ok (.iload_n 2, 1) := by decide +kernel
theorem dX1_borneIn_21 : decode cX1_borneIn 21 = .ok (.iaload, 1) := by decide +kernel
theorem dX1_borneIn_22 : decode cX1_borneIn 22 = .ok (.invokevirtual 63, 3) := by decide +kernel
theorem dX1_borneIn_25 : decode cX1_borneIn 25 = .ok (.ireturn, 1) := by decide +kernel
set_option maxHeartbeats 400000 in
set_option maxRecDepth 100000 in
theorem c_borneIn (l : Launch) (G : hG) (M : hM) (S : hSy) (hS : SyV G M S) (hG1 : SyG S) (cx : Nat) (am : Nat → Int32) (be yl : Nat → Nat → Int32) (lo : Nat → Int32) (hV : CesV G M S cx am be yl lo) (k y : Nat) (hk : k < sN S) (hy : y < 10) : hCT l G yX1_borneIn cX1_borneIn 3 (Option.some FieldType.int) (hRm 4 0 0) M [.ref (sA S (100 * (cx + 1))), .int (nI k), .int (nI y)] (hRd M (.int (rBorne S yl k y))) := by
  refine hCT.of (own := RX1) (nm := "borneIn") (by decide) rfl rfl (Nat.le_of_ble_eq_true rfl) ?_
  intro p e s m args below meth c ls X Y hl
  have hx := X.1
  have hb := X.2.1
  have hl : lv_has ls 3 [(0, .ref (sA S (100 * (cx + 1)))), (1, .int (nI k)), (2, .int (nI y))] := hl
  obtain ⟨hN8, hM40, hLG, hCY⟩ := id hG1
  obtain ⟨hl13, he14, hl15, he16, hLa, hCl⟩ := id hS
  obtain ⟨mc13, hlo13⟩ := id hl13
  obtain ⟨mc15, hlo15⟩ := id hl15
  obtain ⟨ho, ham, ⟨fb, hfb, hbo⟩, hbr, ⟨fy, hfy, hyo⟩, hyr, hlo⟩ := id hV
  refine lv_aload_n hx hb dX1_borneIn_0 rfl (lv_at hl 0 rfl) ?_
  refine h_get X Y (k := 4) (v := .ref (sA S 13)) ho rfl hin_X1 (by decide) kfl_X1_26 rfl dX1_borneIn_1 ?_
  refine lv_iload_n hx hb dX1_borneIn_4 rfl (lv_at hl 1 rfl) ?_
  refine h_callFr (rest := []) X Y (c_get l G M (sA S 13) 13 (sA S 14) 14 (sN S) k (fun k => sA S (2000 + 100 * k)) hl13 (he14 (by omega)) (by omega)) rfl rfl (hFw_Jx4a65c_get_915e3 X) gw_X1_43 dsi_Jx4a65c_get_915e3 hlo13 rfl rfl rfl rfl hl.1 (Nat.le_of_ble_eq_true rfl) ⟨Nat.le_of_ble_eq_true rfl, Nat.le_of_ble_eq_true rfl⟩ ⟨Nat.le_of_ble_eq_true rfl, Nat.le_of_ble_eq_true rfl⟩ dX1_borneIn_5 (fun H locs Y => ?_)
  refine h_cast X Y (hLa k (by omega)).1.1 rfl rfl kcl_X1_53 dX1_borneIn_10 ?_
  refine lv_iload_n hx hb dX1_borneIn_13 rfl (lv_at hl 2 rfl) ?_
  refine lv_aload_n hx hb dX1_borneIn_14 rfl (lv_at hl 0 rfl) ?_
  refine h_get X Y (k := 2) (v := .ref (sA S (100 * (cx + 1) + 3))) ho rfl hin_X1 (by decide) kfl_X1_20 rfl dX1_borneIn_15 ?_
  refine lv_iload_n hx hb dX1_borneIn_18 rfl (lv_at hl 1 rfl) ?_
  refine h_aaldI X Y (i := k) hyo (by omega) (by decide) dX1_borneIn_19 ?_
  refine h_rf (hfy k (by omega)) ?_
  refine lv_iload_n hx hb dX1_borneIn_20 rfl (lv_at hl 2 rfl) ?_
  refine h_iald X Y (i := y) (hyr k (by omega)) (by omega) (by decide) dX1_borneIn_21 ?_
  refine h_callVr (rest := []) X Y (c_borneOf l G M (sA S (2000 + 100 * k)) (2000 + 100 * k) (sL S k) (hLa k hk).1 y hy (yl k y)) rfl rfl gw_X1_63 dsc_X5_borneOf (hLa k (by omega)).1.1 rfl rfl rfl rfl hl.1 (Nat.le_of_ble_eq_true rfl) ⟨Nat.le_of_ble_eq_true rfl, Nat.le_of_ble_eq_true rfl⟩ ⟨Nat.le_of_ble_eq_true rfl, Nat.le_of_ble_eq_true rfl⟩ dX1_borneIn_22 (fun H locs Y => ?_)
  exact h_iret X Y ⟨rfl, rfl⟩ (Nat.le_refl _) (Nat.le_refl _) dX1_borneIn_25
theorem gw_X1_89 : GoodIn hGW (wsV RX1 89 RX1 yX1_borneIn (Cond.code yX1_borneIn cX1_borneIn 3 (Option.some FieldType.int) :: hGW)) := hgi4 kml_X1_89 kin_X1_borneIn kse_X1_X1_borneIn_X1_borneIn kini_X1 kco_X1_borneIn
theorem dsc_X1_borneIn : yX1_borneIn.cls = RX1 ∧ yX1_borneIn.cls ≠ "java/lang/invoke/MethodHandle" ∧ yX1_borneIn.cls ≠ "java/lang/invoke/VarHandle" ∧ (parseMethodDescriptor yX1_borneIn.desc).map (fun d => d.parameters.length) = some 2 := ⟨rfl, by decide +kernel, by decide +kernel, by decide +kernel⟩
theorem gw_X1_92 : GoodIn hGW (wsV RX1 92 RX5 yX5_chargeOf (Cond.code yX5_chargeOf cX5_chargeOf 10 (Option.some FieldType.int) :: hGW)) := hgi4 kml_X1_92 kin_X5_chargeOf kse_X5_X5_chargeOf_X5_chargeOf kini_X5 kco_X5_chargeOf
theorem dsc_X5_chargeOf : yX5_chargeOf.cls = RX5 ∧ yX5_chargeOf.cls ≠ "java/lang/invoke/MethodHandle" ∧ yX5_chargeOf.cls ≠ "java/lang/invoke/VarHandle" ∧ (parseMethodDescriptor yX5_chargeOf.desc).map (fun d => d.parameters.length) = some 2 := ⟨rfl, by decide +kernel, by decide +kernel, by decide +kernel⟩
theorem dX1_chargedIn_0 : decode cX1_chargedIn 0 = .ok (.aload_n 0, 1) := by decide +kernel
theorem dX1_chargedIn_1 : decode cX1_chargedIn 1 = .ok (.getfield 26, 3) := by decide +kernel
theorem dX1_chargedIn_4 : decode cX1_chargedIn 4 = .ok (.iload_n 1, 1) := by decide +kernel
theorem dX1_chargedIn_5 : decode cX1_chargedIn 5 = .ok (.invokeinterface 43 2, 5) := by decide +kernel
theorem dX1_chargedIn_10 : decode cX1_chargedIn 10 = .ok (.checkcast 53, 3) := by decide +kernel
theorem dX1_chargedIn_13 : decode cX1_chargedIn 13 = .ok (.iload_n 2, 1) := by decide +kernel
theorem dX1_chargedIn_14 : decode cX1_chargedIn 14 = .ok (.aload_n 0, 1) := by decide +kernel
theorem dX1_chargedIn_15 : decode cX1_chargedIn 15 = .ok (.iload_n 1, 1) := by decide +kernel
theorem dX1_chargedIn_16 : decode cX1_chargedIn 16 = .ok (.iload_n 2, 1) := by decide +kernel
theorem dX1_chargedIn_17 : decode cX1_chargedIn 17 = .ok (.invokevirtual 89, 3) := by decide +kernel
theorem dX1_chargedIn_20 : decode cX1_chargedIn 20 = .ok (.invokevirtual 92, 3) := by decide +kernel
theorem dX1_chargedIn_23 : decode cX1_chargedIn 23 = .ok (.ireturn, 1) := by decide +kernel
set_option maxHeartbeats 400000 in
set_option maxRecDepth 100000 in
theorem c_chargedIn (l : Launch) (G : hG) (M : hM) (S : hSy) (hS : SyV G M S) (hG1 : SyG S) (cx : Nat) (am : Nat → Int32) (be yl : Nat → Nat → Int32) (lo : Nat → Int32) (hV : CesV G M S cx am be yl lo) (k y : Nat) (hk : k < sN S) (hy : y < 10) : hCT l G yX1_chargedIn cX1_chargedIn 3 (Option.some FieldType.int) (hRm 5 0 0) M [.ref (sA S (100 * (cx + 1))), .int (nI k), .int (nI y)] (hRd M (.int (rCharge S yl k y))) := by
  refine hCT.of (own := RX1) (nm := "chargedIn") (by decide) rfl rfl (Nat.le_of_ble_eq_true rfl) ?_
  intro p e s m args below meth c ls X Y hl
  have hx := X.1
  have hb := X.2.1
  have hl : lv_has ls 3 [(0, .ref (sA S (100 * (cx + 1)))), (1, .int (nI k)), (2, .int (nI y))] := hl
  obtain ⟨hN8, hM40, hLG, hCY⟩ := id hG1
  obtain ⟨hl13, he14, hl15, he16, hLa, hCl⟩ := id hS
  obtain ⟨mc13, hlo13⟩ := id hl13
  obtain ⟨mc15, hlo15⟩ := id hl15
  obtain ⟨ho, ham, ⟨fb, hfb, hbo⟩, hbr, ⟨fy, hfy, hyo⟩, hyr, hlo⟩ := id hV
  obtain ⟨-, -, -, n, hn4, hnq⟩ := hLG k hk
  have hnn : rNum (lyI (sL S k) 2) = n := by unfold rNum; rw [hnq]; exact nI_clamp (by omega)
  refine lv_aload_n hx hb dX1_chargedIn_0 rfl (lv_at hl 0 rfl) ?_
  refine h_get X Y (k := 4) (v := .ref (sA S 13)) ho rfl hin_X1 (by decide) kfl_X1_26 rfl dX1_chargedIn_1 ?_
  refine lv_iload_n hx hb dX1_chargedIn_4 rfl (lv_at hl 1 rfl) ?_
  refine h_callFr (rest := []) X Y (c_get l G M (sA S 13) 13 (sA S 14) 14 (sN S) k (fun k => sA S (2000 + 100 * k)) hl13 (he14 (by omega)) (by omega)) rfl rfl (hFw_Jx4a65c_get_915e3 X) gw_X1_43 dsi_Jx4a65c_get_915e3 hlo13 rfl rfl rfl rfl hl.1 (Nat.le_of_ble_eq_true rfl) ⟨Nat.le_of_ble_eq_true rfl, Nat.le_of_ble_eq_true rfl⟩ ⟨Nat.le_of_ble_eq_true rfl, Nat.le_of_ble_eq_true rfl⟩ dX1_chargedIn_5 (fun H locs Y => ?_)
  refine h_cast X Y (hLa k (by omega)).1.1 rfl rfl kcl_X1_53 dX1_chargedIn_10 ?_
  refine lv_iload_n hx hb dX1_chargedIn_13 rfl (lv_at hl 2 rfl) ?_
  refine lv_aload_n hx hb dX1_chargedIn_14 rfl (lv_at hl 0 rfl) ?_
  refine lv_iload_n hx hb dX1_chargedIn_15 rfl (lv_at hl 1 rfl) ?_
  refine lv_iload_n hx hb dX1_chargedIn_16 rfl (lv_at hl 2 rfl) ?_
  refine h_callVr (rest := [.int (nI y), .ref (sA S (2000 + 100 * k))]) X Y (c_borneIn l G M S hS hG1 cx am be yl lo hV k y hk hy) rfl rfl gw_X1_89 dsc_X1_borneIn ho rfl rfl rfl rfl hl.1 (Nat.le_of_ble_eq_true rfl) ⟨Nat.le_of_ble_eq_true rfl, Nat.le_of_ble_eq_true rfl⟩ ⟨Nat.le_of_ble_eq_true rfl, Nat.le_of_ble_eq_true rfl⟩ dX1_chargedIn_17 (fun H locs Y => ?_)
  refine h_callVr (rest := []) X Y (c_chargeOf l G M (sA S (2000 + 100 * k)) (2000 + 100 * k) (sL S k) (hLa k hk).1 y hy (rBorne S yl k y) n hn4 hnq) rfl rfl gw_X1_92 dsc_X5_chargeOf (hLa k (by omega)).1.1 rfl rfl rfl rfl hl.1 (Nat.le_of_ble_eq_true rfl) ⟨Nat.le_of_ble_eq_true rfl, Nat.le_of_ble_eq_true rfl⟩ ⟨Nat.le_of_ble_eq_true rfl, Nat.le_of_ble_eq_true rfl⟩ dX1_chargedIn_20 (fun H locs Y => ?_)
  exact h_iret X Y ⟨by unfold rCharge; rw [hnn], rfl⟩ (Nat.le_refl _) (Nat.le_refl _) dX1_chargedIn_23
theorem gw_X1_95 : GoodIn hGW (wsV RX1 95 RX1 yX1_chargedIn (Cond.code yX1_chargedIn cX1_chargedIn 3 (Option.some FieldType.int) :: hGW)) := hgi4 kml_X1_95 kin_X1_chargedIn kse_X1_X1_chargedIn_X1_chargedIn kini_X1 kco_X1_chargedIn
theorem dsc_X1_chargedIn : yX1_chargedIn.cls = RX1 ∧ yX1_chargedIn.cls ≠ "java/lang/invoke/MethodHandle" ∧ yX1_chargedIn.cls ≠ "java/lang/invoke/VarHandle" ∧ (parseMethodDescriptor yX1_chargedIn.desc).map (fun d => d.parameters.length) = some 2 := ⟨rfl, by decide +kernel, by decide +kernel, by decide +kernel⟩
theorem dX1_allCharged_0 : decode cX1_allCharged 0 = .ok (.iconst 0, 1) := by decide +kernel
theorem dX1_allCharged_1 : decode cX1_allCharged 1 = .ok (.istore_n 1, 1) := by decide +kernel
theorem dX1_allCharged_2 : decode cX1_allCharged 2 = .ok (.iconst 0, 1) := by decide +kernel
theorem dX1_allCharged_3 : decode cX1_allCharged 3 = .ok (.istore_n 2, 1) := by decide +kernel
theorem dX1_allCharged_4 : decode cX1_allCharged 4 = .ok (.iload_n 2, 1) := by decide +kernel
theorem dX1_allCharged_5 : decode cX1_allCharged 5 = .ok (.aload_n 0, 1) := by decide +kernel
theorem dX1_allCharged_6 : decode cX1_allCharged 6 = .ok (.getfield 26, 3) := by decide +kernel
theorem dX1_allCharged_9 : decode cX1_allCharged 9 = .ok (.invokeinterface 33 1, 5) := by decide +kernel
theorem dX1_allCharged_14 : decode cX1_allCharged 14 = .ok (.if_icmp .ge 32, 3) := by decide +kernel
theorem dX1_allCharged_17 : decode cX1_allCharged 17 = .ok (.iconst 0, 1) := by decide +kernel
theorem dX1_allCharged_18 : decode cX1_allCharged 18 = .ok (.istore_n 3, 1) := by decide +kernel
theorem dX1_allCharged_19 : decode cX1_allCharged 19 = .ok (.iload_n 3, 1) := by decide +kernel
theorem dX1_allCharged_20 : decode cX1_allCharged 20 = .ok (.bipush 10, 2) := by decide +kernel
theorem dX1_allCharged_22 : decode cX1_allCharged 22 = .ok (.if_icmp .ge 18, 3) := by decide +kernel
theorem dX1_allCharged_25 : decode cX1_allCharged 25 = .ok (.iload_n 1, 1) := by decide +kernel
theorem dX1_allCharged_26 : decode cX1_allCharged 26 = .ok (.aload_n 0, 1) := by decide +kernel
theorem dX1_allCharged_27 : decode cX1_allCharged 27 = .ok (.iload_n 2, 1) := by decide +kernel
theorem dX1_allCharged_28 : decode cX1_allCharged 28 = .ok (.iload_n 3, 1) := by decide +kernel
theorem dX1_allCharged_29 : decode cX1_allCharged 29 = .ok (.invokevirtual 95, 3) := by decide +kernel
theorem dX1_allCharged_32 : decode cX1_allCharged 32 = .ok (.iadd, 1) := by decide +kernel
theorem dX1_allCharged_33 : decode cX1_allCharged 33 = .ok (.istore_n 1, 1) := by decide +kernel
theorem dX1_allCharged_34 : decode cX1_allCharged 34 = .ok (.iinc 3 1, 3) := by decide +kernel
theorem dX1_allCharged_37 : decode cX1_allCharged 37 = .ok (.goto (-18), 3) := by decide +kernel
theorem dX1_allCharged_40 : decode cX1_allCharged 40 = .ok (.iinc 2 1, 3) := by decide +kernel
theorem dX1_allCharged_43 : decode cX1_allCharged 43 = .ok (.goto (-39), 3) := by decide +kernel
theorem dX1_allCharged_46 : decode cX1_allCharged 46 = .ok (.iload_n 1, 1) := by decide +kernel
theorem dX1_allCharged_47 : decode cX1_allCharged 47 = .ok (.ireturn, 1) := by decide +kernel
set_option maxHeartbeats 400000 in
set_option maxRecDepth 100000 in
theorem c_allCharged (l : Launch) (G : hG) (M : hM) (S : hSy) (hS : SyV G M S) (hG1 : SyG S) (cx : Nat) (am : Nat → Int32) (be yl : Nat → Nat → Int32) (lo : Nat → Int32) (hV : CesV G M S cx am be yl lo) : hCT l G yX1_allCharged cX1_allCharged 4 (Option.some FieldType.int) (hRm 6 0 0) M [.ref (sA S (100 * (cx + 1)))] (hRd M (.int (rCharges S yl))) := by
  refine hCT.of (own := RX1) (nm := "allCharged") (by decide) rfl rfl (Nat.le_of_ble_eq_true rfl) ?_
  intro p e s m args below meth c ls X Y hl
  have hx := X.1
  have hb := X.2.1
  have hl : lv_has ls 4 [(0, .ref (sA S (100 * (cx + 1))))] := hl
  obtain ⟨hN8, hM40, hLG, hCY⟩ := id hG1
  obtain ⟨hl13, he14, hl15, he16, hLa, hCl⟩ := id hS
  obtain ⟨mc13, hlo13⟩ := id hl13
  obtain ⟨mc15, hlo15⟩ := id hl15
  obtain ⟨ho, ham, ⟨fb, hfb, hbo⟩, hbr, ⟨fy, hfy, hyo⟩, hyr, hlo⟩ := id hV
  refine lv_iconst (v := 0) hx hb dX1_allCharged_0 (by decide) ?_
  refine lv_istore_n (lv' := [(1, .int 0), (0, .ref (sA S (100 * (cx + 1))))]) hx hb dX1_allCharged_1 rfl hl (by decide) rfl (fun ls hl => ?_)
  refine lv_iconst (v := 0) hx hb dX1_allCharged_2 (by decide) ?_
  refine lv_istore_n (lv' := [(2, .int 0), (1, .int 0), (0, .ref (sA S (100 * (cx + 1))))]) hx hb dX1_allCharged_3 rfl hl (by decide) rfl (fun ls hl => ?_)
  have loop : ∀ (d k : Nat), k + d = (sN S) + 1 → k ≤ (sN S) → ∀ (H : Heap) (locs : List Loc) (ls : Array Slot), hHS G M s H locs → lv_has ls 4 [(0, .ref (sA S (100 * (cx + 1)))), (1, .int (rAcc (rCharge S yl) 10 k)), (2, .int (nI k))] → W p l e (hRm 6 0 0) s m args below meth c H locs 0 0 (MQ below (hQ G (hRd M (.int (rCharges S yl)))) args s 0 0 (hA G)) (F0 m 4 ls []) := by
    intro d
    induction d with
    | zero => intro k h1 h2; exact absurd h1 (by omega)
    | succ d ih =>
      intro k h1 h2 H locs ls Y hl
      refine lv_iload_n hx hb dX1_allCharged_4 rfl (lv_at hl 2 rfl) ?_
      refine lv_aload_n hx hb dX1_allCharged_5 rfl (lv_at hl 0 rfl) ?_
      refine h_get X Y (k := 4) (v := .ref (sA S 13)) ho rfl hin_X1 (by decide) kfl_X1_26 rfl dX1_allCharged_6 ?_
      refine h_callFr (rest := [.int (nI k)]) X Y (c_size l G M (sA S 13) 13 (sA S 14) (sN S) hl13) rfl rfl (hFw_Jx4a65c_size_8abf5 X) gw_X1_33 dsi_Jx4a65c_size_8abf5 hlo13 rfl rfl rfl rfl hl.1 (Nat.le_of_ble_eq_true rfl) ⟨Nat.le_of_ble_eq_true rfl, Nat.le_of_ble_eq_true rfl⟩ ⟨Nat.le_of_ble_eq_true rfl, Nat.le_of_ble_eq_true rfl⟩ dX1_allCharged_9 (fun H locs Y => ?_)
      refine lv_icmp_ge (tgt := 46) hx hb dX1_allCharged_14 (by decide) (fun c14 => ?_) (fun c14 => ?_)
      · have c14 : (sN S) ≤ k := (nI_leI (a := (sN S)) (b := k) (by omega) (by omega)).mp c14
        have hk9 : k = (sN S) := by omega
        subst hk9
        refine lv_iload_n hx hb dX1_allCharged_46 rfl (lv_at hl 1 rfl) ?_
        exact h_iret X Y ⟨rfl, rfl⟩ (Nat.le_refl _) (Nat.le_refl _) dX1_allCharged_47
      · have c14 : ¬ (sN S) ≤ k := fun z9 => c14 ((nI_leI (a := (sN S)) (b := k) (by omega) (by omega)).mpr z9)
        refine lv_iconst (v := 0) hx hb dX1_allCharged_17 (by decide) ?_
        refine lv_istore_n (lv' := [(3, .int 0), (0, .ref (sA S (100 * (cx + 1)))), (1, .int (rAcc (rCharge S yl) 10 k)), (2, .int (nI k))]) hx hb dX1_allCharged_18 rfl hl (by decide) rfl (fun ls hl => ?_)
        have loop2 : ∀ (d y : Nat), y + d = 10 + 1 → y ≤ 10 → ∀ (H : Heap) (locs : List Loc) (ls : Array Slot), hHS G M s H locs → lv_has ls 4 [(0, .ref (sA S (100 * (cx + 1)))), (1, .int (rIn (rAcc (rCharge S yl) 10 k) (rCharge S yl k) y)), (2, .int (nI k)), (3, .int (nI y))] → W p l e (hRm 6 0 0) s m args below meth c H locs 0 0 (MQ below (hQ G (hRd M (.int (rCharges S yl)))) args s 0 0 (hA G)) (F0 m 19 ls []) := by
          intro d
          induction d with
          | zero => intro y h1 h2; exact absurd h1 (by omega)
          | succ d ih2 =>
            intro y h1 h2 H locs ls Y hl
            refine lv_iload_n hx hb dX1_allCharged_19 rfl (lv_at hl 3 rfl) ?_
            refine lv_bipush (v := 10) hx hb dX1_allCharged_20 (by decide) ?_
            refine lv_icmp_ge (tgt := 40) hx hb dX1_allCharged_22 (by decide) (fun c22 => ?_) (fun c22 => ?_)
            · have c22 : 10 ≤ y := (nI_leI (a := 10) (b := y) (by omega) (by omega)).mp c22
              have hk9 : y = 10 := by omega
              subst hk9
              refine lv_iinc (v := nI (k + 1)) (lv' := [(2, .int (nI (k + 1))), (0, .ref (sA S (100 * (cx + 1)))), (1, .int (rIn (rAcc (rCharge S yl) 10 k) (rCharge S yl k) 10)), (3, .int (nI 10))]) hx hb dX1_allCharged_40 hl (k := 2) rfl (nI_1 k) (by decide) rfl (fun ls hl => ?_)
              refine lv_goto (tgt := 4) hx hb dX1_allCharged_43 (by decide) ?_
              exact ih (k + 1) (by omega) (by omega) _ _ _ Y (lv_sub hl [1, 2, 0] rfl)
            · have c22 : ¬ 10 ≤ y := fun z9 => c22 ((nI_leI (a := 10) (b := y) (by omega) (by omega)).mpr z9)
              refine lv_iload_n hx hb dX1_allCharged_25 rfl (lv_at hl 1 rfl) ?_
              refine lv_aload_n hx hb dX1_allCharged_26 rfl (lv_at hl 0 rfl) ?_
              refine lv_iload_n hx hb dX1_allCharged_27 rfl (lv_at hl 2 rfl) ?_
              refine lv_iload_n hx hb dX1_allCharged_28 rfl (lv_at hl 3 rfl) ?_
              refine h_callVr (rest := [.int (rIn (rAcc (rCharge S yl) 10 k) (rCharge S yl k) y)]) X Y (c_chargedIn l G M S hS hG1 cx am be yl lo hV k y (by omega) (by omega)) rfl rfl gw_X1_95 dsc_X1_chargedIn ho rfl rfl rfl rfl hl.1 (Nat.le_of_ble_eq_true rfl) ⟨Nat.le_of_ble_eq_true rfl, Nat.le_of_ble_eq_true rfl⟩ ⟨Nat.le_of_ble_eq_true rfl, Nat.le_of_ble_eq_true rfl⟩ dX1_allCharged_29 (fun H locs Y => ?_)
              refine lv_iadd hx hb dX1_allCharged_32 ?_
              refine lv_istore_n (lv' := [(1, .int ((rIn (rAcc (rCharge S yl) 10 k) (rCharge S yl k) y) + (rCharge S yl k y))), (0, .ref (sA S (100 * (cx + 1)))), (2, .int (nI k)), (3, .int (nI y))]) hx hb dX1_allCharged_33 rfl hl (by decide) rfl (fun ls hl => ?_)
              refine lv_iinc (v := nI (y + 1)) (lv' := [(3, .int (nI (y + 1))), (1, .int ((rIn (rAcc (rCharge S yl) 10 k) (rCharge S yl k) y) + (rCharge S yl k y))), (0, .ref (sA S (100 * (cx + 1)))), (2, .int (nI k))]) hx hb dX1_allCharged_34 hl (k := 3) rfl (nI_1 y) (by decide) rfl (fun ls hl => ?_)
              refine lv_goto (tgt := 19) hx hb dX1_allCharged_37 (by decide) ?_
              exact ih2 (y + 1) (by omega) (by omega) _ _ _ Y (lv_sub hl [2, 1, 3, 0] rfl)
        exact loop2 (10 + 1) 0 (by omega) (by omega) _ _ _ Y (lv_sub hl [1, 2, 3, 0] rfl)
  exact loop ((sN S) + 1) 0 (by omega) (by omega) _ _ _ Y (lv_sub hl [2, 1, 0] rfl)
theorem dX1_borneClaims_0 : decode cX1_borneClaims 0 = .ok (.iconst 0, 1) := by decide +kernel
theorem dX1_borneClaims_1 : decode cX1_borneClaims 1 = .ok (.istore_n 3, 1) := by decide +kernel
theorem dX1_borneClaims_2 : decode cX1_borneClaims 2 = .ok (.iconst 0, 1) := by decide +kernel
theorem dX1_borneClaims_3 : decode cX1_borneClaims 3 = .ok (.istore 4, 2) := by decide +kernel
theorem dX1_borneClaims_5 : decode cX1_borneClaims 5 = .ok (.iload 4, 2) := by decide +kernel
theorem dX1_borneClaims_7 : decode cX1_borneClaims 7 = .ok (.aload_n 0, 1) := by decide +kernel
theorem dX1_borneClaims_8 : decode cX1_borneClaims 8 = .ok (.getfield 30, 3) := by decide +kernel
theorem dX1_borneClaims_11 : decode cX1_borneClaims 11 = .ok (.invokeinterface 33 1, 5) := by decide +kernel
theorem dX1_borneClaims_16 : decode cX1_borneClaims 16 = .ok (.if_icmp .ge 45, 3) := by decide +kernel
theorem dX1_borneClaims_19 : decode cX1_borneClaims 19 = .ok (.aload_n 0, 1) := by decide +kernel
theorem dX1_borneClaims_20 : decode cX1_borneClaims 20 = .ok (.getfield 30, 3) := by decide +kernel
theorem dX1_borneClaims_23 : decode cX1_borneClaims 23 = .ok (.iload 4, 2) := by decide +kernel
theorem dX1_borneClaims_25 : decode cX1_borneClaims 25 = .ok (.invokeinterface 43 2, 5) := by decide +kernel
theorem dX1_borneClaims_30 : decode cX1_borneClaims 30 = .ok (.checkcast 47, 3) := by decide +kernel
theorem dX1_borneClaims_33 : decode cX1_borneClaims 33 = .ok (.getfield 49, 3) := by decide +kernel
theorem dX1_borneClaims_36 : decode cX1_borneClaims 36 = .ok (.iload_n 2, 1) := by decide +kernel
theorem dX1_borneClaims_37 : decode cX1_borneClaims 37 = .ok (.if_icmp .ne 18, 3) := by decide +kernel
theorem dX1_borneClaims_40 : decode cX1_borneClaims 40 = .ok (.aload_n 0, 1) := by decide +kernel
theorem dX1_borneClaims_41 : decode cX1_borneClaims 41 = .ok (.getfield 17, 3) := by decide +kernel
theorem dX1_borneClaims_44 : decode cX1_borneClaims 44 = .ok (.iload 4, 2) := by decide +kernel
theorem dX1_borneClaims_46 : decode cX1_borneClaims 46 = .ok (.aaload, 1) := by decide +kernel
theorem dX1_borneClaims_47 : decode cX1_borneClaims 47 = .ok (.iload_n 1, 1) := by decide +kernel
theorem dX1_borneClaims_48 : decode cX1_borneClaims 48 = .ok (.iaload, 1) := by decide +kernel
theorem dX1_borneClaims_49 : decode cX1_borneClaims 49 = .ok (.ifCond .le 6, 3) := by decide +kernel
theorem dX1_borneClaims_52 : decode cX1_borneClaims 52 = .ok (.iinc 3 1, 3) := by decide +kernel
theorem dX1_borneClaims_55 : decode cX1_borneClaims 55 = .ok (.iinc 4 1, 3) := by decide +kernel
theorem dX1_borneClaims_58 : decode cX1_borneClaims 58 = .ok (.goto (-53), 3) := by decide +kernel
theorem dX1_borneClaims_61 : decode cX1_borneClaims 61 = .ok (.iload_n 3, 1) := by decide +kernel
theorem dX1_borneClaims_62 : decode cX1_borneClaims 62 = .ok (.ireturn, 1) := by decide +kernel
set_option maxHeartbeats 400000 in
set_option maxRecDepth 100000 in
theorem c_borneClaims (l : Launch) (G : hG) (M : hM) (S : hSy) (hS : SyV G M S) (hG1 : SyG S) (cx : Nat) (am : Nat → Int32) (be yl : Nat → Nat → Int32) (lo : Nat → Int32) (hV : CesV G M S cx am be yl lo) (k y : Nat) (hk : k < sN S) (hy : y < 10) : hCT l G yX1_borneClaims cX1_borneClaims 5 (Option.some FieldType.int) (hRm 4 0 0) M [.ref (sA S (100 * (cx + 1))), .int (nI k), .int (nI y)] (hRd M (.int (nI (rCount S be k y (sM S))))) := by
  refine hCT.of (own := RX1) (nm := "borneClaims") (by decide) rfl rfl (Nat.le_of_ble_eq_true rfl) ?_
  intro p e s m args below meth c ls X Y hl
  have hx := X.1
  have hb := X.2.1
  have hl : lv_has ls 5 [(0, .ref (sA S (100 * (cx + 1)))), (1, .int (nI k)), (2, .int (nI y))] := hl
  obtain ⟨hN8, hM40, hLG, hCY⟩ := id hG1
  obtain ⟨hl13, he14, hl15, he16, hLa, hCl⟩ := id hS
  obtain ⟨mc13, hlo13⟩ := id hl13
  obtain ⟨mc15, hlo15⟩ := id hl15
  obtain ⟨ho, ham, ⟨fb, hfb, hbo⟩, hbr, ⟨fy, hfy, hyo⟩, hyr, hlo⟩ := id hV
  refine lv_iconst (v := 0) hx hb dX1_borneClaims_0 (by decide) ?_
  refine lv_istore_n (lv' := [(3, .int 0), (0, .ref (sA S (100 * (cx + 1)))), (1, .int (nI k)), (2, .int (nI y))]) hx hb dX1_borneClaims_1 rfl hl (by decide) rfl (fun ls hl => ?_)
  refine lv_iconst (v := 0) hx hb dX1_borneClaims_2 (by decide) ?_
  refine lv_istore (lv' := [(4, .int 0), (3, .int 0), (0, .ref (sA S (100 * (cx + 1)))), (1, .int (nI k)), (2, .int (nI y))]) hx hb dX1_borneClaims_3 hl (by decide) rfl (fun ls hl => ?_)
  have loop : ∀ (d i : Nat), i + d = (sM S) + 1 → i ≤ (sM S) → ∀ (H : Heap) (locs : List Loc) (ls : Array Slot), hHS G M s H locs → lv_has ls 5 [(0, .ref (sA S (100 * (cx + 1)))), (1, .int (nI k)), (2, .int (nI y)), (3, .int (nI (rCount S be k y i))), (4, .int (nI i))] → W p l e (hRm 4 0 0) s m args below meth c H locs 0 0 (MQ below (hQ G (hRd M (.int (nI (rCount S be k y (sM S)))))) args s 0 0 (hA G)) (F0 m 5 ls []) := by
    intro d
    induction d with
    | zero => intro i h1 h2; exact absurd h1 (by omega)
    | succ d ih =>
      intro i h1 h2 H locs ls Y hl
      refine lv_iload hx hb dX1_borneClaims_5 (lv_at hl 4 rfl) ?_
      refine lv_aload_n hx hb dX1_borneClaims_7 rfl (lv_at hl 0 rfl) ?_
      refine h_get X Y (k := 5) (v := .ref (sA S 15)) ho rfl hin_X1 (by decide) kfl_X1_30 rfl dX1_borneClaims_8 ?_
      refine h_callFr (rest := [.int (nI i)]) X Y (c_size l G M (sA S 15) 15 (sA S 16) (sM S) hl15) rfl rfl (hFw_Jx4a65c_size_8abf5 X) gw_X1_33 dsi_Jx4a65c_size_8abf5 hlo15 rfl rfl rfl rfl hl.1 (Nat.le_of_ble_eq_true rfl) ⟨Nat.le_of_ble_eq_true rfl, Nat.le_of_ble_eq_true rfl⟩ ⟨Nat.le_of_ble_eq_true rfl, Nat.le_of_ble_eq_true rfl⟩ dX1_borneClaims_11 (fun H locs Y => ?_)
      refine lv_icmp_ge (tgt := 61) hx hb dX1_borneClaims_16 (by decide) (fun c16 => ?_) (fun c16 => ?_)
      · have c16 : (sM S) ≤ i := (nI_leI (a := (sM S)) (b := i) (by omega) (by omega)).mp c16
        have hk9 : i = (sM S) := by omega
        subst hk9
        refine lv_iload_n hx hb dX1_borneClaims_61 rfl (lv_at hl 3 rfl) ?_
        exact h_iret X Y ⟨rfl, rfl⟩ (Nat.le_refl _) (Nat.le_refl _) dX1_borneClaims_62
      · have c16 : ¬ (sM S) ≤ i := fun z9 => c16 ((nI_leI (a := (sM S)) (b := i) (by omega) (by omega)).mpr z9)
        have hcy := hCY i (by omega)
        have hrc := rCount_le S be k y i
        refine lv_aload_n hx hb dX1_borneClaims_19 rfl (lv_at hl 0 rfl) ?_
        refine h_get X Y (k := 5) (v := .ref (sA S 15)) ho rfl hin_X1 (by decide) kfl_X1_30 rfl dX1_borneClaims_20 ?_
        refine lv_iload hx hb dX1_borneClaims_23 (lv_at hl 4 rfl) ?_
        refine h_callFr (rest := []) X Y (c_get l G M (sA S 15) 15 (sA S 16) 16 (sM S) i (fun i => sA S (1000 + 10 * i)) hl15 (he16 (by omega)) (by omega)) rfl rfl (hFw_Jx4a65c_get_915e3 X) gw_X1_43 dsi_Jx4a65c_get_915e3 hlo15 rfl rfl rfl rfl hl.1 (Nat.le_of_ble_eq_true rfl) ⟨Nat.le_of_ble_eq_true rfl, Nat.le_of_ble_eq_true rfl⟩ ⟨Nat.le_of_ble_eq_true rfl, Nat.le_of_ble_eq_true rfl⟩ dX1_borneClaims_25 (fun H locs Y => ?_)
        refine h_cast X Y (hCl i (by omega)).1 rfl rfl kcl_X1_47 dX1_borneClaims_30 ?_
        refine h_get X Y (k := 0) (v := .int (nI (clY (sC S i)))) (hCl i (by omega)).1 rfl hin_X3 (by decide) kfl_X1_49 rfl dX1_borneClaims_33 ?_
        refine lv_iload_n hx hb dX1_borneClaims_36 rfl (lv_at hl 2 rfl) ?_
        refine lv_icmp_ne (tgt := 55) hx hb dX1_borneClaims_37 (by decide) (fun c37 => ?_) (fun c37 => ?_)
        · have c37 : ¬ (clY (sC S i)) = y := fun z9 => c37 ((nI_eq (a := (clY (sC S i))) (b := y) (by omega) (by omega)).mpr z9)
          have e1 : rCount S be k y (i + 1) = rCount S be k y i := if_neg (fun z9 => c37 z9.1)
          rw [← e1] at hl
          refine lv_iinc (v := nI (i + 1)) (lv' := [(4, .int (nI (i + 1))), (0, .ref (sA S (100 * (cx + 1)))), (1, .int (nI k)), (2, .int (nI y)), (3, .int (nI (rCount S be k y (i + 1))))]) hx hb dX1_borneClaims_55 hl (k := 4) rfl (nI_1 i) (by decide) rfl (fun ls hl => ?_)
          refine lv_goto (tgt := 5) hx hb dX1_borneClaims_58 (by decide) ?_
          exact ih (i + 1) (by omega) (by omega) _ _ _ Y (lv_sub hl [1, 2, 3, 4, 0] rfl)
        · have c37 : (clY (sC S i)) = y := (nI_eq (a := (clY (sC S i))) (b := y) (by omega) (by omega)).mp c37
          refine lv_aload_n hx hb dX1_borneClaims_40 rfl (lv_at hl 0 rfl) ?_
          refine h_get X Y (k := 1) (v := .ref (sA S (100 * (cx + 1) + 2))) ho rfl hin_X1 (by decide) kfl_X1_17 rfl dX1_borneClaims_41 ?_
          refine lv_iload hx hb dX1_borneClaims_44 (lv_at hl 4 rfl) ?_
          refine h_aaldI X Y (i := i) hbo (by omega) (by decide) dX1_borneClaims_46 ?_
          refine h_rf (hfb i (by omega)) ?_
          refine lv_iload_n hx hb dX1_borneClaims_47 rfl (lv_at hl 1 rfl) ?_
          refine h_iald X Y (i := k) (hbr i (by omega)) (by omega) (by decide) dX1_borneClaims_48 ?_
          refine lv_if_le (tgt := 55) hx hb dX1_borneClaims_49 (by decide) (fun c49 => ?_) (fun c49 => ?_)
          · have c49 : ¬ (0 : Int32) < be i k := fb_le c49
            have e1 : rCount S be k y (i + 1) = rCount S be k y i := if_neg (fun z9 => c49 z9.2)
            rw [← e1] at hl
            refine lv_iinc (v := nI (i + 1)) (lv' := [(4, .int (nI (i + 1))), (0, .ref (sA S (100 * (cx + 1)))), (1, .int (nI k)), (2, .int (nI y)), (3, .int (nI (rCount S be k y (i + 1))))]) hx hb dX1_borneClaims_55 hl (k := 4) rfl (nI_1 i) (by decide) rfl (fun ls hl => ?_)
            refine lv_goto (tgt := 5) hx hb dX1_borneClaims_58 (by decide) ?_
            exact ih (i + 1) (by omega) (by omega) _ _ _ Y (lv_sub hl [1, 2, 3, 4, 0] rfl)
          · have c49 : (0 : Int32) < be i k := fb_nle c49
            refine lv_iinc (v := nI ((rCount S be k y i) + 1)) (lv' := [(3, .int (nI ((rCount S be k y i) + 1))), (0, .ref (sA S (100 * (cx + 1)))), (1, .int (nI k)), (2, .int (nI y)), (4, .int (nI i))]) hx hb dX1_borneClaims_52 hl (k := 3) rfl (nI_1 (rCount S be k y i)) (by decide) rfl (fun ls hl => ?_)
            have e1 : rCount S be k y (i + 1) = rCount S be k y i + 1 := if_pos ⟨c37, c49⟩
            rw [← e1] at hl
            refine lv_iinc (v := nI (i + 1)) (lv' := [(4, .int (nI (i + 1))), (3, .int (nI (rCount S be k y (i + 1)))), (0, .ref (sA S (100 * (cx + 1)))), (1, .int (nI k)), (2, .int (nI y))]) hx hb dX1_borneClaims_55 hl (k := 4) rfl (nI_1 i) (by decide) rfl (fun ls hl => ?_)
            refine lv_goto (tgt := 5) hx hb dX1_borneClaims_58 (by decide) ?_
            exact ih (i + 1) (by omega) (by omega) _ _ _ Y (lv_sub hl [2, 3, 4, 1, 0] rfl)
  exact loop ((sM S) + 1) 0 (by omega) (by omega) _ _ _ Y (lv_sub hl [2, 3, 4, 1, 0] rfl)
