-- FORMULAS: the steps that the law's texts tell: 11 or, 12 not, 15 line, 17 amount, 24 +, 26 *, 28 <, 32 >=, 34 a number
def fOk (k : Nat) : Prop := k = 11 ∨ k = 12 ∨ k = 15 ∨ k = 17 ∨ k = 24 ∨ k = 26 ∨ k = 28 ∨ k = 32 ∨ k = 34
def fLeaf (k : Nat) (num line amount : Int32) : Int32 := if k = 15 then line else if k = 17 then amount else num
def fJoin (k : Nat) (x y : Int32) : Int32 := if k = 24 then x + y else if k = 26 then x * y else if k = 28 then (if x < y then 1 else 0) else if k = 32 then (if y ≤ x then 1 else 0) else x ||| y
abbrev hFo : Type := (Nat → Nat) × Nat × (Nat → Nat) × (Nat → Int32)
abbrev foN (F : hFo) : Nat := F.2.1
abbrev foS (F : hFo) : Nat → Nat := F.2.2.1
abbrev foI (F : hFo) : Nat → Int32 := F.2.2.2
def FoV (G : hG) (M : hM) (a t : Nat) (F : hFo) : Prop := M a = some (t, .inr (6, [.ref (F.1 0), .ref (F.1 1), .ref (F.1 2)])) ∧ (∃ f : Nat → Option Nat, (∀ i, i < foN F → f i = some (hSg G (foS F i))) ∧ M (F.1 0) = some (t + 1, .inl (hT G 3, foN F, .inr (.inr (.inr (.inr f)))))) ∧ M (F.1 1) = some (t + 2, .inl (hT G 0, foN F, .inl (foI F))) ∧ ∃ st : Nat → Int32, M (F.1 2) = some (t + 9, .inl (hT G 0, foN F, .inl st))
/-- the height of the stack ahead of a step -/
def fH (F : hFo) : Nat → Nat
  | 0 => 0
  | i + 1 => if sgOp (foS F i) = 2 then fH F i - 1 else if sgOp (foS F i) = 1 then fH F i else fH F i + 1
/-- the stack ahead of a step -/
def fSt (F : hFo) (line amount : Int32) (s0 : Nat → Int32) : Nat → Nat → Int32
  | 0 => s0
  | i + 1 => if sgOp (foS F i) = 2 then upd (fSt F line amount s0 i) (fH F i - 2) (fJoin (foS F i) (fSt F line amount s0 i (fH F i - 2)) (fSt F line amount s0 i (fH F i - 1)))
    else if sgOp (foS F i) = 1 then upd (fSt F line amount s0 i) (fH F i - 1) (1 - fSt F line amount s0 i (fH F i - 1))
    else upd (fSt F line amount s0 i) (fH F i) (fLeaf (foS F i) (foI F i) line amount)
/-- a formula that can be reckoned -/
def FoW (F : hFo) : Prop := foN F ≤ 400 ∧ (0 < fH F (foN F) ∧ fH F (foN F) ≤ foN F) ∧ 0 < foN F ∧ ∀ i, i < foN F → fOk (foS F i) ∧ (sgOp (foS F i) = 2 → 2 ≤ fH F i) ∧ (sgOp (foS F i) = 1 → 1 ≤ fH F i) ∧ fH F i ≤ foN F ∧ (¬ sgOp (foS F i) = 2 → ¬ sgOp (foS F i) = 1 → fH F i < foN F)
/-- its value -/
def FoE (F : hFo) (line amount r : Int32) : Prop := ∀ s0, fSt F line amount s0 (foN F) 0 = r
theorem fOk_lt {k : Nat} (h : fOk k) : k < 38 := by unfold fOk at h; omega
theorem fOk_2 {k : Nat} (h : fOk k) (h2 : sgOp k = 2) : k = 24 ∨ k = 26 ∨ k = 28 ∨ k = 32 ∨ k = 11 := by
  rcases h with rfl | rfl | rfl | rfl | rfl | rfl | rfl | rfl | rfl <;> first | omega | exact absurd h2 (by decide)
theorem fOk_1 {k : Nat} (h : fOk k) (h2 : sgOp k = 1) : k = 12 := by
  rcases h with rfl | rfl | rfl | rfl | rfl | rfl | rfl | rfl | rfl <;> first | omega | exact absurd h2 (by decide)
theorem fOk_0 {k : Nat} (h : fOk k) (h2 : ¬ sgOp k = 2) (h1 : ¬ sgOp k = 1) : k = 15 ∨ k = 17 ∨ k = 34 := by
  rcases h with rfl | rfl | rfl | rfl | rfl | rfl | rfl | rfl | rfl <;> first | omega | exact absurd (by decide) h2 | exact absurd (by decide) h1
theorem gu_X4_56 : GoodIn hGW (va_wsU RX4 56 "LossHouse$Sign" "java/lang/Enum" ⟨"LossHouse$Sign", "ordinal", "()I"⟩ yJx29ce0_ordinal_8abf5 (Cond.code yJx29ce0_ordinal_8abf5 cJx29ce0_ordinal_8abf5 1 (some .int) :: hGW)) := hgi5 kml_X4_56 ksm_X7_ordinal__I kse_X7_ZLossHouse_Sign_ordinal___I_Jx29ce0_ordinal_8abf5 kin_Jx29ce0_ordinal_8abf5 kini_Jx29ce0 kco_Jx29ce0_ordinal_8abf5
theorem dsu_ordinal : ("java/lang/Enum" : String) ≠ "java/lang/invoke/MethodHandle" ∧ ("java/lang/Enum" : String) ≠ "java/lang/invoke/VarHandle" ∧ (parseMethodDescriptor (⟨"LossHouse$Sign", "ordinal", "()I"⟩ : MethodName).desc).map (fun d => d.parameters.length) = some 0 := ⟨by decide +kernel, by decide +kernel, by decide +kernel⟩

theorem dX4_leaf_0 : decode cX4_leaf 0 = .ok (.getstatic 51, 3) := by decide +kernel
theorem dX4_leaf_3 : decode cX4_leaf 3 = .ok (.aload_n 1, 1) := by decide +kernel
theorem dX4_leaf_4 : decode cX4_leaf 4 = .ok (.invokevirtual 56, 3) := by decide +kernel
theorem dX4_leaf_7 : decode cX4_leaf 7 = .ok (.iaload, 1) := by decide +kernel
theorem dX4_leaf_8 : decode cX4_leaf 8 = .ok (.tableswitch 36 1 3 #[28, 30, 33], 28) := by decide +kernel
theorem dX4_leaf_36 : decode cX4_leaf 36 = .ok (.iload_n 3, 1) := by decide +kernel
theorem dX4_leaf_37 : decode cX4_leaf 37 = .ok (.ireturn, 1) := by decide +kernel
theorem dX4_leaf_41 : decode cX4_leaf 41 = .ok (.iload 5, 2) := by decide +kernel
theorem dX4_leaf_43 : decode cX4_leaf 43 = .ok (.ireturn, 1) := by decide +kernel
theorem dX4_leaf_44 : decode cX4_leaf 44 = .ok (.iload_n 2, 1) := by decide +kernel
theorem dX4_leaf_45 : decode cX4_leaf 45 = .ok (.ireturn, 1) := by decide +kernel
set_option maxHeartbeats 400000 in
set_option maxRecDepth 100000 in
/-- a leaf -/
theorem c_leaf (l : Launch) (G : hG) (M : hM) (a k : Nat) (num line year amount : Int32) (hk : k = 15 ∨ k = 17 ∨ k = 34) : hCT l G yX4_leaf cX4_leaf 6 (Option.some FieldType.int) (hRm 2 0 0) M [.ref a, .ref (hSg G k), .int num, .int line, .int year, .int amount] (hRd M (.int (fLeaf k num line amount))) := by
  refine hCT.of (own := RX4) (nm := "leaf") (by decide) rfl rfl (Nat.le_of_ble_eq_true rfl) ?_
  intro p e s m args below meth c ls X Y hl
  have hx := X.1
  have hb := X.2.1
  have hl : lv_has ls 6 [(0, .ref a), (1, .ref (hSg G k)), (2, .int num), (3, .int line), (4, .int year), (5, .int amount)] := hl
  rcases (show k = 15 ∨ k = 17 ∨ k = 34 from hk) with rfl | rfl | rfl
  · refine h_gets X Y (hsw_Z X.2.2.2.2.2.2.2.2.1 X.2.2.2.2.2.2.2.2.2.1) kfl_X4_51 dX4_leaf_0 ?_
    refine lv_aload_n hx hb dX4_leaf_3 rfl (lv_at hl 1 rfl) ?_
    refine h_callUr (rest := [.ref (hSW G)]) X Y (c_ordinal l G M 15 (by decide)) rfl rfl gu_X4_56 rfl dsu_ordinal (h_recvO Y (hsg_O X.2.2.2.2.2.2.2.2.1 X.2.2.2.2.2.2.2.2.2.1 (by decide))) rfl rfl hl.1 (Nat.le_of_ble_eq_true rfl) ⟨Nat.le_of_ble_eq_true rfl, Nat.le_of_ble_eq_true rfl⟩ ⟨Nat.le_of_ble_eq_true rfl, Nat.le_of_ble_eq_true rfl⟩ dX4_leaf_4 (fun H locs Y => ?_)
    refine h_iaT X Y (i := 15) (hsw_T X.2.2.2.2.2.2.2.2.1 X.2.2.2.2.2.2.2.2.2.1) (by decide) (by decide) dX4_leaf_7 ?_
    refine h_ev (y := nI 1) (by decide) ?_
    refine lv_tableIn (off := 28) (tgt := 36) hx hb dX4_leaf_8 (by decide) (by decide) (by decide) (by decide) ?_
    refine lv_iload_n hx hb dX4_leaf_36 rfl (lv_at hl 3 rfl) ?_
    exact h_iret X Y ⟨rfl, rfl⟩ (Nat.le_refl _) (Nat.le_refl _) dX4_leaf_37
  · refine h_gets X Y (hsw_Z X.2.2.2.2.2.2.2.2.1 X.2.2.2.2.2.2.2.2.2.1) kfl_X4_51 dX4_leaf_0 ?_
    refine lv_aload_n hx hb dX4_leaf_3 rfl (lv_at hl 1 rfl) ?_
    refine h_callUr (rest := [.ref (hSW G)]) X Y (c_ordinal l G M 17 (by decide)) rfl rfl gu_X4_56 rfl dsu_ordinal (h_recvO Y (hsg_O X.2.2.2.2.2.2.2.2.1 X.2.2.2.2.2.2.2.2.2.1 (by decide))) rfl rfl hl.1 (Nat.le_of_ble_eq_true rfl) ⟨Nat.le_of_ble_eq_true rfl, Nat.le_of_ble_eq_true rfl⟩ ⟨Nat.le_of_ble_eq_true rfl, Nat.le_of_ble_eq_true rfl⟩ dX4_leaf_4 (fun H locs Y => ?_)
    refine h_iaT X Y (i := 17) (hsw_T X.2.2.2.2.2.2.2.2.1 X.2.2.2.2.2.2.2.2.2.1) (by decide) (by decide) dX4_leaf_7 ?_
    refine h_ev (y := nI 3) (by decide) ?_
    refine lv_tableIn (off := 33) (tgt := 41) hx hb dX4_leaf_8 (by decide) (by decide) (by decide) (by decide) ?_
    refine lv_iload hx hb dX4_leaf_41 (lv_at hl 5 rfl) ?_
    exact h_iret X Y ⟨rfl, rfl⟩ (Nat.le_refl _) (Nat.le_refl _) dX4_leaf_43
  · refine h_gets X Y (hsw_Z X.2.2.2.2.2.2.2.2.1 X.2.2.2.2.2.2.2.2.2.1) kfl_X4_51 dX4_leaf_0 ?_
    refine lv_aload_n hx hb dX4_leaf_3 rfl (lv_at hl 1 rfl) ?_
    refine h_callUr (rest := [.ref (hSW G)]) X Y (c_ordinal l G M 34 (by decide)) rfl rfl gu_X4_56 rfl dsu_ordinal (h_recvO Y (hsg_O X.2.2.2.2.2.2.2.2.1 X.2.2.2.2.2.2.2.2.2.1 (by decide))) rfl rfl hl.1 (Nat.le_of_ble_eq_true rfl) ⟨Nat.le_of_ble_eq_true rfl, Nat.le_of_ble_eq_true rfl⟩ ⟨Nat.le_of_ble_eq_true rfl, Nat.le_of_ble_eq_true rfl⟩ dX4_leaf_4 (fun H locs Y => ?_)
    refine h_iaT X Y (i := 34) (hsw_T X.2.2.2.2.2.2.2.2.1 X.2.2.2.2.2.2.2.2.2.1) (by decide) (by decide) dX4_leaf_7 ?_
    refine h_ev (y := nI 0) (by decide) ?_
    refine lv_tableOut (tgt := 44) hx hb dX4_leaf_8 (by decide) (by decide) ?_
    refine lv_iload_n hx hb dX4_leaf_44 rfl (lv_at hl 2 rfl) ?_
    exact h_iret X Y ⟨rfl, rfl⟩ (Nat.le_refl _) (Nat.le_refl _) dX4_leaf_45
theorem fb_le {x y : Int32} (h : y ≤ x) : ¬ x < y := fun q => absurd (Int32.lt_iff_toInt_lt.mp q) (by have := Int32.le_iff_toInt_le.mp h; omega)
theorem fb_lt {x y : Int32} (h : x < y) : ¬ y ≤ x := fun q => absurd (Int32.lt_iff_toInt_lt.mp h) (by have := Int32.le_iff_toInt_le.mp q; omega)
theorem fb_nle {x y : Int32} (h : ¬ y ≤ x) : x < y := Int32.lt_iff_toInt_lt.mpr (by have := mt Int32.le_iff_toInt_le.mpr h; omega)
theorem fb_nlt {x y : Int32} (h : ¬ x < y) : y ≤ x := Int32.le_iff_toInt_le.mpr (by have := mt Int32.lt_iff_toInt_lt.mpr h; omega)
theorem dX4_join_0 : decode cX4_join 0 = .ok (.getstatic 51, 3) := by decide +kernel
theorem dX4_join_3 : decode cX4_join 3 = .ok (.aload_n 1, 1) := by decide +kernel
theorem dX4_join_4 : decode cX4_join 4 = .ok (.invokevirtual 56, 3) := by decide +kernel
theorem dX4_join_7 : decode cX4_join 7 = .ok (.iaload, 1) := by decide +kernel
theorem dX4_join_8 : decode cX4_join 8 = .ok (.tableswitch 177 4 16 #[68, 72, 76, 80, 92, 103, 114, 125, 136, 147, 158, 169, 173], 68) := by decide +kernel
theorem dX4_join_76 : decode cX4_join 76 = .ok (.iload_n 2, 1) := by decide +kernel
theorem dX4_join_77 : decode cX4_join 77 = .ok (.iload_n 3, 1) := by decide +kernel
theorem dX4_join_78 : decode cX4_join 78 = .ok (.iadd, 1) := by decide +kernel
theorem dX4_join_79 : decode cX4_join 79 = .ok (.ireturn, 1) := by decide +kernel
theorem dX4_join_84 : decode cX4_join 84 = .ok (.iload_n 2, 1) := by decide +kernel
theorem dX4_join_85 : decode cX4_join 85 = .ok (.iload_n 3, 1) := by decide +kernel
theorem dX4_join_86 : decode cX4_join 86 = .ok (.imul, 1) := by decide +kernel
theorem dX4_join_87 : decode cX4_join 87 = .ok (.ireturn, 1) := by decide +kernel
theorem dX4_join_122 : decode cX4_join 122 = .ok (.iload_n 2, 1) := by decide +kernel
theorem dX4_join_123 : decode cX4_join 123 = .ok (.iload_n 3, 1) := by decide +kernel
theorem dX4_join_124 : decode cX4_join 124 = .ok (.if_icmp .ge 7, 3) := by decide +kernel
theorem dX4_join_127 : decode cX4_join 127 = .ok (.iconst 1, 1) := by decide +kernel
theorem dX4_join_128 : decode cX4_join 128 = .ok (.goto 4, 3) := by decide +kernel
theorem dX4_join_131 : decode cX4_join 131 = .ok (.iconst 0, 1) := by decide +kernel
theorem dX4_join_132 : decode cX4_join 132 = .ok (.ireturn, 1) := by decide +kernel
theorem dX4_join_166 : decode cX4_join 166 = .ok (.iload_n 2, 1) := by decide +kernel
theorem dX4_join_167 : decode cX4_join 167 = .ok (.iload_n 3, 1) := by decide +kernel
theorem dX4_join_168 : decode cX4_join 168 = .ok (.if_icmp .lt 7, 3) := by decide +kernel
theorem dX4_join_171 : decode cX4_join 171 = .ok (.iconst 1, 1) := by decide +kernel
theorem dX4_join_172 : decode cX4_join 172 = .ok (.goto 4, 3) := by decide +kernel
theorem dX4_join_175 : decode cX4_join 175 = .ok (.iconst 0, 1) := by decide +kernel
theorem dX4_join_176 : decode cX4_join 176 = .ok (.ireturn, 1) := by decide +kernel
theorem dX4_join_181 : decode cX4_join 181 = .ok (.iload_n 2, 1) := by decide +kernel
theorem dX4_join_182 : decode cX4_join 182 = .ok (.iload_n 3, 1) := by decide +kernel
theorem dX4_join_183 : decode cX4_join 183 = .ok (.ior, 1) := by decide +kernel
theorem dX4_join_184 : decode cX4_join 184 = .ok (.ireturn, 1) := by decide +kernel
set_option maxHeartbeats 400000 in
set_option maxRecDepth 100000 in
/-- two numbers joined -/
theorem c_join (l : Launch) (G : hG) (M : hM) (a k : Nat) (x y : Int32) (hk : k = 24 ∨ k = 26 ∨ k = 28 ∨ k = 32 ∨ k = 11) : hCT l G yX4_join cX4_join 4 (Option.some FieldType.int) (hRm 2 0 0) M [.ref a, .ref (hSg G k), .int x, .int y] (hRd M (.int (fJoin k x y))) := by
  refine hCT.of (own := RX4) (nm := "join") (by decide) rfl rfl (Nat.le_of_ble_eq_true rfl) ?_
  intro p e s m args below meth c ls X Y hl
  have hx := X.1
  have hb := X.2.1
  have hl : lv_has ls 4 [(0, .ref a), (1, .ref (hSg G k)), (2, .int x), (3, .int y)] := hl
  rcases (show k = 24 ∨ k = 26 ∨ k = 28 ∨ k = 32 ∨ k = 11 from hk) with rfl | rfl | rfl | rfl | rfl
  · refine h_gets X Y (hsw_Z X.2.2.2.2.2.2.2.2.1 X.2.2.2.2.2.2.2.2.2.1) kfl_X4_51 dX4_join_0 ?_
    refine lv_aload_n hx hb dX4_join_3 rfl (lv_at hl 1 rfl) ?_
    refine h_callUr (rest := [.ref (hSW G)]) X Y (c_ordinal l G M 24 (by decide)) rfl rfl gu_X4_56 rfl dsu_ordinal (h_recvO Y (hsg_O X.2.2.2.2.2.2.2.2.1 X.2.2.2.2.2.2.2.2.2.1 (by decide))) rfl rfl hl.1 (Nat.le_of_ble_eq_true rfl) ⟨Nat.le_of_ble_eq_true rfl, Nat.le_of_ble_eq_true rfl⟩ ⟨Nat.le_of_ble_eq_true rfl, Nat.le_of_ble_eq_true rfl⟩ dX4_join_4 (fun H locs Y => ?_)
    refine h_iaT X Y (i := 24) (hsw_T X.2.2.2.2.2.2.2.2.1 X.2.2.2.2.2.2.2.2.2.1) (by decide) (by decide) dX4_join_7 ?_
    refine h_ev (y := nI 4) (by decide) ?_
    refine lv_tableIn (off := 68) (tgt := 76) hx hb dX4_join_8 (by decide) (by decide) (by decide) (by decide) ?_
    refine lv_iload_n hx hb dX4_join_76 rfl (lv_at hl 2 rfl) ?_
    refine lv_iload_n hx hb dX4_join_77 rfl (lv_at hl 3 rfl) ?_
    refine lv_iadd hx hb dX4_join_78 ?_
    exact h_iret X Y ⟨rfl, rfl⟩ (Nat.le_refl _) (Nat.le_refl _) dX4_join_79
  · refine h_gets X Y (hsw_Z X.2.2.2.2.2.2.2.2.1 X.2.2.2.2.2.2.2.2.2.1) kfl_X4_51 dX4_join_0 ?_
    refine lv_aload_n hx hb dX4_join_3 rfl (lv_at hl 1 rfl) ?_
    refine h_callUr (rest := [.ref (hSW G)]) X Y (c_ordinal l G M 26 (by decide)) rfl rfl gu_X4_56 rfl dsu_ordinal (h_recvO Y (hsg_O X.2.2.2.2.2.2.2.2.1 X.2.2.2.2.2.2.2.2.2.1 (by decide))) rfl rfl hl.1 (Nat.le_of_ble_eq_true rfl) ⟨Nat.le_of_ble_eq_true rfl, Nat.le_of_ble_eq_true rfl⟩ ⟨Nat.le_of_ble_eq_true rfl, Nat.le_of_ble_eq_true rfl⟩ dX4_join_4 (fun H locs Y => ?_)
    refine h_iaT X Y (i := 26) (hsw_T X.2.2.2.2.2.2.2.2.1 X.2.2.2.2.2.2.2.2.2.1) (by decide) (by decide) dX4_join_7 ?_
    refine h_ev (y := nI 6) (by decide) ?_
    refine lv_tableIn (off := 76) (tgt := 84) hx hb dX4_join_8 (by decide) (by decide) (by decide) (by decide) ?_
    refine lv_iload_n hx hb dX4_join_84 rfl (lv_at hl 2 rfl) ?_
    refine lv_iload_n hx hb dX4_join_85 rfl (lv_at hl 3 rfl) ?_
    refine lv_imul hx hb dX4_join_86 ?_
    exact h_iret X Y ⟨rfl, rfl⟩ (Nat.le_refl _) (Nat.le_refl _) dX4_join_87
  · refine h_gets X Y (hsw_Z X.2.2.2.2.2.2.2.2.1 X.2.2.2.2.2.2.2.2.2.1) kfl_X4_51 dX4_join_0 ?_
    refine lv_aload_n hx hb dX4_join_3 rfl (lv_at hl 1 rfl) ?_
    refine h_callUr (rest := [.ref (hSW G)]) X Y (c_ordinal l G M 28 (by decide)) rfl rfl gu_X4_56 rfl dsu_ordinal (h_recvO Y (hsg_O X.2.2.2.2.2.2.2.2.1 X.2.2.2.2.2.2.2.2.2.1 (by decide))) rfl rfl hl.1 (Nat.le_of_ble_eq_true rfl) ⟨Nat.le_of_ble_eq_true rfl, Nat.le_of_ble_eq_true rfl⟩ ⟨Nat.le_of_ble_eq_true rfl, Nat.le_of_ble_eq_true rfl⟩ dX4_join_4 (fun H locs Y => ?_)
    refine h_iaT X Y (i := 28) (hsw_T X.2.2.2.2.2.2.2.2.1 X.2.2.2.2.2.2.2.2.2.1) (by decide) (by decide) dX4_join_7 ?_
    refine h_ev (y := nI 10) (by decide) ?_
    refine lv_tableIn (off := 114) (tgt := 122) hx hb dX4_join_8 (by decide) (by decide) (by decide) (by decide) ?_
    refine lv_iload_n hx hb dX4_join_122 rfl (lv_at hl 2 rfl) ?_
    refine lv_iload_n hx hb dX4_join_123 rfl (lv_at hl 3 rfl) ?_
    refine lv_icmp_ge (tgt := 131) hx hb dX4_join_124 (by decide) (fun c124 => ?_) (fun c124 => ?_)
    · refine lv_iconst (v := 0) hx hb dX4_join_131 (by decide) ?_
      exact h_iret X Y ⟨congrArg (fun z => some (Value.int z)) (if_neg (fb_le c124)).symm, rfl⟩ (Nat.le_refl _) (Nat.le_refl _) dX4_join_132
    · refine lv_iconst (v := 1) hx hb dX4_join_127 (by decide) ?_
      refine lv_goto (tgt := 132) hx hb dX4_join_128 (by decide) ?_
      exact h_iret X Y ⟨congrArg (fun z => some (Value.int z)) (if_pos (fb_nle c124)).symm, rfl⟩ (Nat.le_refl _) (Nat.le_refl _) dX4_join_132
  · refine h_gets X Y (hsw_Z X.2.2.2.2.2.2.2.2.1 X.2.2.2.2.2.2.2.2.2.1) kfl_X4_51 dX4_join_0 ?_
    refine lv_aload_n hx hb dX4_join_3 rfl (lv_at hl 1 rfl) ?_
    refine h_callUr (rest := [.ref (hSW G)]) X Y (c_ordinal l G M 32 (by decide)) rfl rfl gu_X4_56 rfl dsu_ordinal (h_recvO Y (hsg_O X.2.2.2.2.2.2.2.2.1 X.2.2.2.2.2.2.2.2.2.1 (by decide))) rfl rfl hl.1 (Nat.le_of_ble_eq_true rfl) ⟨Nat.le_of_ble_eq_true rfl, Nat.le_of_ble_eq_true rfl⟩ ⟨Nat.le_of_ble_eq_true rfl, Nat.le_of_ble_eq_true rfl⟩ dX4_join_4 (fun H locs Y => ?_)
    refine h_iaT X Y (i := 32) (hsw_T X.2.2.2.2.2.2.2.2.1 X.2.2.2.2.2.2.2.2.2.1) (by decide) (by decide) dX4_join_7 ?_
    refine h_ev (y := nI 14) (by decide) ?_
    refine lv_tableIn (off := 158) (tgt := 166) hx hb dX4_join_8 (by decide) (by decide) (by decide) (by decide) ?_
    refine lv_iload_n hx hb dX4_join_166 rfl (lv_at hl 2 rfl) ?_
    refine lv_iload_n hx hb dX4_join_167 rfl (lv_at hl 3 rfl) ?_
    refine lv_icmp_lt (tgt := 175) hx hb dX4_join_168 (by decide) (fun c168 => ?_) (fun c168 => ?_)
    · refine lv_iconst (v := 0) hx hb dX4_join_175 (by decide) ?_
      exact h_iret X Y ⟨congrArg (fun z => some (Value.int z)) (if_neg (fb_lt c168)).symm, rfl⟩ (Nat.le_refl _) (Nat.le_refl _) dX4_join_176
    · refine lv_iconst (v := 1) hx hb dX4_join_171 (by decide) ?_
      refine lv_goto (tgt := 176) hx hb dX4_join_172 (by decide) ?_
      exact h_iret X Y ⟨congrArg (fun z => some (Value.int z)) (if_pos (fb_nlt c168)).symm, rfl⟩ (Nat.le_refl _) (Nat.le_refl _) dX4_join_176
  · refine h_gets X Y (hsw_Z X.2.2.2.2.2.2.2.2.1 X.2.2.2.2.2.2.2.2.2.1) kfl_X4_51 dX4_join_0 ?_
    refine lv_aload_n hx hb dX4_join_3 rfl (lv_at hl 1 rfl) ?_
    refine h_callUr (rest := [.ref (hSW G)]) X Y (c_ordinal l G M 11 (by decide)) rfl rfl gu_X4_56 rfl dsu_ordinal (h_recvO Y (hsg_O X.2.2.2.2.2.2.2.2.1 X.2.2.2.2.2.2.2.2.2.1 (by decide))) rfl rfl hl.1 (Nat.le_of_ble_eq_true rfl) ⟨Nat.le_of_ble_eq_true rfl, Nat.le_of_ble_eq_true rfl⟩ ⟨Nat.le_of_ble_eq_true rfl, Nat.le_of_ble_eq_true rfl⟩ dX4_join_4 (fun H locs Y => ?_)
    refine h_iaT X Y (i := 11) (hsw_T X.2.2.2.2.2.2.2.2.1 X.2.2.2.2.2.2.2.2.2.1) (by decide) (by decide) dX4_join_7 ?_
    refine h_ev (y := nI 16) (by decide) ?_
    refine lv_tableIn (off := 173) (tgt := 181) hx hb dX4_join_8 (by decide) (by decide) (by decide) (by decide) ?_
    refine lv_iload_n hx hb dX4_join_181 rfl (lv_at hl 2 rfl) ?_
    refine lv_iload_n hx hb dX4_join_182 rfl (lv_at hl 3 rfl) ?_
    refine lv_ior hx hb dX4_join_183 ?_
    exact h_iret X Y ⟨rfl, rfl⟩ (Nat.le_refl _) (Nat.le_refl _) dX4_join_184
theorem gw_X4_43 : GoodIn hGW (wsV RX4 43 RX4 yX4_leaf (Cond.code yX4_leaf cX4_leaf 6 (Option.some FieldType.int) :: hGW)) := hgi4 kml_X4_43 kin_X4_leaf kse_X4_X4_leaf_X4_leaf kini_X4 kco_X4_leaf
theorem dsc_X4_leaf : yX4_leaf.cls = RX4 ∧ yX4_leaf.cls ≠ "java/lang/invoke/MethodHandle" ∧ yX4_leaf.cls ≠ "java/lang/invoke/VarHandle" ∧ (parseMethodDescriptor yX4_leaf.desc).map (fun d => d.parameters.length) = some 5 := ⟨rfl, by decide +kernel, by decide +kernel, by decide +kernel⟩
theorem gw_X4_35 : GoodIn hGW (wsV RX4 35 RX4 yX4_join (Cond.code yX4_join cX4_join 4 (Option.some FieldType.int) :: hGW)) := hgi4 kml_X4_35 kin_X4_join kse_X4_X4_join_X4_join kini_X4 kco_X4_join
theorem dsc_X4_join : yX4_join.cls = RX4 ∧ yX4_join.cls ≠ "java/lang/invoke/MethodHandle" ∧ yX4_join.cls ≠ "java/lang/invoke/VarHandle" ∧ (parseMethodDescriptor yX4_join.desc).map (fun d => d.parameters.length) = some 3 := ⟨rfl, by decide +kernel, by decide +kernel, by decide +kernel⟩
theorem dX4_value_0 : decode cX4_value 0 = .ok (.iconst 0, 1) := by decide +kernel
theorem dX4_value_1 : decode cX4_value 1 = .ok (.istore 4, 2) := by decide +kernel
theorem dX4_value_3 : decode cX4_value 3 = .ok (.iconst 0, 1) := by decide +kernel
theorem dX4_value_4 : decode cX4_value 4 = .ok (.istore 5, 2) := by decide +kernel
theorem dX4_value_6 : decode cX4_value 6 = .ok (.iload 5, 2) := by decide +kernel
theorem dX4_value_8 : decode cX4_value 8 = .ok (.aload_n 0, 1) := by decide +kernel
theorem dX4_value_9 : decode cX4_value 9 = .ok (.getfield 18, 3) := by decide +kernel
theorem dX4_value_12 : decode cX4_value 12 = .ok (.arraylength, 1) := by decide +kernel
theorem dX4_value_13 : decode cX4_value 13 = .ok (.if_icmp .ge 165, 3) := by decide +kernel
theorem dX4_value_16 : decode cX4_value 16 = .ok (.aload_n 0, 1) := by decide +kernel
theorem dX4_value_17 : decode cX4_value 17 = .ok (.getfield 18, 3) := by decide +kernel
theorem dX4_value_20 : decode cX4_value 20 = .ok (.iload 5, 2) := by decide +kernel
theorem dX4_value_22 : decode cX4_value 22 = .ok (.aaload, 1) := by decide +kernel
theorem dX4_value_23 : decode cX4_value 23 = .ok (.astore 6, 2) := by decide +kernel
theorem dX4_value_25 : decode cX4_value 25 = .ok (.aload 6, 2) := by decide +kernel
theorem dX4_value_27 : decode cX4_value 27 = .ok (.getfield 31, 3) := by decide +kernel
theorem dX4_value_30 : decode cX4_value 30 = .ok (.iconst 2, 1) := by decide +kernel
theorem dX4_value_31 : decode cX4_value 31 = .ok (.if_icmp .ne 46, 3) := by decide +kernel
theorem dX4_value_34 : decode cX4_value 34 = .ok (.iload 4, 2) := by decide +kernel
theorem dX4_value_36 : decode cX4_value 36 = .ok (.iconst 2, 1) := by decide +kernel
theorem dX4_value_37 : decode cX4_value 37 = .ok (.if_icmp .lt 40, 3) := by decide +kernel
theorem dX4_value_40 : decode cX4_value 40 = .ok (.iinc 4 (-1), 3) := by decide +kernel
theorem dX4_value_43 : decode cX4_value 43 = .ok (.aload_n 0, 1) := by decide +kernel
theorem dX4_value_44 : decode cX4_value 44 = .ok (.getfield 28, 3) := by decide +kernel
theorem dX4_value_47 : decode cX4_value 47 = .ok (.iload 4, 2) := by decide +kernel
theorem dX4_value_49 : decode cX4_value 49 = .ok (.iconst 1, 1) := by decide +kernel
theorem dX4_value_50 : decode cX4_value 50 = .ok (.isub, 1) := by decide +kernel
theorem dX4_value_51 : decode cX4_value 51 = .ok (.aload_n 0, 1) := by decide +kernel
theorem dX4_value_52 : decode cX4_value 52 = .ok (.aload 6, 2) := by decide +kernel
theorem dX4_value_54 : decode cX4_value 54 = .ok (.aload_n 0, 1) := by decide +kernel
theorem dX4_value_55 : decode cX4_value 55 = .ok (.getfield 28, 3) := by decide +kernel
theorem dX4_value_58 : decode cX4_value 58 = .ok (.iload 4, 2) := by decide +kernel
theorem dX4_value_60 : decode cX4_value 60 = .ok (.iconst 1, 1) := by decide +kernel
theorem dX4_value_61 : decode cX4_value 61 = .ok (.isub, 1) := by decide +kernel
theorem dX4_value_62 : decode cX4_value 62 = .ok (.iaload, 1) := by decide +kernel
theorem dX4_value_63 : decode cX4_value 63 = .ok (.aload_n 0, 1) := by decide +kernel
theorem dX4_value_64 : decode cX4_value 64 = .ok (.getfield 28, 3) := by decide +kernel
theorem dX4_value_67 : decode cX4_value 67 = .ok (.iload 4, 2) := by decide +kernel
theorem dX4_value_69 : decode cX4_value 69 = .ok (.iaload, 1) := by decide +kernel
theorem dX4_value_70 : decode cX4_value 70 = .ok (.invokevirtual 35, 3) := by decide +kernel
theorem dX4_value_73 : decode cX4_value 73 = .ok (.iastore, 1) := by decide +kernel
theorem dX4_value_74 : decode cX4_value 74 = .ok (.goto 98, 3) := by decide +kernel
theorem dX4_value_77 : decode cX4_value 77 = .ok (.aload 6, 2) := by decide +kernel
theorem dX4_value_79 : decode cX4_value 79 = .ok (.getfield 31, 3) := by decide +kernel
theorem dX4_value_82 : decode cX4_value 82 = .ok (.iconst 1, 1) := by decide +kernel
theorem dX4_value_83 : decode cX4_value 83 = .ok (.if_icmp .ne 53, 3) := by decide +kernel
theorem dX4_value_86 : decode cX4_value 86 = .ok (.iload 4, 2) := by decide +kernel
theorem dX4_value_88 : decode cX4_value 88 = .ok (.iconst 1, 1) := by decide +kernel
theorem dX4_value_89 : decode cX4_value 89 = .ok (.if_icmp .lt 47, 3) := by decide +kernel
theorem dX4_value_92 : decode cX4_value 92 = .ok (.aload_n 0, 1) := by decide +kernel
theorem dX4_value_93 : decode cX4_value 93 = .ok (.getfield 28, 3) := by decide +kernel
theorem dX4_value_96 : decode cX4_value 96 = .ok (.iload 4, 2) := by decide +kernel
theorem dX4_value_98 : decode cX4_value 98 = .ok (.iconst 1, 1) := by decide +kernel
theorem dX4_value_99 : decode cX4_value 99 = .ok (.isub, 1) := by decide +kernel
theorem dX4_value_100 : decode cX4_value 100 = .ok (.aload 6, 2) := by decide +kernel
theorem dX4_value_102 : decode cX4_value 102 = .ok (.getstatic 39, 3) := by decide +kernel
theorem dX4_value_105 : decode cX4_value 105 = .ok (.if_acmp .ne 17, 3) := by decide +kernel
theorem dX4_value_108 : decode cX4_value 108 = .ok (.iconst 1, 1) := by decide +kernel
theorem dX4_value_109 : decode cX4_value 109 = .ok (.aload_n 0, 1) := by decide +kernel
theorem dX4_value_110 : decode cX4_value 110 = .ok (.getfield 28, 3) := by decide +kernel
theorem dX4_value_113 : decode cX4_value 113 = .ok (.iload 4, 2) := by decide +kernel
theorem dX4_value_115 : decode cX4_value 115 = .ok (.iconst 1, 1) := by decide +kernel
theorem dX4_value_116 : decode cX4_value 116 = .ok (.isub, 1) := by decide +kernel
theorem dX4_value_117 : decode cX4_value 117 = .ok (.iaload, 1) := by decide +kernel
theorem dX4_value_118 : decode cX4_value 118 = .ok (.isub, 1) := by decide +kernel
theorem dX4_value_119 : decode cX4_value 119 = .ok (.goto 13, 3) := by decide +kernel
theorem dX4_value_132 : decode cX4_value 132 = .ok (.iastore, 1) := by decide +kernel
theorem dX4_value_133 : decode cX4_value 133 = .ok (.goto 39, 3) := by decide +kernel
theorem dX4_value_136 : decode cX4_value 136 = .ok (.iload 4, 2) := by decide +kernel
theorem dX4_value_138 : decode cX4_value 138 = .ok (.aload_n 0, 1) := by decide +kernel
theorem dX4_value_139 : decode cX4_value 139 = .ok (.getfield 28, 3) := by decide +kernel
theorem dX4_value_142 : decode cX4_value 142 = .ok (.arraylength, 1) := by decide +kernel
theorem dX4_value_143 : decode cX4_value 143 = .ok (.if_icmp .ge 29, 3) := by decide +kernel
theorem dX4_value_146 : decode cX4_value 146 = .ok (.aload_n 0, 1) := by decide +kernel
theorem dX4_value_147 : decode cX4_value 147 = .ok (.getfield 28, 3) := by decide +kernel
theorem dX4_value_150 : decode cX4_value 150 = .ok (.iload 4, 2) := by decide +kernel
theorem dX4_value_152 : decode cX4_value 152 = .ok (.aload_n 0, 1) := by decide +kernel
theorem dX4_value_153 : decode cX4_value 153 = .ok (.aload 6, 2) := by decide +kernel
theorem dX4_value_155 : decode cX4_value 155 = .ok (.aload_n 0, 1) := by decide +kernel
theorem dX4_value_156 : decode cX4_value 156 = .ok (.getfield 24, 3) := by decide +kernel
theorem dX4_value_159 : decode cX4_value 159 = .ok (.iload 5, 2) := by decide +kernel
theorem dX4_value_161 : decode cX4_value 161 = .ok (.iaload, 1) := by decide +kernel
theorem dX4_value_162 : decode cX4_value 162 = .ok (.iload_n 1, 1) := by decide +kernel
theorem dX4_value_163 : decode cX4_value 163 = .ok (.iload_n 2, 1) := by decide +kernel
theorem dX4_value_164 : decode cX4_value 164 = .ok (.iload_n 3, 1) := by decide +kernel
theorem dX4_value_165 : decode cX4_value 165 = .ok (.invokevirtual 43, 3) := by decide +kernel
theorem dX4_value_168 : decode cX4_value 168 = .ok (.iastore, 1) := by decide +kernel
theorem dX4_value_169 : decode cX4_value 169 = .ok (.iinc 4 1, 3) := by decide +kernel
theorem dX4_value_172 : decode cX4_value 172 = .ok (.iinc 5 1, 3) := by decide +kernel
theorem dX4_value_175 : decode cX4_value 175 = .ok (.goto (-169), 3) := by decide +kernel
theorem dX4_value_178 : decode cX4_value 178 = .ok (.iload 4, 2) := by decide +kernel
theorem dX4_value_180 : decode cX4_value 180 = .ok (.ifCond .le 12, 3) := by decide +kernel
theorem dX4_value_183 : decode cX4_value 183 = .ok (.aload_n 0, 1) := by decide +kernel
theorem dX4_value_184 : decode cX4_value 184 = .ok (.getfield 28, 3) := by decide +kernel
theorem dX4_value_187 : decode cX4_value 187 = .ok (.iconst 0, 1) := by decide +kernel
theorem dX4_value_188 : decode cX4_value 188 = .ok (.iaload, 1) := by decide +kernel
theorem dX4_value_189 : decode cX4_value 189 = .ok (.goto 4, 3) := by decide +kernel
theorem dX4_value_193 : decode cX4_value 193 = .ok (.ireturn, 1) := by decide +kernel
set_option maxHeartbeats 400000 in
set_option maxRecDepth 100000 in
/-- the value of a formula: its stack alone is written -/
theorem c_value (l : Launch) (G : hG) (M : hM) (a t : Nat) (F : hFo) (hF : FoV G M a t F) (hW : FoW F) (line year amount r : Int32) (hE : FoE F line amount r) : hCT l G yX4_value cX4_value 7 (Option.some FieldType.int) (hRm 3 0 0) M [.ref a, .int line, .int year, .int amount] (fun v M' => v = some (.int r) ∧ hSim G (fun u => u = t + 9) M M') := by
  refine hCT.of (own := RX4) (nm := "value") (by decide) rfl rfl (Nat.le_of_ble_eq_true rfl) ?_
  intro p e s m args below meth c ls X Y hl
  have hx := X.1
  have hb := X.2.1
  have hl : lv_has ls 7 [(0, .ref a), (1, .int line), (2, .int year), (3, .int amount)] := hl
  obtain ⟨fo, ⟨f, hf, fs⟩, fn, s0, fk⟩ := id hF
  obtain ⟨hn, hh, hn0, hw⟩ := id hW
  have Y : hHS G (hup M (F.1 2) (t + 9, .inl (hT G 0, foN F, .inl s0))) s s.heap [] := by rw [hup_self fk]; exact Y
  refine lv_iconst (v := 0) hx hb dX4_value_0 (by decide) ?_
  refine lv_istore (lv' := [(4, .int 0), (0, .ref a), (1, .int line), (2, .int year), (3, .int amount)]) hx hb dX4_value_1 hl (by decide) rfl (fun ls hl => ?_)
  refine lv_iconst (v := 0) hx hb dX4_value_3 (by decide) ?_
  refine lv_istore (lv' := [(5, .int 0), (4, .int 0), (0, .ref a), (1, .int line), (2, .int year), (3, .int amount)]) hx hb dX4_value_4 hl (by decide) rfl (fun ls hl => ?_)
  have loop : ∀ (d i : Nat), i + d = foN F + 1 → i ≤ foN F → ∀ (H : Heap) (locs : List Loc) (ls : Array Slot), hHS G (hup M (F.1 2) (t + 9, .inl (hT G 0, foN F, .inl (fSt F line amount s0 i)))) s H locs → lv_has ls 7 [(0, .ref a), (1, .int line), (2, .int year), (3, .int amount), (4, .int (nI (fH F i))), (5, .int (nI i))] → W p l e (hRm 3 0 0) s m args below meth c H locs 0 0 (MQ below (hQ G (fun v M' => v = some (.int r) ∧ hSim G (fun u => u = t + 9) M M')) args s 0 0 (hA G)) (F0 m 6 ls []) := by
    intro d
    induction d with
    | zero => intro i h1 h2; exact absurd h1 (by omega)
    | succ d ih =>
      intro i h1 h2 H locs ls Y hl
      refine lv_iload hx hb dX4_value_6 (lv_at hl 5 rfl) ?_
      refine lv_aload_n hx hb dX4_value_8 rfl (lv_at hl 0 rfl) ?_
      refine h_get X Y (k := 0) (v := .ref (F.1 0)) (hup_tag fo fk (by omega)) rfl hin_X4 (by decide) kfl_X4_18 rfl dX4_value_9 ?_
      refine h_alen X Y 3 (hup_tag fs fk (by omega)) rfl dX4_value_12 ?_
      refine lv_icmp_ge (tgt := 178) hx hb dX4_value_13 (by decide) (fun c13 => ?_) (fun c13 => ?_)
      · have c13 : (foN F) ≤ i := (nI_leI (a := (foN F)) (b := i) (by omega) (by omega)).mp c13
        have hk9 : i = foN F := by omega
        subst hk9
        refine lv_iload hx hb dX4_value_178 (lv_at hl 4 rfl) ?_
        refine lv_if_le (tgt := 192) hx hb dX4_value_180 (by decide) (fun c180 => absurd (show nI (fH F (foN F)) ≤ nI 0 from c180) (fun q => absurd ((nI_leI (by omega) (by omega)).mp q) (by omega))) (fun c180 => ?_)
        have c180 : ¬ (fH F (foN F)) ≤ 0 := fun z9 => c180 ((nI_leI (a := (fH F (foN F))) (b := 0) (by omega) (by omega)).mpr z9)
        refine lv_aload_n hx hb dX4_value_183 rfl (lv_at hl 0 rfl) ?_
        refine h_get X Y (k := 2) (v := .ref (F.1 2)) (hup_tag fo fk (by omega)) rfl hin_X4 (by decide) kfl_X4_28 rfl dX4_value_184 ?_
        refine lv_iconst (v := 0) hx hb dX4_value_187 (by decide) ?_
        refine h_iald X Y (i := 0) hup_eq (by omega) (by omega) dX4_value_188 ?_
        refine lv_goto (tgt := 193) hx hb dX4_value_189 (by decide) ?_
        exact h_iret X Y ⟨congrArg (fun z => some (Value.int z)) (hE s0), hSim.put fk rfl⟩ (Nat.le_refl _) (Nat.le_refl _) dX4_value_193
      · have c13 : ¬ (foN F) ≤ i := fun z9 => c13 ((nI_leI (a := (foN F)) (b := i) (by omega) (by omega)).mpr z9)
        refine lv_aload_n hx hb dX4_value_16 rfl (lv_at hl 0 rfl) ?_
        refine h_get X Y (k := 0) (v := .ref (F.1 0)) (hup_tag fo fk (by omega)) rfl hin_X4 (by decide) kfl_X4_18 rfl dX4_value_17 ?_
        refine lv_iload hx hb dX4_value_20 (lv_at hl 5 rfl) ?_
        refine h_aald X Y 3 (i := i) (hup_tag fs fk (by omega)) rfl (by omega) (by omega) dX4_value_22 ?_
        obtain ⟨ok, w2, w1, w9, w0⟩ := hw i (by omega)
        refine h_rf (hf i (by omega)) ?_
        refine lv_astore (lv' := [(6, .ref (hSg G (foS F i))), (0, .ref a), (1, .int line), (2, .int year), (3, .int amount), (4, .int (nI (fH F i))), (5, .int (nI i))]) hx hb dX4_value_23 hl (by decide) rfl (fun ls hl => ?_)
        refine lv_aload hx hb dX4_value_25 (lv_at hl 0 rfl) ?_
        refine h_getC X Y (hsg_opF X.2.2.2.2.2.2.2.2.1 X.2.2.2.2.2.2.2.2.2.1 (fOk_lt ok)) kfl_X4_31 dX4_value_27 ?_
        refine lv_iconst (v := 2) hx hb dX4_value_30 (by decide) ?_
        refine lv_icmp_ne (tgt := 77) hx hb dX4_value_31 (by decide) (fun c31 => ?_) (fun c31 => ?_)
        · refine lv_aload hx hb dX4_value_77 (lv_at hl 0 rfl) ?_
          refine h_getC X Y (hsg_opF X.2.2.2.2.2.2.2.2.1 X.2.2.2.2.2.2.2.2.2.1 (fOk_lt ok)) kfl_X4_31 dX4_value_79 ?_
          refine lv_iconst (v := 1) hx hb dX4_value_82 (by decide) ?_
          refine lv_icmp_ne (tgt := 136) hx hb dX4_value_83 (by decide) (fun c83 => ?_) (fun c83 => ?_)
          · refine lv_iload hx hb dX4_value_136 (lv_at hl 5 rfl) ?_
            refine lv_aload_n hx hb dX4_value_138 rfl (lv_at hl 1 rfl) ?_
            refine h_get X Y (k := 2) (v := .ref (F.1 2)) (hup_tag fo fk (by omega)) rfl hin_X4 (by decide) kfl_X4_28 rfl dX4_value_139 ?_
            refine h_alen X Y 0 hup_eq rfl dX4_value_142 ?_
            refine lv_icmp_ge (tgt := 172) hx hb dX4_value_143 (by decide) (fun c143 => absurd ((nI_leI (by omega) (by omega)).mp c143) (by have := w0 c31 c83; omega)) (fun c143 => ?_)
            have c143 : ¬ (foN F) ≤ (fH F i) := fun z9 => c143 ((nI_leI (a := (foN F)) (b := (fH F i)) (by omega) (by omega)).mpr z9)
            refine lv_aload_n hx hb dX4_value_146 rfl (lv_at hl 1 rfl) ?_
            refine h_get X Y (k := 2) (v := .ref (F.1 2)) (hup_tag fo fk (by omega)) rfl hin_X4 (by decide) kfl_X4_28 rfl dX4_value_147 ?_
            refine lv_iload hx hb dX4_value_150 (lv_at hl 5 rfl) ?_
            refine lv_aload_n hx hb dX4_value_152 rfl (lv_at hl 1 rfl) ?_
            refine lv_aload hx hb dX4_value_153 (lv_at hl 0 rfl) ?_
            refine lv_aload_n hx hb dX4_value_155 rfl (lv_at hl 1 rfl) ?_
            refine h_get X Y (k := 1) (v := .ref (F.1 1)) (hup_tag fo fk (by omega)) rfl hin_X4 (by decide) kfl_X4_24 rfl dX4_value_156 ?_
            refine lv_iload hx hb dX4_value_159 (lv_at hl 6 rfl) ?_
            refine h_iald X Y (i := i) (hup_tag fn fk (by omega)) (by omega) (by omega) dX4_value_161 ?_
            refine lv_iload_n hx hb dX4_value_162 rfl (lv_at hl 2 rfl) ?_
            refine lv_iload_n hx hb dX4_value_163 rfl (lv_at hl 3 rfl) ?_
            refine lv_iload_n hx hb dX4_value_164 rfl (lv_at hl 4 rfl) ?_
            refine h_callVr (rest := [.int (nI (fH F i)), .ref (F.1 2)]) X Y (c_leaf l G (hup M (F.1 2) (t + 9, .inl (hT G 0, foN F, .inl (fSt F line amount s0 i)))) a (foS F i) (foI F i) line year amount (fOk_0 ok c31 c83)) rfl rfl gw_X4_43 dsc_X4_leaf (hup_tag fo fk (by omega)) rfl rfl rfl rfl hl.1 (Nat.le_of_ble_eq_true rfl) ⟨Nat.le_of_ble_eq_true rfl, Nat.le_of_ble_eq_true rfl⟩ ⟨Nat.le_of_ble_eq_true rfl, Nat.le_of_ble_eq_true rfl⟩ dX4_value_165 (fun H locs Y => ?_)
            refine h_iast X Y (i := (fH F i)) hup_eq (by have := w0 c31 c83; omega) (by omega) dX4_value_168 (fun H locs Y => ?_)
            rw [hup_hup] at Y
            refine lv_iinc (v := nI ((fH F i) + 1)) (lv' := [(4, .int (nI ((fH F i) + 1))), (6, .ref (hSg G (foS F i))), (0, .ref a), (1, .int line), (2, .int year), (3, .int amount), (5, .int (nI i))]) hx hb dX4_value_169 hl (k := 5) rfl (nI_1 (fH F i)) (by decide) rfl (fun ls hl => ?_)
            refine lv_iinc (v := nI (i + 1)) (lv' := [(5, .int (nI (i + 1))), (4, .int (nI ((fH F i) + 1))), (6, .ref (hSg G (foS F i))), (0, .ref a), (1, .int line), (2, .int year), (3, .int amount)]) hx hb dX4_value_172 hl (k := 6) rfl (nI_1 i) (by decide) rfl (fun ls hl => ?_)
            refine lv_goto (tgt := 6) hx hb dX4_value_175 (by decide) ?_
            have e1 : fSt F line amount s0 (i + 1) = upd (fSt F line amount s0 i) (fH F i) (fLeaf (foS F i) (foI F i) line amount) := by
              show (if _ then _ else _) = _
              rw [if_neg c31, if_neg c83]
            have e2 : fH F (i + 1) = ((fH F i) + 1) := by
              show (if _ then _ else _) = _
              rw [if_neg c31, if_neg c83]
            exact ih (i + 1) (by omega) (by omega) _ _ _ (by rw [e1]; exact Y) (by rw [e2]; exact lv_sub hl [3, 4, 5, 6, 1, 0] rfl)
          · obtain ⟨q, hq⟩ : ∃ q, fH F i = q + 1 := ⟨fH F i - 1, by have := w1 c83; omega⟩
            rw [hq] at hl
            have hq2 : fH F i - 1 = q := by omega
            refine lv_iload hx hb dX4_value_86 (lv_at hl 5 rfl) ?_
            refine lv_iconst (v := 1) hx hb dX4_value_88 (by decide) ?_
            refine lv_icmp_lt (tgt := 136) hx hb dX4_value_89 (by decide) (fun c89 => absurd (show ((q + 1)) < 1 from (nI_ltI (a := ((q + 1))) (b := 1) (by omega) (by omega)).mp c89) (by omega)) (fun c89 => ?_)
            have c89 : ¬ ((q + 1)) < 1 := fun z9 => c89 ((nI_ltI (a := ((q + 1))) (b := 1) (by omega) (by omega)).mpr z9)
            refine lv_aload_n hx hb dX4_value_92 rfl (lv_at hl 1 rfl) ?_
            refine h_get X Y (k := 2) (v := .ref (F.1 2)) (hup_tag fo fk (by omega)) rfl hin_X4 (by decide) kfl_X4_28 rfl dX4_value_93 ?_
            refine lv_iload hx hb dX4_value_96 (lv_at hl 5 rfl) ?_
            refine lv_iconst (v := 1) hx hb dX4_value_98 (by decide) ?_
            refine lv_isub hx hb dX4_value_99 ?_
            refine h_ev (y := nI q) (nI_pred q) ?_
            refine lv_aload hx hb dX4_value_100 (lv_at hl 0 rfl) ?_
            refine h_gets X Y (hsg_Z (k := 12) X.2.2.2.2.2.2.2.2.1 X.2.2.2.2.2.2.2.2.2.1 (by decide)) kfl_X4_39 dX4_value_102 ?_
            refine lv_acmp_ne (rx := some (hSg G (foS F i))) (ry := some (hSg G 12)) (tgt := 122) hx hb dX4_value_105 (by decide) (fun c105 => absurd (congrArg some (congrArg (hSg G) (fOk_1 ok c83))) c105) (fun c105 => ?_)
            refine lv_iconst (v := 1) hx hb dX4_value_108 (by decide) ?_
            refine lv_aload_n hx hb dX4_value_109 rfl (lv_at hl 1 rfl) ?_
            refine h_get X Y (k := 2) (v := .ref (F.1 2)) (hup_tag fo fk (by omega)) rfl hin_X4 (by decide) kfl_X4_28 rfl dX4_value_110 ?_
            refine lv_iload hx hb dX4_value_113 (lv_at hl 5 rfl) ?_
            refine lv_iconst (v := 1) hx hb dX4_value_115 (by decide) ?_
            refine lv_isub hx hb dX4_value_116 ?_
            refine h_ev (y := nI q) (nI_pred q) ?_
            refine h_iald X Y (i := q) hup_eq (by omega) (by omega) dX4_value_117 ?_
            refine lv_isub hx hb dX4_value_118 ?_
            refine lv_goto (tgt := 132) hx hb dX4_value_119 (by decide) ?_
            refine h_iast X Y (i := q) hup_eq (by omega) (by omega) dX4_value_132 (fun H locs Y => ?_)
            rw [hup_hup] at Y
            refine lv_goto (tgt := 172) hx hb dX4_value_133 (by decide) ?_
            refine lv_iinc (v := nI (i + 1)) (lv' := [(5, .int (nI (i + 1))), (6, .ref (hSg G (foS F i))), (0, .ref a), (1, .int line), (2, .int year), (3, .int amount), (4, .int (nI ((q + 1))))]) hx hb dX4_value_172 hl (k := 6) rfl (nI_1 i) (by decide) rfl (fun ls hl => ?_)
            refine lv_goto (tgt := 6) hx hb dX4_value_175 (by decide) ?_
            have e1 : fSt F line amount s0 (i + 1) = upd (fSt F line amount s0 i) q (1 - ((fSt F line amount s0 i) q)) := by
              show (if _ then _ else _) = _
              rw [if_neg c31, if_pos c83, hq2]
            have e2 : fH F (i + 1) = ((q + 1)) := by
              show (if _ then _ else _) = _
              rw [if_neg c31, if_pos c83, hq]
            exact ih (i + 1) (by omega) (by omega) _ _ _ (by rw [e1]; exact Y) (by rw [e2]; exact lv_sub hl [2, 3, 4, 5, 6, 0] rfl)
        · obtain ⟨q, hq⟩ : ∃ q, fH F i = q + 2 := ⟨fH F i - 2, by have := w2 c31; omega⟩
          rw [hq] at hl
          have hq1 : fH F i - 2 = q := by omega
          have hq2 : fH F i - 1 = q + 1 := by omega
          refine lv_iload hx hb dX4_value_34 (lv_at hl 5 rfl) ?_
          refine lv_iconst (v := 2) hx hb dX4_value_36 (by decide) ?_
          refine lv_icmp_lt (tgt := 77) hx hb dX4_value_37 (by decide) (fun c37 => absurd (show ((q + 2)) < 2 from (nI_ltI (a := ((q + 2))) (b := 2) (by omega) (by omega)).mp c37) (by omega)) (fun c37 => ?_)
          have c37 : ¬ ((q + 2)) < 2 := fun z9 => c37 ((nI_ltI (a := ((q + 2))) (b := 2) (by omega) (by omega)).mpr z9)
          refine lv_iinc (v := nI (q + 1)) (lv' := [(4, .int (nI (q + 1))), (6, .ref (hSg G (foS F i))), (0, .ref a), (1, .int line), (2, .int year), (3, .int amount), (5, .int (nI i))]) hx hb dX4_value_40 hl (k := 5) rfl (pk_m1 (q + 1)) (by decide) rfl (fun ls hl => ?_)
          refine lv_aload_n hx hb dX4_value_43 rfl (lv_at hl 2 rfl) ?_
          refine h_get X Y (k := 2) (v := .ref (F.1 2)) (hup_tag fo fk (by omega)) rfl hin_X4 (by decide) kfl_X4_28 rfl dX4_value_44 ?_
          refine lv_iload hx hb dX4_value_47 (lv_at hl 0 rfl) ?_
          refine lv_iconst (v := 1) hx hb dX4_value_49 (by decide) ?_
          refine lv_isub hx hb dX4_value_50 ?_
          refine h_ev (y := nI q) (nI_pred q) ?_
          refine lv_aload_n hx hb dX4_value_51 rfl (lv_at hl 2 rfl) ?_
          refine lv_aload hx hb dX4_value_52 (lv_at hl 1 rfl) ?_
          refine lv_aload_n hx hb dX4_value_54 rfl (lv_at hl 2 rfl) ?_
          refine h_get X Y (k := 2) (v := .ref (F.1 2)) (hup_tag fo fk (by omega)) rfl hin_X4 (by decide) kfl_X4_28 rfl dX4_value_55 ?_
          refine lv_iload hx hb dX4_value_58 (lv_at hl 0 rfl) ?_
          refine lv_iconst (v := 1) hx hb dX4_value_60 (by decide) ?_
          refine lv_isub hx hb dX4_value_61 ?_
          refine h_ev (y := nI q) (nI_pred q) ?_
          refine h_iald X Y (i := q) hup_eq (by have := w2 c31; omega) (by omega) dX4_value_62 ?_
          refine lv_aload_n hx hb dX4_value_63 rfl (lv_at hl 2 rfl) ?_
          refine h_get X Y (k := 2) (v := .ref (F.1 2)) (hup_tag fo fk (by omega)) rfl hin_X4 (by decide) kfl_X4_28 rfl dX4_value_64 ?_
          refine lv_iload hx hb dX4_value_67 (lv_at hl 0 rfl) ?_
          refine h_iald X Y (i := q + 1) hup_eq (by have := w2 c31; omega) (by omega) dX4_value_69 ?_
          refine h_callVr (rest := [.int (nI q), .ref (F.1 2)]) X Y (c_join l G (hup M (F.1 2) (t + 9, .inl (hT G 0, foN F, .inl (fSt F line amount s0 i)))) a (foS F i) ((fSt F line amount s0 i) q) ((fSt F line amount s0 i) (q + 1)) (fOk_2 ok c31)) rfl rfl gw_X4_35 dsc_X4_join (hup_tag fo fk (by omega)) rfl rfl rfl rfl hl.1 (Nat.le_of_ble_eq_true rfl) ⟨Nat.le_of_ble_eq_true rfl, Nat.le_of_ble_eq_true rfl⟩ ⟨Nat.le_of_ble_eq_true rfl, Nat.le_of_ble_eq_true rfl⟩ dX4_value_70 (fun H locs Y => ?_)
          refine h_iast X Y (i := q) hup_eq (by have := w2 c31; omega) (by omega) dX4_value_73 (fun H locs Y => ?_)
          rw [hup_hup] at Y
          refine lv_goto (tgt := 172) hx hb dX4_value_74 (by decide) ?_
          refine lv_iinc (v := nI (i + 1)) (lv' := [(5, .int (nI (i + 1))), (4, .int (nI (q + 1))), (6, .ref (hSg G (foS F i))), (0, .ref a), (1, .int line), (2, .int year), (3, .int amount)]) hx hb dX4_value_172 hl (k := 6) rfl (nI_1 i) (by decide) rfl (fun ls hl => ?_)
          refine lv_goto (tgt := 6) hx hb dX4_value_175 (by decide) ?_
          have e1 : fSt F line amount s0 (i + 1) = upd (fSt F line amount s0 i) q (fJoin (foS F i) ((fSt F line amount s0 i) q) ((fSt F line amount s0 i) (q + 1))) := by
            show (if _ then _ else _) = _
            rw [if_pos c31, hq1, hq2]
          have e2 : fH F (i + 1) = q + 1 := by
            show (if _ then _ else _) = _
            rw [if_pos c31, hq2]
          exact ih (i + 1) (by omega) (by omega) _ _ _ (by rw [e1]; exact Y) (by rw [e2]; exact lv_sub hl [3, 4, 5, 6, 1, 0] rfl)
  exact loop (foN F + 1) 0 (by omega) (by omega) _ _ _ Y (lv_sub hl [2, 3, 4, 5, 1, 0] rfl)
