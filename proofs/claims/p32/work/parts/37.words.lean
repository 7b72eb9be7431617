-- WHAT A PIECE OF THE TAPE SPELLS
section SIGNROWS
variable {G : hG} {p : Program} {l : Launch} {e : Env} {R : Room} {s : State} {m : MethodId} {args : Array Value} {below : List Frame} {meth : Method} {c : Code} {H : Heap} {locs : List Loc} {cells slots : Nat} {Q : State → Prop}
variable {cc : ByteArray} {maxL : Nat} {ret : Option FieldType} {own nm : String} {M : hM} {pc : Nat} {ls : Array Slot} {rest : List Value} {a t ci index n : Nat} {cA : ClassId}
/-- a constant of the enum goes into a row of them -/
theorem h_aastG {i k : Nat} {f : Nat → Option Nat} (X : hCX G p s m args meth c cc maxL ret own nm) (Y : hHS G M s H locs) (he : M a = some (t, .inl (hT G 3, n, .inr (.inr (.inr (.inr f)))))) (hk : k < 38) (hi : i < n) (hn : n < 2 ^ 31) (hdg : decode cc pc = .ok (.aastore, 1))
    (kk : ∀ (H1 : Heap) (locs1 : List Loc), hHS G (hup M a (t, .inl (hT G 3, n, .inr (.inr (.inr (.inr (va_up f i (some (hSg G k)))))))) ) s H1 locs1 → W p l e R s m args below meth c H1 locs1 cells slots Q (F0 m (pc + 1) ls rest)) : W p l e R s m args below meth c H locs cells slots Q (F0 m pc ls (.ref (hSg G k) :: .int (nI i) :: .ref a :: rest)) := by
  obtain ⟨ws, hP, hDw, hw⟩ := Y.1.list
  obtain ⟨k1, hk1⟩ := hw a t _ he
  refine vb_astq (D := hD G) (cl := vwCl) (E := "LossHouse$Sign") (C := "LossHouse$Sign") X.1 X.2.1 X.2.2.2.2.2.2.2.1 hP hDw Y.2 k1 3 hk1 rfl (h_recvO Y (hsg_O X.2.2.2.2.2.2.2.2.1 X.2.2.2.2.2.2.2.2.2.1 hk)) (fun comp c0 => vb_asgS comp c0) (vp_in_nI hi hn) hdg fun H1 locs1 hP1 hD1 hS1 => ?_
  rw [nI_clamp (Nat.lt_trans hi hn)] at hP1
  exact kk H1 locs1 ⟨Y.1.wset hw he hk1 hP1, hS1⟩
end SIGNROWS
def tSp (B : Nat → Nat) (n s e k : Nat) : Prop := sgL k = e - s ∧ ∀ j, j < sgL k → bt B n (s + j) = nI (sgC k j)
/-- which constant is spelled first; 37 without one -/
def kwIs (B : Nat → Nat) (n s e k0 : Nat) : Prop := (k0 < 38 ∧ (∀ j, j < k0 → ¬ tSp B n s e j) ∧ tSp B n s e k0) ∨ (k0 = 37 ∧ ∀ j, j < 38 → ¬ tSp B n s e j)
theorem kwIs.yes {B : Nat → Nat} {n s e k0 i : Nat} (h : kwIs B n s e k0) (hi : i < 38) (hno : ∀ j, j < i → ¬ tSp B n s e j) (hy : tSp B n s e i) : k0 = i := by
  rcases h with ⟨h1, h2, h3⟩ | ⟨h1, h2⟩
  · rcases Nat.lt_trichotomy k0 i with z | z | z
    · exact absurd h3 (hno k0 z)
    · exact z
    · exact absurd hy (h2 i z)
  · exact absurd hy (h2 i hi)
theorem kwIs.no {B : Nat → Nat} {n s e k0 : Nat} (h : kwIs B n s e k0) (hno : ∀ j, j < 38 → ¬ tSp B n s e j) : k0 = 37 := by
  rcases h with ⟨h1, h2, h3⟩ | ⟨h1, h2⟩
  · exact absurd h3 (hno k0 h1)
  · exact h1
theorem kwIs.lt {B : Nat → Nat} {n s e k0 : Nat} (h : kwIs B n s e k0) : k0 < 38 := by
  rcases h with ⟨h1, h2, h3⟩ | ⟨h1, h2⟩ <;> omega
theorem sgL_lt : ∀ k, k < 38 → sgL k < 1000 := by decide +kernel
/-- a token from s to e, of the sign k: a number, a word, a symbol -/
def TkAt (B : Nat → Nat) (n s e k : Nat) : Prop := s < e ∧ e ≤ n ∧
  ((k = 34 ∧ tLet B n s = false ∧ tDig B n s = true ∧ e ≤ s + 7 ∧ (∀ j, s ≤ j → j < e → tDig B n j = true) ∧ (e = n ∨ tDig B n e = false))
  ∨ (tLet B n s = true ∧ tDig B n s = false ∧ (∀ j, s ≤ j → j < e → tLet B n j = true ∨ tDig B n j = true) ∧ (e = n ∨ (tLet B n e = false ∧ tDig B n e = false)) ∧ ((k = 33 ∧ e ≤ s + 10 ∧ kwIs B n s e 37) ∨ (k < 37 ∧ kwIs B n s e k)))
  ∨ (tLet B n s = false ∧ tDig B n s = false ∧ k < 37 ∧ kwIs B n s e k ∧ ((e = s + 1 ∧ kwIs B n s (s + 2) 37) ∨ e = s + 2)))
theorem TkAt.lt {B : Nat → Nat} {n s e k : Nat} (h : TkAt B n s e k) : k < 37 := by
  obtain ⟨-, -, h | h | h⟩ := h
  · omega
  · rcases h.2.2.2.2 with z | z <;> omega
  · exact h.2.2.1
theorem gw_X8_30 : GoodIn hGW (wsV RX8 30 RJ0 yJ0_length_8abf5 (Cond.code yJ0_length_8abf5 cJ0_length_8abf5 1 (Option.some FieldType.int) :: hGW)) := hgi4 kml_X8_30 kin_J0_length_8abf5 kse_J0_J0_length_8abf5_J0_length_8abf5 kini_J0 kco_J0_length_8abf5
theorem dsc_J0_length_8abf5 : yJ0_length_8abf5.cls = RJ0 ∧ yJ0_length_8abf5.cls ≠ "java/lang/invoke/MethodHandle" ∧ yJ0_length_8abf5.cls ≠ "java/lang/invoke/VarHandle" ∧ (parseMethodDescriptor yJ0_length_8abf5.desc).map (fun d => d.parameters.length) = some 0 := ⟨rfl, by decide +kernel, by decide +kernel, by decide +kernel⟩
theorem gw_X8_35 : GoodIn hGW (wsV RX8 35 RJ0 yJ0_charAt_5068e (Cond.code yJ0_charAt_5068e cJ0_charAt_5068e 2 (Option.some FieldType.char) :: hGW)) := hgi4 kml_X8_35 kin_J0_charAt_5068e kse_J0_J0_charAt_5068e_J0_charAt_5068e kini_J0 kco_J0_charAt_5068e
theorem dsc_J0_charAt_5068e : yJ0_charAt_5068e.cls = RJ0 ∧ yJ0_charAt_5068e.cls ≠ "java/lang/invoke/MethodHandle" ∧ yJ0_charAt_5068e.cls ≠ "java/lang/invoke/VarHandle" ∧ (parseMethodDescriptor yJ0_charAt_5068e.desc).map (fun d => d.parameters.length) = some 1 := ⟨rfl, by decide +kernel, by decide +kernel, by decide +kernel⟩
theorem dX8_spells_0 : decode cX8_spells 0 = .ok (.aload_n 1, 1) := by decide +kernel
theorem dX8_spells_1 : decode cX8_spells 1 = .ok (.invokevirtual 30, 3) := by decide +kernel
theorem dX8_spells_4 : decode cX8_spells 4 = .ok (.iload_n 3, 1) := by decide +kernel
theorem dX8_spells_5 : decode cX8_spells 5 = .ok (.iload_n 2, 1) := by decide +kernel
theorem dX8_spells_6 : decode cX8_spells 6 = .ok (.isub, 1) := by decide +kernel
theorem dX8_spells_7 : decode cX8_spells 7 = .ok (.if_icmp .eq 5, 3) := by decide +kernel
theorem dX8_spells_10 : decode cX8_spells 10 = .ok (.iconst 0, 1) := by decide +kernel
theorem dX8_spells_11 : decode cX8_spells 11 = .ok (.ireturn, 1) := by decide +kernel
theorem dX8_spells_12 : decode cX8_spells 12 = .ok (.iconst 0, 1) := by decide +kernel
theorem dX8_spells_13 : decode cX8_spells 13 = .ok (.istore 4, 2) := by decide +kernel
theorem dX8_spells_15 : decode cX8_spells 15 = .ok (.iload 4, 2) := by decide +kernel
theorem dX8_spells_17 : decode cX8_spells 17 = .ok (.aload_n 1, 1) := by decide +kernel
theorem dX8_spells_18 : decode cX8_spells 18 = .ok (.invokevirtual 30, 3) := by decide +kernel
theorem dX8_spells_21 : decode cX8_spells 21 = .ok (.if_icmp .ge 28, 3) := by decide +kernel
theorem dX8_spells_24 : decode cX8_spells 24 = .ok (.aload_n 0, 1) := by decide +kernel
theorem dX8_spells_25 : decode cX8_spells 25 = .ok (.iload_n 2, 1) := by decide +kernel
theorem dX8_spells_26 : decode cX8_spells 26 = .ok (.iload 4, 2) := by decide +kernel
theorem dX8_spells_28 : decode cX8_spells 28 = .ok (.iadd, 1) := by decide +kernel
theorem dX8_spells_29 : decode cX8_spells 29 = .ok (.invokevirtual 19, 3) := by decide +kernel
theorem dX8_spells_32 : decode cX8_spells 32 = .ok (.aload_n 1, 1) := by decide +kernel
theorem dX8_spells_33 : decode cX8_spells 33 = .ok (.iload 4, 2) := by decide +kernel
theorem dX8_spells_35 : decode cX8_spells 35 = .ok (.invokevirtual 35, 3) := by decide +kernel
theorem dX8_spells_38 : decode cX8_spells 38 = .ok (.if_icmp .eq 5, 3) := by decide +kernel
theorem dX8_spells_41 : decode cX8_spells 41 = .ok (.iconst 0, 1) := by decide +kernel
theorem dX8_spells_42 : decode cX8_spells 42 = .ok (.ireturn, 1) := by decide +kernel
theorem dX8_spells_43 : decode cX8_spells 43 = .ok (.iinc 4 1, 3) := by decide +kernel
theorem dX8_spells_46 : decode cX8_spells 46 = .ok (.goto (-31), 3) := by decide +kernel
theorem dX8_spells_49 : decode cX8_spells 49 = .ok (.iconst 1, 1) := by decide +kernel
theorem dX8_spells_50 : decode cX8_spells 50 = .ok (.ireturn, 1) := by decide +kernel
set_option maxHeartbeats 400000 in
set_option maxRecDepth 100000 in
theorem c_spells (l : Launch) (G : hG) (M : hM) (a r n : Nat) (f : Nat → Int32) (B : Nat → Nat) (hn : n ≤ 2000) (ht1 : M a = some (1, .inr (9, [.ref r, .int (nI n)]))) (ht2 : M r = some (2, .inl (hT G 1, 2000, .inl f))) (hB : tB f B n) (q0 L0 : Nat) (W0 : Nat → Nat) (hq : sS G q0 L0 W0) (hL : L0 < 1000) (s0 e0 : Nat) (hse : s0 ≤ e0) (he : e0 < 3000) (b : Bool) (hyes : b = true → L0 = e0 - s0 ∧ ∀ j, j < L0 → bt B n (s0 + j) = nI (W0 j)) (hno : b = false → ¬ (L0 = e0 - s0 ∧ ∀ j, j < L0 → bt B n (s0 + j) = nI (W0 j))) : hCT l G yX8_spells cX8_spells 5 (Option.some FieldType.boolean) (hRm 5 0 0) M [.ref a, .ref q0, .int (nI s0), .int (nI e0)] (hRd M (.int (bI b))) := by
  refine hCT.of (own := RX8) (nm := "spells") (by decide) rfl rfl (Nat.le_of_ble_eq_true rfl) ?_
  intro p e s m args below meth c ls X Y hl
  have hx := X.1
  have hb := X.2.1
  have hl : lv_has ls 5 [(0, .ref a), (1, .ref q0), (2, .int (nI s0)), (3, .int (nI e0))] := hl
  refine lv_aload_n hx hb dX8_spells_0 rfl (lv_at hl 1 rfl) ?_
  refine h_callOr (rest := []) X Y (c_strLen l G M q0 L0 W0 hq hL) rfl rfl gw_X8_30 dsc_J0_length_8abf5 hq.1 rfl rfl hl.1 (Nat.le_of_ble_eq_true rfl) ⟨Nat.le_of_ble_eq_true rfl, Nat.le_of_ble_eq_true rfl⟩ ⟨Nat.le_of_ble_eq_true rfl, Nat.le_of_ble_eq_true rfl⟩ dX8_spells_1 (fun H locs Y => ?_)
  refine lv_iload_n hx hb dX8_spells_4 rfl (lv_at hl 3 rfl) ?_
  refine lv_iload_n hx hb dX8_spells_5 rfl (lv_at hl 2 rfl) ?_
  refine lv_isub hx hb dX8_spells_6 ?_
  refine h_ev (y := nI (e0 - s0)) (pk_sub hse) ?_
  refine lv_icmp_eq (tgt := 12) hx hb dX8_spells_7 (by decide) (fun c7 => ?_) (fun c7 => ?_)
  · have c7 : L0 = (e0 - s0) := (nI_eq (a := L0) (b := (e0 - s0)) (by omega) (by omega)).mp c7
    refine lv_iconst (v := 0) hx hb dX8_spells_12 (by decide) ?_
    refine lv_istore (lv' := [(4, .int 0), (0, .ref a), (1, .ref q0), (2, .int (nI s0)), (3, .int (nI e0))]) hx hb dX8_spells_13 hl (by decide) rfl (fun ls hl => ?_)
    have loop : ∀ (d i : Nat), i + d = L0 + 1 → i ≤ L0 → (∀ j, j < i → bt B n (s0 + j) = nI (W0 j)) → ∀ (H : Heap) (locs : List Loc) (ls : Array Slot), hHS G M s H locs → lv_has ls 5 [(0, .ref a), (1, .ref q0), (2, .int (nI s0)), (3, .int (nI e0)), (4, .int (nI i))] → W p l e (hRm 5 0 0) s m args below meth c H locs 0 0 (MQ below (hQ G (hRd M (.int (bI b)))) args s 0 0 (hA G)) (F0 m 15 ls []) := by
      intro d
      induction d with
      | zero => intro i h1; intros; exact absurd h1 (by omega)
      | succ d ih =>
        intro i h1 h2 hpre H locs ls Y hl
        refine lv_iload hx hb dX8_spells_15 (lv_at hl 4 rfl) ?_
        refine lv_aload_n hx hb dX8_spells_17 rfl (lv_at hl 1 rfl) ?_
        refine h_callOr (rest := [.int (nI i)]) X Y (c_strLen l G M q0 L0 W0 hq hL) rfl rfl gw_X8_30 dsc_J0_length_8abf5 hq.1 rfl rfl hl.1 (Nat.le_of_ble_eq_true rfl) ⟨Nat.le_of_ble_eq_true rfl, Nat.le_of_ble_eq_true rfl⟩ ⟨Nat.le_of_ble_eq_true rfl, Nat.le_of_ble_eq_true rfl⟩ dX8_spells_18 (fun H locs Y => ?_)
        refine lv_icmp_ge (tgt := 49) hx hb dX8_spells_21 (by decide) (fun c21 => ?_) (fun c21 => ?_)
        · have c21 : L0 ≤ i := (nI_leI (a := L0) (b := i) (by omega) (by omega)).mp c21
          obtain rfl : i = L0 := by omega
          refine lv_iconst (v := 1) hx hb dX8_spells_49 (by decide) ?_
          exact h_zret X Y rfl ⟨congrArg (fun z => some (Value.int z)) (show (1 : Int32) = bI b from by cases b with | true => rfl | false => exact absurd ⟨by omega, hpre⟩ (hno rfl)), rfl⟩ (Nat.le_refl _) (Nat.le_refl _) dX8_spells_50
        · have c21 : ¬ L0 ≤ i := fun z9 => c21 ((nI_leI (a := L0) (b := i) (by omega) (by omega)).mpr z9)
          refine lv_aload_n hx hb dX8_spells_24 rfl (lv_at hl 0 rfl) ?_
          refine lv_iload_n hx hb dX8_spells_25 rfl (lv_at hl 2 rfl) ?_
          refine lv_iload hx hb dX8_spells_26 (lv_at hl 4 rfl) ?_
          refine lv_iadd hx hb dX8_spells_28 ?_
          refine h_ev (y := nI (s0 + i)) (nI_add s0 i) ?_
          refine h_callVr (rest := []) X Y (c_byteAt l G M a r n f B hn ht1 ht2 hB (s0 + i) (by omega)) rfl rfl gw_X8_19 dsc_X8_byteAt ht1 rfl rfl rfl rfl hl.1 (Nat.le_of_ble_eq_true rfl) ⟨Nat.le_of_ble_eq_true rfl, Nat.le_of_ble_eq_true rfl⟩ ⟨Nat.le_of_ble_eq_true rfl, Nat.le_of_ble_eq_true rfl⟩ dX8_spells_29 (fun H locs Y => ?_)
          refine lv_aload_n hx hb dX8_spells_32 rfl (lv_at hl 1 rfl) ?_
          refine lv_iload hx hb dX8_spells_33 (lv_at hl 4 rfl) ?_
          refine h_callOr (rest := [.int (bt B n (s0 + i))]) X Y (c_strAt l G M q0 L0 W0 hq i (by omega) hL) rfl rfl gw_X8_35 dsc_J0_charAt_5068e hq.1 rfl rfl hl.1 (Nat.le_of_ble_eq_true rfl) ⟨Nat.le_of_ble_eq_true rfl, Nat.le_of_ble_eq_true rfl⟩ ⟨Nat.le_of_ble_eq_true rfl, Nat.le_of_ble_eq_true rfl⟩ dX8_spells_35 (fun H locs Y => ?_)
          refine lv_icmp_eq (tgt := 43) hx hb dX8_spells_38 (by decide) (fun c38 => ?_) (fun c38 => ?_)
          · refine lv_iinc (v := nI (i + 1)) (lv' := [(4, .int (nI (i + 1))), (0, .ref a), (1, .ref q0), (2, .int (nI s0)), (3, .int (nI e0))]) hx hb dX8_spells_43 hl (k := 4) rfl (nI_1 i) (by decide) rfl (fun ls hl => ?_)
            refine lv_goto (tgt := 15) hx hb dX8_spells_46 (by decide) ?_
            refine ih (i + 1) (by omega) (by omega) (fun j hj => ?_) _ _ _ Y (lv_sub hl [1, 2, 3, 4, 0] rfl)
            by_cases e9 : j = i
            · subst e9; exact c38
            · exact hpre j (by omega)
          · refine lv_iconst (v := 0) hx hb dX8_spells_41 (by decide) ?_
            exact h_zret X Y rfl ⟨congrArg (fun z => some (Value.int z)) (show (0 : Int32) = bI b from by cases b with | false => rfl | true => exact absurd ((hyes rfl).2 i (by omega)) c38), rfl⟩ (Nat.le_refl _) (Nat.le_refl _) dX8_spells_42
    exact loop (L0 + 1) 0 (by omega) (by omega) (fun j z9 => absurd z9 (by omega)) _ _ _ Y (lv_sub hl [1, 2, 3, 4, 0] rfl)
  · have c7 : ¬ L0 = (e0 - s0) := fun z9 => c7 ((nI_eq (a := L0) (b := (e0 - s0)) (by omega) (by omega)).mpr z9)
    refine lv_iconst (v := 0) hx hb dX8_spells_10 (by decide) ?_
    exact h_zret X Y rfl ⟨congrArg (fun z => some (Value.int z)) (show (0 : Int32) = bI b from by cases b with | false => rfl | true => exact absurd (hyes rfl).1 (by omega)), rfl⟩ (Nat.le_refl _) (Nat.le_refl _) dX8_spells_11
theorem gw_X9_93 : GoodIn hGW (wsV RX9 93 RX8 yX8_spells (Cond.code yX8_spells cX8_spells 5 (Option.some FieldType.boolean) :: hGW)) := hgi4 kml_X9_93 kin_X8_spells kse_X8_X8_spells_X8_spells kini_X8 kco_X8_spells
theorem dsc_X8_spells : yX8_spells.cls = RX8 ∧ yX8_spells.cls ≠ "java/lang/invoke/MethodHandle" ∧ yX8_spells.cls ≠ "java/lang/invoke/VarHandle" ∧ (parseMethodDescriptor yX8_spells.desc).map (fun d => d.parameters.length) = some 3 := ⟨rfl, by decide +kernel, by decide +kernel, by decide +kernel⟩
theorem dX9_keyword_0 : decode cX9_keyword 0 = .ok (.iconst 0, 1) := by decide +kernel
theorem dX9_keyword_1 : decode cX9_keyword 1 = .ok (.istore 4, 2) := by decide +kernel
theorem dX9_keyword_3 : decode cX9_keyword 3 = .ok (.iload 4, 2) := by decide +kernel
theorem dX9_keyword_5 : decode cX9_keyword 5 = .ok (.getstatic 86, 3) := by decide +kernel
theorem dX9_keyword_8 : decode cX9_keyword 8 = .ok (.arraylength, 1) := by decide +kernel
theorem dX9_keyword_9 : decode cX9_keyword 9 = .ok (.if_icmp .ge 34, 3) := by decide +kernel
theorem dX9_keyword_12 : decode cX9_keyword 12 = .ok (.aload_n 1, 1) := by decide +kernel
theorem dX9_keyword_13 : decode cX9_keyword 13 = .ok (.getstatic 86, 3) := by decide +kernel
theorem dX9_keyword_16 : decode cX9_keyword 16 = .ok (.iload 4, 2) := by decide +kernel
theorem dX9_keyword_18 : decode cX9_keyword 18 = .ok (.aaload, 1) := by decide +kernel
theorem dX9_keyword_19 : decode cX9_keyword 19 = .ok (.getfield 89, 3) := by decide +kernel
theorem dX9_keyword_22 : decode cX9_keyword 22 = .ok (.iload_n 2, 1) := by decide +kernel
theorem dX9_keyword_23 : decode cX9_keyword 23 = .ok (.iload_n 3, 1) := by decide +kernel
theorem dX9_keyword_24 : decode cX9_keyword 24 = .ok (.invokevirtual 93, 3) := by decide +kernel
theorem dX9_keyword_27 : decode cX9_keyword 27 = .ok (.ifCond .eq 10, 3) := by decide +kernel
theorem dX9_keyword_30 : decode cX9_keyword 30 = .ok (.getstatic 86, 3) := by decide +kernel
theorem dX9_keyword_33 : decode cX9_keyword 33 = .ok (.iload 4, 2) := by decide +kernel
theorem dX9_keyword_35 : decode cX9_keyword 35 = .ok (.aaload, 1) := by decide +kernel
theorem dX9_keyword_36 : decode cX9_keyword 36 = .ok (.areturn, 1) := by decide +kernel
theorem dX9_keyword_37 : decode cX9_keyword 37 = .ok (.iinc 4 1, 3) := by decide +kernel
theorem dX9_keyword_40 : decode cX9_keyword 40 = .ok (.goto (-37), 3) := by decide +kernel
theorem dX9_keyword_43 : decode cX9_keyword 43 = .ok (.getstatic 50, 3) := by decide +kernel
theorem dX9_keyword_46 : decode cX9_keyword 46 = .ok (.areturn, 1) := by decide +kernel
set_option maxHeartbeats 400000 in
set_option maxRecDepth 100000 in
theorem c_keyword (l : Launch) (G : hG) (M : hM) (a r n : Nat) (f : Nat → Int32) (B : Nat → Nat) (hn : n ≤ 2000) (ht1 : M a = some (1, .inr (9, [.ref r, .int (nI n)]))) (ht2 : M r = some (2, .inl (hT G 1, 2000, .inl f))) (hB : tB f B n) (a3 : Nat) (s0 e0 : Nat) (hse : s0 ≤ e0) (he : e0 < 3000) (k0 : Nat) (hk0 : kwIs B n s0 e0 k0) : hCT l G yX9_keyword cX9_keyword 5 (Option.some (FieldType.object "LossHouse$Sign")) (hRm 6 0 0) M [.ref a3, .ref a, .int (nI s0), .int (nI e0)] (hRd M (.ref (hSg G k0))) := by
  refine hCT.of (own := RX9) (nm := "keyword") (by decide) rfl rfl (Nat.le_of_ble_eq_true rfl) ?_
  intro p e s m args below meth c ls X Y hl
  have hx := X.1
  have hb := X.2.1
  have hl : lv_has ls 5 [(0, .ref a3), (1, .ref a), (2, .int (nI s0)), (3, .int (nI e0))] := hl
  refine lv_iconst (v := 0) hx hb dX9_keyword_0 (by decide) ?_
  refine lv_istore (lv' := [(4, .int 0), (0, .ref a3), (1, .ref a), (2, .int (nI s0)), (3, .int (nI e0))]) hx hb dX9_keyword_1 hl (by decide) rfl (fun ls hl => ?_)
  have loop : ∀ (d i : Nat), i + d = 39 → i ≤ 38 → (∀ j, j < i → ¬ tSp B n s0 e0 j) → ∀ (H : Heap) (locs : List Loc) (ls : Array Slot), hHS G M s H locs → lv_has ls 5 [(0, .ref a3), (1, .ref a), (2, .int (nI s0)), (3, .int (nI e0)), (4, .int (nI i))] → W p l e (hRm 6 0 0) s m args below meth c H locs 0 0 (MQ below (hQ G (hRd M (.ref (hSg G k0)))) args s 0 0 (hA G)) (F0 m 3 ls []) := by
    intro d
    induction d with
    | zero => intro i h1; intros; exact absurd h1 (by omega)
    | succ d ih =>
      intro i h1 h2 hpre H locs ls Y hl
      refine lv_iload hx hb dX9_keyword_3 (lv_at hl 4 rfl) ?_
      refine h_gets X Y (hsgs_Z X.2.2.2.2.2.2.2.2.1 X.2.2.2.2.2.2.2.2.2.1) kfl_X9_86 dX9_keyword_5 ?_
      refine h_lenT X Y (hsgs_T X.2.2.2.2.2.2.2.2.1 X.2.2.2.2.2.2.2.2.2.1) dX9_keyword_8 ?_
      refine lv_icmp_ge (tgt := 43) hx hb dX9_keyword_9 (by decide) (fun c9 => ?_) (fun c9 => ?_)
      · have c9 : 38 ≤ i := (nI_leI (a := 38) (b := i) (by omega) (by omega)).mp c9
        obtain rfl : k0 = 37 := hk0.no (fun j hj => hpre j (by omega))
        refine h_gets X Y (hsg_Z X.2.2.2.2.2.2.2.2.1 X.2.2.2.2.2.2.2.2.2.1 (k := 37) (by decide)) kfl_X9_50 dX9_keyword_43 ?_
        exact h_aret (v := some (hSg G 37)) X Y (Or.inl ⟨_, rfl⟩) ⟨rfl, rfl⟩ (Nat.le_refl _) (Nat.le_refl _) dX9_keyword_46
      · have c9 : ¬ 38 ≤ i := fun z9 => c9 ((nI_leI (a := 38) (b := i) (by omega) (by omega)).mpr z9)
        obtain ⟨htxF, htxS⟩ := hTx_k X.2.2.2.2.2.2.2.2.1 i (by omega)
        refine lv_aload_n hx hb dX9_keyword_12 rfl (lv_at hl 1 rfl) ?_
        refine h_gets X Y (hsgs_Z X.2.2.2.2.2.2.2.2.1 X.2.2.2.2.2.2.2.2.2.1) kfl_X9_86 dX9_keyword_13 ?_
        refine lv_iload hx hb dX9_keyword_16 (lv_at hl 4 rfl) ?_
        refine h_aaT X Y (i := i) (hsgs_T X.2.2.2.2.2.2.2.2.1 X.2.2.2.2.2.2.2.2.2.1) (by omega) (by decide) dX9_keyword_18 ?_
        refine h_getC X Y (hOF_at X.2.2.2.2.2.2.2.2.2.1 htxF) kfl_X9_89 dX9_keyword_19 ?_
        refine lv_iload_n hx hb dX9_keyword_22 rfl (lv_at hl 2 rfl) ?_
        refine lv_iload_n hx hb dX9_keyword_23 rfl (lv_at hl 3 rfl) ?_
        by_cases hsp : tSp B n s0 e0 i
        · refine h_callVr (rest := []) X Y (c_spells l G M a r n f B hn ht1 ht2 hB (hTx G i) (sgL i) (sgC i) htxS (sgL_lt i (by omega)) s0 e0 hse he true (fun _ => hsp) (fun z9 => absurd z9 (by decide))) rfl rfl gw_X9_93 dsc_X8_spells ht1 rfl rfl rfl rfl hl.1 (Nat.le_of_ble_eq_true rfl) ⟨Nat.le_of_ble_eq_true rfl, Nat.le_of_ble_eq_true rfl⟩ ⟨Nat.le_of_ble_eq_true rfl, Nat.le_of_ble_eq_true rfl⟩ dX9_keyword_24 (fun H locs Y => ?_)
          refine lv_if_eq (tgt := 37) hx hb dX9_keyword_27 (by decide) (fun c27 => absurd c27 (by decide)) (fun c27 => ?_)
          refine h_gets X Y (hsgs_Z X.2.2.2.2.2.2.2.2.1 X.2.2.2.2.2.2.2.2.2.1) kfl_X9_86 dX9_keyword_30 ?_
          refine lv_iload hx hb dX9_keyword_33 (lv_at hl 4 rfl) ?_
          refine h_aaT X Y (i := i) (hsgs_T X.2.2.2.2.2.2.2.2.1 X.2.2.2.2.2.2.2.2.2.1) (by omega) (by decide) dX9_keyword_35 ?_
          obtain rfl : k0 = i := hk0.yes (by omega) hpre hsp
          exact h_aret (v := some (hSg G k0)) X Y (Or.inl ⟨_, rfl⟩) ⟨rfl, rfl⟩ (Nat.le_refl _) (Nat.le_refl _) dX9_keyword_36
        · refine h_callVr (rest := []) X Y (c_spells l G M a r n f B hn ht1 ht2 hB (hTx G i) (sgL i) (sgC i) htxS (sgL_lt i (by omega)) s0 e0 hse he false (fun z9 => absurd z9 (by decide)) (fun _ => hsp)) rfl rfl gw_X9_93 dsc_X8_spells ht1 rfl rfl rfl rfl hl.1 (Nat.le_of_ble_eq_true rfl) ⟨Nat.le_of_ble_eq_true rfl, Nat.le_of_ble_eq_true rfl⟩ ⟨Nat.le_of_ble_eq_true rfl, Nat.le_of_ble_eq_true rfl⟩ dX9_keyword_24 (fun H locs Y => ?_)
          refine lv_if_eq (tgt := 37) hx hb dX9_keyword_27 (by decide) (fun c27 => ?_) (fun c27 => absurd (by decide) c27)
          refine lv_iinc (v := nI (i + 1)) (lv' := [(4, .int (nI (i + 1))), (0, .ref a3), (1, .ref a), (2, .int (nI s0)), (3, .int (nI e0))]) hx hb dX9_keyword_37 hl (k := 4) rfl (nI_1 i) (by decide) rfl (fun ls hl => ?_)
          refine lv_goto (tgt := 3) hx hb dX9_keyword_40 (by decide) ?_
          refine ih (i + 1) (by omega) (by omega) (fun j hj => ?_) _ _ _ Y (lv_sub hl [1, 2, 3, 4, 0] rfl)
          by_cases e9 : j = i
          · subst e9; exact hsp
          · exact hpre j (by omega)
  exact loop 39 0 (by omega) (by omega) (fun j z9 => absurd z9 (by omega)) _ _ _ Y (lv_sub hl [1, 2, 3, 4, 0] rfl)
theorem gw_X9_67 : GoodIn hGW (wsV RX9 67 RX8 yX8_isLetter (Cond.code yX8_isLetter cX8_isLetter 3 (Option.some FieldType.boolean) :: hGW)) := hgi4 kml_X9_67 kin_X8_isLetter kse_X8_X8_isLetter_X8_isLetter kini_X8 kco_X8_isLetter
theorem gw_X9_74 : GoodIn hGW (wsV RX9 74 RX8 yX8_isDigit (Cond.code yX8_isDigit cX8_isDigit 3 (Option.some FieldType.boolean) :: hGW)) := hgi4 kml_X9_74 kin_X8_isDigit kse_X8_X8_isDigit_X8_isDigit kini_X8 kco_X8_isDigit
theorem gw_X9_77 : GoodIn hGW (wsV RX9 77 RX8 yX8_behindDigits (Cond.code yX8_behindDigits cX8_behindDigits 3 (Option.some FieldType.int) :: hGW)) := hgi4 kml_X9_77 kin_X8_behindDigits kse_X8_X8_behindDigits_X8_behindDigits kini_X8 kco_X8_behindDigits
theorem dsc_X8_behindDigits : yX8_behindDigits.cls = RX8 ∧ yX8_behindDigits.cls ≠ "java/lang/invoke/MethodHandle" ∧ yX8_behindDigits.cls ≠ "java/lang/invoke/VarHandle" ∧ (parseMethodDescriptor yX8_behindDigits.desc).map (fun d => d.parameters.length) = some 1 := ⟨rfl, by decide +kernel, by decide +kernel, by decide +kernel⟩
theorem gw_X9_71 : GoodIn hGW (wsV RX9 71 RX8 yX8_behindWord (Cond.code yX8_behindWord cX8_behindWord 3 (Option.some FieldType.int) :: hGW)) := hgi4 kml_X9_71 kin_X8_behindWord kse_X8_X8_behindWord_X8_behindWord kini_X8 kco_X8_behindWord
theorem dsc_X8_behindWord : yX8_behindWord.cls = RX8 ∧ yX8_behindWord.cls ≠ "java/lang/invoke/MethodHandle" ∧ yX8_behindWord.cls ≠ "java/lang/invoke/VarHandle" ∧ (parseMethodDescriptor yX8_behindWord.desc).map (fun d => d.parameters.length) = some 1 := ⟨rfl, by decide +kernel, by decide +kernel, by decide +kernel⟩
theorem gw_X9_80 : GoodIn hGW (wsV RX9 80 RX9 yX9_keyword (Cond.code yX9_keyword cX9_keyword 5 (Option.some (FieldType.object "LossHouse$Sign")) :: hGW)) := hgi4 kml_X9_80 kin_X9_keyword kse_X9_X9_keyword_X9_keyword kini_X9 kco_X9_keyword
theorem dsc_X9_keyword : yX9_keyword.cls = RX9 ∧ yX9_keyword.cls ≠ "java/lang/invoke/MethodHandle" ∧ yX9_keyword.cls ≠ "java/lang/invoke/VarHandle" ∧ (parseMethodDescriptor yX9_keyword.desc).map (fun d => d.parameters.length) = some 3 := ⟨rfl, by decide +kernel, by decide +kernel, by decide +kernel⟩
theorem dX9_endOf_0 : decode cX9_endOf 0 = .ok (.aload_n 1, 1) := by decide +kernel
theorem dX9_endOf_1 : decode cX9_endOf 1 = .ok (.iload_n 2, 1) := by decide +kernel
theorem dX9_endOf_2 : decode cX9_endOf 2 = .ok (.invokevirtual 67, 3) := by decide +kernel
theorem dX9_endOf_5 : decode cX9_endOf 5 = .ok (.ifCond .eq 9, 3) := by decide +kernel
theorem dX9_endOf_8 : decode cX9_endOf 8 = .ok (.aload_n 1, 1) := by decide +kernel
theorem dX9_endOf_9 : decode cX9_endOf 9 = .ok (.iload_n 2, 1) := by decide +kernel
theorem dX9_endOf_10 : decode cX9_endOf 10 = .ok (.invokevirtual 71, 3) := by decide +kernel
theorem dX9_endOf_13 : decode cX9_endOf 13 = .ok (.ireturn, 1) := by decide +kernel
theorem dX9_endOf_14 : decode cX9_endOf 14 = .ok (.aload_n 1, 1) := by decide +kernel
theorem dX9_endOf_15 : decode cX9_endOf 15 = .ok (.iload_n 2, 1) := by decide +kernel
theorem dX9_endOf_16 : decode cX9_endOf 16 = .ok (.invokevirtual 74, 3) := by decide +kernel
theorem dX9_endOf_19 : decode cX9_endOf 19 = .ok (.ifCond .eq 9, 3) := by decide +kernel
theorem dX9_endOf_22 : decode cX9_endOf 22 = .ok (.aload_n 1, 1) := by decide +kernel
theorem dX9_endOf_23 : decode cX9_endOf 23 = .ok (.iload_n 2, 1) := by decide +kernel
theorem dX9_endOf_24 : decode cX9_endOf 24 = .ok (.invokevirtual 77, 3) := by decide +kernel
theorem dX9_endOf_27 : decode cX9_endOf 27 = .ok (.ireturn, 1) := by decide +kernel
theorem dX9_endOf_28 : decode cX9_endOf 28 = .ok (.aload_n 0, 1) := by decide +kernel
theorem dX9_endOf_29 : decode cX9_endOf 29 = .ok (.aload_n 1, 1) := by decide +kernel
theorem dX9_endOf_30 : decode cX9_endOf 30 = .ok (.iload_n 2, 1) := by decide +kernel
theorem dX9_endOf_31 : decode cX9_endOf 31 = .ok (.iload_n 2, 1) := by decide +kernel
theorem dX9_endOf_32 : decode cX9_endOf 32 = .ok (.iconst 2, 1) := by decide +kernel
theorem dX9_endOf_33 : decode cX9_endOf 33 = .ok (.iadd, 1) := by decide +kernel
theorem dX9_endOf_34 : decode cX9_endOf 34 = .ok (.invokevirtual 80, 3) := by decide +kernel
theorem dX9_endOf_37 : decode cX9_endOf 37 = .ok (.getstatic 50, 3) := by decide +kernel
theorem dX9_endOf_40 : decode cX9_endOf 40 = .ok (.if_acmp .ne 9, 3) := by decide +kernel
theorem dX9_endOf_43 : decode cX9_endOf 43 = .ok (.iload_n 2, 1) := by decide +kernel
theorem dX9_endOf_44 : decode cX9_endOf 44 = .ok (.iconst 1, 1) := by decide +kernel
theorem dX9_endOf_45 : decode cX9_endOf 45 = .ok (.iadd, 1) := by decide +kernel
theorem dX9_endOf_46 : decode cX9_endOf 46 = .ok (.goto 6, 3) := by decide +kernel
theorem dX9_endOf_49 : decode cX9_endOf 49 = .ok (.iload_n 2, 1) := by decide +kernel
theorem dX9_endOf_50 : decode cX9_endOf 50 = .ok (.iconst 2, 1) := by decide +kernel
theorem dX9_endOf_51 : decode cX9_endOf 51 = .ok (.iadd, 1) := by decide +kernel
theorem dX9_endOf_52 : decode cX9_endOf 52 = .ok (.ireturn, 1) := by decide +kernel
set_option maxHeartbeats 400000 in
set_option maxRecDepth 100000 in
theorem c_endOf (l : Launch) (G : hG) (M : hM) (a r n : Nat) (f : Nat → Int32) (B : Nat → Nat) (hn : n ≤ 2000) (ht1 : M a = some (1, .inr (9, [.ref r, .int (nI n)]))) (ht2 : M r = some (2, .inl (hT G 1, 2000, .inl f))) (hB : tB f B n) (a3 : Nat) (fs3 : List Value) (ho3 : M a3 = some (3, .inr (10, fs3))) (s0 e0 k0 : Nat) (hTk : TkAt B n s0 e0 k0) : hCT l G yX9_endOf cX9_endOf 3 (Option.some FieldType.int) (hRm 7 0 0) M [.ref a3, .ref a, .int (nI s0)] (hRd M (.int (nI e0))) := by
  refine hCT.of (own := RX9) (nm := "endOf") (by decide) rfl rfl (Nat.le_of_ble_eq_true rfl) ?_
  intro p e s m args below meth c ls X Y hl
  have hx := X.1
  have hb := X.2.1
  have hl : lv_has ls 3 [(0, .ref a3), (1, .ref a), (2, .int (nI s0))] := hl
  obtain ⟨hse, hen, hTk⟩ := hTk
  rcases hTk with hTk | hTk | hTk
  · obtain ⟨rfl, hlt, hdg, h7, hall, hnx⟩ := hTk
    refine lv_aload_n hx hb dX9_endOf_0 rfl (lv_at hl 1 rfl) ?_
    refine lv_iload_n hx hb dX9_endOf_1 rfl (lv_at hl 2 rfl) ?_
    refine h_callVr (rest := []) X Y (c_isLetter l G M a r n f B hn ht1 ht2 hB s0 (by omega)) rfl rfl gw_X9_67 dsc_X8_isLetter ht1 rfl rfl rfl rfl hl.1 (Nat.le_of_ble_eq_true rfl) ⟨Nat.le_of_ble_eq_true rfl, Nat.le_of_ble_eq_true rfl⟩ ⟨Nat.le_of_ble_eq_true rfl, Nat.le_of_ble_eq_true rfl⟩ dX9_endOf_2 (fun H locs Y => ?_)
    refine h_ev (y := nI 0) (congrArg bI hlt) ?_
    refine lv_if_eq (tgt := 14) hx hb dX9_endOf_5 (by decide) (fun c5 => ?_) (fun c5 => absurd (by decide) c5)
    refine lv_aload_n hx hb dX9_endOf_14 rfl (lv_at hl 1 rfl) ?_
    refine lv_iload_n hx hb dX9_endOf_15 rfl (lv_at hl 2 rfl) ?_
    refine h_callVr (rest := []) X Y (c_isDigit l G M a r n f B hn ht1 ht2 hB s0 (by omega)) rfl rfl gw_X9_74 dsc_X8_isDigit ht1 rfl rfl rfl rfl hl.1 (Nat.le_of_ble_eq_true rfl) ⟨Nat.le_of_ble_eq_true rfl, Nat.le_of_ble_eq_true rfl⟩ ⟨Nat.le_of_ble_eq_true rfl, Nat.le_of_ble_eq_true rfl⟩ dX9_endOf_16 (fun H locs Y => ?_)
    refine h_ev (y := nI 1) (congrArg bI hdg) ?_
    refine lv_if_eq (tgt := 28) hx hb dX9_endOf_19 (by decide) (fun c19 => absurd c19 (by decide)) (fun c19 => ?_)
    refine lv_aload_n hx hb dX9_endOf_22 rfl (lv_at hl 1 rfl) ?_
    refine lv_iload_n hx hb dX9_endOf_23 rfl (lv_at hl 2 rfl) ?_
    refine h_callVr (rest := []) X Y (c_behindDigits l G M a r n f B hn ht1 ht2 hB s0 e0 (by omega) (by omega) hall hnx) rfl rfl gw_X9_77 dsc_X8_behindDigits ht1 rfl rfl rfl rfl hl.1 (Nat.le_of_ble_eq_true rfl) ⟨Nat.le_of_ble_eq_true rfl, Nat.le_of_ble_eq_true rfl⟩ ⟨Nat.le_of_ble_eq_true rfl, Nat.le_of_ble_eq_true rfl⟩ dX9_endOf_24 (fun H locs Y => ?_)
    exact h_iret X Y ⟨rfl, rfl⟩ (Nat.le_refl _) (Nat.le_refl _) dX9_endOf_27
  · obtain ⟨hlt, hdg, hall, hnx, hkw⟩ := hTk
    refine lv_aload_n hx hb dX9_endOf_0 rfl (lv_at hl 1 rfl) ?_
    refine lv_iload_n hx hb dX9_endOf_1 rfl (lv_at hl 2 rfl) ?_
    refine h_callVr (rest := []) X Y (c_isLetter l G M a r n f B hn ht1 ht2 hB s0 (by omega)) rfl rfl gw_X9_67 dsc_X8_isLetter ht1 rfl rfl rfl rfl hl.1 (Nat.le_of_ble_eq_true rfl) ⟨Nat.le_of_ble_eq_true rfl, Nat.le_of_ble_eq_true rfl⟩ ⟨Nat.le_of_ble_eq_true rfl, Nat.le_of_ble_eq_true rfl⟩ dX9_endOf_2 (fun H locs Y => ?_)
    refine h_ev (y := nI 1) (congrArg bI hlt) ?_
    refine lv_if_eq (tgt := 14) hx hb dX9_endOf_5 (by decide) (fun c5 => absurd c5 (by decide)) (fun c5 => ?_)
    refine lv_aload_n hx hb dX9_endOf_8 rfl (lv_at hl 1 rfl) ?_
    refine lv_iload_n hx hb dX9_endOf_9 rfl (lv_at hl 2 rfl) ?_
    refine h_callVr (rest := []) X Y (c_behindWord l G M a r n f B hn ht1 ht2 hB s0 e0 (by omega) (by omega) hall hnx) rfl rfl gw_X9_71 dsc_X8_behindWord ht1 rfl rfl rfl rfl hl.1 (Nat.le_of_ble_eq_true rfl) ⟨Nat.le_of_ble_eq_true rfl, Nat.le_of_ble_eq_true rfl⟩ ⟨Nat.le_of_ble_eq_true rfl, Nat.le_of_ble_eq_true rfl⟩ dX9_endOf_10 (fun H locs Y => ?_)
    exact h_iret X Y ⟨rfl, rfl⟩ (Nat.le_refl _) (Nat.le_refl _) dX9_endOf_13
  · obtain ⟨hlt, hdg, hk7, hkw, hwh⟩ := hTk
    refine lv_aload_n hx hb dX9_endOf_0 rfl (lv_at hl 1 rfl) ?_
    refine lv_iload_n hx hb dX9_endOf_1 rfl (lv_at hl 2 rfl) ?_
    refine h_callVr (rest := []) X Y (c_isLetter l G M a r n f B hn ht1 ht2 hB s0 (by omega)) rfl rfl gw_X9_67 dsc_X8_isLetter ht1 rfl rfl rfl rfl hl.1 (Nat.le_of_ble_eq_true rfl) ⟨Nat.le_of_ble_eq_true rfl, Nat.le_of_ble_eq_true rfl⟩ ⟨Nat.le_of_ble_eq_true rfl, Nat.le_of_ble_eq_true rfl⟩ dX9_endOf_2 (fun H locs Y => ?_)
    refine h_ev (y := nI 0) (congrArg bI hlt) ?_
    refine lv_if_eq (tgt := 14) hx hb dX9_endOf_5 (by decide) (fun c5 => ?_) (fun c5 => absurd (by decide) c5)
    refine lv_aload_n hx hb dX9_endOf_14 rfl (lv_at hl 1 rfl) ?_
    refine lv_iload_n hx hb dX9_endOf_15 rfl (lv_at hl 2 rfl) ?_
    refine h_callVr (rest := []) X Y (c_isDigit l G M a r n f B hn ht1 ht2 hB s0 (by omega)) rfl rfl gw_X9_74 dsc_X8_isDigit ht1 rfl rfl rfl rfl hl.1 (Nat.le_of_ble_eq_true rfl) ⟨Nat.le_of_ble_eq_true rfl, Nat.le_of_ble_eq_true rfl⟩ ⟨Nat.le_of_ble_eq_true rfl, Nat.le_of_ble_eq_true rfl⟩ dX9_endOf_16 (fun H locs Y => ?_)
    refine h_ev (y := nI 0) (congrArg bI hdg) ?_
    refine lv_if_eq (tgt := 28) hx hb dX9_endOf_19 (by decide) (fun c19 => ?_) (fun c19 => absurd (by decide) c19)
    refine lv_aload_n hx hb dX9_endOf_28 rfl (lv_at hl 0 rfl) ?_
    refine lv_aload_n hx hb dX9_endOf_29 rfl (lv_at hl 1 rfl) ?_
    refine lv_iload_n hx hb dX9_endOf_30 rfl (lv_at hl 2 rfl) ?_
    refine lv_iload_n hx hb dX9_endOf_31 rfl (lv_at hl 2 rfl) ?_
    refine lv_iconst (v := 2) hx hb dX9_endOf_32 (by decide) ?_
    refine lv_iadd hx hb dX9_endOf_33 ?_
    refine h_ev (y := nI (s0 + 2)) (nI_add s0 2) ?_
    rcases hwh with ⟨he1, hk37⟩ | he2
    · refine h_callVr (rest := []) X Y (c_keyword l G M a r n f B hn ht1 ht2 hB a3 s0 (s0 + 2) (by omega) (by omega) 37 hk37) rfl rfl gw_X9_80 dsc_X9_keyword ho3 rfl rfl rfl rfl hl.1 (Nat.le_of_ble_eq_true rfl) ⟨Nat.le_of_ble_eq_true rfl, Nat.le_of_ble_eq_true rfl⟩ ⟨Nat.le_of_ble_eq_true rfl, Nat.le_of_ble_eq_true rfl⟩ dX9_endOf_34 (fun H locs Y => ?_)
      refine h_gets X Y (hsg_Z X.2.2.2.2.2.2.2.2.1 X.2.2.2.2.2.2.2.2.2.1 (k := 37) (by decide)) kfl_X9_50 dX9_endOf_37 ?_
      refine lv_acmp_ne (rx := some (hSg G 37)) (ry := some (hSg G 37)) (tgt := 49) hx hb dX9_endOf_40 (by decide) (fun c40 => absurd rfl c40) (fun c40 => ?_)
      refine lv_iload_n hx hb dX9_endOf_43 rfl (lv_at hl 2 rfl) ?_
      refine lv_iconst (v := 1) hx hb dX9_endOf_44 (by decide) ?_
      refine lv_iadd hx hb dX9_endOf_45 ?_
      refine h_ev (y := nI (s0 + 1)) (nI_1 s0) ?_
      refine lv_goto (tgt := 52) hx hb dX9_endOf_46 (by decide) ?_
      exact h_iret X Y ⟨congrArg (fun z => some (Value.int (nI z))) (by omega), rfl⟩ (Nat.le_refl _) (Nat.le_refl _) dX9_endOf_52
    · subst he2
      refine h_callVr (rest := []) X Y (c_keyword l G M a r n f B hn ht1 ht2 hB a3 s0 (s0 + 2) (by omega) (by omega) k0 hkw) rfl rfl gw_X9_80 dsc_X9_keyword ho3 rfl rfl rfl rfl hl.1 (Nat.le_of_ble_eq_true rfl) ⟨Nat.le_of_ble_eq_true rfl, Nat.le_of_ble_eq_true rfl⟩ ⟨Nat.le_of_ble_eq_true rfl, Nat.le_of_ble_eq_true rfl⟩ dX9_endOf_34 (fun H locs Y => ?_)
      refine h_gets X Y (hsg_Z X.2.2.2.2.2.2.2.2.1 X.2.2.2.2.2.2.2.2.2.1 (k := 37) (by decide)) kfl_X9_50 dX9_endOf_37 ?_
      refine lv_acmp_ne (rx := some (hSg G k0)) (ry := some (hSg G 37)) (tgt := 49) hx hb dX9_endOf_40 (by decide) (fun c40 => ?_) (fun c40 => absurd (Option.some.inj c40) (fun z9 => absurd (hsg_inj X.2.2.2.2.2.2.2.2.1 (by omega) (by omega) z9) (by omega)))
      refine lv_iload_n hx hb dX9_endOf_49 rfl (lv_at hl 2 rfl) ?_
      refine lv_iconst (v := 2) hx hb dX9_endOf_50 (by decide) ?_
      refine lv_iadd hx hb dX9_endOf_51 ?_
      refine h_ev (y := nI (s0 + 2)) (nI_add s0 2) ?_
      exact h_iret X Y ⟨rfl, rfl⟩ (Nat.le_refl _) (Nat.le_refl _) dX9_endOf_52
theorem dX9_signOf_0 : decode cX9_signOf 0 = .ok (.iload_n 2, 1) := by decide +kernel
theorem dX9_signOf_1 : decode cX9_signOf 1 = .ok (.aload_n 1, 1) := by decide +kernel
theorem dX9_signOf_2 : decode cX9_signOf 2 = .ok (.getfield 83, 3) := by decide +kernel
theorem dX9_signOf_5 : decode cX9_signOf 5 = .ok (.if_icmp .lt 7, 3) := by decide +kernel
theorem dX9_signOf_12 : decode cX9_signOf 12 = .ok (.aload_n 1, 1) := by decide +kernel
theorem dX9_signOf_13 : decode cX9_signOf 13 = .ok (.iload_n 2, 1) := by decide +kernel
theorem dX9_signOf_14 : decode cX9_signOf 14 = .ok (.invokevirtual 74, 3) := by decide +kernel
theorem dX9_signOf_17 : decode cX9_signOf 17 = .ok (.ifCond .eq 21, 3) := by decide +kernel
theorem dX9_signOf_20 : decode cX9_signOf 20 = .ok (.iload_n 3, 1) := by decide +kernel
theorem dX9_signOf_21 : decode cX9_signOf 21 = .ok (.iload_n 2, 1) := by decide +kernel
theorem dX9_signOf_22 : decode cX9_signOf 22 = .ok (.isub, 1) := by decide +kernel
theorem dX9_signOf_23 : decode cX9_signOf 23 = .ok (.bipush 7, 2) := by decide +kernel
theorem dX9_signOf_25 : decode cX9_signOf 25 = .ok (.if_icmp .le 9, 3) := by decide +kernel
theorem dX9_signOf_34 : decode cX9_signOf 34 = .ok (.getstatic 53, 3) := by decide +kernel
theorem dX9_signOf_37 : decode cX9_signOf 37 = .ok (.areturn, 1) := by decide +kernel
theorem dX9_signOf_38 : decode cX9_signOf 38 = .ok (.aload_n 0, 1) := by decide +kernel
theorem dX9_signOf_39 : decode cX9_signOf 39 = .ok (.aload_n 1, 1) := by decide +kernel
theorem dX9_signOf_40 : decode cX9_signOf 40 = .ok (.iload_n 2, 1) := by decide +kernel
theorem dX9_signOf_41 : decode cX9_signOf 41 = .ok (.iload_n 3, 1) := by decide +kernel
theorem dX9_signOf_42 : decode cX9_signOf 42 = .ok (.invokevirtual 80, 3) := by decide +kernel
theorem dX9_signOf_45 : decode cX9_signOf 45 = .ok (.astore 4, 2) := by decide +kernel
theorem dX9_signOf_47 : decode cX9_signOf 47 = .ok (.aload 4, 2) := by decide +kernel
theorem dX9_signOf_49 : decode cX9_signOf 49 = .ok (.getstatic 50, 3) := by decide +kernel
theorem dX9_signOf_52 : decode cX9_signOf 52 = .ok (.if_acmp .ne 23, 3) := by decide +kernel
theorem dX9_signOf_55 : decode cX9_signOf 55 = .ok (.aload_n 1, 1) := by decide +kernel
theorem dX9_signOf_56 : decode cX9_signOf 56 = .ok (.iload_n 2, 1) := by decide +kernel
theorem dX9_signOf_57 : decode cX9_signOf 57 = .ok (.invokevirtual 67, 3) := by decide +kernel
theorem dX9_signOf_60 : decode cX9_signOf 60 = .ok (.ifCond .eq 15, 3) := by decide +kernel
theorem dX9_signOf_63 : decode cX9_signOf 63 = .ok (.iload_n 3, 1) := by decide +kernel
theorem dX9_signOf_64 : decode cX9_signOf 64 = .ok (.iload_n 2, 1) := by decide +kernel
theorem dX9_signOf_65 : decode cX9_signOf 65 = .ok (.isub, 1) := by decide +kernel
theorem dX9_signOf_66 : decode cX9_signOf 66 = .ok (.bipush 10, 2) := by decide +kernel
theorem dX9_signOf_68 : decode cX9_signOf 68 = .ok (.if_icmp .gt 7, 3) := by decide +kernel
theorem dX9_signOf_71 : decode cX9_signOf 71 = .ok (.iconst 1, 1) := by decide +kernel
theorem dX9_signOf_72 : decode cX9_signOf 72 = .ok (.goto 4, 3) := by decide +kernel
theorem dX9_signOf_75 : decode cX9_signOf 75 = .ok (.iconst 0, 1) := by decide +kernel
theorem dX9_signOf_76 : decode cX9_signOf 76 = .ok (.istore 5, 2) := by decide +kernel
theorem dX9_signOf_78 : decode cX9_signOf 78 = .ok (.iload 5, 2) := by decide +kernel
theorem dX9_signOf_80 : decode cX9_signOf 80 = .ok (.ifCond .eq 9, 3) := by decide +kernel
theorem dX9_signOf_83 : decode cX9_signOf 83 = .ok (.getstatic 60, 3) := by decide +kernel
theorem dX9_signOf_86 : decode cX9_signOf 86 = .ok (.goto 5, 3) := by decide +kernel
theorem dX9_signOf_89 : decode cX9_signOf 89 = .ok (.aload 4, 2) := by decide +kernel
theorem dX9_signOf_91 : decode cX9_signOf 91 = .ok (.areturn, 1) := by decide +kernel
set_option maxHeartbeats 400000 in
set_option maxRecDepth 100000 in
theorem c_signOf (l : Launch) (G : hG) (M : hM) (a r n : Nat) (f : Nat → Int32) (B : Nat → Nat) (hn : n ≤ 2000) (ht1 : M a = some (1, .inr (9, [.ref r, .int (nI n)]))) (ht2 : M r = some (2, .inl (hT G 1, 2000, .inl f))) (hB : tB f B n) (a3 : Nat) (fs3 : List Value) (ho3 : M a3 = some (3, .inr (10, fs3))) (s0 e0 k0 : Nat) (hTk : TkAt B n s0 e0 k0) : hCT l G yX9_signOf cX9_signOf 6 (Option.some (FieldType.object "LossHouse$Sign")) (hRm 7 0 0) M [.ref a3, .ref a, .int (nI s0), .int (nI e0)] (hRd M (.ref (hSg G k0))) := by
  refine hCT.of (own := RX9) (nm := "signOf") (by decide) rfl rfl (Nat.le_of_ble_eq_true rfl) ?_
  intro p e s m args below meth c ls X Y hl
  have hx := X.1
  have hb := X.2.1
  have hl : lv_has ls 6 [(0, .ref a3), (1, .ref a), (2, .int (nI s0)), (3, .int (nI e0))] := hl
  obtain ⟨hse, hen, hTk⟩ := hTk
  rcases hTk with hTk | hTk | hTk
  · obtain ⟨rfl, hlt, hdg, h7, hall, hnx⟩ := hTk
    refine lv_iload_n hx hb dX9_signOf_0 rfl (lv_at hl 2 rfl) ?_
    refine lv_aload_n hx hb dX9_signOf_1 rfl (lv_at hl 1 rfl) ?_
    refine h_get X Y (k := 1) (v := .int (nI n)) ht1 rfl hin_X8 (by decide) kfl_X9_83 rfl dX9_signOf_2 ?_
    refine lv_icmp_lt (tgt := 12) hx hb dX9_signOf_5 (by decide) (fun c5 => ?_) (fun c5 => absurd (show ¬ s0 < n from fun z9 => c5 ((nI_ltI (a := s0) (b := n) (by omega) (by omega)).mpr z9)) (by omega))
    have c5 : s0 < n := (nI_ltI (a := s0) (b := n) (by omega) (by omega)).mp c5
    refine lv_aload_n hx hb dX9_signOf_12 rfl (lv_at hl 1 rfl) ?_
    refine lv_iload_n hx hb dX9_signOf_13 rfl (lv_at hl 2 rfl) ?_
    refine h_callVr (rest := []) X Y (c_isDigit l G M a r n f B hn ht1 ht2 hB s0 (by omega)) rfl rfl gw_X9_74 dsc_X8_isDigit ht1 rfl rfl rfl rfl hl.1 (Nat.le_of_ble_eq_true rfl) ⟨Nat.le_of_ble_eq_true rfl, Nat.le_of_ble_eq_true rfl⟩ ⟨Nat.le_of_ble_eq_true rfl, Nat.le_of_ble_eq_true rfl⟩ dX9_signOf_14 (fun H locs Y => ?_)
    refine h_ev (y := nI 1) (congrArg bI hdg) ?_
    refine lv_if_eq (tgt := 38) hx hb dX9_signOf_17 (by decide) (fun c17 => absurd c17 (by decide)) (fun c17 => ?_)
    refine lv_iload_n hx hb dX9_signOf_20 rfl (lv_at hl 3 rfl) ?_
    refine lv_iload_n hx hb dX9_signOf_21 rfl (lv_at hl 2 rfl) ?_
    refine lv_isub hx hb dX9_signOf_22 ?_
    refine h_ev (y := nI (e0 - s0)) (pk_sub (by omega)) ?_
    refine lv_bipush (v := 7) hx hb dX9_signOf_23 (by decide) ?_
    refine lv_icmp_le (tgt := 34) hx hb dX9_signOf_25 (by decide) (fun c25 => ?_) (fun c25 => absurd (show ¬ (e0 - s0) ≤ 7 from fun z9 => c25 ((nI_leI (a := (e0 - s0)) (b := 7) (by omega) (by omega)).mpr z9)) (by omega))
    have c25 : (e0 - s0) ≤ 7 := (nI_leI (a := (e0 - s0)) (b := 7) (by omega) (by omega)).mp c25
    refine h_gets X Y (hsg_Z X.2.2.2.2.2.2.2.2.1 X.2.2.2.2.2.2.2.2.2.1 (k := 34) (by decide)) kfl_X9_53 dX9_signOf_34 ?_
    exact h_aret (v := some (hSg G 34)) X Y (Or.inl ⟨_, rfl⟩) ⟨rfl, rfl⟩ (Nat.le_refl _) (Nat.le_refl _) dX9_signOf_37
  · obtain ⟨hlt, hdg, hall, hnx, hkw⟩ := hTk
    refine lv_iload_n hx hb dX9_signOf_0 rfl (lv_at hl 2 rfl) ?_
    refine lv_aload_n hx hb dX9_signOf_1 rfl (lv_at hl 1 rfl) ?_
    refine h_get X Y (k := 1) (v := .int (nI n)) ht1 rfl hin_X8 (by decide) kfl_X9_83 rfl dX9_signOf_2 ?_
    refine lv_icmp_lt (tgt := 12) hx hb dX9_signOf_5 (by decide) (fun c5 => ?_) (fun c5 => absurd (show ¬ s0 < n from fun z9 => c5 ((nI_ltI (a := s0) (b := n) (by omega) (by omega)).mpr z9)) (by omega))
    have c5 : s0 < n := (nI_ltI (a := s0) (b := n) (by omega) (by omega)).mp c5
    refine lv_aload_n hx hb dX9_signOf_12 rfl (lv_at hl 1 rfl) ?_
    refine lv_iload_n hx hb dX9_signOf_13 rfl (lv_at hl 2 rfl) ?_
    refine h_callVr (rest := []) X Y (c_isDigit l G M a r n f B hn ht1 ht2 hB s0 (by omega)) rfl rfl gw_X9_74 dsc_X8_isDigit ht1 rfl rfl rfl rfl hl.1 (Nat.le_of_ble_eq_true rfl) ⟨Nat.le_of_ble_eq_true rfl, Nat.le_of_ble_eq_true rfl⟩ ⟨Nat.le_of_ble_eq_true rfl, Nat.le_of_ble_eq_true rfl⟩ dX9_signOf_14 (fun H locs Y => ?_)
    refine h_ev (y := nI 0) (congrArg bI hdg) ?_
    refine lv_if_eq (tgt := 38) hx hb dX9_signOf_17 (by decide) (fun c17 => ?_) (fun c17 => absurd (by decide) c17)
    refine lv_aload_n hx hb dX9_signOf_38 rfl (lv_at hl 0 rfl) ?_
    refine lv_aload_n hx hb dX9_signOf_39 rfl (lv_at hl 1 rfl) ?_
    refine lv_iload_n hx hb dX9_signOf_40 rfl (lv_at hl 2 rfl) ?_
    refine lv_iload_n hx hb dX9_signOf_41 rfl (lv_at hl 3 rfl) ?_
    rcases hkw with ⟨rfl, h10, hkw⟩ | ⟨hk7, hkw⟩
    · refine h_callVr (rest := []) X Y (c_keyword l G M a r n f B hn ht1 ht2 hB a3 s0 e0 (by omega) (by omega) 37 hkw) rfl rfl gw_X9_80 dsc_X9_keyword ho3 rfl rfl rfl rfl hl.1 (Nat.le_of_ble_eq_true rfl) ⟨Nat.le_of_ble_eq_true rfl, Nat.le_of_ble_eq_true rfl⟩ ⟨Nat.le_of_ble_eq_true rfl, Nat.le_of_ble_eq_true rfl⟩ dX9_signOf_42 (fun H locs Y => ?_)
      refine lv_astore (lv' := [(4, .ref (hSg G 37)), (0, .ref a3), (1, .ref a), (2, .int (nI s0)), (3, .int (nI e0))]) hx hb dX9_signOf_45 hl (by decide) rfl (fun ls hl => ?_)
      refine lv_aload hx hb dX9_signOf_47 (lv_at hl 0 rfl) ?_
      refine h_gets X Y (hsg_Z X.2.2.2.2.2.2.2.2.1 X.2.2.2.2.2.2.2.2.2.1 (k := 37) (by decide)) kfl_X9_50 dX9_signOf_49 ?_
      refine lv_acmp_ne (rx := some (hSg G 37)) (ry := some (hSg G 37)) (tgt := 75) hx hb dX9_signOf_52 (by decide) (fun c52 => absurd rfl c52) (fun c52 => ?_)
      refine lv_aload_n hx hb dX9_signOf_55 rfl (lv_at hl 2 rfl) ?_
      refine lv_iload_n hx hb dX9_signOf_56 rfl (lv_at hl 3 rfl) ?_
      refine h_callVr (rest := []) X Y (c_isLetter l G M a r n f B hn ht1 ht2 hB s0 (by omega)) rfl rfl gw_X9_67 dsc_X8_isLetter ht1 rfl rfl rfl rfl hl.1 (Nat.le_of_ble_eq_true rfl) ⟨Nat.le_of_ble_eq_true rfl, Nat.le_of_ble_eq_true rfl⟩ ⟨Nat.le_of_ble_eq_true rfl, Nat.le_of_ble_eq_true rfl⟩ dX9_signOf_57 (fun H locs Y => ?_)
      refine h_ev (y := nI 1) (congrArg bI hlt) ?_
      refine lv_if_eq (tgt := 75) hx hb dX9_signOf_60 (by decide) (fun c60 => absurd c60 (by decide)) (fun c60 => ?_)
      refine lv_iload_n hx hb dX9_signOf_63 rfl (lv_at hl 4 rfl) ?_
      refine lv_iload_n hx hb dX9_signOf_64 rfl (lv_at hl 3 rfl) ?_
      refine lv_isub hx hb dX9_signOf_65 ?_
      refine h_ev (y := nI (e0 - s0)) (pk_sub (by omega)) ?_
      refine lv_bipush (v := 10) hx hb dX9_signOf_66 (by decide) ?_
      refine lv_icmp_gt (tgt := 75) hx hb dX9_signOf_68 (by decide) (fun c68 => absurd (show 10 < (e0 - s0) from (nI_ltI (a := 10) (b := (e0 - s0)) (by omega) (by omega)).mp c68) (by omega)) (fun c68 => ?_)
      have c68 : ¬ 10 < (e0 - s0) := fun z9 => c68 ((nI_ltI (a := 10) (b := (e0 - s0)) (by omega) (by omega)).mpr z9)
      refine lv_iconst (v := 1) hx hb dX9_signOf_71 (by decide) ?_
      refine lv_goto (tgt := 76) hx hb dX9_signOf_72 (by decide) ?_
      refine lv_istore (lv' := [(5, .int 1), (4, .ref (hSg G 37)), (0, .ref a3), (1, .ref a), (2, .int (nI s0)), (3, .int (nI e0))]) hx hb dX9_signOf_76 hl (by decide) rfl (fun ls hl => ?_)
      refine lv_iload hx hb dX9_signOf_78 (lv_at hl 0 rfl) ?_
      refine lv_if_eq (tgt := 89) hx hb dX9_signOf_80 (by decide) (fun c80 => absurd c80 (by decide)) (fun c80 => ?_)
      refine h_gets X Y (hsg_Z X.2.2.2.2.2.2.2.2.1 X.2.2.2.2.2.2.2.2.2.1 (k := 33) (by decide)) kfl_X9_60 dX9_signOf_83 ?_
      refine lv_goto (tgt := 91) hx hb dX9_signOf_86 (by decide) ?_
      exact h_aret (v := some (hSg G 33)) X Y (Or.inl ⟨_, rfl⟩) ⟨rfl, rfl⟩ (Nat.le_refl _) (Nat.le_refl _) dX9_signOf_91
    · refine h_callVr (rest := []) X Y (c_keyword l G M a r n f B hn ht1 ht2 hB a3 s0 e0 (by omega) (by omega) k0 hkw) rfl rfl gw_X9_80 dsc_X9_keyword ho3 rfl rfl rfl rfl hl.1 (Nat.le_of_ble_eq_true rfl) ⟨Nat.le_of_ble_eq_true rfl, Nat.le_of_ble_eq_true rfl⟩ ⟨Nat.le_of_ble_eq_true rfl, Nat.le_of_ble_eq_true rfl⟩ dX9_signOf_42 (fun H locs Y => ?_)
      refine lv_astore (lv' := [(4, .ref (hSg G k0)), (0, .ref a3), (1, .ref a), (2, .int (nI s0)), (3, .int (nI e0))]) hx hb dX9_signOf_45 hl (by decide) rfl (fun ls hl => ?_)
      refine lv_aload hx hb dX9_signOf_47 (lv_at hl 0 rfl) ?_
      refine h_gets X Y (hsg_Z X.2.2.2.2.2.2.2.2.1 X.2.2.2.2.2.2.2.2.2.1 (k := 37) (by decide)) kfl_X9_50 dX9_signOf_49 ?_
      refine lv_acmp_ne (rx := some (hSg G k0)) (ry := some (hSg G 37)) (tgt := 75) hx hb dX9_signOf_52 (by decide) (fun c52 => ?_) (fun c52 => absurd (Option.some.inj c52) (fun z9 => absurd (hsg_inj X.2.2.2.2.2.2.2.2.1 (by omega) (by omega) z9) (by omega)))
      refine lv_iconst (v := 0) hx hb dX9_signOf_75 (by decide) ?_
      refine lv_istore (lv' := [(5, .int 0), (4, .ref (hSg G k0)), (0, .ref a3), (1, .ref a), (2, .int (nI s0)), (3, .int (nI e0))]) hx hb dX9_signOf_76 hl (by decide) rfl (fun ls hl => ?_)
      refine lv_iload hx hb dX9_signOf_78 (lv_at hl 0 rfl) ?_
      refine lv_if_eq (tgt := 89) hx hb dX9_signOf_80 (by decide) (fun c80 => ?_) (fun c80 => absurd (by decide) c80)
      refine lv_aload hx hb dX9_signOf_89 (lv_at hl 1 rfl) ?_
      exact h_aret (v := some (hSg G k0)) X Y (Or.inl ⟨_, rfl⟩) ⟨rfl, rfl⟩ (Nat.le_refl _) (Nat.le_refl _) dX9_signOf_91
  · obtain ⟨hlt, hdg, hk7, hkw, hwh⟩ := hTk
    refine lv_iload_n hx hb dX9_signOf_0 rfl (lv_at hl 2 rfl) ?_
    refine lv_aload_n hx hb dX9_signOf_1 rfl (lv_at hl 1 rfl) ?_
    refine h_get X Y (k := 1) (v := .int (nI n)) ht1 rfl hin_X8 (by decide) kfl_X9_83 rfl dX9_signOf_2 ?_
    refine lv_icmp_lt (tgt := 12) hx hb dX9_signOf_5 (by decide) (fun c5 => ?_) (fun c5 => absurd (show ¬ s0 < n from fun z9 => c5 ((nI_ltI (a := s0) (b := n) (by omega) (by omega)).mpr z9)) (by omega))
    have c5 : s0 < n := (nI_ltI (a := s0) (b := n) (by omega) (by omega)).mp c5
    refine lv_aload_n hx hb dX9_signOf_12 rfl (lv_at hl 1 rfl) ?_
    refine lv_iload_n hx hb dX9_signOf_13 rfl (lv_at hl 2 rfl) ?_
    refine h_callVr (rest := []) X Y (c_isDigit l G M a r n f B hn ht1 ht2 hB s0 (by omega)) rfl rfl gw_X9_74 dsc_X8_isDigit ht1 rfl rfl rfl rfl hl.1 (Nat.le_of_ble_eq_true rfl) ⟨Nat.le_of_ble_eq_true rfl, Nat.le_of_ble_eq_true rfl⟩ ⟨Nat.le_of_ble_eq_true rfl, Nat.le_of_ble_eq_true rfl⟩ dX9_signOf_14 (fun H locs Y => ?_)
    refine h_ev (y := nI 0) (congrArg bI hdg) ?_
    refine lv_if_eq (tgt := 38) hx hb dX9_signOf_17 (by decide) (fun c17 => ?_) (fun c17 => absurd (by decide) c17)
    refine lv_aload_n hx hb dX9_signOf_38 rfl (lv_at hl 0 rfl) ?_
    refine lv_aload_n hx hb dX9_signOf_39 rfl (lv_at hl 1 rfl) ?_
    refine lv_iload_n hx hb dX9_signOf_40 rfl (lv_at hl 2 rfl) ?_
    refine lv_iload_n hx hb dX9_signOf_41 rfl (lv_at hl 3 rfl) ?_
    refine h_callVr (rest := []) X Y (c_keyword l G M a r n f B hn ht1 ht2 hB a3 s0 e0 (by omega) (by omega) k0 hkw) rfl rfl gw_X9_80 dsc_X9_keyword ho3 rfl rfl rfl rfl hl.1 (Nat.le_of_ble_eq_true rfl) ⟨Nat.le_of_ble_eq_true rfl, Nat.le_of_ble_eq_true rfl⟩ ⟨Nat.le_of_ble_eq_true rfl, Nat.le_of_ble_eq_true rfl⟩ dX9_signOf_42 (fun H locs Y => ?_)
    refine lv_astore (lv' := [(4, .ref (hSg G k0)), (0, .ref a3), (1, .ref a), (2, .int (nI s0)), (3, .int (nI e0))]) hx hb dX9_signOf_45 hl (by decide) rfl (fun ls hl => ?_)
    refine lv_aload hx hb dX9_signOf_47 (lv_at hl 0 rfl) ?_
    refine h_gets X Y (hsg_Z X.2.2.2.2.2.2.2.2.1 X.2.2.2.2.2.2.2.2.2.1 (k := 37) (by decide)) kfl_X9_50 dX9_signOf_49 ?_
    refine lv_acmp_ne (rx := some (hSg G k0)) (ry := some (hSg G 37)) (tgt := 75) hx hb dX9_signOf_52 (by decide) (fun c52 => ?_) (fun c52 => absurd (Option.some.inj c52) (fun z9 => absurd (hsg_inj X.2.2.2.2.2.2.2.2.1 (by omega) (by omega) z9) (by omega)))
    refine lv_iconst (v := 0) hx hb dX9_signOf_75 (by decide) ?_
    refine lv_istore (lv' := [(5, .int 0), (4, .ref (hSg G k0)), (0, .ref a3), (1, .ref a), (2, .int (nI s0)), (3, .int (nI e0))]) hx hb dX9_signOf_76 hl (by decide) rfl (fun ls hl => ?_)
    refine lv_iload hx hb dX9_signOf_78 (lv_at hl 0 rfl) ?_
    refine lv_if_eq (tgt := 89) hx hb dX9_signOf_80 (by decide) (fun c80 => ?_) (fun c80 => absurd (by decide) c80)
    refine lv_aload hx hb dX9_signOf_89 (lv_at hl 1 rfl) ?_
    exact h_aret (v := some (hSg G k0)) X Y (Or.inl ⟨_, rfl⟩) ⟨rfl, rfl⟩ (Nat.le_refl _) (Nat.le_refl _) dX9_signOf_91
set_option maxHeartbeats 400000 in
set_option maxRecDepth 100000 in
theorem c_endOfE (l : Launch) (G : hG) (M : hM) (a r n : Nat) (f : Nat → Int32) (B : Nat → Nat) (hn : n ≤ 2000) (ht1 : M a = some (1, .inr (9, [.ref r, .int (nI n)]))) (ht2 : M r = some (2, .inl (hT G 1, 2000, .inl f))) (hB : tB f B n) (a3 : Nat) (fs3 : List Value) (ho3 : M a3 = some (3, .inr (10, fs3))) (hkw : kwIs B n n (n + 2) 37) : hCT l G yX9_endOf cX9_endOf 3 (Option.some FieldType.int) (hRm 7 0 0) M [.ref a3, .ref a, .int (nI n)] (hRd M (.int (nI (n + 1)))) := by
  refine hCT.of (own := RX9) (nm := "endOf") (by decide) rfl rfl (Nat.le_of_ble_eq_true rfl) ?_
  intro p e s m args below meth c ls X Y hl
  have hx := X.1
  have hb := X.2.1
  have hl : lv_has ls 3 [(0, .ref a3), (1, .ref a), (2, .int (nI n))] := hl
  refine lv_aload_n hx hb dX9_endOf_0 rfl (lv_at hl 1 rfl) ?_
  refine lv_iload_n hx hb dX9_endOf_1 rfl (lv_at hl 2 rfl) ?_
  refine h_callVr (rest := []) X Y (c_isLetter l G M a r n f B hn ht1 ht2 hB n (by omega)) rfl rfl gw_X9_67 dsc_X8_isLetter ht1 rfl rfl rfl rfl hl.1 (Nat.le_of_ble_eq_true rfl) ⟨Nat.le_of_ble_eq_true rfl, Nat.le_of_ble_eq_true rfl⟩ ⟨Nat.le_of_ble_eq_true rfl, Nat.le_of_ble_eq_true rfl⟩ dX9_endOf_2 (fun H locs Y => ?_)
  refine h_ev (y := nI 0) (congrArg bI (show tLet B n n = false from decide_eq_false (by omega))) ?_
  refine lv_if_eq (tgt := 14) hx hb dX9_endOf_5 (by decide) (fun c5 => ?_) (fun c5 => absurd (by decide) c5)
  refine lv_aload_n hx hb dX9_endOf_14 rfl (lv_at hl 1 rfl) ?_
  refine lv_iload_n hx hb dX9_endOf_15 rfl (lv_at hl 2 rfl) ?_
  refine h_callVr (rest := []) X Y (c_isDigit l G M a r n f B hn ht1 ht2 hB n (by omega)) rfl rfl gw_X9_74 dsc_X8_isDigit ht1 rfl rfl rfl rfl hl.1 (Nat.le_of_ble_eq_true rfl) ⟨Nat.le_of_ble_eq_true rfl, Nat.le_of_ble_eq_true rfl⟩ ⟨Nat.le_of_ble_eq_true rfl, Nat.le_of_ble_eq_true rfl⟩ dX9_endOf_16 (fun H locs Y => ?_)
  refine h_ev (y := nI 0) (congrArg bI (show tDig B n n = false from decide_eq_false (by omega))) ?_
  refine lv_if_eq (tgt := 28) hx hb dX9_endOf_19 (by decide) (fun c19 => ?_) (fun c19 => absurd (by decide) c19)
  refine lv_aload_n hx hb dX9_endOf_28 rfl (lv_at hl 0 rfl) ?_
  refine lv_aload_n hx hb dX9_endOf_29 rfl (lv_at hl 1 rfl) ?_
  refine lv_iload_n hx hb dX9_endOf_30 rfl (lv_at hl 2 rfl) ?_
  refine lv_iload_n hx hb dX9_endOf_31 rfl (lv_at hl 2 rfl) ?_
  refine lv_iconst (v := 2) hx hb dX9_endOf_32 (by decide) ?_
  refine lv_iadd hx hb dX9_endOf_33 ?_
  refine h_ev (y := nI (n + 2)) (nI_add n 2) ?_
  refine h_callVr (rest := []) X Y (c_keyword l G M a r n f B hn ht1 ht2 hB a3 n (n + 2) (by omega) (by omega) 37 hkw) rfl rfl gw_X9_80 dsc_X9_keyword ho3 rfl rfl rfl rfl hl.1 (Nat.le_of_ble_eq_true rfl) ⟨Nat.le_of_ble_eq_true rfl, Nat.le_of_ble_eq_true rfl⟩ ⟨Nat.le_of_ble_eq_true rfl, Nat.le_of_ble_eq_true rfl⟩ dX9_endOf_34 (fun H locs Y => ?_)
  refine h_gets X Y (hsg_Z X.2.2.2.2.2.2.2.2.1 X.2.2.2.2.2.2.2.2.2.1 (k := 37) (by decide)) kfl_X9_50 dX9_endOf_37 ?_
  refine lv_acmp_ne (rx := some (hSg G 37)) (ry := some (hSg G 37)) (tgt := 49) hx hb dX9_endOf_40 (by decide) (fun c40 => absurd rfl c40) (fun c40 => ?_)
  refine lv_iload_n hx hb dX9_endOf_43 rfl (lv_at hl 2 rfl) ?_
  refine lv_iconst (v := 1) hx hb dX9_endOf_44 (by decide) ?_
  refine lv_iadd hx hb dX9_endOf_45 ?_
  refine h_ev (y := nI (n + 1)) (nI_1 n) ?_
  refine lv_goto (tgt := 52) hx hb dX9_endOf_46 (by decide) ?_
  exact h_iret X Y ⟨rfl, rfl⟩ (Nat.le_refl _) (Nat.le_refl _) dX9_endOf_52
theorem dX9_signOf_8 : decode cX9_signOf 8 = .ok (.getstatic 46, 3) := by decide +kernel
theorem dX9_signOf_11 : decode cX9_signOf 11 = .ok (.areturn, 1) := by decide +kernel
set_option maxHeartbeats 400000 in
set_option maxRecDepth 100000 in
theorem c_signOfE (l : Launch) (G : hG) (M : hM) (a r n : Nat) (f : Nat → Int32) (B : Nat → Nat) (hn : n ≤ 2000) (ht1 : M a = some (1, .inr (9, [.ref r, .int (nI n)]))) (ht2 : M r = some (2, .inl (hT G 1, 2000, .inl f))) (hB : tB f B n) (a3 : Nat) (fs3 : List Value) (ho3 : M a3 = some (3, .inr (10, fs3))) (e0 : Nat) : hCT l G yX9_signOf cX9_signOf 6 (Option.some (FieldType.object "LossHouse$Sign")) (hRm 7 0 0) M [.ref a3, .ref a, .int (nI n), .int (nI e0)] (hRd M (.ref (hSg G 36))) := by
  refine hCT.of (own := RX9) (nm := "signOf") (by decide) rfl rfl (Nat.le_of_ble_eq_true rfl) ?_
  intro p e s m args below meth c ls X Y hl
  have hx := X.1
  have hb := X.2.1
  have hl : lv_has ls 6 [(0, .ref a3), (1, .ref a), (2, .int (nI n)), (3, .int (nI e0))] := hl
  refine lv_iload_n hx hb dX9_signOf_0 rfl (lv_at hl 2 rfl) ?_
  refine lv_aload_n hx hb dX9_signOf_1 rfl (lv_at hl 1 rfl) ?_
  refine h_get X Y (k := 1) (v := .int (nI n)) ht1 rfl hin_X8 (by decide) kfl_X9_83 rfl dX9_signOf_2 ?_
  refine lv_icmp_lt (tgt := 12) hx hb dX9_signOf_5 (by decide) (fun c5 => absurd (show n < n from (nI_ltI (a := n) (b := n) (by omega) (by omega)).mp c5) (by omega)) (fun c5 => ?_)
  have c5 : ¬ n < n := fun z9 => c5 ((nI_ltI (a := n) (b := n) (by omega) (by omega)).mpr z9)
  refine h_gets X Y (hsg_Z X.2.2.2.2.2.2.2.2.1 X.2.2.2.2.2.2.2.2.2.1 (k := 36) (by decide)) kfl_X9_46 dX9_signOf_8 ?_
  exact h_aret (v := some (hSg G 36)) X Y (Or.inl ⟨_, rfl⟩) ⟨rfl, rfl⟩ (Nat.le_refl _) (Nat.le_refl _) dX9_signOf_11
