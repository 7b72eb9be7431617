-- THE HOUSE: 0 now, 1 tail, 2 the error's place, 3 the tape's length, 4 premiums, 5 expecteds
abbrev hHo : Type := Nat × Int32 × Int32 × Int32 × (Nat → Int32) × (Nat → Int32)
abbrev hNow (h : hHo) : Nat := h.1
abbrev hTail (h : hHo) : Int32 := h.2.1
abbrev hErr (h : hHo) : Int32 := h.2.2.1
abbrev hTl (h : hHo) : Int32 := h.2.2.2.1
abbrev hPr (h : hHo) : Nat → Int32 := h.2.2.2.2.1
abbrev hEx (h : hHo) : Nat → Int32 := h.2.2.2.2.2
abbrev hoO (S : hSy) (h : hHo) : List Value := [.ref (sA S 1), .ref (sA S 3), .ref (sA S 8), .ref (sA S 11), .ref (sA S 13), .ref (sA S 15), .ref (sA S 100), .ref (sA S 200), .ref (sA S 300), .ref (sA S 19), .ref (sA S 17), .ref (sA S 18), .int (nI (hNow h)), .int (hTail h), .int (hErr h)]
def HoV (G : hG) (M : hM) (S : hSy) (h : hHo) : Prop := M (sA S 0) = some (0, .inr (12, hoO S h)) ∧ M (sA S 1) = some (1, .inr (9, [.ref (sA S 2), .int (hTl h)])) ∧ M (sA S 17) = some (17, .inl (hT G 0, 10, .inl (hPr h))) ∧ M (sA S 18) = some (18, .inl (hT G 0, 10, .inl (hEx h)))
  ∧ ∃ f : Nat → Option Nat, (∀ j, j < 4 → f j = some (sA S (400 + 20 * j))) ∧ M (sA S 19) = some (19, .inl (hT G 4, 4, .inr (.inr (.inr (.inr f)))))
def CeE (G : hG) (M : hM) (S : hSy) (cx : Nat) : Prop := ∃ am be yl lo, CesV G M S cx am be yl lo
def TrE (G : hG) (M : hM) (S : hSy) (j : Nat) : Prop := ∃ ce nv, TrV G M S j ce nv
/-- the whole house, ready for questions -/
def QV (G : hG) (M : hM) (S : hSy) (h : hHo) : Prop := SyV G M S ∧ SyG S ∧ HoV G M S h ∧ (∀ cx, cx < 3 → CeE G M S cx) ∧ (∀ j, j < 4 → TrE G M S j) ∧ hNow h < 10 ∧ ∀ i, i < sM S → clY (sC S i) ≤ hNow h
theorem HoV.sim {G : hG} {Z : Nat → Prop} {M M' : hM} {S : hSy} {h : hHo} (hq : hSim G Z M M') (hz : ∀ u, Z u → hScr u) (hV : HoV G M S h) : HoV G M' S h := by
  obtain ⟨h0, h1, h2, h3, f, h4, h5⟩ := hV
  exact ⟨hq.obj h0, hq.obj h1, hq.keep h2 (fun q => by have := hz _ q; unfold hScr hS0 at this; omega), hq.keep h3 (fun q => by have := hz _ q; unfold hScr hS0 at this; omega), f, h4, hq.oth h5⟩
theorem CeE.sim {G : hG} {Z : Nat → Prop} {M M' : hM} {S : hSy} {cx : Nat} (hq : hSim G Z M M') (hV : CeE G M S cx) : CeE G M' S cx := by
  obtain ⟨am, be, yl, lo, ho, ham, ⟨fb, hfb, hbo⟩, hbr, ⟨fy, hfy, hyo⟩, hyr, hlo⟩ := hV
  obtain ⟨am', ham'⟩ := hq.row ham
  obtain ⟨lo', hlo'⟩ := hq.row hlo
  have hb : ∀ i : Nat, ∃ b : Nat → Int32, i < 40 → M' (sA S (100 * (cx + 1) + 10 + i)) = some (100 * (cx + 1) + 10 + i, .inl (hT G 0, 8, .inl b)) := fun i => by
    by_cases hi : i < 40
    · obtain ⟨b, hb⟩ := hq.row (hbr i hi)
      exact ⟨b, fun _ => hb⟩
    · exact ⟨fun _ => 0, fun q => absurd q hi⟩
  have hy : ∀ k : Nat, ∃ b : Nat → Int32, k < 8 → M' (sA S (100 * (cx + 1) + 60 + k)) = some (100 * (cx + 1) + 60 + k, .inl (hT G 0, 10, .inl b)) := fun i => by
    by_cases hi : i < 8
    · obtain ⟨b, hb⟩ := hq.row (hyr i hi)
      exact ⟨b, fun _ => hb⟩
    · exact ⟨fun _ => 0, fun q => absurd q hi⟩
  obtain ⟨be', hbe'⟩ := Classical.axiomOfChoice hb
  obtain ⟨yl', hyl'⟩ := Classical.axiomOfChoice hy
  exact ⟨am', be', yl', lo', hq.obj ho, ham', ⟨fb, hfb, hq.oth hbo⟩, hbe', ⟨fy, hfy, hq.oth hyo⟩, hyl', hlo'⟩
theorem TrE.sim {G : hG} {Z : Nat → Prop} {M M' : hM} {S : hSy} {j : Nat} (hq : hSim G Z M M') (hV : TrE G M S j) : TrE G M' S j := by
  obtain ⟨ce, nv, h1, ⟨f, h2, h3⟩, h4⟩ := hV
  obtain ⟨nv', h1'⟩ := hq.tri h1
  have hb : ∀ i : Nat, ∃ b : Nat → Int32, i < 10 → M' (sA S (400 + 20 * j + 2 + i)) = some (400 + 20 * j + 2 + i, .inl (hT G 0, 10, .inl b)) := fun i => by
    by_cases hi : i < 10
    · obtain ⟨b, hb⟩ := hq.row (h4 i hi)
      exact ⟨b, fun _ => hb⟩
    · exact ⟨fun _ => 0, fun q => absurd q hi⟩
  obtain ⟨ce', hce'⟩ := Classical.axiomOfChoice hb
  exact ⟨ce', nv', h1', ⟨f, h2, hq.oth h3⟩, hce'⟩
theorem QV.sim {G : hG} {M M' : hM} {S : hSy} {h : hHo} (hq : hSim G hScr M M') (hV : QV G M S h) : QV G M' S h :=
  ⟨hV.1.sim hq (fun _ q => q), hV.2.1, hV.2.2.1.sim hq (fun _ q => q), fun cx hc => (hV.2.2.2.1 cx hc).sim hq, fun j hj => (hV.2.2.2.2.1 j hj).sim hq, hV.2.2.2.2.2⟩
/-- what a claim comes to at an age; 0 ahead of its year -/
def qAt (S : hSy) (now age : Nat) (pd : Bool) (i : Nat) : Int32 := if age ≤ now - clY (sC S i) then clKnown (sC S i) age now pd else 0
/-- what it comes to now -/
def qAm (S : hSy) (pd : Bool) (i : Nat) : Int32 := if pd then clI (sC S i) 1 else clI (sC S i) 1 + clI (sC S i) 2
theorem pYl_congr (S : hSy) (mu : Int32) {am am' : Nat → Int32} : ∀ i, (∀ j, j < i → am j = am' j) → pYl S mu am i = pYl S mu am' i
  | 0, _ => rfl
  | i + 1, hh => by
    have e := pYl_congr S mu i (fun j hj => hh j (by omega))
    funext k y
    unfold pYl
    rw [e, hh i (by omega)]
theorem pBe_congr (S : hSy) (mu : Int32) {am am' : Nat → Int32} (i : Nat) (hh : ∀ j, j ≤ i → am j = am' j) : pBe S mu am i = pBe S mu am' i := by
  unfold pBe
  rw [pYl_congr S mu i (fun j hj => hh j (by omega)), hh i (Nat.le_refl _)]
/-- a cession holds what the amounts A give -/
def CesIs (G : hG) (M : hM) (S : hSy) (cx : Nat) (mu : Int32) (A : Nat → Int32) : Prop := ∃ am be yl lo, CesV G M S cx am be yl lo ∧ (∀ i, i < sM S → am i = A i) ∧ (∀ i, i < sM S → ∀ k, k < sN S → be i k = pBe S mu A i k) ∧ (∀ k, k < sN S → ∀ y, y < 10 → yl k y = pYl S mu A (sM S) k y)
theorem CesIs.sim {G : hG} {Z : Nat → Prop} {M M' : hM} {S : hSy} {cx : Nat} {mu : Int32} {A : Nat → Int32} (h : hSim G Z M M') (hs : ∀ u, Z u → ¬ (100 * (cx + 1) ≤ u ∧ u < 100 * (cx + 1) + 100)) (hV : CesIs G M S cx mu A) : CesIs G M' S cx mu A := by
  obtain ⟨am, be, yl, lo, h1, h2⟩ := hV
  exact ⟨am, be, yl, lo, h1.sim h hs, h2⟩
theorem rSum_congr {f g : Nat → Int32} : ∀ n, (∀ i, i < n → f i = g i) → rSum f n = rSum g n
  | 0, _ => rfl
  | n + 1, h => by
    unfold rSum
    rw [rSum_congr n (fun i hi => h i (by omega)), h n (by omega)]
theorem rGiven_congr (S : hSy) {be be' : Nat → Nat → Int32} {i k : Nat} (h : be i k = be' i k) : rGiven S be i k = rGiven S be' i k := by unfold rGiven; rw [h]
theorem rAll_congr (S : hSy) {be be' : Nat → Nat → Int32} {i : Nat} (h : ∀ k, k < sN S → be i k = be' i k) : rAll S be i = rAll S be' i := rSum_congr _ (fun k hk => rGiven_congr S (h k hk))
theorem rLeft_congr (S : hSy) {am am' : Nat → Int32} {be be' : Nat → Nat → Int32} {i : Nat} (ha : am i = am' i) (h : ∀ k, k < sN S → be i k = be' i k) : rLeft S am be i = rLeft S am' be' i := by unfold rLeft; rw [ha, rAll_congr S h]
theorem rLefts_congr (S : hSy) {am am' : Nat → Int32} {be be' : Nat → Nat → Int32} (ha : ∀ i, i < sM S → am i = am' i) (h : ∀ i, i < sM S → ∀ k, k < sN S → be i k = be' i k) : rLefts S am be = rLefts S am' be' := rSum_congr _ (fun i hi => rLeft_congr S (ha i hi) (h i hi))
theorem rBorne_congr (S : hSy) {yl yl' : Nat → Nat → Int32} {k y : Nat} (h : yl k y = yl' k y) : rBorne S yl k y = rBorne S yl' k y := by unfold rBorne; rw [h]
theorem rCharge_congr (S : hSy) {yl yl' : Nat → Nat → Int32} {k y : Nat} (h : yl k y = yl' k y) : rCharge S yl k y = rCharge S yl' k y := by unfold rCharge; rw [rBorne_congr S h]
theorem rIn_congr {z : Int32} {f g : Nat → Int32} : ∀ n, (∀ i, i < n → f i = g i) → rIn z f n = rIn z g n
  | 0, _ => rfl
  | n + 1, h => by
    unfold rIn
    rw [rIn_congr n (fun i hi => h i (by omega)), h n (by omega)]
theorem rAcc_congr {f g : Nat → Nat → Int32} (n : Nat) : ∀ k, (∀ i, i < k → ∀ y, y < n → f i y = g i y) → rAcc f n k = rAcc g n k
  | 0, _ => rfl
  | k + 1, h => by
    unfold rAcc
    rw [rAcc_congr n k (fun i hi => h i (by omega)), rIn_congr n (h k (by omega))]
theorem rCharges_congr (S : hSy) {yl yl' : Nat → Nat → Int32} (h : ∀ k, k < sN S → ∀ y, y < 10 → yl k y = yl' k y) : rCharges S yl = rCharges S yl' := rAcc_congr 10 _ (fun k hk y hy => rCharge_congr S (h k hk y hy))
theorem rCount_congr (S : hSy) {be be' : Nat → Nat → Int32} {k y : Nat} : ∀ n, (∀ i, i < n → be i k = be' i k) → rCount S be k y n = rCount S be' k y n
  | 0, _ => rfl
  | n + 1, h => by
    unfold rCount
    rw [rCount_congr S n (fun i hi => h i (by omega)), h n (by omega)]
theorem gw_X11_176 : GoodIn hGW (wsV RX11 176 RJx4a65c yJx4a65c_size_8abf5 (Cond.code yJx4a65c_size_8abf5 cJx4a65c_size_8abf5 1 (Option.some FieldType.int) :: hGW)) := hgi4 kml_X11_176 kin_Jx4a65c_size_8abf5 kse_Jx4a65c_Jx4a65c_size_8abf5_Jx4a65c_size_8abf5 kini_Jx4a65c kco_Jx4a65c_size_8abf5
theorem dsc_Jx4a65c_size_8abf5 : yJx4a65c_size_8abf5.cls = RJx4a65c ∧ yJx4a65c_size_8abf5.cls ≠ "java/lang/invoke/MethodHandle" ∧ yJx4a65c_size_8abf5.cls ≠ "java/lang/invoke/VarHandle" ∧ (parseMethodDescriptor yJx4a65c_size_8abf5.desc).map (fun d => d.parameters.length) = some 0 := ⟨rfl, by decide +kernel, by decide +kernel, by decide +kernel⟩
theorem dX11_hasLayer_0 : decode cX11_hasLayer 0 = .ok (.iload_n 1, 1) := by decide +kernel
theorem dX11_hasLayer_1 : decode cX11_hasLayer 1 = .ok (.ifCond .lt 18, 3) := by decide +kernel
theorem dX11_hasLayer_4 : decode cX11_hasLayer 4 = .ok (.iload_n 1, 1) := by decide +kernel
theorem dX11_hasLayer_5 : decode cX11_hasLayer 5 = .ok (.aload_n 0, 1) := by decide +kernel
theorem dX11_hasLayer_6 : decode cX11_hasLayer 6 = .ok (.getfield 42, 3) := by decide +kernel
theorem dX11_hasLayer_9 : decode cX11_hasLayer 9 = .ok (.invokevirtual 176, 3) := by decide +kernel
theorem dX11_hasLayer_12 : decode cX11_hasLayer 12 = .ok (.if_icmp .ge 7, 3) := by decide +kernel
theorem dX11_hasLayer_15 : decode cX11_hasLayer 15 = .ok (.iconst 1, 1) := by decide +kernel
theorem dX11_hasLayer_16 : decode cX11_hasLayer 16 = .ok (.goto 4, 3) := by decide +kernel
theorem dX11_hasLayer_20 : decode cX11_hasLayer 20 = .ok (.ireturn, 1) := by decide +kernel
set_option maxHeartbeats 400000 in
set_option maxRecDepth 100000 in
theorem c_hasLayer (l : Launch) (G : hG) (M : hM) (S : hSy) (h : hHo) (hQv : QV G M S h) (k : Nat) (hk : k < sN S) : hCT l G yX11_hasLayer cX11_hasLayer 2 (Option.some FieldType.boolean) (hRm 2 0 0) M [.ref (sA S 0), .int (nI k)] (hRd M (.int 1)) := by
  refine hCT.of (own := RX11) (nm := "hasLayer") (by decide) rfl rfl (Nat.le_of_ble_eq_true rfl) ?_
  intro p e s m args below meth c ls X Y hl
  have hx := X.1
  have hb := X.2.1
  have hl : lv_has ls 2 [(0, .ref (sA S 0)), (1, .int (nI k))] := hl
  obtain ⟨hS, hG1, hHo, hCe, hTr, hnow, hyn⟩ := id hQv
  obtain ⟨hN8, hM40, hLG, hCY⟩ := id hG1
  obtain ⟨hl13, he14, hl15, he16, hLa, hCl⟩ := id hS
  obtain ⟨mc13, hlo13⟩ := id hl13
  obtain ⟨mc15, hlo15⟩ := id hl15
  obtain ⟨ho0, ho1, ho17, ho18, ft19, hft19, ho19⟩ := id hHo
  refine lv_iload_n hx hb dX11_hasLayer_0 rfl (lv_at hl 1 rfl) ?_
  refine lv_if_lt (tgt := 19) hx hb dX11_hasLayer_1 (by decide) (fun c1 => absurd (show k < 0 from (nI_ltI (a := k) (b := 0) (by omega) (by omega)).mp c1) (by omega)) (fun c1 => ?_)
  have c1 : ¬ k < 0 := fun z9 => c1 ((nI_ltI (a := k) (b := 0) (by omega) (by omega)).mpr z9)
  refine lv_iload_n hx hb dX11_hasLayer_4 rfl (lv_at hl 1 rfl) ?_
  refine lv_aload_n hx hb dX11_hasLayer_5 rfl (lv_at hl 0 rfl) ?_
  refine h_get X Y (k := 4) (v := .ref (sA S 13)) ho0 rfl hin_X11 (by decide) kfl_X11_42 rfl dX11_hasLayer_6 ?_
  refine h_callVr (rest := [.int (nI k)]) X Y (c_size l G M (sA S 13) 13 (sA S 14) (sN S) hl13) rfl rfl gw_X11_176 dsc_Jx4a65c_size_8abf5 hlo13 rfl rfl rfl rfl hl.1 (Nat.le_of_ble_eq_true rfl) ⟨Nat.le_of_ble_eq_true rfl, Nat.le_of_ble_eq_true rfl⟩ ⟨Nat.le_of_ble_eq_true rfl, Nat.le_of_ble_eq_true rfl⟩ dX11_hasLayer_9 (fun H locs Y => ?_)
  refine lv_icmp_ge (tgt := 19) hx hb dX11_hasLayer_12 (by decide) (fun c12 => absurd (show (sN S) ≤ k from (nI_leI (a := (sN S)) (b := k) (by omega) (by omega)).mp c12) (by omega)) (fun c12 => ?_)
  have c12 : ¬ (sN S) ≤ k := fun z9 => c12 ((nI_leI (a := (sN S)) (b := k) (by omega) (by omega)).mpr z9)
  refine lv_iconst (v := 1) hx hb dX11_hasLayer_15 (by decide) ?_
  refine lv_goto (tgt := 20) hx hb dX11_hasLayer_16 (by decide) ?_
  exact h_zret X Y rfl ⟨rfl, rfl⟩ (Nat.le_refl _) (Nat.le_refl _) dX11_hasLayer_20
theorem dX11_hasClaim_0 : decode cX11_hasClaim 0 = .ok (.iload_n 1, 1) := by decide +kernel
theorem dX11_hasClaim_1 : decode cX11_hasClaim 1 = .ok (.ifCond .lt 18, 3) := by decide +kernel
theorem dX11_hasClaim_4 : decode cX11_hasClaim 4 = .ok (.iload_n 1, 1) := by decide +kernel
theorem dX11_hasClaim_5 : decode cX11_hasClaim 5 = .ok (.aload_n 0, 1) := by decide +kernel
theorem dX11_hasClaim_6 : decode cX11_hasClaim 6 = .ok (.getfield 46, 3) := by decide +kernel
theorem dX11_hasClaim_9 : decode cX11_hasClaim 9 = .ok (.invokevirtual 176, 3) := by decide +kernel
theorem dX11_hasClaim_12 : decode cX11_hasClaim 12 = .ok (.if_icmp .ge 7, 3) := by decide +kernel
theorem dX11_hasClaim_15 : decode cX11_hasClaim 15 = .ok (.iconst 1, 1) := by decide +kernel
theorem dX11_hasClaim_16 : decode cX11_hasClaim 16 = .ok (.goto 4, 3) := by decide +kernel
theorem dX11_hasClaim_20 : decode cX11_hasClaim 20 = .ok (.ireturn, 1) := by decide +kernel
set_option maxHeartbeats 400000 in
set_option maxRecDepth 100000 in
theorem c_hasClaim (l : Launch) (G : hG) (M : hM) (S : hSy) (h : hHo) (hQv : QV G M S h) (i : Nat) (hi : i < sM S) : hCT l G yX11_hasClaim cX11_hasClaim 2 (Option.some FieldType.boolean) (hRm 2 0 0) M [.ref (sA S 0), .int (nI i)] (hRd M (.int 1)) := by
  refine hCT.of (own := RX11) (nm := "hasClaim") (by decide) rfl rfl (Nat.le_of_ble_eq_true rfl) ?_
  intro p e s m args below meth c ls X Y hl
  have hx := X.1
  have hb := X.2.1
  have hl : lv_has ls 2 [(0, .ref (sA S 0)), (1, .int (nI i))] := hl
  obtain ⟨hS, hG1, hHo, hCe, hTr, hnow, hyn⟩ := id hQv
  obtain ⟨hN8, hM40, hLG, hCY⟩ := id hG1
  obtain ⟨hl13, he14, hl15, he16, hLa, hCl⟩ := id hS
  obtain ⟨mc13, hlo13⟩ := id hl13
  obtain ⟨mc15, hlo15⟩ := id hl15
  obtain ⟨ho0, ho1, ho17, ho18, ft19, hft19, ho19⟩ := id hHo
  refine lv_iload_n hx hb dX11_hasClaim_0 rfl (lv_at hl 1 rfl) ?_
  refine lv_if_lt (tgt := 19) hx hb dX11_hasClaim_1 (by decide) (fun c1 => absurd (show i < 0 from (nI_ltI (a := i) (b := 0) (by omega) (by omega)).mp c1) (by omega)) (fun c1 => ?_)
  have c1 : ¬ i < 0 := fun z9 => c1 ((nI_ltI (a := i) (b := 0) (by omega) (by omega)).mpr z9)
  refine lv_iload_n hx hb dX11_hasClaim_4 rfl (lv_at hl 1 rfl) ?_
  refine lv_aload_n hx hb dX11_hasClaim_5 rfl (lv_at hl 0 rfl) ?_
  refine h_get X Y (k := 5) (v := .ref (sA S 15)) ho0 rfl hin_X11 (by decide) kfl_X11_46 rfl dX11_hasClaim_6 ?_
  refine h_callVr (rest := [.int (nI i)]) X Y (c_size l G M (sA S 15) 15 (sA S 16) (sM S) hl15) rfl rfl gw_X11_176 dsc_Jx4a65c_size_8abf5 hlo15 rfl rfl rfl rfl hl.1 (Nat.le_of_ble_eq_true rfl) ⟨Nat.le_of_ble_eq_true rfl, Nat.le_of_ble_eq_true rfl⟩ ⟨Nat.le_of_ble_eq_true rfl, Nat.le_of_ble_eq_true rfl⟩ dX11_hasClaim_9 (fun H locs Y => ?_)
  refine lv_icmp_ge (tgt := 19) hx hb dX11_hasClaim_12 (by decide) (fun c12 => absurd (show (sM S) ≤ i from (nI_leI (a := (sM S)) (b := i) (by omega) (by omega)).mp c12) (by omega)) (fun c12 => ?_)
  have c12 : ¬ (sM S) ≤ i := fun z9 => c12 ((nI_leI (a := (sM S)) (b := i) (by omega) (by omega)).mpr z9)
  refine lv_iconst (v := 1) hx hb dX11_hasClaim_15 (by decide) ?_
  refine lv_goto (tgt := 20) hx hb dX11_hasClaim_16 (by decide) ?_
  exact h_zret X Y rfl ⟨rfl, rfl⟩ (Nat.le_refl _) (Nat.le_refl _) dX11_hasClaim_20
theorem dX11_isYear_0 : decode cX11_isYear 0 = .ok (.iload_n 1, 1) := by decide +kernel
theorem dX11_isYear_1 : decode cX11_isYear 1 = .ok (.ifCond .lt 13, 3) := by decide +kernel
theorem dX11_isYear_4 : decode cX11_isYear 4 = .ok (.iload_n 1, 1) := by decide +kernel
theorem dX11_isYear_5 : decode cX11_isYear 5 = .ok (.bipush 10, 2) := by decide +kernel
theorem dX11_isYear_7 : decode cX11_isYear 7 = .ok (.if_icmp .ge 7, 3) := by decide +kernel
theorem dX11_isYear_10 : decode cX11_isYear 10 = .ok (.iconst 1, 1) := by decide +kernel
theorem dX11_isYear_11 : decode cX11_isYear 11 = .ok (.goto 4, 3) := by decide +kernel
theorem dX11_isYear_15 : decode cX11_isYear 15 = .ok (.ireturn, 1) := by decide +kernel
set_option maxHeartbeats 400000 in
set_option maxRecDepth 100000 in
theorem c_isYear (l : Launch) (G : hG) (M : hM) (a y : Nat) (hy : y < 10) : hCT l G yX11_isYear cX11_isYear 2 (Option.some FieldType.boolean) (hRm 1 0 0) M [.ref a, .int (nI y)] (hRd M (.int 1)) := by
  refine hCT.of (own := RX11) (nm := "isYear") (by decide) rfl rfl (Nat.le_of_ble_eq_true rfl) ?_
  intro p e s m args below meth c ls X Y hl
  have hx := X.1
  have hb := X.2.1
  have hl : lv_has ls 2 [(0, .ref a), (1, .int (nI y))] := hl
  refine lv_iload_n hx hb dX11_isYear_0 rfl (lv_at hl 1 rfl) ?_
  refine lv_if_lt (tgt := 14) hx hb dX11_isYear_1 (by decide) (fun c1 => absurd (show y < 0 from (nI_ltI (a := y) (b := 0) (by omega) (by omega)).mp c1) (by omega)) (fun c1 => ?_)
  have c1 : ¬ y < 0 := fun z9 => c1 ((nI_ltI (a := y) (b := 0) (by omega) (by omega)).mpr z9)
  refine lv_iload_n hx hb dX11_isYear_4 rfl (lv_at hl 1 rfl) ?_
  refine lv_bipush (v := 10) hx hb dX11_isYear_5 (by decide) ?_
  refine lv_icmp_ge (tgt := 14) hx hb dX11_isYear_7 (by decide) (fun c7 => absurd (show 10 ≤ y from (nI_leI (a := 10) (b := y) (by omega) (by omega)).mp c7) (by omega)) (fun c7 => ?_)
  have c7 : ¬ 10 ≤ y := fun z9 => c7 ((nI_leI (a := 10) (b := y) (by omega) (by omega)).mpr z9)
  refine lv_iconst (v := 1) hx hb dX11_isYear_10 (by decide) ?_
  refine lv_goto (tgt := 15) hx hb dX11_isYear_11 (by decide) ?_
  exact h_zret X Y rfl ⟨rfl, rfl⟩ (Nat.le_refl _) (Nat.le_refl _) dX11_isYear_15
theorem dX11_isYearSoFar_0 : decode cX11_isYearSoFar 0 = .ok (.iload_n 1, 1) := by decide +kernel
theorem dX11_isYearSoFar_1 : decode cX11_isYearSoFar 1 = .ok (.ifCond .lt 15, 3) := by decide +kernel
theorem dX11_isYearSoFar_4 : decode cX11_isYearSoFar 4 = .ok (.iload_n 1, 1) := by decide +kernel
theorem dX11_isYearSoFar_5 : decode cX11_isYearSoFar 5 = .ok (.aload_n 0, 1) := by decide +kernel
theorem dX11_isYearSoFar_6 : decode cX11_isYearSoFar 6 = .ok (.getfield 78, 3) := by decide +kernel
theorem dX11_isYearSoFar_9 : decode cX11_isYearSoFar 9 = .ok (.if_icmp .gt 7, 3) := by decide +kernel
theorem dX11_isYearSoFar_12 : decode cX11_isYearSoFar 12 = .ok (.iconst 1, 1) := by decide +kernel
theorem dX11_isYearSoFar_13 : decode cX11_isYearSoFar 13 = .ok (.goto 4, 3) := by decide +kernel
theorem dX11_isYearSoFar_17 : decode cX11_isYearSoFar 17 = .ok (.ireturn, 1) := by decide +kernel
set_option maxHeartbeats 400000 in
set_option maxRecDepth 100000 in
theorem c_isYearSoFar (l : Launch) (G : hG) (M : hM) (S : hSy) (h : hHo) (hQv : QV G M S h) (y : Nat) (hy : y ≤ hNow h) : hCT l G yX11_isYearSoFar cX11_isYearSoFar 2 (Option.some FieldType.boolean) (hRm 1 0 0) M [.ref (sA S 0), .int (nI y)] (hRd M (.int 1)) := by
  refine hCT.of (own := RX11) (nm := "isYearSoFar") (by decide) rfl rfl (Nat.le_of_ble_eq_true rfl) ?_
  intro p e s m args below meth c ls X Y hl
  have hx := X.1
  have hb := X.2.1
  have hl : lv_has ls 2 [(0, .ref (sA S 0)), (1, .int (nI y))] := hl
  obtain ⟨hS, hG1, hHo, hCe, hTr, hnow, hyn⟩ := id hQv
  obtain ⟨hN8, hM40, hLG, hCY⟩ := id hG1
  obtain ⟨hl13, he14, hl15, he16, hLa, hCl⟩ := id hS
  obtain ⟨mc13, hlo13⟩ := id hl13
  obtain ⟨mc15, hlo15⟩ := id hl15
  obtain ⟨ho0, ho1, ho17, ho18, ft19, hft19, ho19⟩ := id hHo
  refine lv_iload_n hx hb dX11_isYearSoFar_0 rfl (lv_at hl 1 rfl) ?_
  refine lv_if_lt (tgt := 16) hx hb dX11_isYearSoFar_1 (by decide) (fun c1 => absurd (show y < 0 from (nI_ltI (a := y) (b := 0) (by omega) (by omega)).mp c1) (by omega)) (fun c1 => ?_)
  have c1 : ¬ y < 0 := fun z9 => c1 ((nI_ltI (a := y) (b := 0) (by omega) (by omega)).mpr z9)
  refine lv_iload_n hx hb dX11_isYearSoFar_4 rfl (lv_at hl 1 rfl) ?_
  refine lv_aload_n hx hb dX11_isYearSoFar_5 rfl (lv_at hl 0 rfl) ?_
  refine h_get X Y (k := 12) (v := .int (nI (hNow h))) ho0 rfl hin_X11 (by decide) kfl_X11_78 rfl dX11_isYearSoFar_6 ?_
  refine lv_icmp_gt (tgt := 16) hx hb dX11_isYearSoFar_9 (by decide) (fun c9 => absurd (show (hNow h) < y from (nI_ltI (a := (hNow h)) (b := y) (by omega) (by omega)).mp c9) (by omega)) (fun c9 => ?_)
  have c9 : ¬ (hNow h) < y := fun z9 => c9 ((nI_ltI (a := (hNow h)) (b := y) (by omega) (by omega)).mpr z9)
  refine lv_iconst (v := 1) hx hb dX11_isYearSoFar_12 (by decide) ?_
  refine lv_goto (tgt := 17) hx hb dX11_isYearSoFar_13 (by decide) ?_
  exact h_zret X Y rfl ⟨rfl, rfl⟩ (Nat.le_refl _) (Nat.le_refl _) dX11_isYearSoFar_17
theorem dX11_isReserve_0 : decode cX11_isReserve 0 = .ok (.iload_n 1, 1) := by decide +kernel
theorem dX11_isReserve_1 : decode cX11_isReserve 1 = .ok (.ifCond .lt 13, 3) := by decide +kernel
theorem dX11_isReserve_4 : decode cX11_isReserve 4 = .ok (.iload_n 1, 1) := by decide +kernel
theorem dX11_isReserve_5 : decode cX11_isReserve 5 = .ok (.ldc 195, 2) := by decide +kernel
theorem dX11_isReserve_7 : decode cX11_isReserve 7 = .ok (.if_icmp .gt 7, 3) := by decide +kernel
theorem dX11_isReserve_10 : decode cX11_isReserve 10 = .ok (.iconst 1, 1) := by decide +kernel
theorem dX11_isReserve_11 : decode cX11_isReserve 11 = .ok (.goto 4, 3) := by decide +kernel
theorem dX11_isReserve_15 : decode cX11_isReserve 15 = .ok (.ireturn, 1) := by decide +kernel
set_option maxHeartbeats 400000 in
set_option maxRecDepth 100000 in
theorem c_isReserve (l : Launch) (G : hG) (M : hM) (a : Nat) (x : Int32) (h0 : ¬ x < 0) (h1 : x ≤ 1000000) : hCT l G yX11_isReserve cX11_isReserve 2 (Option.some FieldType.boolean) (hRm 1 0 0) M [.ref a, .int x] (hRd M (.int 1)) := by
  refine hCT.of (own := RX11) (nm := "isReserve") (by decide) rfl rfl (Nat.le_of_ble_eq_true rfl) ?_
  intro p e s m args below meth c ls X Y hl
  have hx := X.1
  have hb := X.2.1
  have hl : lv_has ls 2 [(0, .ref a), (1, .int x)] := hl
  refine lv_iload_n hx hb dX11_isReserve_0 rfl (lv_at hl 1 rfl) ?_
  refine lv_if_lt (tgt := 14) hx hb dX11_isReserve_1 (by decide) (fun c1 => absurd c1 h0) (fun c1 => ?_)
  refine lv_iload_n hx hb dX11_isReserve_4 rfl (lv_at hl 1 rfl) ?_
  refine lv_ldc hx hb X.2.2.2.2.1 (X.2.2.2.2.2.1 _ kcI_X11_195) dX11_isReserve_5 ?_
  refine lv_icmp_gt (tgt := 14) hx hb dX11_isReserve_7 (by decide) (fun c7 => absurd h1 (fb_lt c7)) (fun c7 => ?_)
  refine lv_iconst (v := 1) hx hb dX11_isReserve_10 (by decide) ?_
  refine lv_goto (tgt := 15) hx hb dX11_isReserve_11 (by decide) ?_
  exact h_zret X Y rfl ⟨rfl, rfl⟩ (Nat.le_refl _) (Nat.le_refl _) dX11_isReserve_15
theorem dX11_isKind_0 : decode cX11_isKind 0 = .ok (.iload_n 1, 1) := by decide +kernel
theorem dX11_isKind_1 : decode cX11_isKind 1 = .ok (.ifCond .lt 12, 3) := by decide +kernel
theorem dX11_isKind_4 : decode cX11_isKind 4 = .ok (.iload_n 1, 1) := by decide +kernel
theorem dX11_isKind_5 : decode cX11_isKind 5 = .ok (.iconst 4, 1) := by decide +kernel
theorem dX11_isKind_6 : decode cX11_isKind 6 = .ok (.if_icmp .ge 7, 3) := by decide +kernel
theorem dX11_isKind_9 : decode cX11_isKind 9 = .ok (.iconst 1, 1) := by decide +kernel
theorem dX11_isKind_10 : decode cX11_isKind 10 = .ok (.goto 4, 3) := by decide +kernel
theorem dX11_isKind_14 : decode cX11_isKind 14 = .ok (.ireturn, 1) := by decide +kernel
set_option maxHeartbeats 400000 in
set_option maxRecDepth 100000 in
theorem c_isKind (l : Launch) (G : hG) (M : hM) (a k : Nat) (hk : k < 4) : hCT l G yX11_isKind cX11_isKind 2 (Option.some FieldType.boolean) (hRm 1 0 0) M [.ref a, .int (nI k)] (hRd M (.int 1)) := by
  refine hCT.of (own := RX11) (nm := "isKind") (by decide) rfl rfl (Nat.le_of_ble_eq_true rfl) ?_
  intro p e s m args below meth c ls X Y hl
  have hx := X.1
  have hb := X.2.1
  have hl : lv_has ls 2 [(0, .ref a), (1, .int (nI k))] := hl
  refine lv_iload_n hx hb dX11_isKind_0 rfl (lv_at hl 1 rfl) ?_
  refine lv_if_lt (tgt := 13) hx hb dX11_isKind_1 (by decide) (fun c1 => absurd (show k < 0 from (nI_ltI (a := k) (b := 0) (by omega) (by omega)).mp c1) (by omega)) (fun c1 => ?_)
  have c1 : ¬ k < 0 := fun z9 => c1 ((nI_ltI (a := k) (b := 0) (by omega) (by omega)).mpr z9)
  refine lv_iload_n hx hb dX11_isKind_4 rfl (lv_at hl 1 rfl) ?_
  refine lv_iconst (v := 4) hx hb dX11_isKind_5 (by decide) ?_
  refine lv_icmp_ge (tgt := 13) hx hb dX11_isKind_6 (by decide) (fun c6 => absurd (show 4 ≤ k from (nI_leI (a := 4) (b := k) (by omega) (by omega)).mp c6) (by omega)) (fun c6 => ?_)
  have c6 : ¬ 4 ≤ k := fun z9 => c6 ((nI_leI (a := 4) (b := k) (by omega) (by omega)).mpr z9)
  refine lv_iconst (v := 1) hx hb dX11_isKind_9 (by decide) ?_
  refine lv_goto (tgt := 14) hx hb dX11_isKind_10 (by decide) ?_
  exact h_zret X Y rfl ⟨rfl, rfl⟩ (Nat.le_refl _) (Nat.le_refl _) dX11_isKind_14
theorem dX11_isMethod_0 : decode cX11_isMethod 0 = .ok (.iload_n 1, 1) := by decide +kernel
theorem dX11_isMethod_1 : decode cX11_isMethod 1 = .ok (.ifCond .lt 12, 3) := by decide +kernel
theorem dX11_isMethod_4 : decode cX11_isMethod 4 = .ok (.iload_n 1, 1) := by decide +kernel
theorem dX11_isMethod_5 : decode cX11_isMethod 5 = .ok (.iconst 3, 1) := by decide +kernel
theorem dX11_isMethod_6 : decode cX11_isMethod 6 = .ok (.if_icmp .ge 7, 3) := by decide +kernel
theorem dX11_isMethod_9 : decode cX11_isMethod 9 = .ok (.iconst 1, 1) := by decide +kernel
theorem dX11_isMethod_10 : decode cX11_isMethod 10 = .ok (.goto 4, 3) := by decide +kernel
theorem dX11_isMethod_14 : decode cX11_isMethod 14 = .ok (.ireturn, 1) := by decide +kernel
set_option maxHeartbeats 400000 in
set_option maxRecDepth 100000 in
theorem c_isMethod (l : Launch) (G : hG) (M : hM) (a k : Nat) (hk : k < 3) : hCT l G yX11_isMethod cX11_isMethod 2 (Option.some FieldType.boolean) (hRm 1 0 0) M [.ref a, .int (nI k)] (hRd M (.int 1)) := by
  refine hCT.of (own := RX11) (nm := "isMethod") (by decide) rfl rfl (Nat.le_of_ble_eq_true rfl) ?_
  intro p e s m args below meth c ls X Y hl
  have hx := X.1
  have hb := X.2.1
  have hl : lv_has ls 2 [(0, .ref a), (1, .int (nI k))] := hl
  refine lv_iload_n hx hb dX11_isMethod_0 rfl (lv_at hl 1 rfl) ?_
  refine lv_if_lt (tgt := 13) hx hb dX11_isMethod_1 (by decide) (fun c1 => absurd (show k < 0 from (nI_ltI (a := k) (b := 0) (by omega) (by omega)).mp c1) (by omega)) (fun c1 => ?_)
  have c1 : ¬ k < 0 := fun z9 => c1 ((nI_ltI (a := k) (b := 0) (by omega) (by omega)).mpr z9)
  refine lv_iload_n hx hb dX11_isMethod_4 rfl (lv_at hl 1 rfl) ?_
  refine lv_iconst (v := 3) hx hb dX11_isMethod_5 (by decide) ?_
  refine lv_icmp_ge (tgt := 13) hx hb dX11_isMethod_6 (by decide) (fun c6 => absurd (show 3 ≤ k from (nI_leI (a := 3) (b := k) (by omega) (by omega)).mp c6) (by omega)) (fun c6 => ?_)
  have c6 : ¬ 3 ≤ k := fun z9 => c6 ((nI_leI (a := 3) (b := k) (by omega) (by omega)).mpr z9)
  refine lv_iconst (v := 1) hx hb dX11_isMethod_9 (by decide) ?_
  refine lv_goto (tgt := 14) hx hb dX11_isMethod_10 (by decide) ?_
  exact h_zret X Y rfl ⟨rfl, rfl⟩ (Nat.le_refl _) (Nat.le_refl _) dX11_isMethod_14
theorem gw_X11_150 : GoodIn hGW (wsV RX11 150 RJx4a65c yJx4a65c_get_915e3 (Cond.code yJx4a65c_get_915e3 cJx4a65c_get_915e3 2 (Option.some (FieldType.object "java/lang/Object")) :: hGW)) := hgi4 kml_X11_150 kin_Jx4a65c_get_915e3 kse_Jx4a65c_Jx4a65c_get_915e3_Jx4a65c_get_915e3 kini_Jx4a65c kco_Jx4a65c_get_915e3
theorem dsc_Jx4a65c_get_915e3 : yJx4a65c_get_915e3.cls = RJx4a65c ∧ yJx4a65c_get_915e3.cls ≠ "java/lang/invoke/MethodHandle" ∧ yJx4a65c_get_915e3.cls ≠ "java/lang/invoke/VarHandle" ∧ (parseMethodDescriptor yJx4a65c_get_915e3.desc).map (fun d => d.parameters.length) = some 1 := ⟨rfl, by decide +kernel, by decide +kernel, by decide +kernel⟩
theorem dX11_allPaid_0 : decode cX11_allPaid 0 = .ok (.iconst 0, 1) := by decide +kernel
theorem dX11_allPaid_1 : decode cX11_allPaid 1 = .ok (.istore_n 1, 1) := by decide +kernel
theorem dX11_allPaid_2 : decode cX11_allPaid 2 = .ok (.iconst 0, 1) := by decide +kernel
theorem dX11_allPaid_3 : decode cX11_allPaid 3 = .ok (.istore_n 2, 1) := by decide +kernel
theorem dX11_allPaid_4 : decode cX11_allPaid 4 = .ok (.iload_n 2, 1) := by decide +kernel
theorem dX11_allPaid_5 : decode cX11_allPaid 5 = .ok (.aload_n 0, 1) := by decide +kernel
theorem dX11_allPaid_6 : decode cX11_allPaid 6 = .ok (.getfield 46, 3) := by decide +kernel
theorem dX11_allPaid_9 : decode cX11_allPaid 9 = .ok (.invokevirtual 176, 3) := by decide +kernel
theorem dX11_allPaid_12 : decode cX11_allPaid 12 = .ok (.if_icmp .ge 26, 3) := by decide +kernel
theorem dX11_allPaid_15 : decode cX11_allPaid 15 = .ok (.iload_n 1, 1) := by decide +kernel
theorem dX11_allPaid_16 : decode cX11_allPaid 16 = .ok (.aload_n 0, 1) := by decide +kernel
theorem dX11_allPaid_17 : decode cX11_allPaid 17 = .ok (.getfield 46, 3) := by decide +kernel
theorem dX11_allPaid_20 : decode cX11_allPaid 20 = .ok (.iload_n 2, 1) := by decide +kernel
theorem dX11_allPaid_21 : decode cX11_allPaid 21 = .ok (.invokevirtual 150, 3) := by decide +kernel
theorem dX11_allPaid_24 : decode cX11_allPaid 24 = .ok (.checkcast 181, 3) := by decide +kernel
theorem dX11_allPaid_27 : decode cX11_allPaid 27 = .ok (.getfield 202, 3) := by decide +kernel
theorem dX11_allPaid_30 : decode cX11_allPaid 30 = .ok (.iadd, 1) := by decide +kernel
theorem dX11_allPaid_31 : decode cX11_allPaid 31 = .ok (.istore_n 1, 1) := by decide +kernel
theorem dX11_allPaid_32 : decode cX11_allPaid 32 = .ok (.iinc 2 1, 3) := by decide +kernel
theorem dX11_allPaid_35 : decode cX11_allPaid 35 = .ok (.goto (-31), 3) := by decide +kernel
theorem dX11_allPaid_38 : decode cX11_allPaid 38 = .ok (.iload_n 1, 1) := by decide +kernel
theorem dX11_allPaid_39 : decode cX11_allPaid 39 = .ok (.ireturn, 1) := by decide +kernel
set_option maxHeartbeats 400000 in
set_option maxRecDepth 100000 in
theorem c_allPaid (l : Launch) (G : hG) (M : hM) (S : hSy) (h : hHo) (hQv : QV G M S h) : hCT l G yX11_allPaid cX11_allPaid 3 (Option.some FieldType.int) (hRm 5 0 0) M [.ref (sA S 0)] (hRd M (.int (rSum (fun i => clI (sC S i) 1) (sM S)))) := by
  refine hCT.of (own := RX11) (nm := "allPaid") (by decide) rfl rfl (Nat.le_of_ble_eq_true rfl) ?_
  intro p e s m args below meth c ls X Y hl
  have hx := X.1
  have hb := X.2.1
  have hl : lv_has ls 3 [(0, .ref (sA S 0))] := hl
  obtain ⟨hS, hG1, hHo, hCe, hTr, hnow, hyn⟩ := id hQv
  obtain ⟨hN8, hM40, hLG, hCY⟩ := id hG1
  obtain ⟨hl13, he14, hl15, he16, hLa, hCl⟩ := id hS
  obtain ⟨mc13, hlo13⟩ := id hl13
  obtain ⟨mc15, hlo15⟩ := id hl15
  obtain ⟨ho0, ho1, ho17, ho18, ft19, hft19, ho19⟩ := id hHo
  refine lv_iconst (v := 0) hx hb dX11_allPaid_0 (by decide) ?_
  refine lv_istore_n (lv' := [(1, .int 0), (0, .ref (sA S 0))]) hx hb dX11_allPaid_1 rfl hl (by decide) rfl (fun ls hl => ?_)
  refine lv_iconst (v := 0) hx hb dX11_allPaid_2 (by decide) ?_
  refine lv_istore_n (lv' := [(2, .int 0), (1, .int 0), (0, .ref (sA S 0))]) hx hb dX11_allPaid_3 rfl hl (by decide) rfl (fun ls hl => ?_)
  have loop : ∀ (d k : Nat), k + d = (sM S) + 1 → k ≤ (sM S) → ∀ (H : Heap) (locs : List Loc) (ls : Array Slot), hHS G M s H locs → lv_has ls 3 [(0, .ref (sA S 0)), (1, .int (rSum (fun i => clI (sC S i) 1) k)), (2, .int (nI k))] → W p l e (hRm 5 0 0) s m args below meth c H locs 0 0 (MQ below (hQ G (hRd M (.int (rSum (fun i => clI (sC S i) 1) (sM S))))) args s 0 0 (hA G)) (F0 m 4 ls []) := by
    intro d
    induction d with
    | zero => intro k h1 h2; exact absurd h1 (by omega)
    | succ d ih =>
      intro k h1 h2 H locs ls Y hl
      refine lv_iload_n hx hb dX11_allPaid_4 rfl (lv_at hl 2 rfl) ?_
      refine lv_aload_n hx hb dX11_allPaid_5 rfl (lv_at hl 0 rfl) ?_
      refine h_get X Y (k := 5) (v := .ref (sA S 15)) ho0 rfl hin_X11 (by decide) kfl_X11_46 rfl dX11_allPaid_6 ?_
      refine h_callVr (rest := [.int (nI k)]) X Y (c_size l G M (sA S 15) 15 (sA S 16) (sM S) hl15) rfl rfl gw_X11_176 dsc_Jx4a65c_size_8abf5 hlo15 rfl rfl rfl rfl hl.1 (Nat.le_of_ble_eq_true rfl) ⟨Nat.le_of_ble_eq_true rfl, Nat.le_of_ble_eq_true rfl⟩ ⟨Nat.le_of_ble_eq_true rfl, Nat.le_of_ble_eq_true rfl⟩ dX11_allPaid_9 (fun H locs Y => ?_)
      refine lv_icmp_ge (tgt := 38) hx hb dX11_allPaid_12 (by decide) (fun c12 => ?_) (fun c12 => ?_)
      · have c12 : (sM S) ≤ k := (nI_leI (a := (sM S)) (b := k) (by omega) (by omega)).mp c12
        have hk9 : k = (sM S) := by omega
        subst hk9
        refine lv_iload_n hx hb dX11_allPaid_38 rfl (lv_at hl 1 rfl) ?_
        exact h_iret X Y ⟨rfl, rfl⟩ (Nat.le_refl _) (Nat.le_refl _) dX11_allPaid_39
      · have c12 : ¬ (sM S) ≤ k := fun z9 => c12 ((nI_leI (a := (sM S)) (b := k) (by omega) (by omega)).mpr z9)
        refine lv_iload_n hx hb dX11_allPaid_15 rfl (lv_at hl 1 rfl) ?_
        refine lv_aload_n hx hb dX11_allPaid_16 rfl (lv_at hl 0 rfl) ?_
        refine h_get X Y (k := 5) (v := .ref (sA S 15)) ho0 rfl hin_X11 (by decide) kfl_X11_46 rfl dX11_allPaid_17 ?_
        refine lv_iload_n hx hb dX11_allPaid_20 rfl (lv_at hl 2 rfl) ?_
        refine h_callVr (rest := [.int (rSum (fun i => clI (sC S i) 1) k)]) X Y (c_get l G M (sA S 15) 15 (sA S 16) 16 (sM S) k (fun i => sA S (1000 + 10 * i)) hl15 (he16 (by omega)) (by omega)) rfl rfl gw_X11_150 dsc_Jx4a65c_get_915e3 hlo15 rfl rfl rfl rfl hl.1 (Nat.le_of_ble_eq_true rfl) ⟨Nat.le_of_ble_eq_true rfl, Nat.le_of_ble_eq_true rfl⟩ ⟨Nat.le_of_ble_eq_true rfl, Nat.le_of_ble_eq_true rfl⟩ dX11_allPaid_21 (fun H locs Y => ?_)
        refine h_cast X Y (hCl k (by omega)).1 rfl rfl kcl_X11_181 dX11_allPaid_24 ?_
        refine h_get X Y (k := 2) (v := .int (clI (sC S k) 1)) (hCl k (by omega)).1 rfl hin_X3 (by decide) kfl_X11_202 rfl dX11_allPaid_27 ?_
        refine lv_iadd hx hb dX11_allPaid_30 ?_
        refine lv_istore_n (lv' := [(1, .int ((rSum (fun i => clI (sC S i) 1) k) + (clI (sC S k) 1))), (0, .ref (sA S 0)), (2, .int (nI k))]) hx hb dX11_allPaid_31 rfl hl (by decide) rfl (fun ls hl => ?_)
        refine lv_iinc (v := nI (k + 1)) (lv' := [(2, .int (nI (k + 1))), (1, .int ((rSum (fun i => clI (sC S i) 1) k) + (clI (sC S k) 1))), (0, .ref (sA S 0))]) hx hb dX11_allPaid_32 hl (k := 2) rfl (nI_1 k) (by decide) rfl (fun ls hl => ?_)
        refine lv_goto (tgt := 4) hx hb dX11_allPaid_35 (by decide) ?_
        exact ih (k + 1) (by omega) (by omega) _ _ _ Y (lv_sub hl [2, 1, 0] rfl)
  exact loop ((sM S) + 1) 0 (by omega) (by omega) _ _ _ Y (lv_sub hl [2, 1, 0] rfl)
theorem dX11_allReserves_0 : decode cX11_allReserves 0 = .ok (.iconst 0, 1) := by decide +kernel
theorem dX11_allReserves_1 : decode cX11_allReserves 1 = .ok (.istore_n 1, 1) := by decide +kernel
theorem dX11_allReserves_2 : decode cX11_allReserves 2 = .ok (.iconst 0, 1) := by decide +kernel
theorem dX11_allReserves_3 : decode cX11_allReserves 3 = .ok (.istore_n 2, 1) := by decide +kernel
theorem dX11_allReserves_4 : decode cX11_allReserves 4 = .ok (.iload_n 2, 1) := by decide +kernel
theorem dX11_allReserves_5 : decode cX11_allReserves 5 = .ok (.aload_n 0, 1) := by decide +kernel
theorem dX11_allReserves_6 : decode cX11_allReserves 6 = .ok (.getfield 46, 3) := by decide +kernel
theorem dX11_allReserves_9 : decode cX11_allReserves 9 = .ok (.invokevirtual 176, 3) := by decide +kernel
theorem dX11_allReserves_12 : decode cX11_allReserves 12 = .ok (.if_icmp .ge 26, 3) := by decide +kernel
theorem dX11_allReserves_15 : decode cX11_allReserves 15 = .ok (.iload_n 1, 1) := by decide +kernel
theorem dX11_allReserves_16 : decode cX11_allReserves 16 = .ok (.aload_n 0, 1) := by decide +kernel
theorem dX11_allReserves_17 : decode cX11_allReserves 17 = .ok (.getfield 46, 3) := by decide +kernel
theorem dX11_allReserves_20 : decode cX11_allReserves 20 = .ok (.iload_n 2, 1) := by decide +kernel
theorem dX11_allReserves_21 : decode cX11_allReserves 21 = .ok (.invokevirtual 150, 3) := by decide +kernel
theorem dX11_allReserves_24 : decode cX11_allReserves 24 = .ok (.checkcast 181, 3) := by decide +kernel
theorem dX11_allReserves_27 : decode cX11_allReserves 27 = .ok (.getfield 207, 3) := by decide +kernel
theorem dX11_allReserves_30 : decode cX11_allReserves 30 = .ok (.iadd, 1) := by decide +kernel
theorem dX11_allReserves_31 : decode cX11_allReserves 31 = .ok (.istore_n 1, 1) := by decide +kernel
theorem dX11_allReserves_32 : decode cX11_allReserves 32 = .ok (.iinc 2 1, 3) := by decide +kernel
theorem dX11_allReserves_35 : decode cX11_allReserves 35 = .ok (.goto (-31), 3) := by decide +kernel
theorem dX11_allReserves_38 : decode cX11_allReserves 38 = .ok (.iload_n 1, 1) := by decide +kernel
theorem dX11_allReserves_39 : decode cX11_allReserves 39 = .ok (.ireturn, 1) := by decide +kernel
set_option maxHeartbeats 400000 in
set_option maxRecDepth 100000 in
theorem c_allReserves (l : Launch) (G : hG) (M : hM) (S : hSy) (h : hHo) (hQv : QV G M S h) : hCT l G yX11_allReserves cX11_allReserves 3 (Option.some FieldType.int) (hRm 5 0 0) M [.ref (sA S 0)] (hRd M (.int (rSum (fun i => clI (sC S i) 2) (sM S)))) := by
  refine hCT.of (own := RX11) (nm := "allReserves") (by decide) rfl rfl (Nat.le_of_ble_eq_true rfl) ?_
  intro p e s m args below meth c ls X Y hl
  have hx := X.1
  have hb := X.2.1
  have hl : lv_has ls 3 [(0, .ref (sA S 0))] := hl
  obtain ⟨hS, hG1, hHo, hCe, hTr, hnow, hyn⟩ := id hQv
  obtain ⟨hN8, hM40, hLG, hCY⟩ := id hG1
  obtain ⟨hl13, he14, hl15, he16, hLa, hCl⟩ := id hS
  obtain ⟨mc13, hlo13⟩ := id hl13
  obtain ⟨mc15, hlo15⟩ := id hl15
  obtain ⟨ho0, ho1, ho17, ho18, ft19, hft19, ho19⟩ := id hHo
  refine lv_iconst (v := 0) hx hb dX11_allReserves_0 (by decide) ?_
  refine lv_istore_n (lv' := [(1, .int 0), (0, .ref (sA S 0))]) hx hb dX11_allReserves_1 rfl hl (by decide) rfl (fun ls hl => ?_)
  refine lv_iconst (v := 0) hx hb dX11_allReserves_2 (by decide) ?_
  refine lv_istore_n (lv' := [(2, .int 0), (1, .int 0), (0, .ref (sA S 0))]) hx hb dX11_allReserves_3 rfl hl (by decide) rfl (fun ls hl => ?_)
  have loop : ∀ (d k : Nat), k + d = (sM S) + 1 → k ≤ (sM S) → ∀ (H : Heap) (locs : List Loc) (ls : Array Slot), hHS G M s H locs → lv_has ls 3 [(0, .ref (sA S 0)), (1, .int (rSum (fun i => clI (sC S i) 2) k)), (2, .int (nI k))] → W p l e (hRm 5 0 0) s m args below meth c H locs 0 0 (MQ below (hQ G (hRd M (.int (rSum (fun i => clI (sC S i) 2) (sM S))))) args s 0 0 (hA G)) (F0 m 4 ls []) := by
    intro d
    induction d with
    | zero => intro k h1 h2; exact absurd h1 (by omega)
    | succ d ih =>
      intro k h1 h2 H locs ls Y hl
      refine lv_iload_n hx hb dX11_allReserves_4 rfl (lv_at hl 2 rfl) ?_
      refine lv_aload_n hx hb dX11_allReserves_5 rfl (lv_at hl 0 rfl) ?_
      refine h_get X Y (k := 5) (v := .ref (sA S 15)) ho0 rfl hin_X11 (by decide) kfl_X11_46 rfl dX11_allReserves_6 ?_
      refine h_callVr (rest := [.int (nI k)]) X Y (c_size l G M (sA S 15) 15 (sA S 16) (sM S) hl15) rfl rfl gw_X11_176 dsc_Jx4a65c_size_8abf5 hlo15 rfl rfl rfl rfl hl.1 (Nat.le_of_ble_eq_true rfl) ⟨Nat.le_of_ble_eq_true rfl, Nat.le_of_ble_eq_true rfl⟩ ⟨Nat.le_of_ble_eq_true rfl, Nat.le_of_ble_eq_true rfl⟩ dX11_allReserves_9 (fun H locs Y => ?_)
      refine lv_icmp_ge (tgt := 38) hx hb dX11_allReserves_12 (by decide) (fun c12 => ?_) (fun c12 => ?_)
      · have c12 : (sM S) ≤ k := (nI_leI (a := (sM S)) (b := k) (by omega) (by omega)).mp c12
        have hk9 : k = (sM S) := by omega
        subst hk9
        refine lv_iload_n hx hb dX11_allReserves_38 rfl (lv_at hl 1 rfl) ?_
        exact h_iret X Y ⟨rfl, rfl⟩ (Nat.le_refl _) (Nat.le_refl _) dX11_allReserves_39
      · have c12 : ¬ (sM S) ≤ k := fun z9 => c12 ((nI_leI (a := (sM S)) (b := k) (by omega) (by omega)).mpr z9)
        refine lv_iload_n hx hb dX11_allReserves_15 rfl (lv_at hl 1 rfl) ?_
        refine lv_aload_n hx hb dX11_allReserves_16 rfl (lv_at hl 0 rfl) ?_
        refine h_get X Y (k := 5) (v := .ref (sA S 15)) ho0 rfl hin_X11 (by decide) kfl_X11_46 rfl dX11_allReserves_17 ?_
        refine lv_iload_n hx hb dX11_allReserves_20 rfl (lv_at hl 2 rfl) ?_
        refine h_callVr (rest := [.int (rSum (fun i => clI (sC S i) 2) k)]) X Y (c_get l G M (sA S 15) 15 (sA S 16) 16 (sM S) k (fun i => sA S (1000 + 10 * i)) hl15 (he16 (by omega)) (by omega)) rfl rfl gw_X11_150 dsc_Jx4a65c_get_915e3 hlo15 rfl rfl rfl rfl hl.1 (Nat.le_of_ble_eq_true rfl) ⟨Nat.le_of_ble_eq_true rfl, Nat.le_of_ble_eq_true rfl⟩ ⟨Nat.le_of_ble_eq_true rfl, Nat.le_of_ble_eq_true rfl⟩ dX11_allReserves_21 (fun H locs Y => ?_)
        refine h_cast X Y (hCl k (by omega)).1 rfl rfl kcl_X11_181 dX11_allReserves_24 ?_
        refine h_get X Y (k := 3) (v := .int (clI (sC S k) 2)) (hCl k (by omega)).1 rfl hin_X3 (by decide) kfl_X11_207 rfl dX11_allReserves_27 ?_
        refine lv_iadd hx hb dX11_allReserves_30 ?_
        refine lv_istore_n (lv' := [(1, .int ((rSum (fun i => clI (sC S i) 2) k) + (clI (sC S k) 2))), (0, .ref (sA S 0)), (2, .int (nI k))]) hx hb dX11_allReserves_31 rfl hl (by decide) rfl (fun ls hl => ?_)
        refine lv_iinc (v := nI (k + 1)) (lv' := [(2, .int (nI (k + 1))), (1, .int ((rSum (fun i => clI (sC S i) 2) k) + (clI (sC S k) 2))), (0, .ref (sA S 0))]) hx hb dX11_allReserves_32 hl (k := 2) rfl (nI_1 k) (by decide) rfl (fun ls hl => ?_)
        refine lv_goto (tgt := 4) hx hb dX11_allReserves_35 (by decide) ?_
        exact ih (k + 1) (by omega) (by omega) _ _ _ Y (lv_sub hl [2, 1, 0] rfl)
  exact loop ((sM S) + 1) 0 (by omega) (by omega) _ _ _ Y (lv_sub hl [2, 1, 0] rfl)
def clOpen (C : hCl) : Int32 := if clI C 3 = 0 then 0 else 1
theorem dX11_openClaims_0 : decode cX11_openClaims 0 = .ok (.iconst 0, 1) := by decide +kernel
theorem dX11_openClaims_1 : decode cX11_openClaims 1 = .ok (.istore_n 1, 1) := by decide +kernel
theorem dX11_openClaims_2 : decode cX11_openClaims 2 = .ok (.iconst 0, 1) := by decide +kernel
theorem dX11_openClaims_3 : decode cX11_openClaims 3 = .ok (.istore_n 2, 1) := by decide +kernel
theorem dX11_openClaims_4 : decode cX11_openClaims 4 = .ok (.iload_n 2, 1) := by decide +kernel
theorem dX11_openClaims_5 : decode cX11_openClaims 5 = .ok (.aload_n 0, 1) := by decide +kernel
theorem dX11_openClaims_6 : decode cX11_openClaims 6 = .ok (.getfield 46, 3) := by decide +kernel
theorem dX11_openClaims_9 : decode cX11_openClaims 9 = .ok (.invokevirtual 176, 3) := by decide +kernel
theorem dX11_openClaims_12 : decode cX11_openClaims 12 = .ok (.if_icmp .ge 34, 3) := by decide +kernel
theorem dX11_openClaims_15 : decode cX11_openClaims 15 = .ok (.iload_n 1, 1) := by decide +kernel
theorem dX11_openClaims_16 : decode cX11_openClaims 16 = .ok (.aload_n 0, 1) := by decide +kernel
theorem dX11_openClaims_17 : decode cX11_openClaims 17 = .ok (.getfield 46, 3) := by decide +kernel
theorem dX11_openClaims_20 : decode cX11_openClaims 20 = .ok (.iload_n 2, 1) := by decide +kernel
theorem dX11_openClaims_21 : decode cX11_openClaims 21 = .ok (.invokevirtual 150, 3) := by decide +kernel
theorem dX11_openClaims_24 : decode cX11_openClaims 24 = .ok (.checkcast 181, 3) := by decide +kernel
theorem dX11_openClaims_27 : decode cX11_openClaims 27 = .ok (.getfield 198, 3) := by decide +kernel
theorem dX11_openClaims_30 : decode cX11_openClaims 30 = .ok (.ifCond .eq 7, 3) := by decide +kernel
theorem dX11_openClaims_33 : decode cX11_openClaims 33 = .ok (.iconst 1, 1) := by decide +kernel
theorem dX11_openClaims_34 : decode cX11_openClaims 34 = .ok (.goto 4, 3) := by decide +kernel
theorem dX11_openClaims_37 : decode cX11_openClaims 37 = .ok (.iconst 0, 1) := by decide +kernel
theorem dX11_openClaims_38 : decode cX11_openClaims 38 = .ok (.iadd, 1) := by decide +kernel
theorem dX11_openClaims_39 : decode cX11_openClaims 39 = .ok (.istore_n 1, 1) := by decide +kernel
theorem dX11_openClaims_40 : decode cX11_openClaims 40 = .ok (.iinc 2 1, 3) := by decide +kernel
theorem dX11_openClaims_43 : decode cX11_openClaims 43 = .ok (.goto (-39), 3) := by decide +kernel
theorem dX11_openClaims_46 : decode cX11_openClaims 46 = .ok (.iload_n 1, 1) := by decide +kernel
theorem dX11_openClaims_47 : decode cX11_openClaims 47 = .ok (.ireturn, 1) := by decide +kernel
set_option maxHeartbeats 400000 in
set_option maxRecDepth 100000 in
theorem c_openClaims (l : Launch) (G : hG) (M : hM) (S : hSy) (h : hHo) (hQv : QV G M S h) : hCT l G yX11_openClaims cX11_openClaims 3 (Option.some FieldType.int) (hRm 5 0 0) M [.ref (sA S 0)] (hRd M (.int (rSum (fun i => clOpen (sC S i)) (sM S)))) := by
  refine hCT.of (own := RX11) (nm := "openClaims") (by decide) rfl rfl (Nat.le_of_ble_eq_true rfl) ?_
  intro p e s m args below meth c ls X Y hl
  have hx := X.1
  have hb := X.2.1
  have hl : lv_has ls 3 [(0, .ref (sA S 0))] := hl
  obtain ⟨hS, hG1, hHo, hCe, hTr, hnow, hyn⟩ := id hQv
  obtain ⟨hN8, hM40, hLG, hCY⟩ := id hG1
  obtain ⟨hl13, he14, hl15, he16, hLa, hCl⟩ := id hS
  obtain ⟨mc13, hlo13⟩ := id hl13
  obtain ⟨mc15, hlo15⟩ := id hl15
  obtain ⟨ho0, ho1, ho17, ho18, ft19, hft19, ho19⟩ := id hHo
  refine lv_iconst (v := 0) hx hb dX11_openClaims_0 (by decide) ?_
  refine lv_istore_n (lv' := [(1, .int 0), (0, .ref (sA S 0))]) hx hb dX11_openClaims_1 rfl hl (by decide) rfl (fun ls hl => ?_)
  refine lv_iconst (v := 0) hx hb dX11_openClaims_2 (by decide) ?_
  refine lv_istore_n (lv' := [(2, .int 0), (1, .int 0), (0, .ref (sA S 0))]) hx hb dX11_openClaims_3 rfl hl (by decide) rfl (fun ls hl => ?_)
  have loop : ∀ (d k : Nat), k + d = (sM S) + 1 → k ≤ (sM S) → ∀ (H : Heap) (locs : List Loc) (ls : Array Slot), hHS G M s H locs → lv_has ls 3 [(0, .ref (sA S 0)), (1, .int (rSum (fun i => clOpen (sC S i)) k)), (2, .int (nI k))] → W p l e (hRm 5 0 0) s m args below meth c H locs 0 0 (MQ below (hQ G (hRd M (.int (rSum (fun i => clOpen (sC S i)) (sM S))))) args s 0 0 (hA G)) (F0 m 4 ls []) := by
    intro d
    induction d with
    | zero => intro k h1 h2; exact absurd h1 (by omega)
    | succ d ih =>
      intro k h1 h2 H locs ls Y hl
      refine lv_iload_n hx hb dX11_openClaims_4 rfl (lv_at hl 2 rfl) ?_
      refine lv_aload_n hx hb dX11_openClaims_5 rfl (lv_at hl 0 rfl) ?_
      refine h_get X Y (k := 5) (v := .ref (sA S 15)) ho0 rfl hin_X11 (by decide) kfl_X11_46 rfl dX11_openClaims_6 ?_
      refine h_callVr (rest := [.int (nI k)]) X Y (c_size l G M (sA S 15) 15 (sA S 16) (sM S) hl15) rfl rfl gw_X11_176 dsc_Jx4a65c_size_8abf5 hlo15 rfl rfl rfl rfl hl.1 (Nat.le_of_ble_eq_true rfl) ⟨Nat.le_of_ble_eq_true rfl, Nat.le_of_ble_eq_true rfl⟩ ⟨Nat.le_of_ble_eq_true rfl, Nat.le_of_ble_eq_true rfl⟩ dX11_openClaims_9 (fun H locs Y => ?_)
      refine lv_icmp_ge (tgt := 46) hx hb dX11_openClaims_12 (by decide) (fun c12 => ?_) (fun c12 => ?_)
      · have c12 : (sM S) ≤ k := (nI_leI (a := (sM S)) (b := k) (by omega) (by omega)).mp c12
        have hk9 : k = (sM S) := by omega
        subst hk9
        refine lv_iload_n hx hb dX11_openClaims_46 rfl (lv_at hl 1 rfl) ?_
        exact h_iret X Y ⟨rfl, rfl⟩ (Nat.le_refl _) (Nat.le_refl _) dX11_openClaims_47
      · have c12 : ¬ (sM S) ≤ k := fun z9 => c12 ((nI_leI (a := (sM S)) (b := k) (by omega) (by omega)).mpr z9)
        refine lv_iload_n hx hb dX11_openClaims_15 rfl (lv_at hl 1 rfl) ?_
        refine lv_aload_n hx hb dX11_openClaims_16 rfl (lv_at hl 0 rfl) ?_
        refine h_get X Y (k := 5) (v := .ref (sA S 15)) ho0 rfl hin_X11 (by decide) kfl_X11_46 rfl dX11_openClaims_17 ?_
        refine lv_iload_n hx hb dX11_openClaims_20 rfl (lv_at hl 2 rfl) ?_
        refine h_callVr (rest := [.int (rSum (fun i => clOpen (sC S i)) k)]) X Y (c_get l G M (sA S 15) 15 (sA S 16) 16 (sM S) k (fun i => sA S (1000 + 10 * i)) hl15 (he16 (by omega)) (by omega)) rfl rfl gw_X11_150 dsc_Jx4a65c_get_915e3 hlo15 rfl rfl rfl rfl hl.1 (Nat.le_of_ble_eq_true rfl) ⟨Nat.le_of_ble_eq_true rfl, Nat.le_of_ble_eq_true rfl⟩ ⟨Nat.le_of_ble_eq_true rfl, Nat.le_of_ble_eq_true rfl⟩ dX11_openClaims_21 (fun H locs Y => ?_)
        refine h_cast X Y (hCl k (by omega)).1 rfl rfl kcl_X11_181 dX11_openClaims_24 ?_
        refine h_get X Y (k := 4) (v := .int (clI (sC S k) 3)) (hCl k (by omega)).1 rfl hin_X3 (by decide) kfl_X11_198 rfl dX11_openClaims_27 ?_
        refine lv_if_eq (tgt := 37) hx hb dX11_openClaims_30 (by decide) (fun c30 => ?_) (fun c30 => ?_)
        · refine lv_iconst (v := 0) hx hb dX11_openClaims_37 (by decide) ?_
          refine h_ev (y := clOpen (sC S k)) (if_pos c30).symm ?_
          refine lv_iadd hx hb dX11_openClaims_38 ?_
          refine lv_istore_n (lv' := [(1, .int ((rSum (fun i => clOpen (sC S i)) k) + (clOpen (sC S k)))), (0, .ref (sA S 0)), (2, .int (nI k))]) hx hb dX11_openClaims_39 rfl hl (by decide) rfl (fun ls hl => ?_)
          refine lv_iinc (v := nI (k + 1)) (lv' := [(2, .int (nI (k + 1))), (1, .int ((rSum (fun i => clOpen (sC S i)) k) + (clOpen (sC S k)))), (0, .ref (sA S 0))]) hx hb dX11_openClaims_40 hl (k := 2) rfl (nI_1 k) (by decide) rfl (fun ls hl => ?_)
          refine lv_goto (tgt := 4) hx hb dX11_openClaims_43 (by decide) ?_
          exact ih (k + 1) (by omega) (by omega) _ _ _ Y (lv_sub hl [2, 1, 0] rfl)
        · refine lv_iconst (v := 1) hx hb dX11_openClaims_33 (by decide) ?_
          refine lv_goto (tgt := 38) hx hb dX11_openClaims_34 (by decide) ?_
          refine h_ev (y := clOpen (sC S k)) (if_neg c30).symm ?_
          refine lv_iadd hx hb dX11_openClaims_38 ?_
          refine lv_istore_n (lv' := [(1, .int ((rSum (fun i => clOpen (sC S i)) k) + (clOpen (sC S k)))), (0, .ref (sA S 0)), (2, .int (nI k))]) hx hb dX11_openClaims_39 rfl hl (by decide) rfl (fun ls hl => ?_)
          refine lv_iinc (v := nI (k + 1)) (lv' := [(2, .int (nI (k + 1))), (1, .int ((rSum (fun i => clOpen (sC S i)) k) + (clOpen (sC S k)))), (0, .ref (sA S 0))]) hx hb dX11_openClaims_40 hl (k := 2) rfl (nI_1 k) (by decide) rfl (fun ls hl => ?_)
          refine lv_goto (tgt := 4) hx hb dX11_openClaims_43 (by decide) ?_
          exact ih (k + 1) (by omega) (by omega) _ _ _ Y (lv_sub hl [2, 1, 0] rfl)
  exact loop ((sM S) + 1) 0 (by omega) (by omega) _ _ _ Y (lv_sub hl [2, 1, 0] rfl)
