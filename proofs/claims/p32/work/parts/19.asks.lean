-- WHAT IS ASKED OF THE HOUSE
def qLeft (S : hSy) (pd : Bool) (i : Nat) : Int32 := rLeft S (qAm S pd) (pBe S (-1) (qAm S pd)) i
def qLefts (S : hSy) (pd : Bool) (mu : Int32) : Int32 := rLefts S (qAm S pd) (pBe S mu (qAm S pd))
def qYl (S : hSy) (pd : Bool) (k y : Nat) : Int32 := pYl S (-1) (qAm S pd) (sM S) k y
def qUsed (S : hSy) (k y what : Nat) : Int32 := match what with
  | 0 => rBorne S (qYl S false) k y
  | 1 => lyRoom (sL S k) y (rBorne S (qYl S false) k y)
  | 2 => rCharge S (qYl S false) k y
  | _ => nI (rCount S (pBe S (-1) (qAm S false)) k y (sM S))
def qCount (S : hSy) (h : hHo) (what : Nat) : Int32 := match what with
  | 0 => nI (sN S)
  | 1 => nI (sM S)
  | 2 => rSum (fun i => clOpen (sC S i)) (sM S)
  | 3 => nI (hNow h)
  | 4 => hTl h
  | 5 => rSum (fun i => clI (sC S i) 1) (sM S)
  | 6 => rSum (fun i => clI (sC S i) 2) (sM S)
  | 7 => qLefts S false (-1)
  | _ => rCharges S (qYl S false)
def qClaim (S : hSy) (i what : Nat) : Int32 := match what with
  | 0 => nI (clY (sC S i))
  | 1 => clI (sC S i) 0
  | 2 => clI (sC S i) 1
  | 3 => clI (sC S i) 2
  | 4 => clI (sC S i) 1 + clI (sC S i) 2
  | 5 => clOpen (sC S i)
  | 6 => qLeft S true i
  | _ => qLeft S false i
def qTri (S : hSy) (now k y b : Nat) : Int32 := qCell S now k y b (sM S)
theorem rSumL_congr {f g : Nat → Int32} : ∀ n, (∀ i, i < n → f i = g i) → rSumL f n = rSumL g n
  | 0, _ => rfl
  | n + 1, h => by
    unfold rSumL
    rw [rSumL_congr n (fun i hi => h i (by omega)), h n (by omega)]
theorem trFac_congr {ce ce' : Nat → Nat → Int32} {nw age : Nat} (hn : nw < 10) (h : ∀ y, y < 10 → ∀ b, b < 10 → ce y b = ce' y b) : trFac ce nw age = trFac ce' nw age := by
  unfold trFac
  rw [rSumL_congr (f := fun y => ce y age) (g := fun y => ce' y age) (nw - age) (fun i hi => h i (by omega) age (by omega)), rSumL_congr (f := fun y => ce y (age + 1)) (g := fun y => ce' y (age + 1)) (nw - age) (fun i hi => h i (by omega) (age + 1) (by omega))]
theorem trG_congr {ce ce' : Nat → Nat → Int32} {nw a0 : Nat} (hn : nw < 10) (h : ∀ y, y < 10 → ∀ b, b < 10 → ce y b = ce' y b) (z : Int64) : ∀ j, trG ce nw a0 z j = trG ce' nw a0 z j
  | 0 => rfl
  | j + 1 => by
    unfold trG
    rw [trG_congr hn h z j, trFac_congr hn h]
theorem trGrown_congr {ce ce' : Nat → Nat → Int32} {nw : Nat} (hn : nw < 10) (h : ∀ y, y < 10 → ∀ b, b < 10 → ce y b = ce' y b) (z : Int64) (y : Nat) (tail : Int32) : trGrown ce nw z y tail = trGrown ce' nw z y tail := by
  unfold trGrown
  rw [trG_congr hn h]
def qUlt (S : hSy) (h : hHo) (k y : Nat) : Int32 := trGrown (qTri S (hNow h) k) (hNow h) (qTri S (hNow h) k y (hNow h - y)).toInt64 y (hTail h)
def qGro (S : hSy) (h : hHo) (k y : Nat) : Int32 := trGrown (qTri S (hNow h) k) (hNow h) 1000 y (hTail h)
def qRes (S : hSy) (h : hHo) (mt y : Nat) : Int32 := match mt with
  | 0 => qUlt S h 0 y - qTri S (hNow h) 0 y (hNow h - y)
  | 1 => qUlt S h 1 y - qTri S (hNow h) 0 y (hNow h - y)
  | _ => if qGro S h 0 y = 0 then 0 else (sMaxL ((hPr h y).toInt64 * (hEx h y).toInt64 / 100 * (1000 - 1000000 / qGro S h 0 y).toInt64 / 1000) 0).toInt32
theorem dX11_claimOf_0 : decode cX11_claimOf 0 = .ok (.aload_n 0, 1) := by decide +kernel
theorem dX11_claimOf_1 : decode cX11_claimOf 1 = .ok (.getfield 46, 3) := by decide +kernel
theorem dX11_claimOf_4 : decode cX11_claimOf 4 = .ok (.iload_n 1, 1) := by decide +kernel
theorem dX11_claimOf_5 : decode cX11_claimOf 5 = .ok (.invokevirtual 150, 3) := by decide +kernel
theorem dX11_claimOf_8 : decode cX11_claimOf 8 = .ok (.checkcast 181, 3) := by decide +kernel
theorem dX11_claimOf_11 : decode cX11_claimOf 11 = .ok (.astore_n 3, 1) := by decide +kernel
theorem dX11_claimOf_12 : decode cX11_claimOf 12 = .ok (.iload_n 2, 1) := by decide +kernel
theorem dX11_claimOf_13 : decode cX11_claimOf 13 = .ok (.tableswitch 95 0 6 #[43, 48, 53, 58, 63, 73, 86], 43) := by decide +kernel
theorem dX11_claimOf_56 : decode cX11_claimOf 56 = .ok (.aload_n 3, 1) := by decide +kernel
theorem dX11_claimOf_57 : decode cX11_claimOf 57 = .ok (.getfield 224, 3) := by decide +kernel
theorem dX11_claimOf_60 : decode cX11_claimOf 60 = .ok (.ireturn, 1) := by decide +kernel
theorem dX11_claimOf_61 : decode cX11_claimOf 61 = .ok (.aload_n 3, 1) := by decide +kernel
theorem dX11_claimOf_62 : decode cX11_claimOf 62 = .ok (.getfield 369, 3) := by decide +kernel
theorem dX11_claimOf_65 : decode cX11_claimOf 65 = .ok (.ireturn, 1) := by decide +kernel
theorem dX11_claimOf_66 : decode cX11_claimOf 66 = .ok (.aload_n 3, 1) := by decide +kernel
theorem dX11_claimOf_67 : decode cX11_claimOf 67 = .ok (.getfield 202, 3) := by decide +kernel
theorem dX11_claimOf_70 : decode cX11_claimOf 70 = .ok (.ireturn, 1) := by decide +kernel
theorem dX11_claimOf_71 : decode cX11_claimOf 71 = .ok (.aload_n 3, 1) := by decide +kernel
theorem dX11_claimOf_72 : decode cX11_claimOf 72 = .ok (.getfield 207, 3) := by decide +kernel
theorem dX11_claimOf_75 : decode cX11_claimOf 75 = .ok (.ireturn, 1) := by decide +kernel
theorem dX11_claimOf_76 : decode cX11_claimOf 76 = .ok (.aload_n 3, 1) := by decide +kernel
theorem dX11_claimOf_77 : decode cX11_claimOf 77 = .ok (.getfield 202, 3) := by decide +kernel
theorem dX11_claimOf_80 : decode cX11_claimOf 80 = .ok (.aload_n 3, 1) := by decide +kernel
theorem dX11_claimOf_81 : decode cX11_claimOf 81 = .ok (.getfield 207, 3) := by decide +kernel
theorem dX11_claimOf_84 : decode cX11_claimOf 84 = .ok (.iadd, 1) := by decide +kernel
theorem dX11_claimOf_85 : decode cX11_claimOf 85 = .ok (.ireturn, 1) := by decide +kernel
theorem dX11_claimOf_86 : decode cX11_claimOf 86 = .ok (.aload_n 3, 1) := by decide +kernel
theorem dX11_claimOf_87 : decode cX11_claimOf 87 = .ok (.getfield 198, 3) := by decide +kernel
theorem dX11_claimOf_90 : decode cX11_claimOf 90 = .ok (.ifCond .eq 7, 3) := by decide +kernel
theorem dX11_claimOf_93 : decode cX11_claimOf 93 = .ok (.iconst 1, 1) := by decide +kernel
theorem dX11_claimOf_94 : decode cX11_claimOf 94 = .ok (.goto 4, 3) := by decide +kernel
theorem dX11_claimOf_97 : decode cX11_claimOf 97 = .ok (.iconst 0, 1) := by decide +kernel
theorem dX11_claimOf_98 : decode cX11_claimOf 98 = .ok (.ireturn, 1) := by decide +kernel
theorem dX11_claimOf_99 : decode cX11_claimOf 99 = .ok (.aload_n 0, 1) := by decide +kernel
theorem dX11_claimOf_100 : decode cX11_claimOf 100 = .ok (.getfield 54, 3) := by decide +kernel
theorem dX11_claimOf_103 : decode cX11_claimOf 103 = .ok (.iload_n 1, 1) := by decide +kernel
theorem dX11_claimOf_104 : decode cX11_claimOf 104 = .ok (.invokevirtual 357, 3) := by decide +kernel
theorem dX11_claimOf_107 : decode cX11_claimOf 107 = .ok (.ireturn, 1) := by decide +kernel
theorem dX11_claimOf_108 : decode cX11_claimOf 108 = .ok (.aload_n 0, 1) := by decide +kernel
theorem dX11_claimOf_109 : decode cX11_claimOf 109 = .ok (.getfield 58, 3) := by decide +kernel
theorem dX11_claimOf_112 : decode cX11_claimOf 112 = .ok (.iload_n 1, 1) := by decide +kernel
theorem dX11_claimOf_113 : decode cX11_claimOf 113 = .ok (.invokevirtual 357, 3) := by decide +kernel
theorem dX11_claimOf_116 : decode cX11_claimOf 116 = .ok (.ireturn, 1) := by decide +kernel
set_option maxHeartbeats 400000 in
set_option maxRecDepth 100000 in
theorem c_claimOf (l : Launch) (G : hG) (M : hM) (S : hSy) (h : hHo) (hQv : QV G M S h) (i what : Nat) (hi : i < sM S) (hw : what < 8) (h6 : what = 6 → CesIs G M S 0 (-1) (qAm S true)) (h7 : what = 7 → CesIs G M S 1 (-1) (qAm S false)) : hCT l G yX11_claimOf cX11_claimOf 4 (Option.some FieldType.int) (hRm 7 0 0) M [.ref (sA S 0), .int (nI i), .int (nI what)] (hRd M (.int (qClaim S i what))) := by
  refine hCT.of (own := RX11) (nm := "claimOf") (by decide) rfl rfl (Nat.le_of_ble_eq_true rfl) ?_
  intro p e s m args below meth c ls X Y hl
  have hx := X.1
  have hb := X.2.1
  have hl : lv_has ls 4 [(0, .ref (sA S 0)), (1, .int (nI i)), (2, .int (nI what))] := hl
  obtain ⟨hS, hG1, hHo, hCe, hTr, hnow, hyn⟩ := id hQv
  obtain ⟨hN8, hM40, hLG, hCY⟩ := id hG1
  obtain ⟨hl13, he14, hl15, he16, hLa, hCl⟩ := id hS
  obtain ⟨mc13, hlo13⟩ := id hl13
  obtain ⟨mc15, hlo15⟩ := id hl15
  obtain ⟨ho0, ho1, ho17, ho18, ft19, hft19, ho19⟩ := id hHo
  refine lv_aload_n hx hb dX11_claimOf_0 rfl (lv_at hl 0 rfl) ?_
  refine h_get X Y (k := 5) (v := .ref (sA S 15)) ho0 rfl hin_X11 (by decide) kfl_X11_46 rfl dX11_claimOf_1 ?_
  refine lv_iload_n hx hb dX11_claimOf_4 rfl (lv_at hl 1 rfl) ?_
  refine h_callVr (rest := []) X Y (c_get l G M (sA S 15) 15 (sA S 16) 16 (sM S) i (fun i => sA S (1000 + 10 * i)) hl15 (he16 (by omega)) (by omega)) rfl rfl gw_X11_150 dsc_Jx4a65c_get_915e3 hlo15 rfl rfl rfl rfl hl.1 (Nat.le_of_ble_eq_true rfl) ⟨Nat.le_of_ble_eq_true rfl, Nat.le_of_ble_eq_true rfl⟩ ⟨Nat.le_of_ble_eq_true rfl, Nat.le_of_ble_eq_true rfl⟩ dX11_claimOf_5 (fun H locs Y => ?_)
  refine h_cast X Y (hCl i (by omega)).1 rfl rfl kcl_X11_181 dX11_claimOf_8 ?_
  refine lv_astore_n (lv' := [(3, .ref (sA S (1000 + 10 * i))), (0, .ref (sA S 0)), (1, .int (nI i)), (2, .int (nI what))]) hx hb dX11_claimOf_11 rfl hl (by decide) rfl (fun ls hl => ?_)
  rcases (show what = 0 ∨ what = 1 ∨ what = 2 ∨ what = 3 ∨ what = 4 ∨ what = 5 ∨ what = 6 ∨ what = 7 from (by omega)) with rfl | rfl | rfl | rfl | rfl | rfl | rfl | rfl
  · refine lv_iload_n hx hb dX11_claimOf_12 rfl (lv_at hl 3 rfl) ?_
    refine lv_tableIn (off := 43) (tgt := 56) hx hb dX11_claimOf_13 (by decide) (by decide) (by decide) (by decide) ?_
    refine lv_aload_n hx hb dX11_claimOf_56 rfl (lv_at hl 0 rfl) ?_
    refine h_get X Y (k := 0) (v := .int (nI (clY (sC S i)))) (hCl i (by omega)).1 rfl hin_X3 (by decide) kfl_X11_224 rfl dX11_claimOf_57 ?_
    exact h_iret X Y ⟨rfl, rfl⟩ (Nat.le_refl _) (Nat.le_refl _) dX11_claimOf_60
  · refine lv_iload_n hx hb dX11_claimOf_12 rfl (lv_at hl 3 rfl) ?_
    refine lv_tableIn (off := 48) (tgt := 61) hx hb dX11_claimOf_13 (by decide) (by decide) (by decide) (by decide) ?_
    refine lv_aload_n hx hb dX11_claimOf_61 rfl (lv_at hl 0 rfl) ?_
    refine h_get X Y (k := 1) (v := .int (clI (sC S i) 0)) (hCl i (by omega)).1 rfl hin_X3 (by decide) kfl_X11_369 rfl dX11_claimOf_62 ?_
    exact h_iret X Y ⟨rfl, rfl⟩ (Nat.le_refl _) (Nat.le_refl _) dX11_claimOf_65
  · refine lv_iload_n hx hb dX11_claimOf_12 rfl (lv_at hl 3 rfl) ?_
    refine lv_tableIn (off := 53) (tgt := 66) hx hb dX11_claimOf_13 (by decide) (by decide) (by decide) (by decide) ?_
    refine lv_aload_n hx hb dX11_claimOf_66 rfl (lv_at hl 0 rfl) ?_
    refine h_get X Y (k := 2) (v := .int (clI (sC S i) 1)) (hCl i (by omega)).1 rfl hin_X3 (by decide) kfl_X11_202 rfl dX11_claimOf_67 ?_
    exact h_iret X Y ⟨rfl, rfl⟩ (Nat.le_refl _) (Nat.le_refl _) dX11_claimOf_70
  · refine lv_iload_n hx hb dX11_claimOf_12 rfl (lv_at hl 3 rfl) ?_
    refine lv_tableIn (off := 58) (tgt := 71) hx hb dX11_claimOf_13 (by decide) (by decide) (by decide) (by decide) ?_
    refine lv_aload_n hx hb dX11_claimOf_71 rfl (lv_at hl 0 rfl) ?_
    refine h_get X Y (k := 3) (v := .int (clI (sC S i) 2)) (hCl i (by omega)).1 rfl hin_X3 (by decide) kfl_X11_207 rfl dX11_claimOf_72 ?_
    exact h_iret X Y ⟨rfl, rfl⟩ (Nat.le_refl _) (Nat.le_refl _) dX11_claimOf_75
  · refine lv_iload_n hx hb dX11_claimOf_12 rfl (lv_at hl 3 rfl) ?_
    refine lv_tableIn (off := 63) (tgt := 76) hx hb dX11_claimOf_13 (by decide) (by decide) (by decide) (by decide) ?_
    refine lv_aload_n hx hb dX11_claimOf_76 rfl (lv_at hl 0 rfl) ?_
    refine h_get X Y (k := 2) (v := .int (clI (sC S i) 1)) (hCl i (by omega)).1 rfl hin_X3 (by decide) kfl_X11_202 rfl dX11_claimOf_77 ?_
    refine lv_aload_n hx hb dX11_claimOf_80 rfl (lv_at hl 0 rfl) ?_
    refine h_get X Y (k := 3) (v := .int (clI (sC S i) 2)) (hCl i (by omega)).1 rfl hin_X3 (by decide) kfl_X11_207 rfl dX11_claimOf_81 ?_
    refine lv_iadd hx hb dX11_claimOf_84 ?_
    exact h_iret X Y ⟨rfl, rfl⟩ (Nat.le_refl _) (Nat.le_refl _) dX11_claimOf_85
  · refine lv_iload_n hx hb dX11_claimOf_12 rfl (lv_at hl 3 rfl) ?_
    refine lv_tableIn (off := 73) (tgt := 86) hx hb dX11_claimOf_13 (by decide) (by decide) (by decide) (by decide) ?_
    refine lv_aload_n hx hb dX11_claimOf_86 rfl (lv_at hl 0 rfl) ?_
    refine h_get X Y (k := 4) (v := .int (clI (sC S i) 3)) (hCl i (by omega)).1 rfl hin_X3 (by decide) kfl_X11_198 rfl dX11_claimOf_87 ?_
    refine lv_if_eq (tgt := 97) hx hb dX11_claimOf_90 (by decide) (fun c90 => ?_) (fun c90 => ?_)
    · refine lv_iconst (v := 0) hx hb dX11_claimOf_97 (by decide) ?_
      exact h_iret X Y ⟨congrArg (fun z => some (Value.int z)) (if_pos c90).symm, rfl⟩ (Nat.le_refl _) (Nat.le_refl _) dX11_claimOf_98
    · refine lv_iconst (v := 1) hx hb dX11_claimOf_93 (by decide) ?_
      refine lv_goto (tgt := 98) hx hb dX11_claimOf_94 (by decide) ?_
      exact h_iret X Y ⟨congrArg (fun z => some (Value.int z)) (if_neg c90).symm, rfl⟩ (Nat.le_refl _) (Nat.le_refl _) dX11_claimOf_98
  · refine lv_iload_n hx hb dX11_claimOf_12 rfl (lv_at hl 3 rfl) ?_
    refine lv_tableIn (off := 86) (tgt := 99) hx hb dX11_claimOf_13 (by decide) (by decide) (by decide) (by decide) ?_
    obtain ⟨am, be, yl, lo, hV, ha, hbq, hyq⟩ := id (h6 rfl)
    obtain ⟨hoc, -⟩ := id hV
    refine lv_aload_n hx hb dX11_claimOf_99 rfl (lv_at hl 1 rfl) ?_
    refine h_get X Y (k := 6) (v := .ref (sA S (100 * (0 + 1)))) ho0 rfl hin_X11 (by decide) kfl_X11_54 rfl dX11_claimOf_100 ?_
    refine lv_iload_n hx hb dX11_claimOf_103 rfl (lv_at hl 2 rfl) ?_
    refine h_callVr (rest := []) X Y (c_leftOf l G M S hS hG1 0 am be yl lo hV i (by omega)) rfl rfl gw_X11_357 dsc_X1_leftOf hoc rfl rfl rfl rfl hl.1 (Nat.le_of_ble_eq_true rfl) ⟨Nat.le_of_ble_eq_true rfl, Nat.le_of_ble_eq_true rfl⟩ ⟨Nat.le_of_ble_eq_true rfl, Nat.le_of_ble_eq_true rfl⟩ dX11_claimOf_104 (fun H locs Y => ?_)
    refine h_ev (y := qLeft S true i) (rLeft_congr S (ha i hi) (hbq i hi)) ?_
    exact h_iret X Y ⟨rfl, rfl⟩ (Nat.le_refl _) (Nat.le_refl _) dX11_claimOf_107
  · refine lv_iload_n hx hb dX11_claimOf_12 rfl (lv_at hl 3 rfl) ?_
    refine lv_tableOut (tgt := 108) hx hb dX11_claimOf_13 (by decide) (by decide) ?_
    obtain ⟨am, be, yl, lo, hV, ha, hbq, hyq⟩ := id (h7 rfl)
    obtain ⟨hoc, -⟩ := id hV
    refine lv_aload_n hx hb dX11_claimOf_108 rfl (lv_at hl 1 rfl) ?_
    refine h_get X Y (k := 7) (v := .ref (sA S (100 * (1 + 1)))) ho0 rfl hin_X11 (by decide) kfl_X11_58 rfl dX11_claimOf_109 ?_
    refine lv_iload_n hx hb dX11_claimOf_112 rfl (lv_at hl 2 rfl) ?_
    refine h_callVr (rest := []) X Y (c_leftOf l G M S hS hG1 1 am be yl lo hV i (by omega)) rfl rfl gw_X11_357 dsc_X1_leftOf hoc rfl rfl rfl rfl hl.1 (Nat.le_of_ble_eq_true rfl) ⟨Nat.le_of_ble_eq_true rfl, Nat.le_of_ble_eq_true rfl⟩ ⟨Nat.le_of_ble_eq_true rfl, Nat.le_of_ble_eq_true rfl⟩ dX11_claimOf_113 (fun H locs Y => ?_)
    refine h_ev (y := qLeft S false i) (rLeft_congr S (ha i hi) (hbq i hi)) ?_
    exact h_iret X Y ⟨rfl, rfl⟩ (Nat.le_refl _) (Nat.le_refl _) dX11_claimOf_116
theorem gw_X11_190 : GoodIn hGW (wsV RX11 190 RX11 yX11_hasClaim (Cond.code yX11_hasClaim cX11_hasClaim 2 (Option.some FieldType.boolean) :: hGW)) := hgi4 kml_X11_190 kin_X11_hasClaim kse_X11_X11_hasClaim_X11_hasClaim kini_X11 kco_X11_hasClaim
theorem dsc_X11_hasClaim : yX11_hasClaim.cls = RX11 ∧ yX11_hasClaim.cls ≠ "java/lang/invoke/MethodHandle" ∧ yX11_hasClaim.cls ≠ "java/lang/invoke/VarHandle" ∧ (parseMethodDescriptor yX11_hasClaim.desc).map (fun d => d.parameters.length) = some 1 := ⟨rfl, by decide +kernel, by decide +kernel, by decide +kernel⟩
theorem gw_X11_221 : GoodIn hGW (wsV RX11 221 RX11 yX11_claimOf (Cond.code yX11_claimOf cX11_claimOf 4 (Option.some FieldType.int) :: hGW)) := hgi4 kml_X11_221 kin_X11_claimOf kse_X11_X11_claimOf_X11_claimOf kini_X11 kco_X11_claimOf
theorem dsc_X11_claimOf : yX11_claimOf.cls = RX11 ∧ yX11_claimOf.cls ≠ "java/lang/invoke/MethodHandle" ∧ yX11_claimOf.cls ≠ "java/lang/invoke/VarHandle" ∧ (parseMethodDescriptor yX11_claimOf.desc).map (fun d => d.parameters.length) = some 2 := ⟨rfl, by decide +kernel, by decide +kernel, by decide +kernel⟩
theorem gw_X11_137 : GoodIn hGW (wsV RX11 137 RX11 yX11_cedeNow (Cond.code yX11_cedeNow cX11_cedeNow 4 (Option.none) :: hGW)) := hgi4 kml_X11_137 kin_X11_cedeNow kse_X11_X11_cedeNow_X11_cedeNow kini_X11 kco_X11_cedeNow
theorem dsc_X11_cedeNow : yX11_cedeNow.cls = RX11 ∧ yX11_cedeNow.cls ≠ "java/lang/invoke/MethodHandle" ∧ yX11_cedeNow.cls ≠ "java/lang/invoke/VarHandle" ∧ (parseMethodDescriptor yX11_cedeNow.desc).map (fun d => d.parameters.length) = some 3 := ⟨rfl, by decide +kernel, by decide +kernel, by decide +kernel⟩
theorem dX11_claim_0 : decode cX11_claim 0 = .ok (.aload_n 0, 1) := by decide +kernel
theorem dX11_claim_1 : decode cX11_claim 1 = .ok (.iload_n 1, 1) := by decide +kernel
theorem dX11_claim_2 : decode cX11_claim 2 = .ok (.invokevirtual 190, 3) := by decide +kernel
theorem dX11_claim_5 : decode cX11_claim 5 = .ok (.ifCond .eq 13, 3) := by decide +kernel
theorem dX11_claim_8 : decode cX11_claim 8 = .ok (.iload_n 2, 1) := by decide +kernel
theorem dX11_claim_9 : decode cX11_claim 9 = .ok (.ifCond .lt 9, 3) := by decide +kernel
theorem dX11_claim_12 : decode cX11_claim 12 = .ok (.iload_n 2, 1) := by decide +kernel
theorem dX11_claim_13 : decode cX11_claim 13 = .ok (.bipush 7, 2) := by decide +kernel
theorem dX11_claim_15 : decode cX11_claim 15 = .ok (.if_icmp .le 13, 3) := by decide +kernel
theorem dX11_claim_28 : decode cX11_claim 28 = .ok (.iload_n 2, 1) := by decide +kernel
theorem dX11_claim_29 : decode cX11_claim 29 = .ok (.bipush 6, 2) := by decide +kernel
theorem dX11_claim_31 : decode cX11_claim 31 = .ok (.if_icmp .ne 16, 3) := by decide +kernel
theorem dX11_claim_34 : decode cX11_claim 34 = .ok (.aload_n 0, 1) := by decide +kernel
theorem dX11_claim_35 : decode cX11_claim 35 = .ok (.aload_n 0, 1) := by decide +kernel
theorem dX11_claim_36 : decode cX11_claim 36 = .ok (.getfield 54, 3) := by decide +kernel
theorem dX11_claim_39 : decode cX11_claim 39 = .ok (.iconst 1, 1) := by decide +kernel
theorem dX11_claim_40 : decode cX11_claim 40 = .ok (.iconst (-1), 1) := by decide +kernel
theorem dX11_claim_41 : decode cX11_claim 41 = .ok (.invokevirtual 137, 3) := by decide +kernel
theorem dX11_claim_44 : decode cX11_claim 44 = .ok (.goto 19, 3) := by decide +kernel
theorem dX11_claim_47 : decode cX11_claim 47 = .ok (.iload_n 2, 1) := by decide +kernel
theorem dX11_claim_48 : decode cX11_claim 48 = .ok (.bipush 7, 2) := by decide +kernel
theorem dX11_claim_50 : decode cX11_claim 50 = .ok (.if_icmp .ne 13, 3) := by decide +kernel
theorem dX11_claim_53 : decode cX11_claim 53 = .ok (.aload_n 0, 1) := by decide +kernel
theorem dX11_claim_54 : decode cX11_claim 54 = .ok (.aload_n 0, 1) := by decide +kernel
theorem dX11_claim_55 : decode cX11_claim 55 = .ok (.getfield 58, 3) := by decide +kernel
theorem dX11_claim_58 : decode cX11_claim 58 = .ok (.iconst 0, 1) := by decide +kernel
theorem dX11_claim_59 : decode cX11_claim 59 = .ok (.iconst (-1), 1) := by decide +kernel
theorem dX11_claim_60 : decode cX11_claim 60 = .ok (.invokevirtual 137, 3) := by decide +kernel
theorem dX11_claim_63 : decode cX11_claim 63 = .ok (.aload_n 0, 1) := by decide +kernel
theorem dX11_claim_64 : decode cX11_claim 64 = .ok (.iload_n 1, 1) := by decide +kernel
theorem dX11_claim_65 : decode cX11_claim 65 = .ok (.iload_n 2, 1) := by decide +kernel
theorem dX11_claim_66 : decode cX11_claim 66 = .ok (.invokevirtual 221, 3) := by decide +kernel
theorem dX11_claim_69 : decode cX11_claim 69 = .ok (.ireturn, 1) := by decide +kernel
set_option maxHeartbeats 400000 in
set_option maxRecDepth 100000 in
theorem c_claim (l : Launch) (G : hG) (M : hM) (S : hSy) (h : hHo) (hQv : QV G M S h) (i what : Nat) (hi : i < sM S) (hw : what < 8) : hCT l G yX11_claim cX11_claim 3 (Option.some FieldType.int) (hRm 9 0 0) M [.ref (sA S 0), .int (nI i), .int (nI what)] (fun v M' => v = some (.int (qClaim S i what)) ∧ hSim G hScr M M') := by
  refine hCT.of (own := RX11) (nm := "claim") (by decide) rfl rfl (Nat.le_of_ble_eq_true rfl) ?_
  intro p e s m args below meth c ls X Y hl
  have hx := X.1
  have hb := X.2.1
  have hl : lv_has ls 3 [(0, .ref (sA S 0)), (1, .int (nI i)), (2, .int (nI what))] := hl
  obtain ⟨hS, hG1, hHo, hCe, hTr, hnow, hyn⟩ := id hQv
  obtain ⟨hN8, hM40, hLG, hCY⟩ := id hG1
  obtain ⟨hl13, he14, hl15, he16, hLa, hCl⟩ := id hS
  obtain ⟨mc13, hlo13⟩ := id hl13
  obtain ⟨mc15, hlo15⟩ := id hl15
  obtain ⟨ho0, ho1, ho17, ho18, ft19, hft19, ho19⟩ := id hHo
  have hs0 : hSim G hScr M M := hSim.rf
  refine lv_aload_n hx hb dX11_claim_0 rfl (lv_at hl 0 rfl) ?_
  refine lv_iload_n hx hb dX11_claim_1 rfl (lv_at hl 1 rfl) ?_
  refine h_callVr (rest := []) X Y (c_hasClaim l G M S h hQv i (by omega)) rfl rfl gw_X11_190 dsc_X11_hasClaim ho0 rfl rfl rfl rfl hl.1 (Nat.le_of_ble_eq_true rfl) ⟨Nat.le_of_ble_eq_true rfl, Nat.le_of_ble_eq_true rfl⟩ ⟨Nat.le_of_ble_eq_true rfl, Nat.le_of_ble_eq_true rfl⟩ dX11_claim_2 (fun H locs Y => ?_)
  refine lv_if_eq (tgt := 18) hx hb dX11_claim_5 (by decide) (fun c5 => absurd c5 (by decide)) (fun c5 => ?_)
  refine lv_iload_n hx hb dX11_claim_8 rfl (lv_at hl 2 rfl) ?_
  refine lv_if_lt (tgt := 18) hx hb dX11_claim_9 (by decide) (fun c9 => absurd (show what < 0 from (nI_ltI (a := what) (b := 0) (by omega) (by omega)).mp c9) (by omega)) (fun c9 => ?_)
  have c9 : ¬ what < 0 := fun z9 => c9 ((nI_ltI (a := what) (b := 0) (by omega) (by omega)).mpr z9)
  refine lv_iload_n hx hb dX11_claim_12 rfl (lv_at hl 2 rfl) ?_
  refine lv_bipush (v := 7) hx hb dX11_claim_13 (by decide) ?_
  refine lv_icmp_le (tgt := 28) hx hb dX11_claim_15 (by decide) (fun c15 => ?_) (fun c15 => absurd (show ¬ what ≤ 7 from fun z9 => c15 ((nI_leI (a := what) (b := 7) (by omega) (by omega)).mpr z9)) (by omega))
  have c15 : what ≤ 7 := (nI_leI (a := what) (b := 7) (by omega) (by omega)).mp c15
  rcases (show what = 0 ∨ what = 1 ∨ what = 2 ∨ what = 3 ∨ what = 4 ∨ what = 5 ∨ what = 6 ∨ what = 7 from (by omega)) with rfl | rfl | rfl | rfl | rfl | rfl | rfl | rfl
  · refine lv_iload_n hx hb dX11_claim_28 rfl (lv_at hl 2 rfl) ?_
    refine lv_bipush (v := 6) hx hb dX11_claim_29 (by decide) ?_
    refine lv_icmp_ne (tgt := 47) hx hb dX11_claim_31 (by decide) (fun c31 => ?_) (fun c31 => absurd c31 (by decide))
    refine lv_iload_n hx hb dX11_claim_47 rfl (lv_at hl 2 rfl) ?_
    refine lv_bipush (v := 7) hx hb dX11_claim_48 (by decide) ?_
    refine lv_icmp_ne (tgt := 63) hx hb dX11_claim_50 (by decide) (fun c50 => ?_) (fun c50 => absurd c50 (by decide))
    refine lv_aload_n hx hb dX11_claim_63 rfl (lv_at hl 0 rfl) ?_
    refine lv_iload_n hx hb dX11_claim_64 rfl (lv_at hl 1 rfl) ?_
    refine lv_iload_n hx hb dX11_claim_65 rfl (lv_at hl 2 rfl) ?_
    refine h_callVr (rest := []) X Y (c_claimOf l G M S h hQv i 0 hi (by omega) (fun z9 => absurd z9 (by omega)) (fun z9 => absurd z9 (by omega))) rfl rfl gw_X11_221 dsc_X11_claimOf ho0 rfl rfl rfl rfl hl.1 (Nat.le_of_ble_eq_true rfl) ⟨Nat.le_of_ble_eq_true rfl, Nat.le_of_ble_eq_true rfl⟩ ⟨Nat.le_of_ble_eq_true rfl, Nat.le_of_ble_eq_true rfl⟩ dX11_claim_66 (fun H locs Y => ?_)
    exact h_iret X Y ⟨rfl, hs0⟩ (Nat.le_refl _) (Nat.le_refl _) dX11_claim_69
  · refine lv_iload_n hx hb dX11_claim_28 rfl (lv_at hl 2 rfl) ?_
    refine lv_bipush (v := 6) hx hb dX11_claim_29 (by decide) ?_
    refine lv_icmp_ne (tgt := 47) hx hb dX11_claim_31 (by decide) (fun c31 => ?_) (fun c31 => absurd c31 (by decide))
    refine lv_iload_n hx hb dX11_claim_47 rfl (lv_at hl 2 rfl) ?_
    refine lv_bipush (v := 7) hx hb dX11_claim_48 (by decide) ?_
    refine lv_icmp_ne (tgt := 63) hx hb dX11_claim_50 (by decide) (fun c50 => ?_) (fun c50 => absurd c50 (by decide))
    refine lv_aload_n hx hb dX11_claim_63 rfl (lv_at hl 0 rfl) ?_
    refine lv_iload_n hx hb dX11_claim_64 rfl (lv_at hl 1 rfl) ?_
    refine lv_iload_n hx hb dX11_claim_65 rfl (lv_at hl 2 rfl) ?_
    refine h_callVr (rest := []) X Y (c_claimOf l G M S h hQv i 1 hi (by omega) (fun z9 => absurd z9 (by omega)) (fun z9 => absurd z9 (by omega))) rfl rfl gw_X11_221 dsc_X11_claimOf ho0 rfl rfl rfl rfl hl.1 (Nat.le_of_ble_eq_true rfl) ⟨Nat.le_of_ble_eq_true rfl, Nat.le_of_ble_eq_true rfl⟩ ⟨Nat.le_of_ble_eq_true rfl, Nat.le_of_ble_eq_true rfl⟩ dX11_claim_66 (fun H locs Y => ?_)
    exact h_iret X Y ⟨rfl, hs0⟩ (Nat.le_refl _) (Nat.le_refl _) dX11_claim_69
  · refine lv_iload_n hx hb dX11_claim_28 rfl (lv_at hl 2 rfl) ?_
    refine lv_bipush (v := 6) hx hb dX11_claim_29 (by decide) ?_
    refine lv_icmp_ne (tgt := 47) hx hb dX11_claim_31 (by decide) (fun c31 => ?_) (fun c31 => absurd c31 (by decide))
    refine lv_iload_n hx hb dX11_claim_47 rfl (lv_at hl 2 rfl) ?_
    refine lv_bipush (v := 7) hx hb dX11_claim_48 (by decide) ?_
    refine lv_icmp_ne (tgt := 63) hx hb dX11_claim_50 (by decide) (fun c50 => ?_) (fun c50 => absurd c50 (by decide))
    refine lv_aload_n hx hb dX11_claim_63 rfl (lv_at hl 0 rfl) ?_
    refine lv_iload_n hx hb dX11_claim_64 rfl (lv_at hl 1 rfl) ?_
    refine lv_iload_n hx hb dX11_claim_65 rfl (lv_at hl 2 rfl) ?_
    refine h_callVr (rest := []) X Y (c_claimOf l G M S h hQv i 2 hi (by omega) (fun z9 => absurd z9 (by omega)) (fun z9 => absurd z9 (by omega))) rfl rfl gw_X11_221 dsc_X11_claimOf ho0 rfl rfl rfl rfl hl.1 (Nat.le_of_ble_eq_true rfl) ⟨Nat.le_of_ble_eq_true rfl, Nat.le_of_ble_eq_true rfl⟩ ⟨Nat.le_of_ble_eq_true rfl, Nat.le_of_ble_eq_true rfl⟩ dX11_claim_66 (fun H locs Y => ?_)
    exact h_iret X Y ⟨rfl, hs0⟩ (Nat.le_refl _) (Nat.le_refl _) dX11_claim_69
  · refine lv_iload_n hx hb dX11_claim_28 rfl (lv_at hl 2 rfl) ?_
    refine lv_bipush (v := 6) hx hb dX11_claim_29 (by decide) ?_
    refine lv_icmp_ne (tgt := 47) hx hb dX11_claim_31 (by decide) (fun c31 => ?_) (fun c31 => absurd c31 (by decide))
    refine lv_iload_n hx hb dX11_claim_47 rfl (lv_at hl 2 rfl) ?_
    refine lv_bipush (v := 7) hx hb dX11_claim_48 (by decide) ?_
    refine lv_icmp_ne (tgt := 63) hx hb dX11_claim_50 (by decide) (fun c50 => ?_) (fun c50 => absurd c50 (by decide))
    refine lv_aload_n hx hb dX11_claim_63 rfl (lv_at hl 0 rfl) ?_
    refine lv_iload_n hx hb dX11_claim_64 rfl (lv_at hl 1 rfl) ?_
    refine lv_iload_n hx hb dX11_claim_65 rfl (lv_at hl 2 rfl) ?_
    refine h_callVr (rest := []) X Y (c_claimOf l G M S h hQv i 3 hi (by omega) (fun z9 => absurd z9 (by omega)) (fun z9 => absurd z9 (by omega))) rfl rfl gw_X11_221 dsc_X11_claimOf ho0 rfl rfl rfl rfl hl.1 (Nat.le_of_ble_eq_true rfl) ⟨Nat.le_of_ble_eq_true rfl, Nat.le_of_ble_eq_true rfl⟩ ⟨Nat.le_of_ble_eq_true rfl, Nat.le_of_ble_eq_true rfl⟩ dX11_claim_66 (fun H locs Y => ?_)
    exact h_iret X Y ⟨rfl, hs0⟩ (Nat.le_refl _) (Nat.le_refl _) dX11_claim_69
  · refine lv_iload_n hx hb dX11_claim_28 rfl (lv_at hl 2 rfl) ?_
    refine lv_bipush (v := 6) hx hb dX11_claim_29 (by decide) ?_
    refine lv_icmp_ne (tgt := 47) hx hb dX11_claim_31 (by decide) (fun c31 => ?_) (fun c31 => absurd c31 (by decide))
    refine lv_iload_n hx hb dX11_claim_47 rfl (lv_at hl 2 rfl) ?_
    refine lv_bipush (v := 7) hx hb dX11_claim_48 (by decide) ?_
    refine lv_icmp_ne (tgt := 63) hx hb dX11_claim_50 (by decide) (fun c50 => ?_) (fun c50 => absurd c50 (by decide))
    refine lv_aload_n hx hb dX11_claim_63 rfl (lv_at hl 0 rfl) ?_
    refine lv_iload_n hx hb dX11_claim_64 rfl (lv_at hl 1 rfl) ?_
    refine lv_iload_n hx hb dX11_claim_65 rfl (lv_at hl 2 rfl) ?_
    refine h_callVr (rest := []) X Y (c_claimOf l G M S h hQv i 4 hi (by omega) (fun z9 => absurd z9 (by omega)) (fun z9 => absurd z9 (by omega))) rfl rfl gw_X11_221 dsc_X11_claimOf ho0 rfl rfl rfl rfl hl.1 (Nat.le_of_ble_eq_true rfl) ⟨Nat.le_of_ble_eq_true rfl, Nat.le_of_ble_eq_true rfl⟩ ⟨Nat.le_of_ble_eq_true rfl, Nat.le_of_ble_eq_true rfl⟩ dX11_claim_66 (fun H locs Y => ?_)
    exact h_iret X Y ⟨rfl, hs0⟩ (Nat.le_refl _) (Nat.le_refl _) dX11_claim_69
  · refine lv_iload_n hx hb dX11_claim_28 rfl (lv_at hl 2 rfl) ?_
    refine lv_bipush (v := 6) hx hb dX11_claim_29 (by decide) ?_
    refine lv_icmp_ne (tgt := 47) hx hb dX11_claim_31 (by decide) (fun c31 => ?_) (fun c31 => absurd c31 (by decide))
    refine lv_iload_n hx hb dX11_claim_47 rfl (lv_at hl 2 rfl) ?_
    refine lv_bipush (v := 7) hx hb dX11_claim_48 (by decide) ?_
    refine lv_icmp_ne (tgt := 63) hx hb dX11_claim_50 (by decide) (fun c50 => ?_) (fun c50 => absurd c50 (by decide))
    refine lv_aload_n hx hb dX11_claim_63 rfl (lv_at hl 0 rfl) ?_
    refine lv_iload_n hx hb dX11_claim_64 rfl (lv_at hl 1 rfl) ?_
    refine lv_iload_n hx hb dX11_claim_65 rfl (lv_at hl 2 rfl) ?_
    refine h_callVr (rest := []) X Y (c_claimOf l G M S h hQv i 5 hi (by omega) (fun z9 => absurd z9 (by omega)) (fun z9 => absurd z9 (by omega))) rfl rfl gw_X11_221 dsc_X11_claimOf ho0 rfl rfl rfl rfl hl.1 (Nat.le_of_ble_eq_true rfl) ⟨Nat.le_of_ble_eq_true rfl, Nat.le_of_ble_eq_true rfl⟩ ⟨Nat.le_of_ble_eq_true rfl, Nat.le_of_ble_eq_true rfl⟩ dX11_claim_66 (fun H locs Y => ?_)
    exact h_iret X Y ⟨rfl, hs0⟩ (Nat.le_refl _) (Nat.le_refl _) dX11_claim_69
  · refine lv_iload_n hx hb dX11_claim_28 rfl (lv_at hl 2 rfl) ?_
    refine lv_bipush (v := 6) hx hb dX11_claim_29 (by decide) ?_
    refine lv_icmp_ne (tgt := 47) hx hb dX11_claim_31 (by decide) (fun c31 => absurd (by decide) c31) (fun c31 => ?_)
    refine lv_aload_n hx hb dX11_claim_34 rfl (lv_at hl 0 rfl) ?_
    refine lv_aload_n hx hb dX11_claim_35 rfl (lv_at hl 0 rfl) ?_
    refine h_get X Y (k := 6) (v := .ref (sA S (100 * (0 + 1)))) ho0 rfl hin_X11 (by decide) kfl_X11_54 rfl dX11_claim_36 ?_
    refine lv_iconst (v := 1) hx hb dX11_claim_39 (by decide) ?_
    refine lv_iconst (v := (-1)) hx hb dX11_claim_40 (by decide) ?_
    refine h_callV (rest := []) X Y (c_cedeNow l G M S h hQv 0 (by omega) true (-1)) gw_X11_137 dsc_X11_cedeNow ho0 rfl rfl rfl hl.1 rfl (Nat.le_of_ble_eq_true rfl) ⟨Nat.le_of_ble_eq_true rfl, Nat.le_of_ble_eq_true rfl⟩ ⟨Nat.le_of_ble_eq_true rfl, Nat.le_of_ble_eq_true rfl⟩ dX11_claim_41 ?_
    rintro _ M1 H locs ⟨rfl, hCI0, hq⟩ Y
    try dsimp only [Option.toList, List.nil_append]
    have hs0 := hs0.tr (hq.mono (hS1_scr (by omega)))
    have hQv := hQv.sim (hq.mono (hS1_scr (by omega)))
    obtain ⟨hS, -, hHo, hCe, hTr, -, -⟩ := id hQv
    obtain ⟨hl13, he14, hl15, he16, hLa, hCl⟩ := id hS
    obtain ⟨mc13, hlo13⟩ := id hl13
    obtain ⟨mc15, hlo15⟩ := id hl15
    obtain ⟨ho0, ho1, ho17, ho18, ft19, hft19, ho19⟩ := id hHo
    refine lv_goto (tgt := 63) hx hb dX11_claim_44 (by decide) ?_
    refine lv_aload_n hx hb dX11_claim_63 rfl (lv_at hl 0 rfl) ?_
    refine lv_iload_n hx hb dX11_claim_64 rfl (lv_at hl 1 rfl) ?_
    refine lv_iload_n hx hb dX11_claim_65 rfl (lv_at hl 2 rfl) ?_
    refine h_callVr (rest := []) X Y (c_claimOf l G M1 S h hQv i 6 hi (by omega) (fun _ => hCI0) (fun z9 => absurd z9 (by omega))) rfl rfl gw_X11_221 dsc_X11_claimOf ho0 rfl rfl rfl rfl hl.1 (Nat.le_of_ble_eq_true rfl) ⟨Nat.le_of_ble_eq_true rfl, Nat.le_of_ble_eq_true rfl⟩ ⟨Nat.le_of_ble_eq_true rfl, Nat.le_of_ble_eq_true rfl⟩ dX11_claim_66 (fun H locs Y => ?_)
    exact h_iret X Y ⟨rfl, hs0⟩ (Nat.le_refl _) (Nat.le_refl _) dX11_claim_69
  · refine lv_iload_n hx hb dX11_claim_28 rfl (lv_at hl 2 rfl) ?_
    refine lv_bipush (v := 6) hx hb dX11_claim_29 (by decide) ?_
    refine lv_icmp_ne (tgt := 47) hx hb dX11_claim_31 (by decide) (fun c31 => ?_) (fun c31 => absurd c31 (by decide))
    refine lv_iload_n hx hb dX11_claim_47 rfl (lv_at hl 2 rfl) ?_
    refine lv_bipush (v := 7) hx hb dX11_claim_48 (by decide) ?_
    refine lv_icmp_ne (tgt := 63) hx hb dX11_claim_50 (by decide) (fun c50 => absurd (by decide) c50) (fun c50 => ?_)
    refine lv_aload_n hx hb dX11_claim_53 rfl (lv_at hl 0 rfl) ?_
    refine lv_aload_n hx hb dX11_claim_54 rfl (lv_at hl 0 rfl) ?_
    refine h_get X Y (k := 7) (v := .ref (sA S (100 * (1 + 1)))) ho0 rfl hin_X11 (by decide) kfl_X11_58 rfl dX11_claim_55 ?_
    refine lv_iconst (v := 0) hx hb dX11_claim_58 (by decide) ?_
    refine lv_iconst (v := (-1)) hx hb dX11_claim_59 (by decide) ?_
    refine h_callV (rest := []) X Y (c_cedeNow l G M S h hQv 1 (by omega) false (-1)) gw_X11_137 dsc_X11_cedeNow ho0 rfl rfl rfl hl.1 rfl (Nat.le_of_ble_eq_true rfl) ⟨Nat.le_of_ble_eq_true rfl, Nat.le_of_ble_eq_true rfl⟩ ⟨Nat.le_of_ble_eq_true rfl, Nat.le_of_ble_eq_true rfl⟩ dX11_claim_60 ?_
    rintro _ M2 H locs ⟨rfl, hCI1, hq⟩ Y
    try dsimp only [Option.toList, List.nil_append]
    have hs0 := hs0.tr (hq.mono (hS1_scr (by omega)))
    have hQv := hQv.sim (hq.mono (hS1_scr (by omega)))
    obtain ⟨hS, -, hHo, hCe, hTr, -, -⟩ := id hQv
    obtain ⟨hl13, he14, hl15, he16, hLa, hCl⟩ := id hS
    obtain ⟨mc13, hlo13⟩ := id hl13
    obtain ⟨mc15, hlo15⟩ := id hl15
    obtain ⟨ho0, ho1, ho17, ho18, ft19, hft19, ho19⟩ := id hHo
    refine lv_aload_n hx hb dX11_claim_63 rfl (lv_at hl 0 rfl) ?_
    refine lv_iload_n hx hb dX11_claim_64 rfl (lv_at hl 1 rfl) ?_
    refine lv_iload_n hx hb dX11_claim_65 rfl (lv_at hl 2 rfl) ?_
    refine h_callVr (rest := []) X Y (c_claimOf l G M2 S h hQv i 7 hi (by omega) (fun z9 => absurd z9 (by omega)) (fun _ => hCI1)) rfl rfl gw_X11_221 dsc_X11_claimOf ho0 rfl rfl rfl rfl hl.1 (Nat.le_of_ble_eq_true rfl) ⟨Nat.le_of_ble_eq_true rfl, Nat.le_of_ble_eq_true rfl⟩ ⟨Nat.le_of_ble_eq_true rfl, Nat.le_of_ble_eq_true rfl⟩ dX11_claim_66 (fun H locs Y => ?_)
    exact h_iret X Y ⟨rfl, hs0⟩ (Nat.le_refl _) (Nat.le_refl _) dX11_claim_69
theorem dX11_at_0 : decode cX11_at 0 = .ok (.aload_n 0, 1) := by decide +kernel
theorem dX11_at_1 : decode cX11_at 1 = .ok (.iload_n 1, 1) := by decide +kernel
theorem dX11_at_2 : decode cX11_at 2 = .ok (.invokevirtual 190, 3) := by decide +kernel
theorem dX11_at_5 : decode cX11_at 5 = .ok (.ifCond .eq 30, 3) := by decide +kernel
theorem dX11_at_8 : decode cX11_at 8 = .ok (.iload_n 2, 1) := by decide +kernel
theorem dX11_at_9 : decode cX11_at 9 = .ok (.ifCond .lt 26, 3) := by decide +kernel
theorem dX11_at_12 : decode cX11_at 12 = .ok (.iload_n 2, 1) := by decide +kernel
theorem dX11_at_13 : decode cX11_at 13 = .ok (.aload_n 0, 1) := by decide +kernel
theorem dX11_at_14 : decode cX11_at 14 = .ok (.getfield 78, 3) := by decide +kernel
theorem dX11_at_17 : decode cX11_at 17 = .ok (.aload_n 0, 1) := by decide +kernel
theorem dX11_at_18 : decode cX11_at 18 = .ok (.getfield 46, 3) := by decide +kernel
theorem dX11_at_21 : decode cX11_at 21 = .ok (.iload_n 1, 1) := by decide +kernel
theorem dX11_at_22 : decode cX11_at 22 = .ok (.invokevirtual 150, 3) := by decide +kernel
theorem dX11_at_25 : decode cX11_at 25 = .ok (.checkcast 181, 3) := by decide +kernel
theorem dX11_at_28 : decode cX11_at 28 = .ok (.getfield 224, 3) := by decide +kernel
theorem dX11_at_31 : decode cX11_at 31 = .ok (.isub, 1) := by decide +kernel
theorem dX11_at_32 : decode cX11_at 32 = .ok (.if_icmp .le 13, 3) := by decide +kernel
theorem dX11_at_45 : decode cX11_at 45 = .ok (.aload_n 0, 1) := by decide +kernel
theorem dX11_at_46 : decode cX11_at 46 = .ok (.getfield 46, 3) := by decide +kernel
theorem dX11_at_49 : decode cX11_at 49 = .ok (.iload_n 1, 1) := by decide +kernel
theorem dX11_at_50 : decode cX11_at 50 = .ok (.invokevirtual 150, 3) := by decide +kernel
theorem dX11_at_53 : decode cX11_at 53 = .ok (.checkcast 181, 3) := by decide +kernel
theorem dX11_at_56 : decode cX11_at 56 = .ok (.iload_n 2, 1) := by decide +kernel
theorem dX11_at_57 : decode cX11_at 57 = .ok (.aload_n 0, 1) := by decide +kernel
theorem dX11_at_58 : decode cX11_at 58 = .ok (.getfield 78, 3) := by decide +kernel
theorem dX11_at_61 : decode cX11_at 61 = .ok (.iload_n 3, 1) := by decide +kernel
theorem dX11_at_62 : decode cX11_at 62 = .ok (.invokevirtual 229, 3) := by decide +kernel
theorem dX11_at_65 : decode cX11_at 65 = .ok (.ireturn, 1) := by decide +kernel
set_option maxHeartbeats 400000 in
set_option maxRecDepth 100000 in
theorem c_at (l : Launch) (G : hG) (M : hM) (S : hSy) (h : hHo) (hQv : QV G M S h) (i age : Nat) (pd : Bool) (hi : i < sM S) (ha9 : age ≤ hNow h - clY (sC S i)) : hCT l G yX11_at cX11_at 4 (Option.some FieldType.int) (hRm 5 0 0) M [.ref (sA S 0), .int (nI i), .int (nI age), .int (bI pd)] (hRd M (.int (clKnown (sC S i) age (hNow h) pd))) := by
  refine hCT.of (own := RX11) (nm := "at") (by decide) rfl rfl (Nat.le_of_ble_eq_true rfl) ?_
  intro p e s m args below meth c ls X Y hl
  have hx := X.1
  have hb := X.2.1
  have hl : lv_has ls 4 [(0, .ref (sA S 0)), (1, .int (nI i)), (2, .int (nI age)), (3, .int (bI pd))] := hl
  obtain ⟨hS, hG1, hHo, hCe, hTr, hnow, hyn⟩ := id hQv
  obtain ⟨hN8, hM40, hLG, hCY⟩ := id hG1
  obtain ⟨hl13, he14, hl15, he16, hLa, hCl⟩ := id hS
  obtain ⟨mc13, hlo13⟩ := id hl13
  obtain ⟨mc15, hlo15⟩ := id hl15
  obtain ⟨ho0, ho1, ho17, ho18, ft19, hft19, ho19⟩ := id hHo
  have hy := hyn i hi
  refine lv_aload_n hx hb dX11_at_0 rfl (lv_at hl 0 rfl) ?_
  refine lv_iload_n hx hb dX11_at_1 rfl (lv_at hl 1 rfl) ?_
  refine h_callVr (rest := []) X Y (c_hasClaim l G M S h hQv i (by omega)) rfl rfl gw_X11_190 dsc_X11_hasClaim ho0 rfl rfl rfl rfl hl.1 (Nat.le_of_ble_eq_true rfl) ⟨Nat.le_of_ble_eq_true rfl, Nat.le_of_ble_eq_true rfl⟩ ⟨Nat.le_of_ble_eq_true rfl, Nat.le_of_ble_eq_true rfl⟩ dX11_at_2 (fun H locs Y => ?_)
  refine lv_if_eq (tgt := 35) hx hb dX11_at_5 (by decide) (fun c5 => absurd c5 (by decide)) (fun c5 => ?_)
  refine lv_iload_n hx hb dX11_at_8 rfl (lv_at hl 2 rfl) ?_
  refine lv_if_lt (tgt := 35) hx hb dX11_at_9 (by decide) (fun c9 => absurd (show age < 0 from (nI_ltI (a := age) (b := 0) (by omega) (by omega)).mp c9) (by omega)) (fun c9 => ?_)
  have c9 : ¬ age < 0 := fun z9 => c9 ((nI_ltI (a := age) (b := 0) (by omega) (by omega)).mpr z9)
  refine lv_iload_n hx hb dX11_at_12 rfl (lv_at hl 2 rfl) ?_
  refine lv_aload_n hx hb dX11_at_13 rfl (lv_at hl 0 rfl) ?_
  refine h_get X Y (k := 12) (v := .int (nI (hNow h))) ho0 rfl hin_X11 (by decide) kfl_X11_78 rfl dX11_at_14 ?_
  refine lv_aload_n hx hb dX11_at_17 rfl (lv_at hl 0 rfl) ?_
  refine h_get X Y (k := 5) (v := .ref (sA S 15)) ho0 rfl hin_X11 (by decide) kfl_X11_46 rfl dX11_at_18 ?_
  refine lv_iload_n hx hb dX11_at_21 rfl (lv_at hl 1 rfl) ?_
  refine h_callVr (rest := [.int (nI (hNow h)), .int (nI age)]) X Y (c_get l G M (sA S 15) 15 (sA S 16) 16 (sM S) i (fun i => sA S (1000 + 10 * i)) hl15 (he16 (by omega)) (by omega)) rfl rfl gw_X11_150 dsc_Jx4a65c_get_915e3 hlo15 rfl rfl rfl rfl hl.1 (Nat.le_of_ble_eq_true rfl) ⟨Nat.le_of_ble_eq_true rfl, Nat.le_of_ble_eq_true rfl⟩ ⟨Nat.le_of_ble_eq_true rfl, Nat.le_of_ble_eq_true rfl⟩ dX11_at_22 (fun H locs Y => ?_)
  refine h_cast X Y (hCl i (by omega)).1 rfl rfl kcl_X11_181 dX11_at_25 ?_
  refine h_get X Y (k := 0) (v := .int (nI (clY (sC S i)))) (hCl i (by omega)).1 rfl hin_X3 (by decide) kfl_X11_224 rfl dX11_at_28 ?_
  refine lv_isub hx hb dX11_at_31 ?_
  refine h_ev (y := nI (hNow h - clY (sC S i))) (pk_sub hy) ?_
  refine lv_icmp_le (tgt := 45) hx hb dX11_at_32 (by decide) (fun c32 => ?_) (fun c32 => absurd (show ¬ age ≤ (hNow h - clY (sC S i)) from fun z9 => c32 ((nI_leI (a := age) (b := (hNow h - clY (sC S i))) (by omega) (by omega)).mpr z9)) (by omega))
  have c32 : age ≤ (hNow h - clY (sC S i)) := (nI_leI (a := age) (b := (hNow h - clY (sC S i))) (by omega) (by omega)).mp c32
  refine lv_aload_n hx hb dX11_at_45 rfl (lv_at hl 0 rfl) ?_
  refine h_get X Y (k := 5) (v := .ref (sA S 15)) ho0 rfl hin_X11 (by decide) kfl_X11_46 rfl dX11_at_46 ?_
  refine lv_iload_n hx hb dX11_at_49 rfl (lv_at hl 1 rfl) ?_
  refine h_callVr (rest := []) X Y (c_get l G M (sA S 15) 15 (sA S 16) 16 (sM S) i (fun i => sA S (1000 + 10 * i)) hl15 (he16 (by omega)) (by omega)) rfl rfl gw_X11_150 dsc_Jx4a65c_get_915e3 hlo15 rfl rfl rfl rfl hl.1 (Nat.le_of_ble_eq_true rfl) ⟨Nat.le_of_ble_eq_true rfl, Nat.le_of_ble_eq_true rfl⟩ ⟨Nat.le_of_ble_eq_true rfl, Nat.le_of_ble_eq_true rfl⟩ dX11_at_50 (fun H locs Y => ?_)
  refine h_cast X Y (hCl i (by omega)).1 rfl rfl kcl_X11_181 dX11_at_53 ?_
  refine lv_iload_n hx hb dX11_at_56 rfl (lv_at hl 2 rfl) ?_
  refine lv_aload_n hx hb dX11_at_57 rfl (lv_at hl 0 rfl) ?_
  refine h_get X Y (k := 12) (v := .int (nI (hNow h))) ho0 rfl hin_X11 (by decide) kfl_X11_78 rfl dX11_at_58 ?_
  refine lv_iload_n hx hb dX11_at_61 rfl (lv_at hl 3 rfl) ?_
  refine h_callVr (rest := []) X Y (c_known l G M (sA S (1000 + 10 * i)) (1000 + 10 * i) (sC S i) (hCl i hi) age (hNow h) pd (by omega) hnow hy) rfl rfl gw_X11_229 dsc_X3_known (hCl i (by omega)).1 rfl rfl rfl rfl hl.1 (Nat.le_of_ble_eq_true rfl) ⟨Nat.le_of_ble_eq_true rfl, Nat.le_of_ble_eq_true rfl⟩ ⟨Nat.le_of_ble_eq_true rfl, Nat.le_of_ble_eq_true rfl⟩ dX11_at_62 (fun H locs Y => ?_)
  exact h_iret X Y ⟨rfl, rfl⟩ (Nat.le_refl _) (Nat.le_refl _) dX11_at_65
theorem gw_X11_144 : GoodIn hGW (wsV RX11 144 RX11 yX11_hasLayer (Cond.code yX11_hasLayer cX11_hasLayer 2 (Option.some FieldType.boolean) :: hGW)) := hgi4 kml_X11_144 kin_X11_hasLayer kse_X11_X11_hasLayer_X11_hasLayer kini_X11 kco_X11_hasLayer
theorem dsc_X11_hasLayer : yX11_hasLayer.cls = RX11 ∧ yX11_hasLayer.cls ≠ "java/lang/invoke/MethodHandle" ∧ yX11_hasLayer.cls ≠ "java/lang/invoke/VarHandle" ∧ (parseMethodDescriptor yX11_hasLayer.desc).map (fun d => d.parameters.length) = some 1 := ⟨rfl, by decide +kernel, by decide +kernel, by decide +kernel⟩
theorem gw_X11_159 : GoodIn hGW (wsV RX11 159 RX11 yX11_isYear (Cond.code yX11_isYear cX11_isYear 2 (Option.some FieldType.boolean) :: hGW)) := hgi4 kml_X11_159 kin_X11_isYear kse_X11_X11_isYear_X11_isYear kini_X11 kco_X11_isYear
theorem dsc_X11_isYear : yX11_isYear.cls = RX11 ∧ yX11_isYear.cls ≠ "java/lang/invoke/MethodHandle" ∧ yX11_isYear.cls ≠ "java/lang/invoke/VarHandle" ∧ (parseMethodDescriptor yX11_isYear.desc).map (fun d => d.parameters.length) = some 1 := ⟨rfl, by decide +kernel, by decide +kernel, by decide +kernel⟩
theorem gw_X11_164 : GoodIn hGW (wsV RX11 164 RX5 yX5_tellYear (Cond.code yX5_tellYear cX5_tellYear 3 (Option.some FieldType.int) :: hGW)) := hgi4 kml_X11_164 kin_X5_tellYear kse_X5_X5_tellYear_X5_tellYear kini_X5 kco_X5_tellYear
theorem dsc_X5_tellYear : yX5_tellYear.cls = RX5 ∧ yX5_tellYear.cls ≠ "java/lang/invoke/MethodHandle" ∧ yX5_tellYear.cls ≠ "java/lang/invoke/VarHandle" ∧ (parseMethodDescriptor yX5_tellYear.desc).map (fun d => d.parameters.length) = some 2 := ⟨rfl, by decide +kernel, by decide +kernel, by decide +kernel⟩
theorem dX11_terms_0 : decode cX11_terms 0 = .ok (.aload_n 0, 1) := by decide +kernel
theorem dX11_terms_1 : decode cX11_terms 1 = .ok (.iload_n 1, 1) := by decide +kernel
theorem dX11_terms_2 : decode cX11_terms 2 = .ok (.invokevirtual 144, 3) := by decide +kernel
theorem dX11_terms_5 : decode cX11_terms 5 = .ok (.ifCond .eq 20, 3) := by decide +kernel
theorem dX11_terms_8 : decode cX11_terms 8 = .ok (.aload_n 0, 1) := by decide +kernel
theorem dX11_terms_9 : decode cX11_terms 9 = .ok (.iload_n 2, 1) := by decide +kernel
theorem dX11_terms_10 : decode cX11_terms 10 = .ok (.invokevirtual 159, 3) := by decide +kernel
theorem dX11_terms_13 : decode cX11_terms 13 = .ok (.ifCond .eq 12, 3) := by decide +kernel
theorem dX11_terms_16 : decode cX11_terms 16 = .ok (.iload_n 3, 1) := by decide +kernel
theorem dX11_terms_17 : decode cX11_terms 17 = .ok (.ifCond .lt 8, 3) := by decide +kernel
theorem dX11_terms_20 : decode cX11_terms 20 = .ok (.iload_n 3, 1) := by decide +kernel
theorem dX11_terms_21 : decode cX11_terms 21 = .ok (.iconst 3, 1) := by decide +kernel
theorem dX11_terms_22 : decode cX11_terms 22 = .ok (.if_icmp .le 13, 3) := by decide +kernel
theorem dX11_terms_35 : decode cX11_terms 35 = .ok (.aload_n 0, 1) := by decide +kernel
theorem dX11_terms_36 : decode cX11_terms 36 = .ok (.getfield 42, 3) := by decide +kernel
theorem dX11_terms_39 : decode cX11_terms 39 = .ok (.iload_n 1, 1) := by decide +kernel
theorem dX11_terms_40 : decode cX11_terms 40 = .ok (.invokevirtual 150, 3) := by decide +kernel
theorem dX11_terms_43 : decode cX11_terms 43 = .ok (.checkcast 154, 3) := by decide +kernel
theorem dX11_terms_46 : decode cX11_terms 46 = .ok (.iload_n 2, 1) := by decide +kernel
theorem dX11_terms_47 : decode cX11_terms 47 = .ok (.iload_n 3, 1) := by decide +kernel
theorem dX11_terms_48 : decode cX11_terms 48 = .ok (.invokevirtual 164, 3) := by decide +kernel
theorem dX11_terms_51 : decode cX11_terms 51 = .ok (.ireturn, 1) := by decide +kernel
set_option maxHeartbeats 400000 in
set_option maxRecDepth 100000 in
theorem c_terms (l : Launch) (G : hG) (M : hM) (S : hSy) (h : hHo) (hQv : QV G M S h) (k y what : Nat) (hk : k < sN S) (hy : y < 10) (hw : what < 4) : hCT l G yX11_terms cX11_terms 4 (Option.some FieldType.int) (hRm 4 0 0) M [.ref (sA S 0), .int (nI k), .int (nI y), .int (nI what)] (hRd M (.int (lyYear (sL S k) y what))) := by
  refine hCT.of (own := RX11) (nm := "terms") (by decide) rfl rfl (Nat.le_of_ble_eq_true rfl) ?_
  intro p e s m args below meth c ls X Y hl
  have hx := X.1
  have hb := X.2.1
  have hl : lv_has ls 4 [(0, .ref (sA S 0)), (1, .int (nI k)), (2, .int (nI y)), (3, .int (nI what))] := hl
  obtain ⟨hS, hG1, hHo, hCe, hTr, hnow, hyn⟩ := id hQv
  obtain ⟨hN8, hM40, hLG, hCY⟩ := id hG1
  obtain ⟨hl13, he14, hl15, he16, hLa, hCl⟩ := id hS
  obtain ⟨mc13, hlo13⟩ := id hl13
  obtain ⟨mc15, hlo15⟩ := id hl15
  obtain ⟨ho0, ho1, ho17, ho18, ft19, hft19, ho19⟩ := id hHo
  refine lv_aload_n hx hb dX11_terms_0 rfl (lv_at hl 0 rfl) ?_
  refine lv_iload_n hx hb dX11_terms_1 rfl (lv_at hl 1 rfl) ?_
  refine h_callVr (rest := []) X Y (c_hasLayer l G M S h hQv k (by omega)) rfl rfl gw_X11_144 dsc_X11_hasLayer ho0 rfl rfl rfl rfl hl.1 (Nat.le_of_ble_eq_true rfl) ⟨Nat.le_of_ble_eq_true rfl, Nat.le_of_ble_eq_true rfl⟩ ⟨Nat.le_of_ble_eq_true rfl, Nat.le_of_ble_eq_true rfl⟩ dX11_terms_2 (fun H locs Y => ?_)
  refine lv_if_eq (tgt := 25) hx hb dX11_terms_5 (by decide) (fun c5 => absurd c5 (by decide)) (fun c5 => ?_)
  refine lv_aload_n hx hb dX11_terms_8 rfl (lv_at hl 0 rfl) ?_
  refine lv_iload_n hx hb dX11_terms_9 rfl (lv_at hl 2 rfl) ?_
  refine h_callVr (rest := []) X Y (c_isYear l G M (sA S 0) y (by omega)) rfl rfl gw_X11_159 dsc_X11_isYear ho0 rfl rfl rfl rfl hl.1 (Nat.le_of_ble_eq_true rfl) ⟨Nat.le_of_ble_eq_true rfl, Nat.le_of_ble_eq_true rfl⟩ ⟨Nat.le_of_ble_eq_true rfl, Nat.le_of_ble_eq_true rfl⟩ dX11_terms_10 (fun H locs Y => ?_)
  refine lv_if_eq (tgt := 25) hx hb dX11_terms_13 (by decide) (fun c13 => absurd c13 (by decide)) (fun c13 => ?_)
  refine lv_iload_n hx hb dX11_terms_16 rfl (lv_at hl 3 rfl) ?_
  refine lv_if_lt (tgt := 25) hx hb dX11_terms_17 (by decide) (fun c17 => absurd (show what < 0 from (nI_ltI (a := what) (b := 0) (by omega) (by omega)).mp c17) (by omega)) (fun c17 => ?_)
  have c17 : ¬ what < 0 := fun z9 => c17 ((nI_ltI (a := what) (b := 0) (by omega) (by omega)).mpr z9)
  refine lv_iload_n hx hb dX11_terms_20 rfl (lv_at hl 3 rfl) ?_
  refine lv_iconst (v := 3) hx hb dX11_terms_21 (by decide) ?_
  refine lv_icmp_le (tgt := 35) hx hb dX11_terms_22 (by decide) (fun c22 => ?_) (fun c22 => absurd (show ¬ what ≤ 3 from fun z9 => c22 ((nI_leI (a := what) (b := 3) (by omega) (by omega)).mpr z9)) (by omega))
  have c22 : what ≤ 3 := (nI_leI (a := what) (b := 3) (by omega) (by omega)).mp c22
  refine lv_aload_n hx hb dX11_terms_35 rfl (lv_at hl 0 rfl) ?_
  refine h_get X Y (k := 4) (v := .ref (sA S 13)) ho0 rfl hin_X11 (by decide) kfl_X11_42 rfl dX11_terms_36 ?_
  refine lv_iload_n hx hb dX11_terms_39 rfl (lv_at hl 1 rfl) ?_
  refine h_callVr (rest := []) X Y (c_get l G M (sA S 13) 13 (sA S 14) 14 (sN S) k (fun k => sA S (2000 + 100 * k)) hl13 (he14 (by omega)) (by omega)) rfl rfl gw_X11_150 dsc_Jx4a65c_get_915e3 hlo13 rfl rfl rfl rfl hl.1 (Nat.le_of_ble_eq_true rfl) ⟨Nat.le_of_ble_eq_true rfl, Nat.le_of_ble_eq_true rfl⟩ ⟨Nat.le_of_ble_eq_true rfl, Nat.le_of_ble_eq_true rfl⟩ dX11_terms_40 (fun H locs Y => ?_)
  refine h_cast X Y (hLa k (by omega)).1.1 rfl rfl kcl_X11_154 dX11_terms_43 ?_
  refine lv_iload_n hx hb dX11_terms_46 rfl (lv_at hl 2 rfl) ?_
  refine lv_iload_n hx hb dX11_terms_47 rfl (lv_at hl 3 rfl) ?_
  refine h_callVr (rest := []) X Y (c_tellYear l G M (sA S (2000 + 100 * k)) (2000 + 100 * k) (sL S k) (hLa k hk).1 y what hy hw) rfl rfl gw_X11_164 dsc_X5_tellYear (hLa k (by omega)).1.1 rfl rfl rfl rfl hl.1 (Nat.le_of_ble_eq_true rfl) ⟨Nat.le_of_ble_eq_true rfl, Nat.le_of_ble_eq_true rfl⟩ ⟨Nat.le_of_ble_eq_true rfl, Nat.le_of_ble_eq_true rfl⟩ dX11_terms_48 (fun H locs Y => ?_)
  exact h_iret X Y ⟨rfl, rfl⟩ (Nat.le_refl _) (Nat.le_refl _) dX11_terms_51
theorem gw_X11_372 : GoodIn hGW (wsV RX11 372 RX1 yX1_borneIn (Cond.code yX1_borneIn cX1_borneIn 3 (Option.some FieldType.int) :: hGW)) := hgi4 kml_X11_372 kin_X1_borneIn kse_X1_X1_borneIn_X1_borneIn kini_X1 kco_X1_borneIn
theorem gw_X11_375 : GoodIn hGW (wsV RX11 375 RX5 yX5_roomIn (Cond.code yX5_roomIn cX5_roomIn 5 (Option.some FieldType.int) :: hGW)) := hgi4 kml_X11_375 kin_X5_roomIn kse_X5_X5_roomIn_X5_roomIn kini_X5 kco_X5_roomIn
theorem dsc_X5_roomIn : yX5_roomIn.cls = RX5 ∧ yX5_roomIn.cls ≠ "java/lang/invoke/MethodHandle" ∧ yX5_roomIn.cls ≠ "java/lang/invoke/VarHandle" ∧ (parseMethodDescriptor yX5_roomIn.desc).map (fun d => d.parameters.length) = some 2 := ⟨rfl, by decide +kernel, by decide +kernel, by decide +kernel⟩
theorem gw_X11_378 : GoodIn hGW (wsV RX11 378 RX1 yX1_chargedIn (Cond.code yX1_chargedIn cX1_chargedIn 3 (Option.some FieldType.int) :: hGW)) := hgi4 kml_X11_378 kin_X1_chargedIn kse_X1_X1_chargedIn_X1_chargedIn kini_X1 kco_X1_chargedIn
theorem gw_X11_381 : GoodIn hGW (wsV RX11 381 RX1 yX1_borneClaims (Cond.code yX1_borneClaims cX1_borneClaims 5 (Option.some FieldType.int) :: hGW)) := hgi4 kml_X11_381 kin_X1_borneClaims kse_X1_X1_borneClaims_X1_borneClaims kini_X1 kco_X1_borneClaims
theorem dsc_X1_borneClaims : yX1_borneClaims.cls = RX1 ∧ yX1_borneClaims.cls ≠ "java/lang/invoke/MethodHandle" ∧ yX1_borneClaims.cls ≠ "java/lang/invoke/VarHandle" ∧ (parseMethodDescriptor yX1_borneClaims.desc).map (fun d => d.parameters.length) = some 2 := ⟨rfl, by decide +kernel, by decide +kernel, by decide +kernel⟩
theorem dX11_usedOf_0 : decode cX11_usedOf 0 = .ok (.iload_n 3, 1) := by decide +kernel
theorem dX11_usedOf_1 : decode cX11_usedOf 1 = .ok (.tableswitch 72 0 2 #[27, 37, 62], 27) := by decide +kernel
theorem dX11_usedOf_28 : decode cX11_usedOf 28 = .ok (.aload_n 0, 1) := by decide +kernel
theorem dX11_usedOf_29 : decode cX11_usedOf 29 = .ok (.getfield 58, 3) := by decide +kernel
theorem dX11_usedOf_32 : decode cX11_usedOf 32 = .ok (.iload_n 1, 1) := by decide +kernel
theorem dX11_usedOf_33 : decode cX11_usedOf 33 = .ok (.iload_n 2, 1) := by decide +kernel
theorem dX11_usedOf_34 : decode cX11_usedOf 34 = .ok (.invokevirtual 372, 3) := by decide +kernel
theorem dX11_usedOf_37 : decode cX11_usedOf 37 = .ok (.ireturn, 1) := by decide +kernel
theorem dX11_usedOf_38 : decode cX11_usedOf 38 = .ok (.aload_n 0, 1) := by decide +kernel
theorem dX11_usedOf_39 : decode cX11_usedOf 39 = .ok (.getfield 42, 3) := by decide +kernel
theorem dX11_usedOf_42 : decode cX11_usedOf 42 = .ok (.iload_n 1, 1) := by decide +kernel
theorem dX11_usedOf_43 : decode cX11_usedOf 43 = .ok (.invokevirtual 150, 3) := by decide +kernel
theorem dX11_usedOf_46 : decode cX11_usedOf 46 = .ok (.checkcast 154, 3) := by decide +kernel
theorem dX11_usedOf_49 : decode cX11_usedOf 49 = .ok (.iload_n 2, 1) := by decide +kernel
theorem dX11_usedOf_50 : decode cX11_usedOf 50 = .ok (.aload_n 0, 1) := by decide +kernel
theorem dX11_usedOf_51 : decode cX11_usedOf 51 = .ok (.getfield 58, 3) := by decide +kernel
theorem dX11_usedOf_54 : decode cX11_usedOf 54 = .ok (.iload_n 1, 1) := by decide +kernel
theorem dX11_usedOf_55 : decode cX11_usedOf 55 = .ok (.iload_n 2, 1) := by decide +kernel
theorem dX11_usedOf_56 : decode cX11_usedOf 56 = .ok (.invokevirtual 372, 3) := by decide +kernel
theorem dX11_usedOf_59 : decode cX11_usedOf 59 = .ok (.invokevirtual 375, 3) := by decide +kernel
theorem dX11_usedOf_62 : decode cX11_usedOf 62 = .ok (.ireturn, 1) := by decide +kernel
theorem dX11_usedOf_63 : decode cX11_usedOf 63 = .ok (.aload_n 0, 1) := by decide +kernel
theorem dX11_usedOf_64 : decode cX11_usedOf 64 = .ok (.getfield 58, 3) := by decide +kernel
theorem dX11_usedOf_67 : decode cX11_usedOf 67 = .ok (.iload_n 1, 1) := by decide +kernel
theorem dX11_usedOf_68 : decode cX11_usedOf 68 = .ok (.iload_n 2, 1) := by decide +kernel
theorem dX11_usedOf_69 : decode cX11_usedOf 69 = .ok (.invokevirtual 378, 3) := by decide +kernel
theorem dX11_usedOf_72 : decode cX11_usedOf 72 = .ok (.ireturn, 1) := by decide +kernel
theorem dX11_usedOf_73 : decode cX11_usedOf 73 = .ok (.aload_n 0, 1) := by decide +kernel
theorem dX11_usedOf_74 : decode cX11_usedOf 74 = .ok (.getfield 58, 3) := by decide +kernel
theorem dX11_usedOf_77 : decode cX11_usedOf 77 = .ok (.iload_n 1, 1) := by decide +kernel
theorem dX11_usedOf_78 : decode cX11_usedOf 78 = .ok (.iload_n 2, 1) := by decide +kernel
theorem dX11_usedOf_79 : decode cX11_usedOf 79 = .ok (.invokevirtual 381, 3) := by decide +kernel
theorem dX11_usedOf_82 : decode cX11_usedOf 82 = .ok (.ireturn, 1) := by decide +kernel
set_option maxHeartbeats 400000 in
set_option maxRecDepth 100000 in
theorem c_usedOf (l : Launch) (G : hG) (M : hM) (S : hSy) (h : hHo) (hQv : QV G M S h) (k y what : Nat) (hk : k < sN S) (hy : y < 10) (hw : what < 4) (h7 : CesIs G M S 1 (-1) (qAm S false)) : hCT l G yX11_usedOf cX11_usedOf 4 (Option.some FieldType.int) (hRm 6 0 0) M [.ref (sA S 0), .int (nI k), .int (nI y), .int (nI what)] (hRd M (.int (qUsed S k y what))) := by
  refine hCT.of (own := RX11) (nm := "usedOf") (by decide) rfl rfl (Nat.le_of_ble_eq_true rfl) ?_
  intro p e s m args below meth c ls X Y hl
  have hx := X.1
  have hb := X.2.1
  have hl : lv_has ls 4 [(0, .ref (sA S 0)), (1, .int (nI k)), (2, .int (nI y)), (3, .int (nI what))] := hl
  obtain ⟨hS, hG1, hHo, hCe, hTr, hnow, hyn⟩ := id hQv
  obtain ⟨hN8, hM40, hLG, hCY⟩ := id hG1
  obtain ⟨hl13, he14, hl15, he16, hLa, hCl⟩ := id hS
  obtain ⟨mc13, hlo13⟩ := id hl13
  obtain ⟨mc15, hlo15⟩ := id hl15
  obtain ⟨ho0, ho1, ho17, ho18, ft19, hft19, ho19⟩ := id hHo
  obtain ⟨am, be, yl, lo, hV, ha, hbq, hyq⟩ := id (h7)
  obtain ⟨hoc, -⟩ := id hV
  have e1 : rBorne S yl k y = rBorne S (qYl S false) k y := rBorne_congr S (hyq k hk y hy)
  rcases (show what = 0 ∨ what = 1 ∨ what = 2 ∨ what = 3 from (by omega)) with rfl | rfl | rfl | rfl
  · refine lv_iload_n hx hb dX11_usedOf_0 rfl (lv_at hl 3 rfl) ?_
    refine lv_tableIn (off := 27) (tgt := 28) hx hb dX11_usedOf_1 (by decide) (by decide) (by decide) (by decide) ?_
    refine lv_aload_n hx hb dX11_usedOf_28 rfl (lv_at hl 0 rfl) ?_
    refine h_get X Y (k := 7) (v := .ref (sA S (100 * (1 + 1)))) ho0 rfl hin_X11 (by decide) kfl_X11_58 rfl dX11_usedOf_29 ?_
    refine lv_iload_n hx hb dX11_usedOf_32 rfl (lv_at hl 1 rfl) ?_
    refine lv_iload_n hx hb dX11_usedOf_33 rfl (lv_at hl 2 rfl) ?_
    refine h_callVr (rest := []) X Y (c_borneIn l G M S hS hG1 1 am be yl lo hV k y hk hy) rfl rfl gw_X11_372 dsc_X1_borneIn hoc rfl rfl rfl rfl hl.1 (Nat.le_of_ble_eq_true rfl) ⟨Nat.le_of_ble_eq_true rfl, Nat.le_of_ble_eq_true rfl⟩ ⟨Nat.le_of_ble_eq_true rfl, Nat.le_of_ble_eq_true rfl⟩ dX11_usedOf_34 (fun H locs Y => ?_)
    refine h_ev (y := rBorne S (qYl S false) k y) (e1) ?_
    exact h_iret X Y ⟨rfl, rfl⟩ (Nat.le_refl _) (Nat.le_refl _) dX11_usedOf_37
  · refine lv_iload_n hx hb dX11_usedOf_0 rfl (lv_at hl 3 rfl) ?_
    refine lv_tableIn (off := 37) (tgt := 38) hx hb dX11_usedOf_1 (by decide) (by decide) (by decide) (by decide) ?_
    refine lv_aload_n hx hb dX11_usedOf_38 rfl (lv_at hl 0 rfl) ?_
    refine h_get X Y (k := 4) (v := .ref (sA S 13)) ho0 rfl hin_X11 (by decide) kfl_X11_42 rfl dX11_usedOf_39 ?_
    refine lv_iload_n hx hb dX11_usedOf_42 rfl (lv_at hl 1 rfl) ?_
    refine h_callVr (rest := []) X Y (c_get l G M (sA S 13) 13 (sA S 14) 14 (sN S) k (fun k => sA S (2000 + 100 * k)) hl13 (he14 (by omega)) (by omega)) rfl rfl gw_X11_150 dsc_Jx4a65c_get_915e3 hlo13 rfl rfl rfl rfl hl.1 (Nat.le_of_ble_eq_true rfl) ⟨Nat.le_of_ble_eq_true rfl, Nat.le_of_ble_eq_true rfl⟩ ⟨Nat.le_of_ble_eq_true rfl, Nat.le_of_ble_eq_true rfl⟩ dX11_usedOf_43 (fun H locs Y => ?_)
    refine h_cast X Y (hLa k (by omega)).1.1 rfl rfl kcl_X11_154 dX11_usedOf_46 ?_
    refine lv_iload_n hx hb dX11_usedOf_49 rfl (lv_at hl 2 rfl) ?_
    refine lv_aload_n hx hb dX11_usedOf_50 rfl (lv_at hl 0 rfl) ?_
    refine h_get X Y (k := 7) (v := .ref (sA S (100 * (1 + 1)))) ho0 rfl hin_X11 (by decide) kfl_X11_58 rfl dX11_usedOf_51 ?_
    refine lv_iload_n hx hb dX11_usedOf_54 rfl (lv_at hl 1 rfl) ?_
    refine lv_iload_n hx hb dX11_usedOf_55 rfl (lv_at hl 2 rfl) ?_
    refine h_callVr (rest := [.int (nI y), .ref (sA S (2000 + 100 * k))]) X Y (c_borneIn l G M S hS hG1 1 am be yl lo hV k y hk hy) rfl rfl gw_X11_372 dsc_X1_borneIn hoc rfl rfl rfl rfl hl.1 (Nat.le_of_ble_eq_true rfl) ⟨Nat.le_of_ble_eq_true rfl, Nat.le_of_ble_eq_true rfl⟩ ⟨Nat.le_of_ble_eq_true rfl, Nat.le_of_ble_eq_true rfl⟩ dX11_usedOf_56 (fun H locs Y => ?_)
    refine h_ev (y := rBorne S (qYl S false) k y) (e1) ?_
    refine h_callVr (rest := []) X Y (c_roomIn l G M (sA S (2000 + 100 * k)) (2000 + 100 * k) (sL S k) (hLa k hk).1 y hy (rBorne S (qYl S false) k y)) rfl rfl gw_X11_375 dsc_X5_roomIn (hLa k (by omega)).1.1 rfl rfl rfl rfl hl.1 (Nat.le_of_ble_eq_true rfl) ⟨Nat.le_of_ble_eq_true rfl, Nat.le_of_ble_eq_true rfl⟩ ⟨Nat.le_of_ble_eq_true rfl, Nat.le_of_ble_eq_true rfl⟩ dX11_usedOf_59 (fun H locs Y => ?_)
    exact h_iret X Y ⟨rfl, rfl⟩ (Nat.le_refl _) (Nat.le_refl _) dX11_usedOf_62
  · refine lv_iload_n hx hb dX11_usedOf_0 rfl (lv_at hl 3 rfl) ?_
    refine lv_tableIn (off := 62) (tgt := 63) hx hb dX11_usedOf_1 (by decide) (by decide) (by decide) (by decide) ?_
    refine lv_aload_n hx hb dX11_usedOf_63 rfl (lv_at hl 0 rfl) ?_
    refine h_get X Y (k := 7) (v := .ref (sA S (100 * (1 + 1)))) ho0 rfl hin_X11 (by decide) kfl_X11_58 rfl dX11_usedOf_64 ?_
    refine lv_iload_n hx hb dX11_usedOf_67 rfl (lv_at hl 1 rfl) ?_
    refine lv_iload_n hx hb dX11_usedOf_68 rfl (lv_at hl 2 rfl) ?_
    refine h_callVr (rest := []) X Y (c_chargedIn l G M S hS hG1 1 am be yl lo hV k y hk hy) rfl rfl gw_X11_378 dsc_X1_chargedIn hoc rfl rfl rfl rfl hl.1 (Nat.le_of_ble_eq_true rfl) ⟨Nat.le_of_ble_eq_true rfl, Nat.le_of_ble_eq_true rfl⟩ ⟨Nat.le_of_ble_eq_true rfl, Nat.le_of_ble_eq_true rfl⟩ dX11_usedOf_69 (fun H locs Y => ?_)
    refine h_ev (y := rCharge S (qYl S false) k y) (rCharge_congr S (hyq k hk y hy)) ?_
    exact h_iret X Y ⟨rfl, rfl⟩ (Nat.le_refl _) (Nat.le_refl _) dX11_usedOf_72
  · refine lv_iload_n hx hb dX11_usedOf_0 rfl (lv_at hl 3 rfl) ?_
    refine lv_tableOut (tgt := 73) hx hb dX11_usedOf_1 (by decide) (by decide) ?_
    refine lv_aload_n hx hb dX11_usedOf_73 rfl (lv_at hl 0 rfl) ?_
    refine h_get X Y (k := 7) (v := .ref (sA S (100 * (1 + 1)))) ho0 rfl hin_X11 (by decide) kfl_X11_58 rfl dX11_usedOf_74 ?_
    refine lv_iload_n hx hb dX11_usedOf_77 rfl (lv_at hl 1 rfl) ?_
    refine lv_iload_n hx hb dX11_usedOf_78 rfl (lv_at hl 2 rfl) ?_
    refine h_callVr (rest := []) X Y (c_borneClaims l G M S hS hG1 1 am be yl lo hV k y hk hy) rfl rfl gw_X11_381 dsc_X1_borneClaims hoc rfl rfl rfl rfl hl.1 (Nat.le_of_ble_eq_true rfl) ⟨Nat.le_of_ble_eq_true rfl, Nat.le_of_ble_eq_true rfl⟩ ⟨Nat.le_of_ble_eq_true rfl, Nat.le_of_ble_eq_true rfl⟩ dX11_usedOf_79 (fun H locs Y => ?_)
    refine h_ev (y := nI (rCount S (pBe S (-1) (qAm S false)) k y (sM S))) (congrArg nI (rCount_congr S (sM S) (fun i hi => hbq i hi k hk))) ?_
    exact h_iret X Y ⟨rfl, rfl⟩ (Nat.le_refl _) (Nat.le_refl _) dX11_usedOf_82
theorem gw_X11_238 : GoodIn hGW (wsV RX11 238 RX11 yX11_usedOf (Cond.code yX11_usedOf cX11_usedOf 4 (Option.some FieldType.int) :: hGW)) := hgi4 kml_X11_238 kin_X11_usedOf kse_X11_X11_usedOf_X11_usedOf kini_X11 kco_X11_usedOf
theorem dsc_X11_usedOf : yX11_usedOf.cls = RX11 ∧ yX11_usedOf.cls ≠ "java/lang/invoke/MethodHandle" ∧ yX11_usedOf.cls ≠ "java/lang/invoke/VarHandle" ∧ (parseMethodDescriptor yX11_usedOf.desc).map (fun d => d.parameters.length) = some 3 := ⟨rfl, by decide +kernel, by decide +kernel, by decide +kernel⟩
theorem dX11_used_0 : decode cX11_used 0 = .ok (.aload_n 0, 1) := by decide +kernel
theorem dX11_used_1 : decode cX11_used 1 = .ok (.iload_n 1, 1) := by decide +kernel
theorem dX11_used_2 : decode cX11_used 2 = .ok (.invokevirtual 144, 3) := by decide +kernel
theorem dX11_used_5 : decode cX11_used 5 = .ok (.ifCond .eq 20, 3) := by decide +kernel
theorem dX11_used_8 : decode cX11_used 8 = .ok (.aload_n 0, 1) := by decide +kernel
theorem dX11_used_9 : decode cX11_used 9 = .ok (.iload_n 2, 1) := by decide +kernel
theorem dX11_used_10 : decode cX11_used 10 = .ok (.invokevirtual 159, 3) := by decide +kernel
theorem dX11_used_13 : decode cX11_used 13 = .ok (.ifCond .eq 12, 3) := by decide +kernel
theorem dX11_used_16 : decode cX11_used 16 = .ok (.iload_n 3, 1) := by decide +kernel
theorem dX11_used_17 : decode cX11_used 17 = .ok (.ifCond .lt 8, 3) := by decide +kernel
theorem dX11_used_20 : decode cX11_used 20 = .ok (.iload_n 3, 1) := by decide +kernel
theorem dX11_used_21 : decode cX11_used 21 = .ok (.iconst 3, 1) := by decide +kernel
theorem dX11_used_22 : decode cX11_used 22 = .ok (.if_icmp .le 13, 3) := by decide +kernel
theorem dX11_used_35 : decode cX11_used 35 = .ok (.aload_n 0, 1) := by decide +kernel
theorem dX11_used_36 : decode cX11_used 36 = .ok (.aload_n 0, 1) := by decide +kernel
theorem dX11_used_37 : decode cX11_used 37 = .ok (.getfield 58, 3) := by decide +kernel
theorem dX11_used_40 : decode cX11_used 40 = .ok (.iconst 0, 1) := by decide +kernel
theorem dX11_used_41 : decode cX11_used 41 = .ok (.iconst (-1), 1) := by decide +kernel
theorem dX11_used_42 : decode cX11_used 42 = .ok (.invokevirtual 137, 3) := by decide +kernel
theorem dX11_used_45 : decode cX11_used 45 = .ok (.aload_n 0, 1) := by decide +kernel
theorem dX11_used_46 : decode cX11_used 46 = .ok (.iload_n 1, 1) := by decide +kernel
theorem dX11_used_47 : decode cX11_used 47 = .ok (.iload_n 2, 1) := by decide +kernel
theorem dX11_used_48 : decode cX11_used 48 = .ok (.iload_n 3, 1) := by decide +kernel
theorem dX11_used_49 : decode cX11_used 49 = .ok (.invokevirtual 238, 3) := by decide +kernel
theorem dX11_used_52 : decode cX11_used 52 = .ok (.ireturn, 1) := by decide +kernel
set_option maxHeartbeats 400000 in
set_option maxRecDepth 100000 in
theorem c_used (l : Launch) (G : hG) (M : hM) (S : hSy) (h : hHo) (hQv : QV G M S h) (k y what : Nat) (hk : k < sN S) (hy : y < 10) (hw : what < 4) : hCT l G yX11_used cX11_used 4 (Option.some FieldType.int) (hRm 9 0 0) M [.ref (sA S 0), .int (nI k), .int (nI y), .int (nI what)] (fun v M' => v = some (.int (qUsed S k y what)) ∧ hSim G hScr M M') := by
  refine hCT.of (own := RX11) (nm := "used") (by decide) rfl rfl (Nat.le_of_ble_eq_true rfl) ?_
  intro p e s m args below meth c ls X Y hl
  have hx := X.1
  have hb := X.2.1
  have hl : lv_has ls 4 [(0, .ref (sA S 0)), (1, .int (nI k)), (2, .int (nI y)), (3, .int (nI what))] := hl
  obtain ⟨hS, hG1, hHo, hCe, hTr, hnow, hyn⟩ := id hQv
  obtain ⟨hN8, hM40, hLG, hCY⟩ := id hG1
  obtain ⟨hl13, he14, hl15, he16, hLa, hCl⟩ := id hS
  obtain ⟨mc13, hlo13⟩ := id hl13
  obtain ⟨mc15, hlo15⟩ := id hl15
  obtain ⟨ho0, ho1, ho17, ho18, ft19, hft19, ho19⟩ := id hHo
  have hs0 : hSim G hScr M M := hSim.rf
  refine lv_aload_n hx hb dX11_used_0 rfl (lv_at hl 0 rfl) ?_
  refine lv_iload_n hx hb dX11_used_1 rfl (lv_at hl 1 rfl) ?_
  refine h_callVr (rest := []) X Y (c_hasLayer l G M S h hQv k (by omega)) rfl rfl gw_X11_144 dsc_X11_hasLayer ho0 rfl rfl rfl rfl hl.1 (Nat.le_of_ble_eq_true rfl) ⟨Nat.le_of_ble_eq_true rfl, Nat.le_of_ble_eq_true rfl⟩ ⟨Nat.le_of_ble_eq_true rfl, Nat.le_of_ble_eq_true rfl⟩ dX11_used_2 (fun H locs Y => ?_)
  refine lv_if_eq (tgt := 25) hx hb dX11_used_5 (by decide) (fun c5 => absurd c5 (by decide)) (fun c5 => ?_)
  refine lv_aload_n hx hb dX11_used_8 rfl (lv_at hl 0 rfl) ?_
  refine lv_iload_n hx hb dX11_used_9 rfl (lv_at hl 2 rfl) ?_
  refine h_callVr (rest := []) X Y (c_isYear l G M (sA S 0) y (by omega)) rfl rfl gw_X11_159 dsc_X11_isYear ho0 rfl rfl rfl rfl hl.1 (Nat.le_of_ble_eq_true rfl) ⟨Nat.le_of_ble_eq_true rfl, Nat.le_of_ble_eq_true rfl⟩ ⟨Nat.le_of_ble_eq_true rfl, Nat.le_of_ble_eq_true rfl⟩ dX11_used_10 (fun H locs Y => ?_)
  refine lv_if_eq (tgt := 25) hx hb dX11_used_13 (by decide) (fun c13 => absurd c13 (by decide)) (fun c13 => ?_)
  refine lv_iload_n hx hb dX11_used_16 rfl (lv_at hl 3 rfl) ?_
  refine lv_if_lt (tgt := 25) hx hb dX11_used_17 (by decide) (fun c17 => absurd (show what < 0 from (nI_ltI (a := what) (b := 0) (by omega) (by omega)).mp c17) (by omega)) (fun c17 => ?_)
  have c17 : ¬ what < 0 := fun z9 => c17 ((nI_ltI (a := what) (b := 0) (by omega) (by omega)).mpr z9)
  refine lv_iload_n hx hb dX11_used_20 rfl (lv_at hl 3 rfl) ?_
  refine lv_iconst (v := 3) hx hb dX11_used_21 (by decide) ?_
  refine lv_icmp_le (tgt := 35) hx hb dX11_used_22 (by decide) (fun c22 => ?_) (fun c22 => absurd (show ¬ what ≤ 3 from fun z9 => c22 ((nI_leI (a := what) (b := 3) (by omega) (by omega)).mpr z9)) (by omega))
  have c22 : what ≤ 3 := (nI_leI (a := what) (b := 3) (by omega) (by omega)).mp c22
  refine lv_aload_n hx hb dX11_used_35 rfl (lv_at hl 0 rfl) ?_
  refine lv_aload_n hx hb dX11_used_36 rfl (lv_at hl 0 rfl) ?_
  refine h_get X Y (k := 7) (v := .ref (sA S (100 * (1 + 1)))) ho0 rfl hin_X11 (by decide) kfl_X11_58 rfl dX11_used_37 ?_
  refine lv_iconst (v := 0) hx hb dX11_used_40 (by decide) ?_
  refine lv_iconst (v := (-1)) hx hb dX11_used_41 (by decide) ?_
  refine h_callV (rest := []) X Y (c_cedeNow l G M S h hQv 1 (by omega) false (-1)) gw_X11_137 dsc_X11_cedeNow ho0 rfl rfl rfl hl.1 rfl (Nat.le_of_ble_eq_true rfl) ⟨Nat.le_of_ble_eq_true rfl, Nat.le_of_ble_eq_true rfl⟩ ⟨Nat.le_of_ble_eq_true rfl, Nat.le_of_ble_eq_true rfl⟩ dX11_used_42 ?_
  rintro _ M1 H locs ⟨rfl, hCI1, hq⟩ Y
  try dsimp only [Option.toList, List.nil_append]
  have hs0 := hs0.tr (hq.mono (hS1_scr (by omega)))
  have hQv := hQv.sim (hq.mono (hS1_scr (by omega)))
  obtain ⟨hS, -, hHo, hCe, hTr, -, -⟩ := id hQv
  obtain ⟨hl13, he14, hl15, he16, hLa, hCl⟩ := id hS
  obtain ⟨mc13, hlo13⟩ := id hl13
  obtain ⟨mc15, hlo15⟩ := id hl15
  obtain ⟨ho0, ho1, ho17, ho18, ft19, hft19, ho19⟩ := id hHo
  refine lv_aload_n hx hb dX11_used_45 rfl (lv_at hl 0 rfl) ?_
  refine lv_iload_n hx hb dX11_used_46 rfl (lv_at hl 1 rfl) ?_
  refine lv_iload_n hx hb dX11_used_47 rfl (lv_at hl 2 rfl) ?_
  refine lv_iload_n hx hb dX11_used_48 rfl (lv_at hl 3 rfl) ?_
  refine h_callVr (rest := []) X Y (c_usedOf l G M1 S h hQv k y what hk hy hw hCI1) rfl rfl gw_X11_238 dsc_X11_usedOf ho0 rfl rfl rfl rfl hl.1 (Nat.le_of_ble_eq_true rfl) ⟨Nat.le_of_ble_eq_true rfl, Nat.le_of_ble_eq_true rfl⟩ ⟨Nat.le_of_ble_eq_true rfl, Nat.le_of_ble_eq_true rfl⟩ dX11_used_49 (fun H locs Y => ?_)
  exact h_iret X Y ⟨rfl, hs0⟩ (Nat.le_refl _) (Nat.le_refl _) dX11_used_52
theorem gw_X11_235 : GoodIn hGW (wsV RX11 235 RX1 yX1_given (Cond.code yX1_given cX1_given 3 (Option.some FieldType.int) :: hGW)) := hgi4 kml_X11_235 kin_X1_given kse_X1_X1_given_X1_given kini_X1 kco_X1_given
theorem dX11_gets_0 : decode cX11_gets 0 = .ok (.aload_n 0, 1) := by decide +kernel
theorem dX11_gets_1 : decode cX11_gets 1 = .ok (.iload_n 1, 1) := by decide +kernel
theorem dX11_gets_2 : decode cX11_gets 2 = .ok (.invokevirtual 144, 3) := by decide +kernel
theorem dX11_gets_5 : decode cX11_gets 5 = .ok (.ifCond .eq 11, 3) := by decide +kernel
theorem dX11_gets_8 : decode cX11_gets 8 = .ok (.aload_n 0, 1) := by decide +kernel
theorem dX11_gets_9 : decode cX11_gets 9 = .ok (.iload_n 2, 1) := by decide +kernel
theorem dX11_gets_10 : decode cX11_gets 10 = .ok (.invokevirtual 190, 3) := by decide +kernel
theorem dX11_gets_13 : decode cX11_gets 13 = .ok (.ifCond .ne 13, 3) := by decide +kernel
theorem dX11_gets_26 : decode cX11_gets 26 = .ok (.iload_n 3, 1) := by decide +kernel
theorem dX11_gets_27 : decode cX11_gets 27 = .ok (.ifCond .eq 10, 3) := by decide +kernel
theorem dX11_gets_30 : decode cX11_gets 30 = .ok (.aload_n 0, 1) := by decide +kernel
theorem dX11_gets_31 : decode cX11_gets 31 = .ok (.getfield 54, 3) := by decide +kernel
theorem dX11_gets_34 : decode cX11_gets 34 = .ok (.goto 7, 3) := by decide +kernel
theorem dX11_gets_37 : decode cX11_gets 37 = .ok (.aload_n 0, 1) := by decide +kernel
theorem dX11_gets_38 : decode cX11_gets 38 = .ok (.getfield 58, 3) := by decide +kernel
theorem dX11_gets_41 : decode cX11_gets 41 = .ok (.astore 4, 2) := by decide +kernel
theorem dX11_gets_43 : decode cX11_gets 43 = .ok (.aload_n 0, 1) := by decide +kernel
theorem dX11_gets_44 : decode cX11_gets 44 = .ok (.aload 4, 2) := by decide +kernel
theorem dX11_gets_46 : decode cX11_gets 46 = .ok (.iload_n 3, 1) := by decide +kernel
theorem dX11_gets_47 : decode cX11_gets 47 = .ok (.iconst (-1), 1) := by decide +kernel
theorem dX11_gets_48 : decode cX11_gets 48 = .ok (.invokevirtual 137, 3) := by decide +kernel
theorem dX11_gets_51 : decode cX11_gets 51 = .ok (.aload 4, 2) := by decide +kernel
theorem dX11_gets_53 : decode cX11_gets 53 = .ok (.iload_n 1, 1) := by decide +kernel
theorem dX11_gets_54 : decode cX11_gets 54 = .ok (.iload_n 2, 1) := by decide +kernel
theorem dX11_gets_55 : decode cX11_gets 55 = .ok (.invokevirtual 235, 3) := by decide +kernel
theorem dX11_gets_58 : decode cX11_gets 58 = .ok (.ireturn, 1) := by decide +kernel
set_option maxHeartbeats 400000 in
set_option maxRecDepth 100000 in
theorem c_gets (l : Launch) (G : hG) (M : hM) (S : hSy) (h : hHo) (hQv : QV G M S h) (k i : Nat) (pd : Bool) (hk : k < sN S) (hi : i < sM S) : hCT l G yX11_gets cX11_gets 5 (Option.some FieldType.int) (hRm 9 0 0) M [.ref (sA S 0), .int (nI k), .int (nI i), .int (bI pd)] (fun v M' => v = some (.int (rGiven S (pBe S (-1) (qAm S pd)) i k)) ∧ hSim G hScr M M') := by
  refine hCT.of (own := RX11) (nm := "gets") (by decide) rfl rfl (Nat.le_of_ble_eq_true rfl) ?_
  intro p e s m args below meth c ls X Y hl
  have hx := X.1
  have hb := X.2.1
  have hl : lv_has ls 5 [(0, .ref (sA S 0)), (1, .int (nI k)), (2, .int (nI i)), (3, .int (bI pd))] := hl
  obtain ⟨hS, hG1, hHo, hCe, hTr, hnow, hyn⟩ := id hQv
  obtain ⟨hN8, hM40, hLG, hCY⟩ := id hG1
  obtain ⟨hl13, he14, hl15, he16, hLa, hCl⟩ := id hS
  obtain ⟨mc13, hlo13⟩ := id hl13
  obtain ⟨mc15, hlo15⟩ := id hl15
  obtain ⟨ho0, ho1, ho17, ho18, ft19, hft19, ho19⟩ := id hHo
  have hs0 : hSim G hScr M M := hSim.rf
  refine lv_aload_n hx hb dX11_gets_0 rfl (lv_at hl 0 rfl) ?_
  refine lv_iload_n hx hb dX11_gets_1 rfl (lv_at hl 1 rfl) ?_
  refine h_callVr (rest := []) X Y (c_hasLayer l G M S h hQv k (by omega)) rfl rfl gw_X11_144 dsc_X11_hasLayer ho0 rfl rfl rfl rfl hl.1 (Nat.le_of_ble_eq_true rfl) ⟨Nat.le_of_ble_eq_true rfl, Nat.le_of_ble_eq_true rfl⟩ ⟨Nat.le_of_ble_eq_true rfl, Nat.le_of_ble_eq_true rfl⟩ dX11_gets_2 (fun H locs Y => ?_)
  refine lv_if_eq (tgt := 16) hx hb dX11_gets_5 (by decide) (fun c5 => absurd c5 (by decide)) (fun c5 => ?_)
  refine lv_aload_n hx hb dX11_gets_8 rfl (lv_at hl 0 rfl) ?_
  refine lv_iload_n hx hb dX11_gets_9 rfl (lv_at hl 2 rfl) ?_
  refine h_callVr (rest := []) X Y (c_hasClaim l G M S h hQv i (by omega)) rfl rfl gw_X11_190 dsc_X11_hasClaim ho0 rfl rfl rfl rfl hl.1 (Nat.le_of_ble_eq_true rfl) ⟨Nat.le_of_ble_eq_true rfl, Nat.le_of_ble_eq_true rfl⟩ ⟨Nat.le_of_ble_eq_true rfl, Nat.le_of_ble_eq_true rfl⟩ dX11_gets_10 (fun H locs Y => ?_)
  refine lv_if_ne (tgt := 26) hx hb dX11_gets_13 (by decide) (fun c13 => ?_) (fun c13 => absurd c13 (by decide))
  refine lv_iload_n hx hb dX11_gets_26 rfl (lv_at hl 3 rfl) ?_
  cases pd with
  | false =>
    refine lv_if_eq (tgt := 37) hx hb dX11_gets_27 (by decide) (fun _ => ?_) (fun z9 => absurd rfl z9)
    refine lv_aload_n hx hb dX11_gets_37 rfl (lv_at hl 0 rfl) ?_
    refine h_get X Y (k := 7) (v := .ref (sA S (100 * (1 + 1)))) ho0 rfl hin_X11 (by decide) kfl_X11_58 rfl dX11_gets_38 ?_
    refine lv_astore (lv' := [(4, .ref (sA S (100 * (1 + 1)))), (0, .ref (sA S 0)), (1, .int (nI k)), (2, .int (nI i)), (3, .int (bI false))]) hx hb dX11_gets_41 hl (by decide) rfl (fun ls hl => ?_)
    refine lv_aload_n hx hb dX11_gets_43 rfl (lv_at hl 1 rfl) ?_
    refine lv_aload hx hb dX11_gets_44 (lv_at hl 0 rfl) ?_
    refine lv_iload_n hx hb dX11_gets_46 rfl (lv_at hl 4 rfl) ?_
    refine lv_iconst (v := (-1)) hx hb dX11_gets_47 (by decide) ?_
    refine h_callV (rest := []) X Y (c_cedeNow l G M S h hQv 1 (by omega) false (-1)) gw_X11_137 dsc_X11_cedeNow ho0 rfl rfl rfl hl.1 rfl (Nat.le_of_ble_eq_true rfl) ⟨Nat.le_of_ble_eq_true rfl, Nat.le_of_ble_eq_true rfl⟩ ⟨Nat.le_of_ble_eq_true rfl, Nat.le_of_ble_eq_true rfl⟩ dX11_gets_48 ?_
    rintro _ M1 H locs ⟨rfl, hCI1, hq⟩ Y
    try dsimp only [Option.toList, List.nil_append]
    have hs0 := hs0.tr (hq.mono (hS1_scr (by omega)))
    have hQv := hQv.sim (hq.mono (hS1_scr (by omega)))
    obtain ⟨hS, -, hHo, hCe, hTr, -, -⟩ := id hQv
    obtain ⟨hl13, he14, hl15, he16, hLa, hCl⟩ := id hS
    obtain ⟨mc13, hlo13⟩ := id hl13
    obtain ⟨mc15, hlo15⟩ := id hl15
    obtain ⟨ho0, ho1, ho17, ho18, ft19, hft19, ho19⟩ := id hHo
    obtain ⟨am, be, yl, lo, hV, ha, hbq, hyq⟩ := id (hCI1)
    obtain ⟨hoc, -⟩ := id hV
    refine lv_aload hx hb dX11_gets_51 (lv_at hl 0 rfl) ?_
    refine lv_iload_n hx hb dX11_gets_53 rfl (lv_at hl 2 rfl) ?_
    refine lv_iload_n hx hb dX11_gets_54 rfl (lv_at hl 3 rfl) ?_
    refine h_callVr (rest := []) X Y (c_given l G M1 S hS hG1 1 am be yl lo hV k i hk (by omega)) rfl rfl gw_X11_235 dsc_X1_given hoc rfl rfl rfl rfl hl.1 (Nat.le_of_ble_eq_true rfl) ⟨Nat.le_of_ble_eq_true rfl, Nat.le_of_ble_eq_true rfl⟩ ⟨Nat.le_of_ble_eq_true rfl, Nat.le_of_ble_eq_true rfl⟩ dX11_gets_55 (fun H locs Y => ?_)
    refine h_ev (y := rGiven S (pBe S (-1) (qAm S false)) i k) (rGiven_congr S (hbq i hi k hk)) ?_
    exact h_iret X Y ⟨rfl, hs0⟩ (Nat.le_refl _) (Nat.le_refl _) dX11_gets_58
  | true =>
    refine lv_if_eq (tgt := 37) hx hb dX11_gets_27 (by decide) (fun z9 => absurd z9 (by decide)) (fun _ => ?_)
    refine lv_aload_n hx hb dX11_gets_30 rfl (lv_at hl 0 rfl) ?_
    refine h_get X Y (k := 6) (v := .ref (sA S (100 * (0 + 1)))) ho0 rfl hin_X11 (by decide) kfl_X11_54 rfl dX11_gets_31 ?_
    refine lv_goto (tgt := 41) hx hb dX11_gets_34 (by decide) ?_
    refine lv_astore (lv' := [(4, .ref (sA S (100 * (0 + 1)))), (0, .ref (sA S 0)), (1, .int (nI k)), (2, .int (nI i)), (3, .int (bI true))]) hx hb dX11_gets_41 hl (by decide) rfl (fun ls hl => ?_)
    refine lv_aload_n hx hb dX11_gets_43 rfl (lv_at hl 1 rfl) ?_
    refine lv_aload hx hb dX11_gets_44 (lv_at hl 0 rfl) ?_
    refine lv_iload_n hx hb dX11_gets_46 rfl (lv_at hl 4 rfl) ?_
    refine lv_iconst (v := (-1)) hx hb dX11_gets_47 (by decide) ?_
    refine h_callV (rest := []) X Y (c_cedeNow l G M S h hQv 0 (by omega) true (-1)) gw_X11_137 dsc_X11_cedeNow ho0 rfl rfl rfl hl.1 rfl (Nat.le_of_ble_eq_true rfl) ⟨Nat.le_of_ble_eq_true rfl, Nat.le_of_ble_eq_true rfl⟩ ⟨Nat.le_of_ble_eq_true rfl, Nat.le_of_ble_eq_true rfl⟩ dX11_gets_48 ?_
    rintro _ M2 H locs ⟨rfl, hCI0, hq⟩ Y
    try dsimp only [Option.toList, List.nil_append]
    have hs0 := hs0.tr (hq.mono (hS1_scr (by omega)))
    have hQv := hQv.sim (hq.mono (hS1_scr (by omega)))
    obtain ⟨hS, -, hHo, hCe, hTr, -, -⟩ := id hQv
    obtain ⟨hl13, he14, hl15, he16, hLa, hCl⟩ := id hS
    obtain ⟨mc13, hlo13⟩ := id hl13
    obtain ⟨mc15, hlo15⟩ := id hl15
    obtain ⟨ho0, ho1, ho17, ho18, ft19, hft19, ho19⟩ := id hHo
    obtain ⟨am, be, yl, lo, hV, ha, hbq, hyq⟩ := id (hCI0)
    obtain ⟨hoc, -⟩ := id hV
    refine lv_aload hx hb dX11_gets_51 (lv_at hl 0 rfl) ?_
    refine lv_iload_n hx hb dX11_gets_53 rfl (lv_at hl 2 rfl) ?_
    refine lv_iload_n hx hb dX11_gets_54 rfl (lv_at hl 3 rfl) ?_
    refine h_callVr (rest := []) X Y (c_given l G M2 S hS hG1 0 am be yl lo hV k i hk (by omega)) rfl rfl gw_X11_235 dsc_X1_given hoc rfl rfl rfl rfl hl.1 (Nat.le_of_ble_eq_true rfl) ⟨Nat.le_of_ble_eq_true rfl, Nat.le_of_ble_eq_true rfl⟩ ⟨Nat.le_of_ble_eq_true rfl, Nat.le_of_ble_eq_true rfl⟩ dX11_gets_55 (fun H locs Y => ?_)
    refine h_ev (y := rGiven S (pBe S (-1) (qAm S true)) i k) (rGiven_congr S (hbq i hi k hk)) ?_
    exact h_iret X Y ⟨rfl, hs0⟩ (Nat.le_refl _) (Nat.le_refl _) dX11_gets_58
theorem gw_X11_302 : GoodIn hGW (wsV RX11 302 RX1 yX1_allLeft (Cond.code yX1_allLeft cX1_allLeft 3 (Option.some FieldType.int) :: hGW)) := hgi4 kml_X11_302 kin_X1_allLeft kse_X1_X1_allLeft_X1_allLeft kini_X1 kco_X1_allLeft
theorem dsc_X1_allLeft : yX1_allLeft.cls = RX1 ∧ yX1_allLeft.cls ≠ "java/lang/invoke/MethodHandle" ∧ yX1_allLeft.cls ≠ "java/lang/invoke/VarHandle" ∧ (parseMethodDescriptor yX1_allLeft.desc).map (fun d => d.parameters.length) = some 0 := ⟨rfl, by decide +kernel, by decide +kernel, by decide +kernel⟩
theorem dX11_without_0 : decode cX11_without 0 = .ok (.aload_n 0, 1) := by decide +kernel
theorem dX11_without_1 : decode cX11_without 1 = .ok (.iload_n 1, 1) := by decide +kernel
theorem dX11_without_2 : decode cX11_without 2 = .ok (.invokevirtual 144, 3) := by decide +kernel
theorem dX11_without_5 : decode cX11_without 5 = .ok (.ifCond .ne 14, 3) := by decide +kernel
theorem dX11_without_19 : decode cX11_without 19 = .ok (.aload_n 0, 1) := by decide +kernel
theorem dX11_without_20 : decode cX11_without 20 = .ok (.aload_n 0, 1) := by decide +kernel
theorem dX11_without_21 : decode cX11_without 21 = .ok (.getfield 61, 3) := by decide +kernel
theorem dX11_without_24 : decode cX11_without 24 = .ok (.iconst 0, 1) := by decide +kernel
theorem dX11_without_25 : decode cX11_without 25 = .ok (.iload_n 1, 1) := by decide +kernel
theorem dX11_without_26 : decode cX11_without 26 = .ok (.invokevirtual 137, 3) := by decide +kernel
theorem dX11_without_29 : decode cX11_without 29 = .ok (.aload_n 0, 1) := by decide +kernel
theorem dX11_without_30 : decode cX11_without 30 = .ok (.getfield 61, 3) := by decide +kernel
theorem dX11_without_33 : decode cX11_without 33 = .ok (.invokevirtual 302, 3) := by decide +kernel
theorem dX11_without_36 : decode cX11_without 36 = .ok (.ireturn, 1) := by decide +kernel
set_option maxHeartbeats 400000 in
set_option maxRecDepth 100000 in
theorem c_without (l : Launch) (G : hG) (M : hM) (S : hSy) (h : hHo) (hQv : QV G M S h) (k : Nat) (hk : k < sN S) : hCT l G yX11_without cX11_without 2 (Option.some FieldType.int) (hRm 9 0 0) M [.ref (sA S 0), .int (nI k)] (fun v M' => v = some (.int (qLefts S false (nI k))) ∧ hSim G hScr M M') := by
  refine hCT.of (own := RX11) (nm := "without") (by decide) rfl rfl (Nat.le_of_ble_eq_true rfl) ?_
  intro p e s m args below meth c ls X Y hl
  have hx := X.1
  have hb := X.2.1
  have hl : lv_has ls 2 [(0, .ref (sA S 0)), (1, .int (nI k))] := hl
  obtain ⟨hS, hG1, hHo, hCe, hTr, hnow, hyn⟩ := id hQv
  obtain ⟨hN8, hM40, hLG, hCY⟩ := id hG1
  obtain ⟨hl13, he14, hl15, he16, hLa, hCl⟩ := id hS
  obtain ⟨mc13, hlo13⟩ := id hl13
  obtain ⟨mc15, hlo15⟩ := id hl15
  obtain ⟨ho0, ho1, ho17, ho18, ft19, hft19, ho19⟩ := id hHo
  have hs0 : hSim G hScr M M := hSim.rf
  refine lv_aload_n hx hb dX11_without_0 rfl (lv_at hl 0 rfl) ?_
  refine lv_iload_n hx hb dX11_without_1 rfl (lv_at hl 1 rfl) ?_
  refine h_callVr (rest := []) X Y (c_hasLayer l G M S h hQv k (by omega)) rfl rfl gw_X11_144 dsc_X11_hasLayer ho0 rfl rfl rfl rfl hl.1 (Nat.le_of_ble_eq_true rfl) ⟨Nat.le_of_ble_eq_true rfl, Nat.le_of_ble_eq_true rfl⟩ ⟨Nat.le_of_ble_eq_true rfl, Nat.le_of_ble_eq_true rfl⟩ dX11_without_2 (fun H locs Y => ?_)
  refine lv_if_ne (tgt := 19) hx hb dX11_without_5 (by decide) (fun c5 => ?_) (fun c5 => absurd c5 (by decide))
  refine lv_aload_n hx hb dX11_without_19 rfl (lv_at hl 0 rfl) ?_
  refine lv_aload_n hx hb dX11_without_20 rfl (lv_at hl 0 rfl) ?_
  refine h_get X Y (k := 8) (v := .ref (sA S (100 * (2 + 1)))) ho0 rfl hin_X11 (by decide) kfl_X11_61 rfl dX11_without_21 ?_
  refine lv_iconst (v := 0) hx hb dX11_without_24 (by decide) ?_
  refine lv_iload_n hx hb dX11_without_25 rfl (lv_at hl 1 rfl) ?_
  refine h_callV (rest := []) X Y (c_cedeNow l G M S h hQv 2 (by omega) false (nI k)) gw_X11_137 dsc_X11_cedeNow ho0 rfl rfl rfl hl.1 rfl (Nat.le_of_ble_eq_true rfl) ⟨Nat.le_of_ble_eq_true rfl, Nat.le_of_ble_eq_true rfl⟩ ⟨Nat.le_of_ble_eq_true rfl, Nat.le_of_ble_eq_true rfl⟩ dX11_without_26 ?_
  rintro _ M1 H locs ⟨rfl, hCI2, hq⟩ Y
  try dsimp only [Option.toList, List.nil_append]
  have hs0 := hs0.tr (hq.mono (hS1_scr (by omega)))
  have hQv := hQv.sim (hq.mono (hS1_scr (by omega)))
  obtain ⟨hS, -, hHo, hCe, hTr, -, -⟩ := id hQv
  obtain ⟨hl13, he14, hl15, he16, hLa, hCl⟩ := id hS
  obtain ⟨mc13, hlo13⟩ := id hl13
  obtain ⟨mc15, hlo15⟩ := id hl15
  obtain ⟨ho0, ho1, ho17, ho18, ft19, hft19, ho19⟩ := id hHo
  obtain ⟨am, be, yl, lo, hV, ha, hbq, hyq⟩ := id (hCI2)
  obtain ⟨hoc, -⟩ := id hV
  refine lv_aload_n hx hb dX11_without_29 rfl (lv_at hl 0 rfl) ?_
  refine h_get X Y (k := 8) (v := .ref (sA S (100 * (2 + 1)))) ho0 rfl hin_X11 (by decide) kfl_X11_61 rfl dX11_without_30 ?_
  refine h_callVr (rest := []) X Y (c_allLeft l G M1 S hS hG1 2 am be yl lo hV) rfl rfl gw_X11_302 dsc_X1_allLeft hoc rfl rfl rfl rfl hl.1 (Nat.le_of_ble_eq_true rfl) ⟨Nat.le_of_ble_eq_true rfl, Nat.le_of_ble_eq_true rfl⟩ ⟨Nat.le_of_ble_eq_true rfl, Nat.le_of_ble_eq_true rfl⟩ dX11_without_33 (fun H locs Y => ?_)
  refine h_ev (y := qLefts S false (nI k)) (rLefts_congr S ha hbq) ?_
  exact h_iret X Y ⟨rfl, hs0⟩ (Nat.le_refl _) (Nat.le_refl _) dX11_without_36
theorem gw_X11_360 : GoodIn hGW (wsV RX11 360 RX11 yX11_openClaims (Cond.code yX11_openClaims cX11_openClaims 3 (Option.some FieldType.int) :: hGW)) := hgi4 kml_X11_360 kin_X11_openClaims kse_X11_X11_openClaims_X11_openClaims kini_X11 kco_X11_openClaims
theorem dsc_X11_openClaims : yX11_openClaims.cls = RX11 ∧ yX11_openClaims.cls ≠ "java/lang/invoke/MethodHandle" ∧ yX11_openClaims.cls ≠ "java/lang/invoke/VarHandle" ∧ (parseMethodDescriptor yX11_openClaims.desc).map (fun d => d.parameters.length) = some 0 := ⟨rfl, by decide +kernel, by decide +kernel, by decide +kernel⟩
theorem gw_X11_363 : GoodIn hGW (wsV RX11 363 RX11 yX11_allPaid (Cond.code yX11_allPaid cX11_allPaid 3 (Option.some FieldType.int) :: hGW)) := hgi4 kml_X11_363 kin_X11_allPaid kse_X11_X11_allPaid_X11_allPaid kini_X11 kco_X11_allPaid
theorem dsc_X11_allPaid : yX11_allPaid.cls = RX11 ∧ yX11_allPaid.cls ≠ "java/lang/invoke/MethodHandle" ∧ yX11_allPaid.cls ≠ "java/lang/invoke/VarHandle" ∧ (parseMethodDescriptor yX11_allPaid.desc).map (fun d => d.parameters.length) = some 0 := ⟨rfl, by decide +kernel, by decide +kernel, by decide +kernel⟩
theorem gw_X11_366 : GoodIn hGW (wsV RX11 366 RX11 yX11_allReserves (Cond.code yX11_allReserves cX11_allReserves 3 (Option.some FieldType.int) :: hGW)) := hgi4 kml_X11_366 kin_X11_allReserves kse_X11_X11_allReserves_X11_allReserves kini_X11 kco_X11_allReserves
theorem dsc_X11_allReserves : yX11_allReserves.cls = RX11 ∧ yX11_allReserves.cls ≠ "java/lang/invoke/MethodHandle" ∧ yX11_allReserves.cls ≠ "java/lang/invoke/VarHandle" ∧ (parseMethodDescriptor yX11_allReserves.desc).map (fun d => d.parameters.length) = some 0 := ⟨rfl, by decide +kernel, by decide +kernel, by decide +kernel⟩
theorem gw_X11_308 : GoodIn hGW (wsV RX11 308 RX1 yX1_allCharged (Cond.code yX1_allCharged cX1_allCharged 4 (Option.some FieldType.int) :: hGW)) := hgi4 kml_X11_308 kin_X1_allCharged kse_X1_X1_allCharged_X1_allCharged kini_X1 kco_X1_allCharged
theorem dsc_X1_allCharged : yX1_allCharged.cls = RX1 ∧ yX1_allCharged.cls ≠ "java/lang/invoke/MethodHandle" ∧ yX1_allCharged.cls ≠ "java/lang/invoke/VarHandle" ∧ (parseMethodDescriptor yX1_allCharged.desc).map (fun d => d.parameters.length) = some 0 := ⟨rfl, by decide +kernel, by decide +kernel, by decide +kernel⟩
theorem dX11_countOf_0 : decode cX11_countOf 0 = .ok (.iload_n 1, 1) := by decide +kernel
theorem dX11_countOf_1 : decode cX11_countOf 1 = .ok (.tableswitch 99 0 7 #[47, 55, 63, 68, 73, 81, 86, 91], 47) := by decide +kernel
theorem dX11_countOf_48 : decode cX11_countOf 48 = .ok (.aload_n 0, 1) := by decide +kernel
theorem dX11_countOf_49 : decode cX11_countOf 49 = .ok (.getfield 42, 3) := by decide +kernel
theorem dX11_countOf_52 : decode cX11_countOf 52 = .ok (.invokevirtual 176, 3) := by decide +kernel
theorem dX11_countOf_55 : decode cX11_countOf 55 = .ok (.ireturn, 1) := by decide +kernel
theorem dX11_countOf_56 : decode cX11_countOf 56 = .ok (.aload_n 0, 1) := by decide +kernel
theorem dX11_countOf_57 : decode cX11_countOf 57 = .ok (.getfield 46, 3) := by decide +kernel
theorem dX11_countOf_60 : decode cX11_countOf 60 = .ok (.invokevirtual 176, 3) := by decide +kernel
theorem dX11_countOf_63 : decode cX11_countOf 63 = .ok (.ireturn, 1) := by decide +kernel
theorem dX11_countOf_64 : decode cX11_countOf 64 = .ok (.aload_n 0, 1) := by decide +kernel
theorem dX11_countOf_65 : decode cX11_countOf 65 = .ok (.invokevirtual 360, 3) := by decide +kernel
theorem dX11_countOf_68 : decode cX11_countOf 68 = .ok (.ireturn, 1) := by decide +kernel
theorem dX11_countOf_69 : decode cX11_countOf 69 = .ok (.aload_n 0, 1) := by decide +kernel
theorem dX11_countOf_70 : decode cX11_countOf 70 = .ok (.getfield 78, 3) := by decide +kernel
theorem dX11_countOf_73 : decode cX11_countOf 73 = .ok (.ireturn, 1) := by decide +kernel
theorem dX11_countOf_74 : decode cX11_countOf 74 = .ok (.aload_n 0, 1) := by decide +kernel
theorem dX11_countOf_75 : decode cX11_countOf 75 = .ok (.getfield 10, 3) := by decide +kernel
theorem dX11_countOf_78 : decode cX11_countOf 78 = .ok (.getfield 88, 3) := by decide +kernel
theorem dX11_countOf_81 : decode cX11_countOf 81 = .ok (.ireturn, 1) := by decide +kernel
theorem dX11_countOf_82 : decode cX11_countOf 82 = .ok (.aload_n 0, 1) := by decide +kernel
theorem dX11_countOf_83 : decode cX11_countOf 83 = .ok (.invokevirtual 363, 3) := by decide +kernel
theorem dX11_countOf_86 : decode cX11_countOf 86 = .ok (.ireturn, 1) := by decide +kernel
theorem dX11_countOf_87 : decode cX11_countOf 87 = .ok (.aload_n 0, 1) := by decide +kernel
theorem dX11_countOf_88 : decode cX11_countOf 88 = .ok (.invokevirtual 366, 3) := by decide +kernel
theorem dX11_countOf_91 : decode cX11_countOf 91 = .ok (.ireturn, 1) := by decide +kernel
theorem dX11_countOf_92 : decode cX11_countOf 92 = .ok (.aload_n 0, 1) := by decide +kernel
theorem dX11_countOf_93 : decode cX11_countOf 93 = .ok (.getfield 58, 3) := by decide +kernel
theorem dX11_countOf_96 : decode cX11_countOf 96 = .ok (.invokevirtual 302, 3) := by decide +kernel
theorem dX11_countOf_99 : decode cX11_countOf 99 = .ok (.ireturn, 1) := by decide +kernel
theorem dX11_countOf_100 : decode cX11_countOf 100 = .ok (.aload_n 0, 1) := by decide +kernel
theorem dX11_countOf_101 : decode cX11_countOf 101 = .ok (.getfield 58, 3) := by decide +kernel
theorem dX11_countOf_104 : decode cX11_countOf 104 = .ok (.invokevirtual 308, 3) := by decide +kernel
theorem dX11_countOf_107 : decode cX11_countOf 107 = .ok (.ireturn, 1) := by decide +kernel
set_option maxHeartbeats 400000 in
set_option maxRecDepth 100000 in
theorem c_countOf (l : Launch) (G : hG) (M : hM) (S : hSy) (h : hHo) (hQv : QV G M S h) (what : Nat) (hw : what < 9) (h7 : 7 ≤ what → CesIs G M S 1 (-1) (qAm S false)) : hCT l G yX11_countOf cX11_countOf 2 (Option.some FieldType.int) (hRm 8 0 0) M [.ref (sA S 0), .int (nI what)] (hRd M (.int (qCount S h what))) := by
  refine hCT.of (own := RX11) (nm := "countOf") (by decide) rfl rfl (Nat.le_of_ble_eq_true rfl) ?_
  intro p e s m args below meth c ls X Y hl
  have hx := X.1
  have hb := X.2.1
  have hl : lv_has ls 2 [(0, .ref (sA S 0)), (1, .int (nI what))] := hl
  obtain ⟨hS, hG1, hHo, hCe, hTr, hnow, hyn⟩ := id hQv
  obtain ⟨hN8, hM40, hLG, hCY⟩ := id hG1
  obtain ⟨hl13, he14, hl15, he16, hLa, hCl⟩ := id hS
  obtain ⟨mc13, hlo13⟩ := id hl13
  obtain ⟨mc15, hlo15⟩ := id hl15
  obtain ⟨ho0, ho1, ho17, ho18, ft19, hft19, ho19⟩ := id hHo
  rcases (show what = 0 ∨ what = 1 ∨ what = 2 ∨ what = 3 ∨ what = 4 ∨ what = 5 ∨ what = 6 ∨ what = 7 ∨ what = 8 from (by omega)) with rfl | rfl | rfl | rfl | rfl | rfl | rfl | rfl | rfl
  · refine lv_iload_n hx hb dX11_countOf_0 rfl (lv_at hl 1 rfl) ?_
    refine lv_tableIn (off := 47) (tgt := 48) hx hb dX11_countOf_1 (by decide) (by decide) (by decide) (by decide) ?_
    refine lv_aload_n hx hb dX11_countOf_48 rfl (lv_at hl 0 rfl) ?_
    refine h_get X Y (k := 4) (v := .ref (sA S 13)) ho0 rfl hin_X11 (by decide) kfl_X11_42 rfl dX11_countOf_49 ?_
    refine h_callVr (rest := []) X Y (c_size l G M (sA S 13) 13 (sA S 14) (sN S) hl13) rfl rfl gw_X11_176 dsc_Jx4a65c_size_8abf5 hlo13 rfl rfl rfl rfl hl.1 (Nat.le_of_ble_eq_true rfl) ⟨Nat.le_of_ble_eq_true rfl, Nat.le_of_ble_eq_true rfl⟩ ⟨Nat.le_of_ble_eq_true rfl, Nat.le_of_ble_eq_true rfl⟩ dX11_countOf_52 (fun H locs Y => ?_)
    exact h_iret X Y ⟨rfl, rfl⟩ (Nat.le_refl _) (Nat.le_refl _) dX11_countOf_55
  · refine lv_iload_n hx hb dX11_countOf_0 rfl (lv_at hl 1 rfl) ?_
    refine lv_tableIn (off := 55) (tgt := 56) hx hb dX11_countOf_1 (by decide) (by decide) (by decide) (by decide) ?_
    refine lv_aload_n hx hb dX11_countOf_56 rfl (lv_at hl 0 rfl) ?_
    refine h_get X Y (k := 5) (v := .ref (sA S 15)) ho0 rfl hin_X11 (by decide) kfl_X11_46 rfl dX11_countOf_57 ?_
    refine h_callVr (rest := []) X Y (c_size l G M (sA S 15) 15 (sA S 16) (sM S) hl15) rfl rfl gw_X11_176 dsc_Jx4a65c_size_8abf5 hlo15 rfl rfl rfl rfl hl.1 (Nat.le_of_ble_eq_true rfl) ⟨Nat.le_of_ble_eq_true rfl, Nat.le_of_ble_eq_true rfl⟩ ⟨Nat.le_of_ble_eq_true rfl, Nat.le_of_ble_eq_true rfl⟩ dX11_countOf_60 (fun H locs Y => ?_)
    exact h_iret X Y ⟨rfl, rfl⟩ (Nat.le_refl _) (Nat.le_refl _) dX11_countOf_63
  · refine lv_iload_n hx hb dX11_countOf_0 rfl (lv_at hl 1 rfl) ?_
    refine lv_tableIn (off := 63) (tgt := 64) hx hb dX11_countOf_1 (by decide) (by decide) (by decide) (by decide) ?_
    refine lv_aload_n hx hb dX11_countOf_64 rfl (lv_at hl 0 rfl) ?_
    refine h_callVr (rest := []) X Y (c_openClaims l G M S h hQv) rfl rfl gw_X11_360 dsc_X11_openClaims ho0 rfl rfl rfl rfl hl.1 (Nat.le_of_ble_eq_true rfl) ⟨Nat.le_of_ble_eq_true rfl, Nat.le_of_ble_eq_true rfl⟩ ⟨Nat.le_of_ble_eq_true rfl, Nat.le_of_ble_eq_true rfl⟩ dX11_countOf_65 (fun H locs Y => ?_)
    exact h_iret X Y ⟨rfl, rfl⟩ (Nat.le_refl _) (Nat.le_refl _) dX11_countOf_68
  · refine lv_iload_n hx hb dX11_countOf_0 rfl (lv_at hl 1 rfl) ?_
    refine lv_tableIn (off := 68) (tgt := 69) hx hb dX11_countOf_1 (by decide) (by decide) (by decide) (by decide) ?_
    refine lv_aload_n hx hb dX11_countOf_69 rfl (lv_at hl 0 rfl) ?_
    refine h_get X Y (k := 12) (v := .int (nI (hNow h))) ho0 rfl hin_X11 (by decide) kfl_X11_78 rfl dX11_countOf_70 ?_
    exact h_iret X Y ⟨rfl, rfl⟩ (Nat.le_refl _) (Nat.le_refl _) dX11_countOf_73
  · refine lv_iload_n hx hb dX11_countOf_0 rfl (lv_at hl 1 rfl) ?_
    refine lv_tableIn (off := 73) (tgt := 74) hx hb dX11_countOf_1 (by decide) (by decide) (by decide) (by decide) ?_
    refine lv_aload_n hx hb dX11_countOf_74 rfl (lv_at hl 0 rfl) ?_
    refine h_get X Y (k := 0) (v := .ref (sA S 1)) ho0 rfl hin_X11 (by decide) kfl_X11_10 rfl dX11_countOf_75 ?_
    refine h_get X Y (k := 1) (v := .int (hTl h)) ho1 rfl hin_X8 (by decide) kfl_X11_88 rfl dX11_countOf_78 ?_
    exact h_iret X Y ⟨rfl, rfl⟩ (Nat.le_refl _) (Nat.le_refl _) dX11_countOf_81
  · refine lv_iload_n hx hb dX11_countOf_0 rfl (lv_at hl 1 rfl) ?_
    refine lv_tableIn (off := 81) (tgt := 82) hx hb dX11_countOf_1 (by decide) (by decide) (by decide) (by decide) ?_
    refine lv_aload_n hx hb dX11_countOf_82 rfl (lv_at hl 0 rfl) ?_
    refine h_callVr (rest := []) X Y (c_allPaid l G M S h hQv) rfl rfl gw_X11_363 dsc_X11_allPaid ho0 rfl rfl rfl rfl hl.1 (Nat.le_of_ble_eq_true rfl) ⟨Nat.le_of_ble_eq_true rfl, Nat.le_of_ble_eq_true rfl⟩ ⟨Nat.le_of_ble_eq_true rfl, Nat.le_of_ble_eq_true rfl⟩ dX11_countOf_83 (fun H locs Y => ?_)
    exact h_iret X Y ⟨rfl, rfl⟩ (Nat.le_refl _) (Nat.le_refl _) dX11_countOf_86
  · refine lv_iload_n hx hb dX11_countOf_0 rfl (lv_at hl 1 rfl) ?_
    refine lv_tableIn (off := 86) (tgt := 87) hx hb dX11_countOf_1 (by decide) (by decide) (by decide) (by decide) ?_
    refine lv_aload_n hx hb dX11_countOf_87 rfl (lv_at hl 0 rfl) ?_
    refine h_callVr (rest := []) X Y (c_allReserves l G M S h hQv) rfl rfl gw_X11_366 dsc_X11_allReserves ho0 rfl rfl rfl rfl hl.1 (Nat.le_of_ble_eq_true rfl) ⟨Nat.le_of_ble_eq_true rfl, Nat.le_of_ble_eq_true rfl⟩ ⟨Nat.le_of_ble_eq_true rfl, Nat.le_of_ble_eq_true rfl⟩ dX11_countOf_88 (fun H locs Y => ?_)
    exact h_iret X Y ⟨rfl, rfl⟩ (Nat.le_refl _) (Nat.le_refl _) dX11_countOf_91
  · refine lv_iload_n hx hb dX11_countOf_0 rfl (lv_at hl 1 rfl) ?_
    refine lv_tableIn (off := 91) (tgt := 92) hx hb dX11_countOf_1 (by decide) (by decide) (by decide) (by decide) ?_
    obtain ⟨am, be, yl, lo, hV, ha, hbq, hyq⟩ := id (h7 (by decide))
    obtain ⟨hoc, -⟩ := id hV
    refine lv_aload_n hx hb dX11_countOf_92 rfl (lv_at hl 0 rfl) ?_
    refine h_get X Y (k := 7) (v := .ref (sA S (100 * (1 + 1)))) ho0 rfl hin_X11 (by decide) kfl_X11_58 rfl dX11_countOf_93 ?_
    refine h_callVr (rest := []) X Y (c_allLeft l G M S hS hG1 1 am be yl lo hV) rfl rfl gw_X11_302 dsc_X1_allLeft hoc rfl rfl rfl rfl hl.1 (Nat.le_of_ble_eq_true rfl) ⟨Nat.le_of_ble_eq_true rfl, Nat.le_of_ble_eq_true rfl⟩ ⟨Nat.le_of_ble_eq_true rfl, Nat.le_of_ble_eq_true rfl⟩ dX11_countOf_96 (fun H locs Y => ?_)
    refine h_ev (y := qLefts S false (-1)) (rLefts_congr S ha hbq) ?_
    exact h_iret X Y ⟨rfl, rfl⟩ (Nat.le_refl _) (Nat.le_refl _) dX11_countOf_99
  · refine lv_iload_n hx hb dX11_countOf_0 rfl (lv_at hl 1 rfl) ?_
    refine lv_tableOut (tgt := 100) hx hb dX11_countOf_1 (by decide) (by decide) ?_
    obtain ⟨am, be, yl, lo, hV, ha, hbq, hyq⟩ := id (h7 (by decide))
    obtain ⟨hoc, -⟩ := id hV
    refine lv_aload_n hx hb dX11_countOf_100 rfl (lv_at hl 0 rfl) ?_
    refine h_get X Y (k := 7) (v := .ref (sA S (100 * (1 + 1)))) ho0 rfl hin_X11 (by decide) kfl_X11_58 rfl dX11_countOf_101 ?_
    refine h_callVr (rest := []) X Y (c_allCharged l G M S hS hG1 1 am be yl lo hV) rfl rfl gw_X11_308 dsc_X1_allCharged hoc rfl rfl rfl rfl hl.1 (Nat.le_of_ble_eq_true rfl) ⟨Nat.le_of_ble_eq_true rfl, Nat.le_of_ble_eq_true rfl⟩ ⟨Nat.le_of_ble_eq_true rfl, Nat.le_of_ble_eq_true rfl⟩ dX11_countOf_104 (fun H locs Y => ?_)
    refine h_ev (y := rCharges S (qYl S false)) (rCharges_congr S hyq) ?_
    exact h_iret X Y ⟨rfl, rfl⟩ (Nat.le_refl _) (Nat.le_refl _) dX11_countOf_107
theorem gw_X11_141 : GoodIn hGW (wsV RX11 141 RX11 yX11_countOf (Cond.code yX11_countOf cX11_countOf 2 (Option.some FieldType.int) :: hGW)) := hgi4 kml_X11_141 kin_X11_countOf kse_X11_X11_countOf_X11_countOf kini_X11 kco_X11_countOf
theorem dsc_X11_countOf : yX11_countOf.cls = RX11 ∧ yX11_countOf.cls ≠ "java/lang/invoke/MethodHandle" ∧ yX11_countOf.cls ≠ "java/lang/invoke/VarHandle" ∧ (parseMethodDescriptor yX11_countOf.desc).map (fun d => d.parameters.length) = some 1 := ⟨rfl, by decide +kernel, by decide +kernel, by decide +kernel⟩
theorem dX11_count_0 : decode cX11_count 0 = .ok (.iload_n 1, 1) := by decide +kernel
theorem dX11_count_1 : decode cX11_count 1 = .ok (.ifCond .lt 9, 3) := by decide +kernel
theorem dX11_count_4 : decode cX11_count 4 = .ok (.iload_n 1, 1) := by decide +kernel
theorem dX11_count_5 : decode cX11_count 5 = .ok (.bipush 8, 2) := by decide +kernel
theorem dX11_count_7 : decode cX11_count 7 = .ok (.if_icmp .le 13, 3) := by decide +kernel
theorem dX11_count_20 : decode cX11_count 20 = .ok (.iload_n 1, 1) := by decide +kernel
theorem dX11_count_21 : decode cX11_count 21 = .ok (.bipush 7, 2) := by decide +kernel
theorem dX11_count_23 : decode cX11_count 23 = .ok (.if_icmp .lt 13, 3) := by decide +kernel
theorem dX11_count_26 : decode cX11_count 26 = .ok (.aload_n 0, 1) := by decide +kernel
theorem dX11_count_27 : decode cX11_count 27 = .ok (.aload_n 0, 1) := by decide +kernel
theorem dX11_count_28 : decode cX11_count 28 = .ok (.getfield 58, 3) := by decide +kernel
theorem dX11_count_31 : decode cX11_count 31 = .ok (.iconst 0, 1) := by decide +kernel
theorem dX11_count_32 : decode cX11_count 32 = .ok (.iconst (-1), 1) := by decide +kernel
theorem dX11_count_33 : decode cX11_count 33 = .ok (.invokevirtual 137, 3) := by decide +kernel
theorem dX11_count_36 : decode cX11_count 36 = .ok (.aload_n 0, 1) := by decide +kernel
theorem dX11_count_37 : decode cX11_count 37 = .ok (.iload_n 1, 1) := by decide +kernel
theorem dX11_count_38 : decode cX11_count 38 = .ok (.invokevirtual 141, 3) := by decide +kernel
theorem dX11_count_41 : decode cX11_count 41 = .ok (.ireturn, 1) := by decide +kernel
set_option maxHeartbeats 400000 in
set_option maxRecDepth 100000 in
theorem c_count (l : Launch) (G : hG) (M : hM) (S : hSy) (h : hHo) (hQv : QV G M S h) (what : Nat) (hw : what < 9) (hw7 : 7 ≤ what) : hCT l G yX11_count cX11_count 2 (Option.some FieldType.int) (hRm 9 0 0) M [.ref (sA S 0), .int (nI what)] (fun v M' => v = some (.int (qCount S h what)) ∧ hSim G hScr M M') := by
  refine hCT.of (own := RX11) (nm := "count") (by decide) rfl rfl (Nat.le_of_ble_eq_true rfl) ?_
  intro p e s m args below meth c ls X Y hl
  have hx := X.1
  have hb := X.2.1
  have hl : lv_has ls 2 [(0, .ref (sA S 0)), (1, .int (nI what))] := hl
  obtain ⟨hS, hG1, hHo, hCe, hTr, hnow, hyn⟩ := id hQv
  obtain ⟨hN8, hM40, hLG, hCY⟩ := id hG1
  obtain ⟨hl13, he14, hl15, he16, hLa, hCl⟩ := id hS
  obtain ⟨mc13, hlo13⟩ := id hl13
  obtain ⟨mc15, hlo15⟩ := id hl15
  obtain ⟨ho0, ho1, ho17, ho18, ft19, hft19, ho19⟩ := id hHo
  have hs0 : hSim G hScr M M := hSim.rf
  refine lv_iload_n hx hb dX11_count_0 rfl (lv_at hl 1 rfl) ?_
  refine lv_if_lt (tgt := 10) hx hb dX11_count_1 (by decide) (fun c1 => absurd (show what < 0 from (nI_ltI (a := what) (b := 0) (by omega) (by omega)).mp c1) (by omega)) (fun c1 => ?_)
  have c1 : ¬ what < 0 := fun z9 => c1 ((nI_ltI (a := what) (b := 0) (by omega) (by omega)).mpr z9)
  refine lv_iload_n hx hb dX11_count_4 rfl (lv_at hl 1 rfl) ?_
  refine lv_bipush (v := 8) hx hb dX11_count_5 (by decide) ?_
  refine lv_icmp_le (tgt := 20) hx hb dX11_count_7 (by decide) (fun c7 => ?_) (fun c7 => absurd (show ¬ what ≤ 8 from fun z9 => c7 ((nI_leI (a := what) (b := 8) (by omega) (by omega)).mpr z9)) (by omega))
  have c7 : what ≤ 8 := (nI_leI (a := what) (b := 8) (by omega) (by omega)).mp c7
  refine lv_iload_n hx hb dX11_count_20 rfl (lv_at hl 1 rfl) ?_
  refine lv_bipush (v := 7) hx hb dX11_count_21 (by decide) ?_
  refine lv_icmp_lt (tgt := 36) hx hb dX11_count_23 (by decide) (fun c23 => absurd (show what < 7 from (nI_ltI (a := what) (b := 7) (by omega) (by omega)).mp c23) (by omega)) (fun c23 => ?_)
  have c23 : ¬ what < 7 := fun z9 => c23 ((nI_ltI (a := what) (b := 7) (by omega) (by omega)).mpr z9)
  refine lv_aload_n hx hb dX11_count_26 rfl (lv_at hl 0 rfl) ?_
  refine lv_aload_n hx hb dX11_count_27 rfl (lv_at hl 0 rfl) ?_
  refine h_get X Y (k := 7) (v := .ref (sA S (100 * (1 + 1)))) ho0 rfl hin_X11 (by decide) kfl_X11_58 rfl dX11_count_28 ?_
  refine lv_iconst (v := 0) hx hb dX11_count_31 (by decide) ?_
  refine lv_iconst (v := (-1)) hx hb dX11_count_32 (by decide) ?_
  refine h_callV (rest := []) X Y (c_cedeNow l G M S h hQv 1 (by omega) false (-1)) gw_X11_137 dsc_X11_cedeNow ho0 rfl rfl rfl hl.1 rfl (Nat.le_of_ble_eq_true rfl) ⟨Nat.le_of_ble_eq_true rfl, Nat.le_of_ble_eq_true rfl⟩ ⟨Nat.le_of_ble_eq_true rfl, Nat.le_of_ble_eq_true rfl⟩ dX11_count_33 ?_
  rintro _ M1 H locs ⟨rfl, hCI1, hq⟩ Y
  try dsimp only [Option.toList, List.nil_append]
  have hs0 := hs0.tr (hq.mono (hS1_scr (by omega)))
  have hQv := hQv.sim (hq.mono (hS1_scr (by omega)))
  obtain ⟨hS, -, hHo, hCe, hTr, -, -⟩ := id hQv
  obtain ⟨hl13, he14, hl15, he16, hLa, hCl⟩ := id hS
  obtain ⟨mc13, hlo13⟩ := id hl13
  obtain ⟨mc15, hlo15⟩ := id hl15
  obtain ⟨ho0, ho1, ho17, ho18, ft19, hft19, ho19⟩ := id hHo
  refine lv_aload_n hx hb dX11_count_36 rfl (lv_at hl 0 rfl) ?_
  refine lv_iload_n hx hb dX11_count_37 rfl (lv_at hl 1 rfl) ?_
  refine h_callVr (rest := []) X Y (c_countOf l G M1 S h hQv what hw (fun _ => hCI1)) rfl rfl gw_X11_141 dsc_X11_countOf ho0 rfl rfl rfl rfl hl.1 (Nat.le_of_ble_eq_true rfl) ⟨Nat.le_of_ble_eq_true rfl, Nat.le_of_ble_eq_true rfl⟩ ⟨Nat.le_of_ble_eq_true rfl, Nat.le_of_ble_eq_true rfl⟩ dX11_count_38 (fun H locs Y => ?_)
  exact h_iret X Y ⟨rfl, hs0⟩ (Nat.le_refl _) (Nat.le_refl _) dX11_count_41
