theorem qAm_known (S : hSy) (now : Nat) (pd : Bool) (i : Nat) : clKnown (sC S i) (now - clY (sC S i)) now pd = qAm S pd i := if_pos (Nat.le_refl _)
def kpd (k : Nat) : Bool := k % 2 == 0
/-- what a claim adds to a triangle of the kind k, at the age a -/
def qVal (S : hSy) (now k a i : Nat) : Int32 := if 2 ≤ k then rLeft S (qAt S now a (kpd k)) (pBe S (-1) (qAt S now a (kpd k))) i else qAt S now a (kpd k) i
def qCell (S : hSy) (now k y a : Nat) : Nat → Int32
  | 0 => 0
  | i + 1 => if clY (sC S i) = y ∧ a ≤ now - y then qCell S now k y a i + qVal S now k a i else qCell S now k y a i
theorem qCell_0 (S : hSy) (now k y a : Nat) (h : ¬ a ≤ now - y) : ∀ n, qCell S now k y a n = 0
  | 0 => rfl
  | n + 1 => by
    unfold qCell
    rw [if_neg (fun q => h q.2)]
    exact qCell_0 S now k y a h n
def hS3 (k u : Nat) : Prop := hS1 2 u ∨ hS2 k u
theorem hS3_scr {k : Nat} (hk : k < 4) : ∀ u, hS3 k u → hScr u := fun u h => h.elim (hS1_scr (by omega) u) (hS2_scr hk u)
theorem hS1_2_tri {k : Nat} (hk : k < 4) : ∀ u, hS2 k u → ¬ hS1 2 u := fun u h => by unfold hS2 at h; unfold hS1 hS0; omega
theorem hS2_ces' {k cx : Nat} (hc : cx < 3) : ∀ u, hS2 k u → ¬ (100 * (cx + 1) ≤ u ∧ u < 100 * (cx + 1) + 100) := hS2_ces hc
/-- a triangle holds what its kind tells -/
def TrIs (G : hG) (M : hM) (S : hSy) (now k : Nat) : Prop := ∃ ce, TrV G M S k ce (nI now) ∧ ∀ y, y < 10 → ∀ b, b < 10 → ce y b = qCell S now k y b (sM S)
theorem TrIs.sim {G : hG} {Z : Nat → Prop} {M M' : hM} {S : hSy} {now k : Nat} (h : hSim G Z M M') (hs : ∀ u, hS2 k u → ¬ Z u) (hV : TrIs G M S now k) : TrIs G M' S now k := by
  obtain ⟨ce, h1, h2⟩ := hV
  exact ⟨ce, h1.sim h hs, h2⟩
theorem gw_X11_229 : GoodIn hGW (wsV RX11 229 RX3 yX3_known (Cond.code yX3_known cX3_known 4 (Option.some FieldType.int) :: hGW)) := hgi4 kml_X11_229 kin_X3_known kse_X3_X3_known_X3_known kini_X3 kco_X3_known
theorem dsc_X3_known : yX3_known.cls = RX3 ∧ yX3_known.cls ≠ "java/lang/invoke/MethodHandle" ∧ yX3_known.cls ≠ "java/lang/invoke/VarHandle" ∧ (parseMethodDescriptor yX3_known.desc).map (fun d => d.parameters.length) = some 3 := ⟨rfl, by decide +kernel, by decide +kernel, by decide +kernel⟩
theorem dX11_tellAmounts_0 : decode cX11_tellAmounts 0 = .ok (.iconst 0, 1) := by decide +kernel
theorem dX11_tellAmounts_1 : decode cX11_tellAmounts 1 = .ok (.istore_n 3, 1) := by decide +kernel
theorem dX11_tellAmounts_2 : decode cX11_tellAmounts 2 = .ok (.iload_n 3, 1) := by decide +kernel
theorem dX11_tellAmounts_3 : decode cX11_tellAmounts 3 = .ok (.aload_n 0, 1) := by decide +kernel
theorem dX11_tellAmounts_4 : decode cX11_tellAmounts 4 = .ok (.getfield 46, 3) := by decide +kernel
theorem dX11_tellAmounts_7 : decode cX11_tellAmounts 7 = .ok (.invokevirtual 176, 3) := by decide +kernel
theorem dX11_tellAmounts_10 : decode cX11_tellAmounts 10 = .ok (.if_icmp .ge 48, 3) := by decide +kernel
theorem dX11_tellAmounts_13 : decode cX11_tellAmounts 13 = .ok (.aload_n 0, 1) := by decide +kernel
theorem dX11_tellAmounts_14 : decode cX11_tellAmounts 14 = .ok (.getfield 46, 3) := by decide +kernel
theorem dX11_tellAmounts_17 : decode cX11_tellAmounts 17 = .ok (.iload_n 3, 1) := by decide +kernel
theorem dX11_tellAmounts_18 : decode cX11_tellAmounts 18 = .ok (.invokevirtual 150, 3) := by decide +kernel
theorem dX11_tellAmounts_21 : decode cX11_tellAmounts 21 = .ok (.checkcast 181, 3) := by decide +kernel
theorem dX11_tellAmounts_24 : decode cX11_tellAmounts 24 = .ok (.astore 4, 2) := by decide +kernel
theorem dX11_tellAmounts_26 : decode cX11_tellAmounts 26 = .ok (.aload_n 1, 1) := by decide +kernel
theorem dX11_tellAmounts_27 : decode cX11_tellAmounts 27 = .ok (.getfield 295, 3) := by decide +kernel
theorem dX11_tellAmounts_30 : decode cX11_tellAmounts 30 = .ok (.iload_n 3, 1) := by decide +kernel
theorem dX11_tellAmounts_31 : decode cX11_tellAmounts 31 = .ok (.aload 4, 2) := by decide +kernel
theorem dX11_tellAmounts_33 : decode cX11_tellAmounts 33 = .ok (.aload_n 0, 1) := by decide +kernel
theorem dX11_tellAmounts_34 : decode cX11_tellAmounts 34 = .ok (.getfield 78, 3) := by decide +kernel
theorem dX11_tellAmounts_37 : decode cX11_tellAmounts 37 = .ok (.aload 4, 2) := by decide +kernel
theorem dX11_tellAmounts_39 : decode cX11_tellAmounts 39 = .ok (.getfield 224, 3) := by decide +kernel
theorem dX11_tellAmounts_42 : decode cX11_tellAmounts 42 = .ok (.isub, 1) := by decide +kernel
theorem dX11_tellAmounts_43 : decode cX11_tellAmounts 43 = .ok (.aload_n 0, 1) := by decide +kernel
theorem dX11_tellAmounts_44 : decode cX11_tellAmounts 44 = .ok (.getfield 78, 3) := by decide +kernel
theorem dX11_tellAmounts_47 : decode cX11_tellAmounts 47 = .ok (.iload_n 2, 1) := by decide +kernel
theorem dX11_tellAmounts_48 : decode cX11_tellAmounts 48 = .ok (.invokevirtual 229, 3) := by decide +kernel
theorem dX11_tellAmounts_51 : decode cX11_tellAmounts 51 = .ok (.iastore, 1) := by decide +kernel
theorem dX11_tellAmounts_52 : decode cX11_tellAmounts 52 = .ok (.iinc 3 1, 3) := by decide +kernel
theorem dX11_tellAmounts_55 : decode cX11_tellAmounts 55 = .ok (.goto (-53), 3) := by decide +kernel
theorem dX11_tellAmounts_58 : decode cX11_tellAmounts 58 = .ok (.return_, 1) := by decide +kernel
set_option maxHeartbeats 400000 in
set_option maxRecDepth 100000 in
theorem c_tellAmounts (l : Launch) (G : hG) (M : hM) (S : hSy) (h : hHo) (hQv : QV G M S h) (cx : Nat) (hcx : cx < 3) (am : Nat → Int32) (be yl : Nat → Nat → Int32) (lo : Nat → Int32) (hV : CesV G M S cx am be yl lo) (pd : Bool) : hCT l G yX11_tellAmounts cX11_tellAmounts 5 (Option.none) (hRm 5 0 0) M [.ref (sA S 0), .ref (sA S (100 * (cx + 1))), .int (bI pd)] (fun v M' => v = none ∧ ∃ am', CesV G M' S cx am' be yl lo ∧ (∀ i, i < sM S → am' i = qAm S pd i) ∧ hSim G (hS1 cx) M M') := by
  refine hCT.of (own := RX11) (nm := "tellAmounts") (by decide) rfl rfl (Nat.le_of_ble_eq_true rfl) ?_
  intro p e s m args below meth c ls X Y hl
  have hx := X.1
  have hb := X.2.1
  have hl : lv_has ls 5 [(0, .ref (sA S 0)), (1, .ref (sA S (100 * (cx + 1)))), (2, .int (bI pd))] := hl
  obtain ⟨hS, hG1, hHo, hCe, hTr, hnow, hyn⟩ := id hQv
  obtain ⟨hN8, hM40, hLG, hCY⟩ := id hG1
  obtain ⟨hl13, he14, hl15, he16, hLa, hCl⟩ := id hS
  obtain ⟨mc13, hlo13⟩ := id hl13
  obtain ⟨mc15, hlo15⟩ := id hl15
  obtain ⟨ho0, ho1, ho17, ho18, ft19, hft19, ho19⟩ := id hHo
  refine lv_iconst (v := 0) hx hb dX11_tellAmounts_0 (by decide) ?_
  refine lv_istore_n (lv' := [(3, .int 0), (0, .ref (sA S 0)), (1, .ref (sA S (100 * (cx + 1)))), (2, .int (bI pd))]) hx hb dX11_tellAmounts_1 rfl hl (by decide) rfl (fun ls hl => ?_)
  have loop : ∀ (d i : Nat), i + d = sM S + 1 → i ≤ sM S → ∀ (M1 : hM) (am1 : Nat → Int32), QV G M1 S h → CesV G M1 S cx am1 be yl lo → hSim G (hS1 cx) M M1 → (∀ j, j < i → am1 j = qAm S pd j) → ∀ (H : Heap) (locs : List Loc) (ls : Array Slot), hHS G M1 s H locs → lv_has ls 5 [(0, .ref (sA S 0)), (1, .ref (sA S (100 * (cx + 1)))), (2, .int (bI pd)), (3, .int (nI i))] → W p l e (hRm 5 0 0) s m args below meth c H locs 0 0 (MQ below (hQ G (fun v M' => v = none ∧ ∃ am', CesV G M' S cx am' be yl lo ∧ (∀ i, i < sM S → am' i = qAm S pd i) ∧ hSim G (hS1 cx) M M')) args s 0 0 (hA G)) (F0 m 2 ls []) := by
    intro d
    induction d with
    | zero => intro i h1; intros; exact absurd h1 (by omega)
    | succ d ih =>
      intro i h1 h2 M1 am1 hQv hV hs0 hz H locs ls Y hl
      obtain ⟨hS, -, hHo, hCe, hTr, -, -⟩ := id hQv
      obtain ⟨hl13, he14, hl15, he16, hLa, hCl⟩ := id hS
      obtain ⟨mc13, hlo13⟩ := id hl13
      obtain ⟨mc15, hlo15⟩ := id hl15
      obtain ⟨ho0, ho1, ho17, ho18, ft19, hft19, ho19⟩ := id hHo
      obtain ⟨ho, ham, ⟨fb, hfb, hbo⟩, hbr, ⟨fy, hfy, hyo⟩, hyr, hlo⟩ := id hV
      refine lv_iload_n hx hb dX11_tellAmounts_2 rfl (lv_at hl 3 rfl) ?_
      refine lv_aload_n hx hb dX11_tellAmounts_3 rfl (lv_at hl 0 rfl) ?_
      refine h_get X Y (k := 5) (v := .ref (sA S 15)) ho0 rfl hin_X11 (by decide) kfl_X11_46 rfl dX11_tellAmounts_4 ?_
      refine h_callVr (rest := [.int (nI i)]) X Y (c_size l G M1 (sA S 15) 15 (sA S 16) (sM S) hl15) rfl rfl gw_X11_176 dsc_Jx4a65c_size_8abf5 hlo15 rfl rfl rfl rfl hl.1 (Nat.le_of_ble_eq_true rfl) ⟨Nat.le_of_ble_eq_true rfl, Nat.le_of_ble_eq_true rfl⟩ ⟨Nat.le_of_ble_eq_true rfl, Nat.le_of_ble_eq_true rfl⟩ dX11_tellAmounts_7 (fun H locs Y => ?_)
      refine lv_icmp_ge (tgt := 58) hx hb dX11_tellAmounts_10 (by decide) (fun c10 => ?_) (fun c10 => ?_)
      · have c10 : (sM S) ≤ i := (nI_leI (a := (sM S)) (b := i) (by omega) (by omega)).mp c10
        have hk9 : i = (sM S) := by omega
        subst hk9
        exact h_vret X Y ⟨rfl, am1, hV, hz, hs0⟩ (Nat.le_refl _) (Nat.le_refl _) dX11_tellAmounts_58
      · have c10 : ¬ (sM S) ≤ i := fun z9 => c10 ((nI_leI (a := (sM S)) (b := i) (by omega) (by omega)).mpr z9)
        have hy := hyn i (by omega)
        have hcy := hCY i (by omega)
        refine lv_aload_n hx hb dX11_tellAmounts_13 rfl (lv_at hl 0 rfl) ?_
        refine h_get X Y (k := 5) (v := .ref (sA S 15)) ho0 rfl hin_X11 (by decide) kfl_X11_46 rfl dX11_tellAmounts_14 ?_
        refine lv_iload_n hx hb dX11_tellAmounts_17 rfl (lv_at hl 3 rfl) ?_
        refine h_callVr (rest := []) X Y (c_get l G M1 (sA S 15) 15 (sA S 16) 16 (sM S) i (fun i => sA S (1000 + 10 * i)) hl15 (he16 (by omega)) (by omega)) rfl rfl gw_X11_150 dsc_Jx4a65c_get_915e3 hlo15 rfl rfl rfl rfl hl.1 (Nat.le_of_ble_eq_true rfl) ⟨Nat.le_of_ble_eq_true rfl, Nat.le_of_ble_eq_true rfl⟩ ⟨Nat.le_of_ble_eq_true rfl, Nat.le_of_ble_eq_true rfl⟩ dX11_tellAmounts_18 (fun H locs Y => ?_)
        refine h_cast X Y (hCl i (by omega)).1 rfl rfl kcl_X11_181 dX11_tellAmounts_21 ?_
        refine lv_astore (lv' := [(4, .ref (sA S (1000 + 10 * i))), (0, .ref (sA S 0)), (1, .ref (sA S (100 * (cx + 1)))), (2, .int (bI pd)), (3, .int (nI i))]) hx hb dX11_tellAmounts_24 hl (by decide) rfl (fun ls hl => ?_)
        refine lv_aload_n hx hb dX11_tellAmounts_26 rfl (lv_at hl 2 rfl) ?_
        refine h_get X Y (k := 0) (v := .ref (sA S (100 * (cx + 1) + 1))) ho rfl hin_X1 (by decide) kfl_X11_295 rfl dX11_tellAmounts_27 ?_
        refine lv_iload_n hx hb dX11_tellAmounts_30 rfl (lv_at hl 4 rfl) ?_
        refine lv_aload hx hb dX11_tellAmounts_31 (lv_at hl 0 rfl) ?_
        refine lv_aload_n hx hb dX11_tellAmounts_33 rfl (lv_at hl 1 rfl) ?_
        refine h_get X Y (k := 12) (v := .int (nI (hNow h))) ho0 rfl hin_X11 (by decide) kfl_X11_78 rfl dX11_tellAmounts_34 ?_
        refine lv_aload hx hb dX11_tellAmounts_37 (lv_at hl 0 rfl) ?_
        refine h_get X Y (k := 0) (v := .int (nI (clY (sC S i)))) (hCl i (by omega)).1 rfl hin_X3 (by decide) kfl_X11_224 rfl dX11_tellAmounts_39 ?_
        refine lv_isub hx hb dX11_tellAmounts_42 ?_
        refine h_ev (y := nI (hNow h - clY (sC S i))) (pk_sub hy) ?_
        refine lv_aload_n hx hb dX11_tellAmounts_43 rfl (lv_at hl 1 rfl) ?_
        refine h_get X Y (k := 12) (v := .int (nI (hNow h))) ho0 rfl hin_X11 (by decide) kfl_X11_78 rfl dX11_tellAmounts_44 ?_
        refine lv_iload_n hx hb dX11_tellAmounts_47 rfl (lv_at hl 3 rfl) ?_
        refine h_callVr (rest := [.int (nI i), .ref (sA S (100 * (cx + 1) + 1))]) X Y (c_known l G M1 (sA S (1000 + 10 * i)) (1000 + 10 * i) (sC S i) (hCl i (by omega)) (hNow h - clY (sC S i)) (hNow h) pd (by omega) hnow hy) rfl rfl gw_X11_229 dsc_X3_known (hCl i (by omega)).1 rfl rfl rfl rfl hl.1 (Nat.le_of_ble_eq_true rfl) ⟨Nat.le_of_ble_eq_true rfl, Nat.le_of_ble_eq_true rfl⟩ ⟨Nat.le_of_ble_eq_true rfl, Nat.le_of_ble_eq_true rfl⟩ dX11_tellAmounts_48 (fun H locs Y => ?_)
        refine h_iast X Y (i := i) ham (by omega) (by decide) dX11_tellAmounts_51 (fun H locs Y => ?_)
        obtain ⟨hV, -, hq⟩ := CesV.putAm (by omega) (upd am1 i (clKnown (sC S i) (hNow h - clY (sC S i)) (hNow h) pd)) hV hS
        have hs0 := hs0.tr hq
        generalize hup M1 _ _ = M1 at Y hV hq hs0
        have hQv := hQv.sim (hq.mono (hS1_scr (by omega)))
        obtain ⟨hS, -, hHo, hCe, hTr, -, -⟩ := id hQv
        obtain ⟨hl13, he14, hl15, he16, hLa, hCl⟩ := id hS
        obtain ⟨mc13, hlo13⟩ := id hl13
        obtain ⟨mc15, hlo15⟩ := id hl15
        obtain ⟨ho0, ho1, ho17, ho18, ft19, hft19, ho19⟩ := id hHo
        obtain ⟨ho, ham, ⟨fb, hfb, hbo⟩, hbr, ⟨fy, hfy, hyo⟩, hyr, hlo⟩ := id hV
        refine lv_iinc (v := nI (i + 1)) (lv' := [(3, .int (nI (i + 1))), (4, .ref (sA S (1000 + 10 * i))), (0, .ref (sA S 0)), (1, .ref (sA S (100 * (cx + 1)))), (2, .int (bI pd))]) hx hb dX11_tellAmounts_52 hl (k := 4) rfl (nI_1 i) (by decide) rfl (fun ls hl => ?_)
        refine lv_goto (tgt := 2) hx hb dX11_tellAmounts_55 (by decide) ?_
        refine ih (i + 1) (by omega) (by omega) M1 _ hQv hV hs0 ?_ _ _ _ Y (lv_sub hl [2, 3, 4, 0] rfl)
        intro j hj
        by_cases e : j = i
        · subst e; exact pk_us.trans (qAm_known S (hNow h) pd j)
        · rw [pk_un e]; exact hz j (by omega)
  exact loop (sM S + 1) 0 (by omega) (by omega) M am hQv hV hSim.rf (fun _ z9 => absurd z9 (by omega)) _ _ _ Y (lv_sub hl [1, 2, 3, 0] rfl)
theorem gw_X11_291 : GoodIn hGW (wsV RX11 291 RX11 yX11_tellAmounts (Cond.code yX11_tellAmounts cX11_tellAmounts 5 (Option.none) :: hGW)) := hgi4 kml_X11_291 kin_X11_tellAmounts kse_X11_X11_tellAmounts_X11_tellAmounts kini_X11 kco_X11_tellAmounts
theorem dsc_X11_tellAmounts : yX11_tellAmounts.cls = RX11 ∧ yX11_tellAmounts.cls ≠ "java/lang/invoke/MethodHandle" ∧ yX11_tellAmounts.cls ≠ "java/lang/invoke/VarHandle" ∧ (parseMethodDescriptor yX11_tellAmounts.desc).map (fun d => d.parameters.length) = some 2 := ⟨rfl, by decide +kernel, by decide +kernel, by decide +kernel⟩
theorem gw_X11_298 : GoodIn hGW (wsV RX11 298 RX1 yX1_cedeAhead (Cond.code yX1_cedeAhead cX1_cedeAhead 6 (Option.none) :: hGW)) := hgi4 kml_X11_298 kin_X1_cedeAhead kse_X1_X1_cedeAhead_X1_cedeAhead kini_X1 kco_X1_cedeAhead
theorem dsc_X1_cedeAhead : yX1_cedeAhead.cls = RX1 ∧ yX1_cedeAhead.cls ≠ "java/lang/invoke/MethodHandle" ∧ yX1_cedeAhead.cls ≠ "java/lang/invoke/VarHandle" ∧ (parseMethodDescriptor yX1_cedeAhead.desc).map (fun d => d.parameters.length) = some 2 := ⟨rfl, by decide +kernel, by decide +kernel, by decide +kernel⟩
theorem dX11_cedeNow_0 : decode cX11_cedeNow 0 = .ok (.aload_n 0, 1) := by decide +kernel
theorem dX11_cedeNow_1 : decode cX11_cedeNow 1 = .ok (.aload_n 1, 1) := by decide +kernel
theorem dX11_cedeNow_2 : decode cX11_cedeNow 2 = .ok (.iload_n 2, 1) := by decide +kernel
theorem dX11_cedeNow_3 : decode cX11_cedeNow 3 = .ok (.invokevirtual 291, 3) := by decide +kernel
theorem dX11_cedeNow_6 : decode cX11_cedeNow 6 = .ok (.aload_n 1, 1) := by decide +kernel
theorem dX11_cedeNow_7 : decode cX11_cedeNow 7 = .ok (.aload_n 0, 1) := by decide +kernel
theorem dX11_cedeNow_8 : decode cX11_cedeNow 8 = .ok (.getfield 46, 3) := by decide +kernel
theorem dX11_cedeNow_11 : decode cX11_cedeNow 11 = .ok (.invokevirtual 176, 3) := by decide +kernel
theorem dX11_cedeNow_14 : decode cX11_cedeNow 14 = .ok (.iload_n 3, 1) := by decide +kernel
theorem dX11_cedeNow_15 : decode cX11_cedeNow 15 = .ok (.invokevirtual 298, 3) := by decide +kernel
theorem dX11_cedeNow_18 : decode cX11_cedeNow 18 = .ok (.return_, 1) := by decide +kernel
set_option maxHeartbeats 400000 in
set_option maxRecDepth 100000 in
theorem c_cedeNow (l : Launch) (G : hG) (M : hM) (S : hSy) (h : hHo) (hQv : QV G M S h) (cx : Nat) (hcx : cx < 3) (pd : Bool) (mu : Int32) : hCT l G yX11_cedeNow cX11_cedeNow 4 (Option.none) (hRm 8 0 0) M [.ref (sA S 0), .ref (sA S (100 * (cx + 1))), .int (bI pd), .int mu] (fun v M' => v = none ∧ CesIs G M' S cx mu (qAm S pd) ∧ hSim G (hS1 cx) M M') := by
  refine hCT.of (own := RX11) (nm := "cedeNow") (by decide) rfl rfl (Nat.le_of_ble_eq_true rfl) ?_
  intro p e s m args below meth c ls X Y hl
  have hx := X.1
  have hb := X.2.1
  have hl : lv_has ls 4 [(0, .ref (sA S 0)), (1, .ref (sA S (100 * (cx + 1)))), (2, .int (bI pd)), (3, .int mu)] := hl
  obtain ⟨hS, hG1, hHo, hCe, hTr, hnow, hyn⟩ := id hQv
  obtain ⟨hN8, hM40, hLG, hCY⟩ := id hG1
  obtain ⟨hl13, he14, hl15, he16, hLa, hCl⟩ := id hS
  obtain ⟨mc13, hlo13⟩ := id hl13
  obtain ⟨mc15, hlo15⟩ := id hl15
  obtain ⟨ho0, ho1, ho17, ho18, ft19, hft19, ho19⟩ := id hHo
  obtain ⟨am, be, yl, lo, hV⟩ := hCe cx hcx
  obtain ⟨ho, ham, ⟨fb, hfb, hbo⟩, hbr, ⟨fy, hfy, hyo⟩, hyr, hlo⟩ := id hV
  refine lv_aload_n hx hb dX11_cedeNow_0 rfl (lv_at hl 0 rfl) ?_
  refine lv_aload_n hx hb dX11_cedeNow_1 rfl (lv_at hl 1 rfl) ?_
  refine lv_iload_n hx hb dX11_cedeNow_2 rfl (lv_at hl 2 rfl) ?_
  refine h_callV (rest := []) X Y (c_tellAmounts l G M S h hQv cx hcx am be yl lo hV pd) gw_X11_291 dsc_X11_tellAmounts ho0 rfl rfl rfl hl.1 rfl (Nat.le_of_ble_eq_true rfl) ⟨Nat.le_of_ble_eq_true rfl, Nat.le_of_ble_eq_true rfl⟩ ⟨Nat.le_of_ble_eq_true rfl, Nat.le_of_ble_eq_true rfl⟩ dX11_cedeNow_3 ?_
  rintro _ M1 H locs ⟨rfl, am1, hV, ha, hs0⟩ Y
  try dsimp only [Option.toList, List.nil_append]
  have hQv := hQv.sim (hs0.mono (hS1_scr (by omega)))
  obtain ⟨hS, -, hHo, hCe, hTr, -, -⟩ := id hQv
  obtain ⟨hl13, he14, hl15, he16, hLa, hCl⟩ := id hS
  obtain ⟨mc13, hlo13⟩ := id hl13
  obtain ⟨mc15, hlo15⟩ := id hl15
  obtain ⟨ho0, ho1, ho17, ho18, ft19, hft19, ho19⟩ := id hHo
  obtain ⟨ho, ham, ⟨fb, hfb, hbo⟩, hbr, ⟨fy, hfy, hyo⟩, hyr, hlo⟩ := id hV
  refine lv_aload_n hx hb dX11_cedeNow_6 rfl (lv_at hl 1 rfl) ?_
  refine lv_aload_n hx hb dX11_cedeNow_7 rfl (lv_at hl 0 rfl) ?_
  refine h_get X Y (k := 5) (v := .ref (sA S 15)) ho0 rfl hin_X11 (by decide) kfl_X11_46 rfl dX11_cedeNow_8 ?_
  refine h_callVr (rest := [.ref (sA S (100 * (cx + 1)))]) X Y (c_size l G M1 (sA S 15) 15 (sA S 16) (sM S) hl15) rfl rfl gw_X11_176 dsc_Jx4a65c_size_8abf5 hlo15 rfl rfl rfl rfl hl.1 (Nat.le_of_ble_eq_true rfl) ⟨Nat.le_of_ble_eq_true rfl, Nat.le_of_ble_eq_true rfl⟩ ⟨Nat.le_of_ble_eq_true rfl, Nat.le_of_ble_eq_true rfl⟩ dX11_cedeNow_11 (fun H locs Y => ?_)
  refine lv_iload_n hx hb dX11_cedeNow_14 rfl (lv_at hl 3 rfl) ?_
  refine h_callV (rest := []) X Y (c_cedeAhead l G M1 S hS hG1 cx am1 be yl lo hV hcx (sM S) mu (Nat.le_refl _)) gw_X11_298 dsc_X1_cedeAhead ho rfl rfl rfl hl.1 rfl (Nat.le_of_ble_eq_true rfl) ⟨Nat.le_of_ble_eq_true rfl, Nat.le_of_ble_eq_true rfl⟩ ⟨Nat.le_of_ble_eq_true rfl, Nat.le_of_ble_eq_true rfl⟩ dX11_cedeNow_15 ?_
  rintro _ M2 H locs ⟨rfl, be2, yl2, lo2, hV, hb, hy2, hq⟩ Y
  try dsimp only [Option.toList, List.nil_append]
  exact h_vret X Y ⟨rfl, ⟨am1, be2, yl2, lo2, hV, ha, fun i hi k hk => (hb i hi k hk).trans (congrFun (pBe_congr S mu i (fun j hj => ha j (by omega))) k), fun k hk y hy => (hy2 k hk y hy).trans (congrFun (congrFun (pYl_congr S mu (sM S) ha) k) y)⟩, hs0.tr hq⟩ (Nat.le_refl _) (Nat.le_refl _) dX11_cedeNow_18
theorem dX11_tellAmountsAt_0 : decode cX11_tellAmountsAt 0 = .ok (.iconst 0, 1) := by decide +kernel
theorem dX11_tellAmountsAt_1 : decode cX11_tellAmountsAt 1 = .ok (.istore_n 3, 1) := by decide +kernel
theorem dX11_tellAmountsAt_2 : decode cX11_tellAmountsAt 2 = .ok (.iload_n 3, 1) := by decide +kernel
theorem dX11_tellAmountsAt_3 : decode cX11_tellAmountsAt 3 = .ok (.aload_n 0, 1) := by decide +kernel
theorem dX11_tellAmountsAt_4 : decode cX11_tellAmountsAt 4 = .ok (.getfield 46, 3) := by decide +kernel
theorem dX11_tellAmountsAt_7 : decode cX11_tellAmountsAt 7 = .ok (.invokevirtual 176, 3) := by decide +kernel
theorem dX11_tellAmountsAt_10 : decode cX11_tellAmountsAt 10 = .ok (.if_icmp .ge 60, 3) := by decide +kernel
theorem dX11_tellAmountsAt_13 : decode cX11_tellAmountsAt 13 = .ok (.aload_n 0, 1) := by decide +kernel
theorem dX11_tellAmountsAt_14 : decode cX11_tellAmountsAt 14 = .ok (.getfield 46, 3) := by decide +kernel
theorem dX11_tellAmountsAt_17 : decode cX11_tellAmountsAt 17 = .ok (.iload_n 3, 1) := by decide +kernel
theorem dX11_tellAmountsAt_18 : decode cX11_tellAmountsAt 18 = .ok (.invokevirtual 150, 3) := by decide +kernel
theorem dX11_tellAmountsAt_21 : decode cX11_tellAmountsAt 21 = .ok (.checkcast 181, 3) := by decide +kernel
theorem dX11_tellAmountsAt_24 : decode cX11_tellAmountsAt 24 = .ok (.astore 4, 2) := by decide +kernel
theorem dX11_tellAmountsAt_26 : decode cX11_tellAmountsAt 26 = .ok (.aload_n 0, 1) := by decide +kernel
theorem dX11_tellAmountsAt_27 : decode cX11_tellAmountsAt 27 = .ok (.getfield 61, 3) := by decide +kernel
theorem dX11_tellAmountsAt_30 : decode cX11_tellAmountsAt 30 = .ok (.getfield 295, 3) := by decide +kernel
theorem dX11_tellAmountsAt_33 : decode cX11_tellAmountsAt 33 = .ok (.iload_n 3, 1) := by decide +kernel
theorem dX11_tellAmountsAt_34 : decode cX11_tellAmountsAt 34 = .ok (.iload_n 1, 1) := by decide +kernel
theorem dX11_tellAmountsAt_35 : decode cX11_tellAmountsAt 35 = .ok (.aload_n 0, 1) := by decide +kernel
theorem dX11_tellAmountsAt_36 : decode cX11_tellAmountsAt 36 = .ok (.getfield 78, 3) := by decide +kernel
theorem dX11_tellAmountsAt_39 : decode cX11_tellAmountsAt 39 = .ok (.aload 4, 2) := by decide +kernel
theorem dX11_tellAmountsAt_41 : decode cX11_tellAmountsAt 41 = .ok (.getfield 224, 3) := by decide +kernel
theorem dX11_tellAmountsAt_44 : decode cX11_tellAmountsAt 44 = .ok (.isub, 1) := by decide +kernel
theorem dX11_tellAmountsAt_45 : decode cX11_tellAmountsAt 45 = .ok (.if_icmp .gt 17, 3) := by decide +kernel
theorem dX11_tellAmountsAt_48 : decode cX11_tellAmountsAt 48 = .ok (.aload 4, 2) := by decide +kernel
theorem dX11_tellAmountsAt_50 : decode cX11_tellAmountsAt 50 = .ok (.iload_n 1, 1) := by decide +kernel
theorem dX11_tellAmountsAt_51 : decode cX11_tellAmountsAt 51 = .ok (.aload_n 0, 1) := by decide +kernel
theorem dX11_tellAmountsAt_52 : decode cX11_tellAmountsAt 52 = .ok (.getfield 78, 3) := by decide +kernel
theorem dX11_tellAmountsAt_55 : decode cX11_tellAmountsAt 55 = .ok (.iload_n 2, 1) := by decide +kernel
theorem dX11_tellAmountsAt_56 : decode cX11_tellAmountsAt 56 = .ok (.invokevirtual 229, 3) := by decide +kernel
theorem dX11_tellAmountsAt_59 : decode cX11_tellAmountsAt 59 = .ok (.goto 4, 3) := by decide +kernel
theorem dX11_tellAmountsAt_62 : decode cX11_tellAmountsAt 62 = .ok (.iconst 0, 1) := by decide +kernel
theorem dX11_tellAmountsAt_63 : decode cX11_tellAmountsAt 63 = .ok (.iastore, 1) := by decide +kernel
theorem dX11_tellAmountsAt_64 : decode cX11_tellAmountsAt 64 = .ok (.iinc 3 1, 3) := by decide +kernel
theorem dX11_tellAmountsAt_67 : decode cX11_tellAmountsAt 67 = .ok (.goto (-65), 3) := by decide +kernel
theorem dX11_tellAmountsAt_70 : decode cX11_tellAmountsAt 70 = .ok (.return_, 1) := by decide +kernel
set_option maxHeartbeats 400000 in
set_option maxRecDepth 100000 in
theorem c_tellAmountsAt (l : Launch) (G : hG) (M : hM) (S : hSy) (h : hHo) (hQv : QV G M S h) (am : Nat → Int32) (be yl : Nat → Nat → Int32) (lo : Nat → Int32) (hV : CesV G M S 2 am be yl lo) (age : Nat) (pd : Bool) (ha9 : age < 10) : hCT l G yX11_tellAmountsAt cX11_tellAmountsAt 5 (Option.none) (hRm 5 0 0) M [.ref (sA S 0), .int (nI age), .int (bI pd)] (fun v M' => v = none ∧ ∃ am', CesV G M' S 2 am' be yl lo ∧ (∀ i, i < sM S → am' i = qAt S (hNow h) age pd i) ∧ hSim G (hS1 2) M M') := by
  refine hCT.of (own := RX11) (nm := "tellAmountsAt") (by decide) rfl rfl (Nat.le_of_ble_eq_true rfl) ?_
  intro p e s m args below meth c ls X Y hl
  have hx := X.1
  have hb := X.2.1
  have hl : lv_has ls 5 [(0, .ref (sA S 0)), (1, .int (nI age)), (2, .int (bI pd))] := hl
  obtain ⟨hS, hG1, hHo, hCe, hTr, hnow, hyn⟩ := id hQv
  obtain ⟨hN8, hM40, hLG, hCY⟩ := id hG1
  obtain ⟨hl13, he14, hl15, he16, hLa, hCl⟩ := id hS
  obtain ⟨mc13, hlo13⟩ := id hl13
  obtain ⟨mc15, hlo15⟩ := id hl15
  obtain ⟨ho0, ho1, ho17, ho18, ft19, hft19, ho19⟩ := id hHo
  refine lv_iconst (v := 0) hx hb dX11_tellAmountsAt_0 (by decide) ?_
  refine lv_istore_n (lv' := [(3, .int 0), (0, .ref (sA S 0)), (1, .int (nI age)), (2, .int (bI pd))]) hx hb dX11_tellAmountsAt_1 rfl hl (by decide) rfl (fun ls hl => ?_)
  have loop : ∀ (d i : Nat), i + d = sM S + 1 → i ≤ sM S → ∀ (M1 : hM) (am1 : Nat → Int32), QV G M1 S h → CesV G M1 S 2 am1 be yl lo → hSim G (hS1 2) M M1 → (∀ j, j < i → am1 j = qAt S (hNow h) age pd j) → ∀ (H : Heap) (locs : List Loc) (ls : Array Slot), hHS G M1 s H locs → lv_has ls 5 [(0, .ref (sA S 0)), (1, .int (nI age)), (2, .int (bI pd)), (3, .int (nI i))] → W p l e (hRm 5 0 0) s m args below meth c H locs 0 0 (MQ below (hQ G (fun v M' => v = none ∧ ∃ am', CesV G M' S 2 am' be yl lo ∧ (∀ i, i < sM S → am' i = qAt S (hNow h) age pd i) ∧ hSim G (hS1 2) M M')) args s 0 0 (hA G)) (F0 m 2 ls []) := by
    intro d
    induction d with
    | zero => intro i h1; intros; exact absurd h1 (by omega)
    | succ d ih =>
      intro i h1 h2 M1 am1 hQv hV hs0 hz H locs ls Y hl
      obtain ⟨hS, -, hHo, hCe, hTr, -, -⟩ := id hQv
      obtain ⟨hl13, he14, hl15, he16, hLa, hCl⟩ := id hS
      obtain ⟨mc13, hlo13⟩ := id hl13
      obtain ⟨mc15, hlo15⟩ := id hl15
      obtain ⟨ho0, ho1, ho17, ho18, ft19, hft19, ho19⟩ := id hHo
      obtain ⟨ho, ham, ⟨fb, hfb, hbo⟩, hbr, ⟨fy, hfy, hyo⟩, hyr, hlo⟩ := id hV
      refine lv_iload_n hx hb dX11_tellAmountsAt_2 rfl (lv_at hl 3 rfl) ?_
      refine lv_aload_n hx hb dX11_tellAmountsAt_3 rfl (lv_at hl 0 rfl) ?_
      refine h_get X Y (k := 5) (v := .ref (sA S 15)) ho0 rfl hin_X11 (by decide) kfl_X11_46 rfl dX11_tellAmountsAt_4 ?_
      refine h_callVr (rest := [.int (nI i)]) X Y (c_size l G M1 (sA S 15) 15 (sA S 16) (sM S) hl15) rfl rfl gw_X11_176 dsc_Jx4a65c_size_8abf5 hlo15 rfl rfl rfl rfl hl.1 (Nat.le_of_ble_eq_true rfl) ⟨Nat.le_of_ble_eq_true rfl, Nat.le_of_ble_eq_true rfl⟩ ⟨Nat.le_of_ble_eq_true rfl, Nat.le_of_ble_eq_true rfl⟩ dX11_tellAmountsAt_7 (fun H locs Y => ?_)
      refine lv_icmp_ge (tgt := 70) hx hb dX11_tellAmountsAt_10 (by decide) (fun c10 => ?_) (fun c10 => ?_)
      · have c10 : (sM S) ≤ i := (nI_leI (a := (sM S)) (b := i) (by omega) (by omega)).mp c10
        have hk9 : i = (sM S) := by omega
        subst hk9
        exact h_vret X Y ⟨rfl, am1, hV, hz, hs0⟩ (Nat.le_refl _) (Nat.le_refl _) dX11_tellAmountsAt_70
      · have c10 : ¬ (sM S) ≤ i := fun z9 => c10 ((nI_leI (a := (sM S)) (b := i) (by omega) (by omega)).mpr z9)
        have hy := hyn i (by omega)
        have hcy := hCY i (by omega)
        refine lv_aload_n hx hb dX11_tellAmountsAt_13 rfl (lv_at hl 0 rfl) ?_
        refine h_get X Y (k := 5) (v := .ref (sA S 15)) ho0 rfl hin_X11 (by decide) kfl_X11_46 rfl dX11_tellAmountsAt_14 ?_
        refine lv_iload_n hx hb dX11_tellAmountsAt_17 rfl (lv_at hl 3 rfl) ?_
        refine h_callVr (rest := []) X Y (c_get l G M1 (sA S 15) 15 (sA S 16) 16 (sM S) i (fun i => sA S (1000 + 10 * i)) hl15 (he16 (by omega)) (by omega)) rfl rfl gw_X11_150 dsc_Jx4a65c_get_915e3 hlo15 rfl rfl rfl rfl hl.1 (Nat.le_of_ble_eq_true rfl) ⟨Nat.le_of_ble_eq_true rfl, Nat.le_of_ble_eq_true rfl⟩ ⟨Nat.le_of_ble_eq_true rfl, Nat.le_of_ble_eq_true rfl⟩ dX11_tellAmountsAt_18 (fun H locs Y => ?_)
        refine h_cast X Y (hCl i (by omega)).1 rfl rfl kcl_X11_181 dX11_tellAmountsAt_21 ?_
        refine lv_astore (lv' := [(4, .ref (sA S (1000 + 10 * i))), (0, .ref (sA S 0)), (1, .int (nI age)), (2, .int (bI pd)), (3, .int (nI i))]) hx hb dX11_tellAmountsAt_24 hl (by decide) rfl (fun ls hl => ?_)
        refine lv_aload_n hx hb dX11_tellAmountsAt_26 rfl (lv_at hl 1 rfl) ?_
        refine h_get X Y (k := 8) (v := .ref (sA S (100 * (2 + 1)))) ho0 rfl hin_X11 (by decide) kfl_X11_61 rfl dX11_tellAmountsAt_27 ?_
        refine h_get X Y (k := 0) (v := .ref (sA S (100 * (2 + 1) + 1))) ho rfl hin_X1 (by decide) kfl_X11_295 rfl dX11_tellAmountsAt_30 ?_
        refine lv_iload_n hx hb dX11_tellAmountsAt_33 rfl (lv_at hl 4 rfl) ?_
        refine lv_iload_n hx hb dX11_tellAmountsAt_34 rfl (lv_at hl 2 rfl) ?_
        refine lv_aload_n hx hb dX11_tellAmountsAt_35 rfl (lv_at hl 1 rfl) ?_
        refine h_get X Y (k := 12) (v := .int (nI (hNow h))) ho0 rfl hin_X11 (by decide) kfl_X11_78 rfl dX11_tellAmountsAt_36 ?_
        refine lv_aload hx hb dX11_tellAmountsAt_39 (lv_at hl 0 rfl) ?_
        refine h_get X Y (k := 0) (v := .int (nI (clY (sC S i)))) (hCl i (by omega)).1 rfl hin_X3 (by decide) kfl_X11_224 rfl dX11_tellAmountsAt_41 ?_
        refine lv_isub hx hb dX11_tellAmountsAt_44 ?_
        refine h_ev (y := nI (hNow h - clY (sC S i))) (pk_sub hy) ?_
        refine lv_icmp_gt (tgt := 62) hx hb dX11_tellAmountsAt_45 (by decide) (fun c45 => ?_) (fun c45 => ?_)
        · have c45 : (hNow h - clY (sC S i)) < age := (nI_ltI (a := (hNow h - clY (sC S i))) (b := age) (by omega) (by omega)).mp c45
          have hval : (0 : Int32) = qAt S (hNow h) age pd i := (if_neg (by omega)).symm
          refine lv_iconst (v := 0) hx hb dX11_tellAmountsAt_62 (by decide) ?_
          refine h_iast X Y (i := i) ham (by omega) (by decide) dX11_tellAmountsAt_63 (fun H locs Y => ?_)
          obtain ⟨hV, -, hq⟩ := CesV.putAm (by omega) (upd am1 i 0) hV hS
          have hs0 := hs0.tr hq
          generalize hup M1 _ _ = M1 at Y hV hq hs0
          have hQv := hQv.sim (hq.mono (hS1_scr (by omega)))
          obtain ⟨hS, -, hHo, hCe, hTr, -, -⟩ := id hQv
          obtain ⟨hl13, he14, hl15, he16, hLa, hCl⟩ := id hS
          obtain ⟨mc13, hlo13⟩ := id hl13
          obtain ⟨mc15, hlo15⟩ := id hl15
          obtain ⟨ho0, ho1, ho17, ho18, ft19, hft19, ho19⟩ := id hHo
          obtain ⟨ho, ham, ⟨fb, hfb, hbo⟩, hbr, ⟨fy, hfy, hyo⟩, hyr, hlo⟩ := id hV
          refine lv_iinc (v := nI (i + 1)) (lv' := [(3, .int (nI (i + 1))), (4, .ref (sA S (1000 + 10 * i))), (0, .ref (sA S 0)), (1, .int (nI age)), (2, .int (bI pd))]) hx hb dX11_tellAmountsAt_64 hl (k := 4) rfl (nI_1 i) (by decide) rfl (fun ls hl => ?_)
          refine lv_goto (tgt := 2) hx hb dX11_tellAmountsAt_67 (by decide) ?_
          refine ih (i + 1) (by omega) (by omega) M1 _ hQv hV hs0 ?_ _ _ _ Y (lv_sub hl [2, 3, 4, 0] rfl)
          intro j hj
          by_cases e : j = i
          · subst e; exact pk_us.trans hval
          · rw [pk_un e]; exact hz j (by omega)
        · have c45 : ¬ (hNow h - clY (sC S i)) < age := fun z9 => c45 ((nI_ltI (a := (hNow h - clY (sC S i))) (b := age) (by omega) (by omega)).mpr z9)
          have hval : clKnown (sC S i) age (hNow h) pd = qAt S (hNow h) age pd i := (if_pos (by omega)).symm
          refine lv_aload hx hb dX11_tellAmountsAt_48 (lv_at hl 0 rfl) ?_
          refine lv_iload_n hx hb dX11_tellAmountsAt_50 rfl (lv_at hl 2 rfl) ?_
          refine lv_aload_n hx hb dX11_tellAmountsAt_51 rfl (lv_at hl 1 rfl) ?_
          refine h_get X Y (k := 12) (v := .int (nI (hNow h))) ho0 rfl hin_X11 (by decide) kfl_X11_78 rfl dX11_tellAmountsAt_52 ?_
          refine lv_iload_n hx hb dX11_tellAmountsAt_55 rfl (lv_at hl 3 rfl) ?_
          refine h_callVr (rest := [.int (nI i), .ref (sA S (100 * (2 + 1) + 1))]) X Y (c_known l G M1 (sA S (1000 + 10 * i)) (1000 + 10 * i) (sC S i) (hCl i (by omega)) age (hNow h) pd ha9 hnow hy) rfl rfl gw_X11_229 dsc_X3_known (hCl i (by omega)).1 rfl rfl rfl rfl hl.1 (Nat.le_of_ble_eq_true rfl) ⟨Nat.le_of_ble_eq_true rfl, Nat.le_of_ble_eq_true rfl⟩ ⟨Nat.le_of_ble_eq_true rfl, Nat.le_of_ble_eq_true rfl⟩ dX11_tellAmountsAt_56 (fun H locs Y => ?_)
          refine lv_goto (tgt := 63) hx hb dX11_tellAmountsAt_59 (by decide) ?_
          refine h_iast X Y (i := i) ham (by omega) (by decide) dX11_tellAmountsAt_63 (fun H locs Y => ?_)
          obtain ⟨hV, -, hq⟩ := CesV.putAm (by omega) (upd am1 i (clKnown (sC S i) age (hNow h) pd)) hV hS
          have hs0 := hs0.tr hq
          generalize hup M1 _ _ = M2 at Y hV hq hs0
          have hQv := hQv.sim (hq.mono (hS1_scr (by omega)))
          obtain ⟨hS, -, hHo, hCe, hTr, -, -⟩ := id hQv
          obtain ⟨hl13, he14, hl15, he16, hLa, hCl⟩ := id hS
          obtain ⟨mc13, hlo13⟩ := id hl13
          obtain ⟨mc15, hlo15⟩ := id hl15
          obtain ⟨ho0, ho1, ho17, ho18, ft19, hft19, ho19⟩ := id hHo
          obtain ⟨ho, ham, ⟨fb, hfb, hbo⟩, hbr, ⟨fy, hfy, hyo⟩, hyr, hlo⟩ := id hV
          refine lv_iinc (v := nI (i + 1)) (lv' := [(3, .int (nI (i + 1))), (4, .ref (sA S (1000 + 10 * i))), (0, .ref (sA S 0)), (1, .int (nI age)), (2, .int (bI pd))]) hx hb dX11_tellAmountsAt_64 hl (k := 4) rfl (nI_1 i) (by decide) rfl (fun ls hl => ?_)
          refine lv_goto (tgt := 2) hx hb dX11_tellAmountsAt_67 (by decide) ?_
          refine ih (i + 1) (by omega) (by omega) M2 _ hQv hV hs0 ?_ _ _ _ Y (lv_sub hl [2, 3, 4, 0] rfl)
          intro j hj
          by_cases e : j = i
          · subst e; exact pk_us.trans hval
          · rw [pk_un e]; exact hz j (by omega)
  exact loop (sM S + 1) 0 (by omega) (by omega) M am hQv hV hSim.rf (fun _ z9 => absurd z9 (by omega)) _ _ _ Y (lv_sub hl [1, 2, 3, 0] rfl)
theorem gw_X11_350 : GoodIn hGW (wsV RX11 350 RX10 yX10_begin (Cond.code yX10_begin cX10_begin 4 (Option.none) :: hGW)) := hgi4 kml_X11_350 kin_X10_begin kse_X10_X10_begin_X10_begin kini_X10 kco_X10_begin
theorem dsc_X10_begin : yX10_begin.cls = RX10 ∧ yX10_begin.cls ≠ "java/lang/invoke/MethodHandle" ∧ yX10_begin.cls ≠ "java/lang/invoke/VarHandle" ∧ (parseMethodDescriptor yX10_begin.desc).map (fun d => d.parameters.length) = some 1 := ⟨rfl, by decide +kernel, by decide +kernel, by decide +kernel⟩
theorem gw_X11_353 : GoodIn hGW (wsV RX11 353 RX11 yX11_tellAmountsAt (Cond.code yX11_tellAmountsAt cX11_tellAmountsAt 5 (Option.none) :: hGW)) := hgi4 kml_X11_353 kin_X11_tellAmountsAt kse_X11_X11_tellAmountsAt_X11_tellAmountsAt kini_X11 kco_X11_tellAmountsAt
theorem dsc_X11_tellAmountsAt : yX11_tellAmountsAt.cls = RX11 ∧ yX11_tellAmountsAt.cls ≠ "java/lang/invoke/MethodHandle" ∧ yX11_tellAmountsAt.cls ≠ "java/lang/invoke/VarHandle" ∧ (parseMethodDescriptor yX11_tellAmountsAt.desc).map (fun d => d.parameters.length) = some 2 := ⟨rfl, by decide +kernel, by decide +kernel, by decide +kernel⟩
theorem gw_X11_357 : GoodIn hGW (wsV RX11 357 RX1 yX1_leftOf (Cond.code yX1_leftOf cX1_leftOf 2 (Option.some FieldType.int) :: hGW)) := hgi4 kml_X11_357 kin_X1_leftOf kse_X1_X1_leftOf_X1_leftOf kini_X1 kco_X1_leftOf
theorem dX11_fillTriangle_0 : decode cX11_fillTriangle 0 = .ok (.aload_n 0, 1) := by decide +kernel
theorem dX11_fillTriangle_1 : decode cX11_fillTriangle 1 = .ok (.getfield 67, 3) := by decide +kernel
theorem dX11_fillTriangle_4 : decode cX11_fillTriangle 4 = .ok (.iload_n 1, 1) := by decide +kernel
theorem dX11_fillTriangle_5 : decode cX11_fillTriangle 5 = .ok (.aaload, 1) := by decide +kernel
theorem dX11_fillTriangle_6 : decode cX11_fillTriangle 6 = .ok (.astore_n 2, 1) := by decide +kernel
theorem dX11_fillTriangle_7 : decode cX11_fillTriangle 7 = .ok (.aload_n 2, 1) := by decide +kernel
theorem dX11_fillTriangle_8 : decode cX11_fillTriangle 8 = .ok (.aload_n 0, 1) := by decide +kernel
theorem dX11_fillTriangle_9 : decode cX11_fillTriangle 9 = .ok (.getfield 78, 3) := by decide +kernel
theorem dX11_fillTriangle_12 : decode cX11_fillTriangle 12 = .ok (.invokevirtual 350, 3) := by decide +kernel
theorem dX11_fillTriangle_15 : decode cX11_fillTriangle 15 = .ok (.iconst 0, 1) := by decide +kernel
theorem dX11_fillTriangle_16 : decode cX11_fillTriangle 16 = .ok (.istore_n 3, 1) := by decide +kernel
theorem dX11_fillTriangle_17 : decode cX11_fillTriangle 17 = .ok (.iload_n 3, 1) := by decide +kernel
theorem dX11_fillTriangle_18 : decode cX11_fillTriangle 18 = .ok (.aload_n 0, 1) := by decide +kernel
theorem dX11_fillTriangle_19 : decode cX11_fillTriangle 19 = .ok (.getfield 78, 3) := by decide +kernel
theorem dX11_fillTriangle_22 : decode cX11_fillTriangle 22 = .ok (.if_icmp .gt 133, 3) := by decide +kernel
theorem dX11_fillTriangle_25 : decode cX11_fillTriangle 25 = .ok (.aload_n 0, 1) := by decide +kernel
theorem dX11_fillTriangle_26 : decode cX11_fillTriangle 26 = .ok (.iload_n 3, 1) := by decide +kernel
theorem dX11_fillTriangle_27 : decode cX11_fillTriangle 27 = .ok (.iload_n 1, 1) := by decide +kernel
theorem dX11_fillTriangle_28 : decode cX11_fillTriangle 28 = .ok (.iconst 2, 1) := by decide +kernel
theorem dX11_fillTriangle_29 : decode cX11_fillTriangle 29 = .ok (.irem, 1) := by decide +kernel
theorem dX11_fillTriangle_30 : decode cX11_fillTriangle 30 = .ok (.ifCond .ne 7, 3) := by decide +kernel
theorem dX11_fillTriangle_33 : decode cX11_fillTriangle 33 = .ok (.iconst 1, 1) := by decide +kernel
theorem dX11_fillTriangle_34 : decode cX11_fillTriangle 34 = .ok (.goto 4, 3) := by decide +kernel
theorem dX11_fillTriangle_37 : decode cX11_fillTriangle 37 = .ok (.iconst 0, 1) := by decide +kernel
theorem dX11_fillTriangle_38 : decode cX11_fillTriangle 38 = .ok (.invokevirtual 353, 3) := by decide +kernel
theorem dX11_fillTriangle_41 : decode cX11_fillTriangle 41 = .ok (.iload_n 1, 1) := by decide +kernel
theorem dX11_fillTriangle_42 : decode cX11_fillTriangle 42 = .ok (.iconst 2, 1) := by decide +kernel
theorem dX11_fillTriangle_43 : decode cX11_fillTriangle 43 = .ok (.if_icmp .lt 18, 3) := by decide +kernel
theorem dX11_fillTriangle_46 : decode cX11_fillTriangle 46 = .ok (.aload_n 0, 1) := by decide +kernel
theorem dX11_fillTriangle_47 : decode cX11_fillTriangle 47 = .ok (.getfield 61, 3) := by decide +kernel
theorem dX11_fillTriangle_50 : decode cX11_fillTriangle 50 = .ok (.aload_n 0, 1) := by decide +kernel
theorem dX11_fillTriangle_51 : decode cX11_fillTriangle 51 = .ok (.getfield 46, 3) := by decide +kernel
theorem dX11_fillTriangle_54 : decode cX11_fillTriangle 54 = .ok (.invokevirtual 176, 3) := by decide +kernel
theorem dX11_fillTriangle_57 : decode cX11_fillTriangle 57 = .ok (.iconst (-1), 1) := by decide +kernel
theorem dX11_fillTriangle_58 : decode cX11_fillTriangle 58 = .ok (.invokevirtual 298, 3) := by decide +kernel
theorem dX11_fillTriangle_61 : decode cX11_fillTriangle 61 = .ok (.iconst 0, 1) := by decide +kernel
theorem dX11_fillTriangle_62 : decode cX11_fillTriangle 62 = .ok (.istore 4, 2) := by decide +kernel
theorem dX11_fillTriangle_64 : decode cX11_fillTriangle 64 = .ok (.iload 4, 2) := by decide +kernel
theorem dX11_fillTriangle_66 : decode cX11_fillTriangle 66 = .ok (.aload_n 0, 1) := by decide +kernel
theorem dX11_fillTriangle_67 : decode cX11_fillTriangle 67 = .ok (.getfield 46, 3) := by decide +kernel
theorem dX11_fillTriangle_70 : decode cX11_fillTriangle 70 = .ok (.invokevirtual 176, 3) := by decide +kernel
theorem dX11_fillTriangle_73 : decode cX11_fillTriangle 73 = .ok (.if_icmp .ge 76, 3) := by decide +kernel
theorem dX11_fillTriangle_76 : decode cX11_fillTriangle 76 = .ok (.aload_n 0, 1) := by decide +kernel
theorem dX11_fillTriangle_77 : decode cX11_fillTriangle 77 = .ok (.getfield 46, 3) := by decide +kernel
theorem dX11_fillTriangle_80 : decode cX11_fillTriangle 80 = .ok (.iload 4, 2) := by decide +kernel
theorem dX11_fillTriangle_82 : decode cX11_fillTriangle 82 = .ok (.invokevirtual 150, 3) := by decide +kernel
theorem dX11_fillTriangle_85 : decode cX11_fillTriangle 85 = .ok (.checkcast 181, 3) := by decide +kernel
theorem dX11_fillTriangle_88 : decode cX11_fillTriangle 88 = .ok (.getfield 224, 3) := by decide +kernel
theorem dX11_fillTriangle_91 : decode cX11_fillTriangle 91 = .ok (.istore 5, 2) := by decide +kernel
theorem dX11_fillTriangle_93 : decode cX11_fillTriangle 93 = .ok (.iload_n 3, 1) := by decide +kernel
theorem dX11_fillTriangle_94 : decode cX11_fillTriangle 94 = .ok (.aload_n 0, 1) := by decide +kernel
theorem dX11_fillTriangle_95 : decode cX11_fillTriangle 95 = .ok (.getfield 78, 3) := by decide +kernel
theorem dX11_fillTriangle_98 : decode cX11_fillTriangle 98 = .ok (.iload 5, 2) := by decide +kernel
theorem dX11_fillTriangle_100 : decode cX11_fillTriangle 100 = .ok (.isub, 1) := by decide +kernel
theorem dX11_fillTriangle_101 : decode cX11_fillTriangle 101 = .ok (.if_icmp .gt 42, 3) := by decide +kernel
theorem dX11_fillTriangle_104 : decode cX11_fillTriangle 104 = .ok (.aload_n 2, 1) := by decide +kernel
theorem dX11_fillTriangle_105 : decode cX11_fillTriangle 105 = .ok (.getfield 262, 3) := by decide +kernel
theorem dX11_fillTriangle_108 : decode cX11_fillTriangle 108 = .ok (.iload 5, 2) := by decide +kernel
theorem dX11_fillTriangle_110 : decode cX11_fillTriangle 110 = .ok (.aaload, 1) := by decide +kernel
theorem dX11_fillTriangle_111 : decode cX11_fillTriangle 111 = .ok (.iload_n 3, 1) := by decide +kernel
theorem dX11_fillTriangle_112 : decode cX11_fillTriangle 112 = .ok (.dup2, 1) := by decide +kernel
theorem dX11_fillTriangle_113 : decode cX11_fillTriangle 113 = .ok (.iaload, 1) := by decide +kernel
theorem dX11_fillTriangle_114 : decode cX11_fillTriangle 114 = .ok (.iload_n 1, 1) := by decide +kernel
theorem dX11_fillTriangle_115 : decode cX11_fillTriangle 115 = .ok (.iconst 2, 1) := by decide +kernel
theorem dX11_fillTriangle_116 : decode cX11_fillTriangle 116 = .ok (.if_icmp .lt 15, 3) := by decide +kernel
theorem dX11_fillTriangle_119 : decode cX11_fillTriangle 119 = .ok (.aload_n 0, 1) := by decide +kernel
theorem dX11_fillTriangle_120 : decode cX11_fillTriangle 120 = .ok (.getfield 61, 3) := by decide +kernel
theorem dX11_fillTriangle_123 : decode cX11_fillTriangle 123 = .ok (.iload 4, 2) := by decide +kernel
theorem dX11_fillTriangle_125 : decode cX11_fillTriangle 125 = .ok (.invokevirtual 357, 3) := by decide +kernel
theorem dX11_fillTriangle_128 : decode cX11_fillTriangle 128 = .ok (.goto 13, 3) := by decide +kernel
theorem dX11_fillTriangle_131 : decode cX11_fillTriangle 131 = .ok (.aload_n 0, 1) := by decide +kernel
theorem dX11_fillTriangle_132 : decode cX11_fillTriangle 132 = .ok (.getfield 61, 3) := by decide +kernel
theorem dX11_fillTriangle_135 : decode cX11_fillTriangle 135 = .ok (.getfield 295, 3) := by decide +kernel
theorem dX11_fillTriangle_138 : decode cX11_fillTriangle 138 = .ok (.iload 4, 2) := by decide +kernel
theorem dX11_fillTriangle_140 : decode cX11_fillTriangle 140 = .ok (.iaload, 1) := by decide +kernel
theorem dX11_fillTriangle_141 : decode cX11_fillTriangle 141 = .ok (.iadd, 1) := by decide +kernel
theorem dX11_fillTriangle_142 : decode cX11_fillTriangle 142 = .ok (.iastore, 1) := by decide +kernel
theorem dX11_fillTriangle_143 : decode cX11_fillTriangle 143 = .ok (.iinc 4 1, 3) := by decide +kernel
theorem dX11_fillTriangle_146 : decode cX11_fillTriangle 146 = .ok (.goto (-82), 3) := by decide +kernel
theorem dX11_fillTriangle_149 : decode cX11_fillTriangle 149 = .ok (.iinc 3 1, 3) := by decide +kernel
theorem dX11_fillTriangle_152 : decode cX11_fillTriangle 152 = .ok (.goto (-135), 3) := by decide +kernel
theorem dX11_fillTriangle_155 : decode cX11_fillTriangle 155 = .ok (.return_, 1) := by decide +kernel
set_option maxHeartbeats 400000 in
set_option maxRecDepth 100000 in
theorem c_fillTriangle (l : Launch) (G : hG) (M : hM) (S : hSy) (h : hHo) (hQv : QV G M S h) (k : Nat) (hk : k < 4) : hCT l G yX11_fillTriangle cX11_fillTriangle 6 (Option.none) (hRm 9 0 0) M [.ref (sA S 0), .int (nI k)] (fun v M' => v = none ∧ TrIs G M' S (hNow h) k ∧ hSim G (hS3 k) M M') := by
  refine hCT.of (own := RX11) (nm := "fillTriangle") (by decide) rfl rfl (Nat.le_of_ble_eq_true rfl) ?_
  intro p e s m args below meth c ls X Y hl
  have hx := X.1
  have hb := X.2.1
  have hl : lv_has ls 6 [(0, .ref (sA S 0)), (1, .int (nI k))] := hl
  obtain ⟨hS, hG1, hHo, hCe, hTr, hnow, hyn⟩ := id hQv
  obtain ⟨hN8, hM40, hLG, hCY⟩ := id hG1
  obtain ⟨hl13, he14, hl15, he16, hLa, hCl⟩ := id hS
  obtain ⟨mc13, hlo13⟩ := id hl13
  obtain ⟨mc15, hlo15⟩ := id hl15
  obtain ⟨ho0, ho1, ho17, ho18, ft19, hft19, ho19⟩ := id hHo
  obtain ⟨ce0, nv, hV⟩ := hTr k hk
  obtain ⟨t1, ⟨ft, hft, t2⟩, t3⟩ := id hV
  refine lv_aload_n hx hb dX11_fillTriangle_0 rfl (lv_at hl 0 rfl) ?_
  refine h_get X Y (k := 9) (v := .ref (sA S 19)) ho0 rfl hin_X11 (by decide) kfl_X11_67 rfl dX11_fillTriangle_1 ?_
  refine lv_iload_n hx hb dX11_fillTriangle_4 rfl (lv_at hl 1 rfl) ?_
  refine h_aald X Y 4 (i := k) ho19 rfl (by omega) (by decide) dX11_fillTriangle_5 ?_
  refine h_rf (hft19 k (by omega)) ?_
  refine lv_astore_n (lv' := [(2, .ref (sA S (400 + 20 * k))), (0, .ref (sA S 0)), (1, .int (nI k))]) hx hb dX11_fillTriangle_6 rfl hl (by decide) rfl (fun ls hl => ?_)
  refine lv_aload_n hx hb dX11_fillTriangle_7 rfl (lv_at hl 0 rfl) ?_
  refine lv_aload_n hx hb dX11_fillTriangle_8 rfl (lv_at hl 1 rfl) ?_
  refine h_get X Y (k := 12) (v := .int (nI (hNow h))) ho0 rfl hin_X11 (by decide) kfl_X11_78 rfl dX11_fillTriangle_9 ?_
  refine h_callV (rest := []) X Y (c_begin l G M S hS k hk ce0 nv hV (hNow h)) gw_X11_350 dsc_X10_begin t1 rfl rfl rfl hl.1 rfl (Nat.le_of_ble_eq_true rfl) ⟨Nat.le_of_ble_eq_true rfl, Nat.le_of_ble_eq_true rfl⟩ ⟨Nat.le_of_ble_eq_true rfl, Nat.le_of_ble_eq_true rfl⟩ dX11_fillTriangle_12 ?_
  rintro _ M1 H locs ⟨rfl, ce1, hV, hz0, hq⟩ Y
  try dsimp only [Option.toList, List.nil_append]
  have hs0 : hSim G (hS3 k) M M1 := hq.mono (fun u q => Or.inr q)
  have hQv := hQv.sim (hq.mono (hS2_scr hk))
  obtain ⟨hS, -, hHo, hCe, hTr, -, -⟩ := id hQv
  obtain ⟨hl13, he14, hl15, he16, hLa, hCl⟩ := id hS
  obtain ⟨mc13, hlo13⟩ := id hl13
  obtain ⟨mc15, hlo15⟩ := id hl15
  obtain ⟨ho0, ho1, ho17, ho18, ft19, hft19, ho19⟩ := id hHo
  refine lv_iconst (v := 0) hx hb dX11_fillTriangle_15 (by decide) ?_
  refine lv_istore_n (lv' := [(3, .int 0), (2, .ref (sA S (400 + 20 * k))), (0, .ref (sA S 0)), (1, .int (nI k))]) hx hb dX11_fillTriangle_16 rfl hl (by decide) rfl (fun ls hl => ?_)
  have loop : ∀ (d a : Nat), a + d = hNow h + 2 → a ≤ hNow h + 1 → ∀ (M1 : hM) (ce1 : Nat → Nat → Int32), QV G M1 S h → TrV G M1 S k ce1 (nI (hNow h)) → hSim G (hS3 k) M M1 → (∀ y, y < 10 → ∀ b, b < 10 → ce1 y b = if b < a then qCell S (hNow h) k y b (sM S) else 0) → ∀ (H : Heap) (locs : List Loc) (ls : Array Slot), hHS G M1 s H locs → lv_has ls 6 [(0, .ref (sA S 0)), (1, .int (nI k)), (2, .ref (sA S (400 + 20 * k))), (3, .int (nI a))] → W p l e (hRm 9 0 0) s m args below meth c H locs 0 0 (MQ below (hQ G (fun v M' => v = none ∧ TrIs G M' S (hNow h) k ∧ hSim G (hS3 k) M M')) args s 0 0 (hA G)) (F0 m 17 ls []) := by
    intro d
    induction d with
    | zero => intro a h1; intros; exact absurd h1 (by omega)
    | succ d ih =>
      intro a h1 h2 M1 ce1 hQv hV hs0 hz H locs ls Y hl
      obtain ⟨hS, -, hHo, hCe, hTr, -, -⟩ := id hQv
      obtain ⟨hl13, he14, hl15, he16, hLa, hCl⟩ := id hS
      obtain ⟨mc13, hlo13⟩ := id hl13
      obtain ⟨mc15, hlo15⟩ := id hl15
      obtain ⟨ho0, ho1, ho17, ho18, ft19, hft19, ho19⟩ := id hHo
      obtain ⟨t1, ⟨ft, hft, t2⟩, t3⟩ := id hV
      obtain ⟨am, be, yl, lo, hW⟩ := hCe 2 (by omega)
      refine lv_iload_n hx hb dX11_fillTriangle_17 rfl (lv_at hl 3 rfl) ?_
      refine lv_aload_n hx hb dX11_fillTriangle_18 rfl (lv_at hl 0 rfl) ?_
      refine h_get X Y (k := 12) (v := .int (nI (hNow h))) ho0 rfl hin_X11 (by decide) kfl_X11_78 rfl dX11_fillTriangle_19 ?_
      refine lv_icmp_gt (tgt := 155) hx hb dX11_fillTriangle_22 (by decide) (fun c22 => ?_) (fun c22 => ?_)
      · have c22 : (hNow h) < a := (nI_ltI (a := (hNow h)) (b := a) (by omega) (by omega)).mp c22
        have hfin : ∀ y, y < 10 → ∀ b, b < 10 → ce1 y b = qCell S (hNow h) k y b (sM S) := by
          intro y hy b hb9
          rw [hz y hy b hb9]
          by_cases e1 : b < a
          · rw [if_pos e1]
          · rw [if_neg e1, qCell_0 S (hNow h) k y b (by omega)]
        exact h_vret X Y ⟨rfl, ⟨ce1, hV, hfin⟩, hs0⟩ (Nat.le_refl _) (Nat.le_refl _) dX11_fillTriangle_155
      · have c22 : ¬ (hNow h) < a := fun z9 => c22 ((nI_ltI (a := (hNow h)) (b := a) (by omega) (by omega)).mpr z9)
        refine lv_aload_n hx hb dX11_fillTriangle_25 rfl (lv_at hl 0 rfl) ?_
        refine lv_iload_n hx hb dX11_fillTriangle_26 rfl (lv_at hl 3 rfl) ?_
        skip
        have tail38 : ∀ (H : Heap) (locs : List Loc) (ls : Array Slot), hHS G M1 s H locs → lv_has ls 6 [(0, .ref (sA S 0)), (1, .int (nI k)), (2, .ref (sA S (400 + 20 * k))), (3, .int (nI a))] → W p l e (hRm 9 0 0) s m args below meth c H locs 0 0 (MQ below (hQ G (fun v M' => v = none ∧ TrIs G M' S (hNow h) k ∧ hSim G (hS3 k) M M')) args s 0 0 (hA G)) (F0 m 38 ls [.int (bI (kpd k)), .int (nI a), .ref (sA S 0)]) := by
          intro H locs ls Y hl
          refine h_callV (rest := []) X Y (c_tellAmountsAt l G M1 S h hQv am be yl lo hW a (kpd k) (by omega)) gw_X11_353 dsc_X11_tellAmountsAt ho0 rfl rfl rfl hl.1 rfl (Nat.le_of_ble_eq_true rfl) ⟨Nat.le_of_ble_eq_true rfl, Nat.le_of_ble_eq_true rfl⟩ ⟨Nat.le_of_ble_eq_true rfl, Nat.le_of_ble_eq_true rfl⟩ dX11_fillTriangle_38 ?_
          rintro _ M2 H locs ⟨rfl, am1, hW, ha, hq⟩ Y
          try dsimp only [Option.toList, List.nil_append]
          have hs0 := hs0.tr (hq.mono (fun u q => Or.inl q))
          have hV := hV.sim hq (hS1_2_tri hk)
          have hQv := hQv.sim (hq.mono (hS1_scr (by omega)))
          obtain ⟨hS, -, hHo, hCe, hTr, -, -⟩ := id hQv
          obtain ⟨hl13, he14, hl15, he16, hLa, hCl⟩ := id hS
          obtain ⟨mc13, hlo13⟩ := id hl13
          obtain ⟨mc15, hlo15⟩ := id hl15
          obtain ⟨ho0, ho1, ho17, ho18, ft19, hft19, ho19⟩ := id hHo
          refine lv_iload_n hx hb dX11_fillTriangle_41 rfl (lv_at hl 1 rfl) ?_
          refine lv_iconst (v := 2) hx hb dX11_fillTriangle_42 (by decide) ?_
          refine lv_icmp_lt (tgt := 61) hx hb dX11_fillTriangle_43 (by decide) (fun c43 => ?_) (fun c43 => ?_)
          · have c43 : k < 2 := (nI_ltI (a := k) (b := 2) (by omega) (by omega)).mp c43
            refine lv_iconst (v := 0) hx hb dX11_fillTriangle_61 (by decide) ?_
            refine lv_istore (lv' := [(4, .int 0), (0, .ref (sA S 0)), (1, .int (nI k)), (2, .ref (sA S (400 + 20 * k))), (3, .int (nI a))]) hx hb dX11_fillTriangle_62 hl (by decide) rfl (fun ls hl => ?_)
            have hz3 : ∀ y, y < 10 → ∀ b, b < 10 → ce1 y b = if b < a then qCell S (hNow h) k y b (sM S) else if b = a then qCell S (hNow h) k y a 0 else 0 := by
              intro y hy b hb9
              rw [hz y hy b hb9]
              by_cases e1 : b < a
              · rw [if_pos e1, if_pos e1]
              · rw [if_neg e1, if_neg e1]
                by_cases e2 : b = a
                · rw [if_pos e2]; rfl
                · rw [if_neg e2]
            have loop2 : ∀ (d i : Nat), i + d = sM S + 1 → i ≤ sM S → ∀ (M3 : hM) (ce3 : Nat → Nat → Int32), QV G M3 S h → TrV G M3 S k ce3 (nI (hNow h)) → CesV G M3 S 2 am1 be yl lo → hSim G (hS3 k) M M3 → (∀ y, y < 10 → ∀ b, b < 10 → ce3 y b = if b < a then qCell S (hNow h) k y b (sM S) else if b = a then qCell S (hNow h) k y a i else 0) → ∀ (H : Heap) (locs : List Loc) (ls : Array Slot), hHS G M3 s H locs → lv_has ls 6 [(0, .ref (sA S 0)), (1, .int (nI k)), (2, .ref (sA S (400 + 20 * k))), (3, .int (nI a)), (4, .int (nI i))] → W p l e (hRm 9 0 0) s m args below meth c H locs 0 0 (MQ below (hQ G (fun v M' => v = none ∧ TrIs G M' S (hNow h) k ∧ hSim G (hS3 k) M M')) args s 0 0 (hA G)) (F0 m 64 ls []) := by
              intro d
              induction d with
              | zero => intro i h1; intros; exact absurd h1 (by omega)
              | succ d ih2 =>
                intro i i1 i2 M3 ce3 hQv hV hW hs0 hz3 H locs ls Y hl
                obtain ⟨hS, -, hHo, hCe, hTr, -, -⟩ := id hQv
                obtain ⟨hl13, he14, hl15, he16, hLa, hCl⟩ := id hS
                obtain ⟨mc13, hlo13⟩ := id hl13
                obtain ⟨mc15, hlo15⟩ := id hl15
                obtain ⟨ho0, ho1, ho17, ho18, ft19, hft19, ho19⟩ := id hHo
                obtain ⟨t1, ⟨ft, hft, t2⟩, t3⟩ := id hV
                obtain ⟨ho, ham, -⟩ := id hW
                refine lv_iload hx hb dX11_fillTriangle_64 (lv_at hl 4 rfl) ?_
                refine lv_aload_n hx hb dX11_fillTriangle_66 rfl (lv_at hl 0 rfl) ?_
                refine h_get X Y (k := 5) (v := .ref (sA S 15)) ho0 rfl hin_X11 (by decide) kfl_X11_46 rfl dX11_fillTriangle_67 ?_
                refine h_callVr (rest := [.int (nI i)]) X Y (c_size l G M3 (sA S 15) 15 (sA S 16) (sM S) hl15) rfl rfl gw_X11_176 dsc_Jx4a65c_size_8abf5 hlo15 rfl rfl rfl rfl hl.1 (Nat.le_of_ble_eq_true rfl) ⟨Nat.le_of_ble_eq_true rfl, Nat.le_of_ble_eq_true rfl⟩ ⟨Nat.le_of_ble_eq_true rfl, Nat.le_of_ble_eq_true rfl⟩ dX11_fillTriangle_70 (fun H locs Y => ?_)
                refine lv_icmp_ge (tgt := 149) hx hb dX11_fillTriangle_73 (by decide) (fun c73 => ?_) (fun c73 => ?_)
                · have c73 : (sM S) ≤ i := (nI_leI (a := (sM S)) (b := i) (by omega) (by omega)).mp c73
                  have hk9 : i = (sM S) := by omega
                  subst hk9
                  have hz1 : ∀ y, y < 10 → ∀ b, b < 10 → ce3 y b = if b < a + 1 then qCell S (hNow h) k y b (sM S) else 0 := by
                    intro y hy b hb9
                    rw [hz3 y hy b hb9]
                    by_cases e1 : b < a
                    · rw [if_pos e1, if_pos (by omega)]
                    · rw [if_neg e1]
                      by_cases e2 : b = a
                      · subst e2; rw [if_pos rfl, if_pos (by omega)]
                      · rw [if_neg e2, if_neg (by omega)]
                  refine lv_iinc (v := nI (a + 1)) (lv' := [(3, .int (nI (a + 1))), (0, .ref (sA S 0)), (1, .int (nI k)), (2, .ref (sA S (400 + 20 * k))), (4, .int (nI (sM S)))]) hx hb dX11_fillTriangle_149 hl (k := 3) rfl (nI_1 a) (by decide) rfl (fun ls hl => ?_)
                  refine lv_goto (tgt := 17) hx hb dX11_fillTriangle_152 (by decide) ?_
                  exact ih (a + 1) (by omega) (by omega) M3 _ hQv hV hs0 hz1 _ _ _ Y (lv_sub hl [1, 2, 3, 0] rfl)
                · have c73 : ¬ (sM S) ≤ i := fun z9 => c73 ((nI_leI (a := (sM S)) (b := i) (by omega) (by omega)).mpr z9)
                  have hy := hyn i (by omega)
                  have hcy := hCY i (by omega)
                  refine lv_aload_n hx hb dX11_fillTriangle_76 rfl (lv_at hl 0 rfl) ?_
                  refine h_get X Y (k := 5) (v := .ref (sA S 15)) ho0 rfl hin_X11 (by decide) kfl_X11_46 rfl dX11_fillTriangle_77 ?_
                  refine lv_iload hx hb dX11_fillTriangle_80 (lv_at hl 4 rfl) ?_
                  refine h_callVr (rest := []) X Y (c_get l G M3 (sA S 15) 15 (sA S 16) 16 (sM S) i (fun i => sA S (1000 + 10 * i)) hl15 (he16 (by omega)) (by omega)) rfl rfl gw_X11_150 dsc_Jx4a65c_get_915e3 hlo15 rfl rfl rfl rfl hl.1 (Nat.le_of_ble_eq_true rfl) ⟨Nat.le_of_ble_eq_true rfl, Nat.le_of_ble_eq_true rfl⟩ ⟨Nat.le_of_ble_eq_true rfl, Nat.le_of_ble_eq_true rfl⟩ dX11_fillTriangle_82 (fun H locs Y => ?_)
                  refine h_cast X Y (hCl i (by omega)).1 rfl rfl kcl_X11_181 dX11_fillTriangle_85 ?_
                  refine h_get X Y (k := 0) (v := .int (nI (clY (sC S i)))) (hCl i (by omega)).1 rfl hin_X3 (by decide) kfl_X11_224 rfl dX11_fillTriangle_88 ?_
                  refine lv_istore (lv' := [(5, .int (nI (clY (sC S i)))), (0, .ref (sA S 0)), (1, .int (nI k)), (2, .ref (sA S (400 + 20 * k))), (3, .int (nI a)), (4, .int (nI i))]) hx hb dX11_fillTriangle_91 hl (by decide) rfl (fun ls hl => ?_)
                  refine lv_iload_n hx hb dX11_fillTriangle_93 rfl (lv_at hl 4 rfl) ?_
                  refine lv_aload_n hx hb dX11_fillTriangle_94 rfl (lv_at hl 1 rfl) ?_
                  refine h_get X Y (k := 12) (v := .int (nI (hNow h))) ho0 rfl hin_X11 (by decide) kfl_X11_78 rfl dX11_fillTriangle_95 ?_
                  refine lv_iload hx hb dX11_fillTriangle_98 (lv_at hl 0 rfl) ?_
                  refine lv_isub hx hb dX11_fillTriangle_100 ?_
                  refine h_ev (y := nI (hNow h - clY (sC S i))) (pk_sub hy) ?_
                  refine lv_icmp_gt (tgt := 143) hx hb dX11_fillTriangle_101 (by decide) (fun c101 => ?_) (fun c101 => ?_)
                  · have c101 : (hNow h - clY (sC S i)) < a := (nI_ltI (a := (hNow h - clY (sC S i))) (b := a) (by omega) (by omega)).mp c101
                    refine lv_iinc (v := nI (i + 1)) (lv' := [(4, .int (nI (i + 1))), (5, .int (nI (clY (sC S i)))), (0, .ref (sA S 0)), (1, .int (nI k)), (2, .ref (sA S (400 + 20 * k))), (3, .int (nI a))]) hx hb dX11_fillTriangle_143 hl (k := 5) rfl (nI_1 i) (by decide) rfl (fun ls hl => ?_)
                    refine lv_goto (tgt := 64) hx hb dX11_fillTriangle_146 (by decide) ?_
                    refine ih2 (i + 1) (by omega) (by omega) M3 _ hQv hV hW hs0 ?_ _ _ _ Y (lv_sub hl [2, 3, 4, 5, 0] rfl)
                    intro y hy b hb9
                    rw [hz3 y hy b hb9]
                    have e2 : qCell S (hNow h) k y a (i + 1) = qCell S (hNow h) k y a i := if_neg (fun z9 => by have := z9.1; have := z9.2; omega)
                    rw [e2]
                  · have c101 : ¬ (hNow h - clY (sC S i)) < a := fun z9 => c101 ((nI_ltI (a := (hNow h - clY (sC S i))) (b := a) (by omega) (by omega)).mpr z9)
                    refine lv_aload_n hx hb dX11_fillTriangle_104 rfl (lv_at hl 3 rfl) ?_
                    refine h_get X Y (k := 0) (v := .ref (sA S (400 + 20 * k + 1))) t1 rfl hin_X10 (by decide) kfl_X11_262 rfl dX11_fillTriangle_105 ?_
                    refine lv_iload hx hb dX11_fillTriangle_108 (lv_at hl 0 rfl) ?_
                    refine h_aaldI X Y (i := (clY (sC S i))) t2 (by omega) (by decide) dX11_fillTriangle_110 ?_
                    refine h_rf (hft (clY (sC S i)) (by omega)) ?_
                    refine lv_iload_n hx hb dX11_fillTriangle_111 rfl (lv_at hl 4 rfl) ?_
                    refine lv_dup2_11 hx hb dX11_fillTriangle_112 rfl rfl ?_
                    refine h_iald X Y (i := a) (t3 (clY (sC S i)) (by omega)) (by omega) (by decide) dX11_fillTriangle_113 ?_
                    refine lv_iload_n hx hb dX11_fillTriangle_114 rfl (lv_at hl 2 rfl) ?_
                    refine lv_iconst (v := 2) hx hb dX11_fillTriangle_115 (by decide) ?_
                    refine lv_icmp_lt (tgt := 131) hx hb dX11_fillTriangle_116 (by decide) (fun c116 => ?_) (fun c116 => absurd (show ¬ k < 2 from fun z9 => c116 ((nI_ltI (a := k) (b := 2) (by omega) (by omega)).mpr z9)) (by omega))
                    have c116 : k < 2 := (nI_ltI (a := k) (b := 2) (by omega) (by omega)).mp c116
                    refine lv_aload_n hx hb dX11_fillTriangle_131 rfl (lv_at hl 1 rfl) ?_
                    refine h_get X Y (k := 8) (v := .ref (sA S (100 * (2 + 1)))) ho0 rfl hin_X11 (by decide) kfl_X11_61 rfl dX11_fillTriangle_132 ?_
                    refine h_get X Y (k := 0) (v := .ref (sA S (100 * (2 + 1) + 1))) ho rfl hin_X1 (by decide) kfl_X11_295 rfl dX11_fillTriangle_135 ?_
                    refine lv_iload hx hb dX11_fillTriangle_138 (lv_at hl 5 rfl) ?_
                    refine h_iald X Y (i := i) ham (by omega) (by decide) dX11_fillTriangle_140 ?_
                    have hval : am1 i = qVal S (hNow h) k a i := (ha i (by omega)).trans (if_neg (by omega)).symm
                    refine lv_iadd hx hb dX11_fillTriangle_141 ?_
                    refine h_iast X Y (i := a) (t3 (clY (sC S i)) (by omega)) (by omega) (by decide) dX11_fillTriangle_142 (fun H locs Y => ?_)
                    obtain ⟨hV, -, hq⟩ := TrV.putRow hk (clY (sC S i)) hcy (upd (ce3 (clY (sC S i))) a (((ce3 (clY (sC S i))) a) + (am1 i))) hV hS
                    have hs0 := hs0.tr (hq.mono (fun u q => Or.inr q))
                    have hW := hW.sim hq (hS2_ces (by omega))
                    generalize hup M3 _ _ = M3 at Y hV hq hs0 hW
                    have hQv := hQv.sim (hq.mono (hS2_scr hk))
                    obtain ⟨hS, -, hHo, hCe, hTr, -, -⟩ := id hQv
                    obtain ⟨hl13, he14, hl15, he16, hLa, hCl⟩ := id hS
                    obtain ⟨mc13, hlo13⟩ := id hl13
                    obtain ⟨mc15, hlo15⟩ := id hl15
                    obtain ⟨ho0, ho1, ho17, ho18, ft19, hft19, ho19⟩ := id hHo
                    refine lv_iinc (v := nI (i + 1)) (lv' := [(4, .int (nI (i + 1))), (5, .int (nI (clY (sC S i)))), (0, .ref (sA S 0)), (1, .int (nI k)), (2, .ref (sA S (400 + 20 * k))), (3, .int (nI a))]) hx hb dX11_fillTriangle_143 hl (k := 5) rfl (nI_1 i) (by decide) rfl (fun ls hl => ?_)
                    refine lv_goto (tgt := 64) hx hb dX11_fillTriangle_146 (by decide) ?_
                    refine ih2 (i + 1) (by omega) (by omega) M3 _ hQv hV hW hs0 ?_ _ _ _ Y (lv_sub hl [2, 3, 4, 5, 0] rfl)
                    intro y hy b hb9
                    by_cases e : y = clY (sC S i)
                    · subst e
                      rw [va_up_self]
                      by_cases eb : b = a
                      · subst eb
                        rw [pk_us, hz3 _ hy b hb9, if_neg (by omega), if_pos rfl, if_neg (by omega), if_pos rfl]
                        exact (congrArg (fun z => qCell S (hNow h) k (clY (sC S i)) b i + z) hval).trans (if_pos ⟨rfl, by omega⟩).symm
                      · rw [pk_un eb, hz3 _ hy b hb9]
                        by_cases e1 : b < a
                        · rw [if_pos e1, if_pos e1]
                        · rw [if_neg e1, if_neg eb, if_neg e1, if_neg eb]
                    · rw [va_up_ne _ _ e, hz3 y hy b hb9]
                      have e2 : qCell S (hNow h) k y a (i + 1) = qCell S (hNow h) k y a i := if_neg (fun z9 => e z9.1.symm)
                      rw [e2]
            exact loop2 (sM S + 1) 0 (by omega) (by omega) _ ce1 hQv hV hW hs0 hz3 _ _ _ Y (lv_sub hl [1, 2, 3, 4, 0] rfl)
          · have c43 : ¬ k < 2 := fun z9 => c43 ((nI_ltI (a := k) (b := 2) (by omega) (by omega)).mpr z9)
            refine lv_aload_n hx hb dX11_fillTriangle_46 rfl (lv_at hl 0 rfl) ?_
            refine h_get X Y (k := 8) (v := .ref (sA S (100 * (2 + 1)))) ho0 rfl hin_X11 (by decide) kfl_X11_61 rfl dX11_fillTriangle_47 ?_
            refine lv_aload_n hx hb dX11_fillTriangle_50 rfl (lv_at hl 0 rfl) ?_
            refine h_get X Y (k := 5) (v := .ref (sA S 15)) ho0 rfl hin_X11 (by decide) kfl_X11_46 rfl dX11_fillTriangle_51 ?_
            refine h_callVr (rest := [.ref (sA S (100 * (2 + 1)))]) X Y (c_size l G M2 (sA S 15) 15 (sA S 16) (sM S) hl15) rfl rfl gw_X11_176 dsc_Jx4a65c_size_8abf5 hlo15 rfl rfl rfl rfl hl.1 (Nat.le_of_ble_eq_true rfl) ⟨Nat.le_of_ble_eq_true rfl, Nat.le_of_ble_eq_true rfl⟩ ⟨Nat.le_of_ble_eq_true rfl, Nat.le_of_ble_eq_true rfl⟩ dX11_fillTriangle_54 (fun H locs Y => ?_)
            refine lv_iconst (v := (-1)) hx hb dX11_fillTriangle_57 (by decide) ?_
            obtain ⟨ho, -⟩ := id hW
            refine h_callV (rest := []) X Y (c_cedeAhead l G M2 S hS hG1 2 am1 be yl lo hW (by omega) (sM S) (-1) (Nat.le_refl _)) gw_X11_298 dsc_X1_cedeAhead ho rfl rfl rfl hl.1 rfl (Nat.le_of_ble_eq_true rfl) ⟨Nat.le_of_ble_eq_true rfl, Nat.le_of_ble_eq_true rfl⟩ ⟨Nat.le_of_ble_eq_true rfl, Nat.le_of_ble_eq_true rfl⟩ dX11_fillTriangle_58 ?_
            rintro _ M4 H locs ⟨rfl, be2, yl2, lo2, hW, hbq, hy2, hq⟩ Y
            try dsimp only [Option.toList, List.nil_append]
            have hs0 := hs0.tr (hq.mono (fun u q => Or.inl q))
            have hV := hV.sim hq (hS1_2_tri hk)
            have hQv := hQv.sim (hq.mono (hS1_scr (by omega)))
            obtain ⟨hS, -, hHo, hCe, hTr, -, -⟩ := id hQv
            obtain ⟨hl13, he14, hl15, he16, hLa, hCl⟩ := id hS
            obtain ⟨mc13, hlo13⟩ := id hl13
            obtain ⟨mc15, hlo15⟩ := id hl15
            obtain ⟨ho0, ho1, ho17, ho18, ft19, hft19, ho19⟩ := id hHo
            have hbq : ∀ i, i < sM S → ∀ j, j < sN S → be2 i j = pBe S (-1) (qAt S (hNow h) a (kpd k)) i j := fun i hi j hj => (hbq i hi j hj).trans (congrFun (pBe_congr S (-1) i (fun z hz => ha z (by omega))) j)
            refine lv_iconst (v := 0) hx hb dX11_fillTriangle_61 (by decide) ?_
            refine lv_istore (lv' := [(4, .int 0), (0, .ref (sA S 0)), (1, .int (nI k)), (2, .ref (sA S (400 + 20 * k))), (3, .int (nI a))]) hx hb dX11_fillTriangle_62 hl (by decide) rfl (fun ls hl => ?_)
            have hz3 : ∀ y, y < 10 → ∀ b, b < 10 → ce1 y b = if b < a then qCell S (hNow h) k y b (sM S) else if b = a then qCell S (hNow h) k y a 0 else 0 := by
              intro y hy b hb9
              rw [hz y hy b hb9]
              by_cases e1 : b < a
              · rw [if_pos e1, if_pos e1]
              · rw [if_neg e1, if_neg e1]
                by_cases e2 : b = a
                · rw [if_pos e2]; rfl
                · rw [if_neg e2]
            have loop2 : ∀ (d i : Nat), i + d = sM S + 1 → i ≤ sM S → ∀ (M3 : hM) (ce3 : Nat → Nat → Int32), QV G M3 S h → TrV G M3 S k ce3 (nI (hNow h)) → CesV G M3 S 2 am1 be2 yl2 lo2 → hSim G (hS3 k) M M3 → (∀ y, y < 10 → ∀ b, b < 10 → ce3 y b = if b < a then qCell S (hNow h) k y b (sM S) else if b = a then qCell S (hNow h) k y a i else 0) → ∀ (H : Heap) (locs : List Loc) (ls : Array Slot), hHS G M3 s H locs → lv_has ls 6 [(0, .ref (sA S 0)), (1, .int (nI k)), (2, .ref (sA S (400 + 20 * k))), (3, .int (nI a)), (4, .int (nI i))] → W p l e (hRm 9 0 0) s m args below meth c H locs 0 0 (MQ below (hQ G (fun v M' => v = none ∧ TrIs G M' S (hNow h) k ∧ hSim G (hS3 k) M M')) args s 0 0 (hA G)) (F0 m 64 ls []) := by
              intro d
              induction d with
              | zero => intro i h1; intros; exact absurd h1 (by omega)
              | succ d ih2 =>
                intro i i1 i2 M3 ce3 hQv hV hW hs0 hz3 H locs ls Y hl
                obtain ⟨hS, -, hHo, hCe, hTr, -, -⟩ := id hQv
                obtain ⟨hl13, he14, hl15, he16, hLa, hCl⟩ := id hS
                obtain ⟨mc13, hlo13⟩ := id hl13
                obtain ⟨mc15, hlo15⟩ := id hl15
                obtain ⟨ho0, ho1, ho17, ho18, ft19, hft19, ho19⟩ := id hHo
                obtain ⟨t1, ⟨ft, hft, t2⟩, t3⟩ := id hV
                obtain ⟨ho, ham, -⟩ := id hW
                refine lv_iload hx hb dX11_fillTriangle_64 (lv_at hl 4 rfl) ?_
                refine lv_aload_n hx hb dX11_fillTriangle_66 rfl (lv_at hl 0 rfl) ?_
                refine h_get X Y (k := 5) (v := .ref (sA S 15)) ho0 rfl hin_X11 (by decide) kfl_X11_46 rfl dX11_fillTriangle_67 ?_
                refine h_callVr (rest := [.int (nI i)]) X Y (c_size l G M3 (sA S 15) 15 (sA S 16) (sM S) hl15) rfl rfl gw_X11_176 dsc_Jx4a65c_size_8abf5 hlo15 rfl rfl rfl rfl hl.1 (Nat.le_of_ble_eq_true rfl) ⟨Nat.le_of_ble_eq_true rfl, Nat.le_of_ble_eq_true rfl⟩ ⟨Nat.le_of_ble_eq_true rfl, Nat.le_of_ble_eq_true rfl⟩ dX11_fillTriangle_70 (fun H locs Y => ?_)
                refine lv_icmp_ge (tgt := 149) hx hb dX11_fillTriangle_73 (by decide) (fun c73 => ?_) (fun c73 => ?_)
                · have c73 : (sM S) ≤ i := (nI_leI (a := (sM S)) (b := i) (by omega) (by omega)).mp c73
                  have hk9 : i = (sM S) := by omega
                  subst hk9
                  have hz1 : ∀ y, y < 10 → ∀ b, b < 10 → ce3 y b = if b < a + 1 then qCell S (hNow h) k y b (sM S) else 0 := by
                    intro y hy b hb9
                    rw [hz3 y hy b hb9]
                    by_cases e1 : b < a
                    · rw [if_pos e1, if_pos (by omega)]
                    · rw [if_neg e1]
                      by_cases e2 : b = a
                      · subst e2; rw [if_pos rfl, if_pos (by omega)]
                      · rw [if_neg e2, if_neg (by omega)]
                  refine lv_iinc (v := nI (a + 1)) (lv' := [(3, .int (nI (a + 1))), (0, .ref (sA S 0)), (1, .int (nI k)), (2, .ref (sA S (400 + 20 * k))), (4, .int (nI (sM S)))]) hx hb dX11_fillTriangle_149 hl (k := 3) rfl (nI_1 a) (by decide) rfl (fun ls hl => ?_)
                  refine lv_goto (tgt := 17) hx hb dX11_fillTriangle_152 (by decide) ?_
                  exact ih (a + 1) (by omega) (by omega) M3 _ hQv hV hs0 hz1 _ _ _ Y (lv_sub hl [1, 2, 3, 0] rfl)
                · have c73 : ¬ (sM S) ≤ i := fun z9 => c73 ((nI_leI (a := (sM S)) (b := i) (by omega) (by omega)).mpr z9)
                  have hy := hyn i (by omega)
                  have hcy := hCY i (by omega)
                  refine lv_aload_n hx hb dX11_fillTriangle_76 rfl (lv_at hl 0 rfl) ?_
                  refine h_get X Y (k := 5) (v := .ref (sA S 15)) ho0 rfl hin_X11 (by decide) kfl_X11_46 rfl dX11_fillTriangle_77 ?_
                  refine lv_iload hx hb dX11_fillTriangle_80 (lv_at hl 4 rfl) ?_
                  refine h_callVr (rest := []) X Y (c_get l G M3 (sA S 15) 15 (sA S 16) 16 (sM S) i (fun i => sA S (1000 + 10 * i)) hl15 (he16 (by omega)) (by omega)) rfl rfl gw_X11_150 dsc_Jx4a65c_get_915e3 hlo15 rfl rfl rfl rfl hl.1 (Nat.le_of_ble_eq_true rfl) ⟨Nat.le_of_ble_eq_true rfl, Nat.le_of_ble_eq_true rfl⟩ ⟨Nat.le_of_ble_eq_true rfl, Nat.le_of_ble_eq_true rfl⟩ dX11_fillTriangle_82 (fun H locs Y => ?_)
                  refine h_cast X Y (hCl i (by omega)).1 rfl rfl kcl_X11_181 dX11_fillTriangle_85 ?_
                  refine h_get X Y (k := 0) (v := .int (nI (clY (sC S i)))) (hCl i (by omega)).1 rfl hin_X3 (by decide) kfl_X11_224 rfl dX11_fillTriangle_88 ?_
                  refine lv_istore (lv' := [(5, .int (nI (clY (sC S i)))), (0, .ref (sA S 0)), (1, .int (nI k)), (2, .ref (sA S (400 + 20 * k))), (3, .int (nI a)), (4, .int (nI i))]) hx hb dX11_fillTriangle_91 hl (by decide) rfl (fun ls hl => ?_)
                  refine lv_iload_n hx hb dX11_fillTriangle_93 rfl (lv_at hl 4 rfl) ?_
                  refine lv_aload_n hx hb dX11_fillTriangle_94 rfl (lv_at hl 1 rfl) ?_
                  refine h_get X Y (k := 12) (v := .int (nI (hNow h))) ho0 rfl hin_X11 (by decide) kfl_X11_78 rfl dX11_fillTriangle_95 ?_
                  refine lv_iload hx hb dX11_fillTriangle_98 (lv_at hl 0 rfl) ?_
                  refine lv_isub hx hb dX11_fillTriangle_100 ?_
                  refine h_ev (y := nI (hNow h - clY (sC S i))) (pk_sub hy) ?_
                  refine lv_icmp_gt (tgt := 143) hx hb dX11_fillTriangle_101 (by decide) (fun c101 => ?_) (fun c101 => ?_)
                  · have c101 : (hNow h - clY (sC S i)) < a := (nI_ltI (a := (hNow h - clY (sC S i))) (b := a) (by omega) (by omega)).mp c101
                    refine lv_iinc (v := nI (i + 1)) (lv' := [(4, .int (nI (i + 1))), (5, .int (nI (clY (sC S i)))), (0, .ref (sA S 0)), (1, .int (nI k)), (2, .ref (sA S (400 + 20 * k))), (3, .int (nI a))]) hx hb dX11_fillTriangle_143 hl (k := 5) rfl (nI_1 i) (by decide) rfl (fun ls hl => ?_)
                    refine lv_goto (tgt := 64) hx hb dX11_fillTriangle_146 (by decide) ?_
                    refine ih2 (i + 1) (by omega) (by omega) M3 _ hQv hV hW hs0 ?_ _ _ _ Y (lv_sub hl [2, 3, 4, 5, 0] rfl)
                    intro y hy b hb9
                    rw [hz3 y hy b hb9]
                    have e2 : qCell S (hNow h) k y a (i + 1) = qCell S (hNow h) k y a i := if_neg (fun z9 => by have := z9.1; have := z9.2; omega)
                    rw [e2]
                  · have c101 : ¬ (hNow h - clY (sC S i)) < a := fun z9 => c101 ((nI_ltI (a := (hNow h - clY (sC S i))) (b := a) (by omega) (by omega)).mpr z9)
                    refine lv_aload_n hx hb dX11_fillTriangle_104 rfl (lv_at hl 3 rfl) ?_
                    refine h_get X Y (k := 0) (v := .ref (sA S (400 + 20 * k + 1))) t1 rfl hin_X10 (by decide) kfl_X11_262 rfl dX11_fillTriangle_105 ?_
                    refine lv_iload hx hb dX11_fillTriangle_108 (lv_at hl 0 rfl) ?_
                    refine h_aaldI X Y (i := (clY (sC S i))) t2 (by omega) (by decide) dX11_fillTriangle_110 ?_
                    refine h_rf (hft (clY (sC S i)) (by omega)) ?_
                    refine lv_iload_n hx hb dX11_fillTriangle_111 rfl (lv_at hl 4 rfl) ?_
                    refine lv_dup2_11 hx hb dX11_fillTriangle_112 rfl rfl ?_
                    refine h_iald X Y (i := a) (t3 (clY (sC S i)) (by omega)) (by omega) (by decide) dX11_fillTriangle_113 ?_
                    refine lv_iload_n hx hb dX11_fillTriangle_114 rfl (lv_at hl 2 rfl) ?_
                    refine lv_iconst (v := 2) hx hb dX11_fillTriangle_115 (by decide) ?_
                    refine lv_icmp_lt (tgt := 131) hx hb dX11_fillTriangle_116 (by decide) (fun c116 => absurd (show k < 2 from (nI_ltI (a := k) (b := 2) (by omega) (by omega)).mp c116) (by omega)) (fun c116 => ?_)
                    have c116 : ¬ k < 2 := fun z9 => c116 ((nI_ltI (a := k) (b := 2) (by omega) (by omega)).mpr z9)
                    refine lv_aload_n hx hb dX11_fillTriangle_119 rfl (lv_at hl 1 rfl) ?_
                    refine h_get X Y (k := 8) (v := .ref (sA S (100 * (2 + 1)))) ho0 rfl hin_X11 (by decide) kfl_X11_61 rfl dX11_fillTriangle_120 ?_
                    refine lv_iload hx hb dX11_fillTriangle_123 (lv_at hl 5 rfl) ?_
                    refine h_callVr (rest := [.int ((ce3 (clY (sC S i))) a), .int (nI a), .ref (sA S (400 + 20 * k + 2 + (clY (sC S i))))]) X Y (c_leftOf l G M3 S hS hG1 2 am1 be2 yl2 lo2 hW i (by omega)) rfl rfl gw_X11_357 dsc_X1_leftOf ho rfl rfl rfl rfl hl.1 (Nat.le_of_ble_eq_true rfl) ⟨Nat.le_of_ble_eq_true rfl, Nat.le_of_ble_eq_true rfl⟩ ⟨Nat.le_of_ble_eq_true rfl, Nat.le_of_ble_eq_true rfl⟩ dX11_fillTriangle_125 (fun H locs Y => ?_)
                    refine lv_goto (tgt := 141) hx hb dX11_fillTriangle_128 (by decide) ?_
                    have hval : rLeft S am1 be2 i = qVal S (hNow h) k a i := (rLeft_congr S (ha i (by omega)) (hbq i (by omega))).trans (if_pos (by omega)).symm
                    refine lv_iadd hx hb dX11_fillTriangle_141 ?_
                    refine h_iast X Y (i := a) (t3 (clY (sC S i)) (by omega)) (by omega) (by decide) dX11_fillTriangle_142 (fun H locs Y => ?_)
                    obtain ⟨hV, -, hq⟩ := TrV.putRow hk (clY (sC S i)) hcy (upd (ce3 (clY (sC S i))) a (((ce3 (clY (sC S i))) a) + (rLeft S am1 be2 i))) hV hS
                    have hs0 := hs0.tr (hq.mono (fun u q => Or.inr q))
                    have hW := hW.sim hq (hS2_ces (by omega))
                    generalize hup M3 _ _ = M5 at Y hV hq hs0 hW
                    have hQv := hQv.sim (hq.mono (hS2_scr hk))
                    obtain ⟨hS, -, hHo, hCe, hTr, -, -⟩ := id hQv
                    obtain ⟨hl13, he14, hl15, he16, hLa, hCl⟩ := id hS
                    obtain ⟨mc13, hlo13⟩ := id hl13
                    obtain ⟨mc15, hlo15⟩ := id hl15
                    obtain ⟨ho0, ho1, ho17, ho18, ft19, hft19, ho19⟩ := id hHo
                    refine lv_iinc (v := nI (i + 1)) (lv' := [(4, .int (nI (i + 1))), (5, .int (nI (clY (sC S i)))), (0, .ref (sA S 0)), (1, .int (nI k)), (2, .ref (sA S (400 + 20 * k))), (3, .int (nI a))]) hx hb dX11_fillTriangle_143 hl (k := 5) rfl (nI_1 i) (by decide) rfl (fun ls hl => ?_)
                    refine lv_goto (tgt := 64) hx hb dX11_fillTriangle_146 (by decide) ?_
                    refine ih2 (i + 1) (by omega) (by omega) M5 _ hQv hV hW hs0 ?_ _ _ _ Y (lv_sub hl [2, 3, 4, 5, 0] rfl)
                    intro y hy b hb9
                    by_cases e : y = clY (sC S i)
                    · subst e
                      rw [va_up_self]
                      by_cases eb : b = a
                      · subst eb
                        rw [pk_us, hz3 _ hy b hb9, if_neg (by omega), if_pos rfl, if_neg (by omega), if_pos rfl]
                        exact (congrArg (fun z => qCell S (hNow h) k (clY (sC S i)) b i + z) hval).trans (if_pos ⟨rfl, by omega⟩).symm
                      · rw [pk_un eb, hz3 _ hy b hb9]
                        by_cases e1 : b < a
                        · rw [if_pos e1, if_pos e1]
                        · rw [if_neg e1, if_neg eb, if_neg e1, if_neg eb]
                    · rw [va_up_ne _ _ e, hz3 y hy b hb9]
                      have e2 : qCell S (hNow h) k y a (i + 1) = qCell S (hNow h) k y a i := if_neg (fun z9 => e z9.1.symm)
                      rw [e2]
            exact loop2 (sM S + 1) 0 (by omega) (by omega) _ ce1 hQv hV hW hs0 hz3 _ _ _ Y (lv_sub hl [1, 2, 3, 4, 0] rfl)
        refine lv_iload_n hx hb dX11_fillTriangle_27 rfl (lv_at hl 1 rfl) ?_
        refine lv_iconst (v := 2) hx hb dX11_fillTriangle_28 (by decide) ?_
        refine lv_irem hx hb dX11_fillTriangle_29 (by decide) ?_
        refine h_ev (y := nI (k % 2)) (pk_rem (a := k) (d := 2) (by omega) (by omega) (by omega)) ?_
        refine lv_if_ne (tgt := 37) hx hb dX11_fillTriangle_30 (by decide) (fun c30 => ?_) (fun c30 => ?_)
        · have c30 : ¬ (k % 2) = 0 := fun z9 => c30 ((nI_eq (a := (k % 2)) (b := 0) (by omega) (by omega)).mpr z9)
          refine lv_iconst (v := 0) hx hb dX11_fillTriangle_37 (by decide) ?_
          have hpd : kpd k = false := by unfold kpd; exact beq_eq_false_iff_ne.mpr c30
          refine h_ev (y := bI (kpd k)) (by rw [hpd]; rfl) ?_
          exact tail38 _ _ _ Y (lv_sub hl [0, 1, 2, 3] rfl)
        · have c30 : (k % 2) = 0 := (nI_eq (a := (k % 2)) (b := 0) (by omega) (by omega)).mp c30
          refine lv_iconst (v := 1) hx hb dX11_fillTriangle_33 (by decide) ?_
          refine lv_goto (tgt := 38) hx hb dX11_fillTriangle_34 (by decide) ?_
          have hpd : kpd k = true := by unfold kpd; rw [c30]; rfl
          refine h_ev (y := bI (kpd k)) (by rw [hpd]; rfl) ?_
          exact tail38 _ _ _ Y (lv_sub hl [0, 1, 2, 3] rfl)
  exact loop (hNow h + 2) 0 (by omega) (by omega) _ ce1 hQv hV hs0 (fun y hy b hb => (hz0 y hy b hb).trans (if_neg (by omega)).symm) _ _ _ Y (lv_sub hl [2, 3, 1, 0] rfl)
