theorem pB_congr (S : hSy) (mu : Int32) (y : Nat) (line a : Int32) {yl yl' : Nat → Int32} : ∀ k, (∀ j, j < k → yl j = yl' j) → pB S mu y line a yl k = pB S mu y line a yl' k
  | 0, _ => rfl
  | k + 1, h => by
    unfold pB
    rw [pB_congr S mu y line a k (fun j hj => h j (by omega)), h k (by omega)]
theorem pYl_s (S : hSy) (mu : Int32) (am : Nat → Int32) (i k : Nat) : pYl S mu am (i + 1) k (clY (sC S i)) = pYl S mu am i k (clY (sC S i)) + pLoss S mu k (clI (sC S i) 0) (am i) (pB S mu (clY (sC S i)) (clI (sC S i) 0) (am i) (fun k => pYl S mu am i k (clY (sC S i))) k) := if_pos rfl
theorem pYl_n (S : hSy) (mu : Int32) (am : Nat → Int32) (i k y : Nat) (h : y ≠ clY (sC S i)) : pYl S mu am (i + 1) k y = pYl S mu am i k y := if_neg h
theorem gw_X1_39 : GoodIn hGW (wsV RX1 39 RX1 yX1_cede (Cond.code yX1_cede cX1_cede 8 (Option.none) :: hGW)) := hgi4 kml_X1_39 kin_X1_cede kse_X1_X1_cede_X1_cede kini_X1 kco_X1_cede
theorem dsc_X1_cede : yX1_cede.cls = RX1 ∧ yX1_cede.cls ≠ "java/lang/invoke/MethodHandle" ∧ yX1_cede.cls ≠ "java/lang/invoke/VarHandle" ∧ (parseMethodDescriptor yX1_cede.desc).map (fun d => d.parameters.length) = some 2 := ⟨rfl, by decide +kernel, by decide +kernel, by decide +kernel⟩
theorem dX1_cedeAhead_0 : decode cX1_cedeAhead 0 = .ok (.iconst 0, 1) := by decide +kernel
theorem dX1_cedeAhead_1 : decode cX1_cedeAhead 1 = .ok (.istore_n 3, 1) := by decide +kernel
theorem dX1_cedeAhead_2 : decode cX1_cedeAhead 2 = .ok (.iload_n 3, 1) := by decide +kernel
theorem dX1_cedeAhead_3 : decode cX1_cedeAhead 3 = .ok (.bipush 8, 2) := by decide +kernel
theorem dX1_cedeAhead_5 : decode cX1_cedeAhead 5 = .ok (.if_icmp .ge 35, 3) := by decide +kernel
theorem dX1_cedeAhead_8 : decode cX1_cedeAhead 8 = .ok (.iconst 0, 1) := by decide +kernel
theorem dX1_cedeAhead_9 : decode cX1_cedeAhead 9 = .ok (.istore 4, 2) := by decide +kernel
theorem dX1_cedeAhead_11 : decode cX1_cedeAhead 11 = .ok (.iload 4, 2) := by decide +kernel
theorem dX1_cedeAhead_13 : decode cX1_cedeAhead 13 = .ok (.bipush 10, 2) := by decide +kernel
theorem dX1_cedeAhead_15 : decode cX1_cedeAhead 15 = .ok (.if_icmp .ge 19, 3) := by decide +kernel
theorem dX1_cedeAhead_18 : decode cX1_cedeAhead 18 = .ok (.aload_n 0, 1) := by decide +kernel
theorem dX1_cedeAhead_19 : decode cX1_cedeAhead 19 = .ok (.getfield 20, 3) := by decide +kernel
theorem dX1_cedeAhead_22 : decode cX1_cedeAhead 22 = .ok (.iload_n 3, 1) := by decide +kernel
theorem dX1_cedeAhead_23 : decode cX1_cedeAhead 23 = .ok (.aaload, 1) := by decide +kernel
theorem dX1_cedeAhead_24 : decode cX1_cedeAhead 24 = .ok (.iload 4, 2) := by decide +kernel
theorem dX1_cedeAhead_26 : decode cX1_cedeAhead 26 = .ok (.iconst 0, 1) := by decide +kernel
theorem dX1_cedeAhead_27 : decode cX1_cedeAhead 27 = .ok (.iastore, 1) := by decide +kernel
theorem dX1_cedeAhead_28 : decode cX1_cedeAhead 28 = .ok (.iinc 4 1, 3) := by decide +kernel
theorem dX1_cedeAhead_31 : decode cX1_cedeAhead 31 = .ok (.goto (-20), 3) := by decide +kernel
theorem dX1_cedeAhead_34 : decode cX1_cedeAhead 34 = .ok (.iinc 3 1, 3) := by decide +kernel
theorem dX1_cedeAhead_37 : decode cX1_cedeAhead 37 = .ok (.goto (-35), 3) := by decide +kernel
theorem dX1_cedeAhead_40 : decode cX1_cedeAhead 40 = .ok (.iconst 0, 1) := by decide +kernel
theorem dX1_cedeAhead_41 : decode cX1_cedeAhead 41 = .ok (.istore_n 3, 1) := by decide +kernel
theorem dX1_cedeAhead_42 : decode cX1_cedeAhead 42 = .ok (.iload_n 3, 1) := by decide +kernel
theorem dX1_cedeAhead_43 : decode cX1_cedeAhead 43 = .ok (.iload_n 1, 1) := by decide +kernel
theorem dX1_cedeAhead_44 : decode cX1_cedeAhead 44 = .ok (.if_icmp .ge 89, 3) := by decide +kernel
theorem dX1_cedeAhead_47 : decode cX1_cedeAhead 47 = .ok (.iload_n 3, 1) := by decide +kernel
theorem dX1_cedeAhead_48 : decode cX1_cedeAhead 48 = .ok (.aload_n 0, 1) := by decide +kernel
theorem dX1_cedeAhead_49 : decode cX1_cedeAhead 49 = .ok (.getfield 30, 3) := by decide +kernel
theorem dX1_cedeAhead_52 : decode cX1_cedeAhead 52 = .ok (.invokeinterface 33 1, 5) := by decide +kernel
theorem dX1_cedeAhead_57 : decode cX1_cedeAhead 57 = .ok (.if_icmp .ge 76, 3) := by decide +kernel
theorem dX1_cedeAhead_60 : decode cX1_cedeAhead 60 = .ok (.aload_n 0, 1) := by decide +kernel
theorem dX1_cedeAhead_61 : decode cX1_cedeAhead 61 = .ok (.iload_n 3, 1) := by decide +kernel
theorem dX1_cedeAhead_62 : decode cX1_cedeAhead 62 = .ok (.iload_n 2, 1) := by decide +kernel
theorem dX1_cedeAhead_63 : decode cX1_cedeAhead 63 = .ok (.invokevirtual 39, 3) := by decide +kernel
theorem dX1_cedeAhead_66 : decode cX1_cedeAhead 66 = .ok (.aload_n 0, 1) := by decide +kernel
theorem dX1_cedeAhead_67 : decode cX1_cedeAhead 67 = .ok (.getfield 30, 3) := by decide +kernel
theorem dX1_cedeAhead_70 : decode cX1_cedeAhead 70 = .ok (.iload_n 3, 1) := by decide +kernel
theorem dX1_cedeAhead_71 : decode cX1_cedeAhead 71 = .ok (.invokeinterface 43 2, 5) := by decide +kernel
theorem dX1_cedeAhead_76 : decode cX1_cedeAhead 76 = .ok (.checkcast 47, 3) := by decide +kernel
theorem dX1_cedeAhead_79 : decode cX1_cedeAhead 79 = .ok (.getfield 49, 3) := by decide +kernel
theorem dX1_cedeAhead_82 : decode cX1_cedeAhead 82 = .ok (.istore 4, 2) := by decide +kernel
theorem dX1_cedeAhead_84 : decode cX1_cedeAhead 84 = .ok (.iconst 0, 1) := by decide +kernel
theorem dX1_cedeAhead_85 : decode cX1_cedeAhead 85 = .ok (.istore 5, 2) := by decide +kernel
theorem dX1_cedeAhead_87 : decode cX1_cedeAhead 87 = .ok (.iload 5, 2) := by decide +kernel
theorem dX1_cedeAhead_89 : decode cX1_cedeAhead 89 = .ok (.aload_n 0, 1) := by decide +kernel
theorem dX1_cedeAhead_90 : decode cX1_cedeAhead 90 = .ok (.getfield 26, 3) := by decide +kernel
theorem dX1_cedeAhead_93 : decode cX1_cedeAhead 93 = .ok (.invokeinterface 33 1, 5) := by decide +kernel
theorem dX1_cedeAhead_98 : decode cX1_cedeAhead 98 = .ok (.if_icmp .ge 29, 3) := by decide +kernel
theorem dX1_cedeAhead_101 : decode cX1_cedeAhead 101 = .ok (.aload_n 0, 1) := by decide +kernel
theorem dX1_cedeAhead_102 : decode cX1_cedeAhead 102 = .ok (.getfield 20, 3) := by decide +kernel
theorem dX1_cedeAhead_105 : decode cX1_cedeAhead 105 = .ok (.iload 5, 2) := by decide +kernel
theorem dX1_cedeAhead_107 : decode cX1_cedeAhead 107 = .ok (.aaload, 1) := by decide +kernel
theorem dX1_cedeAhead_108 : decode cX1_cedeAhead 108 = .ok (.iload 4, 2) := by decide +kernel
theorem dX1_cedeAhead_110 : decode cX1_cedeAhead 110 = .ok (.dup2, 1) := by decide +kernel
theorem dX1_cedeAhead_111 : decode cX1_cedeAhead 111 = .ok (.iaload, 1) := by decide +kernel
theorem dX1_cedeAhead_112 : decode cX1_cedeAhead 112 = .ok (.aload_n 0, 1) := by decide +kernel
theorem dX1_cedeAhead_113 : decode cX1_cedeAhead 113 = .ok (.getfield 23, 3) := by decide +kernel
theorem dX1_cedeAhead_116 : decode cX1_cedeAhead 116 = .ok (.iload 5, 2) := by decide +kernel
theorem dX1_cedeAhead_118 : decode cX1_cedeAhead 118 = .ok (.iaload, 1) := by decide +kernel
theorem dX1_cedeAhead_119 : decode cX1_cedeAhead 119 = .ok (.iadd, 1) := by decide +kernel
theorem dX1_cedeAhead_120 : decode cX1_cedeAhead 120 = .ok (.iastore, 1) := by decide +kernel
theorem dX1_cedeAhead_121 : decode cX1_cedeAhead 121 = .ok (.iinc 5 1, 3) := by decide +kernel
theorem dX1_cedeAhead_124 : decode cX1_cedeAhead 124 = .ok (.goto (-37), 3) := by decide +kernel
theorem dX1_cedeAhead_127 : decode cX1_cedeAhead 127 = .ok (.iinc 3 1, 3) := by decide +kernel
theorem dX1_cedeAhead_130 : decode cX1_cedeAhead 130 = .ok (.goto (-88), 3) := by decide +kernel
theorem dX1_cedeAhead_133 : decode cX1_cedeAhead 133 = .ok (.return_, 1) := by decide +kernel
set_option maxHeartbeats 400000 in
set_option maxRecDepth 100000 in
theorem c_cedeAhead (l : Launch) (G : hG) (M : hM) (S : hSy) (hS : SyV G M S) (hG1 : SyG S) (cx : Nat) (am : Nat → Int32) (be yl : Nat → Nat → Int32) (lo : Nat → Int32) (hV : CesV G M S cx am be yl lo) (hc3 : cx < 3) (fin : Nat) (mu : Int32) (hf : fin ≤ sM S) : hCT l G yX1_cedeAhead cX1_cedeAhead 6 (Option.none) (hRm 7 0 0) M [.ref (sA S (100 * (cx + 1))), .int (nI fin), .int mu] (fun v M' => v = none ∧ ∃ be' yl' lo', CesV G M' S cx am be' yl' lo' ∧ (∀ i, i < fin → ∀ k, k < sN S → be' i k = pBe S mu am i k) ∧ (∀ k, k < sN S → ∀ y, y < 10 → yl' k y = pYl S mu am fin k y) ∧ hSim G (hS1 cx) M M') := by
  refine hCT.of (own := RX1) (nm := "cedeAhead") (by decide) rfl rfl (Nat.le_of_ble_eq_true rfl) ?_
  intro p e s m args below meth c ls X Y hl
  have hx := X.1
  have hb := X.2.1
  have hl : lv_has ls 6 [(0, .ref (sA S (100 * (cx + 1)))), (1, .int (nI fin)), (2, .int mu)] := hl
  obtain ⟨hN8, hM40, hLG, hCY⟩ := id hG1
  obtain ⟨hl13, he14, hl15, he16, hLa, hCl⟩ := id hS
  obtain ⟨mc13, hlo13⟩ := id hl13
  obtain ⟨mc15, hlo15⟩ := id hl15
  obtain ⟨ho, ham, ⟨fb, hfb, hbo⟩, hbr, ⟨fy, hfy, hyo⟩, hyr, hlo⟩ := id hV
  refine lv_iconst (v := 0) hx hb dX1_cedeAhead_0 (by decide) ?_
  refine lv_istore_n (lv' := [(3, .int 0), (0, .ref (sA S (100 * (cx + 1)))), (1, .int (nI fin)), (2, .int mu)]) hx hb dX1_cedeAhead_1 rfl hl (by decide) rfl (fun ls hl => ?_)
  have loop : ∀ (d k : Nat), k + d = 9 → k ≤ 8 → ∀ (M1 : hM) (yl1 : Nat → Nat → Int32), SyV G M1 S → CesV G M1 S cx am be yl1 lo → hSim G (hS1 cx) M M1 → (∀ j, j < k → ∀ y, y < 10 → yl1 j y = 0) → ∀ (H : Heap) (locs : List Loc) (ls : Array Slot), hHS G M1 s H locs → lv_has ls 6 [(0, .ref (sA S (100 * (cx + 1)))), (1, .int (nI fin)), (2, .int mu), (3, .int (nI k))] → W p l e (hRm 7 0 0) s m args below meth c H locs 0 0 (MQ below (hQ G (fun v M' => v = none ∧ ∃ be' yl' lo', CesV G M' S cx am be' yl' lo' ∧ (∀ i, i < fin → ∀ k, k < sN S → be' i k = pBe S mu am i k) ∧ (∀ k, k < sN S → ∀ y, y < 10 → yl' k y = pYl S mu am fin k y) ∧ hSim G (hS1 cx) M M')) args s 0 0 (hA G)) (F0 m 2 ls []) := by
    intro d
    induction d with
    | zero => intro k h1; intros; exact absurd h1 (by omega)
    | succ d ih =>
      intro k h1 h2 M1 yl1 hS hV hs0 hz1 H locs ls Y hl
      obtain ⟨hl13, he14, hl15, he16, hLa, hCl⟩ := id hS
      obtain ⟨mc13, hlo13⟩ := id hl13
      obtain ⟨mc15, hlo15⟩ := id hl15
      obtain ⟨ho, ham, ⟨fb, hfb, hbo⟩, hbr, ⟨fy, hfy, hyo⟩, hyr, hlo⟩ := id hV
      refine lv_iload_n hx hb dX1_cedeAhead_2 rfl (lv_at hl 3 rfl) ?_
      refine lv_bipush (v := 8) hx hb dX1_cedeAhead_3 (by decide) ?_
      refine lv_icmp_ge (tgt := 40) hx hb dX1_cedeAhead_5 (by decide) (fun c5 => ?_) (fun c5 => ?_)
      · have c5 : 8 ≤ k := (nI_leI (a := 8) (b := k) (by omega) (by omega)).mp c5
        have hk9 : k = 8 := by omega
        subst hk9
        refine lv_iconst (v := 0) hx hb dX1_cedeAhead_40 (by decide) ?_
        refine lv_istore_n (lv' := [(3, .int 0), (0, .ref (sA S (100 * (cx + 1)))), (1, .int (nI fin)), (2, .int mu)]) hx hb dX1_cedeAhead_41 rfl hl (by decide) rfl (fun ls hl => ?_)
        have loop3 : ∀ (d i : Nat), i + d = fin + 1 → i ≤ fin → ∀ (M3 : hM) (be3 yl3 : Nat → Nat → Int32) (lo3 : Nat → Int32), SyV G M3 S → CesV G M3 S cx am be3 yl3 lo3 → hSim G (hS1 cx) M M3 → (∀ j, j < i → ∀ k, k < sN S → be3 j k = pBe S mu am j k) → (∀ k, k < sN S → ∀ y, y < 10 → yl3 k y = pYl S mu am i k y) → ∀ (H : Heap) (locs : List Loc) (ls : Array Slot), hHS G M3 s H locs → lv_has ls 6 [(0, .ref (sA S (100 * (cx + 1)))), (1, .int (nI fin)), (2, .int mu), (3, .int (nI i))] → W p l e (hRm 7 0 0) s m args below meth c H locs 0 0 (MQ below (hQ G (fun v M' => v = none ∧ ∃ be' yl' lo', CesV G M' S cx am be' yl' lo' ∧ (∀ i, i < fin → ∀ k, k < sN S → be' i k = pBe S mu am i k) ∧ (∀ k, k < sN S → ∀ y, y < 10 → yl' k y = pYl S mu am fin k y) ∧ hSim G (hS1 cx) M M')) args s 0 0 (hA G)) (F0 m 42 ls []) := by
          intro d
          induction d with
          | zero => intro i h1; intros; exact absurd h1 (by omega)
          | succ d ih3 =>
            intro i i1 i2 M3 be3 yl3 lo3 hS hV hs0 hb3 hy3 H locs ls Y hl
            obtain ⟨hl13, he14, hl15, he16, hLa, hCl⟩ := id hS
            obtain ⟨mc13, hlo13⟩ := id hl13
            obtain ⟨mc15, hlo15⟩ := id hl15
            obtain ⟨ho, ham, ⟨fb, hfb, hbo⟩, hbr, ⟨fy, hfy, hyo⟩, hyr, hlo⟩ := id hV
            refine lv_iload_n hx hb dX1_cedeAhead_42 rfl (lv_at hl 3 rfl) ?_
            refine lv_iload_n hx hb dX1_cedeAhead_43 rfl (lv_at hl 1 rfl) ?_
            refine lv_icmp_ge (tgt := 133) hx hb dX1_cedeAhead_44 (by decide) (fun c44 => ?_) (fun c44 => ?_)
            · have c44 : fin ≤ i := (nI_leI (a := fin) (b := i) (by omega) (by omega)).mp c44
              have hk9 : fin = i := by omega
              subst hk9
              exact h_vret X Y ⟨rfl, be3, yl3, lo3, hV, hb3, hy3, hs0⟩ (Nat.le_refl _) (Nat.le_refl _) dX1_cedeAhead_133
            · have c44 : ¬ fin ≤ i := fun z9 => c44 ((nI_leI (a := fin) (b := i) (by omega) (by omega)).mpr z9)
              refine lv_iload_n hx hb dX1_cedeAhead_47 rfl (lv_at hl 3 rfl) ?_
              refine lv_aload_n hx hb dX1_cedeAhead_48 rfl (lv_at hl 0 rfl) ?_
              refine h_get X Y (k := 5) (v := .ref (sA S 15)) ho rfl hin_X1 (by decide) kfl_X1_30 rfl dX1_cedeAhead_49 ?_
              refine h_callFr (rest := [.int (nI i)]) X Y (c_size l G M3 (sA S 15) 15 (sA S 16) (sM S) hl15) rfl rfl (hFw_Jx4a65c_size_8abf5 X) gw_X1_33 dsi_Jx4a65c_size_8abf5 hlo15 rfl rfl rfl rfl hl.1 (Nat.le_of_ble_eq_true rfl) ⟨Nat.le_of_ble_eq_true rfl, Nat.le_of_ble_eq_true rfl⟩ ⟨Nat.le_of_ble_eq_true rfl, Nat.le_of_ble_eq_true rfl⟩ dX1_cedeAhead_52 (fun H locs Y => ?_)
              refine lv_icmp_ge (tgt := 133) hx hb dX1_cedeAhead_57 (by decide) (fun c57 => absurd (show (sM S) ≤ i from (nI_leI (a := (sM S)) (b := i) (by omega) (by omega)).mp c57) (by omega)) (fun c57 => ?_)
              have c57 : ¬ (sM S) ≤ i := fun z9 => c57 ((nI_leI (a := (sM S)) (b := i) (by omega) (by omega)).mpr z9)
              refine lv_aload_n hx hb dX1_cedeAhead_60 rfl (lv_at hl 0 rfl) ?_
              refine lv_iload_n hx hb dX1_cedeAhead_61 rfl (lv_at hl 3 rfl) ?_
              refine lv_iload_n hx hb dX1_cedeAhead_62 rfl (lv_at hl 2 rfl) ?_
              refine h_callV (rest := []) X Y (c_cede l G M3 S hS hG1 cx am be3 yl3 lo3 hV hc3 i mu (by omega)) gw_X1_39 dsc_X1_cede ho rfl rfl rfl hl.1 rfl (Nat.le_of_ble_eq_true rfl) ⟨Nat.le_of_ble_eq_true rfl, Nat.le_of_ble_eq_true rfl⟩ ⟨Nat.le_of_ble_eq_true rfl, Nat.le_of_ble_eq_true rfl⟩ dX1_cedeAhead_63 ?_
              rintro _ M1 H locs ⟨rfl, hpost⟩ Y
              try dsimp only [Option.toList, List.nil_append]
              obtain ⟨be4, lo4, hV, hbx, hbi, hli, hq⟩ := hpost
              have hs0 := hs0.tr hq
              have hS := hS.sim hq (hS1_scr hc3)
              obtain ⟨hl13, he14, hl15, he16, hLa, hCl⟩ := id hS
              obtain ⟨mc13, hlo13⟩ := id hl13
              obtain ⟨mc15, hlo15⟩ := id hl15
              obtain ⟨ho, ham, ⟨fb, hfb, hbo⟩, hbr, ⟨fy, hfy, hyo⟩, hyr, hlo⟩ := id hV
              have hcy := hCY i (by omega)
              have hyq : ∀ j, j < sN S → (fun k => yl3 k (clY (sC S i))) j = (fun k => pYl S mu am i k (clY (sC S i))) j := fun j hj => hy3 j hj _ hcy
              have hb4 : ∀ j, j < i + 1 → ∀ k, k < sN S → be4 j k = pBe S mu am j k := by
                intro j hj k hk
                by_cases e : j = i
                · subst e; rw [hbi k hk]; exact congrFun (pB_congr S mu _ _ _ (sN S) hyq) k
                · rw [hbx j e]; exact hb3 j (by omega) k hk
              have hl4 : ∀ j, j < sN S → lo4 j = pLoss S mu j (clI (sC S i) 0) (am i) (pB S mu (clY (sC S i)) (clI (sC S i) 0) (am i) (fun k => pYl S mu am i k (clY (sC S i))) j) := by
                intro j hj
                rw [hli j hj, pB_congr S mu _ _ _ j (fun z hz => hyq z (by omega))]
              refine lv_aload_n hx hb dX1_cedeAhead_66 rfl (lv_at hl 0 rfl) ?_
              refine h_get X Y (k := 5) (v := .ref (sA S 15)) ho rfl hin_X1 (by decide) kfl_X1_30 rfl dX1_cedeAhead_67 ?_
              refine lv_iload_n hx hb dX1_cedeAhead_70 rfl (lv_at hl 3 rfl) ?_
              refine h_callFr (rest := []) X Y (c_get l G M1 (sA S 15) 15 (sA S 16) 16 (sM S) i (fun i => sA S (1000 + 10 * i)) hl15 (he16 (by omega)) (by omega)) rfl rfl (hFw_Jx4a65c_get_915e3 X) gw_X1_43 dsi_Jx4a65c_get_915e3 hlo15 rfl rfl rfl rfl hl.1 (Nat.le_of_ble_eq_true rfl) ⟨Nat.le_of_ble_eq_true rfl, Nat.le_of_ble_eq_true rfl⟩ ⟨Nat.le_of_ble_eq_true rfl, Nat.le_of_ble_eq_true rfl⟩ dX1_cedeAhead_71 (fun H locs Y => ?_)
              refine h_cast X Y (hCl i (by omega)).1 rfl rfl kcl_X1_47 dX1_cedeAhead_76 ?_
              refine h_get X Y (k := 0) (v := .int (nI (clY (sC S i)))) (hCl i (by omega)).1 rfl hin_X3 (by decide) kfl_X1_49 rfl dX1_cedeAhead_79 ?_
              refine lv_istore (lv' := [(4, .int (nI (clY (sC S i)))), (0, .ref (sA S (100 * (cx + 1)))), (1, .int (nI fin)), (2, .int mu), (3, .int (nI i))]) hx hb dX1_cedeAhead_82 hl (by decide) rfl (fun ls hl => ?_)
              refine lv_iconst (v := 0) hx hb dX1_cedeAhead_84 (by decide) ?_
              refine lv_istore (lv' := [(5, .int 0), (4, .int (nI (clY (sC S i)))), (0, .ref (sA S (100 * (cx + 1)))), (1, .int (nI fin)), (2, .int mu), (3, .int (nI i))]) hx hb dX1_cedeAhead_85 hl (by decide) rfl (fun ls hl => ?_)
              have loop4 : ∀ (d k : Nat), k + d = sN S + 1 → k ≤ sN S → ∀ (M5 : hM) (yl5 : Nat → Nat → Int32), SyV G M5 S → CesV G M5 S cx am be4 yl5 lo4 → hSim G (hS1 cx) M M5 → (∀ j, j < sN S → ∀ y, y < 10 → yl5 j y = (if y = clY (sC S i) ∧ j < k then pYl S mu am (i + 1) j y else pYl S mu am i j y)) → ∀ (H : Heap) (locs : List Loc) (ls : Array Slot), hHS G M5 s H locs → lv_has ls 6 [(0, .ref (sA S (100 * (cx + 1)))), (1, .int (nI fin)), (2, .int mu), (3, .int (nI i)), (4, .int (nI (clY (sC S i)))), (5, .int (nI k))] → W p l e (hRm 7 0 0) s m args below meth c H locs 0 0 (MQ below (hQ G (fun v M' => v = none ∧ ∃ be' yl' lo', CesV G M' S cx am be' yl' lo' ∧ (∀ i, i < fin → ∀ k, k < sN S → be' i k = pBe S mu am i k) ∧ (∀ k, k < sN S → ∀ y, y < 10 → yl' k y = pYl S mu am fin k y) ∧ hSim G (hS1 cx) M M')) args s 0 0 (hA G)) (F0 m 87 ls []) := by
                intro d
                induction d with
                | zero => intro k h1; intros; exact absurd h1 (by omega)
                | succ d ih4 =>
                  intro k k1 k2 M5 yl5 hS hV hs0 hy5 H locs ls Y hl
                  obtain ⟨hl13, he14, hl15, he16, hLa, hCl⟩ := id hS
                  obtain ⟨mc13, hlo13⟩ := id hl13
                  obtain ⟨mc15, hlo15⟩ := id hl15
                  obtain ⟨ho, ham, ⟨fb, hfb, hbo⟩, hbr, ⟨fy, hfy, hyo⟩, hyr, hlo⟩ := id hV
                  refine lv_iload hx hb dX1_cedeAhead_87 (lv_at hl 5 rfl) ?_
                  refine lv_aload_n hx hb dX1_cedeAhead_89 rfl (lv_at hl 0 rfl) ?_
                  refine h_get X Y (k := 4) (v := .ref (sA S 13)) ho rfl hin_X1 (by decide) kfl_X1_26 rfl dX1_cedeAhead_90 ?_
                  refine h_callFr (rest := [.int (nI k)]) X Y (c_size l G M5 (sA S 13) 13 (sA S 14) (sN S) hl13) rfl rfl (hFw_Jx4a65c_size_8abf5 X) gw_X1_33 dsi_Jx4a65c_size_8abf5 hlo13 rfl rfl rfl rfl hl.1 (Nat.le_of_ble_eq_true rfl) ⟨Nat.le_of_ble_eq_true rfl, Nat.le_of_ble_eq_true rfl⟩ ⟨Nat.le_of_ble_eq_true rfl, Nat.le_of_ble_eq_true rfl⟩ dX1_cedeAhead_93 (fun H locs Y => ?_)
                  refine lv_icmp_ge (tgt := 127) hx hb dX1_cedeAhead_98 (by decide) (fun c98 => ?_) (fun c98 => ?_)
                  · have c98 : (sN S) ≤ k := (nI_leI (a := (sN S)) (b := k) (by omega) (by omega)).mp c98
                    have hk9 : k = (sN S) := by omega
                    subst hk9
                    have hy5 : ∀ k, k < sN S → ∀ y, y < 10 → yl5 k y = pYl S mu am (i + 1) k y := by
                      intro j hj y hy
                      rw [hy5 j hj y hy]
                      by_cases ey : y = clY (sC S i)
                      · rw [if_pos ⟨ey, hj⟩]
                      · rw [if_neg (fun z9 => ey z9.1), pYl_n S mu am i j y ey]
                    refine lv_iinc (v := nI (i + 1)) (lv' := [(3, .int (nI (i + 1))), (0, .ref (sA S (100 * (cx + 1)))), (1, .int (nI fin)), (2, .int mu), (4, .int (nI (clY (sC S i)))), (5, .int (nI (sN S)))]) hx hb dX1_cedeAhead_127 hl (k := 3) rfl (nI_1 i) (by decide) rfl (fun ls hl => ?_)
                    refine lv_goto (tgt := 42) hx hb dX1_cedeAhead_130 (by decide) ?_
                    exact ih3 (i + 1) (by omega) (by omega) M5 _ _ _ hS hV hs0 hb4 hy5 _ _ _ Y (lv_sub hl [1, 2, 3, 0] rfl)
                  · have c98 : ¬ (sN S) ≤ k := fun z9 => c98 ((nI_leI (a := (sN S)) (b := k) (by omega) (by omega)).mpr z9)
                    refine lv_aload_n hx hb dX1_cedeAhead_101 rfl (lv_at hl 0 rfl) ?_
                    refine h_get X Y (k := 2) (v := .ref (sA S (100 * (cx + 1) + 3))) ho rfl hin_X1 (by decide) kfl_X1_20 rfl dX1_cedeAhead_102 ?_
                    refine lv_iload hx hb dX1_cedeAhead_105 (lv_at hl 5 rfl) ?_
                    refine h_aaldI X Y (i := k) hyo (by omega) (by decide) dX1_cedeAhead_107 ?_
                    refine h_rf (hfy k (by omega)) ?_
                    refine lv_iload hx hb dX1_cedeAhead_108 (lv_at hl 4 rfl) ?_
                    refine lv_dup2_11 hx hb dX1_cedeAhead_110 rfl rfl ?_
                    refine h_iald X Y (i := (clY (sC S i))) (hyr k (by omega)) (by omega) (by decide) dX1_cedeAhead_111 ?_
                    refine lv_aload_n hx hb dX1_cedeAhead_112 rfl (lv_at hl 0 rfl) ?_
                    refine h_get X Y (k := 3) (v := .ref (sA S (100 * (cx + 1) + 4))) ho rfl hin_X1 (by decide) kfl_X1_23 rfl dX1_cedeAhead_113 ?_
                    refine lv_iload hx hb dX1_cedeAhead_116 (lv_at hl 5 rfl) ?_
                    refine h_iald X Y (i := k) hlo (by omega) (by decide) dX1_cedeAhead_118 ?_
                    refine lv_iadd hx hb dX1_cedeAhead_119 ?_
                    refine h_iast X Y (i := (clY (sC S i))) (hyr k (by omega)) (by omega) (by decide) dX1_cedeAhead_120 (fun H locs Y => ?_)
                    obtain ⟨hV, hS, hq⟩ := CesV.putYl hc3 k (by omega) (upd (yl5 k) (clY (sC S i)) (((yl5 k) (clY (sC S i))) + (lo4 k))) hV hS
                    have hs0 := hs0.tr hq
                    generalize hup M5 _ _ = M2 at Y hV hS hq hs0
                    refine lv_iinc (v := nI (k + 1)) (lv' := [(5, .int (nI (k + 1))), (0, .ref (sA S (100 * (cx + 1)))), (1, .int (nI fin)), (2, .int mu), (3, .int (nI i)), (4, .int (nI (clY (sC S i))))]) hx hb dX1_cedeAhead_121 hl (k := 5) rfl (nI_1 k) (by decide) rfl (fun ls hl => ?_)
                    refine lv_goto (tgt := 87) hx hb dX1_cedeAhead_124 (by decide) ?_
                    refine ih4 (k + 1) (by omega) (by omega) M2 _ hS hV hs0 ?_ _ _ _ Y (lv_sub hl [1, 2, 3, 4, 5, 0] rfl)
                    intro j hj y hy
                    by_cases e : j = k
                    · subst e
                      rw [va_up_self]
                      by_cases ey : y = clY (sC S i)
                      · subst ey
                        rw [pk_us, if_pos ⟨rfl, by omega⟩, pYl_s, hy5 j hj _ hy, if_neg (fun z9 => absurd z9.2 (by omega)), hl4 j hj]
                      · rw [pk_un ey, hy5 j hj y hy, if_neg (fun z9 => ey z9.1), if_neg (fun z9 => ey z9.1)]
                    · rw [va_up_ne _ _ e, hy5 j hj y hy]
                      by_cases ey : y = clY (sC S i)
                      · by_cases ek : j < k
                        · rw [if_pos ⟨ey, ek⟩, if_pos ⟨ey, by omega⟩]
                        · rw [if_neg (fun z9 => ek z9.2), if_neg (fun z9 => absurd z9.2 (by omega))]
                      · rw [if_neg (fun z9 => ey z9.1), if_neg (fun z9 => ey z9.1)]
              exact loop4 (sN S + 1) 0 (by omega) (by omega) _ yl3 hS hV hs0 (fun j hj y hy => (hy3 j hj y hy).trans (if_neg (fun z9 => absurd z9.2 (by omega))).symm) _ _ _ Y (lv_sub hl [2, 3, 4, 5, 1, 0] rfl)
        exact loop3 (fin + 1) 0 (by omega) (by omega) M1 be yl1 lo hS hV hs0 (fun _ z9 => absurd z9 (by omega)) (fun k hk y hy => hz1 k (by omega) y hy) _ _ _ Y (lv_sub hl [1, 2, 3, 0] rfl)
      · have c5 : ¬ 8 ≤ k := fun z9 => c5 ((nI_leI (a := 8) (b := k) (by omega) (by omega)).mpr z9)
        refine lv_iconst (v := 0) hx hb dX1_cedeAhead_8 (by decide) ?_
        refine lv_istore (lv' := [(4, .int 0), (0, .ref (sA S (100 * (cx + 1)))), (1, .int (nI fin)), (2, .int mu), (3, .int (nI k))]) hx hb dX1_cedeAhead_9 hl (by decide) rfl (fun ls hl => ?_)
        have loop2 : ∀ (d y : Nat), y + d = 11 → y ≤ 10 → ∀ (M2 : hM) (yl2 : Nat → Nat → Int32), SyV G M2 S → CesV G M2 S cx am be yl2 lo → hSim G (hS1 cx) M M2 → (∀ z, z < y → yl2 k z = 0) → (∀ j, j ≠ k → yl2 j = yl1 j) → ∀ (H : Heap) (locs : List Loc) (ls : Array Slot), hHS G M2 s H locs → lv_has ls 6 [(0, .ref (sA S (100 * (cx + 1)))), (1, .int (nI fin)), (2, .int mu), (3, .int (nI k)), (4, .int (nI y))] → W p l e (hRm 7 0 0) s m args below meth c H locs 0 0 (MQ below (hQ G (fun v M' => v = none ∧ ∃ be' yl' lo', CesV G M' S cx am be' yl' lo' ∧ (∀ i, i < fin → ∀ k, k < sN S → be' i k = pBe S mu am i k) ∧ (∀ k, k < sN S → ∀ y, y < 10 → yl' k y = pYl S mu am fin k y) ∧ hSim G (hS1 cx) M M')) args s 0 0 (hA G)) (F0 m 11 ls []) := by
          intro d
          induction d with
          | zero => intro y h1; intros; exact absurd h1 (by omega)
          | succ d ih2 =>
            intro y g1 g2 M2 yl2 hS hV hs0 hz2 hz3 H locs ls Y hl
            obtain ⟨hl13, he14, hl15, he16, hLa, hCl⟩ := id hS
            obtain ⟨mc13, hlo13⟩ := id hl13
            obtain ⟨mc15, hlo15⟩ := id hl15
            obtain ⟨ho, ham, ⟨fb, hfb, hbo⟩, hbr, ⟨fy, hfy, hyo⟩, hyr, hlo⟩ := id hV
            refine lv_iload hx hb dX1_cedeAhead_11 (lv_at hl 4 rfl) ?_
            refine lv_bipush (v := 10) hx hb dX1_cedeAhead_13 (by decide) ?_
            refine lv_icmp_ge (tgt := 34) hx hb dX1_cedeAhead_15 (by decide) (fun c15 => ?_) (fun c15 => ?_)
            · have c15 : 10 ≤ y := (nI_leI (a := 10) (b := y) (by omega) (by omega)).mp c15
              have hk9 : y = 10 := by omega
              subst hk9
              refine lv_iinc (v := nI (k + 1)) (lv' := [(3, .int (nI (k + 1))), (0, .ref (sA S (100 * (cx + 1)))), (1, .int (nI fin)), (2, .int mu), (4, .int (nI 10))]) hx hb dX1_cedeAhead_34 hl (k := 3) rfl (nI_1 k) (by decide) rfl (fun ls hl => ?_)
              refine lv_goto (tgt := 2) hx hb dX1_cedeAhead_37 (by decide) ?_
              refine ih (k + 1) (by omega) (by omega) M2 _ hS hV hs0 ?_ _ _ _ Y (lv_sub hl [1, 2, 3, 0] rfl)
              intro j hj z hz
              by_cases e : j = k
              · subst e; exact hz2 z hz
              · rw [hz3 j e]; exact hz1 j (by omega) z hz
            · have c15 : ¬ 10 ≤ y := fun z9 => c15 ((nI_leI (a := 10) (b := y) (by omega) (by omega)).mpr z9)
              refine lv_aload_n hx hb dX1_cedeAhead_18 rfl (lv_at hl 0 rfl) ?_
              refine h_get X Y (k := 2) (v := .ref (sA S (100 * (cx + 1) + 3))) ho rfl hin_X1 (by decide) kfl_X1_20 rfl dX1_cedeAhead_19 ?_
              refine lv_iload_n hx hb dX1_cedeAhead_22 rfl (lv_at hl 3 rfl) ?_
              refine h_aaldI X Y (i := k) hyo (by omega) (by decide) dX1_cedeAhead_23 ?_
              refine h_rf (hfy k (by omega)) ?_
              refine lv_iload hx hb dX1_cedeAhead_24 (lv_at hl 4 rfl) ?_
              refine lv_iconst (v := 0) hx hb dX1_cedeAhead_26 (by decide) ?_
              refine h_iast X Y (i := y) (hyr k (by omega)) (by omega) (by decide) dX1_cedeAhead_27 (fun H locs Y => ?_)
              obtain ⟨hV, hS, hq⟩ := CesV.putYl hc3 k (by omega) (upd (yl2 k) y 0) hV hS
              have hs0 := hs0.tr hq
              generalize hup M2 _ _ = M3 at Y hV hS hq hs0
              refine lv_iinc (v := nI (y + 1)) (lv' := [(4, .int (nI (y + 1))), (0, .ref (sA S (100 * (cx + 1)))), (1, .int (nI fin)), (2, .int mu), (3, .int (nI k))]) hx hb dX1_cedeAhead_28 hl (k := 4) rfl (nI_1 y) (by decide) rfl (fun ls hl => ?_)
              refine lv_goto (tgt := 11) hx hb dX1_cedeAhead_31 (by decide) ?_
              refine ih2 (y + 1) (by omega) (by omega) M3 _ hS hV hs0 ?_ ?_ _ _ _ Y (lv_sub hl [1, 2, 3, 4, 0] rfl)
              · intro z hz
                rw [va_up_self]
                by_cases e : z = y
                · subst e; exact pk_us
                · simp only [upd, if_neg e]; exact hz2 z (by omega)
              · intro j hj; rw [va_up_ne _ _ hj]; exact hz3 j hj
        exact loop2 11 0 (by omega) (by omega) M1 yl1 hS hV hs0 (fun _ z9 => absurd z9 (by omega)) (fun _ _ => rfl) _ _ _ Y (lv_sub hl [1, 2, 3, 4, 0] rfl)
  exact loop 9 0 (by omega) (by omega) M yl hS hV hSim.rf (fun _ z9 => absurd z9 (by omega)) _ _ _ Y (lv_sub hl [1, 2, 3, 0] rfl)
