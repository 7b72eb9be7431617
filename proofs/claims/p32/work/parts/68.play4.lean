-- THE PLAY
theorem dL_play_0 : decode cL_play 0 = .ok (.sipush 1002, 3) := by decide +kernel
theorem dL_play_3 : decode cL_play 3 = .ok (.newarray .int, 2) := by decide +kernel
theorem dL_play_5 : decode cL_play 5 = .ok (.astore_n 2, 1) := by decide +kernel
theorem dL_play_6 : decode cL_play 6 = .ok (.iconst 0, 1) := by decide +kernel
theorem dL_play_7 : decode cL_play 7 = .ok (.istore_n 3, 1) := by decide +kernel
theorem dL_play_8 : decode cL_play 8 = .ok (.iload_n 3, 1) := by decide +kernel
theorem dL_play_9 : decode cL_play 9 = .ok (.bipush 45, 2) := by decide +kernel
theorem dL_play_11 : decode cL_play 11 = .ok (.if_icmp .ge 722, 3) := by decide +kernel
theorem dL_play_14 : decode cL_play 14 = .ok (.aload_n 1, 1) := by decide +kernel
theorem dL_play_15 : decode cL_play 15 = .ok (.iload_n 3, 1) := by decide +kernel
theorem dL_play_16 : decode cL_play 16 = .ok (.bipush 16, 2) := by decide +kernel
theorem dL_play_18 : decode cL_play 18 = .ok (.irem, 1) := by decide +kernel
theorem dL_play_19 : decode cL_play 19 = .ok (.invokestatic 36, 3) := by decide +kernel
theorem dL_play_22 : decode cL_play 22 = .ok (.iload_n 3, 1) := by decide +kernel
theorem dL_play_23 : decode cL_play 23 = .ok (.bipush 16, 2) := by decide +kernel
theorem dL_play_25 : decode cL_play 25 = .ok (.idiv, 1) := by decide +kernel
theorem dL_play_26 : decode cL_play 26 = .ok (.bipush 6, 2) := by decide +kernel
theorem dL_play_28 : decode cL_play 28 = .ok (.imul, 1) := by decide +kernel
theorem dL_play_29 : decode cL_play 29 = .ok (.ishr, 1) := by decide +kernel
theorem dL_play_30 : decode cL_play 30 = .ok (.istore 4, 2) := by decide +kernel
theorem dL_play_32 : decode cL_play 32 = .ok (.aload_n 2, 1) := by decide +kernel
theorem dL_play_33 : decode cL_play 33 = .ok (.sipush 1000, 3) := by decide +kernel
theorem dL_play_36 : decode cL_play 36 = .ok (.iaload, 1) := by decide +kernel
theorem dL_play_37 : decode cL_play 37 = .ok (.istore 5, 2) := by decide +kernel
theorem dL_play_39 : decode cL_play 39 = .ok (.aload_n 2, 1) := by decide +kernel
theorem dL_play_40 : decode cL_play 40 = .ok (.sipush 1001, 3) := by decide +kernel
theorem dL_play_43 : decode cL_play 43 = .ok (.iaload, 1) := by decide +kernel
theorem dL_play_44 : decode cL_play 44 = .ok (.istore 6, 2) := by decide +kernel
theorem dL_play_46 : decode cL_play 46 = .ok (.iload 5, 2) := by decide +kernel
theorem dL_play_48 : decode cL_play 48 = .ok (.ifCond .ne 7, 3) := by decide +kernel
theorem dL_play_51 : decode cL_play 51 = .ok (.iconst 0, 1) := by decide +kernel
theorem dL_play_52 : decode cL_play 52 = .ok (.goto 12, 3) := by decide +kernel
theorem dL_play_55 : decode cL_play 55 = .ok (.iload 4, 2) := by decide +kernel
theorem dL_play_57 : decode cL_play 57 = .ok (.iconst 3, 1) := by decide +kernel
theorem dL_play_58 : decode cL_play 58 = .ok (.ishr, 1) := by decide +kernel
theorem dL_play_59 : decode cL_play 59 = .ok (.iload 5, 2) := by decide +kernel
theorem dL_play_61 : decode cL_play 61 = .ok (.invokestatic 42, 3) := by decide +kernel
theorem dL_play_64 : decode cL_play 64 = .ok (.istore 7, 2) := by decide +kernel
theorem dL_play_66 : decode cL_play 66 = .ok (.iload 5, 2) := by decide +kernel
theorem dL_play_68 : decode cL_play 68 = .ok (.ifCond .ne 7, 3) := by decide +kernel
theorem dL_play_71 : decode cL_play 71 = .ok (.iconst 0, 1) := by decide +kernel
theorem dL_play_72 : decode cL_play 72 = .ok (.goto 10, 3) := by decide +kernel
theorem dL_play_75 : decode cL_play 75 = .ok (.iload 4, 2) := by decide +kernel
theorem dL_play_77 : decode cL_play 77 = .ok (.bipush 8, 2) := by decide +kernel
theorem dL_play_79 : decode cL_play 79 = .ok (.invokestatic 42, 3) := by decide +kernel
theorem dL_play_82 : decode cL_play 82 = .ok (.tableswitch 458 0 5 #[38, 38, 153, 153, 296, 384], 38) := by decide +kernel
theorem dL_play_733 : decode cL_play 733 = .ok (.aload_n 2, 1) := by decide +kernel
theorem dL_play_734 : decode cL_play 734 = .ok (.areturn, 1) := by decide +kernel
set_option maxHeartbeats 2000000 in
set_option maxRecDepth 100000 in
theorem c_play (l : Launch) (G : hG) (hl9 : l.stackTraces = false) (L : Nat) (xs : Nat → Int32) (hs : hSc G L xs) (M : hM) (S0 : hSy) (h0 : hHo) (hP0 : PV G M S0 h0) (hm0 : sM S0 = 0) (hn0 : hNow h0 = 0) : hCW l G yL_play cL_play 12 (Option.some (FieldType.array FieldType.int)) plT (hRm 12 400 8000) M [.ref (sA S0 0), .ref G.2.1] (fun v M' => ∃ b S' h' f', v = some (.ref b) ∧ PlI G M' S0 h0 S' h' b f') := by
  refine hCW.of (own := RL) (nm := "play") (by decide) rfl rfl (Nat.le_of_ble_eq_true rfl) ?_
  intro p e s m args below meth c ls X htab Y hl
  have hx := X.1
  have hb := X.2.1
  have hl : lv_has ls 12 [(0, .ref (sA S0 0)), (1, .ref G.2.1)] := hl
  refine lv_sipush (v := 1002) hx hb dL_play_0 (by decide) ?_
  refine h_newI X Y (4800) (n := 1002) (by decide) (Nat.le_of_ble_eq_true rfl) (Nat.le_of_ble_eq_true rfl) dL_play_3 (fun qz1 Mz1 H fz1 hg1 Y => ?_)
  refine lv_astore_n (lv' := [(2, .ref qz1), (0, .ref (sA S0 0)), (1, .ref G.2.1)]) hx hb dL_play_5 rfl hl (by decide) rfl (fun ls hl => ?_)
  refine lv_iconst (v := 0) hx hb dL_play_6 (by decide) ?_
  refine lv_istore_n (lv' := [(3, .int 0), (2, .ref qz1), (0, .ref (sA S0 0)), (1, .ref G.2.1)]) hx hb dL_play_7 rfl hl (by decide) rfl (fun ls hl => ?_)
  have hI0 : PlI G Mz1 S0 h0 S0 h0 qz1 (fun _ => 0) := ⟨PV.fr9 (Z := fun u => 4000 ≤ u) (hFr.grow hFr.rf hg1) (fun u z => z) hP0, fz1, ⟨by rw [hm0]; rfl, by rw [hn0]; rfl, fun i9 hi9 => by omega⟩, fun i9 hi9 => by omega, ⟨rfl, rfl, rfl, rfl⟩, rfl⟩
  have loop : ∀ (d i : Nat), i + d = 46 → i ≤ 45 → ∀ (M1 : hM) (S : hSy) (h : hHo) (f : Nat → Int32), PlI G M1 S0 h0 S h qz1 f → ∀ (H : Heap) (locs : List Loc) (ls : Array Slot), hHS G M1 s H locs → lv_has ls 12 [(0, .ref (sA S0 0)), (1, .ref G.2.1), (2, .ref qz1), (3, .int (nI i))] → W p l e (hRm 12 400 8000) s m args below meth c H locs (0 + 1 + 5 * i) (0 + 1002 + 92 * i) (MQ below (hQ G (fun v M' => ∃ b S' h' f', v = some (.ref b) ∧ PlI G M' S0 h0 S' h' b f')) args s 400 8000 (hA G)) (F0 m 8 ls []) := by
    intro d
    induction d with
    | zero => intro i h1; intros; exact absurd h1 (by omega)
    | succ d ih =>
      intro i h1 h2 M1 S h f I H locs ls Y hl
      obtain ⟨hPv, hbr, ⟨hB0, hB1, hBr⟩, hCI, hSe, hhe⟩ := id I
      have h40 : sM S ≤ 40 := hPv.1.2.1.2.1
      have hn10 : hNow h < 10 := hPv.1.2.2.2.2.2.1
      have ha0 := hSe.2.2.2
      refine lv_iload_n hx hb dL_play_8 rfl (lv_at hl 3 rfl) ?_
      refine lv_bipush (v := 45) hx hb dL_play_9 (by decide) ?_
      refine lv_icmp_ge (tgt := 733) hx hb dL_play_11 (by decide) (fun c11 => ?_) (fun c11 => ?_)
      · have c11 : 45 ≤ i := (nI_leI (a := 45) (b := i) (by omega) (by omega)).mp c11
        refine lv_aload_n hx hb dL_play_733 rfl (lv_at hl 2 rfl) ?_
        exact h_aret (v := some qz1) X Y (Or.inr ⟨_, rfl⟩) ⟨qz1, S, h, f, rfl, I⟩ (by show _ ≤ 400; omega) (by show _ ≤ 8000; omega) dL_play_734
      · have c11 : ¬ 45 ≤ i := fun z9 => c11 ((nI_leI (a := 45) (b := i) (by omega) (by omega)).mpr z9)
        have hi45 : i < 45 := by omega
        have KT : ∀ (M' : hM) (H : Heap) (locs : List Loc) (ls : Array Slot) (S' : hSy) (h' : hHo) (f' : Nat → Int32), hHS G M' s H locs → lv_has ls 12 [(0, .ref (sA S0 0)), (1, .ref G.2.1), (2, .ref qz1), (3, .int (nI i))] → PlI G M' S0 h0 S' h' qz1 f' → W p l e (hRm 12 400 8000) s m args below meth c H locs (0 + 1 + 5 * i + 5) (0 + 1002 + 92 * i + 92) (MQ below (hQ G (fun v M' => ∃ b S' h' f', v = some (.ref b) ∧ PlI G M' S0 h0 S' h' b f')) args s 400 8000 (hA G)) (F0 m 647 ls []) := fun M' H locs ls S' h' f' Y' hl' I' => play_tail l G p e s m args below meth c M' H locs ls _ _ _ (by omega) (by omega) X Y' S0 S' h0 h' qz1 (sA S0 0) i f' I'.2.2.2.2.1.2.2.2 I' (by omega) hl' (fun M2 H locs ls S2 h2 f2 Y2 hl2 I2 => W.wid (by omega) (by omega) (ih (i + 1) (by omega) (by omega) M2 S2 h2 f2 I2 H locs ls Y2 hl2))
        refine lv_aload_n hx hb dL_play_14 rfl (lv_at hl 1 rfl) ?_
        refine lv_iload_n hx hb dL_play_15 rfl (lv_at hl 3 rfl) ?_
        refine lv_bipush (v := 16) hx hb dL_play_16 (by decide) ?_
        refine lv_irem hx hb dL_play_18 (by decide) ?_
        refine h_ev (y := nI (i % 16)) (pk_rem (a := i) (d := 16) (by omega) (by omega) (by omega)) ?_
        refine h_callSr (rest := []) X Y (c_cell l G M1 L xs hs (i % 16) (by omega)) rfl rfl gw_L_36 dsc_L_cell.2 rfl rfl hl.1 (Nat.le_of_ble_eq_true rfl) ⟨Nat.le_of_ble_eq_true rfl, Nat.le_of_ble_eq_true rfl⟩ ⟨(by show _ ≤ 400; first | omega | (dsimp only [hRm]; omega)), (by show _ ≤ 8000; first | omega | (dsimp only [hRm]; omega))⟩ dL_play_19 (fun H locs Y => ?_)
        refine lv_iload_n hx hb dL_play_22 rfl (lv_at hl 3 rfl) ?_
        refine lv_bipush (v := 16) hx hb dL_play_23 (by decide) ?_
        refine lv_idiv hx hb dL_play_25 (by decide) ?_
        refine h_ev (y := nI (i / 16)) (pk_div (a := i) (d := 16) (by omega) (by omega) (by omega)) ?_
        refine lv_bipush (v := 6) hx hb dL_play_26 (by decide) ?_
        refine lv_imul hx hb dL_play_28 ?_
        refine h_ev (y := nI (i / 16 * 6)) (pk_mul (i / 16) 6) ?_
        refine lv_ishr hx hb dL_play_29 ?_
        obtain ⟨vv, hvv⟩ : ∃ vv, vv = (cel L xs (i % 16)) >>> (nI (i / 16 * 6) &&& 31) := ⟨_, rfl⟩
        refine h_ev (y := vv) hvv.symm ?_
        refine lv_istore (lv' := [(4, .int vv), (0, .ref (sA S0 0)), (1, .ref G.2.1), (2, .ref qz1), (3, .int (nI i))]) hx hb dL_play_30 hl (by decide) rfl (fun ls hl => ?_)
        refine lv_aload_n hx hb dL_play_32 rfl (lv_at hl 3 rfl) ?_
        refine lv_sipush (v := 1000) hx hb dL_play_33 (by decide) ?_
        refine h_iald X Y (i := 1000) hbr (by omega) (by decide) dL_play_36 ?_
        refine h_ev (y := nI (sM S)) hB0 ?_
        refine lv_istore (lv' := [(5, .int (nI (sM S))), (4, .int vv), (0, .ref (sA S0 0)), (1, .ref G.2.1), (2, .ref qz1), (3, .int (nI i))]) hx hb dL_play_37 hl (by decide) rfl (fun ls hl => ?_)
        refine lv_aload_n hx hb dL_play_39 rfl (lv_at hl 4 rfl) ?_
        refine lv_sipush (v := 1001) hx hb dL_play_40 (by decide) ?_
        refine h_iald X Y (i := 1001) hbr (by omega) (by decide) dL_play_43 ?_
        refine h_ev (y := nI (hNow h)) hB1 ?_
        refine lv_istore (lv' := [(6, .int (nI (hNow h))), (5, .int (nI (sM S))), (4, .int vv), (0, .ref (sA S0 0)), (1, .ref G.2.1), (2, .ref qz1), (3, .int (nI i))]) hx hb dL_play_44 hl (by decide) rfl (fun ls hl => ?_)
        refine lv_iload hx hb dL_play_46 (lv_at hl 1 rfl) ?_
        refine lv_if_ne (tgt := 55) hx hb dL_play_48 (by decide) (fun c48 => ?_) (fun c48 => ?_)
        · have c48 : ¬ (sM S) = 0 := fun z9 => c48 ((nI_eq (a := (sM S)) (b := 0) (by omega) (by omega)).mpr z9)
          refine lv_iload hx hb dL_play_55 (lv_at hl 2 rfl) ?_
          refine lv_iconst (v := 3) hx hb dL_play_57 (by decide) ?_
          refine lv_ishr hx hb dL_play_58 ?_
          refine lv_iload hx hb dL_play_59 (lv_at hl 1 rfl) ?_
          refine h_callSr (rest := []) X Y (c_below l G M1 (vv >>> (3 &&& 31)) (sM S) (by omega)) rfl rfl gw_L_42 dsc_L_below.2 rfl rfl hl.1 (Nat.le_of_ble_eq_true rfl) ⟨Nat.le_of_ble_eq_true rfl, Nat.le_of_ble_eq_true rfl⟩ ⟨(by show _ ≤ 400; first | omega | (dsimp only [hRm]; omega)), (by show _ ≤ 8000; first | omega | (dsimp only [hRm]; omega))⟩ dL_play_61 (fun H locs Y => ?_)
          have hcb := bel_lt (vv >>> (3 &&& 31)) (y := sM S) (by omega)
          obtain ⟨ci, hci9⟩ : ∃ ci, ci = (bel (vv >>> (3 &&& 31)) (sM S)) := ⟨_, rfl⟩
          refine h_ev (y := nI ci) (congrArg nI hci9.symm) ?_
          have hci : ci < sM S := by omega
          refine lv_istore (lv' := [(7, .int (nI ci)), (6, .int (nI (hNow h))), (5, .int (nI (sM S))), (4, .int vv), (0, .ref (sA S0 0)), (1, .ref G.2.1), (2, .ref qz1), (3, .int (nI i))]) hx hb dL_play_64 hl (by decide) rfl (fun ls hl => ?_)
          refine lv_iload hx hb dL_play_66 (lv_at hl 2 rfl) ?_
          refine lv_if_ne (tgt := 75) hx hb dL_play_68 (by decide) (fun c68 => ?_) (fun c68 => absurd (show (sM S) = 0 from (nI_eq (a := (sM S)) (b := 0) (by omega) (by omega)).mp c68) (by omega))
          have c68 : ¬ (sM S) = 0 := fun z9 => c68 ((nI_eq (a := (sM S)) (b := 0) (by omega) (by omega)).mpr z9)
          refine lv_iload hx hb dL_play_75 (lv_at hl 3 rfl) ?_
          refine lv_bipush (v := 8) hx hb dL_play_77 (by decide) ?_
          refine h_callSr (rest := []) X Y (c_below l G M1 (vv) 8 (by omega)) rfl rfl gw_L_42 dsc_L_below.2 rfl rfl hl.1 (Nat.le_of_ble_eq_true rfl) ⟨Nat.le_of_ble_eq_true rfl, Nat.le_of_ble_eq_true rfl⟩ ⟨(by show _ ≤ 400; first | omega | (dsimp only [hRm]; omega)), (by show _ ≤ 8000; first | omega | (dsimp only [hRm]; omega))⟩ dL_play_79 (fun H locs Y => ?_)
          have hkb := bel_lt vv (y := 8) (by omega)
          obtain ⟨kd, hkd⟩ : ∃ kd, kd = bel vv 8 := ⟨_, rfl⟩
          refine h_ev (y := nI kd) (congrArg nI hkd.symm) ?_
          have hk8 : kd < 8 := by omega
          rcases (show kd = 0 ∨ kd = 1 ∨ kd = 2 ∨ kd = 3 ∨ kd = 4 ∨ kd = 5 ∨ kd = 6 ∨ kd = 7 from (by omega)) with rfl | rfl | rfl | rfl | rfl | rfl | rfl | rfl
          · refine lv_tableIn (off := 38) (tgt := 120) hx hb dL_play_82 (by decide) (by decide) (by decide) (by decide) ?_
            exact play_open l G p e s m args below meth c M1 H locs ls _ _ _ (by omega) (by omega) X Y S0 S h0 h qz1 (sA S0 0) i f ha0 I ci vv (lv_sub hl [0, 1, 2, 3, 7, 6, 4, 5] rfl) KT
          · refine lv_tableIn (off := 38) (tgt := 120) hx hb dL_play_82 (by decide) (by decide) (by decide) (by decide) ?_
            exact play_open l G p e s m args below meth c M1 H locs ls _ _ _ (by omega) (by omega) X Y S0 S h0 h qz1 (sA S0 0) i f ha0 I ci vv (lv_sub hl [0, 1, 2, 3, 7, 6, 4, 5] rfl) KT
          · refine lv_tableIn (off := 153) (tgt := 235) hx hb dL_play_82 (by decide) (by decide) (by decide) (by decide) ?_
            exact play_pay l G p e s m args below meth c M1 H locs ls _ _ _ (by omega) (by omega) X Y S0 S h0 h qz1 (sA S0 0) i f ha0 I hl9 htab ci vv hci (lv_sub hl [0, 1, 2, 3, 7, 6, 4, 5] rfl) KT
          · refine lv_tableIn (off := 153) (tgt := 235) hx hb dL_play_82 (by decide) (by decide) (by decide) (by decide) ?_
            exact play_pay l G p e s m args below meth c M1 H locs ls _ _ _ (by omega) (by omega) X Y S0 S h0 h qz1 (sA S0 0) i f ha0 I hl9 htab ci vv hci (lv_sub hl [0, 1, 2, 3, 7, 6, 4, 5] rfl) KT
          · refine lv_tableIn (off := 296) (tgt := 378) hx hb dL_play_82 (by decide) (by decide) (by decide) (by decide) ?_
            exact play_set l G p e s m args below meth c M1 H locs ls _ _ _ (by omega) (by omega) X Y S0 S h0 h qz1 (sA S0 0) i f ha0 I hl9 htab ci vv hci (lv_sub hl [0, 1, 2, 3, 7, 6, 4, 5] rfl) KT
          · refine lv_tableIn (off := 384) (tgt := 466) hx hb dL_play_82 (by decide) (by decide) (by decide) (by decide) ?_
            exact play_close l G p e s m args below meth c M1 H locs ls _ _ _ (by omega) (by omega) X Y S0 S h0 h qz1 (sA S0 0) i f ha0 I ci vv hci (lv_sub hl [0, 1, 2, 3, 7, 6, 4, 5] rfl) KT
          · refine lv_tableOut (tgt := 540) hx hb dL_play_82 (by decide) (by decide) ?_
            exact play_year l G p e s m args below meth c M1 H locs ls _ _ _ (by omega) (by omega) X Y S0 S h0 h qz1 (sA S0 0) i f ha0 I ci vv (lv_sub hl [0, 1, 2, 3, 7, 6, 4, 5] rfl) KT
          · refine lv_tableOut (tgt := 540) hx hb dL_play_82 (by decide) (by decide) ?_
            exact play_year l G p e s m args below meth c M1 H locs ls _ _ _ (by omega) (by omega) X Y S0 S h0 h qz1 (sA S0 0) i f ha0 I ci vv (lv_sub hl [0, 1, 2, 3, 7, 6, 4, 5] rfl) KT
        · have c48 : (sM S) = 0 := (nI_eq (a := (sM S)) (b := 0) (by omega) (by omega)).mp c48
          refine lv_iconst (v := 0) hx hb dL_play_51 (by decide) ?_
          refine lv_goto (tgt := 64) hx hb dL_play_52 (by decide) ?_
          refine lv_istore (lv' := [(7, .int 0), (6, .int (nI (hNow h))), (5, .int (nI (sM S))), (4, .int vv), (0, .ref (sA S0 0)), (1, .ref G.2.1), (2, .ref qz1), (3, .int (nI i))]) hx hb dL_play_64 hl (by decide) rfl (fun ls hl => ?_)
          refine lv_iload hx hb dL_play_66 (lv_at hl 2 rfl) ?_
          refine lv_if_ne (tgt := 75) hx hb dL_play_68 (by decide) (fun c68 => absurd (show ¬ (sM S) = 0 from fun z9 => c68 ((nI_eq (a := (sM S)) (b := 0) (by omega) (by omega)).mpr z9)) (by omega)) (fun c68 => ?_)
          have c68 : (sM S) = 0 := (nI_eq (a := (sM S)) (b := 0) (by omega) (by omega)).mp c68
          refine lv_iconst (v := 0) hx hb dL_play_71 (by decide) ?_
          refine lv_goto (tgt := 82) hx hb dL_play_72 (by decide) ?_
          refine lv_tableIn (off := 38) (tgt := 120) hx hb dL_play_82 (by decide) (by decide) (by decide) (by decide) ?_
          exact play_open l G p e s m args below meth c M1 H locs ls _ _ _ (by omega) (by omega) X Y S0 S h0 h qz1 (sA S0 0) i f ha0 I 0 vv (lv_sub hl [0, 1, 2, 3, 7, 6, 4, 5] rfl) KT
  exact loop 46 0 (by omega) (by omega) Mz1 S0 h0 _ hI0 _ _ _ Y (lv_sub hl [2, 3, 1, 0] rfl)
