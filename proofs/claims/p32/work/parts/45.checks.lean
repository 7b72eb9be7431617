-- THE LAW'S TEXTS ARE LOOKED AT
theorem gw_X2_29 : GoodIn hGW (wsV RX2 29 RX2 yX2_errorOf (Cond.code yX2_errorOf cX2_errorOf 7 (Option.some FieldType.int) :: hGW)) := hgi4 kml_X2_29 kin_X2_errorOf kse_X2_X2_errorOf_X2_errorOf kini_X2 kco_X2_errorOf
theorem dsc_X2_errorOf : yX2_errorOf.cls = RX2 ∧ yX2_errorOf.cls ≠ "java/lang/invoke/MethodHandle" ∧ yX2_errorOf.cls ≠ "java/lang/invoke/VarHandle" ∧ (parseMethodDescriptor yX2_errorOf.desc).map (fun d => d.parameters.length) = some 2 := ⟨rfl, by decide +kernel, by decide +kernel, by decide +kernel⟩
theorem dX2_check_0 : decode cX2_check 0 = .ok (.aload_n 0, 1) := by decide +kernel
theorem dX2_check_1 : decode cX2_check 1 = .ok (.iconst 0, 1) := by decide +kernel
theorem dX2_check_2 : decode cX2_check 2 = .ok (.putfield 15, 3) := by decide +kernel
theorem dX2_check_5 : decode cX2_check 5 = .ok (.aload_n 0, 1) := by decide +kernel
theorem dX2_check_6 : decode cX2_check 6 = .ok (.iconst (-1), 1) := by decide +kernel
theorem dX2_check_7 : decode cX2_check 7 = .ok (.putfield 19, 3) := by decide +kernel
theorem dX2_check_10 : decode cX2_check 10 = .ok (.iconst 1, 1) := by decide +kernel
theorem dX2_check_11 : decode cX2_check 11 = .ok (.istore_n 2, 1) := by decide +kernel
theorem dX2_check_12 : decode cX2_check 12 = .ok (.iload_n 2, 1) := by decide +kernel
theorem dX2_check_13 : decode cX2_check 13 = .ok (.aload_n 0, 1) := by decide +kernel
theorem dX2_check_14 : decode cX2_check 14 = .ok (.getfield 22, 3) := by decide +kernel
theorem dX2_check_17 : decode cX2_check 17 = .ok (.getfield 26, 3) := by decide +kernel
theorem dX2_check_20 : decode cX2_check 20 = .ok (.if_icmp .ge 27, 3) := by decide +kernel
theorem dX2_check_23 : decode cX2_check 23 = .ok (.aload_n 0, 1) := by decide +kernel
theorem dX2_check_24 : decode cX2_check 24 = .ok (.iload_n 2, 1) := by decide +kernel
theorem dX2_check_25 : decode cX2_check 25 = .ok (.aload_n 1, 1) := by decide +kernel
theorem dX2_check_26 : decode cX2_check 26 = .ok (.invokevirtual 29, 3) := by decide +kernel
theorem dX2_check_29 : decode cX2_check 29 = .ok (.istore_n 3, 1) := by decide +kernel
theorem dX2_check_30 : decode cX2_check 30 = .ok (.iload_n 3, 1) := by decide +kernel
theorem dX2_check_31 : decode cX2_check 31 = .ok (.ifCond .eq 10, 3) := by decide +kernel
theorem dX2_check_41 : decode cX2_check 41 = .ok (.iinc 2 1, 3) := by decide +kernel
theorem dX2_check_44 : decode cX2_check 44 = .ok (.goto (-32), 3) := by decide +kernel
theorem dX2_check_47 : decode cX2_check 47 = .ok (.iconst 0, 1) := by decide +kernel
theorem dX2_check_48 : decode cX2_check 48 = .ok (.ireturn, 1) := by decide +kernel
set_option maxHeartbeats 4000000 in
set_option maxRecDepth 100000 in
theorem c_check00 (l : Launch) (G : hG) (M : hM) (A : Nat → Nat) (N : Nat) (sg : Nat → Nat) (nb : Nat → Int32) (wd : Nat → Int64) (hN : N < 400) (hTk : TkV G M A N sg nb wd) (hNv : N = 48) (hpat : ∀ j, j ≤ 48 → sg j = (fPat false false).getD j 0) (c0 : Int32) (wr : Int32) (g7 : Nat → Int64) (hc11 : M (A 11) = some (11, .inr (4, [.ref (A 3), .ref (A 12), .int c0, .int wr]))) (hc12 : M (A 12) = some (12, .inl (hT G 2, 8, .inr (.inl g7)))) (lst e0 qa qb qc : Nat) (La Lb Lc : hLy) (Fa Fb Fc : Nat → hFo) (hlO : LsO M lst 3013 e0 3) (hlE : LsE G M e0 3014 3 (gq qa qb qc)) (hLa : LaP G M qa 2000 La Fa) (hLb : LaP G M qb 2100 Lb Fb) (hLc : LaP G M qc 2200 Lc Fc) (hIc : lyI Lc = lyI0) (hw1 : wd 1 = 38) (hw2 : wd 9 = 76) (hw3 : wd 23 = 114) (hv2 : wd 35 = 38) (hv3 : wd 37 = 76) (hx0 : ¬ nb 6 < 1) (hx1 : nb 6 ≤ 100) (hx2 : nb 32 ≤ 4)  : hCT l G yX2_check cX2_check 4 (Option.some FieldType.int) (hRm 6 0 0) M [.ref (A 11), .ref lst] (fun v M' => v = some (.int 0) ∧ (∃ f : Nat → Int64, M' (A 11) = some (11, .inr (4, [.ref (A 3), .ref (A 12), .int (nI 3), .int (-1)])) ∧ M' (A 12) = some (12, .inl (hT G 2, 8, .inr (.inl f)))) ∧ LaP G M' qa 2000 (lyU La 0 (nb (5 + 1))) Fa ∧ LaP G M' qb 2100 (Lb) Fb ∧ LaP G M' qc 2200 (lyNt (lyNt (lyU Lc 1 (nb (31 + 1))) 0) 1) Fc ∧ hFr (fun u => u = 11 ∨ u = 12 ∨ (2000 ≤ u ∧ u < 2300)) M M') := by
  refine hCT.of (own := RX2) (nm := "check") (by decide) rfl rfl (Nat.le_of_ble_eq_true rfl) ?_
  intro p e s m args below meth c ls X Y hl
  have hx := X.1
  have hb := X.2.1
  have hl : lv_has ls 4 [(0, .ref (A 11)), (1, .ref lst)] := hl
  have hs7 : ∀ i, i ≤ N → sg i < 37 := fun i hi => by rw [hpat i (by omega)]; exact fp_00_7 i (by omega)
  have hfr : hFr (fun u => u = 11 ∨ u = 12 ∨ (2000 ≤ u ∧ u < 2300)) M M := hFr.rf
  refine lv_aload_n hx hb dX2_check_0 rfl (lv_at hl 0 rfl) ?_
  refine lv_iconst (v := 0) hx hb dX2_check_1 (by decide) ?_
  refine h_put X Y (k := 2) (v := .int 0) hc11 rfl hin_X2 tyX2_ok nmX2 (by decide) kfl_X2_15 rfl rfl rfl (Nat.le_of_ble_eq_true rfl) dX2_check_2 (fun H locs Y => ?_)
  have Y : hHS G (hup M (A 11) (11, .inr (4, [.ref (A 3), .ref (A 12), .int 0, .int wr]))) s H locs := Y
  have hTk := hTk.fr (hFr.put (Z := fun u => u = 11) (x := (11, .inr (4, [.ref (A 3), .ref (A 12), .int 0, .int wr]))) hFr.rf hc11 rfl) (fun j z1 z2 z3 => by omega)
  have hc12 := hup_tag (x := (11, .inr (4, [.ref (A 3), .ref (A 12), .int 0, .int wr]))) hc12 hc11 (by omega)
  have hlO := hlO.fr (hFr.put (Z := fun u => u = 11) (x := (11, .inr (4, [.ref (A 3), .ref (A 12), .int 0, .int wr]))) hFr.rf hc11 rfl) (by omega)
  have hlE := hlE.fr (hFr.put (Z := fun u => u = 11) (x := (11, .inr (4, [.ref (A 3), .ref (A 12), .int 0, .int wr]))) hFr.rf hc11 rfl) (by omega)
  have hLa := hLa.fr (hFr.put (Z := fun u => u = 11) (x := (11, .inr (4, [.ref (A 3), .ref (A 12), .int 0, .int wr]))) hFr.rf hc11 rfl) (fun j hj => by omega)
  have hLb := hLb.fr (hFr.put (Z := fun u => u = 11) (x := (11, .inr (4, [.ref (A 3), .ref (A 12), .int 0, .int wr]))) hFr.rf hc11 rfl) (fun j hj => by omega)
  have hLc := hLc.fr (hFr.put (Z := fun u => u = 11) (x := (11, .inr (4, [.ref (A 3), .ref (A 12), .int 0, .int wr]))) hFr.rf hc11 rfl) (fun j hj => by omega)
  have hfr := hfr.put (x := (11, .inr (4, [.ref (A 3), .ref (A 12), .int 0, .int wr]))) hc11 (Or.inl rfl)
  have hc11 : hup M (A 11) (11, .inr (4, [.ref (A 3), .ref (A 12), .int 0, .int wr])) (A 11) = some (11, .inr (4, [.ref (A 3), .ref (A 12), .int 0, .int wr])) := hup_eq
  generalize hup M (A 11) (11, .inr (4, [.ref (A 3), .ref (A 12), .int 0, .int wr])) = Mz1 at Y hc11 hTk hc12 hlO hlE hLa hLb hLc hfr
  refine lv_aload_n hx hb dX2_check_5 rfl (lv_at hl 0 rfl) ?_
  refine lv_iconst (v := (-1)) hx hb dX2_check_6 (by decide) ?_
  refine h_put X Y (k := 3) (v := .int (-1)) hc11 rfl hin_X2 tyX2_ok nmX2 (by decide) kfl_X2_19 rfl rfl rfl (Nat.le_of_ble_eq_true rfl) dX2_check_7 (fun H locs Y => ?_)
  have Y : hHS G (hup Mz1 (A 11) (11, .inr (4, [.ref (A 3), .ref (A 12), .int 0, .int (-1)]))) s H locs := Y
  have hTk := hTk.fr (hFr.put (Z := fun u => u = 11) (x := (11, .inr (4, [.ref (A 3), .ref (A 12), .int 0, .int (-1)]))) hFr.rf hc11 rfl) (fun j z1 z2 z3 => by omega)
  have hc12 := hup_tag (x := (11, .inr (4, [.ref (A 3), .ref (A 12), .int 0, .int (-1)]))) hc12 hc11 (by omega)
  have hlO := hlO.fr (hFr.put (Z := fun u => u = 11) (x := (11, .inr (4, [.ref (A 3), .ref (A 12), .int 0, .int (-1)]))) hFr.rf hc11 rfl) (by omega)
  have hlE := hlE.fr (hFr.put (Z := fun u => u = 11) (x := (11, .inr (4, [.ref (A 3), .ref (A 12), .int 0, .int (-1)]))) hFr.rf hc11 rfl) (by omega)
  have hLa := hLa.fr (hFr.put (Z := fun u => u = 11) (x := (11, .inr (4, [.ref (A 3), .ref (A 12), .int 0, .int (-1)]))) hFr.rf hc11 rfl) (fun j hj => by omega)
  have hLb := hLb.fr (hFr.put (Z := fun u => u = 11) (x := (11, .inr (4, [.ref (A 3), .ref (A 12), .int 0, .int (-1)]))) hFr.rf hc11 rfl) (fun j hj => by omega)
  have hLc := hLc.fr (hFr.put (Z := fun u => u = 11) (x := (11, .inr (4, [.ref (A 3), .ref (A 12), .int 0, .int (-1)]))) hFr.rf hc11 rfl) (fun j hj => by omega)
  have hfr := hfr.put (x := (11, .inr (4, [.ref (A 3), .ref (A 12), .int 0, .int (-1)]))) hc11 (Or.inl rfl)
  have hc11 : hup Mz1 (A 11) (11, .inr (4, [.ref (A 3), .ref (A 12), .int 0, .int (-1)])) (A 11) = some (11, .inr (4, [.ref (A 3), .ref (A 12), .int 0, .int (-1)])) := hup_eq
  generalize hup Mz1 (A 11) (11, .inr (4, [.ref (A 3), .ref (A 12), .int 0, .int (-1)])) = Mz2 at Y hc11 hTk hc12 hlO hlE hLa hLb hLc hfr
  have hc11 : Mz2 (A 11) = some (11, .inr (4, [.ref (A 3), .ref (A 12), .int (nI 0), .int (-1)])) := hc11
  refine lv_iconst (v := 1) hx hb dX2_check_10 (by decide) ?_
  refine lv_istore_n (lv' := [(2, .int 1), (0, .ref (A 11)), (1, .ref lst)]) hx hb dX2_check_11 rfl hl (by decide) rfl (fun ls hl => ?_)
  refine lv_iload_n hx hb dX2_check_12 rfl (lv_at hl 0 rfl) ?_
  refine lv_aload_n hx hb dX2_check_13 rfl (lv_at hl 1 rfl) ?_
  refine h_get X Y (k := 0) (v := .ref (A 3)) hc11 rfl hin_X2 (by decide) kfl_X2_22 rfl dX2_check_14 ?_
  refine h_get X Y (k := 4) (v := .int (nI (N + 1))) hTk.1 rfl hin_X9 (by decide) kfl_X2_26 rfl dX2_check_17 ?_
  refine lv_icmp_ge (tgt := 47) hx hb dX2_check_20 (by decide) (fun c20 => absurd (show (N + 1) ≤ 1 from (nI_leI (a := (N + 1)) (b := 1) (by omega) (by omega)).mp c20) (by omega)) (fun c20 => ?_)
  have c20 : ¬ (N + 1) ≤ 1 := fun z9 => c20 ((nI_leI (a := (N + 1)) (b := 1) (by omega) (by omega)).mpr z9)
  refine lv_aload_n hx hb dX2_check_23 rfl (lv_at hl 1 rfl) ?_
  refine lv_iload_n hx hb dX2_check_24 rfl (lv_at hl 0 rfl) ?_
  refine lv_aload_n hx hb dX2_check_25 rfl (lv_at hl 2 rfl) ?_
  have kq0 : sg 0 = 0 := hpat 0 (by omega)
  have kq1 : sg (0 + 1) = 33 := hpat 1 (by omega)
  refine h_callV (rest := []) X Y (c_errName l G Mz2 A N sg nb wd hN hTk hs7 0 (-1) g7 hc11 hc12 lst e0 (gq qa qb qc) hlO hlE 0 (by omega) kq0 kq1 (by omega) (fun j hj => absurd hj (by omega))) gw_X2_29 dsc_X2_errorOf hc11 rfl rfl rfl hl.1 rfl (Nat.le_of_ble_eq_true rfl) ⟨Nat.le_of_ble_eq_true rfl, Nat.le_of_ble_eq_true rfl⟩ ⟨Nat.le_of_ble_eq_true rfl, Nat.le_of_ble_eq_true rfl⟩ dX2_check_26 ?_
  rintro _ Mz3 H locs ⟨rfl, hc11, hc12, hfa⟩ Y
  have hTk := hTk.fr hfa (fun j z1 z2 z3 => by omega)
  have hlO := hlO.fr hfa (by omega)
  have hlE := hlE.fr hfa (by omega)
  have hLa := hLa.fr hfa (fun j hj => by omega)
  have hLb := hLb.fr hfa (fun j hj => by omega)
  have hLc := hLc.fr hfa (fun j hj => by omega)
  have hfr := hFr.tr hfr (hfa.mono (fun u z => by omega))
  have hf1_0 : (vp_updL g7 0 (wd (0 + 1))) 0 = 38 := pk_uLs.trans hw1
  try dsimp only [Option.toList, List.singleton_append]
  refine lv_istore_n (lv' := [(3, .int 0), (2, .int 1), (0, .ref (A 11)), (1, .ref lst)]) hx hb dX2_check_29 rfl hl (by decide) rfl (fun ls hl => ?_)
  refine lv_iload_n hx hb dX2_check_30 rfl (lv_at hl 0 rfl) ?_
  refine lv_if_eq (tgt := 41) hx hb dX2_check_31 (by decide) (fun c31 => ?_) (fun c31 => absurd (by decide) c31)
  refine lv_iinc (v := nI 2) (lv' := [(2, .int (nI 2)), (3, .int 0), (0, .ref (A 11)), (1, .ref lst)]) hx hb dX2_check_41 hl (k := 1) rfl (by decide) (by decide) rfl (fun ls hl => ?_)
  refine lv_goto (tgt := 12) hx hb dX2_check_44 (by decide) ?_
  have hl : lv_has ls 4 [(2, .int (nI (1 + 1))), (3, .int 0), (0, .ref (A 11)), (1, .ref lst)] := hl
  have hnn : ∀ i0, 1 ≤ i0 → i0 + 1 < 6 → (sg i0 ≠ 2 ∧ sg i0 ≠ 5 ∧ sg i0 ≠ 6) ∧ sg (i0 + 1) ≠ 33 := by
    intro i0 z1 z2
    rw [hpat i0 (by omega), hpat (i0 + 1) (by omega)]
    have hd : ∀ i0, i0 < 5 → 1 ≤ i0 → ((fPat false false).getD i0 0 ≠ 2 ∧ (fPat false false).getD i0 0 ≠ 5 ∧ (fPat false false).getD i0 0 ≠ 6) ∧ (fPat false false).getD (i0 + 1) 0 ≠ 33 := by decide
    exact hd i0 (by omega) z1
  have loop1 : ∀ (d i0 : Nat), i0 + 1 + d = 7 → 1 ≤ i0 → i0 + 1 ≤ 6 → ∀ (H : Heap) (locs : List Loc) (ls : Array Slot), hHS G Mz3 s H locs → lv_has ls 4 [(0, .ref (A 11)), (1, .ref lst), (2, .int (nI (i0 + 1)))] → W p l e (hRm 6 0 0) s m args below meth c H locs 0 0 (MQ below (hQ G (fun v M' => v = some (.int 0) ∧ (∃ f : Nat → Int64, M' (A 11) = some (11, .inr (4, [.ref (A 3), .ref (A 12), .int (nI 3), .int (-1)])) ∧ M' (A 12) = some (12, .inl (hT G 2, 8, .inr (.inl f)))) ∧ LaP G M' qa 2000 (lyU La 0 (nb (5 + 1))) Fa ∧ LaP G M' qb 2100 (Lb) Fb ∧ LaP G M' qc 2200 (lyNt (lyNt (lyU Lc 1 (nb (31 + 1))) 0) 1) Fc ∧ hFr (fun u => u = 11 ∨ u = 12 ∨ (2000 ≤ u ∧ u < 2300)) M M')) args s 0 0 (hA G)) (F0 m 12 ls []) := by
    intro d
    induction d with
    | zero => intro i0 h1; intros; exact absurd h1 (by omega)
    | succ d ih1 =>
      intro i0 h1 h0 h2 H locs ls Y hl
      refine lv_iload_n hx hb dX2_check_12 rfl (lv_at hl 2 rfl) ?_
      rcases Nat.lt_or_ge (i0 + 1) 6 with hlt | hge
      · refine lv_aload_n hx hb dX2_check_13 rfl (lv_at hl 0 rfl) ?_
        refine h_get X Y (k := 0) (v := .ref (A 3)) hc11 rfl hin_X2 (by decide) kfl_X2_22 rfl dX2_check_14 ?_
        refine h_get X Y (k := 4) (v := .int (nI (N + 1))) hTk.1 rfl hin_X9 (by decide) kfl_X2_26 rfl dX2_check_17 ?_
        refine lv_icmp_ge (tgt := 47) hx hb dX2_check_20 (by decide) (fun c20 => absurd (show (N + 1) ≤ (i0 + 1) from (nI_leI (a := (N + 1)) (b := (i0 + 1)) (by omega) (by omega)).mp c20) (by omega)) (fun c20 => ?_)
        have c20 : ¬ (N + 1) ≤ (i0 + 1) := fun z9 => c20 ((nI_leI (a := (N + 1)) (b := (i0 + 1)) (by omega) (by omega)).mpr z9)
        refine lv_aload_n hx hb dX2_check_23 rfl (lv_at hl 0 rfl) ?_
        refine lv_iload_n hx hb dX2_check_24 rfl (lv_at hl 2 rfl) ?_
        refine lv_aload_n hx hb dX2_check_25 rfl (lv_at hl 1 rfl) ?_
        refine h_callVr (rest := []) X Y (c_errNone l G Mz3 A N sg nb wd hN hTk hs7 0 (-1) (vp_updL g7 0 (wd (0 + 1))) hc11 hc12 lst e0 (gq qa qb qc) hlO hlE i0 (by omega) (hnn i0 h0 hlt).1 (hnn i0 h0 hlt).2 2000 La (by omega) hLa.1 (by omega)) rfl rfl gw_X2_29 dsc_X2_errorOf hc11 rfl rfl rfl rfl hl.1 (Nat.le_of_ble_eq_true rfl) ⟨Nat.le_of_ble_eq_true rfl, Nat.le_of_ble_eq_true rfl⟩ ⟨Nat.le_of_ble_eq_true rfl, Nat.le_of_ble_eq_true rfl⟩ dX2_check_26 (fun H locs Y => ?_)
        refine lv_istore_n (lv' := [(3, .int 0), (0, .ref (A 11)), (1, .ref lst), (2, .int (nI (i0 + 1)))]) hx hb dX2_check_29 rfl hl (by decide) rfl (fun ls hl => ?_)
        refine lv_iload_n hx hb dX2_check_30 rfl (lv_at hl 0 rfl) ?_
        refine lv_if_eq (tgt := 41) hx hb dX2_check_31 (by decide) (fun c31 => ?_) (fun c31 => absurd (by decide) c31)
        refine lv_iinc (v := nI (i0 + 1 + 1)) (lv' := [(2, .int (nI (i0 + 1 + 1))), (3, .int 0), (0, .ref (A 11)), (1, .ref lst)]) hx hb dX2_check_41 hl (k := 3) rfl (nI_1 (i0 + 1)) (by decide) rfl (fun ls hl => ?_)
        refine lv_goto (tgt := 12) hx hb dX2_check_44 (by decide) ?_
        exact ih1 (i0 + 1) (by omega) (by omega) (by omega) _ _ _ Y (lv_sub hl [2, 3, 0] rfl)
      · obtain rfl : i0 = 5 := by omega
        have hl : lv_has ls 4 [(0, .ref (A 11)), (1, .ref lst), (2, .int (nI 6))] := hl
        refine lv_aload_n hx hb dX2_check_13 rfl (lv_at hl 0 rfl) ?_
        refine h_get X Y (k := 0) (v := .ref (A 3)) hc11 rfl hin_X2 (by decide) kfl_X2_22 rfl dX2_check_14 ?_
        refine h_get X Y (k := 4) (v := .int (nI (N + 1))) hTk.1 rfl hin_X9 (by decide) kfl_X2_26 rfl dX2_check_17 ?_
        refine lv_icmp_ge (tgt := 47) hx hb dX2_check_20 (by decide) (fun c20 => absurd (show (N + 1) ≤ 6 from (nI_leI (a := (N + 1)) (b := 6) (by omega) (by omega)).mp c20) (by omega)) (fun c20 => ?_)
        have c20 : ¬ (N + 1) ≤ 6 := fun z9 => c20 ((nI_leI (a := (N + 1)) (b := 6) (by omega) (by omega)).mpr z9)
        refine lv_aload_n hx hb dX2_check_23 rfl (lv_at hl 0 rfl) ?_
        refine lv_iload_n hx hb dX2_check_24 rfl (lv_at hl 2 rfl) ?_
        refine lv_aload_n hx hb dX2_check_25 rfl (lv_at hl 1 rfl) ?_
        have kq5 : sg 5 = 2 := hpat 5 (by omega)
        have kq6 : sg (5 + 1) = 34 := hpat 6 (by omega)
        refine h_callV (rest := []) X Y (c_errShare l G Mz3 A N sg nb wd hN hTk hs7 0 (-1) (vp_updL g7 0 (wd (0 + 1))) hc11 hc12 lst e0 (gq qa qb qc) hlO hlE 5 (by omega) kq5 (by omega) 2000 La (by omega) hLa.1 (by omega) hx0 hx1) gw_X2_29 dsc_X2_errorOf hc11 rfl rfl rfl hl.1 rfl (Nat.le_of_ble_eq_true rfl) ⟨Nat.le_of_ble_eq_true rfl, Nat.le_of_ble_eq_true rfl⟩ ⟨Nat.le_of_ble_eq_true rfl, Nat.le_of_ble_eq_true rfl⟩ dX2_check_26 ?_
        rintro _ Mz4 H locs ⟨rfl, hLy, hfa⟩ Y
        have hLa := hLa.upd hLy rfl rfl hfa
        have hTk := hTk.fr hfa (fun j z1 z2 z3 => by omega)
        have hlO := hlO.fr hfa (by omega)
        have hlE := hlE.fr hfa (by omega)
        have hLb := hLb.fr hfa (fun j hj => by omega)
        have hLc := hLc.fr hfa (fun j hj => by omega)
        have hc11 := hfa _ _ _ hc11 (by omega)
        have hc12 := hfa _ _ _ hc12 (by omega)
        have hfr := hFr.tr hfr (hfa.mono (fun u z => by omega))
        try dsimp only [Option.toList, List.singleton_append]
        refine lv_istore_n (lv' := [(3, .int 0), (0, .ref (A 11)), (1, .ref lst), (2, .int (nI 6))]) hx hb dX2_check_29 rfl hl (by decide) rfl (fun ls hl => ?_)
        refine lv_iload_n hx hb dX2_check_30 rfl (lv_at hl 0 rfl) ?_
        refine lv_if_eq (tgt := 41) hx hb dX2_check_31 (by decide) (fun c31 => ?_) (fun c31 => absurd (by decide) c31)
        refine lv_iinc (v := nI 7) (lv' := [(2, .int (nI 7)), (3, .int 0), (0, .ref (A 11)), (1, .ref lst)]) hx hb dX2_check_41 hl (k := 3) rfl (by decide) (by decide) rfl (fun ls hl => ?_)
        refine lv_goto (tgt := 12) hx hb dX2_check_44 (by decide) ?_
        have hl : lv_has ls 4 [(2, .int (nI (6 + 1))), (3, .int 0), (0, .ref (A 11)), (1, .ref lst)] := hl
        have hnn : ∀ i0, 6 ≤ i0 → i0 + 1 < 9 → (sg i0 ≠ 2 ∧ sg i0 ≠ 5 ∧ sg i0 ≠ 6) ∧ sg (i0 + 1) ≠ 33 := by
          intro i0 z1 z2
          rw [hpat i0 (by omega), hpat (i0 + 1) (by omega)]
          have hd : ∀ i0, i0 < 8 → 6 ≤ i0 → ((fPat false false).getD i0 0 ≠ 2 ∧ (fPat false false).getD i0 0 ≠ 5 ∧ (fPat false false).getD i0 0 ≠ 6) ∧ (fPat false false).getD (i0 + 1) 0 ≠ 33 := by decide
          exact hd i0 (by omega) z1
        have loop2 : ∀ (d i0 : Nat), i0 + 1 + d = 10 → 6 ≤ i0 → i0 + 1 ≤ 9 → ∀ (H : Heap) (locs : List Loc) (ls : Array Slot), hHS G Mz4 s H locs → lv_has ls 4 [(0, .ref (A 11)), (1, .ref lst), (2, .int (nI (i0 + 1)))] → W p l e (hRm 6 0 0) s m args below meth c H locs 0 0 (MQ below (hQ G (fun v M' => v = some (.int 0) ∧ (∃ f : Nat → Int64, M' (A 11) = some (11, .inr (4, [.ref (A 3), .ref (A 12), .int (nI 3), .int (-1)])) ∧ M' (A 12) = some (12, .inl (hT G 2, 8, .inr (.inl f)))) ∧ LaP G M' qa 2000 (lyU La 0 (nb (5 + 1))) Fa ∧ LaP G M' qb 2100 (Lb) Fb ∧ LaP G M' qc 2200 (lyNt (lyNt (lyU Lc 1 (nb (31 + 1))) 0) 1) Fc ∧ hFr (fun u => u = 11 ∨ u = 12 ∨ (2000 ≤ u ∧ u < 2300)) M M')) args s 0 0 (hA G)) (F0 m 12 ls []) := by
          intro d
          induction d with
          | zero => intro i0 h1; intros; exact absurd h1 (by omega)
          | succ d ih2 =>
            intro i0 h1 h0 h2 H locs ls Y hl
            refine lv_iload_n hx hb dX2_check_12 rfl (lv_at hl 2 rfl) ?_
            rcases Nat.lt_or_ge (i0 + 1) 9 with hlt | hge
            · refine lv_aload_n hx hb dX2_check_13 rfl (lv_at hl 0 rfl) ?_
              refine h_get X Y (k := 0) (v := .ref (A 3)) hc11 rfl hin_X2 (by decide) kfl_X2_22 rfl dX2_check_14 ?_
              refine h_get X Y (k := 4) (v := .int (nI (N + 1))) hTk.1 rfl hin_X9 (by decide) kfl_X2_26 rfl dX2_check_17 ?_
              refine lv_icmp_ge (tgt := 47) hx hb dX2_check_20 (by decide) (fun c20 => absurd (show (N + 1) ≤ (i0 + 1) from (nI_leI (a := (N + 1)) (b := (i0 + 1)) (by omega) (by omega)).mp c20) (by omega)) (fun c20 => ?_)
              have c20 : ¬ (N + 1) ≤ (i0 + 1) := fun z9 => c20 ((nI_leI (a := (N + 1)) (b := (i0 + 1)) (by omega) (by omega)).mpr z9)
              refine lv_aload_n hx hb dX2_check_23 rfl (lv_at hl 0 rfl) ?_
              refine lv_iload_n hx hb dX2_check_24 rfl (lv_at hl 2 rfl) ?_
              refine lv_aload_n hx hb dX2_check_25 rfl (lv_at hl 1 rfl) ?_
              refine h_callVr (rest := []) X Y (c_errNone l G Mz4 A N sg nb wd hN hTk hs7 0 (-1) (vp_updL g7 0 (wd (0 + 1))) hc11 hc12 lst e0 (gq qa qb qc) hlO hlE i0 (by omega) (hnn i0 h0 hlt).1 (hnn i0 h0 hlt).2 2000 (lyU La 0 (nb (5 + 1))) (by omega) hLa.1 (by omega)) rfl rfl gw_X2_29 dsc_X2_errorOf hc11 rfl rfl rfl rfl hl.1 (Nat.le_of_ble_eq_true rfl) ⟨Nat.le_of_ble_eq_true rfl, Nat.le_of_ble_eq_true rfl⟩ ⟨Nat.le_of_ble_eq_true rfl, Nat.le_of_ble_eq_true rfl⟩ dX2_check_26 (fun H locs Y => ?_)
              refine lv_istore_n (lv' := [(3, .int 0), (0, .ref (A 11)), (1, .ref lst), (2, .int (nI (i0 + 1)))]) hx hb dX2_check_29 rfl hl (by decide) rfl (fun ls hl => ?_)
              refine lv_iload_n hx hb dX2_check_30 rfl (lv_at hl 0 rfl) ?_
              refine lv_if_eq (tgt := 41) hx hb dX2_check_31 (by decide) (fun c31 => ?_) (fun c31 => absurd (by decide) c31)
              refine lv_iinc (v := nI (i0 + 1 + 1)) (lv' := [(2, .int (nI (i0 + 1 + 1))), (3, .int 0), (0, .ref (A 11)), (1, .ref lst)]) hx hb dX2_check_41 hl (k := 3) rfl (nI_1 (i0 + 1)) (by decide) rfl (fun ls hl => ?_)
              refine lv_goto (tgt := 12) hx hb dX2_check_44 (by decide) ?_
              exact ih2 (i0 + 1) (by omega) (by omega) (by omega) _ _ _ Y (lv_sub hl [2, 3, 0] rfl)
            · obtain rfl : i0 = 8 := by omega
              have hl : lv_has ls 4 [(0, .ref (A 11)), (1, .ref lst), (2, .int (nI 9))] := hl
              refine lv_aload_n hx hb dX2_check_13 rfl (lv_at hl 0 rfl) ?_
              refine h_get X Y (k := 0) (v := .ref (A 3)) hc11 rfl hin_X2 (by decide) kfl_X2_22 rfl dX2_check_14 ?_
              refine h_get X Y (k := 4) (v := .int (nI (N + 1))) hTk.1 rfl hin_X9 (by decide) kfl_X2_26 rfl dX2_check_17 ?_
              refine lv_icmp_ge (tgt := 47) hx hb dX2_check_20 (by decide) (fun c20 => absurd (show (N + 1) ≤ 9 from (nI_leI (a := (N + 1)) (b := 9) (by omega) (by omega)).mp c20) (by omega)) (fun c20 => ?_)
              have c20 : ¬ (N + 1) ≤ 9 := fun z9 => c20 ((nI_leI (a := (N + 1)) (b := 9) (by omega) (by omega)).mpr z9)
              refine lv_aload_n hx hb dX2_check_23 rfl (lv_at hl 0 rfl) ?_
              refine lv_iload_n hx hb dX2_check_24 rfl (lv_at hl 2 rfl) ?_
              refine lv_aload_n hx hb dX2_check_25 rfl (lv_at hl 1 rfl) ?_
              have kq8 : sg 8 = 0 := hpat 8 (by omega)
              have kq9 : sg (8 + 1) = 33 := hpat 9 (by omega)
              refine h_callV (rest := []) X Y (c_errName l G Mz4 A N sg nb wd hN hTk hs7 1 (-1) (vp_updL g7 0 (wd (0 + 1))) hc11 hc12 lst e0 (gq qa qb qc) hlO hlE 8 (by omega) kq8 kq9 (by omega) (fun j hj => by rcases (show j = 0 by omega) with rfl; rw [hf1_0, show wd (8 + 1) = 76 from hw2]; decide)) gw_X2_29 dsc_X2_errorOf hc11 rfl rfl rfl hl.1 rfl (Nat.le_of_ble_eq_true rfl) ⟨Nat.le_of_ble_eq_true rfl, Nat.le_of_ble_eq_true rfl⟩ ⟨Nat.le_of_ble_eq_true rfl, Nat.le_of_ble_eq_true rfl⟩ dX2_check_26 ?_
              rintro _ Mz5 H locs ⟨rfl, hc11, hc12, hfa⟩ Y
              have hTk := hTk.fr hfa (fun j z1 z2 z3 => by omega)
              have hlO := hlO.fr hfa (by omega)
              have hlE := hlE.fr hfa (by omega)
              have hLa := hLa.fr hfa (fun j hj => by omega)
              have hLb := hLb.fr hfa (fun j hj => by omega)
              have hLc := hLc.fr hfa (fun j hj => by omega)
              have hfr := hFr.tr hfr (hfa.mono (fun u z => by omega))
              have hf2_0 : (vp_updL (vp_updL g7 0 (wd (0 + 1))) 1 (wd (8 + 1))) 0 = 38 := (pk_uLn (by omega)).trans hf1_0
              have hf2_1 : (vp_updL (vp_updL g7 0 (wd (0 + 1))) 1 (wd (8 + 1))) 1 = 76 := pk_uLs.trans hw2
              try dsimp only [Option.toList, List.singleton_append]
              refine lv_istore_n (lv' := [(3, .int 0), (0, .ref (A 11)), (1, .ref lst), (2, .int (nI 9))]) hx hb dX2_check_29 rfl hl (by decide) rfl (fun ls hl => ?_)
              refine lv_iload_n hx hb dX2_check_30 rfl (lv_at hl 0 rfl) ?_
              refine lv_if_eq (tgt := 41) hx hb dX2_check_31 (by decide) (fun c31 => ?_) (fun c31 => absurd (by decide) c31)
              refine lv_iinc (v := nI 10) (lv' := [(2, .int (nI 10)), (3, .int 0), (0, .ref (A 11)), (1, .ref lst)]) hx hb dX2_check_41 hl (k := 3) rfl (by decide) (by decide) rfl (fun ls hl => ?_)
              refine lv_goto (tgt := 12) hx hb dX2_check_44 (by decide) ?_
              have hl : lv_has ls 4 [(2, .int (nI (9 + 1))), (3, .int 0), (0, .ref (A 11)), (1, .ref lst)] := hl
              have hnn : ∀ i0, 9 ≤ i0 → i0 + 1 < 23 → (sg i0 ≠ 2 ∧ sg i0 ≠ 5 ∧ sg i0 ≠ 6) ∧ sg (i0 + 1) ≠ 33 := by
                intro i0 z1 z2
                rw [hpat i0 (by omega), hpat (i0 + 1) (by omega)]
                have hd : ∀ i0, i0 < 22 → 9 ≤ i0 → ((fPat false false).getD i0 0 ≠ 2 ∧ (fPat false false).getD i0 0 ≠ 5 ∧ (fPat false false).getD i0 0 ≠ 6) ∧ (fPat false false).getD (i0 + 1) 0 ≠ 33 := by decide
                exact hd i0 (by omega) z1
              have loop3 : ∀ (d i0 : Nat), i0 + 1 + d = 24 → 9 ≤ i0 → i0 + 1 ≤ 23 → ∀ (H : Heap) (locs : List Loc) (ls : Array Slot), hHS G Mz5 s H locs → lv_has ls 4 [(0, .ref (A 11)), (1, .ref lst), (2, .int (nI (i0 + 1)))] → W p l e (hRm 6 0 0) s m args below meth c H locs 0 0 (MQ below (hQ G (fun v M' => v = some (.int 0) ∧ (∃ f : Nat → Int64, M' (A 11) = some (11, .inr (4, [.ref (A 3), .ref (A 12), .int (nI 3), .int (-1)])) ∧ M' (A 12) = some (12, .inl (hT G 2, 8, .inr (.inl f)))) ∧ LaP G M' qa 2000 (lyU La 0 (nb (5 + 1))) Fa ∧ LaP G M' qb 2100 (Lb) Fb ∧ LaP G M' qc 2200 (lyNt (lyNt (lyU Lc 1 (nb (31 + 1))) 0) 1) Fc ∧ hFr (fun u => u = 11 ∨ u = 12 ∨ (2000 ≤ u ∧ u < 2300)) M M')) args s 0 0 (hA G)) (F0 m 12 ls []) := by
                intro d
                induction d with
                | zero => intro i0 h1; intros; exact absurd h1 (by omega)
                | succ d ih3 =>
                  intro i0 h1 h0 h2 H locs ls Y hl
                  refine lv_iload_n hx hb dX2_check_12 rfl (lv_at hl 2 rfl) ?_
                  rcases Nat.lt_or_ge (i0 + 1) 23 with hlt | hge
                  · refine lv_aload_n hx hb dX2_check_13 rfl (lv_at hl 0 rfl) ?_
                    refine h_get X Y (k := 0) (v := .ref (A 3)) hc11 rfl hin_X2 (by decide) kfl_X2_22 rfl dX2_check_14 ?_
                    refine h_get X Y (k := 4) (v := .int (nI (N + 1))) hTk.1 rfl hin_X9 (by decide) kfl_X2_26 rfl dX2_check_17 ?_
                    refine lv_icmp_ge (tgt := 47) hx hb dX2_check_20 (by decide) (fun c20 => absurd (show (N + 1) ≤ (i0 + 1) from (nI_leI (a := (N + 1)) (b := (i0 + 1)) (by omega) (by omega)).mp c20) (by omega)) (fun c20 => ?_)
                    have c20 : ¬ (N + 1) ≤ (i0 + 1) := fun z9 => c20 ((nI_leI (a := (N + 1)) (b := (i0 + 1)) (by omega) (by omega)).mpr z9)
                    refine lv_aload_n hx hb dX2_check_23 rfl (lv_at hl 0 rfl) ?_
                    refine lv_iload_n hx hb dX2_check_24 rfl (lv_at hl 2 rfl) ?_
                    refine lv_aload_n hx hb dX2_check_25 rfl (lv_at hl 1 rfl) ?_
                    refine h_callVr (rest := []) X Y (c_errNone l G Mz5 A N sg nb wd hN hTk hs7 1 (-1) (vp_updL (vp_updL g7 0 (wd (0 + 1))) 1 (wd (8 + 1))) hc11 hc12 lst e0 (gq qa qb qc) hlO hlE i0 (by omega) (hnn i0 h0 hlt).1 (hnn i0 h0 hlt).2 2100 Lb (by omega) hLb.1 (by omega)) rfl rfl gw_X2_29 dsc_X2_errorOf hc11 rfl rfl rfl rfl hl.1 (Nat.le_of_ble_eq_true rfl) ⟨Nat.le_of_ble_eq_true rfl, Nat.le_of_ble_eq_true rfl⟩ ⟨Nat.le_of_ble_eq_true rfl, Nat.le_of_ble_eq_true rfl⟩ dX2_check_26 (fun H locs Y => ?_)
                    refine lv_istore_n (lv' := [(3, .int 0), (0, .ref (A 11)), (1, .ref lst), (2, .int (nI (i0 + 1)))]) hx hb dX2_check_29 rfl hl (by decide) rfl (fun ls hl => ?_)
                    refine lv_iload_n hx hb dX2_check_30 rfl (lv_at hl 0 rfl) ?_
                    refine lv_if_eq (tgt := 41) hx hb dX2_check_31 (by decide) (fun c31 => ?_) (fun c31 => absurd (by decide) c31)
                    refine lv_iinc (v := nI (i0 + 1 + 1)) (lv' := [(2, .int (nI (i0 + 1 + 1))), (3, .int 0), (0, .ref (A 11)), (1, .ref lst)]) hx hb dX2_check_41 hl (k := 3) rfl (nI_1 (i0 + 1)) (by decide) rfl (fun ls hl => ?_)
                    refine lv_goto (tgt := 12) hx hb dX2_check_44 (by decide) ?_
                    exact ih3 (i0 + 1) (by omega) (by omega) (by omega) _ _ _ Y (lv_sub hl [2, 3, 0] rfl)
                  · obtain rfl : i0 = 22 := by omega
                    have hl : lv_has ls 4 [(0, .ref (A 11)), (1, .ref lst), (2, .int (nI 23))] := hl
                    refine lv_aload_n hx hb dX2_check_13 rfl (lv_at hl 0 rfl) ?_
                    refine h_get X Y (k := 0) (v := .ref (A 3)) hc11 rfl hin_X2 (by decide) kfl_X2_22 rfl dX2_check_14 ?_
                    refine h_get X Y (k := 4) (v := .int (nI (N + 1))) hTk.1 rfl hin_X9 (by decide) kfl_X2_26 rfl dX2_check_17 ?_
                    refine lv_icmp_ge (tgt := 47) hx hb dX2_check_20 (by decide) (fun c20 => absurd (show (N + 1) ≤ 23 from (nI_leI (a := (N + 1)) (b := 23) (by omega) (by omega)).mp c20) (by omega)) (fun c20 => ?_)
                    have c20 : ¬ (N + 1) ≤ 23 := fun z9 => c20 ((nI_leI (a := (N + 1)) (b := 23) (by omega) (by omega)).mpr z9)
                    refine lv_aload_n hx hb dX2_check_23 rfl (lv_at hl 0 rfl) ?_
                    refine lv_iload_n hx hb dX2_check_24 rfl (lv_at hl 2 rfl) ?_
                    refine lv_aload_n hx hb dX2_check_25 rfl (lv_at hl 1 rfl) ?_
                    have kq22 : sg 22 = 0 := hpat 22 (by omega)
                    have kq23 : sg (22 + 1) = 33 := hpat 23 (by omega)
                    refine h_callV (rest := []) X Y (c_errName l G Mz5 A N sg nb wd hN hTk hs7 2 (-1) (vp_updL (vp_updL g7 0 (wd (0 + 1))) 1 (wd (8 + 1))) hc11 hc12 lst e0 (gq qa qb qc) hlO hlE 22 (by omega) kq22 kq23 (by omega) (fun j hj => by rcases (show j = 0 ∨ j = 1 by omega) with rfl | rfl; rw [hf2_0, show wd (22 + 1) = 114 from hw3]; decide; rw [hf2_1, show wd (22 + 1) = 114 from hw3]; decide)) gw_X2_29 dsc_X2_errorOf hc11 rfl rfl rfl hl.1 rfl (Nat.le_of_ble_eq_true rfl) ⟨Nat.le_of_ble_eq_true rfl, Nat.le_of_ble_eq_true rfl⟩ ⟨Nat.le_of_ble_eq_true rfl, Nat.le_of_ble_eq_true rfl⟩ dX2_check_26 ?_
                    rintro _ Mz6 H locs ⟨rfl, hc11, hc12, hfa⟩ Y
                    have hTk := hTk.fr hfa (fun j z1 z2 z3 => by omega)
                    have hlO := hlO.fr hfa (by omega)
                    have hlE := hlE.fr hfa (by omega)
                    have hLa := hLa.fr hfa (fun j hj => by omega)
                    have hLb := hLb.fr hfa (fun j hj => by omega)
                    have hLc := hLc.fr hfa (fun j hj => by omega)
                    have hfr := hFr.tr hfr (hfa.mono (fun u z => by omega))
                    have hf3_0 : (vp_updL (vp_updL (vp_updL g7 0 (wd (0 + 1))) 1 (wd (8 + 1))) 2 (wd (22 + 1))) 0 = 38 := (pk_uLn (by omega)).trans hf2_0
                    have hf3_1 : (vp_updL (vp_updL (vp_updL g7 0 (wd (0 + 1))) 1 (wd (8 + 1))) 2 (wd (22 + 1))) 1 = 76 := (pk_uLn (by omega)).trans hf2_1
                    have hf3_2 : (vp_updL (vp_updL (vp_updL g7 0 (wd (0 + 1))) 1 (wd (8 + 1))) 2 (wd (22 + 1))) 2 = 114 := pk_uLs.trans hw3
                    try dsimp only [Option.toList, List.singleton_append]
                    refine lv_istore_n (lv' := [(3, .int 0), (0, .ref (A 11)), (1, .ref lst), (2, .int (nI 23))]) hx hb dX2_check_29 rfl hl (by decide) rfl (fun ls hl => ?_)
                    refine lv_iload_n hx hb dX2_check_30 rfl (lv_at hl 0 rfl) ?_
                    refine lv_if_eq (tgt := 41) hx hb dX2_check_31 (by decide) (fun c31 => ?_) (fun c31 => absurd (by decide) c31)
                    refine lv_iinc (v := nI 24) (lv' := [(2, .int (nI 24)), (3, .int 0), (0, .ref (A 11)), (1, .ref lst)]) hx hb dX2_check_41 hl (k := 3) rfl (by decide) (by decide) rfl (fun ls hl => ?_)
                    refine lv_goto (tgt := 12) hx hb dX2_check_44 (by decide) ?_
                    have hl : lv_has ls 4 [(2, .int (nI (23 + 1))), (3, .int 0), (0, .ref (A 11)), (1, .ref lst)] := hl
                    have hnn : ∀ i0, 23 ≤ i0 → i0 + 1 < 32 → (sg i0 ≠ 2 ∧ sg i0 ≠ 5 ∧ sg i0 ≠ 6) ∧ sg (i0 + 1) ≠ 33 := by
                      intro i0 z1 z2
                      rw [hpat i0 (by omega), hpat (i0 + 1) (by omega)]
                      have hd : ∀ i0, i0 < 31 → 23 ≤ i0 → ((fPat false false).getD i0 0 ≠ 2 ∧ (fPat false false).getD i0 0 ≠ 5 ∧ (fPat false false).getD i0 0 ≠ 6) ∧ (fPat false false).getD (i0 + 1) 0 ≠ 33 := by decide
                      exact hd i0 (by omega) z1
                    have loop4 : ∀ (d i0 : Nat), i0 + 1 + d = 33 → 23 ≤ i0 → i0 + 1 ≤ 32 → ∀ (H : Heap) (locs : List Loc) (ls : Array Slot), hHS G Mz6 s H locs → lv_has ls 4 [(0, .ref (A 11)), (1, .ref lst), (2, .int (nI (i0 + 1)))] → W p l e (hRm 6 0 0) s m args below meth c H locs 0 0 (MQ below (hQ G (fun v M' => v = some (.int 0) ∧ (∃ f : Nat → Int64, M' (A 11) = some (11, .inr (4, [.ref (A 3), .ref (A 12), .int (nI 3), .int (-1)])) ∧ M' (A 12) = some (12, .inl (hT G 2, 8, .inr (.inl f)))) ∧ LaP G M' qa 2000 (lyU La 0 (nb (5 + 1))) Fa ∧ LaP G M' qb 2100 (Lb) Fb ∧ LaP G M' qc 2200 (lyNt (lyNt (lyU Lc 1 (nb (31 + 1))) 0) 1) Fc ∧ hFr (fun u => u = 11 ∨ u = 12 ∨ (2000 ≤ u ∧ u < 2300)) M M')) args s 0 0 (hA G)) (F0 m 12 ls []) := by
                      intro d
                      induction d with
                      | zero => intro i0 h1; intros; exact absurd h1 (by omega)
                      | succ d ih4 =>
                        intro i0 h1 h0 h2 H locs ls Y hl
                        refine lv_iload_n hx hb dX2_check_12 rfl (lv_at hl 2 rfl) ?_
                        rcases Nat.lt_or_ge (i0 + 1) 32 with hlt | hge
                        · refine lv_aload_n hx hb dX2_check_13 rfl (lv_at hl 0 rfl) ?_
                          refine h_get X Y (k := 0) (v := .ref (A 3)) hc11 rfl hin_X2 (by decide) kfl_X2_22 rfl dX2_check_14 ?_
                          refine h_get X Y (k := 4) (v := .int (nI (N + 1))) hTk.1 rfl hin_X9 (by decide) kfl_X2_26 rfl dX2_check_17 ?_
                          refine lv_icmp_ge (tgt := 47) hx hb dX2_check_20 (by decide) (fun c20 => absurd (show (N + 1) ≤ (i0 + 1) from (nI_leI (a := (N + 1)) (b := (i0 + 1)) (by omega) (by omega)).mp c20) (by omega)) (fun c20 => ?_)
                          have c20 : ¬ (N + 1) ≤ (i0 + 1) := fun z9 => c20 ((nI_leI (a := (N + 1)) (b := (i0 + 1)) (by omega) (by omega)).mpr z9)
                          refine lv_aload_n hx hb dX2_check_23 rfl (lv_at hl 0 rfl) ?_
                          refine lv_iload_n hx hb dX2_check_24 rfl (lv_at hl 2 rfl) ?_
                          refine lv_aload_n hx hb dX2_check_25 rfl (lv_at hl 1 rfl) ?_
                          refine h_callVr (rest := []) X Y (c_errNone l G Mz6 A N sg nb wd hN hTk hs7 2 (-1) (vp_updL (vp_updL (vp_updL g7 0 (wd (0 + 1))) 1 (wd (8 + 1))) 2 (wd (22 + 1))) hc11 hc12 lst e0 (gq qa qb qc) hlO hlE i0 (by omega) (hnn i0 h0 hlt).1 (hnn i0 h0 hlt).2 2200 Lc (by omega) hLc.1 (by omega)) rfl rfl gw_X2_29 dsc_X2_errorOf hc11 rfl rfl rfl rfl hl.1 (Nat.le_of_ble_eq_true rfl) ⟨Nat.le_of_ble_eq_true rfl, Nat.le_of_ble_eq_true rfl⟩ ⟨Nat.le_of_ble_eq_true rfl, Nat.le_of_ble_eq_true rfl⟩ dX2_check_26 (fun H locs Y => ?_)
                          refine lv_istore_n (lv' := [(3, .int 0), (0, .ref (A 11)), (1, .ref lst), (2, .int (nI (i0 + 1)))]) hx hb dX2_check_29 rfl hl (by decide) rfl (fun ls hl => ?_)
                          refine lv_iload_n hx hb dX2_check_30 rfl (lv_at hl 0 rfl) ?_
                          refine lv_if_eq (tgt := 41) hx hb dX2_check_31 (by decide) (fun c31 => ?_) (fun c31 => absurd (by decide) c31)
                          refine lv_iinc (v := nI (i0 + 1 + 1)) (lv' := [(2, .int (nI (i0 + 1 + 1))), (3, .int 0), (0, .ref (A 11)), (1, .ref lst)]) hx hb dX2_check_41 hl (k := 3) rfl (nI_1 (i0 + 1)) (by decide) rfl (fun ls hl => ?_)
                          refine lv_goto (tgt := 12) hx hb dX2_check_44 (by decide) ?_
                          exact ih4 (i0 + 1) (by omega) (by omega) (by omega) _ _ _ Y (lv_sub hl [2, 3, 0] rfl)
                        · obtain rfl : i0 = 31 := by omega
                          have hl : lv_has ls 4 [(0, .ref (A 11)), (1, .ref lst), (2, .int (nI 32))] := hl
                          refine lv_aload_n hx hb dX2_check_13 rfl (lv_at hl 0 rfl) ?_
                          refine h_get X Y (k := 0) (v := .ref (A 3)) hc11 rfl hin_X2 (by decide) kfl_X2_22 rfl dX2_check_14 ?_
                          refine h_get X Y (k := 4) (v := .int (nI (N + 1))) hTk.1 rfl hin_X9 (by decide) kfl_X2_26 rfl dX2_check_17 ?_
                          refine lv_icmp_ge (tgt := 47) hx hb dX2_check_20 (by decide) (fun c20 => absurd (show (N + 1) ≤ 32 from (nI_leI (a := (N + 1)) (b := 32) (by omega) (by omega)).mp c20) (by omega)) (fun c20 => ?_)
                          have c20 : ¬ (N + 1) ≤ 32 := fun z9 => c20 ((nI_leI (a := (N + 1)) (b := 32) (by omega) (by omega)).mpr z9)
                          refine lv_aload_n hx hb dX2_check_23 rfl (lv_at hl 0 rfl) ?_
                          refine lv_iload_n hx hb dX2_check_24 rfl (lv_at hl 2 rfl) ?_
                          refine lv_aload_n hx hb dX2_check_25 rfl (lv_at hl 1 rfl) ?_
                          have kq31 : sg 31 = 5 := hpat 31 (by omega)
                          have kq32 : sg (31 + 1) = 34 := hpat 32 (by omega)
                          refine h_callV (rest := []) X Y (c_errRein l G Mz6 A N sg nb wd hN hTk hs7 2 (-1) (vp_updL (vp_updL (vp_updL g7 0 (wd (0 + 1))) 1 (wd (8 + 1))) 2 (wd (22 + 1))) hc11 hc12 lst e0 (gq qa qb qc) hlO hlE 31 (by omega) kq31 (by omega) 2200 Lc (by omega) hLc.1 (by omega) hx2) gw_X2_29 dsc_X2_errorOf hc11 rfl rfl rfl hl.1 rfl (Nat.le_of_ble_eq_true rfl) ⟨Nat.le_of_ble_eq_true rfl, Nat.le_of_ble_eq_true rfl⟩ ⟨Nat.le_of_ble_eq_true rfl, Nat.le_of_ble_eq_true rfl⟩ dX2_check_26 ?_
                          rintro _ Mz7 H locs ⟨rfl, hLy, hfa⟩ Y
                          have hLc := hLc.upd hLy rfl rfl hfa
                          have hTk := hTk.fr hfa (fun j z1 z2 z3 => by omega)
                          have hlO := hlO.fr hfa (by omega)
                          have hlE := hlE.fr hfa (by omega)
                          have hLa := hLa.fr hfa (fun j hj => by omega)
                          have hLb := hLb.fr hfa (fun j hj => by omega)
                          have hc11 := hfa _ _ _ hc11 (by omega)
                          have hc12 := hfa _ _ _ hc12 (by omega)
                          have hfr := hFr.tr hfr (hfa.mono (fun u z => by omega))
                          try dsimp only [Option.toList, List.singleton_append]
                          refine lv_istore_n (lv' := [(3, .int 0), (0, .ref (A 11)), (1, .ref lst), (2, .int (nI 32))]) hx hb dX2_check_29 rfl hl (by decide) rfl (fun ls hl => ?_)
                          refine lv_iload_n hx hb dX2_check_30 rfl (lv_at hl 0 rfl) ?_
                          refine lv_if_eq (tgt := 41) hx hb dX2_check_31 (by decide) (fun c31 => ?_) (fun c31 => absurd (by decide) c31)
                          refine lv_iinc (v := nI 33) (lv' := [(2, .int (nI 33)), (3, .int 0), (0, .ref (A 11)), (1, .ref lst)]) hx hb dX2_check_41 hl (k := 3) rfl (by decide) (by decide) rfl (fun ls hl => ?_)
                          refine lv_goto (tgt := 12) hx hb dX2_check_44 (by decide) ?_
                          have hl : lv_has ls 4 [(2, .int (nI (32 + 1))), (3, .int 0), (0, .ref (A 11)), (1, .ref lst)] := hl
                          have hnn : ∀ i0, 32 ≤ i0 → i0 + 1 < 35 → (sg i0 ≠ 2 ∧ sg i0 ≠ 5 ∧ sg i0 ≠ 6) ∧ sg (i0 + 1) ≠ 33 := by
                            intro i0 z1 z2
                            rw [hpat i0 (by omega), hpat (i0 + 1) (by omega)]
                            have hd : ∀ i0, i0 < 34 → 32 ≤ i0 → ((fPat false false).getD i0 0 ≠ 2 ∧ (fPat false false).getD i0 0 ≠ 5 ∧ (fPat false false).getD i0 0 ≠ 6) ∧ (fPat false false).getD (i0 + 1) 0 ≠ 33 := by decide
                            exact hd i0 (by omega) z1
                          have loop5 : ∀ (d i0 : Nat), i0 + 1 + d = 36 → 32 ≤ i0 → i0 + 1 ≤ 35 → ∀ (H : Heap) (locs : List Loc) (ls : Array Slot), hHS G Mz7 s H locs → lv_has ls 4 [(0, .ref (A 11)), (1, .ref lst), (2, .int (nI (i0 + 1)))] → W p l e (hRm 6 0 0) s m args below meth c H locs 0 0 (MQ below (hQ G (fun v M' => v = some (.int 0) ∧ (∃ f : Nat → Int64, M' (A 11) = some (11, .inr (4, [.ref (A 3), .ref (A 12), .int (nI 3), .int (-1)])) ∧ M' (A 12) = some (12, .inl (hT G 2, 8, .inr (.inl f)))) ∧ LaP G M' qa 2000 (lyU La 0 (nb (5 + 1))) Fa ∧ LaP G M' qb 2100 (Lb) Fb ∧ LaP G M' qc 2200 (lyNt (lyNt (lyU Lc 1 (nb (31 + 1))) 0) 1) Fc ∧ hFr (fun u => u = 11 ∨ u = 12 ∨ (2000 ≤ u ∧ u < 2300)) M M')) args s 0 0 (hA G)) (F0 m 12 ls []) := by
                            intro d
                            induction d with
                            | zero => intro i0 h1; intros; exact absurd h1 (by omega)
                            | succ d ih5 =>
                              intro i0 h1 h0 h2 H locs ls Y hl
                              refine lv_iload_n hx hb dX2_check_12 rfl (lv_at hl 2 rfl) ?_
                              rcases Nat.lt_or_ge (i0 + 1) 35 with hlt | hge
                              · refine lv_aload_n hx hb dX2_check_13 rfl (lv_at hl 0 rfl) ?_
                                refine h_get X Y (k := 0) (v := .ref (A 3)) hc11 rfl hin_X2 (by decide) kfl_X2_22 rfl dX2_check_14 ?_
                                refine h_get X Y (k := 4) (v := .int (nI (N + 1))) hTk.1 rfl hin_X9 (by decide) kfl_X2_26 rfl dX2_check_17 ?_
                                refine lv_icmp_ge (tgt := 47) hx hb dX2_check_20 (by decide) (fun c20 => absurd (show (N + 1) ≤ (i0 + 1) from (nI_leI (a := (N + 1)) (b := (i0 + 1)) (by omega) (by omega)).mp c20) (by omega)) (fun c20 => ?_)
                                have c20 : ¬ (N + 1) ≤ (i0 + 1) := fun z9 => c20 ((nI_leI (a := (N + 1)) (b := (i0 + 1)) (by omega) (by omega)).mpr z9)
                                refine lv_aload_n hx hb dX2_check_23 rfl (lv_at hl 0 rfl) ?_
                                refine lv_iload_n hx hb dX2_check_24 rfl (lv_at hl 2 rfl) ?_
                                refine lv_aload_n hx hb dX2_check_25 rfl (lv_at hl 1 rfl) ?_
                                refine h_callVr (rest := []) X Y (c_errNone l G Mz7 A N sg nb wd hN hTk hs7 2 (-1) (vp_updL (vp_updL (vp_updL g7 0 (wd (0 + 1))) 1 (wd (8 + 1))) 2 (wd (22 + 1))) hc11 hc12 lst e0 (gq qa qb qc) hlO hlE i0 (by omega) (hnn i0 h0 hlt).1 (hnn i0 h0 hlt).2 2200 (lyU Lc 1 (nb (31 + 1))) (by omega) hLc.1 (by omega)) rfl rfl gw_X2_29 dsc_X2_errorOf hc11 rfl rfl rfl rfl hl.1 (Nat.le_of_ble_eq_true rfl) ⟨Nat.le_of_ble_eq_true rfl, Nat.le_of_ble_eq_true rfl⟩ ⟨Nat.le_of_ble_eq_true rfl, Nat.le_of_ble_eq_true rfl⟩ dX2_check_26 (fun H locs Y => ?_)
                                refine lv_istore_n (lv' := [(3, .int 0), (0, .ref (A 11)), (1, .ref lst), (2, .int (nI (i0 + 1)))]) hx hb dX2_check_29 rfl hl (by decide) rfl (fun ls hl => ?_)
                                refine lv_iload_n hx hb dX2_check_30 rfl (lv_at hl 0 rfl) ?_
                                refine lv_if_eq (tgt := 41) hx hb dX2_check_31 (by decide) (fun c31 => ?_) (fun c31 => absurd (by decide) c31)
                                refine lv_iinc (v := nI (i0 + 1 + 1)) (lv' := [(2, .int (nI (i0 + 1 + 1))), (3, .int 0), (0, .ref (A 11)), (1, .ref lst)]) hx hb dX2_check_41 hl (k := 3) rfl (nI_1 (i0 + 1)) (by decide) rfl (fun ls hl => ?_)
                                refine lv_goto (tgt := 12) hx hb dX2_check_44 (by decide) ?_
                                exact ih5 (i0 + 1) (by omega) (by omega) (by omega) _ _ _ Y (lv_sub hl [2, 3, 0] rfl)
                              · obtain rfl : i0 = 34 := by omega
                                have hl : lv_has ls 4 [(0, .ref (A 11)), (1, .ref lst), (2, .int (nI 35))] := hl
                                refine lv_aload_n hx hb dX2_check_13 rfl (lv_at hl 0 rfl) ?_
                                refine h_get X Y (k := 0) (v := .ref (A 3)) hc11 rfl hin_X2 (by decide) kfl_X2_22 rfl dX2_check_14 ?_
                                refine h_get X Y (k := 4) (v := .int (nI (N + 1))) hTk.1 rfl hin_X9 (by decide) kfl_X2_26 rfl dX2_check_17 ?_
                                refine lv_icmp_ge (tgt := 47) hx hb dX2_check_20 (by decide) (fun c20 => absurd (show (N + 1) ≤ 35 from (nI_leI (a := (N + 1)) (b := 35) (by omega) (by omega)).mp c20) (by omega)) (fun c20 => ?_)
                                have c20 : ¬ (N + 1) ≤ 35 := fun z9 => c20 ((nI_leI (a := (N + 1)) (b := 35) (by omega) (by omega)).mpr z9)
                                refine lv_aload_n hx hb dX2_check_23 rfl (lv_at hl 0 rfl) ?_
                                refine lv_iload_n hx hb dX2_check_24 rfl (lv_at hl 2 rfl) ?_
                                refine lv_aload_n hx hb dX2_check_25 rfl (lv_at hl 1 rfl) ?_
                                have kq34 : sg 34 = 8 := hpat 34 (by omega)
                                have kq35 : sg (34 + 1) = 33 := hpat 35 (by omega)
                                refine h_callV (rest := []) X Y (c_errNet l G Mz7 A N sg nb wd hN hTk hs7 2 (-1) (vp_updL (vp_updL (vp_updL g7 0 (wd (0 + 1))) 1 (wd (8 + 1))) 2 (wd (22 + 1))) hc11 hc12 lst e0 (gq qa qb qc) hlO hlE 34 (by omega) (by omega) kq35 2200 (lyU Lc 1 (nb (31 + 1))) (by omega) hLc.1 (by omega) 0 (by omega) (hf3_0.trans (show wd (34 + 1) = 38 from hv2).symm) (fun j hj => absurd hj (by omega))) gw_X2_29 dsc_X2_errorOf hc11 rfl rfl rfl hl.1 rfl (Nat.le_of_ble_eq_true rfl) ⟨Nat.le_of_ble_eq_true rfl, Nat.le_of_ble_eq_true rfl⟩ ⟨Nat.le_of_ble_eq_true rfl, Nat.le_of_ble_eq_true rfl⟩ dX2_check_26 ?_
                                rintro _ Mz8 H locs ⟨rfl, hLy, hfa⟩ Y
                                have hLc := hLc.upd hLy rfl rfl hfa
                                have hTk := hTk.fr hfa (fun j z1 z2 z3 => by omega)
                                have hlO := hlO.fr hfa (by omega)
                                have hlE := hlE.fr hfa (by omega)
                                have hLa := hLa.fr hfa (fun j hj => by omega)
                                have hLb := hLb.fr hfa (fun j hj => by omega)
                                have hc11 := hfa _ _ _ hc11 (by omega)
                                have hc12 := hfa _ _ _ hc12 (by omega)
                                have hfr := hFr.tr hfr (hfa.mono (fun u z => by omega))
                                try dsimp only [Option.toList, List.singleton_append]
                                refine lv_istore_n (lv' := [(3, .int 0), (0, .ref (A 11)), (1, .ref lst), (2, .int (nI 35))]) hx hb dX2_check_29 rfl hl (by decide) rfl (fun ls hl => ?_)
                                refine lv_iload_n hx hb dX2_check_30 rfl (lv_at hl 0 rfl) ?_
                                refine lv_if_eq (tgt := 41) hx hb dX2_check_31 (by decide) (fun c31 => ?_) (fun c31 => absurd (by decide) c31)
                                refine lv_iinc (v := nI 36) (lv' := [(2, .int (nI 36)), (3, .int 0), (0, .ref (A 11)), (1, .ref lst)]) hx hb dX2_check_41 hl (k := 3) rfl (by decide) (by decide) rfl (fun ls hl => ?_)
                                refine lv_goto (tgt := 12) hx hb dX2_check_44 (by decide) ?_
                                have hl : lv_has ls 4 [(2, .int (nI (35 + 1))), (3, .int 0), (0, .ref (A 11)), (1, .ref lst)] := hl
                                have hnn : ∀ i0, 35 ≤ i0 → i0 + 1 < 37 → (sg i0 ≠ 2 ∧ sg i0 ≠ 5 ∧ sg i0 ≠ 6) ∧ sg (i0 + 1) ≠ 33 := by
                                  intro i0 z1 z2
                                  rw [hpat i0 (by omega), hpat (i0 + 1) (by omega)]
                                  have hd : ∀ i0, i0 < 36 → 35 ≤ i0 → ((fPat false false).getD i0 0 ≠ 2 ∧ (fPat false false).getD i0 0 ≠ 5 ∧ (fPat false false).getD i0 0 ≠ 6) ∧ (fPat false false).getD (i0 + 1) 0 ≠ 33 := by decide
                                  exact hd i0 (by omega) z1
                                have loop6 : ∀ (d i0 : Nat), i0 + 1 + d = 38 → 35 ≤ i0 → i0 + 1 ≤ 37 → ∀ (H : Heap) (locs : List Loc) (ls : Array Slot), hHS G Mz8 s H locs → lv_has ls 4 [(0, .ref (A 11)), (1, .ref lst), (2, .int (nI (i0 + 1)))] → W p l e (hRm 6 0 0) s m args below meth c H locs 0 0 (MQ below (hQ G (fun v M' => v = some (.int 0) ∧ (∃ f : Nat → Int64, M' (A 11) = some (11, .inr (4, [.ref (A 3), .ref (A 12), .int (nI 3), .int (-1)])) ∧ M' (A 12) = some (12, .inl (hT G 2, 8, .inr (.inl f)))) ∧ LaP G M' qa 2000 (lyU La 0 (nb (5 + 1))) Fa ∧ LaP G M' qb 2100 (Lb) Fb ∧ LaP G M' qc 2200 (lyNt (lyNt (lyU Lc 1 (nb (31 + 1))) 0) 1) Fc ∧ hFr (fun u => u = 11 ∨ u = 12 ∨ (2000 ≤ u ∧ u < 2300)) M M')) args s 0 0 (hA G)) (F0 m 12 ls []) := by
                                  intro d
                                  induction d with
                                  | zero => intro i0 h1; intros; exact absurd h1 (by omega)
                                  | succ d ih6 =>
                                    intro i0 h1 h0 h2 H locs ls Y hl
                                    refine lv_iload_n hx hb dX2_check_12 rfl (lv_at hl 2 rfl) ?_
                                    rcases Nat.lt_or_ge (i0 + 1) 37 with hlt | hge
                                    · refine lv_aload_n hx hb dX2_check_13 rfl (lv_at hl 0 rfl) ?_
                                      refine h_get X Y (k := 0) (v := .ref (A 3)) hc11 rfl hin_X2 (by decide) kfl_X2_22 rfl dX2_check_14 ?_
                                      refine h_get X Y (k := 4) (v := .int (nI (N + 1))) hTk.1 rfl hin_X9 (by decide) kfl_X2_26 rfl dX2_check_17 ?_
                                      refine lv_icmp_ge (tgt := 47) hx hb dX2_check_20 (by decide) (fun c20 => absurd (show (N + 1) ≤ (i0 + 1) from (nI_leI (a := (N + 1)) (b := (i0 + 1)) (by omega) (by omega)).mp c20) (by omega)) (fun c20 => ?_)
                                      have c20 : ¬ (N + 1) ≤ (i0 + 1) := fun z9 => c20 ((nI_leI (a := (N + 1)) (b := (i0 + 1)) (by omega) (by omega)).mpr z9)
                                      refine lv_aload_n hx hb dX2_check_23 rfl (lv_at hl 0 rfl) ?_
                                      refine lv_iload_n hx hb dX2_check_24 rfl (lv_at hl 2 rfl) ?_
                                      refine lv_aload_n hx hb dX2_check_25 rfl (lv_at hl 1 rfl) ?_
                                      refine h_callVr (rest := []) X Y (c_errNone l G Mz8 A N sg nb wd hN hTk hs7 2 (-1) (vp_updL (vp_updL (vp_updL g7 0 (wd (0 + 1))) 1 (wd (8 + 1))) 2 (wd (22 + 1))) hc11 hc12 lst e0 (gq qa qb qc) hlO hlE i0 (by omega) (hnn i0 h0 hlt).1 (hnn i0 h0 hlt).2 2200 (lyNt (lyU Lc 1 (nb (31 + 1))) 0) (by omega) hLc.1 (by omega)) rfl rfl gw_X2_29 dsc_X2_errorOf hc11 rfl rfl rfl rfl hl.1 (Nat.le_of_ble_eq_true rfl) ⟨Nat.le_of_ble_eq_true rfl, Nat.le_of_ble_eq_true rfl⟩ ⟨Nat.le_of_ble_eq_true rfl, Nat.le_of_ble_eq_true rfl⟩ dX2_check_26 (fun H locs Y => ?_)
                                      refine lv_istore_n (lv' := [(3, .int 0), (0, .ref (A 11)), (1, .ref lst), (2, .int (nI (i0 + 1)))]) hx hb dX2_check_29 rfl hl (by decide) rfl (fun ls hl => ?_)
                                      refine lv_iload_n hx hb dX2_check_30 rfl (lv_at hl 0 rfl) ?_
                                      refine lv_if_eq (tgt := 41) hx hb dX2_check_31 (by decide) (fun c31 => ?_) (fun c31 => absurd (by decide) c31)
                                      refine lv_iinc (v := nI (i0 + 1 + 1)) (lv' := [(2, .int (nI (i0 + 1 + 1))), (3, .int 0), (0, .ref (A 11)), (1, .ref lst)]) hx hb dX2_check_41 hl (k := 3) rfl (nI_1 (i0 + 1)) (by decide) rfl (fun ls hl => ?_)
                                      refine lv_goto (tgt := 12) hx hb dX2_check_44 (by decide) ?_
                                      exact ih6 (i0 + 1) (by omega) (by omega) (by omega) _ _ _ Y (lv_sub hl [2, 3, 0] rfl)
                                    · obtain rfl : i0 = 36 := by omega
                                      have hl : lv_has ls 4 [(0, .ref (A 11)), (1, .ref lst), (2, .int (nI 37))] := hl
                                      refine lv_aload_n hx hb dX2_check_13 rfl (lv_at hl 0 rfl) ?_
                                      refine h_get X Y (k := 0) (v := .ref (A 3)) hc11 rfl hin_X2 (by decide) kfl_X2_22 rfl dX2_check_14 ?_
                                      refine h_get X Y (k := 4) (v := .int (nI (N + 1))) hTk.1 rfl hin_X9 (by decide) kfl_X2_26 rfl dX2_check_17 ?_
                                      refine lv_icmp_ge (tgt := 47) hx hb dX2_check_20 (by decide) (fun c20 => absurd (show (N + 1) ≤ 37 from (nI_leI (a := (N + 1)) (b := 37) (by omega) (by omega)).mp c20) (by omega)) (fun c20 => ?_)
                                      have c20 : ¬ (N + 1) ≤ 37 := fun z9 => c20 ((nI_leI (a := (N + 1)) (b := 37) (by omega) (by omega)).mpr z9)
                                      refine lv_aload_n hx hb dX2_check_23 rfl (lv_at hl 0 rfl) ?_
                                      refine lv_iload_n hx hb dX2_check_24 rfl (lv_at hl 2 rfl) ?_
                                      refine lv_aload_n hx hb dX2_check_25 rfl (lv_at hl 1 rfl) ?_
                                      have kq36 : sg 36 = 23 := hpat 36 (by omega)
                                      have kq37 : sg (36 + 1) = 33 := hpat 37 (by omega)
                                      refine h_callV (rest := []) X Y (c_errNet l G Mz8 A N sg nb wd hN hTk hs7 2 (-1) (vp_updL (vp_updL (vp_updL g7 0 (wd (0 + 1))) 1 (wd (8 + 1))) 2 (wd (22 + 1))) hc11 hc12 lst e0 (gq qa qb qc) hlO hlE 36 (by omega) (by omega) kq37 2200 (lyNt (lyU Lc 1 (nb (31 + 1))) 0) (by omega) hLc.1 (by omega) 1 (by omega) (hf3_1.trans (show wd (36 + 1) = 76 from hv3).symm) (fun j hj => by rcases (show j = 0 by omega) with rfl; rw [hf3_0, show wd (36 + 1) = 76 from hv3]; decide)) gw_X2_29 dsc_X2_errorOf hc11 rfl rfl rfl hl.1 rfl (Nat.le_of_ble_eq_true rfl) ⟨Nat.le_of_ble_eq_true rfl, Nat.le_of_ble_eq_true rfl⟩ ⟨Nat.le_of_ble_eq_true rfl, Nat.le_of_ble_eq_true rfl⟩ dX2_check_26 ?_
                                      rintro _ Mz9 H locs ⟨rfl, hLy, hfa⟩ Y
                                      have hLc := hLc.upd hLy rfl rfl hfa
                                      have hTk := hTk.fr hfa (fun j z1 z2 z3 => by omega)
                                      have hlO := hlO.fr hfa (by omega)
                                      have hlE := hlE.fr hfa (by omega)
                                      have hLa := hLa.fr hfa (fun j hj => by omega)
                                      have hLb := hLb.fr hfa (fun j hj => by omega)
                                      have hc11 := hfa _ _ _ hc11 (by omega)
                                      have hc12 := hfa _ _ _ hc12 (by omega)
                                      have hfr := hFr.tr hfr (hfa.mono (fun u z => by omega))
                                      try dsimp only [Option.toList, List.singleton_append]
                                      refine lv_istore_n (lv' := [(3, .int 0), (0, .ref (A 11)), (1, .ref lst), (2, .int (nI 37))]) hx hb dX2_check_29 rfl hl (by decide) rfl (fun ls hl => ?_)
                                      refine lv_iload_n hx hb dX2_check_30 rfl (lv_at hl 0 rfl) ?_
                                      refine lv_if_eq (tgt := 41) hx hb dX2_check_31 (by decide) (fun c31 => ?_) (fun c31 => absurd (by decide) c31)
                                      refine lv_iinc (v := nI 38) (lv' := [(2, .int (nI 38)), (3, .int 0), (0, .ref (A 11)), (1, .ref lst)]) hx hb dX2_check_41 hl (k := 3) rfl (by decide) (by decide) rfl (fun ls hl => ?_)
                                      refine lv_goto (tgt := 12) hx hb dX2_check_44 (by decide) ?_
                                      have hl : lv_has ls 4 [(2, .int (nI (37 + 1))), (3, .int 0), (0, .ref (A 11)), (1, .ref lst)] := hl
                                      have hnn : ∀ i0, 37 ≤ i0 → i0 + 1 < 49 → (sg i0 ≠ 2 ∧ sg i0 ≠ 5 ∧ sg i0 ≠ 6) ∧ sg (i0 + 1) ≠ 33 := by
                                        intro i0 z1 z2
                                        rw [hpat i0 (by omega), hpat (i0 + 1) (by omega)]
                                        have hd : ∀ i0, i0 < 48 → 37 ≤ i0 → ((fPat false false).getD i0 0 ≠ 2 ∧ (fPat false false).getD i0 0 ≠ 5 ∧ (fPat false false).getD i0 0 ≠ 6) ∧ (fPat false false).getD (i0 + 1) 0 ≠ 33 := by decide
                                        exact hd i0 (by omega) z1
                                      have loop7 : ∀ (d i0 : Nat), i0 + 1 + d = 50 → 37 ≤ i0 → i0 + 1 ≤ 49 → ∀ (H : Heap) (locs : List Loc) (ls : Array Slot), hHS G Mz9 s H locs → lv_has ls 4 [(0, .ref (A 11)), (1, .ref lst), (2, .int (nI (i0 + 1)))] → W p l e (hRm 6 0 0) s m args below meth c H locs 0 0 (MQ below (hQ G (fun v M' => v = some (.int 0) ∧ (∃ f : Nat → Int64, M' (A 11) = some (11, .inr (4, [.ref (A 3), .ref (A 12), .int (nI 3), .int (-1)])) ∧ M' (A 12) = some (12, .inl (hT G 2, 8, .inr (.inl f)))) ∧ LaP G M' qa 2000 (lyU La 0 (nb (5 + 1))) Fa ∧ LaP G M' qb 2100 (Lb) Fb ∧ LaP G M' qc 2200 (lyNt (lyNt (lyU Lc 1 (nb (31 + 1))) 0) 1) Fc ∧ hFr (fun u => u = 11 ∨ u = 12 ∨ (2000 ≤ u ∧ u < 2300)) M M')) args s 0 0 (hA G)) (F0 m 12 ls []) := by
                                        intro d
                                        induction d with
                                        | zero => intro i0 h1; intros; exact absurd h1 (by omega)
                                        | succ d ih7 =>
                                          intro i0 h1 h0 h2 H locs ls Y hl
                                          refine lv_iload_n hx hb dX2_check_12 rfl (lv_at hl 2 rfl) ?_
                                          rcases Nat.lt_or_ge (i0 + 1) 49 with hlt | hge
                                          · refine lv_aload_n hx hb dX2_check_13 rfl (lv_at hl 0 rfl) ?_
                                            refine h_get X Y (k := 0) (v := .ref (A 3)) hc11 rfl hin_X2 (by decide) kfl_X2_22 rfl dX2_check_14 ?_
                                            refine h_get X Y (k := 4) (v := .int (nI (N + 1))) hTk.1 rfl hin_X9 (by decide) kfl_X2_26 rfl dX2_check_17 ?_
                                            refine lv_icmp_ge (tgt := 47) hx hb dX2_check_20 (by decide) (fun c20 => absurd (show (N + 1) ≤ (i0 + 1) from (nI_leI (a := (N + 1)) (b := (i0 + 1)) (by omega) (by omega)).mp c20) (by omega)) (fun c20 => ?_)
                                            have c20 : ¬ (N + 1) ≤ (i0 + 1) := fun z9 => c20 ((nI_leI (a := (N + 1)) (b := (i0 + 1)) (by omega) (by omega)).mpr z9)
                                            refine lv_aload_n hx hb dX2_check_23 rfl (lv_at hl 0 rfl) ?_
                                            refine lv_iload_n hx hb dX2_check_24 rfl (lv_at hl 2 rfl) ?_
                                            refine lv_aload_n hx hb dX2_check_25 rfl (lv_at hl 1 rfl) ?_
                                            refine h_callVr (rest := []) X Y (c_errNone l G Mz9 A N sg nb wd hN hTk hs7 2 (-1) (vp_updL (vp_updL (vp_updL g7 0 (wd (0 + 1))) 1 (wd (8 + 1))) 2 (wd (22 + 1))) hc11 hc12 lst e0 (gq qa qb qc) hlO hlE i0 (by omega) (hnn i0 h0 hlt).1 (hnn i0 h0 hlt).2 2200 (lyNt (lyNt (lyU Lc 1 (nb (31 + 1))) 0) 1) (by omega) hLc.1 (by omega)) rfl rfl gw_X2_29 dsc_X2_errorOf hc11 rfl rfl rfl rfl hl.1 (Nat.le_of_ble_eq_true rfl) ⟨Nat.le_of_ble_eq_true rfl, Nat.le_of_ble_eq_true rfl⟩ ⟨Nat.le_of_ble_eq_true rfl, Nat.le_of_ble_eq_true rfl⟩ dX2_check_26 (fun H locs Y => ?_)
                                            refine lv_istore_n (lv' := [(3, .int 0), (0, .ref (A 11)), (1, .ref lst), (2, .int (nI (i0 + 1)))]) hx hb dX2_check_29 rfl hl (by decide) rfl (fun ls hl => ?_)
                                            refine lv_iload_n hx hb dX2_check_30 rfl (lv_at hl 0 rfl) ?_
                                            refine lv_if_eq (tgt := 41) hx hb dX2_check_31 (by decide) (fun c31 => ?_) (fun c31 => absurd (by decide) c31)
                                            refine lv_iinc (v := nI (i0 + 1 + 1)) (lv' := [(2, .int (nI (i0 + 1 + 1))), (3, .int 0), (0, .ref (A 11)), (1, .ref lst)]) hx hb dX2_check_41 hl (k := 3) rfl (nI_1 (i0 + 1)) (by decide) rfl (fun ls hl => ?_)
                                            refine lv_goto (tgt := 12) hx hb dX2_check_44 (by decide) ?_
                                            exact ih7 (i0 + 1) (by omega) (by omega) (by omega) _ _ _ Y (lv_sub hl [2, 3, 0] rfl)
                                          · obtain rfl : i0 = 48 := by omega
                                            have hl : lv_has ls 4 [(0, .ref (A 11)), (1, .ref lst), (2, .int (nI 49))] := hl
                                            refine lv_aload_n hx hb dX2_check_13 rfl (lv_at hl 0 rfl) ?_
                                            refine h_get X Y (k := 0) (v := .ref (A 3)) hc11 rfl hin_X2 (by decide) kfl_X2_22 rfl dX2_check_14 ?_
                                            refine h_get X Y (k := 4) (v := .int (nI (N + 1))) hTk.1 rfl hin_X9 (by decide) kfl_X2_26 rfl dX2_check_17 ?_
                                            refine lv_icmp_ge (tgt := 47) hx hb dX2_check_20 (by decide) (fun c20 => ?_) (fun c20 => absurd (show ¬ (N + 1) ≤ 49 from fun z9 => c20 ((nI_leI (a := (N + 1)) (b := 49) (by omega) (by omega)).mpr z9)) (by omega))
                                            have c20 : (N + 1) ≤ 49 := (nI_leI (a := (N + 1)) (b := 49) (by omega) (by omega)).mp c20
                                            refine lv_iconst (v := 0) hx hb dX2_check_47 (by decide) ?_
                                            exact h_iret X Y ⟨rfl, ⟨_, hc11, hc12⟩, hLa, hLb, hLc, hfr⟩ (Nat.le_of_ble_eq_true rfl) (Nat.le_of_ble_eq_true rfl) dX2_check_48
                                      exact loop7 12 37 (by omega) (by omega) (by omega) _ _ _ Y (lv_sub hl [2, 3, 0] rfl)
                                exact loop6 2 35 (by omega) (by omega) (by omega) _ _ _ Y (lv_sub hl [2, 3, 0] rfl)
                          exact loop5 3 32 (by omega) (by omega) (by omega) _ _ _ Y (lv_sub hl [2, 3, 0] rfl)
                    exact loop4 9 23 (by omega) (by omega) (by omega) _ _ _ Y (lv_sub hl [2, 3, 0] rfl)
              exact loop3 14 9 (by omega) (by omega) (by omega) _ _ _ Y (lv_sub hl [2, 3, 0] rfl)
        exact loop2 3 6 (by omega) (by omega) (by omega) _ _ _ Y (lv_sub hl [2, 3, 0] rfl)
  exact loop1 5 1 (by omega) (by omega) (by omega) _ _ _ Y (lv_sub hl [2, 3, 0] rfl)
set_option maxHeartbeats 4000000 in
set_option maxRecDepth 100000 in
theorem c_check01 (l : Launch) (G : hG) (M : hM) (A : Nat → Nat) (N : Nat) (sg : Nat → Nat) (nb : Nat → Int32) (wd : Nat → Int64) (hN : N < 400) (hTk : TkV G M A N sg nb wd) (hNv : N = 50) (hpat : ∀ j, j ≤ 50 → sg j = (fPat false true).getD j 0) (c0 : Int32) (wr : Int32) (g7 : Nat → Int64) (hc11 : M (A 11) = some (11, .inr (4, [.ref (A 3), .ref (A 12), .int c0, .int wr]))) (hc12 : M (A 12) = some (12, .inl (hT G 2, 8, .inr (.inl g7)))) (lst e0 qa qb qc : Nat) (La Lb Lc : hLy) (Fa Fb Fc : Nat → hFo) (hlO : LsO M lst 3013 e0 3) (hlE : LsE G M e0 3014 3 (gq qa qb qc)) (hLa : LaP G M qa 2000 La Fa) (hLb : LaP G M qb 2100 Lb Fb) (hLc : LaP G M qc 2200 Lc Fc) (hIc : lyI Lc = lyI0) (hw1 : wd 1 = 38) (hw2 : wd 9 = 76) (hw3 : wd 23 = 114) (hv2 : wd 37 = 38) (hv3 : wd 39 = 76) (hx0 : ¬ nb 6 < 1) (hx1 : nb 6 ≤ 100) (hx2 : nb 32 ≤ 4) (hx3 : nb 34 ≤ 300) (hx4 : (0 : Int32) < nb 32)  : hCT l G yX2_check cX2_check 4 (Option.some FieldType.int) (hRm 6 0 0) M [.ref (A 11), .ref lst] (fun v M' => v = some (.int 0) ∧ (∃ f : Nat → Int64, M' (A 11) = some (11, .inr (4, [.ref (A 3), .ref (A 12), .int (nI 3), .int (-1)])) ∧ M' (A 12) = some (12, .inl (hT G 2, 8, .inr (.inl f)))) ∧ LaP G M' qa 2000 (lyU La 0 (nb (5 + 1))) Fa ∧ LaP G M' qb 2100 (Lb) Fb ∧ LaP G M' qc 2200 (lyNt (lyNt (lyX (lyU Lc 1 (nb (31 + 1))) (nb (33 + 1))) 0) 1) Fc ∧ hFr (fun u => u = 11 ∨ u = 12 ∨ (2000 ≤ u ∧ u < 2300)) M M') := by
  refine hCT.of (own := RX2) (nm := "check") (by decide) rfl rfl (Nat.le_of_ble_eq_true rfl) ?_
  intro p e s m args below meth c ls X Y hl
  have hx := X.1
  have hb := X.2.1
  have hl : lv_has ls 4 [(0, .ref (A 11)), (1, .ref lst)] := hl
  have hs7 : ∀ i, i ≤ N → sg i < 37 := fun i hi => by rw [hpat i (by omega)]; exact fp_01_7 i (by omega)
  have hfr : hFr (fun u => u = 11 ∨ u = 12 ∨ (2000 ≤ u ∧ u < 2300)) M M := hFr.rf
  refine lv_aload_n hx hb dX2_check_0 rfl (lv_at hl 0 rfl) ?_
  refine lv_iconst (v := 0) hx hb dX2_check_1 (by decide) ?_
  refine h_put X Y (k := 2) (v := .int 0) hc11 rfl hin_X2 tyX2_ok nmX2 (by decide) kfl_X2_15 rfl rfl rfl (Nat.le_of_ble_eq_true rfl) dX2_check_2 (fun H locs Y => ?_)
  have Y : hHS G (hup M (A 11) (11, .inr (4, [.ref (A 3), .ref (A 12), .int 0, .int wr]))) s H locs := Y
  have hTk := hTk.fr (hFr.put (Z := fun u => u = 11) (x := (11, .inr (4, [.ref (A 3), .ref (A 12), .int 0, .int wr]))) hFr.rf hc11 rfl) (fun j z1 z2 z3 => by omega)
  have hc12 := hup_tag (x := (11, .inr (4, [.ref (A 3), .ref (A 12), .int 0, .int wr]))) hc12 hc11 (by omega)
  have hlO := hlO.fr (hFr.put (Z := fun u => u = 11) (x := (11, .inr (4, [.ref (A 3), .ref (A 12), .int 0, .int wr]))) hFr.rf hc11 rfl) (by omega)
  have hlE := hlE.fr (hFr.put (Z := fun u => u = 11) (x := (11, .inr (4, [.ref (A 3), .ref (A 12), .int 0, .int wr]))) hFr.rf hc11 rfl) (by omega)
  have hLa := hLa.fr (hFr.put (Z := fun u => u = 11) (x := (11, .inr (4, [.ref (A 3), .ref (A 12), .int 0, .int wr]))) hFr.rf hc11 rfl) (fun j hj => by omega)
  have hLb := hLb.fr (hFr.put (Z := fun u => u = 11) (x := (11, .inr (4, [.ref (A 3), .ref (A 12), .int 0, .int wr]))) hFr.rf hc11 rfl) (fun j hj => by omega)
  have hLc := hLc.fr (hFr.put (Z := fun u => u = 11) (x := (11, .inr (4, [.ref (A 3), .ref (A 12), .int 0, .int wr]))) hFr.rf hc11 rfl) (fun j hj => by omega)
  have hfr := hfr.put (x := (11, .inr (4, [.ref (A 3), .ref (A 12), .int 0, .int wr]))) hc11 (Or.inl rfl)
  have hc11 : hup M (A 11) (11, .inr (4, [.ref (A 3), .ref (A 12), .int 0, .int wr])) (A 11) = some (11, .inr (4, [.ref (A 3), .ref (A 12), .int 0, .int wr])) := hup_eq
  generalize hup M (A 11) (11, .inr (4, [.ref (A 3), .ref (A 12), .int 0, .int wr])) = Mz1 at Y hc11 hTk hc12 hlO hlE hLa hLb hLc hfr
  refine lv_aload_n hx hb dX2_check_5 rfl (lv_at hl 0 rfl) ?_
  refine lv_iconst (v := (-1)) hx hb dX2_check_6 (by decide) ?_
  refine h_put X Y (k := 3) (v := .int (-1)) hc11 rfl hin_X2 tyX2_ok nmX2 (by decide) kfl_X2_19 rfl rfl rfl (Nat.le_of_ble_eq_true rfl) dX2_check_7 (fun H locs Y => ?_)
  have Y : hHS G (hup Mz1 (A 11) (11, .inr (4, [.ref (A 3), .ref (A 12), .int 0, .int (-1)]))) s H locs := Y
  have hTk := hTk.fr (hFr.put (Z := fun u => u = 11) (x := (11, .inr (4, [.ref (A 3), .ref (A 12), .int 0, .int (-1)]))) hFr.rf hc11 rfl) (fun j z1 z2 z3 => by omega)
  have hc12 := hup_tag (x := (11, .inr (4, [.ref (A 3), .ref (A 12), .int 0, .int (-1)]))) hc12 hc11 (by omega)
  have hlO := hlO.fr (hFr.put (Z := fun u => u = 11) (x := (11, .inr (4, [.ref (A 3), .ref (A 12), .int 0, .int (-1)]))) hFr.rf hc11 rfl) (by omega)
  have hlE := hlE.fr (hFr.put (Z := fun u => u = 11) (x := (11, .inr (4, [.ref (A 3), .ref (A 12), .int 0, .int (-1)]))) hFr.rf hc11 rfl) (by omega)
  have hLa := hLa.fr (hFr.put (Z := fun u => u = 11) (x := (11, .inr (4, [.ref (A 3), .ref (A 12), .int 0, .int (-1)]))) hFr.rf hc11 rfl) (fun j hj => by omega)
  have hLb := hLb.fr (hFr.put (Z := fun u => u = 11) (x := (11, .inr (4, [.ref (A 3), .ref (A 12), .int 0, .int (-1)]))) hFr.rf hc11 rfl) (fun j hj => by omega)
  have hLc := hLc.fr (hFr.put (Z := fun u => u = 11) (x := (11, .inr (4, [.ref (A 3), .ref (A 12), .int 0, .int (-1)]))) hFr.rf hc11 rfl) (fun j hj => by omega)
  have hfr := hfr.put (x := (11, .inr (4, [.ref (A 3), .ref (A 12), .int 0, .int (-1)]))) hc11 (Or.inl rfl)
  have hc11 : hup Mz1 (A 11) (11, .inr (4, [.ref (A 3), .ref (A 12), .int 0, .int (-1)])) (A 11) = some (11, .inr (4, [.ref (A 3), .ref (A 12), .int 0, .int (-1)])) := hup_eq
  generalize hup Mz1 (A 11) (11, .inr (4, [.ref (A 3), .ref (A 12), .int 0, .int (-1)])) = Mz2 at Y hc11 hTk hc12 hlO hlE hLa hLb hLc hfr
  have hc11 : Mz2 (A 11) = some (11, .inr (4, [.ref (A 3), .ref (A 12), .int (nI 0), .int (-1)])) := hc11
  refine lv_iconst (v := 1) hx hb dX2_check_10 (by decide) ?_
  refine lv_istore_n (lv' := [(2, .int 1), (0, .ref (A 11)), (1, .ref lst)]) hx hb dX2_check_11 rfl hl (by decide) rfl (fun ls hl => ?_)
  refine lv_iload_n hx hb dX2_check_12 rfl (lv_at hl 0 rfl) ?_
  refine lv_aload_n hx hb dX2_check_13 rfl (lv_at hl 1 rfl) ?_
  refine h_get X Y (k := 0) (v := .ref (A 3)) hc11 rfl hin_X2 (by decide) kfl_X2_22 rfl dX2_check_14 ?_
  refine h_get X Y (k := 4) (v := .int (nI (N + 1))) hTk.1 rfl hin_X9 (by decide) kfl_X2_26 rfl dX2_check_17 ?_
  refine lv_icmp_ge (tgt := 47) hx hb dX2_check_20 (by decide) (fun c20 => absurd (show (N + 1) ≤ 1 from (nI_leI (a := (N + 1)) (b := 1) (by omega) (by omega)).mp c20) (by omega)) (fun c20 => ?_)
  have c20 : ¬ (N + 1) ≤ 1 := fun z9 => c20 ((nI_leI (a := (N + 1)) (b := 1) (by omega) (by omega)).mpr z9)
  refine lv_aload_n hx hb dX2_check_23 rfl (lv_at hl 1 rfl) ?_
  refine lv_iload_n hx hb dX2_check_24 rfl (lv_at hl 0 rfl) ?_
  refine lv_aload_n hx hb dX2_check_25 rfl (lv_at hl 2 rfl) ?_
  have kq0 : sg 0 = 0 := hpat 0 (by omega)
  have kq1 : sg (0 + 1) = 33 := hpat 1 (by omega)
  refine h_callV (rest := []) X Y (c_errName l G Mz2 A N sg nb wd hN hTk hs7 0 (-1) g7 hc11 hc12 lst e0 (gq qa qb qc) hlO hlE 0 (by omega) kq0 kq1 (by omega) (fun j hj => absurd hj (by omega))) gw_X2_29 dsc_X2_errorOf hc11 rfl rfl rfl hl.1 rfl (Nat.le_of_ble_eq_true rfl) ⟨Nat.le_of_ble_eq_true rfl, Nat.le_of_ble_eq_true rfl⟩ ⟨Nat.le_of_ble_eq_true rfl, Nat.le_of_ble_eq_true rfl⟩ dX2_check_26 ?_
  rintro _ Mz3 H locs ⟨rfl, hc11, hc12, hfa⟩ Y
  have hTk := hTk.fr hfa (fun j z1 z2 z3 => by omega)
  have hlO := hlO.fr hfa (by omega)
  have hlE := hlE.fr hfa (by omega)
  have hLa := hLa.fr hfa (fun j hj => by omega)
  have hLb := hLb.fr hfa (fun j hj => by omega)
  have hLc := hLc.fr hfa (fun j hj => by omega)
  have hfr := hFr.tr hfr (hfa.mono (fun u z => by omega))
  have hf1_0 : (vp_updL g7 0 (wd (0 + 1))) 0 = 38 := pk_uLs.trans hw1
  try dsimp only [Option.toList, List.singleton_append]
  refine lv_istore_n (lv' := [(3, .int 0), (2, .int 1), (0, .ref (A 11)), (1, .ref lst)]) hx hb dX2_check_29 rfl hl (by decide) rfl (fun ls hl => ?_)
  refine lv_iload_n hx hb dX2_check_30 rfl (lv_at hl 0 rfl) ?_
  refine lv_if_eq (tgt := 41) hx hb dX2_check_31 (by decide) (fun c31 => ?_) (fun c31 => absurd (by decide) c31)
  refine lv_iinc (v := nI 2) (lv' := [(2, .int (nI 2)), (3, .int 0), (0, .ref (A 11)), (1, .ref lst)]) hx hb dX2_check_41 hl (k := 1) rfl (by decide) (by decide) rfl (fun ls hl => ?_)
  refine lv_goto (tgt := 12) hx hb dX2_check_44 (by decide) ?_
  have hl : lv_has ls 4 [(2, .int (nI (1 + 1))), (3, .int 0), (0, .ref (A 11)), (1, .ref lst)] := hl
  have hnn : ∀ i0, 1 ≤ i0 → i0 + 1 < 6 → (sg i0 ≠ 2 ∧ sg i0 ≠ 5 ∧ sg i0 ≠ 6) ∧ sg (i0 + 1) ≠ 33 := by
    intro i0 z1 z2
    rw [hpat i0 (by omega), hpat (i0 + 1) (by omega)]
    have hd : ∀ i0, i0 < 5 → 1 ≤ i0 → ((fPat false true).getD i0 0 ≠ 2 ∧ (fPat false true).getD i0 0 ≠ 5 ∧ (fPat false true).getD i0 0 ≠ 6) ∧ (fPat false true).getD (i0 + 1) 0 ≠ 33 := by decide
    exact hd i0 (by omega) z1
  have loop1 : ∀ (d i0 : Nat), i0 + 1 + d = 7 → 1 ≤ i0 → i0 + 1 ≤ 6 → ∀ (H : Heap) (locs : List Loc) (ls : Array Slot), hHS G Mz3 s H locs → lv_has ls 4 [(0, .ref (A 11)), (1, .ref lst), (2, .int (nI (i0 + 1)))] → W p l e (hRm 6 0 0) s m args below meth c H locs 0 0 (MQ below (hQ G (fun v M' => v = some (.int 0) ∧ (∃ f : Nat → Int64, M' (A 11) = some (11, .inr (4, [.ref (A 3), .ref (A 12), .int (nI 3), .int (-1)])) ∧ M' (A 12) = some (12, .inl (hT G 2, 8, .inr (.inl f)))) ∧ LaP G M' qa 2000 (lyU La 0 (nb (5 + 1))) Fa ∧ LaP G M' qb 2100 (Lb) Fb ∧ LaP G M' qc 2200 (lyNt (lyNt (lyX (lyU Lc 1 (nb (31 + 1))) (nb (33 + 1))) 0) 1) Fc ∧ hFr (fun u => u = 11 ∨ u = 12 ∨ (2000 ≤ u ∧ u < 2300)) M M')) args s 0 0 (hA G)) (F0 m 12 ls []) := by
    intro d
    induction d with
    | zero => intro i0 h1; intros; exact absurd h1 (by omega)
    | succ d ih1 =>
      intro i0 h1 h0 h2 H locs ls Y hl
      refine lv_iload_n hx hb dX2_check_12 rfl (lv_at hl 2 rfl) ?_
      rcases Nat.lt_or_ge (i0 + 1) 6 with hlt | hge
      · refine lv_aload_n hx hb dX2_check_13 rfl (lv_at hl 0 rfl) ?_
        refine h_get X Y (k := 0) (v := .ref (A 3)) hc11 rfl hin_X2 (by decide) kfl_X2_22 rfl dX2_check_14 ?_
        refine h_get X Y (k := 4) (v := .int (nI (N + 1))) hTk.1 rfl hin_X9 (by decide) kfl_X2_26 rfl dX2_check_17 ?_
        refine lv_icmp_ge (tgt := 47) hx hb dX2_check_20 (by decide) (fun c20 => absurd (show (N + 1) ≤ (i0 + 1) from (nI_leI (a := (N + 1)) (b := (i0 + 1)) (by omega) (by omega)).mp c20) (by omega)) (fun c20 => ?_)
        have c20 : ¬ (N + 1) ≤ (i0 + 1) := fun z9 => c20 ((nI_leI (a := (N + 1)) (b := (i0 + 1)) (by omega) (by omega)).mpr z9)
        refine lv_aload_n hx hb dX2_check_23 rfl (lv_at hl 0 rfl) ?_
        refine lv_iload_n hx hb dX2_check_24 rfl (lv_at hl 2 rfl) ?_
        refine lv_aload_n hx hb dX2_check_25 rfl (lv_at hl 1 rfl) ?_
        refine h_callVr (rest := []) X Y (c_errNone l G Mz3 A N sg nb wd hN hTk hs7 0 (-1) (vp_updL g7 0 (wd (0 + 1))) hc11 hc12 lst e0 (gq qa qb qc) hlO hlE i0 (by omega) (hnn i0 h0 hlt).1 (hnn i0 h0 hlt).2 2000 La (by omega) hLa.1 (by omega)) rfl rfl gw_X2_29 dsc_X2_errorOf hc11 rfl rfl rfl rfl hl.1 (Nat.le_of_ble_eq_true rfl) ⟨Nat.le_of_ble_eq_true rfl, Nat.le_of_ble_eq_true rfl⟩ ⟨Nat.le_of_ble_eq_true rfl, Nat.le_of_ble_eq_true rfl⟩ dX2_check_26 (fun H locs Y => ?_)
        refine lv_istore_n (lv' := [(3, .int 0), (0, .ref (A 11)), (1, .ref lst), (2, .int (nI (i0 + 1)))]) hx hb dX2_check_29 rfl hl (by decide) rfl (fun ls hl => ?_)
        refine lv_iload_n hx hb dX2_check_30 rfl (lv_at hl 0 rfl) ?_
        refine lv_if_eq (tgt := 41) hx hb dX2_check_31 (by decide) (fun c31 => ?_) (fun c31 => absurd (by decide) c31)
        refine lv_iinc (v := nI (i0 + 1 + 1)) (lv' := [(2, .int (nI (i0 + 1 + 1))), (3, .int 0), (0, .ref (A 11)), (1, .ref lst)]) hx hb dX2_check_41 hl (k := 3) rfl (nI_1 (i0 + 1)) (by decide) rfl (fun ls hl => ?_)
        refine lv_goto (tgt := 12) hx hb dX2_check_44 (by decide) ?_
        exact ih1 (i0 + 1) (by omega) (by omega) (by omega) _ _ _ Y (lv_sub hl [2, 3, 0] rfl)
      · obtain rfl : i0 = 5 := by omega
        have hl : lv_has ls 4 [(0, .ref (A 11)), (1, .ref lst), (2, .int (nI 6))] := hl
        refine lv_aload_n hx hb dX2_check_13 rfl (lv_at hl 0 rfl) ?_
        refine h_get X Y (k := 0) (v := .ref (A 3)) hc11 rfl hin_X2 (by decide) kfl_X2_22 rfl dX2_check_14 ?_
        refine h_get X Y (k := 4) (v := .int (nI (N + 1))) hTk.1 rfl hin_X9 (by decide) kfl_X2_26 rfl dX2_check_17 ?_
        refine lv_icmp_ge (tgt := 47) hx hb dX2_check_20 (by decide) (fun c20 => absurd (show (N + 1) ≤ 6 from (nI_leI (a := (N + 1)) (b := 6) (by omega) (by omega)).mp c20) (by omega)) (fun c20 => ?_)
        have c20 : ¬ (N + 1) ≤ 6 := fun z9 => c20 ((nI_leI (a := (N + 1)) (b := 6) (by omega) (by omega)).mpr z9)
        refine lv_aload_n hx hb dX2_check_23 rfl (lv_at hl 0 rfl) ?_
        refine lv_iload_n hx hb dX2_check_24 rfl (lv_at hl 2 rfl) ?_
        refine lv_aload_n hx hb dX2_check_25 rfl (lv_at hl 1 rfl) ?_
        have kq5 : sg 5 = 2 := hpat 5 (by omega)
        have kq6 : sg (5 + 1) = 34 := hpat 6 (by omega)
        refine h_callV (rest := []) X Y (c_errShare l G Mz3 A N sg nb wd hN hTk hs7 0 (-1) (vp_updL g7 0 (wd (0 + 1))) hc11 hc12 lst e0 (gq qa qb qc) hlO hlE 5 (by omega) kq5 (by omega) 2000 La (by omega) hLa.1 (by omega) hx0 hx1) gw_X2_29 dsc_X2_errorOf hc11 rfl rfl rfl hl.1 rfl (Nat.le_of_ble_eq_true rfl) ⟨Nat.le_of_ble_eq_true rfl, Nat.le_of_ble_eq_true rfl⟩ ⟨Nat.le_of_ble_eq_true rfl, Nat.le_of_ble_eq_true rfl⟩ dX2_check_26 ?_
        rintro _ Mz4 H locs ⟨rfl, hLy, hfa⟩ Y
        have hLa := hLa.upd hLy rfl rfl hfa
        have hTk := hTk.fr hfa (fun j z1 z2 z3 => by omega)
        have hlO := hlO.fr hfa (by omega)
        have hlE := hlE.fr hfa (by omega)
        have hLb := hLb.fr hfa (fun j hj => by omega)
        have hLc := hLc.fr hfa (fun j hj => by omega)
        have hc11 := hfa _ _ _ hc11 (by omega)
        have hc12 := hfa _ _ _ hc12 (by omega)
        have hfr := hFr.tr hfr (hfa.mono (fun u z => by omega))
        try dsimp only [Option.toList, List.singleton_append]
        refine lv_istore_n (lv' := [(3, .int 0), (0, .ref (A 11)), (1, .ref lst), (2, .int (nI 6))]) hx hb dX2_check_29 rfl hl (by decide) rfl (fun ls hl => ?_)
        refine lv_iload_n hx hb dX2_check_30 rfl (lv_at hl 0 rfl) ?_
        refine lv_if_eq (tgt := 41) hx hb dX2_check_31 (by decide) (fun c31 => ?_) (fun c31 => absurd (by decide) c31)
        refine lv_iinc (v := nI 7) (lv' := [(2, .int (nI 7)), (3, .int 0), (0, .ref (A 11)), (1, .ref lst)]) hx hb dX2_check_41 hl (k := 3) rfl (by decide) (by decide) rfl (fun ls hl => ?_)
        refine lv_goto (tgt := 12) hx hb dX2_check_44 (by decide) ?_
        have hl : lv_has ls 4 [(2, .int (nI (6 + 1))), (3, .int 0), (0, .ref (A 11)), (1, .ref lst)] := hl
        have hnn : ∀ i0, 6 ≤ i0 → i0 + 1 < 9 → (sg i0 ≠ 2 ∧ sg i0 ≠ 5 ∧ sg i0 ≠ 6) ∧ sg (i0 + 1) ≠ 33 := by
          intro i0 z1 z2
          rw [hpat i0 (by omega), hpat (i0 + 1) (by omega)]
          have hd : ∀ i0, i0 < 8 → 6 ≤ i0 → ((fPat false true).getD i0 0 ≠ 2 ∧ (fPat false true).getD i0 0 ≠ 5 ∧ (fPat false true).getD i0 0 ≠ 6) ∧ (fPat false true).getD (i0 + 1) 0 ≠ 33 := by decide
          exact hd i0 (by omega) z1
        have loop2 : ∀ (d i0 : Nat), i0 + 1 + d = 10 → 6 ≤ i0 → i0 + 1 ≤ 9 → ∀ (H : Heap) (locs : List Loc) (ls : Array Slot), hHS G Mz4 s H locs → lv_has ls 4 [(0, .ref (A 11)), (1, .ref lst), (2, .int (nI (i0 + 1)))] → W p l e (hRm 6 0 0) s m args below meth c H locs 0 0 (MQ below (hQ G (fun v M' => v = some (.int 0) ∧ (∃ f : Nat → Int64, M' (A 11) = some (11, .inr (4, [.ref (A 3), .ref (A 12), .int (nI 3), .int (-1)])) ∧ M' (A 12) = some (12, .inl (hT G 2, 8, .inr (.inl f)))) ∧ LaP G M' qa 2000 (lyU La 0 (nb (5 + 1))) Fa ∧ LaP G M' qb 2100 (Lb) Fb ∧ LaP G M' qc 2200 (lyNt (lyNt (lyX (lyU Lc 1 (nb (31 + 1))) (nb (33 + 1))) 0) 1) Fc ∧ hFr (fun u => u = 11 ∨ u = 12 ∨ (2000 ≤ u ∧ u < 2300)) M M')) args s 0 0 (hA G)) (F0 m 12 ls []) := by
          intro d
          induction d with
          | zero => intro i0 h1; intros; exact absurd h1 (by omega)
          | succ d ih2 =>
            intro i0 h1 h0 h2 H locs ls Y hl
            refine lv_iload_n hx hb dX2_check_12 rfl (lv_at hl 2 rfl) ?_
            rcases Nat.lt_or_ge (i0 + 1) 9 with hlt | hge
            · refine lv_aload_n hx hb dX2_check_13 rfl (lv_at hl 0 rfl) ?_
              refine h_get X Y (k := 0) (v := .ref (A 3)) hc11 rfl hin_X2 (by decide) kfl_X2_22 rfl dX2_check_14 ?_
              refine h_get X Y (k := 4) (v := .int (nI (N + 1))) hTk.1 rfl hin_X9 (by decide) kfl_X2_26 rfl dX2_check_17 ?_
              refine lv_icmp_ge (tgt := 47) hx hb dX2_check_20 (by decide) (fun c20 => absurd (show (N + 1) ≤ (i0 + 1) from (nI_leI (a := (N + 1)) (b := (i0 + 1)) (by omega) (by omega)).mp c20) (by omega)) (fun c20 => ?_)
              have c20 : ¬ (N + 1) ≤ (i0 + 1) := fun z9 => c20 ((nI_leI (a := (N + 1)) (b := (i0 + 1)) (by omega) (by omega)).mpr z9)
              refine lv_aload_n hx hb dX2_check_23 rfl (lv_at hl 0 rfl) ?_
              refine lv_iload_n hx hb dX2_check_24 rfl (lv_at hl 2 rfl) ?_
              refine lv_aload_n hx hb dX2_check_25 rfl (lv_at hl 1 rfl) ?_
              refine h_callVr (rest := []) X Y (c_errNone l G Mz4 A N sg nb wd hN hTk hs7 0 (-1) (vp_updL g7 0 (wd (0 + 1))) hc11 hc12 lst e0 (gq qa qb qc) hlO hlE i0 (by omega) (hnn i0 h0 hlt).1 (hnn i0 h0 hlt).2 2000 (lyU La 0 (nb (5 + 1))) (by omega) hLa.1 (by omega)) rfl rfl gw_X2_29 dsc_X2_errorOf hc11 rfl rfl rfl rfl hl.1 (Nat.le_of_ble_eq_true rfl) ⟨Nat.le_of_ble_eq_true rfl, Nat.le_of_ble_eq_true rfl⟩ ⟨Nat.le_of_ble_eq_true rfl, Nat.le_of_ble_eq_true rfl⟩ dX2_check_26 (fun H locs Y => ?_)
              refine lv_istore_n (lv' := [(3, .int 0), (0, .ref (A 11)), (1, .ref lst), (2, .int (nI (i0 + 1)))]) hx hb dX2_check_29 rfl hl (by decide) rfl (fun ls hl => ?_)
              refine lv_iload_n hx hb dX2_check_30 rfl (lv_at hl 0 rfl) ?_
              refine lv_if_eq (tgt := 41) hx hb dX2_check_31 (by decide) (fun c31 => ?_) (fun c31 => absurd (by decide) c31)
              refine lv_iinc (v := nI (i0 + 1 + 1)) (lv' := [(2, .int (nI (i0 + 1 + 1))), (3, .int 0), (0, .ref (A 11)), (1, .ref lst)]) hx hb dX2_check_41 hl (k := 3) rfl (nI_1 (i0 + 1)) (by decide) rfl (fun ls hl => ?_)
              refine lv_goto (tgt := 12) hx hb dX2_check_44 (by decide) ?_
              exact ih2 (i0 + 1) (by omega) (by omega) (by omega) _ _ _ Y (lv_sub hl [2, 3, 0] rfl)
            · obtain rfl : i0 = 8 := by omega
              have hl : lv_has ls 4 [(0, .ref (A 11)), (1, .ref lst), (2, .int (nI 9))] := hl
              refine lv_aload_n hx hb dX2_check_13 rfl (lv_at hl 0 rfl) ?_
              refine h_get X Y (k := 0) (v := .ref (A 3)) hc11 rfl hin_X2 (by decide) kfl_X2_22 rfl dX2_check_14 ?_
              refine h_get X Y (k := 4) (v := .int (nI (N + 1))) hTk.1 rfl hin_X9 (by decide) kfl_X2_26 rfl dX2_check_17 ?_
              refine lv_icmp_ge (tgt := 47) hx hb dX2_check_20 (by decide) (fun c20 => absurd (show (N + 1) ≤ 9 from (nI_leI (a := (N + 1)) (b := 9) (by omega) (by omega)).mp c20) (by omega)) (fun c20 => ?_)
              have c20 : ¬ (N + 1) ≤ 9 := fun z9 => c20 ((nI_leI (a := (N + 1)) (b := 9) (by omega) (by omega)).mpr z9)
              refine lv_aload_n hx hb dX2_check_23 rfl (lv_at hl 0 rfl) ?_
              refine lv_iload_n hx hb dX2_check_24 rfl (lv_at hl 2 rfl) ?_
              refine lv_aload_n hx hb dX2_check_25 rfl (lv_at hl 1 rfl) ?_
              have kq8 : sg 8 = 0 := hpat 8 (by omega)
              have kq9 : sg (8 + 1) = 33 := hpat 9 (by omega)
              refine h_callV (rest := []) X Y (c_errName l G Mz4 A N sg nb wd hN hTk hs7 1 (-1) (vp_updL g7 0 (wd (0 + 1))) hc11 hc12 lst e0 (gq qa qb qc) hlO hlE 8 (by omega) kq8 kq9 (by omega) (fun j hj => by rcases (show j = 0 by omega) with rfl; rw [hf1_0, show wd (8 + 1) = 76 from hw2]; decide)) gw_X2_29 dsc_X2_errorOf hc11 rfl rfl rfl hl.1 rfl (Nat.le_of_ble_eq_true rfl) ⟨Nat.le_of_ble_eq_true rfl, Nat.le_of_ble_eq_true rfl⟩ ⟨Nat.le_of_ble_eq_true rfl, Nat.le_of_ble_eq_true rfl⟩ dX2_check_26 ?_
              rintro _ Mz5 H locs ⟨rfl, hc11, hc12, hfa⟩ Y
              have hTk := hTk.fr hfa (fun j z1 z2 z3 => by omega)
              have hlO := hlO.fr hfa (by omega)
              have hlE := hlE.fr hfa (by omega)
              have hLa := hLa.fr hfa (fun j hj => by omega)
              have hLb := hLb.fr hfa (fun j hj => by omega)
              have hLc := hLc.fr hfa (fun j hj => by omega)
              have hfr := hFr.tr hfr (hfa.mono (fun u z => by omega))
              have hf2_0 : (vp_updL (vp_updL g7 0 (wd (0 + 1))) 1 (wd (8 + 1))) 0 = 38 := (pk_uLn (by omega)).trans hf1_0
              have hf2_1 : (vp_updL (vp_updL g7 0 (wd (0 + 1))) 1 (wd (8 + 1))) 1 = 76 := pk_uLs.trans hw2
              try dsimp only [Option.toList, List.singleton_append]
              refine lv_istore_n (lv' := [(3, .int 0), (0, .ref (A 11)), (1, .ref lst), (2, .int (nI 9))]) hx hb dX2_check_29 rfl hl (by decide) rfl (fun ls hl => ?_)
              refine lv_iload_n hx hb dX2_check_30 rfl (lv_at hl 0 rfl) ?_
              refine lv_if_eq (tgt := 41) hx hb dX2_check_31 (by decide) (fun c31 => ?_) (fun c31 => absurd (by decide) c31)
              refine lv_iinc (v := nI 10) (lv' := [(2, .int (nI 10)), (3, .int 0), (0, .ref (A 11)), (1, .ref lst)]) hx hb dX2_check_41 hl (k := 3) rfl (by decide) (by decide) rfl (fun ls hl => ?_)
              refine lv_goto (tgt := 12) hx hb dX2_check_44 (by decide) ?_
              have hl : lv_has ls 4 [(2, .int (nI (9 + 1))), (3, .int 0), (0, .ref (A 11)), (1, .ref lst)] := hl
              have hnn : ∀ i0, 9 ≤ i0 → i0 + 1 < 23 → (sg i0 ≠ 2 ∧ sg i0 ≠ 5 ∧ sg i0 ≠ 6) ∧ sg (i0 + 1) ≠ 33 := by
                intro i0 z1 z2
                rw [hpat i0 (by omega), hpat (i0 + 1) (by omega)]
                have hd : ∀ i0, i0 < 22 → 9 ≤ i0 → ((fPat false true).getD i0 0 ≠ 2 ∧ (fPat false true).getD i0 0 ≠ 5 ∧ (fPat false true).getD i0 0 ≠ 6) ∧ (fPat false true).getD (i0 + 1) 0 ≠ 33 := by decide
                exact hd i0 (by omega) z1
              have loop3 : ∀ (d i0 : Nat), i0 + 1 + d = 24 → 9 ≤ i0 → i0 + 1 ≤ 23 → ∀ (H : Heap) (locs : List Loc) (ls : Array Slot), hHS G Mz5 s H locs → lv_has ls 4 [(0, .ref (A 11)), (1, .ref lst), (2, .int (nI (i0 + 1)))] → W p l e (hRm 6 0 0) s m args below meth c H locs 0 0 (MQ below (hQ G (fun v M' => v = some (.int 0) ∧ (∃ f : Nat → Int64, M' (A 11) = some (11, .inr (4, [.ref (A 3), .ref (A 12), .int (nI 3), .int (-1)])) ∧ M' (A 12) = some (12, .inl (hT G 2, 8, .inr (.inl f)))) ∧ LaP G M' qa 2000 (lyU La 0 (nb (5 + 1))) Fa ∧ LaP G M' qb 2100 (Lb) Fb ∧ LaP G M' qc 2200 (lyNt (lyNt (lyX (lyU Lc 1 (nb (31 + 1))) (nb (33 + 1))) 0) 1) Fc ∧ hFr (fun u => u = 11 ∨ u = 12 ∨ (2000 ≤ u ∧ u < 2300)) M M')) args s 0 0 (hA G)) (F0 m 12 ls []) := by
                intro d
                induction d with
                | zero => intro i0 h1; intros; exact absurd h1 (by omega)
                | succ d ih3 =>
                  intro i0 h1 h0 h2 H locs ls Y hl
                  refine lv_iload_n hx hb dX2_check_12 rfl (lv_at hl 2 rfl) ?_
                  rcases Nat.lt_or_ge (i0 + 1) 23 with hlt | hge
                  · refine lv_aload_n hx hb dX2_check_13 rfl (lv_at hl 0 rfl) ?_
                    refine h_get X Y (k := 0) (v := .ref (A 3)) hc11 rfl hin_X2 (by decide) kfl_X2_22 rfl dX2_check_14 ?_
                    refine h_get X Y (k := 4) (v := .int (nI (N + 1))) hTk.1 rfl hin_X9 (by decide) kfl_X2_26 rfl dX2_check_17 ?_
                    refine lv_icmp_ge (tgt := 47) hx hb dX2_check_20 (by decide) (fun c20 => absurd (show (N + 1) ≤ (i0 + 1) from (nI_leI (a := (N + 1)) (b := (i0 + 1)) (by omega) (by omega)).mp c20) (by omega)) (fun c20 => ?_)
                    have c20 : ¬ (N + 1) ≤ (i0 + 1) := fun z9 => c20 ((nI_leI (a := (N + 1)) (b := (i0 + 1)) (by omega) (by omega)).mpr z9)
                    refine lv_aload_n hx hb dX2_check_23 rfl (lv_at hl 0 rfl) ?_
                    refine lv_iload_n hx hb dX2_check_24 rfl (lv_at hl 2 rfl) ?_
                    refine lv_aload_n hx hb dX2_check_25 rfl (lv_at hl 1 rfl) ?_
                    refine h_callVr (rest := []) X Y (c_errNone l G Mz5 A N sg nb wd hN hTk hs7 1 (-1) (vp_updL (vp_updL g7 0 (wd (0 + 1))) 1 (wd (8 + 1))) hc11 hc12 lst e0 (gq qa qb qc) hlO hlE i0 (by omega) (hnn i0 h0 hlt).1 (hnn i0 h0 hlt).2 2100 Lb (by omega) hLb.1 (by omega)) rfl rfl gw_X2_29 dsc_X2_errorOf hc11 rfl rfl rfl rfl hl.1 (Nat.le_of_ble_eq_true rfl) ⟨Nat.le_of_ble_eq_true rfl, Nat.le_of_ble_eq_true rfl⟩ ⟨Nat.le_of_ble_eq_true rfl, Nat.le_of_ble_eq_true rfl⟩ dX2_check_26 (fun H locs Y => ?_)
                    refine lv_istore_n (lv' := [(3, .int 0), (0, .ref (A 11)), (1, .ref lst), (2, .int (nI (i0 + 1)))]) hx hb dX2_check_29 rfl hl (by decide) rfl (fun ls hl => ?_)
                    refine lv_iload_n hx hb dX2_check_30 rfl (lv_at hl 0 rfl) ?_
                    refine lv_if_eq (tgt := 41) hx hb dX2_check_31 (by decide) (fun c31 => ?_) (fun c31 => absurd (by decide) c31)
                    refine lv_iinc (v := nI (i0 + 1 + 1)) (lv' := [(2, .int (nI (i0 + 1 + 1))), (3, .int 0), (0, .ref (A 11)), (1, .ref lst)]) hx hb dX2_check_41 hl (k := 3) rfl (nI_1 (i0 + 1)) (by decide) rfl (fun ls hl => ?_)
                    refine lv_goto (tgt := 12) hx hb dX2_check_44 (by decide) ?_
                    exact ih3 (i0 + 1) (by omega) (by omega) (by omega) _ _ _ Y (lv_sub hl [2, 3, 0] rfl)
                  · obtain rfl : i0 = 22 := by omega
                    have hl : lv_has ls 4 [(0, .ref (A 11)), (1, .ref lst), (2, .int (nI 23))] := hl
                    refine lv_aload_n hx hb dX2_check_13 rfl (lv_at hl 0 rfl) ?_
                    refine h_get X Y (k := 0) (v := .ref (A 3)) hc11 rfl hin_X2 (by decide) kfl_X2_22 rfl dX2_check_14 ?_
                    refine h_get X Y (k := 4) (v := .int (nI (N + 1))) hTk.1 rfl hin_X9 (by decide) kfl_X2_26 rfl dX2_check_17 ?_
                    refine lv_icmp_ge (tgt := 47) hx hb dX2_check_20 (by decide) (fun c20 => absurd (show (N + 1) ≤ 23 from (nI_leI (a := (N + 1)) (b := 23) (by omega) (by omega)).mp c20) (by omega)) (fun c20 => ?_)
                    have c20 : ¬ (N + 1) ≤ 23 := fun z9 => c20 ((nI_leI (a := (N + 1)) (b := 23) (by omega) (by omega)).mpr z9)
                    refine lv_aload_n hx hb dX2_check_23 rfl (lv_at hl 0 rfl) ?_
                    refine lv_iload_n hx hb dX2_check_24 rfl (lv_at hl 2 rfl) ?_
                    refine lv_aload_n hx hb dX2_check_25 rfl (lv_at hl 1 rfl) ?_
                    have kq22 : sg 22 = 0 := hpat 22 (by omega)
                    have kq23 : sg (22 + 1) = 33 := hpat 23 (by omega)
                    refine h_callV (rest := []) X Y (c_errName l G Mz5 A N sg nb wd hN hTk hs7 2 (-1) (vp_updL (vp_updL g7 0 (wd (0 + 1))) 1 (wd (8 + 1))) hc11 hc12 lst e0 (gq qa qb qc) hlO hlE 22 (by omega) kq22 kq23 (by omega) (fun j hj => by rcases (show j = 0 ∨ j = 1 by omega) with rfl | rfl; rw [hf2_0, show wd (22 + 1) = 114 from hw3]; decide; rw [hf2_1, show wd (22 + 1) = 114 from hw3]; decide)) gw_X2_29 dsc_X2_errorOf hc11 rfl rfl rfl hl.1 rfl (Nat.le_of_ble_eq_true rfl) ⟨Nat.le_of_ble_eq_true rfl, Nat.le_of_ble_eq_true rfl⟩ ⟨Nat.le_of_ble_eq_true rfl, Nat.le_of_ble_eq_true rfl⟩ dX2_check_26 ?_
                    rintro _ Mz6 H locs ⟨rfl, hc11, hc12, hfa⟩ Y
                    have hTk := hTk.fr hfa (fun j z1 z2 z3 => by omega)
                    have hlO := hlO.fr hfa (by omega)
                    have hlE := hlE.fr hfa (by omega)
                    have hLa := hLa.fr hfa (fun j hj => by omega)
                    have hLb := hLb.fr hfa (fun j hj => by omega)
                    have hLc := hLc.fr hfa (fun j hj => by omega)
                    have hfr := hFr.tr hfr (hfa.mono (fun u z => by omega))
                    have hf3_0 : (vp_updL (vp_updL (vp_updL g7 0 (wd (0 + 1))) 1 (wd (8 + 1))) 2 (wd (22 + 1))) 0 = 38 := (pk_uLn (by omega)).trans hf2_0
                    have hf3_1 : (vp_updL (vp_updL (vp_updL g7 0 (wd (0 + 1))) 1 (wd (8 + 1))) 2 (wd (22 + 1))) 1 = 76 := (pk_uLn (by omega)).trans hf2_1
                    have hf3_2 : (vp_updL (vp_updL (vp_updL g7 0 (wd (0 + 1))) 1 (wd (8 + 1))) 2 (wd (22 + 1))) 2 = 114 := pk_uLs.trans hw3
                    try dsimp only [Option.toList, List.singleton_append]
                    refine lv_istore_n (lv' := [(3, .int 0), (0, .ref (A 11)), (1, .ref lst), (2, .int (nI 23))]) hx hb dX2_check_29 rfl hl (by decide) rfl (fun ls hl => ?_)
                    refine lv_iload_n hx hb dX2_check_30 rfl (lv_at hl 0 rfl) ?_
                    refine lv_if_eq (tgt := 41) hx hb dX2_check_31 (by decide) (fun c31 => ?_) (fun c31 => absurd (by decide) c31)
                    refine lv_iinc (v := nI 24) (lv' := [(2, .int (nI 24)), (3, .int 0), (0, .ref (A 11)), (1, .ref lst)]) hx hb dX2_check_41 hl (k := 3) rfl (by decide) (by decide) rfl (fun ls hl => ?_)
                    refine lv_goto (tgt := 12) hx hb dX2_check_44 (by decide) ?_
                    have hl : lv_has ls 4 [(2, .int (nI (23 + 1))), (3, .int 0), (0, .ref (A 11)), (1, .ref lst)] := hl
                    have hnn : ∀ i0, 23 ≤ i0 → i0 + 1 < 32 → (sg i0 ≠ 2 ∧ sg i0 ≠ 5 ∧ sg i0 ≠ 6) ∧ sg (i0 + 1) ≠ 33 := by
                      intro i0 z1 z2
                      rw [hpat i0 (by omega), hpat (i0 + 1) (by omega)]
                      have hd : ∀ i0, i0 < 31 → 23 ≤ i0 → ((fPat false true).getD i0 0 ≠ 2 ∧ (fPat false true).getD i0 0 ≠ 5 ∧ (fPat false true).getD i0 0 ≠ 6) ∧ (fPat false true).getD (i0 + 1) 0 ≠ 33 := by decide
                      exact hd i0 (by omega) z1
                    have loop4 : ∀ (d i0 : Nat), i0 + 1 + d = 33 → 23 ≤ i0 → i0 + 1 ≤ 32 → ∀ (H : Heap) (locs : List Loc) (ls : Array Slot), hHS G Mz6 s H locs → lv_has ls 4 [(0, .ref (A 11)), (1, .ref lst), (2, .int (nI (i0 + 1)))] → W p l e (hRm 6 0 0) s m args below meth c H locs 0 0 (MQ below (hQ G (fun v M' => v = some (.int 0) ∧ (∃ f : Nat → Int64, M' (A 11) = some (11, .inr (4, [.ref (A 3), .ref (A 12), .int (nI 3), .int (-1)])) ∧ M' (A 12) = some (12, .inl (hT G 2, 8, .inr (.inl f)))) ∧ LaP G M' qa 2000 (lyU La 0 (nb (5 + 1))) Fa ∧ LaP G M' qb 2100 (Lb) Fb ∧ LaP G M' qc 2200 (lyNt (lyNt (lyX (lyU Lc 1 (nb (31 + 1))) (nb (33 + 1))) 0) 1) Fc ∧ hFr (fun u => u = 11 ∨ u = 12 ∨ (2000 ≤ u ∧ u < 2300)) M M')) args s 0 0 (hA G)) (F0 m 12 ls []) := by
                      intro d
                      induction d with
                      | zero => intro i0 h1; intros; exact absurd h1 (by omega)
                      | succ d ih4 =>
                        intro i0 h1 h0 h2 H locs ls Y hl
                        refine lv_iload_n hx hb dX2_check_12 rfl (lv_at hl 2 rfl) ?_
                        rcases Nat.lt_or_ge (i0 + 1) 32 with hlt | hge
                        · refine lv_aload_n hx hb dX2_check_13 rfl (lv_at hl 0 rfl) ?_
                          refine h_get X Y (k := 0) (v := .ref (A 3)) hc11 rfl hin_X2 (by decide) kfl_X2_22 rfl dX2_check_14 ?_
                          refine h_get X Y (k := 4) (v := .int (nI (N + 1))) hTk.1 rfl hin_X9 (by decide) kfl_X2_26 rfl dX2_check_17 ?_
                          refine lv_icmp_ge (tgt := 47) hx hb dX2_check_20 (by decide) (fun c20 => absurd (show (N + 1) ≤ (i0 + 1) from (nI_leI (a := (N + 1)) (b := (i0 + 1)) (by omega) (by omega)).mp c20) (by omega)) (fun c20 => ?_)
                          have c20 : ¬ (N + 1) ≤ (i0 + 1) := fun z9 => c20 ((nI_leI (a := (N + 1)) (b := (i0 + 1)) (by omega) (by omega)).mpr z9)
                          refine lv_aload_n hx hb dX2_check_23 rfl (lv_at hl 0 rfl) ?_
                          refine lv_iload_n hx hb dX2_check_24 rfl (lv_at hl 2 rfl) ?_
                          refine lv_aload_n hx hb dX2_check_25 rfl (lv_at hl 1 rfl) ?_
                          refine h_callVr (rest := []) X Y (c_errNone l G Mz6 A N sg nb wd hN hTk hs7 2 (-1) (vp_updL (vp_updL (vp_updL g7 0 (wd (0 + 1))) 1 (wd (8 + 1))) 2 (wd (22 + 1))) hc11 hc12 lst e0 (gq qa qb qc) hlO hlE i0 (by omega) (hnn i0 h0 hlt).1 (hnn i0 h0 hlt).2 2200 Lc (by omega) hLc.1 (by omega)) rfl rfl gw_X2_29 dsc_X2_errorOf hc11 rfl rfl rfl rfl hl.1 (Nat.le_of_ble_eq_true rfl) ⟨Nat.le_of_ble_eq_true rfl, Nat.le_of_ble_eq_true rfl⟩ ⟨Nat.le_of_ble_eq_true rfl, Nat.le_of_ble_eq_true rfl⟩ dX2_check_26 (fun H locs Y => ?_)
                          refine lv_istore_n (lv' := [(3, .int 0), (0, .ref (A 11)), (1, .ref lst), (2, .int (nI (i0 + 1)))]) hx hb dX2_check_29 rfl hl (by decide) rfl (fun ls hl => ?_)
                          refine lv_iload_n hx hb dX2_check_30 rfl (lv_at hl 0 rfl) ?_
                          refine lv_if_eq (tgt := 41) hx hb dX2_check_31 (by decide) (fun c31 => ?_) (fun c31 => absurd (by decide) c31)
                          refine lv_iinc (v := nI (i0 + 1 + 1)) (lv' := [(2, .int (nI (i0 + 1 + 1))), (3, .int 0), (0, .ref (A 11)), (1, .ref lst)]) hx hb dX2_check_41 hl (k := 3) rfl (nI_1 (i0 + 1)) (by decide) rfl (fun ls hl => ?_)
                          refine lv_goto (tgt := 12) hx hb dX2_check_44 (by decide) ?_
                          exact ih4 (i0 + 1) (by omega) (by omega) (by omega) _ _ _ Y (lv_sub hl [2, 3, 0] rfl)
                        · obtain rfl : i0 = 31 := by omega
                          have hl : lv_has ls 4 [(0, .ref (A 11)), (1, .ref lst), (2, .int (nI 32))] := hl
                          refine lv_aload_n hx hb dX2_check_13 rfl (lv_at hl 0 rfl) ?_
                          refine h_get X Y (k := 0) (v := .ref (A 3)) hc11 rfl hin_X2 (by decide) kfl_X2_22 rfl dX2_check_14 ?_
                          refine h_get X Y (k := 4) (v := .int (nI (N + 1))) hTk.1 rfl hin_X9 (by decide) kfl_X2_26 rfl dX2_check_17 ?_
                          refine lv_icmp_ge (tgt := 47) hx hb dX2_check_20 (by decide) (fun c20 => absurd (show (N + 1) ≤ 32 from (nI_leI (a := (N + 1)) (b := 32) (by omega) (by omega)).mp c20) (by omega)) (fun c20 => ?_)
                          have c20 : ¬ (N + 1) ≤ 32 := fun z9 => c20 ((nI_leI (a := (N + 1)) (b := 32) (by omega) (by omega)).mpr z9)
                          refine lv_aload_n hx hb dX2_check_23 rfl (lv_at hl 0 rfl) ?_
                          refine lv_iload_n hx hb dX2_check_24 rfl (lv_at hl 2 rfl) ?_
                          refine lv_aload_n hx hb dX2_check_25 rfl (lv_at hl 1 rfl) ?_
                          have kq31 : sg 31 = 5 := hpat 31 (by omega)
                          have kq32 : sg (31 + 1) = 34 := hpat 32 (by omega)
                          refine h_callV (rest := []) X Y (c_errRein l G Mz6 A N sg nb wd hN hTk hs7 2 (-1) (vp_updL (vp_updL (vp_updL g7 0 (wd (0 + 1))) 1 (wd (8 + 1))) 2 (wd (22 + 1))) hc11 hc12 lst e0 (gq qa qb qc) hlO hlE 31 (by omega) kq31 (by omega) 2200 Lc (by omega) hLc.1 (by omega) hx2) gw_X2_29 dsc_X2_errorOf hc11 rfl rfl rfl hl.1 rfl (Nat.le_of_ble_eq_true rfl) ⟨Nat.le_of_ble_eq_true rfl, Nat.le_of_ble_eq_true rfl⟩ ⟨Nat.le_of_ble_eq_true rfl, Nat.le_of_ble_eq_true rfl⟩ dX2_check_26 ?_
                          rintro _ Mz7 H locs ⟨rfl, hLy, hfa⟩ Y
                          have hLc := hLc.upd hLy rfl rfl hfa
                          have hTk := hTk.fr hfa (fun j z1 z2 z3 => by omega)
                          have hlO := hlO.fr hfa (by omega)
                          have hlE := hlE.fr hfa (by omega)
                          have hLa := hLa.fr hfa (fun j hj => by omega)
                          have hLb := hLb.fr hfa (fun j hj => by omega)
                          have hc11 := hfa _ _ _ hc11 (by omega)
                          have hc12 := hfa _ _ _ hc12 (by omega)
                          have hfr := hFr.tr hfr (hfa.mono (fun u z => by omega))
                          try dsimp only [Option.toList, List.singleton_append]
                          refine lv_istore_n (lv' := [(3, .int 0), (0, .ref (A 11)), (1, .ref lst), (2, .int (nI 32))]) hx hb dX2_check_29 rfl hl (by decide) rfl (fun ls hl => ?_)
                          refine lv_iload_n hx hb dX2_check_30 rfl (lv_at hl 0 rfl) ?_
                          refine lv_if_eq (tgt := 41) hx hb dX2_check_31 (by decide) (fun c31 => ?_) (fun c31 => absurd (by decide) c31)
                          refine lv_iinc (v := nI 33) (lv' := [(2, .int (nI 33)), (3, .int 0), (0, .ref (A 11)), (1, .ref lst)]) hx hb dX2_check_41 hl (k := 3) rfl (by decide) (by decide) rfl (fun ls hl => ?_)
                          refine lv_goto (tgt := 12) hx hb dX2_check_44 (by decide) ?_
                          have hl : lv_has ls 4 [(2, .int (nI (32 + 1))), (3, .int 0), (0, .ref (A 11)), (1, .ref lst)] := hl
                          have hnn : ∀ i0, 32 ≤ i0 → i0 + 1 < 34 → (sg i0 ≠ 2 ∧ sg i0 ≠ 5 ∧ sg i0 ≠ 6) ∧ sg (i0 + 1) ≠ 33 := by
                            intro i0 z1 z2
                            rw [hpat i0 (by omega), hpat (i0 + 1) (by omega)]
                            have hd : ∀ i0, i0 < 33 → 32 ≤ i0 → ((fPat false true).getD i0 0 ≠ 2 ∧ (fPat false true).getD i0 0 ≠ 5 ∧ (fPat false true).getD i0 0 ≠ 6) ∧ (fPat false true).getD (i0 + 1) 0 ≠ 33 := by decide
                            exact hd i0 (by omega) z1
                          have loop5 : ∀ (d i0 : Nat), i0 + 1 + d = 35 → 32 ≤ i0 → i0 + 1 ≤ 34 → ∀ (H : Heap) (locs : List Loc) (ls : Array Slot), hHS G Mz7 s H locs → lv_has ls 4 [(0, .ref (A 11)), (1, .ref lst), (2, .int (nI (i0 + 1)))] → W p l e (hRm 6 0 0) s m args below meth c H locs 0 0 (MQ below (hQ G (fun v M' => v = some (.int 0) ∧ (∃ f : Nat → Int64, M' (A 11) = some (11, .inr (4, [.ref (A 3), .ref (A 12), .int (nI 3), .int (-1)])) ∧ M' (A 12) = some (12, .inl (hT G 2, 8, .inr (.inl f)))) ∧ LaP G M' qa 2000 (lyU La 0 (nb (5 + 1))) Fa ∧ LaP G M' qb 2100 (Lb) Fb ∧ LaP G M' qc 2200 (lyNt (lyNt (lyX (lyU Lc 1 (nb (31 + 1))) (nb (33 + 1))) 0) 1) Fc ∧ hFr (fun u => u = 11 ∨ u = 12 ∨ (2000 ≤ u ∧ u < 2300)) M M')) args s 0 0 (hA G)) (F0 m 12 ls []) := by
                            intro d
                            induction d with
                            | zero => intro i0 h1; intros; exact absurd h1 (by omega)
                            | succ d ih5 =>
                              intro i0 h1 h0 h2 H locs ls Y hl
                              refine lv_iload_n hx hb dX2_check_12 rfl (lv_at hl 2 rfl) ?_
                              rcases Nat.lt_or_ge (i0 + 1) 34 with hlt | hge
                              · refine lv_aload_n hx hb dX2_check_13 rfl (lv_at hl 0 rfl) ?_
                                refine h_get X Y (k := 0) (v := .ref (A 3)) hc11 rfl hin_X2 (by decide) kfl_X2_22 rfl dX2_check_14 ?_
                                refine h_get X Y (k := 4) (v := .int (nI (N + 1))) hTk.1 rfl hin_X9 (by decide) kfl_X2_26 rfl dX2_check_17 ?_
                                refine lv_icmp_ge (tgt := 47) hx hb dX2_check_20 (by decide) (fun c20 => absurd (show (N + 1) ≤ (i0 + 1) from (nI_leI (a := (N + 1)) (b := (i0 + 1)) (by omega) (by omega)).mp c20) (by omega)) (fun c20 => ?_)
                                have c20 : ¬ (N + 1) ≤ (i0 + 1) := fun z9 => c20 ((nI_leI (a := (N + 1)) (b := (i0 + 1)) (by omega) (by omega)).mpr z9)
                                refine lv_aload_n hx hb dX2_check_23 rfl (lv_at hl 0 rfl) ?_
                                refine lv_iload_n hx hb dX2_check_24 rfl (lv_at hl 2 rfl) ?_
                                refine lv_aload_n hx hb dX2_check_25 rfl (lv_at hl 1 rfl) ?_
                                refine h_callVr (rest := []) X Y (c_errNone l G Mz7 A N sg nb wd hN hTk hs7 2 (-1) (vp_updL (vp_updL (vp_updL g7 0 (wd (0 + 1))) 1 (wd (8 + 1))) 2 (wd (22 + 1))) hc11 hc12 lst e0 (gq qa qb qc) hlO hlE i0 (by omega) (hnn i0 h0 hlt).1 (hnn i0 h0 hlt).2 2200 (lyU Lc 1 (nb (31 + 1))) (by omega) hLc.1 (by omega)) rfl rfl gw_X2_29 dsc_X2_errorOf hc11 rfl rfl rfl rfl hl.1 (Nat.le_of_ble_eq_true rfl) ⟨Nat.le_of_ble_eq_true rfl, Nat.le_of_ble_eq_true rfl⟩ ⟨Nat.le_of_ble_eq_true rfl, Nat.le_of_ble_eq_true rfl⟩ dX2_check_26 (fun H locs Y => ?_)
                                refine lv_istore_n (lv' := [(3, .int 0), (0, .ref (A 11)), (1, .ref lst), (2, .int (nI (i0 + 1)))]) hx hb dX2_check_29 rfl hl (by decide) rfl (fun ls hl => ?_)
                                refine lv_iload_n hx hb dX2_check_30 rfl (lv_at hl 0 rfl) ?_
                                refine lv_if_eq (tgt := 41) hx hb dX2_check_31 (by decide) (fun c31 => ?_) (fun c31 => absurd (by decide) c31)
                                refine lv_iinc (v := nI (i0 + 1 + 1)) (lv' := [(2, .int (nI (i0 + 1 + 1))), (3, .int 0), (0, .ref (A 11)), (1, .ref lst)]) hx hb dX2_check_41 hl (k := 3) rfl (nI_1 (i0 + 1)) (by decide) rfl (fun ls hl => ?_)
                                refine lv_goto (tgt := 12) hx hb dX2_check_44 (by decide) ?_
                                exact ih5 (i0 + 1) (by omega) (by omega) (by omega) _ _ _ Y (lv_sub hl [2, 3, 0] rfl)
                              · obtain rfl : i0 = 33 := by omega
                                have hl : lv_has ls 4 [(0, .ref (A 11)), (1, .ref lst), (2, .int (nI 34))] := hl
                                refine lv_aload_n hx hb dX2_check_13 rfl (lv_at hl 0 rfl) ?_
                                refine h_get X Y (k := 0) (v := .ref (A 3)) hc11 rfl hin_X2 (by decide) kfl_X2_22 rfl dX2_check_14 ?_
                                refine h_get X Y (k := 4) (v := .int (nI (N + 1))) hTk.1 rfl hin_X9 (by decide) kfl_X2_26 rfl dX2_check_17 ?_
                                refine lv_icmp_ge (tgt := 47) hx hb dX2_check_20 (by decide) (fun c20 => absurd (show (N + 1) ≤ 34 from (nI_leI (a := (N + 1)) (b := 34) (by omega) (by omega)).mp c20) (by omega)) (fun c20 => ?_)
                                have c20 : ¬ (N + 1) ≤ 34 := fun z9 => c20 ((nI_leI (a := (N + 1)) (b := 34) (by omega) (by omega)).mpr z9)
                                refine lv_aload_n hx hb dX2_check_23 rfl (lv_at hl 0 rfl) ?_
                                refine lv_iload_n hx hb dX2_check_24 rfl (lv_at hl 2 rfl) ?_
                                refine lv_aload_n hx hb dX2_check_25 rfl (lv_at hl 1 rfl) ?_
                                have kq33 : sg 33 = 6 := hpat 33 (by omega)
                                have kq34 : sg (33 + 1) = 34 := hpat 34 (by omega)
                                refine h_callV (rest := []) X Y (c_errAt l G Mz7 A N sg nb wd hN hTk hs7 2 (-1) (vp_updL (vp_updL (vp_updL g7 0 (wd (0 + 1))) 1 (wd (8 + 1))) 2 (wd (22 + 1))) hc11 hc12 lst e0 (gq qa qb qc) hlO hlE 33 (by omega) kq33 (by omega) 2200 (lyU Lc 1 (nb (31 + 1))) (by omega) hLc.1 (by omega) hx3 (by show upd (lyI Lc) 1 (nb (31 + 1)) 2 = 0; rw [hIc]; rfl) hx4) gw_X2_29 dsc_X2_errorOf hc11 rfl rfl rfl hl.1 rfl (Nat.le_of_ble_eq_true rfl) ⟨Nat.le_of_ble_eq_true rfl, Nat.le_of_ble_eq_true rfl⟩ ⟨Nat.le_of_ble_eq_true rfl, Nat.le_of_ble_eq_true rfl⟩ dX2_check_26 ?_
                                rintro _ Mz8 H locs ⟨rfl, hLy, hfa⟩ Y
                                have hLc := hLc.upd hLy rfl rfl hfa
                                have hTk := hTk.fr hfa (fun j z1 z2 z3 => by omega)
                                have hlO := hlO.fr hfa (by omega)
                                have hlE := hlE.fr hfa (by omega)
                                have hLa := hLa.fr hfa (fun j hj => by omega)
                                have hLb := hLb.fr hfa (fun j hj => by omega)
                                have hc11 := hfa _ _ _ hc11 (by omega)
                                have hc12 := hfa _ _ _ hc12 (by omega)
                                have hfr := hFr.tr hfr (hfa.mono (fun u z => by omega))
                                try dsimp only [Option.toList, List.singleton_append]
                                refine lv_istore_n (lv' := [(3, .int 0), (0, .ref (A 11)), (1, .ref lst), (2, .int (nI 34))]) hx hb dX2_check_29 rfl hl (by decide) rfl (fun ls hl => ?_)
                                refine lv_iload_n hx hb dX2_check_30 rfl (lv_at hl 0 rfl) ?_
                                refine lv_if_eq (tgt := 41) hx hb dX2_check_31 (by decide) (fun c31 => ?_) (fun c31 => absurd (by decide) c31)
                                refine lv_iinc (v := nI 35) (lv' := [(2, .int (nI 35)), (3, .int 0), (0, .ref (A 11)), (1, .ref lst)]) hx hb dX2_check_41 hl (k := 3) rfl (by decide) (by decide) rfl (fun ls hl => ?_)
                                refine lv_goto (tgt := 12) hx hb dX2_check_44 (by decide) ?_
                                have hl : lv_has ls 4 [(2, .int (nI (34 + 1))), (3, .int 0), (0, .ref (A 11)), (1, .ref lst)] := hl
                                have hnn : ∀ i0, 34 ≤ i0 → i0 + 1 < 37 → (sg i0 ≠ 2 ∧ sg i0 ≠ 5 ∧ sg i0 ≠ 6) ∧ sg (i0 + 1) ≠ 33 := by
                                  intro i0 z1 z2
                                  rw [hpat i0 (by omega), hpat (i0 + 1) (by omega)]
                                  have hd : ∀ i0, i0 < 36 → 34 ≤ i0 → ((fPat false true).getD i0 0 ≠ 2 ∧ (fPat false true).getD i0 0 ≠ 5 ∧ (fPat false true).getD i0 0 ≠ 6) ∧ (fPat false true).getD (i0 + 1) 0 ≠ 33 := by decide
                                  exact hd i0 (by omega) z1
                                have loop6 : ∀ (d i0 : Nat), i0 + 1 + d = 38 → 34 ≤ i0 → i0 + 1 ≤ 37 → ∀ (H : Heap) (locs : List Loc) (ls : Array Slot), hHS G Mz8 s H locs → lv_has ls 4 [(0, .ref (A 11)), (1, .ref lst), (2, .int (nI (i0 + 1)))] → W p l e (hRm 6 0 0) s m args below meth c H locs 0 0 (MQ below (hQ G (fun v M' => v = some (.int 0) ∧ (∃ f : Nat → Int64, M' (A 11) = some (11, .inr (4, [.ref (A 3), .ref (A 12), .int (nI 3), .int (-1)])) ∧ M' (A 12) = some (12, .inl (hT G 2, 8, .inr (.inl f)))) ∧ LaP G M' qa 2000 (lyU La 0 (nb (5 + 1))) Fa ∧ LaP G M' qb 2100 (Lb) Fb ∧ LaP G M' qc 2200 (lyNt (lyNt (lyX (lyU Lc 1 (nb (31 + 1))) (nb (33 + 1))) 0) 1) Fc ∧ hFr (fun u => u = 11 ∨ u = 12 ∨ (2000 ≤ u ∧ u < 2300)) M M')) args s 0 0 (hA G)) (F0 m 12 ls []) := by
                                  intro d
                                  induction d with
                                  | zero => intro i0 h1; intros; exact absurd h1 (by omega)
                                  | succ d ih6 =>
                                    intro i0 h1 h0 h2 H locs ls Y hl
                                    refine lv_iload_n hx hb dX2_check_12 rfl (lv_at hl 2 rfl) ?_
                                    rcases Nat.lt_or_ge (i0 + 1) 37 with hlt | hge
                                    · refine lv_aload_n hx hb dX2_check_13 rfl (lv_at hl 0 rfl) ?_
                                      refine h_get X Y (k := 0) (v := .ref (A 3)) hc11 rfl hin_X2 (by decide) kfl_X2_22 rfl dX2_check_14 ?_
                                      refine h_get X Y (k := 4) (v := .int (nI (N + 1))) hTk.1 rfl hin_X9 (by decide) kfl_X2_26 rfl dX2_check_17 ?_
                                      refine lv_icmp_ge (tgt := 47) hx hb dX2_check_20 (by decide) (fun c20 => absurd (show (N + 1) ≤ (i0 + 1) from (nI_leI (a := (N + 1)) (b := (i0 + 1)) (by omega) (by omega)).mp c20) (by omega)) (fun c20 => ?_)
                                      have c20 : ¬ (N + 1) ≤ (i0 + 1) := fun z9 => c20 ((nI_leI (a := (N + 1)) (b := (i0 + 1)) (by omega) (by omega)).mpr z9)
                                      refine lv_aload_n hx hb dX2_check_23 rfl (lv_at hl 0 rfl) ?_
                                      refine lv_iload_n hx hb dX2_check_24 rfl (lv_at hl 2 rfl) ?_
                                      refine lv_aload_n hx hb dX2_check_25 rfl (lv_at hl 1 rfl) ?_
                                      refine h_callVr (rest := []) X Y (c_errNone l G Mz8 A N sg nb wd hN hTk hs7 2 (-1) (vp_updL (vp_updL (vp_updL g7 0 (wd (0 + 1))) 1 (wd (8 + 1))) 2 (wd (22 + 1))) hc11 hc12 lst e0 (gq qa qb qc) hlO hlE i0 (by omega) (hnn i0 h0 hlt).1 (hnn i0 h0 hlt).2 2200 (lyX (lyU Lc 1 (nb (31 + 1))) (nb (33 + 1))) (by omega) hLc.1 (by omega)) rfl rfl gw_X2_29 dsc_X2_errorOf hc11 rfl rfl rfl rfl hl.1 (Nat.le_of_ble_eq_true rfl) ⟨Nat.le_of_ble_eq_true rfl, Nat.le_of_ble_eq_true rfl⟩ ⟨Nat.le_of_ble_eq_true rfl, Nat.le_of_ble_eq_true rfl⟩ dX2_check_26 (fun H locs Y => ?_)
                                      refine lv_istore_n (lv' := [(3, .int 0), (0, .ref (A 11)), (1, .ref lst), (2, .int (nI (i0 + 1)))]) hx hb dX2_check_29 rfl hl (by decide) rfl (fun ls hl => ?_)
                                      refine lv_iload_n hx hb dX2_check_30 rfl (lv_at hl 0 rfl) ?_
                                      refine lv_if_eq (tgt := 41) hx hb dX2_check_31 (by decide) (fun c31 => ?_) (fun c31 => absurd (by decide) c31)
                                      refine lv_iinc (v := nI (i0 + 1 + 1)) (lv' := [(2, .int (nI (i0 + 1 + 1))), (3, .int 0), (0, .ref (A 11)), (1, .ref lst)]) hx hb dX2_check_41 hl (k := 3) rfl (nI_1 (i0 + 1)) (by decide) rfl (fun ls hl => ?_)
                                      refine lv_goto (tgt := 12) hx hb dX2_check_44 (by decide) ?_
                                      exact ih6 (i0 + 1) (by omega) (by omega) (by omega) _ _ _ Y (lv_sub hl [2, 3, 0] rfl)
                                    · obtain rfl : i0 = 36 := by omega
                                      have hl : lv_has ls 4 [(0, .ref (A 11)), (1, .ref lst), (2, .int (nI 37))] := hl
                                      refine lv_aload_n hx hb dX2_check_13 rfl (lv_at hl 0 rfl) ?_
                                      refine h_get X Y (k := 0) (v := .ref (A 3)) hc11 rfl hin_X2 (by decide) kfl_X2_22 rfl dX2_check_14 ?_
                                      refine h_get X Y (k := 4) (v := .int (nI (N + 1))) hTk.1 rfl hin_X9 (by decide) kfl_X2_26 rfl dX2_check_17 ?_
                                      refine lv_icmp_ge (tgt := 47) hx hb dX2_check_20 (by decide) (fun c20 => absurd (show (N + 1) ≤ 37 from (nI_leI (a := (N + 1)) (b := 37) (by omega) (by omega)).mp c20) (by omega)) (fun c20 => ?_)
                                      have c20 : ¬ (N + 1) ≤ 37 := fun z9 => c20 ((nI_leI (a := (N + 1)) (b := 37) (by omega) (by omega)).mpr z9)
                                      refine lv_aload_n hx hb dX2_check_23 rfl (lv_at hl 0 rfl) ?_
                                      refine lv_iload_n hx hb dX2_check_24 rfl (lv_at hl 2 rfl) ?_
                                      refine lv_aload_n hx hb dX2_check_25 rfl (lv_at hl 1 rfl) ?_
                                      have kq36 : sg 36 = 8 := hpat 36 (by omega)
                                      have kq37 : sg (36 + 1) = 33 := hpat 37 (by omega)
                                      refine h_callV (rest := []) X Y (c_errNet l G Mz8 A N sg nb wd hN hTk hs7 2 (-1) (vp_updL (vp_updL (vp_updL g7 0 (wd (0 + 1))) 1 (wd (8 + 1))) 2 (wd (22 + 1))) hc11 hc12 lst e0 (gq qa qb qc) hlO hlE 36 (by omega) (by omega) kq37 2200 (lyX (lyU Lc 1 (nb (31 + 1))) (nb (33 + 1))) (by omega) hLc.1 (by omega) 0 (by omega) (hf3_0.trans (show wd (36 + 1) = 38 from hv2).symm) (fun j hj => absurd hj (by omega))) gw_X2_29 dsc_X2_errorOf hc11 rfl rfl rfl hl.1 rfl (Nat.le_of_ble_eq_true rfl) ⟨Nat.le_of_ble_eq_true rfl, Nat.le_of_ble_eq_true rfl⟩ ⟨Nat.le_of_ble_eq_true rfl, Nat.le_of_ble_eq_true rfl⟩ dX2_check_26 ?_
                                      rintro _ Mz9 H locs ⟨rfl, hLy, hfa⟩ Y
                                      have hLc := hLc.upd hLy rfl rfl hfa
                                      have hTk := hTk.fr hfa (fun j z1 z2 z3 => by omega)
                                      have hlO := hlO.fr hfa (by omega)
                                      have hlE := hlE.fr hfa (by omega)
                                      have hLa := hLa.fr hfa (fun j hj => by omega)
                                      have hLb := hLb.fr hfa (fun j hj => by omega)
                                      have hc11 := hfa _ _ _ hc11 (by omega)
                                      have hc12 := hfa _ _ _ hc12 (by omega)
                                      have hfr := hFr.tr hfr (hfa.mono (fun u z => by omega))
                                      try dsimp only [Option.toList, List.singleton_append]
                                      refine lv_istore_n (lv' := [(3, .int 0), (0, .ref (A 11)), (1, .ref lst), (2, .int (nI 37))]) hx hb dX2_check_29 rfl hl (by decide) rfl (fun ls hl => ?_)
                                      refine lv_iload_n hx hb dX2_check_30 rfl (lv_at hl 0 rfl) ?_
                                      refine lv_if_eq (tgt := 41) hx hb dX2_check_31 (by decide) (fun c31 => ?_) (fun c31 => absurd (by decide) c31)
                                      refine lv_iinc (v := nI 38) (lv' := [(2, .int (nI 38)), (3, .int 0), (0, .ref (A 11)), (1, .ref lst)]) hx hb dX2_check_41 hl (k := 3) rfl (by decide) (by decide) rfl (fun ls hl => ?_)
                                      refine lv_goto (tgt := 12) hx hb dX2_check_44 (by decide) ?_
                                      have hl : lv_has ls 4 [(2, .int (nI (37 + 1))), (3, .int 0), (0, .ref (A 11)), (1, .ref lst)] := hl
                                      have hnn : ∀ i0, 37 ≤ i0 → i0 + 1 < 39 → (sg i0 ≠ 2 ∧ sg i0 ≠ 5 ∧ sg i0 ≠ 6) ∧ sg (i0 + 1) ≠ 33 := by
                                        intro i0 z1 z2
                                        rw [hpat i0 (by omega), hpat (i0 + 1) (by omega)]
                                        have hd : ∀ i0, i0 < 38 → 37 ≤ i0 → ((fPat false true).getD i0 0 ≠ 2 ∧ (fPat false true).getD i0 0 ≠ 5 ∧ (fPat false true).getD i0 0 ≠ 6) ∧ (fPat false true).getD (i0 + 1) 0 ≠ 33 := by decide
                                        exact hd i0 (by omega) z1
                                      have loop7 : ∀ (d i0 : Nat), i0 + 1 + d = 40 → 37 ≤ i0 → i0 + 1 ≤ 39 → ∀ (H : Heap) (locs : List Loc) (ls : Array Slot), hHS G Mz9 s H locs → lv_has ls 4 [(0, .ref (A 11)), (1, .ref lst), (2, .int (nI (i0 + 1)))] → W p l e (hRm 6 0 0) s m args below meth c H locs 0 0 (MQ below (hQ G (fun v M' => v = some (.int 0) ∧ (∃ f : Nat → Int64, M' (A 11) = some (11, .inr (4, [.ref (A 3), .ref (A 12), .int (nI 3), .int (-1)])) ∧ M' (A 12) = some (12, .inl (hT G 2, 8, .inr (.inl f)))) ∧ LaP G M' qa 2000 (lyU La 0 (nb (5 + 1))) Fa ∧ LaP G M' qb 2100 (Lb) Fb ∧ LaP G M' qc 2200 (lyNt (lyNt (lyX (lyU Lc 1 (nb (31 + 1))) (nb (33 + 1))) 0) 1) Fc ∧ hFr (fun u => u = 11 ∨ u = 12 ∨ (2000 ≤ u ∧ u < 2300)) M M')) args s 0 0 (hA G)) (F0 m 12 ls []) := by
                                        intro d
                                        induction d with
                                        | zero => intro i0 h1; intros; exact absurd h1 (by omega)
                                        | succ d ih7 =>
                                          intro i0 h1 h0 h2 H locs ls Y hl
                                          refine lv_iload_n hx hb dX2_check_12 rfl (lv_at hl 2 rfl) ?_
                                          rcases Nat.lt_or_ge (i0 + 1) 39 with hlt | hge
                                          · refine lv_aload_n hx hb dX2_check_13 rfl (lv_at hl 0 rfl) ?_
                                            refine h_get X Y (k := 0) (v := .ref (A 3)) hc11 rfl hin_X2 (by decide) kfl_X2_22 rfl dX2_check_14 ?_
                                            refine h_get X Y (k := 4) (v := .int (nI (N + 1))) hTk.1 rfl hin_X9 (by decide) kfl_X2_26 rfl dX2_check_17 ?_
                                            refine lv_icmp_ge (tgt := 47) hx hb dX2_check_20 (by decide) (fun c20 => absurd (show (N + 1) ≤ (i0 + 1) from (nI_leI (a := (N + 1)) (b := (i0 + 1)) (by omega) (by omega)).mp c20) (by omega)) (fun c20 => ?_)
                                            have c20 : ¬ (N + 1) ≤ (i0 + 1) := fun z9 => c20 ((nI_leI (a := (N + 1)) (b := (i0 + 1)) (by omega) (by omega)).mpr z9)
                                            refine lv_aload_n hx hb dX2_check_23 rfl (lv_at hl 0 rfl) ?_
                                            refine lv_iload_n hx hb dX2_check_24 rfl (lv_at hl 2 rfl) ?_
                                            refine lv_aload_n hx hb dX2_check_25 rfl (lv_at hl 1 rfl) ?_
                                            refine h_callVr (rest := []) X Y (c_errNone l G Mz9 A N sg nb wd hN hTk hs7 2 (-1) (vp_updL (vp_updL (vp_updL g7 0 (wd (0 + 1))) 1 (wd (8 + 1))) 2 (wd (22 + 1))) hc11 hc12 lst e0 (gq qa qb qc) hlO hlE i0 (by omega) (hnn i0 h0 hlt).1 (hnn i0 h0 hlt).2 2200 (lyNt (lyX (lyU Lc 1 (nb (31 + 1))) (nb (33 + 1))) 0) (by omega) hLc.1 (by omega)) rfl rfl gw_X2_29 dsc_X2_errorOf hc11 rfl rfl rfl rfl hl.1 (Nat.le_of_ble_eq_true rfl) ⟨Nat.le_of_ble_eq_true rfl, Nat.le_of_ble_eq_true rfl⟩ ⟨Nat.le_of_ble_eq_true rfl, Nat.le_of_ble_eq_true rfl⟩ dX2_check_26 (fun H locs Y => ?_)
                                            refine lv_istore_n (lv' := [(3, .int 0), (0, .ref (A 11)), (1, .ref lst), (2, .int (nI (i0 + 1)))]) hx hb dX2_check_29 rfl hl (by decide) rfl (fun ls hl => ?_)
                                            refine lv_iload_n hx hb dX2_check_30 rfl (lv_at hl 0 rfl) ?_
                                            refine lv_if_eq (tgt := 41) hx hb dX2_check_31 (by decide) (fun c31 => ?_) (fun c31 => absurd (by decide) c31)
                                            refine lv_iinc (v := nI (i0 + 1 + 1)) (lv' := [(2, .int (nI (i0 + 1 + 1))), (3, .int 0), (0, .ref (A 11)), (1, .ref lst)]) hx hb dX2_check_41 hl (k := 3) rfl (nI_1 (i0 + 1)) (by decide) rfl (fun ls hl => ?_)
                                            refine lv_goto (tgt := 12) hx hb dX2_check_44 (by decide) ?_
                                            exact ih7 (i0 + 1) (by omega) (by omega) (by omega) _ _ _ Y (lv_sub hl [2, 3, 0] rfl)
                                          · obtain rfl : i0 = 38 := by omega
                                            have hl : lv_has ls 4 [(0, .ref (A 11)), (1, .ref lst), (2, .int (nI 39))] := hl
                                            refine lv_aload_n hx hb dX2_check_13 rfl (lv_at hl 0 rfl) ?_
                                            refine h_get X Y (k := 0) (v := .ref (A 3)) hc11 rfl hin_X2 (by decide) kfl_X2_22 rfl dX2_check_14 ?_
                                            refine h_get X Y (k := 4) (v := .int (nI (N + 1))) hTk.1 rfl hin_X9 (by decide) kfl_X2_26 rfl dX2_check_17 ?_
                                            refine lv_icmp_ge (tgt := 47) hx hb dX2_check_20 (by decide) (fun c20 => absurd (show (N + 1) ≤ 39 from (nI_leI (a := (N + 1)) (b := 39) (by omega) (by omega)).mp c20) (by omega)) (fun c20 => ?_)
                                            have c20 : ¬ (N + 1) ≤ 39 := fun z9 => c20 ((nI_leI (a := (N + 1)) (b := 39) (by omega) (by omega)).mpr z9)
                                            refine lv_aload_n hx hb dX2_check_23 rfl (lv_at hl 0 rfl) ?_
                                            refine lv_iload_n hx hb dX2_check_24 rfl (lv_at hl 2 rfl) ?_
                                            refine lv_aload_n hx hb dX2_check_25 rfl (lv_at hl 1 rfl) ?_
                                            have kq38 : sg 38 = 23 := hpat 38 (by omega)
                                            have kq39 : sg (38 + 1) = 33 := hpat 39 (by omega)
                                            refine h_callV (rest := []) X Y (c_errNet l G Mz9 A N sg nb wd hN hTk hs7 2 (-1) (vp_updL (vp_updL (vp_updL g7 0 (wd (0 + 1))) 1 (wd (8 + 1))) 2 (wd (22 + 1))) hc11 hc12 lst e0 (gq qa qb qc) hlO hlE 38 (by omega) (by omega) kq39 2200 (lyNt (lyX (lyU Lc 1 (nb (31 + 1))) (nb (33 + 1))) 0) (by omega) hLc.1 (by omega) 1 (by omega) (hf3_1.trans (show wd (38 + 1) = 76 from hv3).symm) (fun j hj => by rcases (show j = 0 by omega) with rfl; rw [hf3_0, show wd (38 + 1) = 76 from hv3]; decide)) gw_X2_29 dsc_X2_errorOf hc11 rfl rfl rfl hl.1 rfl (Nat.le_of_ble_eq_true rfl) ⟨Nat.le_of_ble_eq_true rfl, Nat.le_of_ble_eq_true rfl⟩ ⟨Nat.le_of_ble_eq_true rfl, Nat.le_of_ble_eq_true rfl⟩ dX2_check_26 ?_
                                            rintro _ Mz10 H locs ⟨rfl, hLy, hfa⟩ Y
                                            have hLc := hLc.upd hLy rfl rfl hfa
                                            have hTk := hTk.fr hfa (fun j z1 z2 z3 => by omega)
                                            have hlO := hlO.fr hfa (by omega)
                                            have hlE := hlE.fr hfa (by omega)
                                            have hLa := hLa.fr hfa (fun j hj => by omega)
                                            have hLb := hLb.fr hfa (fun j hj => by omega)
                                            have hc11 := hfa _ _ _ hc11 (by omega)
                                            have hc12 := hfa _ _ _ hc12 (by omega)
                                            have hfr := hFr.tr hfr (hfa.mono (fun u z => by omega))
                                            try dsimp only [Option.toList, List.singleton_append]
                                            refine lv_istore_n (lv' := [(3, .int 0), (0, .ref (A 11)), (1, .ref lst), (2, .int (nI 39))]) hx hb dX2_check_29 rfl hl (by decide) rfl (fun ls hl => ?_)
                                            refine lv_iload_n hx hb dX2_check_30 rfl (lv_at hl 0 rfl) ?_
                                            refine lv_if_eq (tgt := 41) hx hb dX2_check_31 (by decide) (fun c31 => ?_) (fun c31 => absurd (by decide) c31)
                                            refine lv_iinc (v := nI 40) (lv' := [(2, .int (nI 40)), (3, .int 0), (0, .ref (A 11)), (1, .ref lst)]) hx hb dX2_check_41 hl (k := 3) rfl (by decide) (by decide) rfl (fun ls hl => ?_)
                                            refine lv_goto (tgt := 12) hx hb dX2_check_44 (by decide) ?_
                                            have hl : lv_has ls 4 [(2, .int (nI (39 + 1))), (3, .int 0), (0, .ref (A 11)), (1, .ref lst)] := hl
                                            have hnn : ∀ i0, 39 ≤ i0 → i0 + 1 < 51 → (sg i0 ≠ 2 ∧ sg i0 ≠ 5 ∧ sg i0 ≠ 6) ∧ sg (i0 + 1) ≠ 33 := by
                                              intro i0 z1 z2
                                              rw [hpat i0 (by omega), hpat (i0 + 1) (by omega)]
                                              have hd : ∀ i0, i0 < 50 → 39 ≤ i0 → ((fPat false true).getD i0 0 ≠ 2 ∧ (fPat false true).getD i0 0 ≠ 5 ∧ (fPat false true).getD i0 0 ≠ 6) ∧ (fPat false true).getD (i0 + 1) 0 ≠ 33 := by decide
                                              exact hd i0 (by omega) z1
                                            have loop8 : ∀ (d i0 : Nat), i0 + 1 + d = 52 → 39 ≤ i0 → i0 + 1 ≤ 51 → ∀ (H : Heap) (locs : List Loc) (ls : Array Slot), hHS G Mz10 s H locs → lv_has ls 4 [(0, .ref (A 11)), (1, .ref lst), (2, .int (nI (i0 + 1)))] → W p l e (hRm 6 0 0) s m args below meth c H locs 0 0 (MQ below (hQ G (fun v M' => v = some (.int 0) ∧ (∃ f : Nat → Int64, M' (A 11) = some (11, .inr (4, [.ref (A 3), .ref (A 12), .int (nI 3), .int (-1)])) ∧ M' (A 12) = some (12, .inl (hT G 2, 8, .inr (.inl f)))) ∧ LaP G M' qa 2000 (lyU La 0 (nb (5 + 1))) Fa ∧ LaP G M' qb 2100 (Lb) Fb ∧ LaP G M' qc 2200 (lyNt (lyNt (lyX (lyU Lc 1 (nb (31 + 1))) (nb (33 + 1))) 0) 1) Fc ∧ hFr (fun u => u = 11 ∨ u = 12 ∨ (2000 ≤ u ∧ u < 2300)) M M')) args s 0 0 (hA G)) (F0 m 12 ls []) := by
                                              intro d
                                              induction d with
                                              | zero => intro i0 h1; intros; exact absurd h1 (by omega)
                                              | succ d ih8 =>
                                                intro i0 h1 h0 h2 H locs ls Y hl
                                                refine lv_iload_n hx hb dX2_check_12 rfl (lv_at hl 2 rfl) ?_
                                                rcases Nat.lt_or_ge (i0 + 1) 51 with hlt | hge
                                                · refine lv_aload_n hx hb dX2_check_13 rfl (lv_at hl 0 rfl) ?_
                                                  refine h_get X Y (k := 0) (v := .ref (A 3)) hc11 rfl hin_X2 (by decide) kfl_X2_22 rfl dX2_check_14 ?_
                                                  refine h_get X Y (k := 4) (v := .int (nI (N + 1))) hTk.1 rfl hin_X9 (by decide) kfl_X2_26 rfl dX2_check_17 ?_
                                                  refine lv_icmp_ge (tgt := 47) hx hb dX2_check_20 (by decide) (fun c20 => absurd (show (N + 1) ≤ (i0 + 1) from (nI_leI (a := (N + 1)) (b := (i0 + 1)) (by omega) (by omega)).mp c20) (by omega)) (fun c20 => ?_)
                                                  have c20 : ¬ (N + 1) ≤ (i0 + 1) := fun z9 => c20 ((nI_leI (a := (N + 1)) (b := (i0 + 1)) (by omega) (by omega)).mpr z9)
                                                  refine lv_aload_n hx hb dX2_check_23 rfl (lv_at hl 0 rfl) ?_
                                                  refine lv_iload_n hx hb dX2_check_24 rfl (lv_at hl 2 rfl) ?_
                                                  refine lv_aload_n hx hb dX2_check_25 rfl (lv_at hl 1 rfl) ?_
                                                  refine h_callVr (rest := []) X Y (c_errNone l G Mz10 A N sg nb wd hN hTk hs7 2 (-1) (vp_updL (vp_updL (vp_updL g7 0 (wd (0 + 1))) 1 (wd (8 + 1))) 2 (wd (22 + 1))) hc11 hc12 lst e0 (gq qa qb qc) hlO hlE i0 (by omega) (hnn i0 h0 hlt).1 (hnn i0 h0 hlt).2 2200 (lyNt (lyNt (lyX (lyU Lc 1 (nb (31 + 1))) (nb (33 + 1))) 0) 1) (by omega) hLc.1 (by omega)) rfl rfl gw_X2_29 dsc_X2_errorOf hc11 rfl rfl rfl rfl hl.1 (Nat.le_of_ble_eq_true rfl) ⟨Nat.le_of_ble_eq_true rfl, Nat.le_of_ble_eq_true rfl⟩ ⟨Nat.le_of_ble_eq_true rfl, Nat.le_of_ble_eq_true rfl⟩ dX2_check_26 (fun H locs Y => ?_)
                                                  refine lv_istore_n (lv' := [(3, .int 0), (0, .ref (A 11)), (1, .ref lst), (2, .int (nI (i0 + 1)))]) hx hb dX2_check_29 rfl hl (by decide) rfl (fun ls hl => ?_)
                                                  refine lv_iload_n hx hb dX2_check_30 rfl (lv_at hl 0 rfl) ?_
                                                  refine lv_if_eq (tgt := 41) hx hb dX2_check_31 (by decide) (fun c31 => ?_) (fun c31 => absurd (by decide) c31)
                                                  refine lv_iinc (v := nI (i0 + 1 + 1)) (lv' := [(2, .int (nI (i0 + 1 + 1))), (3, .int 0), (0, .ref (A 11)), (1, .ref lst)]) hx hb dX2_check_41 hl (k := 3) rfl (nI_1 (i0 + 1)) (by decide) rfl (fun ls hl => ?_)
                                                  refine lv_goto (tgt := 12) hx hb dX2_check_44 (by decide) ?_
                                                  exact ih8 (i0 + 1) (by omega) (by omega) (by omega) _ _ _ Y (lv_sub hl [2, 3, 0] rfl)
                                                · obtain rfl : i0 = 50 := by omega
                                                  have hl : lv_has ls 4 [(0, .ref (A 11)), (1, .ref lst), (2, .int (nI 51))] := hl
                                                  refine lv_aload_n hx hb dX2_check_13 rfl (lv_at hl 0 rfl) ?_
                                                  refine h_get X Y (k := 0) (v := .ref (A 3)) hc11 rfl hin_X2 (by decide) kfl_X2_22 rfl dX2_check_14 ?_
                                                  refine h_get X Y (k := 4) (v := .int (nI (N + 1))) hTk.1 rfl hin_X9 (by decide) kfl_X2_26 rfl dX2_check_17 ?_
                                                  refine lv_icmp_ge (tgt := 47) hx hb dX2_check_20 (by decide) (fun c20 => ?_) (fun c20 => absurd (show ¬ (N + 1) ≤ 51 from fun z9 => c20 ((nI_leI (a := (N + 1)) (b := 51) (by omega) (by omega)).mpr z9)) (by omega))
                                                  have c20 : (N + 1) ≤ 51 := (nI_leI (a := (N + 1)) (b := 51) (by omega) (by omega)).mp c20
                                                  refine lv_iconst (v := 0) hx hb dX2_check_47 (by decide) ?_
                                                  exact h_iret X Y ⟨rfl, ⟨_, hc11, hc12⟩, hLa, hLb, hLc, hfr⟩ (Nat.le_of_ble_eq_true rfl) (Nat.le_of_ble_eq_true rfl) dX2_check_48
                                            exact loop8 12 39 (by omega) (by omega) (by omega) _ _ _ Y (lv_sub hl [2, 3, 0] rfl)
                                      exact loop7 2 37 (by omega) (by omega) (by omega) _ _ _ Y (lv_sub hl [2, 3, 0] rfl)
                                exact loop6 3 34 (by omega) (by omega) (by omega) _ _ _ Y (lv_sub hl [2, 3, 0] rfl)
                          exact loop5 2 32 (by omega) (by omega) (by omega) _ _ _ Y (lv_sub hl [2, 3, 0] rfl)
                    exact loop4 9 23 (by omega) (by omega) (by omega) _ _ _ Y (lv_sub hl [2, 3, 0] rfl)
              exact loop3 14 9 (by omega) (by omega) (by omega) _ _ _ Y (lv_sub hl [2, 3, 0] rfl)
        exact loop2 3 6 (by omega) (by omega) (by omega) _ _ _ Y (lv_sub hl [2, 3, 0] rfl)
  exact loop1 5 1 (by omega) (by omega) (by omega) _ _ _ Y (lv_sub hl [2, 3, 0] rfl)
set_option maxHeartbeats 4000000 in
set_option maxRecDepth 100000 in
theorem c_check10 (l : Launch) (G : hG) (M : hM) (A : Nat → Nat) (N : Nat) (sg : Nat → Nat) (nb : Nat → Int32) (wd : Nat → Int64) (hN : N < 400) (hTk : TkV G M A N sg nb wd) (hNv : N = 51) (hpat : ∀ j, j ≤ 51 → sg j = (fPat true false).getD j 0) (c0 : Int32) (wr : Int32) (g7 : Nat → Int64) (hc11 : M (A 11) = some (11, .inr (4, [.ref (A 3), .ref (A 12), .int c0, .int wr]))) (hc12 : M (A 12) = some (12, .inl (hT G 2, 8, .inr (.inl g7)))) (lst e0 qa qb qc : Nat) (La Lb Lc : hLy) (Fa Fb Fc : Nat → hFo) (hlO : LsO M lst 3013 e0 3) (hlE : LsE G M e0 3014 3 (gq qa qb qc)) (hLa : LaP G M qa 2000 La Fa) (hLb : LaP G M qb 2100 Lb Fb) (hLc : LaP G M qc 2200 Lc Fc) (hIc : lyI Lc = lyI0) (hw1 : wd 1 = 38) (hw2 : wd 9 = 76) (hw3 : wd 26 = 114) (hv1 : wd 23 = 38) (hv2 : wd 38 = 38) (hv3 : wd 40 = 76) (hx0 : ¬ nb 6 < 1) (hx1 : nb 6 ≤ 100) (hx2 : nb 35 ≤ 4)  : hCT l G yX2_check cX2_check 4 (Option.some FieldType.int) (hRm 6 0 0) M [.ref (A 11), .ref lst] (fun v M' => v = some (.int 0) ∧ (∃ f : Nat → Int64, M' (A 11) = some (11, .inr (4, [.ref (A 3), .ref (A 12), .int (nI 3), .int (-1)])) ∧ M' (A 12) = some (12, .inl (hT G 2, 8, .inr (.inl f)))) ∧ LaP G M' qa 2000 (lyU La 0 (nb (5 + 1))) Fa ∧ LaP G M' qb 2100 (lyNt Lb 0) Fb ∧ LaP G M' qc 2200 (lyNt (lyNt (lyU Lc 1 (nb (34 + 1))) 0) 1) Fc ∧ hFr (fun u => u = 11 ∨ u = 12 ∨ (2000 ≤ u ∧ u < 2300)) M M') := by
  refine hCT.of (own := RX2) (nm := "check") (by decide) rfl rfl (Nat.le_of_ble_eq_true rfl) ?_
  intro p e s m args below meth c ls X Y hl
  have hx := X.1
  have hb := X.2.1
  have hl : lv_has ls 4 [(0, .ref (A 11)), (1, .ref lst)] := hl
  have hs7 : ∀ i, i ≤ N → sg i < 37 := fun i hi => by rw [hpat i (by omega)]; exact fp_10_7 i (by omega)
  have hfr : hFr (fun u => u = 11 ∨ u = 12 ∨ (2000 ≤ u ∧ u < 2300)) M M := hFr.rf
  refine lv_aload_n hx hb dX2_check_0 rfl (lv_at hl 0 rfl) ?_
  refine lv_iconst (v := 0) hx hb dX2_check_1 (by decide) ?_
  refine h_put X Y (k := 2) (v := .int 0) hc11 rfl hin_X2 tyX2_ok nmX2 (by decide) kfl_X2_15 rfl rfl rfl (Nat.le_of_ble_eq_true rfl) dX2_check_2 (fun H locs Y => ?_)
  have Y : hHS G (hup M (A 11) (11, .inr (4, [.ref (A 3), .ref (A 12), .int 0, .int wr]))) s H locs := Y
  have hTk := hTk.fr (hFr.put (Z := fun u => u = 11) (x := (11, .inr (4, [.ref (A 3), .ref (A 12), .int 0, .int wr]))) hFr.rf hc11 rfl) (fun j z1 z2 z3 => by omega)
  have hc12 := hup_tag (x := (11, .inr (4, [.ref (A 3), .ref (A 12), .int 0, .int wr]))) hc12 hc11 (by omega)
  have hlO := hlO.fr (hFr.put (Z := fun u => u = 11) (x := (11, .inr (4, [.ref (A 3), .ref (A 12), .int 0, .int wr]))) hFr.rf hc11 rfl) (by omega)
  have hlE := hlE.fr (hFr.put (Z := fun u => u = 11) (x := (11, .inr (4, [.ref (A 3), .ref (A 12), .int 0, .int wr]))) hFr.rf hc11 rfl) (by omega)
  have hLa := hLa.fr (hFr.put (Z := fun u => u = 11) (x := (11, .inr (4, [.ref (A 3), .ref (A 12), .int 0, .int wr]))) hFr.rf hc11 rfl) (fun j hj => by omega)
  have hLb := hLb.fr (hFr.put (Z := fun u => u = 11) (x := (11, .inr (4, [.ref (A 3), .ref (A 12), .int 0, .int wr]))) hFr.rf hc11 rfl) (fun j hj => by omega)
  have hLc := hLc.fr (hFr.put (Z := fun u => u = 11) (x := (11, .inr (4, [.ref (A 3), .ref (A 12), .int 0, .int wr]))) hFr.rf hc11 rfl) (fun j hj => by omega)
  have hfr := hfr.put (x := (11, .inr (4, [.ref (A 3), .ref (A 12), .int 0, .int wr]))) hc11 (Or.inl rfl)
  have hc11 : hup M (A 11) (11, .inr (4, [.ref (A 3), .ref (A 12), .int 0, .int wr])) (A 11) = some (11, .inr (4, [.ref (A 3), .ref (A 12), .int 0, .int wr])) := hup_eq
  generalize hup M (A 11) (11, .inr (4, [.ref (A 3), .ref (A 12), .int 0, .int wr])) = Mz1 at Y hc11 hTk hc12 hlO hlE hLa hLb hLc hfr
  refine lv_aload_n hx hb dX2_check_5 rfl (lv_at hl 0 rfl) ?_
  refine lv_iconst (v := (-1)) hx hb dX2_check_6 (by decide) ?_
  refine h_put X Y (k := 3) (v := .int (-1)) hc11 rfl hin_X2 tyX2_ok nmX2 (by decide) kfl_X2_19 rfl rfl rfl (Nat.le_of_ble_eq_true rfl) dX2_check_7 (fun H locs Y => ?_)
  have Y : hHS G (hup Mz1 (A 11) (11, .inr (4, [.ref (A 3), .ref (A 12), .int 0, .int (-1)]))) s H locs := Y
  have hTk := hTk.fr (hFr.put (Z := fun u => u = 11) (x := (11, .inr (4, [.ref (A 3), .ref (A 12), .int 0, .int (-1)]))) hFr.rf hc11 rfl) (fun j z1 z2 z3 => by omega)
  have hc12 := hup_tag (x := (11, .inr (4, [.ref (A 3), .ref (A 12), .int 0, .int (-1)]))) hc12 hc11 (by omega)
  have hlO := hlO.fr (hFr.put (Z := fun u => u = 11) (x := (11, .inr (4, [.ref (A 3), .ref (A 12), .int 0, .int (-1)]))) hFr.rf hc11 rfl) (by omega)
  have hlE := hlE.fr (hFr.put (Z := fun u => u = 11) (x := (11, .inr (4, [.ref (A 3), .ref (A 12), .int 0, .int (-1)]))) hFr.rf hc11 rfl) (by omega)
  have hLa := hLa.fr (hFr.put (Z := fun u => u = 11) (x := (11, .inr (4, [.ref (A 3), .ref (A 12), .int 0, .int (-1)]))) hFr.rf hc11 rfl) (fun j hj => by omega)
  have hLb := hLb.fr (hFr.put (Z := fun u => u = 11) (x := (11, .inr (4, [.ref (A 3), .ref (A 12), .int 0, .int (-1)]))) hFr.rf hc11 rfl) (fun j hj => by omega)
  have hLc := hLc.fr (hFr.put (Z := fun u => u = 11) (x := (11, .inr (4, [.ref (A 3), .ref (A 12), .int 0, .int (-1)]))) hFr.rf hc11 rfl) (fun j hj => by omega)
  have hfr := hfr.put (x := (11, .inr (4, [.ref (A 3), .ref (A 12), .int 0, .int (-1)]))) hc11 (Or.inl rfl)
  have hc11 : hup Mz1 (A 11) (11, .inr (4, [.ref (A 3), .ref (A 12), .int 0, .int (-1)])) (A 11) = some (11, .inr (4, [.ref (A 3), .ref (A 12), .int 0, .int (-1)])) := hup_eq
  generalize hup Mz1 (A 11) (11, .inr (4, [.ref (A 3), .ref (A 12), .int 0, .int (-1)])) = Mz2 at Y hc11 hTk hc12 hlO hlE hLa hLb hLc hfr
  have hc11 : Mz2 (A 11) = some (11, .inr (4, [.ref (A 3), .ref (A 12), .int (nI 0), .int (-1)])) := hc11
  refine lv_iconst (v := 1) hx hb dX2_check_10 (by decide) ?_
  refine lv_istore_n (lv' := [(2, .int 1), (0, .ref (A 11)), (1, .ref lst)]) hx hb dX2_check_11 rfl hl (by decide) rfl (fun ls hl => ?_)
  refine lv_iload_n hx hb dX2_check_12 rfl (lv_at hl 0 rfl) ?_
  refine lv_aload_n hx hb dX2_check_13 rfl (lv_at hl 1 rfl) ?_
  refine h_get X Y (k := 0) (v := .ref (A 3)) hc11 rfl hin_X2 (by decide) kfl_X2_22 rfl dX2_check_14 ?_
  refine h_get X Y (k := 4) (v := .int (nI (N + 1))) hTk.1 rfl hin_X9 (by decide) kfl_X2_26 rfl dX2_check_17 ?_
  refine lv_icmp_ge (tgt := 47) hx hb dX2_check_20 (by decide) (fun c20 => absurd (show (N + 1) ≤ 1 from (nI_leI (a := (N + 1)) (b := 1) (by omega) (by omega)).mp c20) (by omega)) (fun c20 => ?_)
  have c20 : ¬ (N + 1) ≤ 1 := fun z9 => c20 ((nI_leI (a := (N + 1)) (b := 1) (by omega) (by omega)).mpr z9)
  refine lv_aload_n hx hb dX2_check_23 rfl (lv_at hl 1 rfl) ?_
  refine lv_iload_n hx hb dX2_check_24 rfl (lv_at hl 0 rfl) ?_
  refine lv_aload_n hx hb dX2_check_25 rfl (lv_at hl 2 rfl) ?_
  have kq0 : sg 0 = 0 := hpat 0 (by omega)
  have kq1 : sg (0 + 1) = 33 := hpat 1 (by omega)
  refine h_callV (rest := []) X Y (c_errName l G Mz2 A N sg nb wd hN hTk hs7 0 (-1) g7 hc11 hc12 lst e0 (gq qa qb qc) hlO hlE 0 (by omega) kq0 kq1 (by omega) (fun j hj => absurd hj (by omega))) gw_X2_29 dsc_X2_errorOf hc11 rfl rfl rfl hl.1 rfl (Nat.le_of_ble_eq_true rfl) ⟨Nat.le_of_ble_eq_true rfl, Nat.le_of_ble_eq_true rfl⟩ ⟨Nat.le_of_ble_eq_true rfl, Nat.le_of_ble_eq_true rfl⟩ dX2_check_26 ?_
  rintro _ Mz3 H locs ⟨rfl, hc11, hc12, hfa⟩ Y
  have hTk := hTk.fr hfa (fun j z1 z2 z3 => by omega)
  have hlO := hlO.fr hfa (by omega)
  have hlE := hlE.fr hfa (by omega)
  have hLa := hLa.fr hfa (fun j hj => by omega)
  have hLb := hLb.fr hfa (fun j hj => by omega)
  have hLc := hLc.fr hfa (fun j hj => by omega)
  have hfr := hFr.tr hfr (hfa.mono (fun u z => by omega))
  have hf1_0 : (vp_updL g7 0 (wd (0 + 1))) 0 = 38 := pk_uLs.trans hw1
  try dsimp only [Option.toList, List.singleton_append]
  refine lv_istore_n (lv' := [(3, .int 0), (2, .int 1), (0, .ref (A 11)), (1, .ref lst)]) hx hb dX2_check_29 rfl hl (by decide) rfl (fun ls hl => ?_)
  refine lv_iload_n hx hb dX2_check_30 rfl (lv_at hl 0 rfl) ?_
  refine lv_if_eq (tgt := 41) hx hb dX2_check_31 (by decide) (fun c31 => ?_) (fun c31 => absurd (by decide) c31)
  refine lv_iinc (v := nI 2) (lv' := [(2, .int (nI 2)), (3, .int 0), (0, .ref (A 11)), (1, .ref lst)]) hx hb dX2_check_41 hl (k := 1) rfl (by decide) (by decide) rfl (fun ls hl => ?_)
  refine lv_goto (tgt := 12) hx hb dX2_check_44 (by decide) ?_
  have hl : lv_has ls 4 [(2, .int (nI (1 + 1))), (3, .int 0), (0, .ref (A 11)), (1, .ref lst)] := hl
  have hnn : ∀ i0, 1 ≤ i0 → i0 + 1 < 6 → (sg i0 ≠ 2 ∧ sg i0 ≠ 5 ∧ sg i0 ≠ 6) ∧ sg (i0 + 1) ≠ 33 := by
    intro i0 z1 z2
    rw [hpat i0 (by omega), hpat (i0 + 1) (by omega)]
    have hd : ∀ i0, i0 < 5 → 1 ≤ i0 → ((fPat true false).getD i0 0 ≠ 2 ∧ (fPat true false).getD i0 0 ≠ 5 ∧ (fPat true false).getD i0 0 ≠ 6) ∧ (fPat true false).getD (i0 + 1) 0 ≠ 33 := by decide
    exact hd i0 (by omega) z1
  have loop1 : ∀ (d i0 : Nat), i0 + 1 + d = 7 → 1 ≤ i0 → i0 + 1 ≤ 6 → ∀ (H : Heap) (locs : List Loc) (ls : Array Slot), hHS G Mz3 s H locs → lv_has ls 4 [(0, .ref (A 11)), (1, .ref lst), (2, .int (nI (i0 + 1)))] → W p l e (hRm 6 0 0) s m args below meth c H locs 0 0 (MQ below (hQ G (fun v M' => v = some (.int 0) ∧ (∃ f : Nat → Int64, M' (A 11) = some (11, .inr (4, [.ref (A 3), .ref (A 12), .int (nI 3), .int (-1)])) ∧ M' (A 12) = some (12, .inl (hT G 2, 8, .inr (.inl f)))) ∧ LaP G M' qa 2000 (lyU La 0 (nb (5 + 1))) Fa ∧ LaP G M' qb 2100 (lyNt Lb 0) Fb ∧ LaP G M' qc 2200 (lyNt (lyNt (lyU Lc 1 (nb (34 + 1))) 0) 1) Fc ∧ hFr (fun u => u = 11 ∨ u = 12 ∨ (2000 ≤ u ∧ u < 2300)) M M')) args s 0 0 (hA G)) (F0 m 12 ls []) := by
    intro d
    induction d with
    | zero => intro i0 h1; intros; exact absurd h1 (by omega)
    | succ d ih1 =>
      intro i0 h1 h0 h2 H locs ls Y hl
      refine lv_iload_n hx hb dX2_check_12 rfl (lv_at hl 2 rfl) ?_
      rcases Nat.lt_or_ge (i0 + 1) 6 with hlt | hge
      · refine lv_aload_n hx hb dX2_check_13 rfl (lv_at hl 0 rfl) ?_
        refine h_get X Y (k := 0) (v := .ref (A 3)) hc11 rfl hin_X2 (by decide) kfl_X2_22 rfl dX2_check_14 ?_
        refine h_get X Y (k := 4) (v := .int (nI (N + 1))) hTk.1 rfl hin_X9 (by decide) kfl_X2_26 rfl dX2_check_17 ?_
        refine lv_icmp_ge (tgt := 47) hx hb dX2_check_20 (by decide) (fun c20 => absurd (show (N + 1) ≤ (i0 + 1) from (nI_leI (a := (N + 1)) (b := (i0 + 1)) (by omega) (by omega)).mp c20) (by omega)) (fun c20 => ?_)
        have c20 : ¬ (N + 1) ≤ (i0 + 1) := fun z9 => c20 ((nI_leI (a := (N + 1)) (b := (i0 + 1)) (by omega) (by omega)).mpr z9)
        refine lv_aload_n hx hb dX2_check_23 rfl (lv_at hl 0 rfl) ?_
        refine lv_iload_n hx hb dX2_check_24 rfl (lv_at hl 2 rfl) ?_
        refine lv_aload_n hx hb dX2_check_25 rfl (lv_at hl 1 rfl) ?_
        refine h_callVr (rest := []) X Y (c_errNone l G Mz3 A N sg nb wd hN hTk hs7 0 (-1) (vp_updL g7 0 (wd (0 + 1))) hc11 hc12 lst e0 (gq qa qb qc) hlO hlE i0 (by omega) (hnn i0 h0 hlt).1 (hnn i0 h0 hlt).2 2000 La (by omega) hLa.1 (by omega)) rfl rfl gw_X2_29 dsc_X2_errorOf hc11 rfl rfl rfl rfl hl.1 (Nat.le_of_ble_eq_true rfl) ⟨Nat.le_of_ble_eq_true rfl, Nat.le_of_ble_eq_true rfl⟩ ⟨Nat.le_of_ble_eq_true rfl, Nat.le_of_ble_eq_true rfl⟩ dX2_check_26 (fun H locs Y => ?_)
        refine lv_istore_n (lv' := [(3, .int 0), (0, .ref (A 11)), (1, .ref lst), (2, .int (nI (i0 + 1)))]) hx hb dX2_check_29 rfl hl (by decide) rfl (fun ls hl => ?_)
        refine lv_iload_n hx hb dX2_check_30 rfl (lv_at hl 0 rfl) ?_
        refine lv_if_eq (tgt := 41) hx hb dX2_check_31 (by decide) (fun c31 => ?_) (fun c31 => absurd (by decide) c31)
        refine lv_iinc (v := nI (i0 + 1 + 1)) (lv' := [(2, .int (nI (i0 + 1 + 1))), (3, .int 0), (0, .ref (A 11)), (1, .ref lst)]) hx hb dX2_check_41 hl (k := 3) rfl (nI_1 (i0 + 1)) (by decide) rfl (fun ls hl => ?_)
        refine lv_goto (tgt := 12) hx hb dX2_check_44 (by decide) ?_
        exact ih1 (i0 + 1) (by omega) (by omega) (by omega) _ _ _ Y (lv_sub hl [2, 3, 0] rfl)
      · obtain rfl : i0 = 5 := by omega
        have hl : lv_has ls 4 [(0, .ref (A 11)), (1, .ref lst), (2, .int (nI 6))] := hl
        refine lv_aload_n hx hb dX2_check_13 rfl (lv_at hl 0 rfl) ?_
        refine h_get X Y (k := 0) (v := .ref (A 3)) hc11 rfl hin_X2 (by decide) kfl_X2_22 rfl dX2_check_14 ?_
        refine h_get X Y (k := 4) (v := .int (nI (N + 1))) hTk.1 rfl hin_X9 (by decide) kfl_X2_26 rfl dX2_check_17 ?_
        refine lv_icmp_ge (tgt := 47) hx hb dX2_check_20 (by decide) (fun c20 => absurd (show (N + 1) ≤ 6 from (nI_leI (a := (N + 1)) (b := 6) (by omega) (by omega)).mp c20) (by omega)) (fun c20 => ?_)
        have c20 : ¬ (N + 1) ≤ 6 := fun z9 => c20 ((nI_leI (a := (N + 1)) (b := 6) (by omega) (by omega)).mpr z9)
        refine lv_aload_n hx hb dX2_check_23 rfl (lv_at hl 0 rfl) ?_
        refine lv_iload_n hx hb dX2_check_24 rfl (lv_at hl 2 rfl) ?_
        refine lv_aload_n hx hb dX2_check_25 rfl (lv_at hl 1 rfl) ?_
        have kq5 : sg 5 = 2 := hpat 5 (by omega)
        have kq6 : sg (5 + 1) = 34 := hpat 6 (by omega)
        refine h_callV (rest := []) X Y (c_errShare l G Mz3 A N sg nb wd hN hTk hs7 0 (-1) (vp_updL g7 0 (wd (0 + 1))) hc11 hc12 lst e0 (gq qa qb qc) hlO hlE 5 (by omega) kq5 (by omega) 2000 La (by omega) hLa.1 (by omega) hx0 hx1) gw_X2_29 dsc_X2_errorOf hc11 rfl rfl rfl hl.1 rfl (Nat.le_of_ble_eq_true rfl) ⟨Nat.le_of_ble_eq_true rfl, Nat.le_of_ble_eq_true rfl⟩ ⟨Nat.le_of_ble_eq_true rfl, Nat.le_of_ble_eq_true rfl⟩ dX2_check_26 ?_
        rintro _ Mz4 H locs ⟨rfl, hLy, hfa⟩ Y
        have hLa := hLa.upd hLy rfl rfl hfa
        have hTk := hTk.fr hfa (fun j z1 z2 z3 => by omega)
        have hlO := hlO.fr hfa (by omega)
        have hlE := hlE.fr hfa (by omega)
        have hLb := hLb.fr hfa (fun j hj => by omega)
        have hLc := hLc.fr hfa (fun j hj => by omega)
        have hc11 := hfa _ _ _ hc11 (by omega)
        have hc12 := hfa _ _ _ hc12 (by omega)
        have hfr := hFr.tr hfr (hfa.mono (fun u z => by omega))
        try dsimp only [Option.toList, List.singleton_append]
        refine lv_istore_n (lv' := [(3, .int 0), (0, .ref (A 11)), (1, .ref lst), (2, .int (nI 6))]) hx hb dX2_check_29 rfl hl (by decide) rfl (fun ls hl => ?_)
        refine lv_iload_n hx hb dX2_check_30 rfl (lv_at hl 0 rfl) ?_
        refine lv_if_eq (tgt := 41) hx hb dX2_check_31 (by decide) (fun c31 => ?_) (fun c31 => absurd (by decide) c31)
        refine lv_iinc (v := nI 7) (lv' := [(2, .int (nI 7)), (3, .int 0), (0, .ref (A 11)), (1, .ref lst)]) hx hb dX2_check_41 hl (k := 3) rfl (by decide) (by decide) rfl (fun ls hl => ?_)
        refine lv_goto (tgt := 12) hx hb dX2_check_44 (by decide) ?_
        have hl : lv_has ls 4 [(2, .int (nI (6 + 1))), (3, .int 0), (0, .ref (A 11)), (1, .ref lst)] := hl
        have hnn : ∀ i0, 6 ≤ i0 → i0 + 1 < 9 → (sg i0 ≠ 2 ∧ sg i0 ≠ 5 ∧ sg i0 ≠ 6) ∧ sg (i0 + 1) ≠ 33 := by
          intro i0 z1 z2
          rw [hpat i0 (by omega), hpat (i0 + 1) (by omega)]
          have hd : ∀ i0, i0 < 8 → 6 ≤ i0 → ((fPat true false).getD i0 0 ≠ 2 ∧ (fPat true false).getD i0 0 ≠ 5 ∧ (fPat true false).getD i0 0 ≠ 6) ∧ (fPat true false).getD (i0 + 1) 0 ≠ 33 := by decide
          exact hd i0 (by omega) z1
        have loop2 : ∀ (d i0 : Nat), i0 + 1 + d = 10 → 6 ≤ i0 → i0 + 1 ≤ 9 → ∀ (H : Heap) (locs : List Loc) (ls : Array Slot), hHS G Mz4 s H locs → lv_has ls 4 [(0, .ref (A 11)), (1, .ref lst), (2, .int (nI (i0 + 1)))] → W p l e (hRm 6 0 0) s m args below meth c H locs 0 0 (MQ below (hQ G (fun v M' => v = some (.int 0) ∧ (∃ f : Nat → Int64, M' (A 11) = some (11, .inr (4, [.ref (A 3), .ref (A 12), .int (nI 3), .int (-1)])) ∧ M' (A 12) = some (12, .inl (hT G 2, 8, .inr (.inl f)))) ∧ LaP G M' qa 2000 (lyU La 0 (nb (5 + 1))) Fa ∧ LaP G M' qb 2100 (lyNt Lb 0) Fb ∧ LaP G M' qc 2200 (lyNt (lyNt (lyU Lc 1 (nb (34 + 1))) 0) 1) Fc ∧ hFr (fun u => u = 11 ∨ u = 12 ∨ (2000 ≤ u ∧ u < 2300)) M M')) args s 0 0 (hA G)) (F0 m 12 ls []) := by
          intro d
          induction d with
          | zero => intro i0 h1; intros; exact absurd h1 (by omega)
          | succ d ih2 =>
            intro i0 h1 h0 h2 H locs ls Y hl
            refine lv_iload_n hx hb dX2_check_12 rfl (lv_at hl 2 rfl) ?_
            rcases Nat.lt_or_ge (i0 + 1) 9 with hlt | hge
            · refine lv_aload_n hx hb dX2_check_13 rfl (lv_at hl 0 rfl) ?_
              refine h_get X Y (k := 0) (v := .ref (A 3)) hc11 rfl hin_X2 (by decide) kfl_X2_22 rfl dX2_check_14 ?_
              refine h_get X Y (k := 4) (v := .int (nI (N + 1))) hTk.1 rfl hin_X9 (by decide) kfl_X2_26 rfl dX2_check_17 ?_
              refine lv_icmp_ge (tgt := 47) hx hb dX2_check_20 (by decide) (fun c20 => absurd (show (N + 1) ≤ (i0 + 1) from (nI_leI (a := (N + 1)) (b := (i0 + 1)) (by omega) (by omega)).mp c20) (by omega)) (fun c20 => ?_)
              have c20 : ¬ (N + 1) ≤ (i0 + 1) := fun z9 => c20 ((nI_leI (a := (N + 1)) (b := (i0 + 1)) (by omega) (by omega)).mpr z9)
              refine lv_aload_n hx hb dX2_check_23 rfl (lv_at hl 0 rfl) ?_
              refine lv_iload_n hx hb dX2_check_24 rfl (lv_at hl 2 rfl) ?_
              refine lv_aload_n hx hb dX2_check_25 rfl (lv_at hl 1 rfl) ?_
              refine h_callVr (rest := []) X Y (c_errNone l G Mz4 A N sg nb wd hN hTk hs7 0 (-1) (vp_updL g7 0 (wd (0 + 1))) hc11 hc12 lst e0 (gq qa qb qc) hlO hlE i0 (by omega) (hnn i0 h0 hlt).1 (hnn i0 h0 hlt).2 2000 (lyU La 0 (nb (5 + 1))) (by omega) hLa.1 (by omega)) rfl rfl gw_X2_29 dsc_X2_errorOf hc11 rfl rfl rfl rfl hl.1 (Nat.le_of_ble_eq_true rfl) ⟨Nat.le_of_ble_eq_true rfl, Nat.le_of_ble_eq_true rfl⟩ ⟨Nat.le_of_ble_eq_true rfl, Nat.le_of_ble_eq_true rfl⟩ dX2_check_26 (fun H locs Y => ?_)
              refine lv_istore_n (lv' := [(3, .int 0), (0, .ref (A 11)), (1, .ref lst), (2, .int (nI (i0 + 1)))]) hx hb dX2_check_29 rfl hl (by decide) rfl (fun ls hl => ?_)
              refine lv_iload_n hx hb dX2_check_30 rfl (lv_at hl 0 rfl) ?_
              refine lv_if_eq (tgt := 41) hx hb dX2_check_31 (by decide) (fun c31 => ?_) (fun c31 => absurd (by decide) c31)
              refine lv_iinc (v := nI (i0 + 1 + 1)) (lv' := [(2, .int (nI (i0 + 1 + 1))), (3, .int 0), (0, .ref (A 11)), (1, .ref lst)]) hx hb dX2_check_41 hl (k := 3) rfl (nI_1 (i0 + 1)) (by decide) rfl (fun ls hl => ?_)
              refine lv_goto (tgt := 12) hx hb dX2_check_44 (by decide) ?_
              exact ih2 (i0 + 1) (by omega) (by omega) (by omega) _ _ _ Y (lv_sub hl [2, 3, 0] rfl)
            · obtain rfl : i0 = 8 := by omega
              have hl : lv_has ls 4 [(0, .ref (A 11)), (1, .ref lst), (2, .int (nI 9))] := hl
              refine lv_aload_n hx hb dX2_check_13 rfl (lv_at hl 0 rfl) ?_
              refine h_get X Y (k := 0) (v := .ref (A 3)) hc11 rfl hin_X2 (by decide) kfl_X2_22 rfl dX2_check_14 ?_
              refine h_get X Y (k := 4) (v := .int (nI (N + 1))) hTk.1 rfl hin_X9 (by decide) kfl_X2_26 rfl dX2_check_17 ?_
              refine lv_icmp_ge (tgt := 47) hx hb dX2_check_20 (by decide) (fun c20 => absurd (show (N + 1) ≤ 9 from (nI_leI (a := (N + 1)) (b := 9) (by omega) (by omega)).mp c20) (by omega)) (fun c20 => ?_)
              have c20 : ¬ (N + 1) ≤ 9 := fun z9 => c20 ((nI_leI (a := (N + 1)) (b := 9) (by omega) (by omega)).mpr z9)
              refine lv_aload_n hx hb dX2_check_23 rfl (lv_at hl 0 rfl) ?_
              refine lv_iload_n hx hb dX2_check_24 rfl (lv_at hl 2 rfl) ?_
              refine lv_aload_n hx hb dX2_check_25 rfl (lv_at hl 1 rfl) ?_
              have kq8 : sg 8 = 0 := hpat 8 (by omega)
              have kq9 : sg (8 + 1) = 33 := hpat 9 (by omega)
              refine h_callV (rest := []) X Y (c_errName l G Mz4 A N sg nb wd hN hTk hs7 1 (-1) (vp_updL g7 0 (wd (0 + 1))) hc11 hc12 lst e0 (gq qa qb qc) hlO hlE 8 (by omega) kq8 kq9 (by omega) (fun j hj => by rcases (show j = 0 by omega) with rfl; rw [hf1_0, show wd (8 + 1) = 76 from hw2]; decide)) gw_X2_29 dsc_X2_errorOf hc11 rfl rfl rfl hl.1 rfl (Nat.le_of_ble_eq_true rfl) ⟨Nat.le_of_ble_eq_true rfl, Nat.le_of_ble_eq_true rfl⟩ ⟨Nat.le_of_ble_eq_true rfl, Nat.le_of_ble_eq_true rfl⟩ dX2_check_26 ?_
              rintro _ Mz5 H locs ⟨rfl, hc11, hc12, hfa⟩ Y
              have hTk := hTk.fr hfa (fun j z1 z2 z3 => by omega)
              have hlO := hlO.fr hfa (by omega)
              have hlE := hlE.fr hfa (by omega)
              have hLa := hLa.fr hfa (fun j hj => by omega)
              have hLb := hLb.fr hfa (fun j hj => by omega)
              have hLc := hLc.fr hfa (fun j hj => by omega)
              have hfr := hFr.tr hfr (hfa.mono (fun u z => by omega))
              have hf2_0 : (vp_updL (vp_updL g7 0 (wd (0 + 1))) 1 (wd (8 + 1))) 0 = 38 := (pk_uLn (by omega)).trans hf1_0
              have hf2_1 : (vp_updL (vp_updL g7 0 (wd (0 + 1))) 1 (wd (8 + 1))) 1 = 76 := pk_uLs.trans hw2
              try dsimp only [Option.toList, List.singleton_append]
              refine lv_istore_n (lv' := [(3, .int 0), (0, .ref (A 11)), (1, .ref lst), (2, .int (nI 9))]) hx hb dX2_check_29 rfl hl (by decide) rfl (fun ls hl => ?_)
              refine lv_iload_n hx hb dX2_check_30 rfl (lv_at hl 0 rfl) ?_
              refine lv_if_eq (tgt := 41) hx hb dX2_check_31 (by decide) (fun c31 => ?_) (fun c31 => absurd (by decide) c31)
              refine lv_iinc (v := nI 10) (lv' := [(2, .int (nI 10)), (3, .int 0), (0, .ref (A 11)), (1, .ref lst)]) hx hb dX2_check_41 hl (k := 3) rfl (by decide) (by decide) rfl (fun ls hl => ?_)
              refine lv_goto (tgt := 12) hx hb dX2_check_44 (by decide) ?_
              have hl : lv_has ls 4 [(2, .int (nI (9 + 1))), (3, .int 0), (0, .ref (A 11)), (1, .ref lst)] := hl
              have hnn : ∀ i0, 9 ≤ i0 → i0 + 1 < 23 → (sg i0 ≠ 2 ∧ sg i0 ≠ 5 ∧ sg i0 ≠ 6) ∧ sg (i0 + 1) ≠ 33 := by
                intro i0 z1 z2
                rw [hpat i0 (by omega), hpat (i0 + 1) (by omega)]
                have hd : ∀ i0, i0 < 22 → 9 ≤ i0 → ((fPat true false).getD i0 0 ≠ 2 ∧ (fPat true false).getD i0 0 ≠ 5 ∧ (fPat true false).getD i0 0 ≠ 6) ∧ (fPat true false).getD (i0 + 1) 0 ≠ 33 := by decide
                exact hd i0 (by omega) z1
              have loop3 : ∀ (d i0 : Nat), i0 + 1 + d = 24 → 9 ≤ i0 → i0 + 1 ≤ 23 → ∀ (H : Heap) (locs : List Loc) (ls : Array Slot), hHS G Mz5 s H locs → lv_has ls 4 [(0, .ref (A 11)), (1, .ref lst), (2, .int (nI (i0 + 1)))] → W p l e (hRm 6 0 0) s m args below meth c H locs 0 0 (MQ below (hQ G (fun v M' => v = some (.int 0) ∧ (∃ f : Nat → Int64, M' (A 11) = some (11, .inr (4, [.ref (A 3), .ref (A 12), .int (nI 3), .int (-1)])) ∧ M' (A 12) = some (12, .inl (hT G 2, 8, .inr (.inl f)))) ∧ LaP G M' qa 2000 (lyU La 0 (nb (5 + 1))) Fa ∧ LaP G M' qb 2100 (lyNt Lb 0) Fb ∧ LaP G M' qc 2200 (lyNt (lyNt (lyU Lc 1 (nb (34 + 1))) 0) 1) Fc ∧ hFr (fun u => u = 11 ∨ u = 12 ∨ (2000 ≤ u ∧ u < 2300)) M M')) args s 0 0 (hA G)) (F0 m 12 ls []) := by
                intro d
                induction d with
                | zero => intro i0 h1; intros; exact absurd h1 (by omega)
                | succ d ih3 =>
                  intro i0 h1 h0 h2 H locs ls Y hl
                  refine lv_iload_n hx hb dX2_check_12 rfl (lv_at hl 2 rfl) ?_
                  rcases Nat.lt_or_ge (i0 + 1) 23 with hlt | hge
                  · refine lv_aload_n hx hb dX2_check_13 rfl (lv_at hl 0 rfl) ?_
                    refine h_get X Y (k := 0) (v := .ref (A 3)) hc11 rfl hin_X2 (by decide) kfl_X2_22 rfl dX2_check_14 ?_
                    refine h_get X Y (k := 4) (v := .int (nI (N + 1))) hTk.1 rfl hin_X9 (by decide) kfl_X2_26 rfl dX2_check_17 ?_
                    refine lv_icmp_ge (tgt := 47) hx hb dX2_check_20 (by decide) (fun c20 => absurd (show (N + 1) ≤ (i0 + 1) from (nI_leI (a := (N + 1)) (b := (i0 + 1)) (by omega) (by omega)).mp c20) (by omega)) (fun c20 => ?_)
                    have c20 : ¬ (N + 1) ≤ (i0 + 1) := fun z9 => c20 ((nI_leI (a := (N + 1)) (b := (i0 + 1)) (by omega) (by omega)).mpr z9)
                    refine lv_aload_n hx hb dX2_check_23 rfl (lv_at hl 0 rfl) ?_
                    refine lv_iload_n hx hb dX2_check_24 rfl (lv_at hl 2 rfl) ?_
                    refine lv_aload_n hx hb dX2_check_25 rfl (lv_at hl 1 rfl) ?_
                    refine h_callVr (rest := []) X Y (c_errNone l G Mz5 A N sg nb wd hN hTk hs7 1 (-1) (vp_updL (vp_updL g7 0 (wd (0 + 1))) 1 (wd (8 + 1))) hc11 hc12 lst e0 (gq qa qb qc) hlO hlE i0 (by omega) (hnn i0 h0 hlt).1 (hnn i0 h0 hlt).2 2100 Lb (by omega) hLb.1 (by omega)) rfl rfl gw_X2_29 dsc_X2_errorOf hc11 rfl rfl rfl rfl hl.1 (Nat.le_of_ble_eq_true rfl) ⟨Nat.le_of_ble_eq_true rfl, Nat.le_of_ble_eq_true rfl⟩ ⟨Nat.le_of_ble_eq_true rfl, Nat.le_of_ble_eq_true rfl⟩ dX2_check_26 (fun H locs Y => ?_)
                    refine lv_istore_n (lv' := [(3, .int 0), (0, .ref (A 11)), (1, .ref lst), (2, .int (nI (i0 + 1)))]) hx hb dX2_check_29 rfl hl (by decide) rfl (fun ls hl => ?_)
                    refine lv_iload_n hx hb dX2_check_30 rfl (lv_at hl 0 rfl) ?_
                    refine lv_if_eq (tgt := 41) hx hb dX2_check_31 (by decide) (fun c31 => ?_) (fun c31 => absurd (by decide) c31)
                    refine lv_iinc (v := nI (i0 + 1 + 1)) (lv' := [(2, .int (nI (i0 + 1 + 1))), (3, .int 0), (0, .ref (A 11)), (1, .ref lst)]) hx hb dX2_check_41 hl (k := 3) rfl (nI_1 (i0 + 1)) (by decide) rfl (fun ls hl => ?_)
                    refine lv_goto (tgt := 12) hx hb dX2_check_44 (by decide) ?_
                    exact ih3 (i0 + 1) (by omega) (by omega) (by omega) _ _ _ Y (lv_sub hl [2, 3, 0] rfl)
                  · obtain rfl : i0 = 22 := by omega
                    have hl : lv_has ls 4 [(0, .ref (A 11)), (1, .ref lst), (2, .int (nI 23))] := hl
                    refine lv_aload_n hx hb dX2_check_13 rfl (lv_at hl 0 rfl) ?_
                    refine h_get X Y (k := 0) (v := .ref (A 3)) hc11 rfl hin_X2 (by decide) kfl_X2_22 rfl dX2_check_14 ?_
                    refine h_get X Y (k := 4) (v := .int (nI (N + 1))) hTk.1 rfl hin_X9 (by decide) kfl_X2_26 rfl dX2_check_17 ?_
                    refine lv_icmp_ge (tgt := 47) hx hb dX2_check_20 (by decide) (fun c20 => absurd (show (N + 1) ≤ 23 from (nI_leI (a := (N + 1)) (b := 23) (by omega) (by omega)).mp c20) (by omega)) (fun c20 => ?_)
                    have c20 : ¬ (N + 1) ≤ 23 := fun z9 => c20 ((nI_leI (a := (N + 1)) (b := 23) (by omega) (by omega)).mpr z9)
                    refine lv_aload_n hx hb dX2_check_23 rfl (lv_at hl 0 rfl) ?_
                    refine lv_iload_n hx hb dX2_check_24 rfl (lv_at hl 2 rfl) ?_
                    refine lv_aload_n hx hb dX2_check_25 rfl (lv_at hl 1 rfl) ?_
                    have kq22 : sg 22 = 8 := hpat 22 (by omega)
                    have kq23 : sg (22 + 1) = 33 := hpat 23 (by omega)
                    refine h_callV (rest := []) X Y (c_errNet l G Mz5 A N sg nb wd hN hTk hs7 1 (-1) (vp_updL (vp_updL g7 0 (wd (0 + 1))) 1 (wd (8 + 1))) hc11 hc12 lst e0 (gq qa qb qc) hlO hlE 22 (by omega) (by omega) kq23 2100 Lb (by omega) hLb.1 (by omega) 0 (by omega) (hf2_0.trans (show wd (22 + 1) = 38 from hv1).symm) (fun j hj => absurd hj (by omega))) gw_X2_29 dsc_X2_errorOf hc11 rfl rfl rfl hl.1 rfl (Nat.le_of_ble_eq_true rfl) ⟨Nat.le_of_ble_eq_true rfl, Nat.le_of_ble_eq_true rfl⟩ ⟨Nat.le_of_ble_eq_true rfl, Nat.le_of_ble_eq_true rfl⟩ dX2_check_26 ?_
                    rintro _ Mz6 H locs ⟨rfl, hLy, hfa⟩ Y
                    have hLb := hLb.upd hLy rfl rfl hfa
                    have hTk := hTk.fr hfa (fun j z1 z2 z3 => by omega)
                    have hlO := hlO.fr hfa (by omega)
                    have hlE := hlE.fr hfa (by omega)
                    have hLa := hLa.fr hfa (fun j hj => by omega)
                    have hLc := hLc.fr hfa (fun j hj => by omega)
                    have hc11 := hfa _ _ _ hc11 (by omega)
                    have hc12 := hfa _ _ _ hc12 (by omega)
                    have hfr := hFr.tr hfr (hfa.mono (fun u z => by omega))
                    try dsimp only [Option.toList, List.singleton_append]
                    refine lv_istore_n (lv' := [(3, .int 0), (0, .ref (A 11)), (1, .ref lst), (2, .int (nI 23))]) hx hb dX2_check_29 rfl hl (by decide) rfl (fun ls hl => ?_)
                    refine lv_iload_n hx hb dX2_check_30 rfl (lv_at hl 0 rfl) ?_
                    refine lv_if_eq (tgt := 41) hx hb dX2_check_31 (by decide) (fun c31 => ?_) (fun c31 => absurd (by decide) c31)
                    refine lv_iinc (v := nI 24) (lv' := [(2, .int (nI 24)), (3, .int 0), (0, .ref (A 11)), (1, .ref lst)]) hx hb dX2_check_41 hl (k := 3) rfl (by decide) (by decide) rfl (fun ls hl => ?_)
                    refine lv_goto (tgt := 12) hx hb dX2_check_44 (by decide) ?_
                    have hl : lv_has ls 4 [(2, .int (nI (23 + 1))), (3, .int 0), (0, .ref (A 11)), (1, .ref lst)] := hl
                    have hnn : ∀ i0, 23 ≤ i0 → i0 + 1 < 26 → (sg i0 ≠ 2 ∧ sg i0 ≠ 5 ∧ sg i0 ≠ 6) ∧ sg (i0 + 1) ≠ 33 := by
                      intro i0 z1 z2
                      rw [hpat i0 (by omega), hpat (i0 + 1) (by omega)]
                      have hd : ∀ i0, i0 < 25 → 23 ≤ i0 → ((fPat true false).getD i0 0 ≠ 2 ∧ (fPat true false).getD i0 0 ≠ 5 ∧ (fPat true false).getD i0 0 ≠ 6) ∧ (fPat true false).getD (i0 + 1) 0 ≠ 33 := by decide
                      exact hd i0 (by omega) z1
                    have loop4 : ∀ (d i0 : Nat), i0 + 1 + d = 27 → 23 ≤ i0 → i0 + 1 ≤ 26 → ∀ (H : Heap) (locs : List Loc) (ls : Array Slot), hHS G Mz6 s H locs → lv_has ls 4 [(0, .ref (A 11)), (1, .ref lst), (2, .int (nI (i0 + 1)))] → W p l e (hRm 6 0 0) s m args below meth c H locs 0 0 (MQ below (hQ G (fun v M' => v = some (.int 0) ∧ (∃ f : Nat → Int64, M' (A 11) = some (11, .inr (4, [.ref (A 3), .ref (A 12), .int (nI 3), .int (-1)])) ∧ M' (A 12) = some (12, .inl (hT G 2, 8, .inr (.inl f)))) ∧ LaP G M' qa 2000 (lyU La 0 (nb (5 + 1))) Fa ∧ LaP G M' qb 2100 (lyNt Lb 0) Fb ∧ LaP G M' qc 2200 (lyNt (lyNt (lyU Lc 1 (nb (34 + 1))) 0) 1) Fc ∧ hFr (fun u => u = 11 ∨ u = 12 ∨ (2000 ≤ u ∧ u < 2300)) M M')) args s 0 0 (hA G)) (F0 m 12 ls []) := by
                      intro d
                      induction d with
                      | zero => intro i0 h1; intros; exact absurd h1 (by omega)
                      | succ d ih4 =>
                        intro i0 h1 h0 h2 H locs ls Y hl
                        refine lv_iload_n hx hb dX2_check_12 rfl (lv_at hl 2 rfl) ?_
                        rcases Nat.lt_or_ge (i0 + 1) 26 with hlt | hge
                        · refine lv_aload_n hx hb dX2_check_13 rfl (lv_at hl 0 rfl) ?_
                          refine h_get X Y (k := 0) (v := .ref (A 3)) hc11 rfl hin_X2 (by decide) kfl_X2_22 rfl dX2_check_14 ?_
                          refine h_get X Y (k := 4) (v := .int (nI (N + 1))) hTk.1 rfl hin_X9 (by decide) kfl_X2_26 rfl dX2_check_17 ?_
                          refine lv_icmp_ge (tgt := 47) hx hb dX2_check_20 (by decide) (fun c20 => absurd (show (N + 1) ≤ (i0 + 1) from (nI_leI (a := (N + 1)) (b := (i0 + 1)) (by omega) (by omega)).mp c20) (by omega)) (fun c20 => ?_)
                          have c20 : ¬ (N + 1) ≤ (i0 + 1) := fun z9 => c20 ((nI_leI (a := (N + 1)) (b := (i0 + 1)) (by omega) (by omega)).mpr z9)
                          refine lv_aload_n hx hb dX2_check_23 rfl (lv_at hl 0 rfl) ?_
                          refine lv_iload_n hx hb dX2_check_24 rfl (lv_at hl 2 rfl) ?_
                          refine lv_aload_n hx hb dX2_check_25 rfl (lv_at hl 1 rfl) ?_
                          refine h_callVr (rest := []) X Y (c_errNone l G Mz6 A N sg nb wd hN hTk hs7 1 (-1) (vp_updL (vp_updL g7 0 (wd (0 + 1))) 1 (wd (8 + 1))) hc11 hc12 lst e0 (gq qa qb qc) hlO hlE i0 (by omega) (hnn i0 h0 hlt).1 (hnn i0 h0 hlt).2 2100 (lyNt Lb 0) (by omega) hLb.1 (by omega)) rfl rfl gw_X2_29 dsc_X2_errorOf hc11 rfl rfl rfl rfl hl.1 (Nat.le_of_ble_eq_true rfl) ⟨Nat.le_of_ble_eq_true rfl, Nat.le_of_ble_eq_true rfl⟩ ⟨Nat.le_of_ble_eq_true rfl, Nat.le_of_ble_eq_true rfl⟩ dX2_check_26 (fun H locs Y => ?_)
                          refine lv_istore_n (lv' := [(3, .int 0), (0, .ref (A 11)), (1, .ref lst), (2, .int (nI (i0 + 1)))]) hx hb dX2_check_29 rfl hl (by decide) rfl (fun ls hl => ?_)
                          refine lv_iload_n hx hb dX2_check_30 rfl (lv_at hl 0 rfl) ?_
                          refine lv_if_eq (tgt := 41) hx hb dX2_check_31 (by decide) (fun c31 => ?_) (fun c31 => absurd (by decide) c31)
                          refine lv_iinc (v := nI (i0 + 1 + 1)) (lv' := [(2, .int (nI (i0 + 1 + 1))), (3, .int 0), (0, .ref (A 11)), (1, .ref lst)]) hx hb dX2_check_41 hl (k := 3) rfl (nI_1 (i0 + 1)) (by decide) rfl (fun ls hl => ?_)
                          refine lv_goto (tgt := 12) hx hb dX2_check_44 (by decide) ?_
                          exact ih4 (i0 + 1) (by omega) (by omega) (by omega) _ _ _ Y (lv_sub hl [2, 3, 0] rfl)
                        · obtain rfl : i0 = 25 := by omega
                          have hl : lv_has ls 4 [(0, .ref (A 11)), (1, .ref lst), (2, .int (nI 26))] := hl
                          refine lv_aload_n hx hb dX2_check_13 rfl (lv_at hl 0 rfl) ?_
                          refine h_get X Y (k := 0) (v := .ref (A 3)) hc11 rfl hin_X2 (by decide) kfl_X2_22 rfl dX2_check_14 ?_
                          refine h_get X Y (k := 4) (v := .int (nI (N + 1))) hTk.1 rfl hin_X9 (by decide) kfl_X2_26 rfl dX2_check_17 ?_
                          refine lv_icmp_ge (tgt := 47) hx hb dX2_check_20 (by decide) (fun c20 => absurd (show (N + 1) ≤ 26 from (nI_leI (a := (N + 1)) (b := 26) (by omega) (by omega)).mp c20) (by omega)) (fun c20 => ?_)
                          have c20 : ¬ (N + 1) ≤ 26 := fun z9 => c20 ((nI_leI (a := (N + 1)) (b := 26) (by omega) (by omega)).mpr z9)
                          refine lv_aload_n hx hb dX2_check_23 rfl (lv_at hl 0 rfl) ?_
                          refine lv_iload_n hx hb dX2_check_24 rfl (lv_at hl 2 rfl) ?_
                          refine lv_aload_n hx hb dX2_check_25 rfl (lv_at hl 1 rfl) ?_
                          have kq25 : sg 25 = 0 := hpat 25 (by omega)
                          have kq26 : sg (25 + 1) = 33 := hpat 26 (by omega)
                          refine h_callV (rest := []) X Y (c_errName l G Mz6 A N sg nb wd hN hTk hs7 2 (-1) (vp_updL (vp_updL g7 0 (wd (0 + 1))) 1 (wd (8 + 1))) hc11 hc12 lst e0 (gq qa qb qc) hlO hlE 25 (by omega) kq25 kq26 (by omega) (fun j hj => by rcases (show j = 0 ∨ j = 1 by omega) with rfl | rfl; rw [hf2_0, show wd (25 + 1) = 114 from hw3]; decide; rw [hf2_1, show wd (25 + 1) = 114 from hw3]; decide)) gw_X2_29 dsc_X2_errorOf hc11 rfl rfl rfl hl.1 rfl (Nat.le_of_ble_eq_true rfl) ⟨Nat.le_of_ble_eq_true rfl, Nat.le_of_ble_eq_true rfl⟩ ⟨Nat.le_of_ble_eq_true rfl, Nat.le_of_ble_eq_true rfl⟩ dX2_check_26 ?_
                          rintro _ Mz7 H locs ⟨rfl, hc11, hc12, hfa⟩ Y
                          have hTk := hTk.fr hfa (fun j z1 z2 z3 => by omega)
                          have hlO := hlO.fr hfa (by omega)
                          have hlE := hlE.fr hfa (by omega)
                          have hLa := hLa.fr hfa (fun j hj => by omega)
                          have hLb := hLb.fr hfa (fun j hj => by omega)
                          have hLc := hLc.fr hfa (fun j hj => by omega)
                          have hfr := hFr.tr hfr (hfa.mono (fun u z => by omega))
                          have hf3_0 : (vp_updL (vp_updL (vp_updL g7 0 (wd (0 + 1))) 1 (wd (8 + 1))) 2 (wd (25 + 1))) 0 = 38 := (pk_uLn (by omega)).trans hf2_0
                          have hf3_1 : (vp_updL (vp_updL (vp_updL g7 0 (wd (0 + 1))) 1 (wd (8 + 1))) 2 (wd (25 + 1))) 1 = 76 := (pk_uLn (by omega)).trans hf2_1
                          have hf3_2 : (vp_updL (vp_updL (vp_updL g7 0 (wd (0 + 1))) 1 (wd (8 + 1))) 2 (wd (25 + 1))) 2 = 114 := pk_uLs.trans hw3
                          try dsimp only [Option.toList, List.singleton_append]
                          refine lv_istore_n (lv' := [(3, .int 0), (0, .ref (A 11)), (1, .ref lst), (2, .int (nI 26))]) hx hb dX2_check_29 rfl hl (by decide) rfl (fun ls hl => ?_)
                          refine lv_iload_n hx hb dX2_check_30 rfl (lv_at hl 0 rfl) ?_
                          refine lv_if_eq (tgt := 41) hx hb dX2_check_31 (by decide) (fun c31 => ?_) (fun c31 => absurd (by decide) c31)
                          refine lv_iinc (v := nI 27) (lv' := [(2, .int (nI 27)), (3, .int 0), (0, .ref (A 11)), (1, .ref lst)]) hx hb dX2_check_41 hl (k := 3) rfl (by decide) (by decide) rfl (fun ls hl => ?_)
                          refine lv_goto (tgt := 12) hx hb dX2_check_44 (by decide) ?_
                          have hl : lv_has ls 4 [(2, .int (nI (26 + 1))), (3, .int 0), (0, .ref (A 11)), (1, .ref lst)] := hl
                          have hnn : ∀ i0, 26 ≤ i0 → i0 + 1 < 35 → (sg i0 ≠ 2 ∧ sg i0 ≠ 5 ∧ sg i0 ≠ 6) ∧ sg (i0 + 1) ≠ 33 := by
                            intro i0 z1 z2
                            rw [hpat i0 (by omega), hpat (i0 + 1) (by omega)]
                            have hd : ∀ i0, i0 < 34 → 26 ≤ i0 → ((fPat true false).getD i0 0 ≠ 2 ∧ (fPat true false).getD i0 0 ≠ 5 ∧ (fPat true false).getD i0 0 ≠ 6) ∧ (fPat true false).getD (i0 + 1) 0 ≠ 33 := by decide
                            exact hd i0 (by omega) z1
                          have loop5 : ∀ (d i0 : Nat), i0 + 1 + d = 36 → 26 ≤ i0 → i0 + 1 ≤ 35 → ∀ (H : Heap) (locs : List Loc) (ls : Array Slot), hHS G Mz7 s H locs → lv_has ls 4 [(0, .ref (A 11)), (1, .ref lst), (2, .int (nI (i0 + 1)))] → W p l e (hRm 6 0 0) s m args below meth c H locs 0 0 (MQ below (hQ G (fun v M' => v = some (.int 0) ∧ (∃ f : Nat → Int64, M' (A 11) = some (11, .inr (4, [.ref (A 3), .ref (A 12), .int (nI 3), .int (-1)])) ∧ M' (A 12) = some (12, .inl (hT G 2, 8, .inr (.inl f)))) ∧ LaP G M' qa 2000 (lyU La 0 (nb (5 + 1))) Fa ∧ LaP G M' qb 2100 (lyNt Lb 0) Fb ∧ LaP G M' qc 2200 (lyNt (lyNt (lyU Lc 1 (nb (34 + 1))) 0) 1) Fc ∧ hFr (fun u => u = 11 ∨ u = 12 ∨ (2000 ≤ u ∧ u < 2300)) M M')) args s 0 0 (hA G)) (F0 m 12 ls []) := by
                            intro d
                            induction d with
                            | zero => intro i0 h1; intros; exact absurd h1 (by omega)
                            | succ d ih5 =>
                              intro i0 h1 h0 h2 H locs ls Y hl
                              refine lv_iload_n hx hb dX2_check_12 rfl (lv_at hl 2 rfl) ?_
                              rcases Nat.lt_or_ge (i0 + 1) 35 with hlt | hge
                              · refine lv_aload_n hx hb dX2_check_13 rfl (lv_at hl 0 rfl) ?_
                                refine h_get X Y (k := 0) (v := .ref (A 3)) hc11 rfl hin_X2 (by decide) kfl_X2_22 rfl dX2_check_14 ?_
                                refine h_get X Y (k := 4) (v := .int (nI (N + 1))) hTk.1 rfl hin_X9 (by decide) kfl_X2_26 rfl dX2_check_17 ?_
                                refine lv_icmp_ge (tgt := 47) hx hb dX2_check_20 (by decide) (fun c20 => absurd (show (N + 1) ≤ (i0 + 1) from (nI_leI (a := (N + 1)) (b := (i0 + 1)) (by omega) (by omega)).mp c20) (by omega)) (fun c20 => ?_)
                                have c20 : ¬ (N + 1) ≤ (i0 + 1) := fun z9 => c20 ((nI_leI (a := (N + 1)) (b := (i0 + 1)) (by omega) (by omega)).mpr z9)
                                refine lv_aload_n hx hb dX2_check_23 rfl (lv_at hl 0 rfl) ?_
                                refine lv_iload_n hx hb dX2_check_24 rfl (lv_at hl 2 rfl) ?_
                                refine lv_aload_n hx hb dX2_check_25 rfl (lv_at hl 1 rfl) ?_
                                refine h_callVr (rest := []) X Y (c_errNone l G Mz7 A N sg nb wd hN hTk hs7 2 (-1) (vp_updL (vp_updL (vp_updL g7 0 (wd (0 + 1))) 1 (wd (8 + 1))) 2 (wd (25 + 1))) hc11 hc12 lst e0 (gq qa qb qc) hlO hlE i0 (by omega) (hnn i0 h0 hlt).1 (hnn i0 h0 hlt).2 2200 Lc (by omega) hLc.1 (by omega)) rfl rfl gw_X2_29 dsc_X2_errorOf hc11 rfl rfl rfl rfl hl.1 (Nat.le_of_ble_eq_true rfl) ⟨Nat.le_of_ble_eq_true rfl, Nat.le_of_ble_eq_true rfl⟩ ⟨Nat.le_of_ble_eq_true rfl, Nat.le_of_ble_eq_true rfl⟩ dX2_check_26 (fun H locs Y => ?_)
                                refine lv_istore_n (lv' := [(3, .int 0), (0, .ref (A 11)), (1, .ref lst), (2, .int (nI (i0 + 1)))]) hx hb dX2_check_29 rfl hl (by decide) rfl (fun ls hl => ?_)
                                refine lv_iload_n hx hb dX2_check_30 rfl (lv_at hl 0 rfl) ?_
                                refine lv_if_eq (tgt := 41) hx hb dX2_check_31 (by decide) (fun c31 => ?_) (fun c31 => absurd (by decide) c31)
                                refine lv_iinc (v := nI (i0 + 1 + 1)) (lv' := [(2, .int (nI (i0 + 1 + 1))), (3, .int 0), (0, .ref (A 11)), (1, .ref lst)]) hx hb dX2_check_41 hl (k := 3) rfl (nI_1 (i0 + 1)) (by decide) rfl (fun ls hl => ?_)
                                refine lv_goto (tgt := 12) hx hb dX2_check_44 (by decide) ?_
                                exact ih5 (i0 + 1) (by omega) (by omega) (by omega) _ _ _ Y (lv_sub hl [2, 3, 0] rfl)
                              · obtain rfl : i0 = 34 := by omega
                                have hl : lv_has ls 4 [(0, .ref (A 11)), (1, .ref lst), (2, .int (nI 35))] := hl
                                refine lv_aload_n hx hb dX2_check_13 rfl (lv_at hl 0 rfl) ?_
                                refine h_get X Y (k := 0) (v := .ref (A 3)) hc11 rfl hin_X2 (by decide) kfl_X2_22 rfl dX2_check_14 ?_
                                refine h_get X Y (k := 4) (v := .int (nI (N + 1))) hTk.1 rfl hin_X9 (by decide) kfl_X2_26 rfl dX2_check_17 ?_
                                refine lv_icmp_ge (tgt := 47) hx hb dX2_check_20 (by decide) (fun c20 => absurd (show (N + 1) ≤ 35 from (nI_leI (a := (N + 1)) (b := 35) (by omega) (by omega)).mp c20) (by omega)) (fun c20 => ?_)
                                have c20 : ¬ (N + 1) ≤ 35 := fun z9 => c20 ((nI_leI (a := (N + 1)) (b := 35) (by omega) (by omega)).mpr z9)
                                refine lv_aload_n hx hb dX2_check_23 rfl (lv_at hl 0 rfl) ?_
                                refine lv_iload_n hx hb dX2_check_24 rfl (lv_at hl 2 rfl) ?_
                                refine lv_aload_n hx hb dX2_check_25 rfl (lv_at hl 1 rfl) ?_
                                have kq34 : sg 34 = 5 := hpat 34 (by omega)
                                have kq35 : sg (34 + 1) = 34 := hpat 35 (by omega)
                                refine h_callV (rest := []) X Y (c_errRein l G Mz7 A N sg nb wd hN hTk hs7 2 (-1) (vp_updL (vp_updL (vp_updL g7 0 (wd (0 + 1))) 1 (wd (8 + 1))) 2 (wd (25 + 1))) hc11 hc12 lst e0 (gq qa qb qc) hlO hlE 34 (by omega) kq34 (by omega) 2200 Lc (by omega) hLc.1 (by omega) hx2) gw_X2_29 dsc_X2_errorOf hc11 rfl rfl rfl hl.1 rfl (Nat.le_of_ble_eq_true rfl) ⟨Nat.le_of_ble_eq_true rfl, Nat.le_of_ble_eq_true rfl⟩ ⟨Nat.le_of_ble_eq_true rfl, Nat.le_of_ble_eq_true rfl⟩ dX2_check_26 ?_
                                rintro _ Mz8 H locs ⟨rfl, hLy, hfa⟩ Y
                                have hLc := hLc.upd hLy rfl rfl hfa
                                have hTk := hTk.fr hfa (fun j z1 z2 z3 => by omega)
                                have hlO := hlO.fr hfa (by omega)
                                have hlE := hlE.fr hfa (by omega)
                                have hLa := hLa.fr hfa (fun j hj => by omega)
                                have hLb := hLb.fr hfa (fun j hj => by omega)
                                have hc11 := hfa _ _ _ hc11 (by omega)
                                have hc12 := hfa _ _ _ hc12 (by omega)
                                have hfr := hFr.tr hfr (hfa.mono (fun u z => by omega))
                                try dsimp only [Option.toList, List.singleton_append]
                                refine lv_istore_n (lv' := [(3, .int 0), (0, .ref (A 11)), (1, .ref lst), (2, .int (nI 35))]) hx hb dX2_check_29 rfl hl (by decide) rfl (fun ls hl => ?_)
                                refine lv_iload_n hx hb dX2_check_30 rfl (lv_at hl 0 rfl) ?_
                                refine lv_if_eq (tgt := 41) hx hb dX2_check_31 (by decide) (fun c31 => ?_) (fun c31 => absurd (by decide) c31)
                                refine lv_iinc (v := nI 36) (lv' := [(2, .int (nI 36)), (3, .int 0), (0, .ref (A 11)), (1, .ref lst)]) hx hb dX2_check_41 hl (k := 3) rfl (by decide) (by decide) rfl (fun ls hl => ?_)
                                refine lv_goto (tgt := 12) hx hb dX2_check_44 (by decide) ?_
                                have hl : lv_has ls 4 [(2, .int (nI (35 + 1))), (3, .int 0), (0, .ref (A 11)), (1, .ref lst)] := hl
                                have hnn : ∀ i0, 35 ≤ i0 → i0 + 1 < 38 → (sg i0 ≠ 2 ∧ sg i0 ≠ 5 ∧ sg i0 ≠ 6) ∧ sg (i0 + 1) ≠ 33 := by
                                  intro i0 z1 z2
                                  rw [hpat i0 (by omega), hpat (i0 + 1) (by omega)]
                                  have hd : ∀ i0, i0 < 37 → 35 ≤ i0 → ((fPat true false).getD i0 0 ≠ 2 ∧ (fPat true false).getD i0 0 ≠ 5 ∧ (fPat true false).getD i0 0 ≠ 6) ∧ (fPat true false).getD (i0 + 1) 0 ≠ 33 := by decide
                                  exact hd i0 (by omega) z1
                                have loop6 : ∀ (d i0 : Nat), i0 + 1 + d = 39 → 35 ≤ i0 → i0 + 1 ≤ 38 → ∀ (H : Heap) (locs : List Loc) (ls : Array Slot), hHS G Mz8 s H locs → lv_has ls 4 [(0, .ref (A 11)), (1, .ref lst), (2, .int (nI (i0 + 1)))] → W p l e (hRm 6 0 0) s m args below meth c H locs 0 0 (MQ below (hQ G (fun v M' => v = some (.int 0) ∧ (∃ f : Nat → Int64, M' (A 11) = some (11, .inr (4, [.ref (A 3), .ref (A 12), .int (nI 3), .int (-1)])) ∧ M' (A 12) = some (12, .inl (hT G 2, 8, .inr (.inl f)))) ∧ LaP G M' qa 2000 (lyU La 0 (nb (5 + 1))) Fa ∧ LaP G M' qb 2100 (lyNt Lb 0) Fb ∧ LaP G M' qc 2200 (lyNt (lyNt (lyU Lc 1 (nb (34 + 1))) 0) 1) Fc ∧ hFr (fun u => u = 11 ∨ u = 12 ∨ (2000 ≤ u ∧ u < 2300)) M M')) args s 0 0 (hA G)) (F0 m 12 ls []) := by
                                  intro d
                                  induction d with
                                  | zero => intro i0 h1; intros; exact absurd h1 (by omega)
                                  | succ d ih6 =>
                                    intro i0 h1 h0 h2 H locs ls Y hl
                                    refine lv_iload_n hx hb dX2_check_12 rfl (lv_at hl 2 rfl) ?_
                                    rcases Nat.lt_or_ge (i0 + 1) 38 with hlt | hge
                                    · refine lv_aload_n hx hb dX2_check_13 rfl (lv_at hl 0 rfl) ?_
                                      refine h_get X Y (k := 0) (v := .ref (A 3)) hc11 rfl hin_X2 (by decide) kfl_X2_22 rfl dX2_check_14 ?_
                                      refine h_get X Y (k := 4) (v := .int (nI (N + 1))) hTk.1 rfl hin_X9 (by decide) kfl_X2_26 rfl dX2_check_17 ?_
                                      refine lv_icmp_ge (tgt := 47) hx hb dX2_check_20 (by decide) (fun c20 => absurd (show (N + 1) ≤ (i0 + 1) from (nI_leI (a := (N + 1)) (b := (i0 + 1)) (by omega) (by omega)).mp c20) (by omega)) (fun c20 => ?_)
                                      have c20 : ¬ (N + 1) ≤ (i0 + 1) := fun z9 => c20 ((nI_leI (a := (N + 1)) (b := (i0 + 1)) (by omega) (by omega)).mpr z9)
                                      refine lv_aload_n hx hb dX2_check_23 rfl (lv_at hl 0 rfl) ?_
                                      refine lv_iload_n hx hb dX2_check_24 rfl (lv_at hl 2 rfl) ?_
                                      refine lv_aload_n hx hb dX2_check_25 rfl (lv_at hl 1 rfl) ?_
                                      refine h_callVr (rest := []) X Y (c_errNone l G Mz8 A N sg nb wd hN hTk hs7 2 (-1) (vp_updL (vp_updL (vp_updL g7 0 (wd (0 + 1))) 1 (wd (8 + 1))) 2 (wd (25 + 1))) hc11 hc12 lst e0 (gq qa qb qc) hlO hlE i0 (by omega) (hnn i0 h0 hlt).1 (hnn i0 h0 hlt).2 2200 (lyU Lc 1 (nb (34 + 1))) (by omega) hLc.1 (by omega)) rfl rfl gw_X2_29 dsc_X2_errorOf hc11 rfl rfl rfl rfl hl.1 (Nat.le_of_ble_eq_true rfl) ⟨Nat.le_of_ble_eq_true rfl, Nat.le_of_ble_eq_true rfl⟩ ⟨Nat.le_of_ble_eq_true rfl, Nat.le_of_ble_eq_true rfl⟩ dX2_check_26 (fun H locs Y => ?_)
                                      refine lv_istore_n (lv' := [(3, .int 0), (0, .ref (A 11)), (1, .ref lst), (2, .int (nI (i0 + 1)))]) hx hb dX2_check_29 rfl hl (by decide) rfl (fun ls hl => ?_)
                                      refine lv_iload_n hx hb dX2_check_30 rfl (lv_at hl 0 rfl) ?_
                                      refine lv_if_eq (tgt := 41) hx hb dX2_check_31 (by decide) (fun c31 => ?_) (fun c31 => absurd (by decide) c31)
                                      refine lv_iinc (v := nI (i0 + 1 + 1)) (lv' := [(2, .int (nI (i0 + 1 + 1))), (3, .int 0), (0, .ref (A 11)), (1, .ref lst)]) hx hb dX2_check_41 hl (k := 3) rfl (nI_1 (i0 + 1)) (by decide) rfl (fun ls hl => ?_)
                                      refine lv_goto (tgt := 12) hx hb dX2_check_44 (by decide) ?_
                                      exact ih6 (i0 + 1) (by omega) (by omega) (by omega) _ _ _ Y (lv_sub hl [2, 3, 0] rfl)
                                    · obtain rfl : i0 = 37 := by omega
                                      have hl : lv_has ls 4 [(0, .ref (A 11)), (1, .ref lst), (2, .int (nI 38))] := hl
                                      refine lv_aload_n hx hb dX2_check_13 rfl (lv_at hl 0 rfl) ?_
                                      refine h_get X Y (k := 0) (v := .ref (A 3)) hc11 rfl hin_X2 (by decide) kfl_X2_22 rfl dX2_check_14 ?_
                                      refine h_get X Y (k := 4) (v := .int (nI (N + 1))) hTk.1 rfl hin_X9 (by decide) kfl_X2_26 rfl dX2_check_17 ?_
                                      refine lv_icmp_ge (tgt := 47) hx hb dX2_check_20 (by decide) (fun c20 => absurd (show (N + 1) ≤ 38 from (nI_leI (a := (N + 1)) (b := 38) (by omega) (by omega)).mp c20) (by omega)) (fun c20 => ?_)
                                      have c20 : ¬ (N + 1) ≤ 38 := fun z9 => c20 ((nI_leI (a := (N + 1)) (b := 38) (by omega) (by omega)).mpr z9)
                                      refine lv_aload_n hx hb dX2_check_23 rfl (lv_at hl 0 rfl) ?_
                                      refine lv_iload_n hx hb dX2_check_24 rfl (lv_at hl 2 rfl) ?_
                                      refine lv_aload_n hx hb dX2_check_25 rfl (lv_at hl 1 rfl) ?_
                                      have kq37 : sg 37 = 8 := hpat 37 (by omega)
                                      have kq38 : sg (37 + 1) = 33 := hpat 38 (by omega)
                                      refine h_callV (rest := []) X Y (c_errNet l G Mz8 A N sg nb wd hN hTk hs7 2 (-1) (vp_updL (vp_updL (vp_updL g7 0 (wd (0 + 1))) 1 (wd (8 + 1))) 2 (wd (25 + 1))) hc11 hc12 lst e0 (gq qa qb qc) hlO hlE 37 (by omega) (by omega) kq38 2200 (lyU Lc 1 (nb (34 + 1))) (by omega) hLc.1 (by omega) 0 (by omega) (hf3_0.trans (show wd (37 + 1) = 38 from hv2).symm) (fun j hj => absurd hj (by omega))) gw_X2_29 dsc_X2_errorOf hc11 rfl rfl rfl hl.1 rfl (Nat.le_of_ble_eq_true rfl) ⟨Nat.le_of_ble_eq_true rfl, Nat.le_of_ble_eq_true rfl⟩ ⟨Nat.le_of_ble_eq_true rfl, Nat.le_of_ble_eq_true rfl⟩ dX2_check_26 ?_
                                      rintro _ Mz9 H locs ⟨rfl, hLy, hfa⟩ Y
                                      have hLc := hLc.upd hLy rfl rfl hfa
                                      have hTk := hTk.fr hfa (fun j z1 z2 z3 => by omega)
                                      have hlO := hlO.fr hfa (by omega)
                                      have hlE := hlE.fr hfa (by omega)
                                      have hLa := hLa.fr hfa (fun j hj => by omega)
                                      have hLb := hLb.fr hfa (fun j hj => by omega)
                                      have hc11 := hfa _ _ _ hc11 (by omega)
                                      have hc12 := hfa _ _ _ hc12 (by omega)
                                      have hfr := hFr.tr hfr (hfa.mono (fun u z => by omega))
                                      try dsimp only [Option.toList, List.singleton_append]
                                      refine lv_istore_n (lv' := [(3, .int 0), (0, .ref (A 11)), (1, .ref lst), (2, .int (nI 38))]) hx hb dX2_check_29 rfl hl (by decide) rfl (fun ls hl => ?_)
                                      refine lv_iload_n hx hb dX2_check_30 rfl (lv_at hl 0 rfl) ?_
                                      refine lv_if_eq (tgt := 41) hx hb dX2_check_31 (by decide) (fun c31 => ?_) (fun c31 => absurd (by decide) c31)
                                      refine lv_iinc (v := nI 39) (lv' := [(2, .int (nI 39)), (3, .int 0), (0, .ref (A 11)), (1, .ref lst)]) hx hb dX2_check_41 hl (k := 3) rfl (by decide) (by decide) rfl (fun ls hl => ?_)
                                      refine lv_goto (tgt := 12) hx hb dX2_check_44 (by decide) ?_
                                      have hl : lv_has ls 4 [(2, .int (nI (38 + 1))), (3, .int 0), (0, .ref (A 11)), (1, .ref lst)] := hl
                                      have hnn : ∀ i0, 38 ≤ i0 → i0 + 1 < 40 → (sg i0 ≠ 2 ∧ sg i0 ≠ 5 ∧ sg i0 ≠ 6) ∧ sg (i0 + 1) ≠ 33 := by
                                        intro i0 z1 z2
                                        rw [hpat i0 (by omega), hpat (i0 + 1) (by omega)]
                                        have hd : ∀ i0, i0 < 39 → 38 ≤ i0 → ((fPat true false).getD i0 0 ≠ 2 ∧ (fPat true false).getD i0 0 ≠ 5 ∧ (fPat true false).getD i0 0 ≠ 6) ∧ (fPat true false).getD (i0 + 1) 0 ≠ 33 := by decide
                                        exact hd i0 (by omega) z1
                                      have loop7 : ∀ (d i0 : Nat), i0 + 1 + d = 41 → 38 ≤ i0 → i0 + 1 ≤ 40 → ∀ (H : Heap) (locs : List Loc) (ls : Array Slot), hHS G Mz9 s H locs → lv_has ls 4 [(0, .ref (A 11)), (1, .ref lst), (2, .int (nI (i0 + 1)))] → W p l e (hRm 6 0 0) s m args below meth c H locs 0 0 (MQ below (hQ G (fun v M' => v = some (.int 0) ∧ (∃ f : Nat → Int64, M' (A 11) = some (11, .inr (4, [.ref (A 3), .ref (A 12), .int (nI 3), .int (-1)])) ∧ M' (A 12) = some (12, .inl (hT G 2, 8, .inr (.inl f)))) ∧ LaP G M' qa 2000 (lyU La 0 (nb (5 + 1))) Fa ∧ LaP G M' qb 2100 (lyNt Lb 0) Fb ∧ LaP G M' qc 2200 (lyNt (lyNt (lyU Lc 1 (nb (34 + 1))) 0) 1) Fc ∧ hFr (fun u => u = 11 ∨ u = 12 ∨ (2000 ≤ u ∧ u < 2300)) M M')) args s 0 0 (hA G)) (F0 m 12 ls []) := by
                                        intro d
                                        induction d with
                                        | zero => intro i0 h1; intros; exact absurd h1 (by omega)
                                        | succ d ih7 =>
                                          intro i0 h1 h0 h2 H locs ls Y hl
                                          refine lv_iload_n hx hb dX2_check_12 rfl (lv_at hl 2 rfl) ?_
                                          rcases Nat.lt_or_ge (i0 + 1) 40 with hlt | hge
                                          · refine lv_aload_n hx hb dX2_check_13 rfl (lv_at hl 0 rfl) ?_
                                            refine h_get X Y (k := 0) (v := .ref (A 3)) hc11 rfl hin_X2 (by decide) kfl_X2_22 rfl dX2_check_14 ?_
                                            refine h_get X Y (k := 4) (v := .int (nI (N + 1))) hTk.1 rfl hin_X9 (by decide) kfl_X2_26 rfl dX2_check_17 ?_
                                            refine lv_icmp_ge (tgt := 47) hx hb dX2_check_20 (by decide) (fun c20 => absurd (show (N + 1) ≤ (i0 + 1) from (nI_leI (a := (N + 1)) (b := (i0 + 1)) (by omega) (by omega)).mp c20) (by omega)) (fun c20 => ?_)
                                            have c20 : ¬ (N + 1) ≤ (i0 + 1) := fun z9 => c20 ((nI_leI (a := (N + 1)) (b := (i0 + 1)) (by omega) (by omega)).mpr z9)
                                            refine lv_aload_n hx hb dX2_check_23 rfl (lv_at hl 0 rfl) ?_
                                            refine lv_iload_n hx hb dX2_check_24 rfl (lv_at hl 2 rfl) ?_
                                            refine lv_aload_n hx hb dX2_check_25 rfl (lv_at hl 1 rfl) ?_
                                            refine h_callVr (rest := []) X Y (c_errNone l G Mz9 A N sg nb wd hN hTk hs7 2 (-1) (vp_updL (vp_updL (vp_updL g7 0 (wd (0 + 1))) 1 (wd (8 + 1))) 2 (wd (25 + 1))) hc11 hc12 lst e0 (gq qa qb qc) hlO hlE i0 (by omega) (hnn i0 h0 hlt).1 (hnn i0 h0 hlt).2 2200 (lyNt (lyU Lc 1 (nb (34 + 1))) 0) (by omega) hLc.1 (by omega)) rfl rfl gw_X2_29 dsc_X2_errorOf hc11 rfl rfl rfl rfl hl.1 (Nat.le_of_ble_eq_true rfl) ⟨Nat.le_of_ble_eq_true rfl, Nat.le_of_ble_eq_true rfl⟩ ⟨Nat.le_of_ble_eq_true rfl, Nat.le_of_ble_eq_true rfl⟩ dX2_check_26 (fun H locs Y => ?_)
                                            refine lv_istore_n (lv' := [(3, .int 0), (0, .ref (A 11)), (1, .ref lst), (2, .int (nI (i0 + 1)))]) hx hb dX2_check_29 rfl hl (by decide) rfl (fun ls hl => ?_)
                                            refine lv_iload_n hx hb dX2_check_30 rfl (lv_at hl 0 rfl) ?_
                                            refine lv_if_eq (tgt := 41) hx hb dX2_check_31 (by decide) (fun c31 => ?_) (fun c31 => absurd (by decide) c31)
                                            refine lv_iinc (v := nI (i0 + 1 + 1)) (lv' := [(2, .int (nI (i0 + 1 + 1))), (3, .int 0), (0, .ref (A 11)), (1, .ref lst)]) hx hb dX2_check_41 hl (k := 3) rfl (nI_1 (i0 + 1)) (by decide) rfl (fun ls hl => ?_)
                                            refine lv_goto (tgt := 12) hx hb dX2_check_44 (by decide) ?_
                                            exact ih7 (i0 + 1) (by omega) (by omega) (by omega) _ _ _ Y (lv_sub hl [2, 3, 0] rfl)
                                          · obtain rfl : i0 = 39 := by omega
                                            have hl : lv_has ls 4 [(0, .ref (A 11)), (1, .ref lst), (2, .int (nI 40))] := hl
                                            refine lv_aload_n hx hb dX2_check_13 rfl (lv_at hl 0 rfl) ?_
                                            refine h_get X Y (k := 0) (v := .ref (A 3)) hc11 rfl hin_X2 (by decide) kfl_X2_22 rfl dX2_check_14 ?_
                                            refine h_get X Y (k := 4) (v := .int (nI (N + 1))) hTk.1 rfl hin_X9 (by decide) kfl_X2_26 rfl dX2_check_17 ?_
                                            refine lv_icmp_ge (tgt := 47) hx hb dX2_check_20 (by decide) (fun c20 => absurd (show (N + 1) ≤ 40 from (nI_leI (a := (N + 1)) (b := 40) (by omega) (by omega)).mp c20) (by omega)) (fun c20 => ?_)
                                            have c20 : ¬ (N + 1) ≤ 40 := fun z9 => c20 ((nI_leI (a := (N + 1)) (b := 40) (by omega) (by omega)).mpr z9)
                                            refine lv_aload_n hx hb dX2_check_23 rfl (lv_at hl 0 rfl) ?_
                                            refine lv_iload_n hx hb dX2_check_24 rfl (lv_at hl 2 rfl) ?_
                                            refine lv_aload_n hx hb dX2_check_25 rfl (lv_at hl 1 rfl) ?_
                                            have kq39 : sg 39 = 23 := hpat 39 (by omega)
                                            have kq40 : sg (39 + 1) = 33 := hpat 40 (by omega)
                                            refine h_callV (rest := []) X Y (c_errNet l G Mz9 A N sg nb wd hN hTk hs7 2 (-1) (vp_updL (vp_updL (vp_updL g7 0 (wd (0 + 1))) 1 (wd (8 + 1))) 2 (wd (25 + 1))) hc11 hc12 lst e0 (gq qa qb qc) hlO hlE 39 (by omega) (by omega) kq40 2200 (lyNt (lyU Lc 1 (nb (34 + 1))) 0) (by omega) hLc.1 (by omega) 1 (by omega) (hf3_1.trans (show wd (39 + 1) = 76 from hv3).symm) (fun j hj => by rcases (show j = 0 by omega) with rfl; rw [hf3_0, show wd (39 + 1) = 76 from hv3]; decide)) gw_X2_29 dsc_X2_errorOf hc11 rfl rfl rfl hl.1 rfl (Nat.le_of_ble_eq_true rfl) ⟨Nat.le_of_ble_eq_true rfl, Nat.le_of_ble_eq_true rfl⟩ ⟨Nat.le_of_ble_eq_true rfl, Nat.le_of_ble_eq_true rfl⟩ dX2_check_26 ?_
                                            rintro _ Mz10 H locs ⟨rfl, hLy, hfa⟩ Y
                                            have hLc := hLc.upd hLy rfl rfl hfa
                                            have hTk := hTk.fr hfa (fun j z1 z2 z3 => by omega)
                                            have hlO := hlO.fr hfa (by omega)
                                            have hlE := hlE.fr hfa (by omega)
                                            have hLa := hLa.fr hfa (fun j hj => by omega)
                                            have hLb := hLb.fr hfa (fun j hj => by omega)
                                            have hc11 := hfa _ _ _ hc11 (by omega)
                                            have hc12 := hfa _ _ _ hc12 (by omega)
                                            have hfr := hFr.tr hfr (hfa.mono (fun u z => by omega))
                                            try dsimp only [Option.toList, List.singleton_append]
                                            refine lv_istore_n (lv' := [(3, .int 0), (0, .ref (A 11)), (1, .ref lst), (2, .int (nI 40))]) hx hb dX2_check_29 rfl hl (by decide) rfl (fun ls hl => ?_)
                                            refine lv_iload_n hx hb dX2_check_30 rfl (lv_at hl 0 rfl) ?_
                                            refine lv_if_eq (tgt := 41) hx hb dX2_check_31 (by decide) (fun c31 => ?_) (fun c31 => absurd (by decide) c31)
                                            refine lv_iinc (v := nI 41) (lv' := [(2, .int (nI 41)), (3, .int 0), (0, .ref (A 11)), (1, .ref lst)]) hx hb dX2_check_41 hl (k := 3) rfl (by decide) (by decide) rfl (fun ls hl => ?_)
                                            refine lv_goto (tgt := 12) hx hb dX2_check_44 (by decide) ?_
                                            have hl : lv_has ls 4 [(2, .int (nI (40 + 1))), (3, .int 0), (0, .ref (A 11)), (1, .ref lst)] := hl
                                            have hnn : ∀ i0, 40 ≤ i0 → i0 + 1 < 52 → (sg i0 ≠ 2 ∧ sg i0 ≠ 5 ∧ sg i0 ≠ 6) ∧ sg (i0 + 1) ≠ 33 := by
                                              intro i0 z1 z2
                                              rw [hpat i0 (by omega), hpat (i0 + 1) (by omega)]
                                              have hd : ∀ i0, i0 < 51 → 40 ≤ i0 → ((fPat true false).getD i0 0 ≠ 2 ∧ (fPat true false).getD i0 0 ≠ 5 ∧ (fPat true false).getD i0 0 ≠ 6) ∧ (fPat true false).getD (i0 + 1) 0 ≠ 33 := by decide
                                              exact hd i0 (by omega) z1
                                            have loop8 : ∀ (d i0 : Nat), i0 + 1 + d = 53 → 40 ≤ i0 → i0 + 1 ≤ 52 → ∀ (H : Heap) (locs : List Loc) (ls : Array Slot), hHS G Mz10 s H locs → lv_has ls 4 [(0, .ref (A 11)), (1, .ref lst), (2, .int (nI (i0 + 1)))] → W p l e (hRm 6 0 0) s m args below meth c H locs 0 0 (MQ below (hQ G (fun v M' => v = some (.int 0) ∧ (∃ f : Nat → Int64, M' (A 11) = some (11, .inr (4, [.ref (A 3), .ref (A 12), .int (nI 3), .int (-1)])) ∧ M' (A 12) = some (12, .inl (hT G 2, 8, .inr (.inl f)))) ∧ LaP G M' qa 2000 (lyU La 0 (nb (5 + 1))) Fa ∧ LaP G M' qb 2100 (lyNt Lb 0) Fb ∧ LaP G M' qc 2200 (lyNt (lyNt (lyU Lc 1 (nb (34 + 1))) 0) 1) Fc ∧ hFr (fun u => u = 11 ∨ u = 12 ∨ (2000 ≤ u ∧ u < 2300)) M M')) args s 0 0 (hA G)) (F0 m 12 ls []) := by
                                              intro d
                                              induction d with
                                              | zero => intro i0 h1; intros; exact absurd h1 (by omega)
                                              | succ d ih8 =>
                                                intro i0 h1 h0 h2 H locs ls Y hl
                                                refine lv_iload_n hx hb dX2_check_12 rfl (lv_at hl 2 rfl) ?_
                                                rcases Nat.lt_or_ge (i0 + 1) 52 with hlt | hge
                                                · refine lv_aload_n hx hb dX2_check_13 rfl (lv_at hl 0 rfl) ?_
                                                  refine h_get X Y (k := 0) (v := .ref (A 3)) hc11 rfl hin_X2 (by decide) kfl_X2_22 rfl dX2_check_14 ?_
                                                  refine h_get X Y (k := 4) (v := .int (nI (N + 1))) hTk.1 rfl hin_X9 (by decide) kfl_X2_26 rfl dX2_check_17 ?_
                                                  refine lv_icmp_ge (tgt := 47) hx hb dX2_check_20 (by decide) (fun c20 => absurd (show (N + 1) ≤ (i0 + 1) from (nI_leI (a := (N + 1)) (b := (i0 + 1)) (by omega) (by omega)).mp c20) (by omega)) (fun c20 => ?_)
                                                  have c20 : ¬ (N + 1) ≤ (i0 + 1) := fun z9 => c20 ((nI_leI (a := (N + 1)) (b := (i0 + 1)) (by omega) (by omega)).mpr z9)
                                                  refine lv_aload_n hx hb dX2_check_23 rfl (lv_at hl 0 rfl) ?_
                                                  refine lv_iload_n hx hb dX2_check_24 rfl (lv_at hl 2 rfl) ?_
                                                  refine lv_aload_n hx hb dX2_check_25 rfl (lv_at hl 1 rfl) ?_
                                                  refine h_callVr (rest := []) X Y (c_errNone l G Mz10 A N sg nb wd hN hTk hs7 2 (-1) (vp_updL (vp_updL (vp_updL g7 0 (wd (0 + 1))) 1 (wd (8 + 1))) 2 (wd (25 + 1))) hc11 hc12 lst e0 (gq qa qb qc) hlO hlE i0 (by omega) (hnn i0 h0 hlt).1 (hnn i0 h0 hlt).2 2200 (lyNt (lyNt (lyU Lc 1 (nb (34 + 1))) 0) 1) (by omega) hLc.1 (by omega)) rfl rfl gw_X2_29 dsc_X2_errorOf hc11 rfl rfl rfl rfl hl.1 (Nat.le_of_ble_eq_true rfl) ⟨Nat.le_of_ble_eq_true rfl, Nat.le_of_ble_eq_true rfl⟩ ⟨Nat.le_of_ble_eq_true rfl, Nat.le_of_ble_eq_true rfl⟩ dX2_check_26 (fun H locs Y => ?_)
                                                  refine lv_istore_n (lv' := [(3, .int 0), (0, .ref (A 11)), (1, .ref lst), (2, .int (nI (i0 + 1)))]) hx hb dX2_check_29 rfl hl (by decide) rfl (fun ls hl => ?_)
                                                  refine lv_iload_n hx hb dX2_check_30 rfl (lv_at hl 0 rfl) ?_
                                                  refine lv_if_eq (tgt := 41) hx hb dX2_check_31 (by decide) (fun c31 => ?_) (fun c31 => absurd (by decide) c31)
                                                  refine lv_iinc (v := nI (i0 + 1 + 1)) (lv' := [(2, .int (nI (i0 + 1 + 1))), (3, .int 0), (0, .ref (A 11)), (1, .ref lst)]) hx hb dX2_check_41 hl (k := 3) rfl (nI_1 (i0 + 1)) (by decide) rfl (fun ls hl => ?_)
                                                  refine lv_goto (tgt := 12) hx hb dX2_check_44 (by decide) ?_
                                                  exact ih8 (i0 + 1) (by omega) (by omega) (by omega) _ _ _ Y (lv_sub hl [2, 3, 0] rfl)
                                                · obtain rfl : i0 = 51 := by omega
                                                  have hl : lv_has ls 4 [(0, .ref (A 11)), (1, .ref lst), (2, .int (nI 52))] := hl
                                                  refine lv_aload_n hx hb dX2_check_13 rfl (lv_at hl 0 rfl) ?_
                                                  refine h_get X Y (k := 0) (v := .ref (A 3)) hc11 rfl hin_X2 (by decide) kfl_X2_22 rfl dX2_check_14 ?_
                                                  refine h_get X Y (k := 4) (v := .int (nI (N + 1))) hTk.1 rfl hin_X9 (by decide) kfl_X2_26 rfl dX2_check_17 ?_
                                                  refine lv_icmp_ge (tgt := 47) hx hb dX2_check_20 (by decide) (fun c20 => ?_) (fun c20 => absurd (show ¬ (N + 1) ≤ 52 from fun z9 => c20 ((nI_leI (a := (N + 1)) (b := 52) (by omega) (by omega)).mpr z9)) (by omega))
                                                  have c20 : (N + 1) ≤ 52 := (nI_leI (a := (N + 1)) (b := 52) (by omega) (by omega)).mp c20
                                                  refine lv_iconst (v := 0) hx hb dX2_check_47 (by decide) ?_
                                                  exact h_iret X Y ⟨rfl, ⟨_, hc11, hc12⟩, hLa, hLb, hLc, hfr⟩ (Nat.le_of_ble_eq_true rfl) (Nat.le_of_ble_eq_true rfl) dX2_check_48
                                            exact loop8 12 40 (by omega) (by omega) (by omega) _ _ _ Y (lv_sub hl [2, 3, 0] rfl)
                                      exact loop7 2 38 (by omega) (by omega) (by omega) _ _ _ Y (lv_sub hl [2, 3, 0] rfl)
                                exact loop6 3 35 (by omega) (by omega) (by omega) _ _ _ Y (lv_sub hl [2, 3, 0] rfl)
                          exact loop5 9 26 (by omega) (by omega) (by omega) _ _ _ Y (lv_sub hl [2, 3, 0] rfl)
                    exact loop4 3 23 (by omega) (by omega) (by omega) _ _ _ Y (lv_sub hl [2, 3, 0] rfl)
              exact loop3 14 9 (by omega) (by omega) (by omega) _ _ _ Y (lv_sub hl [2, 3, 0] rfl)
        exact loop2 3 6 (by omega) (by omega) (by omega) _ _ _ Y (lv_sub hl [2, 3, 0] rfl)
  exact loop1 5 1 (by omega) (by omega) (by omega) _ _ _ Y (lv_sub hl [2, 3, 0] rfl)
set_option maxHeartbeats 4000000 in
set_option maxRecDepth 100000 in
theorem c_check11 (l : Launch) (G : hG) (M : hM) (A : Nat → Nat) (N : Nat) (sg : Nat → Nat) (nb : Nat → Int32) (wd : Nat → Int64) (hN : N < 400) (hTk : TkV G M A N sg nb wd) (hNv : N = 53) (hpat : ∀ j, j ≤ 53 → sg j = (fPat true true).getD j 0) (c0 : Int32) (wr : Int32) (g7 : Nat → Int64) (hc11 : M (A 11) = some (11, .inr (4, [.ref (A 3), .ref (A 12), .int c0, .int wr]))) (hc12 : M (A 12) = some (12, .inl (hT G 2, 8, .inr (.inl g7)))) (lst e0 qa qb qc : Nat) (La Lb Lc : hLy) (Fa Fb Fc : Nat → hFo) (hlO : LsO M lst 3013 e0 3) (hlE : LsE G M e0 3014 3 (gq qa qb qc)) (hLa : LaP G M qa 2000 La Fa) (hLb : LaP G M qb 2100 Lb Fb) (hLc : LaP G M qc 2200 Lc Fc) (hIc : lyI Lc = lyI0) (hw1 : wd 1 = 38) (hw2 : wd 9 = 76) (hw3 : wd 26 = 114) (hv1 : wd 23 = 38) (hv2 : wd 40 = 38) (hv3 : wd 42 = 76) (hx0 : ¬ nb 6 < 1) (hx1 : nb 6 ≤ 100) (hx2 : nb 35 ≤ 4) (hx3 : nb 37 ≤ 300) (hx4 : (0 : Int32) < nb 35)  : hCT l G yX2_check cX2_check 4 (Option.some FieldType.int) (hRm 6 0 0) M [.ref (A 11), .ref lst] (fun v M' => v = some (.int 0) ∧ (∃ f : Nat → Int64, M' (A 11) = some (11, .inr (4, [.ref (A 3), .ref (A 12), .int (nI 3), .int (-1)])) ∧ M' (A 12) = some (12, .inl (hT G 2, 8, .inr (.inl f)))) ∧ LaP G M' qa 2000 (lyU La 0 (nb (5 + 1))) Fa ∧ LaP G M' qb 2100 (lyNt Lb 0) Fb ∧ LaP G M' qc 2200 (lyNt (lyNt (lyX (lyU Lc 1 (nb (34 + 1))) (nb (36 + 1))) 0) 1) Fc ∧ hFr (fun u => u = 11 ∨ u = 12 ∨ (2000 ≤ u ∧ u < 2300)) M M') := by
  refine hCT.of (own := RX2) (nm := "check") (by decide) rfl rfl (Nat.le_of_ble_eq_true rfl) ?_
  intro p e s m args below meth c ls X Y hl
  have hx := X.1
  have hb := X.2.1
  have hl : lv_has ls 4 [(0, .ref (A 11)), (1, .ref lst)] := hl
  have hs7 : ∀ i, i ≤ N → sg i < 37 := fun i hi => by rw [hpat i (by omega)]; exact fp_11_7 i (by omega)
  have hfr : hFr (fun u => u = 11 ∨ u = 12 ∨ (2000 ≤ u ∧ u < 2300)) M M := hFr.rf
  refine lv_aload_n hx hb dX2_check_0 rfl (lv_at hl 0 rfl) ?_
  refine lv_iconst (v := 0) hx hb dX2_check_1 (by decide) ?_
  refine h_put X Y (k := 2) (v := .int 0) hc11 rfl hin_X2 tyX2_ok nmX2 (by decide) kfl_X2_15 rfl rfl rfl (Nat.le_of_ble_eq_true rfl) dX2_check_2 (fun H locs Y => ?_)
  have Y : hHS G (hup M (A 11) (11, .inr (4, [.ref (A 3), .ref (A 12), .int 0, .int wr]))) s H locs := Y
  have hTk := hTk.fr (hFr.put (Z := fun u => u = 11) (x := (11, .inr (4, [.ref (A 3), .ref (A 12), .int 0, .int wr]))) hFr.rf hc11 rfl) (fun j z1 z2 z3 => by omega)
  have hc12 := hup_tag (x := (11, .inr (4, [.ref (A 3), .ref (A 12), .int 0, .int wr]))) hc12 hc11 (by omega)
  have hlO := hlO.fr (hFr.put (Z := fun u => u = 11) (x := (11, .inr (4, [.ref (A 3), .ref (A 12), .int 0, .int wr]))) hFr.rf hc11 rfl) (by omega)
  have hlE := hlE.fr (hFr.put (Z := fun u => u = 11) (x := (11, .inr (4, [.ref (A 3), .ref (A 12), .int 0, .int wr]))) hFr.rf hc11 rfl) (by omega)
  have hLa := hLa.fr (hFr.put (Z := fun u => u = 11) (x := (11, .inr (4, [.ref (A 3), .ref (A 12), .int 0, .int wr]))) hFr.rf hc11 rfl) (fun j hj => by omega)
  have hLb := hLb.fr (hFr.put (Z := fun u => u = 11) (x := (11, .inr (4, [.ref (A 3), .ref (A 12), .int 0, .int wr]))) hFr.rf hc11 rfl) (fun j hj => by omega)
  have hLc := hLc.fr (hFr.put (Z := fun u => u = 11) (x := (11, .inr (4, [.ref (A 3), .ref (A 12), .int 0, .int wr]))) hFr.rf hc11 rfl) (fun j hj => by omega)
  have hfr := hfr.put (x := (11, .inr (4, [.ref (A 3), .ref (A 12), .int 0, .int wr]))) hc11 (Or.inl rfl)
  have hc11 : hup M (A 11) (11, .inr (4, [.ref (A 3), .ref (A 12), .int 0, .int wr])) (A 11) = some (11, .inr (4, [.ref (A 3), .ref (A 12), .int 0, .int wr])) := hup_eq
  generalize hup M (A 11) (11, .inr (4, [.ref (A 3), .ref (A 12), .int 0, .int wr])) = Mz1 at Y hc11 hTk hc12 hlO hlE hLa hLb hLc hfr
  refine lv_aload_n hx hb dX2_check_5 rfl (lv_at hl 0 rfl) ?_
  refine lv_iconst (v := (-1)) hx hb dX2_check_6 (by decide) ?_
  refine h_put X Y (k := 3) (v := .int (-1)) hc11 rfl hin_X2 tyX2_ok nmX2 (by decide) kfl_X2_19 rfl rfl rfl (Nat.le_of_ble_eq_true rfl) dX2_check_7 (fun H locs Y => ?_)
  have Y : hHS G (hup Mz1 (A 11) (11, .inr (4, [.ref (A 3), .ref (A 12), .int 0, .int (-1)]))) s H locs := Y
  have hTk := hTk.fr (hFr.put (Z := fun u => u = 11) (x := (11, .inr (4, [.ref (A 3), .ref (A 12), .int 0, .int (-1)]))) hFr.rf hc11 rfl) (fun j z1 z2 z3 => by omega)
  have hc12 := hup_tag (x := (11, .inr (4, [.ref (A 3), .ref (A 12), .int 0, .int (-1)]))) hc12 hc11 (by omega)
  have hlO := hlO.fr (hFr.put (Z := fun u => u = 11) (x := (11, .inr (4, [.ref (A 3), .ref (A 12), .int 0, .int (-1)]))) hFr.rf hc11 rfl) (by omega)
  have hlE := hlE.fr (hFr.put (Z := fun u => u = 11) (x := (11, .inr (4, [.ref (A 3), .ref (A 12), .int 0, .int (-1)]))) hFr.rf hc11 rfl) (by omega)
  have hLa := hLa.fr (hFr.put (Z := fun u => u = 11) (x := (11, .inr (4, [.ref (A 3), .ref (A 12), .int 0, .int (-1)]))) hFr.rf hc11 rfl) (fun j hj => by omega)
  have hLb := hLb.fr (hFr.put (Z := fun u => u = 11) (x := (11, .inr (4, [.ref (A 3), .ref (A 12), .int 0, .int (-1)]))) hFr.rf hc11 rfl) (fun j hj => by omega)
  have hLc := hLc.fr (hFr.put (Z := fun u => u = 11) (x := (11, .inr (4, [.ref (A 3), .ref (A 12), .int 0, .int (-1)]))) hFr.rf hc11 rfl) (fun j hj => by omega)
  have hfr := hfr.put (x := (11, .inr (4, [.ref (A 3), .ref (A 12), .int 0, .int (-1)]))) hc11 (Or.inl rfl)
  have hc11 : hup Mz1 (A 11) (11, .inr (4, [.ref (A 3), .ref (A 12), .int 0, .int (-1)])) (A 11) = some (11, .inr (4, [.ref (A 3), .ref (A 12), .int 0, .int (-1)])) := hup_eq
  generalize hup Mz1 (A 11) (11, .inr (4, [.ref (A 3), .ref (A 12), .int 0, .int (-1)])) = Mz2 at Y hc11 hTk hc12 hlO hlE hLa hLb hLc hfr
  have hc11 : Mz2 (A 11) = some (11, .inr (4, [.ref (A 3), .ref (A 12), .int (nI 0), .int (-1)])) := hc11
  refine lv_iconst (v := 1) hx hb dX2_check_10 (by decide) ?_
  refine lv_istore_n (lv' := [(2, .int 1), (0, .ref (A 11)), (1, .ref lst)]) hx hb dX2_check_11 rfl hl (by decide) rfl (fun ls hl => ?_)
  refine lv_iload_n hx hb dX2_check_12 rfl (lv_at hl 0 rfl) ?_
  refine lv_aload_n hx hb dX2_check_13 rfl (lv_at hl 1 rfl) ?_
  refine h_get X Y (k := 0) (v := .ref (A 3)) hc11 rfl hin_X2 (by decide) kfl_X2_22 rfl dX2_check_14 ?_
  refine h_get X Y (k := 4) (v := .int (nI (N + 1))) hTk.1 rfl hin_X9 (by decide) kfl_X2_26 rfl dX2_check_17 ?_
  refine lv_icmp_ge (tgt := 47) hx hb dX2_check_20 (by decide) (fun c20 => absurd (show (N + 1) ≤ 1 from (nI_leI (a := (N + 1)) (b := 1) (by omega) (by omega)).mp c20) (by omega)) (fun c20 => ?_)
  have c20 : ¬ (N + 1) ≤ 1 := fun z9 => c20 ((nI_leI (a := (N + 1)) (b := 1) (by omega) (by omega)).mpr z9)
  refine lv_aload_n hx hb dX2_check_23 rfl (lv_at hl 1 rfl) ?_
  refine lv_iload_n hx hb dX2_check_24 rfl (lv_at hl 0 rfl) ?_
  refine lv_aload_n hx hb dX2_check_25 rfl (lv_at hl 2 rfl) ?_
  have kq0 : sg 0 = 0 := hpat 0 (by omega)
  have kq1 : sg (0 + 1) = 33 := hpat 1 (by omega)
  refine h_callV (rest := []) X Y (c_errName l G Mz2 A N sg nb wd hN hTk hs7 0 (-1) g7 hc11 hc12 lst e0 (gq qa qb qc) hlO hlE 0 (by omega) kq0 kq1 (by omega) (fun j hj => absurd hj (by omega))) gw_X2_29 dsc_X2_errorOf hc11 rfl rfl rfl hl.1 rfl (Nat.le_of_ble_eq_true rfl) ⟨Nat.le_of_ble_eq_true rfl, Nat.le_of_ble_eq_true rfl⟩ ⟨Nat.le_of_ble_eq_true rfl, Nat.le_of_ble_eq_true rfl⟩ dX2_check_26 ?_
  rintro _ Mz3 H locs ⟨rfl, hc11, hc12, hfa⟩ Y
  have hTk := hTk.fr hfa (fun j z1 z2 z3 => by omega)
  have hlO := hlO.fr hfa (by omega)
  have hlE := hlE.fr hfa (by omega)
  have hLa := hLa.fr hfa (fun j hj => by omega)
  have hLb := hLb.fr hfa (fun j hj => by omega)
  have hLc := hLc.fr hfa (fun j hj => by omega)
  have hfr := hFr.tr hfr (hfa.mono (fun u z => by omega))
  have hf1_0 : (vp_updL g7 0 (wd (0 + 1))) 0 = 38 := pk_uLs.trans hw1
  try dsimp only [Option.toList, List.singleton_append]
  refine lv_istore_n (lv' := [(3, .int 0), (2, .int 1), (0, .ref (A 11)), (1, .ref lst)]) hx hb dX2_check_29 rfl hl (by decide) rfl (fun ls hl => ?_)
  refine lv_iload_n hx hb dX2_check_30 rfl (lv_at hl 0 rfl) ?_
  refine lv_if_eq (tgt := 41) hx hb dX2_check_31 (by decide) (fun c31 => ?_) (fun c31 => absurd (by decide) c31)
  refine lv_iinc (v := nI 2) (lv' := [(2, .int (nI 2)), (3, .int 0), (0, .ref (A 11)), (1, .ref lst)]) hx hb dX2_check_41 hl (k := 1) rfl (by decide) (by decide) rfl (fun ls hl => ?_)
  refine lv_goto (tgt := 12) hx hb dX2_check_44 (by decide) ?_
  have hl : lv_has ls 4 [(2, .int (nI (1 + 1))), (3, .int 0), (0, .ref (A 11)), (1, .ref lst)] := hl
  have hnn : ∀ i0, 1 ≤ i0 → i0 + 1 < 6 → (sg i0 ≠ 2 ∧ sg i0 ≠ 5 ∧ sg i0 ≠ 6) ∧ sg (i0 + 1) ≠ 33 := by
    intro i0 z1 z2
    rw [hpat i0 (by omega), hpat (i0 + 1) (by omega)]
    have hd : ∀ i0, i0 < 5 → 1 ≤ i0 → ((fPat true true).getD i0 0 ≠ 2 ∧ (fPat true true).getD i0 0 ≠ 5 ∧ (fPat true true).getD i0 0 ≠ 6) ∧ (fPat true true).getD (i0 + 1) 0 ≠ 33 := by decide
    exact hd i0 (by omega) z1
  have loop1 : ∀ (d i0 : Nat), i0 + 1 + d = 7 → 1 ≤ i0 → i0 + 1 ≤ 6 → ∀ (H : Heap) (locs : List Loc) (ls : Array Slot), hHS G Mz3 s H locs → lv_has ls 4 [(0, .ref (A 11)), (1, .ref lst), (2, .int (nI (i0 + 1)))] → W p l e (hRm 6 0 0) s m args below meth c H locs 0 0 (MQ below (hQ G (fun v M' => v = some (.int 0) ∧ (∃ f : Nat → Int64, M' (A 11) = some (11, .inr (4, [.ref (A 3), .ref (A 12), .int (nI 3), .int (-1)])) ∧ M' (A 12) = some (12, .inl (hT G 2, 8, .inr (.inl f)))) ∧ LaP G M' qa 2000 (lyU La 0 (nb (5 + 1))) Fa ∧ LaP G M' qb 2100 (lyNt Lb 0) Fb ∧ LaP G M' qc 2200 (lyNt (lyNt (lyX (lyU Lc 1 (nb (34 + 1))) (nb (36 + 1))) 0) 1) Fc ∧ hFr (fun u => u = 11 ∨ u = 12 ∨ (2000 ≤ u ∧ u < 2300)) M M')) args s 0 0 (hA G)) (F0 m 12 ls []) := by
    intro d
    induction d with
    | zero => intro i0 h1; intros; exact absurd h1 (by omega)
    | succ d ih1 =>
      intro i0 h1 h0 h2 H locs ls Y hl
      refine lv_iload_n hx hb dX2_check_12 rfl (lv_at hl 2 rfl) ?_
      rcases Nat.lt_or_ge (i0 + 1) 6 with hlt | hge
      · refine lv_aload_n hx hb dX2_check_13 rfl (lv_at hl 0 rfl) ?_
        refine h_get X Y (k := 0) (v := .ref (A 3)) hc11 rfl hin_X2 (by decide) kfl_X2_22 rfl dX2_check_14 ?_
        refine h_get X Y (k := 4) (v := .int (nI (N + 1))) hTk.1 rfl hin_X9 (by decide) kfl_X2_26 rfl dX2_check_17 ?_
        refine lv_icmp_ge (tgt := 47) hx hb dX2_check_20 (by decide) (fun c20 => absurd (show (N + 1) ≤ (i0 + 1) from (nI_leI (a := (N + 1)) (b := (i0 + 1)) (by omega) (by omega)).mp c20) (by omega)) (fun c20 => ?_)
        have c20 : ¬ (N + 1) ≤ (i0 + 1) := fun z9 => c20 ((nI_leI (a := (N + 1)) (b := (i0 + 1)) (by omega) (by omega)).mpr z9)
        refine lv_aload_n hx hb dX2_check_23 rfl (lv_at hl 0 rfl) ?_
        refine lv_iload_n hx hb dX2_check_24 rfl (lv_at hl 2 rfl) ?_
        refine lv_aload_n hx hb dX2_check_25 rfl (lv_at hl 1 rfl) ?_
        refine h_callVr (rest := []) X Y (c_errNone l G Mz3 A N sg nb wd hN hTk hs7 0 (-1) (vp_updL g7 0 (wd (0 + 1))) hc11 hc12 lst e0 (gq qa qb qc) hlO hlE i0 (by omega) (hnn i0 h0 hlt).1 (hnn i0 h0 hlt).2 2000 La (by omega) hLa.1 (by omega)) rfl rfl gw_X2_29 dsc_X2_errorOf hc11 rfl rfl rfl rfl hl.1 (Nat.le_of_ble_eq_true rfl) ⟨Nat.le_of_ble_eq_true rfl, Nat.le_of_ble_eq_true rfl⟩ ⟨Nat.le_of_ble_eq_true rfl, Nat.le_of_ble_eq_true rfl⟩ dX2_check_26 (fun H locs Y => ?_)
        refine lv_istore_n (lv' := [(3, .int 0), (0, .ref (A 11)), (1, .ref lst), (2, .int (nI (i0 + 1)))]) hx hb dX2_check_29 rfl hl (by decide) rfl (fun ls hl => ?_)
        refine lv_iload_n hx hb dX2_check_30 rfl (lv_at hl 0 rfl) ?_
        refine lv_if_eq (tgt := 41) hx hb dX2_check_31 (by decide) (fun c31 => ?_) (fun c31 => absurd (by decide) c31)
        refine lv_iinc (v := nI (i0 + 1 + 1)) (lv' := [(2, .int (nI (i0 + 1 + 1))), (3, .int 0), (0, .ref (A 11)), (1, .ref lst)]) hx hb dX2_check_41 hl (k := 3) rfl (nI_1 (i0 + 1)) (by decide) rfl (fun ls hl => ?_)
        refine lv_goto (tgt := 12) hx hb dX2_check_44 (by decide) ?_
        exact ih1 (i0 + 1) (by omega) (by omega) (by omega) _ _ _ Y (lv_sub hl [2, 3, 0] rfl)
      · obtain rfl : i0 = 5 := by omega
        have hl : lv_has ls 4 [(0, .ref (A 11)), (1, .ref lst), (2, .int (nI 6))] := hl
        refine lv_aload_n hx hb dX2_check_13 rfl (lv_at hl 0 rfl) ?_
        refine h_get X Y (k := 0) (v := .ref (A 3)) hc11 rfl hin_X2 (by decide) kfl_X2_22 rfl dX2_check_14 ?_
        refine h_get X Y (k := 4) (v := .int (nI (N + 1))) hTk.1 rfl hin_X9 (by decide) kfl_X2_26 rfl dX2_check_17 ?_
        refine lv_icmp_ge (tgt := 47) hx hb dX2_check_20 (by decide) (fun c20 => absurd (show (N + 1) ≤ 6 from (nI_leI (a := (N + 1)) (b := 6) (by omega) (by omega)).mp c20) (by omega)) (fun c20 => ?_)
        have c20 : ¬ (N + 1) ≤ 6 := fun z9 => c20 ((nI_leI (a := (N + 1)) (b := 6) (by omega) (by omega)).mpr z9)
        refine lv_aload_n hx hb dX2_check_23 rfl (lv_at hl 0 rfl) ?_
        refine lv_iload_n hx hb dX2_check_24 rfl (lv_at hl 2 rfl) ?_
        refine lv_aload_n hx hb dX2_check_25 rfl (lv_at hl 1 rfl) ?_
        have kq5 : sg 5 = 2 := hpat 5 (by omega)
        have kq6 : sg (5 + 1) = 34 := hpat 6 (by omega)
        refine h_callV (rest := []) X Y (c_errShare l G Mz3 A N sg nb wd hN hTk hs7 0 (-1) (vp_updL g7 0 (wd (0 + 1))) hc11 hc12 lst e0 (gq qa qb qc) hlO hlE 5 (by omega) kq5 (by omega) 2000 La (by omega) hLa.1 (by omega) hx0 hx1) gw_X2_29 dsc_X2_errorOf hc11 rfl rfl rfl hl.1 rfl (Nat.le_of_ble_eq_true rfl) ⟨Nat.le_of_ble_eq_true rfl, Nat.le_of_ble_eq_true rfl⟩ ⟨Nat.le_of_ble_eq_true rfl, Nat.le_of_ble_eq_true rfl⟩ dX2_check_26 ?_
        rintro _ Mz4 H locs ⟨rfl, hLy, hfa⟩ Y
        have hLa := hLa.upd hLy rfl rfl hfa
        have hTk := hTk.fr hfa (fun j z1 z2 z3 => by omega)
        have hlO := hlO.fr hfa (by omega)
        have hlE := hlE.fr hfa (by omega)
        have hLb := hLb.fr hfa (fun j hj => by omega)
        have hLc := hLc.fr hfa (fun j hj => by omega)
        have hc11 := hfa _ _ _ hc11 (by omega)
        have hc12 := hfa _ _ _ hc12 (by omega)
        have hfr := hFr.tr hfr (hfa.mono (fun u z => by omega))
        try dsimp only [Option.toList, List.singleton_append]
        refine lv_istore_n (lv' := [(3, .int 0), (0, .ref (A 11)), (1, .ref lst), (2, .int (nI 6))]) hx hb dX2_check_29 rfl hl (by decide) rfl (fun ls hl => ?_)
        refine lv_iload_n hx hb dX2_check_30 rfl (lv_at hl 0 rfl) ?_
        refine lv_if_eq (tgt := 41) hx hb dX2_check_31 (by decide) (fun c31 => ?_) (fun c31 => absurd (by decide) c31)
        refine lv_iinc (v := nI 7) (lv' := [(2, .int (nI 7)), (3, .int 0), (0, .ref (A 11)), (1, .ref lst)]) hx hb dX2_check_41 hl (k := 3) rfl (by decide) (by decide) rfl (fun ls hl => ?_)
        refine lv_goto (tgt := 12) hx hb dX2_check_44 (by decide) ?_
        have hl : lv_has ls 4 [(2, .int (nI (6 + 1))), (3, .int 0), (0, .ref (A 11)), (1, .ref lst)] := hl
        have hnn : ∀ i0, 6 ≤ i0 → i0 + 1 < 9 → (sg i0 ≠ 2 ∧ sg i0 ≠ 5 ∧ sg i0 ≠ 6) ∧ sg (i0 + 1) ≠ 33 := by
          intro i0 z1 z2
          rw [hpat i0 (by omega), hpat (i0 + 1) (by omega)]
          have hd : ∀ i0, i0 < 8 → 6 ≤ i0 → ((fPat true true).getD i0 0 ≠ 2 ∧ (fPat true true).getD i0 0 ≠ 5 ∧ (fPat true true).getD i0 0 ≠ 6) ∧ (fPat true true).getD (i0 + 1) 0 ≠ 33 := by decide
          exact hd i0 (by omega) z1
        have loop2 : ∀ (d i0 : Nat), i0 + 1 + d = 10 → 6 ≤ i0 → i0 + 1 ≤ 9 → ∀ (H : Heap) (locs : List Loc) (ls : Array Slot), hHS G Mz4 s H locs → lv_has ls 4 [(0, .ref (A 11)), (1, .ref lst), (2, .int (nI (i0 + 1)))] → W p l e (hRm 6 0 0) s m args below meth c H locs 0 0 (MQ below (hQ G (fun v M' => v = some (.int 0) ∧ (∃ f : Nat → Int64, M' (A 11) = some (11, .inr (4, [.ref (A 3), .ref (A 12), .int (nI 3), .int (-1)])) ∧ M' (A 12) = some (12, .inl (hT G 2, 8, .inr (.inl f)))) ∧ LaP G M' qa 2000 (lyU La 0 (nb (5 + 1))) Fa ∧ LaP G M' qb 2100 (lyNt Lb 0) Fb ∧ LaP G M' qc 2200 (lyNt (lyNt (lyX (lyU Lc 1 (nb (34 + 1))) (nb (36 + 1))) 0) 1) Fc ∧ hFr (fun u => u = 11 ∨ u = 12 ∨ (2000 ≤ u ∧ u < 2300)) M M')) args s 0 0 (hA G)) (F0 m 12 ls []) := by
          intro d
          induction d with
          | zero => intro i0 h1; intros; exact absurd h1 (by omega)
          | succ d ih2 =>
            intro i0 h1 h0 h2 H locs ls Y hl
            refine lv_iload_n hx hb dX2_check_12 rfl (lv_at hl 2 rfl) ?_
            rcases Nat.lt_or_ge (i0 + 1) 9 with hlt | hge
            · refine lv_aload_n hx hb dX2_check_13 rfl (lv_at hl 0 rfl) ?_
              refine h_get X Y (k := 0) (v := .ref (A 3)) hc11 rfl hin_X2 (by decide) kfl_X2_22 rfl dX2_check_14 ?_
              refine h_get X Y (k := 4) (v := .int (nI (N + 1))) hTk.1 rfl hin_X9 (by decide) kfl_X2_26 rfl dX2_check_17 ?_
              refine lv_icmp_ge (tgt := 47) hx hb dX2_check_20 (by decide) (fun c20 => absurd (show (N + 1) ≤ (i0 + 1) from (nI_leI (a := (N + 1)) (b := (i0 + 1)) (by omega) (by omega)).mp c20) (by omega)) (fun c20 => ?_)
              have c20 : ¬ (N + 1) ≤ (i0 + 1) := fun z9 => c20 ((nI_leI (a := (N + 1)) (b := (i0 + 1)) (by omega) (by omega)).mpr z9)
              refine lv_aload_n hx hb dX2_check_23 rfl (lv_at hl 0 rfl) ?_
              refine lv_iload_n hx hb dX2_check_24 rfl (lv_at hl 2 rfl) ?_
              refine lv_aload_n hx hb dX2_check_25 rfl (lv_at hl 1 rfl) ?_
              refine h_callVr (rest := []) X Y (c_errNone l G Mz4 A N sg nb wd hN hTk hs7 0 (-1) (vp_updL g7 0 (wd (0 + 1))) hc11 hc12 lst e0 (gq qa qb qc) hlO hlE i0 (by omega) (hnn i0 h0 hlt).1 (hnn i0 h0 hlt).2 2000 (lyU La 0 (nb (5 + 1))) (by omega) hLa.1 (by omega)) rfl rfl gw_X2_29 dsc_X2_errorOf hc11 rfl rfl rfl rfl hl.1 (Nat.le_of_ble_eq_true rfl) ⟨Nat.le_of_ble_eq_true rfl, Nat.le_of_ble_eq_true rfl⟩ ⟨Nat.le_of_ble_eq_true rfl, Nat.le_of_ble_eq_true rfl⟩ dX2_check_26 (fun H locs Y => ?_)
              refine lv_istore_n (lv' := [(3, .int 0), (0, .ref (A 11)), (1, .ref lst), (2, .int (nI (i0 + 1)))]) hx hb dX2_check_29 rfl hl (by decide) rfl (fun ls hl => ?_)
              refine lv_iload_n hx hb dX2_check_30 rfl (lv_at hl 0 rfl) ?_
              refine lv_if_eq (tgt := 41) hx hb dX2_check_31 (by decide) (fun c31 => ?_) (fun c31 => absurd (by decide) c31)
              refine lv_iinc (v := nI (i0 + 1 + 1)) (lv' := [(2, .int (nI (i0 + 1 + 1))), (3, .int 0), (0, .ref (A 11)), (1, .ref lst)]) hx hb dX2_check_41 hl (k := 3) rfl (nI_1 (i0 + 1)) (by decide) rfl (fun ls hl => ?_)
              refine lv_goto (tgt := 12) hx hb dX2_check_44 (by decide) ?_
              exact ih2 (i0 + 1) (by omega) (by omega) (by omega) _ _ _ Y (lv_sub hl [2, 3, 0] rfl)
            · obtain rfl : i0 = 8 := by omega
              have hl : lv_has ls 4 [(0, .ref (A 11)), (1, .ref lst), (2, .int (nI 9))] := hl
              refine lv_aload_n hx hb dX2_check_13 rfl (lv_at hl 0 rfl) ?_
              refine h_get X Y (k := 0) (v := .ref (A 3)) hc11 rfl hin_X2 (by decide) kfl_X2_22 rfl dX2_check_14 ?_
              refine h_get X Y (k := 4) (v := .int (nI (N + 1))) hTk.1 rfl hin_X9 (by decide) kfl_X2_26 rfl dX2_check_17 ?_
              refine lv_icmp_ge (tgt := 47) hx hb dX2_check_20 (by decide) (fun c20 => absurd (show (N + 1) ≤ 9 from (nI_leI (a := (N + 1)) (b := 9) (by omega) (by omega)).mp c20) (by omega)) (fun c20 => ?_)
              have c20 : ¬ (N + 1) ≤ 9 := fun z9 => c20 ((nI_leI (a := (N + 1)) (b := 9) (by omega) (by omega)).mpr z9)
              refine lv_aload_n hx hb dX2_check_23 rfl (lv_at hl 0 rfl) ?_
              refine lv_iload_n hx hb dX2_check_24 rfl (lv_at hl 2 rfl) ?_
              refine lv_aload_n hx hb dX2_check_25 rfl (lv_at hl 1 rfl) ?_
              have kq8 : sg 8 = 0 := hpat 8 (by omega)
              have kq9 : sg (8 + 1) = 33 := hpat 9 (by omega)
              refine h_callV (rest := []) X Y (c_errName l G Mz4 A N sg nb wd hN hTk hs7 1 (-1) (vp_updL g7 0 (wd (0 + 1))) hc11 hc12 lst e0 (gq qa qb qc) hlO hlE 8 (by omega) kq8 kq9 (by omega) (fun j hj => by rcases (show j = 0 by omega) with rfl; rw [hf1_0, show wd (8 + 1) = 76 from hw2]; decide)) gw_X2_29 dsc_X2_errorOf hc11 rfl rfl rfl hl.1 rfl (Nat.le_of_ble_eq_true rfl) ⟨Nat.le_of_ble_eq_true rfl, Nat.le_of_ble_eq_true rfl⟩ ⟨Nat.le_of_ble_eq_true rfl, Nat.le_of_ble_eq_true rfl⟩ dX2_check_26 ?_
              rintro _ Mz5 H locs ⟨rfl, hc11, hc12, hfa⟩ Y
              have hTk := hTk.fr hfa (fun j z1 z2 z3 => by omega)
              have hlO := hlO.fr hfa (by omega)
              have hlE := hlE.fr hfa (by omega)
              have hLa := hLa.fr hfa (fun j hj => by omega)
              have hLb := hLb.fr hfa (fun j hj => by omega)
              have hLc := hLc.fr hfa (fun j hj => by omega)
              have hfr := hFr.tr hfr (hfa.mono (fun u z => by omega))
              have hf2_0 : (vp_updL (vp_updL g7 0 (wd (0 + 1))) 1 (wd (8 + 1))) 0 = 38 := (pk_uLn (by omega)).trans hf1_0
              have hf2_1 : (vp_updL (vp_updL g7 0 (wd (0 + 1))) 1 (wd (8 + 1))) 1 = 76 := pk_uLs.trans hw2
              try dsimp only [Option.toList, List.singleton_append]
              refine lv_istore_n (lv' := [(3, .int 0), (0, .ref (A 11)), (1, .ref lst), (2, .int (nI 9))]) hx hb dX2_check_29 rfl hl (by decide) rfl (fun ls hl => ?_)
              refine lv_iload_n hx hb dX2_check_30 rfl (lv_at hl 0 rfl) ?_
              refine lv_if_eq (tgt := 41) hx hb dX2_check_31 (by decide) (fun c31 => ?_) (fun c31 => absurd (by decide) c31)
              refine lv_iinc (v := nI 10) (lv' := [(2, .int (nI 10)), (3, .int 0), (0, .ref (A 11)), (1, .ref lst)]) hx hb dX2_check_41 hl (k := 3) rfl (by decide) (by decide) rfl (fun ls hl => ?_)
              refine lv_goto (tgt := 12) hx hb dX2_check_44 (by decide) ?_
              have hl : lv_has ls 4 [(2, .int (nI (9 + 1))), (3, .int 0), (0, .ref (A 11)), (1, .ref lst)] := hl
              have hnn : ∀ i0, 9 ≤ i0 → i0 + 1 < 23 → (sg i0 ≠ 2 ∧ sg i0 ≠ 5 ∧ sg i0 ≠ 6) ∧ sg (i0 + 1) ≠ 33 := by
                intro i0 z1 z2
                rw [hpat i0 (by omega), hpat (i0 + 1) (by omega)]
                have hd : ∀ i0, i0 < 22 → 9 ≤ i0 → ((fPat true true).getD i0 0 ≠ 2 ∧ (fPat true true).getD i0 0 ≠ 5 ∧ (fPat true true).getD i0 0 ≠ 6) ∧ (fPat true true).getD (i0 + 1) 0 ≠ 33 := by decide
                exact hd i0 (by omega) z1
              have loop3 : ∀ (d i0 : Nat), i0 + 1 + d = 24 → 9 ≤ i0 → i0 + 1 ≤ 23 → ∀ (H : Heap) (locs : List Loc) (ls : Array Slot), hHS G Mz5 s H locs → lv_has ls 4 [(0, .ref (A 11)), (1, .ref lst), (2, .int (nI (i0 + 1)))] → W p l e (hRm 6 0 0) s m args below meth c H locs 0 0 (MQ below (hQ G (fun v M' => v = some (.int 0) ∧ (∃ f : Nat → Int64, M' (A 11) = some (11, .inr (4, [.ref (A 3), .ref (A 12), .int (nI 3), .int (-1)])) ∧ M' (A 12) = some (12, .inl (hT G 2, 8, .inr (.inl f)))) ∧ LaP G M' qa 2000 (lyU La 0 (nb (5 + 1))) Fa ∧ LaP G M' qb 2100 (lyNt Lb 0) Fb ∧ LaP G M' qc 2200 (lyNt (lyNt (lyX (lyU Lc 1 (nb (34 + 1))) (nb (36 + 1))) 0) 1) Fc ∧ hFr (fun u => u = 11 ∨ u = 12 ∨ (2000 ≤ u ∧ u < 2300)) M M')) args s 0 0 (hA G)) (F0 m 12 ls []) := by
                intro d
                induction d with
                | zero => intro i0 h1; intros; exact absurd h1 (by omega)
                | succ d ih3 =>
                  intro i0 h1 h0 h2 H locs ls Y hl
                  refine lv_iload_n hx hb dX2_check_12 rfl (lv_at hl 2 rfl) ?_
                  rcases Nat.lt_or_ge (i0 + 1) 23 with hlt | hge
                  · refine lv_aload_n hx hb dX2_check_13 rfl (lv_at hl 0 rfl) ?_
                    refine h_get X Y (k := 0) (v := .ref (A 3)) hc11 rfl hin_X2 (by decide) kfl_X2_22 rfl dX2_check_14 ?_
                    refine h_get X Y (k := 4) (v := .int (nI (N + 1))) hTk.1 rfl hin_X9 (by decide) kfl_X2_26 rfl dX2_check_17 ?_
                    refine lv_icmp_ge (tgt := 47) hx hb dX2_check_20 (by decide) (fun c20 => absurd (show (N + 1) ≤ (i0 + 1) from (nI_leI (a := (N + 1)) (b := (i0 + 1)) (by omega) (by omega)).mp c20) (by omega)) (fun c20 => ?_)
                    have c20 : ¬ (N + 1) ≤ (i0 + 1) := fun z9 => c20 ((nI_leI (a := (N + 1)) (b := (i0 + 1)) (by omega) (by omega)).mpr z9)
                    refine lv_aload_n hx hb dX2_check_23 rfl (lv_at hl 0 rfl) ?_
                    refine lv_iload_n hx hb dX2_check_24 rfl (lv_at hl 2 rfl) ?_
                    refine lv_aload_n hx hb dX2_check_25 rfl (lv_at hl 1 rfl) ?_
                    refine h_callVr (rest := []) X Y (c_errNone l G Mz5 A N sg nb wd hN hTk hs7 1 (-1) (vp_updL (vp_updL g7 0 (wd (0 + 1))) 1 (wd (8 + 1))) hc11 hc12 lst e0 (gq qa qb qc) hlO hlE i0 (by omega) (hnn i0 h0 hlt).1 (hnn i0 h0 hlt).2 2100 Lb (by omega) hLb.1 (by omega)) rfl rfl gw_X2_29 dsc_X2_errorOf hc11 rfl rfl rfl rfl hl.1 (Nat.le_of_ble_eq_true rfl) ⟨Nat.le_of_ble_eq_true rfl, Nat.le_of_ble_eq_true rfl⟩ ⟨Nat.le_of_ble_eq_true rfl, Nat.le_of_ble_eq_true rfl⟩ dX2_check_26 (fun H locs Y => ?_)
                    refine lv_istore_n (lv' := [(3, .int 0), (0, .ref (A 11)), (1, .ref lst), (2, .int (nI (i0 + 1)))]) hx hb dX2_check_29 rfl hl (by decide) rfl (fun ls hl => ?_)
                    refine lv_iload_n hx hb dX2_check_30 rfl (lv_at hl 0 rfl) ?_
                    refine lv_if_eq (tgt := 41) hx hb dX2_check_31 (by decide) (fun c31 => ?_) (fun c31 => absurd (by decide) c31)
                    refine lv_iinc (v := nI (i0 + 1 + 1)) (lv' := [(2, .int (nI (i0 + 1 + 1))), (3, .int 0), (0, .ref (A 11)), (1, .ref lst)]) hx hb dX2_check_41 hl (k := 3) rfl (nI_1 (i0 + 1)) (by decide) rfl (fun ls hl => ?_)
                    refine lv_goto (tgt := 12) hx hb dX2_check_44 (by decide) ?_
                    exact ih3 (i0 + 1) (by omega) (by omega) (by omega) _ _ _ Y (lv_sub hl [2, 3, 0] rfl)
                  · obtain rfl : i0 = 22 := by omega
                    have hl : lv_has ls 4 [(0, .ref (A 11)), (1, .ref lst), (2, .int (nI 23))] := hl
                    refine lv_aload_n hx hb dX2_check_13 rfl (lv_at hl 0 rfl) ?_
                    refine h_get X Y (k := 0) (v := .ref (A 3)) hc11 rfl hin_X2 (by decide) kfl_X2_22 rfl dX2_check_14 ?_
                    refine h_get X Y (k := 4) (v := .int (nI (N + 1))) hTk.1 rfl hin_X9 (by decide) kfl_X2_26 rfl dX2_check_17 ?_
                    refine lv_icmp_ge (tgt := 47) hx hb dX2_check_20 (by decide) (fun c20 => absurd (show (N + 1) ≤ 23 from (nI_leI (a := (N + 1)) (b := 23) (by omega) (by omega)).mp c20) (by omega)) (fun c20 => ?_)
                    have c20 : ¬ (N + 1) ≤ 23 := fun z9 => c20 ((nI_leI (a := (N + 1)) (b := 23) (by omega) (by omega)).mpr z9)
                    refine lv_aload_n hx hb dX2_check_23 rfl (lv_at hl 0 rfl) ?_
                    refine lv_iload_n hx hb dX2_check_24 rfl (lv_at hl 2 rfl) ?_
                    refine lv_aload_n hx hb dX2_check_25 rfl (lv_at hl 1 rfl) ?_
                    have kq22 : sg 22 = 8 := hpat 22 (by omega)
                    have kq23 : sg (22 + 1) = 33 := hpat 23 (by omega)
                    refine h_callV (rest := []) X Y (c_errNet l G Mz5 A N sg nb wd hN hTk hs7 1 (-1) (vp_updL (vp_updL g7 0 (wd (0 + 1))) 1 (wd (8 + 1))) hc11 hc12 lst e0 (gq qa qb qc) hlO hlE 22 (by omega) (by omega) kq23 2100 Lb (by omega) hLb.1 (by omega) 0 (by omega) (hf2_0.trans (show wd (22 + 1) = 38 from hv1).symm) (fun j hj => absurd hj (by omega))) gw_X2_29 dsc_X2_errorOf hc11 rfl rfl rfl hl.1 rfl (Nat.le_of_ble_eq_true rfl) ⟨Nat.le_of_ble_eq_true rfl, Nat.le_of_ble_eq_true rfl⟩ ⟨Nat.le_of_ble_eq_true rfl, Nat.le_of_ble_eq_true rfl⟩ dX2_check_26 ?_
                    rintro _ Mz6 H locs ⟨rfl, hLy, hfa⟩ Y
                    have hLb := hLb.upd hLy rfl rfl hfa
                    have hTk := hTk.fr hfa (fun j z1 z2 z3 => by omega)
                    have hlO := hlO.fr hfa (by omega)
                    have hlE := hlE.fr hfa (by omega)
                    have hLa := hLa.fr hfa (fun j hj => by omega)
                    have hLc := hLc.fr hfa (fun j hj => by omega)
                    have hc11 := hfa _ _ _ hc11 (by omega)
                    have hc12 := hfa _ _ _ hc12 (by omega)
                    have hfr := hFr.tr hfr (hfa.mono (fun u z => by omega))
                    try dsimp only [Option.toList, List.singleton_append]
                    refine lv_istore_n (lv' := [(3, .int 0), (0, .ref (A 11)), (1, .ref lst), (2, .int (nI 23))]) hx hb dX2_check_29 rfl hl (by decide) rfl (fun ls hl => ?_)
                    refine lv_iload_n hx hb dX2_check_30 rfl (lv_at hl 0 rfl) ?_
                    refine lv_if_eq (tgt := 41) hx hb dX2_check_31 (by decide) (fun c31 => ?_) (fun c31 => absurd (by decide) c31)
                    refine lv_iinc (v := nI 24) (lv' := [(2, .int (nI 24)), (3, .int 0), (0, .ref (A 11)), (1, .ref lst)]) hx hb dX2_check_41 hl (k := 3) rfl (by decide) (by decide) rfl (fun ls hl => ?_)
                    refine lv_goto (tgt := 12) hx hb dX2_check_44 (by decide) ?_
                    have hl : lv_has ls 4 [(2, .int (nI (23 + 1))), (3, .int 0), (0, .ref (A 11)), (1, .ref lst)] := hl
                    have hnn : ∀ i0, 23 ≤ i0 → i0 + 1 < 26 → (sg i0 ≠ 2 ∧ sg i0 ≠ 5 ∧ sg i0 ≠ 6) ∧ sg (i0 + 1) ≠ 33 := by
                      intro i0 z1 z2
                      rw [hpat i0 (by omega), hpat (i0 + 1) (by omega)]
                      have hd : ∀ i0, i0 < 25 → 23 ≤ i0 → ((fPat true true).getD i0 0 ≠ 2 ∧ (fPat true true).getD i0 0 ≠ 5 ∧ (fPat true true).getD i0 0 ≠ 6) ∧ (fPat true true).getD (i0 + 1) 0 ≠ 33 := by decide
                      exact hd i0 (by omega) z1
                    have loop4 : ∀ (d i0 : Nat), i0 + 1 + d = 27 → 23 ≤ i0 → i0 + 1 ≤ 26 → ∀ (H : Heap) (locs : List Loc) (ls : Array Slot), hHS G Mz6 s H locs → lv_has ls 4 [(0, .ref (A 11)), (1, .ref lst), (2, .int (nI (i0 + 1)))] → W p l e (hRm 6 0 0) s m args below meth c H locs 0 0 (MQ below (hQ G (fun v M' => v = some (.int 0) ∧ (∃ f : Nat → Int64, M' (A 11) = some (11, .inr (4, [.ref (A 3), .ref (A 12), .int (nI 3), .int (-1)])) ∧ M' (A 12) = some (12, .inl (hT G 2, 8, .inr (.inl f)))) ∧ LaP G M' qa 2000 (lyU La 0 (nb (5 + 1))) Fa ∧ LaP G M' qb 2100 (lyNt Lb 0) Fb ∧ LaP G M' qc 2200 (lyNt (lyNt (lyX (lyU Lc 1 (nb (34 + 1))) (nb (36 + 1))) 0) 1) Fc ∧ hFr (fun u => u = 11 ∨ u = 12 ∨ (2000 ≤ u ∧ u < 2300)) M M')) args s 0 0 (hA G)) (F0 m 12 ls []) := by
                      intro d
                      induction d with
                      | zero => intro i0 h1; intros; exact absurd h1 (by omega)
                      | succ d ih4 =>
                        intro i0 h1 h0 h2 H locs ls Y hl
                        refine lv_iload_n hx hb dX2_check_12 rfl (lv_at hl 2 rfl) ?_
                        rcases Nat.lt_or_ge (i0 + 1) 26 with hlt | hge
                        · refine lv_aload_n hx hb dX2_check_13 rfl (lv_at hl 0 rfl) ?_
                          refine h_get X Y (k := 0) (v := .ref (A 3)) hc11 rfl hin_X2 (by decide) kfl_X2_22 rfl dX2_check_14 ?_
                          refine h_get X Y (k := 4) (v := .int (nI (N + 1))) hTk.1 rfl hin_X9 (by decide) kfl_X2_26 rfl dX2_check_17 ?_
                          refine lv_icmp_ge (tgt := 47) hx hb dX2_check_20 (by decide) (fun c20 => absurd (show (N + 1) ≤ (i0 + 1) from (nI_leI (a := (N + 1)) (b := (i0 + 1)) (by omega) (by omega)).mp c20) (by omega)) (fun c20 => ?_)
                          have c20 : ¬ (N + 1) ≤ (i0 + 1) := fun z9 => c20 ((nI_leI (a := (N + 1)) (b := (i0 + 1)) (by omega) (by omega)).mpr z9)
                          refine lv_aload_n hx hb dX2_check_23 rfl (lv_at hl 0 rfl) ?_
                          refine lv_iload_n hx hb dX2_check_24 rfl (lv_at hl 2 rfl) ?_
                          refine lv_aload_n hx hb dX2_check_25 rfl (lv_at hl 1 rfl) ?_
                          refine h_callVr (rest := []) X Y (c_errNone l G Mz6 A N sg nb wd hN hTk hs7 1 (-1) (vp_updL (vp_updL g7 0 (wd (0 + 1))) 1 (wd (8 + 1))) hc11 hc12 lst e0 (gq qa qb qc) hlO hlE i0 (by omega) (hnn i0 h0 hlt).1 (hnn i0 h0 hlt).2 2100 (lyNt Lb 0) (by omega) hLb.1 (by omega)) rfl rfl gw_X2_29 dsc_X2_errorOf hc11 rfl rfl rfl rfl hl.1 (Nat.le_of_ble_eq_true rfl) ⟨Nat.le_of_ble_eq_true rfl, Nat.le_of_ble_eq_true rfl⟩ ⟨Nat.le_of_ble_eq_true rfl, Nat.le_of_ble_eq_true rfl⟩ dX2_check_26 (fun H locs Y => ?_)
                          refine lv_istore_n (lv' := [(3, .int 0), (0, .ref (A 11)), (1, .ref lst), (2, .int (nI (i0 + 1)))]) hx hb dX2_check_29 rfl hl (by decide) rfl (fun ls hl => ?_)
                          refine lv_iload_n hx hb dX2_check_30 rfl (lv_at hl 0 rfl) ?_
                          refine lv_if_eq (tgt := 41) hx hb dX2_check_31 (by decide) (fun c31 => ?_) (fun c31 => absurd (by decide) c31)
                          refine lv_iinc (v := nI (i0 + 1 + 1)) (lv' := [(2, .int (nI (i0 + 1 + 1))), (3, .int 0), (0, .ref (A 11)), (1, .ref lst)]) hx hb dX2_check_41 hl (k := 3) rfl (nI_1 (i0 + 1)) (by decide) rfl (fun ls hl => ?_)
                          refine lv_goto (tgt := 12) hx hb dX2_check_44 (by decide) ?_
                          exact ih4 (i0 + 1) (by omega) (by omega) (by omega) _ _ _ Y (lv_sub hl [2, 3, 0] rfl)
                        · obtain rfl : i0 = 25 := by omega
                          have hl : lv_has ls 4 [(0, .ref (A 11)), (1, .ref lst), (2, .int (nI 26))] := hl
                          refine lv_aload_n hx hb dX2_check_13 rfl (lv_at hl 0 rfl) ?_
                          refine h_get X Y (k := 0) (v := .ref (A 3)) hc11 rfl hin_X2 (by decide) kfl_X2_22 rfl dX2_check_14 ?_
                          refine h_get X Y (k := 4) (v := .int (nI (N + 1))) hTk.1 rfl hin_X9 (by decide) kfl_X2_26 rfl dX2_check_17 ?_
                          refine lv_icmp_ge (tgt := 47) hx hb dX2_check_20 (by decide) (fun c20 => absurd (show (N + 1) ≤ 26 from (nI_leI (a := (N + 1)) (b := 26) (by omega) (by omega)).mp c20) (by omega)) (fun c20 => ?_)
                          have c20 : ¬ (N + 1) ≤ 26 := fun z9 => c20 ((nI_leI (a := (N + 1)) (b := 26) (by omega) (by omega)).mpr z9)
                          refine lv_aload_n hx hb dX2_check_23 rfl (lv_at hl 0 rfl) ?_
                          refine lv_iload_n hx hb dX2_check_24 rfl (lv_at hl 2 rfl) ?_
                          refine lv_aload_n hx hb dX2_check_25 rfl (lv_at hl 1 rfl) ?_
                          have kq25 : sg 25 = 0 := hpat 25 (by omega)
                          have kq26 : sg (25 + 1) = 33 := hpat 26 (by omega)
                          refine h_callV (rest := []) X Y (c_errName l G Mz6 A N sg nb wd hN hTk hs7 2 (-1) (vp_updL (vp_updL g7 0 (wd (0 + 1))) 1 (wd (8 + 1))) hc11 hc12 lst e0 (gq qa qb qc) hlO hlE 25 (by omega) kq25 kq26 (by omega) (fun j hj => by rcases (show j = 0 ∨ j = 1 by omega) with rfl | rfl; rw [hf2_0, show wd (25 + 1) = 114 from hw3]; decide; rw [hf2_1, show wd (25 + 1) = 114 from hw3]; decide)) gw_X2_29 dsc_X2_errorOf hc11 rfl rfl rfl hl.1 rfl (Nat.le_of_ble_eq_true rfl) ⟨Nat.le_of_ble_eq_true rfl, Nat.le_of_ble_eq_true rfl⟩ ⟨Nat.le_of_ble_eq_true rfl, Nat.le_of_ble_eq_true rfl⟩ dX2_check_26 ?_
                          rintro _ Mz7 H locs ⟨rfl, hc11, hc12, hfa⟩ Y
                          have hTk := hTk.fr hfa (fun j z1 z2 z3 => by omega)
                          have hlO := hlO.fr hfa (by omega)
                          have hlE := hlE.fr hfa (by omega)
                          have hLa := hLa.fr hfa (fun j hj => by omega)
                          have hLb := hLb.fr hfa (fun j hj => by omega)
                          have hLc := hLc.fr hfa (fun j hj => by omega)
                          have hfr := hFr.tr hfr (hfa.mono (fun u z => by omega))
                          have hf3_0 : (vp_updL (vp_updL (vp_updL g7 0 (wd (0 + 1))) 1 (wd (8 + 1))) 2 (wd (25 + 1))) 0 = 38 := (pk_uLn (by omega)).trans hf2_0
                          have hf3_1 : (vp_updL (vp_updL (vp_updL g7 0 (wd (0 + 1))) 1 (wd (8 + 1))) 2 (wd (25 + 1))) 1 = 76 := (pk_uLn (by omega)).trans hf2_1
                          have hf3_2 : (vp_updL (vp_updL (vp_updL g7 0 (wd (0 + 1))) 1 (wd (8 + 1))) 2 (wd (25 + 1))) 2 = 114 := pk_uLs.trans hw3
                          try dsimp only [Option.toList, List.singleton_append]
                          refine lv_istore_n (lv' := [(3, .int 0), (0, .ref (A 11)), (1, .ref lst), (2, .int (nI 26))]) hx hb dX2_check_29 rfl hl (by decide) rfl (fun ls hl => ?_)
                          refine lv_iload_n hx hb dX2_check_30 rfl (lv_at hl 0 rfl) ?_
                          refine lv_if_eq (tgt := 41) hx hb dX2_check_31 (by decide) (fun c31 => ?_) (fun c31 => absurd (by decide) c31)
                          refine lv_iinc (v := nI 27) (lv' := [(2, .int (nI 27)), (3, .int 0), (0, .ref (A 11)), (1, .ref lst)]) hx hb dX2_check_41 hl (k := 3) rfl (by decide) (by decide) rfl (fun ls hl => ?_)
                          refine lv_goto (tgt := 12) hx hb dX2_check_44 (by decide) ?_
                          have hl : lv_has ls 4 [(2, .int (nI (26 + 1))), (3, .int 0), (0, .ref (A 11)), (1, .ref lst)] := hl
                          have hnn : ∀ i0, 26 ≤ i0 → i0 + 1 < 35 → (sg i0 ≠ 2 ∧ sg i0 ≠ 5 ∧ sg i0 ≠ 6) ∧ sg (i0 + 1) ≠ 33 := by
                            intro i0 z1 z2
                            rw [hpat i0 (by omega), hpat (i0 + 1) (by omega)]
                            have hd : ∀ i0, i0 < 34 → 26 ≤ i0 → ((fPat true true).getD i0 0 ≠ 2 ∧ (fPat true true).getD i0 0 ≠ 5 ∧ (fPat true true).getD i0 0 ≠ 6) ∧ (fPat true true).getD (i0 + 1) 0 ≠ 33 := by decide
                            exact hd i0 (by omega) z1
                          have loop5 : ∀ (d i0 : Nat), i0 + 1 + d = 36 → 26 ≤ i0 → i0 + 1 ≤ 35 → ∀ (H : Heap) (locs : List Loc) (ls : Array Slot), hHS G Mz7 s H locs → lv_has ls 4 [(0, .ref (A 11)), (1, .ref lst), (2, .int (nI (i0 + 1)))] → W p l e (hRm 6 0 0) s m args below meth c H locs 0 0 (MQ below (hQ G (fun v M' => v = some (.int 0) ∧ (∃ f : Nat → Int64, M' (A 11) = some (11, .inr (4, [.ref (A 3), .ref (A 12), .int (nI 3), .int (-1)])) ∧ M' (A 12) = some (12, .inl (hT G 2, 8, .inr (.inl f)))) ∧ LaP G M' qa 2000 (lyU La 0 (nb (5 + 1))) Fa ∧ LaP G M' qb 2100 (lyNt Lb 0) Fb ∧ LaP G M' qc 2200 (lyNt (lyNt (lyX (lyU Lc 1 (nb (34 + 1))) (nb (36 + 1))) 0) 1) Fc ∧ hFr (fun u => u = 11 ∨ u = 12 ∨ (2000 ≤ u ∧ u < 2300)) M M')) args s 0 0 (hA G)) (F0 m 12 ls []) := by
                            intro d
                            induction d with
                            | zero => intro i0 h1; intros; exact absurd h1 (by omega)
                            | succ d ih5 =>
                              intro i0 h1 h0 h2 H locs ls Y hl
                              refine lv_iload_n hx hb dX2_check_12 rfl (lv_at hl 2 rfl) ?_
                              rcases Nat.lt_or_ge (i0 + 1) 35 with hlt | hge
                              · refine lv_aload_n hx hb dX2_check_13 rfl (lv_at hl 0 rfl) ?_
                                refine h_get X Y (k := 0) (v := .ref (A 3)) hc11 rfl hin_X2 (by decide) kfl_X2_22 rfl dX2_check_14 ?_
                                refine h_get X Y (k := 4) (v := .int (nI (N + 1))) hTk.1 rfl hin_X9 (by decide) kfl_X2_26 rfl dX2_check_17 ?_
                                refine lv_icmp_ge (tgt := 47) hx hb dX2_check_20 (by decide) (fun c20 => absurd (show (N + 1) ≤ (i0 + 1) from (nI_leI (a := (N + 1)) (b := (i0 + 1)) (by omega) (by omega)).mp c20) (by omega)) (fun c20 => ?_)
                                have c20 : ¬ (N + 1) ≤ (i0 + 1) := fun z9 => c20 ((nI_leI (a := (N + 1)) (b := (i0 + 1)) (by omega) (by omega)).mpr z9)
                                refine lv_aload_n hx hb dX2_check_23 rfl (lv_at hl 0 rfl) ?_
                                refine lv_iload_n hx hb dX2_check_24 rfl (lv_at hl 2 rfl) ?_
                                refine lv_aload_n hx hb dX2_check_25 rfl (lv_at hl 1 rfl) ?_
                                refine h_callVr (rest := []) X Y (c_errNone l G Mz7 A N sg nb wd hN hTk hs7 2 (-1) (vp_updL (vp_updL (vp_updL g7 0 (wd (0 + 1))) 1 (wd (8 + 1))) 2 (wd (25 + 1))) hc11 hc12 lst e0 (gq qa qb qc) hlO hlE i0 (by omega) (hnn i0 h0 hlt).1 (hnn i0 h0 hlt).2 2200 Lc (by omega) hLc.1 (by omega)) rfl rfl gw_X2_29 dsc_X2_errorOf hc11 rfl rfl rfl rfl hl.1 (Nat.le_of_ble_eq_true rfl) ⟨Nat.le_of_ble_eq_true rfl, Nat.le_of_ble_eq_true rfl⟩ ⟨Nat.le_of_ble_eq_true rfl, Nat.le_of_ble_eq_true rfl⟩ dX2_check_26 (fun H locs Y => ?_)
                                refine lv_istore_n (lv' := [(3, .int 0), (0, .ref (A 11)), (1, .ref lst), (2, .int (nI (i0 + 1)))]) hx hb dX2_check_29 rfl hl (by decide) rfl (fun ls hl => ?_)
                                refine lv_iload_n hx hb dX2_check_30 rfl (lv_at hl 0 rfl) ?_
                                refine lv_if_eq (tgt := 41) hx hb dX2_check_31 (by decide) (fun c31 => ?_) (fun c31 => absurd (by decide) c31)
                                refine lv_iinc (v := nI (i0 + 1 + 1)) (lv' := [(2, .int (nI (i0 + 1 + 1))), (3, .int 0), (0, .ref (A 11)), (1, .ref lst)]) hx hb dX2_check_41 hl (k := 3) rfl (nI_1 (i0 + 1)) (by decide) rfl (fun ls hl => ?_)
                                refine lv_goto (tgt := 12) hx hb dX2_check_44 (by decide) ?_
                                exact ih5 (i0 + 1) (by omega) (by omega) (by omega) _ _ _ Y (lv_sub hl [2, 3, 0] rfl)
                              · obtain rfl : i0 = 34 := by omega
                                have hl : lv_has ls 4 [(0, .ref (A 11)), (1, .ref lst), (2, .int (nI 35))] := hl
                                refine lv_aload_n hx hb dX2_check_13 rfl (lv_at hl 0 rfl) ?_
                                refine h_get X Y (k := 0) (v := .ref (A 3)) hc11 rfl hin_X2 (by decide) kfl_X2_22 rfl dX2_check_14 ?_
                                refine h_get X Y (k := 4) (v := .int (nI (N + 1))) hTk.1 rfl hin_X9 (by decide) kfl_X2_26 rfl dX2_check_17 ?_
                                refine lv_icmp_ge (tgt := 47) hx hb dX2_check_20 (by decide) (fun c20 => absurd (show (N + 1) ≤ 35 from (nI_leI (a := (N + 1)) (b := 35) (by omega) (by omega)).mp c20) (by omega)) (fun c20 => ?_)
                                have c20 : ¬ (N + 1) ≤ 35 := fun z9 => c20 ((nI_leI (a := (N + 1)) (b := 35) (by omega) (by omega)).mpr z9)
                                refine lv_aload_n hx hb dX2_check_23 rfl (lv_at hl 0 rfl) ?_
                                refine lv_iload_n hx hb dX2_check_24 rfl (lv_at hl 2 rfl) ?_
                                refine lv_aload_n hx hb dX2_check_25 rfl (lv_at hl 1 rfl) ?_
                                have kq34 : sg 34 = 5 := hpat 34 (by omega)
                                have kq35 : sg (34 + 1) = 34 := hpat 35 (by omega)
                                refine h_callV (rest := []) X Y (c_errRein l G Mz7 A N sg nb wd hN hTk hs7 2 (-1) (vp_updL (vp_updL (vp_updL g7 0 (wd (0 + 1))) 1 (wd (8 + 1))) 2 (wd (25 + 1))) hc11 hc12 lst e0 (gq qa qb qc) hlO hlE 34 (by omega) kq34 (by omega) 2200 Lc (by omega) hLc.1 (by omega) hx2) gw_X2_29 dsc_X2_errorOf hc11 rfl rfl rfl hl.1 rfl (Nat.le_of_ble_eq_true rfl) ⟨Nat.le_of_ble_eq_true rfl, Nat.le_of_ble_eq_true rfl⟩ ⟨Nat.le_of_ble_eq_true rfl, Nat.le_of_ble_eq_true rfl⟩ dX2_check_26 ?_
                                rintro _ Mz8 H locs ⟨rfl, hLy, hfa⟩ Y
                                have hLc := hLc.upd hLy rfl rfl hfa
                                have hTk := hTk.fr hfa (fun j z1 z2 z3 => by omega)
                                have hlO := hlO.fr hfa (by omega)
                                have hlE := hlE.fr hfa (by omega)
                                have hLa := hLa.fr hfa (fun j hj => by omega)
                                have hLb := hLb.fr hfa (fun j hj => by omega)
                                have hc11 := hfa _ _ _ hc11 (by omega)
                                have hc12 := hfa _ _ _ hc12 (by omega)
                                have hfr := hFr.tr hfr (hfa.mono (fun u z => by omega))
                                try dsimp only [Option.toList, List.singleton_append]
                                refine lv_istore_n (lv' := [(3, .int 0), (0, .ref (A 11)), (1, .ref lst), (2, .int (nI 35))]) hx hb dX2_check_29 rfl hl (by decide) rfl (fun ls hl => ?_)
                                refine lv_iload_n hx hb dX2_check_30 rfl (lv_at hl 0 rfl) ?_
                                refine lv_if_eq (tgt := 41) hx hb dX2_check_31 (by decide) (fun c31 => ?_) (fun c31 => absurd (by decide) c31)
                                refine lv_iinc (v := nI 36) (lv' := [(2, .int (nI 36)), (3, .int 0), (0, .ref (A 11)), (1, .ref lst)]) hx hb dX2_check_41 hl (k := 3) rfl (by decide) (by decide) rfl (fun ls hl => ?_)
                                refine lv_goto (tgt := 12) hx hb dX2_check_44 (by decide) ?_
                                have hl : lv_has ls 4 [(2, .int (nI (35 + 1))), (3, .int 0), (0, .ref (A 11)), (1, .ref lst)] := hl
                                have hnn : ∀ i0, 35 ≤ i0 → i0 + 1 < 37 → (sg i0 ≠ 2 ∧ sg i0 ≠ 5 ∧ sg i0 ≠ 6) ∧ sg (i0 + 1) ≠ 33 := by
                                  intro i0 z1 z2
                                  rw [hpat i0 (by omega), hpat (i0 + 1) (by omega)]
                                  have hd : ∀ i0, i0 < 36 → 35 ≤ i0 → ((fPat true true).getD i0 0 ≠ 2 ∧ (fPat true true).getD i0 0 ≠ 5 ∧ (fPat true true).getD i0 0 ≠ 6) ∧ (fPat true true).getD (i0 + 1) 0 ≠ 33 := by decide
                                  exact hd i0 (by omega) z1
                                have loop6 : ∀ (d i0 : Nat), i0 + 1 + d = 38 → 35 ≤ i0 → i0 + 1 ≤ 37 → ∀ (H : Heap) (locs : List Loc) (ls : Array Slot), hHS G Mz8 s H locs → lv_has ls 4 [(0, .ref (A 11)), (1, .ref lst), (2, .int (nI (i0 + 1)))] → W p l e (hRm 6 0 0) s m args below meth c H locs 0 0 (MQ below (hQ G (fun v M' => v = some (.int 0) ∧ (∃ f : Nat → Int64, M' (A 11) = some (11, .inr (4, [.ref (A 3), .ref (A 12), .int (nI 3), .int (-1)])) ∧ M' (A 12) = some (12, .inl (hT G 2, 8, .inr (.inl f)))) ∧ LaP G M' qa 2000 (lyU La 0 (nb (5 + 1))) Fa ∧ LaP G M' qb 2100 (lyNt Lb 0) Fb ∧ LaP G M' qc 2200 (lyNt (lyNt (lyX (lyU Lc 1 (nb (34 + 1))) (nb (36 + 1))) 0) 1) Fc ∧ hFr (fun u => u = 11 ∨ u = 12 ∨ (2000 ≤ u ∧ u < 2300)) M M')) args s 0 0 (hA G)) (F0 m 12 ls []) := by
                                  intro d
                                  induction d with
                                  | zero => intro i0 h1; intros; exact absurd h1 (by omega)
                                  | succ d ih6 =>
                                    intro i0 h1 h0 h2 H locs ls Y hl
                                    refine lv_iload_n hx hb dX2_check_12 rfl (lv_at hl 2 rfl) ?_
                                    rcases Nat.lt_or_ge (i0 + 1) 37 with hlt | hge
                                    · refine lv_aload_n hx hb dX2_check_13 rfl (lv_at hl 0 rfl) ?_
                                      refine h_get X Y (k := 0) (v := .ref (A 3)) hc11 rfl hin_X2 (by decide) kfl_X2_22 rfl dX2_check_14 ?_
                                      refine h_get X Y (k := 4) (v := .int (nI (N + 1))) hTk.1 rfl hin_X9 (by decide) kfl_X2_26 rfl dX2_check_17 ?_
                                      refine lv_icmp_ge (tgt := 47) hx hb dX2_check_20 (by decide) (fun c20 => absurd (show (N + 1) ≤ (i0 + 1) from (nI_leI (a := (N + 1)) (b := (i0 + 1)) (by omega) (by omega)).mp c20) (by omega)) (fun c20 => ?_)
                                      have c20 : ¬ (N + 1) ≤ (i0 + 1) := fun z9 => c20 ((nI_leI (a := (N + 1)) (b := (i0 + 1)) (by omega) (by omega)).mpr z9)
                                      refine lv_aload_n hx hb dX2_check_23 rfl (lv_at hl 0 rfl) ?_
                                      refine lv_iload_n hx hb dX2_check_24 rfl (lv_at hl 2 rfl) ?_
                                      refine lv_aload_n hx hb dX2_check_25 rfl (lv_at hl 1 rfl) ?_
                                      refine h_callVr (rest := []) X Y (c_errNone l G Mz8 A N sg nb wd hN hTk hs7 2 (-1) (vp_updL (vp_updL (vp_updL g7 0 (wd (0 + 1))) 1 (wd (8 + 1))) 2 (wd (25 + 1))) hc11 hc12 lst e0 (gq qa qb qc) hlO hlE i0 (by omega) (hnn i0 h0 hlt).1 (hnn i0 h0 hlt).2 2200 (lyU Lc 1 (nb (34 + 1))) (by omega) hLc.1 (by omega)) rfl rfl gw_X2_29 dsc_X2_errorOf hc11 rfl rfl rfl rfl hl.1 (Nat.le_of_ble_eq_true rfl) ⟨Nat.le_of_ble_eq_true rfl, Nat.le_of_ble_eq_true rfl⟩ ⟨Nat.le_of_ble_eq_true rfl, Nat.le_of_ble_eq_true rfl⟩ dX2_check_26 (fun H locs Y => ?_)
                                      refine lv_istore_n (lv' := [(3, .int 0), (0, .ref (A 11)), (1, .ref lst), (2, .int (nI (i0 + 1)))]) hx hb dX2_check_29 rfl hl (by decide) rfl (fun ls hl => ?_)
                                      refine lv_iload_n hx hb dX2_check_30 rfl (lv_at hl 0 rfl) ?_
                                      refine lv_if_eq (tgt := 41) hx hb dX2_check_31 (by decide) (fun c31 => ?_) (fun c31 => absurd (by decide) c31)
                                      refine lv_iinc (v := nI (i0 + 1 + 1)) (lv' := [(2, .int (nI (i0 + 1 + 1))), (3, .int 0), (0, .ref (A 11)), (1, .ref lst)]) hx hb dX2_check_41 hl (k := 3) rfl (nI_1 (i0 + 1)) (by decide) rfl (fun ls hl => ?_)
                                      refine lv_goto (tgt := 12) hx hb dX2_check_44 (by decide) ?_
                                      exact ih6 (i0 + 1) (by omega) (by omega) (by omega) _ _ _ Y (lv_sub hl [2, 3, 0] rfl)
                                    · obtain rfl : i0 = 36 := by omega
                                      have hl : lv_has ls 4 [(0, .ref (A 11)), (1, .ref lst), (2, .int (nI 37))] := hl
                                      refine lv_aload_n hx hb dX2_check_13 rfl (lv_at hl 0 rfl) ?_
                                      refine h_get X Y (k := 0) (v := .ref (A 3)) hc11 rfl hin_X2 (by decide) kfl_X2_22 rfl dX2_check_14 ?_
                                      refine h_get X Y (k := 4) (v := .int (nI (N + 1))) hTk.1 rfl hin_X9 (by decide) kfl_X2_26 rfl dX2_check_17 ?_
                                      refine lv_icmp_ge (tgt := 47) hx hb dX2_check_20 (by decide) (fun c20 => absurd (show (N + 1) ≤ 37 from (nI_leI (a := (N + 1)) (b := 37) (by omega) (by omega)).mp c20) (by omega)) (fun c20 => ?_)
                                      have c20 : ¬ (N + 1) ≤ 37 := fun z9 => c20 ((nI_leI (a := (N + 1)) (b := 37) (by omega) (by omega)).mpr z9)
                                      refine lv_aload_n hx hb dX2_check_23 rfl (lv_at hl 0 rfl) ?_
                                      refine lv_iload_n hx hb dX2_check_24 rfl (lv_at hl 2 rfl) ?_
                                      refine lv_aload_n hx hb dX2_check_25 rfl (lv_at hl 1 rfl) ?_
                                      have kq36 : sg 36 = 6 := hpat 36 (by omega)
                                      have kq37 : sg (36 + 1) = 34 := hpat 37 (by omega)
                                      refine h_callV (rest := []) X Y (c_errAt l G Mz8 A N sg nb wd hN hTk hs7 2 (-1) (vp_updL (vp_updL (vp_updL g7 0 (wd (0 + 1))) 1 (wd (8 + 1))) 2 (wd (25 + 1))) hc11 hc12 lst e0 (gq qa qb qc) hlO hlE 36 (by omega) kq36 (by omega) 2200 (lyU Lc 1 (nb (34 + 1))) (by omega) hLc.1 (by omega) hx3 (by show upd (lyI Lc) 1 (nb (34 + 1)) 2 = 0; rw [hIc]; rfl) hx4) gw_X2_29 dsc_X2_errorOf hc11 rfl rfl rfl hl.1 rfl (Nat.le_of_ble_eq_true rfl) ⟨Nat.le_of_ble_eq_true rfl, Nat.le_of_ble_eq_true rfl⟩ ⟨Nat.le_of_ble_eq_true rfl, Nat.le_of_ble_eq_true rfl⟩ dX2_check_26 ?_
                                      rintro _ Mz9 H locs ⟨rfl, hLy, hfa⟩ Y
                                      have hLc := hLc.upd hLy rfl rfl hfa
                                      have hTk := hTk.fr hfa (fun j z1 z2 z3 => by omega)
                                      have hlO := hlO.fr hfa (by omega)
                                      have hlE := hlE.fr hfa (by omega)
                                      have hLa := hLa.fr hfa (fun j hj => by omega)
                                      have hLb := hLb.fr hfa (fun j hj => by omega)
                                      have hc11 := hfa _ _ _ hc11 (by omega)
                                      have hc12 := hfa _ _ _ hc12 (by omega)
                                      have hfr := hFr.tr hfr (hfa.mono (fun u z => by omega))
                                      try dsimp only [Option.toList, List.singleton_append]
                                      refine lv_istore_n (lv' := [(3, .int 0), (0, .ref (A 11)), (1, .ref lst), (2, .int (nI 37))]) hx hb dX2_check_29 rfl hl (by decide) rfl (fun ls hl => ?_)
                                      refine lv_iload_n hx hb dX2_check_30 rfl (lv_at hl 0 rfl) ?_
                                      refine lv_if_eq (tgt := 41) hx hb dX2_check_31 (by decide) (fun c31 => ?_) (fun c31 => absurd (by decide) c31)
                                      refine lv_iinc (v := nI 38) (lv' := [(2, .int (nI 38)), (3, .int 0), (0, .ref (A 11)), (1, .ref lst)]) hx hb dX2_check_41 hl (k := 3) rfl (by decide) (by decide) rfl (fun ls hl => ?_)
                                      refine lv_goto (tgt := 12) hx hb dX2_check_44 (by decide) ?_
                                      have hl : lv_has ls 4 [(2, .int (nI (37 + 1))), (3, .int 0), (0, .ref (A 11)), (1, .ref lst)] := hl
                                      have hnn : ∀ i0, 37 ≤ i0 → i0 + 1 < 40 → (sg i0 ≠ 2 ∧ sg i0 ≠ 5 ∧ sg i0 ≠ 6) ∧ sg (i0 + 1) ≠ 33 := by
                                        intro i0 z1 z2
                                        rw [hpat i0 (by omega), hpat (i0 + 1) (by omega)]
                                        have hd : ∀ i0, i0 < 39 → 37 ≤ i0 → ((fPat true true).getD i0 0 ≠ 2 ∧ (fPat true true).getD i0 0 ≠ 5 ∧ (fPat true true).getD i0 0 ≠ 6) ∧ (fPat true true).getD (i0 + 1) 0 ≠ 33 := by decide
                                        exact hd i0 (by omega) z1
                                      have loop7 : ∀ (d i0 : Nat), i0 + 1 + d = 41 → 37 ≤ i0 → i0 + 1 ≤ 40 → ∀ (H : Heap) (locs : List Loc) (ls : Array Slot), hHS G Mz9 s H locs → lv_has ls 4 [(0, .ref (A 11)), (1, .ref lst), (2, .int (nI (i0 + 1)))] → W p l e (hRm 6 0 0) s m args below meth c H locs 0 0 (MQ below (hQ G (fun v M' => v = some (.int 0) ∧ (∃ f : Nat → Int64, M' (A 11) = some (11, .inr (4, [.ref (A 3), .ref (A 12), .int (nI 3), .int (-1)])) ∧ M' (A 12) = some (12, .inl (hT G 2, 8, .inr (.inl f)))) ∧ LaP G M' qa 2000 (lyU La 0 (nb (5 + 1))) Fa ∧ LaP G M' qb 2100 (lyNt Lb 0) Fb ∧ LaP G M' qc 2200 (lyNt (lyNt (lyX (lyU Lc 1 (nb (34 + 1))) (nb (36 + 1))) 0) 1) Fc ∧ hFr (fun u => u = 11 ∨ u = 12 ∨ (2000 ≤ u ∧ u < 2300)) M M')) args s 0 0 (hA G)) (F0 m 12 ls []) := by
                                        intro d
                                        induction d with
                                        | zero => intro i0 h1; intros; exact absurd h1 (by omega)
                                        | succ d ih7 =>
                                          intro i0 h1 h0 h2 H locs ls Y hl
                                          refine lv_iload_n hx hb dX2_check_12 rfl (lv_at hl 2 rfl) ?_
                                          rcases Nat.lt_or_ge (i0 + 1) 40 with hlt | hge
                                          · refine lv_aload_n hx hb dX2_check_13 rfl (lv_at hl 0 rfl) ?_
                                            refine h_get X Y (k := 0) (v := .ref (A 3)) hc11 rfl hin_X2 (by decide) kfl_X2_22 rfl dX2_check_14 ?_
                                            refine h_get X Y (k := 4) (v := .int (nI (N + 1))) hTk.1 rfl hin_X9 (by decide) kfl_X2_26 rfl dX2_check_17 ?_
                                            refine lv_icmp_ge (tgt := 47) hx hb dX2_check_20 (by decide) (fun c20 => absurd (show (N + 1) ≤ (i0 + 1) from (nI_leI (a := (N + 1)) (b := (i0 + 1)) (by omega) (by omega)).mp c20) (by omega)) (fun c20 => ?_)
                                            have c20 : ¬ (N + 1) ≤ (i0 + 1) := fun z9 => c20 ((nI_leI (a := (N + 1)) (b := (i0 + 1)) (by omega) (by omega)).mpr z9)
                                            refine lv_aload_n hx hb dX2_check_23 rfl (lv_at hl 0 rfl) ?_
                                            refine lv_iload_n hx hb dX2_check_24 rfl (lv_at hl 2 rfl) ?_
                                            refine lv_aload_n hx hb dX2_check_25 rfl (lv_at hl 1 rfl) ?_
                                            refine h_callVr (rest := []) X Y (c_errNone l G Mz9 A N sg nb wd hN hTk hs7 2 (-1) (vp_updL (vp_updL (vp_updL g7 0 (wd (0 + 1))) 1 (wd (8 + 1))) 2 (wd (25 + 1))) hc11 hc12 lst e0 (gq qa qb qc) hlO hlE i0 (by omega) (hnn i0 h0 hlt).1 (hnn i0 h0 hlt).2 2200 (lyX (lyU Lc 1 (nb (34 + 1))) (nb (36 + 1))) (by omega) hLc.1 (by omega)) rfl rfl gw_X2_29 dsc_X2_errorOf hc11 rfl rfl rfl rfl hl.1 (Nat.le_of_ble_eq_true rfl) ⟨Nat.le_of_ble_eq_true rfl, Nat.le_of_ble_eq_true rfl⟩ ⟨Nat.le_of_ble_eq_true rfl, Nat.le_of_ble_eq_true rfl⟩ dX2_check_26 (fun H locs Y => ?_)
                                            refine lv_istore_n (lv' := [(3, .int 0), (0, .ref (A 11)), (1, .ref lst), (2, .int (nI (i0 + 1)))]) hx hb dX2_check_29 rfl hl (by decide) rfl (fun ls hl => ?_)
                                            refine lv_iload_n hx hb dX2_check_30 rfl (lv_at hl 0 rfl) ?_
                                            refine lv_if_eq (tgt := 41) hx hb dX2_check_31 (by decide) (fun c31 => ?_) (fun c31 => absurd (by decide) c31)
                                            refine lv_iinc (v := nI (i0 + 1 + 1)) (lv' := [(2, .int (nI (i0 + 1 + 1))), (3, .int 0), (0, .ref (A 11)), (1, .ref lst)]) hx hb dX2_check_41 hl (k := 3) rfl (nI_1 (i0 + 1)) (by decide) rfl (fun ls hl => ?_)
                                            refine lv_goto (tgt := 12) hx hb dX2_check_44 (by decide) ?_
                                            exact ih7 (i0 + 1) (by omega) (by omega) (by omega) _ _ _ Y (lv_sub hl [2, 3, 0] rfl)
                                          · obtain rfl : i0 = 39 := by omega
                                            have hl : lv_has ls 4 [(0, .ref (A 11)), (1, .ref lst), (2, .int (nI 40))] := hl
                                            refine lv_aload_n hx hb dX2_check_13 rfl (lv_at hl 0 rfl) ?_
                                            refine h_get X Y (k := 0) (v := .ref (A 3)) hc11 rfl hin_X2 (by decide) kfl_X2_22 rfl dX2_check_14 ?_
                                            refine h_get X Y (k := 4) (v := .int (nI (N + 1))) hTk.1 rfl hin_X9 (by decide) kfl_X2_26 rfl dX2_check_17 ?_
                                            refine lv_icmp_ge (tgt := 47) hx hb dX2_check_20 (by decide) (fun c20 => absurd (show (N + 1) ≤ 40 from (nI_leI (a := (N + 1)) (b := 40) (by omega) (by omega)).mp c20) (by omega)) (fun c20 => ?_)
                                            have c20 : ¬ (N + 1) ≤ 40 := fun z9 => c20 ((nI_leI (a := (N + 1)) (b := 40) (by omega) (by omega)).mpr z9)
                                            refine lv_aload_n hx hb dX2_check_23 rfl (lv_at hl 0 rfl) ?_
                                            refine lv_iload_n hx hb dX2_check_24 rfl (lv_at hl 2 rfl) ?_
                                            refine lv_aload_n hx hb dX2_check_25 rfl (lv_at hl 1 rfl) ?_
                                            have kq39 : sg 39 = 8 := hpat 39 (by omega)
                                            have kq40 : sg (39 + 1) = 33 := hpat 40 (by omega)
                                            refine h_callV (rest := []) X Y (c_errNet l G Mz9 A N sg nb wd hN hTk hs7 2 (-1) (vp_updL (vp_updL (vp_updL g7 0 (wd (0 + 1))) 1 (wd (8 + 1))) 2 (wd (25 + 1))) hc11 hc12 lst e0 (gq qa qb qc) hlO hlE 39 (by omega) (by omega) kq40 2200 (lyX (lyU Lc 1 (nb (34 + 1))) (nb (36 + 1))) (by omega) hLc.1 (by omega) 0 (by omega) (hf3_0.trans (show wd (39 + 1) = 38 from hv2).symm) (fun j hj => absurd hj (by omega))) gw_X2_29 dsc_X2_errorOf hc11 rfl rfl rfl hl.1 rfl (Nat.le_of_ble_eq_true rfl) ⟨Nat.le_of_ble_eq_true rfl, Nat.le_of_ble_eq_true rfl⟩ ⟨Nat.le_of_ble_eq_true rfl, Nat.le_of_ble_eq_true rfl⟩ dX2_check_26 ?_
                                            rintro _ Mz10 H locs ⟨rfl, hLy, hfa⟩ Y
                                            have hLc := hLc.upd hLy rfl rfl hfa
                                            have hTk := hTk.fr hfa (fun j z1 z2 z3 => by omega)
                                            have hlO := hlO.fr hfa (by omega)
                                            have hlE := hlE.fr hfa (by omega)
                                            have hLa := hLa.fr hfa (fun j hj => by omega)
                                            have hLb := hLb.fr hfa (fun j hj => by omega)
                                            have hc11 := hfa _ _ _ hc11 (by omega)
                                            have hc12 := hfa _ _ _ hc12 (by omega)
                                            have hfr := hFr.tr hfr (hfa.mono (fun u z => by omega))
                                            try dsimp only [Option.toList, List.singleton_append]
                                            refine lv_istore_n (lv' := [(3, .int 0), (0, .ref (A 11)), (1, .ref lst), (2, .int (nI 40))]) hx hb dX2_check_29 rfl hl (by decide) rfl (fun ls hl => ?_)
                                            refine lv_iload_n hx hb dX2_check_30 rfl (lv_at hl 0 rfl) ?_
                                            refine lv_if_eq (tgt := 41) hx hb dX2_check_31 (by decide) (fun c31 => ?_) (fun c31 => absurd (by decide) c31)
                                            refine lv_iinc (v := nI 41) (lv' := [(2, .int (nI 41)), (3, .int 0), (0, .ref (A 11)), (1, .ref lst)]) hx hb dX2_check_41 hl (k := 3) rfl (by decide) (by decide) rfl (fun ls hl => ?_)
                                            refine lv_goto (tgt := 12) hx hb dX2_check_44 (by decide) ?_
                                            have hl : lv_has ls 4 [(2, .int (nI (40 + 1))), (3, .int 0), (0, .ref (A 11)), (1, .ref lst)] := hl
                                            have hnn : ∀ i0, 40 ≤ i0 → i0 + 1 < 42 → (sg i0 ≠ 2 ∧ sg i0 ≠ 5 ∧ sg i0 ≠ 6) ∧ sg (i0 + 1) ≠ 33 := by
                                              intro i0 z1 z2
                                              rw [hpat i0 (by omega), hpat (i0 + 1) (by omega)]
                                              have hd : ∀ i0, i0 < 41 → 40 ≤ i0 → ((fPat true true).getD i0 0 ≠ 2 ∧ (fPat true true).getD i0 0 ≠ 5 ∧ (fPat true true).getD i0 0 ≠ 6) ∧ (fPat true true).getD (i0 + 1) 0 ≠ 33 := by decide
                                              exact hd i0 (by omega) z1
                                            have loop8 : ∀ (d i0 : Nat), i0 + 1 + d = 43 → 40 ≤ i0 → i0 + 1 ≤ 42 → ∀ (H : Heap) (locs : List Loc) (ls : Array Slot), hHS G Mz10 s H locs → lv_has ls 4 [(0, .ref (A 11)), (1, .ref lst), (2, .int (nI (i0 + 1)))] → W p l e (hRm 6 0 0) s m args below meth c H locs 0 0 (MQ below (hQ G (fun v M' => v = some (.int 0) ∧ (∃ f : Nat → Int64, M' (A 11) = some (11, .inr (4, [.ref (A 3), .ref (A 12), .int (nI 3), .int (-1)])) ∧ M' (A 12) = some (12, .inl (hT G 2, 8, .inr (.inl f)))) ∧ LaP G M' qa 2000 (lyU La 0 (nb (5 + 1))) Fa ∧ LaP G M' qb 2100 (lyNt Lb 0) Fb ∧ LaP G M' qc 2200 (lyNt (lyNt (lyX (lyU Lc 1 (nb (34 + 1))) (nb (36 + 1))) 0) 1) Fc ∧ hFr (fun u => u = 11 ∨ u = 12 ∨ (2000 ≤ u ∧ u < 2300)) M M')) args s 0 0 (hA G)) (F0 m 12 ls []) := by
                                              intro d
                                              induction d with
                                              | zero => intro i0 h1; intros; exact absurd h1 (by omega)
                                              | succ d ih8 =>
                                                intro i0 h1 h0 h2 H locs ls Y hl
                                                refine lv_iload_n hx hb dX2_check_12 rfl (lv_at hl 2 rfl) ?_
                                                rcases Nat.lt_or_ge (i0 + 1) 42 with hlt | hge
                                                · refine lv_aload_n hx hb dX2_check_13 rfl (lv_at hl 0 rfl) ?_
                                                  refine h_get X Y (k := 0) (v := .ref (A 3)) hc11 rfl hin_X2 (by decide) kfl_X2_22 rfl dX2_check_14 ?_
                                                  refine h_get X Y (k := 4) (v := .int (nI (N + 1))) hTk.1 rfl hin_X9 (by decide) kfl_X2_26 rfl dX2_check_17 ?_
                                                  refine lv_icmp_ge (tgt := 47) hx hb dX2_check_20 (by decide) (fun c20 => absurd (show (N + 1) ≤ (i0 + 1) from (nI_leI (a := (N + 1)) (b := (i0 + 1)) (by omega) (by omega)).mp c20) (by omega)) (fun c20 => ?_)
                                                  have c20 : ¬ (N + 1) ≤ (i0 + 1) := fun z9 => c20 ((nI_leI (a := (N + 1)) (b := (i0 + 1)) (by omega) (by omega)).mpr z9)
                                                  refine lv_aload_n hx hb dX2_check_23 rfl (lv_at hl 0 rfl) ?_
                                                  refine lv_iload_n hx hb dX2_check_24 rfl (lv_at hl 2 rfl) ?_
                                                  refine lv_aload_n hx hb dX2_check_25 rfl (lv_at hl 1 rfl) ?_
                                                  refine h_callVr (rest := []) X Y (c_errNone l G Mz10 A N sg nb wd hN hTk hs7 2 (-1) (vp_updL (vp_updL (vp_updL g7 0 (wd (0 + 1))) 1 (wd (8 + 1))) 2 (wd (25 + 1))) hc11 hc12 lst e0 (gq qa qb qc) hlO hlE i0 (by omega) (hnn i0 h0 hlt).1 (hnn i0 h0 hlt).2 2200 (lyNt (lyX (lyU Lc 1 (nb (34 + 1))) (nb (36 + 1))) 0) (by omega) hLc.1 (by omega)) rfl rfl gw_X2_29 dsc_X2_errorOf hc11 rfl rfl rfl rfl hl.1 (Nat.le_of_ble_eq_true rfl) ⟨Nat.le_of_ble_eq_true rfl, Nat.le_of_ble_eq_true rfl⟩ ⟨Nat.le_of_ble_eq_true rfl, Nat.le_of_ble_eq_true rfl⟩ dX2_check_26 (fun H locs Y => ?_)
                                                  refine lv_istore_n (lv' := [(3, .int 0), (0, .ref (A 11)), (1, .ref lst), (2, .int (nI (i0 + 1)))]) hx hb dX2_check_29 rfl hl (by decide) rfl (fun ls hl => ?_)
                                                  refine lv_iload_n hx hb dX2_check_30 rfl (lv_at hl 0 rfl) ?_
                                                  refine lv_if_eq (tgt := 41) hx hb dX2_check_31 (by decide) (fun c31 => ?_) (fun c31 => absurd (by decide) c31)
                                                  refine lv_iinc (v := nI (i0 + 1 + 1)) (lv' := [(2, .int (nI (i0 + 1 + 1))), (3, .int 0), (0, .ref (A 11)), (1, .ref lst)]) hx hb dX2_check_41 hl (k := 3) rfl (nI_1 (i0 + 1)) (by decide) rfl (fun ls hl => ?_)
                                                  refine lv_goto (tgt := 12) hx hb dX2_check_44 (by decide) ?_
                                                  exact ih8 (i0 + 1) (by omega) (by omega) (by omega) _ _ _ Y (lv_sub hl [2, 3, 0] rfl)
                                                · obtain rfl : i0 = 41 := by omega
                                                  have hl : lv_has ls 4 [(0, .ref (A 11)), (1, .ref lst), (2, .int (nI 42))] := hl
                                                  refine lv_aload_n hx hb dX2_check_13 rfl (lv_at hl 0 rfl) ?_
                                                  refine h_get X Y (k := 0) (v := .ref (A 3)) hc11 rfl hin_X2 (by decide) kfl_X2_22 rfl dX2_check_14 ?_
                                                  refine h_get X Y (k := 4) (v := .int (nI (N + 1))) hTk.1 rfl hin_X9 (by decide) kfl_X2_26 rfl dX2_check_17 ?_
                                                  refine lv_icmp_ge (tgt := 47) hx hb dX2_check_20 (by decide) (fun c20 => absurd (show (N + 1) ≤ 42 from (nI_leI (a := (N + 1)) (b := 42) (by omega) (by omega)).mp c20) (by omega)) (fun c20 => ?_)
                                                  have c20 : ¬ (N + 1) ≤ 42 := fun z9 => c20 ((nI_leI (a := (N + 1)) (b := 42) (by omega) (by omega)).mpr z9)
                                                  refine lv_aload_n hx hb dX2_check_23 rfl (lv_at hl 0 rfl) ?_
                                                  refine lv_iload_n hx hb dX2_check_24 rfl (lv_at hl 2 rfl) ?_
                                                  refine lv_aload_n hx hb dX2_check_25 rfl (lv_at hl 1 rfl) ?_
                                                  have kq41 : sg 41 = 23 := hpat 41 (by omega)
                                                  have kq42 : sg (41 + 1) = 33 := hpat 42 (by omega)
                                                  refine h_callV (rest := []) X Y (c_errNet l G Mz10 A N sg nb wd hN hTk hs7 2 (-1) (vp_updL (vp_updL (vp_updL g7 0 (wd (0 + 1))) 1 (wd (8 + 1))) 2 (wd (25 + 1))) hc11 hc12 lst e0 (gq qa qb qc) hlO hlE 41 (by omega) (by omega) kq42 2200 (lyNt (lyX (lyU Lc 1 (nb (34 + 1))) (nb (36 + 1))) 0) (by omega) hLc.1 (by omega) 1 (by omega) (hf3_1.trans (show wd (41 + 1) = 76 from hv3).symm) (fun j hj => by rcases (show j = 0 by omega) with rfl; rw [hf3_0, show wd (41 + 1) = 76 from hv3]; decide)) gw_X2_29 dsc_X2_errorOf hc11 rfl rfl rfl hl.1 rfl (Nat.le_of_ble_eq_true rfl) ⟨Nat.le_of_ble_eq_true rfl, Nat.le_of_ble_eq_true rfl⟩ ⟨Nat.le_of_ble_eq_true rfl, Nat.le_of_ble_eq_true rfl⟩ dX2_check_26 ?_
                                                  rintro _ Mz11 H locs ⟨rfl, hLy, hfa⟩ Y
                                                  have hLc := hLc.upd hLy rfl rfl hfa
                                                  have hTk := hTk.fr hfa (fun j z1 z2 z3 => by omega)
                                                  have hlO := hlO.fr hfa (by omega)
                                                  have hlE := hlE.fr hfa (by omega)
                                                  have hLa := hLa.fr hfa (fun j hj => by omega)
                                                  have hLb := hLb.fr hfa (fun j hj => by omega)
                                                  have hc11 := hfa _ _ _ hc11 (by omega)
                                                  have hc12 := hfa _ _ _ hc12 (by omega)
                                                  have hfr := hFr.tr hfr (hfa.mono (fun u z => by omega))
                                                  try dsimp only [Option.toList, List.singleton_append]
                                                  refine lv_istore_n (lv' := [(3, .int 0), (0, .ref (A 11)), (1, .ref lst), (2, .int (nI 42))]) hx hb dX2_check_29 rfl hl (by decide) rfl (fun ls hl => ?_)
                                                  refine lv_iload_n hx hb dX2_check_30 rfl (lv_at hl 0 rfl) ?_
                                                  refine lv_if_eq (tgt := 41) hx hb dX2_check_31 (by decide) (fun c31 => ?_) (fun c31 => absurd (by decide) c31)
                                                  refine lv_iinc (v := nI 43) (lv' := [(2, .int (nI 43)), (3, .int 0), (0, .ref (A 11)), (1, .ref lst)]) hx hb dX2_check_41 hl (k := 3) rfl (by decide) (by decide) rfl (fun ls hl => ?_)
                                                  refine lv_goto (tgt := 12) hx hb dX2_check_44 (by decide) ?_
                                                  have hl : lv_has ls 4 [(2, .int (nI (42 + 1))), (3, .int 0), (0, .ref (A 11)), (1, .ref lst)] := hl
                                                  have hnn : ∀ i0, 42 ≤ i0 → i0 + 1 < 54 → (sg i0 ≠ 2 ∧ sg i0 ≠ 5 ∧ sg i0 ≠ 6) ∧ sg (i0 + 1) ≠ 33 := by
                                                    intro i0 z1 z2
                                                    rw [hpat i0 (by omega), hpat (i0 + 1) (by omega)]
                                                    have hd : ∀ i0, i0 < 53 → 42 ≤ i0 → ((fPat true true).getD i0 0 ≠ 2 ∧ (fPat true true).getD i0 0 ≠ 5 ∧ (fPat true true).getD i0 0 ≠ 6) ∧ (fPat true true).getD (i0 + 1) 0 ≠ 33 := by decide
                                                    exact hd i0 (by omega) z1
                                                  have loop9 : ∀ (d i0 : Nat), i0 + 1 + d = 55 → 42 ≤ i0 → i0 + 1 ≤ 54 → ∀ (H : Heap) (locs : List Loc) (ls : Array Slot), hHS G Mz11 s H locs → lv_has ls 4 [(0, .ref (A 11)), (1, .ref lst), (2, .int (nI (i0 + 1)))] → W p l e (hRm 6 0 0) s m args below meth c H locs 0 0 (MQ below (hQ G (fun v M' => v = some (.int 0) ∧ (∃ f : Nat → Int64, M' (A 11) = some (11, .inr (4, [.ref (A 3), .ref (A 12), .int (nI 3), .int (-1)])) ∧ M' (A 12) = some (12, .inl (hT G 2, 8, .inr (.inl f)))) ∧ LaP G M' qa 2000 (lyU La 0 (nb (5 + 1))) Fa ∧ LaP G M' qb 2100 (lyNt Lb 0) Fb ∧ LaP G M' qc 2200 (lyNt (lyNt (lyX (lyU Lc 1 (nb (34 + 1))) (nb (36 + 1))) 0) 1) Fc ∧ hFr (fun u => u = 11 ∨ u = 12 ∨ (2000 ≤ u ∧ u < 2300)) M M')) args s 0 0 (hA G)) (F0 m 12 ls []) := by
                                                    intro d
                                                    induction d with
                                                    | zero => intro i0 h1; intros; exact absurd h1 (by omega)
                                                    | succ d ih9 =>
                                                      intro i0 h1 h0 h2 H locs ls Y hl
                                                      refine lv_iload_n hx hb dX2_check_12 rfl (lv_at hl 2 rfl) ?_
                                                      rcases Nat.lt_or_ge (i0 + 1) 54 with hlt | hge
                                                      · refine lv_aload_n hx hb dX2_check_13 rfl (lv_at hl 0 rfl) ?_
                                                        refine h_get X Y (k := 0) (v := .ref (A 3)) hc11 rfl hin_X2 (by decide) kfl_X2_22 rfl dX2_check_14 ?_
                                                        refine h_get X Y (k := 4) (v := .int (nI (N + 1))) hTk.1 rfl hin_X9 (by decide) kfl_X2_26 rfl dX2_check_17 ?_
                                                        refine lv_icmp_ge (tgt := 47) hx hb dX2_check_20 (by decide) (fun c20 => absurd (show (N + 1) ≤ (i0 + 1) from (nI_leI (a := (N + 1)) (b := (i0 + 1)) (by omega) (by omega)).mp c20) (by omega)) (fun c20 => ?_)
                                                        have c20 : ¬ (N + 1) ≤ (i0 + 1) := fun z9 => c20 ((nI_leI (a := (N + 1)) (b := (i0 + 1)) (by omega) (by omega)).mpr z9)
                                                        refine lv_aload_n hx hb dX2_check_23 rfl (lv_at hl 0 rfl) ?_
                                                        refine lv_iload_n hx hb dX2_check_24 rfl (lv_at hl 2 rfl) ?_
                                                        refine lv_aload_n hx hb dX2_check_25 rfl (lv_at hl 1 rfl) ?_
                                                        refine h_callVr (rest := []) X Y (c_errNone l G Mz11 A N sg nb wd hN hTk hs7 2 (-1) (vp_updL (vp_updL (vp_updL g7 0 (wd (0 + 1))) 1 (wd (8 + 1))) 2 (wd (25 + 1))) hc11 hc12 lst e0 (gq qa qb qc) hlO hlE i0 (by omega) (hnn i0 h0 hlt).1 (hnn i0 h0 hlt).2 2200 (lyNt (lyNt (lyX (lyU Lc 1 (nb (34 + 1))) (nb (36 + 1))) 0) 1) (by omega) hLc.1 (by omega)) rfl rfl gw_X2_29 dsc_X2_errorOf hc11 rfl rfl rfl rfl hl.1 (Nat.le_of_ble_eq_true rfl) ⟨Nat.le_of_ble_eq_true rfl, Nat.le_of_ble_eq_true rfl⟩ ⟨Nat.le_of_ble_eq_true rfl, Nat.le_of_ble_eq_true rfl⟩ dX2_check_26 (fun H locs Y => ?_)
                                                        refine lv_istore_n (lv' := [(3, .int 0), (0, .ref (A 11)), (1, .ref lst), (2, .int (nI (i0 + 1)))]) hx hb dX2_check_29 rfl hl (by decide) rfl (fun ls hl => ?_)
                                                        refine lv_iload_n hx hb dX2_check_30 rfl (lv_at hl 0 rfl) ?_
                                                        refine lv_if_eq (tgt := 41) hx hb dX2_check_31 (by decide) (fun c31 => ?_) (fun c31 => absurd (by decide) c31)
                                                        refine lv_iinc (v := nI (i0 + 1 + 1)) (lv' := [(2, .int (nI (i0 + 1 + 1))), (3, .int 0), (0, .ref (A 11)), (1, .ref lst)]) hx hb dX2_check_41 hl (k := 3) rfl (nI_1 (i0 + 1)) (by decide) rfl (fun ls hl => ?_)
                                                        refine lv_goto (tgt := 12) hx hb dX2_check_44 (by decide) ?_
                                                        exact ih9 (i0 + 1) (by omega) (by omega) (by omega) _ _ _ Y (lv_sub hl [2, 3, 0] rfl)
                                                      · obtain rfl : i0 = 53 := by omega
                                                        have hl : lv_has ls 4 [(0, .ref (A 11)), (1, .ref lst), (2, .int (nI 54))] := hl
                                                        refine lv_aload_n hx hb dX2_check_13 rfl (lv_at hl 0 rfl) ?_
                                                        refine h_get X Y (k := 0) (v := .ref (A 3)) hc11 rfl hin_X2 (by decide) kfl_X2_22 rfl dX2_check_14 ?_
                                                        refine h_get X Y (k := 4) (v := .int (nI (N + 1))) hTk.1 rfl hin_X9 (by decide) kfl_X2_26 rfl dX2_check_17 ?_
                                                        refine lv_icmp_ge (tgt := 47) hx hb dX2_check_20 (by decide) (fun c20 => ?_) (fun c20 => absurd (show ¬ (N + 1) ≤ 54 from fun z9 => c20 ((nI_leI (a := (N + 1)) (b := 54) (by omega) (by omega)).mpr z9)) (by omega))
                                                        have c20 : (N + 1) ≤ 54 := (nI_leI (a := (N + 1)) (b := 54) (by omega) (by omega)).mp c20
                                                        refine lv_iconst (v := 0) hx hb dX2_check_47 (by decide) ?_
                                                        exact h_iret X Y ⟨rfl, ⟨_, hc11, hc12⟩, hLa, hLb, hLc, hfr⟩ (Nat.le_of_ble_eq_true rfl) (Nat.le_of_ble_eq_true rfl) dX2_check_48
                                                  exact loop9 12 42 (by omega) (by omega) (by omega) _ _ _ Y (lv_sub hl [2, 3, 0] rfl)
                                            exact loop8 2 40 (by omega) (by omega) (by omega) _ _ _ Y (lv_sub hl [2, 3, 0] rfl)
                                      exact loop7 3 37 (by omega) (by omega) (by omega) _ _ _ Y (lv_sub hl [2, 3, 0] rfl)
                                exact loop6 2 35 (by omega) (by omega) (by omega) _ _ _ Y (lv_sub hl [2, 3, 0] rfl)
                          exact loop5 9 26 (by omega) (by omega) (by omega) _ _ _ Y (lv_sub hl [2, 3, 0] rfl)
                    exact loop4 3 23 (by omega) (by omega) (by omega) _ _ _ Y (lv_sub hl [2, 3, 0] rfl)
              exact loop3 14 9 (by omega) (by omega) (by omega) _ _ _ Y (lv_sub hl [2, 3, 0] rfl)
        exact loop2 3 6 (by omega) (by omega) (by omega) _ _ _ Y (lv_sub hl [2, 3, 0] rfl)
  exact loop1 5 1 (by omega) (by omega) (by omega) _ _ _ Y (lv_sub hl [2, 3, 0] rfl)
theorem dX2_wrongToken_0 : decode cX2_wrongToken 0 = .ok (.aload_n 0, 1) := by decide +kernel
theorem dX2_wrongToken_1 : decode cX2_wrongToken 1 = .ok (.getfield 19, 3) := by decide +kernel
theorem dX2_wrongToken_4 : decode cX2_wrongToken 4 = .ok (.ireturn, 1) := by decide +kernel
set_option maxHeartbeats 400000 in
set_option maxRecDepth 100000 in
theorem c_chkWrong (l : Launch) (G : hG) (M : hM) (A : Nat → Nat) (cn : Nat) (wr : Int32) (hc11 : M (A 11) = some (11, .inr (4, [.ref (A 3), .ref (A 12), .int (nI cn), .int wr]))) : hCT l G yX2_wrongToken cX2_wrongToken 1 (Option.some FieldType.int) (hRm 1 0 0) M [.ref (A 11)] (hRd M (.int wr)) := by
  refine hCT.of (own := RX2) (nm := "wrongToken") (by decide) rfl rfl (Nat.le_of_ble_eq_true rfl) ?_
  intro p e s m args below meth c ls X Y hl
  have hx := X.1
  have hb := X.2.1
  have hl : lv_has ls 1 [(0, .ref (A 11))] := hl
  refine lv_aload_n hx hb dX2_wrongToken_0 rfl (lv_at hl 0 rfl) ?_
  refine h_get X Y (k := 3) (v := .int wr) hc11 rfl hin_X2 (by decide) kfl_X2_19 rfl dX2_wrongToken_1 ?_
  exact h_iret X Y ⟨rfl, rfl⟩ (Nat.le_refl _) (Nat.le_refl _) dX2_wrongToken_4
