-- FORMULAS ARE MADE
def FoL (F : hFo) (ks : List Nat) (vs : List Int32) : Prop := foN F = ks.length ∧ (foS F = fun i => ks.getD i 0) ∧ ∀ i, i < ks.length → foI F i = vs.getD i 0
theorem t_max0 {n : Nat} (h : 1 ≤ n) (h2 : n < 2147483648) : sMax 0 (nI n) = nI n := by
  unfold sMax
  exact if_pos (show (0 : Int32) < nI n from (nI_ltI (a := 0) (b := n) (by omega) (by omega)).mpr (by omega))
theorem FoV.grow {G : hG} {M M' : hM} {a t : Nat} {F : hFo} (h : hGr M M') (hF : FoV G M a t F) : FoV G M' a t F := hF.fr (Z := fun _ => False) (hFr.grow hFr.rf h) (fun _ _ => id)
theorem dX4_init_0 : decode cX4_init 0 = .ok (.aload_n 0, 1) := by decide +kernel
theorem dX4_init_1 : decode cX4_init 1 = .ok (.invokespecial 1, 3) := by decide +kernel
theorem dX4_init_4 : decode cX4_init 4 = .ok (.iconst 0, 1) := by decide +kernel
theorem dX4_init_5 : decode cX4_init 5 = .ok (.iload_n 3, 1) := by decide +kernel
theorem dX4_init_6 : decode cX4_init 6 = .ok (.aload_n 1, 1) := by decide +kernel
theorem dX4_init_7 : decode cX4_init 7 = .ok (.arraylength, 1) := by decide +kernel
theorem dX4_init_8 : decode cX4_init 8 = .ok (.aload_n 2, 1) := by decide +kernel
theorem dX4_init_9 : decode cX4_init 9 = .ok (.arraylength, 1) := by decide +kernel
theorem dX4_init_10 : decode cX4_init 10 = .ok (.invokestatic 7, 3) := by decide +kernel
theorem dX4_init_13 : decode cX4_init 13 = .ok (.invokestatic 7, 3) := by decide +kernel
theorem dX4_init_16 : decode cX4_init 16 = .ok (.invokestatic 13, 3) := by decide +kernel
theorem dX4_init_19 : decode cX4_init 19 = .ok (.istore 4, 2) := by decide +kernel
theorem dX4_init_21 : decode cX4_init 21 = .ok (.aload_n 0, 1) := by decide +kernel
theorem dX4_init_22 : decode cX4_init 22 = .ok (.iload 4, 2) := by decide +kernel
theorem dX4_init_24 : decode cX4_init 24 = .ok (.anewarray 16, 3) := by decide +kernel
theorem dX4_init_27 : decode cX4_init 27 = .ok (.putfield 18, 3) := by decide +kernel
theorem dX4_init_30 : decode cX4_init 30 = .ok (.aload_n 0, 1) := by decide +kernel
theorem dX4_init_31 : decode cX4_init 31 = .ok (.iload 4, 2) := by decide +kernel
theorem dX4_init_33 : decode cX4_init 33 = .ok (.newarray .int, 2) := by decide +kernel
theorem dX4_init_35 : decode cX4_init 35 = .ok (.putfield 24, 3) := by decide +kernel
theorem dX4_init_38 : decode cX4_init 38 = .ok (.aload_n 0, 1) := by decide +kernel
theorem dX4_init_39 : decode cX4_init 39 = .ok (.iload 4, 2) := by decide +kernel
theorem dX4_init_41 : decode cX4_init 41 = .ok (.newarray .int, 2) := by decide +kernel
theorem dX4_init_43 : decode cX4_init 43 = .ok (.putfield 28, 3) := by decide +kernel
theorem dX4_init_46 : decode cX4_init 46 = .ok (.iconst 0, 1) := by decide +kernel
theorem dX4_init_47 : decode cX4_init 47 = .ok (.istore 5, 2) := by decide +kernel
theorem dX4_init_49 : decode cX4_init 49 = .ok (.iload 5, 2) := by decide +kernel
theorem dX4_init_51 : decode cX4_init 51 = .ok (.iload 4, 2) := by decide +kernel
theorem dX4_init_53 : decode cX4_init 53 = .ok (.if_icmp .ge 31, 3) := by decide +kernel
theorem dX4_init_56 : decode cX4_init 56 = .ok (.aload_n 0, 1) := by decide +kernel
theorem dX4_init_57 : decode cX4_init 57 = .ok (.getfield 18, 3) := by decide +kernel
theorem dX4_init_60 : decode cX4_init 60 = .ok (.iload 5, 2) := by decide +kernel
theorem dX4_init_62 : decode cX4_init 62 = .ok (.aload_n 1, 1) := by decide +kernel
theorem dX4_init_63 : decode cX4_init 63 = .ok (.iload 5, 2) := by decide +kernel
theorem dX4_init_65 : decode cX4_init 65 = .ok (.aaload, 1) := by decide +kernel
theorem dX4_init_66 : decode cX4_init 66 = .ok (.aastore, 1) := by decide +kernel
theorem dX4_init_67 : decode cX4_init 67 = .ok (.aload_n 0, 1) := by decide +kernel
theorem dX4_init_68 : decode cX4_init 68 = .ok (.getfield 24, 3) := by decide +kernel
theorem dX4_init_71 : decode cX4_init 71 = .ok (.iload 5, 2) := by decide +kernel
theorem dX4_init_73 : decode cX4_init 73 = .ok (.aload_n 2, 1) := by decide +kernel
theorem dX4_init_74 : decode cX4_init 74 = .ok (.iload 5, 2) := by decide +kernel
theorem dX4_init_76 : decode cX4_init 76 = .ok (.iaload, 1) := by decide +kernel
theorem dX4_init_77 : decode cX4_init 77 = .ok (.iastore, 1) := by decide +kernel
theorem dX4_init_78 : decode cX4_init 78 = .ok (.iinc 5 1, 3) := by decide +kernel
theorem dX4_init_81 : decode cX4_init 81 = .ok (.goto (-32), 3) := by decide +kernel
theorem dX4_init_84 : decode cX4_init 84 = .ok (.return_, 1) := by decide +kernel
set_option maxHeartbeats 400000 in
set_option maxRecDepth 100000 in
theorem c_foInit (l : Launch) (G : hG) (M : hM) (q0 t n : Nat) (sn : Nat → Option Nat) (nn : Nat → Int32) (ks : Nat → Nat) (a9 a10 : Nat) (hq : M q0 = some (t, .inr (6, [.null, .null, .null]))) (h9 : M a9 = some (9, .inl (hT G 3, 400, .inr (.inr (.inr (.inr sn)))))) (h10 : M a10 = some (10, .inl (hT G 0, 400, .inl nn))) (ht : 2000 ≤ t) (hn1 : 1 ≤ n) (hn4 : n ≤ 400) (hks : ∀ i, i < n → sn i = some (hSg G (ks i)) ∧ ks i < 38) : hCT l G yX4_init cX4_init 6 (Option.none) (hRm 2 3 1200) M [.ref q0, .ref a9, .ref a10, .int (nI n)] (fun v M' => v = none ∧ ∃ F, FoV G M' q0 t F ∧ foN F = n ∧ foS F = ks ∧ (∀ i, i < n → foI F i = nn i) ∧ hFr (fun u => t ≤ u ∧ u < t + 10) M M') := by
  refine hCT.of (own := RX4) (nm := "<init>") (by decide) rfl rfl (Nat.le_of_ble_eq_true rfl) ?_
  intro p e s m args below meth c ls X Y hl
  have hx := X.1
  have hb := X.2.1
  have hl : lv_has ls 6 [(0, .ref q0), (1, .ref a9), (2, .ref a10), (3, .int (nI n))] := hl
  have hfr : hFr (fun u => t ≤ u ∧ u < t + 10) M M := hFr.rf
  refine lv_aload_n hx hb dX4_init_0 rfl (lv_at hl 0 rfl) ?_
  refine h_objI X hl.1 kml_X4_1 (Nat.le_of_ble_eq_true rfl) (Nat.le_of_ble_eq_true rfl) dX4_init_1 ?_
  refine lv_iconst (v := 0) hx hb dX4_init_4 (by decide) ?_
  refine lv_iload_n hx hb dX4_init_5 rfl (lv_at hl 3 rfl) ?_
  refine lv_aload_n hx hb dX4_init_6 rfl (lv_at hl 1 rfl) ?_
  refine h_alen X Y 3 h9 rfl dX4_init_7 ?_
  refine lv_aload_n hx hb dX4_init_8 rfl (lv_at hl 2 rfl) ?_
  refine h_alen X Y 0 h10 rfl dX4_init_9 ?_
  refine h_mmin X kml_X4_7 hl.1 (Nat.le_of_ble_eq_true rfl) (Nat.le_of_ble_eq_true rfl) ⟨Nat.le_of_ble_eq_true rfl, Nat.le_of_ble_eq_true rfl⟩ dX4_init_10 ?_
  refine h_ev (y := nI 400) (by decide) ?_
  refine h_mmin X kml_X4_7 hl.1 (Nat.le_of_ble_eq_true rfl) (Nat.le_of_ble_eq_true rfl) ⟨Nat.le_of_ble_eq_true rfl, Nat.le_of_ble_eq_true rfl⟩ dX4_init_13 ?_
  refine h_ev (y := nI n) (t_min n 400 (by omega) (by omega)) ?_
  refine h_mmax X kml_X4_13 hl.1 (Nat.le_of_ble_eq_true rfl) (Nat.le_of_ble_eq_true rfl) ⟨Nat.le_of_ble_eq_true rfl, Nat.le_of_ble_eq_true rfl⟩ dX4_init_16 ?_
  refine h_ev (y := nI n) (t_max0 hn1 (by omega)) ?_
  refine lv_istore (lv' := [(4, .int (nI n)), (0, .ref q0), (1, .ref a9), (2, .ref a10), (3, .int (nI n))]) hx hb dX4_init_19 hl (by decide) rfl (fun ls hl => ?_)
  refine lv_aload_n hx hb dX4_init_21 rfl (lv_at hl 1 rfl) ?_
  refine lv_iload hx hb dX4_init_22 (lv_at hl 0 rfl) ?_
  refine h_newq 3 X Y (t + 1) (n := n) (by omega) kcl_X4_16 (t_aoS X.2.2.2.2.2.2.2.2.1 X.2.2.2.2.2.2.2.2.2.1) rfl (Nat.le_of_ble_eq_true rfl) (by show _ ≤ 1200; omega) dX4_init_24 (fun qz1 Mz1 H fz1 hg1 Y => ?_)
  have hq := hg1 _ _ hq
  have h9 := hg1 _ _ h9
  have h10 := hg1 _ _ h10
  have hfr := hfr.grow hg1
  refine h_putF X Y (k := 0) (v := .ref qz1) hq rfl hin_X4 tyX4_ok nmX4 (by decide) kfl_X4_18 rfl rfl rfl rfl (Nat.le_of_ble_eq_true rfl) dX4_init_27 (fun H locs Y => ?_)
  have Y : hHS G (hup Mz1 q0 (t, .inr (6, [.ref qz1, .null, .null]))) s H locs := Y
  have h9 := hup_tag (x := (t, .inr (6, [.ref qz1, .null, .null]))) h9 hq (by omega)
  have h10 := hup_tag (x := (t, .inr (6, [.ref qz1, .null, .null]))) h10 hq (by omega)
  have fz1 := hup_tag (x := (t, .inr (6, [.ref qz1, .null, .null]))) fz1 hq (by omega)
  have hfr := hfr.put (x := (t, .inr (6, [.ref qz1, .null, .null]))) hq (by omega)
  have hq : hup Mz1 q0 (t, .inr (6, [.ref qz1, .null, .null])) q0 = some (t, .inr (6, [.ref qz1, .null, .null])) := hup_eq
  generalize hup Mz1 q0 (t, .inr (6, [.ref qz1, .null, .null])) = Mz2 at Y hq h9 h10 fz1 hfr
  refine lv_aload_n hx hb dX4_init_30 rfl (lv_at hl 1 rfl) ?_
  refine lv_iload hx hb dX4_init_31 (lv_at hl 0 rfl) ?_
  refine h_newI X Y (t + 2) (n := n) (by omega) (Nat.le_of_ble_eq_true rfl) (by show _ ≤ 1200; omega) dX4_init_33 (fun qz3 Mz3 H fz3 hg3 Y => ?_)
  have hq := hg3 _ _ hq
  have h9 := hg3 _ _ h9
  have h10 := hg3 _ _ h10
  have fz1 := hg3 _ _ fz1
  have hfr := hfr.grow hg3
  refine h_putF X Y (k := 1) (v := .ref qz3) hq rfl hin_X4 tyX4_ok nmX4 (by decide) kfl_X4_24 rfl rfl rfl rfl (Nat.le_of_ble_eq_true rfl) dX4_init_35 (fun H locs Y => ?_)
  have Y : hHS G (hup Mz3 q0 (t, .inr (6, [.ref qz1, .ref qz3, .null]))) s H locs := Y
  have h9 := hup_tag (x := (t, .inr (6, [.ref qz1, .ref qz3, .null]))) h9 hq (by omega)
  have h10 := hup_tag (x := (t, .inr (6, [.ref qz1, .ref qz3, .null]))) h10 hq (by omega)
  have fz1 := hup_tag (x := (t, .inr (6, [.ref qz1, .ref qz3, .null]))) fz1 hq (by omega)
  have fz3 := hup_tag (x := (t, .inr (6, [.ref qz1, .ref qz3, .null]))) fz3 hq (by omega)
  have hfr := hfr.put (x := (t, .inr (6, [.ref qz1, .ref qz3, .null]))) hq (by omega)
  have hq : hup Mz3 q0 (t, .inr (6, [.ref qz1, .ref qz3, .null])) q0 = some (t, .inr (6, [.ref qz1, .ref qz3, .null])) := hup_eq
  generalize hup Mz3 q0 (t, .inr (6, [.ref qz1, .ref qz3, .null])) = Mz4 at Y hq h9 h10 fz1 fz3 hfr
  refine lv_aload_n hx hb dX4_init_38 rfl (lv_at hl 1 rfl) ?_
  refine lv_iload hx hb dX4_init_39 (lv_at hl 0 rfl) ?_
  refine h_newI X Y (t + 9) (n := n) (by omega) (Nat.le_of_ble_eq_true rfl) (by show _ ≤ 1200; omega) dX4_init_41 (fun qz5 Mz5 H fz5 hg5 Y => ?_)
  have hq := hg5 _ _ hq
  have h9 := hg5 _ _ h9
  have h10 := hg5 _ _ h10
  have fz1 := hg5 _ _ fz1
  have fz3 := hg5 _ _ fz3
  have hfr := hfr.grow hg5
  refine h_putF X Y (k := 2) (v := .ref qz5) hq rfl hin_X4 tyX4_ok nmX4 (by decide) kfl_X4_28 rfl rfl rfl rfl (Nat.le_of_ble_eq_true rfl) dX4_init_43 (fun H locs Y => ?_)
  have Y : hHS G (hup Mz5 q0 (t, .inr (6, [.ref qz1, .ref qz3, .ref qz5]))) s H locs := Y
  have h9 := hup_tag (x := (t, .inr (6, [.ref qz1, .ref qz3, .ref qz5]))) h9 hq (by omega)
  have h10 := hup_tag (x := (t, .inr (6, [.ref qz1, .ref qz3, .ref qz5]))) h10 hq (by omega)
  have fz1 := hup_tag (x := (t, .inr (6, [.ref qz1, .ref qz3, .ref qz5]))) fz1 hq (by omega)
  have fz3 := hup_tag (x := (t, .inr (6, [.ref qz1, .ref qz3, .ref qz5]))) fz3 hq (by omega)
  have fz5 := hup_tag (x := (t, .inr (6, [.ref qz1, .ref qz3, .ref qz5]))) fz5 hq (by omega)
  have hfr := hfr.put (x := (t, .inr (6, [.ref qz1, .ref qz3, .ref qz5]))) hq (by omega)
  have hq : hup Mz5 q0 (t, .inr (6, [.ref qz1, .ref qz3, .ref qz5])) q0 = some (t, .inr (6, [.ref qz1, .ref qz3, .ref qz5])) := hup_eq
  generalize hup Mz5 q0 (t, .inr (6, [.ref qz1, .ref qz3, .ref qz5])) = Mz6 at Y hq h9 h10 fz1 fz3 fz5 hfr
  refine lv_iconst (v := 0) hx hb dX4_init_46 (by decide) ?_
  refine lv_istore (lv' := [(5, .int 0), (4, .int (nI n)), (0, .ref q0), (1, .ref a9), (2, .ref a10), (3, .int (nI n))]) hx hb dX4_init_47 hl (by decide) rfl (fun ls hl => ?_)
  have loop : ∀ (d i : Nat), i + d = n + 1 → i ≤ n → ∀ (M1 : hM) (f : Nat → Option Nat) (g : Nat → Int32), M1 q0 = some (t, .inr (6, [.ref qz1, .ref qz3, .ref qz5])) → M1 a9 = some (9, .inl (hT G 3, 400, .inr (.inr (.inr (.inr sn))))) → M1 a10 = some (10, .inl (hT G 0, 400, .inl nn)) → M1 qz1 = some (t + 1, .inl (hT G 3, n, .inr (.inr (.inr (.inr f))))) → M1 qz3 = some (t + 2, .inl (hT G 0, n, .inl g)) → M1 qz5 = some (t + 9, .inl (hT G 0, n, .inl (fun _ => 0))) → hFr (fun u => t ≤ u ∧ u < t + 10) M M1 → (∀ j, j < i → f j = some (hSg G (ks j))) → (∀ j, j < i → g j = nn j) → ∀ (H : Heap) (locs : List Loc) (ls : Array Slot), hHS G M1 s H locs → lv_has ls 6 [(0, .ref q0), (1, .ref a9), (2, .ref a10), (4, .int (nI n)), (5, .int (nI i))] → W p l e (hRm 2 3 1200) s m args below meth c H locs (0 + 1 + 1 + 1) (0 + n + n + n) (MQ below (hQ G (fun v M' => v = none ∧ ∃ F, FoV G M' q0 t F ∧ foN F = n ∧ foS F = ks ∧ (∀ i, i < n → foI F i = nn i) ∧ hFr (fun u => t ≤ u ∧ u < t + 10) M M')) args s 3 1200 (hA G)) (F0 m 49 ls []) := by
    intro d
    induction d with
    | zero => intro i h1; intros; exact absurd h1 (by omega)
    | succ d ih =>
      intro i h1 h2 M1 f g hq h9 h10 hr0 hr1 hr2 hfr hfj hgj H locs ls Y hl
      refine lv_iload hx hb dX4_init_49 (lv_at hl 4 rfl) ?_
      refine lv_iload hx hb dX4_init_51 (lv_at hl 3 rfl) ?_
      refine lv_icmp_ge (tgt := 84) hx hb dX4_init_53 (by decide) (fun c53 => ?_) (fun c53 => ?_)
      · have c53 : n ≤ i := (nI_leI (a := n) (b := i) (by omega) (by omega)).mp c53
        obtain rfl : i = n := by omega
        exact h_vret X Y ⟨rfl, ⟨fun k => if k = 0 then qz1 else if k = 1 then qz3 else qz5, _, ks, g⟩, ⟨hq, ⟨f, hfj, hr0⟩, hr1, _, hr2⟩, rfl, rfl, hgj, hfr⟩ (by show _ ≤ 3; omega) (by show _ ≤ 1200; omega) dX4_init_84
      · have c53 : ¬ n ≤ i := fun z9 => c53 ((nI_leI (a := n) (b := i) (by omega) (by omega)).mpr z9)
        refine lv_aload_n hx hb dX4_init_56 rfl (lv_at hl 0 rfl) ?_
        refine h_get X Y (k := 0) (v := .ref qz1) hq rfl hin_X4 (by decide) kfl_X4_18 rfl dX4_init_57 ?_
        refine lv_iload hx hb dX4_init_60 (lv_at hl 4 rfl) ?_
        refine lv_aload_n hx hb dX4_init_62 rfl (lv_at hl 1 rfl) ?_
        refine lv_iload hx hb dX4_init_63 (lv_at hl 4 rfl) ?_
        refine h_aald X Y 3 (i := i) h9 rfl (by omega) (by decide) dX4_init_65 ?_
        refine h_rf ((hks i (by omega)).1) ?_
        refine h_aastG X Y (i := i) (k := ks i) hr0 (hks i (by omega)).2 (by omega) (by omega) dX4_init_66 (fun H locs Y => ?_)
        have hq := hup_tag (x := (t + 1, .inl (hT G 3, n, .inr (.inr (.inr (.inr (va_up f i (some (hSg G (ks i)))))))))) hq hr0 (by omega)
        have h9 := hup_tag (x := (t + 1, .inl (hT G 3, n, .inr (.inr (.inr (.inr (va_up f i (some (hSg G (ks i)))))))))) h9 hr0 (by omega)
        have h10 := hup_tag (x := (t + 1, .inl (hT G 3, n, .inr (.inr (.inr (.inr (va_up f i (some (hSg G (ks i)))))))))) h10 hr0 (by omega)
        have hr1 := hup_tag (x := (t + 1, .inl (hT G 3, n, .inr (.inr (.inr (.inr (va_up f i (some (hSg G (ks i)))))))))) hr1 hr0 (by omega)
        have hr2 := hup_tag (x := (t + 1, .inl (hT G 3, n, .inr (.inr (.inr (.inr (va_up f i (some (hSg G (ks i)))))))))) hr2 hr0 (by omega)
        have hfr := hfr.put (x := (t + 1, .inl (hT G 3, n, .inr (.inr (.inr (.inr (va_up f i (some (hSg G (ks i)))))))))) hr0 (by omega)
        have hr0 : hup M1 qz1 (t + 1, .inl (hT G 3, n, .inr (.inr (.inr (.inr (va_up f i (some (hSg G (ks i))))))))) qz1 = some (t + 1, .inl (hT G 3, n, .inr (.inr (.inr (.inr (va_up f i (some (hSg G (ks i))))))))) := hup_eq
        generalize hup M1 qz1 (t + 1, .inl (hT G 3, n, .inr (.inr (.inr (.inr (va_up f i (some (hSg G (ks i))))))))) = Mz7 at Y hr0 hq h9 h10 hr1 hr2 hfr
        refine lv_aload_n hx hb dX4_init_67 rfl (lv_at hl 0 rfl) ?_
        refine h_get X Y (k := 1) (v := .ref qz3) hq rfl hin_X4 (by decide) kfl_X4_24 rfl dX4_init_68 ?_
        refine lv_iload hx hb dX4_init_71 (lv_at hl 4 rfl) ?_
        refine lv_aload_n hx hb dX4_init_73 rfl (lv_at hl 2 rfl) ?_
        refine lv_iload hx hb dX4_init_74 (lv_at hl 4 rfl) ?_
        refine h_iald X Y (i := i) h10 (by omega) (by decide) dX4_init_76 ?_
        refine h_iast X Y (i := i) hr1 (by omega) (by omega) dX4_init_77 (fun H locs Y => ?_)
        have hq := hup_tag (x := (t + 2, .inl (hT G 0, n, .inl (upd g i (nn i))))) hq hr1 (by omega)
        have h9 := hup_tag (x := (t + 2, .inl (hT G 0, n, .inl (upd g i (nn i))))) h9 hr1 (by omega)
        have h10 := hup_tag (x := (t + 2, .inl (hT G 0, n, .inl (upd g i (nn i))))) h10 hr1 (by omega)
        have hr0 := hup_tag (x := (t + 2, .inl (hT G 0, n, .inl (upd g i (nn i))))) hr0 hr1 (by omega)
        have hr2 := hup_tag (x := (t + 2, .inl (hT G 0, n, .inl (upd g i (nn i))))) hr2 hr1 (by omega)
        have hfr := hfr.put (x := (t + 2, .inl (hT G 0, n, .inl (upd g i (nn i))))) hr1 (by omega)
        have hr1 : hup Mz7 qz3 (t + 2, .inl (hT G 0, n, .inl (upd g i (nn i)))) qz3 = some (t + 2, .inl (hT G 0, n, .inl (upd g i (nn i)))) := hup_eq
        generalize hup Mz7 qz3 (t + 2, .inl (hT G 0, n, .inl (upd g i (nn i)))) = Mz8 at Y hr1 hq h9 h10 hr0 hr2 hfr
        refine lv_iinc (v := nI (i + 1)) (lv' := [(5, .int (nI (i + 1))), (0, .ref q0), (1, .ref a9), (2, .ref a10), (4, .int (nI n))]) hx hb dX4_init_78 hl (k := 4) rfl (nI_1 i) (by decide) rfl (fun ls hl => ?_)
        refine lv_goto (tgt := 49) hx hb dX4_init_81 (by decide) ?_
        refine ih (i + 1) (by omega) (by omega) Mz8 _ _ hq h9 h10 hr0 hr1 hr2 hfr (fun j hj => ?_) (fun j hj => ?_) _ _ _ Y (lv_sub hl [1, 2, 3, 4, 0] rfl)
        · by_cases e9 : j = i
          · subst e9; exact va_up_self _ _ _
          · rw [va_up_ne _ _ e9]; exact hfj j (by omega)
        · by_cases e9 : j = i
          · subst e9; exact pk_us
          · rw [pk_un e9]; exact hgj j (by omega)
  exact loop (n + 1) 0 (by omega) (by omega) Mz6 _ _ hq h9 h10 fz1 fz3 fz5 hfr (fun j z9 => absurd z9 (by omega)) (fun j z9 => absurd z9 (by omega)) _ _ _ Y (lv_sub hl [2, 3, 4, 1, 0] rfl)
theorem dsc_X4_init : yX4_init.cls = RX4 ∧ yX4_init.cls ≠ "java/lang/invoke/MethodHandle" ∧ yX4_init.cls ≠ "java/lang/invoke/VarHandle" ∧ (parseMethodDescriptor yX4_init.desc).map (fun d => d.parameters.length) = some 3 := ⟨rfl, by decide +kernel, by decide +kernel, by decide +kernel⟩
theorem dX6_readSum_0 : decode cX6_readSum 0 = .ok (.aload_n 0, 1) := by decide +kernel
theorem dX6_readSum_1 : decode cX6_readSum 1 = .ok (.iconst 0, 1) := by decide +kernel
theorem dX6_readSum_2 : decode cX6_readSum 2 = .ok (.putfield 21, 3) := by decide +kernel
theorem dX6_readSum_5 : decode cX6_readSum 5 = .ok (.aload_n 0, 1) := by decide +kernel
theorem dX6_readSum_6 : decode cX6_readSum 6 = .ok (.iconst 0, 1) := by decide +kernel
theorem dX6_readSum_7 : decode cX6_readSum 7 = .ok (.invokevirtual 135, 3) := by decide +kernel
theorem dX6_readSum_10 : decode cX6_readSum 10 = .ok (.new 139, 3) := by decide +kernel
theorem dX6_readSum_13 : decode cX6_readSum 13 = .ok (.dup, 1) := by decide +kernel
theorem dX6_readSum_14 : decode cX6_readSum 14 = .ok (.aload_n 0, 1) := by decide +kernel
theorem dX6_readSum_15 : decode cX6_readSum 15 = .ok (.getfield 11, 3) := by decide +kernel
theorem dX6_readSum_18 : decode cX6_readSum 18 = .ok (.aload_n 0, 1) := by decide +kernel
theorem dX6_readSum_19 : decode cX6_readSum 19 = .ok (.getfield 17, 3) := by decide +kernel
theorem dX6_readSum_22 : decode cX6_readSum 22 = .ok (.aload_n 0, 1) := by decide +kernel
theorem dX6_readSum_23 : decode cX6_readSum 23 = .ok (.getfield 21, 3) := by decide +kernel
theorem dX6_readSum_26 : decode cX6_readSum 26 = .ok (.invokespecial 141, 3) := by decide +kernel
theorem dX6_readSum_29 : decode cX6_readSum 29 = .ok (.areturn, 1) := by decide +kernel
set_option maxHeartbeats 400000 in
set_option maxRecDepth 100000 in
theorem c_readN (l : Launch) (G : hG) (M : hM) (A : Nat → Nat) (N : Nat) (sg : Nat → Nat) (nb : Nat → Int32) (wd : Nat → Int64) (hN : N < 400) (hTk : TkV G M A N sg nb wd) (hs7 : ∀ i, i ≤ N → sg i < 37) (sc np : Nat) (sn : Nat → Option Nat) (nn : Nat → Int32) (hPa : PaV G M A sg sc np sn nn) (t : Nat) (ht : 2000 ≤ t) (hlf : (sg np = 34 ∨ sg np = 15 ∨ sg np = 17)) (he : sg (np + 1) ≠ 26 ∧ sg (np + 1) ≠ 27 ∧ sg (np + 1) ≠ 24 ∧ sg (np + 1) ≠ 25) (hlt : np + 1 ≤ N) : hCT l G yX6_readSum cX6_readSum 1 (Option.some (FieldType.object "LossHouse$Formula")) (hRm 10 4 1203) M [.ref (A 8)] (fun v M' => ∃ q F sc1 sn1 nn1, v = some (.ref q) ∧ FoV G M' q t F ∧ FoL F [sg np] [nb np] ∧ PaV G M' A sg sc1 (np + 1) sn1 nn1 ∧ hFr (fun u => u = 8 ∨ u = 9 ∨ u = 10 ∨ (t ≤ u ∧ u < t + 10)) M M') := by
  refine hCT.of (own := RX6) (nm := "readSum") (by decide) rfl rfl (Nat.le_of_ble_eq_true rfl) ?_
  intro p e s m args below meth c ls X Y hl
  have hx := X.1
  have hb := X.2.1
  have hl : lv_has ls 1 [(0, .ref (A 8))] := hl
  obtain ⟨hp8, hp9, hp10⟩ := id hPa
  have hfr : hFr (fun u => u = 8 ∨ u = 9 ∨ u = 10) M M := hFr.rf
  have hs90 := hs7 (np) (by omega)
  have hs91 := hs7 (np + 1) (by omega)
  refine lv_aload_n hx hb dX6_readSum_0 rfl (lv_at hl 0 rfl) ?_
  refine lv_iconst (v := 0) hx hb dX6_readSum_1 (by decide) ?_
  refine h_put X Y (k := 3) (v := .int 0) hp8 rfl hin_X6 tyX6_ok nmX6 (by decide) kfl_X6_21 rfl rfl rfl (Nat.le_of_ble_eq_true rfl) dX6_readSum_2 (fun H locs Y => ?_)
  have Y : hHS G (hup M (A 8) (8, .inr (8, [.ref (A 3), .ref (A 9), .ref (A 10), .int 0, .int (nI np), .ref (hSg G (sg np))]))) s H locs := Y
  have hp9 := hup_tag (x := (8, .inr (8, [.ref (A 3), .ref (A 9), .ref (A 10), .int 0, .int (nI np), .ref (hSg G (sg np))]))) hp9 hp8 (by omega)
  have hp10 := hup_tag (x := (8, .inr (8, [.ref (A 3), .ref (A 9), .ref (A 10), .int 0, .int (nI np), .ref (hSg G (sg np))]))) hp10 hp8 (by omega)
  have hTk := hTk.fr (Z := fun u => u = 8 ∨ u = 9 ∨ u = 10) (hFr.put (x := (8, .inr (8, [.ref (A 3), .ref (A 9), .ref (A 10), .int 0, .int (nI np), .ref (hSg G (sg np))]))) hFr.rf hp8 (by omega)) (fun j z1 z2 z3 => by omega)
  have hfr := hfr.put (x := (8, .inr (8, [.ref (A 3), .ref (A 9), .ref (A 10), .int 0, .int (nI np), .ref (hSg G (sg np))]))) hp8 (Or.inl rfl)
  have hp8 : hup M (A 8) (8, .inr (8, [.ref (A 3), .ref (A 9), .ref (A 10), .int 0, .int (nI np), .ref (hSg G (sg np))])) (A 8) = some (8, .inr (8, [.ref (A 3), .ref (A 9), .ref (A 10), .int 0, .int (nI np), .ref (hSg G (sg np))])) := hup_eq
  generalize hup M (A 8) (8, .inr (8, [.ref (A 3), .ref (A 9), .ref (A 10), .int 0, .int (nI np), .ref (hSg G (sg np))])) = Mz1 at Y hp8 hp9 hp10 hTk hfr
  have hPa : PaV G Mz1 A sg 0 np sn nn := ⟨hp8, hp9, hp10⟩
  refine lv_aload_n hx hb dX6_readSum_5 rfl (lv_at hl 0 rfl) ?_
  refine lv_iconst (v := 0) hx hb dX6_readSum_6 (by decide) ?_
  refine h_callV (rest := []) X Y (c_sumN l G Mz1 A N sg nb wd hN hTk hs7 0 np sn nn hPa 0 hlf he (by omega) (by omega)) gw_X6_135 dsc_X6_sum hPa.1 rfl rfl rfl hl.1 rfl (Nat.le_of_ble_eq_true rfl) ⟨Nat.le_of_ble_eq_true rfl, Nat.le_of_ble_eq_true rfl⟩ ⟨Nat.le_of_ble_eq_true rfl, Nat.le_of_ble_eq_true rfl⟩ dX6_readSum_7 ?_
  rintro _ Mz2 H locs ⟨rfl, hPa, hfa⟩ Y
  try dsimp only [Option.toList, List.nil_append, List.singleton_append]
  have hTk := hTk.fr hfa (fun j z1 z2 z3 => by omega)
  have hfr := hFr.tr hfr hfa
  have hfr : hFr (fun u => u = 8 ∨ u = 9 ∨ u = 10 ∨ (t ≤ u ∧ u < t + 10)) M Mz2 := hfr.mono (fun u z => by omega)
  refine h_new (ci := 6) X Y (t) (fs := [.null, .null, .null]) rfl hin_X4 tyX4_ok kcl_X6_139 kinst_X4 kini_X4 (fun j hj => match j, hj with | 0, _ => rfl | 1, _ => rfl | 2, _ => rfl | z9 + 3, h9 => absurd h9 (by omega)) (Nat.le_of_ble_eq_true rfl) (Nat.le_of_ble_eq_true rfl) dX6_readSum_10 (fun qz3 Mz3 H fz3 hg3 Y => ?_)
  have hPa := hPa.fr (Z := fun _ => False) (hFr.grow hFr.rf hg3) ⟨id, id, id⟩
  have hfr := hFr.grow hfr hg3
  refine lv_dup hx hb dX6_readSum_13 rfl ?_
  refine lv_aload_n hx hb dX6_readSum_14 rfl (lv_at hl 0 rfl) ?_
  refine h_get X Y (k := 1) (v := .ref (A 9)) hPa.1 rfl hin_X6 (by decide) kfl_X6_11 rfl dX6_readSum_15 ?_
  refine lv_aload_n hx hb dX6_readSum_18 rfl (lv_at hl 0 rfl) ?_
  refine h_get X Y (k := 2) (v := .ref (A 10)) hPa.1 rfl hin_X6 (by decide) kfl_X6_17 rfl dX6_readSum_19 ?_
  refine lv_aload_n hx hb dX6_readSum_22 rfl (lv_at hl 0 rfl) ?_
  refine h_get X Y (k := 3) (v := .int (nI (0 + 1))) hPa.1 rfl hin_X6 (by decide) kfl_X6_21 rfl dX6_readSum_23 ?_
  have hks : ∀ i, i < 1 → (stp G sn 0 (sg np)) i = some (hSg G ([sg np].getD i 0)) ∧ [sg np].getD i 0 < 38 := by
    intro i hi
    rcases (show i = 0 by omega) with rfl
    · exact ⟨by simp [stp, va_up], by show sg np < 38; omega⟩
  refine h_callI (rest := [.ref qz3]) X Y (c_foInit l G Mz3 qz3 t 1 (stp G sn 0 (sg np)) (upd nn 0 (nb np)) (fun i => [sg np].getD i 0) (A 9) (A 10) fz3 hPa.2.1 hPa.2.2 ht (by omega) (by omega) hks) (hgi0 kco_X4_init) kini_X4 kml_X6_141 kin_X4_init rfl dsc_X4_init.2 rfl hl.1 rfl (Nat.le_of_ble_eq_true rfl) ⟨Nat.le_of_ble_eq_true rfl, Nat.le_of_ble_eq_true rfl⟩ ⟨Nat.le_of_ble_eq_true rfl, Nat.le_of_ble_eq_true rfl⟩ dX6_readSum_26 ?_
  rintro _ Mz4 H locs ⟨rfl, F, hF, hF1, hF2, hF3, hfi⟩ Y
  try dsimp only [Option.toList, List.nil_append]
  have hPa := hPa.fr hfi (by omega)
  have hfr := hFr.tr hfr (hfi.mono (fun u z => Or.inr (Or.inr (Or.inr z))))
  have hL : FoL F [sg np] [nb np] := by
    refine ⟨hF1, hF2, fun i hi => (hF3 i hi).trans ?_⟩
    have hi : i < 1 := hi
    rcases (show i = 0 by omega) with rfl
    · simp [upd]
  exact h_aret (v := some qz3) X Y (Or.inl ⟨_, rfl⟩) ⟨qz3, F, _, _, _, rfl, hF, hL, hPa, hfr⟩ (by show _ ≤ 4; omega) (by show _ ≤ 1203; omega) dX6_readSum_29
set_option maxHeartbeats 400000 in
set_option maxRecDepth 100000 in
theorem c_readA (l : Launch) (G : hG) (M : hM) (A : Nat → Nat) (N : Nat) (sg : Nat → Nat) (nb : Nat → Int32) (wd : Nat → Int64) (hN : N < 400) (hTk : TkV G M A N sg nb wd) (hs7 : ∀ i, i ≤ N → sg i < 37) (sc np : Nat) (sn : Nat → Option Nat) (nn : Nat → Int32) (hPa : PaV G M A sg sc np sn nn) (t : Nat) (ht : 2000 ≤ t) (hlf : (sg np = 34 ∨ sg np = 15 ∨ sg np = 17)) (hm : sg (np + 1) = 26) (hlf2 : (sg (np + 2) = 34 ∨ sg (np + 2) = 15 ∨ sg (np + 2) = 17)) (ho : sg (np + 3) = 24) (hlf3 : (sg (np + 4) = 34 ∨ sg (np + 4) = 15 ∨ sg (np + 4) = 17)) (he : sg (np + 5) ≠ 26 ∧ sg (np + 5) ≠ 27 ∧ sg (np + 5) ≠ 24 ∧ sg (np + 5) ≠ 25) (hlt : np + 5 ≤ N) : hCT l G yX6_readSum cX6_readSum 1 (Option.some (FieldType.object "LossHouse$Formula")) (hRm 10 4 1203) M [.ref (A 8)] (fun v M' => ∃ q F sc1 sn1 nn1, v = some (.ref q) ∧ FoV G M' q t F ∧ FoL F [sg np, sg (np + 2), sg (np + 1), sg (np + 4), sg (np + 3)] [nb np, nb (np + 2), 0, nb (np + 4), 0] ∧ PaV G M' A sg sc1 (np + 5) sn1 nn1 ∧ hFr (fun u => u = 8 ∨ u = 9 ∨ u = 10 ∨ (t ≤ u ∧ u < t + 10)) M M') := by
  refine hCT.of (own := RX6) (nm := "readSum") (by decide) rfl rfl (Nat.le_of_ble_eq_true rfl) ?_
  intro p e s m args below meth c ls X Y hl
  have hx := X.1
  have hb := X.2.1
  have hl : lv_has ls 1 [(0, .ref (A 8))] := hl
  obtain ⟨hp8, hp9, hp10⟩ := id hPa
  have hfr : hFr (fun u => u = 8 ∨ u = 9 ∨ u = 10) M M := hFr.rf
  have hs90 := hs7 (np) (by omega)
  have hs91 := hs7 (np + 1) (by omega)
  have hs92 := hs7 (np + 2) (by omega)
  have hs93 := hs7 (np + 3) (by omega)
  have hs94 := hs7 (np + 4) (by omega)
  have hs95 := hs7 (np + 5) (by omega)
  refine lv_aload_n hx hb dX6_readSum_0 rfl (lv_at hl 0 rfl) ?_
  refine lv_iconst (v := 0) hx hb dX6_readSum_1 (by decide) ?_
  refine h_put X Y (k := 3) (v := .int 0) hp8 rfl hin_X6 tyX6_ok nmX6 (by decide) kfl_X6_21 rfl rfl rfl (Nat.le_of_ble_eq_true rfl) dX6_readSum_2 (fun H locs Y => ?_)
  have Y : hHS G (hup M (A 8) (8, .inr (8, [.ref (A 3), .ref (A 9), .ref (A 10), .int 0, .int (nI np), .ref (hSg G (sg np))]))) s H locs := Y
  have hp9 := hup_tag (x := (8, .inr (8, [.ref (A 3), .ref (A 9), .ref (A 10), .int 0, .int (nI np), .ref (hSg G (sg np))]))) hp9 hp8 (by omega)
  have hp10 := hup_tag (x := (8, .inr (8, [.ref (A 3), .ref (A 9), .ref (A 10), .int 0, .int (nI np), .ref (hSg G (sg np))]))) hp10 hp8 (by omega)
  have hTk := hTk.fr (Z := fun u => u = 8 ∨ u = 9 ∨ u = 10) (hFr.put (x := (8, .inr (8, [.ref (A 3), .ref (A 9), .ref (A 10), .int 0, .int (nI np), .ref (hSg G (sg np))]))) hFr.rf hp8 (by omega)) (fun j z1 z2 z3 => by omega)
  have hfr := hfr.put (x := (8, .inr (8, [.ref (A 3), .ref (A 9), .ref (A 10), .int 0, .int (nI np), .ref (hSg G (sg np))]))) hp8 (Or.inl rfl)
  have hp8 : hup M (A 8) (8, .inr (8, [.ref (A 3), .ref (A 9), .ref (A 10), .int 0, .int (nI np), .ref (hSg G (sg np))])) (A 8) = some (8, .inr (8, [.ref (A 3), .ref (A 9), .ref (A 10), .int 0, .int (nI np), .ref (hSg G (sg np))])) := hup_eq
  generalize hup M (A 8) (8, .inr (8, [.ref (A 3), .ref (A 9), .ref (A 10), .int 0, .int (nI np), .ref (hSg G (sg np))])) = Mz1 at Y hp8 hp9 hp10 hTk hfr
  have hPa : PaV G Mz1 A sg 0 np sn nn := ⟨hp8, hp9, hp10⟩
  refine lv_aload_n hx hb dX6_readSum_5 rfl (lv_at hl 0 rfl) ?_
  refine lv_iconst (v := 0) hx hb dX6_readSum_6 (by decide) ?_
  refine h_callV (rest := []) X Y (c_sumA l G Mz1 A N sg nb wd hN hTk hs7 0 np sn nn hPa 0 hlf hm hlf2 ho hlf3 he (by omega) (by omega)) gw_X6_135 dsc_X6_sum hPa.1 rfl rfl rfl hl.1 rfl (Nat.le_of_ble_eq_true rfl) ⟨Nat.le_of_ble_eq_true rfl, Nat.le_of_ble_eq_true rfl⟩ ⟨Nat.le_of_ble_eq_true rfl, Nat.le_of_ble_eq_true rfl⟩ dX6_readSum_7 ?_
  rintro _ Mz2 H locs ⟨rfl, hPa, hfa⟩ Y
  try dsimp only [Option.toList, List.nil_append, List.singleton_append]
  have hTk := hTk.fr hfa (fun j z1 z2 z3 => by omega)
  have hfr := hFr.tr hfr hfa
  have hfr : hFr (fun u => u = 8 ∨ u = 9 ∨ u = 10 ∨ (t ≤ u ∧ u < t + 10)) M Mz2 := hfr.mono (fun u z => by omega)
  refine h_new (ci := 6) X Y (t) (fs := [.null, .null, .null]) rfl hin_X4 tyX4_ok kcl_X6_139 kinst_X4 kini_X4 (fun j hj => match j, hj with | 0, _ => rfl | 1, _ => rfl | 2, _ => rfl | z9 + 3, h9 => absurd h9 (by omega)) (Nat.le_of_ble_eq_true rfl) (Nat.le_of_ble_eq_true rfl) dX6_readSum_10 (fun qz3 Mz3 H fz3 hg3 Y => ?_)
  have hPa := hPa.fr (Z := fun _ => False) (hFr.grow hFr.rf hg3) ⟨id, id, id⟩
  have hfr := hFr.grow hfr hg3
  refine lv_dup hx hb dX6_readSum_13 rfl ?_
  refine lv_aload_n hx hb dX6_readSum_14 rfl (lv_at hl 0 rfl) ?_
  refine h_get X Y (k := 1) (v := .ref (A 9)) hPa.1 rfl hin_X6 (by decide) kfl_X6_11 rfl dX6_readSum_15 ?_
  refine lv_aload_n hx hb dX6_readSum_18 rfl (lv_at hl 0 rfl) ?_
  refine h_get X Y (k := 2) (v := .ref (A 10)) hPa.1 rfl hin_X6 (by decide) kfl_X6_17 rfl dX6_readSum_19 ?_
  refine lv_aload_n hx hb dX6_readSum_22 rfl (lv_at hl 0 rfl) ?_
  refine h_get X Y (k := 3) (v := .int (nI (0 + 5))) hPa.1 rfl hin_X6 (by decide) kfl_X6_21 rfl dX6_readSum_23 ?_
  have hks : ∀ i, i < 5 → (stp G (stp G (stp G (stp G (stp G sn 0 (sg np)) (0 + 1) (sg (np + 2))) (0 + 2) (sg (np + 1))) (0 + 3) (sg (np + 4))) (0 + 4) (sg (np + 3))) i = some (hSg G ([sg np, sg (np + 2), sg (np + 1), sg (np + 4), sg (np + 3)].getD i 0)) ∧ [sg np, sg (np + 2), sg (np + 1), sg (np + 4), sg (np + 3)].getD i 0 < 38 := by
    intro i hi
    rcases (show i = 0 ∨ i = 1 ∨ i = 2 ∨ i = 3 ∨ i = 4 by omega) with rfl | rfl | rfl | rfl | rfl
    · exact ⟨by simp [stp, va_up], by show sg np < 38; omega⟩
    · exact ⟨by simp [stp, va_up], by show sg (np + 2) < 38; omega⟩
    · exact ⟨by simp [stp, va_up], by show sg (np + 1) < 38; omega⟩
    · exact ⟨by simp [stp, va_up], by show sg (np + 4) < 38; omega⟩
    · exact ⟨by simp [stp, va_up], by show sg (np + 3) < 38; omega⟩
  refine h_callI (rest := [.ref qz3]) X Y (c_foInit l G Mz3 qz3 t 5 (stp G (stp G (stp G (stp G (stp G sn 0 (sg np)) (0 + 1) (sg (np + 2))) (0 + 2) (sg (np + 1))) (0 + 3) (sg (np + 4))) (0 + 4) (sg (np + 3))) (upd (upd (upd (upd (upd nn 0 (nb np)) (0 + 1) (nb (np + 2))) (0 + 2) 0) (0 + 3) (nb (np + 4))) (0 + 4) 0) (fun i => [sg np, sg (np + 2), sg (np + 1), sg (np + 4), sg (np + 3)].getD i 0) (A 9) (A 10) fz3 hPa.2.1 hPa.2.2 ht (by omega) (by omega) hks) (hgi0 kco_X4_init) kini_X4 kml_X6_141 kin_X4_init rfl dsc_X4_init.2 rfl hl.1 rfl (Nat.le_of_ble_eq_true rfl) ⟨Nat.le_of_ble_eq_true rfl, Nat.le_of_ble_eq_true rfl⟩ ⟨Nat.le_of_ble_eq_true rfl, Nat.le_of_ble_eq_true rfl⟩ dX6_readSum_26 ?_
  rintro _ Mz4 H locs ⟨rfl, F, hF, hF1, hF2, hF3, hfi⟩ Y
  try dsimp only [Option.toList, List.nil_append]
  have hPa := hPa.fr hfi (by omega)
  have hfr := hFr.tr hfr (hfi.mono (fun u z => Or.inr (Or.inr (Or.inr z))))
  have hL : FoL F [sg np, sg (np + 2), sg (np + 1), sg (np + 4), sg (np + 3)] [nb np, nb (np + 2), 0, nb (np + 4), 0] := by
    refine ⟨hF1, hF2, fun i hi => (hF3 i hi).trans ?_⟩
    have hi : i < 5 := hi
    rcases (show i = 0 ∨ i = 1 ∨ i = 2 ∨ i = 3 ∨ i = 4 by omega) with rfl | rfl | rfl | rfl | rfl
    · simp [upd]
    · simp [upd]
    · simp [upd]
    · simp [upd]
    · simp [upd]
  exact h_aret (v := some qz3) X Y (Or.inl ⟨_, rfl⟩) ⟨qz3, F, _, _, _, rfl, hF, hL, hPa, hfr⟩ (by show _ ≤ 4; omega) (by show _ ≤ 1203; omega) dX6_readSum_29
set_option maxHeartbeats 400000 in
set_option maxRecDepth 100000 in
theorem c_readB (l : Launch) (G : hG) (M : hM) (A : Nat → Nat) (N : Nat) (sg : Nat → Nat) (nb : Nat → Int32) (wd : Nat → Int64) (hN : N < 400) (hTk : TkV G M A N sg nb wd) (hs7 : ∀ i, i ≤ N → sg i < 37) (sc np : Nat) (sn : Nat → Option Nat) (nn : Nat → Int32) (hPa : PaV G M A sg sc np sn nn) (t : Nat) (ht : 2000 ≤ t) (hlf : (sg np = 34 ∨ sg np = 15 ∨ sg np = 17)) (ho : sg (np + 1) = 24) (hlf2 : (sg (np + 2) = 34 ∨ sg (np + 2) = 15 ∨ sg (np + 2) = 17)) (hm : sg (np + 3) = 26) (hlf3 : (sg (np + 4) = 34 ∨ sg (np + 4) = 15 ∨ sg (np + 4) = 17)) (he : sg (np + 5) ≠ 26 ∧ sg (np + 5) ≠ 27 ∧ sg (np + 5) ≠ 24 ∧ sg (np + 5) ≠ 25) (hlt : np + 5 ≤ N) : hCT l G yX6_readSum cX6_readSum 1 (Option.some (FieldType.object "LossHouse$Formula")) (hRm 10 4 1203) M [.ref (A 8)] (fun v M' => ∃ q F sc1 sn1 nn1, v = some (.ref q) ∧ FoV G M' q t F ∧ FoL F [sg np, sg (np + 2), sg (np + 4), sg (np + 3), sg (np + 1)] [nb np, nb (np + 2), nb (np + 4), 0, 0] ∧ PaV G M' A sg sc1 (np + 5) sn1 nn1 ∧ hFr (fun u => u = 8 ∨ u = 9 ∨ u = 10 ∨ (t ≤ u ∧ u < t + 10)) M M') := by
  refine hCT.of (own := RX6) (nm := "readSum") (by decide) rfl rfl (Nat.le_of_ble_eq_true rfl) ?_
  intro p e s m args below meth c ls X Y hl
  have hx := X.1
  have hb := X.2.1
  have hl : lv_has ls 1 [(0, .ref (A 8))] := hl
  obtain ⟨hp8, hp9, hp10⟩ := id hPa
  have hfr : hFr (fun u => u = 8 ∨ u = 9 ∨ u = 10) M M := hFr.rf
  have hs90 := hs7 (np) (by omega)
  have hs91 := hs7 (np + 1) (by omega)
  have hs92 := hs7 (np + 2) (by omega)
  have hs93 := hs7 (np + 3) (by omega)
  have hs94 := hs7 (np + 4) (by omega)
  have hs95 := hs7 (np + 5) (by omega)
  refine lv_aload_n hx hb dX6_readSum_0 rfl (lv_at hl 0 rfl) ?_
  refine lv_iconst (v := 0) hx hb dX6_readSum_1 (by decide) ?_
  refine h_put X Y (k := 3) (v := .int 0) hp8 rfl hin_X6 tyX6_ok nmX6 (by decide) kfl_X6_21 rfl rfl rfl (Nat.le_of_ble_eq_true rfl) dX6_readSum_2 (fun H locs Y => ?_)
  have Y : hHS G (hup M (A 8) (8, .inr (8, [.ref (A 3), .ref (A 9), .ref (A 10), .int 0, .int (nI np), .ref (hSg G (sg np))]))) s H locs := Y
  have hp9 := hup_tag (x := (8, .inr (8, [.ref (A 3), .ref (A 9), .ref (A 10), .int 0, .int (nI np), .ref (hSg G (sg np))]))) hp9 hp8 (by omega)
  have hp10 := hup_tag (x := (8, .inr (8, [.ref (A 3), .ref (A 9), .ref (A 10), .int 0, .int (nI np), .ref (hSg G (sg np))]))) hp10 hp8 (by omega)
  have hTk := hTk.fr (Z := fun u => u = 8 ∨ u = 9 ∨ u = 10) (hFr.put (x := (8, .inr (8, [.ref (A 3), .ref (A 9), .ref (A 10), .int 0, .int (nI np), .ref (hSg G (sg np))]))) hFr.rf hp8 (by omega)) (fun j z1 z2 z3 => by omega)
  have hfr := hfr.put (x := (8, .inr (8, [.ref (A 3), .ref (A 9), .ref (A 10), .int 0, .int (nI np), .ref (hSg G (sg np))]))) hp8 (Or.inl rfl)
  have hp8 : hup M (A 8) (8, .inr (8, [.ref (A 3), .ref (A 9), .ref (A 10), .int 0, .int (nI np), .ref (hSg G (sg np))])) (A 8) = some (8, .inr (8, [.ref (A 3), .ref (A 9), .ref (A 10), .int 0, .int (nI np), .ref (hSg G (sg np))])) := hup_eq
  generalize hup M (A 8) (8, .inr (8, [.ref (A 3), .ref (A 9), .ref (A 10), .int 0, .int (nI np), .ref (hSg G (sg np))])) = Mz1 at Y hp8 hp9 hp10 hTk hfr
  have hPa : PaV G Mz1 A sg 0 np sn nn := ⟨hp8, hp9, hp10⟩
  refine lv_aload_n hx hb dX6_readSum_5 rfl (lv_at hl 0 rfl) ?_
  refine lv_iconst (v := 0) hx hb dX6_readSum_6 (by decide) ?_
  refine h_callV (rest := []) X Y (c_sumB l G Mz1 A N sg nb wd hN hTk hs7 0 np sn nn hPa 0 hlf ho hlf2 hm hlf3 he (by omega) (by omega)) gw_X6_135 dsc_X6_sum hPa.1 rfl rfl rfl hl.1 rfl (Nat.le_of_ble_eq_true rfl) ⟨Nat.le_of_ble_eq_true rfl, Nat.le_of_ble_eq_true rfl⟩ ⟨Nat.le_of_ble_eq_true rfl, Nat.le_of_ble_eq_true rfl⟩ dX6_readSum_7 ?_
  rintro _ Mz2 H locs ⟨rfl, hPa, hfa⟩ Y
  try dsimp only [Option.toList, List.nil_append, List.singleton_append]
  have hTk := hTk.fr hfa (fun j z1 z2 z3 => by omega)
  have hfr := hFr.tr hfr hfa
  have hfr : hFr (fun u => u = 8 ∨ u = 9 ∨ u = 10 ∨ (t ≤ u ∧ u < t + 10)) M Mz2 := hfr.mono (fun u z => by omega)
  refine h_new (ci := 6) X Y (t) (fs := [.null, .null, .null]) rfl hin_X4 tyX4_ok kcl_X6_139 kinst_X4 kini_X4 (fun j hj => match j, hj with | 0, _ => rfl | 1, _ => rfl | 2, _ => rfl | z9 + 3, h9 => absurd h9 (by omega)) (Nat.le_of_ble_eq_true rfl) (Nat.le_of_ble_eq_true rfl) dX6_readSum_10 (fun qz3 Mz3 H fz3 hg3 Y => ?_)
  have hPa := hPa.fr (Z := fun _ => False) (hFr.grow hFr.rf hg3) ⟨id, id, id⟩
  have hfr := hFr.grow hfr hg3
  refine lv_dup hx hb dX6_readSum_13 rfl ?_
  refine lv_aload_n hx hb dX6_readSum_14 rfl (lv_at hl 0 rfl) ?_
  refine h_get X Y (k := 1) (v := .ref (A 9)) hPa.1 rfl hin_X6 (by decide) kfl_X6_11 rfl dX6_readSum_15 ?_
  refine lv_aload_n hx hb dX6_readSum_18 rfl (lv_at hl 0 rfl) ?_
  refine h_get X Y (k := 2) (v := .ref (A 10)) hPa.1 rfl hin_X6 (by decide) kfl_X6_17 rfl dX6_readSum_19 ?_
  refine lv_aload_n hx hb dX6_readSum_22 rfl (lv_at hl 0 rfl) ?_
  refine h_get X Y (k := 3) (v := .int (nI (0 + 5))) hPa.1 rfl hin_X6 (by decide) kfl_X6_21 rfl dX6_readSum_23 ?_
  have hks : ∀ i, i < 5 → (stp G (stp G (stp G (stp G (stp G sn 0 (sg np)) (0 + 1) (sg (np + 2))) (0 + 2) (sg (np + 4))) (0 + 3) (sg (np + 3))) (0 + 4) (sg (np + 1))) i = some (hSg G ([sg np, sg (np + 2), sg (np + 4), sg (np + 3), sg (np + 1)].getD i 0)) ∧ [sg np, sg (np + 2), sg (np + 4), sg (np + 3), sg (np + 1)].getD i 0 < 38 := by
    intro i hi
    rcases (show i = 0 ∨ i = 1 ∨ i = 2 ∨ i = 3 ∨ i = 4 by omega) with rfl | rfl | rfl | rfl | rfl
    · exact ⟨by simp [stp, va_up], by show sg np < 38; omega⟩
    · exact ⟨by simp [stp, va_up], by show sg (np + 2) < 38; omega⟩
    · exact ⟨by simp [stp, va_up], by show sg (np + 4) < 38; omega⟩
    · exact ⟨by simp [stp, va_up], by show sg (np + 3) < 38; omega⟩
    · exact ⟨by simp [stp, va_up], by show sg (np + 1) < 38; omega⟩
  refine h_callI (rest := [.ref qz3]) X Y (c_foInit l G Mz3 qz3 t 5 (stp G (stp G (stp G (stp G (stp G sn 0 (sg np)) (0 + 1) (sg (np + 2))) (0 + 2) (sg (np + 4))) (0 + 3) (sg (np + 3))) (0 + 4) (sg (np + 1))) (upd (upd (upd (upd (upd nn 0 (nb np)) (0 + 1) (nb (np + 2))) (0 + 2) (nb (np + 4))) (0 + 3) 0) (0 + 4) 0) (fun i => [sg np, sg (np + 2), sg (np + 4), sg (np + 3), sg (np + 1)].getD i 0) (A 9) (A 10) fz3 hPa.2.1 hPa.2.2 ht (by omega) (by omega) hks) (hgi0 kco_X4_init) kini_X4 kml_X6_141 kin_X4_init rfl dsc_X4_init.2 rfl hl.1 rfl (Nat.le_of_ble_eq_true rfl) ⟨Nat.le_of_ble_eq_true rfl, Nat.le_of_ble_eq_true rfl⟩ ⟨Nat.le_of_ble_eq_true rfl, Nat.le_of_ble_eq_true rfl⟩ dX6_readSum_26 ?_
  rintro _ Mz4 H locs ⟨rfl, F, hF, hF1, hF2, hF3, hfi⟩ Y
  try dsimp only [Option.toList, List.nil_append]
  have hPa := hPa.fr hfi (by omega)
  have hfr := hFr.tr hfr (hfi.mono (fun u z => Or.inr (Or.inr (Or.inr z))))
  have hL : FoL F [sg np, sg (np + 2), sg (np + 4), sg (np + 3), sg (np + 1)] [nb np, nb (np + 2), nb (np + 4), 0, 0] := by
    refine ⟨hF1, hF2, fun i hi => (hF3 i hi).trans ?_⟩
    have hi : i < 5 := hi
    rcases (show i = 0 ∨ i = 1 ∨ i = 2 ∨ i = 3 ∨ i = 4 by omega) with rfl | rfl | rfl | rfl | rfl
    · simp [upd]
    · simp [upd]
    · simp [upd]
    · simp [upd]
    · simp [upd]
  exact h_aret (v := some qz3) X Y (Or.inl ⟨_, rfl⟩) ⟨qz3, F, _, _, _, rfl, hF, hL, hPa, hfr⟩ (by show _ ≤ 4; omega) (by show _ ≤ 1203; omega) dX6_readSum_29
theorem gw_X6_144 : GoodIn hGW (wsV RX6 144 RX6 yX6_test (Cond.code yX6_test cX6_test 3 (Option.none) :: hGW)) := hgi4 kml_X6_144 kin_X6_test kse_X6_X6_test_X6_test kini_X6 kco_X6_test
theorem dsc_X6_test : yX6_test.cls = RX6 ∧ yX6_test.cls ≠ "java/lang/invoke/MethodHandle" ∧ yX6_test.cls ≠ "java/lang/invoke/VarHandle" ∧ (parseMethodDescriptor yX6_test.desc).map (fun d => d.parameters.length) = some 1 := ⟨rfl, by decide +kernel, by decide +kernel, by decide +kernel⟩
theorem dX6_readTest_0 : decode cX6_readTest 0 = .ok (.aload_n 0, 1) := by decide +kernel
theorem dX6_readTest_1 : decode cX6_readTest 1 = .ok (.iconst 0, 1) := by decide +kernel
theorem dX6_readTest_2 : decode cX6_readTest 2 = .ok (.putfield 21, 3) := by decide +kernel
theorem dX6_readTest_5 : decode cX6_readTest 5 = .ok (.aload_n 0, 1) := by decide +kernel
theorem dX6_readTest_6 : decode cX6_readTest 6 = .ok (.iconst 0, 1) := by decide +kernel
theorem dX6_readTest_7 : decode cX6_readTest 7 = .ok (.invokevirtual 144, 3) := by decide +kernel
theorem dX6_readTest_10 : decode cX6_readTest 10 = .ok (.new 139, 3) := by decide +kernel
theorem dX6_readTest_13 : decode cX6_readTest 13 = .ok (.dup, 1) := by decide +kernel
theorem dX6_readTest_14 : decode cX6_readTest 14 = .ok (.aload_n 0, 1) := by decide +kernel
theorem dX6_readTest_15 : decode cX6_readTest 15 = .ok (.getfield 11, 3) := by decide +kernel
theorem dX6_readTest_18 : decode cX6_readTest 18 = .ok (.aload_n 0, 1) := by decide +kernel
theorem dX6_readTest_19 : decode cX6_readTest 19 = .ok (.getfield 17, 3) := by decide +kernel
theorem dX6_readTest_22 : decode cX6_readTest 22 = .ok (.aload_n 0, 1) := by decide +kernel
theorem dX6_readTest_23 : decode cX6_readTest 23 = .ok (.getfield 21, 3) := by decide +kernel
theorem dX6_readTest_26 : decode cX6_readTest 26 = .ok (.invokespecial 141, 3) := by decide +kernel
theorem dX6_readTest_29 : decode cX6_readTest 29 = .ok (.areturn, 1) := by decide +kernel
set_option maxHeartbeats 400000 in
set_option maxRecDepth 100000 in
theorem c_readT (l : Launch) (G : hG) (M : hM) (A : Nat → Nat) (N : Nat) (sg : Nat → Nat) (nb : Nat → Int32) (wd : Nat → Int64) (hN : N < 400) (hTk : TkV G M A N sg nb wd) (hs7 : ∀ i, i ≤ N → sg i < 37) (sc np : Nat) (sn : Nat → Option Nat) (nn : Nat → Int32) (hPa : PaV G M A sg sc np sn nn) (t : Nat) (ht : 2000 ≤ t) (hlf : (sg np = 34 ∨ sg np = 15 ∨ sg np = 17)) (hk : sg (np + 1) = 28 ∨ sg (np + 1) = 32) (hlf2 : (sg (np + 2) = 34 ∨ sg (np + 2) = 15 ∨ sg (np + 2) = 17)) (hor : sg (np + 3) = 11) (hn : sg (np + 4) = 12) (hlf3 : (sg (np + 5) = 34 ∨ sg (np + 5) = 15 ∨ sg (np + 5) = 17)) (hk2 : sg (np + 6) = 28 ∨ sg (np + 6) = 32) (hlf4 : (sg (np + 7) = 34 ∨ sg (np + 7) = 15 ∨ sg (np + 7) = 17)) (he : sg (np + 8) = 22) (hlt : np + 8 ≤ N) : hCT l G yX6_readTest cX6_readTest 1 (Option.some (FieldType.object "LossHouse$Formula")) (hRm 10 4 1203) M [.ref (A 8)] (fun v M' => ∃ q F sc1 sn1 nn1, v = some (.ref q) ∧ FoV G M' q t F ∧ FoL F [sg np, sg (np + 2), sg (np + 1), sg (np + 5), sg (np + 7), sg (np + 6), 12, 11] [nb np, nb (np + 2), 0, nb (np + 5), nb (np + 7), 0, 0, 0] ∧ PaV G M' A sg sc1 (np + 8) sn1 nn1 ∧ hFr (fun u => u = 8 ∨ u = 9 ∨ u = 10 ∨ (t ≤ u ∧ u < t + 10)) M M') := by
  refine hCT.of (own := RX6) (nm := "readTest") (by decide) rfl rfl (Nat.le_of_ble_eq_true rfl) ?_
  intro p e s m args below meth c ls X Y hl
  have hx := X.1
  have hb := X.2.1
  have hl : lv_has ls 1 [(0, .ref (A 8))] := hl
  obtain ⟨hp8, hp9, hp10⟩ := id hPa
  have hfr : hFr (fun u => u = 8 ∨ u = 9 ∨ u = 10) M M := hFr.rf
  have hs90 := hs7 (np) (by omega)
  have hs91 := hs7 (np + 1) (by omega)
  have hs92 := hs7 (np + 2) (by omega)
  have hs93 := hs7 (np + 3) (by omega)
  have hs94 := hs7 (np + 4) (by omega)
  have hs95 := hs7 (np + 5) (by omega)
  have hs96 := hs7 (np + 6) (by omega)
  have hs97 := hs7 (np + 7) (by omega)
  have hs98 := hs7 (np + 8) (by omega)
  refine lv_aload_n hx hb dX6_readTest_0 rfl (lv_at hl 0 rfl) ?_
  refine lv_iconst (v := 0) hx hb dX6_readTest_1 (by decide) ?_
  refine h_put X Y (k := 3) (v := .int 0) hp8 rfl hin_X6 tyX6_ok nmX6 (by decide) kfl_X6_21 rfl rfl rfl (Nat.le_of_ble_eq_true rfl) dX6_readTest_2 (fun H locs Y => ?_)
  have Y : hHS G (hup M (A 8) (8, .inr (8, [.ref (A 3), .ref (A 9), .ref (A 10), .int 0, .int (nI np), .ref (hSg G (sg np))]))) s H locs := Y
  have hp9 := hup_tag (x := (8, .inr (8, [.ref (A 3), .ref (A 9), .ref (A 10), .int 0, .int (nI np), .ref (hSg G (sg np))]))) hp9 hp8 (by omega)
  have hp10 := hup_tag (x := (8, .inr (8, [.ref (A 3), .ref (A 9), .ref (A 10), .int 0, .int (nI np), .ref (hSg G (sg np))]))) hp10 hp8 (by omega)
  have hTk := hTk.fr (Z := fun u => u = 8 ∨ u = 9 ∨ u = 10) (hFr.put (x := (8, .inr (8, [.ref (A 3), .ref (A 9), .ref (A 10), .int 0, .int (nI np), .ref (hSg G (sg np))]))) hFr.rf hp8 (by omega)) (fun j z1 z2 z3 => by omega)
  have hfr := hfr.put (x := (8, .inr (8, [.ref (A 3), .ref (A 9), .ref (A 10), .int 0, .int (nI np), .ref (hSg G (sg np))]))) hp8 (Or.inl rfl)
  have hp8 : hup M (A 8) (8, .inr (8, [.ref (A 3), .ref (A 9), .ref (A 10), .int 0, .int (nI np), .ref (hSg G (sg np))])) (A 8) = some (8, .inr (8, [.ref (A 3), .ref (A 9), .ref (A 10), .int 0, .int (nI np), .ref (hSg G (sg np))])) := hup_eq
  generalize hup M (A 8) (8, .inr (8, [.ref (A 3), .ref (A 9), .ref (A 10), .int 0, .int (nI np), .ref (hSg G (sg np))])) = Mz1 at Y hp8 hp9 hp10 hTk hfr
  have hPa : PaV G Mz1 A sg 0 np sn nn := ⟨hp8, hp9, hp10⟩
  refine lv_aload_n hx hb dX6_readTest_5 rfl (lv_at hl 0 rfl) ?_
  refine lv_iconst (v := 0) hx hb dX6_readTest_6 (by decide) ?_
  refine h_callV (rest := []) X Y (c_test l G Mz1 A N sg nb wd hN hTk hs7 0 np sn nn hPa 0 (by omega) hlf hk hlf2 hor hn hlf3 hk2 hlf4 he (by omega) (by omega)) gw_X6_144 dsc_X6_test hPa.1 rfl rfl rfl hl.1 rfl (Nat.le_of_ble_eq_true rfl) ⟨Nat.le_of_ble_eq_true rfl, Nat.le_of_ble_eq_true rfl⟩ ⟨Nat.le_of_ble_eq_true rfl, Nat.le_of_ble_eq_true rfl⟩ dX6_readTest_7 ?_
  rintro _ Mz2 H locs ⟨rfl, hPa, hfa⟩ Y
  try dsimp only [Option.toList, List.nil_append, List.singleton_append]
  have hTk := hTk.fr hfa (fun j z1 z2 z3 => by omega)
  have hfr := hFr.tr hfr hfa
  have hfr : hFr (fun u => u = 8 ∨ u = 9 ∨ u = 10 ∨ (t ≤ u ∧ u < t + 10)) M Mz2 := hfr.mono (fun u z => by omega)
  refine h_new (ci := 6) X Y (t) (fs := [.null, .null, .null]) rfl hin_X4 tyX4_ok kcl_X6_139 kinst_X4 kini_X4 (fun j hj => match j, hj with | 0, _ => rfl | 1, _ => rfl | 2, _ => rfl | z9 + 3, h9 => absurd h9 (by omega)) (Nat.le_of_ble_eq_true rfl) (Nat.le_of_ble_eq_true rfl) dX6_readTest_10 (fun qz3 Mz3 H fz3 hg3 Y => ?_)
  have hPa := hPa.fr (Z := fun _ => False) (hFr.grow hFr.rf hg3) ⟨id, id, id⟩
  have hfr := hFr.grow hfr hg3
  refine lv_dup hx hb dX6_readTest_13 rfl ?_
  refine lv_aload_n hx hb dX6_readTest_14 rfl (lv_at hl 0 rfl) ?_
  refine h_get X Y (k := 1) (v := .ref (A 9)) hPa.1 rfl hin_X6 (by decide) kfl_X6_11 rfl dX6_readTest_15 ?_
  refine lv_aload_n hx hb dX6_readTest_18 rfl (lv_at hl 0 rfl) ?_
  refine h_get X Y (k := 2) (v := .ref (A 10)) hPa.1 rfl hin_X6 (by decide) kfl_X6_17 rfl dX6_readTest_19 ?_
  refine lv_aload_n hx hb dX6_readTest_22 rfl (lv_at hl 0 rfl) ?_
  refine h_get X Y (k := 3) (v := .int (nI (0 + 8))) hPa.1 rfl hin_X6 (by decide) kfl_X6_21 rfl dX6_readTest_23 ?_
  have hks : ∀ i, i < 8 → (stp G (stp G (stp G (stp G (stp G (stp G (stp G (stp G sn 0 (sg np)) (0 + 1) (sg (np + 2))) (0 + 2) (sg (np + 1))) (0 + 3) (sg (np + 5))) (0 + 4) (sg (np + 7))) (0 + 5) (sg (np + 6))) (0 + 6) 12) (0 + 7) 11) i = some (hSg G ([sg np, sg (np + 2), sg (np + 1), sg (np + 5), sg (np + 7), sg (np + 6), 12, 11].getD i 0)) ∧ [sg np, sg (np + 2), sg (np + 1), sg (np + 5), sg (np + 7), sg (np + 6), 12, 11].getD i 0 < 38 := by
    intro i hi
    rcases (show i = 0 ∨ i = 1 ∨ i = 2 ∨ i = 3 ∨ i = 4 ∨ i = 5 ∨ i = 6 ∨ i = 7 by omega) with rfl | rfl | rfl | rfl | rfl | rfl | rfl | rfl
    · exact ⟨by simp [stp, va_up], by show sg np < 38; omega⟩
    · exact ⟨by simp [stp, va_up], by show sg (np + 2) < 38; omega⟩
    · exact ⟨by simp [stp, va_up], by show sg (np + 1) < 38; omega⟩
    · exact ⟨by simp [stp, va_up], by show sg (np + 5) < 38; omega⟩
    · exact ⟨by simp [stp, va_up], by show sg (np + 7) < 38; omega⟩
    · exact ⟨by simp [stp, va_up], by show sg (np + 6) < 38; omega⟩
    · exact ⟨by simp [stp, va_up], by show 12 < 38; omega⟩
    · exact ⟨by simp [stp, va_up], by show 11 < 38; omega⟩
  refine h_callI (rest := [.ref qz3]) X Y (c_foInit l G Mz3 qz3 t 8 (stp G (stp G (stp G (stp G (stp G (stp G (stp G (stp G sn 0 (sg np)) (0 + 1) (sg (np + 2))) (0 + 2) (sg (np + 1))) (0 + 3) (sg (np + 5))) (0 + 4) (sg (np + 7))) (0 + 5) (sg (np + 6))) (0 + 6) 12) (0 + 7) 11) (upd (upd (upd (upd (upd (upd (upd (upd nn 0 (nb np)) (0 + 1) (nb (np + 2))) (0 + 2) 0) (0 + 3) (nb (np + 5))) (0 + 4) (nb (np + 7))) (0 + 5) 0) (0 + 6) 0) (0 + 7) 0) (fun i => [sg np, sg (np + 2), sg (np + 1), sg (np + 5), sg (np + 7), sg (np + 6), 12, 11].getD i 0) (A 9) (A 10) fz3 hPa.2.1 hPa.2.2 ht (by omega) (by omega) hks) (hgi0 kco_X4_init) kini_X4 kml_X6_141 kin_X4_init rfl dsc_X4_init.2 rfl hl.1 rfl (Nat.le_of_ble_eq_true rfl) ⟨Nat.le_of_ble_eq_true rfl, Nat.le_of_ble_eq_true rfl⟩ ⟨Nat.le_of_ble_eq_true rfl, Nat.le_of_ble_eq_true rfl⟩ dX6_readTest_26 ?_
  rintro _ Mz4 H locs ⟨rfl, F, hF, hF1, hF2, hF3, hfi⟩ Y
  try dsimp only [Option.toList, List.nil_append]
  have hPa := hPa.fr hfi (by omega)
  have hfr := hFr.tr hfr (hfi.mono (fun u z => Or.inr (Or.inr (Or.inr z))))
  have hL : FoL F [sg np, sg (np + 2), sg (np + 1), sg (np + 5), sg (np + 7), sg (np + 6), 12, 11] [nb np, nb (np + 2), 0, nb (np + 5), nb (np + 7), 0, 0, 0] := by
    refine ⟨hF1, hF2, fun i hi => (hF3 i hi).trans ?_⟩
    have hi : i < 8 := hi
    rcases (show i = 0 ∨ i = 1 ∨ i = 2 ∨ i = 3 ∨ i = 4 ∨ i = 5 ∨ i = 6 ∨ i = 7 by omega) with rfl | rfl | rfl | rfl | rfl | rfl | rfl | rfl
    · simp [upd]
    · simp [upd]
    · simp [upd]
    · simp [upd]
    · simp [upd]
    · simp [upd]
    · simp [upd]
    · simp [upd]
  exact h_aret (v := some qz3) X Y (Or.inl ⟨_, rfl⟩) ⟨qz3, F, _, _, _, rfl, hF, hL, hPa, hfr⟩ (by show _ ≤ 4; omega) (by show _ ≤ 1203; omega) dX6_readTest_29
def lyI0 : Nat → Int32 := fun k => match k with | 0 => 100 | 1 => -1 | _ => 0
def lyT0 : Nat → Int32 := upd (upd (upd (upd (fun _ => 0) 0 (-1)) 1 (-1)) 2 (-1)) 3 (-1)
/-- a layer as it is made -/
def ly0 (a1 a2 r2 r3 r4 r5 r6 : Nat) : hLy := (fun k => match k with | 0 => a1 | 1 => a2 | 2 => r2 | 3 => r3 | 4 => r4 | 5 => r5 | _ => r6, fun _ => none, lyI0, fun k => match k with | 0 => lyT0 | _ => fun _ => 0, fun _ => 0)
theorem dX5_init_0 : decode cX5_init 0 = .ok (.aload_n 0, 1) := by decide +kernel
theorem dX5_init_1 : decode cX5_init 1 = .ok (.invokespecial 3, 3) := by decide +kernel
theorem dX5_init_4 : decode cX5_init 4 = .ok (.aload_n 0, 1) := by decide +kernel
theorem dX5_init_5 : decode cX5_init 5 = .ok (.aconst_null, 1) := by decide +kernel
theorem dX5_init_6 : decode cX5_init 6 = .ok (.putfield 9, 3) := by decide +kernel
theorem dX5_init_9 : decode cX5_init 9 = .ok (.aload_n 0, 1) := by decide +kernel
theorem dX5_init_10 : decode cX5_init 10 = .ok (.aconst_null, 1) := by decide +kernel
theorem dX5_init_11 : decode cX5_init 11 = .ok (.putfield 15, 3) := by decide +kernel
theorem dX5_init_14 : decode cX5_init 14 = .ok (.aload_n 0, 1) := by decide +kernel
theorem dX5_init_15 : decode cX5_init 15 = .ok (.aconst_null, 1) := by decide +kernel
theorem dX5_init_16 : decode cX5_init 16 = .ok (.putfield 18, 3) := by decide +kernel
theorem dX5_init_19 : decode cX5_init 19 = .ok (.aload_n 0, 1) := by decide +kernel
theorem dX5_init_20 : decode cX5_init 20 = .ok (.bipush 100, 2) := by decide +kernel
theorem dX5_init_22 : decode cX5_init 22 = .ok (.putfield 21, 3) := by decide +kernel
theorem dX5_init_25 : decode cX5_init 25 = .ok (.aload_n 0, 1) := by decide +kernel
theorem dX5_init_26 : decode cX5_init 26 = .ok (.iconst (-1), 1) := by decide +kernel
theorem dX5_init_27 : decode cX5_init 27 = .ok (.putfield 25, 3) := by decide +kernel
theorem dX5_init_30 : decode cX5_init 30 = .ok (.aload_n 0, 1) := by decide +kernel
theorem dX5_init_31 : decode cX5_init 31 = .ok (.iconst 4, 1) := by decide +kernel
theorem dX5_init_32 : decode cX5_init 32 = .ok (.newarray .int, 2) := by decide +kernel
theorem dX5_init_34 : decode cX5_init 34 = .ok (.dup, 1) := by decide +kernel
theorem dX5_init_35 : decode cX5_init 35 = .ok (.iconst 0, 1) := by decide +kernel
theorem dX5_init_36 : decode cX5_init 36 = .ok (.iconst (-1), 1) := by decide +kernel
theorem dX5_init_37 : decode cX5_init 37 = .ok (.iastore, 1) := by decide +kernel
theorem dX5_init_38 : decode cX5_init 38 = .ok (.dup, 1) := by decide +kernel
theorem dX5_init_39 : decode cX5_init 39 = .ok (.iconst 1, 1) := by decide +kernel
theorem dX5_init_40 : decode cX5_init 40 = .ok (.iconst (-1), 1) := by decide +kernel
theorem dX5_init_41 : decode cX5_init 41 = .ok (.iastore, 1) := by decide +kernel
theorem dX5_init_42 : decode cX5_init 42 = .ok (.dup, 1) := by decide +kernel
theorem dX5_init_43 : decode cX5_init 43 = .ok (.iconst 2, 1) := by decide +kernel
theorem dX5_init_44 : decode cX5_init 44 = .ok (.iconst (-1), 1) := by decide +kernel
theorem dX5_init_45 : decode cX5_init 45 = .ok (.iastore, 1) := by decide +kernel
theorem dX5_init_46 : decode cX5_init 46 = .ok (.dup, 1) := by decide +kernel
theorem dX5_init_47 : decode cX5_init 47 = .ok (.iconst 3, 1) := by decide +kernel
theorem dX5_init_48 : decode cX5_init 48 = .ok (.iconst (-1), 1) := by decide +kernel
theorem dX5_init_49 : decode cX5_init 49 = .ok (.iastore, 1) := by decide +kernel
theorem dX5_init_50 : decode cX5_init 50 = .ok (.putfield 28, 3) := by decide +kernel
theorem dX5_init_53 : decode cX5_init 53 = .ok (.aload_n 0, 1) := by decide +kernel
theorem dX5_init_54 : decode cX5_init 54 = .ok (.iconst 0, 1) := by decide +kernel
theorem dX5_init_55 : decode cX5_init 55 = .ok (.putfield 32, 3) := by decide +kernel
theorem dX5_init_58 : decode cX5_init 58 = .ok (.aload_n 0, 1) := by decide +kernel
theorem dX5_init_59 : decode cX5_init 59 = .ok (.iconst 0, 1) := by decide +kernel
theorem dX5_init_60 : decode cX5_init 60 = .ok (.putfield 35, 3) := by decide +kernel
theorem dX5_init_63 : decode cX5_init 63 = .ok (.aload_n 0, 1) := by decide +kernel
theorem dX5_init_64 : decode cX5_init 64 = .ok (.bipush 10, 2) := by decide +kernel
theorem dX5_init_66 : decode cX5_init 66 = .ok (.newarray .int, 2) := by decide +kernel
theorem dX5_init_68 : decode cX5_init 68 = .ok (.putfield 38, 3) := by decide +kernel
theorem dX5_init_71 : decode cX5_init 71 = .ok (.aload_n 0, 1) := by decide +kernel
theorem dX5_init_72 : decode cX5_init 72 = .ok (.bipush 10, 2) := by decide +kernel
theorem dX5_init_74 : decode cX5_init 74 = .ok (.newarray .int, 2) := by decide +kernel
theorem dX5_init_76 : decode cX5_init 76 = .ok (.putfield 41, 3) := by decide +kernel
theorem dX5_init_79 : decode cX5_init 79 = .ok (.aload_n 0, 1) := by decide +kernel
theorem dX5_init_80 : decode cX5_init 80 = .ok (.bipush 10, 2) := by decide +kernel
theorem dX5_init_82 : decode cX5_init 82 = .ok (.newarray .int, 2) := by decide +kernel
theorem dX5_init_84 : decode cX5_init 84 = .ok (.putfield 44, 3) := by decide +kernel
theorem dX5_init_87 : decode cX5_init 87 = .ok (.aload_n 0, 1) := by decide +kernel
theorem dX5_init_88 : decode cX5_init 88 = .ok (.bipush 10, 2) := by decide +kernel
theorem dX5_init_90 : decode cX5_init 90 = .ok (.newarray .long, 2) := by decide +kernel
theorem dX5_init_92 : decode cX5_init 92 = .ok (.putfield 47, 3) := by decide +kernel
theorem dX5_init_95 : decode cX5_init 95 = .ok (.aload_n 0, 1) := by decide +kernel
theorem dX5_init_96 : decode cX5_init 96 = .ok (.aload_n 1, 1) := by decide +kernel
theorem dX5_init_97 : decode cX5_init 97 = .ok (.putfield 51, 3) := by decide +kernel
theorem dX5_init_100 : decode cX5_init 100 = .ok (.aload_n 0, 1) := by decide +kernel
theorem dX5_init_101 : decode cX5_init 101 = .ok (.aload_n 2, 1) := by decide +kernel
theorem dX5_init_102 : decode cX5_init 102 = .ok (.putfield 54, 3) := by decide +kernel
theorem dX5_init_105 : decode cX5_init 105 = .ok (.return_, 1) := by decide +kernel
set_option maxHeartbeats 400000 in
set_option maxRecDepth 100000 in
theorem c_layInit (l : Launch) (G : hG) (M : hM) (q0 t a1 a2 : Nat) (hq : M q0 = some (t, .inr (7, [.null, .null, .null, .null, .null, .int 0, .int 0, .null, .int 0, .int 0, .null, .null, .null, .null]))) : hCT l G yX5_init cX5_init 3 (Option.none) (hRm 2 5 44) M [.ref q0, .ref a1, .ref a2] (fun v M' => v = none ∧ ∃ r2 r3 r4 r5 r6, LyV G M' q0 t (ly0 a1 a2 r2 r3 r4 r5 r6) ∧ hFr (fun u => t ≤ u ∧ u < t + 10) M M') := by
  refine hCT.of (own := RX5) (nm := "<init>") (by decide) rfl rfl (Nat.le_of_ble_eq_true rfl) ?_
  intro p e s m args below meth c ls X Y hl
  have hx := X.1
  have hb := X.2.1
  have hl : lv_has ls 3 [(0, .ref q0), (1, .ref a1), (2, .ref a2)] := hl
  have hfr : hFr (fun u => t ≤ u ∧ u < t + 10) M M := hFr.rf
  refine lv_aload_n hx hb dX5_init_0 rfl (lv_at hl 0 rfl) ?_
  refine h_objI X hl.1 kml_X5_3 (Nat.le_of_ble_eq_true rfl) (Nat.le_of_ble_eq_true rfl) dX5_init_1 ?_
  refine lv_aload_n hx hb dX5_init_4 rfl (lv_at hl 0 rfl) ?_
  refine lv_null hx hb dX5_init_5 ?_
  refine h_put X Y (k := 2) (v := .null) hq rfl hin_X5 tyX5_ok nmX5 (by decide) kfl_X5_9 rfl rfl rfl (Nat.le_of_ble_eq_true rfl) dX5_init_6 (fun H locs Y => ?_)
  have Y : hHS G (hup M q0 (t, .inr (7, [.null, .null, .null, .null, .null, .int 0, .int 0, .null, .int 0, .int 0, .null, .null, .null, .null]))) s H locs := Y
  have hfr := hfr.put (x := (t, .inr (7, [.null, .null, .null, .null, .null, .int 0, .int 0, .null, .int 0, .int 0, .null, .null, .null, .null]))) hq (by omega)
  have hq : hup M q0 (t, .inr (7, [.null, .null, .null, .null, .null, .int 0, .int 0, .null, .int 0, .int 0, .null, .null, .null, .null])) q0 = some (t, .inr (7, [.null, .null, .null, .null, .null, .int 0, .int 0, .null, .int 0, .int 0, .null, .null, .null, .null])) := hup_eq
  generalize hup M q0 (t, .inr (7, [.null, .null, .null, .null, .null, .int 0, .int 0, .null, .int 0, .int 0, .null, .null, .null, .null])) = Mz1 at Y hq hfr
  refine lv_aload_n hx hb dX5_init_9 rfl (lv_at hl 0 rfl) ?_
  refine lv_null hx hb dX5_init_10 ?_
  refine h_put X Y (k := 3) (v := .null) hq rfl hin_X5 tyX5_ok nmX5 (by decide) kfl_X5_15 rfl rfl rfl (Nat.le_of_ble_eq_true rfl) dX5_init_11 (fun H locs Y => ?_)
  have Y : hHS G (hup Mz1 q0 (t, .inr (7, [.null, .null, .null, .null, .null, .int 0, .int 0, .null, .int 0, .int 0, .null, .null, .null, .null]))) s H locs := Y
  have hfr := hfr.put (x := (t, .inr (7, [.null, .null, .null, .null, .null, .int 0, .int 0, .null, .int 0, .int 0, .null, .null, .null, .null]))) hq (by omega)
  have hq : hup Mz1 q0 (t, .inr (7, [.null, .null, .null, .null, .null, .int 0, .int 0, .null, .int 0, .int 0, .null, .null, .null, .null])) q0 = some (t, .inr (7, [.null, .null, .null, .null, .null, .int 0, .int 0, .null, .int 0, .int 0, .null, .null, .null, .null])) := hup_eq
  generalize hup Mz1 q0 (t, .inr (7, [.null, .null, .null, .null, .null, .int 0, .int 0, .null, .int 0, .int 0, .null, .null, .null, .null])) = Mz2 at Y hq hfr
  refine lv_aload_n hx hb dX5_init_14 rfl (lv_at hl 0 rfl) ?_
  refine lv_null hx hb dX5_init_15 ?_
  refine h_put X Y (k := 4) (v := .null) hq rfl hin_X5 tyX5_ok nmX5 (by decide) kfl_X5_18 rfl rfl rfl (Nat.le_of_ble_eq_true rfl) dX5_init_16 (fun H locs Y => ?_)
  have Y : hHS G (hup Mz2 q0 (t, .inr (7, [.null, .null, .null, .null, .null, .int 0, .int 0, .null, .int 0, .int 0, .null, .null, .null, .null]))) s H locs := Y
  have hfr := hfr.put (x := (t, .inr (7, [.null, .null, .null, .null, .null, .int 0, .int 0, .null, .int 0, .int 0, .null, .null, .null, .null]))) hq (by omega)
  have hq : hup Mz2 q0 (t, .inr (7, [.null, .null, .null, .null, .null, .int 0, .int 0, .null, .int 0, .int 0, .null, .null, .null, .null])) q0 = some (t, .inr (7, [.null, .null, .null, .null, .null, .int 0, .int 0, .null, .int 0, .int 0, .null, .null, .null, .null])) := hup_eq
  generalize hup Mz2 q0 (t, .inr (7, [.null, .null, .null, .null, .null, .int 0, .int 0, .null, .int 0, .int 0, .null, .null, .null, .null])) = Mz3 at Y hq hfr
  refine lv_aload_n hx hb dX5_init_19 rfl (lv_at hl 0 rfl) ?_
  refine lv_bipush (v := 100) hx hb dX5_init_20 (by decide) ?_
  refine h_put X Y (k := 5) (v := .int 100) hq rfl hin_X5 tyX5_ok nmX5 (by decide) kfl_X5_21 rfl rfl rfl (Nat.le_of_ble_eq_true rfl) dX5_init_22 (fun H locs Y => ?_)
  have Y : hHS G (hup Mz3 q0 (t, .inr (7, [.null, .null, .null, .null, .null, .int 100, .int 0, .null, .int 0, .int 0, .null, .null, .null, .null]))) s H locs := Y
  have hfr := hfr.put (x := (t, .inr (7, [.null, .null, .null, .null, .null, .int 100, .int 0, .null, .int 0, .int 0, .null, .null, .null, .null]))) hq (by omega)
  have hq : hup Mz3 q0 (t, .inr (7, [.null, .null, .null, .null, .null, .int 100, .int 0, .null, .int 0, .int 0, .null, .null, .null, .null])) q0 = some (t, .inr (7, [.null, .null, .null, .null, .null, .int 100, .int 0, .null, .int 0, .int 0, .null, .null, .null, .null])) := hup_eq
  generalize hup Mz3 q0 (t, .inr (7, [.null, .null, .null, .null, .null, .int 100, .int 0, .null, .int 0, .int 0, .null, .null, .null, .null])) = Mz4 at Y hq hfr
  refine lv_aload_n hx hb dX5_init_25 rfl (lv_at hl 0 rfl) ?_
  refine lv_iconst (v := (-1)) hx hb dX5_init_26 (by decide) ?_
  refine h_put X Y (k := 6) (v := .int (-1)) hq rfl hin_X5 tyX5_ok nmX5 (by decide) kfl_X5_25 rfl rfl rfl (Nat.le_of_ble_eq_true rfl) dX5_init_27 (fun H locs Y => ?_)
  have Y : hHS G (hup Mz4 q0 (t, .inr (7, [.null, .null, .null, .null, .null, .int 100, .int (-1), .null, .int 0, .int 0, .null, .null, .null, .null]))) s H locs := Y
  have hfr := hfr.put (x := (t, .inr (7, [.null, .null, .null, .null, .null, .int 100, .int (-1), .null, .int 0, .int 0, .null, .null, .null, .null]))) hq (by omega)
  have hq : hup Mz4 q0 (t, .inr (7, [.null, .null, .null, .null, .null, .int 100, .int (-1), .null, .int 0, .int 0, .null, .null, .null, .null])) q0 = some (t, .inr (7, [.null, .null, .null, .null, .null, .int 100, .int (-1), .null, .int 0, .int 0, .null, .null, .null, .null])) := hup_eq
  generalize hup Mz4 q0 (t, .inr (7, [.null, .null, .null, .null, .null, .int 100, .int (-1), .null, .int 0, .int 0, .null, .null, .null, .null])) = Mz5 at Y hq hfr
  refine lv_aload_n hx hb dX5_init_30 rfl (lv_at hl 0 rfl) ?_
  refine lv_iconst (v := 4) hx hb dX5_init_31 (by decide) ?_
  refine h_newI X Y (t + 1) (n := 4) (by decide) (Nat.le_of_ble_eq_true rfl) (Nat.le_of_ble_eq_true rfl) dX5_init_32 (fun qz6 Mz6 H fz6 hg6 Y => ?_)
  have hq := hg6 _ _ hq
  have hfr := hfr.grow hg6
  refine lv_dup hx hb dX5_init_34 rfl ?_
  refine lv_iconst (v := 0) hx hb dX5_init_35 (by decide) ?_
  refine lv_iconst (v := (-1)) hx hb dX5_init_36 (by decide) ?_
  refine h_iast X Y (i := 0) fz6 (by omega) (by decide) dX5_init_37 (fun H locs Y => ?_)
  have hq := hup_tag (x := (t + 1, .inl (hT G 0, 4, .inl (upd (fun _ => 0) 0 (-1))))) hq fz6 (by omega)
  have hfr := hfr.put (x := (t + 1, .inl (hT G 0, 4, .inl (upd (fun _ => 0) 0 (-1))))) fz6 (by omega)
  have fz6 : hup Mz6 qz6 (t + 1, .inl (hT G 0, 4, .inl (upd (fun _ => 0) 0 (-1)))) qz6 = some (t + 1, .inl (hT G 0, 4, .inl (upd (fun _ => 0) 0 (-1)))) := hup_eq
  generalize hup Mz6 qz6 (t + 1, .inl (hT G 0, 4, .inl (upd (fun _ => 0) 0 (-1)))) = Mz7 at Y fz6 hq hfr
  refine lv_dup hx hb dX5_init_38 rfl ?_
  refine lv_iconst (v := 1) hx hb dX5_init_39 (by decide) ?_
  refine lv_iconst (v := (-1)) hx hb dX5_init_40 (by decide) ?_
  refine h_iast X Y (i := 1) fz6 (by omega) (by decide) dX5_init_41 (fun H locs Y => ?_)
  have hq := hup_tag (x := (t + 1, .inl (hT G 0, 4, .inl (upd (upd (fun _ => 0) 0 (-1)) 1 (-1))))) hq fz6 (by omega)
  have hfr := hfr.put (x := (t + 1, .inl (hT G 0, 4, .inl (upd (upd (fun _ => 0) 0 (-1)) 1 (-1))))) fz6 (by omega)
  have fz6 : hup Mz7 qz6 (t + 1, .inl (hT G 0, 4, .inl (upd (upd (fun _ => 0) 0 (-1)) 1 (-1)))) qz6 = some (t + 1, .inl (hT G 0, 4, .inl (upd (upd (fun _ => 0) 0 (-1)) 1 (-1)))) := hup_eq
  generalize hup Mz7 qz6 (t + 1, .inl (hT G 0, 4, .inl (upd (upd (fun _ => 0) 0 (-1)) 1 (-1)))) = Mz8 at Y fz6 hq hfr
  refine lv_dup hx hb dX5_init_42 rfl ?_
  refine lv_iconst (v := 2) hx hb dX5_init_43 (by decide) ?_
  refine lv_iconst (v := (-1)) hx hb dX5_init_44 (by decide) ?_
  refine h_iast X Y (i := 2) fz6 (by omega) (by decide) dX5_init_45 (fun H locs Y => ?_)
  have hq := hup_tag (x := (t + 1, .inl (hT G 0, 4, .inl (upd (upd (upd (fun _ => 0) 0 (-1)) 1 (-1)) 2 (-1))))) hq fz6 (by omega)
  have hfr := hfr.put (x := (t + 1, .inl (hT G 0, 4, .inl (upd (upd (upd (fun _ => 0) 0 (-1)) 1 (-1)) 2 (-1))))) fz6 (by omega)
  have fz6 : hup Mz8 qz6 (t + 1, .inl (hT G 0, 4, .inl (upd (upd (upd (fun _ => 0) 0 (-1)) 1 (-1)) 2 (-1)))) qz6 = some (t + 1, .inl (hT G 0, 4, .inl (upd (upd (upd (fun _ => 0) 0 (-1)) 1 (-1)) 2 (-1)))) := hup_eq
  generalize hup Mz8 qz6 (t + 1, .inl (hT G 0, 4, .inl (upd (upd (upd (fun _ => 0) 0 (-1)) 1 (-1)) 2 (-1)))) = Mz9 at Y fz6 hq hfr
  refine lv_dup hx hb dX5_init_46 rfl ?_
  refine lv_iconst (v := 3) hx hb dX5_init_47 (by decide) ?_
  refine lv_iconst (v := (-1)) hx hb dX5_init_48 (by decide) ?_
  refine h_iast X Y (i := 3) fz6 (by omega) (by decide) dX5_init_49 (fun H locs Y => ?_)
  have hq := hup_tag (x := (t + 1, .inl (hT G 0, 4, .inl (upd (upd (upd (upd (fun _ => 0) 0 (-1)) 1 (-1)) 2 (-1)) 3 (-1))))) hq fz6 (by omega)
  have hfr := hfr.put (x := (t + 1, .inl (hT G 0, 4, .inl (upd (upd (upd (upd (fun _ => 0) 0 (-1)) 1 (-1)) 2 (-1)) 3 (-1))))) fz6 (by omega)
  have fz6 : hup Mz9 qz6 (t + 1, .inl (hT G 0, 4, .inl (upd (upd (upd (upd (fun _ => 0) 0 (-1)) 1 (-1)) 2 (-1)) 3 (-1)))) qz6 = some (t + 1, .inl (hT G 0, 4, .inl (upd (upd (upd (upd (fun _ => 0) 0 (-1)) 1 (-1)) 2 (-1)) 3 (-1)))) := hup_eq
  generalize hup Mz9 qz6 (t + 1, .inl (hT G 0, 4, .inl (upd (upd (upd (upd (fun _ => 0) 0 (-1)) 1 (-1)) 2 (-1)) 3 (-1)))) = Mz10 at Y fz6 hq hfr
  refine h_putF X Y (k := 7) (v := .ref qz6) hq rfl hin_X5 tyX5_ok nmX5 (by decide) kfl_X5_28 rfl rfl rfl rfl (Nat.le_of_ble_eq_true rfl) dX5_init_50 (fun H locs Y => ?_)
  have Y : hHS G (hup Mz10 q0 (t, .inr (7, [.null, .null, .null, .null, .null, .int 100, .int (-1), .ref qz6, .int 0, .int 0, .null, .null, .null, .null]))) s H locs := Y
  have fz6 := hup_tag (x := (t, .inr (7, [.null, .null, .null, .null, .null, .int 100, .int (-1), .ref qz6, .int 0, .int 0, .null, .null, .null, .null]))) fz6 hq (by omega)
  have hfr := hfr.put (x := (t, .inr (7, [.null, .null, .null, .null, .null, .int 100, .int (-1), .ref qz6, .int 0, .int 0, .null, .null, .null, .null]))) hq (by omega)
  have hq : hup Mz10 q0 (t, .inr (7, [.null, .null, .null, .null, .null, .int 100, .int (-1), .ref qz6, .int 0, .int 0, .null, .null, .null, .null])) q0 = some (t, .inr (7, [.null, .null, .null, .null, .null, .int 100, .int (-1), .ref qz6, .int 0, .int 0, .null, .null, .null, .null])) := hup_eq
  generalize hup Mz10 q0 (t, .inr (7, [.null, .null, .null, .null, .null, .int 100, .int (-1), .ref qz6, .int 0, .int 0, .null, .null, .null, .null])) = Mz11 at Y hq fz6 hfr
  refine lv_aload_n hx hb dX5_init_53 rfl (lv_at hl 0 rfl) ?_
  refine lv_iconst (v := 0) hx hb dX5_init_54 (by decide) ?_
  refine h_put X Y (k := 8) (v := .int 0) hq rfl hin_X5 tyX5_ok nmX5 (by decide) kfl_X5_32 rfl rfl rfl (Nat.le_of_ble_eq_true rfl) dX5_init_55 (fun H locs Y => ?_)
  have Y : hHS G (hup Mz11 q0 (t, .inr (7, [.null, .null, .null, .null, .null, .int 100, .int (-1), .ref qz6, .int 0, .int 0, .null, .null, .null, .null]))) s H locs := Y
  have fz6 := hup_tag (x := (t, .inr (7, [.null, .null, .null, .null, .null, .int 100, .int (-1), .ref qz6, .int 0, .int 0, .null, .null, .null, .null]))) fz6 hq (by omega)
  have hfr := hfr.put (x := (t, .inr (7, [.null, .null, .null, .null, .null, .int 100, .int (-1), .ref qz6, .int 0, .int 0, .null, .null, .null, .null]))) hq (by omega)
  have hq : hup Mz11 q0 (t, .inr (7, [.null, .null, .null, .null, .null, .int 100, .int (-1), .ref qz6, .int 0, .int 0, .null, .null, .null, .null])) q0 = some (t, .inr (7, [.null, .null, .null, .null, .null, .int 100, .int (-1), .ref qz6, .int 0, .int 0, .null, .null, .null, .null])) := hup_eq
  generalize hup Mz11 q0 (t, .inr (7, [.null, .null, .null, .null, .null, .int 100, .int (-1), .ref qz6, .int 0, .int 0, .null, .null, .null, .null])) = Mz12 at Y hq fz6 hfr
  refine lv_aload_n hx hb dX5_init_58 rfl (lv_at hl 0 rfl) ?_
  refine lv_iconst (v := 0) hx hb dX5_init_59 (by decide) ?_
  refine h_put X Y (k := 9) (v := .int 0) hq rfl hin_X5 tyX5_ok nmX5 (by decide) kfl_X5_35 rfl rfl rfl (Nat.le_of_ble_eq_true rfl) dX5_init_60 (fun H locs Y => ?_)
  have Y : hHS G (hup Mz12 q0 (t, .inr (7, [.null, .null, .null, .null, .null, .int 100, .int (-1), .ref qz6, .int 0, .int 0, .null, .null, .null, .null]))) s H locs := Y
  have fz6 := hup_tag (x := (t, .inr (7, [.null, .null, .null, .null, .null, .int 100, .int (-1), .ref qz6, .int 0, .int 0, .null, .null, .null, .null]))) fz6 hq (by omega)
  have hfr := hfr.put (x := (t, .inr (7, [.null, .null, .null, .null, .null, .int 100, .int (-1), .ref qz6, .int 0, .int 0, .null, .null, .null, .null]))) hq (by omega)
  have hq : hup Mz12 q0 (t, .inr (7, [.null, .null, .null, .null, .null, .int 100, .int (-1), .ref qz6, .int 0, .int 0, .null, .null, .null, .null])) q0 = some (t, .inr (7, [.null, .null, .null, .null, .null, .int 100, .int (-1), .ref qz6, .int 0, .int 0, .null, .null, .null, .null])) := hup_eq
  generalize hup Mz12 q0 (t, .inr (7, [.null, .null, .null, .null, .null, .int 100, .int (-1), .ref qz6, .int 0, .int 0, .null, .null, .null, .null])) = Mz13 at Y hq fz6 hfr
  refine lv_aload_n hx hb dX5_init_63 rfl (lv_at hl 0 rfl) ?_
  refine lv_bipush (v := 10) hx hb dX5_init_64 (by decide) ?_
  refine h_newI X Y (t + 2) (n := 10) (by decide) (Nat.le_of_ble_eq_true rfl) (Nat.le_of_ble_eq_true rfl) dX5_init_66 (fun qz14 Mz14 H fz14 hg14 Y => ?_)
  have hq := hg14 _ _ hq
  have fz6 := hg14 _ _ fz6
  have hfr := hfr.grow hg14
  refine h_putF X Y (k := 10) (v := .ref qz14) hq rfl hin_X5 tyX5_ok nmX5 (by decide) kfl_X5_38 rfl rfl rfl rfl (Nat.le_of_ble_eq_true rfl) dX5_init_68 (fun H locs Y => ?_)
  have Y : hHS G (hup Mz14 q0 (t, .inr (7, [.null, .null, .null, .null, .null, .int 100, .int (-1), .ref qz6, .int 0, .int 0, .ref qz14, .null, .null, .null]))) s H locs := Y
  have fz6 := hup_tag (x := (t, .inr (7, [.null, .null, .null, .null, .null, .int 100, .int (-1), .ref qz6, .int 0, .int 0, .ref qz14, .null, .null, .null]))) fz6 hq (by omega)
  have fz14 := hup_tag (x := (t, .inr (7, [.null, .null, .null, .null, .null, .int 100, .int (-1), .ref qz6, .int 0, .int 0, .ref qz14, .null, .null, .null]))) fz14 hq (by omega)
  have hfr := hfr.put (x := (t, .inr (7, [.null, .null, .null, .null, .null, .int 100, .int (-1), .ref qz6, .int 0, .int 0, .ref qz14, .null, .null, .null]))) hq (by omega)
  have hq : hup Mz14 q0 (t, .inr (7, [.null, .null, .null, .null, .null, .int 100, .int (-1), .ref qz6, .int 0, .int 0, .ref qz14, .null, .null, .null])) q0 = some (t, .inr (7, [.null, .null, .null, .null, .null, .int 100, .int (-1), .ref qz6, .int 0, .int 0, .ref qz14, .null, .null, .null])) := hup_eq
  generalize hup Mz14 q0 (t, .inr (7, [.null, .null, .null, .null, .null, .int 100, .int (-1), .ref qz6, .int 0, .int 0, .ref qz14, .null, .null, .null])) = Mz15 at Y hq fz6 fz14 hfr
  refine lv_aload_n hx hb dX5_init_71 rfl (lv_at hl 0 rfl) ?_
  refine lv_bipush (v := 10) hx hb dX5_init_72 (by decide) ?_
  refine h_newI X Y (t + 3) (n := 10) (by decide) (Nat.le_of_ble_eq_true rfl) (Nat.le_of_ble_eq_true rfl) dX5_init_74 (fun qz16 Mz16 H fz16 hg16 Y => ?_)
  have hq := hg16 _ _ hq
  have fz6 := hg16 _ _ fz6
  have fz14 := hg16 _ _ fz14
  have hfr := hfr.grow hg16
  refine h_putF X Y (k := 11) (v := .ref qz16) hq rfl hin_X5 tyX5_ok nmX5 (by decide) kfl_X5_41 rfl rfl rfl rfl (Nat.le_of_ble_eq_true rfl) dX5_init_76 (fun H locs Y => ?_)
  have Y : hHS G (hup Mz16 q0 (t, .inr (7, [.null, .null, .null, .null, .null, .int 100, .int (-1), .ref qz6, .int 0, .int 0, .ref qz14, .ref qz16, .null, .null]))) s H locs := Y
  have fz6 := hup_tag (x := (t, .inr (7, [.null, .null, .null, .null, .null, .int 100, .int (-1), .ref qz6, .int 0, .int 0, .ref qz14, .ref qz16, .null, .null]))) fz6 hq (by omega)
  have fz14 := hup_tag (x := (t, .inr (7, [.null, .null, .null, .null, .null, .int 100, .int (-1), .ref qz6, .int 0, .int 0, .ref qz14, .ref qz16, .null, .null]))) fz14 hq (by omega)
  have fz16 := hup_tag (x := (t, .inr (7, [.null, .null, .null, .null, .null, .int 100, .int (-1), .ref qz6, .int 0, .int 0, .ref qz14, .ref qz16, .null, .null]))) fz16 hq (by omega)
  have hfr := hfr.put (x := (t, .inr (7, [.null, .null, .null, .null, .null, .int 100, .int (-1), .ref qz6, .int 0, .int 0, .ref qz14, .ref qz16, .null, .null]))) hq (by omega)
  have hq : hup Mz16 q0 (t, .inr (7, [.null, .null, .null, .null, .null, .int 100, .int (-1), .ref qz6, .int 0, .int 0, .ref qz14, .ref qz16, .null, .null])) q0 = some (t, .inr (7, [.null, .null, .null, .null, .null, .int 100, .int (-1), .ref qz6, .int 0, .int 0, .ref qz14, .ref qz16, .null, .null])) := hup_eq
  generalize hup Mz16 q0 (t, .inr (7, [.null, .null, .null, .null, .null, .int 100, .int (-1), .ref qz6, .int 0, .int 0, .ref qz14, .ref qz16, .null, .null])) = Mz17 at Y hq fz6 fz14 fz16 hfr
  refine lv_aload_n hx hb dX5_init_79 rfl (lv_at hl 0 rfl) ?_
  refine lv_bipush (v := 10) hx hb dX5_init_80 (by decide) ?_
  refine h_newI X Y (t + 4) (n := 10) (by decide) (Nat.le_of_ble_eq_true rfl) (Nat.le_of_ble_eq_true rfl) dX5_init_82 (fun qz18 Mz18 H fz18 hg18 Y => ?_)
  have hq := hg18 _ _ hq
  have fz6 := hg18 _ _ fz6
  have fz14 := hg18 _ _ fz14
  have fz16 := hg18 _ _ fz16
  have hfr := hfr.grow hg18
  refine h_putF X Y (k := 12) (v := .ref qz18) hq rfl hin_X5 tyX5_ok nmX5 (by decide) kfl_X5_44 rfl rfl rfl rfl (Nat.le_of_ble_eq_true rfl) dX5_init_84 (fun H locs Y => ?_)
  have Y : hHS G (hup Mz18 q0 (t, .inr (7, [.null, .null, .null, .null, .null, .int 100, .int (-1), .ref qz6, .int 0, .int 0, .ref qz14, .ref qz16, .ref qz18, .null]))) s H locs := Y
  have fz6 := hup_tag (x := (t, .inr (7, [.null, .null, .null, .null, .null, .int 100, .int (-1), .ref qz6, .int 0, .int 0, .ref qz14, .ref qz16, .ref qz18, .null]))) fz6 hq (by omega)
  have fz14 := hup_tag (x := (t, .inr (7, [.null, .null, .null, .null, .null, .int 100, .int (-1), .ref qz6, .int 0, .int 0, .ref qz14, .ref qz16, .ref qz18, .null]))) fz14 hq (by omega)
  have fz16 := hup_tag (x := (t, .inr (7, [.null, .null, .null, .null, .null, .int 100, .int (-1), .ref qz6, .int 0, .int 0, .ref qz14, .ref qz16, .ref qz18, .null]))) fz16 hq (by omega)
  have fz18 := hup_tag (x := (t, .inr (7, [.null, .null, .null, .null, .null, .int 100, .int (-1), .ref qz6, .int 0, .int 0, .ref qz14, .ref qz16, .ref qz18, .null]))) fz18 hq (by omega)
  have hfr := hfr.put (x := (t, .inr (7, [.null, .null, .null, .null, .null, .int 100, .int (-1), .ref qz6, .int 0, .int 0, .ref qz14, .ref qz16, .ref qz18, .null]))) hq (by omega)
  have hq : hup Mz18 q0 (t, .inr (7, [.null, .null, .null, .null, .null, .int 100, .int (-1), .ref qz6, .int 0, .int 0, .ref qz14, .ref qz16, .ref qz18, .null])) q0 = some (t, .inr (7, [.null, .null, .null, .null, .null, .int 100, .int (-1), .ref qz6, .int 0, .int 0, .ref qz14, .ref qz16, .ref qz18, .null])) := hup_eq
  generalize hup Mz18 q0 (t, .inr (7, [.null, .null, .null, .null, .null, .int 100, .int (-1), .ref qz6, .int 0, .int 0, .ref qz14, .ref qz16, .ref qz18, .null])) = Mz19 at Y hq fz6 fz14 fz16 fz18 hfr
  refine lv_aload_n hx hb dX5_init_87 rfl (lv_at hl 0 rfl) ?_
  refine lv_bipush (v := 10) hx hb dX5_init_88 (by decide) ?_
  refine h_newL X Y (t + 5) (n := 10) (by decide) (Nat.le_of_ble_eq_true rfl) (Nat.le_of_ble_eq_true rfl) dX5_init_90 (fun qz20 Mz20 H fz20 hg20 Y => ?_)
  have hq := hg20 _ _ hq
  have fz6 := hg20 _ _ fz6
  have fz14 := hg20 _ _ fz14
  have fz16 := hg20 _ _ fz16
  have fz18 := hg20 _ _ fz18
  have hfr := hfr.grow hg20
  refine h_putF X Y (k := 13) (v := .ref qz20) hq rfl hin_X5 tyX5_ok nmX5 (by decide) kfl_X5_47 rfl rfl rfl rfl (Nat.le_of_ble_eq_true rfl) dX5_init_92 (fun H locs Y => ?_)
  have Y : hHS G (hup Mz20 q0 (t, .inr (7, [.null, .null, .null, .null, .null, .int 100, .int (-1), .ref qz6, .int 0, .int 0, .ref qz14, .ref qz16, .ref qz18, .ref qz20]))) s H locs := Y
  have fz6 := hup_tag (x := (t, .inr (7, [.null, .null, .null, .null, .null, .int 100, .int (-1), .ref qz6, .int 0, .int 0, .ref qz14, .ref qz16, .ref qz18, .ref qz20]))) fz6 hq (by omega)
  have fz14 := hup_tag (x := (t, .inr (7, [.null, .null, .null, .null, .null, .int 100, .int (-1), .ref qz6, .int 0, .int 0, .ref qz14, .ref qz16, .ref qz18, .ref qz20]))) fz14 hq (by omega)
  have fz16 := hup_tag (x := (t, .inr (7, [.null, .null, .null, .null, .null, .int 100, .int (-1), .ref qz6, .int 0, .int 0, .ref qz14, .ref qz16, .ref qz18, .ref qz20]))) fz16 hq (by omega)
  have fz18 := hup_tag (x := (t, .inr (7, [.null, .null, .null, .null, .null, .int 100, .int (-1), .ref qz6, .int 0, .int 0, .ref qz14, .ref qz16, .ref qz18, .ref qz20]))) fz18 hq (by omega)
  have fz20 := hup_tag (x := (t, .inr (7, [.null, .null, .null, .null, .null, .int 100, .int (-1), .ref qz6, .int 0, .int 0, .ref qz14, .ref qz16, .ref qz18, .ref qz20]))) fz20 hq (by omega)
  have hfr := hfr.put (x := (t, .inr (7, [.null, .null, .null, .null, .null, .int 100, .int (-1), .ref qz6, .int 0, .int 0, .ref qz14, .ref qz16, .ref qz18, .ref qz20]))) hq (by omega)
  have hq : hup Mz20 q0 (t, .inr (7, [.null, .null, .null, .null, .null, .int 100, .int (-1), .ref qz6, .int 0, .int 0, .ref qz14, .ref qz16, .ref qz18, .ref qz20])) q0 = some (t, .inr (7, [.null, .null, .null, .null, .null, .int 100, .int (-1), .ref qz6, .int 0, .int 0, .ref qz14, .ref qz16, .ref qz18, .ref qz20])) := hup_eq
  generalize hup Mz20 q0 (t, .inr (7, [.null, .null, .null, .null, .null, .int 100, .int (-1), .ref qz6, .int 0, .int 0, .ref qz14, .ref qz16, .ref qz18, .ref qz20])) = Mz21 at Y hq fz6 fz14 fz16 fz18 fz20 hfr
  refine lv_aload_n hx hb dX5_init_95 rfl (lv_at hl 0 rfl) ?_
  refine lv_aload_n hx hb dX5_init_96 rfl (lv_at hl 1 rfl) ?_
  refine h_putF X Y (k := 0) (v := .ref a1) hq rfl hin_X5 tyX5_ok nmX5 (by decide) kfl_X5_51 rfl rfl rfl rfl (Nat.le_of_ble_eq_true rfl) dX5_init_97 (fun H locs Y => ?_)
  have Y : hHS G (hup Mz21 q0 (t, .inr (7, [.ref a1, .null, .null, .null, .null, .int 100, .int (-1), .ref qz6, .int 0, .int 0, .ref qz14, .ref qz16, .ref qz18, .ref qz20]))) s H locs := Y
  have fz6 := hup_tag (x := (t, .inr (7, [.ref a1, .null, .null, .null, .null, .int 100, .int (-1), .ref qz6, .int 0, .int 0, .ref qz14, .ref qz16, .ref qz18, .ref qz20]))) fz6 hq (by omega)
  have fz14 := hup_tag (x := (t, .inr (7, [.ref a1, .null, .null, .null, .null, .int 100, .int (-1), .ref qz6, .int 0, .int 0, .ref qz14, .ref qz16, .ref qz18, .ref qz20]))) fz14 hq (by omega)
  have fz16 := hup_tag (x := (t, .inr (7, [.ref a1, .null, .null, .null, .null, .int 100, .int (-1), .ref qz6, .int 0, .int 0, .ref qz14, .ref qz16, .ref qz18, .ref qz20]))) fz16 hq (by omega)
  have fz18 := hup_tag (x := (t, .inr (7, [.ref a1, .null, .null, .null, .null, .int 100, .int (-1), .ref qz6, .int 0, .int 0, .ref qz14, .ref qz16, .ref qz18, .ref qz20]))) fz18 hq (by omega)
  have fz20 := hup_tag (x := (t, .inr (7, [.ref a1, .null, .null, .null, .null, .int 100, .int (-1), .ref qz6, .int 0, .int 0, .ref qz14, .ref qz16, .ref qz18, .ref qz20]))) fz20 hq (by omega)
  have hfr := hfr.put (x := (t, .inr (7, [.ref a1, .null, .null, .null, .null, .int 100, .int (-1), .ref qz6, .int 0, .int 0, .ref qz14, .ref qz16, .ref qz18, .ref qz20]))) hq (by omega)
  have hq : hup Mz21 q0 (t, .inr (7, [.ref a1, .null, .null, .null, .null, .int 100, .int (-1), .ref qz6, .int 0, .int 0, .ref qz14, .ref qz16, .ref qz18, .ref qz20])) q0 = some (t, .inr (7, [.ref a1, .null, .null, .null, .null, .int 100, .int (-1), .ref qz6, .int 0, .int 0, .ref qz14, .ref qz16, .ref qz18, .ref qz20])) := hup_eq
  generalize hup Mz21 q0 (t, .inr (7, [.ref a1, .null, .null, .null, .null, .int 100, .int (-1), .ref qz6, .int 0, .int 0, .ref qz14, .ref qz16, .ref qz18, .ref qz20])) = Mz22 at Y hq fz6 fz14 fz16 fz18 fz20 hfr
  refine lv_aload_n hx hb dX5_init_100 rfl (lv_at hl 0 rfl) ?_
  refine lv_aload_n hx hb dX5_init_101 rfl (lv_at hl 2 rfl) ?_
  refine h_putF X Y (k := 1) (v := .ref a2) hq rfl hin_X5 tyX5_ok nmX5 (by decide) kfl_X5_54 rfl rfl rfl rfl (Nat.le_of_ble_eq_true rfl) dX5_init_102 (fun H locs Y => ?_)
  have Y : hHS G (hup Mz22 q0 (t, .inr (7, [.ref a1, .ref a2, .null, .null, .null, .int 100, .int (-1), .ref qz6, .int 0, .int 0, .ref qz14, .ref qz16, .ref qz18, .ref qz20]))) s H locs := Y
  have fz6 := hup_tag (x := (t, .inr (7, [.ref a1, .ref a2, .null, .null, .null, .int 100, .int (-1), .ref qz6, .int 0, .int 0, .ref qz14, .ref qz16, .ref qz18, .ref qz20]))) fz6 hq (by omega)
  have fz14 := hup_tag (x := (t, .inr (7, [.ref a1, .ref a2, .null, .null, .null, .int 100, .int (-1), .ref qz6, .int 0, .int 0, .ref qz14, .ref qz16, .ref qz18, .ref qz20]))) fz14 hq (by omega)
  have fz16 := hup_tag (x := (t, .inr (7, [.ref a1, .ref a2, .null, .null, .null, .int 100, .int (-1), .ref qz6, .int 0, .int 0, .ref qz14, .ref qz16, .ref qz18, .ref qz20]))) fz16 hq (by omega)
  have fz18 := hup_tag (x := (t, .inr (7, [.ref a1, .ref a2, .null, .null, .null, .int 100, .int (-1), .ref qz6, .int 0, .int 0, .ref qz14, .ref qz16, .ref qz18, .ref qz20]))) fz18 hq (by omega)
  have fz20 := hup_tag (x := (t, .inr (7, [.ref a1, .ref a2, .null, .null, .null, .int 100, .int (-1), .ref qz6, .int 0, .int 0, .ref qz14, .ref qz16, .ref qz18, .ref qz20]))) fz20 hq (by omega)
  have hfr := hfr.put (x := (t, .inr (7, [.ref a1, .ref a2, .null, .null, .null, .int 100, .int (-1), .ref qz6, .int 0, .int 0, .ref qz14, .ref qz16, .ref qz18, .ref qz20]))) hq (by omega)
  have hq : hup Mz22 q0 (t, .inr (7, [.ref a1, .ref a2, .null, .null, .null, .int 100, .int (-1), .ref qz6, .int 0, .int 0, .ref qz14, .ref qz16, .ref qz18, .ref qz20])) q0 = some (t, .inr (7, [.ref a1, .ref a2, .null, .null, .null, .int 100, .int (-1), .ref qz6, .int 0, .int 0, .ref qz14, .ref qz16, .ref qz18, .ref qz20])) := hup_eq
  generalize hup Mz22 q0 (t, .inr (7, [.ref a1, .ref a2, .null, .null, .null, .int 100, .int (-1), .ref qz6, .int 0, .int 0, .ref qz14, .ref qz16, .ref qz18, .ref qz20])) = Mz23 at Y hq fz6 fz14 fz16 fz18 fz20 hfr
  exact h_vret X Y ⟨rfl, _, _, _, _, _, ⟨hq, fz6, fz14, fz16, fz18, fz20⟩, hfr⟩ (Nat.le_of_ble_eq_true rfl) (Nat.le_of_ble_eq_true rfl) dX5_init_105
