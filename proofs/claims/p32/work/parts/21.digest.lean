-- THE CHECKSUM
def mx (d : Int64) (x : Int32) : Int64 := d * 31 + x.toInt64
def mxF (d : Int64) (f : Int64 → Nat → Int64) : Nat → Int64
  | 0 => d
  | n + 1 => f (mxF d f n) n
def fTe (S : hSy) (k : Nat) : Int64 → Nat → Int64 := fun dd ww => mx dd (lyTell (sL S k) ww)
def fTy (S : hSy) (k yy : Nat) : Int64 → Nat → Int64 := fun dd ww => mx dd (lyYear (sL S k) yy ww)
def fUs (S : hSy) (k yy : Nat) : Int64 → Nat → Int64 := fun dd ww => mx dd (qUsed S k yy ww)
def fYe (S : hSy) (k : Nat) : Int64 → Nat → Int64 := fun dd yy => mxF (mxF dd (fTy S k yy) 4) (fUs S k yy) 4
def fLa (S : hSy) (now : Nat) : Int64 → Nat → Int64 := fun dd kk => mxF (mxF dd (fTe S kk) 8) (fYe S kk) (now + 1)
def fQc (S : hSy) (i : Nat) : Int64 → Nat → Int64 := fun dd ww => mx dd (qClaim S i ww)
def fKn (S : hSy) (now i : Nat) : Int64 → Nat → Int64 := fun dd bb => mx (mx dd (clKnown (sC S i) bb now true)) (clKnown (sC S i) bb now false)
def fCl (S : hSy) (now : Nat) : Int64 → Nat → Int64 := fun dd ii => mxF (mxF dd (fQc S ii) 8) (fKn S now ii) (now - clY (sC S ii) + 1)
def fRe (S : hSy) (h : hHo) (y : Nat) : Int64 → Nat → Int64 := fun dd tt => mx dd (qRes S h tt y)
def fYr (S : hSy) (h : hHo) : Int64 → Nat → Int64 := fun dd yy => mxF (mx (mx dd (hPr h yy)) (hEx h yy)) (fRe S h yy) 3
def qFac (S : hSy) (now k : Nat) (bb : Nat) : Int32 := trFac (qTri S now k) now bb
def fFc (S : hSy) (now k : Nat) : Int64 → Nat → Int64 := fun dd bb => mx dd (qFac S now k bb)
def fFa (S : hSy) (now : Nat) : Int64 → Nat → Int64 := fun dd kk => mxF dd (fFc S now kk) 9
def fCo (S : hSy) (h : hHo) : Int64 → Nat → Int64 := fun dd ww => mx dd (qCount S h ww)
def qDigest (S : hSy) (h : hHo) : Int64 := mx (mxF (mxF (mxF (mxF (mxF 641 (fCo S h) 9) (fLa S (hNow h)) (sN S)) (fCl S (hNow h)) (sM S)) (fYr S h) (hNow h + 1)) (fFa S (hNow h)) 4) (hTail h)
theorem mxF_step (d : Int64) (f : Int64 → Nat → Int64) (n : Nat) : mxF d f (n + 1) = f (mxF d f n) n := rfl
theorem fYe_step (S : hSy) (k y : Nat) (d : Int64) : mxF (mxF (mxF d (fYe S k) y) (fTy S k y) 4) (fUs S k y) 4 = mxF d (fYe S k) (y + 1) := by
  rw [mxF_step d (fYe S k) y, fYe]
theorem fLa_step (S : hSy) (now k : Nat) (d : Int64) : mxF (mxF (mxF d (fLa S now) k) (fTe S k) 8) (fYe S k) (now + 1) = mxF d (fLa S now) (k + 1) := by
  rw [mxF_step d (fLa S now) k, fLa]
theorem dX11_mix_0 : decode cX11_mix 0 = .ok (.lload_n 1, 1) := by decide +kernel
theorem dX11_mix_1 : decode cX11_mix 1 = .ok (.ldc2_w 393, 3) := by decide +kernel
theorem dX11_mix_4 : decode cX11_mix 4 = .ok (.lmul, 1) := by decide +kernel
theorem dX11_mix_5 : decode cX11_mix 5 = .ok (.lload_n 3, 1) := by decide +kernel
theorem dX11_mix_6 : decode cX11_mix 6 = .ok (.ladd, 1) := by decide +kernel
theorem dX11_mix_7 : decode cX11_mix 7 = .ok (.lreturn, 1) := by decide +kernel
set_option maxHeartbeats 400000 in
set_option maxRecDepth 100000 in
theorem c_mix (l : Launch) (G : hG) (M : hM) (a : Nat) (z1 z2 : Int64) : hCT l G yX11_mix cX11_mix 5 (Option.some FieldType.long) (hRm 1 0 0) M [.ref a, .long z1, .long z2] (hRd M (.long (z1 * 31 + z2))) := by
  refine hCT.of (own := RX11) (nm := "mix") (by decide) rfl rfl (Nat.le_of_ble_eq_true rfl) ?_
  intro p e s m args below meth c ls X Y hl
  have hx := X.1
  have hb := X.2.1
  have hl : lv_has ls 5 [(0, .ref a), (1, .long z1), (3, .long z2)] := hl
  refine lv_lload_n hx hb dX11_mix_0 rfl (lv_at hl 1 rfl) ?_
  refine lv_ldc2 hx hb X.2.2.2.2.1 (X.2.2.2.2.2.1 _ kcJ_X11_393) dX11_mix_1 ?_
  refine lv_lmul hx hb dX11_mix_4 ?_
  refine lv_lload_n hx hb dX11_mix_5 rfl (lv_at hl 2 rfl) ?_
  refine lv_ladd hx hb dX11_mix_6 ?_
  exact h_lret X Y ⟨rfl, rfl⟩ (Nat.le_refl _) (Nat.le_refl _) dX11_mix_7
theorem gw_X11_323 : GoodIn hGW (wsV RX11 323 RX11 yX11_mix (Cond.code yX11_mix cX11_mix 5 (Option.some FieldType.long) :: hGW)) := hgi4 kml_X11_323 kin_X11_mix kse_X11_X11_mix_X11_mix kini_X11 kco_X11_mix
theorem dsc_X11_mix : yX11_mix.cls = RX11 ∧ yX11_mix.cls ≠ "java/lang/invoke/MethodHandle" ∧ yX11_mix.cls ≠ "java/lang/invoke/VarHandle" ∧ (parseMethodDescriptor yX11_mix.desc).map (fun d => d.parameters.length) = some 2 := ⟨rfl, by decide +kernel, by decide +kernel, by decide +kernel⟩
theorem gw_X11_156 : GoodIn hGW (wsV RX11 156 RX5 yX5_tell (Cond.code yX5_tell cX5_tell 2 (Option.some FieldType.int) :: hGW)) := hgi4 kml_X11_156 kin_X5_tell kse_X5_X5_tell_X5_tell kini_X5 kco_X5_tell
theorem dsc_X5_tell : yX5_tell.cls = RX5 ∧ yX5_tell.cls ≠ "java/lang/invoke/MethodHandle" ∧ yX5_tell.cls ≠ "java/lang/invoke/VarHandle" ∧ (parseMethodDescriptor yX5_tell.desc).map (fun d => d.parameters.length) = some 1 := ⟨rfl, by decide +kernel, by decide +kernel, by decide +kernel⟩
theorem dX11_mixLayers_0 : decode cX11_mixLayers 0 = .ok (.lload_n 1, 1) := by decide +kernel
theorem dX11_mixLayers_1 : decode cX11_mixLayers 1 = .ok (.lstore_n 3, 1) := by decide +kernel
theorem dX11_mixLayers_2 : decode cX11_mixLayers 2 = .ok (.iconst 0, 1) := by decide +kernel
theorem dX11_mixLayers_3 : decode cX11_mixLayers 3 = .ok (.istore 5, 2) := by decide +kernel
theorem dX11_mixLayers_5 : decode cX11_mixLayers 5 = .ok (.iload 5, 2) := by decide +kernel
theorem dX11_mixLayers_7 : decode cX11_mixLayers 7 = .ok (.aload_n 0, 1) := by decide +kernel
theorem dX11_mixLayers_8 : decode cX11_mixLayers 8 = .ok (.getfield 42, 3) := by decide +kernel
theorem dX11_mixLayers_11 : decode cX11_mixLayers 11 = .ok (.invokevirtual 176, 3) := by decide +kernel
theorem dX11_mixLayers_14 : decode cX11_mixLayers 14 = .ok (.if_icmp .ge 140, 3) := by decide +kernel
theorem dX11_mixLayers_17 : decode cX11_mixLayers 17 = .ok (.iconst 0, 1) := by decide +kernel
theorem dX11_mixLayers_18 : decode cX11_mixLayers 18 = .ok (.istore 6, 2) := by decide +kernel
theorem dX11_mixLayers_20 : decode cX11_mixLayers 20 = .ok (.iload 6, 2) := by decide +kernel
theorem dX11_mixLayers_22 : decode cX11_mixLayers 22 = .ok (.bipush 7, 2) := by decide +kernel
theorem dX11_mixLayers_24 : decode cX11_mixLayers 24 = .ok (.if_icmp .gt 33, 3) := by decide +kernel
theorem dX11_mixLayers_27 : decode cX11_mixLayers 27 = .ok (.aload_n 0, 1) := by decide +kernel
theorem dX11_mixLayers_28 : decode cX11_mixLayers 28 = .ok (.lload_n 3, 1) := by decide +kernel
theorem dX11_mixLayers_29 : decode cX11_mixLayers 29 = .ok (.aload_n 0, 1) := by decide +kernel
theorem dX11_mixLayers_30 : decode cX11_mixLayers 30 = .ok (.getfield 42, 3) := by decide +kernel
theorem dX11_mixLayers_33 : decode cX11_mixLayers 33 = .ok (.iload 5, 2) := by decide +kernel
theorem dX11_mixLayers_35 : decode cX11_mixLayers 35 = .ok (.invokevirtual 150, 3) := by decide +kernel
theorem dX11_mixLayers_38 : decode cX11_mixLayers 38 = .ok (.checkcast 154, 3) := by decide +kernel
theorem dX11_mixLayers_41 : decode cX11_mixLayers 41 = .ok (.iload 6, 2) := by decide +kernel
theorem dX11_mixLayers_43 : decode cX11_mixLayers 43 = .ok (.invokevirtual 156, 3) := by decide +kernel
theorem dX11_mixLayers_46 : decode cX11_mixLayers 46 = .ok (.i2l, 1) := by decide +kernel
theorem dX11_mixLayers_47 : decode cX11_mixLayers 47 = .ok (.invokevirtual 323, 3) := by decide +kernel
theorem dX11_mixLayers_50 : decode cX11_mixLayers 50 = .ok (.lstore_n 3, 1) := by decide +kernel
theorem dX11_mixLayers_51 : decode cX11_mixLayers 51 = .ok (.iinc 6 1, 3) := by decide +kernel
theorem dX11_mixLayers_54 : decode cX11_mixLayers 54 = .ok (.goto (-34), 3) := by decide +kernel
theorem dX11_mixLayers_57 : decode cX11_mixLayers 57 = .ok (.iconst 0, 1) := by decide +kernel
theorem dX11_mixLayers_58 : decode cX11_mixLayers 58 = .ok (.istore 6, 2) := by decide +kernel
theorem dX11_mixLayers_60 : decode cX11_mixLayers 60 = .ok (.iload 6, 2) := by decide +kernel
theorem dX11_mixLayers_62 : decode cX11_mixLayers 62 = .ok (.aload_n 0, 1) := by decide +kernel
theorem dX11_mixLayers_63 : decode cX11_mixLayers 63 = .ok (.getfield 78, 3) := by decide +kernel
theorem dX11_mixLayers_66 : decode cX11_mixLayers 66 = .ok (.if_icmp .gt 82, 3) := by decide +kernel
theorem dX11_mixLayers_69 : decode cX11_mixLayers 69 = .ok (.iconst 0, 1) := by decide +kernel
theorem dX11_mixLayers_70 : decode cX11_mixLayers 70 = .ok (.istore 7, 2) := by decide +kernel
theorem dX11_mixLayers_72 : decode cX11_mixLayers 72 = .ok (.iload 7, 2) := by decide +kernel
theorem dX11_mixLayers_74 : decode cX11_mixLayers 74 = .ok (.iconst 3, 1) := by decide +kernel
theorem dX11_mixLayers_75 : decode cX11_mixLayers 75 = .ok (.if_icmp .gt 35, 3) := by decide +kernel
theorem dX11_mixLayers_78 : decode cX11_mixLayers 78 = .ok (.aload_n 0, 1) := by decide +kernel
theorem dX11_mixLayers_79 : decode cX11_mixLayers 79 = .ok (.lload_n 3, 1) := by decide +kernel
theorem dX11_mixLayers_80 : decode cX11_mixLayers 80 = .ok (.aload_n 0, 1) := by decide +kernel
theorem dX11_mixLayers_81 : decode cX11_mixLayers 81 = .ok (.getfield 42, 3) := by decide +kernel
theorem dX11_mixLayers_84 : decode cX11_mixLayers 84 = .ok (.iload 5, 2) := by decide +kernel
theorem dX11_mixLayers_86 : decode cX11_mixLayers 86 = .ok (.invokevirtual 150, 3) := by decide +kernel
theorem dX11_mixLayers_89 : decode cX11_mixLayers 89 = .ok (.checkcast 154, 3) := by decide +kernel
theorem dX11_mixLayers_92 : decode cX11_mixLayers 92 = .ok (.iload 6, 2) := by decide +kernel
theorem dX11_mixLayers_94 : decode cX11_mixLayers 94 = .ok (.iload 7, 2) := by decide +kernel
theorem dX11_mixLayers_96 : decode cX11_mixLayers 96 = .ok (.invokevirtual 164, 3) := by decide +kernel
theorem dX11_mixLayers_99 : decode cX11_mixLayers 99 = .ok (.i2l, 1) := by decide +kernel
theorem dX11_mixLayers_100 : decode cX11_mixLayers 100 = .ok (.invokevirtual 323, 3) := by decide +kernel
theorem dX11_mixLayers_103 : decode cX11_mixLayers 103 = .ok (.lstore_n 3, 1) := by decide +kernel
theorem dX11_mixLayers_104 : decode cX11_mixLayers 104 = .ok (.iinc 7 1, 3) := by decide +kernel
theorem dX11_mixLayers_107 : decode cX11_mixLayers 107 = .ok (.goto (-35), 3) := by decide +kernel
theorem dX11_mixLayers_110 : decode cX11_mixLayers 110 = .ok (.iconst 0, 1) := by decide +kernel
theorem dX11_mixLayers_111 : decode cX11_mixLayers 111 = .ok (.istore 7, 2) := by decide +kernel
theorem dX11_mixLayers_113 : decode cX11_mixLayers 113 = .ok (.iload 7, 2) := by decide +kernel
theorem dX11_mixLayers_115 : decode cX11_mixLayers 115 = .ok (.iconst 3, 1) := by decide +kernel
theorem dX11_mixLayers_116 : decode cX11_mixLayers 116 = .ok (.if_icmp .gt 26, 3) := by decide +kernel
theorem dX11_mixLayers_119 : decode cX11_mixLayers 119 = .ok (.aload_n 0, 1) := by decide +kernel
theorem dX11_mixLayers_120 : decode cX11_mixLayers 120 = .ok (.lload_n 3, 1) := by decide +kernel
theorem dX11_mixLayers_121 : decode cX11_mixLayers 121 = .ok (.aload_n 0, 1) := by decide +kernel
theorem dX11_mixLayers_122 : decode cX11_mixLayers 122 = .ok (.iload 5, 2) := by decide +kernel
theorem dX11_mixLayers_124 : decode cX11_mixLayers 124 = .ok (.iload 6, 2) := by decide +kernel
theorem dX11_mixLayers_126 : decode cX11_mixLayers 126 = .ok (.iload 7, 2) := by decide +kernel
theorem dX11_mixLayers_128 : decode cX11_mixLayers 128 = .ok (.invokevirtual 238, 3) := by decide +kernel
theorem dX11_mixLayers_131 : decode cX11_mixLayers 131 = .ok (.i2l, 1) := by decide +kernel
theorem dX11_mixLayers_132 : decode cX11_mixLayers 132 = .ok (.invokevirtual 323, 3) := by decide +kernel
theorem dX11_mixLayers_135 : decode cX11_mixLayers 135 = .ok (.lstore_n 3, 1) := by decide +kernel
theorem dX11_mixLayers_136 : decode cX11_mixLayers 136 = .ok (.iinc 7 1, 3) := by decide +kernel
theorem dX11_mixLayers_139 : decode cX11_mixLayers 139 = .ok (.goto (-26), 3) := by decide +kernel
theorem dX11_mixLayers_142 : decode cX11_mixLayers 142 = .ok (.iinc 6 1, 3) := by decide +kernel
theorem dX11_mixLayers_145 : decode cX11_mixLayers 145 = .ok (.goto (-85), 3) := by decide +kernel
theorem dX11_mixLayers_148 : decode cX11_mixLayers 148 = .ok (.iinc 5 1, 3) := by decide +kernel
theorem dX11_mixLayers_151 : decode cX11_mixLayers 151 = .ok (.goto (-146), 3) := by decide +kernel
theorem dX11_mixLayers_154 : decode cX11_mixLayers 154 = .ok (.lload_n 3, 1) := by decide +kernel
theorem dX11_mixLayers_155 : decode cX11_mixLayers 155 = .ok (.lreturn, 1) := by decide +kernel
set_option maxHeartbeats 1000000 in
set_option maxRecDepth 100000 in
theorem c_mixLayers (l : Launch) (G : hG) (M : hM) (S : hSy) (h : hHo) (hQv : QV G M S h) (h7 : CesIs G M S 1 (-1) (qAm S false)) (z1 : Int64) : hCT l G yX11_mixLayers cX11_mixLayers 8 (Option.some FieldType.long) (hRm 8 0 0) M [.ref (sA S 0), .long z1] (hRd M (.long (mxF z1 (fLa S (hNow h)) (sN S)))) := by
  refine hCT.of (own := RX11) (nm := "mixLayers") (by decide) rfl rfl (Nat.le_of_ble_eq_true rfl) ?_
  intro p e s m args below meth c ls X Y hl
  have hx := X.1
  have hb := X.2.1
  have hl : lv_has ls 8 [(0, .ref (sA S 0)), (1, .long z1)] := hl
  obtain ⟨hS, hG1, hHo, hCe, hTr, hnow, hyn⟩ := id hQv
  obtain ⟨hN8, hM40, hLG, hCY⟩ := id hG1
  obtain ⟨hl13, he14, hl15, he16, hLa, hCl⟩ := id hS
  obtain ⟨mc13, hlo13⟩ := id hl13
  obtain ⟨mc15, hlo15⟩ := id hl15
  obtain ⟨ho0, ho1, ho17, ho18, ft19, hft19, ho19⟩ := id hHo
  refine lv_lload_n hx hb dX11_mixLayers_0 rfl (lv_at hl 1 rfl) ?_
  refine lv_lstore_n (lv' := [(3, .long z1), (0, .ref (sA S 0)), (1, .long z1)]) hx hb dX11_mixLayers_1 rfl hl (by decide) rfl (fun ls hl => ?_)
  refine lv_iconst (v := 0) hx hb dX11_mixLayers_2 (by decide) ?_
  refine lv_istore (lv' := [(5, .int 0), (3, .long z1), (0, .ref (sA S 0)), (1, .long z1)]) hx hb dX11_mixLayers_3 hl (by decide) rfl (fun ls hl => ?_)
  have loop : ∀ (d k : Nat), k + d = (sN S) + 1 → k ≤ (sN S) → ∀ (H : Heap) (locs : List Loc) (ls : Array Slot), hHS G M s H locs → lv_has ls 8 [(0, .ref (sA S 0)), (1, .long z1), (3, .long (mxF z1 (fLa S (hNow h)) k)), (5, .int (nI k))] → W p l e (hRm 8 0 0) s m args below meth c H locs 0 0 (MQ below (hQ G (hRd M (.long (mxF z1 (fLa S (hNow h)) (sN S))))) args s 0 0 (hA G)) (F0 m 5 ls []) := by
    intro d
    induction d with
    | zero => intro k h1 h2; exact absurd h1 (by omega)
    | succ d ih =>
      intro k h1 h2 H locs ls Y hl
      refine lv_iload hx hb dX11_mixLayers_5 (lv_at hl 3 rfl) ?_
      refine lv_aload_n hx hb dX11_mixLayers_7 rfl (lv_at hl 0 rfl) ?_
      refine h_get X Y (k := 4) (v := .ref (sA S 13)) ho0 rfl hin_X11 (by decide) kfl_X11_42 rfl dX11_mixLayers_8 ?_
      refine h_callVr (rest := [.int (nI k)]) X Y (c_size l G M (sA S 13) 13 (sA S 14) (sN S) hl13) rfl rfl gw_X11_176 dsc_Jx4a65c_size_8abf5 hlo13 rfl rfl rfl rfl hl.1 (Nat.le_of_ble_eq_true rfl) ⟨Nat.le_of_ble_eq_true rfl, Nat.le_of_ble_eq_true rfl⟩ ⟨Nat.le_of_ble_eq_true rfl, Nat.le_of_ble_eq_true rfl⟩ dX11_mixLayers_11 (fun H locs Y => ?_)
      refine lv_icmp_ge (tgt := 154) hx hb dX11_mixLayers_14 (by decide) (fun c14 => ?_) (fun c14 => ?_)
      · have c14 : (sN S) ≤ k := (nI_leI (a := (sN S)) (b := k) (by omega) (by omega)).mp c14
        have hk9 : k = (sN S) := by omega
        subst hk9
        refine lv_lload_n hx hb dX11_mixLayers_154 rfl (lv_at hl 2 rfl) ?_
        exact h_lret X Y ⟨rfl, rfl⟩ (Nat.le_refl _) (Nat.le_refl _) dX11_mixLayers_155
      · have c14 : ¬ (sN S) ≤ k := fun z9 => c14 ((nI_leI (a := (sN S)) (b := k) (by omega) (by omega)).mpr z9)
        refine lv_iconst (v := 0) hx hb dX11_mixLayers_17 (by decide) ?_
        refine lv_istore (lv' := [(6, .int 0), (0, .ref (sA S 0)), (1, .long z1), (3, .long (mxF z1 (fLa S (hNow h)) k)), (5, .int (nI k))]) hx hb dX11_mixLayers_18 hl (by decide) rfl (fun ls hl => ?_)
        have loop2 : ∀ (d x : Nat), x + d = 8 + 1 → x ≤ 8 → ∀ (H : Heap) (locs : List Loc) (ls : Array Slot), hHS G M s H locs → lv_has ls 8 [(0, .ref (sA S 0)), (1, .long z1), (3, .long (mxF (mxF z1 (fLa S (hNow h)) k) (fTe S k) x)), (5, .int (nI k)), (6, .int (nI x))] → W p l e (hRm 8 0 0) s m args below meth c H locs 0 0 (MQ below (hQ G (hRd M (.long (mxF z1 (fLa S (hNow h)) (sN S))))) args s 0 0 (hA G)) (F0 m 20 ls []) := by
          intro d
          induction d with
          | zero => intro x h1 h2; exact absurd h1 (by omega)
          | succ d ih2 =>
            intro x h1 h2 H locs ls Y hl
            refine lv_iload hx hb dX11_mixLayers_20 (lv_at hl 4 rfl) ?_
            refine lv_bipush (v := 7) hx hb dX11_mixLayers_22 (by decide) ?_
            refine lv_icmp_gt (tgt := 57) hx hb dX11_mixLayers_24 (by decide) (fun c24 => ?_) (fun c24 => ?_)
            · have c24 : 7 < x := (nI_ltI (a := 7) (b := x) (by omega) (by omega)).mp c24
              have hk9 : x = 8 := by omega
              subst hk9
              refine lv_iconst (v := 0) hx hb dX11_mixLayers_57 (by decide) ?_
              refine lv_istore (lv' := [(6, .int 0), (0, .ref (sA S 0)), (1, .long z1), (3, .long (mxF (mxF z1 (fLa S (hNow h)) k) (fTe S k) 8)), (5, .int (nI k))]) hx hb dX11_mixLayers_58 hl (by decide) rfl (fun ls hl => ?_)
              have loop3 : ∀ (d y : Nat), y + d = (hNow h + 1) + 1 → y ≤ (hNow h + 1) → ∀ (H : Heap) (locs : List Loc) (ls : Array Slot), hHS G M s H locs → lv_has ls 8 [(0, .ref (sA S 0)), (1, .long z1), (3, .long (mxF (mxF (mxF z1 (fLa S (hNow h)) k) (fTe S k) 8) (fYe S k) y)), (5, .int (nI k)), (6, .int (nI y))] → W p l e (hRm 8 0 0) s m args below meth c H locs 0 0 (MQ below (hQ G (hRd M (.long (mxF z1 (fLa S (hNow h)) (sN S))))) args s 0 0 (hA G)) (F0 m 60 ls []) := by
                intro d
                induction d with
                | zero => intro y h1 h2; exact absurd h1 (by omega)
                | succ d ih3 =>
                  intro y h1 h2 H locs ls Y hl
                  refine lv_iload hx hb dX11_mixLayers_60 (lv_at hl 4 rfl) ?_
                  refine lv_aload_n hx hb dX11_mixLayers_62 rfl (lv_at hl 0 rfl) ?_
                  refine h_get X Y (k := 12) (v := .int (nI (hNow h))) ho0 rfl hin_X11 (by decide) kfl_X11_78 rfl dX11_mixLayers_63 ?_
                  refine lv_icmp_gt (tgt := 148) hx hb dX11_mixLayers_66 (by decide) (fun c66 => ?_) (fun c66 => ?_)
                  · have c66 : (hNow h) < y := (nI_ltI (a := (hNow h)) (b := y) (by omega) (by omega)).mp c66
                    have hk9 : y = (hNow h + 1) := by omega
                    subst hk9
                    rw [fLa_step] at hl
                    refine lv_iinc (v := nI (k + 1)) (lv' := [(5, .int (nI (k + 1))), (0, .ref (sA S 0)), (1, .long z1), (3, .long (mxF z1 (fLa S (hNow h)) (k + 1))), (6, .int (nI (hNow h + 1)))]) hx hb dX11_mixLayers_148 hl (k := 3) rfl (nI_1 k) (by decide) rfl (fun ls hl => ?_)
                    refine lv_goto (tgt := 5) hx hb dX11_mixLayers_151 (by decide) ?_
                    exact ih (k + 1) (by omega) (by omega) _ _ _ Y (lv_sub hl [1, 2, 3, 0] rfl)
                  · have c66 : ¬ (hNow h) < y := fun z9 => c66 ((nI_ltI (a := (hNow h)) (b := y) (by omega) (by omega)).mpr z9)
                    refine lv_iconst (v := 0) hx hb dX11_mixLayers_69 (by decide) ?_
                    refine lv_istore (lv' := [(7, .int 0), (0, .ref (sA S 0)), (1, .long z1), (3, .long (mxF (mxF (mxF z1 (fLa S (hNow h)) k) (fTe S k) 8) (fYe S k) y)), (5, .int (nI k)), (6, .int (nI y))]) hx hb dX11_mixLayers_70 hl (by decide) rfl (fun ls hl => ?_)
                    have loop4 : ∀ (d x : Nat), x + d = 4 + 1 → x ≤ 4 → ∀ (H : Heap) (locs : List Loc) (ls : Array Slot), hHS G M s H locs → lv_has ls 8 [(0, .ref (sA S 0)), (1, .long z1), (3, .long (mxF (mxF (mxF (mxF z1 (fLa S (hNow h)) k) (fTe S k) 8) (fYe S k) y) (fTy S k y) x)), (5, .int (nI k)), (6, .int (nI y)), (7, .int (nI x))] → W p l e (hRm 8 0 0) s m args below meth c H locs 0 0 (MQ below (hQ G (hRd M (.long (mxF z1 (fLa S (hNow h)) (sN S))))) args s 0 0 (hA G)) (F0 m 72 ls []) := by
                      intro d
                      induction d with
                      | zero => intro x h1 h2; exact absurd h1 (by omega)
                      | succ d ih4 =>
                        intro x h1 h2 H locs ls Y hl
                        refine lv_iload hx hb dX11_mixLayers_72 (lv_at hl 5 rfl) ?_
                        refine lv_iconst (v := 3) hx hb dX11_mixLayers_74 (by decide) ?_
                        refine lv_icmp_gt (tgt := 110) hx hb dX11_mixLayers_75 (by decide) (fun c75 => ?_) (fun c75 => ?_)
                        · have c75 : 3 < x := (nI_ltI (a := 3) (b := x) (by omega) (by omega)).mp c75
                          have hk9 : x = 4 := by omega
                          subst hk9
                          refine lv_iconst (v := 0) hx hb dX11_mixLayers_110 (by decide) ?_
                          refine lv_istore (lv' := [(7, .int 0), (0, .ref (sA S 0)), (1, .long z1), (3, .long (mxF (mxF (mxF (mxF z1 (fLa S (hNow h)) k) (fTe S k) 8) (fYe S k) y) (fTy S k y) 4)), (5, .int (nI k)), (6, .int (nI y))]) hx hb dX11_mixLayers_111 hl (by decide) rfl (fun ls hl => ?_)
                          have loop5 : ∀ (d x : Nat), x + d = 4 + 1 → x ≤ 4 → ∀ (H : Heap) (locs : List Loc) (ls : Array Slot), hHS G M s H locs → lv_has ls 8 [(0, .ref (sA S 0)), (1, .long z1), (3, .long (mxF (mxF (mxF (mxF (mxF z1 (fLa S (hNow h)) k) (fTe S k) 8) (fYe S k) y) (fTy S k y) 4) (fUs S k y) x)), (5, .int (nI k)), (6, .int (nI y)), (7, .int (nI x))] → W p l e (hRm 8 0 0) s m args below meth c H locs 0 0 (MQ below (hQ G (hRd M (.long (mxF z1 (fLa S (hNow h)) (sN S))))) args s 0 0 (hA G)) (F0 m 113 ls []) := by
                            intro d
                            induction d with
                            | zero => intro x h1 h2; exact absurd h1 (by omega)
                            | succ d ih5 =>
                              intro x h1 h2 H locs ls Y hl
                              refine lv_iload hx hb dX11_mixLayers_113 (lv_at hl 5 rfl) ?_
                              refine lv_iconst (v := 3) hx hb dX11_mixLayers_115 (by decide) ?_
                              refine lv_icmp_gt (tgt := 142) hx hb dX11_mixLayers_116 (by decide) (fun c116 => ?_) (fun c116 => ?_)
                              · have c116 : 3 < x := (nI_ltI (a := 3) (b := x) (by omega) (by omega)).mp c116
                                have hk9 : x = 4 := by omega
                                subst hk9
                                rw [fYe_step] at hl
                                refine lv_iinc (v := nI (y + 1)) (lv' := [(6, .int (nI (y + 1))), (0, .ref (sA S 0)), (1, .long z1), (3, .long (mxF (mxF (mxF z1 (fLa S (hNow h)) k) (fTe S k) 8) (fYe S k) (y + 1))), (5, .int (nI k)), (7, .int (nI 4))]) hx hb dX11_mixLayers_142 hl (k := 4) rfl (nI_1 y) (by decide) rfl (fun ls hl => ?_)
                                refine lv_goto (tgt := 60) hx hb dX11_mixLayers_145 (by decide) ?_
                                exact ih3 (y + 1) (by omega) (by omega) _ _ _ Y (lv_sub hl [1, 2, 3, 4, 0] rfl)
                              · have c116 : ¬ 3 < x := fun z9 => c116 ((nI_ltI (a := 3) (b := x) (by omega) (by omega)).mpr z9)
                                refine lv_aload_n hx hb dX11_mixLayers_119 rfl (lv_at hl 0 rfl) ?_
                                refine lv_lload_n hx hb dX11_mixLayers_120 rfl (lv_at hl 2 rfl) ?_
                                refine lv_aload_n hx hb dX11_mixLayers_121 rfl (lv_at hl 0 rfl) ?_
                                refine lv_iload hx hb dX11_mixLayers_122 (lv_at hl 3 rfl) ?_
                                refine lv_iload hx hb dX11_mixLayers_124 (lv_at hl 4 rfl) ?_
                                refine lv_iload hx hb dX11_mixLayers_126 (lv_at hl 5 rfl) ?_
                                refine h_callVr (rest := [.long (mxF (mxF (mxF (mxF (mxF z1 (fLa S (hNow h)) k) (fTe S k) 8) (fYe S k) y) (fTy S k y) 4) (fUs S k y) x), .ref (sA S 0)]) X Y (c_usedOf l G M S h hQv k y x (by omega) (by omega) (by omega) h7) rfl rfl gw_X11_238 dsc_X11_usedOf ho0 rfl rfl rfl rfl hl.1 (Nat.le_of_ble_eq_true rfl) ⟨Nat.le_of_ble_eq_true rfl, Nat.le_of_ble_eq_true rfl⟩ ⟨Nat.le_of_ble_eq_true rfl, Nat.le_of_ble_eq_true rfl⟩ dX11_mixLayers_128 (fun H locs Y => ?_)
                                refine lv_i2l (v := (qUsed S k y x).toInt64) hx hb dX11_mixLayers_131 rfl ?_
                                refine h_callVr (rest := []) X Y (c_mix l G M (sA S 0) (mxF (mxF (mxF (mxF (mxF z1 (fLa S (hNow h)) k) (fTe S k) 8) (fYe S k) y) (fTy S k y) 4) (fUs S k y) x) ((qUsed S k y x).toInt64)) rfl rfl gw_X11_323 dsc_X11_mix ho0 rfl rfl rfl rfl hl.1 (Nat.le_of_ble_eq_true rfl) ⟨Nat.le_of_ble_eq_true rfl, Nat.le_of_ble_eq_true rfl⟩ ⟨Nat.le_of_ble_eq_true rfl, Nat.le_of_ble_eq_true rfl⟩ dX11_mixLayers_132 (fun H locs Y => ?_)
                                refine lv_lstore_n (lv' := [(3, .long ((mxF (mxF (mxF (mxF (mxF z1 (fLa S (hNow h)) k) (fTe S k) 8) (fYe S k) y) (fTy S k y) 4) (fUs S k y) x) * 31 + ((qUsed S k y x).toInt64))), (0, .ref (sA S 0)), (1, .long z1), (5, .int (nI k)), (6, .int (nI y)), (7, .int (nI x))]) hx hb dX11_mixLayers_135 rfl hl (by decide) rfl (fun ls hl => ?_)
                                refine lv_iinc (v := nI (x + 1)) (lv' := [(7, .int (nI (x + 1))), (3, .long ((mxF (mxF (mxF (mxF (mxF z1 (fLa S (hNow h)) k) (fTe S k) 8) (fYe S k) y) (fTy S k y) 4) (fUs S k y) x) * 31 + ((qUsed S k y x).toInt64))), (0, .ref (sA S 0)), (1, .long z1), (5, .int (nI k)), (6, .int (nI y))]) hx hb dX11_mixLayers_136 hl (k := 5) rfl (nI_1 x) (by decide) rfl (fun ls hl => ?_)
                                refine lv_goto (tgt := 113) hx hb dX11_mixLayers_139 (by decide) ?_
                                exact ih5 (x + 1) (by omega) (by omega) _ _ _ Y (lv_sub hl [2, 3, 1, 4, 5, 0] rfl)
                          exact loop5 (4 + 1) 0 (by omega) (by omega) _ _ _ Y (lv_sub hl [1, 2, 3, 4, 5, 0] rfl)
                        · have c75 : ¬ 3 < x := fun z9 => c75 ((nI_ltI (a := 3) (b := x) (by omega) (by omega)).mpr z9)
                          refine lv_aload_n hx hb dX11_mixLayers_78 rfl (lv_at hl 0 rfl) ?_
                          refine lv_lload_n hx hb dX11_mixLayers_79 rfl (lv_at hl 2 rfl) ?_
                          refine lv_aload_n hx hb dX11_mixLayers_80 rfl (lv_at hl 0 rfl) ?_
                          refine h_get X Y (k := 4) (v := .ref (sA S 13)) ho0 rfl hin_X11 (by decide) kfl_X11_42 rfl dX11_mixLayers_81 ?_
                          refine lv_iload hx hb dX11_mixLayers_84 (lv_at hl 3 rfl) ?_
                          refine h_callVr (rest := [.long (mxF (mxF (mxF (mxF z1 (fLa S (hNow h)) k) (fTe S k) 8) (fYe S k) y) (fTy S k y) x), .ref (sA S 0)]) X Y (c_get l G M (sA S 13) 13 (sA S 14) 14 (sN S) k (fun k => sA S (2000 + 100 * k)) hl13 (he14 (by omega)) (by omega)) rfl rfl gw_X11_150 dsc_Jx4a65c_get_915e3 hlo13 rfl rfl rfl rfl hl.1 (Nat.le_of_ble_eq_true rfl) ⟨Nat.le_of_ble_eq_true rfl, Nat.le_of_ble_eq_true rfl⟩ ⟨Nat.le_of_ble_eq_true rfl, Nat.le_of_ble_eq_true rfl⟩ dX11_mixLayers_86 (fun H locs Y => ?_)
                          refine h_cast X Y (hLa k (by omega)).1.1 rfl rfl kcl_X11_154 dX11_mixLayers_89 ?_
                          refine lv_iload hx hb dX11_mixLayers_92 (lv_at hl 4 rfl) ?_
                          refine lv_iload hx hb dX11_mixLayers_94 (lv_at hl 5 rfl) ?_
                          refine h_callVr (rest := [.long (mxF (mxF (mxF (mxF z1 (fLa S (hNow h)) k) (fTe S k) 8) (fYe S k) y) (fTy S k y) x), .ref (sA S 0)]) X Y (c_tellYear l G M (sA S (2000 + 100 * k)) (2000 + 100 * k) (sL S k) (hLa k (by omega)).1 y x (by omega) (by omega)) rfl rfl gw_X11_164 dsc_X5_tellYear (hLa k (by omega)).1.1 rfl rfl rfl rfl hl.1 (Nat.le_of_ble_eq_true rfl) ⟨Nat.le_of_ble_eq_true rfl, Nat.le_of_ble_eq_true rfl⟩ ⟨Nat.le_of_ble_eq_true rfl, Nat.le_of_ble_eq_true rfl⟩ dX11_mixLayers_96 (fun H locs Y => ?_)
                          refine lv_i2l (v := (lyYear (sL S k) y x).toInt64) hx hb dX11_mixLayers_99 rfl ?_
                          refine h_callVr (rest := []) X Y (c_mix l G M (sA S 0) (mxF (mxF (mxF (mxF z1 (fLa S (hNow h)) k) (fTe S k) 8) (fYe S k) y) (fTy S k y) x) ((lyYear (sL S k) y x).toInt64)) rfl rfl gw_X11_323 dsc_X11_mix ho0 rfl rfl rfl rfl hl.1 (Nat.le_of_ble_eq_true rfl) ⟨Nat.le_of_ble_eq_true rfl, Nat.le_of_ble_eq_true rfl⟩ ⟨Nat.le_of_ble_eq_true rfl, Nat.le_of_ble_eq_true rfl⟩ dX11_mixLayers_100 (fun H locs Y => ?_)
                          refine lv_lstore_n (lv' := [(3, .long ((mxF (mxF (mxF (mxF z1 (fLa S (hNow h)) k) (fTe S k) 8) (fYe S k) y) (fTy S k y) x) * 31 + ((lyYear (sL S k) y x).toInt64))), (0, .ref (sA S 0)), (1, .long z1), (5, .int (nI k)), (6, .int (nI y)), (7, .int (nI x))]) hx hb dX11_mixLayers_103 rfl hl (by decide) rfl (fun ls hl => ?_)
                          refine lv_iinc (v := nI (x + 1)) (lv' := [(7, .int (nI (x + 1))), (3, .long ((mxF (mxF (mxF (mxF z1 (fLa S (hNow h)) k) (fTe S k) 8) (fYe S k) y) (fTy S k y) x) * 31 + ((lyYear (sL S k) y x).toInt64))), (0, .ref (sA S 0)), (1, .long z1), (5, .int (nI k)), (6, .int (nI y))]) hx hb dX11_mixLayers_104 hl (k := 5) rfl (nI_1 x) (by decide) rfl (fun ls hl => ?_)
                          refine lv_goto (tgt := 72) hx hb dX11_mixLayers_107 (by decide) ?_
                          exact ih4 (x + 1) (by omega) (by omega) _ _ _ Y (lv_sub hl [2, 3, 1, 4, 5, 0] rfl)
                    exact loop4 (4 + 1) 0 (by omega) (by omega) _ _ _ Y (lv_sub hl [1, 2, 3, 4, 5, 0] rfl)
              exact loop3 ((hNow h + 1) + 1) 0 (by omega) (by omega) _ _ _ Y (lv_sub hl [1, 2, 3, 4, 0] rfl)
            · have c24 : ¬ 7 < x := fun z9 => c24 ((nI_ltI (a := 7) (b := x) (by omega) (by omega)).mpr z9)
              refine lv_aload_n hx hb dX11_mixLayers_27 rfl (lv_at hl 0 rfl) ?_
              refine lv_lload_n hx hb dX11_mixLayers_28 rfl (lv_at hl 2 rfl) ?_
              refine lv_aload_n hx hb dX11_mixLayers_29 rfl (lv_at hl 0 rfl) ?_
              refine h_get X Y (k := 4) (v := .ref (sA S 13)) ho0 rfl hin_X11 (by decide) kfl_X11_42 rfl dX11_mixLayers_30 ?_
              refine lv_iload hx hb dX11_mixLayers_33 (lv_at hl 3 rfl) ?_
              refine h_callVr (rest := [.long (mxF (mxF z1 (fLa S (hNow h)) k) (fTe S k) x), .ref (sA S 0)]) X Y (c_get l G M (sA S 13) 13 (sA S 14) 14 (sN S) k (fun k => sA S (2000 + 100 * k)) hl13 (he14 (by omega)) (by omega)) rfl rfl gw_X11_150 dsc_Jx4a65c_get_915e3 hlo13 rfl rfl rfl rfl hl.1 (Nat.le_of_ble_eq_true rfl) ⟨Nat.le_of_ble_eq_true rfl, Nat.le_of_ble_eq_true rfl⟩ ⟨Nat.le_of_ble_eq_true rfl, Nat.le_of_ble_eq_true rfl⟩ dX11_mixLayers_35 (fun H locs Y => ?_)
              refine h_cast X Y (hLa k (by omega)).1.1 rfl rfl kcl_X11_154 dX11_mixLayers_38 ?_
              refine lv_iload hx hb dX11_mixLayers_41 (lv_at hl 4 rfl) ?_
              refine h_callVr (rest := [.long (mxF (mxF z1 (fLa S (hNow h)) k) (fTe S k) x), .ref (sA S 0)]) X Y (c_tell l G M (sA S (2000 + 100 * k)) (2000 + 100 * k) (sL S k) (hLa k (by omega)).1 x (by omega)) rfl rfl gw_X11_156 dsc_X5_tell (hLa k (by omega)).1.1 rfl rfl rfl rfl hl.1 (Nat.le_of_ble_eq_true rfl) ⟨Nat.le_of_ble_eq_true rfl, Nat.le_of_ble_eq_true rfl⟩ ⟨Nat.le_of_ble_eq_true rfl, Nat.le_of_ble_eq_true rfl⟩ dX11_mixLayers_43 (fun H locs Y => ?_)
              refine lv_i2l (v := (lyTell (sL S k) x).toInt64) hx hb dX11_mixLayers_46 rfl ?_
              refine h_callVr (rest := []) X Y (c_mix l G M (sA S 0) (mxF (mxF z1 (fLa S (hNow h)) k) (fTe S k) x) ((lyTell (sL S k) x).toInt64)) rfl rfl gw_X11_323 dsc_X11_mix ho0 rfl rfl rfl rfl hl.1 (Nat.le_of_ble_eq_true rfl) ⟨Nat.le_of_ble_eq_true rfl, Nat.le_of_ble_eq_true rfl⟩ ⟨Nat.le_of_ble_eq_true rfl, Nat.le_of_ble_eq_true rfl⟩ dX11_mixLayers_47 (fun H locs Y => ?_)
              refine lv_lstore_n (lv' := [(3, .long ((mxF (mxF z1 (fLa S (hNow h)) k) (fTe S k) x) * 31 + ((lyTell (sL S k) x).toInt64))), (0, .ref (sA S 0)), (1, .long z1), (5, .int (nI k)), (6, .int (nI x))]) hx hb dX11_mixLayers_50 rfl hl (by decide) rfl (fun ls hl => ?_)
              refine lv_iinc (v := nI (x + 1)) (lv' := [(6, .int (nI (x + 1))), (3, .long ((mxF (mxF z1 (fLa S (hNow h)) k) (fTe S k) x) * 31 + ((lyTell (sL S k) x).toInt64))), (0, .ref (sA S 0)), (1, .long z1), (5, .int (nI k))]) hx hb dX11_mixLayers_51 hl (k := 4) rfl (nI_1 x) (by decide) rfl (fun ls hl => ?_)
              refine lv_goto (tgt := 20) hx hb dX11_mixLayers_54 (by decide) ?_
              exact ih2 (x + 1) (by omega) (by omega) _ _ _ Y (lv_sub hl [2, 3, 1, 4, 0] rfl)
        exact loop2 (8 + 1) 0 (by omega) (by omega) _ _ _ Y (lv_sub hl [1, 2, 3, 4, 0] rfl)
  exact loop ((sN S) + 1) 0 (by omega) (by omega) _ _ _ Y (lv_sub hl [2, 3, 1, 0] rfl)
theorem dX11_mixClaims_0 : decode cX11_mixClaims 0 = .ok (.lload_n 1, 1) := by decide +kernel
theorem dX11_mixClaims_1 : decode cX11_mixClaims 1 = .ok (.lstore_n 3, 1) := by decide +kernel
theorem dX11_mixClaims_2 : decode cX11_mixClaims 2 = .ok (.iconst 0, 1) := by decide +kernel
theorem dX11_mixClaims_3 : decode cX11_mixClaims 3 = .ok (.istore 5, 2) := by decide +kernel
theorem dX11_mixClaims_5 : decode cX11_mixClaims 5 = .ok (.iload 5, 2) := by decide +kernel
theorem dX11_mixClaims_7 : decode cX11_mixClaims 7 = .ok (.aload_n 0, 1) := by decide +kernel
theorem dX11_mixClaims_8 : decode cX11_mixClaims 8 = .ok (.getfield 46, 3) := by decide +kernel
theorem dX11_mixClaims_11 : decode cX11_mixClaims 11 = .ok (.invokevirtual 176, 3) := by decide +kernel
theorem dX11_mixClaims_14 : decode cX11_mixClaims 14 = .ok (.if_icmp .ge 116, 3) := by decide +kernel
theorem dX11_mixClaims_17 : decode cX11_mixClaims 17 = .ok (.iconst 0, 1) := by decide +kernel
theorem dX11_mixClaims_18 : decode cX11_mixClaims 18 = .ok (.istore 6, 2) := by decide +kernel
theorem dX11_mixClaims_20 : decode cX11_mixClaims 20 = .ok (.iload 6, 2) := by decide +kernel
theorem dX11_mixClaims_22 : decode cX11_mixClaims 22 = .ok (.bipush 7, 2) := by decide +kernel
theorem dX11_mixClaims_24 : decode cX11_mixClaims 24 = .ok (.if_icmp .gt 24, 3) := by decide +kernel
theorem dX11_mixClaims_27 : decode cX11_mixClaims 27 = .ok (.aload_n 0, 1) := by decide +kernel
theorem dX11_mixClaims_28 : decode cX11_mixClaims 28 = .ok (.lload_n 3, 1) := by decide +kernel
theorem dX11_mixClaims_29 : decode cX11_mixClaims 29 = .ok (.aload_n 0, 1) := by decide +kernel
theorem dX11_mixClaims_30 : decode cX11_mixClaims 30 = .ok (.iload 5, 2) := by decide +kernel
theorem dX11_mixClaims_32 : decode cX11_mixClaims 32 = .ok (.iload 6, 2) := by decide +kernel
theorem dX11_mixClaims_34 : decode cX11_mixClaims 34 = .ok (.invokevirtual 221, 3) := by decide +kernel
theorem dX11_mixClaims_37 : decode cX11_mixClaims 37 = .ok (.i2l, 1) := by decide +kernel
theorem dX11_mixClaims_38 : decode cX11_mixClaims 38 = .ok (.invokevirtual 323, 3) := by decide +kernel
theorem dX11_mixClaims_41 : decode cX11_mixClaims 41 = .ok (.lstore_n 3, 1) := by decide +kernel
theorem dX11_mixClaims_42 : decode cX11_mixClaims 42 = .ok (.iinc 6 1, 3) := by decide +kernel
theorem dX11_mixClaims_45 : decode cX11_mixClaims 45 = .ok (.goto (-25), 3) := by decide +kernel
theorem dX11_mixClaims_48 : decode cX11_mixClaims 48 = .ok (.aload_n 0, 1) := by decide +kernel
theorem dX11_mixClaims_49 : decode cX11_mixClaims 49 = .ok (.getfield 46, 3) := by decide +kernel
theorem dX11_mixClaims_52 : decode cX11_mixClaims 52 = .ok (.iload 5, 2) := by decide +kernel
theorem dX11_mixClaims_54 : decode cX11_mixClaims 54 = .ok (.invokevirtual 150, 3) := by decide +kernel
theorem dX11_mixClaims_57 : decode cX11_mixClaims 57 = .ok (.checkcast 181, 3) := by decide +kernel
theorem dX11_mixClaims_60 : decode cX11_mixClaims 60 = .ok (.astore 6, 2) := by decide +kernel
theorem dX11_mixClaims_62 : decode cX11_mixClaims 62 = .ok (.iconst 0, 1) := by decide +kernel
theorem dX11_mixClaims_63 : decode cX11_mixClaims 63 = .ok (.istore 7, 2) := by decide +kernel
theorem dX11_mixClaims_65 : decode cX11_mixClaims 65 = .ok (.iload 7, 2) := by decide +kernel
theorem dX11_mixClaims_67 : decode cX11_mixClaims 67 = .ok (.aload_n 0, 1) := by decide +kernel
theorem dX11_mixClaims_68 : decode cX11_mixClaims 68 = .ok (.getfield 78, 3) := by decide +kernel
theorem dX11_mixClaims_71 : decode cX11_mixClaims 71 = .ok (.aload 6, 2) := by decide +kernel
theorem dX11_mixClaims_73 : decode cX11_mixClaims 73 = .ok (.getfield 224, 3) := by decide +kernel
theorem dX11_mixClaims_76 : decode cX11_mixClaims 76 = .ok (.isub, 1) := by decide +kernel
theorem dX11_mixClaims_77 : decode cX11_mixClaims 77 = .ok (.if_icmp .gt 47, 3) := by decide +kernel
theorem dX11_mixClaims_80 : decode cX11_mixClaims 80 = .ok (.aload_n 0, 1) := by decide +kernel
theorem dX11_mixClaims_81 : decode cX11_mixClaims 81 = .ok (.lload_n 3, 1) := by decide +kernel
theorem dX11_mixClaims_82 : decode cX11_mixClaims 82 = .ok (.aload 6, 2) := by decide +kernel
theorem dX11_mixClaims_84 : decode cX11_mixClaims 84 = .ok (.iload 7, 2) := by decide +kernel
theorem dX11_mixClaims_86 : decode cX11_mixClaims 86 = .ok (.aload_n 0, 1) := by decide +kernel
theorem dX11_mixClaims_87 : decode cX11_mixClaims 87 = .ok (.getfield 78, 3) := by decide +kernel
theorem dX11_mixClaims_90 : decode cX11_mixClaims 90 = .ok (.iconst 1, 1) := by decide +kernel
theorem dX11_mixClaims_91 : decode cX11_mixClaims 91 = .ok (.invokevirtual 229, 3) := by decide +kernel
theorem dX11_mixClaims_94 : decode cX11_mixClaims 94 = .ok (.i2l, 1) := by decide +kernel
theorem dX11_mixClaims_95 : decode cX11_mixClaims 95 = .ok (.invokevirtual 323, 3) := by decide +kernel
theorem dX11_mixClaims_98 : decode cX11_mixClaims 98 = .ok (.lstore_n 3, 1) := by decide +kernel
theorem dX11_mixClaims_99 : decode cX11_mixClaims 99 = .ok (.aload_n 0, 1) := by decide +kernel
theorem dX11_mixClaims_100 : decode cX11_mixClaims 100 = .ok (.lload_n 3, 1) := by decide +kernel
theorem dX11_mixClaims_101 : decode cX11_mixClaims 101 = .ok (.aload 6, 2) := by decide +kernel
theorem dX11_mixClaims_103 : decode cX11_mixClaims 103 = .ok (.iload 7, 2) := by decide +kernel
theorem dX11_mixClaims_105 : decode cX11_mixClaims 105 = .ok (.aload_n 0, 1) := by decide +kernel
theorem dX11_mixClaims_106 : decode cX11_mixClaims 106 = .ok (.getfield 78, 3) := by decide +kernel
theorem dX11_mixClaims_109 : decode cX11_mixClaims 109 = .ok (.iconst 0, 1) := by decide +kernel
theorem dX11_mixClaims_110 : decode cX11_mixClaims 110 = .ok (.invokevirtual 229, 3) := by decide +kernel
theorem dX11_mixClaims_113 : decode cX11_mixClaims 113 = .ok (.i2l, 1) := by decide +kernel
theorem dX11_mixClaims_114 : decode cX11_mixClaims 114 = .ok (.invokevirtual 323, 3) := by decide +kernel
theorem dX11_mixClaims_117 : decode cX11_mixClaims 117 = .ok (.lstore_n 3, 1) := by decide +kernel
theorem dX11_mixClaims_118 : decode cX11_mixClaims 118 = .ok (.iinc 7 1, 3) := by decide +kernel
theorem dX11_mixClaims_121 : decode cX11_mixClaims 121 = .ok (.goto (-56), 3) := by decide +kernel
theorem dX11_mixClaims_124 : decode cX11_mixClaims 124 = .ok (.iinc 5 1, 3) := by decide +kernel
theorem dX11_mixClaims_127 : decode cX11_mixClaims 127 = .ok (.goto (-122), 3) := by decide +kernel
theorem dX11_mixClaims_130 : decode cX11_mixClaims 130 = .ok (.lload_n 3, 1) := by decide +kernel
theorem dX11_mixClaims_131 : decode cX11_mixClaims 131 = .ok (.lreturn, 1) := by decide +kernel
set_option maxHeartbeats 400000 in
set_option maxRecDepth 100000 in
theorem c_mixClaims (l : Launch) (G : hG) (M : hM) (S : hSy) (h : hHo) (hQv : QV G M S h) (h6 : CesIs G M S 0 (-1) (qAm S true)) (h7 : CesIs G M S 1 (-1) (qAm S false)) (z1 : Int64) : hCT l G yX11_mixClaims cX11_mixClaims 8 (Option.some FieldType.long) (hRm 9 0 0) M [.ref (sA S 0), .long z1] (hRd M (.long (mxF z1 (fCl S (hNow h)) (sM S)))) := by
  refine hCT.of (own := RX11) (nm := "mixClaims") (by decide) rfl rfl (Nat.le_of_ble_eq_true rfl) ?_
  intro p e s m args below meth c ls X Y hl
  have hx := X.1
  have hb := X.2.1
  have hl : lv_has ls 8 [(0, .ref (sA S 0)), (1, .long z1)] := hl
  obtain ⟨hS, hG1, hHo, hCe, hTr, hnow, hyn⟩ := id hQv
  obtain ⟨hN8, hM40, hLG, hCY⟩ := id hG1
  obtain ⟨hl13, he14, hl15, he16, hLa, hCl⟩ := id hS
  obtain ⟨mc13, hlo13⟩ := id hl13
  obtain ⟨mc15, hlo15⟩ := id hl15
  obtain ⟨ho0, ho1, ho17, ho18, ft19, hft19, ho19⟩ := id hHo
  refine lv_lload_n hx hb dX11_mixClaims_0 rfl (lv_at hl 1 rfl) ?_
  refine lv_lstore_n (lv' := [(3, .long z1), (0, .ref (sA S 0)), (1, .long z1)]) hx hb dX11_mixClaims_1 rfl hl (by decide) rfl (fun ls hl => ?_)
  refine lv_iconst (v := 0) hx hb dX11_mixClaims_2 (by decide) ?_
  refine lv_istore (lv' := [(5, .int 0), (3, .long z1), (0, .ref (sA S 0)), (1, .long z1)]) hx hb dX11_mixClaims_3 hl (by decide) rfl (fun ls hl => ?_)
  have loop : ∀ (d i : Nat), i + d = (sM S) + 1 → i ≤ (sM S) → ∀ (H : Heap) (locs : List Loc) (ls : Array Slot), hHS G M s H locs → lv_has ls 8 [(0, .ref (sA S 0)), (1, .long z1), (3, .long (mxF z1 (fCl S (hNow h)) i)), (5, .int (nI i))] → W p l e (hRm 9 0 0) s m args below meth c H locs 0 0 (MQ below (hQ G (hRd M (.long (mxF z1 (fCl S (hNow h)) (sM S))))) args s 0 0 (hA G)) (F0 m 5 ls []) := by
    intro d
    induction d with
    | zero => intro i h1 h2; exact absurd h1 (by omega)
    | succ d ih =>
      intro i h1 h2 H locs ls Y hl
      refine lv_iload hx hb dX11_mixClaims_5 (lv_at hl 3 rfl) ?_
      refine lv_aload_n hx hb dX11_mixClaims_7 rfl (lv_at hl 0 rfl) ?_
      refine h_get X Y (k := 5) (v := .ref (sA S 15)) ho0 rfl hin_X11 (by decide) kfl_X11_46 rfl dX11_mixClaims_8 ?_
      refine h_callVr (rest := [.int (nI i)]) X Y (c_size l G M (sA S 15) 15 (sA S 16) (sM S) hl15) rfl rfl gw_X11_176 dsc_Jx4a65c_size_8abf5 hlo15 rfl rfl rfl rfl hl.1 (Nat.le_of_ble_eq_true rfl) ⟨Nat.le_of_ble_eq_true rfl, Nat.le_of_ble_eq_true rfl⟩ ⟨Nat.le_of_ble_eq_true rfl, Nat.le_of_ble_eq_true rfl⟩ dX11_mixClaims_11 (fun H locs Y => ?_)
      refine lv_icmp_ge (tgt := 130) hx hb dX11_mixClaims_14 (by decide) (fun c14 => ?_) (fun c14 => ?_)
      · have c14 : (sM S) ≤ i := (nI_leI (a := (sM S)) (b := i) (by omega) (by omega)).mp c14
        have hk9 : i = (sM S) := by omega
        subst hk9
        refine lv_lload_n hx hb dX11_mixClaims_130 rfl (lv_at hl 2 rfl) ?_
        exact h_lret X Y ⟨rfl, rfl⟩ (Nat.le_refl _) (Nat.le_refl _) dX11_mixClaims_131
      · have c14 : ¬ (sM S) ≤ i := fun z9 => c14 ((nI_leI (a := (sM S)) (b := i) (by omega) (by omega)).mpr z9)
        refine lv_iconst (v := 0) hx hb dX11_mixClaims_17 (by decide) ?_
        refine lv_istore (lv' := [(6, .int 0), (0, .ref (sA S 0)), (1, .long z1), (3, .long (mxF z1 (fCl S (hNow h)) i)), (5, .int (nI i))]) hx hb dX11_mixClaims_18 hl (by decide) rfl (fun ls hl => ?_)
        have loop2 : ∀ (d x : Nat), x + d = 8 + 1 → x ≤ 8 → ∀ (H : Heap) (locs : List Loc) (ls : Array Slot), hHS G M s H locs → lv_has ls 8 [(0, .ref (sA S 0)), (1, .long z1), (3, .long (mxF (mxF z1 (fCl S (hNow h)) i) (fQc S i) x)), (5, .int (nI i)), (6, .int (nI x))] → W p l e (hRm 9 0 0) s m args below meth c H locs 0 0 (MQ below (hQ G (hRd M (.long (mxF z1 (fCl S (hNow h)) (sM S))))) args s 0 0 (hA G)) (F0 m 20 ls []) := by
          intro d
          induction d with
          | zero => intro x h1 h2; exact absurd h1 (by omega)
          | succ d ih2 =>
            intro x h1 h2 H locs ls Y hl
            refine lv_iload hx hb dX11_mixClaims_20 (lv_at hl 4 rfl) ?_
            refine lv_bipush (v := 7) hx hb dX11_mixClaims_22 (by decide) ?_
            refine lv_icmp_gt (tgt := 48) hx hb dX11_mixClaims_24 (by decide) (fun c24 => ?_) (fun c24 => ?_)
            · have c24 : 7 < x := (nI_ltI (a := 7) (b := x) (by omega) (by omega)).mp c24
              have hk9 : x = 8 := by omega
              subst hk9
              refine lv_aload_n hx hb dX11_mixClaims_48 rfl (lv_at hl 0 rfl) ?_
              refine h_get X Y (k := 5) (v := .ref (sA S 15)) ho0 rfl hin_X11 (by decide) kfl_X11_46 rfl dX11_mixClaims_49 ?_
              refine lv_iload hx hb dX11_mixClaims_52 (lv_at hl 3 rfl) ?_
              refine h_callVr (rest := []) X Y (c_get l G M (sA S 15) 15 (sA S 16) 16 (sM S) i (fun i => sA S (1000 + 10 * i)) hl15 (he16 (by omega)) (by omega)) rfl rfl gw_X11_150 dsc_Jx4a65c_get_915e3 hlo15 rfl rfl rfl rfl hl.1 (Nat.le_of_ble_eq_true rfl) ⟨Nat.le_of_ble_eq_true rfl, Nat.le_of_ble_eq_true rfl⟩ ⟨Nat.le_of_ble_eq_true rfl, Nat.le_of_ble_eq_true rfl⟩ dX11_mixClaims_54 (fun H locs Y => ?_)
              refine h_cast X Y (hCl i (by omega)).1 rfl rfl kcl_X11_181 dX11_mixClaims_57 ?_
              refine lv_astore (lv' := [(6, .ref (sA S (1000 + 10 * i))), (0, .ref (sA S 0)), (1, .long z1), (3, .long (mxF (mxF z1 (fCl S (hNow h)) i) (fQc S i) 8)), (5, .int (nI i))]) hx hb dX11_mixClaims_60 hl (by decide) rfl (fun ls hl => ?_)
              refine lv_iconst (v := 0) hx hb dX11_mixClaims_62 (by decide) ?_
              refine lv_istore (lv' := [(7, .int 0), (6, .ref (sA S (1000 + 10 * i))), (0, .ref (sA S 0)), (1, .long z1), (3, .long (mxF (mxF z1 (fCl S (hNow h)) i) (fQc S i) 8)), (5, .int (nI i))]) hx hb dX11_mixClaims_63 hl (by decide) rfl (fun ls hl => ?_)
              have hy := hyn i (by omega)
              have loop3 : ∀ (d b : Nat), b + d = (hNow h - clY (sC S i) + 1) + 1 → b ≤ (hNow h - clY (sC S i) + 1) → ∀ (H : Heap) (locs : List Loc) (ls : Array Slot), hHS G M s H locs → lv_has ls 8 [(0, .ref (sA S 0)), (1, .long z1), (3, .long (mxF (mxF (mxF z1 (fCl S (hNow h)) i) (fQc S i) 8) (fKn S (hNow h) i) b)), (5, .int (nI i)), (6, .ref (sA S (1000 + 10 * i))), (7, .int (nI b))] → W p l e (hRm 9 0 0) s m args below meth c H locs 0 0 (MQ below (hQ G (hRd M (.long (mxF z1 (fCl S (hNow h)) (sM S))))) args s 0 0 (hA G)) (F0 m 65 ls []) := by
                intro d
                induction d with
                | zero => intro b h1 h2; exact absurd h1 (by omega)
                | succ d ih3 =>
                  intro b h1 h2 H locs ls Y hl
                  refine lv_iload hx hb dX11_mixClaims_65 (lv_at hl 5 rfl) ?_
                  refine lv_aload_n hx hb dX11_mixClaims_67 rfl (lv_at hl 0 rfl) ?_
                  refine h_get X Y (k := 12) (v := .int (nI (hNow h))) ho0 rfl hin_X11 (by decide) kfl_X11_78 rfl dX11_mixClaims_68 ?_
                  refine lv_aload hx hb dX11_mixClaims_71 (lv_at hl 4 rfl) ?_
                  refine h_get X Y (k := 0) (v := .int (nI (clY (sC S i)))) (hCl i (by omega)).1 rfl hin_X3 (by decide) kfl_X11_224 rfl dX11_mixClaims_73 ?_
                  refine lv_isub hx hb dX11_mixClaims_76 ?_
                  refine h_ev (y := nI (hNow h - clY (sC S i))) (pk_sub hy) ?_
                  refine lv_icmp_gt (tgt := 124) hx hb dX11_mixClaims_77 (by decide) (fun c77 => ?_) (fun c77 => ?_)
                  · have c77 : (hNow h - clY (sC S i)) < b := (nI_ltI (a := (hNow h - clY (sC S i))) (b := b) (by omega) (by omega)).mp c77
                    have hk9 : b = (hNow h - clY (sC S i) + 1) := by omega
                    subst hk9
                    refine lv_iinc (v := nI (i + 1)) (lv' := [(5, .int (nI (i + 1))), (0, .ref (sA S 0)), (1, .long z1), (3, .long (mxF (mxF (mxF z1 (fCl S (hNow h)) i) (fQc S i) 8) (fKn S (hNow h) i) (hNow h - clY (sC S i) + 1))), (6, .ref (sA S (1000 + 10 * i))), (7, .int (nI (hNow h - clY (sC S i) + 1)))]) hx hb dX11_mixClaims_124 hl (k := 3) rfl (nI_1 i) (by decide) rfl (fun ls hl => ?_)
                    refine lv_goto (tgt := 5) hx hb dX11_mixClaims_127 (by decide) ?_
                    exact ih (i + 1) (by omega) (by omega) _ _ _ Y (lv_sub hl [1, 2, 3, 0] rfl)
                  · have c77 : ¬ (hNow h - clY (sC S i)) < b := fun z9 => c77 ((nI_ltI (a := (hNow h - clY (sC S i))) (b := b) (by omega) (by omega)).mpr z9)
                    refine lv_aload_n hx hb dX11_mixClaims_80 rfl (lv_at hl 0 rfl) ?_
                    refine lv_lload_n hx hb dX11_mixClaims_81 rfl (lv_at hl 2 rfl) ?_
                    refine lv_aload hx hb dX11_mixClaims_82 (lv_at hl 4 rfl) ?_
                    refine lv_iload hx hb dX11_mixClaims_84 (lv_at hl 5 rfl) ?_
                    refine lv_aload_n hx hb dX11_mixClaims_86 rfl (lv_at hl 0 rfl) ?_
                    refine h_get X Y (k := 12) (v := .int (nI (hNow h))) ho0 rfl hin_X11 (by decide) kfl_X11_78 rfl dX11_mixClaims_87 ?_
                    refine lv_iconst (v := 1) hx hb dX11_mixClaims_90 (by decide) ?_
                    refine h_callVr (rest := [.long (mxF (mxF (mxF z1 (fCl S (hNow h)) i) (fQc S i) 8) (fKn S (hNow h) i) b), .ref (sA S 0)]) X Y (c_known l G M (sA S (1000 + 10 * i)) (1000 + 10 * i) (sC S i) (hCl i (by omega)) b (hNow h) true (by omega) hnow hy) rfl rfl gw_X11_229 dsc_X3_known (hCl i (by omega)).1 rfl rfl rfl rfl hl.1 (Nat.le_of_ble_eq_true rfl) ⟨Nat.le_of_ble_eq_true rfl, Nat.le_of_ble_eq_true rfl⟩ ⟨Nat.le_of_ble_eq_true rfl, Nat.le_of_ble_eq_true rfl⟩ dX11_mixClaims_91 (fun H locs Y => ?_)
                    refine lv_i2l (v := (clKnown (sC S i) b (hNow h) true).toInt64) hx hb dX11_mixClaims_94 rfl ?_
                    refine h_callVr (rest := []) X Y (c_mix l G M (sA S 0) (mxF (mxF (mxF z1 (fCl S (hNow h)) i) (fQc S i) 8) (fKn S (hNow h) i) b) ((clKnown (sC S i) b (hNow h) true).toInt64)) rfl rfl gw_X11_323 dsc_X11_mix ho0 rfl rfl rfl rfl hl.1 (Nat.le_of_ble_eq_true rfl) ⟨Nat.le_of_ble_eq_true rfl, Nat.le_of_ble_eq_true rfl⟩ ⟨Nat.le_of_ble_eq_true rfl, Nat.le_of_ble_eq_true rfl⟩ dX11_mixClaims_95 (fun H locs Y => ?_)
                    refine lv_lstore_n (lv' := [(3, .long ((mxF (mxF (mxF z1 (fCl S (hNow h)) i) (fQc S i) 8) (fKn S (hNow h) i) b) * 31 + ((clKnown (sC S i) b (hNow h) true).toInt64))), (0, .ref (sA S 0)), (1, .long z1), (5, .int (nI i)), (6, .ref (sA S (1000 + 10 * i))), (7, .int (nI b))]) hx hb dX11_mixClaims_98 rfl hl (by decide) rfl (fun ls hl => ?_)
                    refine lv_aload_n hx hb dX11_mixClaims_99 rfl (lv_at hl 1 rfl) ?_
                    refine lv_lload_n hx hb dX11_mixClaims_100 rfl (lv_at hl 0 rfl) ?_
                    refine lv_aload hx hb dX11_mixClaims_101 (lv_at hl 4 rfl) ?_
                    refine lv_iload hx hb dX11_mixClaims_103 (lv_at hl 5 rfl) ?_
                    refine lv_aload_n hx hb dX11_mixClaims_105 rfl (lv_at hl 1 rfl) ?_
                    refine h_get X Y (k := 12) (v := .int (nI (hNow h))) ho0 rfl hin_X11 (by decide) kfl_X11_78 rfl dX11_mixClaims_106 ?_
                    refine lv_iconst (v := 0) hx hb dX11_mixClaims_109 (by decide) ?_
                    refine h_callVr (rest := [.long ((mxF (mxF (mxF z1 (fCl S (hNow h)) i) (fQc S i) 8) (fKn S (hNow h) i) b) * 31 + ((clKnown (sC S i) b (hNow h) true).toInt64)), .ref (sA S 0)]) X Y (c_known l G M (sA S (1000 + 10 * i)) (1000 + 10 * i) (sC S i) (hCl i (by omega)) b (hNow h) false (by omega) hnow hy) rfl rfl gw_X11_229 dsc_X3_known (hCl i (by omega)).1 rfl rfl rfl rfl hl.1 (Nat.le_of_ble_eq_true rfl) ⟨Nat.le_of_ble_eq_true rfl, Nat.le_of_ble_eq_true rfl⟩ ⟨Nat.le_of_ble_eq_true rfl, Nat.le_of_ble_eq_true rfl⟩ dX11_mixClaims_110 (fun H locs Y => ?_)
                    refine lv_i2l (v := (clKnown (sC S i) b (hNow h) false).toInt64) hx hb dX11_mixClaims_113 rfl ?_
                    refine h_callVr (rest := []) X Y (c_mix l G M (sA S 0) ((mxF (mxF (mxF z1 (fCl S (hNow h)) i) (fQc S i) 8) (fKn S (hNow h) i) b) * 31 + ((clKnown (sC S i) b (hNow h) true).toInt64)) ((clKnown (sC S i) b (hNow h) false).toInt64)) rfl rfl gw_X11_323 dsc_X11_mix ho0 rfl rfl rfl rfl hl.1 (Nat.le_of_ble_eq_true rfl) ⟨Nat.le_of_ble_eq_true rfl, Nat.le_of_ble_eq_true rfl⟩ ⟨Nat.le_of_ble_eq_true rfl, Nat.le_of_ble_eq_true rfl⟩ dX11_mixClaims_114 (fun H locs Y => ?_)
                    refine lv_lstore_n (lv' := [(3, .long (((mxF (mxF (mxF z1 (fCl S (hNow h)) i) (fQc S i) 8) (fKn S (hNow h) i) b) * 31 + ((clKnown (sC S i) b (hNow h) true).toInt64)) * 31 + ((clKnown (sC S i) b (hNow h) false).toInt64))), (0, .ref (sA S 0)), (1, .long z1), (5, .int (nI i)), (6, .ref (sA S (1000 + 10 * i))), (7, .int (nI b))]) hx hb dX11_mixClaims_117 rfl hl (by decide) rfl (fun ls hl => ?_)
                    refine lv_iinc (v := nI (b + 1)) (lv' := [(7, .int (nI (b + 1))), (3, .long (((mxF (mxF (mxF z1 (fCl S (hNow h)) i) (fQc S i) 8) (fKn S (hNow h) i) b) * 31 + ((clKnown (sC S i) b (hNow h) true).toInt64)) * 31 + ((clKnown (sC S i) b (hNow h) false).toInt64))), (0, .ref (sA S 0)), (1, .long z1), (5, .int (nI i)), (6, .ref (sA S (1000 + 10 * i)))]) hx hb dX11_mixClaims_118 hl (k := 5) rfl (nI_1 b) (by decide) rfl (fun ls hl => ?_)
                    refine lv_goto (tgt := 65) hx hb dX11_mixClaims_121 (by decide) ?_
                    exact ih3 (b + 1) (by omega) (by omega) _ _ _ Y (lv_sub hl [2, 3, 1, 4, 5, 0] rfl)
              exact loop3 ((hNow h - clY (sC S i) + 1) + 1) 0 (by omega) (by omega) _ _ _ Y (lv_sub hl [2, 3, 4, 5, 1, 0] rfl)
            · have c24 : ¬ 7 < x := fun z9 => c24 ((nI_ltI (a := 7) (b := x) (by omega) (by omega)).mpr z9)
              refine lv_aload_n hx hb dX11_mixClaims_27 rfl (lv_at hl 0 rfl) ?_
              refine lv_lload_n hx hb dX11_mixClaims_28 rfl (lv_at hl 2 rfl) ?_
              refine lv_aload_n hx hb dX11_mixClaims_29 rfl (lv_at hl 0 rfl) ?_
              refine lv_iload hx hb dX11_mixClaims_30 (lv_at hl 3 rfl) ?_
              refine lv_iload hx hb dX11_mixClaims_32 (lv_at hl 4 rfl) ?_
              refine h_callVr (rest := [.long (mxF (mxF z1 (fCl S (hNow h)) i) (fQc S i) x), .ref (sA S 0)]) X Y (c_claimOf l G M S h hQv i x (by omega) (by omega) (fun _ => h6) (fun _ => h7)) rfl rfl gw_X11_221 dsc_X11_claimOf ho0 rfl rfl rfl rfl hl.1 (Nat.le_of_ble_eq_true rfl) ⟨Nat.le_of_ble_eq_true rfl, Nat.le_of_ble_eq_true rfl⟩ ⟨Nat.le_of_ble_eq_true rfl, Nat.le_of_ble_eq_true rfl⟩ dX11_mixClaims_34 (fun H locs Y => ?_)
              refine lv_i2l (v := (qClaim S i x).toInt64) hx hb dX11_mixClaims_37 rfl ?_
              refine h_callVr (rest := []) X Y (c_mix l G M (sA S 0) (mxF (mxF z1 (fCl S (hNow h)) i) (fQc S i) x) ((qClaim S i x).toInt64)) rfl rfl gw_X11_323 dsc_X11_mix ho0 rfl rfl rfl rfl hl.1 (Nat.le_of_ble_eq_true rfl) ⟨Nat.le_of_ble_eq_true rfl, Nat.le_of_ble_eq_true rfl⟩ ⟨Nat.le_of_ble_eq_true rfl, Nat.le_of_ble_eq_true rfl⟩ dX11_mixClaims_38 (fun H locs Y => ?_)
              refine lv_lstore_n (lv' := [(3, .long ((mxF (mxF z1 (fCl S (hNow h)) i) (fQc S i) x) * 31 + ((qClaim S i x).toInt64))), (0, .ref (sA S 0)), (1, .long z1), (5, .int (nI i)), (6, .int (nI x))]) hx hb dX11_mixClaims_41 rfl hl (by decide) rfl (fun ls hl => ?_)
              refine lv_iinc (v := nI (x + 1)) (lv' := [(6, .int (nI (x + 1))), (3, .long ((mxF (mxF z1 (fCl S (hNow h)) i) (fQc S i) x) * 31 + ((qClaim S i x).toInt64))), (0, .ref (sA S 0)), (1, .long z1), (5, .int (nI i))]) hx hb dX11_mixClaims_42 hl (k := 4) rfl (nI_1 x) (by decide) rfl (fun ls hl => ?_)
              refine lv_goto (tgt := 20) hx hb dX11_mixClaims_45 (by decide) ?_
              exact ih2 (x + 1) (by omega) (by omega) _ _ _ Y (lv_sub hl [2, 3, 1, 4, 0] rfl)
        exact loop2 (8 + 1) 0 (by omega) (by omega) _ _ _ Y (lv_sub hl [1, 2, 3, 4, 0] rfl)
  exact loop ((sM S) + 1) 0 (by omega) (by omega) _ _ _ Y (lv_sub hl [2, 3, 1, 0] rfl)
theorem dX11_mixYears_0 : decode cX11_mixYears 0 = .ok (.lload_n 1, 1) := by decide +kernel
theorem dX11_mixYears_1 : decode cX11_mixYears 1 = .ok (.lstore_n 3, 1) := by decide +kernel
theorem dX11_mixYears_2 : decode cX11_mixYears 2 = .ok (.iconst 0, 1) := by decide +kernel
theorem dX11_mixYears_3 : decode cX11_mixYears 3 = .ok (.istore 5, 2) := by decide +kernel
theorem dX11_mixYears_5 : decode cX11_mixYears 5 = .ok (.iload 5, 2) := by decide +kernel
theorem dX11_mixYears_7 : decode cX11_mixYears 7 = .ok (.aload_n 0, 1) := by decide +kernel
theorem dX11_mixYears_8 : decode cX11_mixYears 8 = .ok (.getfield 78, 3) := by decide +kernel
theorem dX11_mixYears_11 : decode cX11_mixYears 11 = .ok (.if_icmp .gt 67, 3) := by decide +kernel
theorem dX11_mixYears_14 : decode cX11_mixYears 14 = .ok (.aload_n 0, 1) := by decide +kernel
theorem dX11_mixYears_15 : decode cX11_mixYears 15 = .ok (.lload_n 3, 1) := by decide +kernel
theorem dX11_mixYears_16 : decode cX11_mixYears 16 = .ok (.aload_n 0, 1) := by decide +kernel
theorem dX11_mixYears_17 : decode cX11_mixYears 17 = .ok (.getfield 71, 3) := by decide +kernel
theorem dX11_mixYears_20 : decode cX11_mixYears 20 = .ok (.iload 5, 2) := by decide +kernel
theorem dX11_mixYears_22 : decode cX11_mixYears 22 = .ok (.iaload, 1) := by decide +kernel
theorem dX11_mixYears_23 : decode cX11_mixYears 23 = .ok (.i2l, 1) := by decide +kernel
theorem dX11_mixYears_24 : decode cX11_mixYears 24 = .ok (.invokevirtual 323, 3) := by decide +kernel
theorem dX11_mixYears_27 : decode cX11_mixYears 27 = .ok (.lstore_n 3, 1) := by decide +kernel
theorem dX11_mixYears_28 : decode cX11_mixYears 28 = .ok (.aload_n 0, 1) := by decide +kernel
theorem dX11_mixYears_29 : decode cX11_mixYears 29 = .ok (.lload_n 3, 1) := by decide +kernel
theorem dX11_mixYears_30 : decode cX11_mixYears 30 = .ok (.aload_n 0, 1) := by decide +kernel
theorem dX11_mixYears_31 : decode cX11_mixYears 31 = .ok (.getfield 75, 3) := by decide +kernel
theorem dX11_mixYears_34 : decode cX11_mixYears 34 = .ok (.iload 5, 2) := by decide +kernel
theorem dX11_mixYears_36 : decode cX11_mixYears 36 = .ok (.iaload, 1) := by decide +kernel
theorem dX11_mixYears_37 : decode cX11_mixYears 37 = .ok (.i2l, 1) := by decide +kernel
theorem dX11_mixYears_38 : decode cX11_mixYears 38 = .ok (.invokevirtual 323, 3) := by decide +kernel
theorem dX11_mixYears_41 : decode cX11_mixYears 41 = .ok (.lstore_n 3, 1) := by decide +kernel
theorem dX11_mixYears_42 : decode cX11_mixYears 42 = .ok (.iconst 0, 1) := by decide +kernel
theorem dX11_mixYears_43 : decode cX11_mixYears 43 = .ok (.istore 6, 2) := by decide +kernel
theorem dX11_mixYears_45 : decode cX11_mixYears 45 = .ok (.iload 6, 2) := by decide +kernel
theorem dX11_mixYears_47 : decode cX11_mixYears 47 = .ok (.iconst 3, 1) := by decide +kernel
theorem dX11_mixYears_48 : decode cX11_mixYears 48 = .ok (.if_icmp .ge 24, 3) := by decide +kernel
theorem dX11_mixYears_51 : decode cX11_mixYears 51 = .ok (.aload_n 0, 1) := by decide +kernel
theorem dX11_mixYears_52 : decode cX11_mixYears 52 = .ok (.lload_n 3, 1) := by decide +kernel
theorem dX11_mixYears_53 : decode cX11_mixYears 53 = .ok (.aload_n 0, 1) := by decide +kernel
theorem dX11_mixYears_54 : decode cX11_mixYears 54 = .ok (.iload 6, 2) := by decide +kernel
theorem dX11_mixYears_56 : decode cX11_mixYears 56 = .ok (.iload 5, 2) := by decide +kernel
theorem dX11_mixYears_58 : decode cX11_mixYears 58 = .ok (.invokevirtual 284, 3) := by decide +kernel
theorem dX11_mixYears_61 : decode cX11_mixYears 61 = .ok (.i2l, 1) := by decide +kernel
theorem dX11_mixYears_62 : decode cX11_mixYears 62 = .ok (.invokevirtual 323, 3) := by decide +kernel
theorem dX11_mixYears_65 : decode cX11_mixYears 65 = .ok (.lstore_n 3, 1) := by decide +kernel
theorem dX11_mixYears_66 : decode cX11_mixYears 66 = .ok (.iinc 6 1, 3) := by decide +kernel
theorem dX11_mixYears_69 : decode cX11_mixYears 69 = .ok (.goto (-24), 3) := by decide +kernel
theorem dX11_mixYears_72 : decode cX11_mixYears 72 = .ok (.iinc 5 1, 3) := by decide +kernel
theorem dX11_mixYears_75 : decode cX11_mixYears 75 = .ok (.goto (-70), 3) := by decide +kernel
theorem dX11_mixYears_78 : decode cX11_mixYears 78 = .ok (.lload_n 3, 1) := by decide +kernel
theorem dX11_mixYears_79 : decode cX11_mixYears 79 = .ok (.lreturn, 1) := by decide +kernel
set_option maxHeartbeats 400000 in
set_option maxRecDepth 100000 in
theorem c_mixYears (l : Launch) (G : hG) (M : hM) (S : hSy) (h : hHo) (hQv : QV G M S h) (hT0 : TrIs G M S (hNow h) 0) (hT1 : TrIs G M S (hNow h) 1) (z1 : Int64) : hCT l G yX11_mixYears cX11_mixYears 7 (Option.some FieldType.long) (hRm 7 0 0) M [.ref (sA S 0), .long z1] (hRd M (.long (mxF z1 (fYr S h) (hNow h + 1)))) := by
  refine hCT.of (own := RX11) (nm := "mixYears") (by decide) rfl rfl (Nat.le_of_ble_eq_true rfl) ?_
  intro p e s m args below meth c ls X Y hl
  have hx := X.1
  have hb := X.2.1
  have hl : lv_has ls 7 [(0, .ref (sA S 0)), (1, .long z1)] := hl
  obtain ⟨hS, hG1, hHo, hCe, hTr, hnow, hyn⟩ := id hQv
  obtain ⟨hN8, hM40, hLG, hCY⟩ := id hG1
  obtain ⟨hl13, he14, hl15, he16, hLa, hCl⟩ := id hS
  obtain ⟨mc13, hlo13⟩ := id hl13
  obtain ⟨mc15, hlo15⟩ := id hl15
  obtain ⟨ho0, ho1, ho17, ho18, ft19, hft19, ho19⟩ := id hHo
  refine lv_lload_n hx hb dX11_mixYears_0 rfl (lv_at hl 1 rfl) ?_
  refine lv_lstore_n (lv' := [(3, .long z1), (0, .ref (sA S 0)), (1, .long z1)]) hx hb dX11_mixYears_1 rfl hl (by decide) rfl (fun ls hl => ?_)
  refine lv_iconst (v := 0) hx hb dX11_mixYears_2 (by decide) ?_
  refine lv_istore (lv' := [(5, .int 0), (3, .long z1), (0, .ref (sA S 0)), (1, .long z1)]) hx hb dX11_mixYears_3 hl (by decide) rfl (fun ls hl => ?_)
  have loop : ∀ (d y : Nat), y + d = (hNow h + 1) + 1 → y ≤ (hNow h + 1) → ∀ (H : Heap) (locs : List Loc) (ls : Array Slot), hHS G M s H locs → lv_has ls 7 [(0, .ref (sA S 0)), (1, .long z1), (3, .long (mxF z1 (fYr S h) y)), (5, .int (nI y))] → W p l e (hRm 7 0 0) s m args below meth c H locs 0 0 (MQ below (hQ G (hRd M (.long (mxF z1 (fYr S h) (hNow h + 1))))) args s 0 0 (hA G)) (F0 m 5 ls []) := by
    intro d
    induction d with
    | zero => intro y h1 h2; exact absurd h1 (by omega)
    | succ d ih =>
      intro y h1 h2 H locs ls Y hl
      refine lv_iload hx hb dX11_mixYears_5 (lv_at hl 3 rfl) ?_
      refine lv_aload_n hx hb dX11_mixYears_7 rfl (lv_at hl 0 rfl) ?_
      refine h_get X Y (k := 12) (v := .int (nI (hNow h))) ho0 rfl hin_X11 (by decide) kfl_X11_78 rfl dX11_mixYears_8 ?_
      refine lv_icmp_gt (tgt := 78) hx hb dX11_mixYears_11 (by decide) (fun c11 => ?_) (fun c11 => ?_)
      · have c11 : (hNow h) < y := (nI_ltI (a := (hNow h)) (b := y) (by omega) (by omega)).mp c11
        have hk9 : y = (hNow h + 1) := by omega
        subst hk9
        refine lv_lload_n hx hb dX11_mixYears_78 rfl (lv_at hl 2 rfl) ?_
        exact h_lret X Y ⟨rfl, rfl⟩ (Nat.le_refl _) (Nat.le_refl _) dX11_mixYears_79
      · have c11 : ¬ (hNow h) < y := fun z9 => c11 ((nI_ltI (a := (hNow h)) (b := y) (by omega) (by omega)).mpr z9)
        refine lv_aload_n hx hb dX11_mixYears_14 rfl (lv_at hl 0 rfl) ?_
        refine lv_lload_n hx hb dX11_mixYears_15 rfl (lv_at hl 2 rfl) ?_
        refine lv_aload_n hx hb dX11_mixYears_16 rfl (lv_at hl 0 rfl) ?_
        refine h_get X Y (k := 10) (v := .ref (sA S 17)) ho0 rfl hin_X11 (by decide) kfl_X11_71 rfl dX11_mixYears_17 ?_
        refine lv_iload hx hb dX11_mixYears_20 (lv_at hl 3 rfl) ?_
        refine h_iald X Y (i := y) ho17 (by omega) (by decide) dX11_mixYears_22 ?_
        refine lv_i2l (v := ((hPr h) y).toInt64) hx hb dX11_mixYears_23 rfl ?_
        refine h_callVr (rest := []) X Y (c_mix l G M (sA S 0) (mxF z1 (fYr S h) y) (((hPr h) y).toInt64)) rfl rfl gw_X11_323 dsc_X11_mix ho0 rfl rfl rfl rfl hl.1 (Nat.le_of_ble_eq_true rfl) ⟨Nat.le_of_ble_eq_true rfl, Nat.le_of_ble_eq_true rfl⟩ ⟨Nat.le_of_ble_eq_true rfl, Nat.le_of_ble_eq_true rfl⟩ dX11_mixYears_24 (fun H locs Y => ?_)
        refine lv_lstore_n (lv' := [(3, .long ((mxF z1 (fYr S h) y) * 31 + (((hPr h) y).toInt64))), (0, .ref (sA S 0)), (1, .long z1), (5, .int (nI y))]) hx hb dX11_mixYears_27 rfl hl (by decide) rfl (fun ls hl => ?_)
        refine lv_aload_n hx hb dX11_mixYears_28 rfl (lv_at hl 1 rfl) ?_
        refine lv_lload_n hx hb dX11_mixYears_29 rfl (lv_at hl 0 rfl) ?_
        refine lv_aload_n hx hb dX11_mixYears_30 rfl (lv_at hl 1 rfl) ?_
        refine h_get X Y (k := 11) (v := .ref (sA S 18)) ho0 rfl hin_X11 (by decide) kfl_X11_75 rfl dX11_mixYears_31 ?_
        refine lv_iload hx hb dX11_mixYears_34 (lv_at hl 3 rfl) ?_
        refine h_iald X Y (i := y) ho18 (by omega) (by decide) dX11_mixYears_36 ?_
        refine lv_i2l (v := ((hEx h) y).toInt64) hx hb dX11_mixYears_37 rfl ?_
        refine h_callVr (rest := []) X Y (c_mix l G M (sA S 0) ((mxF z1 (fYr S h) y) * 31 + (((hPr h) y).toInt64)) (((hEx h) y).toInt64)) rfl rfl gw_X11_323 dsc_X11_mix ho0 rfl rfl rfl rfl hl.1 (Nat.le_of_ble_eq_true rfl) ⟨Nat.le_of_ble_eq_true rfl, Nat.le_of_ble_eq_true rfl⟩ ⟨Nat.le_of_ble_eq_true rfl, Nat.le_of_ble_eq_true rfl⟩ dX11_mixYears_38 (fun H locs Y => ?_)
        refine lv_lstore_n (lv' := [(3, .long (((mxF z1 (fYr S h) y) * 31 + (((hPr h) y).toInt64)) * 31 + (((hEx h) y).toInt64))), (0, .ref (sA S 0)), (1, .long z1), (5, .int (nI y))]) hx hb dX11_mixYears_41 rfl hl (by decide) rfl (fun ls hl => ?_)
        refine lv_iconst (v := 0) hx hb dX11_mixYears_42 (by decide) ?_
        refine lv_istore (lv' := [(6, .int 0), (3, .long (((mxF z1 (fYr S h) y) * 31 + (((hPr h) y).toInt64)) * 31 + (((hEx h) y).toInt64))), (0, .ref (sA S 0)), (1, .long z1), (5, .int (nI y))]) hx hb dX11_mixYears_43 hl (by decide) rfl (fun ls hl => ?_)
        have loop2 : ∀ (d x : Nat), x + d = 3 + 1 → x ≤ 3 → ∀ (H : Heap) (locs : List Loc) (ls : Array Slot), hHS G M s H locs → lv_has ls 7 [(0, .ref (sA S 0)), (1, .long z1), (3, .long (mxF (mx (mx (mxF z1 (fYr S h) y) (hPr h y)) (hEx h y)) (fRe S h y) x)), (5, .int (nI y)), (6, .int (nI x))] → W p l e (hRm 7 0 0) s m args below meth c H locs 0 0 (MQ below (hQ G (hRd M (.long (mxF z1 (fYr S h) (hNow h + 1))))) args s 0 0 (hA G)) (F0 m 45 ls []) := by
          intro d
          induction d with
          | zero => intro x h1 h2; exact absurd h1 (by omega)
          | succ d ih2 =>
            intro x h1 h2 H locs ls Y hl
            refine lv_iload hx hb dX11_mixYears_45 (lv_at hl 4 rfl) ?_
            refine lv_iconst (v := 3) hx hb dX11_mixYears_47 (by decide) ?_
            refine lv_icmp_ge (tgt := 72) hx hb dX11_mixYears_48 (by decide) (fun c48 => ?_) (fun c48 => ?_)
            · have c48 : 3 ≤ x := (nI_leI (a := 3) (b := x) (by omega) (by omega)).mp c48
              have hk9 : x = 3 := by omega
              subst hk9
              refine lv_iinc (v := nI (y + 1)) (lv' := [(5, .int (nI (y + 1))), (0, .ref (sA S 0)), (1, .long z1), (3, .long (mxF (mx (mx (mxF z1 (fYr S h) y) (hPr h y)) (hEx h y)) (fRe S h y) 3)), (6, .int (nI 3))]) hx hb dX11_mixYears_72 hl (k := 3) rfl (nI_1 y) (by decide) rfl (fun ls hl => ?_)
              refine lv_goto (tgt := 5) hx hb dX11_mixYears_75 (by decide) ?_
              exact ih (y + 1) (by omega) (by omega) _ _ _ Y (lv_sub hl [1, 2, 3, 0] rfl)
            · have c48 : ¬ 3 ≤ x := fun z9 => c48 ((nI_leI (a := 3) (b := x) (by omega) (by omega)).mpr z9)
              refine lv_aload_n hx hb dX11_mixYears_51 rfl (lv_at hl 0 rfl) ?_
              refine lv_lload_n hx hb dX11_mixYears_52 rfl (lv_at hl 2 rfl) ?_
              refine lv_aload_n hx hb dX11_mixYears_53 rfl (lv_at hl 0 rfl) ?_
              refine lv_iload hx hb dX11_mixYears_54 (lv_at hl 4 rfl) ?_
              refine lv_iload hx hb dX11_mixYears_56 (lv_at hl 3 rfl) ?_
              refine h_callVr (rest := [.long (mxF (mx (mx (mxF z1 (fYr S h) y) (hPr h y)) (hEx h y)) (fRe S h y) x), .ref (sA S 0)]) X Y (c_reserveOf l G M S h hQv x y (by omega) (by omega) hT0 hT1) rfl rfl gw_X11_284 dsc_X11_reserveOf ho0 rfl rfl rfl rfl hl.1 (Nat.le_of_ble_eq_true rfl) ⟨Nat.le_of_ble_eq_true rfl, Nat.le_of_ble_eq_true rfl⟩ ⟨Nat.le_of_ble_eq_true rfl, Nat.le_of_ble_eq_true rfl⟩ dX11_mixYears_58 (fun H locs Y => ?_)
              refine lv_i2l (v := (qRes S h x y).toInt64) hx hb dX11_mixYears_61 rfl ?_
              refine h_callVr (rest := []) X Y (c_mix l G M (sA S 0) (mxF (mx (mx (mxF z1 (fYr S h) y) (hPr h y)) (hEx h y)) (fRe S h y) x) ((qRes S h x y).toInt64)) rfl rfl gw_X11_323 dsc_X11_mix ho0 rfl rfl rfl rfl hl.1 (Nat.le_of_ble_eq_true rfl) ⟨Nat.le_of_ble_eq_true rfl, Nat.le_of_ble_eq_true rfl⟩ ⟨Nat.le_of_ble_eq_true rfl, Nat.le_of_ble_eq_true rfl⟩ dX11_mixYears_62 (fun H locs Y => ?_)
              refine lv_lstore_n (lv' := [(3, .long ((mxF (mx (mx (mxF z1 (fYr S h) y) (hPr h y)) (hEx h y)) (fRe S h y) x) * 31 + ((qRes S h x y).toInt64))), (0, .ref (sA S 0)), (1, .long z1), (5, .int (nI y)), (6, .int (nI x))]) hx hb dX11_mixYears_65 rfl hl (by decide) rfl (fun ls hl => ?_)
              refine lv_iinc (v := nI (x + 1)) (lv' := [(6, .int (nI (x + 1))), (3, .long ((mxF (mx (mx (mxF z1 (fYr S h) y) (hPr h y)) (hEx h y)) (fRe S h y) x) * 31 + ((qRes S h x y).toInt64))), (0, .ref (sA S 0)), (1, .long z1), (5, .int (nI y))]) hx hb dX11_mixYears_66 hl (k := 4) rfl (nI_1 x) (by decide) rfl (fun ls hl => ?_)
              refine lv_goto (tgt := 45) hx hb dX11_mixYears_69 (by decide) ?_
              exact ih2 (x + 1) (by omega) (by omega) _ _ _ Y (lv_sub hl [2, 3, 1, 4, 0] rfl)
        exact loop2 (3 + 1) 0 (by omega) (by omega) _ _ _ Y (lv_sub hl [2, 3, 1, 4, 0] rfl)
  exact loop ((hNow h + 1) + 1) 0 (by omega) (by omega) _ _ _ Y (lv_sub hl [2, 3, 1, 0] rfl)
theorem gw_X11_268 : GoodIn hGW (wsV RX11 268 RX10 yX10_factorAt (Cond.code yX10_factorAt cX10_factorAt 7 (Option.some FieldType.int) :: hGW)) := hgi4 kml_X11_268 kin_X10_factorAt kse_X10_X10_factorAt_X10_factorAt kini_X10 kco_X10_factorAt
theorem dX11_mixFactors_0 : decode cX11_mixFactors 0 = .ok (.lload_n 1, 1) := by decide +kernel
theorem dX11_mixFactors_1 : decode cX11_mixFactors 1 = .ok (.lstore_n 3, 1) := by decide +kernel
theorem dX11_mixFactors_2 : decode cX11_mixFactors 2 = .ok (.iconst 0, 1) := by decide +kernel
theorem dX11_mixFactors_3 : decode cX11_mixFactors 3 = .ok (.istore 5, 2) := by decide +kernel
theorem dX11_mixFactors_5 : decode cX11_mixFactors 5 = .ok (.iload 5, 2) := by decide +kernel
theorem dX11_mixFactors_7 : decode cX11_mixFactors 7 = .ok (.iconst 4, 1) := by decide +kernel
theorem dX11_mixFactors_8 : decode cX11_mixFactors 8 = .ok (.if_icmp .ge 44, 3) := by decide +kernel
theorem dX11_mixFactors_11 : decode cX11_mixFactors 11 = .ok (.iconst 0, 1) := by decide +kernel
theorem dX11_mixFactors_12 : decode cX11_mixFactors 12 = .ok (.istore 6, 2) := by decide +kernel
theorem dX11_mixFactors_14 : decode cX11_mixFactors 14 = .ok (.iload 6, 2) := by decide +kernel
theorem dX11_mixFactors_16 : decode cX11_mixFactors 16 = .ok (.bipush 8, 2) := by decide +kernel
theorem dX11_mixFactors_18 : decode cX11_mixFactors 18 = .ok (.if_icmp .gt 28, 3) := by decide +kernel
theorem dX11_mixFactors_21 : decode cX11_mixFactors 21 = .ok (.aload_n 0, 1) := by decide +kernel
theorem dX11_mixFactors_22 : decode cX11_mixFactors 22 = .ok (.lload_n 3, 1) := by decide +kernel
theorem dX11_mixFactors_23 : decode cX11_mixFactors 23 = .ok (.aload_n 0, 1) := by decide +kernel
theorem dX11_mixFactors_24 : decode cX11_mixFactors 24 = .ok (.getfield 67, 3) := by decide +kernel
theorem dX11_mixFactors_27 : decode cX11_mixFactors 27 = .ok (.iload 5, 2) := by decide +kernel
theorem dX11_mixFactors_29 : decode cX11_mixFactors 29 = .ok (.aaload, 1) := by decide +kernel
theorem dX11_mixFactors_30 : decode cX11_mixFactors 30 = .ok (.iload 6, 2) := by decide +kernel
theorem dX11_mixFactors_32 : decode cX11_mixFactors 32 = .ok (.invokevirtual 268, 3) := by decide +kernel
theorem dX11_mixFactors_35 : decode cX11_mixFactors 35 = .ok (.i2l, 1) := by decide +kernel
theorem dX11_mixFactors_36 : decode cX11_mixFactors 36 = .ok (.invokevirtual 323, 3) := by decide +kernel
theorem dX11_mixFactors_39 : decode cX11_mixFactors 39 = .ok (.lstore_n 3, 1) := by decide +kernel
theorem dX11_mixFactors_40 : decode cX11_mixFactors 40 = .ok (.iinc 6 1, 3) := by decide +kernel
theorem dX11_mixFactors_43 : decode cX11_mixFactors 43 = .ok (.goto (-29), 3) := by decide +kernel
theorem dX11_mixFactors_46 : decode cX11_mixFactors 46 = .ok (.iinc 5 1, 3) := by decide +kernel
theorem dX11_mixFactors_49 : decode cX11_mixFactors 49 = .ok (.goto (-44), 3) := by decide +kernel
theorem dX11_mixFactors_52 : decode cX11_mixFactors 52 = .ok (.lload_n 3, 1) := by decide +kernel
theorem dX11_mixFactors_53 : decode cX11_mixFactors 53 = .ok (.lreturn, 1) := by decide +kernel
set_option maxHeartbeats 400000 in
set_option maxRecDepth 100000 in
theorem c_mixFactors (l : Launch) (G : hG) (M : hM) (S : hSy) (h : hHo) (hQv : QV G M S h) (hTa : ∀ j, j < 4 → TrIs G M S (hNow h) j) (z1 : Int64) : hCT l G yX11_mixFactors cX11_mixFactors 7 (Option.some FieldType.long) (hRm 7 0 0) M [.ref (sA S 0), .long z1] (hRd M (.long (mxF z1 (fFa S (hNow h)) 4))) := by
  refine hCT.of (own := RX11) (nm := "mixFactors") (by decide) rfl rfl (Nat.le_of_ble_eq_true rfl) ?_
  intro p e s m args below meth c ls X Y hl
  have hx := X.1
  have hb := X.2.1
  have hl : lv_has ls 7 [(0, .ref (sA S 0)), (1, .long z1)] := hl
  obtain ⟨hS, hG1, hHo, hCe, hTr, hnow, hyn⟩ := id hQv
  obtain ⟨hN8, hM40, hLG, hCY⟩ := id hG1
  obtain ⟨hl13, he14, hl15, he16, hLa, hCl⟩ := id hS
  obtain ⟨mc13, hlo13⟩ := id hl13
  obtain ⟨mc15, hlo15⟩ := id hl15
  obtain ⟨ho0, ho1, ho17, ho18, ft19, hft19, ho19⟩ := id hHo
  refine lv_lload_n hx hb dX11_mixFactors_0 rfl (lv_at hl 1 rfl) ?_
  refine lv_lstore_n (lv' := [(3, .long z1), (0, .ref (sA S 0)), (1, .long z1)]) hx hb dX11_mixFactors_1 rfl hl (by decide) rfl (fun ls hl => ?_)
  refine lv_iconst (v := 0) hx hb dX11_mixFactors_2 (by decide) ?_
  refine lv_istore (lv' := [(5, .int 0), (3, .long z1), (0, .ref (sA S 0)), (1, .long z1)]) hx hb dX11_mixFactors_3 hl (by decide) rfl (fun ls hl => ?_)
  have loop : ∀ (d k : Nat), k + d = 4 + 1 → k ≤ 4 → ∀ (H : Heap) (locs : List Loc) (ls : Array Slot), hHS G M s H locs → lv_has ls 7 [(0, .ref (sA S 0)), (1, .long z1), (3, .long (mxF z1 (fFa S (hNow h)) k)), (5, .int (nI k))] → W p l e (hRm 7 0 0) s m args below meth c H locs 0 0 (MQ below (hQ G (hRd M (.long (mxF z1 (fFa S (hNow h)) 4)))) args s 0 0 (hA G)) (F0 m 5 ls []) := by
    intro d
    induction d with
    | zero => intro k h1 h2; exact absurd h1 (by omega)
    | succ d ih =>
      intro k h1 h2 H locs ls Y hl
      refine lv_iload hx hb dX11_mixFactors_5 (lv_at hl 3 rfl) ?_
      refine lv_iconst (v := 4) hx hb dX11_mixFactors_7 (by decide) ?_
      refine lv_icmp_ge (tgt := 52) hx hb dX11_mixFactors_8 (by decide) (fun c8 => ?_) (fun c8 => ?_)
      · have c8 : 4 ≤ k := (nI_leI (a := 4) (b := k) (by omega) (by omega)).mp c8
        have hk9 : k = 4 := by omega
        subst hk9
        refine lv_lload_n hx hb dX11_mixFactors_52 rfl (lv_at hl 2 rfl) ?_
        exact h_lret X Y ⟨rfl, rfl⟩ (Nat.le_refl _) (Nat.le_refl _) dX11_mixFactors_53
      · have c8 : ¬ 4 ≤ k := fun z9 => c8 ((nI_leI (a := 4) (b := k) (by omega) (by omega)).mpr z9)
        refine lv_iconst (v := 0) hx hb dX11_mixFactors_11 (by decide) ?_
        refine lv_istore (lv' := [(6, .int 0), (0, .ref (sA S 0)), (1, .long z1), (3, .long (mxF z1 (fFa S (hNow h)) k)), (5, .int (nI k))]) hx hb dX11_mixFactors_12 hl (by decide) rfl (fun ls hl => ?_)
        obtain ⟨ce, hV, hce⟩ := id ((hTa k (by omega)))
        obtain ⟨t1, ⟨ft, hft, t2⟩, t3⟩ := id hV
        have loop2 : ∀ (d b : Nat), b + d = 9 + 1 → b ≤ 9 → ∀ (H : Heap) (locs : List Loc) (ls : Array Slot), hHS G M s H locs → lv_has ls 7 [(0, .ref (sA S 0)), (1, .long z1), (3, .long (mxF (mxF z1 (fFa S (hNow h)) k) (fFc S (hNow h) k) b)), (5, .int (nI k)), (6, .int (nI b))] → W p l e (hRm 7 0 0) s m args below meth c H locs 0 0 (MQ below (hQ G (hRd M (.long (mxF z1 (fFa S (hNow h)) 4)))) args s 0 0 (hA G)) (F0 m 14 ls []) := by
          intro d
          induction d with
          | zero => intro b h1 h2; exact absurd h1 (by omega)
          | succ d ih2 =>
            intro b h1 h2 H locs ls Y hl
            refine lv_iload hx hb dX11_mixFactors_14 (lv_at hl 4 rfl) ?_
            refine lv_bipush (v := 8) hx hb dX11_mixFactors_16 (by decide) ?_
            refine lv_icmp_gt (tgt := 46) hx hb dX11_mixFactors_18 (by decide) (fun c18 => ?_) (fun c18 => ?_)
            · have c18 : 8 < b := (nI_ltI (a := 8) (b := b) (by omega) (by omega)).mp c18
              have hk9 : b = 9 := by omega
              subst hk9
              refine lv_iinc (v := nI (k + 1)) (lv' := [(5, .int (nI (k + 1))), (0, .ref (sA S 0)), (1, .long z1), (3, .long (mxF (mxF z1 (fFa S (hNow h)) k) (fFc S (hNow h) k) 9)), (6, .int (nI 9))]) hx hb dX11_mixFactors_46 hl (k := 3) rfl (nI_1 k) (by decide) rfl (fun ls hl => ?_)
              refine lv_goto (tgt := 5) hx hb dX11_mixFactors_49 (by decide) ?_
              exact ih (k + 1) (by omega) (by omega) _ _ _ Y (lv_sub hl [1, 2, 3, 0] rfl)
            · have c18 : ¬ 8 < b := fun z9 => c18 ((nI_ltI (a := 8) (b := b) (by omega) (by omega)).mpr z9)
              refine lv_aload_n hx hb dX11_mixFactors_21 rfl (lv_at hl 0 rfl) ?_
              refine lv_lload_n hx hb dX11_mixFactors_22 rfl (lv_at hl 2 rfl) ?_
              refine lv_aload_n hx hb dX11_mixFactors_23 rfl (lv_at hl 0 rfl) ?_
              refine h_get X Y (k := 9) (v := .ref (sA S 19)) ho0 rfl hin_X11 (by decide) kfl_X11_67 rfl dX11_mixFactors_24 ?_
              refine lv_iload hx hb dX11_mixFactors_27 (lv_at hl 3 rfl) ?_
              refine h_aald X Y 4 (i := k) ho19 rfl (by omega) (by decide) dX11_mixFactors_29 ?_
              refine h_rf (hft19 k (by omega)) ?_
              refine lv_iload hx hb dX11_mixFactors_30 (lv_at hl 4 rfl) ?_
              refine h_callVr (rest := [.long (mxF (mxF z1 (fFa S (hNow h)) k) (fFc S (hNow h) k) b), .ref (sA S 0)]) X Y (c_factorAt l G M S k ce (hNow h) hV hnow b (by omega)) rfl rfl gw_X11_268 dsc_X10_factorAt t1 rfl rfl rfl rfl hl.1 (Nat.le_of_ble_eq_true rfl) ⟨Nat.le_of_ble_eq_true rfl, Nat.le_of_ble_eq_true rfl⟩ ⟨Nat.le_of_ble_eq_true rfl, Nat.le_of_ble_eq_true rfl⟩ dX11_mixFactors_32 (fun H locs Y => ?_)
              refine h_ev (y := qFac S (hNow h) k b) (trFac_congr hnow hce) ?_
              refine lv_i2l (v := (qFac S (hNow h) k b).toInt64) hx hb dX11_mixFactors_35 rfl ?_
              refine h_callVr (rest := []) X Y (c_mix l G M (sA S 0) (mxF (mxF z1 (fFa S (hNow h)) k) (fFc S (hNow h) k) b) ((qFac S (hNow h) k b).toInt64)) rfl rfl gw_X11_323 dsc_X11_mix ho0 rfl rfl rfl rfl hl.1 (Nat.le_of_ble_eq_true rfl) ⟨Nat.le_of_ble_eq_true rfl, Nat.le_of_ble_eq_true rfl⟩ ⟨Nat.le_of_ble_eq_true rfl, Nat.le_of_ble_eq_true rfl⟩ dX11_mixFactors_36 (fun H locs Y => ?_)
              refine lv_lstore_n (lv' := [(3, .long ((mxF (mxF z1 (fFa S (hNow h)) k) (fFc S (hNow h) k) b) * 31 + ((qFac S (hNow h) k b).toInt64))), (0, .ref (sA S 0)), (1, .long z1), (5, .int (nI k)), (6, .int (nI b))]) hx hb dX11_mixFactors_39 rfl hl (by decide) rfl (fun ls hl => ?_)
              refine lv_iinc (v := nI (b + 1)) (lv' := [(6, .int (nI (b + 1))), (3, .long ((mxF (mxF z1 (fFa S (hNow h)) k) (fFc S (hNow h) k) b) * 31 + ((qFac S (hNow h) k b).toInt64))), (0, .ref (sA S 0)), (1, .long z1), (5, .int (nI k))]) hx hb dX11_mixFactors_40 hl (k := 4) rfl (nI_1 b) (by decide) rfl (fun ls hl => ?_)
              refine lv_goto (tgt := 14) hx hb dX11_mixFactors_43 (by decide) ?_
              exact ih2 (b + 1) (by omega) (by omega) _ _ _ Y (lv_sub hl [2, 3, 1, 4, 0] rfl)
        exact loop2 (9 + 1) 0 (by omega) (by omega) _ _ _ Y (lv_sub hl [1, 2, 3, 4, 0] rfl)
  exact loop (4 + 1) 0 (by omega) (by omega) _ _ _ Y (lv_sub hl [2, 3, 1, 0] rfl)
theorem gw_X11_327 : GoodIn hGW (wsV RX11 327 RX11 yX11_mixLayers (Cond.code yX11_mixLayers cX11_mixLayers 8 (Option.some FieldType.long) :: hGW)) := hgi4 kml_X11_327 kin_X11_mixLayers kse_X11_X11_mixLayers_X11_mixLayers kini_X11 kco_X11_mixLayers
theorem dsc_X11_mixLayers : yX11_mixLayers.cls = RX11 ∧ yX11_mixLayers.cls ≠ "java/lang/invoke/MethodHandle" ∧ yX11_mixLayers.cls ≠ "java/lang/invoke/VarHandle" ∧ (parseMethodDescriptor yX11_mixLayers.desc).map (fun d => d.parameters.length) = some 1 := ⟨rfl, by decide +kernel, by decide +kernel, by decide +kernel⟩
theorem gw_X11_331 : GoodIn hGW (wsV RX11 331 RX11 yX11_mixClaims (Cond.code yX11_mixClaims cX11_mixClaims 8 (Option.some FieldType.long) :: hGW)) := hgi4 kml_X11_331 kin_X11_mixClaims kse_X11_X11_mixClaims_X11_mixClaims kini_X11 kco_X11_mixClaims
theorem dsc_X11_mixClaims : yX11_mixClaims.cls = RX11 ∧ yX11_mixClaims.cls ≠ "java/lang/invoke/MethodHandle" ∧ yX11_mixClaims.cls ≠ "java/lang/invoke/VarHandle" ∧ (parseMethodDescriptor yX11_mixClaims.desc).map (fun d => d.parameters.length) = some 1 := ⟨rfl, by decide +kernel, by decide +kernel, by decide +kernel⟩
theorem gw_X11_334 : GoodIn hGW (wsV RX11 334 RX11 yX11_mixYears (Cond.code yX11_mixYears cX11_mixYears 7 (Option.some FieldType.long) :: hGW)) := hgi4 kml_X11_334 kin_X11_mixYears kse_X11_X11_mixYears_X11_mixYears kini_X11 kco_X11_mixYears
theorem dsc_X11_mixYears : yX11_mixYears.cls = RX11 ∧ yX11_mixYears.cls ≠ "java/lang/invoke/MethodHandle" ∧ yX11_mixYears.cls ≠ "java/lang/invoke/VarHandle" ∧ (parseMethodDescriptor yX11_mixYears.desc).map (fun d => d.parameters.length) = some 1 := ⟨rfl, by decide +kernel, by decide +kernel, by decide +kernel⟩
theorem gw_X11_337 : GoodIn hGW (wsV RX11 337 RX11 yX11_mixFactors (Cond.code yX11_mixFactors cX11_mixFactors 7 (Option.some FieldType.long) :: hGW)) := hgi4 kml_X11_337 kin_X11_mixFactors kse_X11_X11_mixFactors_X11_mixFactors kini_X11 kco_X11_mixFactors
theorem dsc_X11_mixFactors : yX11_mixFactors.cls = RX11 ∧ yX11_mixFactors.cls ≠ "java/lang/invoke/MethodHandle" ∧ yX11_mixFactors.cls ≠ "java/lang/invoke/VarHandle" ∧ (parseMethodDescriptor yX11_mixFactors.desc).map (fun d => d.parameters.length) = some 1 := ⟨rfl, by decide +kernel, by decide +kernel, by decide +kernel⟩
theorem dX11_digest_0 : decode cX11_digest 0 = .ok (.aload_n 0, 1) := by decide +kernel
theorem dX11_digest_1 : decode cX11_digest 1 = .ok (.aload_n 0, 1) := by decide +kernel
theorem dX11_digest_2 : decode cX11_digest 2 = .ok (.getfield 54, 3) := by decide +kernel
theorem dX11_digest_5 : decode cX11_digest 5 = .ok (.iconst 1, 1) := by decide +kernel
theorem dX11_digest_6 : decode cX11_digest 6 = .ok (.iconst (-1), 1) := by decide +kernel
theorem dX11_digest_7 : decode cX11_digest 7 = .ok (.invokevirtual 137, 3) := by decide +kernel
theorem dX11_digest_10 : decode cX11_digest 10 = .ok (.aload_n 0, 1) := by decide +kernel
theorem dX11_digest_11 : decode cX11_digest 11 = .ok (.aload_n 0, 1) := by decide +kernel
theorem dX11_digest_12 : decode cX11_digest 12 = .ok (.getfield 58, 3) := by decide +kernel
theorem dX11_digest_15 : decode cX11_digest 15 = .ok (.iconst 0, 1) := by decide +kernel
theorem dX11_digest_16 : decode cX11_digest 16 = .ok (.iconst (-1), 1) := by decide +kernel
theorem dX11_digest_17 : decode cX11_digest 17 = .ok (.invokevirtual 137, 3) := by decide +kernel
theorem dX11_digest_20 : decode cX11_digest 20 = .ok (.iconst 0, 1) := by decide +kernel
theorem dX11_digest_21 : decode cX11_digest 21 = .ok (.istore_n 1, 1) := by decide +kernel
theorem dX11_digest_22 : decode cX11_digest 22 = .ok (.iload_n 1, 1) := by decide +kernel
theorem dX11_digest_23 : decode cX11_digest 23 = .ok (.iconst 4, 1) := by decide +kernel
theorem dX11_digest_24 : decode cX11_digest 24 = .ok (.if_icmp .ge 14, 3) := by decide +kernel
theorem dX11_digest_27 : decode cX11_digest 27 = .ok (.aload_n 0, 1) := by decide +kernel
theorem dX11_digest_28 : decode cX11_digest 28 = .ok (.iload_n 1, 1) := by decide +kernel
theorem dX11_digest_29 : decode cX11_digest 29 = .ok (.invokevirtual 259, 3) := by decide +kernel
theorem dX11_digest_32 : decode cX11_digest 32 = .ok (.iinc 1 1, 3) := by decide +kernel
theorem dX11_digest_35 : decode cX11_digest 35 = .ok (.goto (-13), 3) := by decide +kernel
theorem dX11_digest_38 : decode cX11_digest 38 = .ok (.ldc2_w 321, 3) := by decide +kernel
theorem dX11_digest_41 : decode cX11_digest 41 = .ok (.lstore_n 1, 1) := by decide +kernel
theorem dX11_digest_42 : decode cX11_digest 42 = .ok (.iconst 0, 1) := by decide +kernel
theorem dX11_digest_43 : decode cX11_digest 43 = .ok (.istore_n 3, 1) := by decide +kernel
theorem dX11_digest_44 : decode cX11_digest 44 = .ok (.iload_n 3, 1) := by decide +kernel
theorem dX11_digest_45 : decode cX11_digest 45 = .ok (.bipush 8, 2) := by decide +kernel
theorem dX11_digest_47 : decode cX11_digest 47 = .ok (.if_icmp .gt 21, 3) := by decide +kernel
theorem dX11_digest_50 : decode cX11_digest 50 = .ok (.aload_n 0, 1) := by decide +kernel
theorem dX11_digest_51 : decode cX11_digest 51 = .ok (.lload_n 1, 1) := by decide +kernel
theorem dX11_digest_52 : decode cX11_digest 52 = .ok (.aload_n 0, 1) := by decide +kernel
theorem dX11_digest_53 : decode cX11_digest 53 = .ok (.iload_n 3, 1) := by decide +kernel
theorem dX11_digest_54 : decode cX11_digest 54 = .ok (.invokevirtual 141, 3) := by decide +kernel
theorem dX11_digest_57 : decode cX11_digest 57 = .ok (.i2l, 1) := by decide +kernel
theorem dX11_digest_58 : decode cX11_digest 58 = .ok (.invokevirtual 323, 3) := by decide +kernel
theorem dX11_digest_61 : decode cX11_digest 61 = .ok (.lstore_n 1, 1) := by decide +kernel
theorem dX11_digest_62 : decode cX11_digest 62 = .ok (.iinc 3 1, 3) := by decide +kernel
theorem dX11_digest_65 : decode cX11_digest 65 = .ok (.goto (-21), 3) := by decide +kernel
theorem dX11_digest_68 : decode cX11_digest 68 = .ok (.aload_n 0, 1) := by decide +kernel
theorem dX11_digest_69 : decode cX11_digest 69 = .ok (.lload_n 1, 1) := by decide +kernel
theorem dX11_digest_70 : decode cX11_digest 70 = .ok (.invokevirtual 327, 3) := by decide +kernel
theorem dX11_digest_73 : decode cX11_digest 73 = .ok (.lstore_n 1, 1) := by decide +kernel
theorem dX11_digest_74 : decode cX11_digest 74 = .ok (.aload_n 0, 1) := by decide +kernel
theorem dX11_digest_75 : decode cX11_digest 75 = .ok (.lload_n 1, 1) := by decide +kernel
theorem dX11_digest_76 : decode cX11_digest 76 = .ok (.invokevirtual 331, 3) := by decide +kernel
theorem dX11_digest_79 : decode cX11_digest 79 = .ok (.lstore_n 1, 1) := by decide +kernel
theorem dX11_digest_80 : decode cX11_digest 80 = .ok (.aload_n 0, 1) := by decide +kernel
theorem dX11_digest_81 : decode cX11_digest 81 = .ok (.lload_n 1, 1) := by decide +kernel
theorem dX11_digest_82 : decode cX11_digest 82 = .ok (.invokevirtual 334, 3) := by decide +kernel
theorem dX11_digest_85 : decode cX11_digest 85 = .ok (.lstore_n 1, 1) := by decide +kernel
theorem dX11_digest_86 : decode cX11_digest 86 = .ok (.aload_n 0, 1) := by decide +kernel
theorem dX11_digest_87 : decode cX11_digest 87 = .ok (.lload_n 1, 1) := by decide +kernel
theorem dX11_digest_88 : decode cX11_digest 88 = .ok (.invokevirtual 337, 3) := by decide +kernel
theorem dX11_digest_91 : decode cX11_digest 91 = .ok (.lstore_n 1, 1) := by decide +kernel
theorem dX11_digest_92 : decode cX11_digest 92 = .ok (.aload_n 0, 1) := by decide +kernel
theorem dX11_digest_93 : decode cX11_digest 93 = .ok (.lload_n 1, 1) := by decide +kernel
theorem dX11_digest_94 : decode cX11_digest 94 = .ok (.aload_n 0, 1) := by decide +kernel
theorem dX11_digest_95 : decode cX11_digest 95 = .ok (.getfield 82, 3) := by decide +kernel
theorem dX11_digest_98 : decode cX11_digest 98 = .ok (.i2l, 1) := by decide +kernel
theorem dX11_digest_99 : decode cX11_digest 99 = .ok (.invokevirtual 323, 3) := by decide +kernel
theorem dX11_digest_102 : decode cX11_digest 102 = .ok (.lreturn, 1) := by decide +kernel
set_option maxHeartbeats 1000000 in
set_option maxRecDepth 100000 in
theorem c_digest (l : Launch) (G : hG) (M : hM) (S : hSy) (h : hHo) (hQv : QV G M S h) : hCT l G yX11_digest cX11_digest 4 (Option.some FieldType.long) (hRm 10 0 0) M [.ref (sA S 0)] (fun v M' => v = some (.long (qDigest S h)) ∧ hSim G hScr M M') := by
  refine hCT.of (own := RX11) (nm := "digest") (by decide) rfl rfl (Nat.le_of_ble_eq_true rfl) ?_
  intro p e s m args below meth c ls X Y hl
  have hx := X.1
  have hb := X.2.1
  have hl : lv_has ls 4 [(0, .ref (sA S 0))] := hl
  obtain ⟨hS, hG1, hHo, hCe, hTr, hnow, hyn⟩ := id hQv
  obtain ⟨hN8, hM40, hLG, hCY⟩ := id hG1
  obtain ⟨hl13, he14, hl15, he16, hLa, hCl⟩ := id hS
  obtain ⟨mc13, hlo13⟩ := id hl13
  obtain ⟨mc15, hlo15⟩ := id hl15
  obtain ⟨ho0, ho1, ho17, ho18, ft19, hft19, ho19⟩ := id hHo
  have hs0 : hSim G hScr M M := hSim.rf
  refine lv_aload_n hx hb dX11_digest_0 rfl (lv_at hl 0 rfl) ?_
  refine lv_aload_n hx hb dX11_digest_1 rfl (lv_at hl 0 rfl) ?_
  refine h_get X Y (k := 6) (v := .ref (sA S (100 * (0 + 1)))) ho0 rfl hin_X11 (by decide) kfl_X11_54 rfl dX11_digest_2 ?_
  refine lv_iconst (v := 1) hx hb dX11_digest_5 (by decide) ?_
  refine lv_iconst (v := (-1)) hx hb dX11_digest_6 (by decide) ?_
  refine h_callV (rest := []) X Y (c_cedeNow l G M S h hQv 0 (by omega) true (-1)) gw_X11_137 dsc_X11_cedeNow ho0 rfl rfl rfl hl.1 rfl (Nat.le_of_ble_eq_true rfl) ⟨Nat.le_of_ble_eq_true rfl, Nat.le_of_ble_eq_true rfl⟩ ⟨Nat.le_of_ble_eq_true rfl, Nat.le_of_ble_eq_true rfl⟩ dX11_digest_7 ?_
  rintro _ M1 H locs ⟨rfl, hCI0, hq⟩ Y
  try dsimp only [Option.toList, List.nil_append]
  have hs0 := hs0.tr (hq.mono (hS1_scr (by omega)))
  have hQv := hQv.sim (hq.mono (hS1_scr (by omega)))
  obtain ⟨hS, -, hHo, hCe, hTr, -, -⟩ := id hQv
  obtain ⟨hl13, he14, hl15, he16, hLa, hCl⟩ := id hS
  obtain ⟨mc13, hlo13⟩ := id hl13
  obtain ⟨mc15, hlo15⟩ := id hl15
  obtain ⟨ho0, ho1, ho17, ho18, ft19, hft19, ho19⟩ := id hHo
  refine lv_aload_n hx hb dX11_digest_10 rfl (lv_at hl 0 rfl) ?_
  refine lv_aload_n hx hb dX11_digest_11 rfl (lv_at hl 0 rfl) ?_
  refine h_get X Y (k := 7) (v := .ref (sA S (100 * (1 + 1)))) ho0 rfl hin_X11 (by decide) kfl_X11_58 rfl dX11_digest_12 ?_
  refine lv_iconst (v := 0) hx hb dX11_digest_15 (by decide) ?_
  refine lv_iconst (v := (-1)) hx hb dX11_digest_16 (by decide) ?_
  refine h_callV (rest := []) X Y (c_cedeNow l G M1 S h hQv 1 (by omega) false (-1)) gw_X11_137 dsc_X11_cedeNow ho0 rfl rfl rfl hl.1 rfl (Nat.le_of_ble_eq_true rfl) ⟨Nat.le_of_ble_eq_true rfl, Nat.le_of_ble_eq_true rfl⟩ ⟨Nat.le_of_ble_eq_true rfl, Nat.le_of_ble_eq_true rfl⟩ dX11_digest_17 ?_
  rintro _ M2 H locs ⟨rfl, hCI1, hq⟩ Y
  try dsimp only [Option.toList, List.nil_append]
  have hs0 := hs0.tr (hq.mono (hS1_scr (by omega)))
  have hQv := hQv.sim (hq.mono (hS1_scr (by omega)))
  obtain ⟨hS, -, hHo, hCe, hTr, -, -⟩ := id hQv
  obtain ⟨hl13, he14, hl15, he16, hLa, hCl⟩ := id hS
  obtain ⟨mc13, hlo13⟩ := id hl13
  obtain ⟨mc15, hlo15⟩ := id hl15
  obtain ⟨ho0, ho1, ho17, ho18, ft19, hft19, ho19⟩ := id hHo
  have hCI0 := hCI0.sim hq (hS1_ces (by omega) (by omega))
  refine lv_iconst (v := 0) hx hb dX11_digest_20 (by decide) ?_
  refine lv_istore_n (lv' := [(1, .int 0), (0, .ref (sA S 0))]) hx hb dX11_digest_21 rfl hl (by decide) rfl (fun ls hl => ?_)
  have loop : ∀ (d k : Nat), k + d = 5 → k ≤ 4 → ∀ (M1 : hM), QV G M1 S h → hSim G hScr M M1 → CesIs G M1 S 0 (-1) (qAm S true) → CesIs G M1 S 1 (-1) (qAm S false) → (∀ j, j < k → TrIs G M1 S (hNow h) j) → ∀ (H : Heap) (locs : List Loc) (ls : Array Slot), hHS G M1 s H locs → lv_has ls 4 [(0, .ref (sA S 0)), (1, .int (nI k))] → W p l e (hRm 10 0 0) s m args below meth c H locs 0 0 (MQ below (hQ G (fun v M' => v = some (.long (qDigest S h)) ∧ hSim G hScr M M')) args s 0 0 (hA G)) (F0 m 22 ls []) := by
    intro d
    induction d with
    | zero => intro k h1; intros; exact absurd h1 (by omega)
    | succ d ih =>
      intro k h1 h2 M1 hQv hs0 hCI0 hCI1 hTa H locs ls Y hl
      obtain ⟨hS, -, hHo, hCe, hTr, -, -⟩ := id hQv
      obtain ⟨hl13, he14, hl15, he16, hLa, hCl⟩ := id hS
      obtain ⟨mc13, hlo13⟩ := id hl13
      obtain ⟨mc15, hlo15⟩ := id hl15
      obtain ⟨ho0, ho1, ho17, ho18, ft19, hft19, ho19⟩ := id hHo
      refine lv_iload_n hx hb dX11_digest_22 rfl (lv_at hl 1 rfl) ?_
      refine lv_iconst (v := 4) hx hb dX11_digest_23 (by decide) ?_
      refine lv_icmp_ge (tgt := 38) hx hb dX11_digest_24 (by decide) (fun c24 => ?_) (fun c24 => ?_)
      · have c24 : 4 ≤ k := (nI_leI (a := 4) (b := k) (by omega) (by omega)).mp c24
        have hk9 : k = 4 := by omega
        subst hk9
        refine lv_ldc2 hx hb X.2.2.2.2.1 (X.2.2.2.2.2.1 _ kcJ_X11_321) dX11_digest_38 ?_
        refine lv_lstore_n (lv' := [(1, .long 641), (0, .ref (sA S 0))]) hx hb dX11_digest_41 rfl hl (by decide) rfl (fun ls hl => ?_)
        refine lv_iconst (v := 0) hx hb dX11_digest_42 (by decide) ?_
        refine lv_istore_n (lv' := [(3, .int 0), (1, .long 641), (0, .ref (sA S 0))]) hx hb dX11_digest_43 rfl hl (by decide) rfl (fun ls hl => ?_)
        have loop2 : ∀ (d x : Nat), x + d = 9 + 1 → x ≤ 9 → ∀ (H : Heap) (locs : List Loc) (ls : Array Slot), hHS G M1 s H locs → lv_has ls 4 [(0, .ref (sA S 0)), (1, .long (mxF 641 (fCo S h) x)), (3, .int (nI x))] → W p l e (hRm 10 0 0) s m args below meth c H locs 0 0 (MQ below (hQ G (fun v M' => v = some (.long (qDigest S h)) ∧ hSim G hScr M M')) args s 0 0 (hA G)) (F0 m 44 ls []) := by
          intro d
          induction d with
          | zero => intro x h1 h2; exact absurd h1 (by omega)
          | succ d ih2 =>
            intro x h1 h2 H locs ls Y hl
            refine lv_iload_n hx hb dX11_digest_44 rfl (lv_at hl 2 rfl) ?_
            refine lv_bipush (v := 8) hx hb dX11_digest_45 (by decide) ?_
            refine lv_icmp_gt (tgt := 68) hx hb dX11_digest_47 (by decide) (fun c47 => ?_) (fun c47 => ?_)
            · have c47 : 8 < x := (nI_ltI (a := 8) (b := x) (by omega) (by omega)).mp c47
              have hk9 : x = 9 := by omega
              subst hk9
              refine lv_aload_n hx hb dX11_digest_68 rfl (lv_at hl 0 rfl) ?_
              refine lv_lload_n hx hb dX11_digest_69 rfl (lv_at hl 1 rfl) ?_
              refine h_callVr (rest := []) X Y (c_mixLayers l G M1 S h hQv hCI1 (mxF 641 (fCo S h) 9)) rfl rfl gw_X11_327 dsc_X11_mixLayers ho0 rfl rfl rfl rfl hl.1 (Nat.le_of_ble_eq_true rfl) ⟨Nat.le_of_ble_eq_true rfl, Nat.le_of_ble_eq_true rfl⟩ ⟨Nat.le_of_ble_eq_true rfl, Nat.le_of_ble_eq_true rfl⟩ dX11_digest_70 (fun H locs Y => ?_)
              refine lv_lstore_n (lv' := [(1, .long (mxF (mxF 641 (fCo S h) 9) (fLa S (hNow h)) (sN S))), (0, .ref (sA S 0)), (3, .int (nI 9))]) hx hb dX11_digest_73 rfl hl (by decide) rfl (fun ls hl => ?_)
              refine lv_aload_n hx hb dX11_digest_74 rfl (lv_at hl 1 rfl) ?_
              refine lv_lload_n hx hb dX11_digest_75 rfl (lv_at hl 0 rfl) ?_
              refine h_callVr (rest := []) X Y (c_mixClaims l G M1 S h hQv hCI0 hCI1 (mxF (mxF 641 (fCo S h) 9) (fLa S (hNow h)) (sN S))) rfl rfl gw_X11_331 dsc_X11_mixClaims ho0 rfl rfl rfl rfl hl.1 (Nat.le_of_ble_eq_true rfl) ⟨Nat.le_of_ble_eq_true rfl, Nat.le_of_ble_eq_true rfl⟩ ⟨Nat.le_of_ble_eq_true rfl, Nat.le_of_ble_eq_true rfl⟩ dX11_digest_76 (fun H locs Y => ?_)
              refine lv_lstore_n (lv' := [(1, .long (mxF (mxF (mxF 641 (fCo S h) 9) (fLa S (hNow h)) (sN S)) (fCl S (hNow h)) (sM S))), (0, .ref (sA S 0)), (3, .int (nI 9))]) hx hb dX11_digest_79 rfl hl (by decide) rfl (fun ls hl => ?_)
              refine lv_aload_n hx hb dX11_digest_80 rfl (lv_at hl 1 rfl) ?_
              refine lv_lload_n hx hb dX11_digest_81 rfl (lv_at hl 0 rfl) ?_
              refine h_callVr (rest := []) X Y (c_mixYears l G M1 S h hQv (hTa 0 (by omega)) (hTa 1 (by omega)) (mxF (mxF (mxF 641 (fCo S h) 9) (fLa S (hNow h)) (sN S)) (fCl S (hNow h)) (sM S))) rfl rfl gw_X11_334 dsc_X11_mixYears ho0 rfl rfl rfl rfl hl.1 (Nat.le_of_ble_eq_true rfl) ⟨Nat.le_of_ble_eq_true rfl, Nat.le_of_ble_eq_true rfl⟩ ⟨Nat.le_of_ble_eq_true rfl, Nat.le_of_ble_eq_true rfl⟩ dX11_digest_82 (fun H locs Y => ?_)
              refine lv_lstore_n (lv' := [(1, .long (mxF (mxF (mxF (mxF 641 (fCo S h) 9) (fLa S (hNow h)) (sN S)) (fCl S (hNow h)) (sM S)) (fYr S h) (hNow h + 1))), (0, .ref (sA S 0)), (3, .int (nI 9))]) hx hb dX11_digest_85 rfl hl (by decide) rfl (fun ls hl => ?_)
              refine lv_aload_n hx hb dX11_digest_86 rfl (lv_at hl 1 rfl) ?_
              refine lv_lload_n hx hb dX11_digest_87 rfl (lv_at hl 0 rfl) ?_
              refine h_callVr (rest := []) X Y (c_mixFactors l G M1 S h hQv hTa (mxF (mxF (mxF (mxF 641 (fCo S h) 9) (fLa S (hNow h)) (sN S)) (fCl S (hNow h)) (sM S)) (fYr S h) (hNow h + 1))) rfl rfl gw_X11_337 dsc_X11_mixFactors ho0 rfl rfl rfl rfl hl.1 (Nat.le_of_ble_eq_true rfl) ⟨Nat.le_of_ble_eq_true rfl, Nat.le_of_ble_eq_true rfl⟩ ⟨Nat.le_of_ble_eq_true rfl, Nat.le_of_ble_eq_true rfl⟩ dX11_digest_88 (fun H locs Y => ?_)
              refine lv_lstore_n (lv' := [(1, .long (mxF (mxF (mxF (mxF (mxF 641 (fCo S h) 9) (fLa S (hNow h)) (sN S)) (fCl S (hNow h)) (sM S)) (fYr S h) (hNow h + 1)) (fFa S (hNow h)) 4)), (0, .ref (sA S 0)), (3, .int (nI 9))]) hx hb dX11_digest_91 rfl hl (by decide) rfl (fun ls hl => ?_)
              refine lv_aload_n hx hb dX11_digest_92 rfl (lv_at hl 1 rfl) ?_
              refine lv_lload_n hx hb dX11_digest_93 rfl (lv_at hl 0 rfl) ?_
              refine lv_aload_n hx hb dX11_digest_94 rfl (lv_at hl 1 rfl) ?_
              refine h_get X Y (k := 13) (v := .int (hTail h)) ho0 rfl hin_X11 (by decide) kfl_X11_82 rfl dX11_digest_95 ?_
              refine lv_i2l (v := (hTail h).toInt64) hx hb dX11_digest_98 rfl ?_
              refine h_callVr (rest := []) X Y (c_mix l G M1 (sA S 0) (mxF (mxF (mxF (mxF (mxF 641 (fCo S h) 9) (fLa S (hNow h)) (sN S)) (fCl S (hNow h)) (sM S)) (fYr S h) (hNow h + 1)) (fFa S (hNow h)) 4) ((hTail h).toInt64)) rfl rfl gw_X11_323 dsc_X11_mix ho0 rfl rfl rfl rfl hl.1 (Nat.le_of_ble_eq_true rfl) ⟨Nat.le_of_ble_eq_true rfl, Nat.le_of_ble_eq_true rfl⟩ ⟨Nat.le_of_ble_eq_true rfl, Nat.le_of_ble_eq_true rfl⟩ dX11_digest_99 (fun H locs Y => ?_)
              exact h_lret X Y ⟨rfl, hs0⟩ (Nat.le_refl _) (Nat.le_refl _) dX11_digest_102
            · have c47 : ¬ 8 < x := fun z9 => c47 ((nI_ltI (a := 8) (b := x) (by omega) (by omega)).mpr z9)
              refine lv_aload_n hx hb dX11_digest_50 rfl (lv_at hl 0 rfl) ?_
              refine lv_lload_n hx hb dX11_digest_51 rfl (lv_at hl 1 rfl) ?_
              refine lv_aload_n hx hb dX11_digest_52 rfl (lv_at hl 0 rfl) ?_
              refine lv_iload_n hx hb dX11_digest_53 rfl (lv_at hl 2 rfl) ?_
              refine h_callVr (rest := [.long (mxF 641 (fCo S h) x), .ref (sA S 0)]) X Y (c_countOf l G M1 S h hQv x (by omega) (fun _ => hCI1)) rfl rfl gw_X11_141 dsc_X11_countOf ho0 rfl rfl rfl rfl hl.1 (Nat.le_of_ble_eq_true rfl) ⟨Nat.le_of_ble_eq_true rfl, Nat.le_of_ble_eq_true rfl⟩ ⟨Nat.le_of_ble_eq_true rfl, Nat.le_of_ble_eq_true rfl⟩ dX11_digest_54 (fun H locs Y => ?_)
              refine lv_i2l (v := (qCount S h x).toInt64) hx hb dX11_digest_57 rfl ?_
              refine h_callVr (rest := []) X Y (c_mix l G M1 (sA S 0) (mxF 641 (fCo S h) x) ((qCount S h x).toInt64)) rfl rfl gw_X11_323 dsc_X11_mix ho0 rfl rfl rfl rfl hl.1 (Nat.le_of_ble_eq_true rfl) ⟨Nat.le_of_ble_eq_true rfl, Nat.le_of_ble_eq_true rfl⟩ ⟨Nat.le_of_ble_eq_true rfl, Nat.le_of_ble_eq_true rfl⟩ dX11_digest_58 (fun H locs Y => ?_)
              refine lv_lstore_n (lv' := [(1, .long ((mxF 641 (fCo S h) x) * 31 + ((qCount S h x).toInt64))), (0, .ref (sA S 0)), (3, .int (nI x))]) hx hb dX11_digest_61 rfl hl (by decide) rfl (fun ls hl => ?_)
              refine lv_iinc (v := nI (x + 1)) (lv' := [(3, .int (nI (x + 1))), (1, .long ((mxF 641 (fCo S h) x) * 31 + ((qCount S h x).toInt64))), (0, .ref (sA S 0))]) hx hb dX11_digest_62 hl (k := 2) rfl (nI_1 x) (by decide) rfl (fun ls hl => ?_)
              refine lv_goto (tgt := 44) hx hb dX11_digest_65 (by decide) ?_
              exact ih2 (x + 1) (by omega) (by omega) _ _ _ Y (lv_sub hl [2, 1, 0] rfl)
        exact loop2 (9 + 1) 0 (by omega) (by omega) _ _ _ Y (lv_sub hl [2, 1, 0] rfl)
      · have c24 : ¬ 4 ≤ k := fun z9 => c24 ((nI_leI (a := 4) (b := k) (by omega) (by omega)).mpr z9)
        refine lv_aload_n hx hb dX11_digest_27 rfl (lv_at hl 0 rfl) ?_
        refine lv_iload_n hx hb dX11_digest_28 rfl (lv_at hl 1 rfl) ?_
        refine h_callV (rest := []) X Y (c_fillTriangle l G M1 S h hQv k (by omega)) gw_X11_259 dsc_X11_fillTriangle ho0 rfl rfl rfl hl.1 rfl (Nat.le_of_ble_eq_true rfl) ⟨Nat.le_of_ble_eq_true rfl, Nat.le_of_ble_eq_true rfl⟩ ⟨Nat.le_of_ble_eq_true rfl, Nat.le_of_ble_eq_true rfl⟩ dX11_digest_29 ?_
        rintro _ M3 H locs ⟨rfl, hTI, hq⟩ Y
        try dsimp only [Option.toList, List.nil_append]
        have hs0 := hs0.tr (hq.mono (hS3_scr (by omega)))
        have hQv := hQv.sim (hq.mono (hS3_scr (by omega)))
        obtain ⟨hS, -, hHo, hCe, hTr, -, -⟩ := id hQv
        obtain ⟨hl13, he14, hl15, he16, hLa, hCl⟩ := id hS
        obtain ⟨mc13, hlo13⟩ := id hl13
        obtain ⟨mc15, hlo15⟩ := id hl15
        obtain ⟨ho0, ho1, ho17, ho18, ft19, hft19, ho19⟩ := id hHo
        have hCI0 := hCI0.sim hq (hS3_ces (by omega))
        have hCI1 := hCI1.sim hq (hS3_ces (by omega))
        have hTa : ∀ j, j < k + 1 → TrIs G M3 S (hNow h) j := by
          intro j hj
          by_cases e9 : j = k
          · subst e9; exact hTI
          · exact (hTa j (by omega)).sim hq (hS3_tri (by omega) (by omega) e9)
        refine lv_iinc (v := nI (k + 1)) (lv' := [(1, .int (nI (k + 1))), (0, .ref (sA S 0))]) hx hb dX11_digest_32 hl (k := 1) rfl (nI_1 k) (by decide) rfl (fun ls hl => ?_)
        refine lv_goto (tgt := 22) hx hb dX11_digest_35 (by decide) ?_
        exact ih (k + 1) (by omega) (by omega) M3 hQv hs0 hCI0 hCI1 hTa _ _ _ Y (lv_sub hl [1, 0] rfl)
  exact loop 5 0 (by omega) (by omega) _ hQv hs0 hCI0 hCI1 (fun j z9 => absurd z9 (by omega)) _ _ _ Y (lv_sub hl [1, 0] rfl)
