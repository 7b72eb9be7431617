-- WHAT IS KEPT
theorem h_dret {G : hG} {p : Program} {l : Launch} {e : Env} {R : Room} {s : State} {m : MethodId} {args : Array Value} {below : List Frame} {meth : Method} {c : Code} {H : Heap} {locs : List Loc} {cells slots : Nat} {cc : ByteArray} {maxL : Nat} {own nm : String} {M : hM} {pc : Nat} {ls : Array Slot} {mc ms : Nat} (X : hCX G p s m args meth c cc maxL (some .double) own nm) (Y : hHS G M s H locs) {post : Option Value → hM → Prop} {v : UInt64} (hp : post (some (.double v)) M) (h1 : cells ≤ mc) (h2 : slots ≤ ms) (hdg : decode cc pc = .ok (.dreturn, 1)) : W p l e R s m args below meth c H locs cells slots (MQ below (hQ G post) args s mc ms (hA G)) (F0 m pc ls [.double v]) :=
  W.widen h1 h2 (W.dret X.1 X.2.1 X.2.2.1 (h_ret X Y hp).1 (h_ret X Y hp).2 hdg X.2.2.2.2.2.2.1)
theorem kept_nn {x y : Int32} (hy : ¬ y = 0) : FP.Core.dIsNaN (FP.ddiv (FP.i2d x) (FP.i2d y)) = false :=
  FP.Core.ddiv_out (FP.Core.i2d_fin x).notNaN (FP.Core.i2d_fin y) (fun z => FP.Core.i2d_ne_zero hy ((FP.Core.zero_bits2 _).mp z))
theorem kept_nan {x y : Int32} (hy : ¬ y = 0) : vf_n64 (FP.ddiv (FP.i2d x) (FP.i2d y)) := by
  have h := kept_nn (x := x) hy
  have h1 : ¬ 9218868437227405312 < (FP.ddiv (FP.i2d x) (FP.i2d y)).toNat % 2 ^ 63 := fun z => by
    have := (FP.Core.isNaN_bits _).mpr z
    rw [h] at this
    exact absurd this (by decide)
  unfold vf_n64
  rw [UInt64.le_iff_toNat_le, UInt64.toNat_and, show (0x7fffffffffffffff : UInt64).toNat = 2 ^ 63 - 1 from rfl, Nat.and_two_pow_sub_one_eq_mod]
  exact Nat.not_lt.mp h1
def qInc (S : hSy) : Int32 := rSum (qAm S false) (sM S)
def qKept (S : hSy) : UInt64 := if qInc S = 0 then FP.dconst1 else FP.ddiv (FP.i2d (qLefts S false (-1))) (FP.i2d (qInc S))
theorem dX11_kept_0 : decode cX11_kept 0 = .ok (.aload_n 0, 1) := by decide +kernel
theorem dX11_kept_1 : decode cX11_kept 1 = .ok (.aload_n 0, 1) := by decide +kernel
theorem dX11_kept_2 : decode cX11_kept 2 = .ok (.getfield 58, 3) := by decide +kernel
theorem dX11_kept_5 : decode cX11_kept 5 = .ok (.iconst 0, 1) := by decide +kernel
theorem dX11_kept_6 : decode cX11_kept 6 = .ok (.iconst (-1), 1) := by decide +kernel
theorem dX11_kept_7 : decode cX11_kept 7 = .ok (.invokevirtual 137, 3) := by decide +kernel
theorem dX11_kept_10 : decode cX11_kept 10 = .ok (.iconst 0, 1) := by decide +kernel
theorem dX11_kept_11 : decode cX11_kept 11 = .ok (.istore_n 1, 1) := by decide +kernel
theorem dX11_kept_12 : decode cX11_kept 12 = .ok (.iconst 0, 1) := by decide +kernel
theorem dX11_kept_13 : decode cX11_kept 13 = .ok (.istore_n 2, 1) := by decide +kernel
theorem dX11_kept_14 : decode cX11_kept 14 = .ok (.iload_n 2, 1) := by decide +kernel
theorem dX11_kept_15 : decode cX11_kept 15 = .ok (.aload_n 0, 1) := by decide +kernel
theorem dX11_kept_16 : decode cX11_kept 16 = .ok (.getfield 46, 3) := by decide +kernel
theorem dX11_kept_19 : decode cX11_kept 19 = .ok (.invokevirtual 176, 3) := by decide +kernel
theorem dX11_kept_22 : decode cX11_kept 22 = .ok (.if_icmp .ge 21, 3) := by decide +kernel
theorem dX11_kept_25 : decode cX11_kept 25 = .ok (.iload_n 1, 1) := by decide +kernel
theorem dX11_kept_26 : decode cX11_kept 26 = .ok (.aload_n 0, 1) := by decide +kernel
theorem dX11_kept_27 : decode cX11_kept 27 = .ok (.getfield 58, 3) := by decide +kernel
theorem dX11_kept_30 : decode cX11_kept 30 = .ok (.getfield 295, 3) := by decide +kernel
theorem dX11_kept_33 : decode cX11_kept 33 = .ok (.iload_n 2, 1) := by decide +kernel
theorem dX11_kept_34 : decode cX11_kept 34 = .ok (.iaload, 1) := by decide +kernel
theorem dX11_kept_35 : decode cX11_kept 35 = .ok (.iadd, 1) := by decide +kernel
theorem dX11_kept_36 : decode cX11_kept 36 = .ok (.istore_n 1, 1) := by decide +kernel
theorem dX11_kept_37 : decode cX11_kept 37 = .ok (.iinc 2 1, 3) := by decide +kernel
theorem dX11_kept_40 : decode cX11_kept 40 = .ok (.goto (-26), 3) := by decide +kernel
theorem dX11_kept_43 : decode cX11_kept 43 = .ok (.iload_n 1, 1) := by decide +kernel
theorem dX11_kept_44 : decode cX11_kept 44 = .ok (.ifCond .ne 7, 3) := by decide +kernel
theorem dX11_kept_47 : decode cX11_kept 47 = .ok (.dconst 1, 1) := by decide +kernel
theorem dX11_kept_48 : decode cX11_kept 48 = .ok (.goto 14, 3) := by decide +kernel
theorem dX11_kept_51 : decode cX11_kept 51 = .ok (.aload_n 0, 1) := by decide +kernel
theorem dX11_kept_52 : decode cX11_kept 52 = .ok (.getfield 58, 3) := by decide +kernel
theorem dX11_kept_55 : decode cX11_kept 55 = .ok (.invokevirtual 302, 3) := by decide +kernel
theorem dX11_kept_58 : decode cX11_kept 58 = .ok (.i2d, 1) := by decide +kernel
theorem dX11_kept_59 : decode cX11_kept 59 = .ok (.iload_n 1, 1) := by decide +kernel
theorem dX11_kept_60 : decode cX11_kept 60 = .ok (.i2d, 1) := by decide +kernel
theorem dX11_kept_61 : decode cX11_kept 61 = .ok (.ddiv, 1) := by decide +kernel
theorem dX11_kept_62 : decode cX11_kept 62 = .ok (.dreturn, 1) := by decide +kernel
set_option maxHeartbeats 400000 in
set_option maxRecDepth 100000 in
theorem c_kept (l : Launch) (G : hG) (M : hM) (S : hSy) (h : hHo) (hQv : QV G M S h) : hCT l G yX11_kept cX11_kept 3 (Option.some FieldType.double) (hRm 9 0 0) M [.ref (sA S 0)] (fun v M' => v = some (.double (qKept S)) ∧ hSim G hScr M M') := by
  refine hCT.of (own := RX11) (nm := "kept") (by decide) rfl rfl (Nat.le_of_ble_eq_true rfl) ?_
  intro p e s m args below meth c ls X Y hl
  have hx := X.1
  have hb := X.2.1
  have hl : lv_has ls 3 [(0, .ref (sA S 0))] := hl
  obtain ⟨hS, hG1, hHo, hCe, hTr, hnow, hyn⟩ := id hQv
  obtain ⟨hN8, hM40, hLG, hCY⟩ := id hG1
  obtain ⟨hl13, he14, hl15, he16, hLa, hCl⟩ := id hS
  obtain ⟨mc13, hlo13⟩ := id hl13
  obtain ⟨mc15, hlo15⟩ := id hl15
  obtain ⟨ho0, ho1, ho17, ho18, ft19, hft19, ho19⟩ := id hHo
  have hs0 : hSim G hScr M M := hSim.rf
  refine lv_aload_n hx hb dX11_kept_0 rfl (lv_at hl 0 rfl) ?_
  refine lv_aload_n hx hb dX11_kept_1 rfl (lv_at hl 0 rfl) ?_
  refine h_get X Y (k := 7) (v := .ref (sA S (100 * (1 + 1)))) ho0 rfl hin_X11 (by decide) kfl_X11_58 rfl dX11_kept_2 ?_
  refine lv_iconst (v := 0) hx hb dX11_kept_5 (by decide) ?_
  refine lv_iconst (v := (-1)) hx hb dX11_kept_6 (by decide) ?_
  refine h_callV (rest := []) X Y (c_cedeNow l G M S h hQv 1 (by omega) false (-1)) gw_X11_137 dsc_X11_cedeNow ho0 rfl rfl rfl hl.1 rfl (Nat.le_of_ble_eq_true rfl) ⟨Nat.le_of_ble_eq_true rfl, Nat.le_of_ble_eq_true rfl⟩ ⟨Nat.le_of_ble_eq_true rfl, Nat.le_of_ble_eq_true rfl⟩ dX11_kept_7 ?_
  rintro _ M1 H locs ⟨rfl, hCI1, hq⟩ Y
  try dsimp only [Option.toList, List.nil_append]
  have hs0 := hs0.tr (hq.mono (hS1_scr (by omega)))
  have hQv := hQv.sim (hq.mono (hS1_scr (by omega)))
  obtain ⟨hS, -, hHo, hCe, hTr, -, -⟩ := id hQv
  obtain ⟨hl13, he14, hl15, he16, hLa, hCl⟩ := id hS
  obtain ⟨mc13, hlo13⟩ := id hl13
  obtain ⟨mc15, hlo15⟩ := id hl15
  obtain ⟨ho0, ho1, ho17, ho18, ft19, hft19, ho19⟩ := id hHo
  obtain ⟨am, be, yl, lo, hV, ha, hbq, hyq⟩ := id (hCI1)
  obtain ⟨hoc, -⟩ := id hV
  obtain ⟨ho, ham, ⟨fb, hfb, hbo⟩, hbr, ⟨fy, hfy, hyo⟩, hyr, hlo⟩ := id hV
  refine lv_iconst (v := 0) hx hb dX11_kept_10 (by decide) ?_
  refine lv_istore_n (lv' := [(1, .int 0), (0, .ref (sA S 0))]) hx hb dX11_kept_11 rfl hl (by decide) rfl (fun ls hl => ?_)
  refine lv_iconst (v := 0) hx hb dX11_kept_12 (by decide) ?_
  refine lv_istore_n (lv' := [(2, .int 0), (1, .int 0), (0, .ref (sA S 0))]) hx hb dX11_kept_13 rfl hl (by decide) rfl (fun ls hl => ?_)
  have loop : ∀ (d k : Nat), k + d = (sM S) + 1 → k ≤ (sM S) → ∀ (H : Heap) (locs : List Loc) (ls : Array Slot), hHS G M1 s H locs → lv_has ls 3 [(0, .ref (sA S 0)), (1, .int (rSum (qAm S false) k)), (2, .int (nI k))] → W p l e (hRm 9 0 0) s m args below meth c H locs 0 0 (MQ below (hQ G (fun v M' => v = some (.double (qKept S)) ∧ hSim G hScr M M')) args s 0 0 (hA G)) (F0 m 14 ls []) := by
    intro d
    induction d with
    | zero => intro k h1 h2; exact absurd h1 (by omega)
    | succ d ih =>
      intro k h1 h2 H locs ls Y hl
      refine lv_iload_n hx hb dX11_kept_14 rfl (lv_at hl 2 rfl) ?_
      refine lv_aload_n hx hb dX11_kept_15 rfl (lv_at hl 0 rfl) ?_
      refine h_get X Y (k := 5) (v := .ref (sA S 15)) ho0 rfl hin_X11 (by decide) kfl_X11_46 rfl dX11_kept_16 ?_
      refine h_callVr (rest := [.int (nI k)]) X Y (c_size l G M1 (sA S 15) 15 (sA S 16) (sM S) hl15) rfl rfl gw_X11_176 dsc_Jx4a65c_size_8abf5 hlo15 rfl rfl rfl rfl hl.1 (Nat.le_of_ble_eq_true rfl) ⟨Nat.le_of_ble_eq_true rfl, Nat.le_of_ble_eq_true rfl⟩ ⟨Nat.le_of_ble_eq_true rfl, Nat.le_of_ble_eq_true rfl⟩ dX11_kept_19 (fun H locs Y => ?_)
      refine lv_icmp_ge (tgt := 43) hx hb dX11_kept_22 (by decide) (fun c22 => ?_) (fun c22 => ?_)
      · have c22 : (sM S) ≤ k := (nI_leI (a := (sM S)) (b := k) (by omega) (by omega)).mp c22
        have hk9 : k = (sM S) := by omega
        subst hk9
        refine lv_iload_n hx hb dX11_kept_43 rfl (lv_at hl 1 rfl) ?_
        refine lv_if_ne (tgt := 51) hx hb dX11_kept_44 (by decide) (fun c44 => ?_) (fun c44 => ?_)
        · refine lv_aload_n hx hb dX11_kept_51 rfl (lv_at hl 0 rfl) ?_
          refine h_get X Y (k := 7) (v := .ref (sA S (100 * (1 + 1)))) ho0 rfl hin_X11 (by decide) kfl_X11_58 rfl dX11_kept_52 ?_
          refine h_callVr (rest := []) X Y (c_allLeft l G M1 S hS hG1 1 am be yl lo hV) rfl rfl gw_X11_302 dsc_X1_allLeft ho rfl rfl rfl rfl hl.1 (Nat.le_of_ble_eq_true rfl) ⟨Nat.le_of_ble_eq_true rfl, Nat.le_of_ble_eq_true rfl⟩ ⟨Nat.le_of_ble_eq_true rfl, Nat.le_of_ble_eq_true rfl⟩ dX11_kept_55 (fun H locs Y => ?_)
          refine h_ev (y := qLefts S false (-1)) (rLefts_congr S ha hbq) ?_
          refine lv_i2d hx hb dX11_kept_58 ?_
          refine lv_iload_n hx hb dX11_kept_59 rfl (lv_at hl 1 rfl) ?_
          refine lv_i2d hx hb dX11_kept_60 ?_
          refine lv_ddiv hx hb dX11_kept_61 (kept_nan c44) ?_
          exact h_dret X Y ⟨congrArg (fun z => some (Value.double z)) (if_neg c44).symm, hs0⟩ (Nat.le_refl _) (Nat.le_refl _) dX11_kept_62
        · refine lv_dconst1 hx hb dX11_kept_47 ?_
          refine lv_goto (tgt := 62) hx hb dX11_kept_48 (by decide) ?_
          exact h_dret X Y ⟨congrArg (fun z => some (Value.double z)) (if_pos c44).symm, hs0⟩ (Nat.le_refl _) (Nat.le_refl _) dX11_kept_62
      · have c22 : ¬ (sM S) ≤ k := fun z9 => c22 ((nI_leI (a := (sM S)) (b := k) (by omega) (by omega)).mpr z9)
        refine lv_iload_n hx hb dX11_kept_25 rfl (lv_at hl 1 rfl) ?_
        refine lv_aload_n hx hb dX11_kept_26 rfl (lv_at hl 0 rfl) ?_
        refine h_get X Y (k := 7) (v := .ref (sA S (100 * (1 + 1)))) ho0 rfl hin_X11 (by decide) kfl_X11_58 rfl dX11_kept_27 ?_
        refine h_get X Y (k := 0) (v := .ref (sA S (100 * (1 + 1) + 1))) ho rfl hin_X1 (by decide) kfl_X11_295 rfl dX11_kept_30 ?_
        refine lv_iload_n hx hb dX11_kept_33 rfl (lv_at hl 2 rfl) ?_
        refine h_iald X Y (i := k) ham (by omega) (by decide) dX11_kept_34 ?_
        refine h_ev (y := qAm S false k) (ha k (by omega)) ?_
        refine lv_iadd hx hb dX11_kept_35 ?_
        refine lv_istore_n (lv' := [(1, .int ((rSum (qAm S false) k) + (qAm S false k))), (0, .ref (sA S 0)), (2, .int (nI k))]) hx hb dX11_kept_36 rfl hl (by decide) rfl (fun ls hl => ?_)
        refine lv_iinc (v := nI (k + 1)) (lv' := [(2, .int (nI (k + 1))), (1, .int ((rSum (qAm S false) k) + (qAm S false k))), (0, .ref (sA S 0))]) hx hb dX11_kept_37 hl (k := 2) rfl (nI_1 k) (by decide) rfl (fun ls hl => ?_)
        refine lv_goto (tgt := 14) hx hb dX11_kept_40 (by decide) ?_
        exact ih (k + 1) (by omega) (by omega) _ _ _ Y (lv_sub hl [2, 1, 0] rfl)
  exact loop ((sM S) + 1) 0 (by omega) (by omega) _ _ _ Y (lv_sub hl [2, 1, 0] rfl)
