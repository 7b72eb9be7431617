-- THE LAW, FROM ITS FIRST CLAIM TO ITS ANSWER
theorem dL_law_67 : decode cL_law 67 = .ok (.iload 12, 2) := by decide +kernel
theorem dL_law_69 : decode cL_law 69 = .ok (.iload 4, 2) := by decide +kernel
theorem dL_law_71 : decode cL_law 71 = .ok (.if_icmp .ge 316, 3) := by decide +kernel
theorem dL_law_387 : decode cL_law 387 = .ok (.iconst 0, 1) := by decide +kernel
theorem dL_law_388 : decode cL_law 388 = .ok (.istore 12, 2) := by decide +kernel
theorem dL_law_390 : decode cL_law 390 = .ok (.iload 12, 2) := by decide +kernel
theorem dL_law_392 : decode cL_law 392 = .ok (.iconst 3, 1) := by decide +kernel
theorem dL_law_393 : decode cL_law 393 = .ok (.if_icmp .ge 161, 3) := by decide +kernel
theorem dL_law_554 : decode cL_law 554 = .ok (.iconst 0, 1) := by decide +kernel
theorem dL_law_555 : decode cL_law 555 = .ok (.istore 12, 2) := by decide +kernel
theorem dL_law_557 : decode cL_law 557 = .ok (.iload 12, 2) := by decide +kernel
theorem dL_law_559 : decode cL_law 559 = .ok (.iload 5, 2) := by decide +kernel
theorem dL_law_561 : decode cL_law 561 = .ok (.if_icmp .gt 247, 3) := by decide +kernel
set_option maxHeartbeats 400000 in
set_option maxRecDepth 100000 in
theorem law_r {nm : String} (l : Launch) (G : hG) (p : Program) (e : Env) (s : State) (m : MethodId) (args : Array Value) (below : List Frame) (meth : Method) (c : Code) (M : hM) (H : Heap) (locs : List Loc) (ls : Array Slot) (cells slots : Nat) (Q : State → Prop) (hcs : cells ≤ 600086) (hss : slots ≤ 7301442) (X : hCX G p s m args meth c cL_law 18 ret RL nm) (Y : hHS G M s H locs) (S : hSy) (h : hHo) (hQv : QV G M S h) (hGC : GC S (hNow h)) (a0 : Nat) (ha0 : sA S 0 = a0) (tt bb : Nat) (sm : Int64) (hc2 : cells ≤ 2000) (hs2 : slots ≤ 200000) (Lx : Nat) (xs : Nat → Int32) (hsc : hSc G Lx xs) (hsm : sm = qDigest S h) (ht : hTail h = 1000) (hpr : ∀ y, hPr h y = 0) (hl : lv_has ls 18 [(0, .ref G.2.1), (1, .ref (a0)), (2, .ref tt), (3, .ref bb), (4, .int (nI (sM S))), (5, .int (nI (hNow h))), (6, .long sm), (8, .long (lN 0)), (10, .long (lN 0)), (12, .int (nI 0))]) (kk : ∀ (M' : hM) (H : Heap) (locs : List Loc) (ls : Array Slot), hHS G M' s H locs → W p l e room_1 s m args below meth c H locs 600086 7301442 Q (F0 m 930 ls [.int 1])) : W p l e room_1 s m args below meth c H locs cells slots Q (F0 m 67 ls []) := by
  subst ha0
  have hx := X.1
  have hb := X.2.1
  have h40 : sM S ≤ 40 := hGC.1.2.2.1
  have hn10 : hNow h < 10 := hGC.2.1
  have hN3 : sN S = 3 := hGC.1.1
  have ho0 := hQv.2.2.1.1
  have loop : ∀ (d i : Nat), i + d = sM S + 1 → i ≤ sM S → ∀ (M1 : hM), QV G M1 S h → ∀ (H : Heap) (locs : List Loc) (ls : Array Slot), hHS G M1 s H locs → lv_has ls 18 [(0, .ref G.2.1), (1, .ref (sA S 0)), (2, .ref tt), (3, .ref bb), (4, .int (nI (sM S))), (5, .int (nI (hNow h))), (6, .long sm), (8, .long (lN (nSum (lfN S (-1)) i))), (10, .long (lN (nSum (fun j9 => vn (qAm S false j9)) i))), (12, .int (nI i))] → W p l e (room_1) s m args below meth c H locs cells slots Q (F0 m 67 ls []) := by
    intro d
    induction d with
    | zero => intro i h1; intros; exact absurd h1 (by omega)
    | succ d ih =>
      intro i h1 h2 M1 hQv H locs ls Y hl
      have ho0 := hQv.2.2.1.1
      refine lv_iload hx hb dL_law_67 (lv_at hl 9 rfl) ?_
      refine lv_iload hx hb dL_law_69 (lv_at hl 4 rfl) ?_
      refine lv_icmp_ge (tgt := 387) hx hb dL_law_71 (by decide) (fun c71 => ?_) (fun c71 => ?_)
      · have c71 : (sM S) ≤ i := (nI_leI (a := (sM S)) (b := i) (by omega) (by omega)).mp c71
        have hk9 : i = sM S := by omega
        subst hk9
        refine lv_iconst (v := 0) hx hb dL_law_387 (by decide) ?_
        refine lv_istore (lv' := [(12, .int 0), (0, .ref G.2.1), (1, .ref (sA S 0)), (2, .ref tt), (3, .ref bb), (4, .int (nI (sM S))), (5, .int (nI (hNow h))), (6, .long sm), (8, .long (lN (nSum (lfN S (-1)) (sM S)))), (10, .long (lN (nSum (fun j9 => vn (qAm S false j9)) (sM S))))]) hx hb dL_law_388 hl (by decide) rfl (fun ls hl => ?_)
        have loop2 : ∀ (d k : Nat), k + d = 4 → k ≤ 3 → ∀ (M1 : hM), QV G M1 S h → ∀ (H : Heap) (locs : List Loc) (ls : Array Slot), hHS G M1 s H locs → lv_has ls 18 [(0, .ref G.2.1), (1, .ref (sA S 0)), (2, .ref tt), (3, .ref bb), (4, .int (nI (sM S))), (5, .int (nI (hNow h))), (6, .long sm), (8, .long (lN (nSum (lfN S (-1)) (sM S)))), (10, .long (lN (nSum (fun j9 => vn (qAm S false j9)) (sM S)))), (12, .int (nI k))] → W p l e (room_1) s m args below meth c H locs cells slots Q (F0 m 390 ls []) := by
          intro d
          induction d with
          | zero => intro k h1; intros; exact absurd h1 (by omega)
          | succ d ih2 =>
            intro k h1 h2 M1 hQv H locs ls Y hl
            have ho0 := hQv.2.2.1.1
            refine lv_iload hx hb dL_law_390 (lv_at hl 9 rfl) ?_
            refine lv_iconst (v := 3) hx hb dL_law_392 (by decide) ?_
            refine lv_icmp_ge (tgt := 554) hx hb dL_law_393 (by decide) (fun c393 => ?_) (fun c393 => ?_)
            · have c393 : 3 ≤ k := (nI_leI (a := 3) (b := k) (by omega) (by omega)).mp c393
              refine lv_iconst (v := 0) hx hb dL_law_554 (by decide) ?_
              refine lv_istore (lv' := [(12, .int 0), (0, .ref G.2.1), (1, .ref (sA S 0)), (2, .ref tt), (3, .ref bb), (4, .int (nI (sM S))), (5, .int (nI (hNow h))), (6, .long sm), (8, .long (lN (nSum (lfN S (-1)) (sM S)))), (10, .long (lN (nSum (fun j9 => vn (qAm S false j9)) (sM S))))]) hx hb dL_law_555 hl (by decide) rfl (fun ls hl => ?_)
              have loop3 : ∀ (d y : Nat), y + d = hNow h + 2 → y ≤ hNow h + 1 → ∀ (M1 : hM), QV G M1 S h → ∀ (H : Heap) (locs : List Loc) (ls : Array Slot), hHS G M1 s H locs → lv_has ls 18 [(0, .ref G.2.1), (1, .ref (sA S 0)), (2, .ref tt), (3, .ref bb), (4, .int (nI (sM S))), (5, .int (nI (hNow h))), (6, .long sm), (8, .long (lN (nSum (lfN S (-1)) (sM S)))), (10, .long (lN (nSum (fun j9 => vn (qAm S false j9)) (sM S)))), (12, .int (nI y))] → W p l e (room_1) s m args below meth c H locs (cells + 2 * y) (slots + 8 * y) Q (F0 m 557 ls []) := by
                intro d
                induction d with
                | zero => intro y h1; intros; exact absurd h1 (by omega)
                | succ d ih3 =>
                  intro y h1 h2 M1 hQv H locs ls Y hl
                  have ho0 := hQv.2.2.1.1
                  refine lv_iload hx hb dL_law_557 (lv_at hl 9 rfl) ?_
                  refine lv_iload hx hb dL_law_559 (lv_at hl 5 rfl) ?_
                  refine lv_icmp_gt (tgt := 808) hx hb dL_law_561 (by decide) (fun c561 => ?_) (fun c561 => ?_)
                  · have c561 : (hNow h) < y := (nI_ltI (a := (hNow h)) (b := y) (by omega) (by omega)).mp c561
                    exact law_e l G p e s m args below meth c M1 H locs ls (cells + 2 * y) (slots + 8 * y) Q (by omega) (by omega) X Y S h hQv hGC _ rfl tt bb sm Lx xs hsc hsm (nSum (lfN S (-1)) (sM S)) (nSum (fun j9 => vn (qAm S false j9)) (sM S)) rfl rfl (lv_sub hl [0, 1, 2, 3, 4, 5, 6, 7, 8] rfl) (fun M2 H locs ls Y2 => W.wid (by omega) (by omega) (kk M2 H locs ls Y2))
                  · have c561 : ¬ (hNow h) < y := fun z9 => c561 ((nI_ltI (a := (hNow h)) (b := y) (by omega) (by omega)).mpr z9)
                    exact law_d l G p e s m args below meth c M1 H locs ls (cells + 2 * y) (slots + 8 * y) Q (by omega) (by omega) X Y S h hQv hGC _ rfl tt bb sm (lN (nSum (lfN S (-1)) (sM S))) (lN (nSum (fun j9 => vn (qAm S false j9)) (sM S))) (by omega) (by omega) ht hpr y (by omega) (lv_sub hl [0, 1, 2, 3, 4, 5, 6, 7, 8, 9] rfl) (fun M2 H locs ls Y2 hQ2 hl2 => W.wid (by omega) (by omega) (ih3 (y + 1) (by omega) (by omega) M2 hQ2 H locs ls Y2 hl2))
              exact loop3 (hNow h + 2) 0 (by omega) (by omega) M1 hQv _ _ _ Y (lv_sub hl [1, 2, 3, 4, 5, 6, 7, 8, 9, 0] rfl)
            · have c393 : ¬ 3 ≤ k := fun z9 => c393 ((nI_leI (a := 3) (b := k) (by omega) (by omega)).mpr z9)
              exact law_c l G p e s m args below meth c M1 H locs ls cells slots Q hcs hss X Y S h hQv hGC _ rfl tt bb sm (lN (nSum (lfN S (-1)) (sM S))) (nSum (fun j9 => vn (qAm S false j9)) (sM S)) rfl k (by omega) (lv_sub hl [0, 1, 2, 3, 4, 5, 6, 7, 8, 9] rfl) (fun M2 H locs ls Y2 hQ2 hl2 => ih2 (k + 1) (by omega) (by omega) M2 hQ2 H locs ls Y2 hl2)
        exact loop2 4 0 (by omega) (by omega) M1 hQv _ _ _ Y (lv_sub hl [1, 2, 3, 4, 5, 6, 7, 8, 9, 0] rfl)
      · have c71 : ¬ (sM S) ≤ i := fun z9 => c71 ((nI_leI (a := (sM S)) (b := i) (by omega) (by omega)).mpr z9)
        have hi : i < sM S := by omega
        exact law_a l G p e s m args below meth c M1 H locs ls cells slots Q hcs hss X Y S h hQv hGC _ rfl tt bb sm _ _ i hi (lv_sub hl [0, 1, 2, 3, 4, 5, 6, 7, 8, 9] rfl) (fun M2 H locs ls Y2 hQ2 hl2 => law_b l G p e s m args below meth c M2 H locs ls cells slots Q hcs hss X Y2 S h hQ2 hGC _ rfl tt bb sm (nSum (lfN S (-1)) i) (nSum (fun j9 => vn (qAm S false j9)) i) i hi hl2 (fun M3 H locs ls Y3 hQ3 hl3 => ih (i + 1) (by omega) (by omega) M3 hQ3 H locs ls Y3 hl3))
  exact loop (sM S + 1) 0 (by omega) (by omega) M hQv _ _ _ Y (lv_sub hl [0, 1, 2, 3, 4, 5, 6, 7, 8, 9] rfl)
