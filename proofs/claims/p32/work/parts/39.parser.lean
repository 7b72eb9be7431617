-- THE PARSER
section NESTROWS
variable {G : hG} {p : Program} {l : Launch} {e : Env} {R : Room} {s : State} {m : MethodId} {args : Array Value} {below : List Frame} {meth : Method} {c : Code} {H : Heap} {locs : List Loc} {cells slots : Nat} {Q : State → Prop}
variable {cc : ByteArray} {maxL : Nat} {ret : Option FieldType} {own nm : String} {M : hM} {pc : Nat} {ls : Array Slot} {rest : List Value} {a t ci index n : Nat} {cA : ClassId}
theorem h_getN (X : hCX G p s m args meth c cc maxL ret own nm) (Y : hHS G M s H locs) {k N : Nat} {fs : List Value} {C host : String} {T : u_T} {v : Value} (he : M a = some (t, .inr (ci, fs))) (hcl : vwCl[ci]? = some (C, T, N)) (hin : ∀ w ∈ u_ws C T N, w ∈ hGW) (hk : k < N) (hlink : va_Nw (.fieldLinkNest own index (T k).1 (T k).2.1 (T k).2.2.1 host) s) (hv : fs[k]? = some v) (hdg : decode cc pc = .ok (.getfield index, 3))
    (kk : W p l e R s m args below meth c H locs cells slots Q (F0 m (pc + 3) ls (v :: rest))) : W p l e R s m args below meth c H locs cells slots Q (F0 m pc ls (.ref a :: rest)) :=
  va_getN (D := hD G) (cl := vwCl) X.1 X.2.1 X.2.2.2.2.2.1 hin X.2.2.2.2.1 X.2.2.2.2.2.2.2.1 (Y.1.get he) 0 rfl hcl k hk (va_Nw.use rfl hlink) (fun _ h => h) hv hdg kk
theorem h_putN (X : hCX G p s m args meth c cc maxL ret own nm) (Y : hHS G M s H locs) {k N : Nat} {fs : List Value} {C host : String} {T : u_T} {ty0 : Nat → FieldType} {v : Value} (he : M a = some (t, .inr (ci, fs))) (hcl : vwCl[ci]? = some (C, T, N)) (hin : ∀ w ∈ u_ws C T N, w ∈ hGW) (hty : ∀ k, k < N → parseFieldDescriptor (T k).2.2.1 = some (ty0 k)) (hnm : ∀ a, a < N → ∀ b, b < N → a ≠ b → (T a).2.1 ≠ (T b).2.1)
    (hk : k < N) (hlink : va_Nw (.fieldLinkNest own index (T k).1 (T k).2.1 (T k).2.2.1 host) s) (hfin : (T k).2.2.2 = false) (hn : narrow (ty0 k) v = v) (hfit : fits (ty0 k) v = true) (hl : k < fs.length) (hdg : decode cc pc = .ok (.putfield index, 3))
    (kk : ∀ (H1 : Heap) (locs1 : List Loc), hHS G (hup M a (t, .inr (ci, fs.set k v))) s H1 locs1 → W p l e R s m args below meth c H1 locs1 cells slots Q (F0 m (pc + 3) ls rest)) : W p l e R s m args below meth c H locs cells slots Q (F0 m pc ls (v :: .ref a :: rest)) := by
  obtain ⟨ws, hP, hDw, hw⟩ := Y.1.list
  obtain ⟨k1, hk1⟩ := hw a t _ he
  exact va_putN (D := hD G) (cl := vwCl) X.1 X.2.1 X.2.2.2.2.2.1 hin ty0 hty hnm X.2.2.2.2.1 X.2.2.2.2.2.2.2.1 hP hDw Y.2 k1 hk1 hcl k hk (va_Nw.use rfl hlink) (fun _ h => h) hfin (hty k hk) hn hfit hl hdg fun H1 locs1 hP1 hD1 hS1 => kk H1 locs1 ⟨Y.1.wset hw he hk1 hP1, hS1⟩
end NESTROWS
theorem kfn_X6_94 {G : hG} {s : State} (hs : hSt G) (hr : hR G s) : va_Nw (.fieldLinkNest RX6 94 RX5 "yearly" "LLossHouse$Formula;" "LossHouse") s := va_Nw.warmF hr.1 (va_Nw.of rfl (hW0 hs 1018 (by decide +kernel)))
theorem kfn_X6_101 {G : hG} {s : State} (hs : hSt G) (hr : hR G s) : va_Nw (.fieldLinkNest RX6 101 RX5 "after" "LLossHouse$Formula;" "LossHouse") s := va_Nw.warmF hr.1 (va_Nw.of rfl (hW0 hs 1020 (by decide +kernel)))
theorem kfn_X6_129 {G : hG} {s : State} (hs : hSt G) (hr : hR G s) : va_Nw (.fieldLinkNest RX6 129 RX5 "when" "LLossHouse$Formula;" "LossHouse") s := va_Nw.warmF hr.1 (va_Nw.of rfl (hW0 hs 1022 (by decide +kernel)))
theorem kfn_X2_97 {G : hG} {s : State} (hs : hSt G) (hr : hR G s) : va_Nw (.fieldLinkNest RX2 97 RX5 "net" "I" "LossHouse") s := va_Nw.warmF hr.1 (va_Nw.of rfl (hW0 hs 1028 (by decide +kernel)))
/-- the parser: sc steps are told, the token np is next -/
def PaV (G : hG) (M : hM) (A : Nat → Nat) (sg : Nat → Nat) (sc np : Nat) (sn : Nat → Option Nat) (nn : Nat → Int32) : Prop :=
  M (A 8) = some (8, .inr (8, [.ref (A 3), .ref (A 9), .ref (A 10), .int (nI sc), .int (nI np), .ref (hSg G (sg np))])) ∧ M (A 9) = some (9, .inl (hT G 3, 400, .inr (.inr (.inr (.inr sn))))) ∧ M (A 10) = some (10, .inl (hT G 0, 400, .inl nn))
theorem PaV.fr {G : hG} {Z : Nat → Prop} {M M' : hM} {A : Nat → Nat} {sg : Nat → Nat} {sc np : Nat} {sn : Nat → Option Nat} {nn : Nat → Int32} (h : hFr Z M M') (hz : ¬ Z 8 ∧ ¬ Z 9 ∧ ¬ Z 10) (hV : PaV G M A sg sc np sn nn) : PaV G M' A sg sc np sn nn := ⟨h _ _ _ hV.1 hz.1, h _ _ _ hV.2.1 hz.2.1, h _ _ _ hV.2.2 hz.2.2⟩
def stp (G : hG) (sn : Nat → Option Nat) (i k : Nat) : Nat → Option Nat := va_up sn i (some (hSg G k))
theorem gw_X6_39 : GoodIn hGW (wsV RX6 39 RX9 yX9_signAt (Cond.code yX9_signAt cX9_signAt 2 (Option.some (FieldType.object "LossHouse$Sign")) :: hGW)) := hgi4 kml_X6_39 kin_X9_signAt kse_X9_X9_signAt_X9_signAt kini_X9 kco_X9_signAt
theorem dsc_X9_signAt : yX9_signAt.cls = RX9 ∧ yX9_signAt.cls ≠ "java/lang/invoke/MethodHandle" ∧ yX9_signAt.cls ≠ "java/lang/invoke/VarHandle" ∧ (parseMethodDescriptor yX9_signAt.desc).map (fun d => d.parameters.length) = some 1 := ⟨rfl, by decide +kernel, by decide +kernel, by decide +kernel⟩
theorem dX6_takes_0 : decode cX6_takes 0 = .ok (.aload_n 0, 1) := by decide +kernel
theorem dX6_takes_1 : decode cX6_takes 1 = .ok (.getfield 32, 3) := by decide +kernel
theorem dX6_takes_4 : decode cX6_takes 4 = .ok (.aload_n 1, 1) := by decide +kernel
theorem dX6_takes_5 : decode cX6_takes 5 = .ok (.if_acmp .ne 13, 3) := by decide +kernel
theorem dX6_takes_8 : decode cX6_takes 8 = .ok (.aload_n 0, 1) := by decide +kernel
theorem dX6_takes_9 : decode cX6_takes 9 = .ok (.getfield 32, 3) := by decide +kernel
theorem dX6_takes_12 : decode cX6_takes 12 = .ok (.getstatic 28, 3) := by decide +kernel
theorem dX6_takes_15 : decode cX6_takes 15 = .ok (.if_acmp .ne 5, 3) := by decide +kernel
theorem dX6_takes_20 : decode cX6_takes 20 = .ok (.aload_n 0, 1) := by decide +kernel
theorem dX6_takes_21 : decode cX6_takes 21 = .ok (.dup, 1) := by decide +kernel
theorem dX6_takes_22 : decode cX6_takes 22 = .ok (.getfield 25, 3) := by decide +kernel
theorem dX6_takes_25 : decode cX6_takes 25 = .ok (.iconst 1, 1) := by decide +kernel
theorem dX6_takes_26 : decode cX6_takes 26 = .ok (.iadd, 1) := by decide +kernel
theorem dX6_takes_27 : decode cX6_takes 27 = .ok (.putfield 25, 3) := by decide +kernel
theorem dX6_takes_30 : decode cX6_takes 30 = .ok (.aload_n 0, 1) := by decide +kernel
theorem dX6_takes_31 : decode cX6_takes 31 = .ok (.aload_n 0, 1) := by decide +kernel
theorem dX6_takes_32 : decode cX6_takes 32 = .ok (.getfield 35, 3) := by decide +kernel
theorem dX6_takes_35 : decode cX6_takes 35 = .ok (.aload_n 0, 1) := by decide +kernel
theorem dX6_takes_36 : decode cX6_takes 36 = .ok (.getfield 25, 3) := by decide +kernel
theorem dX6_takes_39 : decode cX6_takes 39 = .ok (.invokevirtual 39, 3) := by decide +kernel
theorem dX6_takes_42 : decode cX6_takes 42 = .ok (.putfield 32, 3) := by decide +kernel
theorem dX6_takes_45 : decode cX6_takes 45 = .ok (.iconst 1, 1) := by decide +kernel
theorem dX6_takes_46 : decode cX6_takes 46 = .ok (.ireturn, 1) := by decide +kernel
set_option maxHeartbeats 400000 in
set_option maxRecDepth 100000 in
theorem c_takesY (l : Launch) (G : hG) (M : hM) (A : Nat → Nat) (N : Nat) (sg : Nat → Nat) (nb : Nat → Int32) (wd : Nat → Int64) (hN : N < 400) (hTk : TkV G M A N sg nb wd) (hs7 : ∀ i, i ≤ N → sg i < 37) (sc np : Nat) (sn : Nat → Option Nat) (nn : Nat → Int32) (hPa : PaV G M A sg sc np sn nn) (k : Nat) (hk7 : k < 37) (hk : sg np = k) (hlt : np < N) : hCT l G yX6_takes cX6_takes 2 (Option.some FieldType.boolean) (hRm 2 0 0) M [.ref (A 8), .ref (hSg G k)] (fun v M' => v = some (.int 1) ∧ PaV G M' A sg sc (np + 1) sn nn ∧ hFr (fun u => u = 8 ∨ u = 9 ∨ u = 10) M M') := by
  refine hCT.of (own := RX6) (nm := "takes") (by decide) rfl rfl (Nat.le_of_ble_eq_true rfl) ?_
  intro p e s m args below meth c ls X Y hl
  have hx := X.1
  have hb := X.2.1
  have hl : lv_has ls 2 [(0, .ref (A 8)), (1, .ref (hSg G k))] := hl
  obtain ⟨hp8, hp9, hp10⟩ := id hPa
  have hfr : hFr (fun u => u = 8 ∨ u = 9 ∨ u = 10) M M := hFr.rf
  have hs9 := hs7 np (by omega)
  refine lv_aload_n hx hb dX6_takes_0 rfl (lv_at hl 0 rfl) ?_
  refine h_get X Y (k := 5) (v := .ref (hSg G (sg np))) hp8 rfl hin_X6 (by decide) kfl_X6_32 rfl dX6_takes_1 ?_
  refine lv_aload_n hx hb dX6_takes_4 rfl (lv_at hl 1 rfl) ?_
  refine lv_acmp_ne (rx := some (hSg G (sg np))) (ry := some (hSg G k)) (tgt := 18) hx hb dX6_takes_5 (by decide) (fun c5 => absurd (congrArg (fun z => some (hSg G z)) hk) c5) (fun c5 => ?_)
  refine lv_aload_n hx hb dX6_takes_8 rfl (lv_at hl 0 rfl) ?_
  refine h_get X Y (k := 5) (v := .ref (hSg G (sg np))) hp8 rfl hin_X6 (by decide) kfl_X6_32 rfl dX6_takes_9 ?_
  refine h_gets X Y (hsg_Z X.2.2.2.2.2.2.2.2.1 X.2.2.2.2.2.2.2.2.2.1 (k := 37) (by decide)) kfl_X6_28 dX6_takes_12 ?_
  refine lv_acmp_ne (rx := some (hSg G (sg np))) (ry := some (hSg G 37)) (tgt := 20) hx hb dX6_takes_15 (by decide) (fun c15 => ?_) (fun c15 => absurd (hsg_inj X.2.2.2.2.2.2.2.2.1 (by omega) (by omega) (Option.some.inj c15)) (by omega))
  refine lv_aload_n hx hb dX6_takes_20 rfl (lv_at hl 0 rfl) ?_
  refine lv_dup hx hb dX6_takes_21 rfl ?_
  refine h_get X Y (k := 4) (v := .int (nI np)) hp8 rfl hin_X6 (by decide) kfl_X6_25 rfl dX6_takes_22 ?_
  refine lv_iconst (v := 1) hx hb dX6_takes_25 (by decide) ?_
  refine lv_iadd hx hb dX6_takes_26 ?_
  refine h_ev (y := nI (np + 1)) (nI_1 np) ?_
  refine h_put X Y (k := 4) (v := .int (nI (np + 1))) hp8 rfl hin_X6 tyX6_ok nmX6 (by decide) kfl_X6_25 rfl rfl rfl (Nat.le_of_ble_eq_true rfl) dX6_takes_27 (fun H locs Y => ?_)
  have Y : hHS G (hup M (A 8) (8, .inr (8, [.ref (A 3), .ref (A 9), .ref (A 10), .int (nI sc), .int (nI (np + 1)), .ref (hSg G (sg np))]))) s H locs := Y
  have hp9 := hup_tag (x := (8, .inr (8, [.ref (A 3), .ref (A 9), .ref (A 10), .int (nI sc), .int (nI (np + 1)), .ref (hSg G (sg np))]))) hp9 hp8 (by omega)
  have hp10 := hup_tag (x := (8, .inr (8, [.ref (A 3), .ref (A 9), .ref (A 10), .int (nI sc), .int (nI (np + 1)), .ref (hSg G (sg np))]))) hp10 hp8 (by omega)
  have hTk := hTk.fr (Z := fun u => u = 8 ∨ u = 9 ∨ u = 10) (hFr.put (x := (8, .inr (8, [.ref (A 3), .ref (A 9), .ref (A 10), .int (nI sc), .int (nI (np + 1)), .ref (hSg G (sg np))]))) hFr.rf hp8 (by omega)) (fun j z1 z2 z3 => by omega)
  have hfr := hfr.put (x := (8, .inr (8, [.ref (A 3), .ref (A 9), .ref (A 10), .int (nI sc), .int (nI (np + 1)), .ref (hSg G (sg np))]))) hp8 (Or.inl rfl)
  have hp8 : hup M (A 8) (8, .inr (8, [.ref (A 3), .ref (A 9), .ref (A 10), .int (nI sc), .int (nI (np + 1)), .ref (hSg G (sg np))])) (A 8) = some (8, .inr (8, [.ref (A 3), .ref (A 9), .ref (A 10), .int (nI sc), .int (nI (np + 1)), .ref (hSg G (sg np))])) := hup_eq
  generalize hup M (A 8) (8, .inr (8, [.ref (A 3), .ref (A 9), .ref (A 10), .int (nI sc), .int (nI (np + 1)), .ref (hSg G (sg np))])) = Mz1 at Y hp8 hp9 hp10 hTk hfr
  refine lv_aload_n hx hb dX6_takes_30 rfl (lv_at hl 0 rfl) ?_
  refine lv_aload_n hx hb dX6_takes_31 rfl (lv_at hl 0 rfl) ?_
  refine h_get X Y (k := 0) (v := .ref (A 3)) hp8 rfl hin_X6 (by decide) kfl_X6_35 rfl dX6_takes_32 ?_
  refine lv_aload_n hx hb dX6_takes_35 rfl (lv_at hl 0 rfl) ?_
  refine h_get X Y (k := 4) (v := .int (nI (np + 1))) hp8 rfl hin_X6 (by decide) kfl_X6_25 rfl dX6_takes_36 ?_
  refine h_callVr (rest := [.ref (A 8)]) X Y (c_signAt l G Mz1 A N sg nb wd hN hTk (np + 1) (by omega)) rfl rfl gw_X6_39 dsc_X9_signAt hTk.1 rfl rfl rfl rfl hl.1 (Nat.le_of_ble_eq_true rfl) ⟨Nat.le_of_ble_eq_true rfl, Nat.le_of_ble_eq_true rfl⟩ ⟨Nat.le_of_ble_eq_true rfl, Nat.le_of_ble_eq_true rfl⟩ dX6_takes_39 (fun H locs Y => ?_)
  refine h_put X Y (k := 5) (v := .ref (hSg G (sg (np + 1)))) hp8 rfl hin_X6 tyX6_ok nmX6 (by decide) kfl_X6_32 rfl rfl rfl (Nat.le_of_ble_eq_true rfl) dX6_takes_42 (fun H locs Y => ?_)
  have Y : hHS G (hup Mz1 (A 8) (8, .inr (8, [.ref (A 3), .ref (A 9), .ref (A 10), .int (nI sc), .int (nI (np + 1)), .ref (hSg G (sg (np + 1)))]))) s H locs := Y
  have hp9 := hup_tag (x := (8, .inr (8, [.ref (A 3), .ref (A 9), .ref (A 10), .int (nI sc), .int (nI (np + 1)), .ref (hSg G (sg (np + 1)))]))) hp9 hp8 (by omega)
  have hp10 := hup_tag (x := (8, .inr (8, [.ref (A 3), .ref (A 9), .ref (A 10), .int (nI sc), .int (nI (np + 1)), .ref (hSg G (sg (np + 1)))]))) hp10 hp8 (by omega)
  have hTk := hTk.fr (Z := fun u => u = 8 ∨ u = 9 ∨ u = 10) (hFr.put (x := (8, .inr (8, [.ref (A 3), .ref (A 9), .ref (A 10), .int (nI sc), .int (nI (np + 1)), .ref (hSg G (sg (np + 1)))]))) hFr.rf hp8 (by omega)) (fun j z1 z2 z3 => by omega)
  have hfr := hfr.put (x := (8, .inr (8, [.ref (A 3), .ref (A 9), .ref (A 10), .int (nI sc), .int (nI (np + 1)), .ref (hSg G (sg (np + 1)))]))) hp8 (Or.inl rfl)
  have hp8 : hup Mz1 (A 8) (8, .inr (8, [.ref (A 3), .ref (A 9), .ref (A 10), .int (nI sc), .int (nI (np + 1)), .ref (hSg G (sg (np + 1)))])) (A 8) = some (8, .inr (8, [.ref (A 3), .ref (A 9), .ref (A 10), .int (nI sc), .int (nI (np + 1)), .ref (hSg G (sg (np + 1)))])) := hup_eq
  generalize hup Mz1 (A 8) (8, .inr (8, [.ref (A 3), .ref (A 9), .ref (A 10), .int (nI sc), .int (nI (np + 1)), .ref (hSg G (sg (np + 1)))])) = Mz2 at Y hp8 hp9 hp10 hTk hfr
  refine lv_iconst (v := 1) hx hb dX6_takes_45 (by decide) ?_
  exact h_zret X Y rfl ⟨rfl, ⟨hp8, hp9, hp10⟩, hfr⟩ (Nat.le_of_ble_eq_true rfl) (Nat.le_of_ble_eq_true rfl) dX6_takes_46
theorem dX6_takes_18 : decode cX6_takes 18 = .ok (.iconst 0, 1) := by decide +kernel
theorem dX6_takes_19 : decode cX6_takes 19 = .ok (.ireturn, 1) := by decide +kernel
set_option maxHeartbeats 400000 in
set_option maxRecDepth 100000 in
theorem c_takesN (l : Launch) (G : hG) (M : hM) (A : Nat → Nat) (N : Nat) (sg : Nat → Nat) (nb : Nat → Int32) (wd : Nat → Int64) (hN : N < 400) (hTk : TkV G M A N sg nb wd) (hs7 : ∀ i, i ≤ N → sg i < 37) (sc np : Nat) (sn : Nat → Option Nat) (nn : Nat → Int32) (hPa : PaV G M A sg sc np sn nn) (k : Nat) (hk7 : k < 37) (hk : sg np ≠ k) (hp : np ≤ N) : hCT l G yX6_takes cX6_takes 2 (Option.some FieldType.boolean) (hRm 2 0 0) M [.ref (A 8), .ref (hSg G k)] (hRd M (.int 0)) := by
  refine hCT.of (own := RX6) (nm := "takes") (by decide) rfl rfl (Nat.le_of_ble_eq_true rfl) ?_
  intro p e s m args below meth c ls X Y hl
  have hx := X.1
  have hb := X.2.1
  have hl : lv_has ls 2 [(0, .ref (A 8)), (1, .ref (hSg G k))] := hl
  have hs9 := hs7 np hp
  refine lv_aload_n hx hb dX6_takes_0 rfl (lv_at hl 0 rfl) ?_
  refine h_get X Y (k := 5) (v := .ref (hSg G (sg np))) hPa.1 rfl hin_X6 (by decide) kfl_X6_32 rfl dX6_takes_1 ?_
  refine lv_aload_n hx hb dX6_takes_4 rfl (lv_at hl 1 rfl) ?_
  refine lv_acmp_ne (rx := some (hSg G (sg np))) (ry := some (hSg G k)) (tgt := 18) hx hb dX6_takes_5 (by decide) (fun c5 => ?_) (fun c5 => absurd (hsg_inj X.2.2.2.2.2.2.2.2.1 (by omega) (by omega) (Option.some.inj c5)) hk)
  refine lv_iconst (v := 0) hx hb dX6_takes_18 (by decide) ?_
  exact h_zret X Y rfl ⟨rfl, rfl⟩ (Nat.le_refl _) (Nat.le_refl _) dX6_takes_19
theorem gw_X6_51 : GoodIn hGW (wsV RX6 51 RX6 yX6_takes (Cond.code yX6_takes cX6_takes 2 (Option.some FieldType.boolean) :: hGW)) := hgi4 kml_X6_51 kin_X6_takes kse_X6_X6_takes_X6_takes kini_X6 kco_X6_takes
theorem dsc_X6_takes : yX6_takes.cls = RX6 ∧ yX6_takes.cls ≠ "java/lang/invoke/MethodHandle" ∧ yX6_takes.cls ≠ "java/lang/invoke/VarHandle" ∧ (parseMethodDescriptor yX6_takes.desc).map (fun d => d.parameters.length) = some 1 := ⟨rfl, by decide +kernel, by decide +kernel, by decide +kernel⟩
theorem dX6_takesDeeper_0 : decode cX6_takesDeeper 0 = .ok (.iload_n 2, 1) := by decide +kernel
theorem dX6_takesDeeper_1 : decode cX6_takesDeeper 1 = .ok (.bipush 8, 2) := by decide +kernel
theorem dX6_takesDeeper_3 : decode cX6_takesDeeper 3 = .ok (.if_icmp .ge 15, 3) := by decide +kernel
theorem dX6_takesDeeper_6 : decode cX6_takesDeeper 6 = .ok (.aload_n 0, 1) := by decide +kernel
theorem dX6_takesDeeper_7 : decode cX6_takesDeeper 7 = .ok (.aload_n 1, 1) := by decide +kernel
theorem dX6_takesDeeper_8 : decode cX6_takesDeeper 8 = .ok (.invokevirtual 51, 3) := by decide +kernel
theorem dX6_takesDeeper_11 : decode cX6_takesDeeper 11 = .ok (.ifCond .eq 7, 3) := by decide +kernel
theorem dX6_takesDeeper_18 : decode cX6_takesDeeper 18 = .ok (.iconst 0, 1) := by decide +kernel
theorem dX6_takesDeeper_19 : decode cX6_takesDeeper 19 = .ok (.ireturn, 1) := by decide +kernel
set_option maxHeartbeats 400000 in
set_option maxRecDepth 100000 in
theorem c_tdN (l : Launch) (G : hG) (M : hM) (A : Nat → Nat) (N : Nat) (sg : Nat → Nat) (nb : Nat → Int32) (wd : Nat → Int64) (hN : N < 400) (hTk : TkV G M A N sg nb wd) (hs7 : ∀ i, i ≤ N → sg i < 37) (sc np : Nat) (sn : Nat → Option Nat) (nn : Nat → Int32) (hPa : PaV G M A sg sc np sn nn) (k dp : Nat) (hd8 : dp < 8) (hk7 : k < 37) (hk : sg np ≠ k) (hp : np ≤ N) : hCT l G yX6_takesDeeper cX6_takesDeeper 3 (Option.some FieldType.boolean) (hRm 3 0 0) M [.ref (A 8), .ref (hSg G k), .int (nI dp)] (hRd M (.int 0)) := by
  refine hCT.of (own := RX6) (nm := "takesDeeper") (by decide) rfl rfl (Nat.le_of_ble_eq_true rfl) ?_
  intro p e s m args below meth c ls X Y hl
  have hx := X.1
  have hb := X.2.1
  have hl : lv_has ls 3 [(0, .ref (A 8)), (1, .ref (hSg G k)), (2, .int (nI dp))] := hl
  refine lv_iload_n hx hb dX6_takesDeeper_0 rfl (lv_at hl 2 rfl) ?_
  refine lv_bipush (v := 8) hx hb dX6_takesDeeper_1 (by decide) ?_
  refine lv_icmp_ge (tgt := 18) hx hb dX6_takesDeeper_3 (by decide) (fun c3 => absurd (show 8 ≤ dp from (nI_leI (a := 8) (b := dp) (by omega) (by omega)).mp c3) (by omega)) (fun c3 => ?_)
  have c3 : ¬ 8 ≤ dp := fun z9 => c3 ((nI_leI (a := 8) (b := dp) (by omega) (by omega)).mpr z9)
  refine lv_aload_n hx hb dX6_takesDeeper_6 rfl (lv_at hl 0 rfl) ?_
  refine lv_aload_n hx hb dX6_takesDeeper_7 rfl (lv_at hl 1 rfl) ?_
  refine h_callVr (rest := []) X Y (c_takesN l G M A N sg nb wd hN hTk hs7 sc np sn nn hPa k (by omega) hk (by omega)) rfl rfl gw_X6_51 dsc_X6_takes hPa.1 rfl rfl rfl rfl hl.1 (Nat.le_of_ble_eq_true rfl) ⟨Nat.le_of_ble_eq_true rfl, Nat.le_of_ble_eq_true rfl⟩ ⟨Nat.le_of_ble_eq_true rfl, Nat.le_of_ble_eq_true rfl⟩ dX6_takesDeeper_8 (fun H locs Y => ?_)
  refine lv_if_eq (tgt := 18) hx hb dX6_takesDeeper_11 (by decide) (fun c11 => ?_) (fun c11 => absurd (by decide) c11)
  refine lv_iconst (v := 0) hx hb dX6_takesDeeper_18 (by decide) ?_
  exact h_zret X Y rfl ⟨rfl, rfl⟩ (Nat.le_refl _) (Nat.le_refl _) dX6_takesDeeper_19
theorem dX6_takesDeeper_14 : decode cX6_takesDeeper 14 = .ok (.iconst 1, 1) := by decide +kernel
theorem dX6_takesDeeper_15 : decode cX6_takesDeeper 15 = .ok (.goto 4, 3) := by decide +kernel
set_option maxHeartbeats 400000 in
set_option maxRecDepth 100000 in
theorem c_tdY (l : Launch) (G : hG) (M : hM) (A : Nat → Nat) (N : Nat) (sg : Nat → Nat) (nb : Nat → Int32) (wd : Nat → Int64) (hN : N < 400) (hTk : TkV G M A N sg nb wd) (hs7 : ∀ i, i ≤ N → sg i < 37) (sc np : Nat) (sn : Nat → Option Nat) (nn : Nat → Int32) (hPa : PaV G M A sg sc np sn nn) (k dp : Nat) (hd8 : dp < 8) (hk7 : k < 37) (hk : sg np = k) (hlt : np < N) : hCT l G yX6_takesDeeper cX6_takesDeeper 3 (Option.some FieldType.boolean) (hRm 3 0 0) M [.ref (A 8), .ref (hSg G k), .int (nI dp)] (fun v M' => v = some (.int 1) ∧ PaV G M' A sg sc (np + 1) sn nn ∧ hFr (fun u => u = 8 ∨ u = 9 ∨ u = 10) M M') := by
  refine hCT.of (own := RX6) (nm := "takesDeeper") (by decide) rfl rfl (Nat.le_of_ble_eq_true rfl) ?_
  intro p e s m args below meth c ls X Y hl
  have hx := X.1
  have hb := X.2.1
  have hl : lv_has ls 3 [(0, .ref (A 8)), (1, .ref (hSg G k)), (2, .int (nI dp))] := hl
  have hfr : hFr (fun u => u = 8 ∨ u = 9 ∨ u = 10) M M := hFr.rf
  refine lv_iload_n hx hb dX6_takesDeeper_0 rfl (lv_at hl 2 rfl) ?_
  refine lv_bipush (v := 8) hx hb dX6_takesDeeper_1 (by decide) ?_
  refine lv_icmp_ge (tgt := 18) hx hb dX6_takesDeeper_3 (by decide) (fun c3 => absurd (show 8 ≤ dp from (nI_leI (a := 8) (b := dp) (by omega) (by omega)).mp c3) (by omega)) (fun c3 => ?_)
  have c3 : ¬ 8 ≤ dp := fun z9 => c3 ((nI_leI (a := 8) (b := dp) (by omega) (by omega)).mpr z9)
  refine lv_aload_n hx hb dX6_takesDeeper_6 rfl (lv_at hl 0 rfl) ?_
  refine lv_aload_n hx hb dX6_takesDeeper_7 rfl (lv_at hl 1 rfl) ?_
  refine h_callV (rest := []) X Y (c_takesY l G M A N sg nb wd hN hTk hs7 sc np sn nn hPa k (by omega) hk (by omega)) gw_X6_51 dsc_X6_takes hPa.1 rfl rfl rfl hl.1 rfl (Nat.le_of_ble_eq_true rfl) ⟨Nat.le_of_ble_eq_true rfl, Nat.le_of_ble_eq_true rfl⟩ ⟨Nat.le_of_ble_eq_true rfl, Nat.le_of_ble_eq_true rfl⟩ dX6_takesDeeper_8 ?_
  rintro _ Mz1 H locs ⟨rfl, hPa, hfa⟩ Y
  try dsimp only [Option.toList, List.nil_append, List.singleton_append]
  have hTk := hTk.fr hfa (fun j z1 z2 z3 => by omega)
  have hfr := hFr.tr hfr hfa
  refine lv_if_eq (tgt := 18) hx hb dX6_takesDeeper_11 (by decide) (fun c11 => absurd c11 (by decide)) (fun c11 => ?_)
  refine lv_iconst (v := 1) hx hb dX6_takesDeeper_14 (by decide) ?_
  refine lv_goto (tgt := 19) hx hb dX6_takesDeeper_15 (by decide) ?_
  exact h_zret X Y rfl ⟨rfl, hPa, hfr⟩ (Nat.le_of_ble_eq_true rfl) (Nat.le_of_ble_eq_true rfl) dX6_takesDeeper_19
theorem dX6_need_0 : decode cX6_need 0 = .ok (.aload_n 0, 1) := by decide +kernel
theorem dX6_need_1 : decode cX6_need 1 = .ok (.aload_n 1, 1) := by decide +kernel
theorem dX6_need_2 : decode cX6_need 2 = .ok (.invokevirtual 51, 3) := by decide +kernel
theorem dX6_need_5 : decode cX6_need 5 = .ok (.ifCond .ne 10, 3) := by decide +kernel
theorem dX6_need_15 : decode cX6_need 15 = .ok (.return_, 1) := by decide +kernel
set_option maxHeartbeats 400000 in
set_option maxRecDepth 100000 in
theorem c_need (l : Launch) (G : hG) (M : hM) (A : Nat → Nat) (N : Nat) (sg : Nat → Nat) (nb : Nat → Int32) (wd : Nat → Int64) (hN : N < 400) (hTk : TkV G M A N sg nb wd) (hs7 : ∀ i, i ≤ N → sg i < 37) (sc np : Nat) (sn : Nat → Option Nat) (nn : Nat → Int32) (hPa : PaV G M A sg sc np sn nn) (k : Nat) (hk7 : k < 37) (hk : sg np = k) (hlt : np < N) : hCT l G yX6_need cX6_need 2 (Option.none) (hRm 3 0 0) M [.ref (A 8), .ref (hSg G k)] (fun v M' => v = none ∧ PaV G M' A sg sc (np + 1) sn nn ∧ hFr (fun u => u = 8 ∨ u = 9 ∨ u = 10) M M') := by
  refine hCT.of (own := RX6) (nm := "need") (by decide) rfl rfl (Nat.le_of_ble_eq_true rfl) ?_
  intro p e s m args below meth c ls X Y hl
  have hx := X.1
  have hb := X.2.1
  have hl : lv_has ls 2 [(0, .ref (A 8)), (1, .ref (hSg G k))] := hl
  have hfr : hFr (fun u => u = 8 ∨ u = 9 ∨ u = 10) M M := hFr.rf
  refine lv_aload_n hx hb dX6_need_0 rfl (lv_at hl 0 rfl) ?_
  refine lv_aload_n hx hb dX6_need_1 rfl (lv_at hl 1 rfl) ?_
  refine h_callV (rest := []) X Y (c_takesY l G M A N sg nb wd hN hTk hs7 sc np sn nn hPa k (by omega) hk (by omega)) gw_X6_51 dsc_X6_takes hPa.1 rfl rfl rfl hl.1 rfl (Nat.le_of_ble_eq_true rfl) ⟨Nat.le_of_ble_eq_true rfl, Nat.le_of_ble_eq_true rfl⟩ ⟨Nat.le_of_ble_eq_true rfl, Nat.le_of_ble_eq_true rfl⟩ dX6_need_2 ?_
  rintro _ Mz1 H locs ⟨rfl, hPa, hfa⟩ Y
  try dsimp only [Option.toList, List.nil_append, List.singleton_append]
  have hTk := hTk.fr hfa (fun j z1 z2 z3 => by omega)
  have hfr := hFr.tr hfr hfa
  refine lv_if_ne (tgt := 15) hx hb dX6_need_5 (by decide) (fun c5 => ?_) (fun c5 => absurd c5 (by decide))
  exact h_vret X Y ⟨rfl, hPa, hfr⟩ (Nat.le_of_ble_eq_true rfl) (Nat.le_of_ble_eq_true rfl) dX6_need_15
theorem dX6_needEach_0 : decode cX6_needEach 0 = .ok (.iconst 0, 1) := by decide +kernel
theorem dX6_needEach_1 : decode cX6_needEach 1 = .ok (.istore_n 3, 1) := by decide +kernel
theorem dX6_needEach_2 : decode cX6_needEach 2 = .ok (.iload_n 3, 1) := by decide +kernel
theorem dX6_needEach_3 : decode cX6_needEach 3 = .ok (.sipush 400, 3) := by decide +kernel
theorem dX6_needEach_6 : decode cX6_needEach 6 = .ok (.if_icmp .ge 22, 3) := by decide +kernel
theorem dX6_needEach_9 : decode cX6_needEach 9 = .ok (.aload_n 0, 1) := by decide +kernel
theorem dX6_needEach_10 : decode cX6_needEach 10 = .ok (.aload_n 1, 1) := by decide +kernel
theorem dX6_needEach_11 : decode cX6_needEach 11 = .ok (.invokevirtual 51, 3) := by decide +kernel
theorem dX6_needEach_14 : decode cX6_needEach 14 = .ok (.ifCond .eq 14, 3) := by decide +kernel
theorem dX6_needEach_28 : decode cX6_needEach 28 = .ok (.return_, 1) := by decide +kernel
set_option maxHeartbeats 400000 in
set_option maxRecDepth 100000 in
theorem c_needEach0 (l : Launch) (G : hG) (M : hM) (A : Nat → Nat) (N : Nat) (sg : Nat → Nat) (nb : Nat → Int32) (wd : Nat → Int64) (hN : N < 400) (hTk : TkV G M A N sg nb wd) (hs7 : ∀ i, i ≤ N → sg i < 37) (sc np : Nat) (sn : Nat → Option Nat) (nn : Nat → Int32) (hPa : PaV G M A sg sc np sn nn) (k k2 : Nat) (hk7 : k < 37) (hk : sg np ≠ k) (hp : np ≤ N) : hCT l G yX6_needEach cX6_needEach 4 (Option.none) (hRm 4 0 0) M [.ref (A 8), .ref (hSg G k), .ref (hSg G k2)] (fun v M' => v = none ∧ PaV G M' A sg sc np sn nn ∧ hFr (fun u => u = 8 ∨ u = 9 ∨ u = 10) M M') := by
  refine hCT.of (own := RX6) (nm := "needEach") (by decide) rfl rfl (Nat.le_of_ble_eq_true rfl) ?_
  intro p e s m args below meth c ls X Y hl
  have hx := X.1
  have hb := X.2.1
  have hl : lv_has ls 4 [(0, .ref (A 8)), (1, .ref (hSg G k)), (2, .ref (hSg G k2))] := hl
  have hfr : hFr (fun u => u = 8 ∨ u = 9 ∨ u = 10) M M := hFr.rf
  refine lv_iconst (v := 0) hx hb dX6_needEach_0 (by decide) ?_
  refine lv_istore_n (lv' := [(3, .int 0), (0, .ref (A 8)), (1, .ref (hSg G k)), (2, .ref (hSg G k2))]) hx hb dX6_needEach_1 rfl hl (by decide) rfl (fun ls hl => ?_)
  refine lv_iload_n hx hb dX6_needEach_2 rfl (lv_at hl 0 rfl) ?_
  refine lv_sipush (v := 400) hx hb dX6_needEach_3 (by decide) ?_
  refine lv_icmp_ge (tgt := 28) hx hb dX6_needEach_6 (by decide) (fun c6 => absurd c6 (by decide)) (fun c6 => ?_)
  refine lv_aload_n hx hb dX6_needEach_9 rfl (lv_at hl 1 rfl) ?_
  refine lv_aload_n hx hb dX6_needEach_10 rfl (lv_at hl 2 rfl) ?_
  refine h_callVr (rest := []) X Y (c_takesN l G M A N sg nb wd hN hTk hs7 sc np sn nn hPa k (by omega) hk (by omega)) rfl rfl gw_X6_51 dsc_X6_takes hPa.1 rfl rfl rfl rfl hl.1 (Nat.le_of_ble_eq_true rfl) ⟨Nat.le_of_ble_eq_true rfl, Nat.le_of_ble_eq_true rfl⟩ ⟨Nat.le_of_ble_eq_true rfl, Nat.le_of_ble_eq_true rfl⟩ dX6_needEach_11 (fun H locs Y => ?_)
  refine lv_if_eq (tgt := 28) hx hb dX6_needEach_14 (by decide) (fun c14 => ?_) (fun c14 => absurd (by decide) c14)
  exact h_vret X Y ⟨rfl, hPa, hfr⟩ (Nat.le_of_ble_eq_true rfl) (Nat.le_of_ble_eq_true rfl) dX6_needEach_28
theorem gw_X6_69 : GoodIn hGW (wsV RX6 69 RX6 yX6_need (Cond.code yX6_need cX6_need 2 (Option.none) :: hGW)) := hgi4 kml_X6_69 kin_X6_need kse_X6_X6_need_X6_need kini_X6 kco_X6_need
theorem dsc_X6_need : yX6_need.cls = RX6 ∧ yX6_need.cls ≠ "java/lang/invoke/MethodHandle" ∧ yX6_need.cls ≠ "java/lang/invoke/VarHandle" ∧ (parseMethodDescriptor yX6_need.desc).map (fun d => d.parameters.length) = some 1 := ⟨rfl, by decide +kernel, by decide +kernel, by decide +kernel⟩
theorem dX6_needEach_17 : decode cX6_needEach 17 = .ok (.aload_n 0, 1) := by decide +kernel
theorem dX6_needEach_18 : decode cX6_needEach 18 = .ok (.aload_n 2, 1) := by decide +kernel
theorem dX6_needEach_19 : decode cX6_needEach 19 = .ok (.invokevirtual 69, 3) := by decide +kernel
theorem dX6_needEach_22 : decode cX6_needEach 22 = .ok (.iinc 3 1, 3) := by decide +kernel
theorem dX6_needEach_25 : decode cX6_needEach 25 = .ok (.goto (-23), 3) := by decide +kernel
set_option maxHeartbeats 400000 in
set_option maxRecDepth 100000 in
theorem c_needEach1 (l : Launch) (G : hG) (M : hM) (A : Nat → Nat) (N : Nat) (sg : Nat → Nat) (nb : Nat → Int32) (wd : Nat → Int64) (hN : N < 400) (hTk : TkV G M A N sg nb wd) (hs7 : ∀ i, i ≤ N → sg i < 37) (sc np : Nat) (sn : Nat → Option Nat) (nn : Nat → Int32) (hPa : PaV G M A sg sc np sn nn) (k k2 : Nat) (hk7 : k < 37) (hk27 : k2 < 37) (hk : sg np = k) (hk2 : sg (np + 1) = k2) (hk3 : sg (np + 2) ≠ k) (hlt : np + 2 ≤ N) : hCT l G yX6_needEach cX6_needEach 4 (Option.none) (hRm 4 0 0) M [.ref (A 8), .ref (hSg G k), .ref (hSg G k2)] (fun v M' => v = none ∧ PaV G M' A sg sc (np + 2) sn nn ∧ hFr (fun u => u = 8 ∨ u = 9 ∨ u = 10) M M') := by
  refine hCT.of (own := RX6) (nm := "needEach") (by decide) rfl rfl (Nat.le_of_ble_eq_true rfl) ?_
  intro p e s m args below meth c ls X Y hl
  have hx := X.1
  have hb := X.2.1
  have hl : lv_has ls 4 [(0, .ref (A 8)), (1, .ref (hSg G k)), (2, .ref (hSg G k2))] := hl
  have hfr : hFr (fun u => u = 8 ∨ u = 9 ∨ u = 10) M M := hFr.rf
  refine lv_iconst (v := 0) hx hb dX6_needEach_0 (by decide) ?_
  refine lv_istore_n (lv' := [(3, .int 0), (0, .ref (A 8)), (1, .ref (hSg G k)), (2, .ref (hSg G k2))]) hx hb dX6_needEach_1 rfl hl (by decide) rfl (fun ls hl => ?_)
  refine lv_iload_n hx hb dX6_needEach_2 rfl (lv_at hl 0 rfl) ?_
  refine lv_sipush (v := 400) hx hb dX6_needEach_3 (by decide) ?_
  refine lv_icmp_ge (tgt := 28) hx hb dX6_needEach_6 (by decide) (fun c6 => absurd c6 (by decide)) (fun c6 => ?_)
  refine lv_aload_n hx hb dX6_needEach_9 rfl (lv_at hl 1 rfl) ?_
  refine lv_aload_n hx hb dX6_needEach_10 rfl (lv_at hl 2 rfl) ?_
  refine h_callV (rest := []) X Y (c_takesY l G M A N sg nb wd hN hTk hs7 sc np sn nn hPa k (by omega) hk (by omega)) gw_X6_51 dsc_X6_takes hPa.1 rfl rfl rfl hl.1 rfl (Nat.le_of_ble_eq_true rfl) ⟨Nat.le_of_ble_eq_true rfl, Nat.le_of_ble_eq_true rfl⟩ ⟨Nat.le_of_ble_eq_true rfl, Nat.le_of_ble_eq_true rfl⟩ dX6_needEach_11 ?_
  rintro _ Mz1 H locs ⟨rfl, hPa, hfa⟩ Y
  try dsimp only [Option.toList, List.nil_append, List.singleton_append]
  have hTk := hTk.fr hfa (fun j z1 z2 z3 => by omega)
  have hfr := hFr.tr hfr hfa
  refine lv_if_eq (tgt := 28) hx hb dX6_needEach_14 (by decide) (fun c14 => absurd c14 (by decide)) (fun c14 => ?_)
  refine lv_aload_n hx hb dX6_needEach_17 rfl (lv_at hl 1 rfl) ?_
  refine lv_aload_n hx hb dX6_needEach_18 rfl (lv_at hl 3 rfl) ?_
  refine h_callV (rest := []) X Y (c_need l G Mz1 A N sg nb wd hN hTk hs7 sc (np + 1) sn nn hPa k2 (by omega) hk2 (by omega)) gw_X6_69 dsc_X6_need hPa.1 rfl rfl rfl hl.1 rfl (Nat.le_of_ble_eq_true rfl) ⟨Nat.le_of_ble_eq_true rfl, Nat.le_of_ble_eq_true rfl⟩ ⟨Nat.le_of_ble_eq_true rfl, Nat.le_of_ble_eq_true rfl⟩ dX6_needEach_19 ?_
  rintro _ Mz2 H locs ⟨rfl, hPa, hfa⟩ Y
  try dsimp only [Option.toList, List.nil_append, List.singleton_append]
  have hTk := hTk.fr hfa (fun j z1 z2 z3 => by omega)
  have hfr := hFr.tr hfr hfa
  refine lv_iinc (v := nI 1) (lv' := [(3, .int (nI 1)), (0, .ref (A 8)), (1, .ref (hSg G k)), (2, .ref (hSg G k2))]) hx hb dX6_needEach_22 hl (k := 0) rfl (by decide) (by decide) rfl (fun ls hl => ?_)
  refine lv_goto (tgt := 2) hx hb dX6_needEach_25 (by decide) ?_
  refine lv_iload_n hx hb dX6_needEach_2 rfl (lv_at hl 0 rfl) ?_
  refine lv_sipush (v := 400) hx hb dX6_needEach_3 (by decide) ?_
  refine lv_icmp_ge (tgt := 28) hx hb dX6_needEach_6 (by decide) (fun c6 => absurd c6 (by decide)) (fun c6 => ?_)
  refine lv_aload_n hx hb dX6_needEach_9 rfl (lv_at hl 1 rfl) ?_
  refine lv_aload_n hx hb dX6_needEach_10 rfl (lv_at hl 2 rfl) ?_
  refine h_callVr (rest := []) X Y (c_takesN l G Mz2 A N sg nb wd hN hTk hs7 sc (np + 2) sn nn hPa k (by omega) hk3 (by omega)) rfl rfl gw_X6_51 dsc_X6_takes hPa.1 rfl rfl rfl rfl hl.1 (Nat.le_of_ble_eq_true rfl) ⟨Nat.le_of_ble_eq_true rfl, Nat.le_of_ble_eq_true rfl⟩ ⟨Nat.le_of_ble_eq_true rfl, Nat.le_of_ble_eq_true rfl⟩ dX6_needEach_11 (fun H locs Y => ?_)
  refine lv_if_eq (tgt := 28) hx hb dX6_needEach_14 (by decide) (fun c14 => ?_) (fun c14 => absurd (by decide) c14)
  exact h_vret X Y ⟨rfl, hPa, hfr⟩ (Nat.le_of_ble_eq_true rfl) (Nat.le_of_ble_eq_true rfl) dX6_needEach_28
theorem dX6_step_0 : decode cX6_step 0 = .ok (.aload_n 0, 1) := by decide +kernel
theorem dX6_step_1 : decode cX6_step 1 = .ok (.getfield 21, 3) := by decide +kernel
theorem dX6_step_4 : decode cX6_step 4 = .ok (.ifCond .lt 57, 3) := by decide +kernel
theorem dX6_step_7 : decode cX6_step 7 = .ok (.aload_n 0, 1) := by decide +kernel
theorem dX6_step_8 : decode cX6_step 8 = .ok (.getfield 21, 3) := by decide +kernel
theorem dX6_step_11 : decode cX6_step 11 = .ok (.aload_n 0, 1) := by decide +kernel
theorem dX6_step_12 : decode cX6_step 12 = .ok (.getfield 11, 3) := by decide +kernel
theorem dX6_step_15 : decode cX6_step 15 = .ok (.arraylength, 1) := by decide +kernel
theorem dX6_step_16 : decode cX6_step 16 = .ok (.if_icmp .ge 45, 3) := by decide +kernel
theorem dX6_step_19 : decode cX6_step 19 = .ok (.aload_n 0, 1) := by decide +kernel
theorem dX6_step_20 : decode cX6_step 20 = .ok (.getfield 21, 3) := by decide +kernel
theorem dX6_step_23 : decode cX6_step 23 = .ok (.aload_n 0, 1) := by decide +kernel
theorem dX6_step_24 : decode cX6_step 24 = .ok (.getfield 17, 3) := by decide +kernel
theorem dX6_step_27 : decode cX6_step 27 = .ok (.arraylength, 1) := by decide +kernel
theorem dX6_step_28 : decode cX6_step 28 = .ok (.if_icmp .ge 33, 3) := by decide +kernel
theorem dX6_step_31 : decode cX6_step 31 = .ok (.aload_n 0, 1) := by decide +kernel
theorem dX6_step_32 : decode cX6_step 32 = .ok (.getfield 11, 3) := by decide +kernel
theorem dX6_step_35 : decode cX6_step 35 = .ok (.aload_n 0, 1) := by decide +kernel
theorem dX6_step_36 : decode cX6_step 36 = .ok (.getfield 21, 3) := by decide +kernel
theorem dX6_step_39 : decode cX6_step 39 = .ok (.aload_n 1, 1) := by decide +kernel
theorem dX6_step_40 : decode cX6_step 40 = .ok (.aastore, 1) := by decide +kernel
theorem dX6_step_41 : decode cX6_step 41 = .ok (.aload_n 0, 1) := by decide +kernel
theorem dX6_step_42 : decode cX6_step 42 = .ok (.getfield 17, 3) := by decide +kernel
theorem dX6_step_45 : decode cX6_step 45 = .ok (.aload_n 0, 1) := by decide +kernel
theorem dX6_step_46 : decode cX6_step 46 = .ok (.getfield 21, 3) := by decide +kernel
theorem dX6_step_49 : decode cX6_step 49 = .ok (.iload_n 2, 1) := by decide +kernel
theorem dX6_step_50 : decode cX6_step 50 = .ok (.iastore, 1) := by decide +kernel
theorem dX6_step_51 : decode cX6_step 51 = .ok (.aload_n 0, 1) := by decide +kernel
theorem dX6_step_52 : decode cX6_step 52 = .ok (.dup, 1) := by decide +kernel
theorem dX6_step_53 : decode cX6_step 53 = .ok (.getfield 21, 3) := by decide +kernel
theorem dX6_step_56 : decode cX6_step 56 = .ok (.iconst 1, 1) := by decide +kernel
theorem dX6_step_57 : decode cX6_step 57 = .ok (.iadd, 1) := by decide +kernel
theorem dX6_step_58 : decode cX6_step 58 = .ok (.putfield 21, 3) := by decide +kernel
theorem dX6_step_61 : decode cX6_step 61 = .ok (.return_, 1) := by decide +kernel
set_option maxHeartbeats 400000 in
set_option maxRecDepth 100000 in
theorem c_step (l : Launch) (G : hG) (M : hM) (A : Nat → Nat) (N : Nat) (sg : Nat → Nat) (nb : Nat → Int32) (wd : Nat → Int64) (hN : N < 400) (hTk : TkV G M A N sg nb wd) (hs7 : ∀ i, i ≤ N → sg i < 37) (sc np : Nat) (sn : Nat → Option Nat) (nn : Nat → Int32) (hPa : PaV G M A sg sc np sn nn) (k : Nat) (hk38 : k < 38) (x : Int32) (hsc : sc < 400) : hCT l G yX6_step cX6_step 3 (Option.none) (hRm 1 0 0) M [.ref (A 8), .ref (hSg G k), .int x] (fun v M' => v = none ∧ PaV G M' A sg (sc + 1) np (stp G sn sc k) (upd nn sc x) ∧ hFr (fun u => u = 8 ∨ u = 9 ∨ u = 10) M M') := by
  refine hCT.of (own := RX6) (nm := "step") (by decide) rfl rfl (Nat.le_of_ble_eq_true rfl) ?_
  intro p e s m args below meth c ls X Y hl
  have hx := X.1
  have hb := X.2.1
  have hl : lv_has ls 3 [(0, .ref (A 8)), (1, .ref (hSg G k)), (2, .int x)] := hl
  obtain ⟨hp8, hp9, hp10⟩ := id hPa
  have hfr : hFr (fun u => u = 8 ∨ u = 9 ∨ u = 10) M M := hFr.rf
  refine lv_aload_n hx hb dX6_step_0 rfl (lv_at hl 0 rfl) ?_
  refine h_get X Y (k := 3) (v := .int (nI sc)) hp8 rfl hin_X6 (by decide) kfl_X6_21 rfl dX6_step_1 ?_
  refine lv_if_lt (tgt := 61) hx hb dX6_step_4 (by decide) (fun c4 => absurd (show sc < 0 from (nI_ltI (a := sc) (b := 0) (by omega) (by omega)).mp c4) (by omega)) (fun c4 => ?_)
  have c4 : ¬ sc < 0 := fun z9 => c4 ((nI_ltI (a := sc) (b := 0) (by omega) (by omega)).mpr z9)
  refine lv_aload_n hx hb dX6_step_7 rfl (lv_at hl 0 rfl) ?_
  refine h_get X Y (k := 3) (v := .int (nI sc)) hp8 rfl hin_X6 (by decide) kfl_X6_21 rfl dX6_step_8 ?_
  refine lv_aload_n hx hb dX6_step_11 rfl (lv_at hl 0 rfl) ?_
  refine h_get X Y (k := 1) (v := .ref (A 9)) hp8 rfl hin_X6 (by decide) kfl_X6_11 rfl dX6_step_12 ?_
  refine h_alen X Y 3 hp9 rfl dX6_step_15 ?_
  refine lv_icmp_ge (tgt := 61) hx hb dX6_step_16 (by decide) (fun c16 => absurd (show 400 ≤ sc from (nI_leI (a := 400) (b := sc) (by omega) (by omega)).mp c16) (by omega)) (fun c16 => ?_)
  have c16 : ¬ 400 ≤ sc := fun z9 => c16 ((nI_leI (a := 400) (b := sc) (by omega) (by omega)).mpr z9)
  refine lv_aload_n hx hb dX6_step_19 rfl (lv_at hl 0 rfl) ?_
  refine h_get X Y (k := 3) (v := .int (nI sc)) hp8 rfl hin_X6 (by decide) kfl_X6_21 rfl dX6_step_20 ?_
  refine lv_aload_n hx hb dX6_step_23 rfl (lv_at hl 0 rfl) ?_
  refine h_get X Y (k := 2) (v := .ref (A 10)) hp8 rfl hin_X6 (by decide) kfl_X6_17 rfl dX6_step_24 ?_
  refine h_alen X Y 0 hp10 rfl dX6_step_27 ?_
  refine lv_icmp_ge (tgt := 61) hx hb dX6_step_28 (by decide) (fun c28 => absurd (show 400 ≤ sc from (nI_leI (a := 400) (b := sc) (by omega) (by omega)).mp c28) (by omega)) (fun c28 => ?_)
  have c28 : ¬ 400 ≤ sc := fun z9 => c28 ((nI_leI (a := 400) (b := sc) (by omega) (by omega)).mpr z9)
  refine lv_aload_n hx hb dX6_step_31 rfl (lv_at hl 0 rfl) ?_
  refine h_get X Y (k := 1) (v := .ref (A 9)) hp8 rfl hin_X6 (by decide) kfl_X6_11 rfl dX6_step_32 ?_
  refine lv_aload_n hx hb dX6_step_35 rfl (lv_at hl 0 rfl) ?_
  refine h_get X Y (k := 3) (v := .int (nI sc)) hp8 rfl hin_X6 (by decide) kfl_X6_21 rfl dX6_step_36 ?_
  refine lv_aload_n hx hb dX6_step_39 rfl (lv_at hl 1 rfl) ?_
  refine h_aastG X Y (i := sc) (k := k) hp9 hk38 (by omega) (by decide) dX6_step_40 (fun H locs Y => ?_)
  have hp8 := hup_tag (x := (9, .inl (hT G 3, 400, .inr (.inr (.inr (.inr (va_up sn sc (some (hSg G k))))))))) hp8 hp9 (by omega)
  have hp10 := hup_tag (x := (9, .inl (hT G 3, 400, .inr (.inr (.inr (.inr (va_up sn sc (some (hSg G k))))))))) hp10 hp9 (by omega)
  have hTk := hTk.fr (Z := fun u => u = 8 ∨ u = 9 ∨ u = 10) (hFr.put (x := (9, .inl (hT G 3, 400, .inr (.inr (.inr (.inr (va_up sn sc (some (hSg G k))))))))) hFr.rf hp9 (by omega)) (fun j z1 z2 z3 => by omega)
  have hfr := hfr.put (x := (9, .inl (hT G 3, 400, .inr (.inr (.inr (.inr (va_up sn sc (some (hSg G k))))))))) hp9 (Or.inr (Or.inl rfl))
  have hp9 : hup M (A 9) (9, .inl (hT G 3, 400, .inr (.inr (.inr (.inr (va_up sn sc (some (hSg G k)))))))) (A 9) = some (9, .inl (hT G 3, 400, .inr (.inr (.inr (.inr (va_up sn sc (some (hSg G k)))))))) := hup_eq
  generalize hup M (A 9) (9, .inl (hT G 3, 400, .inr (.inr (.inr (.inr (va_up sn sc (some (hSg G k)))))))) = Mz1 at Y hp9 hp8 hp10 hTk hfr
  refine lv_aload_n hx hb dX6_step_41 rfl (lv_at hl 0 rfl) ?_
  refine h_get X Y (k := 2) (v := .ref (A 10)) hp8 rfl hin_X6 (by decide) kfl_X6_17 rfl dX6_step_42 ?_
  refine lv_aload_n hx hb dX6_step_45 rfl (lv_at hl 0 rfl) ?_
  refine h_get X Y (k := 3) (v := .int (nI sc)) hp8 rfl hin_X6 (by decide) kfl_X6_21 rfl dX6_step_46 ?_
  refine lv_iload_n hx hb dX6_step_49 rfl (lv_at hl 2 rfl) ?_
  refine h_iast X Y (i := sc) hp10 (by omega) (by decide) dX6_step_50 (fun H locs Y => ?_)
  have hp8 := hup_tag (x := (10, .inl (hT G 0, 400, .inl (upd nn sc x)))) hp8 hp10 (by omega)
  have hp9 := hup_tag (x := (10, .inl (hT G 0, 400, .inl (upd nn sc x)))) hp9 hp10 (by omega)
  have hTk := hTk.fr (Z := fun u => u = 8 ∨ u = 9 ∨ u = 10) (hFr.put (x := (10, .inl (hT G 0, 400, .inl (upd nn sc x)))) hFr.rf hp10 (by omega)) (fun j z1 z2 z3 => by omega)
  have hfr := hfr.put (x := (10, .inl (hT G 0, 400, .inl (upd nn sc x)))) hp10 (Or.inr (Or.inr rfl))
  have hp10 : hup Mz1 (A 10) (10, .inl (hT G 0, 400, .inl (upd nn sc x))) (A 10) = some (10, .inl (hT G 0, 400, .inl (upd nn sc x))) := hup_eq
  generalize hup Mz1 (A 10) (10, .inl (hT G 0, 400, .inl (upd nn sc x))) = Mz2 at Y hp10 hp8 hp9 hTk hfr
  refine lv_aload_n hx hb dX6_step_51 rfl (lv_at hl 0 rfl) ?_
  refine lv_dup hx hb dX6_step_52 rfl ?_
  refine h_get X Y (k := 3) (v := .int (nI sc)) hp8 rfl hin_X6 (by decide) kfl_X6_21 rfl dX6_step_53 ?_
  refine lv_iconst (v := 1) hx hb dX6_step_56 (by decide) ?_
  refine lv_iadd hx hb dX6_step_57 ?_
  refine h_ev (y := nI (sc + 1)) (nI_1 sc) ?_
  refine h_put X Y (k := 3) (v := .int (nI (sc + 1))) hp8 rfl hin_X6 tyX6_ok nmX6 (by decide) kfl_X6_21 rfl rfl rfl (Nat.le_of_ble_eq_true rfl) dX6_step_58 (fun H locs Y => ?_)
  have Y : hHS G (hup Mz2 (A 8) (8, .inr (8, [.ref (A 3), .ref (A 9), .ref (A 10), .int (nI (sc + 1)), .int (nI np), .ref (hSg G (sg np))]))) s H locs := Y
  have hp9 := hup_tag (x := (8, .inr (8, [.ref (A 3), .ref (A 9), .ref (A 10), .int (nI (sc + 1)), .int (nI np), .ref (hSg G (sg np))]))) hp9 hp8 (by omega)
  have hp10 := hup_tag (x := (8, .inr (8, [.ref (A 3), .ref (A 9), .ref (A 10), .int (nI (sc + 1)), .int (nI np), .ref (hSg G (sg np))]))) hp10 hp8 (by omega)
  have hTk := hTk.fr (Z := fun u => u = 8 ∨ u = 9 ∨ u = 10) (hFr.put (x := (8, .inr (8, [.ref (A 3), .ref (A 9), .ref (A 10), .int (nI (sc + 1)), .int (nI np), .ref (hSg G (sg np))]))) hFr.rf hp8 (by omega)) (fun j z1 z2 z3 => by omega)
  have hfr := hfr.put (x := (8, .inr (8, [.ref (A 3), .ref (A 9), .ref (A 10), .int (nI (sc + 1)), .int (nI np), .ref (hSg G (sg np))]))) hp8 (Or.inl rfl)
  have hp8 : hup Mz2 (A 8) (8, .inr (8, [.ref (A 3), .ref (A 9), .ref (A 10), .int (nI (sc + 1)), .int (nI np), .ref (hSg G (sg np))])) (A 8) = some (8, .inr (8, [.ref (A 3), .ref (A 9), .ref (A 10), .int (nI (sc + 1)), .int (nI np), .ref (hSg G (sg np))])) := hup_eq
  generalize hup Mz2 (A 8) (8, .inr (8, [.ref (A 3), .ref (A 9), .ref (A 10), .int (nI (sc + 1)), .int (nI np), .ref (hSg G (sg np))])) = Mz3 at Y hp8 hp9 hp10 hTk hfr
  exact h_vret X Y ⟨rfl, ⟨hp8, hp9, hp10⟩, hfr⟩ (Nat.le_of_ble_eq_true rfl) (Nat.le_of_ble_eq_true rfl) dX6_step_61
theorem gw_X6_207 : GoodIn hGW (wsV RX6 207 RX9 yX9_numberAt (Cond.code yX9_numberAt cX9_numberAt 2 (Option.some FieldType.int) :: hGW)) := hgi4 kml_X6_207 kin_X9_numberAt kse_X9_X9_numberAt_X9_numberAt kini_X9 kco_X9_numberAt
theorem dsc_X9_numberAt : yX9_numberAt.cls = RX9 ∧ yX9_numberAt.cls ≠ "java/lang/invoke/MethodHandle" ∧ yX9_numberAt.cls ≠ "java/lang/invoke/VarHandle" ∧ (parseMethodDescriptor yX9_numberAt.desc).map (fun d => d.parameters.length) = some 1 := ⟨rfl, by decide +kernel, by decide +kernel, by decide +kernel⟩
theorem gw_X6_153 : GoodIn hGW (wsV RX6 153 RX6 yX6_step (Cond.code yX6_step cX6_step 3 (Option.none) :: hGW)) := hgi4 kml_X6_153 kin_X6_step kse_X6_X6_step_X6_step kini_X6 kco_X6_step
theorem dsc_X6_step : yX6_step.cls = RX6 ∧ yX6_step.cls ≠ "java/lang/invoke/MethodHandle" ∧ yX6_step.cls ≠ "java/lang/invoke/VarHandle" ∧ (parseMethodDescriptor yX6_step.desc).map (fun d => d.parameters.length) = some 2 := ⟨rfl, by decide +kernel, by decide +kernel, by decide +kernel⟩
theorem dX6_value_0 : decode cX6_value 0 = .ok (.aload_n 0, 1) := by decide +kernel
theorem dX6_value_1 : decode cX6_value 1 = .ok (.getfield 32, 3) := by decide +kernel
theorem dX6_value_4 : decode cX6_value 4 = .ok (.astore_n 2, 1) := by decide +kernel
theorem dX6_value_5 : decode cX6_value 5 = .ok (.aload_n 2, 1) := by decide +kernel
theorem dX6_value_6 : decode cX6_value 6 = .ok (.getstatic 88, 3) := by decide +kernel
theorem dX6_value_9 : decode cX6_value 9 = .ok (.if_acmp .eq 24, 3) := by decide +kernel
theorem dX6_value_12 : decode cX6_value 12 = .ok (.aload_n 2, 1) := by decide +kernel
theorem dX6_value_13 : decode cX6_value 13 = .ok (.getstatic 198, 3) := by decide +kernel
theorem dX6_value_16 : decode cX6_value 16 = .ok (.if_acmp .eq 17, 3) := by decide +kernel
theorem dX6_value_19 : decode cX6_value 19 = .ok (.aload_n 2, 1) := by decide +kernel
theorem dX6_value_20 : decode cX6_value 20 = .ok (.getstatic 201, 3) := by decide +kernel
theorem dX6_value_23 : decode cX6_value 23 = .ok (.if_acmp .eq 10, 3) := by decide +kernel
theorem dX6_value_26 : decode cX6_value 26 = .ok (.aload_n 2, 1) := by decide +kernel
theorem dX6_value_27 : decode cX6_value 27 = .ok (.getstatic 204, 3) := by decide +kernel
theorem dX6_value_30 : decode cX6_value 30 = .ok (.if_acmp .ne 28, 3) := by decide +kernel
theorem dX6_value_33 : decode cX6_value 33 = .ok (.aload_n 0, 1) := by decide +kernel
theorem dX6_value_34 : decode cX6_value 34 = .ok (.aload_n 2, 1) := by decide +kernel
theorem dX6_value_35 : decode cX6_value 35 = .ok (.aload_n 0, 1) := by decide +kernel
theorem dX6_value_36 : decode cX6_value 36 = .ok (.getfield 35, 3) := by decide +kernel
theorem dX6_value_39 : decode cX6_value 39 = .ok (.aload_n 0, 1) := by decide +kernel
theorem dX6_value_40 : decode cX6_value 40 = .ok (.getfield 25, 3) := by decide +kernel
theorem dX6_value_43 : decode cX6_value 43 = .ok (.invokevirtual 207, 3) := by decide +kernel
theorem dX6_value_46 : decode cX6_value 46 = .ok (.invokevirtual 153, 3) := by decide +kernel
theorem dX6_value_49 : decode cX6_value 49 = .ok (.aload_n 0, 1) := by decide +kernel
theorem dX6_value_50 : decode cX6_value 50 = .ok (.aload_n 2, 1) := by decide +kernel
theorem dX6_value_51 : decode cX6_value 51 = .ok (.invokevirtual 51, 3) := by decide +kernel
theorem dX6_value_54 : decode cX6_value 54 = .ok (.pop, 1) := by decide +kernel
theorem dX6_value_55 : decode cX6_value 55 = .ok (.goto 101, 3) := by decide +kernel
theorem dX6_value_156 : decode cX6_value 156 = .ok (.return_, 1) := by decide +kernel
set_option maxHeartbeats 400000 in
set_option maxRecDepth 100000 in
theorem c_valueL (l : Launch) (G : hG) (M : hM) (A : Nat → Nat) (N : Nat) (sg : Nat → Nat) (nb : Nat → Int32) (wd : Nat → Int64) (hN : N < 400) (hTk : TkV G M A N sg nb wd) (hs7 : ∀ i, i ≤ N → sg i < 37) (sc np : Nat) (sn : Nat → Option Nat) (nn : Nat → Int32) (hPa : PaV G M A sg sc np sn nn) (dp : Nat) (hlf : (sg np = 34 ∨ sg np = 15 ∨ sg np = 17)) (hlt : np < N) (hsc : sc < 400) : hCT l G yX6_value cX6_value 3 (Option.none) (hRm 3 0 0) M [.ref (A 8), .int (nI dp)] (fun v M' => v = none ∧ PaV G M' A sg (sc + 1) (np + 1) (stp G sn sc (sg np)) (upd nn sc (nb np)) ∧ hFr (fun u => u = 8 ∨ u = 9 ∨ u = 10) M M') := by
  refine hCT.of (own := RX6) (nm := "value") (by decide) rfl rfl (Nat.le_of_ble_eq_true rfl) ?_
  intro p e s m args below meth c ls X Y hl
  have hx := X.1
  have hb := X.2.1
  have hl : lv_has ls 3 [(0, .ref (A 8)), (1, .int (nI dp))] := hl
  have hfr : hFr (fun u => u = 8 ∨ u = 9 ∨ u = 10) M M := hFr.rf
  have hs9 := hs7 np (by omega)
  rcases hlf with hlf | hlf | hlf
  · refine lv_aload_n hx hb dX6_value_0 rfl (lv_at hl 0 rfl) ?_
    refine h_get X Y (k := 5) (v := .ref (hSg G (sg np))) hPa.1 rfl hin_X6 (by decide) kfl_X6_32 rfl dX6_value_1 ?_
    refine lv_astore_n (lv' := [(2, .ref (hSg G (sg np))), (0, .ref (A 8)), (1, .int (nI dp))]) hx hb dX6_value_4 rfl hl (by decide) rfl (fun ls hl => ?_)
    refine lv_aload_n hx hb dX6_value_5 rfl (lv_at hl 0 rfl) ?_
    refine h_gets X Y (hsg_Z X.2.2.2.2.2.2.2.2.1 X.2.2.2.2.2.2.2.2.2.1 (k := 34) (by decide)) kfl_X6_88 dX6_value_6 ?_
    refine lv_acmp_eq (rx := some (hSg G (sg np))) (ry := some (hSg G 34)) (tgt := 33) hx hb dX6_value_9 (by decide) (fun c9 => ?_) (fun c9 => absurd (congrArg (fun z => some (hSg G z)) hlf) c9)
    refine lv_aload_n hx hb dX6_value_33 rfl (lv_at hl 1 rfl) ?_
    refine lv_aload_n hx hb dX6_value_34 rfl (lv_at hl 0 rfl) ?_
    refine lv_aload_n hx hb dX6_value_35 rfl (lv_at hl 1 rfl) ?_
    refine h_get X Y (k := 0) (v := .ref (A 3)) hPa.1 rfl hin_X6 (by decide) kfl_X6_35 rfl dX6_value_36 ?_
    refine lv_aload_n hx hb dX6_value_39 rfl (lv_at hl 1 rfl) ?_
    refine h_get X Y (k := 4) (v := .int (nI np)) hPa.1 rfl hin_X6 (by decide) kfl_X6_25 rfl dX6_value_40 ?_
    refine h_callVr (rest := [.ref (hSg G (sg np)), .ref (A 8)]) X Y (c_tokNum l G M A N sg nb wd hN hTk np (by omega)) rfl rfl gw_X6_207 dsc_X9_numberAt hTk.1 rfl rfl rfl rfl hl.1 (Nat.le_of_ble_eq_true rfl) ⟨Nat.le_of_ble_eq_true rfl, Nat.le_of_ble_eq_true rfl⟩ ⟨Nat.le_of_ble_eq_true rfl, Nat.le_of_ble_eq_true rfl⟩ dX6_value_43 (fun H locs Y => ?_)
    refine h_callV (rest := []) X Y (c_step l G M A N sg nb wd hN hTk hs7 sc np sn nn hPa (sg np) (by omega) (nb np) (by omega)) gw_X6_153 dsc_X6_step hPa.1 rfl rfl rfl hl.1 rfl (Nat.le_of_ble_eq_true rfl) ⟨Nat.le_of_ble_eq_true rfl, Nat.le_of_ble_eq_true rfl⟩ ⟨Nat.le_of_ble_eq_true rfl, Nat.le_of_ble_eq_true rfl⟩ dX6_value_46 ?_
    rintro _ Mz1 H locs ⟨rfl, hPa, hfa⟩ Y
    try dsimp only [Option.toList, List.nil_append, List.singleton_append]
    have hTk := hTk.fr hfa (fun j z1 z2 z3 => by omega)
    have hfr := hFr.tr hfr hfa
    refine lv_aload_n hx hb dX6_value_49 rfl (lv_at hl 1 rfl) ?_
    refine lv_aload_n hx hb dX6_value_50 rfl (lv_at hl 0 rfl) ?_
    refine h_callV (rest := []) X Y (c_takesY l G Mz1 A N sg nb wd hN hTk hs7 (sc + 1) np (stp G sn sc (sg np)) (upd nn sc (nb np)) hPa (sg np) (by omega) rfl (by omega)) gw_X6_51 dsc_X6_takes hPa.1 rfl rfl rfl hl.1 rfl (Nat.le_of_ble_eq_true rfl) ⟨Nat.le_of_ble_eq_true rfl, Nat.le_of_ble_eq_true rfl⟩ ⟨Nat.le_of_ble_eq_true rfl, Nat.le_of_ble_eq_true rfl⟩ dX6_value_51 ?_
    rintro _ Mz2 H locs ⟨rfl, hPa, hfa⟩ Y
    try dsimp only [Option.toList, List.nil_append, List.singleton_append]
    have hTk := hTk.fr hfa (fun j z1 z2 z3 => by omega)
    have hfr := hFr.tr hfr hfa
    refine lv_pop hx hb dX6_value_54 rfl ?_
    refine lv_goto (tgt := 156) hx hb dX6_value_55 (by decide) ?_
    exact h_vret X Y ⟨rfl, hPa, hfr⟩ (Nat.le_of_ble_eq_true rfl) (Nat.le_of_ble_eq_true rfl) dX6_value_156
  · refine lv_aload_n hx hb dX6_value_0 rfl (lv_at hl 0 rfl) ?_
    refine h_get X Y (k := 5) (v := .ref (hSg G (sg np))) hPa.1 rfl hin_X6 (by decide) kfl_X6_32 rfl dX6_value_1 ?_
    refine lv_astore_n (lv' := [(2, .ref (hSg G (sg np))), (0, .ref (A 8)), (1, .int (nI dp))]) hx hb dX6_value_4 rfl hl (by decide) rfl (fun ls hl => ?_)
    refine lv_aload_n hx hb dX6_value_5 rfl (lv_at hl 0 rfl) ?_
    refine h_gets X Y (hsg_Z X.2.2.2.2.2.2.2.2.1 X.2.2.2.2.2.2.2.2.2.1 (k := 34) (by decide)) kfl_X6_88 dX6_value_6 ?_
    refine lv_acmp_eq (rx := some (hSg G (sg np))) (ry := some (hSg G 34)) (tgt := 33) hx hb dX6_value_9 (by decide) (fun c9 => absurd (hsg_inj X.2.2.2.2.2.2.2.2.1 (by omega) (by omega) (Option.some.inj c9)) (by omega)) (fun c9 => ?_)
    refine lv_aload_n hx hb dX6_value_12 rfl (lv_at hl 0 rfl) ?_
    refine h_gets X Y (hsg_Z X.2.2.2.2.2.2.2.2.1 X.2.2.2.2.2.2.2.2.2.1 (k := 15) (by decide)) kfl_X6_198 dX6_value_13 ?_
    refine lv_acmp_eq (rx := some (hSg G (sg np))) (ry := some (hSg G 15)) (tgt := 33) hx hb dX6_value_16 (by decide) (fun c16 => ?_) (fun c16 => absurd (congrArg (fun z => some (hSg G z)) hlf) c16)
    refine lv_aload_n hx hb dX6_value_33 rfl (lv_at hl 1 rfl) ?_
    refine lv_aload_n hx hb dX6_value_34 rfl (lv_at hl 0 rfl) ?_
    refine lv_aload_n hx hb dX6_value_35 rfl (lv_at hl 1 rfl) ?_
    refine h_get X Y (k := 0) (v := .ref (A 3)) hPa.1 rfl hin_X6 (by decide) kfl_X6_35 rfl dX6_value_36 ?_
    refine lv_aload_n hx hb dX6_value_39 rfl (lv_at hl 1 rfl) ?_
    refine h_get X Y (k := 4) (v := .int (nI np)) hPa.1 rfl hin_X6 (by decide) kfl_X6_25 rfl dX6_value_40 ?_
    refine h_callVr (rest := [.ref (hSg G (sg np)), .ref (A 8)]) X Y (c_tokNum l G M A N sg nb wd hN hTk np (by omega)) rfl rfl gw_X6_207 dsc_X9_numberAt hTk.1 rfl rfl rfl rfl hl.1 (Nat.le_of_ble_eq_true rfl) ⟨Nat.le_of_ble_eq_true rfl, Nat.le_of_ble_eq_true rfl⟩ ⟨Nat.le_of_ble_eq_true rfl, Nat.le_of_ble_eq_true rfl⟩ dX6_value_43 (fun H locs Y => ?_)
    refine h_callV (rest := []) X Y (c_step l G M A N sg nb wd hN hTk hs7 sc np sn nn hPa (sg np) (by omega) (nb np) (by omega)) gw_X6_153 dsc_X6_step hPa.1 rfl rfl rfl hl.1 rfl (Nat.le_of_ble_eq_true rfl) ⟨Nat.le_of_ble_eq_true rfl, Nat.le_of_ble_eq_true rfl⟩ ⟨Nat.le_of_ble_eq_true rfl, Nat.le_of_ble_eq_true rfl⟩ dX6_value_46 ?_
    rintro _ Mz3 H locs ⟨rfl, hPa, hfa⟩ Y
    try dsimp only [Option.toList, List.nil_append, List.singleton_append]
    have hTk := hTk.fr hfa (fun j z1 z2 z3 => by omega)
    have hfr := hFr.tr hfr hfa
    refine lv_aload_n hx hb dX6_value_49 rfl (lv_at hl 1 rfl) ?_
    refine lv_aload_n hx hb dX6_value_50 rfl (lv_at hl 0 rfl) ?_
    refine h_callV (rest := []) X Y (c_takesY l G Mz3 A N sg nb wd hN hTk hs7 (sc + 1) np (stp G sn sc (sg np)) (upd nn sc (nb np)) hPa (sg np) (by omega) rfl (by omega)) gw_X6_51 dsc_X6_takes hPa.1 rfl rfl rfl hl.1 rfl (Nat.le_of_ble_eq_true rfl) ⟨Nat.le_of_ble_eq_true rfl, Nat.le_of_ble_eq_true rfl⟩ ⟨Nat.le_of_ble_eq_true rfl, Nat.le_of_ble_eq_true rfl⟩ dX6_value_51 ?_
    rintro _ Mz4 H locs ⟨rfl, hPa, hfa⟩ Y
    try dsimp only [Option.toList, List.nil_append, List.singleton_append]
    have hTk := hTk.fr hfa (fun j z1 z2 z3 => by omega)
    have hfr := hFr.tr hfr hfa
    refine lv_pop hx hb dX6_value_54 rfl ?_
    refine lv_goto (tgt := 156) hx hb dX6_value_55 (by decide) ?_
    exact h_vret X Y ⟨rfl, hPa, hfr⟩ (Nat.le_of_ble_eq_true rfl) (Nat.le_of_ble_eq_true rfl) dX6_value_156
  · refine lv_aload_n hx hb dX6_value_0 rfl (lv_at hl 0 rfl) ?_
    refine h_get X Y (k := 5) (v := .ref (hSg G (sg np))) hPa.1 rfl hin_X6 (by decide) kfl_X6_32 rfl dX6_value_1 ?_
    refine lv_astore_n (lv' := [(2, .ref (hSg G (sg np))), (0, .ref (A 8)), (1, .int (nI dp))]) hx hb dX6_value_4 rfl hl (by decide) rfl (fun ls hl => ?_)
    refine lv_aload_n hx hb dX6_value_5 rfl (lv_at hl 0 rfl) ?_
    refine h_gets X Y (hsg_Z X.2.2.2.2.2.2.2.2.1 X.2.2.2.2.2.2.2.2.2.1 (k := 34) (by decide)) kfl_X6_88 dX6_value_6 ?_
    refine lv_acmp_eq (rx := some (hSg G (sg np))) (ry := some (hSg G 34)) (tgt := 33) hx hb dX6_value_9 (by decide) (fun c9 => absurd (hsg_inj X.2.2.2.2.2.2.2.2.1 (by omega) (by omega) (Option.some.inj c9)) (by omega)) (fun c9 => ?_)
    refine lv_aload_n hx hb dX6_value_12 rfl (lv_at hl 0 rfl) ?_
    refine h_gets X Y (hsg_Z X.2.2.2.2.2.2.2.2.1 X.2.2.2.2.2.2.2.2.2.1 (k := 15) (by decide)) kfl_X6_198 dX6_value_13 ?_
    refine lv_acmp_eq (rx := some (hSg G (sg np))) (ry := some (hSg G 15)) (tgt := 33) hx hb dX6_value_16 (by decide) (fun c16 => absurd (hsg_inj X.2.2.2.2.2.2.2.2.1 (by omega) (by omega) (Option.some.inj c16)) (by omega)) (fun c16 => ?_)
    refine lv_aload_n hx hb dX6_value_19 rfl (lv_at hl 0 rfl) ?_
    refine h_gets X Y (hsg_Z X.2.2.2.2.2.2.2.2.1 X.2.2.2.2.2.2.2.2.2.1 (k := 16) (by decide)) kfl_X6_201 dX6_value_20 ?_
    refine lv_acmp_eq (rx := some (hSg G (sg np))) (ry := some (hSg G 16)) (tgt := 33) hx hb dX6_value_23 (by decide) (fun c23 => absurd (hsg_inj X.2.2.2.2.2.2.2.2.1 (by omega) (by omega) (Option.some.inj c23)) (by omega)) (fun c23 => ?_)
    refine lv_aload_n hx hb dX6_value_26 rfl (lv_at hl 0 rfl) ?_
    refine h_gets X Y (hsg_Z X.2.2.2.2.2.2.2.2.1 X.2.2.2.2.2.2.2.2.2.1 (k := 17) (by decide)) kfl_X6_204 dX6_value_27 ?_
    refine lv_acmp_ne (rx := some (hSg G (sg np))) (ry := some (hSg G 17)) (tgt := 58) hx hb dX6_value_30 (by decide) (fun c30 => absurd (congrArg (fun z => some (hSg G z)) hlf) c30) (fun c30 => ?_)
    refine lv_aload_n hx hb dX6_value_33 rfl (lv_at hl 1 rfl) ?_
    refine lv_aload_n hx hb dX6_value_34 rfl (lv_at hl 0 rfl) ?_
    refine lv_aload_n hx hb dX6_value_35 rfl (lv_at hl 1 rfl) ?_
    refine h_get X Y (k := 0) (v := .ref (A 3)) hPa.1 rfl hin_X6 (by decide) kfl_X6_35 rfl dX6_value_36 ?_
    refine lv_aload_n hx hb dX6_value_39 rfl (lv_at hl 1 rfl) ?_
    refine h_get X Y (k := 4) (v := .int (nI np)) hPa.1 rfl hin_X6 (by decide) kfl_X6_25 rfl dX6_value_40 ?_
    refine h_callVr (rest := [.ref (hSg G (sg np)), .ref (A 8)]) X Y (c_tokNum l G M A N sg nb wd hN hTk np (by omega)) rfl rfl gw_X6_207 dsc_X9_numberAt hTk.1 rfl rfl rfl rfl hl.1 (Nat.le_of_ble_eq_true rfl) ⟨Nat.le_of_ble_eq_true rfl, Nat.le_of_ble_eq_true rfl⟩ ⟨Nat.le_of_ble_eq_true rfl, Nat.le_of_ble_eq_true rfl⟩ dX6_value_43 (fun H locs Y => ?_)
    refine h_callV (rest := []) X Y (c_step l G M A N sg nb wd hN hTk hs7 sc np sn nn hPa (sg np) (by omega) (nb np) (by omega)) gw_X6_153 dsc_X6_step hPa.1 rfl rfl rfl hl.1 rfl (Nat.le_of_ble_eq_true rfl) ⟨Nat.le_of_ble_eq_true rfl, Nat.le_of_ble_eq_true rfl⟩ ⟨Nat.le_of_ble_eq_true rfl, Nat.le_of_ble_eq_true rfl⟩ dX6_value_46 ?_
    rintro _ Mz5 H locs ⟨rfl, hPa, hfa⟩ Y
    try dsimp only [Option.toList, List.nil_append, List.singleton_append]
    have hTk := hTk.fr hfa (fun j z1 z2 z3 => by omega)
    have hfr := hFr.tr hfr hfa
    refine lv_aload_n hx hb dX6_value_49 rfl (lv_at hl 1 rfl) ?_
    refine lv_aload_n hx hb dX6_value_50 rfl (lv_at hl 0 rfl) ?_
    refine h_callV (rest := []) X Y (c_takesY l G Mz5 A N sg nb wd hN hTk hs7 (sc + 1) np (stp G sn sc (sg np)) (upd nn sc (nb np)) hPa (sg np) (by omega) rfl (by omega)) gw_X6_51 dsc_X6_takes hPa.1 rfl rfl rfl hl.1 rfl (Nat.le_of_ble_eq_true rfl) ⟨Nat.le_of_ble_eq_true rfl, Nat.le_of_ble_eq_true rfl⟩ ⟨Nat.le_of_ble_eq_true rfl, Nat.le_of_ble_eq_true rfl⟩ dX6_value_51 ?_
    rintro _ Mz6 H locs ⟨rfl, hPa, hfa⟩ Y
    try dsimp only [Option.toList, List.nil_append, List.singleton_append]
    have hTk := hTk.fr hfa (fun j z1 z2 z3 => by omega)
    have hfr := hFr.tr hfr hfa
    refine lv_pop hx hb dX6_value_54 rfl ?_
    refine lv_goto (tgt := 156) hx hb dX6_value_55 (by decide) ?_
    exact h_vret X Y ⟨rfl, hPa, hfr⟩ (Nat.le_of_ble_eq_true rfl) (Nat.le_of_ble_eq_true rfl) dX6_value_156
theorem gw_X6_189 : GoodIn hGW (wsV RX6 189 RX6 yX6_value (Cond.code yX6_value cX6_value 3 (Option.none) :: hGW)) := hgi4 kml_X6_189 kin_X6_value kse_X6_X6_value_X6_value kini_X6 kco_X6_value
theorem dsc_X6_value : yX6_value.cls = RX6 ∧ yX6_value.cls ≠ "java/lang/invoke/MethodHandle" ∧ yX6_value.cls ≠ "java/lang/invoke/VarHandle" ∧ (parseMethodDescriptor yX6_value.desc).map (fun d => d.parameters.length) = some 1 := ⟨rfl, by decide +kernel, by decide +kernel, by decide +kernel⟩
theorem dX6_product_0 : decode cX6_product 0 = .ok (.aload_n 0, 1) := by decide +kernel
theorem dX6_product_1 : decode cX6_product 1 = .ok (.iload_n 1, 1) := by decide +kernel
theorem dX6_product_2 : decode cX6_product 2 = .ok (.invokevirtual 189, 3) := by decide +kernel
theorem dX6_product_5 : decode cX6_product 5 = .ok (.iconst 0, 1) := by decide +kernel
theorem dX6_product_6 : decode cX6_product 6 = .ok (.istore_n 2, 1) := by decide +kernel
theorem dX6_product_7 : decode cX6_product 7 = .ok (.iload_n 2, 1) := by decide +kernel
theorem dX6_product_8 : decode cX6_product 8 = .ok (.sipush 400, 3) := by decide +kernel
theorem dX6_product_11 : decode cX6_product 11 = .ok (.if_icmp .ge 51, 3) := by decide +kernel
theorem dX6_product_14 : decode cX6_product 14 = .ok (.aload_n 0, 1) := by decide +kernel
theorem dX6_product_15 : decode cX6_product 15 = .ok (.getfield 32, 3) := by decide +kernel
theorem dX6_product_18 : decode cX6_product 18 = .ok (.getstatic 192, 3) := by decide +kernel
theorem dX6_product_21 : decode cX6_product 21 = .ok (.if_acmp .eq 13, 3) := by decide +kernel
theorem dX6_product_24 : decode cX6_product 24 = .ok (.aload_n 0, 1) := by decide +kernel
theorem dX6_product_25 : decode cX6_product 25 = .ok (.getfield 32, 3) := by decide +kernel
theorem dX6_product_28 : decode cX6_product 28 = .ok (.getstatic 195, 3) := by decide +kernel
theorem dX6_product_31 : decode cX6_product 31 = .ok (.if_acmp .ne 31, 3) := by decide +kernel
theorem dX6_product_62 : decode cX6_product 62 = .ok (.return_, 1) := by decide +kernel
set_option maxHeartbeats 400000 in
set_option maxRecDepth 100000 in
theorem c_prod0 (l : Launch) (G : hG) (M : hM) (A : Nat → Nat) (N : Nat) (sg : Nat → Nat) (nb : Nat → Int32) (wd : Nat → Int64) (hN : N < 400) (hTk : TkV G M A N sg nb wd) (hs7 : ∀ i, i ≤ N → sg i < 37) (sc np : Nat) (sn : Nat → Option Nat) (nn : Nat → Int32) (hPa : PaV G M A sg sc np sn nn) (dp : Nat) (hlf : (sg np = 34 ∨ sg np = 15 ∨ sg np = 17)) (he : sg (np + 1) ≠ 26 ∧ sg (np + 1) ≠ 27) (hlt : np + 1 ≤ N) (hsc : sc + 1 ≤ 400) : hCT l G yX6_product cX6_product 4 (Option.none) (hRm 4 0 0) M [.ref (A 8), .int (nI dp)] (fun v M' => v = none ∧ PaV G M' A sg (sc + 1) (np + 1) (stp G sn sc (sg np)) (upd nn sc (nb np)) ∧ hFr (fun u => u = 8 ∨ u = 9 ∨ u = 10) M M') := by
  refine hCT.of (own := RX6) (nm := "product") (by decide) rfl rfl (Nat.le_of_ble_eq_true rfl) ?_
  intro p e s m args below meth c ls X Y hl
  have hx := X.1
  have hb := X.2.1
  have hl : lv_has ls 4 [(0, .ref (A 8)), (1, .int (nI dp))] := hl
  have hfr : hFr (fun u => u = 8 ∨ u = 9 ∨ u = 10) M M := hFr.rf
  have hs90 := hs7 (np) (by omega)
  have hs91 := hs7 (np + 1) (by omega)
  refine lv_aload_n hx hb dX6_product_0 rfl (lv_at hl 0 rfl) ?_
  refine lv_iload_n hx hb dX6_product_1 rfl (lv_at hl 1 rfl) ?_
  refine h_callV (rest := []) X Y (c_valueL l G M A N sg nb wd hN hTk hs7 sc np sn nn hPa dp hlf (by omega) (by omega)) gw_X6_189 dsc_X6_value hPa.1 rfl rfl rfl hl.1 rfl (Nat.le_of_ble_eq_true rfl) ⟨Nat.le_of_ble_eq_true rfl, Nat.le_of_ble_eq_true rfl⟩ ⟨Nat.le_of_ble_eq_true rfl, Nat.le_of_ble_eq_true rfl⟩ dX6_product_2 ?_
  rintro _ Mz1 H locs ⟨rfl, hPa, hfa⟩ Y
  try dsimp only [Option.toList, List.nil_append, List.singleton_append]
  have hTk := hTk.fr hfa (fun j z1 z2 z3 => by omega)
  have hfr := hFr.tr hfr hfa
  refine lv_iconst (v := 0) hx hb dX6_product_5 (by decide) ?_
  refine lv_istore_n (lv' := [(2, .int 0), (0, .ref (A 8)), (1, .int (nI dp))]) hx hb dX6_product_6 rfl hl (by decide) rfl (fun ls hl => ?_)
  refine lv_iload_n hx hb dX6_product_7 rfl (lv_at hl 0 rfl) ?_
  refine lv_sipush (v := 400) hx hb dX6_product_8 (by decide) ?_
  refine lv_icmp_ge (tgt := 62) hx hb dX6_product_11 (by decide) (fun c11 => absurd c11 (by decide)) (fun c11 => ?_)
  refine lv_aload_n hx hb dX6_product_14 rfl (lv_at hl 1 rfl) ?_
  refine h_get X Y (k := 5) (v := .ref (hSg G (sg (np + 1)))) hPa.1 rfl hin_X6 (by decide) kfl_X6_32 rfl dX6_product_15 ?_
  refine h_gets X Y (hsg_Z X.2.2.2.2.2.2.2.2.1 X.2.2.2.2.2.2.2.2.2.1 (k := 26) (by decide)) kfl_X6_192 dX6_product_18 ?_
  refine lv_acmp_eq (rx := some (hSg G (sg (np + 1)))) (ry := some (hSg G 26)) (tgt := 34) hx hb dX6_product_21 (by decide) (fun c21 => absurd (hsg_inj X.2.2.2.2.2.2.2.2.1 (by omega) (by omega) (Option.some.inj c21)) (by omega)) (fun c21 => ?_)
  refine lv_aload_n hx hb dX6_product_24 rfl (lv_at hl 1 rfl) ?_
  refine h_get X Y (k := 5) (v := .ref (hSg G (sg (np + 1)))) hPa.1 rfl hin_X6 (by decide) kfl_X6_32 rfl dX6_product_25 ?_
  refine h_gets X Y (hsg_Z X.2.2.2.2.2.2.2.2.1 X.2.2.2.2.2.2.2.2.2.1 (k := 27) (by decide)) kfl_X6_195 dX6_product_28 ?_
  refine lv_acmp_ne (rx := some (hSg G (sg (np + 1)))) (ry := some (hSg G 27)) (tgt := 62) hx hb dX6_product_31 (by decide) (fun c31 => ?_) (fun c31 => absurd (hsg_inj X.2.2.2.2.2.2.2.2.1 (by omega) (by omega) (Option.some.inj c31)) (by omega))
  exact h_vret X Y ⟨rfl, hPa, hfr⟩ (Nat.le_of_ble_eq_true rfl) (Nat.le_of_ble_eq_true rfl) dX6_product_62
theorem dX6_product_34 : decode cX6_product 34 = .ok (.aload_n 0, 1) := by decide +kernel
theorem dX6_product_35 : decode cX6_product 35 = .ok (.getfield 32, 3) := by decide +kernel
theorem dX6_product_38 : decode cX6_product 38 = .ok (.astore_n 3, 1) := by decide +kernel
theorem dX6_product_39 : decode cX6_product 39 = .ok (.aload_n 0, 1) := by decide +kernel
theorem dX6_product_40 : decode cX6_product 40 = .ok (.aload_n 3, 1) := by decide +kernel
theorem dX6_product_41 : decode cX6_product 41 = .ok (.invokevirtual 51, 3) := by decide +kernel
theorem dX6_product_44 : decode cX6_product 44 = .ok (.pop, 1) := by decide +kernel
theorem dX6_product_45 : decode cX6_product 45 = .ok (.aload_n 0, 1) := by decide +kernel
theorem dX6_product_46 : decode cX6_product 46 = .ok (.iload_n 1, 1) := by decide +kernel
theorem dX6_product_47 : decode cX6_product 47 = .ok (.invokevirtual 189, 3) := by decide +kernel
theorem dX6_product_50 : decode cX6_product 50 = .ok (.aload_n 0, 1) := by decide +kernel
theorem dX6_product_51 : decode cX6_product 51 = .ok (.aload_n 3, 1) := by decide +kernel
theorem dX6_product_52 : decode cX6_product 52 = .ok (.iconst 0, 1) := by decide +kernel
theorem dX6_product_53 : decode cX6_product 53 = .ok (.invokevirtual 153, 3) := by decide +kernel
theorem dX6_product_56 : decode cX6_product 56 = .ok (.iinc 2 1, 3) := by decide +kernel
theorem dX6_product_59 : decode cX6_product 59 = .ok (.goto (-52), 3) := by decide +kernel
set_option maxHeartbeats 400000 in
set_option maxRecDepth 100000 in
theorem c_prod1 (l : Launch) (G : hG) (M : hM) (A : Nat → Nat) (N : Nat) (sg : Nat → Nat) (nb : Nat → Int32) (wd : Nat → Int64) (hN : N < 400) (hTk : TkV G M A N sg nb wd) (hs7 : ∀ i, i ≤ N → sg i < 37) (sc np : Nat) (sn : Nat → Option Nat) (nn : Nat → Int32) (hPa : PaV G M A sg sc np sn nn) (dp : Nat) (hlf : (sg np = 34 ∨ sg np = 15 ∨ sg np = 17)) (ho : sg (np + 1) = 26) (hlf2 : (sg (np + 2) = 34 ∨ sg (np + 2) = 15 ∨ sg (np + 2) = 17)) (he : sg (np + 3) ≠ 26 ∧ sg (np + 3) ≠ 27) (hlt : np + 3 ≤ N) (hsc : sc + 3 ≤ 400) : hCT l G yX6_product cX6_product 4 (Option.none) (hRm 4 0 0) M [.ref (A 8), .int (nI dp)] (fun v M' => v = none ∧ PaV G M' A sg (sc + 3) (np + 3) (stp G (stp G (stp G sn sc (sg np)) (sc + 1) (sg (np + 2))) (sc + 2) (sg (np + 1))) (upd (upd (upd nn sc (nb np)) (sc + 1) (nb (np + 2))) (sc + 2) 0) ∧ hFr (fun u => u = 8 ∨ u = 9 ∨ u = 10) M M') := by
  refine hCT.of (own := RX6) (nm := "product") (by decide) rfl rfl (Nat.le_of_ble_eq_true rfl) ?_
  intro p e s m args below meth c ls X Y hl
  have hx := X.1
  have hb := X.2.1
  have hl : lv_has ls 4 [(0, .ref (A 8)), (1, .int (nI dp))] := hl
  have hfr : hFr (fun u => u = 8 ∨ u = 9 ∨ u = 10) M M := hFr.rf
  have hs90 := hs7 (np) (by omega)
  have hs91 := hs7 (np + 1) (by omega)
  have hs92 := hs7 (np + 2) (by omega)
  have hs93 := hs7 (np + 3) (by omega)
  refine lv_aload_n hx hb dX6_product_0 rfl (lv_at hl 0 rfl) ?_
  refine lv_iload_n hx hb dX6_product_1 rfl (lv_at hl 1 rfl) ?_
  refine h_callV (rest := []) X Y (c_valueL l G M A N sg nb wd hN hTk hs7 sc np sn nn hPa dp hlf (by omega) (by omega)) gw_X6_189 dsc_X6_value hPa.1 rfl rfl rfl hl.1 rfl (Nat.le_of_ble_eq_true rfl) ⟨Nat.le_of_ble_eq_true rfl, Nat.le_of_ble_eq_true rfl⟩ ⟨Nat.le_of_ble_eq_true rfl, Nat.le_of_ble_eq_true rfl⟩ dX6_product_2 ?_
  rintro _ Mz1 H locs ⟨rfl, hPa, hfa⟩ Y
  try dsimp only [Option.toList, List.nil_append, List.singleton_append]
  have hTk := hTk.fr hfa (fun j z1 z2 z3 => by omega)
  have hfr := hFr.tr hfr hfa
  refine lv_iconst (v := 0) hx hb dX6_product_5 (by decide) ?_
  refine lv_istore_n (lv' := [(2, .int 0), (0, .ref (A 8)), (1, .int (nI dp))]) hx hb dX6_product_6 rfl hl (by decide) rfl (fun ls hl => ?_)
  refine lv_iload_n hx hb dX6_product_7 rfl (lv_at hl 0 rfl) ?_
  refine lv_sipush (v := 400) hx hb dX6_product_8 (by decide) ?_
  refine lv_icmp_ge (tgt := 62) hx hb dX6_product_11 (by decide) (fun c11 => absurd c11 (by decide)) (fun c11 => ?_)
  refine lv_aload_n hx hb dX6_product_14 rfl (lv_at hl 1 rfl) ?_
  refine h_get X Y (k := 5) (v := .ref (hSg G (sg (np + 1)))) hPa.1 rfl hin_X6 (by decide) kfl_X6_32 rfl dX6_product_15 ?_
  refine h_gets X Y (hsg_Z X.2.2.2.2.2.2.2.2.1 X.2.2.2.2.2.2.2.2.2.1 (k := 26) (by decide)) kfl_X6_192 dX6_product_18 ?_
  refine lv_acmp_eq (rx := some (hSg G (sg (np + 1)))) (ry := some (hSg G 26)) (tgt := 34) hx hb dX6_product_21 (by decide) (fun c21 => ?_) (fun c21 => absurd (congrArg (fun z => some (hSg G z)) ho) c21)
  refine lv_aload_n hx hb dX6_product_34 rfl (lv_at hl 1 rfl) ?_
  refine h_get X Y (k := 5) (v := .ref (hSg G (sg (np + 1)))) hPa.1 rfl hin_X6 (by decide) kfl_X6_32 rfl dX6_product_35 ?_
  refine lv_astore_n (lv' := [(3, .ref (hSg G (sg (np + 1)))), (2, .int 0), (0, .ref (A 8)), (1, .int (nI dp))]) hx hb dX6_product_38 rfl hl (by decide) rfl (fun ls hl => ?_)
  refine lv_aload_n hx hb dX6_product_39 rfl (lv_at hl 2 rfl) ?_
  refine lv_aload_n hx hb dX6_product_40 rfl (lv_at hl 0 rfl) ?_
  refine h_callV (rest := []) X Y (c_takesY l G Mz1 A N sg nb wd hN hTk hs7 (sc + 1) (np + 1) (stp G sn sc (sg np)) (upd nn sc (nb np)) hPa (sg (np + 1)) (by omega) rfl (by omega)) gw_X6_51 dsc_X6_takes hPa.1 rfl rfl rfl hl.1 rfl (Nat.le_of_ble_eq_true rfl) ⟨Nat.le_of_ble_eq_true rfl, Nat.le_of_ble_eq_true rfl⟩ ⟨Nat.le_of_ble_eq_true rfl, Nat.le_of_ble_eq_true rfl⟩ dX6_product_41 ?_
  rintro _ Mz2 H locs ⟨rfl, hPa, hfa⟩ Y
  try dsimp only [Option.toList, List.nil_append, List.singleton_append]
  have hTk := hTk.fr hfa (fun j z1 z2 z3 => by omega)
  have hfr := hFr.tr hfr hfa
  refine lv_pop hx hb dX6_product_44 rfl ?_
  refine lv_aload_n hx hb dX6_product_45 rfl (lv_at hl 2 rfl) ?_
  refine lv_iload_n hx hb dX6_product_46 rfl (lv_at hl 3 rfl) ?_
  refine h_callV (rest := []) X Y (c_valueL l G Mz2 A N sg nb wd hN hTk hs7 (sc + 1) (np + 2) (stp G sn sc (sg np)) (upd nn sc (nb np)) hPa dp hlf2 (by omega) (by omega)) gw_X6_189 dsc_X6_value hPa.1 rfl rfl rfl hl.1 rfl (Nat.le_of_ble_eq_true rfl) ⟨Nat.le_of_ble_eq_true rfl, Nat.le_of_ble_eq_true rfl⟩ ⟨Nat.le_of_ble_eq_true rfl, Nat.le_of_ble_eq_true rfl⟩ dX6_product_47 ?_
  rintro _ Mz3 H locs ⟨rfl, hPa, hfa⟩ Y
  try dsimp only [Option.toList, List.nil_append, List.singleton_append]
  have hTk := hTk.fr hfa (fun j z1 z2 z3 => by omega)
  have hfr := hFr.tr hfr hfa
  refine lv_aload_n hx hb dX6_product_50 rfl (lv_at hl 2 rfl) ?_
  refine lv_aload_n hx hb dX6_product_51 rfl (lv_at hl 0 rfl) ?_
  refine lv_iconst (v := 0) hx hb dX6_product_52 (by decide) ?_
  refine h_callV (rest := []) X Y (c_step l G Mz3 A N sg nb wd hN hTk hs7 (sc + 2) (np + 3) (stp G (stp G sn sc (sg np)) (sc + 1) (sg (np + 2))) (upd (upd nn sc (nb np)) (sc + 1) (nb (np + 2))) hPa (sg (np + 1)) (by omega) 0 (by omega)) gw_X6_153 dsc_X6_step hPa.1 rfl rfl rfl hl.1 rfl (Nat.le_of_ble_eq_true rfl) ⟨Nat.le_of_ble_eq_true rfl, Nat.le_of_ble_eq_true rfl⟩ ⟨Nat.le_of_ble_eq_true rfl, Nat.le_of_ble_eq_true rfl⟩ dX6_product_53 ?_
  rintro _ Mz4 H locs ⟨rfl, hPa, hfa⟩ Y
  try dsimp only [Option.toList, List.nil_append, List.singleton_append]
  have hTk := hTk.fr hfa (fun j z1 z2 z3 => by omega)
  have hfr := hFr.tr hfr hfa
  refine lv_iinc (v := nI 1) (lv' := [(2, .int (nI 1)), (3, .ref (hSg G (sg (np + 1)))), (0, .ref (A 8)), (1, .int (nI dp))]) hx hb dX6_product_56 hl (k := 1) rfl (by decide) (by decide) rfl (fun ls hl => ?_)
  refine lv_goto (tgt := 7) hx hb dX6_product_59 (by decide) ?_
  refine lv_iload_n hx hb dX6_product_7 rfl (lv_at hl 0 rfl) ?_
  refine lv_sipush (v := 400) hx hb dX6_product_8 (by decide) ?_
  refine lv_icmp_ge (tgt := 62) hx hb dX6_product_11 (by decide) (fun c11 => absurd c11 (by decide)) (fun c11 => ?_)
  refine lv_aload_n hx hb dX6_product_14 rfl (lv_at hl 2 rfl) ?_
  refine h_get X Y (k := 5) (v := .ref (hSg G (sg (np + 3)))) hPa.1 rfl hin_X6 (by decide) kfl_X6_32 rfl dX6_product_15 ?_
  refine h_gets X Y (hsg_Z X.2.2.2.2.2.2.2.2.1 X.2.2.2.2.2.2.2.2.2.1 (k := 26) (by decide)) kfl_X6_192 dX6_product_18 ?_
  refine lv_acmp_eq (rx := some (hSg G (sg (np + 3)))) (ry := some (hSg G 26)) (tgt := 34) hx hb dX6_product_21 (by decide) (fun c21 => absurd (hsg_inj X.2.2.2.2.2.2.2.2.1 (by omega) (by omega) (Option.some.inj c21)) (by omega)) (fun c21 => ?_)
  refine lv_aload_n hx hb dX6_product_24 rfl (lv_at hl 2 rfl) ?_
  refine h_get X Y (k := 5) (v := .ref (hSg G (sg (np + 3)))) hPa.1 rfl hin_X6 (by decide) kfl_X6_32 rfl dX6_product_25 ?_
  refine h_gets X Y (hsg_Z X.2.2.2.2.2.2.2.2.1 X.2.2.2.2.2.2.2.2.2.1 (k := 27) (by decide)) kfl_X6_195 dX6_product_28 ?_
  refine lv_acmp_ne (rx := some (hSg G (sg (np + 3)))) (ry := some (hSg G 27)) (tgt := 62) hx hb dX6_product_31 (by decide) (fun c31 => ?_) (fun c31 => absurd (hsg_inj X.2.2.2.2.2.2.2.2.1 (by omega) (by omega) (Option.some.inj c31)) (by omega))
  exact h_vret X Y ⟨rfl, hPa, hfr⟩ (Nat.le_of_ble_eq_true rfl) (Nat.le_of_ble_eq_true rfl) dX6_product_62
theorem gw_X6_180 : GoodIn hGW (wsV RX6 180 RX6 yX6_product (Cond.code yX6_product cX6_product 4 (Option.none) :: hGW)) := hgi4 kml_X6_180 kin_X6_product kse_X6_X6_product_X6_product kini_X6 kco_X6_product
theorem dsc_X6_product : yX6_product.cls = RX6 ∧ yX6_product.cls ≠ "java/lang/invoke/MethodHandle" ∧ yX6_product.cls ≠ "java/lang/invoke/VarHandle" ∧ (parseMethodDescriptor yX6_product.desc).map (fun d => d.parameters.length) = some 1 := ⟨rfl, by decide +kernel, by decide +kernel, by decide +kernel⟩
theorem dX6_sum_0 : decode cX6_sum 0 = .ok (.aload_n 0, 1) := by decide +kernel
theorem dX6_sum_1 : decode cX6_sum 1 = .ok (.iload_n 1, 1) := by decide +kernel
theorem dX6_sum_2 : decode cX6_sum 2 = .ok (.invokevirtual 180, 3) := by decide +kernel
theorem dX6_sum_5 : decode cX6_sum 5 = .ok (.iconst 0, 1) := by decide +kernel
theorem dX6_sum_6 : decode cX6_sum 6 = .ok (.istore_n 2, 1) := by decide +kernel
theorem dX6_sum_7 : decode cX6_sum 7 = .ok (.iload_n 2, 1) := by decide +kernel
theorem dX6_sum_8 : decode cX6_sum 8 = .ok (.sipush 400, 3) := by decide +kernel
theorem dX6_sum_11 : decode cX6_sum 11 = .ok (.if_icmp .ge 51, 3) := by decide +kernel
theorem dX6_sum_14 : decode cX6_sum 14 = .ok (.aload_n 0, 1) := by decide +kernel
theorem dX6_sum_15 : decode cX6_sum 15 = .ok (.getfield 32, 3) := by decide +kernel
theorem dX6_sum_18 : decode cX6_sum 18 = .ok (.getstatic 183, 3) := by decide +kernel
theorem dX6_sum_21 : decode cX6_sum 21 = .ok (.if_acmp .eq 13, 3) := by decide +kernel
theorem dX6_sum_24 : decode cX6_sum 24 = .ok (.aload_n 0, 1) := by decide +kernel
theorem dX6_sum_25 : decode cX6_sum 25 = .ok (.getfield 32, 3) := by decide +kernel
theorem dX6_sum_28 : decode cX6_sum 28 = .ok (.getstatic 186, 3) := by decide +kernel
theorem dX6_sum_31 : decode cX6_sum 31 = .ok (.if_acmp .ne 31, 3) := by decide +kernel
theorem dX6_sum_62 : decode cX6_sum 62 = .ok (.return_, 1) := by decide +kernel
set_option maxHeartbeats 400000 in
set_option maxRecDepth 100000 in
theorem c_sumN (l : Launch) (G : hG) (M : hM) (A : Nat → Nat) (N : Nat) (sg : Nat → Nat) (nb : Nat → Int32) (wd : Nat → Int64) (hN : N < 400) (hTk : TkV G M A N sg nb wd) (hs7 : ∀ i, i ≤ N → sg i < 37) (sc np : Nat) (sn : Nat → Option Nat) (nn : Nat → Int32) (hPa : PaV G M A sg sc np sn nn) (dp : Nat) (hlf : (sg np = 34 ∨ sg np = 15 ∨ sg np = 17)) (he : sg (np + 1) ≠ 26 ∧ sg (np + 1) ≠ 27 ∧ sg (np + 1) ≠ 24 ∧ sg (np + 1) ≠ 25) (hlt : np + 1 ≤ N) (hsc : sc + 1 ≤ 400) : hCT l G yX6_sum cX6_sum 4 (Option.none) (hRm 5 0 0) M [.ref (A 8), .int (nI dp)] (fun v M' => v = none ∧ PaV G M' A sg (sc + 1) (np + 1) (stp G sn sc (sg np)) (upd nn sc (nb np)) ∧ hFr (fun u => u = 8 ∨ u = 9 ∨ u = 10) M M') := by
  refine hCT.of (own := RX6) (nm := "sum") (by decide) rfl rfl (Nat.le_of_ble_eq_true rfl) ?_
  intro p e s m args below meth c ls X Y hl
  have hx := X.1
  have hb := X.2.1
  have hl : lv_has ls 4 [(0, .ref (A 8)), (1, .int (nI dp))] := hl
  have hfr : hFr (fun u => u = 8 ∨ u = 9 ∨ u = 10) M M := hFr.rf
  have hs90 := hs7 (np) (by omega)
  have hs91 := hs7 (np + 1) (by omega)
  refine lv_aload_n hx hb dX6_sum_0 rfl (lv_at hl 0 rfl) ?_
  refine lv_iload_n hx hb dX6_sum_1 rfl (lv_at hl 1 rfl) ?_
  refine h_callV (rest := []) X Y (c_prod0 l G M A N sg nb wd hN hTk hs7 sc np sn nn hPa dp hlf ⟨he.1, he.2.1⟩ (by omega) (by omega)) gw_X6_180 dsc_X6_product hPa.1 rfl rfl rfl hl.1 rfl (Nat.le_of_ble_eq_true rfl) ⟨Nat.le_of_ble_eq_true rfl, Nat.le_of_ble_eq_true rfl⟩ ⟨Nat.le_of_ble_eq_true rfl, Nat.le_of_ble_eq_true rfl⟩ dX6_sum_2 ?_
  rintro _ Mz1 H locs ⟨rfl, hPa, hfa⟩ Y
  try dsimp only [Option.toList, List.nil_append, List.singleton_append]
  have hTk := hTk.fr hfa (fun j z1 z2 z3 => by omega)
  have hfr := hFr.tr hfr hfa
  refine lv_iconst (v := 0) hx hb dX6_sum_5 (by decide) ?_
  refine lv_istore_n (lv' := [(2, .int 0), (0, .ref (A 8)), (1, .int (nI dp))]) hx hb dX6_sum_6 rfl hl (by decide) rfl (fun ls hl => ?_)
  refine lv_iload_n hx hb dX6_sum_7 rfl (lv_at hl 0 rfl) ?_
  refine lv_sipush (v := 400) hx hb dX6_sum_8 (by decide) ?_
  refine lv_icmp_ge (tgt := 62) hx hb dX6_sum_11 (by decide) (fun c11 => absurd c11 (by decide)) (fun c11 => ?_)
  refine lv_aload_n hx hb dX6_sum_14 rfl (lv_at hl 1 rfl) ?_
  refine h_get X Y (k := 5) (v := .ref (hSg G (sg (np + 1)))) hPa.1 rfl hin_X6 (by decide) kfl_X6_32 rfl dX6_sum_15 ?_
  refine h_gets X Y (hsg_Z X.2.2.2.2.2.2.2.2.1 X.2.2.2.2.2.2.2.2.2.1 (k := 24) (by decide)) kfl_X6_183 dX6_sum_18 ?_
  refine lv_acmp_eq (rx := some (hSg G (sg (np + 1)))) (ry := some (hSg G 24)) (tgt := 34) hx hb dX6_sum_21 (by decide) (fun c21 => absurd (hsg_inj X.2.2.2.2.2.2.2.2.1 (by omega) (by omega) (Option.some.inj c21)) (by omega)) (fun c21 => ?_)
  refine lv_aload_n hx hb dX6_sum_24 rfl (lv_at hl 1 rfl) ?_
  refine h_get X Y (k := 5) (v := .ref (hSg G (sg (np + 1)))) hPa.1 rfl hin_X6 (by decide) kfl_X6_32 rfl dX6_sum_25 ?_
  refine h_gets X Y (hsg_Z X.2.2.2.2.2.2.2.2.1 X.2.2.2.2.2.2.2.2.2.1 (k := 25) (by decide)) kfl_X6_186 dX6_sum_28 ?_
  refine lv_acmp_ne (rx := some (hSg G (sg (np + 1)))) (ry := some (hSg G 25)) (tgt := 62) hx hb dX6_sum_31 (by decide) (fun c31 => ?_) (fun c31 => absurd (hsg_inj X.2.2.2.2.2.2.2.2.1 (by omega) (by omega) (Option.some.inj c31)) (by omega))
  exact h_vret X Y ⟨rfl, hPa, hfr⟩ (Nat.le_of_ble_eq_true rfl) (Nat.le_of_ble_eq_true rfl) dX6_sum_62
theorem dX6_sum_34 : decode cX6_sum 34 = .ok (.aload_n 0, 1) := by decide +kernel
theorem dX6_sum_35 : decode cX6_sum 35 = .ok (.getfield 32, 3) := by decide +kernel
theorem dX6_sum_38 : decode cX6_sum 38 = .ok (.astore_n 3, 1) := by decide +kernel
theorem dX6_sum_39 : decode cX6_sum 39 = .ok (.aload_n 0, 1) := by decide +kernel
theorem dX6_sum_40 : decode cX6_sum 40 = .ok (.aload_n 3, 1) := by decide +kernel
theorem dX6_sum_41 : decode cX6_sum 41 = .ok (.invokevirtual 51, 3) := by decide +kernel
theorem dX6_sum_44 : decode cX6_sum 44 = .ok (.pop, 1) := by decide +kernel
theorem dX6_sum_45 : decode cX6_sum 45 = .ok (.aload_n 0, 1) := by decide +kernel
theorem dX6_sum_46 : decode cX6_sum 46 = .ok (.iload_n 1, 1) := by decide +kernel
theorem dX6_sum_47 : decode cX6_sum 47 = .ok (.invokevirtual 180, 3) := by decide +kernel
theorem dX6_sum_50 : decode cX6_sum 50 = .ok (.aload_n 0, 1) := by decide +kernel
theorem dX6_sum_51 : decode cX6_sum 51 = .ok (.aload_n 3, 1) := by decide +kernel
theorem dX6_sum_52 : decode cX6_sum 52 = .ok (.iconst 0, 1) := by decide +kernel
theorem dX6_sum_53 : decode cX6_sum 53 = .ok (.invokevirtual 153, 3) := by decide +kernel
theorem dX6_sum_56 : decode cX6_sum 56 = .ok (.iinc 2 1, 3) := by decide +kernel
theorem dX6_sum_59 : decode cX6_sum 59 = .ok (.goto (-52), 3) := by decide +kernel
set_option maxHeartbeats 400000 in
set_option maxRecDepth 100000 in
theorem c_sumA (l : Launch) (G : hG) (M : hM) (A : Nat → Nat) (N : Nat) (sg : Nat → Nat) (nb : Nat → Int32) (wd : Nat → Int64) (hN : N < 400) (hTk : TkV G M A N sg nb wd) (hs7 : ∀ i, i ≤ N → sg i < 37) (sc np : Nat) (sn : Nat → Option Nat) (nn : Nat → Int32) (hPa : PaV G M A sg sc np sn nn) (dp : Nat) (hlf : (sg np = 34 ∨ sg np = 15 ∨ sg np = 17)) (hm : sg (np + 1) = 26) (hlf2 : (sg (np + 2) = 34 ∨ sg (np + 2) = 15 ∨ sg (np + 2) = 17)) (ho : sg (np + 3) = 24) (hlf3 : (sg (np + 4) = 34 ∨ sg (np + 4) = 15 ∨ sg (np + 4) = 17)) (he : sg (np + 5) ≠ 26 ∧ sg (np + 5) ≠ 27 ∧ sg (np + 5) ≠ 24 ∧ sg (np + 5) ≠ 25) (hlt : np + 5 ≤ N) (hsc : sc + 5 ≤ 400) : hCT l G yX6_sum cX6_sum 4 (Option.none) (hRm 5 0 0) M [.ref (A 8), .int (nI dp)] (fun v M' => v = none ∧ PaV G M' A sg (sc + 5) (np + 5) (stp G (stp G (stp G (stp G (stp G sn sc (sg np)) (sc + 1) (sg (np + 2))) (sc + 2) (sg (np + 1))) (sc + 3) (sg (np + 4))) (sc + 4) (sg (np + 3))) (upd (upd (upd (upd (upd nn sc (nb np)) (sc + 1) (nb (np + 2))) (sc + 2) 0) (sc + 3) (nb (np + 4))) (sc + 4) 0) ∧ hFr (fun u => u = 8 ∨ u = 9 ∨ u = 10) M M') := by
  refine hCT.of (own := RX6) (nm := "sum") (by decide) rfl rfl (Nat.le_of_ble_eq_true rfl) ?_
  intro p e s m args below meth c ls X Y hl
  have hx := X.1
  have hb := X.2.1
  have hl : lv_has ls 4 [(0, .ref (A 8)), (1, .int (nI dp))] := hl
  have hfr : hFr (fun u => u = 8 ∨ u = 9 ∨ u = 10) M M := hFr.rf
  have hs90 := hs7 (np) (by omega)
  have hs91 := hs7 (np + 1) (by omega)
  have hs92 := hs7 (np + 2) (by omega)
  have hs93 := hs7 (np + 3) (by omega)
  have hs94 := hs7 (np + 4) (by omega)
  have hs95 := hs7 (np + 5) (by omega)
  refine lv_aload_n hx hb dX6_sum_0 rfl (lv_at hl 0 rfl) ?_
  refine lv_iload_n hx hb dX6_sum_1 rfl (lv_at hl 1 rfl) ?_
  refine h_callV (rest := []) X Y (c_prod1 l G M A N sg nb wd hN hTk hs7 sc np sn nn hPa dp hlf hm hlf2 (by omega) (by omega) (by omega)) gw_X6_180 dsc_X6_product hPa.1 rfl rfl rfl hl.1 rfl (Nat.le_of_ble_eq_true rfl) ⟨Nat.le_of_ble_eq_true rfl, Nat.le_of_ble_eq_true rfl⟩ ⟨Nat.le_of_ble_eq_true rfl, Nat.le_of_ble_eq_true rfl⟩ dX6_sum_2 ?_
  rintro _ Mz1 H locs ⟨rfl, hPa, hfa⟩ Y
  try dsimp only [Option.toList, List.nil_append, List.singleton_append]
  have hTk := hTk.fr hfa (fun j z1 z2 z3 => by omega)
  have hfr := hFr.tr hfr hfa
  refine lv_iconst (v := 0) hx hb dX6_sum_5 (by decide) ?_
  refine lv_istore_n (lv' := [(2, .int 0), (0, .ref (A 8)), (1, .int (nI dp))]) hx hb dX6_sum_6 rfl hl (by decide) rfl (fun ls hl => ?_)
  refine lv_iload_n hx hb dX6_sum_7 rfl (lv_at hl 0 rfl) ?_
  refine lv_sipush (v := 400) hx hb dX6_sum_8 (by decide) ?_
  refine lv_icmp_ge (tgt := 62) hx hb dX6_sum_11 (by decide) (fun c11 => absurd c11 (by decide)) (fun c11 => ?_)
  refine lv_aload_n hx hb dX6_sum_14 rfl (lv_at hl 1 rfl) ?_
  refine h_get X Y (k := 5) (v := .ref (hSg G (sg (np + 3)))) hPa.1 rfl hin_X6 (by decide) kfl_X6_32 rfl dX6_sum_15 ?_
  refine h_gets X Y (hsg_Z X.2.2.2.2.2.2.2.2.1 X.2.2.2.2.2.2.2.2.2.1 (k := 24) (by decide)) kfl_X6_183 dX6_sum_18 ?_
  refine lv_acmp_eq (rx := some (hSg G (sg (np + 3)))) (ry := some (hSg G 24)) (tgt := 34) hx hb dX6_sum_21 (by decide) (fun c21 => ?_) (fun c21 => absurd (congrArg (fun z => some (hSg G z)) ho) c21)
  refine lv_aload_n hx hb dX6_sum_34 rfl (lv_at hl 1 rfl) ?_
  refine h_get X Y (k := 5) (v := .ref (hSg G (sg (np + 3)))) hPa.1 rfl hin_X6 (by decide) kfl_X6_32 rfl dX6_sum_35 ?_
  refine lv_astore_n (lv' := [(3, .ref (hSg G (sg (np + 3)))), (2, .int 0), (0, .ref (A 8)), (1, .int (nI dp))]) hx hb dX6_sum_38 rfl hl (by decide) rfl (fun ls hl => ?_)
  refine lv_aload_n hx hb dX6_sum_39 rfl (lv_at hl 2 rfl) ?_
  refine lv_aload_n hx hb dX6_sum_40 rfl (lv_at hl 0 rfl) ?_
  refine h_callV (rest := []) X Y (c_takesY l G Mz1 A N sg nb wd hN hTk hs7 (sc + 3) (np + 3) (stp G (stp G (stp G sn sc (sg np)) (sc + 1) (sg (np + 2))) (sc + 2) (sg (np + 1))) (upd (upd (upd nn sc (nb np)) (sc + 1) (nb (np + 2))) (sc + 2) 0) hPa (sg (np + 3)) (by omega) rfl (by omega)) gw_X6_51 dsc_X6_takes hPa.1 rfl rfl rfl hl.1 rfl (Nat.le_of_ble_eq_true rfl) ⟨Nat.le_of_ble_eq_true rfl, Nat.le_of_ble_eq_true rfl⟩ ⟨Nat.le_of_ble_eq_true rfl, Nat.le_of_ble_eq_true rfl⟩ dX6_sum_41 ?_
  rintro _ Mz2 H locs ⟨rfl, hPa, hfa⟩ Y
  try dsimp only [Option.toList, List.nil_append, List.singleton_append]
  have hTk := hTk.fr hfa (fun j z1 z2 z3 => by omega)
  have hfr := hFr.tr hfr hfa
  refine lv_pop hx hb dX6_sum_44 rfl ?_
  refine lv_aload_n hx hb dX6_sum_45 rfl (lv_at hl 2 rfl) ?_
  refine lv_iload_n hx hb dX6_sum_46 rfl (lv_at hl 3 rfl) ?_
  refine h_callV (rest := []) X Y (c_prod0 l G Mz2 A N sg nb wd hN hTk hs7 (sc + 3) (np + 4) (stp G (stp G (stp G sn sc (sg np)) (sc + 1) (sg (np + 2))) (sc + 2) (sg (np + 1))) (upd (upd (upd nn sc (nb np)) (sc + 1) (nb (np + 2))) (sc + 2) 0) hPa dp hlf3 ⟨he.1, he.2.1⟩ (by omega) (by omega)) gw_X6_180 dsc_X6_product hPa.1 rfl rfl rfl hl.1 rfl (Nat.le_of_ble_eq_true rfl) ⟨Nat.le_of_ble_eq_true rfl, Nat.le_of_ble_eq_true rfl⟩ ⟨Nat.le_of_ble_eq_true rfl, Nat.le_of_ble_eq_true rfl⟩ dX6_sum_47 ?_
  rintro _ Mz3 H locs ⟨rfl, hPa, hfa⟩ Y
  try dsimp only [Option.toList, List.nil_append, List.singleton_append]
  have hTk := hTk.fr hfa (fun j z1 z2 z3 => by omega)
  have hfr := hFr.tr hfr hfa
  refine lv_aload_n hx hb dX6_sum_50 rfl (lv_at hl 2 rfl) ?_
  refine lv_aload_n hx hb dX6_sum_51 rfl (lv_at hl 0 rfl) ?_
  refine lv_iconst (v := 0) hx hb dX6_sum_52 (by decide) ?_
  refine h_callV (rest := []) X Y (c_step l G Mz3 A N sg nb wd hN hTk hs7 (sc + 4) (np + 5) (stp G (stp G (stp G (stp G sn sc (sg np)) (sc + 1) (sg (np + 2))) (sc + 2) (sg (np + 1))) (sc + 3) (sg (np + 4))) (upd (upd (upd (upd nn sc (nb np)) (sc + 1) (nb (np + 2))) (sc + 2) 0) (sc + 3) (nb (np + 4))) hPa (sg (np + 3)) (by omega) 0 (by omega)) gw_X6_153 dsc_X6_step hPa.1 rfl rfl rfl hl.1 rfl (Nat.le_of_ble_eq_true rfl) ⟨Nat.le_of_ble_eq_true rfl, Nat.le_of_ble_eq_true rfl⟩ ⟨Nat.le_of_ble_eq_true rfl, Nat.le_of_ble_eq_true rfl⟩ dX6_sum_53 ?_
  rintro _ Mz4 H locs ⟨rfl, hPa, hfa⟩ Y
  try dsimp only [Option.toList, List.nil_append, List.singleton_append]
  have hTk := hTk.fr hfa (fun j z1 z2 z3 => by omega)
  have hfr := hFr.tr hfr hfa
  refine lv_iinc (v := nI 1) (lv' := [(2, .int (nI 1)), (3, .ref (hSg G (sg (np + 3)))), (0, .ref (A 8)), (1, .int (nI dp))]) hx hb dX6_sum_56 hl (k := 1) rfl (by decide) (by decide) rfl (fun ls hl => ?_)
  refine lv_goto (tgt := 7) hx hb dX6_sum_59 (by decide) ?_
  refine lv_iload_n hx hb dX6_sum_7 rfl (lv_at hl 0 rfl) ?_
  refine lv_sipush (v := 400) hx hb dX6_sum_8 (by decide) ?_
  refine lv_icmp_ge (tgt := 62) hx hb dX6_sum_11 (by decide) (fun c11 => absurd c11 (by decide)) (fun c11 => ?_)
  refine lv_aload_n hx hb dX6_sum_14 rfl (lv_at hl 2 rfl) ?_
  refine h_get X Y (k := 5) (v := .ref (hSg G (sg (np + 5)))) hPa.1 rfl hin_X6 (by decide) kfl_X6_32 rfl dX6_sum_15 ?_
  refine h_gets X Y (hsg_Z X.2.2.2.2.2.2.2.2.1 X.2.2.2.2.2.2.2.2.2.1 (k := 24) (by decide)) kfl_X6_183 dX6_sum_18 ?_
  refine lv_acmp_eq (rx := some (hSg G (sg (np + 5)))) (ry := some (hSg G 24)) (tgt := 34) hx hb dX6_sum_21 (by decide) (fun c21 => absurd (hsg_inj X.2.2.2.2.2.2.2.2.1 (by omega) (by omega) (Option.some.inj c21)) (by omega)) (fun c21 => ?_)
  refine lv_aload_n hx hb dX6_sum_24 rfl (lv_at hl 2 rfl) ?_
  refine h_get X Y (k := 5) (v := .ref (hSg G (sg (np + 5)))) hPa.1 rfl hin_X6 (by decide) kfl_X6_32 rfl dX6_sum_25 ?_
  refine h_gets X Y (hsg_Z X.2.2.2.2.2.2.2.2.1 X.2.2.2.2.2.2.2.2.2.1 (k := 25) (by decide)) kfl_X6_186 dX6_sum_28 ?_
  refine lv_acmp_ne (rx := some (hSg G (sg (np + 5)))) (ry := some (hSg G 25)) (tgt := 62) hx hb dX6_sum_31 (by decide) (fun c31 => ?_) (fun c31 => absurd (hsg_inj X.2.2.2.2.2.2.2.2.1 (by omega) (by omega) (Option.some.inj c31)) (by omega))
  exact h_vret X Y ⟨rfl, hPa, hfr⟩ (Nat.le_of_ble_eq_true rfl) (Nat.le_of_ble_eq_true rfl) dX6_sum_62
set_option maxHeartbeats 400000 in
set_option maxRecDepth 100000 in
theorem c_sumB (l : Launch) (G : hG) (M : hM) (A : Nat → Nat) (N : Nat) (sg : Nat → Nat) (nb : Nat → Int32) (wd : Nat → Int64) (hN : N < 400) (hTk : TkV G M A N sg nb wd) (hs7 : ∀ i, i ≤ N → sg i < 37) (sc np : Nat) (sn : Nat → Option Nat) (nn : Nat → Int32) (hPa : PaV G M A sg sc np sn nn) (dp : Nat) (hlf : (sg np = 34 ∨ sg np = 15 ∨ sg np = 17)) (ho : sg (np + 1) = 24) (hlf2 : (sg (np + 2) = 34 ∨ sg (np + 2) = 15 ∨ sg (np + 2) = 17)) (hm : sg (np + 3) = 26) (hlf3 : (sg (np + 4) = 34 ∨ sg (np + 4) = 15 ∨ sg (np + 4) = 17)) (he : sg (np + 5) ≠ 26 ∧ sg (np + 5) ≠ 27 ∧ sg (np + 5) ≠ 24 ∧ sg (np + 5) ≠ 25) (hlt : np + 5 ≤ N) (hsc : sc + 5 ≤ 400) : hCT l G yX6_sum cX6_sum 4 (Option.none) (hRm 5 0 0) M [.ref (A 8), .int (nI dp)] (fun v M' => v = none ∧ PaV G M' A sg (sc + 5) (np + 5) (stp G (stp G (stp G (stp G (stp G sn sc (sg np)) (sc + 1) (sg (np + 2))) (sc + 2) (sg (np + 4))) (sc + 3) (sg (np + 3))) (sc + 4) (sg (np + 1))) (upd (upd (upd (upd (upd nn sc (nb np)) (sc + 1) (nb (np + 2))) (sc + 2) (nb (np + 4))) (sc + 3) 0) (sc + 4) 0) ∧ hFr (fun u => u = 8 ∨ u = 9 ∨ u = 10) M M') := by
  refine hCT.of (own := RX6) (nm := "sum") (by decide) rfl rfl (Nat.le_of_ble_eq_true rfl) ?_
  intro p e s m args below meth c ls X Y hl
  have hx := X.1
  have hb := X.2.1
  have hl : lv_has ls 4 [(0, .ref (A 8)), (1, .int (nI dp))] := hl
  have hfr : hFr (fun u => u = 8 ∨ u = 9 ∨ u = 10) M M := hFr.rf
  have hs90 := hs7 (np) (by omega)
  have hs91 := hs7 (np + 1) (by omega)
  have hs92 := hs7 (np + 2) (by omega)
  have hs93 := hs7 (np + 3) (by omega)
  have hs94 := hs7 (np + 4) (by omega)
  have hs95 := hs7 (np + 5) (by omega)
  refine lv_aload_n hx hb dX6_sum_0 rfl (lv_at hl 0 rfl) ?_
  refine lv_iload_n hx hb dX6_sum_1 rfl (lv_at hl 1 rfl) ?_
  refine h_callV (rest := []) X Y (c_prod0 l G M A N sg nb wd hN hTk hs7 sc np sn nn hPa dp hlf (by omega) (by omega) (by omega)) gw_X6_180 dsc_X6_product hPa.1 rfl rfl rfl hl.1 rfl (Nat.le_of_ble_eq_true rfl) ⟨Nat.le_of_ble_eq_true rfl, Nat.le_of_ble_eq_true rfl⟩ ⟨Nat.le_of_ble_eq_true rfl, Nat.le_of_ble_eq_true rfl⟩ dX6_sum_2 ?_
  rintro _ Mz1 H locs ⟨rfl, hPa, hfa⟩ Y
  try dsimp only [Option.toList, List.nil_append, List.singleton_append]
  have hTk := hTk.fr hfa (fun j z1 z2 z3 => by omega)
  have hfr := hFr.tr hfr hfa
  refine lv_iconst (v := 0) hx hb dX6_sum_5 (by decide) ?_
  refine lv_istore_n (lv' := [(2, .int 0), (0, .ref (A 8)), (1, .int (nI dp))]) hx hb dX6_sum_6 rfl hl (by decide) rfl (fun ls hl => ?_)
  refine lv_iload_n hx hb dX6_sum_7 rfl (lv_at hl 0 rfl) ?_
  refine lv_sipush (v := 400) hx hb dX6_sum_8 (by decide) ?_
  refine lv_icmp_ge (tgt := 62) hx hb dX6_sum_11 (by decide) (fun c11 => absurd c11 (by decide)) (fun c11 => ?_)
  refine lv_aload_n hx hb dX6_sum_14 rfl (lv_at hl 1 rfl) ?_
  refine h_get X Y (k := 5) (v := .ref (hSg G (sg (np + 1)))) hPa.1 rfl hin_X6 (by decide) kfl_X6_32 rfl dX6_sum_15 ?_
  refine h_gets X Y (hsg_Z X.2.2.2.2.2.2.2.2.1 X.2.2.2.2.2.2.2.2.2.1 (k := 24) (by decide)) kfl_X6_183 dX6_sum_18 ?_
  refine lv_acmp_eq (rx := some (hSg G (sg (np + 1)))) (ry := some (hSg G 24)) (tgt := 34) hx hb dX6_sum_21 (by decide) (fun c21 => ?_) (fun c21 => absurd (congrArg (fun z => some (hSg G z)) ho) c21)
  refine lv_aload_n hx hb dX6_sum_34 rfl (lv_at hl 1 rfl) ?_
  refine h_get X Y (k := 5) (v := .ref (hSg G (sg (np + 1)))) hPa.1 rfl hin_X6 (by decide) kfl_X6_32 rfl dX6_sum_35 ?_
  refine lv_astore_n (lv' := [(3, .ref (hSg G (sg (np + 1)))), (2, .int 0), (0, .ref (A 8)), (1, .int (nI dp))]) hx hb dX6_sum_38 rfl hl (by decide) rfl (fun ls hl => ?_)
  refine lv_aload_n hx hb dX6_sum_39 rfl (lv_at hl 2 rfl) ?_
  refine lv_aload_n hx hb dX6_sum_40 rfl (lv_at hl 0 rfl) ?_
  refine h_callV (rest := []) X Y (c_takesY l G Mz1 A N sg nb wd hN hTk hs7 (sc + 1) (np + 1) (stp G sn sc (sg np)) (upd nn sc (nb np)) hPa (sg (np + 1)) (by omega) rfl (by omega)) gw_X6_51 dsc_X6_takes hPa.1 rfl rfl rfl hl.1 rfl (Nat.le_of_ble_eq_true rfl) ⟨Nat.le_of_ble_eq_true rfl, Nat.le_of_ble_eq_true rfl⟩ ⟨Nat.le_of_ble_eq_true rfl, Nat.le_of_ble_eq_true rfl⟩ dX6_sum_41 ?_
  rintro _ Mz2 H locs ⟨rfl, hPa, hfa⟩ Y
  try dsimp only [Option.toList, List.nil_append, List.singleton_append]
  have hTk := hTk.fr hfa (fun j z1 z2 z3 => by omega)
  have hfr := hFr.tr hfr hfa
  refine lv_pop hx hb dX6_sum_44 rfl ?_
  refine lv_aload_n hx hb dX6_sum_45 rfl (lv_at hl 2 rfl) ?_
  refine lv_iload_n hx hb dX6_sum_46 rfl (lv_at hl 3 rfl) ?_
  refine h_callV (rest := []) X Y (c_prod1 l G Mz2 A N sg nb wd hN hTk hs7 (sc + 1) (np + 2) (stp G sn sc (sg np)) (upd nn sc (nb np)) hPa dp hlf2 hm hlf3 ⟨he.1, he.2.1⟩ (by omega) (by omega)) gw_X6_180 dsc_X6_product hPa.1 rfl rfl rfl hl.1 rfl (Nat.le_of_ble_eq_true rfl) ⟨Nat.le_of_ble_eq_true rfl, Nat.le_of_ble_eq_true rfl⟩ ⟨Nat.le_of_ble_eq_true rfl, Nat.le_of_ble_eq_true rfl⟩ dX6_sum_47 ?_
  rintro _ Mz3 H locs ⟨rfl, hPa, hfa⟩ Y
  try dsimp only [Option.toList, List.nil_append, List.singleton_append]
  have hTk := hTk.fr hfa (fun j z1 z2 z3 => by omega)
  have hfr := hFr.tr hfr hfa
  refine lv_aload_n hx hb dX6_sum_50 rfl (lv_at hl 2 rfl) ?_
  refine lv_aload_n hx hb dX6_sum_51 rfl (lv_at hl 0 rfl) ?_
  refine lv_iconst (v := 0) hx hb dX6_sum_52 (by decide) ?_
  refine h_callV (rest := []) X Y (c_step l G Mz3 A N sg nb wd hN hTk hs7 (sc + 4) (np + 5) (stp G (stp G (stp G (stp G sn sc (sg np)) (sc + 1) (sg (np + 2))) (sc + 2) (sg (np + 4))) (sc + 3) (sg (np + 3))) (upd (upd (upd (upd nn sc (nb np)) (sc + 1) (nb (np + 2))) (sc + 2) (nb (np + 4))) (sc + 3) 0) hPa (sg (np + 1)) (by omega) 0 (by omega)) gw_X6_153 dsc_X6_step hPa.1 rfl rfl rfl hl.1 rfl (Nat.le_of_ble_eq_true rfl) ⟨Nat.le_of_ble_eq_true rfl, Nat.le_of_ble_eq_true rfl⟩ ⟨Nat.le_of_ble_eq_true rfl, Nat.le_of_ble_eq_true rfl⟩ dX6_sum_53 ?_
  rintro _ Mz4 H locs ⟨rfl, hPa, hfa⟩ Y
  try dsimp only [Option.toList, List.nil_append, List.singleton_append]
  have hTk := hTk.fr hfa (fun j z1 z2 z3 => by omega)
  have hfr := hFr.tr hfr hfa
  refine lv_iinc (v := nI 1) (lv' := [(2, .int (nI 1)), (3, .ref (hSg G (sg (np + 1)))), (0, .ref (A 8)), (1, .int (nI dp))]) hx hb dX6_sum_56 hl (k := 1) rfl (by decide) (by decide) rfl (fun ls hl => ?_)
  refine lv_goto (tgt := 7) hx hb dX6_sum_59 (by decide) ?_
  refine lv_iload_n hx hb dX6_sum_7 rfl (lv_at hl 0 rfl) ?_
  refine lv_sipush (v := 400) hx hb dX6_sum_8 (by decide) ?_
  refine lv_icmp_ge (tgt := 62) hx hb dX6_sum_11 (by decide) (fun c11 => absurd c11 (by decide)) (fun c11 => ?_)
  refine lv_aload_n hx hb dX6_sum_14 rfl (lv_at hl 2 rfl) ?_
  refine h_get X Y (k := 5) (v := .ref (hSg G (sg (np + 5)))) hPa.1 rfl hin_X6 (by decide) kfl_X6_32 rfl dX6_sum_15 ?_
  refine h_gets X Y (hsg_Z X.2.2.2.2.2.2.2.2.1 X.2.2.2.2.2.2.2.2.2.1 (k := 24) (by decide)) kfl_X6_183 dX6_sum_18 ?_
  refine lv_acmp_eq (rx := some (hSg G (sg (np + 5)))) (ry := some (hSg G 24)) (tgt := 34) hx hb dX6_sum_21 (by decide) (fun c21 => absurd (hsg_inj X.2.2.2.2.2.2.2.2.1 (by omega) (by omega) (Option.some.inj c21)) (by omega)) (fun c21 => ?_)
  refine lv_aload_n hx hb dX6_sum_24 rfl (lv_at hl 2 rfl) ?_
  refine h_get X Y (k := 5) (v := .ref (hSg G (sg (np + 5)))) hPa.1 rfl hin_X6 (by decide) kfl_X6_32 rfl dX6_sum_25 ?_
  refine h_gets X Y (hsg_Z X.2.2.2.2.2.2.2.2.1 X.2.2.2.2.2.2.2.2.2.1 (k := 25) (by decide)) kfl_X6_186 dX6_sum_28 ?_
  refine lv_acmp_ne (rx := some (hSg G (sg (np + 5)))) (ry := some (hSg G 25)) (tgt := 62) hx hb dX6_sum_31 (by decide) (fun c31 => ?_) (fun c31 => absurd (hsg_inj X.2.2.2.2.2.2.2.2.1 (by omega) (by omega) (Option.some.inj c31)) (by omega))
  exact h_vret X Y ⟨rfl, hPa, hfr⟩ (Nat.le_of_ble_eq_true rfl) (Nat.le_of_ble_eq_true rfl) dX6_sum_62
theorem dX7_isComparison_0 : decode cX7_isComparison 0 = .ok (.aload_n 0, 1) := by decide +kernel
theorem dX7_isComparison_1 : decode cX7_isComparison 1 = .ok (.getstatic 88, 3) := by decide +kernel
theorem dX7_isComparison_4 : decode cX7_isComparison 4 = .ok (.if_acmp .eq 31, 3) := by decide +kernel
theorem dX7_isComparison_7 : decode cX7_isComparison 7 = .ok (.aload_n 0, 1) := by decide +kernel
theorem dX7_isComparison_8 : decode cX7_isComparison 8 = .ok (.getstatic 91, 3) := by decide +kernel
theorem dX7_isComparison_11 : decode cX7_isComparison 11 = .ok (.if_acmp .eq 24, 3) := by decide +kernel
theorem dX7_isComparison_14 : decode cX7_isComparison 14 = .ok (.aload_n 0, 1) := by decide +kernel
theorem dX7_isComparison_15 : decode cX7_isComparison 15 = .ok (.getstatic 94, 3) := by decide +kernel
theorem dX7_isComparison_18 : decode cX7_isComparison 18 = .ok (.if_acmp .eq 17, 3) := by decide +kernel
theorem dX7_isComparison_21 : decode cX7_isComparison 21 = .ok (.aload_n 0, 1) := by decide +kernel
theorem dX7_isComparison_22 : decode cX7_isComparison 22 = .ok (.getstatic 97, 3) := by decide +kernel
theorem dX7_isComparison_25 : decode cX7_isComparison 25 = .ok (.if_acmp .eq 10, 3) := by decide +kernel
theorem dX7_isComparison_28 : decode cX7_isComparison 28 = .ok (.aload_n 0, 1) := by decide +kernel
theorem dX7_isComparison_29 : decode cX7_isComparison 29 = .ok (.getstatic 100, 3) := by decide +kernel
theorem dX7_isComparison_32 : decode cX7_isComparison 32 = .ok (.if_acmp .ne 7, 3) := by decide +kernel
theorem dX7_isComparison_35 : decode cX7_isComparison 35 = .ok (.iconst 1, 1) := by decide +kernel
theorem dX7_isComparison_36 : decode cX7_isComparison 36 = .ok (.goto 4, 3) := by decide +kernel
theorem dX7_isComparison_40 : decode cX7_isComparison 40 = .ok (.ireturn, 1) := by decide +kernel
set_option maxHeartbeats 400000 in
set_option maxRecDepth 100000 in
theorem c_isComp (l : Launch) (G : hG) (M : hM) (k : Nat) (hk : k = 28 ∨ k = 32) : hCT l G yX7_isComparison cX7_isComparison 1 (Option.some FieldType.boolean) (hRm 1 0 0) M [.ref (hSg G k)] (hRd M (.int 1)) := by
  refine hCT.of (own := RX7) (nm := "isComparison") (by decide) rfl rfl (Nat.le_of_ble_eq_true rfl) ?_
  intro p e s m args below meth c ls X Y hl
  have hx := X.1
  have hb := X.2.1
  have hl : lv_has ls 1 [(0, .ref (hSg G k))] := hl
  rcases hk with rfl | rfl
  · refine lv_aload_n hx hb dX7_isComparison_0 rfl (lv_at hl 0 rfl) ?_
    refine h_gets X Y (hsg_Z X.2.2.2.2.2.2.2.2.1 X.2.2.2.2.2.2.2.2.2.1 (k := 28) (by decide)) kfl_X7_88 dX7_isComparison_1 ?_
    refine lv_acmp_eq (rx := some (hSg G 28)) (ry := some (hSg G 28)) (tgt := 35) hx hb dX7_isComparison_4 (by decide) (fun c4 => ?_) (fun c4 => absurd (congrArg (fun z => some (hSg G z)) rfl) c4)
    refine lv_iconst (v := 1) hx hb dX7_isComparison_35 (by decide) ?_
    refine lv_goto (tgt := 40) hx hb dX7_isComparison_36 (by decide) ?_
    exact h_zret X Y rfl ⟨rfl, rfl⟩ (Nat.le_refl _) (Nat.le_refl _) dX7_isComparison_40
  · refine lv_aload_n hx hb dX7_isComparison_0 rfl (lv_at hl 0 rfl) ?_
    refine h_gets X Y (hsg_Z X.2.2.2.2.2.2.2.2.1 X.2.2.2.2.2.2.2.2.2.1 (k := 28) (by decide)) kfl_X7_88 dX7_isComparison_1 ?_
    refine lv_acmp_eq (rx := some (hSg G 32)) (ry := some (hSg G 28)) (tgt := 35) hx hb dX7_isComparison_4 (by decide) (fun c4 => absurd (hsg_inj X.2.2.2.2.2.2.2.2.1 (by omega) (by omega) (Option.some.inj c4)) (by decide)) (fun c4 => ?_)
    refine lv_aload_n hx hb dX7_isComparison_7 rfl (lv_at hl 0 rfl) ?_
    refine h_gets X Y (hsg_Z X.2.2.2.2.2.2.2.2.1 X.2.2.2.2.2.2.2.2.2.1 (k := 29) (by decide)) kfl_X7_91 dX7_isComparison_8 ?_
    refine lv_acmp_eq (rx := some (hSg G 32)) (ry := some (hSg G 29)) (tgt := 35) hx hb dX7_isComparison_11 (by decide) (fun c11 => absurd (hsg_inj X.2.2.2.2.2.2.2.2.1 (by omega) (by omega) (Option.some.inj c11)) (by decide)) (fun c11 => ?_)
    refine lv_aload_n hx hb dX7_isComparison_14 rfl (lv_at hl 0 rfl) ?_
    refine h_gets X Y (hsg_Z X.2.2.2.2.2.2.2.2.1 X.2.2.2.2.2.2.2.2.2.1 (k := 30) (by decide)) kfl_X7_94 dX7_isComparison_15 ?_
    refine lv_acmp_eq (rx := some (hSg G 32)) (ry := some (hSg G 30)) (tgt := 35) hx hb dX7_isComparison_18 (by decide) (fun c18 => absurd (hsg_inj X.2.2.2.2.2.2.2.2.1 (by omega) (by omega) (Option.some.inj c18)) (by decide)) (fun c18 => ?_)
    refine lv_aload_n hx hb dX7_isComparison_21 rfl (lv_at hl 0 rfl) ?_
    refine h_gets X Y (hsg_Z X.2.2.2.2.2.2.2.2.1 X.2.2.2.2.2.2.2.2.2.1 (k := 31) (by decide)) kfl_X7_97 dX7_isComparison_22 ?_
    refine lv_acmp_eq (rx := some (hSg G 32)) (ry := some (hSg G 31)) (tgt := 35) hx hb dX7_isComparison_25 (by decide) (fun c25 => absurd (hsg_inj X.2.2.2.2.2.2.2.2.1 (by omega) (by omega) (Option.some.inj c25)) (by decide)) (fun c25 => ?_)
    refine lv_aload_n hx hb dX7_isComparison_28 rfl (lv_at hl 0 rfl) ?_
    refine h_gets X Y (hsg_Z X.2.2.2.2.2.2.2.2.1 X.2.2.2.2.2.2.2.2.2.1 (k := 32) (by decide)) kfl_X7_100 dX7_isComparison_29 ?_
    refine lv_acmp_ne (rx := some (hSg G 32)) (ry := some (hSg G 32)) (tgt := 39) hx hb dX7_isComparison_32 (by decide) (fun c32 => absurd (congrArg (fun z => some (hSg G z)) rfl) c32) (fun c32 => ?_)
    refine lv_iconst (v := 1) hx hb dX7_isComparison_35 (by decide) ?_
    refine lv_goto (tgt := 40) hx hb dX7_isComparison_36 (by decide) ?_
    exact h_zret X Y rfl ⟨rfl, rfl⟩ (Nat.le_refl _) (Nat.le_refl _) dX7_isComparison_40
