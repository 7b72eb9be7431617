-- WHAT THE STATEMENT GIVES OF THE START, for good: the constants of the enum, static rows
def hAr (G : hG) : Array Value := #[Value.ref G.2.1]
def hFl : List Cond := flatC (Jvm.Cond.and given_1 narrow_1)
theorem hN {G : hG} (hs : hSt G) {c : Cond} (i : Nat) (h : hFl[i]? = some c) : c.before (hAr G) (hU G) = true := flat_of_before _ hs.2.1 _ (List.mem_of_getElem? h)
theorem hNs {G : hG} (hs : hSt G) (L : List Nat) (f : Nat → Cond) (N : Nat) (h : (List.range N).all (fun i => decide (hFl[L.getD i 0]? = some (f i))) = true) : ∀ i, i < N → (f i).before (hAr G) (hU G) = true := fun i hi =>
  hN hs (L.getD i 0) (of_decide_eq_true (List.all_eq_true.mp h i (List.mem_range.mpr hi)))
theorem hW0 {G : hG} (hs : hSt G) {c : Cond} (i : Nat) (h : lw_tbl[i]? = some c) : c.before (hAr G) (hU G) = true := hs.1 _ (List.mem_of_getElem? h)
theorem hW0s {G : hG} (hs : hSt G) (L : List Nat) (f : Nat → Cond) (N : Nat) (h : (List.range N).all (fun i => decide (lw_tbl[L.getD i 0]? = some (f i))) = true) : ∀ i, i < N → (f i).before (hAr G) (hU G) = true := fun i hi =>
  hW0 hs (L.getD i 0) (of_decide_eq_true (List.all_eq_true.mp h i (List.mem_range.mpr hi)))
def hev (G : hG) (t : Term) : Option Value := t.eval (hAr G) (hU G) none [] (hU G)
def had (G : hG) (t : Term) : Nat := match hev G t with
  | some (.ref a) => a
  | _ => 0
theorem had_of {G : hG} {t : Term} {a : Nat} (h : hev G t = some (.ref a)) : had G t = a := by unfold had; rw [h]
theorem hlow {G : hG} : ∀ a : Nat, a < (hU G).heap.size → ¬ hA G a := fun a h => Nat.not_le.mpr h
theorem hkep {G : hG} {s : State} (hr : hR G s) : ∀ a : Nat, a < (hU G).heap.size → ¬ hA G a → s.heap[a]? = (hU G).heap[a]? := fun a h _ => hr.2.2 a h
theorem hO_at {G : hG} {s : State} (hr : hR G s) {E : String} {t : Nat} (h : va_O E t (hA G) (hU G) (hU G).heap) : va_O E t (hA G) s s.heap := (va_O.moved hr.1.alike h).kept (hkep hr)
theorem hOF_at {G : hG} {s : State} (hr : hR G s) {o n d : String} {v : Value} {t : Nat} (h : va_OF o n d v t (hA G) (hU G) (hU G).heap) : va_OF o n d v t (hA G) s s.heap := (va_OF.moved hr.1.alike h).kept (hkep hr)
theorem hZ_at {G : hG} {s : State} (hr : hR G s) {C n d : String} {v : Value} (h : va_Z C n d v (hA G) (hU G) (hU G).heap) : va_Z C n d v (hA G) s s.heap := (va_Z.moved hr.1.alike h).kept (hkep hr)
theorem hT_at {G : hG} {s : State} (hr : hR G s) {ty : FieldType} {t N : Nat} {f : Nat → Value} (h : va_T ty t N f (hA G) (hU G) (hU G).heap) : va_T ty t N f (hA G) s s.heap := (va_T.moved hr.1.alike h).kept (hkep hr)
theorem hO_of {G : hG} {t : Term} {E : String} (h : (Cond.exactly t E).before (hAr G) (hU G) = true) : hev G t = some (.ref (had G t)) ∧ va_O E (had G t) (hA G) (hU G) (hU G).heap := by
  obtain ⟨a, c, cell, k, q1, q2, q3, q4, q5, q6, -⟩ := Cond.exactly_spec h
  have e : had G t = a := had_of q1
  rw [e]
  exact ⟨q1, cell, q3, q5, by rw [q6]; exact q2, hlow a (Array.getElem?_eq_some_iff.mp q3).1⟩
theorem hOF_of {G : hG} {t u : Term} {o n d : String} {v : Value} {a : Nat} (ht : hev G t = some (.ref a)) (hc : (Cond.eq (.field t o n d) u).before (hAr G) (hU G) = true) (hu : hev G u = some v) : va_OF o n d v a (hA G) (hU G) (hU G).heap :=
  vk_OFof ht (va_eqv hc hu) hlow
-- the constants of the enum, by their numbers
def sgNm : List String := ["LAYER", "XS", "SHARE", "YEARLY", "AFTER", "REINSTATE", "AT", "NET", "OF", "WHEN", "AND", "OR", "NOT", "MIN", "MAX", "LINE", "YEAR", "AMOUNT", "ROUND", "ROUND_END", "SQUARE", "SQUARE_END", "SEMICOLON", "COMMA", "PLUS", "MINUS", "TIMES", "OVER", "LESS", "GREATER", "EQUAL", "AT_MOST", "AT_LEAST", "NAME", "NUMBER", "TURNED", "END", "WRONG"]
def sgOps : List Int32 := [0, 0, 0, 0, 0, 0, 0, 0, 0, 0, 2, 2, 1, 2, 2, 0, 0, 0, 0, 0, 0, 0, 0, 0, 2, 2, 2, 2, 2, 2, 2, 2, 2, 0, 0, 1, 0, 0]
def sgT (k : Nat) : Term := .static "LossHouse$Sign" (sgNm.getD k "") "LLossHouse$Sign;"
def sgOp (k : Nat) : Int32 := sgOps.getD k 0
def hSg (G : hG) (k : Nat) : Nat := had G (sgT k)
set_option maxRecDepth 100000 in
theorem hsg_ex {G : hG} (hs : hSt G) : ∀ k, k < 38 → (Cond.exactly (sgT k) "LossHouse$Sign").before (hAr G) (hU G) = true := hNs hs [119, 175, 179, 183, 187, 191, 195, 199, 203, 207, 239, 243, 55, 151, 155, 123, 127, 131, 143, 147, 211, 215, 247, 159, 171, 135, 163, 167, 219, 223, 227, 231, 235, 115, 111, 139, 107, 4] _ 38 (by decide +kernel)
set_option maxRecDepth 100000 in
theorem hsg_or {G : hG} (hs : hSt G) : ∀ k, k < 38 → (Cond.eq (.field (sgT k) "java/lang/Enum" "ordinal" "I") (.int (nI k))).before (hAr G) (hU G) = true := hNs hs [120, 176, 180, 184, 188, 192, 196, 200, 204, 208, 240, 244, 56, 152, 156, 124, 128, 132, 144, 148, 212, 216, 248, 160, 172, 136, 164, 168, 220, 224, 228, 232, 236, 116, 112, 140, 108, 5] (fun k => Cond.eq (.field (sgT k) "java/lang/Enum" "ordinal" "I") (.int (nI k))) 38 (by decide +kernel)
set_option maxRecDepth 100000 in
theorem hsg_op {G : hG} (hs : hSt G) : ∀ k, k < 38 → (Cond.eq (.field (sgT k) "LossHouse$Sign" "operands" "I") (.int (sgOp k))).before (hAr G) (hU G) = true := hNs hs [122, 178, 182, 186, 190, 194, 198, 202, 206, 210, 242, 246, 58, 154, 158, 126, 130, 134, 146, 150, 214, 218, 250, 162, 174, 138, 166, 170, 222, 226, 230, 234, 238, 118, 114, 142, 110, 7] (fun k => Cond.eq (.field (sgT k) "LossHouse$Sign" "operands" "I") (.int (sgOp k))) 38 (by decide +kernel)
set_option maxRecDepth 100000 in
theorem hsg_ly {G : hG} (hs : hSt G) : ∀ k, k < 38 → (Cond.laysStatic "LossHouse$Sign" (sgNm.getD k "") "LLossHouse$Sign;").before (hAr G) (hU G) = true := hW0s hs [916, 1008, 1063, 1065, 1067, 1069, 1071, 1077, 1079, 1081, 1118, 1120, 475, 974, 976, 948, 950, 952, 970, 972, 1100, 1102, 1122, 982, 988, 962, 984, 986, 1108, 1110, 1112, 1114, 1116, 895, 893, 968, 891, 150] (fun k => Cond.laysStatic "LossHouse$Sign" (sgNm.getD k "") "LLossHouse$Sign;") 38 (by decide +kernel)
theorem hsg_O {G : hG} {s : State} (hs : hSt G) (hr : hR G s) {k : Nat} (hk : k < 38) : va_O "LossHouse$Sign" (hSg G k) (hA G) s s.heap := hO_at hr (hO_of (hsg_ex hs k hk)).2
theorem hsg_ordF {G : hG} (hs : hSt G) {k : Nat} (hk : k < 38) : va_OF "java/lang/Enum" "ordinal" "I" (.int (nI k)) (hSg G k) (hA G) (hU G) (hU G).heap := hOF_of (hO_of (hsg_ex hs k hk)).1 (hsg_or hs k hk) rfl
theorem hsg_opF {G : hG} {s : State} (hs : hSt G) (hr : hR G s) {k : Nat} (hk : k < 38) : va_OF "LossHouse$Sign" "operands" "I" (.int (sgOp k)) (hSg G k) (hA G) s s.heap := hOF_at hr (hOF_of (hO_of (hsg_ex hs k hk)).1 (hsg_op hs k hk) rfl)
theorem hsg_Z {G : hG} {s : State} (hs : hSt G) (hr : hR G s) {k : Nat} (hk : k < 38) : va_Z "LossHouse$Sign" (sgNm.getD k "") "LLossHouse$Sign;" (.ref (hSg G k)) (hA G) s s.heap := hZ_at hr (va_Zof (hsg_ly hs k hk) (hW0 hs 61 (by decide +kernel)) (hO_of (hsg_ex hs k hk)).1 hlow)
theorem hsg_inj {G : hG} (hs : hSt G) {i j : Nat} (hi : i < 38) (hj : j < 38) (h : hSg G i = hSg G j) : i = j := by
  obtain ⟨cf, k, fi, f, cell, h1, h2, h3, h4, h5, h6⟩ := hsg_ordF hs hi
  obtain ⟨cf', k', fi', f', cell', g1, g2, g3, g4, g5, g6⟩ := hsg_ordF hs hj
  rw [h] at h3
  have e1 := h1.symm.trans g1
  cases e1
  have e2 := h3.symm.trans g3
  cases e2
  have e3 := h5.symm.trans g5
  have e4 : nI i = nI j := by injection e3 with e3; injection e3
  exact (nI_eq (by omega) (by omega)).mp e4
-- the row of all constants
def hSGS (G : hG) : Nat := had G (.static "LossHouse$Tokens" "SIGNS" "[LLossHouse$Sign;")
def swVs : List Int32 := [0, 0, 17, 0, 0, 18, 19, 0, 0, 0, 15, 16, 0, 8, 9, 1, 2, 3, 0, 0, 0, 0, 0, 0, 4, 5, 6, 7, 10, 11, 12, 13, 14, 0, 0, 0, 0, 0]
def swV (k : Nat) : Int32 := swVs.getD k 0
def hSW (G : hG) : Nat := had G (.static "LossHouse$1" "$SwitchMap$LossHouse$Sign" "[I")
theorem hsgs_T0 {G : hG} (hs : hSt G) : hev G (.static "LossHouse$Tokens" "SIGNS" "[LLossHouse$Sign;") = some (.ref (hSGS G)) ∧ va_T (.object "LossHouse$Sign") (hSGS G) 38 (fun i => .ref (hSg G i)) (hA G) (hU G) (hU G).heap := by
  obtain ⟨t, ht, hT⟩ := va_Tof (ty := .object "LossHouse$Sign") (tm := .static "LossHouse$Tokens" "SIGNS" "[LLossHouse$Sign;") (f := fun i => .ref (hSg G i)) (A := hA G) (N := 38) (by decide) (hN hs 66 (by decide +kernel)) (va_eqt (hN hs 67 (by decide +kernel))) (fun j hj => va_eqv (hNs hs [69, 70, 71, 72, 73, 74, 75, 76, 77, 78, 79, 80, 81, 82, 83, 84, 85, 86, 87, 88, 89, 90, 91, 92, 93, 94, 95, 96, 97, 98, 99, 100, 101, 102, 103, 104, 105, 106] (fun k => Cond.eq (.elem (.static "LossHouse$Tokens" "SIGNS" "[LLossHouse$Sign;") (.int (Int32.ofNat k))) (sgT k)) 38 (by decide +kernel) j hj) (hO_of (hsg_ex hs j hj)).1) hlow
  have e : hSGS G = t := had_of ht
  rw [e]
  exact ⟨ht, hT⟩
theorem hsw_T0 {G : hG} (hs : hSt G) : hev G (.static "LossHouse$1" "$SwitchMap$LossHouse$Sign" "[I") = some (.ref (hSW G)) ∧ va_T .int (hSW G) 38 (fun i => .int (swV i)) (hA G) (hU G) (hU G).heap := by
  obtain ⟨t, ht, hT⟩ := va_Tof (ty := .int) (tm := .static "LossHouse$1" "$SwitchMap$LossHouse$Sign" "[I") (f := fun i => .int (swV i)) (A := hA G) (N := 38) (by decide) (hN hs 15 (by decide +kernel)) (va_eqt (hN hs 16 (by decide +kernel))) (fun j hj => va_eqt (hNs hs [17, 18, 19, 20, 21, 22, 23, 24, 25, 26, 27, 28, 29, 30, 31, 32, 33, 34, 35, 36, 37, 38, 39, 40, 41, 42, 43, 44, 45, 46, 47, 48, 49, 50, 51, 52, 53, 54] (fun k => Cond.eq (.elem (.static "LossHouse$1" "$SwitchMap$LossHouse$Sign" "[I") (.int (Int32.ofNat k))) (.int (swV k))) 38 (by decide +kernel) j hj)) hlow
  have e : hSW G = t := had_of ht
  rw [e]
  exact ⟨ht, hT⟩
theorem hsgs_T {G : hG} {s : State} (hs : hSt G) (hr : hR G s) : va_T (.object "LossHouse$Sign") (hSGS G) 38 (fun i => .ref (hSg G i)) (hA G) s s.heap := hT_at hr (hsgs_T0 hs).2
theorem hsw_T {G : hG} {s : State} (hs : hSt G) (hr : hR G s) : va_T .int (hSW G) 38 (fun i => .int (swV i)) (hA G) s s.heap := hT_at hr (hsw_T0 hs).2
theorem hsgs_Z {G : hG} {s : State} (hs : hSt G) (hr : hR G s) : va_Z "LossHouse$Tokens" "SIGNS" "[LLossHouse$Sign;" (.ref (hSGS G)) (hA G) s s.heap := hZ_at hr (va_Zof (hW0 hs 878 (by decide +kernel)) (hW0 hs 58 (by decide +kernel)) (hsgs_T0 hs).1 hlow)
theorem hsw_Z {G : hG} {s : State} (hs : hSt G) (hr : hR G s) : va_Z "LossHouse$1" "$SwitchMap$LossHouse$Sign" "[I" (.ref (hSW G)) (hA G) s s.heap := hZ_at hr (va_Zof (hW0 hs 467 (by decide +kernel)) (hW0 hs 88 (by decide +kernel)) (hsw_T0 hs).1 hlow)
section HCONST
variable {G : hG} {p : Program} {l : Launch} {e : Env} {R : Room} {s : State} {m : MethodId} {args : Array Value} {below : List Frame} {meth : Method} {c : Code} {H : Heap} {locs : List Loc} {cells slots : Nat} {Q : State → Prop}
variable {cc : ByteArray} {maxL : Nat} {ret : Option FieldType} {own nm : String} {M : hM} {pc : Nat} {ls : Array Slot} {rest : List Value} {a t ci index n : Nat} {cA : ClassId}
/-- a static is read -/
theorem h_gets (X : hCX G p s m args meth c cc maxL ret own nm) (Y : hHS G M s H locs) {C f d : String} {v : Value} (hZ : va_Z C f d v (hA G) s s.heap) (hlink : Cond.fieldLink own index C f d ∈ hGW) (hdg : decode cc pc = .ok (.getstatic index, 3))
    (kk : W p l e R s m args below meth c H locs cells slots Q (F0 m (pc + 3) ls (v :: rest))) : W p l e R s m args below meth c H locs cells slots Q (F0 m pc ls rest) :=
  va_gets X.1 X.2.1 hZ Y.2 X.2.2.2.2.1 (X.2.2.2.2.2.1 _ hlink) (fun _ h => h) hdg kk
/-- a field of an object that lay there before -/
theorem h_getC (X : hCX G p s m args meth c cc maxL ret own nm) (Y : hHS G M s H locs) {o f d : String} {v : Value} {q : Nat} (hE : va_OF o f d v q (hA G) s s.heap) (hlink : Cond.fieldLink own index o f d ∈ hGW) (hdg : decode cc pc = .ok (.getfield index, 3))
    (kk : W p l e R s m args below meth c H locs cells slots Q (F0 m (pc + 3) ls (v :: rest))) : W p l e R s m args below meth c H locs cells slots Q (F0 m pc ls (.ref q :: rest)) :=
  vk_getf X.1 X.2.1 hE Y.2 X.2.2.2.2.1 (X.2.2.2.2.2.1 _ hlink) (fun _ h => h) hdg kk
/-- a static row of ints is read -/
theorem h_iaT (X : hCX G p s m args meth c cc maxL ret own nm) (Y : hHS G M s H locs) {q N i : Nat} {f : Nat → Value} (hT : va_T .int q N f (hA G) s s.heap) (hi : i < N) (hn : N < 2 ^ 31) (hdg : decode cc pc = .ok (.iaload, 1))
    (kk : W p l e R s m args below meth c H locs cells slots Q (F0 m (pc + 1) ls (f i :: rest))) : W p l e R s m args below meth c H locs cells slots Q (F0 m pc ls (.int (nI i) :: .ref q :: rest)) :=
  va_ti X.1 X.2.1 hT Y.2 (vp_in_nI hi hn) (by rw [nI_clamp (Nat.lt_trans hi hn)]) hdg kk
theorem h_aaT (X : hCX G p s m args meth c cc maxL ret own nm) (Y : hHS G M s H locs) {q N i : Nat} {C : String} {f : Nat → Value} (hT : va_T (.object C) q N f (hA G) s s.heap) (hi : i < N) (hn : N < 2 ^ 31) (hdg : decode cc pc = .ok (.aaload, 1))
    (kk : W p l e R s m args below meth c H locs cells slots Q (F0 m (pc + 1) ls (f i :: rest))) : W p l e R s m args below meth c H locs cells slots Q (F0 m pc ls (.int (nI i) :: .ref q :: rest)) :=
  vb_tq X.1 X.2.1 hT Y.2 (vp_in_nI hi hn) (by rw [nI_clamp (Nat.lt_trans hi hn)]) hdg kk
theorem h_lenT (X : hCX G p s m args meth c cc maxL ret own nm) (Y : hHS G M s H locs) {q N : Nat} {ty : FieldType} {f : Nat → Value} (hT : va_T ty q N f (hA G) s s.heap) (hdg : decode cc pc = .ok (.arraylength, 1))
    (kk : W p l e R s m args below meth c H locs cells slots Q (F0 m (pc + 1) ls (.int (nI N) :: rest))) : W p l e R s m args below meth c H locs cells slots Q (F0 m pc ls (.ref q :: rest)) :=
  va_tlen X.1 X.2.1 hT Y.2 rfl hdg kk
theorem h_recvO (Y : hHS G M s H locs) {E : String} {q : Nat} (hO : va_O E q (hA G) s s.heap) : ∃ cellB : Cell, H[q]? = some cellB ∧ cellB.vm.isStatics = false ∧ s.vm.findClass E = some cellB.cls := by
  obtain ⟨cell, h1, h2, h3, h4⟩ := hO
  exact ⟨cell, by rw [Y.2.2.1 q (Array.getElem?_eq_some_iff.mp h1).1 h4]; exact h1, h2, h3⟩
/-- an inherited method, on an object that is known to stand there -/
theorem h_callUr {x y : MethodName} {cc' : ByteArray} {maxL' k b : Nat} {ret' : Option FieldType} {rm : Room} {v0 : Value} {C owner : String} {As st0 : List Value} (X : hCX G p s m args meth c cc maxL ret own nm) (Y : hHS G M s H locs) (hCt : hCT l G y cc' maxL' ret' rm M (.ref b :: As) (hRd M v0)) (hrc : rm.cells = 0) (hrs : rm.slots = 0) (hg : GoodIn hGW (va_wsU own index C owner x y (Cond.code y cc' maxL' ret' :: hGW)))
    (hyx : y = ⟨owner, x.name, x.desc⟩) (hd : owner ≠ "java/lang/invoke/MethodHandle" ∧ owner ≠ "java/lang/invoke/VarHandle" ∧ (parseMethodDescriptor x.desc).map (fun d => d.parameters.length) = some k) (hrv : ∃ cellB : Cell, H[b]? = some cellB ∧ cellB.vm.isStatics = false ∧ s.vm.findClass C = some cellB.cls) (hk : As.length = k) (hst : st0 = As.reverse ++ .ref b :: rest) (hls : ls.size = maxL) (hw : (rest.map fun v => v.category).sum ≤ 8)
    (hR : rm.frames + 1 ≤ R.frames ∧ 8 + (maxL' + 11) + rm.locals ≤ R.locals) (hf : cells ≤ R.cells ∧ slots ≤ R.slots) (hdg : decode cc pc = .ok (.invokevirtual index, 3))
    (kk : ∀ (H1 : Heap) (locs1 : List Loc), hHS G M s H1 locs1 → W p l e R s m args below meth c H1 locs1 cells slots Q (F0 m (pc + 3) ls (v0 :: rest))) : W p l e R s m args below meth c H locs cells slots Q (F0 m pc ls st0) := by
  refine h_after Y (va_runU (As := As) (rest := rest) (b := b) (n := k) (C := C) ⟨X.1, X.2.1, X.2.2.2.1, X.2.2.2.2.1, X.2.2.2.2.2.1⟩ hCt (va_cwU k X.2.2.2.2.2.1 hg rfl rfl rfl hyx hd hR) ⟨hPc.blind, hrv, h_pre X Y⟩ rfl hk hls hst (lv_room hw) hdg (by rw [hrc, hrs]; exact hf)) ?_
  rintro _ M1 H1 locs1 ⟨rfl, rfl⟩ Y1
  rw [hrc, hrs]
  exact kk H1 locs1 Y1
end HCONST
/-- what stays the same: all but rows of ints, and a triangle's year, with a tag of S -/
def hSim (G : hG) (S : Nat → Prop) (M M' : hM) : Prop := ∀ a, M' a = M a ∨ (∃ t n f f', S t ∧ M a = some (t, .inl (hT G 0, n, .inl f)) ∧ M' a = some (t, .inl (hT G 0, n, .inl f'))) ∨ ∃ t x v v', S t ∧ M a = some (t, .inr (11, [.ref x, .int v])) ∧ M' a = some (t, .inr (11, [.ref x, .int v']))
theorem hSim.rf {G : hG} {S : Nat → Prop} {M : hM} : hSim G S M M := fun _ => Or.inl rfl
theorem hSim.keep {G : hG} {S : Nat → Prop} {M M' : hM} (h : hSim G S M M') {a t : Nat} {e : va_E} (he : M a = some (t, e)) (ht : ¬ S t) : M' a = some (t, e) := by
  rcases h a with h1 | ⟨t', n, f, f', h1, h2, -⟩ | ⟨t', x, v, v', h1, h2, -⟩
  · rw [h1]; exact he
  · rw [he] at h2; cases h2; exact absurd h1 ht
  · rw [he] at h2; cases h2; exact absurd h1 ht
theorem hSim.row {G : hG} {S : Nat → Prop} {M M' : hM} (h : hSim G S M M') {a t n : Nat} {f : Nat → Int32} (he : M a = some (t, .inl (hT G 0, n, .inl f))) : ∃ f', M' a = some (t, .inl (hT G 0, n, .inl f')) := by
  rcases h a with h1 | ⟨t', n', f1, f', h1, h2, h3⟩ | ⟨t', x, v, v', h1, h2, -⟩
  · exact ⟨f, by rw [h1]; exact he⟩
  · rw [he] at h2; cases h2; exact ⟨f', h3⟩
  · rw [he] at h2; cases h2
theorem hSim.tri {G : hG} {S : Nat → Prop} {M M' : hM} (h : hSim G S M M') {a t x : Nat} {v : Int32} (he : M a = some (t, .inr (11, [.ref x, .int v]))) : ∃ v', M' a = some (t, .inr (11, [.ref x, .int v'])) := by
  rcases h a with h1 | ⟨t', n', f1, f', h1, h2, h3⟩ | ⟨t', x', v1, v', h1, h2, h3⟩
  · exact ⟨v, by rw [h1]; exact he⟩
  · rw [he] at h2; cases h2
  · rw [he] at h2; cases h2; exact ⟨v', h3⟩
theorem hSim.tr {G : hG} {S : Nat → Prop} {M M' M'' : hM} (h : hSim G S M M') (h' : hSim G S M' M'') : hSim G S M M'' := fun a => by
  rcases h a with h1 | ⟨t, n, f, f', h1, h2, h3⟩ | ⟨t, x, v, v', h1, h2, h3⟩
  · rcases h' a with g1 | ⟨t', n', g, g', g1, g2, g3⟩ | ⟨t', x, v, v', g1, g2, g3⟩
    · exact Or.inl (g1.trans h1)
    · exact Or.inr (Or.inl ⟨t', n', g, g', g1, h1 ▸ g2, g3⟩)
    · exact Or.inr (Or.inr ⟨t', x, v, v', g1, h1 ▸ g2, g3⟩)
  · rcases h' a with g1 | ⟨t', n', g, g', g1, g2, g3⟩ | ⟨t', x, v, v', g1, g2, g3⟩
    · exact Or.inr (Or.inl ⟨t, n, f, f', h1, h2, g1.trans h3⟩)
    · rw [h3] at g2; cases g2; exact Or.inr (Or.inl ⟨t, n, f, g', h1, h2, g3⟩)
    · rw [h3] at g2; cases g2
  · rcases h' a with g1 | ⟨t', n', g, g', g1, g2, g3⟩ | ⟨t', x', w, w', g1, g2, g3⟩
    · exact Or.inr (Or.inr ⟨t, x, v, v', h1, h2, g1.trans h3⟩)
    · rw [h3] at g2; cases g2
    · rw [h3] at g2; cases g2; exact Or.inr (Or.inr ⟨t, x, v, w', h1, h2, g3⟩)
theorem hSim.mono {G : hG} {S S' : Nat → Prop} {M M' : hM} (h : hSim G S M M') (hS : ∀ t, S t → S' t) : hSim G S' M M' := fun a => by
  rcases h a with h1 | ⟨t, n, f, f', h1, h2, h3⟩ | ⟨t, x, v, v', h1, h2, h3⟩
  · exact Or.inl h1
  · exact Or.inr (Or.inl ⟨t, n, f, f', hS t h1, h2, h3⟩)
  · exact Or.inr (Or.inr ⟨t, x, v, v', hS t h1, h2, h3⟩)
theorem hSim.put {G : hG} {S : Nat → Prop} {M : hM} {a t n : Nat} {f f' : Nat → Int32} (he : M a = some (t, .inl (hT G 0, n, .inl f))) (ht : S t) : hSim G S M (hup M a (t, .inl (hT G 0, n, .inl f'))) := fun b => by
  by_cases hb : b = a
  · subst hb; exact Or.inr (Or.inl ⟨t, n, f, f', ht, he, hup_eq⟩)
  · exact Or.inl (hup_ne hb)
theorem hSim.putT {G : hG} {S : Nat → Prop} {M : hM} {a t x : Nat} {v v' : Int32} (he : M a = some (t, .inr (11, [.ref x, .int v]))) (ht : S t) : hSim G S M (hup M a (t, .inr (11, [.ref x, .int v']))) := fun b => by
  by_cases hb : b = a
  · subst hb; exact Or.inr (Or.inr ⟨t, x, v, v', ht, he, hup_eq⟩)
  · exact Or.inl (hup_ne hb)

theorem dJx29ce0_ordinal_8abf5_0 : decode cJx29ce0_ordinal_8abf5 0 = .ok (.aload_n 0, 1) := by decide +kernel
theorem dJx29ce0_ordinal_8abf5_1 : decode cJx29ce0_ordinal_8abf5 1 = .ok (.getfield 7, 3) := by decide +kernel
theorem dJx29ce0_ordinal_8abf5_4 : decode cJx29ce0_ordinal_8abf5 4 = .ok (.ireturn, 1) := by decide +kernel
set_option maxHeartbeats 400000 in
set_option maxRecDepth 100000 in
/-- the number of a constant of the enum -/
theorem c_ordinal (l : Launch) (G : hG) (M : hM) (k : Nat) (hk : k < 38) : hCT l G yJx29ce0_ordinal_8abf5 cJx29ce0_ordinal_8abf5 1 (Option.some FieldType.int) (hRm 1 0 0) M [.ref (hSg G k)] (hRd M (.int (nI k))) := by
  refine hCT.of (own := RJx29ce0) (nm := "ordinal") (by decide) rfl rfl (Nat.le_of_ble_eq_true rfl) ?_
  intro p e s m args below meth c ls X Y hl
  have hx := X.1
  have hb := X.2.1
  have hl : lv_has ls 1 [(0, .ref (hSg G k))] := hl
  refine lv_aload_n hx hb dJx29ce0_ordinal_8abf5_0 rfl (lv_at hl 0 rfl) ?_
  refine h_getC X Y (hOF_at X.2.2.2.2.2.2.2.2.2.1 (hsg_ordF X.2.2.2.2.2.2.2.2.1 hk)) kfl_Jx29ce0_7 dJx29ce0_ordinal_8abf5_1 ?_
  exact h_iret X Y ⟨rfl, rfl⟩ (Nat.le_refl _) (Nat.le_refl _) dJx29ce0_ordinal_8abf5_4
