theorem t_ncl : Cond.native ⟨"java/lang/Object", "clone", "()Ljava/lang/Object;"⟩ ∈ hGW := hgw 1336 (by decide +kernel) (by decide +kernel)
-- ROWS FOR STRINGS AND THEIR BUILDERS
/-- a private method of a superclass is the one that is run -/
theorem sel_sup {C : String} {y : MethodName} {s : State} {args : Array Value} {n : Nat} (hy : y.cls ≠ "java/lang/invoke/MethodHandle" ∧ y.cls ≠ "java/lang/invoke/VarHandle") (hins : (Cond.instantiable C n).before args s = true) (hsame : (Cond.sameMethod y.cls y.cls y.name y.desc).before args s = true) (hpriv : (Cond.privateMethod y).before args s = true) (hinst : (Cond.instanceMethod y).before args s = true) :
    (Cond.selects C y y).before args s = true := by
  obtain ⟨c, k, hc, hk, -⟩ := Cond.instantiable_spec hins
  obtain ⟨cn, ck, r1, hcn, hck, hni, hf, hn1⟩ := Cond.sameMethod_found hsame
  obtain ⟨mk, methM, hnamed, hmethM, -, -⟩ := Cond.instanceMethod_spec hinst
  have hfound : s.methodFound? y.cls y.name y.desc = some mk := State.methodFound?_of_named hnamed hy
  have hcls : mk.cls = cn := Option.some.inj ((findClass_of_methodNamed hnamed).symm.trans hcn)
  have hsel : selectMethod {} s.vm c mk = .method mk := selectMethod_private hmethM (Cond.privateMethod_at hpriv mk methM hnamed hmethM)
  simp only [Cond.before, Cond.holds, Cond.value, hc, hfound, hnamed, hsel, hcls, hck]
  simp; exact hni
section SBROWS
variable {G : hG} {p : Program} {l : Launch} {e : Env} {R : Room} {s : State} {m : MethodId} {args : Array Value} {below : List Frame} {meth : Method} {c : Code} {H : Heap} {locs : List Loc} {cells slots : Nat} {Q : State → Prop}
variable {cc : ByteArray} {maxL : Nat} {ret : Option FieldType} {own nm : String} {M : hM} {pc : Nat} {ls : Array Slot} {rest : List Value} {a t ci index n : Nat} {cA : ClassId}
theorem h_callP {y : MethodName} {cc' : ByteArray} {maxL' k : Nat} {ret' : Option FieldType} {rm : Room} {post : Option Value → hM → Prop} {C : String} {As st0 : List Value} {fs : List Value} {r : vw_C} (X : hCX G p s m args meth c cc maxL ret own nm) (Y : hHS G M s H locs) (hCt : hCT l G y cc' maxL' ret' rm M (.ref a :: As) post) (hcode : Cond.code y cc' maxL' ret' ∈ hGW) (hini : Cond.initialized y.cls ∈ hGW) (hlink : Cond.methodLink own index y ∈ hGW) (hsame : Cond.sameMethod y.cls y.cls y.name y.desc ∈ hGW) (hinst : Cond.instanceMethod y ∈ hGW) (hsel : (Cond.selects C y y).before args s = true)
    (hd : y.cls ≠ "java/lang/invoke/MethodHandle" ∧ y.cls ≠ "java/lang/invoke/VarHandle" ∧ (parseMethodDescriptor y.desc).map (fun d => d.parameters.length) = some k) (he : M a = some (t, .inr (ci, fs))) (hcl : vwCl[ci]? = some r) (hrC : r.1 = C) (hk : As.length = k) (hls : ls.size = maxL) (hst : st0 = As.reverse ++ .ref a :: rest) (hw : (rest.map fun v => v.category).sum ≤ 8)
    (hR : rm.frames + 1 ≤ R.frames ∧ 8 + (maxL' + 11) + rm.locals ≤ R.locals) (hf : cells + rm.cells ≤ R.cells ∧ slots + rm.slots ≤ R.slots) (hdg : decode cc pc = .ok (.invokevirtual index, 3))
    (kk : ∀ (v : Option Value) (M1 : hM) (H1 : Heap) (locs1 : List Loc), post v M1 → hHS G M1 s H1 locs1 → W p l e R s m args below meth c H1 locs1 (cells + rm.cells) (slots + rm.slots) Q (F0 m (pc + 3) ls (v.toList ++ rest))) : W p l e R s m args below meth c H locs cells slots Q (F0 m pc ls st0) := by
  have hts := X.2.2.2.2.2.1
  exact h_after Y (va_runU (As := As) (rest := rest) (b := a) (n := k) (C := C) (owner := y.cls) (x := y) ⟨X.1, X.2.1, X.2.2.2.1, X.2.2.2.2.1, hts⟩ hCt ⟨⟨rfl, rfl, hR.1, hR.2, pay_in hts (hgi0 hcode), List.mem_cons_self⟩, hts _ hcode, hts _ hini, ⟨hd.1, hd.2.1⟩, fun sig h => by have h2 := hd.2.2; rw [h] at h2; exact (Option.some.inj h2).symm, hts _ hlink, hts _ hsame, va_Decl.of (hts _ hinst) (hts _ hcode), hsel, hts _ hinst⟩ ⟨hPc.blind, by rw [← hrC]; exact h_recv X Y he hcl, h_pre X Y⟩ rfl hk hls hst (lv_room hw) hdg hf) kk
/-- the superclass' own method -/
theorem h_callSU {y : MethodName} {cc' : ByteArray} {maxL' k : Nat} {ret' : Option FieldType} {rm : Room} {post : Option Value → hM → Prop} {As st0 : List Value} {fs : List Value} {r : vw_C} (X : hCX G p s m args meth c cc maxL ret own nm) (Y : hHS G M s H locs) (hCt : hCT l G y cc' maxL' ret' rm M (.ref a :: As) post) (hg : GoodIn hGW (va_wsSU own index y (Cond.code y cc' maxL' ret' :: hGW)))
    (hd : y.name ≠ "<init>" ∧ (parseMethodDescriptor y.desc).map (fun d => d.parameters.length) = some k) (he : M a = some (t, .inr (ci, fs))) (hcl : vwCl[ci]? = some r) (hk : As.length = k) (hls : ls.size = maxL) (hst : st0 = As.reverse ++ .ref a :: rest) (hw : (rest.map fun v => v.category).sum ≤ 8)
    (hR : rm.frames + 1 ≤ R.frames ∧ 8 + (maxL' + 11) + rm.locals ≤ R.locals) (hf : cells + rm.cells ≤ R.cells ∧ slots + rm.slots ≤ R.slots) (hdg : decode cc pc = .ok (.invokespecial index, 3))
    (kk : ∀ (v : Option Value) (M1 : hM) (H1 : Heap) (locs1 : List Loc), post v M1 → hHS G M1 s H1 locs1 → W p l e R s m args below meth c H1 locs1 (cells + rm.cells) (slots + rm.slots) Q (F0 m (pc + 3) ls (v.toList ++ rest))) : W p l e R s m args below meth c H locs cells slots Q (F0 m pc ls st0) := by
  have hts := X.2.2.2.2.2.1
  exact h_after Y (va_runSU (C := r.1) (As := As) (rest := rest) (b := a) (n := k) (X.2.2.2.2.2.2.2.1.1 ci r hcl).2 ⟨X.1, X.2.1, X.2.2.2.1, X.2.2.2.2.1, hts⟩ hCt (va_cwSU k hts hg rfl rfl rfl hd hR) ⟨hPc.blind, h_recv X Y he hcl, h_pre X Y⟩ rfl hk hls hst (lv_room hw) hdg hf) kk
/-- an overriding method, that only reads -/
theorem h_callOv {x y : MethodName} {cc' b0 : ByteArray} {maxL' k m0 : Nat} {ret' r0 : Option FieldType} {rm : Room} {v0 : Value} {C owner : String} {As st0 : List Value} {fs : List Value} {r : vw_C} (X : hCX G p s m args meth c cc maxL ret own nm) (Y : hHS G M s H locs) (hCt : hCT l G y cc' maxL' ret' rm M (.ref a :: As) (hRd M v0)) (hrc : rm.cells = 0) (hrs : rm.slots = 0) (hg : GoodIn hGW (va_wsO own index C owner x y (Cond.code y cc' maxL' ret' :: hGW))) (h0 : Cond.code ⟨owner, x.name, x.desc⟩ b0 m0 r0 ∈ hGW)
    (hd : owner ≠ "java/lang/invoke/MethodHandle" ∧ owner ≠ "java/lang/invoke/VarHandle" ∧ (parseMethodDescriptor x.desc).map (fun d => d.parameters.length) = some k) (he : M a = some (t, .inr (ci, fs))) (hcl : vwCl[ci]? = some r) (hrC : r.1 = C) (hk : As.length = k) (hst : st0 = As.reverse ++ .ref a :: rest) (hls : ls.size = maxL) (hw : (rest.map fun v => v.category).sum ≤ 8)
    (hR : rm.frames + 1 ≤ R.frames ∧ 8 + (maxL' + 11) + rm.locals ≤ R.locals) (hf : cells ≤ R.cells ∧ slots ≤ R.slots) (hdg : decode cc pc = .ok (.invokevirtual index, 3))
    (kk : ∀ (H1 : Heap) (locs1 : List Loc), hHS G M s H1 locs1 → W p l e R s m args below meth c H1 locs1 cells slots Q (F0 m (pc + 3) ls (v0 :: rest))) : W p l e R s m args below meth c H locs cells slots Q (F0 m pc ls st0) := by
  have hts := X.2.2.2.2.2.1
  refine h_after Y (va_runU (As := As) (rest := rest) (b := a) (n := k) (C := C) ⟨X.1, X.2.1, X.2.2.2.1, X.2.2.2.2.1, hts⟩ hCt (va_cwO k hts hg rfl rfl rfl h0 hd hR) ⟨hPc.blind, by rw [← hrC]; exact h_recv X Y he hcl, h_pre X Y⟩ rfl hk hls hst (lv_room hw) hdg (by rw [hrc, hrs]; exact hf)) ?_
  rintro _ M1 H1 locs1 ⟨rfl, rfl⟩ Y1
  rw [hrc, hrs]
  exact kk H1 locs1 Y1
/-- on a receiver whose class is known -/
theorem h_callGr {y : MethodName} {cc' : ByteArray} {maxL' k : Nat} {ret' : Option FieldType} {rm : Room} {v0 : Value} {C : String} {As st0 : List Value} (X : hCX G p s m args meth c cc maxL ret own nm) (Y : hHS G M s H locs) (hCt : hCT l G y cc' maxL' ret' rm M (.ref a :: As) (hRd M v0)) (hrc : rm.cells = 0) (hrs : rm.slots = 0) (hg : GoodIn hGW (wsV own index C y (Cond.code y cc' maxL' ret' :: hGW)))
    (hd : y.cls = C ∧ y.cls ≠ "java/lang/invoke/MethodHandle" ∧ y.cls ≠ "java/lang/invoke/VarHandle" ∧ (parseMethodDescriptor y.desc).map (fun d => d.parameters.length) = some k) (hrv : ∃ cellB : Cell, H[a]? = some cellB ∧ cellB.vm.isStatics = false ∧ s.vm.findClass C = some cellB.cls) (hk : As.length = k) (hst : st0 = As.reverse ++ .ref a :: rest) (hls : ls.size = maxL) (hw : (rest.map fun v => v.category).sum ≤ 8)
    (hR : rm.frames + 1 ≤ R.frames ∧ 8 + (maxL' + 11) + rm.locals ≤ R.locals) (hf : cells ≤ R.cells ∧ slots ≤ R.slots) (hdg : decode cc pc = .ok (.invokevirtual index, 3))
    (kk : ∀ (H1 : Heap) (locs1 : List Loc), hHS G M s H1 locs1 → W p l e R s m args below meth c H1 locs1 cells slots Q (F0 m (pc + 3) ls (v0 :: rest))) : W p l e R s m args below meth c H locs cells slots Q (F0 m pc ls st0) := by
  refine h_after Y (va_runV (As := As) (rest := rest) (b := a) (n := k) (C := C) ⟨X.1, X.2.1, X.2.2.2.1, X.2.2.2.2.1, X.2.2.2.2.2.1⟩ hCt (cwV k X.2.2.2.2.2.1 hg rfl rfl rfl hd hR) ⟨hPc.blind, hrv, h_pre X Y⟩ rfl hk hls hst (lv_room hw) hdg (by rw [hrc, hrs]; exact hf)) ?_
  rintro _ M1 H1 locs1 ⟨rfl, rfl⟩ Y1
  rw [hrc, hrs]
  exact kk H1 locs1 Y1
theorem h_callG {y : MethodName} {cc' : ByteArray} {maxL' k : Nat} {ret' : Option FieldType} {rm : Room} {post : Option Value → hM → Prop} {C : String} {As st0 : List Value} (X : hCX G p s m args meth c cc maxL ret own nm) (Y : hHS G M s H locs) (hCt : hCT l G y cc' maxL' ret' rm M (.ref a :: As) post) (hg : GoodIn hGW (wsV own index C y (Cond.code y cc' maxL' ret' :: hGW)))
    (hd : y.cls = C ∧ y.cls ≠ "java/lang/invoke/MethodHandle" ∧ y.cls ≠ "java/lang/invoke/VarHandle" ∧ (parseMethodDescriptor y.desc).map (fun d => d.parameters.length) = some k) (hrv : ∃ cellB : Cell, H[a]? = some cellB ∧ cellB.vm.isStatics = false ∧ s.vm.findClass C = some cellB.cls) (hk : As.length = k) (hst : st0 = As.reverse ++ .ref a :: rest) (hls : ls.size = maxL) (hw : (rest.map fun v => v.category).sum ≤ 8)
    (hR : rm.frames + 1 ≤ R.frames ∧ 8 + (maxL' + 11) + rm.locals ≤ R.locals) (hf : cells + rm.cells ≤ R.cells ∧ slots + rm.slots ≤ R.slots) (hdg : decode cc pc = .ok (.invokevirtual index, 3))
    (kk : ∀ (v : Option Value) (M1 : hM) (H1 : Heap) (locs1 : List Loc), post v M1 → hHS G M1 s H1 locs1 → W p l e R s m args below meth c H1 locs1 (cells + rm.cells) (slots + rm.slots) Q (F0 m (pc + 3) ls (v.toList ++ rest))) : W p l e R s m args below meth c H locs cells slots Q (F0 m pc ls st0) :=
  h_after Y (va_runV (As := As) (rest := rest) (b := a) (n := k) (C := C) ⟨X.1, X.2.1, X.2.2.2.1, X.2.2.2.2.1, X.2.2.2.2.2.1⟩ hCt (cwV k X.2.2.2.2.2.1 hg rfl rfl rfl hd hR) ⟨hPc.blind, hrv, h_pre X Y⟩ rfl hk hls hst (lv_room hw) hdg hf) kk
/-- bytes are copied into a row of the map -/
theorem h_cpb {k dp n0 a0 u t0 : Nat} {ty : FieldType} {c0 : ClassId} {f g : Nat → Int32} (X : hCX G p s m args meth c cc maxL ret own nm) (Y : hHS G M s H locs) (hls : ls.size = maxL) (h0 : M a0 = some (u, .inl (c0, n0, .inl f))) (he : M a = some (t, .inl (c0, n, .inl g))) (ht0 : (hTys (hT G))[t0]? = some (c0, ty)) (hpr : refKind ty = false) (hk0 : k ≤ n0) (hkn : dp + k ≤ n) (hk : k < 2 ^ 31) (hdp : dp < 2 ^ 31) (hfit : ∀ i, i < k → fits ty (.int (f i)) = true)
    (hlink : Cond.methodLink own index ⟨"java/lang/System", "arraycopy", "(Ljava/lang/Object;ILjava/lang/Object;II)V"⟩ ∈ hGW) (hfr : 1 ≤ R.frames) (hlo : (rest.map fun v => v.category).sum + 40 ≤ R.locals) (hdg : decode cc pc = .ok (.invokestatic index, 3))
    (kk : ∀ (H1 : Heap) (locs1 : List Loc), hHS G (hup M a (t, .inl (c0, n, .inl (va_cpy f g 0 dp k)))) s H1 locs1 → W p l e R s m args below meth c H1 locs1 cells slots Q (F0 m (pc + 3) ls rest)) : W p l e R s m args below meth c H locs cells slots Q (F0 m pc ls (.int (nI k) :: .int (nI dp) :: .ref a :: .int 0 :: .ref a0 :: rest)) := by
  have hts := X.2.2.2.2.2.1
  obtain ⟨ws, hP, hDw, hw⟩ := Y.1.list
  obtain ⟨k0, hk1⟩ := hw a0 u _ h0
  obtain ⟨k1, hk2⟩ := hw a t _ he
  have hc : (nI k).toNatClampNeg = k := nI_clamp hk
  have hcd : (nI dp).toNatClampNeg = dp := nI_clamp hdp
  have h00 : (0 : Int32).toNatClampNeg = 0 := rfl
  refine va_copyi (D := hD G) (cl := vwCl) X.1 X.2.1 (X.2.2.2.1.trans hls.symm) X.2.2.2.2.1 (hts _ hlink) (hts _ t_nat) (hts _ kst_Zjava_lang_System_arraycopy__Ljava_lang_Object_ILjava_lang_Object_II_V) (hts _ kini_J10) X.2.2.2.2.2.2.2.1 hP hDw Y.2 k0 k1 t0 t0 hk1 hk2 ht0 ht0 hpr (by decide) (nI_nn hdp) (nI_nn hk) (by rw [hc, h00]; omega) (by rw [hc, hcd]; omega) (fun i hi => by rw [hc] at hi; rw [h00, Nat.zero_add]; exact hfit i hi) hfr (by have hw9 : nativeFrameWords "java/lang/System" "arraycopy" 5 ≤ 20 := (by decide); omega) hdg fun H1 locs1 hP1 hD1 hS1 => ?_
  rw [hc, hcd, h00] at hP1
  exact kk H1 locs1 ⟨Y.1.wset hw he hk2 hP1, hS1⟩
/-- bytes of a row that lay there before -/
theorem h_cpbT {k dp n0 a0 : Nat} {f g : Nat → Int32} (X : hCX G p s m args meth c cc maxL ret own nm) (Y : hHS G M s H locs) (hls : ls.size = maxL) (hTT : va_T .byte a0 n0 (fun j => .int (f j)) (hA G) s s.heap) (he : M a = some (t, .inl (hT G 1, n, .inl g))) (hk0 : k ≤ n0) (hkn : dp + k ≤ n) (hk : k < 2 ^ 31) (hdp : dp < 2 ^ 31) (hfit : ∀ i, i < k → fits .byte (.int (f i)) = true)
    (hlink : Cond.methodLink own index ⟨"java/lang/System", "arraycopy", "(Ljava/lang/Object;ILjava/lang/Object;II)V"⟩ ∈ hGW) (hfr : 1 ≤ R.frames) (hlo : (rest.map fun v => v.category).sum + 40 ≤ R.locals) (hdg : decode cc pc = .ok (.invokestatic index, 3))
    (kk : ∀ (H1 : Heap) (locs1 : List Loc), hHS G (hup M a (t, .inl (hT G 1, n, .inl (va_cpy f g 0 dp k)))) s H1 locs1 → W p l e R s m args below meth c H1 locs1 cells slots Q (F0 m (pc + 3) ls rest)) : W p l e R s m args below meth c H locs cells slots Q (F0 m pc ls (.int (nI k) :: .int (nI dp) :: .ref a :: .int 0 :: .ref a0 :: rest)) := by
  have hts := X.2.2.2.2.2.1
  obtain ⟨ws, hP, hDw, hw⟩ := Y.1.list
  obtain ⟨k1, hk2⟩ := hw a t _ he
  have hc : (nI k).toNatClampNeg = k := nI_clamp hk
  have hcd : (nI dp).toNatClampNeg = dp := nI_clamp hdp
  have h00 : (0 : Int32).toNatClampNeg = 0 := rfl
  refine vk_copyt (D := hD G) (cl := vwCl) X.1 X.2.1 (X.2.2.2.1.trans hls.symm) X.2.2.2.2.1 (hts _ hlink) (hts _ t_nat) (hts _ kst_Zjava_lang_System_arraycopy__Ljava_lang_Object_ILjava_lang_Object_II_V) (hts _ kini_J10) X.2.2.2.2.2.2.2.1 hP hDw Y.2 hTT k1 1 hk2 rfl (by decide) (nI_nn hdp) (nI_nn hk) (by rw [hc, h00]; omega) (by rw [hc, hcd]; omega) (fun i hi => by rw [hc] at hi; rw [h00, Nat.zero_add]; exact hfit i hi) hfr (by have hw9 : nativeFrameWords "java/lang/System" "arraycopy" 5 ≤ 20 := (by decide); omega) hdg fun H1 locs1 hP1 hD1 hS1 => ?_
  rw [hc, hcd, h00] at hP1
  exact kk H1 locs1 ⟨Y.1.wset hw he hk2 hP1, hS1⟩
/-- a row of bytes is cloned -/
theorem h_cloneB {f : Nat → Int32} (X : hCX G p s m args meth c cc maxL ret own nm) (Y : hHS G M s H locs) (hls : ls.size = maxL) (t1 : Nat) (he : M a = some (t, .inl (hT G 1, n, .inl f))) (hfit : ∀ i, fits .byte (.int (f i)) = true) (hlink : Cond.methodLink own index ⟨"[B", "clone", "()Ljava/lang/Object;"⟩ ∈ hGW) (hfr : 1 ≤ R.frames) (hlo : (rest.map fun v => v.category).sum + 14 ≤ R.locals) (hcells : cells + 1 ≤ R.cells) (hslots : slots + n ≤ R.slots) (hdg : decode cc pc = .ok (.invokevirtual index, 3))
    (kk : ∀ (q : Nat) (M1 : hM) (H1 : Heap), M1 q = some (t1, .inl (hT G 1, n, .inl f)) → hGr M M1 → hHS G M1 s H1 locs → W p l e R s m args below meth c H1 locs (cells + 1) (slots + n) Q (F0 m (pc + 3) ls (.ref q :: rest))) : W p l e R s m args below meth c H locs cells slots Q (F0 m pc ls (.ref a :: rest)) := by
  have hts := X.2.2.2.2.2.1
  have hK := X.2.2.2.2.2.2.2.1
  obtain ⟨ws, hP, hDw, hw⟩ := Y.1.list
  obtain ⟨k1, hk1⟩ := hw a t _ he
  refine va_clone (D := hD G) (cl := vwCl) (ad := "[B") (x := (n, .inl f)) (ty := .byte) X.1 X.2.1 (X.2.2.2.1.trans hls.symm) X.2.2.2.2.1 (hts _ hlink) (hts _ ksm_Z_B_clone__Ljava_lang_Object_) (hts _ t_ncl) (hts _ kin_Zjava_lang_Object_clone___Ljava_lang_Object_) (hts _ kse_Z_B_Z_B_clone___Ljava_lang_Object__Zjava_lang_Object_clone___Ljava_lang_Object_) (va_Nw.warmC X.2.2.2.2.2.2.2.2.2.1.1 (va_Nw.of rfl (hW0 X.2.2.2.2.2.2.2.2.1 1339 (by decide +kernel)))) hK hP hDw Y.2 (h_free X) k1 1 hk1 rfl (hK.2 1 (hT G 1, .byte) rfl).2 (fun i v hv => ?_) hfr hlo hcells hslots hdg fun q H1 hK1 hP1 hD1 hS1 => ?_
  · have h2 : (arrV (hT G 1) n (fun j => .int (f j))).slots[i]? = some v := hv
    have hi : i < n := by
      have := (Array.getElem?_eq_some_iff.mp h2).1
      rw [arrV_size] at this
      exact this
    rw [arrV_read _ _ hi] at h2
    cases h2
    exact hfit i
  · obtain ⟨hno, hh⟩ := Y.1.wpush hw t1 hP1 hD1
    exact kk q _ H1 hup_eq (hGr.new hno) ⟨hh, hS1⟩
end SBROWS
theorem ksl_J5_ensureCapacityInternal_d00df {G : hG} {s : State} {args : Array Value} (hs : hSt G) (hr : hR G s) : (Cond.selects RJ4 yJ5_ensureCapacityInternal_d00df yJ5_ensureCapacityInternal_d00df).before args s = true := word_at hr.1 (Or.inl (by first | rfl | simp [Cond.onTables, Cond.keeps, Cond.steady])) (sel_sup (y := yJ5_ensureCapacityInternal_d00df) (n := 4) ⟨by decide +kernel, by decide +kernel⟩ (hW0 hs 1280 (by decide +kernel)) (hW0 hs 1575 (by decide +kernel)) (hW0 hs 1322 (by decide +kernel)) (hW0 hs 1323 (by decide +kernel)))
theorem ksl_J5_newCapacity_0f7a4 {G : hG} {s : State} {args : Array Value} (hs : hSt G) (hr : hR G s) : (Cond.selects RJ4 yJ5_newCapacity_0f7a4 yJ5_newCapacity_0f7a4).before args s = true := word_at hr.1 (Or.inl (by first | rfl | simp [Cond.onTables, Cond.keeps, Cond.steady])) (sel_sup (y := yJ5_newCapacity_0f7a4) (n := 4) ⟨by decide +kernel, by decide +kernel⟩ (hW0 hs 1280 (by decide +kernel)) (hW0 hs 1576 (by decide +kernel)) (hW0 hs 1326 (by decide +kernel)) (hW0 hs 1327 (by decide +kernel)))
theorem ksl_J5_putStringAt_47b60 {G : hG} {s : State} {args : Array Value} (hs : hSt G) (hr : hR G s) : (Cond.selects RJ4 yJ5_putStringAt_47b60 yJ5_putStringAt_47b60).before args s = true := word_at hr.1 (Or.inl (by first | rfl | simp [Cond.onTables, Cond.keeps, Cond.steady])) (sel_sup (y := yJ5_putStringAt_47b60) (n := 4) ⟨by decide +kernel, by decide +kernel⟩ (hW0 hs 1280 (by decide +kernel)) (hW0 hs 1577 (by decide +kernel)) (hW0 hs 1363 (by decide +kernel)) (hW0 hs 1364 (by decide +kernel)))
theorem ksl_J5_inflateIfNeededFor_a7421 {G : hG} {s : State} {args : Array Value} (hs : hSt G) (hr : hR G s) : (Cond.selects RJ4 yJ5_inflateIfNeededFor_a7421 yJ5_inflateIfNeededFor_a7421).before args s = true := word_at hr.1 (Or.inl (by first | rfl | simp [Cond.onTables, Cond.keeps, Cond.steady])) (sel_sup (y := yJ5_inflateIfNeededFor_a7421) (n := 4) ⟨by decide +kernel, by decide +kernel⟩ (hW0 hs 1280 (by decide +kernel)) (hW0 hs 1578 (by decide +kernel)) (hW0 hs 1367 (by decide +kernel)) (hW0 hs 1368 (by decide +kernel)))
def hDO (G : hG) : Nat := had G (.static "java/lang/Integer" "DigitOnes" "[B")
theorem hDO_T0 {G : hG} (hs : hSt G) : hev G (.static "java/lang/Integer" "DigitOnes" "[B") = some (.ref (hDO G)) ∧ va_T .byte (hDO G) 100 (fun i => .int (nI (48 + i % 10))) (hA G) (hU G) (hU G).heap := by
  obtain ⟨t, ht, hT⟩ := va_Tof (ty := .byte) (tm := .static "java/lang/Integer" "DigitOnes" "[B") (f := fun i => .int (nI (48 + i % 10))) (A := hA G) (N := 100) (by decide) (hN hs 252 (by decide +kernel)) (va_eqt (hN hs 253 (by decide +kernel))) (fun j hj => va_eqt (hNs hs [254, 255, 256, 257, 258, 259, 260, 261, 262, 263, 264, 265, 266, 267, 268, 269, 270, 271, 272, 273, 274, 275, 276, 277, 278, 279, 280, 281, 282, 283, 284, 285, 286, 287, 288, 289, 290, 291, 292, 293, 294, 295, 296, 297, 298, 299, 300, 301, 302, 303, 304, 305, 306, 307, 308, 309, 310, 311, 312, 313, 314, 315, 316, 317, 318, 319, 320, 321, 322, 323, 324, 325, 326, 327, 328, 329, 330, 331, 332, 333, 334, 335, 336, 337, 338, 339, 340, 341, 342, 343, 344, 345, 346, 347, 348, 349, 350, 351, 352, 353] (fun i => Cond.eq (.elem (.static "java/lang/Integer" "DigitOnes" "[B") (.int (Int32.ofNat i))) (.int (nI (48 + i % 10)))) 100 (by decide +kernel) j hj)) hlow
  have e : hDO G = t := had_of ht
  rw [e]
  exact ⟨ht, hT⟩
theorem hDO_Z {G : hG} {s : State} (hs : hSt G) (hr : hR G s) : va_Z "java/lang/Integer" "DigitOnes" "[B" (.ref (hDO G)) (hA G) s s.heap := hZ_at hr (va_Zof (hW0 hs 1410 (by decide +kernel)) (hW0 hs 79 (by decide +kernel)) (hDO_T0 hs).1 hlow)
def hDT (G : hG) : Nat := had G (.static "java/lang/Integer" "DigitTens" "[B")
theorem hDT_T0 {G : hG} (hs : hSt G) : hev G (.static "java/lang/Integer" "DigitTens" "[B") = some (.ref (hDT G)) ∧ va_T .byte (hDT G) 100 (fun i => .int (nI (48 + i / 10))) (hA G) (hU G) (hU G).heap := by
  obtain ⟨t, ht, hT⟩ := va_Tof (ty := .byte) (tm := .static "java/lang/Integer" "DigitTens" "[B") (f := fun i => .int (nI (48 + i / 10))) (A := hA G) (N := 100) (by decide) (hN hs 355 (by decide +kernel)) (va_eqt (hN hs 356 (by decide +kernel))) (fun j hj => va_eqt (hNs hs [357, 358, 359, 360, 361, 362, 363, 364, 365, 366, 367, 368, 369, 370, 371, 372, 373, 374, 375, 376, 377, 378, 379, 380, 381, 382, 383, 384, 385, 386, 387, 388, 389, 390, 391, 392, 393, 394, 395, 396, 397, 398, 399, 400, 401, 402, 403, 404, 405, 406, 407, 408, 409, 410, 411, 412, 413, 414, 415, 416, 417, 418, 419, 420, 421, 422, 423, 424, 425, 426, 427, 428, 429, 430, 431, 432, 433, 434, 435, 436, 437, 438, 439, 440, 441, 442, 443, 444, 445, 446, 447, 448, 449, 450, 451, 452, 453, 454, 455, 456] (fun i => Cond.eq (.elem (.static "java/lang/Integer" "DigitTens" "[B") (.int (Int32.ofNat i))) (.int (nI (48 + i / 10)))) 100 (by decide +kernel) j hj)) hlow
  have e : hDT G = t := had_of ht
  rw [e]
  exact ⟨ht, hT⟩
theorem hDT_Z {G : hG} {s : State} (hs : hSt G) (hr : hR G s) : va_Z "java/lang/Integer" "DigitTens" "[B" (.ref (hDT G)) (hA G) s s.heap := hZ_at hr (va_Zof (hW0 hs 1412 (by decide +kernel)) (hW0 hs 79 (by decide +kernel)) (hDT_T0 hs).1 hlow)
