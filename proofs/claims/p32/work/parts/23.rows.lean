theorem nI_nn {n : Nat} (h : n < 2147483648) : ¬ nI n < 0 := fun z => absurd ((nI_ltI (a := n) (b := 0) (by omega) (by omega)).mp z) (Nat.not_lt_zero n)
-- ROWS THAT BRING NEW CELLS: the map as a list, and back
theorem hH.list {G : hG} {M : hM} {H : Heap} (h : hH G M H) : ∃ ws : va_W, va_P (hD G) vwCl ws H ∧ va_D (hA G) ws ∧ ∀ (a t : Nat) (e : va_E), M a = some (t, e) → ∃ k : Nat, ws[k]? = some (a, e) := by
  refine ⟨(List.range H.size).filterMap (fun q => (M q).map (fun x => (q, x.2))), fun k q hq => ?_, ⟨fun i j x y hi hj he => ?_, fun k q hq => ?_⟩, fun a t e he => ?_⟩
  · obtain ⟨b, hb, hm⟩ := List.mem_filterMap.mp (List.mem_of_getElem? hq)
    obtain ⟨x, hx, rfl⟩ := Option.map_eq_some_iff.mp hm
    exact (h b x.1 x.2 hx).2
  · have hp : List.Pairwise (fun x y : Nat × va_E => x.1 < y.1) ((List.range H.size).filterMap (fun q => (M q).map (fun x => (q, x.2)))) := by
      rw [List.pairwise_filterMap]
      refine List.pairwise_lt_range.imp ?_
      intro a b hab x hx y hy
      obtain ⟨x', -, rfl⟩ := Option.map_eq_some_iff.mp hx
      obtain ⟨y', -, rfl⟩ := Option.map_eq_some_iff.mp hy
      exact hab
    obtain ⟨hi1, rfl⟩ := List.getElem?_eq_some_iff.mp hi
    obtain ⟨hj1, rfl⟩ := List.getElem?_eq_some_iff.mp hj
    rcases Nat.lt_trichotomy i j with z | z | z
    · exact absurd he (Nat.ne_of_lt (List.pairwise_iff_getElem.mp hp i j hi1 hj1 z))
    · exact z
    · exact absurd he.symm (Nat.ne_of_lt (List.pairwise_iff_getElem.mp hp j i hj1 hi1 z))
  · obtain ⟨b, hb, hm⟩ := List.mem_filterMap.mp (List.mem_of_getElem? hq)
    obtain ⟨x, hx, rfl⟩ := Option.map_eq_some_iff.mp hm
    exact (h b x.1 x.2 hx).1
  · have hm : (a, e) ∈ (List.range H.size).filterMap (fun q => (M q).map (fun x => (q, x.2))) := by
      rw [List.mem_filterMap]
      exact ⟨a, List.mem_range.mpr (h.fresh he), by rw [he]; rfl⟩
    obtain ⟨k, hk⟩ := List.getElem?_of_mem hm
    exact ⟨k, hk⟩
theorem hH.wset {G : hG} {M : hM} {H H1 : Heap} {ws : va_W} {k a t : Nat} {e e' : va_E} (h : hH G M H) (hw : ∀ (a t : Nat) (e : va_E), M a = some (t, e) → ∃ k : Nat, ws[k]? = some (a, e)) (hM : M a = some (t, e)) (hk : ws[k]? = some (a, e)) (hP : va_P (hD G) vwCl (ws.set k (a, e')) H1) : hH G (hup M a (t, e')) H1 := by
  intro b u f hf
  by_cases hb : b = a
  · subst hb
    rw [hup_eq] at hf
    cases hf
    exact ⟨(h b t e hM).1, hP k (b, e') (List.getElem?_set_self (List.getElem?_eq_some_iff.mp hk).1)⟩
  · rw [hup_ne hb] at hf
    obtain ⟨j, hj⟩ := hw b u f hf
    refine ⟨(h b u f hf).1, hP j (b, f) ?_⟩
    rw [List.getElem?_set_ne (fun z => ?_)]
    · exact hj
    · subst z
      rw [hk] at hj
      cases hj
      exact hb rfl
theorem hH.wpush {G : hG} {M : hM} {H H1 : Heap} {ws : va_W} {q : Nat} {x : va_E} (h : hH G M H) (hw : ∀ (a t : Nat) (e : va_E), M a = some (t, e) → ∃ k : Nat, ws[k]? = some (a, e)) (t : Nat) (hP : va_P (hD G) vwCl (ws ++ [(q, x)]) H1) (hD1 : va_D (hA G) (ws ++ [(q, x)])) : M q = (Option.none : Option (Nat × va_E)) ∧ hH G (hup M q (t, x)) H1 := by
  have hlast : (ws ++ [(q, x)])[ws.length]? = some (q, x) := by rw [List.getElem?_append_right (Nat.le_refl _), Nat.sub_self]; rfl
  have hin : ∀ (b u : Nat) (f : va_E), M b = some (u, f) → ∃ j : Nat, j < ws.length ∧ (ws ++ [(q, x)])[j]? = some (b, f) := fun b u f hf => by
    obtain ⟨j, hj⟩ := hw b u f hf
    have hl := (List.getElem?_eq_some_iff.mp hj).1
    exact ⟨j, hl, by rw [List.getElem?_append_left hl]; exact hj⟩
  have hno : ∀ (b u : Nat) (f : va_E), M b = some (u, f) → b ≠ q := fun b u f hf z => by
    obtain ⟨j, hl, hj⟩ := hin b u f hf
    exact absurd (hD1.1 j ws.length _ _ hj hlast z) (by omega)
  refine ⟨?_, fun b u f hf => ?_⟩
  · cases hm : M q with
    | none => rfl
    | some y => exact absurd rfl (hno q y.1 y.2 hm)
  · by_cases hb : b = q
    · subst hb
      rw [hup_eq] at hf
      cases hf
      exact ⟨hD1.2 ws.length _ hlast, hP ws.length _ hlast⟩
    · rw [hup_ne hb] at hf
      obtain ⟨j, -, hj⟩ := hin b u f hf
      exact ⟨(h b u f hf).1, hP j _ hj⟩
/-- all that was stays -/
def hGr (M M1 : hM) : Prop := ∀ (b : Nat) (x : Nat × va_E), M b = some x → M1 b = some x
theorem hGr.new {M : hM} {q : Nat} {x : Nat × va_E} (h : M q = (Option.none : Option (Nat × va_E))) : hGr M (hup M q x) := fun b y hb => by
  rw [hup_ne (fun z => ?_)]
  · exact hb
  · subst z
    rw [h] at hb
    cases hb
/-- all but what has a tag of Z stays -/
def hFr (Z : Nat → Prop) (M M1 : hM) : Prop := ∀ (b u : Nat) (f : va_E), M b = some (u, f) → ¬ Z u → M1 b = some (u, f)
theorem hFr.rf {Z : Nat → Prop} {M : hM} : hFr Z M M := fun _ _ _ h _ => h
theorem hFr.tr {Z : Nat → Prop} {M M1 M2 : hM} (h : hFr Z M M1) (h' : hFr Z M1 M2) : hFr Z M M2 := fun b u f hb hz => h' b u f (h b u f hb hz) hz
theorem hFr.grow {Z : Nat → Prop} {M M1 M2 : hM} (h : hFr Z M M1) (h' : hGr M1 M2) : hFr Z M M2 := fun b u f hb hz => h' b _ (h b u f hb hz)
theorem hFr.mono {Z Z' : Nat → Prop} {M M1 : hM} (h : hFr Z M M1) (hz : ∀ u, Z u → Z' u) : hFr Z' M M1 := fun b u f hb q => h b u f hb (fun z => q (hz u z))
theorem hFr.put {Z : Nat → Prop} {M M1 : hM} {a t : Nat} {e : va_E} {x : Nat × va_E} (h : hFr Z M M1) (he : M1 a = some (t, e)) (ht : Z t) : hFr Z M (hup M1 a x) := fun b u f hb hz => hup_tag (h b u f hb hz) he (fun z => hz (z ▸ ht))
theorem hFr.sim {G : hG} {Z S : Nat → Prop} {M M1 M2 : hM} (h : hFr Z M M1) (h' : hSim G S M1 M2) (hz : ∀ u, S u → Z u) : hFr Z M M2 := fun b u f hb q => h'.keep (h b u f hb q) (fun z => q (hz u z))
section NEWROWS
variable {G : hG} {p : Program} {l : Launch} {e : Env} {R : Room} {s : State} {m : MethodId} {args : Array Value} {below : List Frame} {meth : Method} {c : Code} {H : Heap} {locs : List Loc} {cells slots : Nat} {Q : State → Prop}
variable {cc : ByteArray} {maxL : Nat} {ret : Option FieldType} {own nm : String} {M : hM} {pc : Nat} {ls : Array Slot} {rest : List Value} {a t ci index n : Nat} {cA : ClassId}
theorem h_free (X : hCX G p s m args meth c cc maxL ret own nm) : ∀ q, s.heap.size ≤ q → hA G q := fun _ h => Nat.le_trans X.2.2.2.2.2.2.2.2.2.1.2.1 h
theorem h_new {C : String} {T : u_T} {N : Nat} {ty0 : Nat → FieldType} (X : hCX G p s m args meth c cc maxL ret own nm) (Y : hHS G M s H locs) (t : Nat) (hcl : vwCl[ci]? = some (C, T, N)) (hin : ∀ w ∈ u_ws C T N, w ∈ hGW) (hty : ∀ k, k < N → parseFieldDescriptor (T k).2.2.1 = some (ty0 k)) (hlink : Cond.classLink own index C ∈ hGW) (hinst : Cond.instantiable C N ∈ hGW) (hini : Cond.initialized C ∈ hGW) {fs : List Value} (hfs : ∀ j, j < N → defaultValue (ty0 j) = vp_V fs j) (hcells : cells + 1 ≤ R.cells) (hslots : slots + N ≤ R.slots) (hdg : decode cc pc = .ok (.new index, 3))
    (kk : ∀ (q : Nat) (M1 : hM) (H1 : Heap), M1 q = some (t, .inr (ci, fs)) → hGr M M1 → hHS G M1 s H1 locs → W p l e R s m args below meth c H1 locs (cells + 1) (slots + N) Q (F0 m (pc + 3) ls (.ref q :: rest))) : W p l e R s m args below meth c H locs cells slots Q (F0 m pc ls rest) := by
  have hts := X.2.2.2.2.2.1
  obtain ⟨ws, hP, hDw, hw⟩ := Y.1.list
  refine va_new (D := hD G) (cl := vwCl) X.1 X.2.1 hts hin ty0 hty X.2.2.2.2.1 (hts _ hlink) (hts _ hinst) (hts _ hini) X.2.2.2.2.2.2.2.1 hP hDw Y.2 (h_free X) hcl hfs hcells hslots hdg fun q H1 hP1 hD1 hS1 => ?_
  obtain ⟨hno, hh⟩ := Y.1.wpush hw t hP1 hD1
  exact kk q _ H1 hup_eq (hGr.new hno) ⟨hh, hS1⟩
theorem h_newI (X : hCX G p s m args meth c cc maxL ret own nm) (Y : hHS G M s H locs) (t : Nat) (hn : n < 2 ^ 26) (hcells : cells + 1 ≤ R.cells) (hslots : slots + n ≤ R.slots) (hdg : decode cc pc = .ok (.newarray .int, 2))
    (kk : ∀ (q : Nat) (M1 : hM) (H1 : Heap), M1 q = some (t, .inl (hT G 0, n, .inl (fun _ => 0))) → hGr M M1 → hHS G M1 s H1 locs → W p l e R s m args below meth c H1 locs (cells + 1) (slots + n) Q (F0 m (pc + 2) ls (.ref q :: rest))) : W p l e R s m args below meth c H locs cells slots Q (F0 m pc ls (.int (nI n) :: rest)) := by
  obtain ⟨ws, hP, hDw, hw⟩ := Y.1.list
  refine va_newa (D := hD G) (cl := vwCl) (a0 := (n, .inl (fun _ => 0))) (N' := n) (atype := .int) X.1 X.2.1 (X.2.2.2.2.2.1 _ kac_int) rfl X.2.2.2.2.2.2.2.1 hP hDw Y.2 (h_free X) (fun _ => rfl) (nI_nn (by omega)) (nI_clamp (by omega)) (by show n * 4 ≤ _; omega) hcells hslots hdg fun q cA H1 hK1 hP1 hD1 hS1 => ?_
  have hc : cA = hT G 0 := by
    have h1 := (hK1.2 7 (cA, .int) rfl).2
    have h2 := (X.2.2.2.2.2.2.2.1.2 0 (hT G 0, .int) rfl).2
    exact Option.some.inj (h1.symm.trans h2)
  subst hc
  obtain ⟨hno, hh⟩ := Y.1.wpush hw t hP1 hD1
  exact kk q _ H1 hup_eq (hGr.new hno) ⟨hh, hS1⟩
theorem h_newB (X : hCX G p s m args meth c cc maxL ret own nm) (Y : hHS G M s H locs) (t : Nat) (hn : n < 2 ^ 26) (hcells : cells + 1 ≤ R.cells) (hslots : slots + n ≤ R.slots) (hdg : decode cc pc = .ok (.newarray .byte, 2))
    (kk : ∀ (q : Nat) (M1 : hM) (H1 : Heap), M1 q = some (t, .inl (hT G 1, n, .inl (fun _ => 0))) → hGr M M1 → hHS G M1 s H1 locs → W p l e R s m args below meth c H1 locs (cells + 1) (slots + n) Q (F0 m (pc + 2) ls (.ref q :: rest))) : W p l e R s m args below meth c H locs cells slots Q (F0 m pc ls (.int (nI n) :: rest)) := by
  obtain ⟨ws, hP, hDw, hw⟩ := Y.1.list
  refine va_newa (D := hD G) (cl := vwCl) (a0 := (n, .inl (fun _ => 0))) (N' := n) (atype := .byte) X.1 X.2.1 (X.2.2.2.2.2.1 _ kac_byte) rfl X.2.2.2.2.2.2.2.1 hP hDw Y.2 (h_free X) (fun _ => rfl) (nI_nn (by omega)) (nI_clamp (by omega)) (by show n * 1 ≤ _; omega) hcells hslots hdg fun q cA H1 hK1 hP1 hD1 hS1 => ?_
  have hc : cA = hT G 1 := by
    have h1 := (hK1.2 7 (cA, .byte) rfl).2
    have h2 := (X.2.2.2.2.2.2.2.1.2 1 (hT G 1, .byte) rfl).2
    exact Option.some.inj (h1.symm.trans h2)
  subst hc
  obtain ⟨hno, hh⟩ := Y.1.wpush hw t hP1 hD1
  exact kk q _ H1 hup_eq (hGr.new hno) ⟨hh, hS1⟩
theorem h_newL (X : hCX G p s m args meth c cc maxL ret own nm) (Y : hHS G M s H locs) (t : Nat) (hn : n < 2 ^ 26) (hcells : cells + 1 ≤ R.cells) (hslots : slots + n ≤ R.slots) (hdg : decode cc pc = .ok (.newarray .long, 2))
    (kk : ∀ (q : Nat) (M1 : hM) (H1 : Heap), M1 q = some (t, .inl (hT G 2, n, .inr (.inl (fun _ => 0)))) → hGr M M1 → hHS G M1 s H1 locs → W p l e R s m args below meth c H1 locs (cells + 1) (slots + n) Q (F0 m (pc + 2) ls (.ref q :: rest))) : W p l e R s m args below meth c H locs cells slots Q (F0 m pc ls (.int (nI n) :: rest)) := by
  obtain ⟨ws, hP, hDw, hw⟩ := Y.1.list
  refine va_newa (D := hD G) (cl := vwCl) (a0 := (n, .inr (.inl (fun _ => 0)))) (N' := n) (atype := .long) X.1 X.2.1 (X.2.2.2.2.2.1 _ kac_long) rfl X.2.2.2.2.2.2.2.1 hP hDw Y.2 (h_free X) (fun _ => rfl) (nI_nn (by omega)) (nI_clamp (by omega)) (by show n * 8 ≤ _; omega) hcells hslots hdg fun q cA H1 hK1 hP1 hD1 hS1 => ?_
  have hc : cA = hT G 2 := by
    have h1 := (hK1.2 7 (cA, .long) rfl).2
    have h2 := (X.2.2.2.2.2.2.2.1.2 2 (hT G 2, .long) rfl).2
    exact Option.some.inj (h1.symm.trans h2)
  subst hc
  obtain ⟨hno, hh⟩ := Y.1.wpush hw t hP1 hD1
  exact kk q _ H1 hup_eq (hGr.new hno) ⟨hh, hS1⟩
theorem h_newq {C : String} (t0 : Nat) (X : hCX G p s m args meth c cc maxL ret own nm) (Y : hHS G M s H locs) (t : Nat) (hn : n < 2 ^ 26) (hlink : Cond.classLink own index C ∈ hGW) (hover : va_AO C s) (ht : (hTys (hT G))[t0]? = some (cA, .object C)) (hcells : cells + 1 ≤ R.cells) (hslots : slots + n ≤ R.slots) (hdg : decode cc pc = .ok (.anewarray index, 3))
    (kk : ∀ (q : Nat) (M1 : hM) (H1 : Heap), M1 q = some (t, .inl (cA, n, .inr (.inr (.inr (.inr (fun _ => none)))))) → hGr M M1 → hHS G M1 s H1 locs → W p l e R s m args below meth c H1 locs (cells + 1) (slots + n) Q (F0 m (pc + 3) ls (.ref q :: rest))) : W p l e R s m args below meth c H locs cells slots Q (F0 m pc ls (.int (nI n) :: rest)) := by
  have hts := X.2.2.2.2.2.1
  obtain ⟨ws, hP, hDw, hw⟩ := Y.1.list
  refine va_newq (D := hD G) (cl := vwCl) (N' := n) X.1 X.2.1 X.2.2.2.2.1 (hts _ hlink) hover X.2.2.2.2.2.2.2.1 hP hDw Y.2 (h_free X) (nI_nn (by omega)) (nI_clamp (by omega)) (by omega) hcells hslots hdg fun q cB H1 hK1 hP1 hD1 hS1 => ?_
  have hc : cB = cA := by
    obtain ⟨-, -, -, -, -, h1⟩ := (hK1.2 7 (cB, .object C) rfl).2
    obtain ⟨-, -, -, -, -, h2⟩ := (X.2.2.2.2.2.2.2.1.2 t0 (cA, .object C) ht).2
    exact Option.some.inj (h1.symm.trans h2)
  subst hc
  obtain ⟨hno, hh⟩ := Y.1.wpush hw t hP1 hD1
  exact kk q _ H1 hup_eq (hGr.new hno) ⟨hh, hS1⟩
/-- an object of the map goes into a row -/
theorem h_aast {C : String} {r : vw_C} {v tv i : Nat} {vs : List Value} {f : Nat → Option Nat} (t0 : Nat) (X : hCX G p s m args meth c cc maxL ret own nm) (Y : hHS G M s H locs) (he : M a = some (t, .inl (cA, n, .inr (.inr (.inr (.inr f)))))) (ht : (hTys (hT G))[t0]? = some (cA, .object C)) (hv : M v = some (tv, .inr (ci, vs))) (hcl : vwCl[ci]? = some r) (hca : va_Nw (.castable r.1 C) s) (hi : i < n) (hn : n < 2 ^ 31) (hdg : decode cc pc = .ok (.aastore, 1))
    (kk : ∀ (H1 : Heap) (locs1 : List Loc), hHS G (hup M a (t, .inl (cA, n, .inr (.inr (.inr (.inr (va_up f i (some v)))))))) s H1 locs1 → W p l e R s m args below meth c H1 locs1 cells slots Q (F0 m (pc + 1) ls rest)) : W p l e R s m args below meth c H locs cells slots Q (F0 m pc ls (.ref v :: .int (nI i) :: .ref a :: rest)) := by
  obtain ⟨ws, hP, hDw, hw⟩ := Y.1.list
  obtain ⟨k1, hk1⟩ := hw a t _ he
  obtain ⟨k2, hk2⟩ := hw v tv _ hv
  refine va_astqO (D := hD G) (cl := vwCl) X.1 X.2.1 X.2.2.2.2.2.2.2.1 hP hDw Y.2 k1 t0 k2 ci hk1 ht hca hk2 hcl (vp_in_nI hi hn) hdg fun H1 locs1 hP1 hD1 hS1 => ?_
  rw [nI_clamp (Nat.lt_trans hi hn)] at hP1
  exact kk H1 locs1 ⟨Y.1.wset hw he hk1 hP1, hS1⟩
theorem h_callI {y : MethodName} {cc' : ByteArray} {maxL' k : Nat} {rm : Room} {post : Option Value → hM → Prop} {As st0 : List Value} (X : hCX G p s m args meth c cc maxL ret own nm) (Y : hHS G M s H locs) (hCt : hCT l G y cc' maxL' none rm M (.ref a :: As) post) (hg : GoodIn hGW (Cond.code y cc' maxL' none :: hGW)) (hini : Cond.initialized y.cls ∈ hGW) (hlink : Cond.methodLink own index y ∈ hGW) (hinm : Cond.instanceMethod y ∈ hGW) (hy1 : y.name = "<init>")
    (hd : y.cls ≠ "java/lang/invoke/MethodHandle" ∧ y.cls ≠ "java/lang/invoke/VarHandle" ∧ (parseMethodDescriptor y.desc).map (fun d => d.parameters.length) = some k) (hk : As.length = k) (hls : ls.size = maxL) (hst : st0 = As.reverse ++ .ref a :: rest) (hw : (rest.map fun v => v.category).sum ≤ 8)
    (hR : rm.frames + 1 ≤ R.frames ∧ 8 + (maxL' + 11) + rm.locals ≤ R.locals) (hf : cells + rm.cells ≤ R.cells ∧ slots + rm.slots ≤ R.slots) (hdg : decode cc pc = .ok (.invokespecial index, 3))
    (kk : ∀ (v : Option Value) (M1 : hM) (H1 : Heap) (locs1 : List Loc), post v M1 → hHS G M1 s H1 locs1 → W p l e R s m args below meth c H1 locs1 (cells + rm.cells) (slots + rm.slots) Q (F0 m (pc + 3) ls (v.toList ++ rest))) : W p l e R s m args below meth c H locs cells slots Q (F0 m pc ls st0) := by
  have hts := X.2.2.2.2.2.1
  exact h_after Y (va_runI (As := As) (rest := rest) (b := a) (n := k) ⟨X.1, X.2.1, X.2.2.2.1, X.2.2.2.2.1, hts⟩ hCt (cwI k hts hg rfl rfl rfl (hts _ hini) (hts _ hlink) (hts _ hinm) hy1 hd hR) ⟨hPc.blind, h_pre X Y⟩ rfl hk hls hst (lv_room hw) hdg hf) kk
theorem h_callIN {y : MethodName} {cc' : ByteArray} {maxL' k : Nat} {rm : Room} {post : Option Value → hM → Prop} {host : String} {As st0 : List Value} (X : hCX G p s m args meth c cc maxL ret own nm) (Y : hHS G M s H locs) (hCt : hCT l G y cc' maxL' none rm M (.ref a :: As) post) (hg : GoodIn hGW (Cond.code y cc' maxL' none :: hGW)) (hini : Cond.initialized y.cls ∈ hGW) (hlink : va_Nw (.methodLinkNest own index y host) s) (hinm : Cond.instanceMethod y ∈ hGW) (hy1 : y.name = "<init>")
    (hd : y.cls ≠ "java/lang/invoke/MethodHandle" ∧ y.cls ≠ "java/lang/invoke/VarHandle" ∧ (parseMethodDescriptor y.desc).map (fun d => d.parameters.length) = some k) (hk : As.length = k) (hls : ls.size = maxL) (hst : st0 = As.reverse ++ .ref a :: rest) (hw : (rest.map fun v => v.category).sum ≤ 8)
    (hR : rm.frames + 1 ≤ R.frames ∧ 8 + (maxL' + 11) + rm.locals ≤ R.locals) (hf : cells + rm.cells ≤ R.cells ∧ slots + rm.slots ≤ R.slots) (hdg : decode cc pc = .ok (.invokespecial index, 3))
    (kk : ∀ (v : Option Value) (M1 : hM) (H1 : Heap) (locs1 : List Loc), post v M1 → hHS G M1 s H1 locs1 → W p l e R s m args below meth c H1 locs1 (cells + rm.cells) (slots + rm.slots) Q (F0 m (pc + 3) ls (v.toList ++ rest))) : W p l e R s m args below meth c H locs cells slots Q (F0 m pc ls st0) := by
  have hts := X.2.2.2.2.2.1
  exact h_after Y (va_runIN (As := As) (rest := rest) (b := a) (n := k) (host := host) ⟨X.1, X.2.1, X.2.2.2.1, X.2.2.2.2.1, hts⟩ hCt ⟨va_cnB k hts hg rfl rfl rfl hlink (hts _ hini) hd hR, hy1, hts _ hinm⟩ ⟨hPc.blind, h_pre X Y⟩ rfl hk hls hst (lv_room hw) hdg hf) kk
theorem h_objI (X : hCX G p s m args meth c cc maxL ret own nm) (hls : ls.size = maxL) (hlink : Cond.methodLink own index ⟨"java/lang/Object", "<init>", "()V"⟩ ∈ hGW) (hfr : 1 ≤ R.frames) (hlo : (rest.map fun v => v.category).sum + 12 ≤ R.locals) (hdg : decode cc pc = .ok (.invokespecial index, 3))
    (kk : W p l e R s m args below meth c H locs cells slots Q (F0 m (pc + 3) ls rest)) : W p l e R s m args below meth c H locs cells slots Q (F0 m pc ls (.ref a :: rest)) := by
  have hts := X.2.2.2.2.2.1
  exact W.objInit X.1 X.2.1 X.2.2.2.2.1 (hts _ hlink) (hts _ kin_Zjava_lang_Object__init____V) (hts _ kco_Zjava_lang_Object__init____V) rfl (hls.trans X.2.2.2.1.symm) rfl hdg hfr (by show 2 * 0 + _ + _ ≤ _; omega) kk
end NEWROWS
