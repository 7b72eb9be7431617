-- THE HEAP AS A MAP: an address has a tag and what its cell holds; a contract speaks of the map
abbrev hG : Type := State × Nat × va_G × (Nat → ClassId)
abbrev hM : Type := Nat → Option (Nat × va_E)
def hU (G : hG) : State := G.1
def hB (G : hG) : Nat := G.1.heap.size
def hD (G : hG) : va_G := G.2.2.1
def hT (G : hG) : Nat → ClassId := G.2.2.2
def hA (G : hG) : Nat → Prop := fun q => hB G ≤ q
def hTys (T : Nat → ClassId) : List (ClassId × FieldType) := [(T 0, .int), (T 1, .byte), (T 2, .long), (T 3, .object "LossHouse$Sign"), (T 4, .object "LossHouse$Triangle"), (T 5, .array .int), (T 6, .object "java/lang/Object")]
def hK (G : hG) (U : State) : Prop := va_K (hD G) vwCl (hTys (hT G)) U
/-- what is known at the law's entry, kept for good -/
def hSt (G : hG) : Prop := (∀ w ∈ lw_tbl, w.before #[Value.ref G.2.1] (hU G) = true) ∧ (Jvm.Cond.and given_1 narrow_1).before #[Value.ref G.2.1] (hU G) = true ∧ hK G (hU G)
/-- the map M is what the heap H holds, above the law's start -/
def hH (G : hG) (M : hM) (H : Heap) : Prop := ∀ a t e, M a = some (t, e) → hB G ≤ a ∧ va_at (hD G) vwCl (a, e) H
/-- U comes of the law's start: its tables, and what lay below -/
def hR (G : hG) (U : State) : Prop := (hU G).WarmedH U.vm ∧ hB G ≤ U.heap.size ∧ ∀ a, a < hB G → U.heap[a]? = (hU G).heap[a]?
def hPc (G : hG) (M : hM) (as : List Value) : Array Value → State → Prop := fun v U => v = as.toArray ∧ hSt G ∧ hR G U ∧ hH G M U.heap
def hQ (G : hG) (post : Option Value → hM → Prop) : Array Value → State → Outcome → State → Prop := fun _ st oc t => (∃ v M', oc = .returned v ∧ post v M' ∧ hH G M' t.heap) ∧ va_F (hA G) st t
/-- a contract: from the map M it returns, with post of the answer and of the map behind it -/
def hCT (l : Launch) (G : hG) (y : MethodName) (cc : ByteArray) (maxL : Nat) (ret : Option FieldType) (rm : Room) (M : hM) (as : List Value) (post : Option Value → hM → Prop) : Prop :=
  Met l y (Cond.code y cc maxL ret :: hGW) rm (hPc G M as) (hQ G post) rm.cells rm.slots (hA G)
abbrev hRm (d c n : Nat) : Room := { frames := d, cells := c, slots := n, locals := 64 * d }
/-- where a method's body is walked -/
def hCX (G : hG) (p : Program) (s : State) (m : MethodId) (args : Array Value) (meth : Method) (c : Code) (cc : ByteArray) (maxL : Nat) (ret : Option FieldType) (own nm : String) : Prop :=
  p.tables.exec = Jvm.exec ∧ c.code = cc ∧ meth.sig.returnType = ret ∧ c.maxLocals = maxL ∧ s.vm.findClass own = some m.cls ∧ (∀ w ∈ hGW, w.before args s = true) ∧ meth.locks = false ∧ hK G s ∧ hSt G ∧ hR G s ∧ meth.name = nm
def hHS (G : hG) (M : hM) (s : State) (H : Heap) (locs : List Loc) : Prop := hH G M H ∧ va_S (hA G) s.heap H locs
def hup (M : hM) (a : Nat) (x : Nat × va_E) : hM := fun b => if b = a then some x else M b
theorem hup_eq {M : hM} {a : Nat} {x : Nat × va_E} : hup M a x a = some x := if_pos rfl
theorem hup_hup {M : hM} {a : Nat} {x y : Nat × va_E} : hup (hup M a x) a y = hup M a y := by
  funext b
  by_cases h : b = a
  · subst h; simp [hup]
  · simp [hup, h]
theorem hup_self {M : hM} {a : Nat} {x : Nat × va_E} (h : M a = some x) : hup M a x = M := by
  funext b
  by_cases hb : b = a
  · subst hb; simp [hup, h]
  · simp [hup, hb]
theorem hup_ne {M : hM} {a b : Nat} {x : Nat × va_E} (h : b ≠ a) : hup M a x b = M b := if_neg h
theorem hup_tag {M : hM} {a b t u : Nat} {x : Nat × va_E} {e f : va_E} (hb : M b = some (u, f)) (ha : M a = some (t, e)) (hne : u ≠ t) : hup M a x b = some (u, f) := by
  rw [hup_ne (fun h => ?_)]
  · exact hb
  · subst h
    rw [hb] at ha
    cases ha
    exact hne rfl
theorem hH.get {G : hG} {M : hM} {H : Heap} (h : hH G M H) {a t : Nat} {e : va_E} (he : M a = some (t, e)) : va_P (hD G) vwCl [(a, e)] H := fun k q hq => by
  have hk : k < 1 := (List.getElem?_eq_some_iff.mp hq).1
  rw [show k = 0 by omega] at hq
  cases hq
  exact (h a t e he).2
theorem hH.put {G : hG} {M : hM} {H H1 : Heap} (h : hH G M H) {a t : Nat} {e : va_E} {x : Nat × va_E} (he : M a = some (t, e)) (hx : va_at (hD G) vwCl (a, x.2) H1) (oq : ∀ q : Nat, q ≠ a → H1[q]? = H[q]?) : hH G (hup M a x) H1 := by
  intro b u f hf
  by_cases hb : b = a
  · subst hb
    rw [hup_eq] at hf
    cases hf
    exact ⟨(h b t e he).1, hx⟩
  · rw [hup_ne hb] at hf
    exact ⟨(h b u f hf).1, ((h b u f hf).2).kept (oq b hb)⟩
theorem hH.new {G : hG} {M : hM} {H H1 : Heap} (h : hH G M H) {x : Nat × va_E} (hB1 : hB G ≤ H.size) (hx : va_at (hD G) vwCl (H.size, x.2) H1) (oq : ∀ q : Nat, q < H.size → H1[q]? = H[q]?) : hH G (hup M H.size x) H1 := by
  intro b u f hf
  by_cases hb : b = H.size
  · subst hb
    rw [hup_eq] at hf
    cases hf
    exact ⟨hB1, hx⟩
  · rw [hup_ne hb] at hf
    exact ⟨(h b u f hf).1, ((h b u f hf).2).kept (oq b ((h b u f hf).2).lt)⟩
theorem hH.fresh {G : hG} {M : hM} {H : Heap} (h : hH G M H) {b u : Nat} {f : va_E} (hf : M b = some (u, f)) : b < H.size := ((h b u f hf).2).lt
theorem hH.none {G : hG} {M : hM} {H : Heap} (h : hH G M H) : M H.size = none := by
  cases hm : M H.size with
  | none => rfl
  | some x =>
    obtain ⟨u, f⟩ := x
    exact absurd (h.fresh hm) (Nat.lt_irrefl _)
theorem hR.step {G : hG} {s U : State} {H : Heap} {locs : List Loc} (hr : hR G s) (hS : va_S (hA G) s.heap H locs) (hU1 : U.heap = H) (hW : s.WarmedH U.vm) : hR G U := by
  refine ⟨State.WarmedH.trans hr.1 hW, ?_, fun a ha => ?_⟩
  · rw [hU1]; exact Nat.le_trans hr.2.1 hS.1
  · rw [hU1, hS.2.1 a (Nat.lt_of_lt_of_le ha hr.2.1) (Nat.not_le.mpr ha)]
    exact hr.2.2 a ha
theorem hPc.blind {G : hG} {M : hM} {as : List Value} : FrameBlind (hPc G M as) := fun a U g mk q => q
theorem hCT.of {l : Launch} {G : hG} {y : MethodName} {cc : ByteArray} {maxL : Nat} {ret : Option FieldType} {rm : Room} {M : hM} {as : List Value} {post : Option Value → hM → Prop} {own nm : String} (hy : plainName y.cls = true) (ho : y.cls = own) (hnm : y.name = nm) (hn : (lg_sl as).length ≤ maxL)
    (body : ∀ (p : Program) (e : Env) (s : State) (m : MethodId) (args : Array Value) (below : List Frame) (meth : Method) (c : Code) (ls : Array Slot), hCX G p s m args meth c cc maxL ret own nm → hHS G M s s.heap [] → lv_has ls maxL (lv_args 0 as) →
      W p l e rm s m args below meth c s.heap [] 0 0 (MQ below (hQ G post) args s rm.cells rm.slots (hA G)) (F0 m 0 ls [])) : hCT l G y cc maxL ret rm M as post := by
  refine Met.ofW (cc := cc) (maxL := maxL) (ret := ret) hy rfl ?_
  intro p e s m args below meth c s₁ B hml hv
  obtain ⟨rfl, hst, hr, hm⟩ := hv
  have hl := lv_entry as (n := maxL) hn
  rw [lg_entry_eq]
  generalize (lg_sl as ++ List.replicate (maxL - (lg_sl as).length) Slot.unset).toArray = ls at hl ⊢
  refine body p e s m _ below meth c ls ⟨B.exec, B.bytes, B.returns, hml, ?_, ?_, B.notSynchronized, ?_, hst, hr, ?_⟩ ⟨hm, va_S.rf⟩ hl
  · rw [← ho]; exact findClass_of_methodNamed B.named
  · intro w hw
    exact atoms_spec (ws := Cond.code y cc maxL ret :: hGW) B.pre w (List.mem_cons_of_mem _ hw)
  · exact va_K.moved hr.1.alike hst.2.2
  · rw [← hnm]; exact (name_of_methodNamed B.named B.method).1
def sMax (x y : Int32) : Int32 := if x < y then y else x
def sMin (x y : Int32) : Int32 := if y < x then y else x
def sMaxL (x y : Int64) : Int64 := if y < x then x else y
def sMinL (x y : Int64) : Int64 := if y < x then y else x
section HROWS
variable {G : hG} {p : Program} {l : Launch} {e : Env} {R : Room} {s : State} {m : MethodId} {args : Array Value} {below : List Frame} {meth : Method} {c : Code} {H : Heap} {locs : List Loc} {cells slots : Nat} {Q : State → Prop}
variable {cc : ByteArray} {maxL : Nat} {ret : Option FieldType} {own nm : String} {M : hM} {pc : Nat} {ls : Array Slot} {rest : List Value} {a t ci index n : Nat} {cA : ClassId}
theorem hHS.put {H1 : Heap} {e0 : va_E} {x : Nat × va_E} {k : Nat} (X : hCX G p s m args meth c cc maxL ret own nm) (Y : hHS G M s H locs) (he : M a = some (t, e0)) (hx : va_at (hD G) vwCl (a, x.2) H1) (z : H1.size = H.size) (oq : ∀ q : Nat, q ≠ a → H1[q]? = H[q]?) : hHS G (hup M a x) s H1 (locs ++ [⟨a, k⟩]) :=
  ⟨Y.1.put he hx oq, Y.2.put z oq (Y.1 a t e0 he).1⟩
theorem hHS.hA (X : hCX G p s m args meth c cc maxL ret own nm) (Y : hHS G M s H locs) : hB G ≤ H.size := Nat.le_trans X.2.2.2.2.2.2.2.2.2.1.2.1 Y.2.1
theorem h_get (X : hCX G p s m args meth c cc maxL ret own nm) (Y : hHS G M s H locs) {k N : Nat} {fs : List Value} {C : String} {T : u_T} {v : Value} (he : M a = some (t, .inr (ci, fs))) (hcl : vwCl[ci]? = some (C, T, N)) (hin : ∀ w ∈ u_ws C T N, w ∈ hGW) (hk : k < N) (hlink : Cond.fieldLink own index (T k).1 (T k).2.1 (T k).2.2.1 ∈ hGW) (hv : fs[k]? = some v) (hdg : decode cc pc = .ok (.getfield index, 3))
    (kk : W p l e R s m args below meth c H locs cells slots Q (F0 m (pc + 3) ls (v :: rest))) : W p l e R s m args below meth c H locs cells slots Q (F0 m pc ls (.ref a :: rest)) :=
  va_get (D := hD G) (cl := vwCl) X.1 X.2.1 X.2.2.2.2.2.1 hin X.2.2.2.2.1 X.2.2.2.2.2.2.2.1 (Y.1.get he) 0 rfl hcl k hk (X.2.2.2.2.2.1 _ hlink) (fun _ h => h) hv hdg kk
/-- a field that is named by another class than its own -/
theorem h_getS (X : hCX G p s m args meth c cc maxL ret own nm) (Y : hHS G M s H locs) {k N : Nat} {fs : List Value} {C ref : String} {T : u_T} {v : Value} (he : M a = some (t, .inr (ci, fs))) (hcl : vwCl[ci]? = some (C, T, N)) (hin : ∀ w ∈ u_ws C T N, w ∈ hGW) (hk : k < N) (hlink : Cond.fieldLink own index ref (T k).2.1 (T k).2.2.1 ∈ hGW) (hsame : Cond.sameField ref (T k).1 (T k).2.1 (T k).2.2.1 ∈ hGW) (hv : fs[k]? = some v) (hdg : decode cc pc = .ok (.getfield index, 3))
    (kk : W p l e R s m args below meth c H locs cells slots Q (F0 m (pc + 3) ls (v :: rest))) : W p l e R s m args below meth c H locs cells slots Q (F0 m pc ls (.ref a :: rest)) :=
  va_get (D := hD G) (cl := vwCl) X.1 X.2.1 X.2.2.2.2.2.1 hin X.2.2.2.2.1 X.2.2.2.2.2.2.2.1 (Y.1.get he) 0 rfl hcl k hk (X.2.2.2.2.2.1 _ hlink) (fun x h => u_same (X.2.2.2.2.2.1 _ hsame) x h) hv hdg kk
theorem h_put (X : hCX G p s m args meth c cc maxL ret own nm) (Y : hHS G M s H locs) {k N : Nat} {fs : List Value} {C : String} {T : u_T} {ty0 : Nat → FieldType} {v : Value} (he : M a = some (t, .inr (ci, fs))) (hcl : vwCl[ci]? = some (C, T, N)) (hin : ∀ w ∈ u_ws C T N, w ∈ hGW) (hty : ∀ k, k < N → parseFieldDescriptor (T k).2.2.1 = some (ty0 k)) (hnm : ∀ a, a < N → ∀ b, b < N → a ≠ b → (T a).2.1 ≠ (T b).2.1)
    (hk : k < N) (hlink : Cond.fieldLink own index (T k).1 (T k).2.1 (T k).2.2.1 ∈ hGW) (hfin : (T k).2.2.2 = false) (hn : narrow (ty0 k) v = v) (hfit : fits (ty0 k) v = true) (hl : k < fs.length) (hdg : decode cc pc = .ok (.putfield index, 3))
    (kk : ∀ (H1 : Heap) (locs1 : List Loc), hHS G (hup M a (t, .inr (ci, fs.set k v))) s H1 locs1 → W p l e R s m args below meth c H1 locs1 cells slots Q (F0 m (pc + 3) ls rest)) : W p l e R s m args below meth c H locs cells slots Q (F0 m pc ls (v :: .ref a :: rest)) := by
  have hK := X.2.2.2.2.2.2.2.1
  have hts := X.2.2.2.2.2.1
  have hap := va_apart (own := own) hts hin ty0 hty hnm hK hcl
  obtain ⟨-, r, h1, cell, q1, q2, q3, q4⟩ := Y.1 a t _ he
  have hr : r = (C, T, N) := Option.some.inj (h1.symm.trans hcl)
  subst hr
  obtain ⟨hS, hfc, kC, hkC, hkind⟩ := hK.1 ci _ hcl
  obtain ⟨cf, kf, fi, f, hi, hsl⟩ := hS k hk
  have hlay := hts _ (hin _ (u_in_lay hk))
  unfold u_lay at hlay
  rw [if_neg (by rw [hfin]; decide)] at hlay
  have hst := (u_facts hfc hkC (u_lays hts hin hk) hi).1
  have h6 := u_store hfc hkC hkind hlay hi (hty k hk) hn hfit
  refine W.putK X.1 X.2.1 (f := f) ⟨X.2.2.2.2.1, hts _ hlink, ⟨_, _, _, hi⟩, hst⟩ (by rw [q2]; exact h6) q1 q3 (by rw [hsl]; exact k2_hasslot (q4 k hk)) rfl rfl hdg fun H' e1 e2 e3 => ?_
  rw [hsl] at e1 ⊢
  exact kk H' _ (hHS.put X Y he ⟨_, hcl, t_OB.to (V := updV (vp_V fs) k v) ⟨_, e1, q2, q3, t_set q4 hap hk v⟩ (fun j _ => vp_updV_set hl v j)⟩ e2 e3)
/-- a final field, in the class's own constructor -/
theorem h_putF (X : hCX G p s m args meth c cc maxL ret own "<init>") (Y : hHS G M s H locs) {k N : Nat} {fs : List Value} {C : String} {T : u_T} {ty0 : Nat → FieldType} {v : Value} (he : M a = some (t, .inr (ci, fs))) (hcl : vwCl[ci]? = some (C, T, N)) (hin : ∀ w ∈ u_ws C T N, w ∈ hGW) (hty : ∀ k, k < N → parseFieldDescriptor (T k).2.2.1 = some (ty0 k)) (hnm : ∀ a, a < N → ∀ b, b < N → a ≠ b → (T a).2.1 ≠ (T b).2.1)
    (hk : k < N) (hlink : Cond.fieldLink own index (T k).1 (T k).2.1 (T k).2.2.1 ∈ hGW) (hfin : (T k).2.2.2 = true) (hdecl : (T k).1 = own) (hn : narrow (ty0 k) v = v) (hfit : fits (ty0 k) v = true) (hl : k < fs.length) (hdg : decode cc pc = .ok (.putfield index, 3))
    (kk : ∀ (H1 : Heap) (locs1 : List Loc), hHS G (hup M a (t, .inr (ci, fs.set k v))) s H1 locs1 → W p l e R s m args below meth c H1 locs1 cells slots Q (F0 m (pc + 3) ls rest)) : W p l e R s m args below meth c H locs cells slots Q (F0 m pc ls (v :: .ref a :: rest)) := by
  have hK := X.2.2.2.2.2.2.2.1
  have hts := X.2.2.2.2.2.1
  have hown := X.2.2.2.2.1
  have hap := va_apart (own := own) hts hin ty0 hty hnm hK hcl
  obtain ⟨-, r, h1, cell, q1, q2, q3, q4⟩ := Y.1 a t _ he
  have hr : r = (C, T, N) := Option.some.inj (h1.symm.trans hcl)
  subst hr
  obtain ⟨hS, hfc, kC, hkC, hkind⟩ := hK.1 ci _ hcl
  obtain ⟨cf, kf, fi, f, hi, hsl⟩ := hS k hk
  have hlay := hts _ (hin _ (u_in_lay hk))
  unfold u_lay at hlay
  rw [if_pos hfin] at hlay
  have hst := (u_facts hfc hkC (u_lays hts hin hk) hi).1
  have hcf : m.cls = cf := by
    obtain ⟨_, _, c', _, _, _, -, -, hf', -, -, -, hown2, -⟩ := Cond.laysFinal_spec hlay
    have e1 : c' = cf := by have := hi.symm.trans hf'; simp at this; exact this.1.symm
    rw [hdecl] at hown2
    rw [← e1]; exact Option.some.inj (hown.symm.trans hown2)
  have h6 := u_fits hfc hkC hkind (Or.inr hlay) hi (hty k hk) hn hfit
  refine W.putFinK X.1 X.2.1 hown (hts _ hlink) hi hst hcf X.2.2.2.2.2.2.2.2.2.2 (by rw [q2]; exact h6) q1 q3 (by rw [hsl]; exact k2_hasslot (q4 k hk)) rfl rfl hdg fun H' e1 e2 e3 => ?_
  rw [hsl] at e1 ⊢
  exact kk H' _ (hHS.put X Y he ⟨_, hcl, t_OB.to (V := updV (vp_V fs) k v) ⟨_, e1, q2, q3, t_set q4 hap hk v⟩ (fun j _ => vp_updV_set hl v j)⟩ e2 e3)
theorem h_ev {x y : Int32} (h : x = y) (kk : W p l e R s m args below meth c H locs cells slots Q (F0 m pc ls (.int y :: rest))) : W p l e R s m args below meth c H locs cells slots Q (F0 m pc ls (.int x :: rest)) := h ▸ kk
theorem h_rf {o : Option Nat} {q : Nat} (h : o = some q) (kk : W p l e R s m args below meth c H locs cells slots Q (F0 m pc ls (.ref q :: rest))) : W p l e R s m args below meth c H locs cells slots Q (F0 m pc ls (va_rf o :: rest)) := by
  subst h
  exact kk
/-- an array is read: its index a number below its length -/
theorem h_iald (X : hCX G p s m args meth c cc maxL ret own nm) (Y : hHS G M s H locs) {f : Nat → Int32} {i : Nat} (he : M a = some (t, .inl (hT G 0, n, .inl f))) (hi : i < n) (hn : n < 2 ^ 31) (hdg : decode cc pc = .ok (.iaload, 1))
    (kk : W p l e R s m args below meth c H locs cells slots Q (F0 m (pc + 1) ls (.int (f i) :: rest))) : W p l e R s m args below meth c H locs cells slots Q (F0 m pc ls (.int (nI i) :: .ref a :: rest)) := by
  refine va_iald (D := hD G) (cl := vwCl) X.1 X.2.1 X.2.2.2.2.2.2.2.1 (Y.1.get he) 0 0 rfl rfl (vp_in_nI hi hn) hdg ?_
  rw [nI_clamp (Nat.lt_trans hi hn)]
  exact kk
theorem h_bald (X : hCX G p s m args meth c cc maxL ret own nm) (Y : hHS G M s H locs) {f : Nat → Int32} {i : Nat} (he : M a = some (t, .inl (hT G 1, n, .inl f))) (hi : i < n) (hn : n < 2 ^ 31) (hdg : decode cc pc = .ok (.baload, 1))
    (kk : W p l e R s m args below meth c H locs cells slots Q (F0 m (pc + 1) ls (.int (f i) :: rest))) : W p l e R s m args below meth c H locs cells slots Q (F0 m pc ls (.int (nI i) :: .ref a :: rest)) := by
  refine va_bald (D := hD G) (cl := vwCl) X.1 X.2.1 X.2.2.2.2.2.2.2.1 (Y.1.get he) 0 1 rfl rfl (vp_in_nI hi hn) hdg ?_
  rw [nI_clamp (Nat.lt_trans hi hn)]
  exact kk
theorem h_lald (X : hCX G p s m args meth c cc maxL ret own nm) (Y : hHS G M s H locs) {f : Nat → Int64} {i : Nat} (he : M a = some (t, .inl (hT G 2, n, .inr (.inl f)))) (hi : i < n) (hn : n < 2 ^ 31) (hdg : decode cc pc = .ok (.laload, 1))
    (kk : W p l e R s m args below meth c H locs cells slots Q (F0 m (pc + 1) ls (.long (f i) :: rest))) : W p l e R s m args below meth c H locs cells slots Q (F0 m pc ls (.int (nI i) :: .ref a :: rest)) := by
  refine va_lald (D := hD G) (cl := vwCl) X.1 X.2.1 X.2.2.2.2.2.2.2.1 (Y.1.get he) 0 2 rfl rfl (vp_in_nI hi hn) hdg ?_
  rw [nI_clamp (Nat.lt_trans hi hn)]
  exact kk
/-- a row of references (all types but [[I) -/
theorem h_aald (X : hCX G p s m args meth c cc maxL ret own nm) (Y : hHS G M s H locs) (t0 : Nat) {C : String} {f : Nat → Option Nat} {i : Nat} (he : M a = some (t, .inl (cA, n, .inr (.inr (.inr (.inr f)))))) (ht : (hTys (hT G))[t0]? = some (cA, .object C)) (hi : i < n) (hn : n < 2 ^ 31) (hdg : decode cc pc = .ok (.aaload, 1))
    (kk : W p l e R s m args below meth c H locs cells slots Q (F0 m (pc + 1) ls (va_rf (f i) :: rest))) : W p l e R s m args below meth c H locs cells slots Q (F0 m pc ls (.int (nI i) :: .ref a :: rest)) := by
  refine va_aldq (D := hD G) (cl := vwCl) X.1 X.2.1 X.2.2.2.2.2.2.2.1 (Y.1.get he) 0 t0 rfl ht (vp_in_nI hi hn) hdg ?_
  rw [nI_clamp (Nat.lt_trans hi hn)]
  exact kk
theorem h_alen (X : hCX G p s m args meth c cc maxL ret own nm) (Y : hHS G M s H locs) (t0 : Nat) {ty : FieldType} {z : (Nat → Int32) ⊕ (Nat → Int64) ⊕ (Nat → UInt32) ⊕ (Nat → UInt64) ⊕ (Nat → Option Nat)} (he : M a = some (t, .inl (cA, n, z))) (ht : (hTys (hT G))[t0]? = some (cA, ty)) (hdg : decode cc pc = .ok (.arraylength, 1))
    (kk : W p l e R s m args below meth c H locs cells slots Q (F0 m (pc + 1) ls (.int (nI n) :: rest))) : W p l e R s m args below meth c H locs cells slots Q (F0 m pc ls (.ref a :: rest)) :=
  va_alen (D := hD G) (cl := vwCl) X.1 X.2.1 X.2.2.2.2.2.2.2.1 (Y.1.get he) 0 t0 rfl ht rfl hdg kk
theorem h_iast (X : hCX G p s m args meth c cc maxL ret own nm) (Y : hHS G M s H locs) {f : Nat → Int32} {i : Nat} {x : Int32} (he : M a = some (t, .inl (hT G 0, n, .inl f))) (hi : i < n) (hn : n < 2 ^ 31) (hdg : decode cc pc = .ok (.iastore, 1))
    (kk : ∀ (H1 : Heap) (locs1 : List Loc), hHS G (hup M a (t, .inl (hT G 0, n, .inl (upd f i x)))) s H1 locs1 → W p l e R s m args below meth c H1 locs1 cells slots Q (F0 m (pc + 1) ls rest)) : W p l e R s m args below meth c H locs cells slots Q (F0 m pc ls (.int x :: .int (nI i) :: .ref a :: rest)) := by
  have hh : H[a]? = some (vp_cell (hT G 0) (n, .inl f)) := (Y.1 a t _ he).2
  refine W.iast X.1 X.2.1 hh ((X.2.2.2.2.2.2.2.1.2 0 _ rfl).1 n (fun j => .int (f j))) (fun q => by cases q) (by show ¬ (nI i < 0 ∨ (arrV _ _ _).slots.size ≤ _); rw [arrV_size]; exact vp_in_nI hi hn) rfl rfl hdg fun H1 e1 z oq => ?_
  rw [nI_clamp (Nat.lt_trans hi hn)] at e1 ⊢
  refine kk H1 _ (hHS.put X Y he ?_ z oq)
  show H1[a]? = some (vp_cell _ _)
  rw [e1, vp_cell_i, vp_cell_i, arrV_store]
  congr 2
  funext q
  by_cases hq : q = i
  · subst hq
    simp [updV, upd]
  · simp [updV, upd, hq]
theorem h_last (X : hCX G p s m args meth c cc maxL ret own nm) (Y : hHS G M s H locs) {f : Nat → Int64} {i : Nat} {x : Int64} (he : M a = some (t, .inl (hT G 2, n, .inr (.inl f)))) (hi : i < n) (hn : n < 2 ^ 31) (hdg : decode cc pc = .ok (.lastore, 1))
    (kk : ∀ (H1 : Heap) (locs1 : List Loc), hHS G (hup M a (t, .inl (hT G 2, n, .inr (.inl (vp_updL f i x))))) s H1 locs1 → W p l e R s m args below meth c H1 locs1 cells slots Q (F0 m (pc + 1) ls rest)) : W p l e R s m args below meth c H locs cells slots Q (F0 m pc ls (.long x :: .int (nI i) :: .ref a :: rest)) := by
  have hh : H[a]? = some (vp_cell (hT G 2) (n, .inr (.inl f))) := (Y.1 a t _ he).2
  refine W.last X.1 X.2.1 hh ((X.2.2.2.2.2.2.2.1.2 2 _ rfl).1 n (fun j => .long (f j))) (fun q => by cases q) (by show ¬ (nI i < 0 ∨ (arrV _ _ _).slots.size ≤ _); rw [arrV_size]; exact vp_in_nI hi hn) rfl rfl hdg fun H1 e1 z oq => ?_
  rw [nI_clamp (Nat.lt_trans hi hn)] at e1 ⊢
  refine kk H1 _ (hHS.put X Y he ?_ z oq)
  show H1[a]? = some (vp_cell _ _)
  rw [e1, vp_cell_l, vp_cell_l, arrV_store]
  congr 2
  funext q
  by_cases hq : q = i
  · subst hq
    simp [updV, vp_updL]
  · simp [updV, vp_updL, hq]
/-- the ends -/
theorem h_ret (X : hCX G p s m args meth c cc maxL ret own nm) (Y : hHS G M s H locs) {post : Option Value → hM → Prop} {v : Option Value} (hp : post v M) : (∀ t : State, t.heap = H → s.WarmedH t.vm → hQ G post args s (.returned v) t) ∧ ∀ q ∈ locs, hA G q.base :=
  ⟨fun t ht _ => ⟨⟨v, M, rfl, hp, by rw [ht]; exact Y.1⟩, Y.2.F ht⟩, Y.2.2.2⟩
theorem h_iret {mc ms : Nat} (X : hCX G p s m args meth c cc maxL (some .int) own nm) (Y : hHS G M s H locs) {post : Option Value → hM → Prop} {v : Int32} (hp : post (some (.int v)) M) (h1 : cells ≤ mc) (h2 : slots ≤ ms) (hdg : decode cc pc = .ok (.ireturn, 1)) : W p l e R s m args below meth c H locs cells slots (MQ below (hQ G post) args s mc ms (hA G)) (F0 m pc ls [.int v]) :=
  W.widen h1 h2 (W.iret X.1 X.2.1 X.2.2.1 (h_ret X Y hp).1 (h_ret X Y hp).2 hdg X.2.2.2.2.2.2.1)
theorem h_zret {mc ms : Nat} {ty : FieldType} (X : hCX G p s m args meth c cc maxL (some ty) own nm) (Y : hHS G M s H locs) {post : Option Value → hM → Prop} {v : Int32} (hn : narrow ty (.int v) = .int v) (hp : post (some (.int v)) M) (h1 : cells ≤ mc) (h2 : slots ≤ ms) (hdg : decode cc pc = .ok (.ireturn, 1)) : W p l e R s m args below meth c H locs cells slots (MQ below (hQ G post) args s mc ms (hA G)) (F0 m pc ls [.int v]) :=
  W.widen h1 h2 (W.zret X.1 X.2.1 X.2.2.1 hn (h_ret X Y hp).1 (h_ret X Y hp).2 hdg X.2.2.2.2.2.2.1)
theorem h_lret {mc ms : Nat} (X : hCX G p s m args meth c cc maxL (some .long) own nm) (Y : hHS G M s H locs) {post : Option Value → hM → Prop} {v : Int64} (hp : post (some (.long v)) M) (h1 : cells ≤ mc) (h2 : slots ≤ ms) (hdg : decode cc pc = .ok (.lreturn, 1)) : W p l e R s m args below meth c H locs cells slots (MQ below (hQ G post) args s mc ms (hA G)) (F0 m pc ls [.long v]) :=
  W.widen h1 h2 (W.lret X.1 X.2.1 X.2.2.1 (h_ret X Y hp).1 (h_ret X Y hp).2 hdg X.2.2.2.2.2.2.1)
theorem h_vret {mc ms : Nat} (X : hCX G p s m args meth c cc maxL none own nm) (Y : hHS G M s H locs) {post : Option Value → hM → Prop} (hp : post none M) (h1 : cells ≤ mc) (h2 : slots ≤ ms) (hdg : decode cc pc = .ok (.return_, 1)) : W p l e R s m args below meth c H locs cells slots (MQ below (hQ G post) args s mc ms (hA G)) (F0 m pc ls []) :=
  W.widen h1 h2 (W.vret X.1 X.2.1 X.2.2.1 (h_ret X Y hp).1 (h_ret X Y hp).2 hdg X.2.2.2.2.2.2.1)
theorem h_aret {mc ms : Nat} {rt : FieldType} (X : hCX G p s m args meth c cc maxL (some rt) own nm) (Y : hHS G M s H locs) {post : Option Value → hM → Prop} {v : Option Nat} (hrt : (∃ n, rt = .object n) ∨ ∃ t, rt = .array t) (hp : post (some (va_rf v)) M) (h1 : cells ≤ mc) (h2 : slots ≤ ms) (hdg : decode cc pc = .ok (.areturn, 1)) : W p l e R s m args below meth c H locs cells slots (MQ below (hQ G post) args s mc ms (hA G)) (F0 m pc ls [va_rf v]) :=
  W.widen h1 h2 (W.aret X.1 X.2.1 X.2.2.1 hrt (va_rf_or v) (h_ret X Y hp).1 (h_ret X Y hp).2 hdg X.2.2.2.2.2.2.1)
theorem h_pre {as : List Value} (X : hCX G p s m args meth c cc maxL ret own nm) (Y : hHS G M s H locs) : ∀ U : State, U.heap = H → s.WarmedH U.vm → hPc G M as as.toArray U :=
  fun U hU1 hW => ⟨rfl, X.2.2.2.2.2.2.2.2.1, X.2.2.2.2.2.2.2.2.2.1.step Y.2 hU1 hW, by rw [hU1]; exact Y.1⟩
theorem h_after {mc ms : Nat} {post : Option Value → hM → Prop} {ar : Array Value} {st0 : List Value} (Y : hHS G M s H locs) (hr : va_Run p l e R s m args below meth c H locs cells slots mc ms (F0 m pc ls st0) rest (hQ G post ar) (hA G))
    (kk : ∀ (v : Option Value) (M1 : hM) (H1 : Heap) (locs1 : List Loc), post v M1 → hHS G M1 s H1 locs1 → W p l e R s m args below meth c H1 locs1 (cells + mc) (slots + ms) Q (F0 m (pc + 3) ls (v.toList ++ rest))) : W p l e R s m args below meth c H locs cells slots Q (F0 m pc ls st0) := by
  intro T hT X
  obtain ⟨v, st₀, t, T', L, h0, X', hL, e1, e2, ⟨⟨v', M1, hv, hp, hh⟩, hz, hk⟩, st⟩ := hr T hT X
  cases hv
  rw [h0] at hz hk
  obtain ⟨t2, a1, b1⟩ := kk v M1 T'.heap (locs ++ L) hp ⟨by rw [e1]; exact hh, Nat.le_trans Y.2.1 (by rw [e1]; exact hz), fun q h1 h2 => by rw [e1, hk q (Nat.lt_of_lt_of_le h1 Y.2.1) h2]; exact Y.2.2.1 q h1 h2, fun q hq => by
      rcases List.mem_append.mp hq with h | h
      · exact Y.2.2.2 q h
      · exact hL q h⟩ T' rfl X'
  exact ⟨t2, st t2 a1, b1⟩
theorem h_after5 {mc ms : Nat} {post : Option Value → hM → Prop} {ar : Array Value} {st0 : List Value} (Y : hHS G M s H locs) (hr : va_Run5 p l e R s m args below meth c H locs cells slots mc ms (F0 m pc ls st0) rest (hQ G post ar) (hA G))
    (kk : ∀ (v : Option Value) (M1 : hM) (H1 : Heap) (locs1 : List Loc), post v M1 → hHS G M1 s H1 locs1 → W p l e R s m args below meth c H1 locs1 (cells + mc) (slots + ms) Q (F0 m (pc + 5) ls (v.toList ++ rest))) : W p l e R s m args below meth c H locs cells slots Q (F0 m pc ls st0) := by
  intro T hT X
  obtain ⟨v, st₀, t, T', L, h0, X', hL, e1, e2, ⟨⟨v', M1, hv, hp, hh⟩, hz, hk⟩, st⟩ := hr T hT X
  cases hv
  rw [h0] at hz hk
  obtain ⟨t2, a1, b1⟩ := kk v M1 T'.heap (locs ++ L) hp ⟨by rw [e1]; exact hh, Nat.le_trans Y.2.1 (by rw [e1]; exact hz), fun q h1 h2 => by rw [e1, hk q (Nat.lt_of_lt_of_le h1 Y.2.1) h2]; exact Y.2.2.1 q h1 h2, fun q hq => by
      rcases List.mem_append.mp hq with h | h
      · exact Y.2.2.2 q h
      · exact hL q h⟩ T' rfl X'
  exact ⟨t2, st t2 a1, b1⟩
theorem h_recv (X : hCX G p s m args meth c cc maxL ret own nm) (Y : hHS G M s H locs) {fs : List Value} {r : vw_C} (he : M a = some (t, .inr (ci, fs))) (hcl : vwCl[ci]? = some r) : ∃ cellB : Cell, H[a]? = some cellB ∧ cellB.vm.isStatics = false ∧ s.vm.findClass r.1 = some cellB.cls :=
  va_recv X.2.2.2.2.2.2.2.1 (Y.1.get he) hcl (q0 := 0) rfl
/-- a call of an instance method on an object of the map -/
theorem h_callV {y : MethodName} {cc' : ByteArray} {maxL' k : Nat} {ret' : Option FieldType} {rm : Room} {post : Option Value → hM → Prop} {C : String} {As st0 : List Value} {fs : List Value} {r : vw_C} (X : hCX G p s m args meth c cc maxL ret own nm) (Y : hHS G M s H locs) (hCt : hCT l G y cc' maxL' ret' rm M (.ref a :: As) post) (hg : GoodIn hGW (wsV own index C y (Cond.code y cc' maxL' ret' :: hGW)))
    (hd : y.cls = C ∧ y.cls ≠ "java/lang/invoke/MethodHandle" ∧ y.cls ≠ "java/lang/invoke/VarHandle" ∧ (parseMethodDescriptor y.desc).map (fun d => d.parameters.length) = some k) (he : M a = some (t, .inr (ci, fs))) (hcl : vwCl[ci]? = some r) (hrC : r.1 = C) (hk : As.length = k) (hls : ls.size = maxL) (hst : st0 = As.reverse ++ .ref a :: rest) (hw : (rest.map fun v => v.category).sum ≤ 8)
    (hR : rm.frames + 1 ≤ R.frames ∧ 8 + (maxL' + 11) + rm.locals ≤ R.locals) (hf : cells + rm.cells ≤ R.cells ∧ slots + rm.slots ≤ R.slots) (hdg : decode cc pc = .ok (.invokevirtual index, 3))
    (kk : ∀ (v : Option Value) (M1 : hM) (H1 : Heap) (locs1 : List Loc), post v M1 → hHS G M1 s H1 locs1 → W p l e R s m args below meth c H1 locs1 (cells + rm.cells) (slots + rm.slots) Q (F0 m (pc + 3) ls (v.toList ++ rest))) : W p l e R s m args below meth c H locs cells slots Q (F0 m pc ls st0) :=
  h_after Y (va_runV (As := As) (rest := rest) (b := a) (n := k) (C := C) ⟨X.1, X.2.1, X.2.2.2.1, X.2.2.2.2.1, X.2.2.2.2.2.1⟩ hCt (cwV k X.2.2.2.2.2.1 hg rfl rfl rfl hd hR) ⟨hPc.blind, by rw [← hrC]; exact h_recv X Y he hcl, h_pre X Y⟩ rfl hk hls hst (lv_room hw) hdg hf) kk
theorem h_callS {y : MethodName} {cc' : ByteArray} {maxL' k : Nat} {ret' : Option FieldType} {rm : Room} {post : Option Value → hM → Prop} {As st0 : List Value} (X : hCX G p s m args meth c cc maxL ret own nm) (Y : hHS G M s H locs) (hCt : hCT l G y cc' maxL' ret' rm M As post) (hg : GoodIn hGW (va_wsS own index y (Cond.code y cc' maxL' ret' :: hGW)))
    (hd : y.cls ≠ "java/lang/invoke/MethodHandle" ∧ y.cls ≠ "java/lang/invoke/VarHandle" ∧ (parseMethodDescriptor y.desc).map (fun d => d.parameters.length) = some k) (hk : As.length = k) (hls : ls.size = maxL) (hst : st0 = As.reverse ++ rest) (hw : (rest.map fun v => v.category).sum ≤ 8)
    (hR : rm.frames + 1 ≤ R.frames ∧ 8 + (maxL' + 11) + rm.locals ≤ R.locals) (hf : cells + rm.cells ≤ R.cells ∧ slots + rm.slots ≤ R.slots) (hdg : decode cc pc = .ok (.invokestatic index, 3))
    (kk : ∀ (v : Option Value) (M1 : hM) (H1 : Heap) (locs1 : List Loc), post v M1 → hHS G M1 s H1 locs1 → W p l e R s m args below meth c H1 locs1 (cells + rm.cells) (slots + rm.slots) Q (F0 m (pc + 3) ls (v.toList ++ rest))) : W p l e R s m args below meth c H locs cells slots Q (F0 m pc ls st0) :=
  h_after Y (va_runS (As := As) (rest := rest) (n := k) ⟨X.1, X.2.1, X.2.2.2.1, X.2.2.2.2.1, X.2.2.2.2.2.1⟩ hCt (va_cwS k X.2.2.2.2.2.1 hg rfl rfl rfl hd hR) ⟨hPc.blind, h_pre X Y⟩ rfl hk hls hst (lv_room hw) hdg hf) kk
/-- what a call that only reads says: its answer; the map is the same -/
def hRd (M : hM) (v0 : Value) : Option Value → hM → Prop := fun v M' => v = some v0 ∧ M' = M
theorem h_callVr {y : MethodName} {cc' : ByteArray} {maxL' k : Nat} {ret' : Option FieldType} {rm : Room} {v0 : Value} {C : String} {As st0 : List Value} {fs : List Value} {r : vw_C} (X : hCX G p s m args meth c cc maxL ret own nm) (Y : hHS G M s H locs) (hCt : hCT l G y cc' maxL' ret' rm M (.ref a :: As) (hRd M v0)) (hrc : rm.cells = 0) (hrs : rm.slots = 0) (hg : GoodIn hGW (wsV own index C y (Cond.code y cc' maxL' ret' :: hGW)))
    (hd : y.cls = C ∧ y.cls ≠ "java/lang/invoke/MethodHandle" ∧ y.cls ≠ "java/lang/invoke/VarHandle" ∧ (parseMethodDescriptor y.desc).map (fun d => d.parameters.length) = some k) (he : M a = some (t, .inr (ci, fs))) (hcl : vwCl[ci]? = some r) (hrC : r.1 = C) (hk : As.length = k) (hst : st0 = As.reverse ++ .ref a :: rest) (hls : ls.size = maxL) (hw : (rest.map fun v => v.category).sum ≤ 8)
    (hR : rm.frames + 1 ≤ R.frames ∧ 8 + (maxL' + 11) + rm.locals ≤ R.locals) (hf : cells ≤ R.cells ∧ slots ≤ R.slots) (hdg : decode cc pc = .ok (.invokevirtual index, 3))
    (kk : ∀ (H1 : Heap) (locs1 : List Loc), hHS G M s H1 locs1 → W p l e R s m args below meth c H1 locs1 cells slots Q (F0 m (pc + 3) ls (v0 :: rest))) : W p l e R s m args below meth c H locs cells slots Q (F0 m pc ls st0) := by
  refine h_callV X Y hCt hg hd he hcl hrC hk hls hst hw hR (by rw [hrc, hrs]; exact hf) hdg ?_
  rintro _ M1 H1 locs1 ⟨rfl, rfl⟩ Y1
  rw [hrc, hrs]
  exact kk H1 locs1 Y1
theorem h_callSr {y : MethodName} {cc' : ByteArray} {maxL' k : Nat} {ret' : Option FieldType} {rm : Room} {v0 : Value} {As st0 : List Value} (X : hCX G p s m args meth c cc maxL ret own nm) (Y : hHS G M s H locs) (hCt : hCT l G y cc' maxL' ret' rm M As (hRd M v0)) (hrc : rm.cells = 0) (hrs : rm.slots = 0) (hg : GoodIn hGW (va_wsS own index y (Cond.code y cc' maxL' ret' :: hGW)))
    (hd : y.cls ≠ "java/lang/invoke/MethodHandle" ∧ y.cls ≠ "java/lang/invoke/VarHandle" ∧ (parseMethodDescriptor y.desc).map (fun d => d.parameters.length) = some k) (hk : As.length = k) (hst : st0 = As.reverse ++ rest) (hls : ls.size = maxL) (hw : (rest.map fun v => v.category).sum ≤ 8)
    (hR : rm.frames + 1 ≤ R.frames ∧ 8 + (maxL' + 11) + rm.locals ≤ R.locals) (hf : cells ≤ R.cells ∧ slots ≤ R.slots) (hdg : decode cc pc = .ok (.invokestatic index, 3))
    (kk : ∀ (H1 : Heap) (locs1 : List Loc), hHS G M s H1 locs1 → W p l e R s m args below meth c H1 locs1 cells slots Q (F0 m (pc + 3) ls (v0 :: rest))) : W p l e R s m args below meth c H locs cells slots Q (F0 m pc ls st0) := by
  refine h_callS X Y hCt hg hd hk hls hst hw hR (by rw [hrc, hrs]; exact hf) hdg ?_
  rintro _ M1 H1 locs1 ⟨rfl, rfl⟩ Y1
  rw [hrc, hrs]
  exact kk H1 locs1 Y1
/-- through an interface, on an object of the map -/
theorem h_callF {x y : MethodName} {cc' : ByteArray} {maxL' k count : Nat} {ret' : Option FieldType} {rm : Room} {post : Option Value → hM → Prop} {C : String} {As st0 : List Value} {fs : List Value} {r : vw_C} (X : hCX G p s m args meth c cc maxL ret own nm) (Y : hHS G M s H locs) (hCt : hCT l G y cc' maxL' ret' rm M (.ref a :: As) post) (hF : va_Fw C x y s) (hg : GoodIn hGW (va_wsF own index C x y (Cond.code y cc' maxL' ret' :: hGW)))
    (hd : x.cls ≠ "java/lang/invoke/MethodHandle" ∧ x.cls ≠ "java/lang/invoke/VarHandle" ∧ (parseMethodDescriptor x.desc).map (fun d => d.parameters.length) = some k) (he : M a = some (t, .inr (ci, fs))) (hcl : vwCl[ci]? = some r) (hrC : r.1 = C) (hk : As.length = k) (hls : ls.size = maxL) (hst : st0 = As.reverse ++ .ref a :: rest) (hw : (rest.map fun v => v.category).sum ≤ 8)
    (hR : rm.frames + 1 ≤ R.frames ∧ 8 + (maxL' + 11) + rm.locals ≤ R.locals) (hf : cells + rm.cells ≤ R.cells ∧ slots + rm.slots ≤ R.slots) (hdg : decode cc pc = .ok (.invokeinterface index count, 5))
    (kk : ∀ (v : Option Value) (M1 : hM) (H1 : Heap) (locs1 : List Loc), post v M1 → hHS G M1 s H1 locs1 → W p l e R s m args below meth c H1 locs1 (cells + rm.cells) (slots + rm.slots) Q (F0 m (pc + 5) ls (v.toList ++ rest))) : W p l e R s m args below meth c H locs cells slots Q (F0 m pc ls st0) := by
  subst hrC
  exact h_after5 Y (va_runF (As := As) (rest := rest) (b := a) (n := k) (C := r.1) (X.2.2.2.2.2.2.2.1.1 ci r hcl).2 ⟨X.1, X.2.1, X.2.2.2.1, X.2.2.2.2.1, X.2.2.2.2.2.1⟩ hCt (va_cwF k X.2.2.2.2.2.1 hg rfl rfl rfl hF hd hR) ⟨hPc.blind, h_recv X Y he hcl, h_pre X Y⟩ rfl hk hls hst (lv_room hw) hdg hf) kk
theorem h_callFr {x y : MethodName} {cc' : ByteArray} {maxL' k count : Nat} {ret' : Option FieldType} {rm : Room} {v0 : Value} {C : String} {As st0 : List Value} {fs : List Value} {r : vw_C} (X : hCX G p s m args meth c cc maxL ret own nm) (Y : hHS G M s H locs) (hCt : hCT l G y cc' maxL' ret' rm M (.ref a :: As) (hRd M v0)) (hrc : rm.cells = 0) (hrs : rm.slots = 0) (hF : va_Fw C x y s) (hg : GoodIn hGW (va_wsF own index C x y (Cond.code y cc' maxL' ret' :: hGW)))
    (hd : x.cls ≠ "java/lang/invoke/MethodHandle" ∧ x.cls ≠ "java/lang/invoke/VarHandle" ∧ (parseMethodDescriptor x.desc).map (fun d => d.parameters.length) = some k) (he : M a = some (t, .inr (ci, fs))) (hcl : vwCl[ci]? = some r) (hrC : r.1 = C) (hk : As.length = k) (hst : st0 = As.reverse ++ .ref a :: rest) (hls : ls.size = maxL) (hw : (rest.map fun v => v.category).sum ≤ 8)
    (hR : rm.frames + 1 ≤ R.frames ∧ 8 + (maxL' + 11) + rm.locals ≤ R.locals) (hf : cells ≤ R.cells ∧ slots ≤ R.slots) (hdg : decode cc pc = .ok (.invokeinterface index count, 5))
    (kk : ∀ (H1 : Heap) (locs1 : List Loc), hHS G M s H1 locs1 → W p l e R s m args below meth c H1 locs1 cells slots Q (F0 m (pc + 5) ls (v0 :: rest))) : W p l e R s m args below meth c H locs cells slots Q (F0 m pc ls st0) := by
  refine h_callF X Y hCt hF hg hd he hcl hrC hk hls hst hw hR (by rw [hrc, hrs]; exact hf) hdg ?_
  rintro _ M1 H1 locs1 ⟨rfl, rfl⟩ Y1
  rw [hrc, hrs]
  exact kk H1 locs1 Y1
/-- a cast to the object's own class -/
theorem h_cast (X : hCX G p s m args meth c cc maxL ret own nm) (Y : hHS G M s H locs) {fs : List Value} {r : vw_C} {C : String} (he : M a = some (t, .inr (ci, fs))) (hcl : vwCl[ci]? = some r) (hrC : r.1 = C) (hlink : Cond.classLink own index C ∈ hGW) (hdg : decode cc pc = .ok (.checkcast index, 3))
    (kk : W p l e R s m args below meth c H locs cells slots Q (F0 m (pc + 3) ls (.ref a :: rest))) : W p l e R s m args below meth c H locs cells slots Q (F0 m pc ls (.ref a :: rest)) := by
  subst hrC
  exact va_castS X.1 X.2.1 X.2.2.2.2.1 (X.2.2.2.2.2.1 _ hlink) (X.2.2.2.2.2.2.2.1.1 ci r hcl).2 (h_recv X Y he hcl) hdg kk
theorem h_mmax (X : hCX G p s m args meth c cc maxL ret own nm) (hlink : Cond.methodLink own index Lib.Math.max.name ∈ hGW) (hls : ls.size = maxL) (hfr : 1 ≤ R.frames) (hlo : (rest.map fun v => v.category).sum + 13 ≤ R.locals) (hf : cells ≤ R.cells ∧ slots ≤ R.slots) {x y : Int32} (hdg : decode cc pc = .ok (.invokestatic index, 3))
    (kk : W p l e R s m args below meth c H locs cells slots Q (F0 m (pc + 3) ls (.int (sMax x y) :: rest))) : W p l e R s m args below meth c H locs cells slots Q (F0 m pc ls (.int y :: .int x :: rest)) :=
  va_mmax X.1 X.2.1 (X.2.2.2.1.trans hls.symm) X.2.2.2.2.1 (X.2.2.2.2.2.1 _ hlink) (X.2.2.2.2.2.1 _ kst_max) (X.2.2.2.2.2.1 _ kini_J9) (X.2.2.2.2.2.1 _ kco_max) hfr hlo hf.1 hf.2 hdg kk
theorem h_mmin (X : hCX G p s m args meth c cc maxL ret own nm) (hlink : Cond.methodLink own index Lib.Math.min.name ∈ hGW) (hls : ls.size = maxL) (hfr : 1 ≤ R.frames) (hlo : (rest.map fun v => v.category).sum + 13 ≤ R.locals) (hf : cells ≤ R.cells ∧ slots ≤ R.slots) {x y : Int32} (hdg : decode cc pc = .ok (.invokestatic index, 3))
    (kk : W p l e R s m args below meth c H locs cells slots Q (F0 m (pc + 3) ls (.int (sMin x y) :: rest))) : W p l e R s m args below meth c H locs cells slots Q (F0 m pc ls (.int y :: .int x :: rest)) :=
  va_mmin X.1 X.2.1 (X.2.2.2.1.trans hls.symm) X.2.2.2.2.1 (X.2.2.2.2.2.1 _ hlink) (X.2.2.2.2.2.1 _ kst_min) (X.2.2.2.2.2.1 _ kini_J9) (X.2.2.2.2.2.1 _ kco_min) hfr hlo hf.1 hf.2 hdg kk
theorem h_mmaxL (X : hCX G p s m args meth c cc maxL ret own nm) (hlink : Cond.methodLink own index Lib.MathLoose.max_long.x ∈ hGW) (hls : ls.size = maxL) (hfr : 1 ≤ R.frames) (hlo : (rest.map fun v => v.category).sum + 15 ≤ R.locals) (hf : cells ≤ R.cells ∧ slots ≤ R.slots) {x y : Int64} (hdg : decode cc pc = .ok (.invokestatic index, 3))
    (kk : W p l e R s m args below meth c H locs cells slots Q (F0 m (pc + 3) ls (.long (sMaxL x y) :: rest))) : W p l e R s m args below meth c H locs cells slots Q (F0 m pc ls (.long y :: .long x :: rest)) :=
  va_mmax_long X.1 X.2.1 (X.2.2.2.1.trans hls.symm) X.2.2.2.2.1 (X.2.2.2.2.2.1 _ hlink) (X.2.2.2.2.2.1 _ kst_maxL) (X.2.2.2.2.2.1 _ kini_J9) (X.2.2.2.2.2.1 _ kco_maxL) hfr hlo hf.1 hf.2 hdg kk
theorem h_mminL (X : hCX G p s m args meth c cc maxL ret own nm) (hlink : Cond.methodLink own index Lib.MathLoose.min_long.x ∈ hGW) (hls : ls.size = maxL) (hfr : 1 ≤ R.frames) (hlo : (rest.map fun v => v.category).sum + 15 ≤ R.locals) (hf : cells ≤ R.cells ∧ slots ≤ R.slots) {x y : Int64} (hdg : decode cc pc = .ok (.invokestatic index, 3))
    (kk : W p l e R s m args below meth c H locs cells slots Q (F0 m (pc + 3) ls (.long (sMinL x y) :: rest))) : W p l e R s m args below meth c H locs cells slots Q (F0 m pc ls (.long y :: .long x :: rest)) :=
  va_mmin_long X.1 X.2.1 (X.2.2.2.1.trans hls.symm) X.2.2.2.2.1 (X.2.2.2.2.2.1 _ hlink) (X.2.2.2.2.2.1 _ kst_minL) (X.2.2.2.2.2.1 _ kini_J9) (X.2.2.2.2.2.1 _ kco_minL) hfr hlo hf.1 hf.2 hdg kk
/-- a row of rows of ints -/
theorem h_aaldI (X : hCX G p s m args meth c cc maxL ret own nm) (Y : hHS G M s H locs) {f : Nat → Option Nat} {i : Nat} (he : M a = some (t, .inl (hT G 5, n, .inr (.inr (.inr (.inr f)))))) (hi : i < n) (hn : n < 2 ^ 31) (hdg : decode cc pc = .ok (.aaload, 1))
    (kk : W p l e R s m args below meth c H locs cells slots Q (F0 m (pc + 1) ls (va_rf (f i) :: rest))) : W p l e R s m args below meth c H locs cells slots Q (F0 m pc ls (.int (nI i) :: .ref a :: rest)) := by
  have hin := vp_in_nI hi hn
  have hh : H[a]? = some (vp_cell (hT G 5) (n, .inr (.inr (.inr (.inr f))))) := (Y.1 a t _ he).2
  refine W.aald (v := va_rf (f i)) (ty := .array .int) X.1 X.2.1 hh ((X.2.2.2.2.2.2.2.1.2 5 _ rfl).1 n (fun j => va_rf (f j))) rfl (fun q => by cases q) (by show ¬ (nI i < 0 ∨ (arrV _ _ _).slots.size ≤ _); rw [arrV_size]; exact hin) (by show (arrV _ _ _).slots[_]? = _; rw [nI_clamp (Nat.lt_trans hi hn), arrV_read _ _ hi]) rfl rfl hdg kk
end HROWS
