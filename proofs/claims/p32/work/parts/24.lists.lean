-- ARRAYLIST, WRITTEN
theorem t_nat : Cond.native ⟨"java/lang/System", "arraycopy", "(Ljava/lang/Object;ILjava/lang/Object;II)V"⟩ ∈ hGW := hgw 1180 (by decide +kernel) (by decide +kernel)
theorem t_natg : Cond.native ⟨"java/lang/Object", "getClass", "()Ljava/lang/Class;"⟩ ∈ hGW := hgw 1170 (by decide +kernel) (by decide +kernel)
theorem t_dec {G : hG} {s : State} (hs : hSt G) (hr : hR G s) : va_Dc s := va_Dc.moved hr.1.alike (va_Dc.of (hW0 hs 1601 (by decide +kernel)))
theorem t_ao {G : hG} {s : State} (hs : hSt G) (hr : hR G s) : va_AO "java/lang/Object" s := va_AO.moved hr.1.alike (va_AO.of (hW0 hs 1175 (by decide +kernel)))
theorem t_aoS {G : hG} {s : State} (hs : hSt G) (hr : hR G s) : va_AO "LossHouse$Sign" s := va_AO.moved hr.1.alike (va_AO.of (hW0 hs 122 (by decide +kernel)))
theorem t_aoT {G : hG} {s : State} (hs : hSt G) (hr : hR G s) : va_AO "LossHouse$Triangle" s := va_AO.moved hr.1.alike (va_AO.of (hW0 hs 245 (by decide +kernel)))
theorem t_mi {G : hG} (hs : hSt G) : ∃ mi : Nat, va_Mi "[Ljava/lang/Object;" mi (hU G) := va_Mi.of (hN hs 507 (by decide +kernel))
/-- objects of the class numbered cv may go into a row of Object -/
def tCa (cv : Nat) : Prop := ∃ (r : vw_C) (k : Nat), vwCl[cv]? = some r ∧ lw_tbl[k]? = some (Cond.castable r.1 "java/lang/Object")
theorem tCa.at {cv : Nat} (h : tCa cv) {G : hG} {s : State} (hs : hSt G) (hr : hR G s) : ∃ r : vw_C, vwCl[cv]? = some r ∧ va_Nw (.castable r.1 "java/lang/Object") s := by
  obtain ⟨r, k, h1, h2⟩ := h
  exact ⟨r, h1, va_Nw.warmC hr.1 (va_Nw.of rfl (hW0 hs k h2))⟩
theorem tCa_claim : tCa 5 := ⟨_, 1596, rfl, by decide +kernel⟩
theorem tCa_layer : tCa 7 := ⟨_, 1595, rfl, by decide +kernel⟩
def hDE (G : hG) : Nat := had G (.static "java/util/ArrayList" "DEFAULTCAPACITY_EMPTY_ELEMENTDATA" "[Ljava/lang/Object;")
theorem hDE_T0 {G : hG} (hs : hSt G) : hev G (.static "java/util/ArrayList" "DEFAULTCAPACITY_EMPTY_ELEMENTDATA" "[Ljava/lang/Object;") = some (.ref (hDE G)) ∧ va_T (.object "java/lang/Object") (hDE G) 0 (fun _ => .null) (hA G) (hU G) (hU G).heap := by
  obtain ⟨t, ht, hT⟩ := va_Tof (ty := .object "java/lang/Object") (tm := (.static "java/util/ArrayList" "DEFAULTCAPACITY_EMPTY_ELEMENTDATA" "[Ljava/lang/Object;")) (f := fun _ => .null) (A := hA G) (N := 0) (by decide) (hN hs 9 (by decide +kernel)) (va_eqt (hN hs 11 (by decide +kernel))) (fun j hj => absurd hj (Nat.not_lt_zero j)) hlow
  have e : hDE G = t := had_of ht
  rw [e]
  exact ⟨ht, hT⟩
theorem hDE_T {G : hG} {s : State} (hs : hSt G) (hr : hR G s) : va_T (.object "java/lang/Object") (hDE G) 0 (fun _ => .null) (hA G) s s.heap := hT_at hr (hDE_T0 hs).2
theorem hDE_Z {G : hG} {s : State} (hs : hSt G) (hr : hR G s) : va_Z "java/util/ArrayList" "DEFAULTCAPACITY_EMPTY_ELEMENTDATA" "[Ljava/lang/Object;" (.ref (hDE G)) (hA G) s s.heap := hZ_at hr (va_Zof (hW0 hs 202 (by decide +kernel)) (hW0 hs 65 (by decide +kernel)) (hDE_T0 hs).1 hlow)
section LISTROWS
variable {G : hG} {p : Program} {l : Launch} {e : Env} {R : Room} {s : State} {m : MethodId} {args : Array Value} {below : List Frame} {meth : Method} {c : Code} {H : Heap} {locs : List Loc} {cells slots : Nat} {Q : State → Prop}
variable {cc : ByteArray} {maxL : Nat} {ret : Option FieldType} {own nm : String} {M : hM} {pc : Nat} {ls : Array Slot} {rest : List Value} {a t ci index n : Nat} {cA : ClassId}
theorem h_getCl {mi : Nat} {z : Nat → Option Nat} (X : hCX G p s m args meth c cc maxL ret own nm) (Y : hHS G M s H locs) (hls : ls.size = maxL) (he : M a = some (t, .inl (hT G 6, n, .inr (.inr (.inr (.inr z)))))) (hlink : Cond.methodLink own index ⟨"java/lang/Object", "getClass", "()Ljava/lang/Class;"⟩ ∈ hGW) (hM : va_Mi "[Ljava/lang/Object;" mi s) (hfr : 1 ≤ R.frames) (hlo : (rest.map fun v => v.category).sum + 14 ≤ R.locals) (hdg : decode cc pc = .ok (.invokevirtual index, 3))
    (kk : W p l e R s m args below meth c H locs cells slots Q (F0 m (pc + 3) ls (.ref mi :: rest))) : W p l e R s m args below meth c H locs cells slots Q (F0 m pc ls (.ref a :: rest)) := by
  have hts := X.2.2.2.2.2.1
  obtain ⟨-, -, -, -, -, h2⟩ := (X.2.2.2.2.2.2.2.1.2 6 (hT G 6, .object "java/lang/Object") rfl).2
  exact va_getC X.1 X.2.1 (X.2.2.2.1.trans hls.symm) X.2.2.2.2.1 (hts _ hlink) (va_Dc.use (t_dec X.2.2.2.2.2.2.2.2.1 X.2.2.2.2.2.2.2.2.2.1)) (hts _ kse_Z_Ljava_lang_Object__Zjava_lang_Object_getClass___Ljava_lang_Class__Zjava_lang_Object_getClass___Ljava_lang_Class_) (hts _ kin_Zjava_lang_Object_getClass___Ljava_lang_Class_) (hts _ t_natg) hM ⟨_, (Y.1 a t _ he).2, rfl, h2⟩ hfr hlo hdg kk
theorem h_ldcM {C : String} {mi : Nat} (X : hCX G p s m args meth c cc maxL ret own nm) (hlink : Cond.classLink own index C ∈ hGW) (hM : va_Mi C mi s) (hdg : decode cc pc = .ok (.ldc index, 2))
    (kk : W p l e R s m args below meth c H locs cells slots Q (F0 m (pc + 2) ls (.ref mi :: rest))) : W p l e R s m args below meth c H locs cells slots Q (F0 m pc ls rest) :=
  va_ldcM X.1 X.2.1 X.2.2.2.2.1 (X.2.2.2.2.2.1 _ hlink) hM hdg kk
/-- a row of objects is copied from its start on -/
theorem h_cpq {cv k n0 a0 u : Nat} {f g : Nat → Option Nat} (X : hCX G p s m args meth c cc maxL ret own nm) (Y : hHS G M s H locs) (hls : ls.size = maxL) (h0 : M a0 = some (u, .inl (hT G 6, n0, .inr (.inr (.inr (.inr f)))))) (he : M a = some (t, .inl (hT G 6, n, .inr (.inr (.inr (.inr g)))))) (hk0 : k ≤ n0) (hkn : k ≤ n) (hk : k < 2 ^ 31) (hcv : tCa cv) (hel : ∀ i : Nat, i < k → ∃ (y w : Nat) (fs : List Value), f i = some y ∧ M y = some (w, .inr (cv, fs)))
    (hlink : Cond.methodLink own index ⟨"java/lang/System", "arraycopy", "(Ljava/lang/Object;ILjava/lang/Object;II)V"⟩ ∈ hGW) (hfr : 1 ≤ R.frames) (hlo : (rest.map fun v => v.category).sum + 40 ≤ R.locals) (hdg : decode cc pc = .ok (.invokestatic index, 3))
    (kk : ∀ (H1 : Heap) (locs1 : List Loc), hHS G (hup M a (t, .inl (hT G 6, n, .inr (.inr (.inr (.inr (fun i => if i < k then f i else g i))))))) s H1 locs1 → W p l e R s m args below meth c H1 locs1 cells slots Q (F0 m (pc + 3) ls rest)) : W p l e R s m args below meth c H locs cells slots Q (F0 m pc ls (.int (nI k) :: .int 0 :: .ref a :: .int 0 :: .ref a0 :: rest)) := by
  have hts := X.2.2.2.2.2.1
  obtain ⟨r, hr1, hr2⟩ := hcv.at X.2.2.2.2.2.2.2.2.1 X.2.2.2.2.2.2.2.2.2.1
  obtain ⟨ws, hP, hDw, hw⟩ := Y.1.list
  obtain ⟨k0, hk1⟩ := hw a0 u _ h0
  obtain ⟨k1, hk2⟩ := hw a t _ he
  have hc : (nI k).toNatClampNeg = k := nI_clamp hk
  refine va_copyM (D := hD G) (cl := vwCl) X.1 X.2.1 (X.2.2.2.1.trans hls.symm) X.2.2.2.2.1 (hts _ hlink) (hts _ t_nat) (hts _ kst_Zjava_lang_System_arraycopy__Ljava_lang_Object_ILjava_lang_Object_II_V) (hts _ kini_J10) X.2.2.2.2.2.2.2.1 hP hDw Y.2 k0 k1 6 6 hk1 hk2 rfl rfl (by decide) (by decide) (nI_nn hk) (by rw [hc, show (0 : Int32).toNatClampNeg = 0 from rfl]; omega) (by rw [hc, show (0 : Int32).toNatClampNeg = 0 from rfl]; omega) (fun i hi y hy => ?_) hfr (by have hw9 : nativeFrameWords "java/lang/System" "arraycopy" 5 ≤ 20 := (by decide); omega) hdg fun H1 locs1 hP1 hD1 hS1 => ?_
  · rw [hc] at hi
    rw [show (0 : Int32).toNatClampNeg = 0 from rfl, Nat.zero_add] at hy
    obtain ⟨y', w, fs, e1, e2⟩ := hel i hi
    rw [hy] at e1
    cases e1
    obtain ⟨k3, hk3⟩ := hw y w _ e2
    refine va_rAny X.2.2.2.2.2.2.2.1 hP hk3 hr1 (fun comp c0 q1 q2 => ?_)
    obtain ⟨c1, t1, f1, f2, f3⟩ := Cond.castable_spec (va_Nw.use (A := args) rfl hr2)
    cases q1.symm.trans f2
    cases q2.symm.trans f1
    exact f3
  · refine kk H1 locs1 ⟨Y.1.wset hw he hk2 ?_, hS1⟩
    rw [hc] at hP1
    have e : (fun i => if i < k then f i else g i) = va_cpy f g (Int32.toNatClampNeg 0) (Int32.toNatClampNeg 0) k := by
      funext i
      unfold va_cpy
      rw [show (0 : Int32).toNatClampNeg = 0 from rfl]
      by_cases hi : i < k
      · rw [if_pos hi, if_pos ⟨Nat.zero_le _, by omega⟩]
        congr 1
        omega
      · rw [if_neg hi, if_neg (by omega)]
    rw [e]
    exact hP1
theorem h_putS (X : hCX G p s m args meth c cc maxL ret own nm) (Y : hHS G M s H locs) {k N : Nat} {ref : String} {fs : List Value} {C : String} {T : u_T} {ty0 : Nat → FieldType} {v : Value} (he : M a = some (t, .inr (ci, fs))) (hcl : vwCl[ci]? = some (C, T, N)) (hin : ∀ w ∈ u_ws C T N, w ∈ hGW) (hty : ∀ k, k < N → parseFieldDescriptor (T k).2.2.1 = some (ty0 k)) (hnm : ∀ a, a < N → ∀ b, b < N → a ≠ b → (T a).2.1 ≠ (T b).2.1)
    (hk : k < N) (hlink : Cond.fieldLink own index ref (T k).2.1 (T k).2.2.1 ∈ hGW) (hsame : Cond.sameField ref (T k).1 (T k).2.1 (T k).2.2.1 ∈ hGW) (hfin : (T k).2.2.2 = false) (hn : narrow (ty0 k) v = v) (hfit : fits (ty0 k) v = true) (hl : k < fs.length) (hdg : decode cc pc = .ok (.putfield index, 3))
    (kk : ∀ (H1 : Heap) (locs1 : List Loc), hHS G (hup M a (t, .inr (ci, fs.set k v))) s H1 locs1 → W p l e R s m args below meth c H1 locs1 cells slots Q (F0 m (pc + 3) ls rest)) : W p l e R s m args below meth c H locs cells slots Q (F0 m pc ls (v :: .ref a :: rest)) := by
  have hK := X.2.2.2.2.2.2.2.1
  have hts := X.2.2.2.2.2.1
  have hap := va_apart (own := own) hts hin ty0 hty hnm hK hcl
  obtain ⟨-, r, h1, cell, q1, q2, q3, q4⟩ := Y.1 a t _ he
  have hr : r = (C, T, N) := Option.some.inj (h1.symm.trans hcl)
  subst hr
  obtain ⟨hS, hfc, kC, hkC, hkind⟩ := hK.1 ci _ hcl
  obtain ⟨cf, kf, fi, f, hi, hsl⟩ := hS k hk
  have hlay := hts _ (hin _ (u_in_lay hk))
  unfold u_lay at hlay
  rw [if_neg (by rw [hfin]; decide)] at hlay
  have hst := (u_facts hfc hkC (u_lays hts hin hk) hi).1
  have h6 := u_store hfc hkC hkind hlay hi (hty k hk) hn hfit
  refine W.putK X.1 X.2.1 (f := f) ⟨X.2.2.2.2.1, hts _ hlink, ⟨_, _, _, u_same (hts _ hsame) _ hi⟩, hst⟩ (by rw [q2]; exact h6) q1 q3 (by rw [hsl]; exact k2_hasslot (q4 k hk)) rfl rfl hdg fun H' e1 e2 e3 => ?_
  rw [hsl] at e1 ⊢
  exact kk H' _ (hHS.put X Y he ⟨_, hcl, t_OB.to (V := updV (vp_V fs) k v) ⟨_, e1, q2, q3, t_set q4 hap hk v⟩ (fun j _ => vp_updV_set hl v j)⟩ e2 e3)
end LISTROWS
theorem kmn_X11_9 {G : hG} {s : State} (hs : hSt G) (hr : hR G s) : va_Nw (.methodLinkNest RX11 9 yX8_init "LossHouse") s := va_Nw.warmM hr.1 (va_Nw.of rfl (hW0 hs 101 (by decide +kernel)))
theorem kmn_X11_18 {G : hG} {s : State} (hs : hSt G) (hr : hR G s) : va_Nw (.methodLinkNest RX11 18 yX9_init "LossHouse") s := va_Nw.warmM hr.1 (va_Nw.of rfl (hW0 hs 117 (by decide +kernel)))
theorem kmn_X11_66 {G : hG} {s : State} (hs : hSt G) (hr : hR G s) : va_Nw (.methodLinkNest RX11 66 yX10_init "LossHouse") s := va_Nw.warmM hr.1 (va_Nw.of rfl (hW0 hs 247 (by decide +kernel)))
