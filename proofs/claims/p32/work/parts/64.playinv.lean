-- WHAT THE LAW'S PLAY KEEPS OF ITS CLAIMS
/-- a method with handlers: from the map M it returns -/
def hCW (l : Launch) (G : hG) (y : MethodName) (cc : ByteArray) (maxL : Nat) (ret : Option FieldType) (hh : List (Nat × Nat × Nat × Nat)) (rm : Room) (M : hM) (as : List Value) (post : Option Value → hM → Prop) : Prop :=
  vx_Met l y (Cond.codeWith y cc maxL ret hh :: hGW) rm (hPc G M as) (hQ G post) (fun _ _ _ => False) rm.cells rm.slots (hA G)
theorem hCW.of {l : Launch} {G : hG} {y : MethodName} {cc : ByteArray} {maxL : Nat} {ret : Option FieldType} {hh : List (Nat × Nat × Nat × Nat)} {rm : Room} {M : hM} {as : List Value} {post : Option Value → hM → Prop} {own nm : String} (hy : plainName y.cls = true) (ho : y.cls = own) (hnm : y.name = nm) (hn : (lg_sl as).length ≤ maxL)
    (body : ∀ (p : Program) (e : Env) (s : State) (m : MethodId) (args : Array Value) (below : List Frame) (meth : Method) (c : Code) (ls : Array Slot), hCX G p s m args meth c cc maxL ret own nm → c.exceptionTable.toList = tableOf hh → hHS G M s s.heap [] → lv_has ls maxL (lv_args 0 as) →
      W p l e rm s m args below meth c s.heap [] 0 0 (MQ below (hQ G post) args s rm.cells rm.slots (hA G)) (F0 m 0 ls [])) : hCW l G y cc maxL ret hh rm M as post := by
  refine vx_ofWH (cc := cc) (maxL := maxL) (ret := ret) (hh := hh) hy rfl ?_
  intro p e s m args below meth c s₁ B hml hv
  obtain ⟨rfl, hst, hr, hm⟩ := hv
  have hl := lv_entry as (n := maxL) hn
  rw [lg_entry_eq]
  generalize (lg_sl as ++ List.replicate (maxL - (lg_sl as).length) Slot.unset).toArray = ls at hl ⊢
  have hw0 : (Cond.codeWith y cc maxL ret hh).before as.toArray s = true := atoms_spec (ws := Cond.codeWith y cc maxL ret hh :: hGW) B.pre _ List.mem_cons_self
  refine vx_ret (body p e s m _ below meth c ls ⟨B.exec, B.bytes, B.returns, hml, ?_, ?_, B.notSynchronized, ?_, hst, hr, ?_⟩ (vx_table (x := y) B hw0) ⟨hm, va_S.rf⟩ hl)
  · rw [← ho]; exact findClass_of_methodNamed B.named
  · intro w hw
    exact atoms_spec (ws := Cond.codeWith y cc maxL ret hh :: hGW) B.pre w (List.mem_cons_of_mem _ hw)
  · exact va_K.moved hr.1.alike hst.2.2
  · rw [← hnm]; exact (name_of_methodNamed B.named B.method).1
section CSW
variable {G : hG} {p : Program} {l : Launch} {e : Env} {R : Room} {s : State} {m : MethodId} {args : Array Value} {below : List Frame} {meth : Method} {c : Code} {H : Heap} {locs : List Loc} {cells slots : Nat} {Q : State → Prop}
variable {cc : ByteArray} {maxL : Nat} {ret : Option FieldType} {own nm : String} {M : hM} {pc : Nat} {ls : Array Slot} {rest : List Value} {a t ci index n : Nat} {cA : ClassId}
/-- a static call of a method with handlers -/
theorem h_callSW {y : MethodName} {cc' : ByteArray} {maxL' k : Nat} {ret' : Option FieldType} {hh : List (Nat × Nat × Nat × Nat)} {rm : Room} {post : Option Value → hM → Prop} {As st0 : List Value} (X : hCX G p s m args meth c cc maxL ret own nm) (Y : hHS G M s H locs) (hCt : hCW l G y cc' maxL' ret' hh rm M As post) (hg : GoodIn hGW (va_wsS own index y (Cond.codeWith y cc' maxL' ret' hh :: hGW)))
    (hd : y.cls ≠ "java/lang/invoke/MethodHandle" ∧ y.cls ≠ "java/lang/invoke/VarHandle" ∧ (parseMethodDescriptor y.desc).map (fun d => d.parameters.length) = some k) (hk : As.length = k) (hls : ls.size = maxL) (hst : st0 = As.reverse ++ rest) (hw : (rest.map fun v => v.category).sum ≤ 8)
    (hR : rm.frames + 1 ≤ R.frames ∧ 8 + (maxL' + 11) + rm.locals ≤ R.locals) (hf : cells + rm.cells ≤ R.cells ∧ slots + rm.slots ≤ R.slots) (hdg : decode cc pc = .ok (.invokestatic index, 3))
    (kk : ∀ (v : Option Value) (M1 : hM) (H1 : Heap) (locs1 : List Loc), post v M1 → hHS G M1 s H1 locs1 → W p l e R s m args below meth c H1 locs1 (cells + rm.cells) (slots + rm.slots) Q (F0 m (pc + 3) ls (v.toList ++ rest))) : W p l e R s m args below meth c H locs cells slots Q (F0 m pc ls st0) := by
  have hr := vx_runSX (As := As) (rest := rest) (n := k) (l := l) (e := e) (below := below) (locs := locs) (cells := cells) (slots := slots) (meth := meth) (g := F0 m pc ls st0) ⟨X.1, X.2.1, X.2.2.2.1, X.2.2.2.2.1, X.2.2.2.2.2.1⟩ hCt (vx_cwSW k X.2.2.2.2.2.1 hg rfl rfl rfl hd hR) ⟨hPc.blind, h_pre X Y⟩ rfl hk hls hst (lv_room hw) hdg hf
  intro T hT X0
  rcases hr T hT X0 with ⟨v, st₀, t, T', L, h0, X', hL, e1, e2, ⟨⟨v', M1, hv, hp, hh1⟩, hz, hk1⟩, st⟩ | ⟨q, st₀, t1, T', L, E, ce, h0, X', hL, e1, e2, hF, -⟩
  · cases hv
    rw [h0] at hz hk1
    obtain ⟨t2, a1, b1⟩ := kk v M1 T'.heap (locs ++ L) hp ⟨by rw [e1]; exact hh1, Nat.le_trans Y.2.1 (by rw [e1]; exact hz), fun q h1 h2 => by rw [e1, hk1 q (Nat.lt_of_lt_of_le h1 Y.2.1) h2]; exact Y.2.2.1 q h1 h2, fun q hq => by
        rcases List.mem_append.mp hq with h | h
        · exact Y.2.2.2 q h
        · exact hL q h⟩ T' rfl X'
    exact ⟨t2, st t2 a1, b1⟩
  · exact hF.elim
theorem W.wid {g : JFrame} {k n : Nat} (h1 : cells ≤ k) (h2 : slots ≤ n) (kk : W p l e R s m args below meth c H locs k n Q g) : W p l e R s m args below meth c H locs cells slots Q g := fun T hT X => kk T hT (stand_widen X h1 h2)
end CSW
theorem PV.fr9 {G : hG} {Z : Nat → Prop} {M M' : hM} {S : hSy} {h : hHo} (hf : hFr Z M M') (hz : ∀ u, Z u → 4000 ≤ u) (hP : PV G M S h) : PV G M' S h := by
  obtain ⟨⟨⟨hl13, he14, hl15, he16, hLa, hCl⟩, ⟨hN8, hM40, hLG, hCY⟩, ⟨h0, h1, h2, h3, f, h4, h5⟩, hCe, hTr, hnow, hyn⟩, hE⟩ := hP
  have nz : ∀ u, u < 4000 → ¬ Z u := fun u q1 z => by have := hz u z; omega
  refine ⟨⟨⟨hl13.fr hf (nz _ (by omega)), fun q => (he14 q).fr hf (nz _ (by omega)), hl15.fr hf (nz _ (by omega)), fun q => (he16 q).fr hf (nz _ (by omega)), fun k hk => (hLa k hk).fr hf (fun j hj => nz _ (by omega)), fun i hi => (hCl i hi).fr hf (fun j hj => nz _ (by omega))⟩, ⟨hN8, hM40, hLG, hCY⟩, ⟨hf _ _ _ h0 (nz _ (by omega)), hf _ _ _ h1 (nz _ (by omega)), hf _ _ _ h2 (nz _ (by omega)), hf _ _ _ h3 (nz _ (by omega)), f, h4, hf _ _ _ h5 (nz _ (by omega))⟩, fun cx hc => (hCe cx hc).fr hc hf (fun u q1 q2 => nz _ (by omega)) (fun u _ _ => rfl), fun j hj => (hTr j hj).fr hj hf (fun u q1 q2 => nz _ (by omega)) (fun u _ _ => rfl), hnow, hyn⟩, ?_⟩
  rcases hE with h | ⟨cap, f, e1, e2⟩
  · exact Or.inl h
  · exact Or.inr ⟨cap, f, hf _ _ _ e1 (nz _ (by omega)), e2⟩
/-- a claim as the law's play leaves it -/
def CI (C : hCl) (now : Nat) : Prop := ∃ (li p r o : Nat) (N0 N1 : Nat → Nat), clI C 0 = nI li ∧ li ≤ 5 ∧ clI C 1 = nI p ∧ p ≤ 1000000 ∧ clI C 2 = nI r ∧ r ≤ 120000 ∧ clI C 3 = nI o ∧ o ≤ 1 ∧ (o = 0 → r = 0) ∧ (∀ k, k < now - clY C → clN C 0 k = nI (N0 k) ∧ clN C 1 k = nI (N1 k) ∧ N0 k ≤ N1 k ∧ N1 k ≤ 1120000 ∧ N0 k ≤ p) ∧ ∀ k, k + 1 < now - clY C → N0 k ≤ N0 (k + 1)
theorem sMax_sub {r x : Nat} (hr : r ≤ 2000000) (hx : x ≤ 2000000) : sMax (nI r - nI x) 0 = nI (r - x) := by
  unfold sMax
  by_cases h : x ≤ r
  · rw [pk_sub h]
    exact if_neg (fun z => absurd ((nI_ltI (a := r - x) (b := 0) (by omega) (by omega)).mp z) (by omega))
  · have h1 : (nI r - nI x).toInt = (r : Int) - x := pk_sub_toInt (by omega) (by omega)
    rw [if_pos (by rw [Int32.lt_iff_toInt_lt, h1]; show _ < (0 : Int32).toInt; have : (0 : Int32).toInt = 0 := by decide
                   omega), show r - x = 0 by omega]
    rfl
theorem CI.pay {C : hCl} {now p x : Nat} (h : CI C now) (hp : clI C 1 = nI p) (hp6 : p + x ≤ 1000000) : CI (cPay C (nI x)) now := by
  obtain ⟨li, p', r, o, N0, N1, h0, h0b, h1, h1b, h2, h2b, h3, h3b, h4, h5, h6⟩ := h
  have e : p = p' := (nI_eq (by omega) (by omega)).mp (hp.symm.trans h1)
  subst e
  refine ⟨li, p + x, r - x, o, N0, N1, h0, h0b, ?_, hp6, ?_, by omega, h3, h3b, fun z => by have := h4 z; omega, fun k hk => ?_, h6⟩
  · show clI C 1 + nI x = _
    rw [h1, nI_add]
  · show sMax (clI C 2 - nI x) 0 = _
    rw [h2]
    exact sMax_sub (by omega) (by omega)
  · obtain ⟨a1, a2, a3, a4, a5⟩ := h5 k hk
    exact ⟨a1, a2, a3, a4, by omega⟩
theorem CI.set {C : hCl} {now x : Nat} (h : CI C now) (ho : clI C 3 = nI 1) (hx : x ≤ 120000) : CI (cSet C (nI x)) now := by
  obtain ⟨li, p, r, o, N0, N1, h0, h0b, h1, h1b, h2, h2b, h3, h3b, h4, h5, h6⟩ := h
  have e : o = 1 := (nI_eq (by omega) (by omega)).mp (h3.symm.trans ho)
  exact ⟨li, p, x, o, N0, N1, h0, h0b, h1, h1b, rfl, hx, h3, h3b, fun z => by omega, h5, h6⟩
theorem CI.close {C : hCl} {now : Nat} (h : CI C now) (z : Bool) : CI (cClose C z) now := by
  obtain ⟨li, p, r, o, N0, N1, h0, h0b, h1, h1b, h2, h2b, h3, h3b, h4, h5, h6⟩ := h
  cases z with
  | false => exact ⟨li, p, r, 1, N0, N1, h0, h0b, h1, h1b, h2, h2b, rfl, by omega, fun z => by omega, h5, h6⟩
  | true => exact ⟨li, p, 0, 0, N0, N1, h0, h0b, h1, h1b, rfl, by omega, rfl, by omega, fun _ => rfl, h5, h6⟩
theorem CI.year {C : hCl} {now : Nat} (h : CI C now) (hy : clY C ≤ now) : CI (cWd C now) (now + 1) := by
  obtain ⟨li, p, r, o, N0, N1, h0, h0b, h1, h1b, h2, h2b, h3, h3b, h4, h5, h6⟩ := h
  refine ⟨li, p, r, o, fun k => if k = now - clY C then p else N0 k, fun k => if k = now - clY C then p + r else N1 k, h0, h0b, h1, h1b, h2, h2b, h3, h3b, h4, fun k hk => ?_, fun k hk => ?_⟩
  · have hk : k < now + 1 - clY C := hk
    show upd (clN C 0) (now - clY C) (clI C 1) k = _ ∧ upd (clN C 1) (now - clY C) (clI C 1 + clI C 2) k = _ ∧ _
    by_cases e : k = now - clY C
    · subst e
      dsimp only
      rw [pk_us, pk_us, if_pos rfl, if_pos rfl, h1, h2, nI_add]
      exact ⟨rfl, rfl, by omega, by omega, Nat.le_refl _⟩
    · dsimp only
      rw [pk_un e, pk_un e, if_neg e, if_neg e]
      exact h5 k (by omega)
  · have hk : k + 1 < now + 1 - clY C := hk
    show (if k = now - clY C then p else N0 k) ≤ (if k + 1 = now - clY C then p else N0 (k + 1))
    rw [if_neg (by omega)]
    by_cases e : k + 1 = now - clY C
    · rw [if_pos e]; exact (h5 k (by omega)).2.2.2.2
    · rw [if_neg e]; exact h6 k (by omega)
theorem CI.new {r0 r1 y li r now : Nat} (h0 : li ≤ 5) (h1 : r ≤ 120000) : CI (cNew r0 r1 y (nI li) (nI r)) now := ⟨li, 0, r, 1, fun _ => 0, fun _ => 0, rfl, h0, rfl, by omega, rfl, h1, rfl, by omega, fun z => by omega, fun k _ => ⟨rfl, rfl, Nat.le_refl _, Nat.zero_le _, Nat.zero_le _⟩, fun k _ => Nat.le_refl _⟩
/-- the law's own row of claims, and years -/
def PlB (S : hSy) (h : hHo) (f : Nat → Int32) : Prop := f 1000 = nI (sM S) ∧ f 1001 = nI (hNow h) ∧ ∀ i, i < sM S → f (5 * i) = nI (clY (sC S i)) ∧ f (5 * i + 2) = clI (sC S i) 1 ∧ f (5 * i + 3) = clI (sC S i) 2 ∧ f (5 * i + 4) = clI (sC S i) 3
def PlI (G : hG) (M : hM) (S0 : hSy) (h0 : hHo) (S : hSy) (h : hHo) (b : Nat) (f : Nat → Int32) : Prop := PV G M S h ∧ M b = some (4800, .inl (hT G 0, 1002, .inl f)) ∧ PlB S h f ∧ (∀ i, i < sM S → CI (sC S i) (hNow h)) ∧ (sN S = sN S0 ∧ sL S = sL S0 ∧ sF S = sF S0 ∧ sA S 0 = sA S0 0) ∧ h.2 = h0.2
theorem PlI.up {G : hG} {M M' : hM} {S0 S : hSy} {h0 h : hHo} {b c : Nat} {f f' : Nat → Int32} {Cn : hCl} (I : PlI G M S0 h0 S h b f) (hc : c < sM S) (hP : PV G M' (sUp S c Cn) h) (hb : M' b = some (4800, .inl (hT G 0, 1002, .inl f'))) (hf : ∀ j, (j < 5 * c ∨ 5 * c + 5 ≤ j) → f' j = f j) (q0 : f' (5 * c) = nI (clY Cn)) (q2 : f' (5 * c + 2) = clI Cn 1) (q3 : f' (5 * c + 3) = clI Cn 2) (q4 : f' (5 * c + 4) = clI Cn 3) (hC : CI Cn (hNow h)) : PlI G M' S0 h0 (sUp S c Cn) h b f' := by
  obtain ⟨i1, i2, ⟨b0, b1, b2⟩, i4, i5, i6⟩ := I
  have h40 : sM S ≤ 40 := i1.1.2.1.2.1
  refine ⟨hP, hb, ⟨(hf _ (by omega)).trans b0, (hf _ (by omega)).trans b1, fun i hi => ?_⟩, fun i hi => ?_, i5, i6⟩
  · have hi : i < sM S := hi
    show f' (5 * i) = nI (clY (va_up (sC S) c Cn i)) ∧ f' (5 * i + 2) = clI (va_up (sC S) c Cn i) 1 ∧ f' (5 * i + 3) = clI (va_up (sC S) c Cn i) 2 ∧ f' (5 * i + 4) = clI (va_up (sC S) c Cn i) 3
    by_cases e : i = c
    · subst e
      rw [va_up_self]
      exact ⟨q0, q2, q3, q4⟩
    · rw [va_up_ne _ _ e]
      rw [hf _ (by omega), hf _ (by omega), hf _ (by omega), hf _ (by omega)]
      exact b2 i hi
  · show CI (va_up (sC S) c Cn i) (hNow h)
    by_cases e : i = c
    · subst e; rw [va_up_self]; exact hC
    · rw [va_up_ne _ _ e]; exact i4 i hi
theorem PlI.add {G : hG} {M M' : hM} {S0 S : hSy} {h0 h : hHo} {b : Nat} {f f' : Nat → Int32} {Cn : hCl} {A' : Nat → Nat} (I : PlI G M S0 h0 S h b f) (hm : sM S < 40) (hA : A' 0 = sA S 0) (hP : PV G M' (sAdd S Cn A') h) (hb : M' b = some (4800, .inl (hT G 0, 1002, .inl f'))) (hf : ∀ j, (j < 5 * sM S ∨ j = 1001) → f' j = f j) (hn : f' 1000 = nI (sM S + 1)) (q0 : f' (5 * sM S) = nI (clY Cn)) (q2 : f' (5 * sM S + 2) = clI Cn 1) (q3 : f' (5 * sM S + 3) = clI Cn 2) (q4 : f' (5 * sM S + 4) = clI Cn 3) (hC : CI Cn (hNow h)) : PlI G M' S0 h0 (sAdd S Cn A') h b f' := by
  obtain ⟨i1, i2, ⟨b0, b1, b2⟩, i4, ⟨j1, j2, j3, j4⟩, i6⟩ := I
  refine ⟨hP, hb, ⟨hn, (hf _ (by omega)).trans b1, fun i hi => ?_⟩, fun i hi => ?_, ⟨j1, j2, j3, hA.trans j4⟩, i6⟩
  · have hi : i < sM S + 1 := hi
    show f' (5 * i) = nI (clY (va_up (sC S) (sM S) Cn i)) ∧ f' (5 * i + 2) = clI (va_up (sC S) (sM S) Cn i) 1 ∧ f' (5 * i + 3) = clI (va_up (sC S) (sM S) Cn i) 2 ∧ f' (5 * i + 4) = clI (va_up (sC S) (sM S) Cn i) 3
    by_cases e : i = sM S
    · subst e
      rw [va_up_self]
      exact ⟨q0, q2, q3, q4⟩
    · rw [va_up_ne _ _ e, hf _ (by omega), hf _ (by omega), hf _ (by omega), hf _ (by omega)]
      exact b2 i (by omega)
  · have hi : i < sM S + 1 := hi
    show CI (va_up (sC S) (sM S) Cn i) (hNow h)
    by_cases e : i = sM S
    · subst e; rw [va_up_self]; exact hC
    · rw [va_up_ne _ _ e]; exact i4 i (by omega)
theorem PlI.year {G : hG} {M M' : hM} {S0 S : hSy} {h0 h : hHo} {b : Nat} {f f' : Nat → Int32} (I : PlI G M S0 h0 S h b f) (hP : PV G M' (sWd S (hNow h) (sM S)) (hNow h + 1, h.2)) (hb : M' b = some (4800, .inl (hT G 0, 1002, .inl f'))) (hf : ∀ j, (j < 200 ∨ j = 1000) → f' j = f j) (hn : f' 1001 = nI (hNow h + 1)) : PlI G M' S0 h0 (sWd S (hNow h) (sM S)) (hNow h + 1, h.2) b f' := by
  obtain ⟨i1, i2, ⟨b0, b1, b2⟩, i4, i5, i6⟩ := I
  have h40 : sM S ≤ 40 := i1.1.2.1.2.1
  have hyn := i1.1.2.2.2.2.2.2
  have hs : ∀ i, i < sM S → sC (sWd S (hNow h) (sM S)) i = cWd (sC S i) (hNow h) := fun i hi => if_pos hi
  refine ⟨hP, hb, ⟨(hf _ (by omega)).trans b0, hn, fun i hi => ?_⟩, fun i hi => ?_, i5, i6⟩
  · have hi : i < sM S := hi
    rw [hs i hi, hf _ (by omega), hf _ (by omega), hf _ (by omega), hf _ (by omega)]
    exact b2 i hi
  · have hi : i < sM S := hi
    rw [hs i hi]
    exact (i4 i hi).year (hyn i hi)
theorem PlI.same {G : hG} {M M' : hM} {S0 S : hSy} {h0 h : hHo} {b : Nat} {f f' : Nat → Int32} (I : PlI G M S0 h0 S h b f) (hP : PV G M' S h) (hb : M' b = some (4800, .inl (hT G 0, 1002, .inl f'))) (hf : ∀ j, (j < 200 ∨ 1000 ≤ j) → f' j = f j) : PlI G M' S0 h0 S h b f' := by
  obtain ⟨i1, i2, ⟨b0, b1, b2⟩, i4, i5, i6⟩ := I
  have h40 : sM S ≤ 40 := i1.1.2.1.2.1
  refine ⟨hP, hb, ⟨(hf _ (by omega)).trans b0, (hf _ (by omega)).trans b1, fun i hi => ?_⟩, i4, i5, i6⟩
  rw [hf _ (by omega), hf _ (by omega), hf _ (by omega), hf _ (by omega)]
  exact b2 i hi
