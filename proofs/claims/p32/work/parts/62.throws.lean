-- WHAT THROWS AN IllegalStateException
def wk : Cond → Bool
  | .declares _ => true
  | .castable _ _ => true
  | w => w.onTables && w.keeps
theorem wk_at {args a' : Array Value} {s U : State} (hW : s.WarmedH U.vm) {w : Cond} (hk : wk w = true) (h : w.before args s = true) : w.before a' U = true := by
  have tr : ∀ {c : Cond}, c.onTables = true → c.before args (s.setVm U.vm) = true → c.before a' U = true := by
    intro c hc h
    have e := Cond.onTables_vm (A := args) (A' := a') (U := s) (U' := U) U.vm c hc
    have hU : U.setVm U.vm = U := rfl
    rw [hU] at e
    rw [← e]
    exact h
  cases w with
  | declares x => exact tr rfl (by rw [Cond.declares_setVm hW.alike]; exact h)
  | castable x y => exact tr rfl (by rw [Cond.castable_setVm hW.alike]; exact h)
  | _ => exact word_at hW (Or.inl hk) h
theorem ise_w : (vx_atS "LossHouse" 95 "java/lang/IllegalStateException" ["java/lang/RuntimeException", "java/lang/Exception"]).all (fun w => decide (w ∈ lw_tbl) && wk w && vx_ot w) = true := by decide +kernel
theorem ise_at {G : hG} {s : State} {args : Array Value} (hs : hSt G) (hr : hR G s) : ∀ w ∈ vx_atS "LossHouse" 95 "java/lang/IllegalStateException" ["java/lang/RuntimeException", "java/lang/Exception"], w.before args s = true := fun w hw => by
  have h := List.all_eq_true.mp ise_w w hw
  rw [Bool.and_eq_true, Bool.and_eq_true] at h
  exact wk_at hr.1 h.1.2 (hs.1 w (of_decide_eq_true h.1.1))
theorem ise_us {G : hG} {s : State} (hs : hSt G) (hr : hR G s) : vx_Zq Bundle.tN "UNASSIGNED_STACK" Bundle.steD (hA G) s s.heap := ((vx_Zqof (hW0 hs 337 (by decide +kernel)) (hW0 hs 80 (by decide +kernel)) (hN hs 12 (by decide +kernel)) hlow).moved hr.1.alike).kept (hkep hr)
theorem ise_ss {G : hG} {s : State} (hs : hSt G) (hr : hR G s) : vx_Zq Bundle.tN "SUPPRESSED_SENTINEL" Bundle.listD (hA G) s s.heap := ((vx_Zqof (hW0 hs 339 (by decide +kernel)) (hW0 hs 80 (by decide +kernel)) (hN hs 13 (by decide +kernel)) hlow).moved hr.1.alike).kept (hkep hr)
def hXC (G : hG) (M : hM) : String → State → State → Prop := fun E st t => E = "java/lang/IllegalStateException" ∧ hH G M t.heap ∧ va_F (hA G) st t
/-- a contract: from the map M it throws an IllegalStateException, with the map as it was -/
def hXT (l : Launch) (G : hG) (y : MethodName) (cc : ByteArray) (maxL : Nat) (ret : Option FieldType) (rm : Room) (M : hM) (as : List Value) : Prop :=
  vx_Met l y (Cond.code y cc maxL ret :: hGW) rm (hPc G M as) (fun _ _ _ _ => False) (hXC G M) rm.cells rm.slots (hA G)
theorem hXT.of {l : Launch} {G : hG} {y : MethodName} {cc : ByteArray} {maxL : Nat} {ret : Option FieldType} {rm : Room} {M : hM} {as : List Value} {own nm : String} (hy : plainName y.cls = true) (ho : y.cls = own) (hnm : y.name = nm) (hn : (lg_sl as).length ≤ maxL)
    (body : ∀ (p : Program) (e : Env) (s : State) (m : MethodId) (args : Array Value) (below : List Frame) (meth : Method) (c : Code) (ls : Array Slot), hCX G p s m args meth c cc maxL ret own nm → (∀ x ∈ c.exceptionTable.toList, False) → hHS G M s s.heap [] → lv_has ls maxL (lv_args 0 as) →
      W p l e rm s m args below meth c s.heap [] 0 0 (vx_MQ below (fun _ _ _ _ => False) (hXC G M) args s rm.cells rm.slots (hA G)) (F0 m 0 ls [])) : hXT l G y cc maxL ret rm M as := by
  refine vx_ofW (cc := cc) (maxL := maxL) (ret := ret) hy rfl ?_
  intro p e s m args below meth c s₁ B hml ht hv
  obtain ⟨rfl, hst, hr, hm⟩ := hv
  have hl := lv_entry as (n := maxL) hn
  rw [lg_entry_eq]
  generalize (lg_sl as ++ List.replicate (maxL - (lg_sl as).length) Slot.unset).toArray = ls at hl ⊢
  refine body p e s m _ below meth c ls ⟨B.exec, B.bytes, B.returns, hml, ?_, ?_, B.notSynchronized, ?_, hst, hr, ?_⟩ ht ⟨hm, va_S.rf⟩ hl
  · rw [← ho]; exact findClass_of_methodNamed B.named
  · intro w hw
    exact atoms_spec (ws := Cond.code y cc maxL ret :: hGW) B.pre w (List.mem_cons_of_mem _ hw)
  · exact va_K.moved hr.1.alike hst.2.2
  · rw [← hnm]; exact (name_of_methodNamed B.named B.method).1
theorem hH.kept2 {G : hG} {M : hM} {H H1 : Heap} (h : hH G M H) (oq : ∀ q : Nat, q < H.size → H1[q]? = H[q]?) : hH G M H1 := fun a t e hm => ⟨(h a t e hm).1, ((h a t e hm).2).kept (oq a ((h a t e hm).2).lt)⟩
section THR
variable {G : hG} {p : Program} {l : Launch} {e : Env} {R : Room} {s : State} {m : MethodId} {args : Array Value} {below : List Frame} {meth : Method} {c : Code} {H : Heap} {locs : List Loc} {cells slots : Nat} {Q : State → Prop}
variable {cc : ByteArray} {maxL : Nat} {ret : Option FieldType} {own nm : String} {M : hM} {pc : Nat} {ls : Array Slot} {rest : List Value} {a t ci index n : Nat} {cA : ClassId}
theorem h_throwS {is : Nat} {text : String} {sa mc ms : Nat} {M0 : hM} {Qc : Array Value → State → Outcome → State → Prop} (X : hCX G p s m args meth c cc maxL ret "LossHouse" nm) (Y : hHS G M s H locs) (hM : M0 = M) (hl : l.stackTraces = false) (ht : ∀ x ∈ c.exceptionTable.toList, False) (hstr : vk_R "LossHouse" is text sa s) (hls : ls.size = maxL)
    (d0 : decode cc pc = .ok (.new 91, 3)) (d3 : decode cc (pc + 3) = .ok (.dup, 1)) (d4 : decode cc (pc + 4) = .ok (.ldc is, 2)) (d6 : decode cc (pc + 6) = .ok (.invokespecial 95, 3)) (d9 : decode cc (pc + 9) = .ok (.athrow, 1)) (hR1 : 5 < R.frames) (hR2 : (rest.map fun v => v.category).sum + 82 ≤ R.locals) (hR3 : cells + 1 ≤ R.cells) (hR4 : slots + 6 ≤ R.slots) (hc : cells + 1 ≤ mc) (hs : slots + 6 ≤ ms) :
    W p l e R s m args below meth c H locs cells slots (vx_MQ below Qc (hXC G M0) args s mc ms (hA G)) (F0 m pc ls rest) := by
  subst hM
  have hst := X.2.2.2.2.2.2.2.2.1
  have hr := X.2.2.2.2.2.2.2.2.2.1
  refine vx_throwS (cls := "java/lang/IllegalStateException") (names := ["java/lang/RuntimeException", "java/lang/Exception"]) (ik := 91) (is := is) (ic := 95) X.1 X.2.1 hl X.2.2.2.2.1 (by decide +kernel) (by decide +kernel) (X.2.2.2.2.2.1 _ (hgw 810 (by decide +kernel) (by decide +kernel))) (X.2.2.2.2.2.1 _ (hgw 83 (by decide +kernel) (by decide +kernel))) hstr (ise_at hst hr) (fun w hw => ?_) (ise_us hst hr) (ise_ss hst hr) Y.2 (hls.trans X.2.2.2.1.symm) d0 d3 d4 d6 d9 (fun x hx => (ht x hx).elim) hR1 hR2 hR3 hR4 X.2.2.2.2.2.2.1 (fun t ha h1 h2 => ⟨rfl, Y.1.kept2 h2, Nat.le_trans Y.2.1 h1, fun q q1 q2 => (h2 q (Nat.lt_of_lt_of_le q1 Y.2.1)).trans (Y.2.2.1 q q1 q2)⟩) Y.2.2.2 hc hs
  rcases List.mem_cons.mp hw with rfl | hw
  · decide +kernel
  rcases List.mem_cons.mp hw with rfl | hw
  · decide +kernel
  have h := List.all_eq_true.mp ise_w w hw
  rw [Bool.and_eq_true] at h
  exact h.2
/-- a call that throws, caught here -/
theorem h_callX {y : MethodName} {cc' : ByteArray} {maxL' k : Nat} {ret' : Option FieldType} {rm : Room} {C : String} {As st0 : List Value} {fs : List Value} {r : vw_C} {hpc ict : Nat} (X : hCX G p s m args meth c cc maxL ret own nm) (Y : hHS G M s H locs) (hCt : hXT l G y cc' maxL' ret' rm M (.ref a :: As)) (hg : GoodIn hGW (wsV own index C y (Cond.code y cc' maxL' ret' :: hGW)))
    (hd : y.cls = C ∧ y.cls ≠ "java/lang/invoke/MethodHandle" ∧ y.cls ≠ "java/lang/invoke/VarHandle" ∧ (parseMethodDescriptor y.desc).map (fun d => d.parameters.length) = some k) (he : M a = some (t, .inr (ci, fs))) (hcl : vwCl[ci]? = some r) (hrC : r.1 = C) (hk : As.length = k) (hls : ls.size = maxL) (hst : st0 = As.reverse ++ .ref a :: rest) (hw : (rest.map fun v => v.category).sum ≤ 8)
    (hR : rm.frames + 1 ≤ R.frames ∧ 8 + (maxL' + 11) + rm.locals ≤ R.locals) (hf : cells + rm.cells ≤ R.cells ∧ slots + rm.slots ≤ R.slots) (hdg : decode cc pc = .ok (.invokevirtual index, 3))
    (pre suf : List ExceptionTableEntry) (x : ExceptionTableEntry) (htab : c.exceptionTable.toList = pre ++ x :: suf) (hpre : ∀ z ∈ pre, covers z pc = false) (hx : covers x pc = true) (hx0 : x.catchType = ict) (hi0 : ict ≠ 0) (hxh : x.handlerPc = hpc) (hlink : Cond.classLink own ict "java/lang/IllegalStateException" ∈ hGW)
    (kk : ∀ (q : Nat) (H1 : Heap) (locs1 : List Loc), hHS G M s H1 locs1 → W p l e R s m args below meth c H1 locs1 (cells + rm.cells) (slots + rm.slots) Q (F0 m hpc ls [.ref q])) : W p l e R s m args below meth c H locs cells slots Q (F0 m pc ls st0) := by
  have hr := vx_runV (As := As) (rest := rest) (b := a) (n := k) (C := C) (l := l) (e := e) (below := below) (locs := locs) (cells := cells) (slots := slots) (meth := meth) (g := F0 m pc ls st0) ⟨X.1, X.2.1, X.2.2.2.1, X.2.2.2.2.1, X.2.2.2.2.2.1⟩ hCt (cwV k X.2.2.2.2.2.1 hg rfl rfl rfl hd hR) ⟨hPc.blind, by rw [← hrC]; exact h_recv X Y he hcl, h_pre X Y⟩ rfl hk hls hst (lv_room hw) hdg hf
  intro T hT X0
  rcases hr T hT X0 with ⟨v, st₀, t1, T', L, h0, X', hL, e1, e2, hF, st⟩ | ⟨q, st₀, t1, T', L, E, ce, h0, X', hL, e1, e2, ⟨hE, hh, hz, hkp⟩, hce, hcv, hcl9, st⟩
  · exact hF.elim
  · subst hE
    rw [h0] at hz hkp
    have Y1 : hHS G M s T'.heap (locs ++ L) := ⟨by rw [e1]; exact hh, Nat.le_trans Y.2.1 (by rw [e1]; exact hz), fun q h1 h2 => by rw [e1, hkp q (Nat.lt_of_lt_of_le h1 Y.2.1) h2]; exact Y.2.2.1 q h1 h2, fun q hq => by
      rcases List.mem_append.mp hq with h | h
      · exact Y.2.2.2 q h
      · exact hL q h⟩
    have K := kk q T'.heap (locs ++ L) Y1
    rw [← hxh] at K
    have hca : (Cond.castable "java/lang/IllegalStateException" "java/lang/IllegalStateException").before args s = true := wk_at X.2.2.2.2.2.2.2.2.2.1.1 rfl (hW0 X.2.2.2.2.2.2.2.2.1 812 (by decide +kernel))
    obtain ⟨t2, a1, b1⟩ := vx_catch (own := own) (name := "java/lang/IllegalStateException") X.2.2.2.2.1 pre x suf htab (fun z hz => Or.inl (hpre z hz)) hx (by rw [hx0]; exact hi0) (by rw [hx0]; exact X.2.2.2.2.2.1 _ hlink) hca (by rw [e1]; exact hce) hcv hcl9 K T' rfl X'
    exact ⟨t2, st.trans a1, b1⟩
end THR
theorem hxR_205 {G : hG} {s : State} (hs : hSt G) (hr : hR G s) : vk_R "LossHouse" 205 "the claim is closed, or too much would be paid of it" (had G (.string "LossHouse" 205)) s := vk_R.warm hr.1 (vk_R.of (hW0 hs 1549 (by decide +kernel)) (hO_of (hN hs (c := Cond.exactly (.string "LossHouse" 205) "java/lang/String") 1334 (by decide +kernel))).1)
theorem hxR_217 {G : hG} {s : State} (hs : hSt G) (hr : hR G s) : vk_R "LossHouse" 217 "the claim is closed" (had G (.string "LossHouse" 217)) s := vk_R.warm hr.1 (vk_R.of (hW0 hs 1557 (by decide +kernel)) (hO_of (hN hs (c := Cond.exactly (.string "LossHouse" 217) "java/lang/String") 1390 (by decide +kernel))).1)
theorem dX11_pay_69 : decode cX11_pay 69 = .ok (.new 91, 3) := by decide +kernel
theorem dX11_pay_72 : decode cX11_pay 72 = .ok (.dup, 1) := by decide +kernel
theorem dX11_pay_73 : decode cX11_pay 73 = .ok (.ldc 205, 2) := by decide +kernel
theorem dX11_pay_75 : decode cX11_pay 75 = .ok (.invokespecial 95, 3) := by decide +kernel
theorem dX11_pay_78 : decode cX11_pay 78 = .ok (.athrow, 1) := by decide +kernel
set_option maxHeartbeats 400000 in
set_option maxRecDepth 100000 in
theorem c_payX (l : Launch) (G : hG) (hl9 : l.stackTraces = false) (M : hM) (S : hSy) (h : hHo) (hPv : PV G M S h) (i : Nat) (x : Int32) (hi : i < sM S) (hx0 : ¬ x < 1) (hx1 : x ≤ 1000000) (hbad : clI (sC S i) 3 = 0 ∨ ¬ clI (sC S i) 1 + x ≤ 1000000) : hXT l G yX11_pay cX11_pay 4 (Option.some FieldType.int) (hRm 6 1 6) M [.ref (sA S 0), .int (nI i), .int x] := by
  refine hXT.of (own := RX11) (nm := "pay") (by decide) rfl rfl (Nat.le_of_ble_eq_true rfl) ?_
  intro p e s m args below meth c ls X ht9 Y hl
  have hx := X.1
  have hb := X.2.1
  have hl : lv_has ls 4 [(0, .ref (sA S 0)), (1, .int (nI i)), (2, .int x)] := hl
  have hQv := hPv.1
  obtain ⟨hS, hG1, hHo, hCe, hTr, hnow, hyn⟩ := id hQv
  obtain ⟨hN8, hM40, hLG, hCY⟩ := id hG1
  obtain ⟨hl13, he14, hl15, he16, hLa, hCl⟩ := id hS
  obtain ⟨mc13, hlo13⟩ := id hl13
  obtain ⟨mc15, hlo15⟩ := id hl15
  obtain ⟨ho0, ho1, ho17, ho18, ft19, hft19, ho19⟩ := id hHo
  refine lv_aload_n hx hb dX11_pay_0 rfl (lv_at hl 0 rfl) ?_
  refine lv_iload_n hx hb dX11_pay_1 rfl (lv_at hl 1 rfl) ?_
  refine h_callVr (rest := []) X Y (c_hasClaim l G M S h hQv i (by omega)) rfl rfl gw_X11_190 dsc_X11_hasClaim ho0 rfl rfl rfl rfl hl.1 (Nat.le_of_ble_eq_true rfl) ⟨Nat.le_of_ble_eq_true rfl, Nat.le_of_ble_eq_true rfl⟩ ⟨Nat.le_of_ble_eq_true rfl, Nat.le_of_ble_eq_true rfl⟩ dX11_pay_2 (fun H locs Y => ?_)
  refine lv_if_ne (tgt := 18) hx hb dX11_pay_5 (by decide) (fun c5 => ?_) (fun c5 => absurd c5 (by decide))
  refine lv_iload_n hx hb dX11_pay_18 rfl (lv_at hl 2 rfl) ?_
  refine lv_iconst (v := 1) hx hb dX11_pay_19 (by decide) ?_
  refine lv_icmp_lt (tgt := 29) hx hb dX11_pay_20 (by decide) (fun c20 => absurd c20 hx0) (fun c20 => ?_)
  refine lv_iload_n hx hb dX11_pay_23 rfl (lv_at hl 2 rfl) ?_
  refine lv_ldc hx hb X.2.2.2.2.1 (X.2.2.2.2.2.1 _ kcI_X11_195) dX11_pay_24 ?_
  refine lv_icmp_le (tgt := 39) hx hb dX11_pay_26 (by decide) (fun c26 => ?_) (fun c26 => absurd hx1 c26)
  refine lv_aload_n hx hb dX11_pay_39 rfl (lv_at hl 0 rfl) ?_
  refine h_get X Y (k := 5) (v := .ref (sA S 15)) ho0 rfl hin_X11 (by decide) kfl_X11_46 rfl dX11_pay_40 ?_
  refine lv_iload_n hx hb dX11_pay_43 rfl (lv_at hl 1 rfl) ?_
  refine h_callVr (rest := []) X Y (c_get l G M (sA S 15) 15 (sA S 16) 16 (sM S) i (fun i => sA S (1000 + 10 * i)) hl15 (he16 (by omega)) (by omega)) rfl rfl gw_X11_150 dsc_Jx4a65c_get_915e3 hlo15 rfl rfl rfl rfl hl.1 (Nat.le_of_ble_eq_true rfl) ⟨Nat.le_of_ble_eq_true rfl, Nat.le_of_ble_eq_true rfl⟩ ⟨Nat.le_of_ble_eq_true rfl, Nat.le_of_ble_eq_true rfl⟩ dX11_pay_44 (fun H locs Y => ?_)
  have hc0 := (hCl i hi).1
  refine h_cast X Y hc0 rfl rfl kcl_X11_181 dX11_pay_47 ?_
  refine lv_astore_n (lv' := [(3, .ref (sA S (1000 + 10 * i))), (0, .ref (sA S 0)), (1, .int (nI i)), (2, .int x)]) hx hb dX11_pay_50 rfl hl (by decide) rfl (fun ls hl => ?_)
  refine lv_aload_n hx hb dX11_pay_51 rfl (lv_at hl 0 rfl) ?_
  refine h_get X Y (k := 4) (v := .int (clI (sC S i) 3)) hc0 rfl hin_X3 (by decide) kfl_X11_198 rfl dX11_pay_52 ?_
  refine lv_if_eq (tgt := 69) hx hb dX11_pay_55 (by decide) (fun c55 => ?_) (fun c55 => ?_)
  · exact h_throwS X Y rfl hl9 ht9 (hxR_205 X.2.2.2.2.2.2.2.2.1 X.2.2.2.2.2.2.2.2.2.1) hl.1 dX11_pay_69 dX11_pay_72 dX11_pay_73 dX11_pay_75 dX11_pay_78 (by decide) (by decide) (by decide) (by decide) (by decide) (by decide)
  · refine lv_aload_n hx hb dX11_pay_58 rfl (lv_at hl 0 rfl) ?_
    refine h_get X Y (k := 2) (v := .int (clI (sC S i) 1)) hc0 rfl hin_X3 (by decide) kfl_X11_202 rfl dX11_pay_59 ?_
    refine lv_iload_n hx hb dX11_pay_62 rfl (lv_at hl 3 rfl) ?_
    refine lv_iadd hx hb dX11_pay_63 ?_
    refine lv_ldc hx hb X.2.2.2.2.1 (X.2.2.2.2.2.1 _ kcI_X11_195) dX11_pay_64 ?_
    refine lv_icmp_le (tgt := 79) hx hb dX11_pay_66 (by decide) (fun c66 => absurd (hbad.resolve_left c55) (fun z9 => z9 c66)) (fun c66 => ?_)
    exact h_throwS X Y rfl hl9 ht9 (hxR_205 X.2.2.2.2.2.2.2.2.1 X.2.2.2.2.2.2.2.2.2.1) hl.1 dX11_pay_69 dX11_pay_72 dX11_pay_73 dX11_pay_75 dX11_pay_78 (by decide) (by decide) (by decide) (by decide) (by decide) (by decide)
theorem dX11_setReserve_55 : decode cX11_setReserve 55 = .ok (.new 91, 3) := by decide +kernel
theorem dX11_setReserve_58 : decode cX11_setReserve 58 = .ok (.dup, 1) := by decide +kernel
theorem dX11_setReserve_59 : decode cX11_setReserve 59 = .ok (.ldc 217, 2) := by decide +kernel
theorem dX11_setReserve_61 : decode cX11_setReserve 61 = .ok (.invokespecial 95, 3) := by decide +kernel
theorem dX11_setReserve_64 : decode cX11_setReserve 64 = .ok (.athrow, 1) := by decide +kernel
set_option maxHeartbeats 400000 in
set_option maxRecDepth 100000 in
theorem c_setX (l : Launch) (G : hG) (hl9 : l.stackTraces = false) (M : hM) (S : hSy) (h : hHo) (hPv : PV G M S h) (i : Nat) (x : Int32) (hi : i < sM S) (hx0 : ¬ x < 0) (hx1 : x ≤ 1000000) (hop : clI (sC S i) 3 = 0) : hXT l G yX11_setReserve cX11_setReserve 5 (Option.some FieldType.int) (hRm 6 1 6) M [.ref (sA S 0), .int (nI i), .int x] := by
  refine hXT.of (own := RX11) (nm := "setReserve") (by decide) rfl rfl (Nat.le_of_ble_eq_true rfl) ?_
  intro p e s m args below meth c ls X ht9 Y hl
  have hx := X.1
  have hb := X.2.1
  have hl : lv_has ls 5 [(0, .ref (sA S 0)), (1, .int (nI i)), (2, .int x)] := hl
  have hQv := hPv.1
  obtain ⟨hS, hG1, hHo, hCe, hTr, hnow, hyn⟩ := id hQv
  obtain ⟨hN8, hM40, hLG, hCY⟩ := id hG1
  obtain ⟨hl13, he14, hl15, he16, hLa, hCl⟩ := id hS
  obtain ⟨mc13, hlo13⟩ := id hl13
  obtain ⟨mc15, hlo15⟩ := id hl15
  obtain ⟨ho0, ho1, ho17, ho18, ft19, hft19, ho19⟩ := id hHo
  refine lv_aload_n hx hb dX11_setReserve_0 rfl (lv_at hl 0 rfl) ?_
  refine lv_iload_n hx hb dX11_setReserve_1 rfl (lv_at hl 1 rfl) ?_
  refine h_callVr (rest := []) X Y (c_hasClaim l G M S h hQv i (by omega)) rfl rfl gw_X11_190 dsc_X11_hasClaim ho0 rfl rfl rfl rfl hl.1 (Nat.le_of_ble_eq_true rfl) ⟨Nat.le_of_ble_eq_true rfl, Nat.le_of_ble_eq_true rfl⟩ ⟨Nat.le_of_ble_eq_true rfl, Nat.le_of_ble_eq_true rfl⟩ dX11_setReserve_2 (fun H locs Y => ?_)
  refine lv_if_ne (tgt := 18) hx hb dX11_setReserve_5 (by decide) (fun c5 => ?_) (fun c5 => absurd c5 (by decide))
  refine lv_aload_n hx hb dX11_setReserve_18 rfl (lv_at hl 0 rfl) ?_
  refine lv_iload_n hx hb dX11_setReserve_19 rfl (lv_at hl 2 rfl) ?_
  refine h_callVr (rest := []) X Y (c_isReserve l G M (sA S 0) x hx0 hx1) rfl rfl gw_X11_171 dsc_X11_isReserve ho0 rfl rfl rfl rfl hl.1 (Nat.le_of_ble_eq_true rfl) ⟨Nat.le_of_ble_eq_true rfl, Nat.le_of_ble_eq_true rfl⟩ ⟨Nat.le_of_ble_eq_true rfl, Nat.le_of_ble_eq_true rfl⟩ dX11_setReserve_20 (fun H locs Y => ?_)
  refine lv_if_ne (tgt := 36) hx hb dX11_setReserve_23 (by decide) (fun c23 => ?_) (fun c23 => absurd c23 (by decide))
  refine lv_aload_n hx hb dX11_setReserve_36 rfl (lv_at hl 0 rfl) ?_
  refine h_get X Y (k := 5) (v := .ref (sA S 15)) ho0 rfl hin_X11 (by decide) kfl_X11_46 rfl dX11_setReserve_37 ?_
  refine lv_iload_n hx hb dX11_setReserve_40 rfl (lv_at hl 1 rfl) ?_
  refine h_callVr (rest := []) X Y (c_get l G M (sA S 15) 15 (sA S 16) 16 (sM S) i (fun i => sA S (1000 + 10 * i)) hl15 (he16 (by omega)) (by omega)) rfl rfl gw_X11_150 dsc_Jx4a65c_get_915e3 hlo15 rfl rfl rfl rfl hl.1 (Nat.le_of_ble_eq_true rfl) ⟨Nat.le_of_ble_eq_true rfl, Nat.le_of_ble_eq_true rfl⟩ ⟨Nat.le_of_ble_eq_true rfl, Nat.le_of_ble_eq_true rfl⟩ dX11_setReserve_41 (fun H locs Y => ?_)
  refine h_cast X Y (hCl i (by omega)).1 rfl rfl kcl_X11_181 dX11_setReserve_44 ?_
  have hc0 := (hCl i hi).1
  refine lv_astore_n (lv' := [(3, .ref (sA S (1000 + 10 * i))), (0, .ref (sA S 0)), (1, .int (nI i)), (2, .int x)]) hx hb dX11_setReserve_47 rfl hl (by decide) rfl (fun ls hl => ?_)
  refine lv_aload_n hx hb dX11_setReserve_48 rfl (lv_at hl 0 rfl) ?_
  refine h_get X Y (k := 4) (v := .int (clI (sC S i) 3)) hc0 rfl hin_X3 (by decide) kfl_X11_198 rfl dX11_setReserve_49 ?_
  refine lv_if_ne (tgt := 65) hx hb dX11_setReserve_52 (by decide) (fun c52 => absurd hop c52) (fun c52 => ?_)
  exact h_throwS X Y rfl hl9 ht9 (hxR_217 X.2.2.2.2.2.2.2.2.1 X.2.2.2.2.2.2.2.2.2.1) hl.1 dX11_setReserve_55 dX11_setReserve_58 dX11_setReserve_59 dX11_setReserve_61 dX11_setReserve_64 (by decide) (by decide) (by decide) (by decide) (by decide) (by decide)
