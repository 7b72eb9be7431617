-- WHAT CHANGES CLAIMS
def cPay (C : hCl) (x : Int32) : hCl := (clA C, clY C, fun k => match k with | 0 => clI C 0 | 1 => clI C 1 + x | 2 => sMax (clI C 2 - x) 0 | k => clI C k, clN C)
def cSet (C : hCl) (x : Int32) : hCl := (clA C, clY C, fun k => match k with | 0 => clI C 0 | 1 => clI C 1 | 2 => x | k => clI C k, clN C)
def cClose (C : hCl) (z : Bool) : hCl := (clA C, clY C, fun k => match k with | 0 => clI C 0 | 1 => clI C 1 | 2 => (if z then 0 else clI C 2) | 3 => (if z then 0 else 1) | k => clI C k, clN C)
def cWd (C : hCl) (now : Nat) : hCl := (clA C, clY C, clI C, fun k => match k with | 0 => upd (clN C 0) (now - clY C) (clI C 1) | 1 => upd (clN C 1) (now - clY C) (clI C 1 + clI C 2) | k => clN C k)
def cNew (r0 r1 y : Nat) (x1 x2 : Int32) : hCl := (fun k => if k = 0 then r0 else r1, y, fun k => match k with | 0 => x1 | 1 => 0 | 2 => x2 | _ => 1, fun _ _ => 0)
abbrev sWd (S : hSy) (now k : Nat) : hSy := (sN S, sL S, sF S, sM S, fun j => if j < k then cWd (sC S j) now else sC S j, sA S)
theorem sWd_0 (S : hSy) (now : Nat) : sWd S now 0 = S := by
  have e : (fun j => if j < 0 then cWd (sC S j) now else sC S j) = sC S := funext fun j => if_neg (Nat.not_lt_zero j)
  unfold sWd
  rw [e]
theorem sWd_step (S : hSy) (now k : Nat) : sUp (sWd S now k) k (cWd (sC (sWd S now k) k) now) = sWd S now (k + 1) := by
  have e : va_up (sC (sWd S now k)) k (cWd (sC (sWd S now k) k) now) = fun j => if j < k + 1 then cWd (sC S j) now else sC S j := funext fun j => by
    by_cases h : j = k
    · subst h
      rw [va_up_self, if_pos (Nat.lt_succ_self j)]
      show cWd (if j < j then cWd (sC S j) now else sC S j) now = _
      rw [if_neg (Nat.lt_irrefl j)]
    · rw [va_up_ne _ _ h]
      show (if j < k then cWd (sC S j) now else sC S j) = _
      by_cases h2 : j < k
      · rw [if_pos h2, if_pos (by omega)]
      · rw [if_neg h2, if_neg (by omega)]
  unfold sUp sWd
  rw [e]
def aAdd (S : hSy) (q q0 : Nat) : Nat → Nat := fun u => if u = 16 then q else if u = 1000 + 10 * sM S then q0 else sA S u
theorem PV.add {G : hG} {M M' : hM} {S : hSy} {h : hHo} {q0 q cap : Nat} {f : Nat → Option Nat} {mc : Int32} {Cn : hCl} (hV : PV G M S h) (hm : sM S < 40) (hf : hFr (fun u => u = 15 ∨ u = 16 ∨ u = 1000 + 10 * sM S) M M') (h15 : M' (sA S 15) = some (15, .inr (2, [.int mc, .ref q, .int (nI (sM S + 1))]))) (hq : M' q = some (16, .inl (hT G 6, cap, .inr (.inr (.inr (.inr f))))))
    (c1 : sM S + 1 ≤ cap) (c2 : 10 ≤ cap) (c3 : cap ≤ 1000) (hfi : ∀ i, i < sM S → f i = some (sA S (1000 + 10 * i))) (hfn : f (sM S) = some q0) (hC : ClV G M' q0 (1000 + 10 * sM S) Cn) (hy : clY Cn ≤ hNow h) : PV G M' (sAdd S Cn (aAdd S q q0)) h := by
  obtain ⟨hQ, hE⟩ := hV
  have hQ0 := hQ
  obtain ⟨⟨-, -, hl15, he16, -, hCl⟩, ⟨-, hM40, -, -⟩, ⟨h0, -⟩, -, -, hnow, hyn⟩ := hQ0
  have hfa : ∀ i, i < sM S + 1 → f i = some (aAdd S q q0 (1000 + 10 * i)) := fun i hi => by
    unfold aAdd
    rw [if_neg (by omega)]
    by_cases e : i = sM S
    · subst e; rw [if_pos rfl]; exact hfn
    · rw [if_neg (by omega)]; exact hfi i (by omega)
  have a16 : aAdd S q q0 16 = q := if_pos rfl
  have hq : M' (aAdd S q q0 16) = some (16, .inl (hT G 6, cap, .inr (.inr (.inr (.inr f))))) := by rw [a16]; exact hq
  refine ⟨?_, Or.inr ⟨cap, f, hq, c1, c2, c3, hfa⟩⟩
  exact QV.next (m' := sM S + 1) (now' := hNow h) (C' := va_up (sC S) (sM S) Cn) (A' := aAdd S q q0) hQ (hf.mono (fun u z => by unfold hZc; omega)) (fun u u1 u2 => by unfold aAdd; rw [if_neg u1, if_neg (by omega)]) ⟨mc, by rw [a16]; exact h15⟩ (fun _ => ⟨cap, f, c1, c3, hfa, hq⟩) (fun j hj => by
    by_cases e : j = sM S
    · subst e
      rw [va_up_self, show aAdd S q q0 (1000 + 10 * sM S) = q0 from by unfold aAdd; rw [if_neg (by omega), if_pos rfl]]
      exact hC
    · rw [va_up_ne _ _ e, show aAdd S q q0 (1000 + 10 * j) = sA S (1000 + 10 * j) from by unfold aAdd; rw [if_neg (by omega), if_neg (by omega)]]
      exact (hCl j (by omega)).fr hf (fun k hk => by omega)) (by omega) (fun j hj => by
    by_cases e : j = sM S
    · subst e; rw [va_up_self]; exact hy
    · rw [va_up_ne _ _ e]; exact hyn j (by omega)) hnow (hf _ _ _ h0 (by omega))
theorem dsc_X3_init : yX3_init.cls = RX3 ∧ yX3_init.cls ≠ "java/lang/invoke/MethodHandle" ∧ yX3_init.cls ≠ "java/lang/invoke/VarHandle" ∧ (parseMethodDescriptor yX3_init.desc).map (fun d => d.parameters.length) = some 3 := ⟨rfl, by decide +kernel, by decide +kernel, by decide +kernel⟩
theorem gw_X11_186 : GoodIn hGW (wsV RX11 186 RJx4a65c yJx4a65c_add_9ea2d (Cond.code yJx4a65c_add_9ea2d cJx4a65c_add_9ea2d 2 (Option.some FieldType.boolean) :: hGW)) := hgi4 kml_X11_186 kin_Jx4a65c_add_9ea2d kse_Jx4a65c_Jx4a65c_add_9ea2d_Jx4a65c_add_9ea2d kini_Jx4a65c kco_Jx4a65c_add_9ea2d
theorem dsc_Jx4a65c_add_9ea2d : yJx4a65c_add_9ea2d.cls = RJx4a65c ∧ yJx4a65c_add_9ea2d.cls ≠ "java/lang/invoke/MethodHandle" ∧ yJx4a65c_add_9ea2d.cls ≠ "java/lang/invoke/VarHandle" ∧ (parseMethodDescriptor yJx4a65c_add_9ea2d.desc).map (fun d => d.parameters.length) = some 1 := ⟨rfl, by decide +kernel, by decide +kernel, by decide +kernel⟩
theorem dX11_open_0 : decode cX11_open 0 = .ok (.aload_n 0, 1) := by decide +kernel
theorem dX11_open_1 : decode cX11_open 1 = .ok (.iload_n 1, 1) := by decide +kernel
theorem dX11_open_2 : decode cX11_open 2 = .ok (.invokevirtual 168, 3) := by decide +kernel
theorem dX11_open_5 : decode cX11_open 5 = .ok (.ifCond .eq 20, 3) := by decide +kernel
theorem dX11_open_8 : decode cX11_open 8 = .ok (.iload_n 2, 1) := by decide +kernel
theorem dX11_open_9 : decode cX11_open 9 = .ok (.ifCond .lt 16, 3) := by decide +kernel
theorem dX11_open_12 : decode cX11_open 12 = .ok (.iload_n 2, 1) := by decide +kernel
theorem dX11_open_13 : decode cX11_open 13 = .ok (.iconst 5, 1) := by decide +kernel
theorem dX11_open_14 : decode cX11_open 14 = .ok (.if_icmp .gt 11, 3) := by decide +kernel
theorem dX11_open_17 : decode cX11_open 17 = .ok (.aload_n 0, 1) := by decide +kernel
theorem dX11_open_18 : decode cX11_open 18 = .ok (.iload_n 3, 1) := by decide +kernel
theorem dX11_open_19 : decode cX11_open 19 = .ok (.invokevirtual 171, 3) := by decide +kernel
theorem dX11_open_22 : decode cX11_open 22 = .ok (.ifCond .ne 13, 3) := by decide +kernel
theorem dX11_open_35 : decode cX11_open 35 = .ok (.aload_n 0, 1) := by decide +kernel
theorem dX11_open_36 : decode cX11_open 36 = .ok (.getfield 46, 3) := by decide +kernel
theorem dX11_open_39 : decode cX11_open 39 = .ok (.invokevirtual 176, 3) := by decide +kernel
theorem dX11_open_42 : decode cX11_open 42 = .ok (.bipush 40, 2) := by decide +kernel
theorem dX11_open_44 : decode cX11_open 44 = .ok (.if_icmp .lt 13, 3) := by decide +kernel
theorem dX11_open_57 : decode cX11_open 57 = .ok (.aload_n 0, 1) := by decide +kernel
theorem dX11_open_58 : decode cX11_open 58 = .ok (.getfield 46, 3) := by decide +kernel
theorem dX11_open_61 : decode cX11_open 61 = .ok (.new 181, 3) := by decide +kernel
theorem dX11_open_64 : decode cX11_open 64 = .ok (.dup, 1) := by decide +kernel
theorem dX11_open_65 : decode cX11_open 65 = .ok (.iload_n 1, 1) := by decide +kernel
theorem dX11_open_66 : decode cX11_open 66 = .ok (.iload_n 2, 1) := by decide +kernel
theorem dX11_open_67 : decode cX11_open 67 = .ok (.iload_n 3, 1) := by decide +kernel
theorem dX11_open_68 : decode cX11_open 68 = .ok (.invokespecial 183, 3) := by decide +kernel
theorem dX11_open_71 : decode cX11_open 71 = .ok (.invokevirtual 186, 3) := by decide +kernel
theorem dX11_open_74 : decode cX11_open 74 = .ok (.pop, 1) := by decide +kernel
theorem dX11_open_75 : decode cX11_open 75 = .ok (.aload_n 0, 1) := by decide +kernel
theorem dX11_open_76 : decode cX11_open 76 = .ok (.getfield 46, 3) := by decide +kernel
theorem dX11_open_79 : decode cX11_open 79 = .ok (.invokevirtual 176, 3) := by decide +kernel
theorem dX11_open_82 : decode cX11_open 82 = .ok (.iconst 1, 1) := by decide +kernel
theorem dX11_open_83 : decode cX11_open 83 = .ok (.isub, 1) := by decide +kernel
theorem dX11_open_84 : decode cX11_open 84 = .ok (.ireturn, 1) := by decide +kernel
set_option maxHeartbeats 400000 in
set_option maxRecDepth 100000 in
theorem c_open (l : Launch) (G : hG) (M : hM) (S : hSy) (h : hHo) (hPv : PV G M S h) (y : Nat) (x1 x2 : Int32) (hy : y ≤ hNow h) (ha0 : ¬ x1 < 0) (ha1 : x1 ≤ 5) (hb0 : ¬ x2 < 0) (hb1 : x2 ≤ 1000000) (hm : sM S < 40) : hCT l G yX11_open cX11_open 4 (Option.some FieldType.int) (hRm 8 4 87) M [.ref (sA S 0), .int (nI y), .int x1, .int x2] (fun v M' => v = some (.int (nI (sM S))) ∧ ∃ r0 r1 q q0, PV G M' (sAdd S (cNew r0 r1 y x1 x2) (aAdd S q q0)) h) := by
  refine hCT.of (own := RX11) (nm := "open") (by decide) rfl rfl (Nat.le_of_ble_eq_true rfl) ?_
  intro p e s m args below meth c ls X Y hl
  have hx := X.1
  have hb := X.2.1
  have hl : lv_has ls 4 [(0, .ref (sA S 0)), (1, .int (nI y)), (2, .int x1), (3, .int x2)] := hl
  have hQv := hPv.1
  obtain ⟨hS, hG1, hHo, hCe, hTr, hnow, hyn⟩ := id hQv
  obtain ⟨hN8, hM40, hLG, hCY⟩ := id hG1
  obtain ⟨hl13, he14, hl15, he16, hLa, hCl⟩ := id hS
  obtain ⟨mc13, hlo13⟩ := id hl13
  obtain ⟨mc15, hlo15⟩ := id hl15
  obtain ⟨ho0, ho1, ho17, ho18, ft19, hft19, ho19⟩ := id hHo
  refine lv_aload_n hx hb dX11_open_0 rfl (lv_at hl 0 rfl) ?_
  refine lv_iload_n hx hb dX11_open_1 rfl (lv_at hl 1 rfl) ?_
  refine h_callVr (rest := []) X Y (c_isYearSoFar l G M S h hQv y (by omega)) rfl rfl gw_X11_168 dsc_X11_isYearSoFar ho0 rfl rfl rfl rfl hl.1 (Nat.le_of_ble_eq_true rfl) ⟨Nat.le_of_ble_eq_true rfl, Nat.le_of_ble_eq_true rfl⟩ ⟨Nat.le_of_ble_eq_true rfl, Nat.le_of_ble_eq_true rfl⟩ dX11_open_2 (fun H locs Y => ?_)
  refine lv_if_eq (tgt := 25) hx hb dX11_open_5 (by decide) (fun c5 => absurd c5 (by decide)) (fun c5 => ?_)
  refine lv_iload_n hx hb dX11_open_8 rfl (lv_at hl 2 rfl) ?_
  refine lv_if_lt (tgt := 25) hx hb dX11_open_9 (by decide) (fun c9 => absurd c9 ha0) (fun c9 => ?_)
  refine lv_iload_n hx hb dX11_open_12 rfl (lv_at hl 2 rfl) ?_
  refine lv_iconst (v := 5) hx hb dX11_open_13 (by decide) ?_
  refine lv_icmp_gt (tgt := 25) hx hb dX11_open_14 (by decide) (fun c14 => absurd ha1 (fb_lt c14)) (fun c14 => ?_)
  refine lv_aload_n hx hb dX11_open_17 rfl (lv_at hl 0 rfl) ?_
  refine lv_iload_n hx hb dX11_open_18 rfl (lv_at hl 3 rfl) ?_
  refine h_callVr (rest := []) X Y (c_isReserve l G M (sA S 0) x2 hb0 hb1) rfl rfl gw_X11_171 dsc_X11_isReserve ho0 rfl rfl rfl rfl hl.1 (Nat.le_of_ble_eq_true rfl) ⟨Nat.le_of_ble_eq_true rfl, Nat.le_of_ble_eq_true rfl⟩ ⟨Nat.le_of_ble_eq_true rfl, Nat.le_of_ble_eq_true rfl⟩ dX11_open_19 (fun H locs Y => ?_)
  refine lv_if_ne (tgt := 35) hx hb dX11_open_22 (by decide) (fun c22 => ?_) (fun c22 => absurd c22 (by decide))
  refine lv_aload_n hx hb dX11_open_35 rfl (lv_at hl 0 rfl) ?_
  refine h_get X Y (k := 5) (v := .ref (sA S 15)) ho0 rfl hin_X11 (by decide) kfl_X11_46 rfl dX11_open_36 ?_
  refine h_callVr (rest := []) X Y (c_size l G M (sA S 15) 15 (sA S 16) (sM S) hl15) rfl rfl gw_X11_176 dsc_Jx4a65c_size_8abf5 hlo15 rfl rfl rfl rfl hl.1 (Nat.le_of_ble_eq_true rfl) ⟨Nat.le_of_ble_eq_true rfl, Nat.le_of_ble_eq_true rfl⟩ ⟨Nat.le_of_ble_eq_true rfl, Nat.le_of_ble_eq_true rfl⟩ dX11_open_39 (fun H locs Y => ?_)
  refine lv_bipush (v := 40) hx hb dX11_open_42 (by decide) ?_
  refine lv_icmp_lt (tgt := 57) hx hb dX11_open_44 (by decide) (fun c44 => ?_) (fun c44 => absurd (show ¬ (sM S) < 40 from fun z9 => c44 ((nI_ltI (a := (sM S)) (b := 40) (by omega) (by omega)).mpr z9)) (by omega))
  have c44 : (sM S) < 40 := (nI_ltI (a := (sM S)) (b := 40) (by omega) (by omega)).mp c44
  have hfr : hFr (fun u => u = 15 ∨ u = 16 ∨ u = 1000 + 10 * sM S) M M := hFr.rf
  refine lv_aload_n hx hb dX11_open_57 rfl (lv_at hl 0 rfl) ?_
  refine h_get X Y (k := 5) (v := .ref (sA S 15)) ho0 rfl hin_X11 (by decide) kfl_X11_46 rfl dX11_open_58 ?_
  refine h_new (ci := 5) X Y (1000 + 10 * sM S) (fs := [.int 0, .int 0, .int 0, .int 0, .int 0, .null, .null]) rfl hin_X3 tyX3_ok kcl_X11_181 kinst_X3 kini_X3 (fun j hj => match j, hj with | 0, _ => rfl | 1, _ => rfl | 2, _ => rfl | 3, _ => rfl | 4, _ => rfl | 5, _ => rfl | 6, _ => rfl | z9 + 7, h9 => absurd h9 (by omega)) (Nat.le_of_ble_eq_true rfl) (Nat.le_of_ble_eq_true rfl) dX11_open_61 (fun qz1 Mz1 H fz1 hg1 Y => ?_)
  have ho0 := hg1 _ _ ho0
  have hlo15 := hg1 _ _ hlo15
  have hfr := hfr.grow hg1
  refine lv_dup hx hb dX11_open_64 rfl ?_
  refine lv_iload_n hx hb dX11_open_65 rfl (lv_at hl 1 rfl) ?_
  refine lv_iload_n hx hb dX11_open_66 rfl (lv_at hl 2 rfl) ?_
  refine lv_iload_n hx hb dX11_open_67 rfl (lv_at hl 3 rfl) ?_
  refine h_callI (rest := [.ref qz1, .ref (sA S 15)]) X Y (c_claimInit l G Mz1 qz1 (1000 + 10 * sM S) y x1 x2 fz1) (hgi0 kco_X3_init) kini_X3 kml_X11_183 kin_X3_init rfl dsc_X3_init.2 rfl hl.1 rfl (Nat.le_of_ble_eq_true rfl) ⟨Nat.le_of_ble_eq_true rfl, Nat.le_of_ble_eq_true rfl⟩ ⟨Nat.le_of_ble_eq_true rfl, Nat.le_of_ble_eq_true rfl⟩ dX11_open_68 ?_
  rintro _ M2 H locs ⟨rfl, r0, r1, hc0, hc1, hc2, hf2⟩ Y
  try dsimp only [Option.toList, List.nil_append]
  have ho0 := hf2 _ _ _ ho0 (by omega)
  have hlo15 := hf2 _ _ _ hlo15 (by omega)
  have hfr : hFr (fun u => u = 15 ∨ u = 16 ∨ u = 1000 + 10 * sM S) M M2 := hfr.tr (hf2.mono (fun u z => Or.inr (Or.inr z)))
  have hf16 : hFr (fun u => u = 1000 + 10 * sM S) M M2 := (hFr.grow hFr.rf hg1).tr hf2
  have hf16 : hFr (fun u => u = 1000 + 10 * sM S) M M2 := hf16
  refine h_callV (rest := []) X Y (c_add l G M2 (sA S 15) 15 16 (sM S) 5 qz1 (1000 + 10 * sM S) mc15 (sA S 16) (fun i => sA S (1000 + 10 * i)) _ hlo15 (by omega) hm tCa_claim (fun i hi => ⟨1000 + 10 * i, _, by omega, by omega, hfr _ _ _ (hCl i hi).1 (by omega)⟩) hc0 (by omega) (by omega) (hPv.2.elim Or.inl (fun ⟨cap, f, z1, z2⟩ => Or.inr ⟨cap, f, hf16 _ _ _ z1 (by omega), z2⟩))) gw_X11_186 dsc_Jx4a65c_add_9ea2d hlo15 rfl rfl rfl hl.1 rfl (Nat.le_of_ble_eq_true rfl) ⟨Nat.le_of_ble_eq_true rfl, Nat.le_of_ble_eq_true rfl⟩ ⟨Nat.le_of_ble_eq_true rfl, Nat.le_of_ble_eq_true rfl⟩ dX11_open_71 ?_
  rintro _ M3 H locs ⟨rfl, q, cap, f, h15, hq, k1, k2, k3, k4, k5, hf3⟩ Y
  try dsimp only [Option.toList, List.singleton_append]
  have ho0 := hf3 _ _ _ ho0 (by omega)
  have hfr : hFr (fun u => u = 15 ∨ u = 16 ∨ u = 1000 + 10 * sM S) M M3 := hfr.tr (hf3.mono (fun u z => by omega))
  have hc0 := hf3 _ _ _ hc0 (by omega)
  have hc1 := hf3 _ _ _ hc1 (by omega)
  have hc2 := hf3 _ _ _ hc2 (by omega)
  refine lv_pop hx hb dX11_open_74 rfl ?_
  refine lv_aload_n hx hb dX11_open_75 rfl (lv_at hl 0 rfl) ?_
  refine h_get X Y (k := 5) (v := .ref (sA S 15)) ho0 rfl hin_X11 (by decide) kfl_X11_46 rfl dX11_open_76 ?_
  refine h_callVr (rest := []) X Y (c_size l G M3 (sA S 15) 15 q (sM S + 1) ⟨_, h15⟩) rfl rfl gw_X11_176 dsc_Jx4a65c_size_8abf5 h15 rfl rfl rfl rfl hl.1 (Nat.le_of_ble_eq_true rfl) ⟨Nat.le_of_ble_eq_true rfl, Nat.le_of_ble_eq_true rfl⟩ ⟨Nat.le_of_ble_eq_true rfl, Nat.le_of_ble_eq_true rfl⟩ dX11_open_79 (fun H locs Y => ?_)
  refine lv_iconst (v := 1) hx hb dX11_open_82 (by decide) ?_
  refine lv_isub hx hb dX11_open_83 ?_
  refine h_ev (y := nI (sM S)) ((pk_sub (show 1 ≤ sM S + 1 by omega)).trans (congrArg nI (by omega))) ?_
  exact h_iret X Y ⟨rfl, r0, r1, q, qz1, hPv.add hm hfr h15 hq k1 k2 k3 k4 k5 ⟨hc0, hc1, hc2⟩ hy⟩ (Nat.le_of_ble_eq_true rfl) (Nat.le_of_ble_eq_true rfl) dX11_open_84
theorem dX11_pay_0 : decode cX11_pay 0 = .ok (.aload_n 0, 1) := by decide +kernel
theorem dX11_pay_1 : decode cX11_pay 1 = .ok (.iload_n 1, 1) := by decide +kernel
theorem dX11_pay_2 : decode cX11_pay 2 = .ok (.invokevirtual 190, 3) := by decide +kernel
theorem dX11_pay_5 : decode cX11_pay 5 = .ok (.ifCond .ne 13, 3) := by decide +kernel
theorem dX11_pay_18 : decode cX11_pay 18 = .ok (.iload_n 2, 1) := by decide +kernel
theorem dX11_pay_19 : decode cX11_pay 19 = .ok (.iconst 1, 1) := by decide +kernel
theorem dX11_pay_20 : decode cX11_pay 20 = .ok (.if_icmp .lt 9, 3) := by decide +kernel
theorem dX11_pay_23 : decode cX11_pay 23 = .ok (.iload_n 2, 1) := by decide +kernel
theorem dX11_pay_24 : decode cX11_pay 24 = .ok (.ldc 195, 2) := by decide +kernel
theorem dX11_pay_26 : decode cX11_pay 26 = .ok (.if_icmp .le 13, 3) := by decide +kernel
theorem dX11_pay_39 : decode cX11_pay 39 = .ok (.aload_n 0, 1) := by decide +kernel
theorem dX11_pay_40 : decode cX11_pay 40 = .ok (.getfield 46, 3) := by decide +kernel
theorem dX11_pay_43 : decode cX11_pay 43 = .ok (.iload_n 1, 1) := by decide +kernel
theorem dX11_pay_44 : decode cX11_pay 44 = .ok (.invokevirtual 150, 3) := by decide +kernel
theorem dX11_pay_47 : decode cX11_pay 47 = .ok (.checkcast 181, 3) := by decide +kernel
theorem dX11_pay_50 : decode cX11_pay 50 = .ok (.astore_n 3, 1) := by decide +kernel
theorem dX11_pay_51 : decode cX11_pay 51 = .ok (.aload_n 3, 1) := by decide +kernel
theorem dX11_pay_52 : decode cX11_pay 52 = .ok (.getfield 198, 3) := by decide +kernel
theorem dX11_pay_55 : decode cX11_pay 55 = .ok (.ifCond .eq 14, 3) := by decide +kernel
theorem dX11_pay_58 : decode cX11_pay 58 = .ok (.aload_n 3, 1) := by decide +kernel
theorem dX11_pay_59 : decode cX11_pay 59 = .ok (.getfield 202, 3) := by decide +kernel
theorem dX11_pay_62 : decode cX11_pay 62 = .ok (.iload_n 2, 1) := by decide +kernel
theorem dX11_pay_63 : decode cX11_pay 63 = .ok (.iadd, 1) := by decide +kernel
theorem dX11_pay_64 : decode cX11_pay 64 = .ok (.ldc 195, 2) := by decide +kernel
theorem dX11_pay_66 : decode cX11_pay 66 = .ok (.if_icmp .le 13, 3) := by decide +kernel
theorem dX11_pay_79 : decode cX11_pay 79 = .ok (.aload_n 3, 1) := by decide +kernel
theorem dX11_pay_80 : decode cX11_pay 80 = .ok (.dup, 1) := by decide +kernel
theorem dX11_pay_81 : decode cX11_pay 81 = .ok (.getfield 202, 3) := by decide +kernel
theorem dX11_pay_84 : decode cX11_pay 84 = .ok (.iload_n 2, 1) := by decide +kernel
theorem dX11_pay_85 : decode cX11_pay 85 = .ok (.iadd, 1) := by decide +kernel
theorem dX11_pay_86 : decode cX11_pay 86 = .ok (.putfield 202, 3) := by decide +kernel
theorem dX11_pay_89 : decode cX11_pay 89 = .ok (.aload_n 3, 1) := by decide +kernel
theorem dX11_pay_90 : decode cX11_pay 90 = .ok (.aload_n 3, 1) := by decide +kernel
theorem dX11_pay_91 : decode cX11_pay 91 = .ok (.getfield 207, 3) := by decide +kernel
theorem dX11_pay_94 : decode cX11_pay 94 = .ok (.iload_n 2, 1) := by decide +kernel
theorem dX11_pay_95 : decode cX11_pay 95 = .ok (.isub, 1) := by decide +kernel
theorem dX11_pay_96 : decode cX11_pay 96 = .ok (.iconst 0, 1) := by decide +kernel
theorem dX11_pay_97 : decode cX11_pay 97 = .ok (.invokestatic 210, 3) := by decide +kernel
theorem dX11_pay_100 : decode cX11_pay 100 = .ok (.putfield 207, 3) := by decide +kernel
theorem dX11_pay_103 : decode cX11_pay 103 = .ok (.aload_n 3, 1) := by decide +kernel
theorem dX11_pay_104 : decode cX11_pay 104 = .ok (.getfield 202, 3) := by decide +kernel
theorem dX11_pay_107 : decode cX11_pay 107 = .ok (.ireturn, 1) := by decide +kernel
set_option maxHeartbeats 400000 in
set_option maxRecDepth 100000 in
theorem c_pay (l : Launch) (G : hG) (M : hM) (S : hSy) (h : hHo) (hPv : PV G M S h) (i : Nat) (x : Int32) (hi : i < sM S) (hx0 : ¬ x < 1) (hx1 : x ≤ 1000000) (hop : ¬ clI (sC S i) 3 = 0) (hpa : clI (sC S i) 1 + x ≤ 1000000) : hCT l G yX11_pay cX11_pay 4 (Option.some FieldType.int) (hRm 6 0 0) M [.ref (sA S 0), .int (nI i), .int x] (fun v M' => v = some (.int (clI (sC S i) 1 + x)) ∧ PV G M' (sUp S i (cPay (sC S i) x)) h) := by
  refine hCT.of (own := RX11) (nm := "pay") (by decide) rfl rfl (Nat.le_of_ble_eq_true rfl) ?_
  intro p e s m args below meth c ls X Y hl
  have hx := X.1
  have hb := X.2.1
  have hl : lv_has ls 4 [(0, .ref (sA S 0)), (1, .int (nI i)), (2, .int x)] := hl
  have hQv := hPv.1
  obtain ⟨hS, hG1, hHo, hCe, hTr, hnow, hyn⟩ := id hQv
  obtain ⟨hN8, hM40, hLG, hCY⟩ := id hG1
  obtain ⟨hl13, he14, hl15, he16, hLa, hCl⟩ := id hS
  obtain ⟨mc13, hlo13⟩ := id hl13
  obtain ⟨mc15, hlo15⟩ := id hl15
  obtain ⟨ho0, ho1, ho17, ho18, ft19, hft19, ho19⟩ := id hHo
  refine lv_aload_n hx hb dX11_pay_0 rfl (lv_at hl 0 rfl) ?_
  refine lv_iload_n hx hb dX11_pay_1 rfl (lv_at hl 1 rfl) ?_
  refine h_callVr (rest := []) X Y (c_hasClaim l G M S h hQv i (by omega)) rfl rfl gw_X11_190 dsc_X11_hasClaim ho0 rfl rfl rfl rfl hl.1 (Nat.le_of_ble_eq_true rfl) ⟨Nat.le_of_ble_eq_true rfl, Nat.le_of_ble_eq_true rfl⟩ ⟨Nat.le_of_ble_eq_true rfl, Nat.le_of_ble_eq_true rfl⟩ dX11_pay_2 (fun H locs Y => ?_)
  refine lv_if_ne (tgt := 18) hx hb dX11_pay_5 (by decide) (fun c5 => ?_) (fun c5 => absurd c5 (by decide))
  refine lv_iload_n hx hb dX11_pay_18 rfl (lv_at hl 2 rfl) ?_
  refine lv_iconst (v := 1) hx hb dX11_pay_19 (by decide) ?_
  refine lv_icmp_lt (tgt := 29) hx hb dX11_pay_20 (by decide) (fun c20 => absurd c20 hx0) (fun c20 => ?_)
  refine lv_iload_n hx hb dX11_pay_23 rfl (lv_at hl 2 rfl) ?_
  refine lv_ldc hx hb X.2.2.2.2.1 (X.2.2.2.2.2.1 _ kcI_X11_195) dX11_pay_24 ?_
  refine lv_icmp_le (tgt := 39) hx hb dX11_pay_26 (by decide) (fun c26 => ?_) (fun c26 => absurd hx1 c26)
  refine lv_aload_n hx hb dX11_pay_39 rfl (lv_at hl 0 rfl) ?_
  refine h_get X Y (k := 5) (v := .ref (sA S 15)) ho0 rfl hin_X11 (by decide) kfl_X11_46 rfl dX11_pay_40 ?_
  refine lv_iload_n hx hb dX11_pay_43 rfl (lv_at hl 1 rfl) ?_
  refine h_callVr (rest := []) X Y (c_get l G M (sA S 15) 15 (sA S 16) 16 (sM S) i (fun i => sA S (1000 + 10 * i)) hl15 (he16 (by omega)) (by omega)) rfl rfl gw_X11_150 dsc_Jx4a65c_get_915e3 hlo15 rfl rfl rfl rfl hl.1 (Nat.le_of_ble_eq_true rfl) ⟨Nat.le_of_ble_eq_true rfl, Nat.le_of_ble_eq_true rfl⟩ ⟨Nat.le_of_ble_eq_true rfl, Nat.le_of_ble_eq_true rfl⟩ dX11_pay_44 (fun H locs Y => ?_)
  have hc0 := (hCl i hi).1
  have hfr : hFr (fun u => u = 1000 + 10 * i) M M := hFr.rf
  refine h_cast X Y hc0 rfl rfl kcl_X11_181 dX11_pay_47 ?_
  refine lv_astore_n (lv' := [(3, .ref (sA S (1000 + 10 * i))), (0, .ref (sA S 0)), (1, .int (nI i)), (2, .int x)]) hx hb dX11_pay_50 rfl hl (by decide) rfl (fun ls hl => ?_)
  refine lv_aload_n hx hb dX11_pay_51 rfl (lv_at hl 0 rfl) ?_
  refine h_get X Y (k := 4) (v := .int (clI (sC S i) 3)) hc0 rfl hin_X3 (by decide) kfl_X11_198 rfl dX11_pay_52 ?_
  refine lv_if_eq (tgt := 69) hx hb dX11_pay_55 (by decide) (fun c55 => absurd c55 hop) (fun c55 => ?_)
  refine lv_aload_n hx hb dX11_pay_58 rfl (lv_at hl 0 rfl) ?_
  refine h_get X Y (k := 2) (v := .int (clI (sC S i) 1)) hc0 rfl hin_X3 (by decide) kfl_X11_202 rfl dX11_pay_59 ?_
  refine lv_iload_n hx hb dX11_pay_62 rfl (lv_at hl 3 rfl) ?_
  refine lv_iadd hx hb dX11_pay_63 ?_
  refine lv_ldc hx hb X.2.2.2.2.1 (X.2.2.2.2.2.1 _ kcI_X11_195) dX11_pay_64 ?_
  refine lv_icmp_le (tgt := 79) hx hb dX11_pay_66 (by decide) (fun c66 => ?_) (fun c66 => absurd hpa c66)
  refine lv_aload_n hx hb dX11_pay_79 rfl (lv_at hl 0 rfl) ?_
  refine lv_dup hx hb dX11_pay_80 rfl ?_
  refine h_get X Y (k := 2) (v := .int (clI (sC S i) 1)) hc0 rfl hin_X3 (by decide) kfl_X11_202 rfl dX11_pay_81 ?_
  refine lv_iload_n hx hb dX11_pay_84 rfl (lv_at hl 3 rfl) ?_
  refine lv_iadd hx hb dX11_pay_85 ?_
  refine h_put X Y (k := 2) (v := .int ((clI (sC S i) 1) + x)) hc0 rfl hin_X3 tyX3_ok nmX3 (by decide) kfl_X11_202 rfl rfl rfl (Nat.le_of_ble_eq_true rfl) dX11_pay_86 (fun H locs Y => ?_)
  have Y : hHS G (hup M (sA S (1000 + 10 * i)) (1000 + 10 * i, .inr (5, [.int (nI (clY (sC S i))), .int (clI (sC S i) 0), .int ((clI (sC S i) 1) + x), .int (clI (sC S i) 2), .int (clI (sC S i) 3), .ref (clA (sC S i) 0), .ref (clA (sC S i) 1)]))) s H locs := Y
  have hfr := hfr.put (x := (1000 + 10 * i, .inr (5, [.int (nI (clY (sC S i))), .int (clI (sC S i) 0), .int ((clI (sC S i) 1) + x), .int (clI (sC S i) 2), .int (clI (sC S i) 3), .ref (clA (sC S i) 0), .ref (clA (sC S i) 1)]))) hc0 rfl
  have hc0 : hup M (sA S (1000 + 10 * i)) (1000 + 10 * i, .inr (5, [.int (nI (clY (sC S i))), .int (clI (sC S i) 0), .int ((clI (sC S i) 1) + x), .int (clI (sC S i) 2), .int (clI (sC S i) 3), .ref (clA (sC S i) 0), .ref (clA (sC S i) 1)])) (sA S (1000 + 10 * i)) = some (1000 + 10 * i, .inr (5, [.int (nI (clY (sC S i))), .int (clI (sC S i) 0), .int ((clI (sC S i) 1) + x), .int (clI (sC S i) 2), .int (clI (sC S i) 3), .ref (clA (sC S i) 0), .ref (clA (sC S i) 1)])) := hup_eq
  generalize hup M (sA S (1000 + 10 * i)) (1000 + 10 * i, .inr (5, [.int (nI (clY (sC S i))), .int (clI (sC S i) 0), .int ((clI (sC S i) 1) + x), .int (clI (sC S i) 2), .int (clI (sC S i) 3), .ref (clA (sC S i) 0), .ref (clA (sC S i) 1)])) = Mz1 at Y hc0 hfr
  refine lv_aload_n hx hb dX11_pay_89 rfl (lv_at hl 0 rfl) ?_
  refine lv_aload_n hx hb dX11_pay_90 rfl (lv_at hl 0 rfl) ?_
  refine h_get X Y (k := 3) (v := .int (clI (sC S i) 2)) hc0 rfl hin_X3 (by decide) kfl_X11_207 rfl dX11_pay_91 ?_
  refine lv_iload_n hx hb dX11_pay_94 rfl (lv_at hl 3 rfl) ?_
  refine lv_isub hx hb dX11_pay_95 ?_
  refine lv_iconst (v := 0) hx hb dX11_pay_96 (by decide) ?_
  refine h_mmax X kml_X11_210 hl.1 (Nat.le_of_ble_eq_true rfl) (Nat.le_of_ble_eq_true rfl) ⟨Nat.le_of_ble_eq_true rfl, Nat.le_of_ble_eq_true rfl⟩ dX11_pay_97 ?_
  refine h_put X Y (k := 3) (v := .int (sMax ((clI (sC S i) 2) - x) 0)) hc0 rfl hin_X3 tyX3_ok nmX3 (by decide) kfl_X11_207 rfl rfl rfl (Nat.le_of_ble_eq_true rfl) dX11_pay_100 (fun H locs Y => ?_)
  have Y : hHS G (hup Mz1 (sA S (1000 + 10 * i)) (1000 + 10 * i, .inr (5, [.int (nI (clY (sC S i))), .int (clI (sC S i) 0), .int ((clI (sC S i) 1) + x), .int (sMax ((clI (sC S i) 2) - x) 0), .int (clI (sC S i) 3), .ref (clA (sC S i) 0), .ref (clA (sC S i) 1)]))) s H locs := Y
  have hfr := hfr.put (x := (1000 + 10 * i, .inr (5, [.int (nI (clY (sC S i))), .int (clI (sC S i) 0), .int ((clI (sC S i) 1) + x), .int (sMax ((clI (sC S i) 2) - x) 0), .int (clI (sC S i) 3), .ref (clA (sC S i) 0), .ref (clA (sC S i) 1)]))) hc0 rfl
  have hc0 : hup Mz1 (sA S (1000 + 10 * i)) (1000 + 10 * i, .inr (5, [.int (nI (clY (sC S i))), .int (clI (sC S i) 0), .int ((clI (sC S i) 1) + x), .int (sMax ((clI (sC S i) 2) - x) 0), .int (clI (sC S i) 3), .ref (clA (sC S i) 0), .ref (clA (sC S i) 1)])) (sA S (1000 + 10 * i)) = some (1000 + 10 * i, .inr (5, [.int (nI (clY (sC S i))), .int (clI (sC S i) 0), .int ((clI (sC S i) 1) + x), .int (sMax ((clI (sC S i) 2) - x) 0), .int (clI (sC S i) 3), .ref (clA (sC S i) 0), .ref (clA (sC S i) 1)])) := hup_eq
  generalize hup Mz1 (sA S (1000 + 10 * i)) (1000 + 10 * i, .inr (5, [.int (nI (clY (sC S i))), .int (clI (sC S i) 0), .int ((clI (sC S i) 1) + x), .int (sMax ((clI (sC S i) 2) - x) 0), .int (clI (sC S i) 3), .ref (clA (sC S i) 0), .ref (clA (sC S i) 1)])) = Mz2 at Y hc0 hfr
  refine lv_aload_n hx hb dX11_pay_103 rfl (lv_at hl 0 rfl) ?_
  refine h_get X Y (k := 2) (v := .int ((clI (sC S i) 1) + x)) hc0 rfl hin_X3 (by decide) kfl_X11_202 rfl dX11_pay_104 ?_
  exact h_iret X Y ⟨rfl, hPv.up hi (hfr.mono (fun u z => by omega)) ⟨hc0, hfr _ _ _ (hCl i hi).2.1 (by omega), hfr _ _ _ (hCl i hi).2.2 (by omega)⟩ rfl⟩ (Nat.le_of_ble_eq_true rfl) (Nat.le_of_ble_eq_true rfl) dX11_pay_107
theorem dX11_setReserve_0 : decode cX11_setReserve 0 = .ok (.aload_n 0, 1) := by decide +kernel
theorem dX11_setReserve_1 : decode cX11_setReserve 1 = .ok (.iload_n 1, 1) := by decide +kernel
theorem dX11_setReserve_2 : decode cX11_setReserve 2 = .ok (.invokevirtual 190, 3) := by decide +kernel
theorem dX11_setReserve_5 : decode cX11_setReserve 5 = .ok (.ifCond .ne 13, 3) := by decide +kernel
theorem dX11_setReserve_18 : decode cX11_setReserve 18 = .ok (.aload_n 0, 1) := by decide +kernel
theorem dX11_setReserve_19 : decode cX11_setReserve 19 = .ok (.iload_n 2, 1) := by decide +kernel
theorem dX11_setReserve_20 : decode cX11_setReserve 20 = .ok (.invokevirtual 171, 3) := by decide +kernel
theorem dX11_setReserve_23 : decode cX11_setReserve 23 = .ok (.ifCond .ne 13, 3) := by decide +kernel
theorem dX11_setReserve_36 : decode cX11_setReserve 36 = .ok (.aload_n 0, 1) := by decide +kernel
theorem dX11_setReserve_37 : decode cX11_setReserve 37 = .ok (.getfield 46, 3) := by decide +kernel
theorem dX11_setReserve_40 : decode cX11_setReserve 40 = .ok (.iload_n 1, 1) := by decide +kernel
theorem dX11_setReserve_41 : decode cX11_setReserve 41 = .ok (.invokevirtual 150, 3) := by decide +kernel
theorem dX11_setReserve_44 : decode cX11_setReserve 44 = .ok (.checkcast 181, 3) := by decide +kernel
theorem dX11_setReserve_47 : decode cX11_setReserve 47 = .ok (.astore_n 3, 1) := by decide +kernel
theorem dX11_setReserve_48 : decode cX11_setReserve 48 = .ok (.aload_n 3, 1) := by decide +kernel
theorem dX11_setReserve_49 : decode cX11_setReserve 49 = .ok (.getfield 198, 3) := by decide +kernel
theorem dX11_setReserve_52 : decode cX11_setReserve 52 = .ok (.ifCond .ne 13, 3) := by decide +kernel
theorem dX11_setReserve_65 : decode cX11_setReserve 65 = .ok (.aload_n 3, 1) := by decide +kernel
theorem dX11_setReserve_66 : decode cX11_setReserve 66 = .ok (.getfield 207, 3) := by decide +kernel
theorem dX11_setReserve_69 : decode cX11_setReserve 69 = .ok (.istore 4, 2) := by decide +kernel
theorem dX11_setReserve_71 : decode cX11_setReserve 71 = .ok (.aload_n 3, 1) := by decide +kernel
theorem dX11_setReserve_72 : decode cX11_setReserve 72 = .ok (.iload_n 2, 1) := by decide +kernel
theorem dX11_setReserve_73 : decode cX11_setReserve 73 = .ok (.putfield 207, 3) := by decide +kernel
theorem dX11_setReserve_76 : decode cX11_setReserve 76 = .ok (.iload 4, 2) := by decide +kernel
theorem dX11_setReserve_78 : decode cX11_setReserve 78 = .ok (.ireturn, 1) := by decide +kernel
set_option maxHeartbeats 400000 in
set_option maxRecDepth 100000 in
theorem c_setReserve (l : Launch) (G : hG) (M : hM) (S : hSy) (h : hHo) (hPv : PV G M S h) (i : Nat) (x : Int32) (hi : i < sM S) (hx0 : ¬ x < 0) (hx1 : x ≤ 1000000) (hop : ¬ clI (sC S i) 3 = 0) : hCT l G yX11_setReserve cX11_setReserve 5 (Option.some FieldType.int) (hRm 6 0 0) M [.ref (sA S 0), .int (nI i), .int x] (fun v M' => v = some (.int (clI (sC S i) 2)) ∧ PV G M' (sUp S i (cSet (sC S i) x)) h) := by
  refine hCT.of (own := RX11) (nm := "setReserve") (by decide) rfl rfl (Nat.le_of_ble_eq_true rfl) ?_
  intro p e s m args below meth c ls X Y hl
  have hx := X.1
  have hb := X.2.1
  have hl : lv_has ls 5 [(0, .ref (sA S 0)), (1, .int (nI i)), (2, .int x)] := hl
  have hQv := hPv.1
  obtain ⟨hS, hG1, hHo, hCe, hTr, hnow, hyn⟩ := id hQv
  obtain ⟨hN8, hM40, hLG, hCY⟩ := id hG1
  obtain ⟨hl13, he14, hl15, he16, hLa, hCl⟩ := id hS
  obtain ⟨mc13, hlo13⟩ := id hl13
  obtain ⟨mc15, hlo15⟩ := id hl15
  obtain ⟨ho0, ho1, ho17, ho18, ft19, hft19, ho19⟩ := id hHo
  refine lv_aload_n hx hb dX11_setReserve_0 rfl (lv_at hl 0 rfl) ?_
  refine lv_iload_n hx hb dX11_setReserve_1 rfl (lv_at hl 1 rfl) ?_
  refine h_callVr (rest := []) X Y (c_hasClaim l G M S h hQv i (by omega)) rfl rfl gw_X11_190 dsc_X11_hasClaim ho0 rfl rfl rfl rfl hl.1 (Nat.le_of_ble_eq_true rfl) ⟨Nat.le_of_ble_eq_true rfl, Nat.le_of_ble_eq_true rfl⟩ ⟨Nat.le_of_ble_eq_true rfl, Nat.le_of_ble_eq_true rfl⟩ dX11_setReserve_2 (fun H locs Y => ?_)
  refine lv_if_ne (tgt := 18) hx hb dX11_setReserve_5 (by decide) (fun c5 => ?_) (fun c5 => absurd c5 (by decide))
  refine lv_aload_n hx hb dX11_setReserve_18 rfl (lv_at hl 0 rfl) ?_
  refine lv_iload_n hx hb dX11_setReserve_19 rfl (lv_at hl 2 rfl) ?_
  refine h_callVr (rest := []) X Y (c_isReserve l G M (sA S 0) x hx0 hx1) rfl rfl gw_X11_171 dsc_X11_isReserve ho0 rfl rfl rfl rfl hl.1 (Nat.le_of_ble_eq_true rfl) ⟨Nat.le_of_ble_eq_true rfl, Nat.le_of_ble_eq_true rfl⟩ ⟨Nat.le_of_ble_eq_true rfl, Nat.le_of_ble_eq_true rfl⟩ dX11_setReserve_20 (fun H locs Y => ?_)
  refine lv_if_ne (tgt := 36) hx hb dX11_setReserve_23 (by decide) (fun c23 => ?_) (fun c23 => absurd c23 (by decide))
  refine lv_aload_n hx hb dX11_setReserve_36 rfl (lv_at hl 0 rfl) ?_
  refine h_get X Y (k := 5) (v := .ref (sA S 15)) ho0 rfl hin_X11 (by decide) kfl_X11_46 rfl dX11_setReserve_37 ?_
  refine lv_iload_n hx hb dX11_setReserve_40 rfl (lv_at hl 1 rfl) ?_
  refine h_callVr (rest := []) X Y (c_get l G M (sA S 15) 15 (sA S 16) 16 (sM S) i (fun i => sA S (1000 + 10 * i)) hl15 (he16 (by omega)) (by omega)) rfl rfl gw_X11_150 dsc_Jx4a65c_get_915e3 hlo15 rfl rfl rfl rfl hl.1 (Nat.le_of_ble_eq_true rfl) ⟨Nat.le_of_ble_eq_true rfl, Nat.le_of_ble_eq_true rfl⟩ ⟨Nat.le_of_ble_eq_true rfl, Nat.le_of_ble_eq_true rfl⟩ dX11_setReserve_41 (fun H locs Y => ?_)
  refine h_cast X Y (hCl i (by omega)).1 rfl rfl kcl_X11_181 dX11_setReserve_44 ?_
  have hc0 := (hCl i hi).1
  have hfr : hFr (fun u => u = 1000 + 10 * i) M M := hFr.rf
  refine lv_astore_n (lv' := [(3, .ref (sA S (1000 + 10 * i))), (0, .ref (sA S 0)), (1, .int (nI i)), (2, .int x)]) hx hb dX11_setReserve_47 rfl hl (by decide) rfl (fun ls hl => ?_)
  refine lv_aload_n hx hb dX11_setReserve_48 rfl (lv_at hl 0 rfl) ?_
  refine h_get X Y (k := 4) (v := .int (clI (sC S i) 3)) hc0 rfl hin_X3 (by decide) kfl_X11_198 rfl dX11_setReserve_49 ?_
  refine lv_if_ne (tgt := 65) hx hb dX11_setReserve_52 (by decide) (fun c52 => ?_) (fun c52 => absurd c52 hop)
  refine lv_aload_n hx hb dX11_setReserve_65 rfl (lv_at hl 0 rfl) ?_
  refine h_get X Y (k := 3) (v := .int (clI (sC S i) 2)) hc0 rfl hin_X3 (by decide) kfl_X11_207 rfl dX11_setReserve_66 ?_
  refine lv_istore (lv' := [(4, .int (clI (sC S i) 2)), (3, .ref (sA S (1000 + 10 * i))), (0, .ref (sA S 0)), (1, .int (nI i)), (2, .int x)]) hx hb dX11_setReserve_69 hl (by decide) rfl (fun ls hl => ?_)
  refine lv_aload_n hx hb dX11_setReserve_71 rfl (lv_at hl 1 rfl) ?_
  refine lv_iload_n hx hb dX11_setReserve_72 rfl (lv_at hl 4 rfl) ?_
  refine h_put X Y (k := 3) (v := .int x) hc0 rfl hin_X3 tyX3_ok nmX3 (by decide) kfl_X11_207 rfl rfl rfl (Nat.le_of_ble_eq_true rfl) dX11_setReserve_73 (fun H locs Y => ?_)
  have Y : hHS G (hup M (sA S (1000 + 10 * i)) (1000 + 10 * i, .inr (5, [.int (nI (clY (sC S i))), .int (clI (sC S i) 0), .int (clI (sC S i) 1), .int x, .int (clI (sC S i) 3), .ref (clA (sC S i) 0), .ref (clA (sC S i) 1)]))) s H locs := Y
  have hfr := hfr.put (x := (1000 + 10 * i, .inr (5, [.int (nI (clY (sC S i))), .int (clI (sC S i) 0), .int (clI (sC S i) 1), .int x, .int (clI (sC S i) 3), .ref (clA (sC S i) 0), .ref (clA (sC S i) 1)]))) hc0 rfl
  have hc0 : hup M (sA S (1000 + 10 * i)) (1000 + 10 * i, .inr (5, [.int (nI (clY (sC S i))), .int (clI (sC S i) 0), .int (clI (sC S i) 1), .int x, .int (clI (sC S i) 3), .ref (clA (sC S i) 0), .ref (clA (sC S i) 1)])) (sA S (1000 + 10 * i)) = some (1000 + 10 * i, .inr (5, [.int (nI (clY (sC S i))), .int (clI (sC S i) 0), .int (clI (sC S i) 1), .int x, .int (clI (sC S i) 3), .ref (clA (sC S i) 0), .ref (clA (sC S i) 1)])) := hup_eq
  generalize hup M (sA S (1000 + 10 * i)) (1000 + 10 * i, .inr (5, [.int (nI (clY (sC S i))), .int (clI (sC S i) 0), .int (clI (sC S i) 1), .int x, .int (clI (sC S i) 3), .ref (clA (sC S i) 0), .ref (clA (sC S i) 1)])) = Mz1 at Y hc0 hfr
  refine lv_iload hx hb dX11_setReserve_76 (lv_at hl 0 rfl) ?_
  exact h_iret X Y ⟨rfl, hPv.up hi (hfr.mono (fun u z => by omega)) ⟨hc0, hfr _ _ _ (hCl i hi).2.1 (by omega), hfr _ _ _ (hCl i hi).2.2 (by omega)⟩ rfl⟩ (Nat.le_of_ble_eq_true rfl) (Nat.le_of_ble_eq_true rfl) dX11_setReserve_78
theorem dX11_close_0 : decode cX11_close 0 = .ok (.aload_n 0, 1) := by decide +kernel
theorem dX11_close_1 : decode cX11_close 1 = .ok (.iload_n 1, 1) := by decide +kernel
theorem dX11_close_2 : decode cX11_close 2 = .ok (.invokevirtual 190, 3) := by decide +kernel
theorem dX11_close_5 : decode cX11_close 5 = .ok (.ifCond .ne 13, 3) := by decide +kernel
theorem dX11_close_18 : decode cX11_close 18 = .ok (.aload_n 0, 1) := by decide +kernel
theorem dX11_close_19 : decode cX11_close 19 = .ok (.getfield 46, 3) := by decide +kernel
theorem dX11_close_22 : decode cX11_close 22 = .ok (.iload_n 1, 1) := by decide +kernel
theorem dX11_close_23 : decode cX11_close 23 = .ok (.invokevirtual 150, 3) := by decide +kernel
theorem dX11_close_26 : decode cX11_close 26 = .ok (.checkcast 181, 3) := by decide +kernel
theorem dX11_close_29 : decode cX11_close 29 = .ok (.astore_n 3, 1) := by decide +kernel
theorem dX11_close_30 : decode cX11_close 30 = .ok (.aload_n 3, 1) := by decide +kernel
theorem dX11_close_31 : decode cX11_close 31 = .ok (.getfield 207, 3) := by decide +kernel
theorem dX11_close_34 : decode cX11_close 34 = .ok (.istore 4, 2) := by decide +kernel
theorem dX11_close_36 : decode cX11_close 36 = .ok (.aload_n 3, 1) := by decide +kernel
theorem dX11_close_37 : decode cX11_close 37 = .ok (.iload_n 2, 1) := by decide +kernel
theorem dX11_close_38 : decode cX11_close 38 = .ok (.ifCond .ne 7, 3) := by decide +kernel
theorem dX11_close_41 : decode cX11_close 41 = .ok (.iconst 1, 1) := by decide +kernel
theorem dX11_close_42 : decode cX11_close 42 = .ok (.goto 4, 3) := by decide +kernel
theorem dX11_close_45 : decode cX11_close 45 = .ok (.iconst 0, 1) := by decide +kernel
theorem dX11_close_46 : decode cX11_close 46 = .ok (.putfield 198, 3) := by decide +kernel
theorem dX11_close_49 : decode cX11_close 49 = .ok (.iload_n 2, 1) := by decide +kernel
theorem dX11_close_50 : decode cX11_close 50 = .ok (.ifCond .eq 8, 3) := by decide +kernel
theorem dX11_close_53 : decode cX11_close 53 = .ok (.aload_n 3, 1) := by decide +kernel
theorem dX11_close_54 : decode cX11_close 54 = .ok (.iconst 0, 1) := by decide +kernel
theorem dX11_close_55 : decode cX11_close 55 = .ok (.putfield 207, 3) := by decide +kernel
theorem dX11_close_58 : decode cX11_close 58 = .ok (.iload 4, 2) := by decide +kernel
theorem dX11_close_60 : decode cX11_close 60 = .ok (.ireturn, 1) := by decide +kernel
set_option maxHeartbeats 400000 in
set_option maxRecDepth 100000 in
theorem c_close (l : Launch) (G : hG) (M : hM) (S : hSy) (h : hHo) (hPv : PV G M S h) (i : Nat) (z : Bool) (hi : i < sM S) : hCT l G yX11_close cX11_close 5 (Option.some FieldType.int) (hRm 6 0 0) M [.ref (sA S 0), .int (nI i), .int (bI z)] (fun v M' => v = some (.int (clI (sC S i) 2)) ∧ PV G M' (sUp S i (cClose (sC S i) z)) h) := by
  refine hCT.of (own := RX11) (nm := "close") (by decide) rfl rfl (Nat.le_of_ble_eq_true rfl) ?_
  intro p e s m args below meth c ls X Y hl
  have hx := X.1
  have hb := X.2.1
  have hl : lv_has ls 5 [(0, .ref (sA S 0)), (1, .int (nI i)), (2, .int (bI z))] := hl
  have hQv := hPv.1
  obtain ⟨hS, hG1, hHo, hCe, hTr, hnow, hyn⟩ := id hQv
  obtain ⟨hN8, hM40, hLG, hCY⟩ := id hG1
  obtain ⟨hl13, he14, hl15, he16, hLa, hCl⟩ := id hS
  obtain ⟨mc13, hlo13⟩ := id hl13
  obtain ⟨mc15, hlo15⟩ := id hl15
  obtain ⟨ho0, ho1, ho17, ho18, ft19, hft19, ho19⟩ := id hHo
  cases z with
  | false =>
    have hl : lv_has ls 5 [(0, .ref (sA S 0)), (1, .int (nI i)), (2, .int 0)] := hl
    refine lv_aload_n hx hb dX11_close_0 rfl (lv_at hl 0 rfl) ?_
    refine lv_iload_n hx hb dX11_close_1 rfl (lv_at hl 1 rfl) ?_
    refine h_callVr (rest := []) X Y (c_hasClaim l G M S h hQv i (by omega)) rfl rfl gw_X11_190 dsc_X11_hasClaim ho0 rfl rfl rfl rfl hl.1 (Nat.le_of_ble_eq_true rfl) ⟨Nat.le_of_ble_eq_true rfl, Nat.le_of_ble_eq_true rfl⟩ ⟨Nat.le_of_ble_eq_true rfl, Nat.le_of_ble_eq_true rfl⟩ dX11_close_2 (fun H locs Y => ?_)
    refine lv_if_ne (tgt := 18) hx hb dX11_close_5 (by decide) (fun c5 => ?_) (fun c5 => absurd c5 (by decide))
    refine lv_aload_n hx hb dX11_close_18 rfl (lv_at hl 0 rfl) ?_
    refine h_get X Y (k := 5) (v := .ref (sA S 15)) ho0 rfl hin_X11 (by decide) kfl_X11_46 rfl dX11_close_19 ?_
    refine lv_iload_n hx hb dX11_close_22 rfl (lv_at hl 1 rfl) ?_
    refine h_callVr (rest := []) X Y (c_get l G M (sA S 15) 15 (sA S 16) 16 (sM S) i (fun i => sA S (1000 + 10 * i)) hl15 (he16 (by omega)) (by omega)) rfl rfl gw_X11_150 dsc_Jx4a65c_get_915e3 hlo15 rfl rfl rfl rfl hl.1 (Nat.le_of_ble_eq_true rfl) ⟨Nat.le_of_ble_eq_true rfl, Nat.le_of_ble_eq_true rfl⟩ ⟨Nat.le_of_ble_eq_true rfl, Nat.le_of_ble_eq_true rfl⟩ dX11_close_23 (fun H locs Y => ?_)
    refine h_cast X Y (hCl i (by omega)).1 rfl rfl kcl_X11_181 dX11_close_26 ?_
    have hc0 := (hCl i hi).1
    have hfr : hFr (fun u => u = 1000 + 10 * i) M M := hFr.rf
    refine lv_astore_n (lv' := [(3, .ref (sA S (1000 + 10 * i))), (0, .ref (sA S 0)), (1, .int (nI i)), (2, .int 0)]) hx hb dX11_close_29 rfl hl (by decide) rfl (fun ls hl => ?_)
    refine lv_aload_n hx hb dX11_close_30 rfl (lv_at hl 0 rfl) ?_
    refine h_get X Y (k := 3) (v := .int (clI (sC S i) 2)) hc0 rfl hin_X3 (by decide) kfl_X11_207 rfl dX11_close_31 ?_
    refine lv_istore (lv' := [(4, .int (clI (sC S i) 2)), (3, .ref (sA S (1000 + 10 * i))), (0, .ref (sA S 0)), (1, .int (nI i)), (2, .int 0)]) hx hb dX11_close_34 hl (by decide) rfl (fun ls hl => ?_)
    refine lv_aload_n hx hb dX11_close_36 rfl (lv_at hl 1 rfl) ?_
    refine lv_iload_n hx hb dX11_close_37 rfl (lv_at hl 4 rfl) ?_
    refine lv_if_ne (tgt := 45) hx hb dX11_close_38 (by decide) (fun c38 => absurd (by decide) c38) (fun c38 => ?_)
    refine lv_iconst (v := 1) hx hb dX11_close_41 (by decide) ?_
    refine lv_goto (tgt := 46) hx hb dX11_close_42 (by decide) ?_
    refine h_put X Y (k := 4) (v := .int 1) hc0 rfl hin_X3 tyX3_ok nmX3 (by decide) kfl_X11_198 rfl rfl rfl (Nat.le_of_ble_eq_true rfl) dX11_close_46 (fun H locs Y => ?_)
    have Y : hHS G (hup M (sA S (1000 + 10 * i)) (1000 + 10 * i, .inr (5, [.int (nI (clY (sC S i))), .int (clI (sC S i) 0), .int (clI (sC S i) 1), .int (clI (sC S i) 2), .int 1, .ref (clA (sC S i) 0), .ref (clA (sC S i) 1)]))) s H locs := Y
    have hfr := hfr.put (x := (1000 + 10 * i, .inr (5, [.int (nI (clY (sC S i))), .int (clI (sC S i) 0), .int (clI (sC S i) 1), .int (clI (sC S i) 2), .int 1, .ref (clA (sC S i) 0), .ref (clA (sC S i) 1)]))) hc0 rfl
    have hc0 : hup M (sA S (1000 + 10 * i)) (1000 + 10 * i, .inr (5, [.int (nI (clY (sC S i))), .int (clI (sC S i) 0), .int (clI (sC S i) 1), .int (clI (sC S i) 2), .int 1, .ref (clA (sC S i) 0), .ref (clA (sC S i) 1)])) (sA S (1000 + 10 * i)) = some (1000 + 10 * i, .inr (5, [.int (nI (clY (sC S i))), .int (clI (sC S i) 0), .int (clI (sC S i) 1), .int (clI (sC S i) 2), .int 1, .ref (clA (sC S i) 0), .ref (clA (sC S i) 1)])) := hup_eq
    generalize hup M (sA S (1000 + 10 * i)) (1000 + 10 * i, .inr (5, [.int (nI (clY (sC S i))), .int (clI (sC S i) 0), .int (clI (sC S i) 1), .int (clI (sC S i) 2), .int 1, .ref (clA (sC S i) 0), .ref (clA (sC S i) 1)])) = Mz1 at Y hc0 hfr
    refine lv_iload_n hx hb dX11_close_49 rfl (lv_at hl 4 rfl) ?_
    refine lv_if_eq (tgt := 58) hx hb dX11_close_50 (by decide) (fun c50 => ?_) (fun c50 => absurd (by decide) c50)
    refine lv_iload hx hb dX11_close_58 (lv_at hl 0 rfl) ?_
    exact h_iret X Y ⟨rfl, hPv.up hi (hfr.mono (fun u z => by omega)) ⟨hc0, hfr _ _ _ (hCl i hi).2.1 (by omega), hfr _ _ _ (hCl i hi).2.2 (by omega)⟩ rfl⟩ (Nat.le_of_ble_eq_true rfl) (Nat.le_of_ble_eq_true rfl) dX11_close_60
  | true =>
    have hl : lv_has ls 5 [(0, .ref (sA S 0)), (1, .int (nI i)), (2, .int 1)] := hl
    refine lv_aload_n hx hb dX11_close_0 rfl (lv_at hl 0 rfl) ?_
    refine lv_iload_n hx hb dX11_close_1 rfl (lv_at hl 1 rfl) ?_
    refine h_callVr (rest := []) X Y (c_hasClaim l G M S h hQv i (by omega)) rfl rfl gw_X11_190 dsc_X11_hasClaim ho0 rfl rfl rfl rfl hl.1 (Nat.le_of_ble_eq_true rfl) ⟨Nat.le_of_ble_eq_true rfl, Nat.le_of_ble_eq_true rfl⟩ ⟨Nat.le_of_ble_eq_true rfl, Nat.le_of_ble_eq_true rfl⟩ dX11_close_2 (fun H locs Y => ?_)
    refine lv_if_ne (tgt := 18) hx hb dX11_close_5 (by decide) (fun c5 => ?_) (fun c5 => absurd c5 (by decide))
    refine lv_aload_n hx hb dX11_close_18 rfl (lv_at hl 0 rfl) ?_
    refine h_get X Y (k := 5) (v := .ref (sA S 15)) ho0 rfl hin_X11 (by decide) kfl_X11_46 rfl dX11_close_19 ?_
    refine lv_iload_n hx hb dX11_close_22 rfl (lv_at hl 1 rfl) ?_
    refine h_callVr (rest := []) X Y (c_get l G M (sA S 15) 15 (sA S 16) 16 (sM S) i (fun i => sA S (1000 + 10 * i)) hl15 (he16 (by omega)) (by omega)) rfl rfl gw_X11_150 dsc_Jx4a65c_get_915e3 hlo15 rfl rfl rfl rfl hl.1 (Nat.le_of_ble_eq_true rfl) ⟨Nat.le_of_ble_eq_true rfl, Nat.le_of_ble_eq_true rfl⟩ ⟨Nat.le_of_ble_eq_true rfl, Nat.le_of_ble_eq_true rfl⟩ dX11_close_23 (fun H locs Y => ?_)
    refine h_cast X Y (hCl i (by omega)).1 rfl rfl kcl_X11_181 dX11_close_26 ?_
    have hc0 := (hCl i hi).1
    have hfr : hFr (fun u => u = 1000 + 10 * i) M M := hFr.rf
    refine lv_astore_n (lv' := [(3, .ref (sA S (1000 + 10 * i))), (0, .ref (sA S 0)), (1, .int (nI i)), (2, .int 1)]) hx hb dX11_close_29 rfl hl (by decide) rfl (fun ls hl => ?_)
    refine lv_aload_n hx hb dX11_close_30 rfl (lv_at hl 0 rfl) ?_
    refine h_get X Y (k := 3) (v := .int (clI (sC S i) 2)) hc0 rfl hin_X3 (by decide) kfl_X11_207 rfl dX11_close_31 ?_
    refine lv_istore (lv' := [(4, .int (clI (sC S i) 2)), (3, .ref (sA S (1000 + 10 * i))), (0, .ref (sA S 0)), (1, .int (nI i)), (2, .int 1)]) hx hb dX11_close_34 hl (by decide) rfl (fun ls hl => ?_)
    refine lv_aload_n hx hb dX11_close_36 rfl (lv_at hl 1 rfl) ?_
    refine lv_iload_n hx hb dX11_close_37 rfl (lv_at hl 4 rfl) ?_
    refine lv_if_ne (tgt := 45) hx hb dX11_close_38 (by decide) (fun c38 => ?_) (fun c38 => absurd c38 (by decide))
    refine lv_iconst (v := 0) hx hb dX11_close_45 (by decide) ?_
    refine h_put X Y (k := 4) (v := .int 0) hc0 rfl hin_X3 tyX3_ok nmX3 (by decide) kfl_X11_198 rfl rfl rfl (Nat.le_of_ble_eq_true rfl) dX11_close_46 (fun H locs Y => ?_)
    have Y : hHS G (hup M (sA S (1000 + 10 * i)) (1000 + 10 * i, .inr (5, [.int (nI (clY (sC S i))), .int (clI (sC S i) 0), .int (clI (sC S i) 1), .int (clI (sC S i) 2), .int 0, .ref (clA (sC S i) 0), .ref (clA (sC S i) 1)]))) s H locs := Y
    have hfr := hfr.put (x := (1000 + 10 * i, .inr (5, [.int (nI (clY (sC S i))), .int (clI (sC S i) 0), .int (clI (sC S i) 1), .int (clI (sC S i) 2), .int 0, .ref (clA (sC S i) 0), .ref (clA (sC S i) 1)]))) hc0 rfl
    have hc0 : hup M (sA S (1000 + 10 * i)) (1000 + 10 * i, .inr (5, [.int (nI (clY (sC S i))), .int (clI (sC S i) 0), .int (clI (sC S i) 1), .int (clI (sC S i) 2), .int 0, .ref (clA (sC S i) 0), .ref (clA (sC S i) 1)])) (sA S (1000 + 10 * i)) = some (1000 + 10 * i, .inr (5, [.int (nI (clY (sC S i))), .int (clI (sC S i) 0), .int (clI (sC S i) 1), .int (clI (sC S i) 2), .int 0, .ref (clA (sC S i) 0), .ref (clA (sC S i) 1)])) := hup_eq
    generalize hup M (sA S (1000 + 10 * i)) (1000 + 10 * i, .inr (5, [.int (nI (clY (sC S i))), .int (clI (sC S i) 0), .int (clI (sC S i) 1), .int (clI (sC S i) 2), .int 0, .ref (clA (sC S i) 0), .ref (clA (sC S i) 1)])) = Mz2 at Y hc0 hfr
    refine lv_iload_n hx hb dX11_close_49 rfl (lv_at hl 4 rfl) ?_
    refine lv_if_eq (tgt := 58) hx hb dX11_close_50 (by decide) (fun c50 => absurd c50 (by decide)) (fun c50 => ?_)
    refine lv_aload_n hx hb dX11_close_53 rfl (lv_at hl 1 rfl) ?_
    refine lv_iconst (v := 0) hx hb dX11_close_54 (by decide) ?_
    refine h_put X Y (k := 3) (v := .int 0) hc0 rfl hin_X3 tyX3_ok nmX3 (by decide) kfl_X11_207 rfl rfl rfl (Nat.le_of_ble_eq_true rfl) dX11_close_55 (fun H locs Y => ?_)
    have Y : hHS G (hup Mz2 (sA S (1000 + 10 * i)) (1000 + 10 * i, .inr (5, [.int (nI (clY (sC S i))), .int (clI (sC S i) 0), .int (clI (sC S i) 1), .int 0, .int 0, .ref (clA (sC S i) 0), .ref (clA (sC S i) 1)]))) s H locs := Y
    have hfr := hfr.put (x := (1000 + 10 * i, .inr (5, [.int (nI (clY (sC S i))), .int (clI (sC S i) 0), .int (clI (sC S i) 1), .int 0, .int 0, .ref (clA (sC S i) 0), .ref (clA (sC S i) 1)]))) hc0 rfl
    have hc0 : hup Mz2 (sA S (1000 + 10 * i)) (1000 + 10 * i, .inr (5, [.int (nI (clY (sC S i))), .int (clI (sC S i) 0), .int (clI (sC S i) 1), .int 0, .int 0, .ref (clA (sC S i) 0), .ref (clA (sC S i) 1)])) (sA S (1000 + 10 * i)) = some (1000 + 10 * i, .inr (5, [.int (nI (clY (sC S i))), .int (clI (sC S i) 0), .int (clI (sC S i) 1), .int 0, .int 0, .ref (clA (sC S i) 0), .ref (clA (sC S i) 1)])) := hup_eq
    generalize hup Mz2 (sA S (1000 + 10 * i)) (1000 + 10 * i, .inr (5, [.int (nI (clY (sC S i))), .int (clI (sC S i) 0), .int (clI (sC S i) 1), .int 0, .int 0, .ref (clA (sC S i) 0), .ref (clA (sC S i) 1)])) = Mz3 at Y hc0 hfr
    refine lv_iload hx hb dX11_close_58 (lv_at hl 0 rfl) ?_
    exact h_iret X Y ⟨rfl, hPv.up hi (hfr.mono (fun u z => by omega)) ⟨hc0, hfr _ _ _ (hCl i hi).2.1 (by omega), hfr _ _ _ (hCl i hi).2.2 (by omega)⟩ rfl⟩ (Nat.le_of_ble_eq_true rfl) (Nat.le_of_ble_eq_true rfl) dX11_close_60
theorem dX3_writeDown_0 : decode cX3_writeDown 0 = .ok (.iload_n 1, 1) := by decide +kernel
theorem dX3_writeDown_1 : decode cX3_writeDown 1 = .ok (.aload_n 0, 1) := by decide +kernel
theorem dX3_writeDown_2 : decode cX3_writeDown 2 = .ok (.getfield 26, 3) := by decide +kernel
theorem dX3_writeDown_5 : decode cX3_writeDown 5 = .ok (.isub, 1) := by decide +kernel
theorem dX3_writeDown_6 : decode cX3_writeDown 6 = .ok (.istore_n 2, 1) := by decide +kernel
theorem dX3_writeDown_7 : decode cX3_writeDown 7 = .ok (.iload_n 2, 1) := by decide +kernel
theorem dX3_writeDown_8 : decode cX3_writeDown 8 = .ok (.ifCond .lt 34, 3) := by decide +kernel
theorem dX3_writeDown_11 : decode cX3_writeDown 11 = .ok (.iload_n 2, 1) := by decide +kernel
theorem dX3_writeDown_12 : decode cX3_writeDown 12 = .ok (.bipush 10, 2) := by decide +kernel
theorem dX3_writeDown_14 : decode cX3_writeDown 14 = .ok (.if_icmp .ge 28, 3) := by decide +kernel
theorem dX3_writeDown_17 : decode cX3_writeDown 17 = .ok (.aload_n 0, 1) := by decide +kernel
theorem dX3_writeDown_18 : decode cX3_writeDown 18 = .ok (.getfield 19, 3) := by decide +kernel
theorem dX3_writeDown_21 : decode cX3_writeDown 21 = .ok (.iload_n 2, 1) := by decide +kernel
theorem dX3_writeDown_22 : decode cX3_writeDown 22 = .ok (.aload_n 0, 1) := by decide +kernel
theorem dX3_writeDown_23 : decode cX3_writeDown 23 = .ok (.getfield 9, 3) := by decide +kernel
theorem dX3_writeDown_26 : decode cX3_writeDown 26 = .ok (.iastore, 1) := by decide +kernel
theorem dX3_writeDown_27 : decode cX3_writeDown 27 = .ok (.aload_n 0, 1) := by decide +kernel
theorem dX3_writeDown_28 : decode cX3_writeDown 28 = .ok (.getfield 23, 3) := by decide +kernel
theorem dX3_writeDown_31 : decode cX3_writeDown 31 = .ok (.iload_n 2, 1) := by decide +kernel
theorem dX3_writeDown_32 : decode cX3_writeDown 32 = .ok (.aload_n 0, 1) := by decide +kernel
theorem dX3_writeDown_33 : decode cX3_writeDown 33 = .ok (.getfield 9, 3) := by decide +kernel
theorem dX3_writeDown_36 : decode cX3_writeDown 36 = .ok (.aload_n 0, 1) := by decide +kernel
theorem dX3_writeDown_37 : decode cX3_writeDown 37 = .ok (.getfield 32, 3) := by decide +kernel
theorem dX3_writeDown_40 : decode cX3_writeDown 40 = .ok (.iadd, 1) := by decide +kernel
theorem dX3_writeDown_41 : decode cX3_writeDown 41 = .ok (.iastore, 1) := by decide +kernel
theorem dX3_writeDown_42 : decode cX3_writeDown 42 = .ok (.return_, 1) := by decide +kernel
set_option maxHeartbeats 400000 in
set_option maxRecDepth 100000 in
theorem c_writeDown (l : Launch) (G : hG) (M : hM) (a t : Nat) (C : hCl) (hC : ClV G M a t C) (now : Nat) (hy : clY C ≤ now) (hn : now < 10) : hCT l G yX3_writeDown cX3_writeDown 3 (Option.none) (hRm 1 0 0) M [.ref a, .int (nI now)] (fun v M' => v = none ∧ ClV G M' a t (cWd C now) ∧ hFr (fun u => u = t + 1 ∨ u = t + 2) M M') := by
  refine hCT.of (own := RX3) (nm := "writeDown") (by decide) rfl rfl (Nat.le_of_ble_eq_true rfl) ?_
  intro p e s m args below meth c ls X Y hl
  have hx := X.1
  have hb := X.2.1
  have hl : lv_has ls 3 [(0, .ref a), (1, .int (nI now))] := hl
  obtain ⟨hc0, hc1, hc2⟩ := hC
  have hfr : hFr (fun u => u = t + 1 ∨ u = t + 2) M M := hFr.rf
  refine lv_iload_n hx hb dX3_writeDown_0 rfl (lv_at hl 1 rfl) ?_
  refine lv_aload_n hx hb dX3_writeDown_1 rfl (lv_at hl 0 rfl) ?_
  refine h_get X Y (k := 0) (v := .int (nI (clY C))) hc0 rfl hin_X3 (by decide) kfl_X3_26 rfl dX3_writeDown_2 ?_
  refine lv_isub hx hb dX3_writeDown_5 ?_
  refine h_ev (y := nI (now - clY C)) (pk_sub hy) ?_
  refine lv_istore_n (lv' := [(2, .int (nI (now - clY C))), (0, .ref a), (1, .int (nI now))]) hx hb dX3_writeDown_6 rfl hl (by decide) rfl (fun ls hl => ?_)
  refine lv_iload_n hx hb dX3_writeDown_7 rfl (lv_at hl 0 rfl) ?_
  refine lv_if_lt (tgt := 42) hx hb dX3_writeDown_8 (by decide) (fun c8 => absurd (show (now - clY C) < 0 from (nI_ltI (a := (now - clY C)) (b := 0) (by omega) (by omega)).mp c8) (by omega)) (fun c8 => ?_)
  have c8 : ¬ (now - clY C) < 0 := fun z9 => c8 ((nI_ltI (a := (now - clY C)) (b := 0) (by omega) (by omega)).mpr z9)
  refine lv_iload_n hx hb dX3_writeDown_11 rfl (lv_at hl 0 rfl) ?_
  refine lv_bipush (v := 10) hx hb dX3_writeDown_12 (by decide) ?_
  refine lv_icmp_ge (tgt := 42) hx hb dX3_writeDown_14 (by decide) (fun c14 => absurd (show 10 ≤ (now - clY C) from (nI_leI (a := 10) (b := (now - clY C)) (by omega) (by omega)).mp c14) (by omega)) (fun c14 => ?_)
  have c14 : ¬ 10 ≤ (now - clY C) := fun z9 => c14 ((nI_leI (a := 10) (b := (now - clY C)) (by omega) (by omega)).mpr z9)
  refine lv_aload_n hx hb dX3_writeDown_17 rfl (lv_at hl 1 rfl) ?_
  refine h_get X Y (k := 5) (v := .ref (clA C 0)) hc0 rfl hin_X3 (by decide) kfl_X3_19 rfl dX3_writeDown_18 ?_
  refine lv_iload_n hx hb dX3_writeDown_21 rfl (lv_at hl 0 rfl) ?_
  refine lv_aload_n hx hb dX3_writeDown_22 rfl (lv_at hl 1 rfl) ?_
  refine h_get X Y (k := 2) (v := .int (clI C 1)) hc0 rfl hin_X3 (by decide) kfl_X3_9 rfl dX3_writeDown_23 ?_
  refine h_iast X Y (i := (now - clY C)) hc1 (by omega) (by decide) dX3_writeDown_26 (fun H locs Y => ?_)
  have hc0 := hup_tag (x := (t + 1, .inl (hT G 0, 10, .inl (upd (clN C 0) (now - clY C) (clI C 1))))) hc0 hc1 (by omega)
  have hc2 := hup_tag (x := (t + 1, .inl (hT G 0, 10, .inl (upd (clN C 0) (now - clY C) (clI C 1))))) hc2 hc1 (by omega)
  have hfr := hfr.put (x := (t + 1, .inl (hT G 0, 10, .inl (upd (clN C 0) (now - clY C) (clI C 1))))) hc1 (Or.inl rfl)
  have hc1 : hup M (clA C 0) (t + 1, .inl (hT G 0, 10, .inl (upd (clN C 0) (now - clY C) (clI C 1)))) (clA C 0) = some (t + 1, .inl (hT G 0, 10, .inl (upd (clN C 0) (now - clY C) (clI C 1)))) := hup_eq
  generalize hup M (clA C 0) (t + 1, .inl (hT G 0, 10, .inl (upd (clN C 0) (now - clY C) (clI C 1)))) = Mz1 at Y hc1 hc0 hc2 hfr
  refine lv_aload_n hx hb dX3_writeDown_27 rfl (lv_at hl 1 rfl) ?_
  refine h_get X Y (k := 6) (v := .ref (clA C 1)) hc0 rfl hin_X3 (by decide) kfl_X3_23 rfl dX3_writeDown_28 ?_
  refine lv_iload_n hx hb dX3_writeDown_31 rfl (lv_at hl 0 rfl) ?_
  refine lv_aload_n hx hb dX3_writeDown_32 rfl (lv_at hl 1 rfl) ?_
  refine h_get X Y (k := 2) (v := .int (clI C 1)) hc0 rfl hin_X3 (by decide) kfl_X3_9 rfl dX3_writeDown_33 ?_
  refine lv_aload_n hx hb dX3_writeDown_36 rfl (lv_at hl 1 rfl) ?_
  refine h_get X Y (k := 3) (v := .int (clI C 2)) hc0 rfl hin_X3 (by decide) kfl_X3_32 rfl dX3_writeDown_37 ?_
  refine lv_iadd hx hb dX3_writeDown_40 ?_
  refine h_iast X Y (i := (now - clY C)) hc2 (by omega) (by decide) dX3_writeDown_41 (fun H locs Y => ?_)
  have hc0 := hup_tag (x := (t + 2, .inl (hT G 0, 10, .inl (upd (clN C 1) (now - clY C) ((clI C 1) + (clI C 2)))))) hc0 hc2 (by omega)
  have hc1 := hup_tag (x := (t + 2, .inl (hT G 0, 10, .inl (upd (clN C 1) (now - clY C) ((clI C 1) + (clI C 2)))))) hc1 hc2 (by omega)
  have hfr := hfr.put (x := (t + 2, .inl (hT G 0, 10, .inl (upd (clN C 1) (now - clY C) ((clI C 1) + (clI C 2)))))) hc2 (Or.inr rfl)
  have hc2 : hup Mz1 (clA C 1) (t + 2, .inl (hT G 0, 10, .inl (upd (clN C 1) (now - clY C) ((clI C 1) + (clI C 2))))) (clA C 1) = some (t + 2, .inl (hT G 0, 10, .inl (upd (clN C 1) (now - clY C) ((clI C 1) + (clI C 2))))) := hup_eq
  generalize hup Mz1 (clA C 1) (t + 2, .inl (hT G 0, 10, .inl (upd (clN C 1) (now - clY C) ((clI C 1) + (clI C 2))))) = Mz2 at Y hc2 hc0 hc1 hfr
  exact h_vret X Y ⟨rfl, ⟨hc0, hc1, hc2⟩, hfr⟩ (Nat.le_of_ble_eq_true rfl) (Nat.le_of_ble_eq_true rfl) dX3_writeDown_42
theorem gw_X11_244 : GoodIn hGW (wsV RX11 244 RX3 yX3_writeDown (Cond.code yX3_writeDown cX3_writeDown 3 (Option.none) :: hGW)) := hgi4 kml_X11_244 kin_X3_writeDown kse_X3_X3_writeDown_X3_writeDown kini_X3 kco_X3_writeDown
theorem dsc_X3_writeDown : yX3_writeDown.cls = RX3 ∧ yX3_writeDown.cls ≠ "java/lang/invoke/MethodHandle" ∧ yX3_writeDown.cls ≠ "java/lang/invoke/VarHandle" ∧ (parseMethodDescriptor yX3_writeDown.desc).map (fun d => d.parameters.length) = some 1 := ⟨rfl, by decide +kernel, by decide +kernel, by decide +kernel⟩
theorem dX11_nextYear_0 : decode cX11_nextYear 0 = .ok (.aload_n 0, 1) := by decide +kernel
theorem dX11_nextYear_1 : decode cX11_nextYear 1 = .ok (.getfield 78, 3) := by decide +kernel
theorem dX11_nextYear_4 : decode cX11_nextYear 4 = .ok (.bipush 9, 2) := by decide +kernel
theorem dX11_nextYear_6 : decode cX11_nextYear 6 = .ok (.if_icmp .lt 13, 3) := by decide +kernel
theorem dX11_nextYear_19 : decode cX11_nextYear 19 = .ok (.iconst 0, 1) := by decide +kernel
theorem dX11_nextYear_20 : decode cX11_nextYear 20 = .ok (.istore_n 1, 1) := by decide +kernel
theorem dX11_nextYear_21 : decode cX11_nextYear 21 = .ok (.iload_n 1, 1) := by decide +kernel
theorem dX11_nextYear_22 : decode cX11_nextYear 22 = .ok (.aload_n 0, 1) := by decide +kernel
theorem dX11_nextYear_23 : decode cX11_nextYear 23 = .ok (.getfield 46, 3) := by decide +kernel
theorem dX11_nextYear_26 : decode cX11_nextYear 26 = .ok (.invokevirtual 176, 3) := by decide +kernel
theorem dX11_nextYear_29 : decode cX11_nextYear 29 = .ok (.if_icmp .ge 27, 3) := by decide +kernel
theorem dX11_nextYear_32 : decode cX11_nextYear 32 = .ok (.aload_n 0, 1) := by decide +kernel
theorem dX11_nextYear_33 : decode cX11_nextYear 33 = .ok (.getfield 46, 3) := by decide +kernel
theorem dX11_nextYear_36 : decode cX11_nextYear 36 = .ok (.iload_n 1, 1) := by decide +kernel
theorem dX11_nextYear_37 : decode cX11_nextYear 37 = .ok (.invokevirtual 150, 3) := by decide +kernel
theorem dX11_nextYear_40 : decode cX11_nextYear 40 = .ok (.checkcast 181, 3) := by decide +kernel
theorem dX11_nextYear_43 : decode cX11_nextYear 43 = .ok (.aload_n 0, 1) := by decide +kernel
theorem dX11_nextYear_44 : decode cX11_nextYear 44 = .ok (.getfield 78, 3) := by decide +kernel
theorem dX11_nextYear_47 : decode cX11_nextYear 47 = .ok (.invokevirtual 244, 3) := by decide +kernel
theorem dX11_nextYear_50 : decode cX11_nextYear 50 = .ok (.iinc 1 1, 3) := by decide +kernel
theorem dX11_nextYear_53 : decode cX11_nextYear 53 = .ok (.goto (-32), 3) := by decide +kernel
theorem dX11_nextYear_56 : decode cX11_nextYear 56 = .ok (.aload_n 0, 1) := by decide +kernel
theorem dX11_nextYear_57 : decode cX11_nextYear 57 = .ok (.dup, 1) := by decide +kernel
theorem dX11_nextYear_58 : decode cX11_nextYear 58 = .ok (.getfield 78, 3) := by decide +kernel
theorem dX11_nextYear_61 : decode cX11_nextYear 61 = .ok (.iconst 1, 1) := by decide +kernel
theorem dX11_nextYear_62 : decode cX11_nextYear 62 = .ok (.iadd, 1) := by decide +kernel
theorem dX11_nextYear_63 : decode cX11_nextYear 63 = .ok (.putfield 78, 3) := by decide +kernel
theorem dX11_nextYear_66 : decode cX11_nextYear 66 = .ok (.aload_n 0, 1) := by decide +kernel
theorem dX11_nextYear_67 : decode cX11_nextYear 67 = .ok (.getfield 78, 3) := by decide +kernel
theorem dX11_nextYear_70 : decode cX11_nextYear 70 = .ok (.ireturn, 1) := by decide +kernel
set_option maxHeartbeats 400000 in
set_option maxRecDepth 100000 in
theorem c_nextYear (l : Launch) (G : hG) (M : hM) (S : hSy) (h : hHo) (hPv : PV G M S h) (hn9 : hNow h < 9) : hCT l G yX11_nextYear cX11_nextYear 2 (Option.some FieldType.int) (hRm 4 0 0) M [.ref (sA S 0)] (fun v M' => v = some (.int (nI (hNow h + 1))) ∧ PV G M' (sWd S (hNow h) (sM S)) (hNow h + 1, h.2)) := by
  refine hCT.of (own := RX11) (nm := "nextYear") (by decide) rfl rfl (Nat.le_of_ble_eq_true rfl) ?_
  intro p e s m args below meth c ls X Y hl
  have hx := X.1
  have hb := X.2.1
  have hl : lv_has ls 2 [(0, .ref (sA S 0))] := hl
  have hQv := hPv.1
  obtain ⟨hS, hG1, hHo, hCe, hTr, hnow, hyn⟩ := id hQv
  obtain ⟨hN8, hM40, hLG, hCY⟩ := id hG1
  obtain ⟨hl13, he14, hl15, he16, hLa, hCl⟩ := id hS
  obtain ⟨mc13, hlo13⟩ := id hl13
  obtain ⟨mc15, hlo15⟩ := id hl15
  obtain ⟨ho0, ho1, ho17, ho18, ft19, hft19, ho19⟩ := id hHo
  refine lv_aload_n hx hb dX11_nextYear_0 rfl (lv_at hl 0 rfl) ?_
  refine h_get X Y (k := 12) (v := .int (nI (hNow h))) ho0 rfl hin_X11 (by decide) kfl_X11_78 rfl dX11_nextYear_1 ?_
  refine lv_bipush (v := 9) hx hb dX11_nextYear_4 (by decide) ?_
  refine lv_icmp_lt (tgt := 19) hx hb dX11_nextYear_6 (by decide) (fun c6 => ?_) (fun c6 => absurd (show ¬ (hNow h) < 9 from fun z9 => c6 ((nI_ltI (a := (hNow h)) (b := 9) (by omega) (by omega)).mpr z9)) (by omega))
  have c6 : (hNow h) < 9 := (nI_ltI (a := (hNow h)) (b := 9) (by omega) (by omega)).mp c6
  refine lv_iconst (v := 0) hx hb dX11_nextYear_19 (by decide) ?_
  refine lv_istore_n (lv' := [(1, .int 0), (0, .ref (sA S 0))]) hx hb dX11_nextYear_20 rfl hl (by decide) rfl (fun ls hl => ?_)
  have loop : ∀ (d k : Nat), k + d = sM S + 1 → k ≤ sM S → ∀ (M1 : hM), PV G M1 (sWd S (hNow h) k) h → ∀ (H : Heap) (locs : List Loc) (ls : Array Slot), hHS G M1 s H locs → lv_has ls 2 [(0, .ref (sA S 0)), (1, .int (nI k))] → W p l e (hRm 4 0 0) s m args below meth c H locs 0 0 (MQ below (hQ G (fun v M' => v = some (.int (nI (hNow h + 1))) ∧ PV G M' (sWd S (hNow h) (sM S)) (hNow h + 1, h.2))) args s 0 0 (hA G)) (F0 m 21 ls []) := by
    intro d
    induction d with
    | zero => intro k h1; intros; exact absurd h1 (by omega)
    | succ d ih =>
      intro k h1 h2 M1 hPv H locs ls Y hl
      have hQv := hPv.1
      obtain ⟨hS, hG1, hHo, hCe, hTr, hnow, hyn⟩ := id hQv
      obtain ⟨hl13, he14, hl15, he16, hLa, hCl⟩ := id hS
      obtain ⟨mc13, hlo13⟩ := id hl13
      obtain ⟨mc15, hlo15⟩ := id hl15
      obtain ⟨ho0, ho1, ho17, ho18, ft19, hft19, ho19⟩ := id hHo
      have hl15 : LsO M1 (sA S 15) 15 (sA S 16) (sM S) := hl15
      have he16 : 0 < sM S → LsE G M1 (sA S 16) 16 (sM S) (fun i => sA S (1000 + 10 * i)) := he16
      have hCl : ∀ i, i < sM S → ClV G M1 (sA S (1000 + 10 * i)) (1000 + 10 * i) (sC (sWd S (hNow h) k) i) := hCl
      have hyn : ∀ i, i < sM S → clY (sC (sWd S (hNow h) k) i) ≤ hNow h := hyn
      refine lv_iload_n hx hb dX11_nextYear_21 rfl (lv_at hl 1 rfl) ?_
      refine lv_aload_n hx hb dX11_nextYear_22 rfl (lv_at hl 0 rfl) ?_
      refine h_get X Y (k := 5) (v := .ref (sA S 15)) ho0 rfl hin_X11 (by decide) kfl_X11_46 rfl dX11_nextYear_23 ?_
      refine h_callVr (rest := [.int (nI k)]) X Y (c_size l G M1 (sA S 15) 15 (sA S 16) (sM S) hl15) rfl rfl gw_X11_176 dsc_Jx4a65c_size_8abf5 hlo15 rfl rfl rfl rfl hl.1 (Nat.le_of_ble_eq_true rfl) ⟨Nat.le_of_ble_eq_true rfl, Nat.le_of_ble_eq_true rfl⟩ ⟨Nat.le_of_ble_eq_true rfl, Nat.le_of_ble_eq_true rfl⟩ dX11_nextYear_26 (fun H locs Y => ?_)
      refine lv_icmp_ge (tgt := 56) hx hb dX11_nextYear_29 (by decide) (fun c29 => ?_) (fun c29 => ?_)
      · have c29 : (sM S) ≤ k := (nI_leI (a := (sM S)) (b := k) (by omega) (by omega)).mp c29
        have hk9 : k = (sM S) := by omega
        subst hk9
        have hfr : hFr (fun u => u = 0) M1 M1 := hFr.rf
        refine lv_aload_n hx hb dX11_nextYear_56 rfl (lv_at hl 0 rfl) ?_
        refine lv_dup hx hb dX11_nextYear_57 rfl ?_
        refine h_get X Y (k := 12) (v := .int (nI (hNow h))) ho0 rfl hin_X11 (by decide) kfl_X11_78 rfl dX11_nextYear_58 ?_
        refine lv_iconst (v := 1) hx hb dX11_nextYear_61 (by decide) ?_
        refine lv_iadd hx hb dX11_nextYear_62 ?_
        refine h_ev (y := nI ((hNow h) + 1)) (nI_1 (hNow h)) ?_
        refine h_put X Y (k := 12) (v := .int (nI ((hNow h) + 1))) ho0 rfl hin_X11 tyX11_ok nmX11 (by decide) kfl_X11_78 rfl rfl rfl (Nat.le_of_ble_eq_true rfl) dX11_nextYear_63 (fun H locs Y => ?_)
        have Y : hHS G (hup M1 (sA S 0) (0, .inr (12, [.ref (sA S 1), .ref (sA S 3), .ref (sA S 8), .ref (sA S 11), .ref (sA S 13), .ref (sA S 15), .ref (sA S (100 * (0 + 1))), .ref (sA S (100 * (1 + 1))), .ref (sA S (100 * (2 + 1))), .ref (sA S 19), .ref (sA S 17), .ref (sA S 18), .int (nI ((hNow h) + 1)), .int (hTail h), .int (hErr h)]))) s H locs := Y
        have hfr := hfr.put (x := (0, .inr (12, [.ref (sA S 1), .ref (sA S 3), .ref (sA S 8), .ref (sA S 11), .ref (sA S 13), .ref (sA S 15), .ref (sA S (100 * (0 + 1))), .ref (sA S (100 * (1 + 1))), .ref (sA S (100 * (2 + 1))), .ref (sA S 19), .ref (sA S 17), .ref (sA S 18), .int (nI ((hNow h) + 1)), .int (hTail h), .int (hErr h)]))) ho0 rfl
        have ho0 : hup M1 (sA S 0) (0, .inr (12, [.ref (sA S 1), .ref (sA S 3), .ref (sA S 8), .ref (sA S 11), .ref (sA S 13), .ref (sA S 15), .ref (sA S (100 * (0 + 1))), .ref (sA S (100 * (1 + 1))), .ref (sA S (100 * (2 + 1))), .ref (sA S 19), .ref (sA S 17), .ref (sA S 18), .int (nI ((hNow h) + 1)), .int (hTail h), .int (hErr h)])) (sA S 0) = some (0, .inr (12, [.ref (sA S 1), .ref (sA S 3), .ref (sA S 8), .ref (sA S 11), .ref (sA S 13), .ref (sA S 15), .ref (sA S (100 * (0 + 1))), .ref (sA S (100 * (1 + 1))), .ref (sA S (100 * (2 + 1))), .ref (sA S 19), .ref (sA S 17), .ref (sA S 18), .int (nI ((hNow h) + 1)), .int (hTail h), .int (hErr h)])) := hup_eq
        generalize hup M1 (sA S 0) (0, .inr (12, [.ref (sA S 1), .ref (sA S 3), .ref (sA S 8), .ref (sA S 11), .ref (sA S 13), .ref (sA S 15), .ref (sA S (100 * (0 + 1))), .ref (sA S (100 * (1 + 1))), .ref (sA S (100 * (2 + 1))), .ref (sA S 19), .ref (sA S 17), .ref (sA S 18), .int (nI ((hNow h) + 1)), .int (hTail h), .int (hErr h)])) = Mz1 at Y ho0 hfr
        refine lv_aload_n hx hb dX11_nextYear_66 rfl (lv_at hl 0 rfl) ?_
        refine h_get X Y (k := 12) (v := .int (nI ((hNow h) + 1))) ho0 rfl hin_X11 (by decide) kfl_X11_78 rfl dX11_nextYear_67 ?_
        exact h_iret X Y ⟨rfl, hPv.year hn9 hfr ho0⟩ (Nat.le_of_ble_eq_true rfl) (Nat.le_of_ble_eq_true rfl) dX11_nextYear_70
      · have c29 : ¬ (sM S) ≤ k := fun z9 => c29 ((nI_leI (a := (sM S)) (b := k) (by omega) (by omega)).mpr z9)
        refine lv_aload_n hx hb dX11_nextYear_32 rfl (lv_at hl 0 rfl) ?_
        refine h_get X Y (k := 5) (v := .ref (sA S 15)) ho0 rfl hin_X11 (by decide) kfl_X11_46 rfl dX11_nextYear_33 ?_
        refine lv_iload_n hx hb dX11_nextYear_36 rfl (lv_at hl 1 rfl) ?_
        refine h_callVr (rest := []) X Y (c_get l G M1 (sA S 15) 15 (sA S 16) 16 (sM S) k (fun i => sA S (1000 + 10 * i)) hl15 (he16 (by omega)) (by omega)) rfl rfl gw_X11_150 dsc_Jx4a65c_get_915e3 hlo15 rfl rfl rfl rfl hl.1 (Nat.le_of_ble_eq_true rfl) ⟨Nat.le_of_ble_eq_true rfl, Nat.le_of_ble_eq_true rfl⟩ ⟨Nat.le_of_ble_eq_true rfl, Nat.le_of_ble_eq_true rfl⟩ dX11_nextYear_37 (fun H locs Y => ?_)
        refine h_cast X Y (hCl k (by omega)).1 rfl rfl kcl_X11_181 dX11_nextYear_40 ?_
        refine lv_aload_n hx hb dX11_nextYear_43 rfl (lv_at hl 0 rfl) ?_
        refine h_get X Y (k := 12) (v := .int (nI (hNow h))) ho0 rfl hin_X11 (by decide) kfl_X11_78 rfl dX11_nextYear_44 ?_
        refine h_callV (rest := []) X Y (c_writeDown l G M1 (sA S (1000 + 10 * k)) (1000 + 10 * k) (sC (sWd S (hNow h) k) k) (hCl k (by omega)) (hNow h) (hyn k (by omega)) hnow) gw_X11_244 dsc_X3_writeDown (hCl k (by omega)).1 rfl rfl rfl hl.1 rfl (Nat.le_of_ble_eq_true rfl) ⟨Nat.le_of_ble_eq_true rfl, Nat.le_of_ble_eq_true rfl⟩ ⟨Nat.le_of_ble_eq_true rfl, Nat.le_of_ble_eq_true rfl⟩ dX11_nextYear_47 ?_
        rintro _ M2 H locs ⟨rfl, hC2, hf2⟩ Y
        try dsimp only [Option.toList, List.nil_append]
        have hPv : PV G M2 (sWd S (hNow h) (k + 1)) h := (sWd_step S (hNow h) k) ▸ hPv.up (by show k < sM S; omega) (hf2.mono (fun u z => by omega)) hC2 rfl
        refine lv_iinc (v := nI (k + 1)) (lv' := [(1, .int (nI (k + 1))), (0, .ref (sA S 0))]) hx hb dX11_nextYear_50 hl (k := 1) rfl (nI_1 k) (by decide) rfl (fun ls hl => ?_)
        refine lv_goto (tgt := 21) hx hb dX11_nextYear_53 (by decide) ?_
        exact ih (k + 1) (by omega) (by omega) M2 hPv _ _ _ Y (lv_sub hl [1, 0] rfl)
  exact loop (sM S + 1) 0 (by omega) (by omega) M (by rw [sWd_0]; exact hPv) _ _ _ Y (lv_sub hl [1, 0] rfl)
