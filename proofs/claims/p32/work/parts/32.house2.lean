theorem aHouse_c0 {a c0 c1 c2 t0 t1 t2 t3 : Nat → Nat} (v : Nat) (hv : v < 100) : aHouse a c0 c1 c2 t0 t1 t2 t3 (100 * (0 + 1) + v) = c0 v := by
  unfold aHouse
  rw [if_neg (by omega), if_pos (by omega), show 100 * (0 + 1) + v - 100 = v by omega]
theorem aHouse_c1 {a c0 c1 c2 t0 t1 t2 t3 : Nat → Nat} (v : Nat) (hv : v < 100) : aHouse a c0 c1 c2 t0 t1 t2 t3 (100 * (1 + 1) + v) = c1 v := by
  unfold aHouse
  rw [if_neg (by omega), if_neg (by omega), if_pos (by omega), show 100 * (1 + 1) + v - 200 = v by omega]
theorem aHouse_c2 {a c0 c1 c2 t0 t1 t2 t3 : Nat → Nat} (v : Nat) (hv : v < 100) : aHouse a c0 c1 c2 t0 t1 t2 t3 (100 * (2 + 1) + v) = c2 v := by
  unfold aHouse
  rw [if_neg (by omega), if_neg (by omega), if_neg (by omega), if_pos (by omega), show 100 * (2 + 1) + v - 300 = v by omega]
theorem aHouse_t0 {a c0 c1 c2 t0 t1 t2 t3 : Nat → Nat} (v : Nat) (hv : v < 20) : aHouse a c0 c1 c2 t0 t1 t2 t3 (400 + 20 * 0 + v) = t0 v := by
  unfold aHouse
  rw [if_neg (by omega), if_neg (by omega), if_neg (by omega), if_neg (by omega), if_pos (by omega), show 400 + 20 * 0 + v - 400 = v by omega]
theorem aHouse_t1 {a c0 c1 c2 t0 t1 t2 t3 : Nat → Nat} (v : Nat) (hv : v < 20) : aHouse a c0 c1 c2 t0 t1 t2 t3 (400 + 20 * 1 + v) = t1 v := by
  unfold aHouse
  rw [if_neg (by omega), if_neg (by omega), if_neg (by omega), if_neg (by omega), if_neg (by omega), if_pos (by omega), show 400 + 20 * 1 + v - 420 = v by omega]
theorem aHouse_t2 {a c0 c1 c2 t0 t1 t2 t3 : Nat → Nat} (v : Nat) (hv : v < 20) : aHouse a c0 c1 c2 t0 t1 t2 t3 (400 + 20 * 2 + v) = t2 v := by
  unfold aHouse
  rw [if_neg (by omega), if_neg (by omega), if_neg (by omega), if_neg (by omega), if_neg (by omega), if_neg (by omega), if_pos (by omega), show 400 + 20 * 2 + v - 440 = v by omega]
theorem aHouse_t3 {a c0 c1 c2 t0 t1 t2 t3 : Nat → Nat} (v : Nat) (hv : v < 20) : aHouse a c0 c1 c2 t0 t1 t2 t3 (400 + 20 * 3 + v) = t3 v := by
  unfold aHouse
  rw [if_neg (by omega), if_neg (by omega), if_neg (by omega), if_neg (by omega), if_neg (by omega), if_neg (by omega), if_neg (by omega), show 400 + 20 * 3 + v - 460 = v by omega]
theorem h_aastS {r : vw_C} {v tv i : Nat} {G : hG} {p : Program} {l : Launch} {e : Env} {R : Room} {s : State} {m : MethodId} {args : Array Value} {below : List Frame} {meth : Method} {c : Code} {H : Heap} {locs : List Loc} {cells slots : Nat} {Q : State → Prop} {cc : ByteArray} {maxL : Nat} {ret : Option FieldType} {own nm : String} {M : hM} {pc : Nat} {ls : Array Slot} {rest : List Value} {a t ci n : Nat} {cA : ClassId} {vs : List Value} {f : Nat → Option Nat} (t0 : Nat) (X : hCX G p s m args meth c cc maxL ret own nm) (Y : hHS G M s H locs) (he : M a = some (t, .inl (cA, n, .inr (.inr (.inr (.inr f)))))) (ht : (hTys (hT G))[t0]? = some (cA, .object r.1)) (hv : M v = some (tv, .inr (ci, vs))) (hcl : vwCl[ci]? = some r) (hi : i < n) (hn : n < 2 ^ 31) (hdg : decode cc pc = .ok (.aastore, 1))
    (kk : ∀ (H1 : Heap) (locs1 : List Loc), hHS G (hup M a (t, .inl (cA, n, .inr (.inr (.inr (.inr (va_up f i (some v)))))))) s H1 locs1 → W p l e R s m args below meth c H1 locs1 cells slots Q (F0 m (pc + 1) ls rest)) : W p l e R s m args below meth c H locs cells slots Q (F0 m pc ls (.ref v :: .int (nI i) :: .ref a :: rest)) := by
  obtain ⟨ws, hP, hDw, hw⟩ := Y.1.list
  obtain ⟨k1, hk1⟩ := hw a t _ he
  obtain ⟨k2, hk2⟩ := hw v tv _ hv
  refine va_astq (D := hD G) (cl := vwCl) X.1 X.2.1 X.2.2.2.2.2.2.2.1 hP hDw Y.2 k1 t0 k2 ci hk1 ht hk2 hcl (vp_in_nI hi hn) hdg fun H1 locs1 hP1 hD1 hS1 => ?_
  rw [nI_clamp (Nat.lt_trans hi hn)] at hP1
  exact kk H1 locs1 ⟨Y.1.wset hw he hk1 hP1, hS1⟩
theorem s00A (A : Nat → Nat) : sA (s00 A) = A := rfl
theorem house_of {G : hG} {M : hM} {q0 q1 r2 q3 r4 r5 r6 r7 q8 r9 r10 q11 r12 q13 q15 q17 q18 q19 : Nat} {C0 C1 C2 T0 T1 T2 T3 : Nat → Nat} {f : Nat → Option Nat} (f0 : M q0 = some (0, .inr (12, [.ref q1, .ref q3, .ref q8, .ref q11, .ref q13, .ref q15, .ref (C0 0), .ref (C1 0), .ref (C2 0), .ref q19, .ref q17, .ref q18, .int 0, .int 1000, .int (-1)]))) (f1 : M q1 = some (1, .inr (9, [.ref r2, .int 0]))) (f2 : M r2 = some (2, .inl (hT G 1, 2000, .inl (fun _ => 0)))) (f3 : M q3 = some (3, .inr (10, [.ref r4, .ref r5, .ref r6, .ref r7, .int 0]))) (f4 : M r4 = some (4, .inl (hT G 3, 401, .inr (.inr (.inr (.inr (fun _ => none))))))) (f5 : M r5 = some (5, .inl (hT G 0, 401, .inl (fun _ => 0)))) (f6 : M r6 = some (6, .inl (hT G 0, 401, .inl (fun _ => 0)))) (f7 : M r7 = some (7, .inl (hT G 2, 401, .inr (.inl (fun _ => 0))))) (f8 : M q8 = some (8, .inr (8, [.ref q3, .ref r9, .ref r10, .int 0, .int 0, .ref (hSg G 37)]))) (f9 : M r9 = some (9, .inl (hT G 3, 400, .inr (.inr (.inr (.inr (fun _ => none))))))) (f10 : M r10 = some (10, .inl (hT G 0, 400, .inl (fun _ => 0)))) (f11 : M q11 = some (11, .inr (4, [.ref q3, .ref r12, .int 0, .int (-1)]))) (f12 : M r12 = some (12, .inl (hT G 2, 8, .inr (.inl (fun _ => 0))))) (f13 : M q13 = some (13, .inr (2, [.int 0, .ref (hDE G), .int 0]))) (f15 : M q15 = some (15, .inr (2, [.int 0, .ref (hDE G), .int 0]))) (f17 : M q17 = some (17, .inl (hT G 0, 10, .inl (fun _ => 0)))) (f18 : M q18 = some (18, .inl (hT G 0, 10, .inl (fun _ => 0)))) (f19 : M q19 = some (19, .inl (hT G 4, 4, .inr (.inr (.inr (.inr f)))))) (hf : f 0 = some (T0 0) ∧ f 1 = some (T1 0) ∧ f 2 = some (T2 0) ∧ f 3 = some (T3 0))
    (hC0 : mkC G M 100 q13 q15 C0) (hC1 : mkC G M 200 q13 q15 C1) (hC2 : mkC G M 300 q13 q15 C2) (hT0 : mkT G M 400 T0) (hT1 : mkT G M 420 T1) (hT2 : mkT G M 440 T2) (hT3 : mkT G M 460 T3) : ∃ A : Nat → Nat, QV G M (s00 A) h00 ∧ mkB G M A ∧ A 0 = q0 ∧ A 14 = hDE G ∧ A 16 = hDE G := by
  refine ⟨aHouse (fun u => match u with | 0 => q0 | 1 => q1 | 2 => r2 | 3 => q3 | 4 => r4 | 5 => r5 | 6 => r6 | 7 => r7 | 8 => q8 | 9 => r9 | 10 => r10 | 11 => q11 | 12 => r12 | 13 => q13 | 14 => hDE G | 15 => q15 | 16 => hDE G | 17 => q17 | 18 => q18 | 19 => q19 | _ => 0) C0 C1 C2 T0 T1 T2 T3, ⟨⟨⟨0, f13⟩, fun q => absurd q (Nat.lt_irrefl 0), ⟨0, f15⟩, fun q => absurd q (Nat.lt_irrefl 0), fun k hk => absurd hk (Nat.not_lt_zero k), fun k hk => absurd hk (Nat.not_lt_zero k)⟩, ⟨Nat.zero_le _, Nat.zero_le _, fun k hk => absurd hk (Nat.not_lt_zero k), fun k hk => absurd hk (Nat.not_lt_zero k)⟩, ⟨f0, f1, f17, f18, f, fun j hj => ?_, f19⟩, fun cx hc => ?_, fun j hj => ?_, by decide, fun i hi => absurd hi (Nat.not_lt_zero i)⟩, ⟨f2, f3, f4, f5, f6, f7, f8, f9, f10, f11, f12⟩, rfl, rfl, rfl⟩
  · rcases (show j = 0 ∨ j = 1 ∨ j = 2 ∨ j = 3 by omega) with rfl | rfl | rfl | rfl
    · exact hf.1
    · exact hf.2.1
    · exact hf.2.2.1
    · exact hf.2.2.2
  · rcases (show cx = 0 ∨ cx = 1 ∨ cx = 2 by omega) with rfl | rfl | rfl
    · exact mkC.to hC0 (fun v hv => (congrFun (s00A _) _).trans (aHouse_c0 v hv))
    · exact mkC.to hC1 (fun v hv => (congrFun (s00A _) _).trans (aHouse_c1 v hv))
    · exact mkC.to hC2 (fun v hv => (congrFun (s00A _) _).trans (aHouse_c2 v hv))
  · rcases (show j = 0 ∨ j = 1 ∨ j = 2 ∨ j = 3 by omega) with rfl | rfl | rfl | rfl
    · exact mkT.to hT0 (fun v hv => (congrFun (s00A _) _).trans (aHouse_t0 v hv))
    · exact mkT.to hT1 (fun v hv => (congrFun (s00A _) _).trans (aHouse_t1 v hv))
    · exact mkT.to hT2 (fun v hv => (congrFun (s00A _) _).trans (aHouse_t2 v hv))
    · exact mkT.to hT3 (fun v hv => (congrFun (s00A _) _).trans (aHouse_t3 v hv))
theorem dsc_X8_init : yX8_init.cls = RX8 ∧ yX8_init.cls ≠ "java/lang/invoke/MethodHandle" ∧ yX8_init.cls ≠ "java/lang/invoke/VarHandle" ∧ (parseMethodDescriptor yX8_init.desc).map (fun d => d.parameters.length) = some 0 := ⟨rfl, by decide +kernel, by decide +kernel, by decide +kernel⟩
theorem dsc_X9_init : yX9_init.cls = RX9 ∧ yX9_init.cls ≠ "java/lang/invoke/MethodHandle" ∧ yX9_init.cls ≠ "java/lang/invoke/VarHandle" ∧ (parseMethodDescriptor yX9_init.desc).map (fun d => d.parameters.length) = some 0 := ⟨rfl, by decide +kernel, by decide +kernel, by decide +kernel⟩
theorem dsc_X6_init : yX6_init.cls = RX6 ∧ yX6_init.cls ≠ "java/lang/invoke/MethodHandle" ∧ yX6_init.cls ≠ "java/lang/invoke/VarHandle" ∧ (parseMethodDescriptor yX6_init.desc).map (fun d => d.parameters.length) = some 1 := ⟨rfl, by decide +kernel, by decide +kernel, by decide +kernel⟩
theorem dsc_X2_init : yX2_init.cls = RX2 ∧ yX2_init.cls ≠ "java/lang/invoke/MethodHandle" ∧ yX2_init.cls ≠ "java/lang/invoke/VarHandle" ∧ (parseMethodDescriptor yX2_init.desc).map (fun d => d.parameters.length) = some 1 := ⟨rfl, by decide +kernel, by decide +kernel, by decide +kernel⟩
theorem dsc_Jx4a65c_init_da8c8 : yJx4a65c_init_da8c8.cls = RJx4a65c ∧ yJx4a65c_init_da8c8.cls ≠ "java/lang/invoke/MethodHandle" ∧ yJx4a65c_init_da8c8.cls ≠ "java/lang/invoke/VarHandle" ∧ (parseMethodDescriptor yJx4a65c_init_da8c8.desc).map (fun d => d.parameters.length) = some 0 := ⟨rfl, by decide +kernel, by decide +kernel, by decide +kernel⟩
theorem dsc_X1_init : yX1_init.cls = RX1 ∧ yX1_init.cls ≠ "java/lang/invoke/MethodHandle" ∧ yX1_init.cls ≠ "java/lang/invoke/VarHandle" ∧ (parseMethodDescriptor yX1_init.desc).map (fun d => d.parameters.length) = some 2 := ⟨rfl, by decide +kernel, by decide +kernel, by decide +kernel⟩
theorem dsc_X10_init : yX10_init.cls = RX10 ∧ yX10_init.cls ≠ "java/lang/invoke/MethodHandle" ∧ yX10_init.cls ≠ "java/lang/invoke/VarHandle" ∧ (parseMethodDescriptor yX10_init.desc).map (fun d => d.parameters.length) = some 0 := ⟨rfl, by decide +kernel, by decide +kernel, by decide +kernel⟩
theorem dX11_init_0 : decode cX11_init 0 = .ok (.aload_n 0, 1) := by decide +kernel
theorem dX11_init_1 : decode cX11_init 1 = .ok (.invokespecial 1, 3) := by decide +kernel
theorem dX11_init_4 : decode cX11_init 4 = .ok (.aload_n 0, 1) := by decide +kernel
theorem dX11_init_5 : decode cX11_init 5 = .ok (.new 7, 3) := by decide +kernel
theorem dX11_init_8 : decode cX11_init 8 = .ok (.dup, 1) := by decide +kernel
theorem dX11_init_9 : decode cX11_init 9 = .ok (.invokespecial 9, 3) := by decide +kernel
theorem dX11_init_12 : decode cX11_init 12 = .ok (.putfield 10, 3) := by decide +kernel
theorem dX11_init_15 : decode cX11_init 15 = .ok (.aload_n 0, 1) := by decide +kernel
theorem dX11_init_16 : decode cX11_init 16 = .ok (.new 16, 3) := by decide +kernel
theorem dX11_init_19 : decode cX11_init 19 = .ok (.dup, 1) := by decide +kernel
theorem dX11_init_20 : decode cX11_init 20 = .ok (.invokespecial 18, 3) := by decide +kernel
theorem dX11_init_23 : decode cX11_init 23 = .ok (.putfield 19, 3) := by decide +kernel
theorem dX11_init_26 : decode cX11_init 26 = .ok (.aload_n 0, 1) := by decide +kernel
theorem dX11_init_27 : decode cX11_init 27 = .ok (.new 23, 3) := by decide +kernel
theorem dX11_init_30 : decode cX11_init 30 = .ok (.dup, 1) := by decide +kernel
theorem dX11_init_31 : decode cX11_init 31 = .ok (.aload_n 0, 1) := by decide +kernel
theorem dX11_init_32 : decode cX11_init 32 = .ok (.getfield 19, 3) := by decide +kernel
theorem dX11_init_35 : decode cX11_init 35 = .ok (.invokespecial 25, 3) := by decide +kernel
theorem dX11_init_38 : decode cX11_init 38 = .ok (.putfield 28, 3) := by decide +kernel
theorem dX11_init_41 : decode cX11_init 41 = .ok (.aload_n 0, 1) := by decide +kernel
theorem dX11_init_42 : decode cX11_init 42 = .ok (.new 32, 3) := by decide +kernel
theorem dX11_init_45 : decode cX11_init 45 = .ok (.dup, 1) := by decide +kernel
theorem dX11_init_46 : decode cX11_init 46 = .ok (.aload_n 0, 1) := by decide +kernel
theorem dX11_init_47 : decode cX11_init 47 = .ok (.getfield 19, 3) := by decide +kernel
theorem dX11_init_50 : decode cX11_init 50 = .ok (.invokespecial 34, 3) := by decide +kernel
theorem dX11_init_53 : decode cX11_init 53 = .ok (.putfield 35, 3) := by decide +kernel
theorem dX11_init_56 : decode cX11_init 56 = .ok (.aload_n 0, 1) := by decide +kernel
theorem dX11_init_57 : decode cX11_init 57 = .ok (.new 39, 3) := by decide +kernel
theorem dX11_init_60 : decode cX11_init 60 = .ok (.dup, 1) := by decide +kernel
theorem dX11_init_61 : decode cX11_init 61 = .ok (.invokespecial 41, 3) := by decide +kernel
theorem dX11_init_64 : decode cX11_init 64 = .ok (.putfield 42, 3) := by decide +kernel
theorem dX11_init_67 : decode cX11_init 67 = .ok (.aload_n 0, 1) := by decide +kernel
theorem dX11_init_68 : decode cX11_init 68 = .ok (.new 39, 3) := by decide +kernel
theorem dX11_init_71 : decode cX11_init 71 = .ok (.dup, 1) := by decide +kernel
theorem dX11_init_72 : decode cX11_init 72 = .ok (.invokespecial 41, 3) := by decide +kernel
theorem dX11_init_75 : decode cX11_init 75 = .ok (.putfield 46, 3) := by decide +kernel
theorem dX11_init_78 : decode cX11_init 78 = .ok (.aload_n 0, 1) := by decide +kernel
theorem dX11_init_79 : decode cX11_init 79 = .ok (.new 49, 3) := by decide +kernel
theorem dX11_init_82 : decode cX11_init 82 = .ok (.dup, 1) := by decide +kernel
theorem dX11_init_83 : decode cX11_init 83 = .ok (.aload_n 0, 1) := by decide +kernel
theorem dX11_init_84 : decode cX11_init 84 = .ok (.getfield 42, 3) := by decide +kernel
theorem dX11_init_87 : decode cX11_init 87 = .ok (.aload_n 0, 1) := by decide +kernel
theorem dX11_init_88 : decode cX11_init 88 = .ok (.getfield 46, 3) := by decide +kernel
theorem dX11_init_91 : decode cX11_init 91 = .ok (.invokespecial 51, 3) := by decide +kernel
theorem dX11_init_94 : decode cX11_init 94 = .ok (.putfield 54, 3) := by decide +kernel
theorem dX11_init_97 : decode cX11_init 97 = .ok (.aload_n 0, 1) := by decide +kernel
theorem dX11_init_98 : decode cX11_init 98 = .ok (.new 49, 3) := by decide +kernel
theorem dX11_init_101 : decode cX11_init 101 = .ok (.dup, 1) := by decide +kernel
theorem dX11_init_102 : decode cX11_init 102 = .ok (.aload_n 0, 1) := by decide +kernel
theorem dX11_init_103 : decode cX11_init 103 = .ok (.getfield 42, 3) := by decide +kernel
theorem dX11_init_106 : decode cX11_init 106 = .ok (.aload_n 0, 1) := by decide +kernel
theorem dX11_init_107 : decode cX11_init 107 = .ok (.getfield 46, 3) := by decide +kernel
theorem dX11_init_110 : decode cX11_init 110 = .ok (.invokespecial 51, 3) := by decide +kernel
theorem dX11_init_113 : decode cX11_init 113 = .ok (.putfield 58, 3) := by decide +kernel
theorem dX11_init_116 : decode cX11_init 116 = .ok (.aload_n 0, 1) := by decide +kernel
theorem dX11_init_117 : decode cX11_init 117 = .ok (.new 49, 3) := by decide +kernel
theorem dX11_init_120 : decode cX11_init 120 = .ok (.dup, 1) := by decide +kernel
theorem dX11_init_121 : decode cX11_init 121 = .ok (.aload_n 0, 1) := by decide +kernel
theorem dX11_init_122 : decode cX11_init 122 = .ok (.getfield 42, 3) := by decide +kernel
theorem dX11_init_125 : decode cX11_init 125 = .ok (.aload_n 0, 1) := by decide +kernel
theorem dX11_init_126 : decode cX11_init 126 = .ok (.getfield 46, 3) := by decide +kernel
theorem dX11_init_129 : decode cX11_init 129 = .ok (.invokespecial 51, 3) := by decide +kernel
theorem dX11_init_132 : decode cX11_init 132 = .ok (.putfield 61, 3) := by decide +kernel
theorem dX11_init_135 : decode cX11_init 135 = .ok (.aload_n 0, 1) := by decide +kernel
theorem dX11_init_136 : decode cX11_init 136 = .ok (.iconst 4, 1) := by decide +kernel
theorem dX11_init_137 : decode cX11_init 137 = .ok (.anewarray 64, 3) := by decide +kernel
theorem dX11_init_140 : decode cX11_init 140 = .ok (.dup, 1) := by decide +kernel
theorem dX11_init_141 : decode cX11_init 141 = .ok (.iconst 0, 1) := by decide +kernel
theorem dX11_init_142 : decode cX11_init 142 = .ok (.new 64, 3) := by decide +kernel
theorem dX11_init_145 : decode cX11_init 145 = .ok (.dup, 1) := by decide +kernel
theorem dX11_init_146 : decode cX11_init 146 = .ok (.invokespecial 66, 3) := by decide +kernel
theorem dX11_init_149 : decode cX11_init 149 = .ok (.aastore, 1) := by decide +kernel
theorem dX11_init_150 : decode cX11_init 150 = .ok (.dup, 1) := by decide +kernel
theorem dX11_init_151 : decode cX11_init 151 = .ok (.iconst 1, 1) := by decide +kernel
theorem dX11_init_152 : decode cX11_init 152 = .ok (.new 64, 3) := by decide +kernel
theorem dX11_init_155 : decode cX11_init 155 = .ok (.dup, 1) := by decide +kernel
theorem dX11_init_156 : decode cX11_init 156 = .ok (.invokespecial 66, 3) := by decide +kernel
theorem dX11_init_159 : decode cX11_init 159 = .ok (.aastore, 1) := by decide +kernel
theorem dX11_init_160 : decode cX11_init 160 = .ok (.dup, 1) := by decide +kernel
theorem dX11_init_161 : decode cX11_init 161 = .ok (.iconst 2, 1) := by decide +kernel
theorem dX11_init_162 : decode cX11_init 162 = .ok (.new 64, 3) := by decide +kernel
theorem dX11_init_165 : decode cX11_init 165 = .ok (.dup, 1) := by decide +kernel
theorem dX11_init_166 : decode cX11_init 166 = .ok (.invokespecial 66, 3) := by decide +kernel
theorem dX11_init_169 : decode cX11_init 169 = .ok (.aastore, 1) := by decide +kernel
theorem dX11_init_170 : decode cX11_init 170 = .ok (.dup, 1) := by decide +kernel
theorem dX11_init_171 : decode cX11_init 171 = .ok (.iconst 3, 1) := by decide +kernel
theorem dX11_init_172 : decode cX11_init 172 = .ok (.new 64, 3) := by decide +kernel
theorem dX11_init_175 : decode cX11_init 175 = .ok (.dup, 1) := by decide +kernel
theorem dX11_init_176 : decode cX11_init 176 = .ok (.invokespecial 66, 3) := by decide +kernel
theorem dX11_init_179 : decode cX11_init 179 = .ok (.aastore, 1) := by decide +kernel
theorem dX11_init_180 : decode cX11_init 180 = .ok (.putfield 67, 3) := by decide +kernel
theorem dX11_init_183 : decode cX11_init 183 = .ok (.aload_n 0, 1) := by decide +kernel
theorem dX11_init_184 : decode cX11_init 184 = .ok (.bipush 10, 2) := by decide +kernel
theorem dX11_init_186 : decode cX11_init 186 = .ok (.newarray .int, 2) := by decide +kernel
theorem dX11_init_188 : decode cX11_init 188 = .ok (.putfield 71, 3) := by decide +kernel
theorem dX11_init_191 : decode cX11_init 191 = .ok (.aload_n 0, 1) := by decide +kernel
theorem dX11_init_192 : decode cX11_init 192 = .ok (.bipush 10, 2) := by decide +kernel
theorem dX11_init_194 : decode cX11_init 194 = .ok (.newarray .int, 2) := by decide +kernel
theorem dX11_init_196 : decode cX11_init 196 = .ok (.putfield 75, 3) := by decide +kernel
theorem dX11_init_199 : decode cX11_init 199 = .ok (.aload_n 0, 1) := by decide +kernel
theorem dX11_init_200 : decode cX11_init 200 = .ok (.iconst 0, 1) := by decide +kernel
theorem dX11_init_201 : decode cX11_init 201 = .ok (.putfield 78, 3) := by decide +kernel
theorem dX11_init_204 : decode cX11_init 204 = .ok (.aload_n 0, 1) := by decide +kernel
theorem dX11_init_205 : decode cX11_init 205 = .ok (.sipush 1000, 3) := by decide +kernel
theorem dX11_init_208 : decode cX11_init 208 = .ok (.putfield 82, 3) := by decide +kernel
theorem dX11_init_211 : decode cX11_init 211 = .ok (.aload_n 0, 1) := by decide +kernel
theorem dX11_init_212 : decode cX11_init 212 = .ok (.iconst (-1), 1) := by decide +kernel
theorem dX11_init_213 : decode cX11_init 213 = .ok (.putfield 85, 3) := by decide +kernel
theorem dX11_init_216 : decode cX11_init 216 = .ok (.return_, 1) := by decide +kernel
set_option maxHeartbeats 2000000 in
set_option maxRecDepth 100000 in
theorem c_houseInit (l : Launch) (G : hG) (M : hM) (q0 : Nat) (hq : M q0 = some (0, .inr (12, [.null, .null, .null, .null, .null, .null, .null, .null, .null, .null, .null, .null, .int 0, .int 0, .int 0]))) : hCT l G yX11_init cX11_init 1 (Option.none) (hRm 6 300 12000) M [.ref q0] (fun v M' => v = none ∧ ∃ A : Nat → Nat, QV G M' (s00 A) h00 ∧ mkB G M' A ∧ A 0 = q0 ∧ A 14 = hDE G ∧ A 16 = hDE G) := by
  refine hCT.of (own := RX11) (nm := "<init>") (by decide) rfl rfl (Nat.le_of_ble_eq_true rfl) ?_
  intro p e s m args below meth c ls X Y hl
  have hx := X.1
  have hb := X.2.1
  have hl : lv_has ls 1 [(0, .ref q0)] := hl
  refine lv_aload_n hx hb dX11_init_0 rfl (lv_at hl 0 rfl) ?_
  refine h_objI X hl.1 kml_X11_1 (Nat.le_of_ble_eq_true rfl) (Nat.le_of_ble_eq_true rfl) dX11_init_1 ?_
  refine lv_aload_n hx hb dX11_init_4 rfl (lv_at hl 0 rfl) ?_
  refine h_new (ci := 9) X Y (1) (fs := [.null, .int 0]) rfl hin_X8 tyX8_ok kcl_X11_7 kinst_X8 kini_X8 (fun j hj => match j, hj with | 0, _ => rfl | 1, _ => rfl | z9 + 2, h9 => absurd h9 (by omega)) (Nat.le_of_ble_eq_true rfl) (Nat.le_of_ble_eq_true rfl) dX11_init_5 (fun qz1 Mz1 H fz1 hg1 Y => ?_)
  have hq := hg1 _ _ hq
  refine lv_dup hx hb dX11_init_8 rfl ?_
  refine h_callIN (rest := [.ref qz1, .ref q0]) X Y (c_tapeInit l G Mz1 qz1 1  fz1) (hgi0 kco_X8_init) kini_X8 (kmn_X11_9 X.2.2.2.2.2.2.2.2.1 X.2.2.2.2.2.2.2.2.2.1) kin_X8_init rfl dsc_X8_init.2 rfl hl.1 rfl (Nat.le_of_ble_eq_true rfl) ⟨Nat.le_of_ble_eq_true rfl, Nat.le_of_ble_eq_true rfl⟩ ⟨Nat.le_of_ble_eq_true rfl, Nat.le_of_ble_eq_true rfl⟩ dX11_init_9 ?_
  rintro _ Mz2 H locs ⟨rfl, r2, f1, f2, hfc⟩ Y
  try dsimp only [Option.toList, List.nil_append]
  have hq := hfc _ _ _ hq (by omega)
  have hfr1 : hFr (fun u => u = 0 ∨ u = 3 ∨ u = 8 ∨ u = 11 ∨ u = 13 ∨ u = 15 ∨ u = 100 ∨ u = 200 ∨ u = 300 ∨ u = 400 ∨ u = 420 ∨ u = 440 ∨ u = 460 ∨ u = 19) Mz2 Mz2 := hFr.rf
  refine h_putF X Y (k := 0) (v := .ref qz1) hq rfl hin_X11 tyX11_ok nmX11 (by decide) kfl_X11_10 rfl rfl rfl rfl (Nat.le_of_ble_eq_true rfl) dX11_init_12 (fun H locs Y => ?_)
  have Y : hHS G (hup Mz2 q0 (0, .inr (12, [.ref qz1, .null, .null, .null, .null, .null, .null, .null, .null, .null, .null, .null, .int 0, .int 0, .int 0]))) s H locs := Y
  have hfr1 := hFr.put (x := (0, .inr (12, [.ref qz1, .null, .null, .null, .null, .null, .null, .null, .null, .null, .null, .null, .int 0, .int 0, .int 0]))) hfr1 hq (by simp)
  have hq : hup Mz2 q0 (0, .inr (12, [.ref qz1, .null, .null, .null, .null, .null, .null, .null, .null, .null, .null, .null, .int 0, .int 0, .int 0])) q0 = some (0, .inr (12, [.ref qz1, .null, .null, .null, .null, .null, .null, .null, .null, .null, .null, .null, .int 0, .int 0, .int 0])) := hup_eq
  generalize hup Mz2 q0 (0, .inr (12, [.ref qz1, .null, .null, .null, .null, .null, .null, .null, .null, .null, .null, .null, .int 0, .int 0, .int 0])) = Mz3 at Y hq hfr1
  refine lv_aload_n hx hb dX11_init_15 rfl (lv_at hl 0 rfl) ?_
  refine h_new (ci := 10) X Y (3) (fs := [.null, .null, .null, .null, .int 0]) rfl hin_X9 tyX9_ok kcl_X11_16 kinst_X9 kini_X9 (fun j hj => match j, hj with | 0, _ => rfl | 1, _ => rfl | 2, _ => rfl | 3, _ => rfl | 4, _ => rfl | z9 + 5, h9 => absurd h9 (by omega)) (Nat.le_of_ble_eq_true rfl) (Nat.le_of_ble_eq_true rfl) dX11_init_16 (fun qz4 Mz4 H fz4 hg4 Y => ?_)
  have hq := hg4 _ _ hq
  have hfr1 := hFr.grow hfr1 hg4
  refine lv_dup hx hb dX11_init_19 rfl ?_
  refine h_callIN (rest := [.ref qz4, .ref q0]) X Y (c_tokInit l G Mz4 qz4 3  fz4) (hgi0 kco_X9_init) kini_X9 (kmn_X11_18 X.2.2.2.2.2.2.2.2.1 X.2.2.2.2.2.2.2.2.2.1) kin_X9_init rfl dsc_X9_init.2 rfl hl.1 rfl (Nat.le_of_ble_eq_true rfl) ⟨Nat.le_of_ble_eq_true rfl, Nat.le_of_ble_eq_true rfl⟩ ⟨Nat.le_of_ble_eq_true rfl, Nat.le_of_ble_eq_true rfl⟩ dX11_init_20 ?_
  rintro _ Mz5 H locs ⟨rfl, r4, r5, r6, r7, f3, f4, f5, f6, f7, hfc⟩ Y
  try dsimp only [Option.toList, List.nil_append]
  have hq := hfc _ _ _ hq (by omega)
  have hfr1 := hFr.tr hfr1 (hfc.mono (fun u z => by omega))
  have hfr3 : hFr (fun u => u = 0 ∨ u = 8 ∨ u = 11 ∨ u = 13 ∨ u = 15 ∨ u = 100 ∨ u = 200 ∨ u = 300 ∨ u = 400 ∨ u = 420 ∨ u = 440 ∨ u = 460 ∨ u = 19) Mz5 Mz5 := hFr.rf
  refine h_putF X Y (k := 1) (v := .ref qz4) hq rfl hin_X11 tyX11_ok nmX11 (by decide) kfl_X11_19 rfl rfl rfl rfl (Nat.le_of_ble_eq_true rfl) dX11_init_23 (fun H locs Y => ?_)
  have Y : hHS G (hup Mz5 q0 (0, .inr (12, [.ref qz1, .ref qz4, .null, .null, .null, .null, .null, .null, .null, .null, .null, .null, .int 0, .int 0, .int 0]))) s H locs := Y
  have hfr1 := hFr.put (x := (0, .inr (12, [.ref qz1, .ref qz4, .null, .null, .null, .null, .null, .null, .null, .null, .null, .null, .int 0, .int 0, .int 0]))) hfr1 hq (by simp)
  have hfr3 := hFr.put (x := (0, .inr (12, [.ref qz1, .ref qz4, .null, .null, .null, .null, .null, .null, .null, .null, .null, .null, .int 0, .int 0, .int 0]))) hfr3 hq (by simp)
  have hq : hup Mz5 q0 (0, .inr (12, [.ref qz1, .ref qz4, .null, .null, .null, .null, .null, .null, .null, .null, .null, .null, .int 0, .int 0, .int 0])) q0 = some (0, .inr (12, [.ref qz1, .ref qz4, .null, .null, .null, .null, .null, .null, .null, .null, .null, .null, .int 0, .int 0, .int 0])) := hup_eq
  generalize hup Mz5 q0 (0, .inr (12, [.ref qz1, .ref qz4, .null, .null, .null, .null, .null, .null, .null, .null, .null, .null, .int 0, .int 0, .int 0])) = Mz6 at Y hq hfr1 hfr3
  refine lv_aload_n hx hb dX11_init_26 rfl (lv_at hl 0 rfl) ?_
  refine h_new (ci := 8) X Y (8) (fs := [.null, .null, .null, .int 0, .int 0, .null]) rfl hin_X6 tyX6_ok kcl_X11_23 kinst_X6 kini_X6 (fun j hj => match j, hj with | 0, _ => rfl | 1, _ => rfl | 2, _ => rfl | 3, _ => rfl | 4, _ => rfl | 5, _ => rfl | z9 + 6, h9 => absurd h9 (by omega)) (Nat.le_of_ble_eq_true rfl) (Nat.le_of_ble_eq_true rfl) dX11_init_27 (fun qz7 Mz7 H fz7 hg7 Y => ?_)
  have hq := hg7 _ _ hq
  have hfr1 := hFr.grow hfr1 hg7
  have hfr3 := hFr.grow hfr3 hg7
  refine lv_dup hx hb dX11_init_30 rfl ?_
  refine lv_aload_n hx hb dX11_init_31 rfl (lv_at hl 0 rfl) ?_
  refine h_get X Y (k := 1) (v := .ref qz4) hq rfl hin_X11 (by decide) kfl_X11_19 rfl dX11_init_32 ?_
  refine h_callI (rest := [.ref qz7, .ref q0]) X Y (c_parInit l G Mz7 qz7 8 qz4 fz7) (hgi0 kco_X6_init) kini_X6 kml_X11_25 kin_X6_init rfl dsc_X6_init.2 rfl hl.1 rfl (Nat.le_of_ble_eq_true rfl) ⟨Nat.le_of_ble_eq_true rfl, Nat.le_of_ble_eq_true rfl⟩ ⟨Nat.le_of_ble_eq_true rfl, Nat.le_of_ble_eq_true rfl⟩ dX11_init_35 ?_
  rintro _ Mz8 H locs ⟨rfl, r9, r10, f8, f9, f10, hfc⟩ Y
  try dsimp only [Option.toList, List.nil_append]
  have hq := hfc _ _ _ hq (by omega)
  have hfr1 := hFr.tr hfr1 (hfc.mono (fun u z => by omega))
  have hfr3 := hFr.tr hfr3 (hfc.mono (fun u z => by omega))
  have hfr8 : hFr (fun u => u = 0 ∨ u = 11 ∨ u = 13 ∨ u = 15 ∨ u = 100 ∨ u = 200 ∨ u = 300 ∨ u = 400 ∨ u = 420 ∨ u = 440 ∨ u = 460 ∨ u = 19) Mz8 Mz8 := hFr.rf
  refine h_putF X Y (k := 2) (v := .ref qz7) hq rfl hin_X11 tyX11_ok nmX11 (by decide) kfl_X11_28 rfl rfl rfl rfl (Nat.le_of_ble_eq_true rfl) dX11_init_38 (fun H locs Y => ?_)
  have Y : hHS G (hup Mz8 q0 (0, .inr (12, [.ref qz1, .ref qz4, .ref qz7, .null, .null, .null, .null, .null, .null, .null, .null, .null, .int 0, .int 0, .int 0]))) s H locs := Y
  have hfr1 := hFr.put (x := (0, .inr (12, [.ref qz1, .ref qz4, .ref qz7, .null, .null, .null, .null, .null, .null, .null, .null, .null, .int 0, .int 0, .int 0]))) hfr1 hq (by simp)
  have hfr3 := hFr.put (x := (0, .inr (12, [.ref qz1, .ref qz4, .ref qz7, .null, .null, .null, .null, .null, .null, .null, .null, .null, .int 0, .int 0, .int 0]))) hfr3 hq (by simp)
  have hfr8 := hFr.put (x := (0, .inr (12, [.ref qz1, .ref qz4, .ref qz7, .null, .null, .null, .null, .null, .null, .null, .null, .null, .int 0, .int 0, .int 0]))) hfr8 hq (by simp)
  have hq : hup Mz8 q0 (0, .inr (12, [.ref qz1, .ref qz4, .ref qz7, .null, .null, .null, .null, .null, .null, .null, .null, .null, .int 0, .int 0, .int 0])) q0 = some (0, .inr (12, [.ref qz1, .ref qz4, .ref qz7, .null, .null, .null, .null, .null, .null, .null, .null, .null, .int 0, .int 0, .int 0])) := hup_eq
  generalize hup Mz8 q0 (0, .inr (12, [.ref qz1, .ref qz4, .ref qz7, .null, .null, .null, .null, .null, .null, .null, .null, .null, .int 0, .int 0, .int 0])) = Mz9 at Y hq hfr1 hfr3 hfr8
  refine lv_aload_n hx hb dX11_init_41 rfl (lv_at hl 0 rfl) ?_
  refine h_new (ci := 4) X Y (11) (fs := [.null, .null, .int 0, .int 0]) rfl hin_X2 tyX2_ok kcl_X11_32 kinst_X2 kini_X2 (fun j hj => match j, hj with | 0, _ => rfl | 1, _ => rfl | 2, _ => rfl | 3, _ => rfl | z9 + 4, h9 => absurd h9 (by omega)) (Nat.le_of_ble_eq_true rfl) (Nat.le_of_ble_eq_true rfl) dX11_init_42 (fun qz10 Mz10 H fz10 hg10 Y => ?_)
  have hq := hg10 _ _ hq
  have hfr1 := hFr.grow hfr1 hg10
  have hfr3 := hFr.grow hfr3 hg10
  have hfr8 := hFr.grow hfr8 hg10
  refine lv_dup hx hb dX11_init_45 rfl ?_
  refine lv_aload_n hx hb dX11_init_46 rfl (lv_at hl 0 rfl) ?_
  refine h_get X Y (k := 1) (v := .ref qz4) hq rfl hin_X11 (by decide) kfl_X11_19 rfl dX11_init_47 ?_
  refine h_callI (rest := [.ref qz10, .ref q0]) X Y (c_cheInit l G Mz10 qz10 11 qz4 fz10) (hgi0 kco_X2_init) kini_X2 kml_X11_34 kin_X2_init rfl dsc_X2_init.2 rfl hl.1 rfl (Nat.le_of_ble_eq_true rfl) ⟨Nat.le_of_ble_eq_true rfl, Nat.le_of_ble_eq_true rfl⟩ ⟨Nat.le_of_ble_eq_true rfl, Nat.le_of_ble_eq_true rfl⟩ dX11_init_50 ?_
  rintro _ Mz11 H locs ⟨rfl, r12, f11, f12, hfc⟩ Y
  try dsimp only [Option.toList, List.nil_append]
  have hq := hfc _ _ _ hq (by omega)
  have hfr1 := hFr.tr hfr1 (hfc.mono (fun u z => by omega))
  have hfr3 := hFr.tr hfr3 (hfc.mono (fun u z => by omega))
  have hfr8 := hFr.tr hfr8 (hfc.mono (fun u z => by omega))
  have hfr11 : hFr (fun u => u = 0 ∨ u = 13 ∨ u = 15 ∨ u = 100 ∨ u = 200 ∨ u = 300 ∨ u = 400 ∨ u = 420 ∨ u = 440 ∨ u = 460 ∨ u = 19) Mz11 Mz11 := hFr.rf
  refine h_putF X Y (k := 3) (v := .ref qz10) hq rfl hin_X11 tyX11_ok nmX11 (by decide) kfl_X11_35 rfl rfl rfl rfl (Nat.le_of_ble_eq_true rfl) dX11_init_53 (fun H locs Y => ?_)
  have Y : hHS G (hup Mz11 q0 (0, .inr (12, [.ref qz1, .ref qz4, .ref qz7, .ref qz10, .null, .null, .null, .null, .null, .null, .null, .null, .int 0, .int 0, .int 0]))) s H locs := Y
  have hfr1 := hFr.put (x := (0, .inr (12, [.ref qz1, .ref qz4, .ref qz7, .ref qz10, .null, .null, .null, .null, .null, .null, .null, .null, .int 0, .int 0, .int 0]))) hfr1 hq (by simp)
  have hfr3 := hFr.put (x := (0, .inr (12, [.ref qz1, .ref qz4, .ref qz7, .ref qz10, .null, .null, .null, .null, .null, .null, .null, .null, .int 0, .int 0, .int 0]))) hfr3 hq (by simp)
  have hfr8 := hFr.put (x := (0, .inr (12, [.ref qz1, .ref qz4, .ref qz7, .ref qz10, .null, .null, .null, .null, .null, .null, .null, .null, .int 0, .int 0, .int 0]))) hfr8 hq (by simp)
  have hfr11 := hFr.put (x := (0, .inr (12, [.ref qz1, .ref qz4, .ref qz7, .ref qz10, .null, .null, .null, .null, .null, .null, .null, .null, .int 0, .int 0, .int 0]))) hfr11 hq (by simp)
  have hq : hup Mz11 q0 (0, .inr (12, [.ref qz1, .ref qz4, .ref qz7, .ref qz10, .null, .null, .null, .null, .null, .null, .null, .null, .int 0, .int 0, .int 0])) q0 = some (0, .inr (12, [.ref qz1, .ref qz4, .ref qz7, .ref qz10, .null, .null, .null, .null, .null, .null, .null, .null, .int 0, .int 0, .int 0])) := hup_eq
  generalize hup Mz11 q0 (0, .inr (12, [.ref qz1, .ref qz4, .ref qz7, .ref qz10, .null, .null, .null, .null, .null, .null, .null, .null, .int 0, .int 0, .int 0])) = Mz12 at Y hq hfr1 hfr3 hfr8 hfr11
  refine lv_aload_n hx hb dX11_init_56 rfl (lv_at hl 0 rfl) ?_
  refine h_new (ci := 2) X Y (13) (fs := [.int 0, .null, .int 0]) rfl hin_Jx4a65c tyJx4a65c_ok kcl_X11_39 kinst_Jx4a65c kini_Jx4a65c (fun j hj => match j, hj with | 0, _ => rfl | 1, _ => rfl | 2, _ => rfl | z9 + 3, h9 => absurd h9 (by omega)) (Nat.le_of_ble_eq_true rfl) (Nat.le_of_ble_eq_true rfl) dX11_init_57 (fun qz13 Mz13 H fz13 hg13 Y => ?_)
  have hq := hg13 _ _ hq
  have hfr1 := hFr.grow hfr1 hg13
  have hfr3 := hFr.grow hfr3 hg13
  have hfr8 := hFr.grow hfr8 hg13
  have hfr11 := hFr.grow hfr11 hg13
  refine lv_dup hx hb dX11_init_60 rfl ?_
  refine h_callI (rest := [.ref qz13, .ref q0]) X Y (c_listInit l G Mz13 qz13 13  fz13) (hgi0 kco_Jx4a65c_init_da8c8) kini_Jx4a65c kml_X11_41 kin_Jx4a65c_init_da8c8 rfl dsc_Jx4a65c_init_da8c8.2 rfl hl.1 rfl (Nat.le_of_ble_eq_true rfl) ⟨Nat.le_of_ble_eq_true rfl, Nat.le_of_ble_eq_true rfl⟩ ⟨Nat.le_of_ble_eq_true rfl, Nat.le_of_ble_eq_true rfl⟩ dX11_init_61 ?_
  rintro _ Mz14 H locs ⟨rfl, f13, hfc⟩ Y
  try dsimp only [Option.toList, List.nil_append]
  have hq := hfc _ _ _ hq (by omega)
  have hfr1 := hFr.tr hfr1 (hfc.mono (fun u z => by omega))
  have hfr3 := hFr.tr hfr3 (hfc.mono (fun u z => by omega))
  have hfr8 := hFr.tr hfr8 (hfc.mono (fun u z => by omega))
  have hfr11 := hFr.tr hfr11 (hfc.mono (fun u z => by omega))
  have hfr13 : hFr (fun u => u = 0 ∨ u = 15 ∨ u = 100 ∨ u = 200 ∨ u = 300 ∨ u = 400 ∨ u = 420 ∨ u = 440 ∨ u = 460 ∨ u = 19) Mz14 Mz14 := hFr.rf
  refine h_putF X Y (k := 4) (v := .ref qz13) hq rfl hin_X11 tyX11_ok nmX11 (by decide) kfl_X11_42 rfl rfl rfl rfl (Nat.le_of_ble_eq_true rfl) dX11_init_64 (fun H locs Y => ?_)
  have Y : hHS G (hup Mz14 q0 (0, .inr (12, [.ref qz1, .ref qz4, .ref qz7, .ref qz10, .ref qz13, .null, .null, .null, .null, .null, .null, .null, .int 0, .int 0, .int 0]))) s H locs := Y
  have hfr1 := hFr.put (x := (0, .inr (12, [.ref qz1, .ref qz4, .ref qz7, .ref qz10, .ref qz13, .null, .null, .null, .null, .null, .null, .null, .int 0, .int 0, .int 0]))) hfr1 hq (by simp)
  have hfr3 := hFr.put (x := (0, .inr (12, [.ref qz1, .ref qz4, .ref qz7, .ref qz10, .ref qz13, .null, .null, .null, .null, .null, .null, .null, .int 0, .int 0, .int 0]))) hfr3 hq (by simp)
  have hfr8 := hFr.put (x := (0, .inr (12, [.ref qz1, .ref qz4, .ref qz7, .ref qz10, .ref qz13, .null, .null, .null, .null, .null, .null, .null, .int 0, .int 0, .int 0]))) hfr8 hq (by simp)
  have hfr11 := hFr.put (x := (0, .inr (12, [.ref qz1, .ref qz4, .ref qz7, .ref qz10, .ref qz13, .null, .null, .null, .null, .null, .null, .null, .int 0, .int 0, .int 0]))) hfr11 hq (by simp)
  have hfr13 := hFr.put (x := (0, .inr (12, [.ref qz1, .ref qz4, .ref qz7, .ref qz10, .ref qz13, .null, .null, .null, .null, .null, .null, .null, .int 0, .int 0, .int 0]))) hfr13 hq (by simp)
  have hq : hup Mz14 q0 (0, .inr (12, [.ref qz1, .ref qz4, .ref qz7, .ref qz10, .ref qz13, .null, .null, .null, .null, .null, .null, .null, .int 0, .int 0, .int 0])) q0 = some (0, .inr (12, [.ref qz1, .ref qz4, .ref qz7, .ref qz10, .ref qz13, .null, .null, .null, .null, .null, .null, .null, .int 0, .int 0, .int 0])) := hup_eq
  generalize hup Mz14 q0 (0, .inr (12, [.ref qz1, .ref qz4, .ref qz7, .ref qz10, .ref qz13, .null, .null, .null, .null, .null, .null, .null, .int 0, .int 0, .int 0])) = Mz15 at Y hq hfr1 hfr3 hfr8 hfr11 hfr13
  refine lv_aload_n hx hb dX11_init_67 rfl (lv_at hl 0 rfl) ?_
  refine h_new (ci := 2) X Y (15) (fs := [.int 0, .null, .int 0]) rfl hin_Jx4a65c tyJx4a65c_ok kcl_X11_39 kinst_Jx4a65c kini_Jx4a65c (fun j hj => match j, hj with | 0, _ => rfl | 1, _ => rfl | 2, _ => rfl | z9 + 3, h9 => absurd h9 (by omega)) (Nat.le_of_ble_eq_true rfl) (Nat.le_of_ble_eq_true rfl) dX11_init_68 (fun qz16 Mz16 H fz16 hg16 Y => ?_)
  have hq := hg16 _ _ hq
  have hfr1 := hFr.grow hfr1 hg16
  have hfr3 := hFr.grow hfr3 hg16
  have hfr8 := hFr.grow hfr8 hg16
  have hfr11 := hFr.grow hfr11 hg16
  have hfr13 := hFr.grow hfr13 hg16
  refine lv_dup hx hb dX11_init_71 rfl ?_
  refine h_callI (rest := [.ref qz16, .ref q0]) X Y (c_listInit l G Mz16 qz16 15  fz16) (hgi0 kco_Jx4a65c_init_da8c8) kini_Jx4a65c kml_X11_41 kin_Jx4a65c_init_da8c8 rfl dsc_Jx4a65c_init_da8c8.2 rfl hl.1 rfl (Nat.le_of_ble_eq_true rfl) ⟨Nat.le_of_ble_eq_true rfl, Nat.le_of_ble_eq_true rfl⟩ ⟨Nat.le_of_ble_eq_true rfl, Nat.le_of_ble_eq_true rfl⟩ dX11_init_72 ?_
  rintro _ Mz17 H locs ⟨rfl, f15, hfc⟩ Y
  try dsimp only [Option.toList, List.nil_append]
  have hq := hfc _ _ _ hq (by omega)
  have hfr1 := hFr.tr hfr1 (hfc.mono (fun u z => by omega))
  have hfr3 := hFr.tr hfr3 (hfc.mono (fun u z => by omega))
  have hfr8 := hFr.tr hfr8 (hfc.mono (fun u z => by omega))
  have hfr11 := hFr.tr hfr11 (hfc.mono (fun u z => by omega))
  have hfr13 := hFr.tr hfr13 (hfc.mono (fun u z => by omega))
  have hfr15 : hFr (fun u => u = 0 ∨ u = 100 ∨ u = 200 ∨ u = 300 ∨ u = 400 ∨ u = 420 ∨ u = 440 ∨ u = 460 ∨ u = 19) Mz17 Mz17 := hFr.rf
  refine h_putF X Y (k := 5) (v := .ref qz16) hq rfl hin_X11 tyX11_ok nmX11 (by decide) kfl_X11_46 rfl rfl rfl rfl (Nat.le_of_ble_eq_true rfl) dX11_init_75 (fun H locs Y => ?_)
  have Y : hHS G (hup Mz17 q0 (0, .inr (12, [.ref qz1, .ref qz4, .ref qz7, .ref qz10, .ref qz13, .ref qz16, .null, .null, .null, .null, .null, .null, .int 0, .int 0, .int 0]))) s H locs := Y
  have hfr1 := hFr.put (x := (0, .inr (12, [.ref qz1, .ref qz4, .ref qz7, .ref qz10, .ref qz13, .ref qz16, .null, .null, .null, .null, .null, .null, .int 0, .int 0, .int 0]))) hfr1 hq (by simp)
  have hfr3 := hFr.put (x := (0, .inr (12, [.ref qz1, .ref qz4, .ref qz7, .ref qz10, .ref qz13, .ref qz16, .null, .null, .null, .null, .null, .null, .int 0, .int 0, .int 0]))) hfr3 hq (by simp)
  have hfr8 := hFr.put (x := (0, .inr (12, [.ref qz1, .ref qz4, .ref qz7, .ref qz10, .ref qz13, .ref qz16, .null, .null, .null, .null, .null, .null, .int 0, .int 0, .int 0]))) hfr8 hq (by simp)
  have hfr11 := hFr.put (x := (0, .inr (12, [.ref qz1, .ref qz4, .ref qz7, .ref qz10, .ref qz13, .ref qz16, .null, .null, .null, .null, .null, .null, .int 0, .int 0, .int 0]))) hfr11 hq (by simp)
  have hfr13 := hFr.put (x := (0, .inr (12, [.ref qz1, .ref qz4, .ref qz7, .ref qz10, .ref qz13, .ref qz16, .null, .null, .null, .null, .null, .null, .int 0, .int 0, .int 0]))) hfr13 hq (by simp)
  have hfr15 := hFr.put (x := (0, .inr (12, [.ref qz1, .ref qz4, .ref qz7, .ref qz10, .ref qz13, .ref qz16, .null, .null, .null, .null, .null, .null, .int 0, .int 0, .int 0]))) hfr15 hq (by simp)
  have hq : hup Mz17 q0 (0, .inr (12, [.ref qz1, .ref qz4, .ref qz7, .ref qz10, .ref qz13, .ref qz16, .null, .null, .null, .null, .null, .null, .int 0, .int 0, .int 0])) q0 = some (0, .inr (12, [.ref qz1, .ref qz4, .ref qz7, .ref qz10, .ref qz13, .ref qz16, .null, .null, .null, .null, .null, .null, .int 0, .int 0, .int 0])) := hup_eq
  generalize hup Mz17 q0 (0, .inr (12, [.ref qz1, .ref qz4, .ref qz7, .ref qz10, .ref qz13, .ref qz16, .null, .null, .null, .null, .null, .null, .int 0, .int 0, .int 0])) = Mz18 at Y hq hfr1 hfr3 hfr8 hfr11 hfr13 hfr15
  refine lv_aload_n hx hb dX11_init_78 rfl (lv_at hl 0 rfl) ?_
  refine h_new (ci := 3) X Y (100) (fs := [.null, .null, .null, .null, .null, .null]) rfl hin_X1 tyX1_ok kcl_X11_49 kinst_X1 kini_X1 (fun j hj => match j, hj with | 0, _ => rfl | 1, _ => rfl | 2, _ => rfl | 3, _ => rfl | 4, _ => rfl | 5, _ => rfl | z9 + 6, h9 => absurd h9 (by omega)) (Nat.le_of_ble_eq_true rfl) (Nat.le_of_ble_eq_true rfl) dX11_init_79 (fun qz19 Mz19 H fz19 hg19 Y => ?_)
  have hq := hg19 _ _ hq
  have hfr1 := hFr.grow hfr1 hg19
  have hfr3 := hFr.grow hfr3 hg19
  have hfr8 := hFr.grow hfr8 hg19
  have hfr11 := hFr.grow hfr11 hg19
  have hfr13 := hFr.grow hfr13 hg19
  have hfr15 := hFr.grow hfr15 hg19
  refine lv_dup hx hb dX11_init_82 rfl ?_
  refine lv_aload_n hx hb dX11_init_83 rfl (lv_at hl 0 rfl) ?_
  refine h_get X Y (k := 4) (v := .ref qz13) hq rfl hin_X11 (by decide) kfl_X11_42 rfl dX11_init_84 ?_
  refine lv_aload_n hx hb dX11_init_87 rfl (lv_at hl 0 rfl) ?_
  refine h_get X Y (k := 5) (v := .ref qz16) hq rfl hin_X11 (by decide) kfl_X11_46 rfl dX11_init_88 ?_
  refine h_callI (rest := [.ref qz19, .ref q0]) X Y (c_cesInit l G Mz19 qz19 100 qz13 qz16 fz19) (hgi0 kco_X1_init) kini_X1 kml_X11_51 kin_X1_init rfl dsc_X1_init.2 rfl hl.1 rfl (Nat.le_of_ble_eq_true rfl) ⟨Nat.le_of_ble_eq_true rfl, Nat.le_of_ble_eq_true rfl⟩ ⟨Nat.le_of_ble_eq_true rfl, Nat.le_of_ble_eq_true rfl⟩ dX11_init_91 ?_
  rintro _ Mz20 H locs ⟨rfl, x1, x2, x3, x4, xb, xd, g0, g1, g2, g3, g4, g5, g6, hfc⟩ Y
  try dsimp only [Option.toList, List.nil_append]
  have hq := hfc _ _ _ hq (by omega)
  have hfr1 := hFr.tr hfr1 (hfc.mono (fun u z => by omega))
  have hfr3 := hFr.tr hfr3 (hfc.mono (fun u z => by omega))
  have hfr8 := hFr.tr hfr8 (hfc.mono (fun u z => by omega))
  have hfr11 := hFr.tr hfr11 (hfc.mono (fun u z => by omega))
  have hfr13 := hFr.tr hfr13 (hfc.mono (fun u z => by omega))
  have hfr15 := hFr.tr hfr15 (hfc.mono (fun u z => by omega))
  obtain ⟨C100, hA100, k100⟩ := mkC_of g0 g1 g2 g3 g4 g5 g6
  have hfr100 : hFr (fun u => u = 0 ∨ u = 200 ∨ u = 300 ∨ u = 400 ∨ u = 420 ∨ u = 440 ∨ u = 460 ∨ u = 19) Mz20 Mz20 := hFr.rf
  refine h_putF X Y (k := 6) (v := .ref qz19) hq rfl hin_X11 tyX11_ok nmX11 (by decide) kfl_X11_54 rfl rfl rfl rfl (Nat.le_of_ble_eq_true rfl) dX11_init_94 (fun H locs Y => ?_)
  have Y : hHS G (hup Mz20 q0 (0, .inr (12, [.ref qz1, .ref qz4, .ref qz7, .ref qz10, .ref qz13, .ref qz16, .ref qz19, .null, .null, .null, .null, .null, .int 0, .int 0, .int 0]))) s H locs := Y
  have hfr1 := hFr.put (x := (0, .inr (12, [.ref qz1, .ref qz4, .ref qz7, .ref qz10, .ref qz13, .ref qz16, .ref qz19, .null, .null, .null, .null, .null, .int 0, .int 0, .int 0]))) hfr1 hq (by simp)
  have hfr3 := hFr.put (x := (0, .inr (12, [.ref qz1, .ref qz4, .ref qz7, .ref qz10, .ref qz13, .ref qz16, .ref qz19, .null, .null, .null, .null, .null, .int 0, .int 0, .int 0]))) hfr3 hq (by simp)
  have hfr8 := hFr.put (x := (0, .inr (12, [.ref qz1, .ref qz4, .ref qz7, .ref qz10, .ref qz13, .ref qz16, .ref qz19, .null, .null, .null, .null, .null, .int 0, .int 0, .int 0]))) hfr8 hq (by simp)
  have hfr11 := hFr.put (x := (0, .inr (12, [.ref qz1, .ref qz4, .ref qz7, .ref qz10, .ref qz13, .ref qz16, .ref qz19, .null, .null, .null, .null, .null, .int 0, .int 0, .int 0]))) hfr11 hq (by simp)
  have hfr13 := hFr.put (x := (0, .inr (12, [.ref qz1, .ref qz4, .ref qz7, .ref qz10, .ref qz13, .ref qz16, .ref qz19, .null, .null, .null, .null, .null, .int 0, .int 0, .int 0]))) hfr13 hq (by simp)
  have hfr15 := hFr.put (x := (0, .inr (12, [.ref qz1, .ref qz4, .ref qz7, .ref qz10, .ref qz13, .ref qz16, .ref qz19, .null, .null, .null, .null, .null, .int 0, .int 0, .int 0]))) hfr15 hq (by simp)
  have hfr100 := hFr.put (x := (0, .inr (12, [.ref qz1, .ref qz4, .ref qz7, .ref qz10, .ref qz13, .ref qz16, .ref qz19, .null, .null, .null, .null, .null, .int 0, .int 0, .int 0]))) hfr100 hq (by simp)
  have hq : hup Mz20 q0 (0, .inr (12, [.ref qz1, .ref qz4, .ref qz7, .ref qz10, .ref qz13, .ref qz16, .ref qz19, .null, .null, .null, .null, .null, .int 0, .int 0, .int 0])) q0 = some (0, .inr (12, [.ref qz1, .ref qz4, .ref qz7, .ref qz10, .ref qz13, .ref qz16, .ref qz19, .null, .null, .null, .null, .null, .int 0, .int 0, .int 0])) := hup_eq
  generalize hup Mz20 q0 (0, .inr (12, [.ref qz1, .ref qz4, .ref qz7, .ref qz10, .ref qz13, .ref qz16, .ref qz19, .null, .null, .null, .null, .null, .int 0, .int 0, .int 0])) = Mz21 at Y hq hfr1 hfr3 hfr8 hfr11 hfr13 hfr15 hfr100
  refine lv_aload_n hx hb dX11_init_97 rfl (lv_at hl 0 rfl) ?_
  refine h_new (ci := 3) X Y (200) (fs := [.null, .null, .null, .null, .null, .null]) rfl hin_X1 tyX1_ok kcl_X11_49 kinst_X1 kini_X1 (fun j hj => match j, hj with | 0, _ => rfl | 1, _ => rfl | 2, _ => rfl | 3, _ => rfl | 4, _ => rfl | 5, _ => rfl | z9 + 6, h9 => absurd h9 (by omega)) (Nat.le_of_ble_eq_true rfl) (Nat.le_of_ble_eq_true rfl) dX11_init_98 (fun qz22 Mz22 H fz22 hg22 Y => ?_)
  have hq := hg22 _ _ hq
  have hfr1 := hFr.grow hfr1 hg22
  have hfr3 := hFr.grow hfr3 hg22
  have hfr8 := hFr.grow hfr8 hg22
  have hfr11 := hFr.grow hfr11 hg22
  have hfr13 := hFr.grow hfr13 hg22
  have hfr15 := hFr.grow hfr15 hg22
  have hfr100 := hFr.grow hfr100 hg22
  refine lv_dup hx hb dX11_init_101 rfl ?_
  refine lv_aload_n hx hb dX11_init_102 rfl (lv_at hl 0 rfl) ?_
  refine h_get X Y (k := 4) (v := .ref qz13) hq rfl hin_X11 (by decide) kfl_X11_42 rfl dX11_init_103 ?_
  refine lv_aload_n hx hb dX11_init_106 rfl (lv_at hl 0 rfl) ?_
  refine h_get X Y (k := 5) (v := .ref qz16) hq rfl hin_X11 (by decide) kfl_X11_46 rfl dX11_init_107 ?_
  refine h_callI (rest := [.ref qz22, .ref q0]) X Y (c_cesInit l G Mz22 qz22 200 qz13 qz16 fz22) (hgi0 kco_X1_init) kini_X1 kml_X11_51 kin_X1_init rfl dsc_X1_init.2 rfl hl.1 rfl (Nat.le_of_ble_eq_true rfl) ⟨Nat.le_of_ble_eq_true rfl, Nat.le_of_ble_eq_true rfl⟩ ⟨Nat.le_of_ble_eq_true rfl, Nat.le_of_ble_eq_true rfl⟩ dX11_init_110 ?_
  rintro _ Mz23 H locs ⟨rfl, x1, x2, x3, x4, xb, xd, g0, g1, g2, g3, g4, g5, g6, hfc⟩ Y
  try dsimp only [Option.toList, List.nil_append]
  have hq := hfc _ _ _ hq (by omega)
  have hfr1 := hFr.tr hfr1 (hfc.mono (fun u z => by omega))
  have hfr3 := hFr.tr hfr3 (hfc.mono (fun u z => by omega))
  have hfr8 := hFr.tr hfr8 (hfc.mono (fun u z => by omega))
  have hfr11 := hFr.tr hfr11 (hfc.mono (fun u z => by omega))
  have hfr13 := hFr.tr hfr13 (hfc.mono (fun u z => by omega))
  have hfr15 := hFr.tr hfr15 (hfc.mono (fun u z => by omega))
  have hfr100 := hFr.tr hfr100 (hfc.mono (fun u z => by omega))
  obtain ⟨C200, hA200, k200⟩ := mkC_of g0 g1 g2 g3 g4 g5 g6
  have hfr200 : hFr (fun u => u = 0 ∨ u = 300 ∨ u = 400 ∨ u = 420 ∨ u = 440 ∨ u = 460 ∨ u = 19) Mz23 Mz23 := hFr.rf
  refine h_putF X Y (k := 7) (v := .ref qz22) hq rfl hin_X11 tyX11_ok nmX11 (by decide) kfl_X11_58 rfl rfl rfl rfl (Nat.le_of_ble_eq_true rfl) dX11_init_113 (fun H locs Y => ?_)
  have Y : hHS G (hup Mz23 q0 (0, .inr (12, [.ref qz1, .ref qz4, .ref qz7, .ref qz10, .ref qz13, .ref qz16, .ref qz19, .ref qz22, .null, .null, .null, .null, .int 0, .int 0, .int 0]))) s H locs := Y
  have hfr1 := hFr.put (x := (0, .inr (12, [.ref qz1, .ref qz4, .ref qz7, .ref qz10, .ref qz13, .ref qz16, .ref qz19, .ref qz22, .null, .null, .null, .null, .int 0, .int 0, .int 0]))) hfr1 hq (by simp)
  have hfr3 := hFr.put (x := (0, .inr (12, [.ref qz1, .ref qz4, .ref qz7, .ref qz10, .ref qz13, .ref qz16, .ref qz19, .ref qz22, .null, .null, .null, .null, .int 0, .int 0, .int 0]))) hfr3 hq (by simp)
  have hfr8 := hFr.put (x := (0, .inr (12, [.ref qz1, .ref qz4, .ref qz7, .ref qz10, .ref qz13, .ref qz16, .ref qz19, .ref qz22, .null, .null, .null, .null, .int 0, .int 0, .int 0]))) hfr8 hq (by simp)
  have hfr11 := hFr.put (x := (0, .inr (12, [.ref qz1, .ref qz4, .ref qz7, .ref qz10, .ref qz13, .ref qz16, .ref qz19, .ref qz22, .null, .null, .null, .null, .int 0, .int 0, .int 0]))) hfr11 hq (by simp)
  have hfr13 := hFr.put (x := (0, .inr (12, [.ref qz1, .ref qz4, .ref qz7, .ref qz10, .ref qz13, .ref qz16, .ref qz19, .ref qz22, .null, .null, .null, .null, .int 0, .int 0, .int 0]))) hfr13 hq (by simp)
  have hfr15 := hFr.put (x := (0, .inr (12, [.ref qz1, .ref qz4, .ref qz7, .ref qz10, .ref qz13, .ref qz16, .ref qz19, .ref qz22, .null, .null, .null, .null, .int 0, .int 0, .int 0]))) hfr15 hq (by simp)
  have hfr100 := hFr.put (x := (0, .inr (12, [.ref qz1, .ref qz4, .ref qz7, .ref qz10, .ref qz13, .ref qz16, .ref qz19, .ref qz22, .null, .null, .null, .null, .int 0, .int 0, .int 0]))) hfr100 hq (by simp)
  have hfr200 := hFr.put (x := (0, .inr (12, [.ref qz1, .ref qz4, .ref qz7, .ref qz10, .ref qz13, .ref qz16, .ref qz19, .ref qz22, .null, .null, .null, .null, .int 0, .int 0, .int 0]))) hfr200 hq (by simp)
  have hq : hup Mz23 q0 (0, .inr (12, [.ref qz1, .ref qz4, .ref qz7, .ref qz10, .ref qz13, .ref qz16, .ref qz19, .ref qz22, .null, .null, .null, .null, .int 0, .int 0, .int 0])) q0 = some (0, .inr (12, [.ref qz1, .ref qz4, .ref qz7, .ref qz10, .ref qz13, .ref qz16, .ref qz19, .ref qz22, .null, .null, .null, .null, .int 0, .int 0, .int 0])) := hup_eq
  generalize hup Mz23 q0 (0, .inr (12, [.ref qz1, .ref qz4, .ref qz7, .ref qz10, .ref qz13, .ref qz16, .ref qz19, .ref qz22, .null, .null, .null, .null, .int 0, .int 0, .int 0])) = Mz24 at Y hq hfr1 hfr3 hfr8 hfr11 hfr13 hfr15 hfr100 hfr200
  refine lv_aload_n hx hb dX11_init_116 rfl (lv_at hl 0 rfl) ?_
  refine h_new (ci := 3) X Y (300) (fs := [.null, .null, .null, .null, .null, .null]) rfl hin_X1 tyX1_ok kcl_X11_49 kinst_X1 kini_X1 (fun j hj => match j, hj with | 0, _ => rfl | 1, _ => rfl | 2, _ => rfl | 3, _ => rfl | 4, _ => rfl | 5, _ => rfl | z9 + 6, h9 => absurd h9 (by omega)) (Nat.le_of_ble_eq_true rfl) (Nat.le_of_ble_eq_true rfl) dX11_init_117 (fun qz25 Mz25 H fz25 hg25 Y => ?_)
  have hq := hg25 _ _ hq
  have hfr1 := hFr.grow hfr1 hg25
  have hfr3 := hFr.grow hfr3 hg25
  have hfr8 := hFr.grow hfr8 hg25
  have hfr11 := hFr.grow hfr11 hg25
  have hfr13 := hFr.grow hfr13 hg25
  have hfr15 := hFr.grow hfr15 hg25
  have hfr100 := hFr.grow hfr100 hg25
  have hfr200 := hFr.grow hfr200 hg25
  refine lv_dup hx hb dX11_init_120 rfl ?_
  refine lv_aload_n hx hb dX11_init_121 rfl (lv_at hl 0 rfl) ?_
  refine h_get X Y (k := 4) (v := .ref qz13) hq rfl hin_X11 (by decide) kfl_X11_42 rfl dX11_init_122 ?_
  refine lv_aload_n hx hb dX11_init_125 rfl (lv_at hl 0 rfl) ?_
  refine h_get X Y (k := 5) (v := .ref qz16) hq rfl hin_X11 (by decide) kfl_X11_46 rfl dX11_init_126 ?_
  refine h_callI (rest := [.ref qz25, .ref q0]) X Y (c_cesInit l G Mz25 qz25 300 qz13 qz16 fz25) (hgi0 kco_X1_init) kini_X1 kml_X11_51 kin_X1_init rfl dsc_X1_init.2 rfl hl.1 rfl (Nat.le_of_ble_eq_true rfl) ⟨Nat.le_of_ble_eq_true rfl, Nat.le_of_ble_eq_true rfl⟩ ⟨Nat.le_of_ble_eq_true rfl, Nat.le_of_ble_eq_true rfl⟩ dX11_init_129 ?_
  rintro _ Mz26 H locs ⟨rfl, x1, x2, x3, x4, xb, xd, g0, g1, g2, g3, g4, g5, g6, hfc⟩ Y
  try dsimp only [Option.toList, List.nil_append]
  have hq := hfc _ _ _ hq (by omega)
  have hfr1 := hFr.tr hfr1 (hfc.mono (fun u z => by omega))
  have hfr3 := hFr.tr hfr3 (hfc.mono (fun u z => by omega))
  have hfr8 := hFr.tr hfr8 (hfc.mono (fun u z => by omega))
  have hfr11 := hFr.tr hfr11 (hfc.mono (fun u z => by omega))
  have hfr13 := hFr.tr hfr13 (hfc.mono (fun u z => by omega))
  have hfr15 := hFr.tr hfr15 (hfc.mono (fun u z => by omega))
  have hfr100 := hFr.tr hfr100 (hfc.mono (fun u z => by omega))
  have hfr200 := hFr.tr hfr200 (hfc.mono (fun u z => by omega))
  obtain ⟨C300, hA300, k300⟩ := mkC_of g0 g1 g2 g3 g4 g5 g6
  have hfr300 : hFr (fun u => u = 0 ∨ u = 400 ∨ u = 420 ∨ u = 440 ∨ u = 460 ∨ u = 19) Mz26 Mz26 := hFr.rf
  refine h_putF X Y (k := 8) (v := .ref qz25) hq rfl hin_X11 tyX11_ok nmX11 (by decide) kfl_X11_61 rfl rfl rfl rfl (Nat.le_of_ble_eq_true rfl) dX11_init_132 (fun H locs Y => ?_)
  have Y : hHS G (hup Mz26 q0 (0, .inr (12, [.ref qz1, .ref qz4, .ref qz7, .ref qz10, .ref qz13, .ref qz16, .ref qz19, .ref qz22, .ref qz25, .null, .null, .null, .int 0, .int 0, .int 0]))) s H locs := Y
  have hfr1 := hFr.put (x := (0, .inr (12, [.ref qz1, .ref qz4, .ref qz7, .ref qz10, .ref qz13, .ref qz16, .ref qz19, .ref qz22, .ref qz25, .null, .null, .null, .int 0, .int 0, .int 0]))) hfr1 hq (by simp)
  have hfr3 := hFr.put (x := (0, .inr (12, [.ref qz1, .ref qz4, .ref qz7, .ref qz10, .ref qz13, .ref qz16, .ref qz19, .ref qz22, .ref qz25, .null, .null, .null, .int 0, .int 0, .int 0]))) hfr3 hq (by simp)
  have hfr8 := hFr.put (x := (0, .inr (12, [.ref qz1, .ref qz4, .ref qz7, .ref qz10, .ref qz13, .ref qz16, .ref qz19, .ref qz22, .ref qz25, .null, .null, .null, .int 0, .int 0, .int 0]))) hfr8 hq (by simp)
  have hfr11 := hFr.put (x := (0, .inr (12, [.ref qz1, .ref qz4, .ref qz7, .ref qz10, .ref qz13, .ref qz16, .ref qz19, .ref qz22, .ref qz25, .null, .null, .null, .int 0, .int 0, .int 0]))) hfr11 hq (by simp)
  have hfr13 := hFr.put (x := (0, .inr (12, [.ref qz1, .ref qz4, .ref qz7, .ref qz10, .ref qz13, .ref qz16, .ref qz19, .ref qz22, .ref qz25, .null, .null, .null, .int 0, .int 0, .int 0]))) hfr13 hq (by simp)
  have hfr15 := hFr.put (x := (0, .inr (12, [.ref qz1, .ref qz4, .ref qz7, .ref qz10, .ref qz13, .ref qz16, .ref qz19, .ref qz22, .ref qz25, .null, .null, .null, .int 0, .int 0, .int 0]))) hfr15 hq (by simp)
  have hfr100 := hFr.put (x := (0, .inr (12, [.ref qz1, .ref qz4, .ref qz7, .ref qz10, .ref qz13, .ref qz16, .ref qz19, .ref qz22, .ref qz25, .null, .null, .null, .int 0, .int 0, .int 0]))) hfr100 hq (by simp)
  have hfr200 := hFr.put (x := (0, .inr (12, [.ref qz1, .ref qz4, .ref qz7, .ref qz10, .ref qz13, .ref qz16, .ref qz19, .ref qz22, .ref qz25, .null, .null, .null, .int 0, .int 0, .int 0]))) hfr200 hq (by simp)
  have hfr300 := hFr.put (x := (0, .inr (12, [.ref qz1, .ref qz4, .ref qz7, .ref qz10, .ref qz13, .ref qz16, .ref qz19, .ref qz22, .ref qz25, .null, .null, .null, .int 0, .int 0, .int 0]))) hfr300 hq (by simp)
  have hq : hup Mz26 q0 (0, .inr (12, [.ref qz1, .ref qz4, .ref qz7, .ref qz10, .ref qz13, .ref qz16, .ref qz19, .ref qz22, .ref qz25, .null, .null, .null, .int 0, .int 0, .int 0])) q0 = some (0, .inr (12, [.ref qz1, .ref qz4, .ref qz7, .ref qz10, .ref qz13, .ref qz16, .ref qz19, .ref qz22, .ref qz25, .null, .null, .null, .int 0, .int 0, .int 0])) := hup_eq
  generalize hup Mz26 q0 (0, .inr (12, [.ref qz1, .ref qz4, .ref qz7, .ref qz10, .ref qz13, .ref qz16, .ref qz19, .ref qz22, .ref qz25, .null, .null, .null, .int 0, .int 0, .int 0])) = Mz27 at Y hq hfr1 hfr3 hfr8 hfr11 hfr13 hfr15 hfr100 hfr200 hfr300
  refine lv_aload_n hx hb dX11_init_135 rfl (lv_at hl 0 rfl) ?_
  refine lv_iconst (v := 4) hx hb dX11_init_136 (by decide) ?_
  refine h_newq 4 X Y (19) (n := 4) (by decide) kcl_X11_64 (t_aoT X.2.2.2.2.2.2.2.2.1 X.2.2.2.2.2.2.2.2.2.1) rfl (Nat.le_of_ble_eq_true rfl) (Nat.le_of_ble_eq_true rfl) dX11_init_137 (fun qz28 Mz28 H fz28 hg28 Y => ?_)
  have hq := hg28 _ _ hq
  have hfr1 := hFr.grow hfr1 hg28
  have hfr3 := hFr.grow hfr3 hg28
  have hfr8 := hFr.grow hfr8 hg28
  have hfr11 := hFr.grow hfr11 hg28
  have hfr13 := hFr.grow hfr13 hg28
  have hfr15 := hFr.grow hfr15 hg28
  have hfr100 := hFr.grow hfr100 hg28
  have hfr200 := hFr.grow hfr200 hg28
  have hfr300 := hFr.grow hfr300 hg28
  refine lv_dup hx hb dX11_init_140 rfl ?_
  refine lv_iconst (v := 0) hx hb dX11_init_141 (by decide) ?_
  refine h_new (ci := 11) X Y (400) (fs := [.null, .int 0]) rfl hin_X10 tyX10_ok kcl_X11_64 kinst_X10 kini_X10 (fun j hj => match j, hj with | 0, _ => rfl | 1, _ => rfl | z9 + 2, h9 => absurd h9 (by omega)) (Nat.le_of_ble_eq_true rfl) (Nat.le_of_ble_eq_true rfl) dX11_init_142 (fun qz29 Mz29 H fz29 hg29 Y => ?_)
  have hq := hg29 _ _ hq
  have fz28 := hg29 _ _ fz28
  have hfr1 := hFr.grow hfr1 hg29
  have hfr3 := hFr.grow hfr3 hg29
  have hfr8 := hFr.grow hfr8 hg29
  have hfr11 := hFr.grow hfr11 hg29
  have hfr13 := hFr.grow hfr13 hg29
  have hfr15 := hFr.grow hfr15 hg29
  have hfr100 := hFr.grow hfr100 hg29
  have hfr200 := hFr.grow hfr200 hg29
  have hfr300 := hFr.grow hfr300 hg29
  refine lv_dup hx hb dX11_init_145 rfl ?_
  refine h_callIN (rest := [.ref qz29, .int 0, .ref qz28, .ref qz28, .ref q0]) X Y (c_triInit l G Mz29 qz29 400  fz29) (hgi0 kco_X10_init) kini_X10 (kmn_X11_66 X.2.2.2.2.2.2.2.2.1 X.2.2.2.2.2.2.2.2.2.1) kin_X10_init rfl dsc_X10_init.2 rfl hl.1 rfl (Nat.le_of_ble_eq_true rfl) ⟨Nat.le_of_ble_eq_true rfl, Nat.le_of_ble_eq_true rfl⟩ ⟨Nat.le_of_ble_eq_true rfl, Nat.le_of_ble_eq_true rfl⟩ dX11_init_146 ?_
  rintro _ Mz30 H locs ⟨rfl, x1, xb, g0, g1, g2, hfc⟩ Y
  try dsimp only [Option.toList, List.nil_append]
  have hq := hfc _ _ _ hq (by omega)
  have fz28 := hfc _ _ _ fz28 (by omega)
  have hfr1 := hFr.tr hfr1 (hfc.mono (fun u z => by omega))
  have hfr3 := hFr.tr hfr3 (hfc.mono (fun u z => by omega))
  have hfr8 := hFr.tr hfr8 (hfc.mono (fun u z => by omega))
  have hfr11 := hFr.tr hfr11 (hfc.mono (fun u z => by omega))
  have hfr13 := hFr.tr hfr13 (hfc.mono (fun u z => by omega))
  have hfr15 := hFr.tr hfr15 (hfc.mono (fun u z => by omega))
  have hfr100 := hFr.tr hfr100 (hfc.mono (fun u z => by omega))
  have hfr200 := hFr.tr hfr200 (hfc.mono (fun u z => by omega))
  have hfr300 := hFr.tr hfr300 (hfc.mono (fun u z => by omega))
  obtain ⟨T400, hA400, k400⟩ := mkT_of g0 g1 g2
  have v400 := g0
  have hfr400 : hFr (fun u => u = 0 ∨ u = 420 ∨ u = 440 ∨ u = 460 ∨ u = 19) Mz30 Mz30 := hFr.rf
  refine h_aastS 4 X Y (i := 0) fz28 rfl v400 rfl (by decide) (by decide) dX11_init_149 (fun H locs Y => ?_)
  have hq := hup_tag (x := (19, .inl (hT G 4, 4, .inr (.inr (.inr (.inr (va_up (fun _ => none) 0 (some qz29)))))))) hq fz28 (by omega)
  have hfr1 := hFr.put (x := (19, .inl (hT G 4, 4, .inr (.inr (.inr (.inr (va_up (fun _ => none) 0 (some qz29)))))))) hfr1 fz28 (by simp)
  have hfr3 := hFr.put (x := (19, .inl (hT G 4, 4, .inr (.inr (.inr (.inr (va_up (fun _ => none) 0 (some qz29)))))))) hfr3 fz28 (by simp)
  have hfr8 := hFr.put (x := (19, .inl (hT G 4, 4, .inr (.inr (.inr (.inr (va_up (fun _ => none) 0 (some qz29)))))))) hfr8 fz28 (by simp)
  have hfr11 := hFr.put (x := (19, .inl (hT G 4, 4, .inr (.inr (.inr (.inr (va_up (fun _ => none) 0 (some qz29)))))))) hfr11 fz28 (by simp)
  have hfr13 := hFr.put (x := (19, .inl (hT G 4, 4, .inr (.inr (.inr (.inr (va_up (fun _ => none) 0 (some qz29)))))))) hfr13 fz28 (by simp)
  have hfr15 := hFr.put (x := (19, .inl (hT G 4, 4, .inr (.inr (.inr (.inr (va_up (fun _ => none) 0 (some qz29)))))))) hfr15 fz28 (by simp)
  have hfr100 := hFr.put (x := (19, .inl (hT G 4, 4, .inr (.inr (.inr (.inr (va_up (fun _ => none) 0 (some qz29)))))))) hfr100 fz28 (by simp)
  have hfr200 := hFr.put (x := (19, .inl (hT G 4, 4, .inr (.inr (.inr (.inr (va_up (fun _ => none) 0 (some qz29)))))))) hfr200 fz28 (by simp)
  have hfr300 := hFr.put (x := (19, .inl (hT G 4, 4, .inr (.inr (.inr (.inr (va_up (fun _ => none) 0 (some qz29)))))))) hfr300 fz28 (by simp)
  have hfr400 := hFr.put (x := (19, .inl (hT G 4, 4, .inr (.inr (.inr (.inr (va_up (fun _ => none) 0 (some qz29)))))))) hfr400 fz28 (by simp)
  have fz28 : hup Mz30 qz28 (19, .inl (hT G 4, 4, .inr (.inr (.inr (.inr (va_up (fun _ => none) 0 (some qz29))))))) qz28 = some (19, .inl (hT G 4, 4, .inr (.inr (.inr (.inr (va_up (fun _ => none) 0 (some qz29))))))) := hup_eq
  generalize hup Mz30 qz28 (19, .inl (hT G 4, 4, .inr (.inr (.inr (.inr (va_up (fun _ => none) 0 (some qz29))))))) = Mz31 at Y fz28 hq hfr1 hfr3 hfr8 hfr11 hfr13 hfr15 hfr100 hfr200 hfr300 hfr400
  refine lv_dup hx hb dX11_init_150 rfl ?_
  refine lv_iconst (v := 1) hx hb dX11_init_151 (by decide) ?_
  refine h_new (ci := 11) X Y (420) (fs := [.null, .int 0]) rfl hin_X10 tyX10_ok kcl_X11_64 kinst_X10 kini_X10 (fun j hj => match j, hj with | 0, _ => rfl | 1, _ => rfl | z9 + 2, h9 => absurd h9 (by omega)) (Nat.le_of_ble_eq_true rfl) (Nat.le_of_ble_eq_true rfl) dX11_init_152 (fun qz32 Mz32 H fz32 hg32 Y => ?_)
  have hq := hg32 _ _ hq
  have fz28 := hg32 _ _ fz28
  have hfr1 := hFr.grow hfr1 hg32
  have hfr3 := hFr.grow hfr3 hg32
  have hfr8 := hFr.grow hfr8 hg32
  have hfr11 := hFr.grow hfr11 hg32
  have hfr13 := hFr.grow hfr13 hg32
  have hfr15 := hFr.grow hfr15 hg32
  have hfr100 := hFr.grow hfr100 hg32
  have hfr200 := hFr.grow hfr200 hg32
  have hfr300 := hFr.grow hfr300 hg32
  have hfr400 := hFr.grow hfr400 hg32
  refine lv_dup hx hb dX11_init_155 rfl ?_
  refine h_callIN (rest := [.ref qz32, .int 1, .ref qz28, .ref qz28, .ref q0]) X Y (c_triInit l G Mz32 qz32 420  fz32) (hgi0 kco_X10_init) kini_X10 (kmn_X11_66 X.2.2.2.2.2.2.2.2.1 X.2.2.2.2.2.2.2.2.2.1) kin_X10_init rfl dsc_X10_init.2 rfl hl.1 rfl (Nat.le_of_ble_eq_true rfl) ⟨Nat.le_of_ble_eq_true rfl, Nat.le_of_ble_eq_true rfl⟩ ⟨Nat.le_of_ble_eq_true rfl, Nat.le_of_ble_eq_true rfl⟩ dX11_init_156 ?_
  rintro _ Mz33 H locs ⟨rfl, x1, xb, g0, g1, g2, hfc⟩ Y
  try dsimp only [Option.toList, List.nil_append]
  have hq := hfc _ _ _ hq (by omega)
  have fz28 := hfc _ _ _ fz28 (by omega)
  have hfr1 := hFr.tr hfr1 (hfc.mono (fun u z => by omega))
  have hfr3 := hFr.tr hfr3 (hfc.mono (fun u z => by omega))
  have hfr8 := hFr.tr hfr8 (hfc.mono (fun u z => by omega))
  have hfr11 := hFr.tr hfr11 (hfc.mono (fun u z => by omega))
  have hfr13 := hFr.tr hfr13 (hfc.mono (fun u z => by omega))
  have hfr15 := hFr.tr hfr15 (hfc.mono (fun u z => by omega))
  have hfr100 := hFr.tr hfr100 (hfc.mono (fun u z => by omega))
  have hfr200 := hFr.tr hfr200 (hfc.mono (fun u z => by omega))
  have hfr300 := hFr.tr hfr300 (hfc.mono (fun u z => by omega))
  have hfr400 := hFr.tr hfr400 (hfc.mono (fun u z => by omega))
  obtain ⟨T420, hA420, k420⟩ := mkT_of g0 g1 g2
  have v420 := g0
  have hfr420 : hFr (fun u => u = 0 ∨ u = 440 ∨ u = 460 ∨ u = 19) Mz33 Mz33 := hFr.rf
  refine h_aastS 4 X Y (i := 1) fz28 rfl v420 rfl (by decide) (by decide) dX11_init_159 (fun H locs Y => ?_)
  have hq := hup_tag (x := (19, .inl (hT G 4, 4, .inr (.inr (.inr (.inr (va_up (va_up (fun _ => none) 0 (some qz29)) 1 (some qz32)))))))) hq fz28 (by omega)
  have hfr1 := hFr.put (x := (19, .inl (hT G 4, 4, .inr (.inr (.inr (.inr (va_up (va_up (fun _ => none) 0 (some qz29)) 1 (some qz32)))))))) hfr1 fz28 (by simp)
  have hfr3 := hFr.put (x := (19, .inl (hT G 4, 4, .inr (.inr (.inr (.inr (va_up (va_up (fun _ => none) 0 (some qz29)) 1 (some qz32)))))))) hfr3 fz28 (by simp)
  have hfr8 := hFr.put (x := (19, .inl (hT G 4, 4, .inr (.inr (.inr (.inr (va_up (va_up (fun _ => none) 0 (some qz29)) 1 (some qz32)))))))) hfr8 fz28 (by simp)
  have hfr11 := hFr.put (x := (19, .inl (hT G 4, 4, .inr (.inr (.inr (.inr (va_up (va_up (fun _ => none) 0 (some qz29)) 1 (some qz32)))))))) hfr11 fz28 (by simp)
  have hfr13 := hFr.put (x := (19, .inl (hT G 4, 4, .inr (.inr (.inr (.inr (va_up (va_up (fun _ => none) 0 (some qz29)) 1 (some qz32)))))))) hfr13 fz28 (by simp)
  have hfr15 := hFr.put (x := (19, .inl (hT G 4, 4, .inr (.inr (.inr (.inr (va_up (va_up (fun _ => none) 0 (some qz29)) 1 (some qz32)))))))) hfr15 fz28 (by simp)
  have hfr100 := hFr.put (x := (19, .inl (hT G 4, 4, .inr (.inr (.inr (.inr (va_up (va_up (fun _ => none) 0 (some qz29)) 1 (some qz32)))))))) hfr100 fz28 (by simp)
  have hfr200 := hFr.put (x := (19, .inl (hT G 4, 4, .inr (.inr (.inr (.inr (va_up (va_up (fun _ => none) 0 (some qz29)) 1 (some qz32)))))))) hfr200 fz28 (by simp)
  have hfr300 := hFr.put (x := (19, .inl (hT G 4, 4, .inr (.inr (.inr (.inr (va_up (va_up (fun _ => none) 0 (some qz29)) 1 (some qz32)))))))) hfr300 fz28 (by simp)
  have hfr400 := hFr.put (x := (19, .inl (hT G 4, 4, .inr (.inr (.inr (.inr (va_up (va_up (fun _ => none) 0 (some qz29)) 1 (some qz32)))))))) hfr400 fz28 (by simp)
  have hfr420 := hFr.put (x := (19, .inl (hT G 4, 4, .inr (.inr (.inr (.inr (va_up (va_up (fun _ => none) 0 (some qz29)) 1 (some qz32)))))))) hfr420 fz28 (by simp)
  have fz28 : hup Mz33 qz28 (19, .inl (hT G 4, 4, .inr (.inr (.inr (.inr (va_up (va_up (fun _ => none) 0 (some qz29)) 1 (some qz32))))))) qz28 = some (19, .inl (hT G 4, 4, .inr (.inr (.inr (.inr (va_up (va_up (fun _ => none) 0 (some qz29)) 1 (some qz32))))))) := hup_eq
  generalize hup Mz33 qz28 (19, .inl (hT G 4, 4, .inr (.inr (.inr (.inr (va_up (va_up (fun _ => none) 0 (some qz29)) 1 (some qz32))))))) = Mz34 at Y fz28 hq hfr1 hfr3 hfr8 hfr11 hfr13 hfr15 hfr100 hfr200 hfr300 hfr400 hfr420
  refine lv_dup hx hb dX11_init_160 rfl ?_
  refine lv_iconst (v := 2) hx hb dX11_init_161 (by decide) ?_
  refine h_new (ci := 11) X Y (440) (fs := [.null, .int 0]) rfl hin_X10 tyX10_ok kcl_X11_64 kinst_X10 kini_X10 (fun j hj => match j, hj with | 0, _ => rfl | 1, _ => rfl | z9 + 2, h9 => absurd h9 (by omega)) (Nat.le_of_ble_eq_true rfl) (Nat.le_of_ble_eq_true rfl) dX11_init_162 (fun qz35 Mz35 H fz35 hg35 Y => ?_)
  have hq := hg35 _ _ hq
  have fz28 := hg35 _ _ fz28
  have hfr1 := hFr.grow hfr1 hg35
  have hfr3 := hFr.grow hfr3 hg35
  have hfr8 := hFr.grow hfr8 hg35
  have hfr11 := hFr.grow hfr11 hg35
  have hfr13 := hFr.grow hfr13 hg35
  have hfr15 := hFr.grow hfr15 hg35
  have hfr100 := hFr.grow hfr100 hg35
  have hfr200 := hFr.grow hfr200 hg35
  have hfr300 := hFr.grow hfr300 hg35
  have hfr400 := hFr.grow hfr400 hg35
  have hfr420 := hFr.grow hfr420 hg35
  refine lv_dup hx hb dX11_init_165 rfl ?_
  refine h_callIN (rest := [.ref qz35, .int 2, .ref qz28, .ref qz28, .ref q0]) X Y (c_triInit l G Mz35 qz35 440  fz35) (hgi0 kco_X10_init) kini_X10 (kmn_X11_66 X.2.2.2.2.2.2.2.2.1 X.2.2.2.2.2.2.2.2.2.1) kin_X10_init rfl dsc_X10_init.2 rfl hl.1 rfl (Nat.le_of_ble_eq_true rfl) ⟨Nat.le_of_ble_eq_true rfl, Nat.le_of_ble_eq_true rfl⟩ ⟨Nat.le_of_ble_eq_true rfl, Nat.le_of_ble_eq_true rfl⟩ dX11_init_166 ?_
  rintro _ Mz36 H locs ⟨rfl, x1, xb, g0, g1, g2, hfc⟩ Y
  try dsimp only [Option.toList, List.nil_append]
  have hq := hfc _ _ _ hq (by omega)
  have fz28 := hfc _ _ _ fz28 (by omega)
  have hfr1 := hFr.tr hfr1 (hfc.mono (fun u z => by omega))
  have hfr3 := hFr.tr hfr3 (hfc.mono (fun u z => by omega))
  have hfr8 := hFr.tr hfr8 (hfc.mono (fun u z => by omega))
  have hfr11 := hFr.tr hfr11 (hfc.mono (fun u z => by omega))
  have hfr13 := hFr.tr hfr13 (hfc.mono (fun u z => by omega))
  have hfr15 := hFr.tr hfr15 (hfc.mono (fun u z => by omega))
  have hfr100 := hFr.tr hfr100 (hfc.mono (fun u z => by omega))
  have hfr200 := hFr.tr hfr200 (hfc.mono (fun u z => by omega))
  have hfr300 := hFr.tr hfr300 (hfc.mono (fun u z => by omega))
  have hfr400 := hFr.tr hfr400 (hfc.mono (fun u z => by omega))
  have hfr420 := hFr.tr hfr420 (hfc.mono (fun u z => by omega))
  obtain ⟨T440, hA440, k440⟩ := mkT_of g0 g1 g2
  have v440 := g0
  have hfr440 : hFr (fun u => u = 0 ∨ u = 460 ∨ u = 19) Mz36 Mz36 := hFr.rf
  refine h_aastS 4 X Y (i := 2) fz28 rfl v440 rfl (by decide) (by decide) dX11_init_169 (fun H locs Y => ?_)
  have hq := hup_tag (x := (19, .inl (hT G 4, 4, .inr (.inr (.inr (.inr (va_up (va_up (va_up (fun _ => none) 0 (some qz29)) 1 (some qz32)) 2 (some qz35)))))))) hq fz28 (by omega)
  have hfr1 := hFr.put (x := (19, .inl (hT G 4, 4, .inr (.inr (.inr (.inr (va_up (va_up (va_up (fun _ => none) 0 (some qz29)) 1 (some qz32)) 2 (some qz35)))))))) hfr1 fz28 (by simp)
  have hfr3 := hFr.put (x := (19, .inl (hT G 4, 4, .inr (.inr (.inr (.inr (va_up (va_up (va_up (fun _ => none) 0 (some qz29)) 1 (some qz32)) 2 (some qz35)))))))) hfr3 fz28 (by simp)
  have hfr8 := hFr.put (x := (19, .inl (hT G 4, 4, .inr (.inr (.inr (.inr (va_up (va_up (va_up (fun _ => none) 0 (some qz29)) 1 (some qz32)) 2 (some qz35)))))))) hfr8 fz28 (by simp)
  have hfr11 := hFr.put (x := (19, .inl (hT G 4, 4, .inr (.inr (.inr (.inr (va_up (va_up (va_up (fun _ => none) 0 (some qz29)) 1 (some qz32)) 2 (some qz35)))))))) hfr11 fz28 (by simp)
  have hfr13 := hFr.put (x := (19, .inl (hT G 4, 4, .inr (.inr (.inr (.inr (va_up (va_up (va_up (fun _ => none) 0 (some qz29)) 1 (some qz32)) 2 (some qz35)))))))) hfr13 fz28 (by simp)
  have hfr15 := hFr.put (x := (19, .inl (hT G 4, 4, .inr (.inr (.inr (.inr (va_up (va_up (va_up (fun _ => none) 0 (some qz29)) 1 (some qz32)) 2 (some qz35)))))))) hfr15 fz28 (by simp)
  have hfr100 := hFr.put (x := (19, .inl (hT G 4, 4, .inr (.inr (.inr (.inr (va_up (va_up (va_up (fun _ => none) 0 (some qz29)) 1 (some qz32)) 2 (some qz35)))))))) hfr100 fz28 (by simp)
  have hfr200 := hFr.put (x := (19, .inl (hT G 4, 4, .inr (.inr (.inr (.inr (va_up (va_up (va_up (fun _ => none) 0 (some qz29)) 1 (some qz32)) 2 (some qz35)))))))) hfr200 fz28 (by simp)
  have hfr300 := hFr.put (x := (19, .inl (hT G 4, 4, .inr (.inr (.inr (.inr (va_up (va_up (va_up (fun _ => none) 0 (some qz29)) 1 (some qz32)) 2 (some qz35)))))))) hfr300 fz28 (by simp)
  have hfr400 := hFr.put (x := (19, .inl (hT G 4, 4, .inr (.inr (.inr (.inr (va_up (va_up (va_up (fun _ => none) 0 (some qz29)) 1 (some qz32)) 2 (some qz35)))))))) hfr400 fz28 (by simp)
  have hfr420 := hFr.put (x := (19, .inl (hT G 4, 4, .inr (.inr (.inr (.inr (va_up (va_up (va_up (fun _ => none) 0 (some qz29)) 1 (some qz32)) 2 (some qz35)))))))) hfr420 fz28 (by simp)
  have hfr440 := hFr.put (x := (19, .inl (hT G 4, 4, .inr (.inr (.inr (.inr (va_up (va_up (va_up (fun _ => none) 0 (some qz29)) 1 (some qz32)) 2 (some qz35)))))))) hfr440 fz28 (by simp)
  have fz28 : hup Mz36 qz28 (19, .inl (hT G 4, 4, .inr (.inr (.inr (.inr (va_up (va_up (va_up (fun _ => none) 0 (some qz29)) 1 (some qz32)) 2 (some qz35))))))) qz28 = some (19, .inl (hT G 4, 4, .inr (.inr (.inr (.inr (va_up (va_up (va_up (fun _ => none) 0 (some qz29)) 1 (some qz32)) 2 (some qz35))))))) := hup_eq
  generalize hup Mz36 qz28 (19, .inl (hT G 4, 4, .inr (.inr (.inr (.inr (va_up (va_up (va_up (fun _ => none) 0 (some qz29)) 1 (some qz32)) 2 (some qz35))))))) = Mz37 at Y fz28 hq hfr1 hfr3 hfr8 hfr11 hfr13 hfr15 hfr100 hfr200 hfr300 hfr400 hfr420 hfr440
  refine lv_dup hx hb dX11_init_170 rfl ?_
  refine lv_iconst (v := 3) hx hb dX11_init_171 (by decide) ?_
  refine h_new (ci := 11) X Y (460) (fs := [.null, .int 0]) rfl hin_X10 tyX10_ok kcl_X11_64 kinst_X10 kini_X10 (fun j hj => match j, hj with | 0, _ => rfl | 1, _ => rfl | z9 + 2, h9 => absurd h9 (by omega)) (Nat.le_of_ble_eq_true rfl) (Nat.le_of_ble_eq_true rfl) dX11_init_172 (fun qz38 Mz38 H fz38 hg38 Y => ?_)
  have hq := hg38 _ _ hq
  have fz28 := hg38 _ _ fz28
  have hfr1 := hFr.grow hfr1 hg38
  have hfr3 := hFr.grow hfr3 hg38
  have hfr8 := hFr.grow hfr8 hg38
  have hfr11 := hFr.grow hfr11 hg38
  have hfr13 := hFr.grow hfr13 hg38
  have hfr15 := hFr.grow hfr15 hg38
  have hfr100 := hFr.grow hfr100 hg38
  have hfr200 := hFr.grow hfr200 hg38
  have hfr300 := hFr.grow hfr300 hg38
  have hfr400 := hFr.grow hfr400 hg38
  have hfr420 := hFr.grow hfr420 hg38
  have hfr440 := hFr.grow hfr440 hg38
  refine lv_dup hx hb dX11_init_175 rfl ?_
  refine h_callIN (rest := [.ref qz38, .int 3, .ref qz28, .ref qz28, .ref q0]) X Y (c_triInit l G Mz38 qz38 460  fz38) (hgi0 kco_X10_init) kini_X10 (kmn_X11_66 X.2.2.2.2.2.2.2.2.1 X.2.2.2.2.2.2.2.2.2.1) kin_X10_init rfl dsc_X10_init.2 rfl hl.1 rfl (Nat.le_of_ble_eq_true rfl) ⟨Nat.le_of_ble_eq_true rfl, Nat.le_of_ble_eq_true rfl⟩ ⟨Nat.le_of_ble_eq_true rfl, Nat.le_of_ble_eq_true rfl⟩ dX11_init_176 ?_
  rintro _ Mz39 H locs ⟨rfl, x1, xb, g0, g1, g2, hfc⟩ Y
  try dsimp only [Option.toList, List.nil_append]
  have hq := hfc _ _ _ hq (by omega)
  have fz28 := hfc _ _ _ fz28 (by omega)
  have hfr1 := hFr.tr hfr1 (hfc.mono (fun u z => by omega))
  have hfr3 := hFr.tr hfr3 (hfc.mono (fun u z => by omega))
  have hfr8 := hFr.tr hfr8 (hfc.mono (fun u z => by omega))
  have hfr11 := hFr.tr hfr11 (hfc.mono (fun u z => by omega))
  have hfr13 := hFr.tr hfr13 (hfc.mono (fun u z => by omega))
  have hfr15 := hFr.tr hfr15 (hfc.mono (fun u z => by omega))
  have hfr100 := hFr.tr hfr100 (hfc.mono (fun u z => by omega))
  have hfr200 := hFr.tr hfr200 (hfc.mono (fun u z => by omega))
  have hfr300 := hFr.tr hfr300 (hfc.mono (fun u z => by omega))
  have hfr400 := hFr.tr hfr400 (hfc.mono (fun u z => by omega))
  have hfr420 := hFr.tr hfr420 (hfc.mono (fun u z => by omega))
  have hfr440 := hFr.tr hfr440 (hfc.mono (fun u z => by omega))
  obtain ⟨T460, hA460, k460⟩ := mkT_of g0 g1 g2
  have v460 := g0
  have hfr460 : hFr (fun u => u = 0 ∨ u = 19) Mz39 Mz39 := hFr.rf
  refine h_aastS 4 X Y (i := 3) fz28 rfl v460 rfl (by decide) (by decide) dX11_init_179 (fun H locs Y => ?_)
  have hq := hup_tag (x := (19, .inl (hT G 4, 4, .inr (.inr (.inr (.inr (va_up (va_up (va_up (va_up (fun _ => none) 0 (some qz29)) 1 (some qz32)) 2 (some qz35)) 3 (some qz38)))))))) hq fz28 (by omega)
  have hfr1 := hFr.put (x := (19, .inl (hT G 4, 4, .inr (.inr (.inr (.inr (va_up (va_up (va_up (va_up (fun _ => none) 0 (some qz29)) 1 (some qz32)) 2 (some qz35)) 3 (some qz38)))))))) hfr1 fz28 (by simp)
  have hfr3 := hFr.put (x := (19, .inl (hT G 4, 4, .inr (.inr (.inr (.inr (va_up (va_up (va_up (va_up (fun _ => none) 0 (some qz29)) 1 (some qz32)) 2 (some qz35)) 3 (some qz38)))))))) hfr3 fz28 (by simp)
  have hfr8 := hFr.put (x := (19, .inl (hT G 4, 4, .inr (.inr (.inr (.inr (va_up (va_up (va_up (va_up (fun _ => none) 0 (some qz29)) 1 (some qz32)) 2 (some qz35)) 3 (some qz38)))))))) hfr8 fz28 (by simp)
  have hfr11 := hFr.put (x := (19, .inl (hT G 4, 4, .inr (.inr (.inr (.inr (va_up (va_up (va_up (va_up (fun _ => none) 0 (some qz29)) 1 (some qz32)) 2 (some qz35)) 3 (some qz38)))))))) hfr11 fz28 (by simp)
  have hfr13 := hFr.put (x := (19, .inl (hT G 4, 4, .inr (.inr (.inr (.inr (va_up (va_up (va_up (va_up (fun _ => none) 0 (some qz29)) 1 (some qz32)) 2 (some qz35)) 3 (some qz38)))))))) hfr13 fz28 (by simp)
  have hfr15 := hFr.put (x := (19, .inl (hT G 4, 4, .inr (.inr (.inr (.inr (va_up (va_up (va_up (va_up (fun _ => none) 0 (some qz29)) 1 (some qz32)) 2 (some qz35)) 3 (some qz38)))))))) hfr15 fz28 (by simp)
  have hfr100 := hFr.put (x := (19, .inl (hT G 4, 4, .inr (.inr (.inr (.inr (va_up (va_up (va_up (va_up (fun _ => none) 0 (some qz29)) 1 (some qz32)) 2 (some qz35)) 3 (some qz38)))))))) hfr100 fz28 (by simp)
  have hfr200 := hFr.put (x := (19, .inl (hT G 4, 4, .inr (.inr (.inr (.inr (va_up (va_up (va_up (va_up (fun _ => none) 0 (some qz29)) 1 (some qz32)) 2 (some qz35)) 3 (some qz38)))))))) hfr200 fz28 (by simp)
  have hfr300 := hFr.put (x := (19, .inl (hT G 4, 4, .inr (.inr (.inr (.inr (va_up (va_up (va_up (va_up (fun _ => none) 0 (some qz29)) 1 (some qz32)) 2 (some qz35)) 3 (some qz38)))))))) hfr300 fz28 (by simp)
  have hfr400 := hFr.put (x := (19, .inl (hT G 4, 4, .inr (.inr (.inr (.inr (va_up (va_up (va_up (va_up (fun _ => none) 0 (some qz29)) 1 (some qz32)) 2 (some qz35)) 3 (some qz38)))))))) hfr400 fz28 (by simp)
  have hfr420 := hFr.put (x := (19, .inl (hT G 4, 4, .inr (.inr (.inr (.inr (va_up (va_up (va_up (va_up (fun _ => none) 0 (some qz29)) 1 (some qz32)) 2 (some qz35)) 3 (some qz38)))))))) hfr420 fz28 (by simp)
  have hfr440 := hFr.put (x := (19, .inl (hT G 4, 4, .inr (.inr (.inr (.inr (va_up (va_up (va_up (va_up (fun _ => none) 0 (some qz29)) 1 (some qz32)) 2 (some qz35)) 3 (some qz38)))))))) hfr440 fz28 (by simp)
  have hfr460 := hFr.put (x := (19, .inl (hT G 4, 4, .inr (.inr (.inr (.inr (va_up (va_up (va_up (va_up (fun _ => none) 0 (some qz29)) 1 (some qz32)) 2 (some qz35)) 3 (some qz38)))))))) hfr460 fz28 (by simp)
  have fz28 : hup Mz39 qz28 (19, .inl (hT G 4, 4, .inr (.inr (.inr (.inr (va_up (va_up (va_up (va_up (fun _ => none) 0 (some qz29)) 1 (some qz32)) 2 (some qz35)) 3 (some qz38))))))) qz28 = some (19, .inl (hT G 4, 4, .inr (.inr (.inr (.inr (va_up (va_up (va_up (va_up (fun _ => none) 0 (some qz29)) 1 (some qz32)) 2 (some qz35)) 3 (some qz38))))))) := hup_eq
  generalize hup Mz39 qz28 (19, .inl (hT G 4, 4, .inr (.inr (.inr (.inr (va_up (va_up (va_up (va_up (fun _ => none) 0 (some qz29)) 1 (some qz32)) 2 (some qz35)) 3 (some qz38))))))) = Mz40 at Y fz28 hq hfr1 hfr3 hfr8 hfr11 hfr13 hfr15 hfr100 hfr200 hfr300 hfr400 hfr420 hfr440 hfr460
  refine h_putF X Y (k := 9) (v := .ref qz28) hq rfl hin_X11 tyX11_ok nmX11 (by decide) kfl_X11_67 rfl rfl rfl rfl (Nat.le_of_ble_eq_true rfl) dX11_init_180 (fun H locs Y => ?_)
  have Y : hHS G (hup Mz40 q0 (0, .inr (12, [.ref qz1, .ref qz4, .ref qz7, .ref qz10, .ref qz13, .ref qz16, .ref qz19, .ref qz22, .ref qz25, .ref qz28, .null, .null, .int 0, .int 0, .int 0]))) s H locs := Y
  have fz28 := hup_tag (x := (0, .inr (12, [.ref qz1, .ref qz4, .ref qz7, .ref qz10, .ref qz13, .ref qz16, .ref qz19, .ref qz22, .ref qz25, .ref qz28, .null, .null, .int 0, .int 0, .int 0]))) fz28 hq (by omega)
  have hfr1 := hFr.put (x := (0, .inr (12, [.ref qz1, .ref qz4, .ref qz7, .ref qz10, .ref qz13, .ref qz16, .ref qz19, .ref qz22, .ref qz25, .ref qz28, .null, .null, .int 0, .int 0, .int 0]))) hfr1 hq (by simp)
  have hfr3 := hFr.put (x := (0, .inr (12, [.ref qz1, .ref qz4, .ref qz7, .ref qz10, .ref qz13, .ref qz16, .ref qz19, .ref qz22, .ref qz25, .ref qz28, .null, .null, .int 0, .int 0, .int 0]))) hfr3 hq (by simp)
  have hfr8 := hFr.put (x := (0, .inr (12, [.ref qz1, .ref qz4, .ref qz7, .ref qz10, .ref qz13, .ref qz16, .ref qz19, .ref qz22, .ref qz25, .ref qz28, .null, .null, .int 0, .int 0, .int 0]))) hfr8 hq (by simp)
  have hfr11 := hFr.put (x := (0, .inr (12, [.ref qz1, .ref qz4, .ref qz7, .ref qz10, .ref qz13, .ref qz16, .ref qz19, .ref qz22, .ref qz25, .ref qz28, .null, .null, .int 0, .int 0, .int 0]))) hfr11 hq (by simp)
  have hfr13 := hFr.put (x := (0, .inr (12, [.ref qz1, .ref qz4, .ref qz7, .ref qz10, .ref qz13, .ref qz16, .ref qz19, .ref qz22, .ref qz25, .ref qz28, .null, .null, .int 0, .int 0, .int 0]))) hfr13 hq (by simp)
  have hfr15 := hFr.put (x := (0, .inr (12, [.ref qz1, .ref qz4, .ref qz7, .ref qz10, .ref qz13, .ref qz16, .ref qz19, .ref qz22, .ref qz25, .ref qz28, .null, .null, .int 0, .int 0, .int 0]))) hfr15 hq (by simp)
  have hfr100 := hFr.put (x := (0, .inr (12, [.ref qz1, .ref qz4, .ref qz7, .ref qz10, .ref qz13, .ref qz16, .ref qz19, .ref qz22, .ref qz25, .ref qz28, .null, .null, .int 0, .int 0, .int 0]))) hfr100 hq (by simp)
  have hfr200 := hFr.put (x := (0, .inr (12, [.ref qz1, .ref qz4, .ref qz7, .ref qz10, .ref qz13, .ref qz16, .ref qz19, .ref qz22, .ref qz25, .ref qz28, .null, .null, .int 0, .int 0, .int 0]))) hfr200 hq (by simp)
  have hfr300 := hFr.put (x := (0, .inr (12, [.ref qz1, .ref qz4, .ref qz7, .ref qz10, .ref qz13, .ref qz16, .ref qz19, .ref qz22, .ref qz25, .ref qz28, .null, .null, .int 0, .int 0, .int 0]))) hfr300 hq (by simp)
  have hfr400 := hFr.put (x := (0, .inr (12, [.ref qz1, .ref qz4, .ref qz7, .ref qz10, .ref qz13, .ref qz16, .ref qz19, .ref qz22, .ref qz25, .ref qz28, .null, .null, .int 0, .int 0, .int 0]))) hfr400 hq (by simp)
  have hfr420 := hFr.put (x := (0, .inr (12, [.ref qz1, .ref qz4, .ref qz7, .ref qz10, .ref qz13, .ref qz16, .ref qz19, .ref qz22, .ref qz25, .ref qz28, .null, .null, .int 0, .int 0, .int 0]))) hfr420 hq (by simp)
  have hfr440 := hFr.put (x := (0, .inr (12, [.ref qz1, .ref qz4, .ref qz7, .ref qz10, .ref qz13, .ref qz16, .ref qz19, .ref qz22, .ref qz25, .ref qz28, .null, .null, .int 0, .int 0, .int 0]))) hfr440 hq (by simp)
  have hfr460 := hFr.put (x := (0, .inr (12, [.ref qz1, .ref qz4, .ref qz7, .ref qz10, .ref qz13, .ref qz16, .ref qz19, .ref qz22, .ref qz25, .ref qz28, .null, .null, .int 0, .int 0, .int 0]))) hfr460 hq (by simp)
  have hq : hup Mz40 q0 (0, .inr (12, [.ref qz1, .ref qz4, .ref qz7, .ref qz10, .ref qz13, .ref qz16, .ref qz19, .ref qz22, .ref qz25, .ref qz28, .null, .null, .int 0, .int 0, .int 0])) q0 = some (0, .inr (12, [.ref qz1, .ref qz4, .ref qz7, .ref qz10, .ref qz13, .ref qz16, .ref qz19, .ref qz22, .ref qz25, .ref qz28, .null, .null, .int 0, .int 0, .int 0])) := hup_eq
  generalize hup Mz40 q0 (0, .inr (12, [.ref qz1, .ref qz4, .ref qz7, .ref qz10, .ref qz13, .ref qz16, .ref qz19, .ref qz22, .ref qz25, .ref qz28, .null, .null, .int 0, .int 0, .int 0])) = Mz41 at Y hq fz28 hfr1 hfr3 hfr8 hfr11 hfr13 hfr15 hfr100 hfr200 hfr300 hfr400 hfr420 hfr440 hfr460
  refine lv_aload_n hx hb dX11_init_183 rfl (lv_at hl 0 rfl) ?_
  refine lv_bipush (v := 10) hx hb dX11_init_184 (by decide) ?_
  refine h_newI X Y (17) (n := 10) (by decide) (Nat.le_of_ble_eq_true rfl) (Nat.le_of_ble_eq_true rfl) dX11_init_186 (fun qz42 Mz42 H fz42 hg42 Y => ?_)
  have hq := hg42 _ _ hq
  have fz28 := hg42 _ _ fz28
  have hfr1 := hFr.grow hfr1 hg42
  have hfr3 := hFr.grow hfr3 hg42
  have hfr8 := hFr.grow hfr8 hg42
  have hfr11 := hFr.grow hfr11 hg42
  have hfr13 := hFr.grow hfr13 hg42
  have hfr15 := hFr.grow hfr15 hg42
  have hfr100 := hFr.grow hfr100 hg42
  have hfr200 := hFr.grow hfr200 hg42
  have hfr300 := hFr.grow hfr300 hg42
  have hfr400 := hFr.grow hfr400 hg42
  have hfr420 := hFr.grow hfr420 hg42
  have hfr440 := hFr.grow hfr440 hg42
  have hfr460 := hFr.grow hfr460 hg42
  refine h_putF X Y (k := 10) (v := .ref qz42) hq rfl hin_X11 tyX11_ok nmX11 (by decide) kfl_X11_71 rfl rfl rfl rfl (Nat.le_of_ble_eq_true rfl) dX11_init_188 (fun H locs Y => ?_)
  have Y : hHS G (hup Mz42 q0 (0, .inr (12, [.ref qz1, .ref qz4, .ref qz7, .ref qz10, .ref qz13, .ref qz16, .ref qz19, .ref qz22, .ref qz25, .ref qz28, .ref qz42, .null, .int 0, .int 0, .int 0]))) s H locs := Y
  have fz28 := hup_tag (x := (0, .inr (12, [.ref qz1, .ref qz4, .ref qz7, .ref qz10, .ref qz13, .ref qz16, .ref qz19, .ref qz22, .ref qz25, .ref qz28, .ref qz42, .null, .int 0, .int 0, .int 0]))) fz28 hq (by omega)
  have fz42 := hup_tag (x := (0, .inr (12, [.ref qz1, .ref qz4, .ref qz7, .ref qz10, .ref qz13, .ref qz16, .ref qz19, .ref qz22, .ref qz25, .ref qz28, .ref qz42, .null, .int 0, .int 0, .int 0]))) fz42 hq (by omega)
  have hfr1 := hFr.put (x := (0, .inr (12, [.ref qz1, .ref qz4, .ref qz7, .ref qz10, .ref qz13, .ref qz16, .ref qz19, .ref qz22, .ref qz25, .ref qz28, .ref qz42, .null, .int 0, .int 0, .int 0]))) hfr1 hq (by simp)
  have hfr3 := hFr.put (x := (0, .inr (12, [.ref qz1, .ref qz4, .ref qz7, .ref qz10, .ref qz13, .ref qz16, .ref qz19, .ref qz22, .ref qz25, .ref qz28, .ref qz42, .null, .int 0, .int 0, .int 0]))) hfr3 hq (by simp)
  have hfr8 := hFr.put (x := (0, .inr (12, [.ref qz1, .ref qz4, .ref qz7, .ref qz10, .ref qz13, .ref qz16, .ref qz19, .ref qz22, .ref qz25, .ref qz28, .ref qz42, .null, .int 0, .int 0, .int 0]))) hfr8 hq (by simp)
  have hfr11 := hFr.put (x := (0, .inr (12, [.ref qz1, .ref qz4, .ref qz7, .ref qz10, .ref qz13, .ref qz16, .ref qz19, .ref qz22, .ref qz25, .ref qz28, .ref qz42, .null, .int 0, .int 0, .int 0]))) hfr11 hq (by simp)
  have hfr13 := hFr.put (x := (0, .inr (12, [.ref qz1, .ref qz4, .ref qz7, .ref qz10, .ref qz13, .ref qz16, .ref qz19, .ref qz22, .ref qz25, .ref qz28, .ref qz42, .null, .int 0, .int 0, .int 0]))) hfr13 hq (by simp)
  have hfr15 := hFr.put (x := (0, .inr (12, [.ref qz1, .ref qz4, .ref qz7, .ref qz10, .ref qz13, .ref qz16, .ref qz19, .ref qz22, .ref qz25, .ref qz28, .ref qz42, .null, .int 0, .int 0, .int 0]))) hfr15 hq (by simp)
  have hfr100 := hFr.put (x := (0, .inr (12, [.ref qz1, .ref qz4, .ref qz7, .ref qz10, .ref qz13, .ref qz16, .ref qz19, .ref qz22, .ref qz25, .ref qz28, .ref qz42, .null, .int 0, .int 0, .int 0]))) hfr100 hq (by simp)
  have hfr200 := hFr.put (x := (0, .inr (12, [.ref qz1, .ref qz4, .ref qz7, .ref qz10, .ref qz13, .ref qz16, .ref qz19, .ref qz22, .ref qz25, .ref qz28, .ref qz42, .null, .int 0, .int 0, .int 0]))) hfr200 hq (by simp)
  have hfr300 := hFr.put (x := (0, .inr (12, [.ref qz1, .ref qz4, .ref qz7, .ref qz10, .ref qz13, .ref qz16, .ref qz19, .ref qz22, .ref qz25, .ref qz28, .ref qz42, .null, .int 0, .int 0, .int 0]))) hfr300 hq (by simp)
  have hfr400 := hFr.put (x := (0, .inr (12, [.ref qz1, .ref qz4, .ref qz7, .ref qz10, .ref qz13, .ref qz16, .ref qz19, .ref qz22, .ref qz25, .ref qz28, .ref qz42, .null, .int 0, .int 0, .int 0]))) hfr400 hq (by simp)
  have hfr420 := hFr.put (x := (0, .inr (12, [.ref qz1, .ref qz4, .ref qz7, .ref qz10, .ref qz13, .ref qz16, .ref qz19, .ref qz22, .ref qz25, .ref qz28, .ref qz42, .null, .int 0, .int 0, .int 0]))) hfr420 hq (by simp)
  have hfr440 := hFr.put (x := (0, .inr (12, [.ref qz1, .ref qz4, .ref qz7, .ref qz10, .ref qz13, .ref qz16, .ref qz19, .ref qz22, .ref qz25, .ref qz28, .ref qz42, .null, .int 0, .int 0, .int 0]))) hfr440 hq (by simp)
  have hfr460 := hFr.put (x := (0, .inr (12, [.ref qz1, .ref qz4, .ref qz7, .ref qz10, .ref qz13, .ref qz16, .ref qz19, .ref qz22, .ref qz25, .ref qz28, .ref qz42, .null, .int 0, .int 0, .int 0]))) hfr460 hq (by simp)
  have hq : hup Mz42 q0 (0, .inr (12, [.ref qz1, .ref qz4, .ref qz7, .ref qz10, .ref qz13, .ref qz16, .ref qz19, .ref qz22, .ref qz25, .ref qz28, .ref qz42, .null, .int 0, .int 0, .int 0])) q0 = some (0, .inr (12, [.ref qz1, .ref qz4, .ref qz7, .ref qz10, .ref qz13, .ref qz16, .ref qz19, .ref qz22, .ref qz25, .ref qz28, .ref qz42, .null, .int 0, .int 0, .int 0])) := hup_eq
  generalize hup Mz42 q0 (0, .inr (12, [.ref qz1, .ref qz4, .ref qz7, .ref qz10, .ref qz13, .ref qz16, .ref qz19, .ref qz22, .ref qz25, .ref qz28, .ref qz42, .null, .int 0, .int 0, .int 0])) = Mz43 at Y hq fz28 fz42 hfr1 hfr3 hfr8 hfr11 hfr13 hfr15 hfr100 hfr200 hfr300 hfr400 hfr420 hfr440 hfr460
  refine lv_aload_n hx hb dX11_init_191 rfl (lv_at hl 0 rfl) ?_
  refine lv_bipush (v := 10) hx hb dX11_init_192 (by decide) ?_
  refine h_newI X Y (18) (n := 10) (by decide) (Nat.le_of_ble_eq_true rfl) (Nat.le_of_ble_eq_true rfl) dX11_init_194 (fun qz44 Mz44 H fz44 hg44 Y => ?_)
  have hq := hg44 _ _ hq
  have fz28 := hg44 _ _ fz28
  have fz42 := hg44 _ _ fz42
  have hfr1 := hFr.grow hfr1 hg44
  have hfr3 := hFr.grow hfr3 hg44
  have hfr8 := hFr.grow hfr8 hg44
  have hfr11 := hFr.grow hfr11 hg44
  have hfr13 := hFr.grow hfr13 hg44
  have hfr15 := hFr.grow hfr15 hg44
  have hfr100 := hFr.grow hfr100 hg44
  have hfr200 := hFr.grow hfr200 hg44
  have hfr300 := hFr.grow hfr300 hg44
  have hfr400 := hFr.grow hfr400 hg44
  have hfr420 := hFr.grow hfr420 hg44
  have hfr440 := hFr.grow hfr440 hg44
  have hfr460 := hFr.grow hfr460 hg44
  refine h_putF X Y (k := 11) (v := .ref qz44) hq rfl hin_X11 tyX11_ok nmX11 (by decide) kfl_X11_75 rfl rfl rfl rfl (Nat.le_of_ble_eq_true rfl) dX11_init_196 (fun H locs Y => ?_)
  have Y : hHS G (hup Mz44 q0 (0, .inr (12, [.ref qz1, .ref qz4, .ref qz7, .ref qz10, .ref qz13, .ref qz16, .ref qz19, .ref qz22, .ref qz25, .ref qz28, .ref qz42, .ref qz44, .int 0, .int 0, .int 0]))) s H locs := Y
  have fz28 := hup_tag (x := (0, .inr (12, [.ref qz1, .ref qz4, .ref qz7, .ref qz10, .ref qz13, .ref qz16, .ref qz19, .ref qz22, .ref qz25, .ref qz28, .ref qz42, .ref qz44, .int 0, .int 0, .int 0]))) fz28 hq (by omega)
  have fz42 := hup_tag (x := (0, .inr (12, [.ref qz1, .ref qz4, .ref qz7, .ref qz10, .ref qz13, .ref qz16, .ref qz19, .ref qz22, .ref qz25, .ref qz28, .ref qz42, .ref qz44, .int 0, .int 0, .int 0]))) fz42 hq (by omega)
  have fz44 := hup_tag (x := (0, .inr (12, [.ref qz1, .ref qz4, .ref qz7, .ref qz10, .ref qz13, .ref qz16, .ref qz19, .ref qz22, .ref qz25, .ref qz28, .ref qz42, .ref qz44, .int 0, .int 0, .int 0]))) fz44 hq (by omega)
  have hfr1 := hFr.put (x := (0, .inr (12, [.ref qz1, .ref qz4, .ref qz7, .ref qz10, .ref qz13, .ref qz16, .ref qz19, .ref qz22, .ref qz25, .ref qz28, .ref qz42, .ref qz44, .int 0, .int 0, .int 0]))) hfr1 hq (by simp)
  have hfr3 := hFr.put (x := (0, .inr (12, [.ref qz1, .ref qz4, .ref qz7, .ref qz10, .ref qz13, .ref qz16, .ref qz19, .ref qz22, .ref qz25, .ref qz28, .ref qz42, .ref qz44, .int 0, .int 0, .int 0]))) hfr3 hq (by simp)
  have hfr8 := hFr.put (x := (0, .inr (12, [.ref qz1, .ref qz4, .ref qz7, .ref qz10, .ref qz13, .ref qz16, .ref qz19, .ref qz22, .ref qz25, .ref qz28, .ref qz42, .ref qz44, .int 0, .int 0, .int 0]))) hfr8 hq (by simp)
  have hfr11 := hFr.put (x := (0, .inr (12, [.ref qz1, .ref qz4, .ref qz7, .ref qz10, .ref qz13, .ref qz16, .ref qz19, .ref qz22, .ref qz25, .ref qz28, .ref qz42, .ref qz44, .int 0, .int 0, .int 0]))) hfr11 hq (by simp)
  have hfr13 := hFr.put (x := (0, .inr (12, [.ref qz1, .ref qz4, .ref qz7, .ref qz10, .ref qz13, .ref qz16, .ref qz19, .ref qz22, .ref qz25, .ref qz28, .ref qz42, .ref qz44, .int 0, .int 0, .int 0]))) hfr13 hq (by simp)
  have hfr15 := hFr.put (x := (0, .inr (12, [.ref qz1, .ref qz4, .ref qz7, .ref qz10, .ref qz13, .ref qz16, .ref qz19, .ref qz22, .ref qz25, .ref qz28, .ref qz42, .ref qz44, .int 0, .int 0, .int 0]))) hfr15 hq (by simp)
  have hfr100 := hFr.put (x := (0, .inr (12, [.ref qz1, .ref qz4, .ref qz7, .ref qz10, .ref qz13, .ref qz16, .ref qz19, .ref qz22, .ref qz25, .ref qz28, .ref qz42, .ref qz44, .int 0, .int 0, .int 0]))) hfr100 hq (by simp)
  have hfr200 := hFr.put (x := (0, .inr (12, [.ref qz1, .ref qz4, .ref qz7, .ref qz10, .ref qz13, .ref qz16, .ref qz19, .ref qz22, .ref qz25, .ref qz28, .ref qz42, .ref qz44, .int 0, .int 0, .int 0]))) hfr200 hq (by simp)
  have hfr300 := hFr.put (x := (0, .inr (12, [.ref qz1, .ref qz4, .ref qz7, .ref qz10, .ref qz13, .ref qz16, .ref qz19, .ref qz22, .ref qz25, .ref qz28, .ref qz42, .ref qz44, .int 0, .int 0, .int 0]))) hfr300 hq (by simp)
  have hfr400 := hFr.put (x := (0, .inr (12, [.ref qz1, .ref qz4, .ref qz7, .ref qz10, .ref qz13, .ref qz16, .ref qz19, .ref qz22, .ref qz25, .ref qz28, .ref qz42, .ref qz44, .int 0, .int 0, .int 0]))) hfr400 hq (by simp)
  have hfr420 := hFr.put (x := (0, .inr (12, [.ref qz1, .ref qz4, .ref qz7, .ref qz10, .ref qz13, .ref qz16, .ref qz19, .ref qz22, .ref qz25, .ref qz28, .ref qz42, .ref qz44, .int 0, .int 0, .int 0]))) hfr420 hq (by simp)
  have hfr440 := hFr.put (x := (0, .inr (12, [.ref qz1, .ref qz4, .ref qz7, .ref qz10, .ref qz13, .ref qz16, .ref qz19, .ref qz22, .ref qz25, .ref qz28, .ref qz42, .ref qz44, .int 0, .int 0, .int 0]))) hfr440 hq (by simp)
  have hfr460 := hFr.put (x := (0, .inr (12, [.ref qz1, .ref qz4, .ref qz7, .ref qz10, .ref qz13, .ref qz16, .ref qz19, .ref qz22, .ref qz25, .ref qz28, .ref qz42, .ref qz44, .int 0, .int 0, .int 0]))) hfr460 hq (by simp)
  have hq : hup Mz44 q0 (0, .inr (12, [.ref qz1, .ref qz4, .ref qz7, .ref qz10, .ref qz13, .ref qz16, .ref qz19, .ref qz22, .ref qz25, .ref qz28, .ref qz42, .ref qz44, .int 0, .int 0, .int 0])) q0 = some (0, .inr (12, [.ref qz1, .ref qz4, .ref qz7, .ref qz10, .ref qz13, .ref qz16, .ref qz19, .ref qz22, .ref qz25, .ref qz28, .ref qz42, .ref qz44, .int 0, .int 0, .int 0])) := hup_eq
  generalize hup Mz44 q0 (0, .inr (12, [.ref qz1, .ref qz4, .ref qz7, .ref qz10, .ref qz13, .ref qz16, .ref qz19, .ref qz22, .ref qz25, .ref qz28, .ref qz42, .ref qz44, .int 0, .int 0, .int 0])) = Mz45 at Y hq fz28 fz42 fz44 hfr1 hfr3 hfr8 hfr11 hfr13 hfr15 hfr100 hfr200 hfr300 hfr400 hfr420 hfr440 hfr460
  refine lv_aload_n hx hb dX11_init_199 rfl (lv_at hl 0 rfl) ?_
  refine lv_iconst (v := 0) hx hb dX11_init_200 (by decide) ?_
  refine h_put X Y (k := 12) (v := .int 0) hq rfl hin_X11 tyX11_ok nmX11 (by decide) kfl_X11_78 rfl rfl rfl (Nat.le_of_ble_eq_true rfl) dX11_init_201 (fun H locs Y => ?_)
  have Y : hHS G (hup Mz45 q0 (0, .inr (12, [.ref qz1, .ref qz4, .ref qz7, .ref qz10, .ref qz13, .ref qz16, .ref qz19, .ref qz22, .ref qz25, .ref qz28, .ref qz42, .ref qz44, .int 0, .int 0, .int 0]))) s H locs := Y
  have fz28 := hup_tag (x := (0, .inr (12, [.ref qz1, .ref qz4, .ref qz7, .ref qz10, .ref qz13, .ref qz16, .ref qz19, .ref qz22, .ref qz25, .ref qz28, .ref qz42, .ref qz44, .int 0, .int 0, .int 0]))) fz28 hq (by omega)
  have fz42 := hup_tag (x := (0, .inr (12, [.ref qz1, .ref qz4, .ref qz7, .ref qz10, .ref qz13, .ref qz16, .ref qz19, .ref qz22, .ref qz25, .ref qz28, .ref qz42, .ref qz44, .int 0, .int 0, .int 0]))) fz42 hq (by omega)
  have fz44 := hup_tag (x := (0, .inr (12, [.ref qz1, .ref qz4, .ref qz7, .ref qz10, .ref qz13, .ref qz16, .ref qz19, .ref qz22, .ref qz25, .ref qz28, .ref qz42, .ref qz44, .int 0, .int 0, .int 0]))) fz44 hq (by omega)
  have hfr1 := hFr.put (x := (0, .inr (12, [.ref qz1, .ref qz4, .ref qz7, .ref qz10, .ref qz13, .ref qz16, .ref qz19, .ref qz22, .ref qz25, .ref qz28, .ref qz42, .ref qz44, .int 0, .int 0, .int 0]))) hfr1 hq (by simp)
  have hfr3 := hFr.put (x := (0, .inr (12, [.ref qz1, .ref qz4, .ref qz7, .ref qz10, .ref qz13, .ref qz16, .ref qz19, .ref qz22, .ref qz25, .ref qz28, .ref qz42, .ref qz44, .int 0, .int 0, .int 0]))) hfr3 hq (by simp)
  have hfr8 := hFr.put (x := (0, .inr (12, [.ref qz1, .ref qz4, .ref qz7, .ref qz10, .ref qz13, .ref qz16, .ref qz19, .ref qz22, .ref qz25, .ref qz28, .ref qz42, .ref qz44, .int 0, .int 0, .int 0]))) hfr8 hq (by simp)
  have hfr11 := hFr.put (x := (0, .inr (12, [.ref qz1, .ref qz4, .ref qz7, .ref qz10, .ref qz13, .ref qz16, .ref qz19, .ref qz22, .ref qz25, .ref qz28, .ref qz42, .ref qz44, .int 0, .int 0, .int 0]))) hfr11 hq (by simp)
  have hfr13 := hFr.put (x := (0, .inr (12, [.ref qz1, .ref qz4, .ref qz7, .ref qz10, .ref qz13, .ref qz16, .ref qz19, .ref qz22, .ref qz25, .ref qz28, .ref qz42, .ref qz44, .int 0, .int 0, .int 0]))) hfr13 hq (by simp)
  have hfr15 := hFr.put (x := (0, .inr (12, [.ref qz1, .ref qz4, .ref qz7, .ref qz10, .ref qz13, .ref qz16, .ref qz19, .ref qz22, .ref qz25, .ref qz28, .ref qz42, .ref qz44, .int 0, .int 0, .int 0]))) hfr15 hq (by simp)
  have hfr100 := hFr.put (x := (0, .inr (12, [.ref qz1, .ref qz4, .ref qz7, .ref qz10, .ref qz13, .ref qz16, .ref qz19, .ref qz22, .ref qz25, .ref qz28, .ref qz42, .ref qz44, .int 0, .int 0, .int 0]))) hfr100 hq (by simp)
  have hfr200 := hFr.put (x := (0, .inr (12, [.ref qz1, .ref qz4, .ref qz7, .ref qz10, .ref qz13, .ref qz16, .ref qz19, .ref qz22, .ref qz25, .ref qz28, .ref qz42, .ref qz44, .int 0, .int 0, .int 0]))) hfr200 hq (by simp)
  have hfr300 := hFr.put (x := (0, .inr (12, [.ref qz1, .ref qz4, .ref qz7, .ref qz10, .ref qz13, .ref qz16, .ref qz19, .ref qz22, .ref qz25, .ref qz28, .ref qz42, .ref qz44, .int 0, .int 0, .int 0]))) hfr300 hq (by simp)
  have hfr400 := hFr.put (x := (0, .inr (12, [.ref qz1, .ref qz4, .ref qz7, .ref qz10, .ref qz13, .ref qz16, .ref qz19, .ref qz22, .ref qz25, .ref qz28, .ref qz42, .ref qz44, .int 0, .int 0, .int 0]))) hfr400 hq (by simp)
  have hfr420 := hFr.put (x := (0, .inr (12, [.ref qz1, .ref qz4, .ref qz7, .ref qz10, .ref qz13, .ref qz16, .ref qz19, .ref qz22, .ref qz25, .ref qz28, .ref qz42, .ref qz44, .int 0, .int 0, .int 0]))) hfr420 hq (by simp)
  have hfr440 := hFr.put (x := (0, .inr (12, [.ref qz1, .ref qz4, .ref qz7, .ref qz10, .ref qz13, .ref qz16, .ref qz19, .ref qz22, .ref qz25, .ref qz28, .ref qz42, .ref qz44, .int 0, .int 0, .int 0]))) hfr440 hq (by simp)
  have hfr460 := hFr.put (x := (0, .inr (12, [.ref qz1, .ref qz4, .ref qz7, .ref qz10, .ref qz13, .ref qz16, .ref qz19, .ref qz22, .ref qz25, .ref qz28, .ref qz42, .ref qz44, .int 0, .int 0, .int 0]))) hfr460 hq (by simp)
  have hq : hup Mz45 q0 (0, .inr (12, [.ref qz1, .ref qz4, .ref qz7, .ref qz10, .ref qz13, .ref qz16, .ref qz19, .ref qz22, .ref qz25, .ref qz28, .ref qz42, .ref qz44, .int 0, .int 0, .int 0])) q0 = some (0, .inr (12, [.ref qz1, .ref qz4, .ref qz7, .ref qz10, .ref qz13, .ref qz16, .ref qz19, .ref qz22, .ref qz25, .ref qz28, .ref qz42, .ref qz44, .int 0, .int 0, .int 0])) := hup_eq
  generalize hup Mz45 q0 (0, .inr (12, [.ref qz1, .ref qz4, .ref qz7, .ref qz10, .ref qz13, .ref qz16, .ref qz19, .ref qz22, .ref qz25, .ref qz28, .ref qz42, .ref qz44, .int 0, .int 0, .int 0])) = Mz46 at Y hq fz28 fz42 fz44 hfr1 hfr3 hfr8 hfr11 hfr13 hfr15 hfr100 hfr200 hfr300 hfr400 hfr420 hfr440 hfr460
  refine lv_aload_n hx hb dX11_init_204 rfl (lv_at hl 0 rfl) ?_
  refine lv_sipush (v := 1000) hx hb dX11_init_205 (by decide) ?_
  refine h_put X Y (k := 13) (v := .int 1000) hq rfl hin_X11 tyX11_ok nmX11 (by decide) kfl_X11_82 rfl rfl rfl (Nat.le_of_ble_eq_true rfl) dX11_init_208 (fun H locs Y => ?_)
  have Y : hHS G (hup Mz46 q0 (0, .inr (12, [.ref qz1, .ref qz4, .ref qz7, .ref qz10, .ref qz13, .ref qz16, .ref qz19, .ref qz22, .ref qz25, .ref qz28, .ref qz42, .ref qz44, .int 0, .int 1000, .int 0]))) s H locs := Y
  have fz28 := hup_tag (x := (0, .inr (12, [.ref qz1, .ref qz4, .ref qz7, .ref qz10, .ref qz13, .ref qz16, .ref qz19, .ref qz22, .ref qz25, .ref qz28, .ref qz42, .ref qz44, .int 0, .int 1000, .int 0]))) fz28 hq (by omega)
  have fz42 := hup_tag (x := (0, .inr (12, [.ref qz1, .ref qz4, .ref qz7, .ref qz10, .ref qz13, .ref qz16, .ref qz19, .ref qz22, .ref qz25, .ref qz28, .ref qz42, .ref qz44, .int 0, .int 1000, .int 0]))) fz42 hq (by omega)
  have fz44 := hup_tag (x := (0, .inr (12, [.ref qz1, .ref qz4, .ref qz7, .ref qz10, .ref qz13, .ref qz16, .ref qz19, .ref qz22, .ref qz25, .ref qz28, .ref qz42, .ref qz44, .int 0, .int 1000, .int 0]))) fz44 hq (by omega)
  have hfr1 := hFr.put (x := (0, .inr (12, [.ref qz1, .ref qz4, .ref qz7, .ref qz10, .ref qz13, .ref qz16, .ref qz19, .ref qz22, .ref qz25, .ref qz28, .ref qz42, .ref qz44, .int 0, .int 1000, .int 0]))) hfr1 hq (by simp)
  have hfr3 := hFr.put (x := (0, .inr (12, [.ref qz1, .ref qz4, .ref qz7, .ref qz10, .ref qz13, .ref qz16, .ref qz19, .ref qz22, .ref qz25, .ref qz28, .ref qz42, .ref qz44, .int 0, .int 1000, .int 0]))) hfr3 hq (by simp)
  have hfr8 := hFr.put (x := (0, .inr (12, [.ref qz1, .ref qz4, .ref qz7, .ref qz10, .ref qz13, .ref qz16, .ref qz19, .ref qz22, .ref qz25, .ref qz28, .ref qz42, .ref qz44, .int 0, .int 1000, .int 0]))) hfr8 hq (by simp)
  have hfr11 := hFr.put (x := (0, .inr (12, [.ref qz1, .ref qz4, .ref qz7, .ref qz10, .ref qz13, .ref qz16, .ref qz19, .ref qz22, .ref qz25, .ref qz28, .ref qz42, .ref qz44, .int 0, .int 1000, .int 0]))) hfr11 hq (by simp)
  have hfr13 := hFr.put (x := (0, .inr (12, [.ref qz1, .ref qz4, .ref qz7, .ref qz10, .ref qz13, .ref qz16, .ref qz19, .ref qz22, .ref qz25, .ref qz28, .ref qz42, .ref qz44, .int 0, .int 1000, .int 0]))) hfr13 hq (by simp)
  have hfr15 := hFr.put (x := (0, .inr (12, [.ref qz1, .ref qz4, .ref qz7, .ref qz10, .ref qz13, .ref qz16, .ref qz19, .ref qz22, .ref qz25, .ref qz28, .ref qz42, .ref qz44, .int 0, .int 1000, .int 0]))) hfr15 hq (by simp)
  have hfr100 := hFr.put (x := (0, .inr (12, [.ref qz1, .ref qz4, .ref qz7, .ref qz10, .ref qz13, .ref qz16, .ref qz19, .ref qz22, .ref qz25, .ref qz28, .ref qz42, .ref qz44, .int 0, .int 1000, .int 0]))) hfr100 hq (by simp)
  have hfr200 := hFr.put (x := (0, .inr (12, [.ref qz1, .ref qz4, .ref qz7, .ref qz10, .ref qz13, .ref qz16, .ref qz19, .ref qz22, .ref qz25, .ref qz28, .ref qz42, .ref qz44, .int 0, .int 1000, .int 0]))) hfr200 hq (by simp)
  have hfr300 := hFr.put (x := (0, .inr (12, [.ref qz1, .ref qz4, .ref qz7, .ref qz10, .ref qz13, .ref qz16, .ref qz19, .ref qz22, .ref qz25, .ref qz28, .ref qz42, .ref qz44, .int 0, .int 1000, .int 0]))) hfr300 hq (by simp)
  have hfr400 := hFr.put (x := (0, .inr (12, [.ref qz1, .ref qz4, .ref qz7, .ref qz10, .ref qz13, .ref qz16, .ref qz19, .ref qz22, .ref qz25, .ref qz28, .ref qz42, .ref qz44, .int 0, .int 1000, .int 0]))) hfr400 hq (by simp)
  have hfr420 := hFr.put (x := (0, .inr (12, [.ref qz1, .ref qz4, .ref qz7, .ref qz10, .ref qz13, .ref qz16, .ref qz19, .ref qz22, .ref qz25, .ref qz28, .ref qz42, .ref qz44, .int 0, .int 1000, .int 0]))) hfr420 hq (by simp)
  have hfr440 := hFr.put (x := (0, .inr (12, [.ref qz1, .ref qz4, .ref qz7, .ref qz10, .ref qz13, .ref qz16, .ref qz19, .ref qz22, .ref qz25, .ref qz28, .ref qz42, .ref qz44, .int 0, .int 1000, .int 0]))) hfr440 hq (by simp)
  have hfr460 := hFr.put (x := (0, .inr (12, [.ref qz1, .ref qz4, .ref qz7, .ref qz10, .ref qz13, .ref qz16, .ref qz19, .ref qz22, .ref qz25, .ref qz28, .ref qz42, .ref qz44, .int 0, .int 1000, .int 0]))) hfr460 hq (by simp)
  have hq : hup Mz46 q0 (0, .inr (12, [.ref qz1, .ref qz4, .ref qz7, .ref qz10, .ref qz13, .ref qz16, .ref qz19, .ref qz22, .ref qz25, .ref qz28, .ref qz42, .ref qz44, .int 0, .int 1000, .int 0])) q0 = some (0, .inr (12, [.ref qz1, .ref qz4, .ref qz7, .ref qz10, .ref qz13, .ref qz16, .ref qz19, .ref qz22, .ref qz25, .ref qz28, .ref qz42, .ref qz44, .int 0, .int 1000, .int 0])) := hup_eq
  generalize hup Mz46 q0 (0, .inr (12, [.ref qz1, .ref qz4, .ref qz7, .ref qz10, .ref qz13, .ref qz16, .ref qz19, .ref qz22, .ref qz25, .ref qz28, .ref qz42, .ref qz44, .int 0, .int 1000, .int 0])) = Mz47 at Y hq fz28 fz42 fz44 hfr1 hfr3 hfr8 hfr11 hfr13 hfr15 hfr100 hfr200 hfr300 hfr400 hfr420 hfr440 hfr460
  refine lv_aload_n hx hb dX11_init_211 rfl (lv_at hl 0 rfl) ?_
  refine lv_iconst (v := (-1)) hx hb dX11_init_212 (by decide) ?_
  refine h_put X Y (k := 14) (v := .int (-1)) hq rfl hin_X11 tyX11_ok nmX11 (by decide) kfl_X11_85 rfl rfl rfl (Nat.le_of_ble_eq_true rfl) dX11_init_213 (fun H locs Y => ?_)
  have Y : hHS G (hup Mz47 q0 (0, .inr (12, [.ref qz1, .ref qz4, .ref qz7, .ref qz10, .ref qz13, .ref qz16, .ref qz19, .ref qz22, .ref qz25, .ref qz28, .ref qz42, .ref qz44, .int 0, .int 1000, .int (-1)]))) s H locs := Y
  have fz28 := hup_tag (x := (0, .inr (12, [.ref qz1, .ref qz4, .ref qz7, .ref qz10, .ref qz13, .ref qz16, .ref qz19, .ref qz22, .ref qz25, .ref qz28, .ref qz42, .ref qz44, .int 0, .int 1000, .int (-1)]))) fz28 hq (by omega)
  have fz42 := hup_tag (x := (0, .inr (12, [.ref qz1, .ref qz4, .ref qz7, .ref qz10, .ref qz13, .ref qz16, .ref qz19, .ref qz22, .ref qz25, .ref qz28, .ref qz42, .ref qz44, .int 0, .int 1000, .int (-1)]))) fz42 hq (by omega)
  have fz44 := hup_tag (x := (0, .inr (12, [.ref qz1, .ref qz4, .ref qz7, .ref qz10, .ref qz13, .ref qz16, .ref qz19, .ref qz22, .ref qz25, .ref qz28, .ref qz42, .ref qz44, .int 0, .int 1000, .int (-1)]))) fz44 hq (by omega)
  have hfr1 := hFr.put (x := (0, .inr (12, [.ref qz1, .ref qz4, .ref qz7, .ref qz10, .ref qz13, .ref qz16, .ref qz19, .ref qz22, .ref qz25, .ref qz28, .ref qz42, .ref qz44, .int 0, .int 1000, .int (-1)]))) hfr1 hq (by simp)
  have hfr3 := hFr.put (x := (0, .inr (12, [.ref qz1, .ref qz4, .ref qz7, .ref qz10, .ref qz13, .ref qz16, .ref qz19, .ref qz22, .ref qz25, .ref qz28, .ref qz42, .ref qz44, .int 0, .int 1000, .int (-1)]))) hfr3 hq (by simp)
  have hfr8 := hFr.put (x := (0, .inr (12, [.ref qz1, .ref qz4, .ref qz7, .ref qz10, .ref qz13, .ref qz16, .ref qz19, .ref qz22, .ref qz25, .ref qz28, .ref qz42, .ref qz44, .int 0, .int 1000, .int (-1)]))) hfr8 hq (by simp)
  have hfr11 := hFr.put (x := (0, .inr (12, [.ref qz1, .ref qz4, .ref qz7, .ref qz10, .ref qz13, .ref qz16, .ref qz19, .ref qz22, .ref qz25, .ref qz28, .ref qz42, .ref qz44, .int 0, .int 1000, .int (-1)]))) hfr11 hq (by simp)
  have hfr13 := hFr.put (x := (0, .inr (12, [.ref qz1, .ref qz4, .ref qz7, .ref qz10, .ref qz13, .ref qz16, .ref qz19, .ref qz22, .ref qz25, .ref qz28, .ref qz42, .ref qz44, .int 0, .int 1000, .int (-1)]))) hfr13 hq (by simp)
  have hfr15 := hFr.put (x := (0, .inr (12, [.ref qz1, .ref qz4, .ref qz7, .ref qz10, .ref qz13, .ref qz16, .ref qz19, .ref qz22, .ref qz25, .ref qz28, .ref qz42, .ref qz44, .int 0, .int 1000, .int (-1)]))) hfr15 hq (by simp)
  have hfr100 := hFr.put (x := (0, .inr (12, [.ref qz1, .ref qz4, .ref qz7, .ref qz10, .ref qz13, .ref qz16, .ref qz19, .ref qz22, .ref qz25, .ref qz28, .ref qz42, .ref qz44, .int 0, .int 1000, .int (-1)]))) hfr100 hq (by simp)
  have hfr200 := hFr.put (x := (0, .inr (12, [.ref qz1, .ref qz4, .ref qz7, .ref qz10, .ref qz13, .ref qz16, .ref qz19, .ref qz22, .ref qz25, .ref qz28, .ref qz42, .ref qz44, .int 0, .int 1000, .int (-1)]))) hfr200 hq (by simp)
  have hfr300 := hFr.put (x := (0, .inr (12, [.ref qz1, .ref qz4, .ref qz7, .ref qz10, .ref qz13, .ref qz16, .ref qz19, .ref qz22, .ref qz25, .ref qz28, .ref qz42, .ref qz44, .int 0, .int 1000, .int (-1)]))) hfr300 hq (by simp)
  have hfr400 := hFr.put (x := (0, .inr (12, [.ref qz1, .ref qz4, .ref qz7, .ref qz10, .ref qz13, .ref qz16, .ref qz19, .ref qz22, .ref qz25, .ref qz28, .ref qz42, .ref qz44, .int 0, .int 1000, .int (-1)]))) hfr400 hq (by simp)
  have hfr420 := hFr.put (x := (0, .inr (12, [.ref qz1, .ref qz4, .ref qz7, .ref qz10, .ref qz13, .ref qz16, .ref qz19, .ref qz22, .ref qz25, .ref qz28, .ref qz42, .ref qz44, .int 0, .int 1000, .int (-1)]))) hfr420 hq (by simp)
  have hfr440 := hFr.put (x := (0, .inr (12, [.ref qz1, .ref qz4, .ref qz7, .ref qz10, .ref qz13, .ref qz16, .ref qz19, .ref qz22, .ref qz25, .ref qz28, .ref qz42, .ref qz44, .int 0, .int 1000, .int (-1)]))) hfr440 hq (by simp)
  have hfr460 := hFr.put (x := (0, .inr (12, [.ref qz1, .ref qz4, .ref qz7, .ref qz10, .ref qz13, .ref qz16, .ref qz19, .ref qz22, .ref qz25, .ref qz28, .ref qz42, .ref qz44, .int 0, .int 1000, .int (-1)]))) hfr460 hq (by simp)
  have hq : hup Mz47 q0 (0, .inr (12, [.ref qz1, .ref qz4, .ref qz7, .ref qz10, .ref qz13, .ref qz16, .ref qz19, .ref qz22, .ref qz25, .ref qz28, .ref qz42, .ref qz44, .int 0, .int 1000, .int (-1)])) q0 = some (0, .inr (12, [.ref qz1, .ref qz4, .ref qz7, .ref qz10, .ref qz13, .ref qz16, .ref qz19, .ref qz22, .ref qz25, .ref qz28, .ref qz42, .ref qz44, .int 0, .int 1000, .int (-1)])) := hup_eq
  generalize hup Mz47 q0 (0, .inr (12, [.ref qz1, .ref qz4, .ref qz7, .ref qz10, .ref qz13, .ref qz16, .ref qz19, .ref qz22, .ref qz25, .ref qz28, .ref qz42, .ref qz44, .int 0, .int 1000, .int (-1)])) = Mz48 at Y hq fz28 fz42 fz44 hfr1 hfr3 hfr8 hfr11 hfr13 hfr15 hfr100 hfr200 hfr300 hfr400 hfr420 hfr440 hfr460
  have e100 : qz19 = C100 0 := hA100.symm
  have e200 : qz22 = C200 0 := hA200.symm
  have e300 : qz25 = C300 0 := hA300.symm
  have e400 : qz29 = T400 0 := hA400.symm
  have e420 : qz32 = T420 0 := hA420.symm
  have e440 : qz35 = T440 0 := hA440.symm
  have e460 : qz38 = T460 0 := hA460.symm
  rw [e100, e200, e300] at hq
  exact h_vret X Y ⟨rfl, house_of hq (hfr1 _ _ _ f1 (by omega)) (hfr1 _ _ _ f2 (by omega)) (hfr3 _ _ _ f3 (by omega)) (hfr3 _ _ _ f4 (by omega)) (hfr3 _ _ _ f5 (by omega)) (hfr3 _ _ _ f6 (by omega)) (hfr3 _ _ _ f7 (by omega)) (hfr8 _ _ _ f8 (by omega)) (hfr8 _ _ _ f9 (by omega)) (hfr8 _ _ _ f10 (by omega)) (hfr11 _ _ _ f11 (by omega)) (hfr11 _ _ _ f12 (by omega)) (hfr13 _ _ _ f13 (by omega)) (hfr15 _ _ _ f15 (by omega)) fz42 fz44 fz28 ⟨congrArg some e400, congrArg some e420, congrArg some e440, congrArg some e460⟩ (k100.fr hfr100 (fun j hj => by omega)) (k200.fr hfr200 (fun j hj => by omega)) (k300.fr hfr300 (fun j hj => by omega)) (k400.fr hfr400 (fun j hj => by omega)) (k420.fr hfr420 (fun j hj => by omega)) (k440.fr hfr440 (fun j hj => by omega)) (k460.fr hfr460 (fun j hj => by omega))⟩ (Nat.le_of_ble_eq_true rfl) (Nat.le_of_ble_eq_true rfl) dX11_init_216
