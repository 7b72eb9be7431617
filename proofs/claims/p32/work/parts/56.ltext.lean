theorem gw_L_51 : GoodIn hGW (wsV RL 51 RJ4 yJ4_append_15ec4 (Cond.code yJ4_append_15ec4 cJ4_append_15ec4 2 (Option.some (FieldType.object "java/lang/StringBuilder")) :: hGW)) := hgi4 kml_L_51 kin_J4_append_15ec4 kse_J4_J4_append_15ec4_J4_append_15ec4 kini_J4 kco_J4_append_15ec4
theorem dsc_J4_append_15ec4 : yJ4_append_15ec4.cls = RJ4 ∧ yJ4_append_15ec4.cls ≠ "java/lang/invoke/MethodHandle" ∧ yJ4_append_15ec4.cls ≠ "java/lang/invoke/VarHandle" ∧ (parseMethodDescriptor yJ4_append_15ec4.desc).map (fun d => d.parameters.length) = some 1 := ⟨rfl, by decide +kernel, by decide +kernel, by decide +kernel⟩
theorem gw_L_55 : GoodIn hGW (wsV RL 55 RJ4 yJ4_append_bf812 (Cond.code yJ4_append_bf812 cJ4_append_bf812 2 (Option.some (FieldType.object "java/lang/StringBuilder")) :: hGW)) := hgi4 kml_L_55 kin_J4_append_bf812 kse_J4_J4_append_bf812_J4_append_bf812 kini_J4 kco_J4_append_bf812
theorem dsc_J4_append_bf812 : yJ4_append_bf812.cls = RJ4 ∧ yJ4_append_bf812.cls ≠ "java/lang/invoke/MethodHandle" ∧ yJ4_append_bf812.cls ≠ "java/lang/invoke/VarHandle" ∧ (parseMethodDescriptor yJ4_append_bf812.desc).map (fun d => d.parameters.length) = some 1 := ⟨rfl, by decide +kernel, by decide +kernel, by decide +kernel⟩
theorem gw_L_64 : GoodIn hGW (wsV RL 64 RJ4 yJ4_toString_0e30d (Cond.code yJ4_toString_0e30d cJ4_toString_0e30d 1 (Option.some (FieldType.object "java/lang/String")) :: hGW)) := hgi4 kml_L_64 kin_J4_toString_0e30d kse_J4_J4_toString_0e30d_J4_toString_0e30d kini_J4 kco_J4_toString_0e30d
theorem dsc_J4_toString_0e30d : yJ4_toString_0e30d.cls = RJ4 ∧ yJ4_toString_0e30d.cls ≠ "java/lang/invoke/MethodHandle" ∧ yJ4_toString_0e30d.cls ≠ "java/lang/invoke/VarHandle" ∧ (parseMethodDescriptor yJ4_toString_0e30d.desc).map (fun d => d.parameters.length) = some 0 := ⟨rfl, by decide +kernel, by decide +kernel, by decide +kernel⟩
theorem dsc_J4_init_da8c8 : yJ4_init_da8c8.cls = RJ4 ∧ yJ4_init_da8c8.cls ≠ "java/lang/invoke/MethodHandle" ∧ yJ4_init_da8c8.cls ≠ "java/lang/invoke/VarHandle" ∧ (parseMethodDescriptor yJ4_init_da8c8.desc).map (fun d => d.parameters.length) = some 0 := ⟨rfl, by decide +kernel, by decide +kernel, by decide +kernel⟩
-- THE LAW'S TEXT
def txA (v : Nat → Nat) : List Nat := ((((((([] ++ lsT_49) ++ dgs (v 0)) ++ lsT_58) ++ dgs (v 1)) ++ lsT_60) ++ dgs (v 2)) ++ lsT_62)
def txB (v : Nat → Nat) : List Nat := (((((((((((([] ++ lsT_68) ++ dgs (v 3)) ++ lsT_70) ++ dgs (v 4)) ++ lsT_72) ++ dgs (v 5)) ++ lsT_74) ++ dgs (v 6)) ++ lsT_76) ++ dgs (v 7)) ++ (if v 8 = 1 then lsT_78 else lsT_80)) ++ lsT_62)
def txT (v : Nat → Nat) : List Nat := (((((((((((((([] ++ txA v) ++ txB v) ++ lsT_82) ++ dgs (v 9)) ++ lsT_84) ++ dgs (v 10)) ++ lsT_86) ++ dgs (v 11 % 5)) ++ (if v 11 % 5 = 0 then lsT_80 else (([] ++ lsT_88) ++ dgs (v 12)))) ++ lsT_90) ++ dgs (v 13)) ++ lsT_92) ++ dgs (v 14)) ++ lsT_94)
def zT (u : Nat) : Prop := 5000 ≤ u ∧ u < 5100
theorem zT_m {t : Nat} (ht : 5000 ≤ t ∧ t + 1 < 5100) : ∀ u, (u = t ∨ u = t + 1) → zT u := fun u h => by unfold zT; omega
theorem zT_n {t x : Nat} (hx : x < 5000) (ht : 5000 ≤ t ∧ t + 1 < 5100) : ¬ (x = t ∨ x = t + 1) := by omega
/-- the terms' row, the builder at work, what else is kept -/
def TxI (G : hG) (M0 M : hM) (a tt : Nat) (g : Nat → Int32) (q t n : Nat) (L : List Nat) (R9 : hM → Prop) : Prop :=
  M a = some (tt, .inl (hT G 0, 15, .inl g)) ∧ SbL G M q t L ∧ L.length ≤ n ∧ R9 M ∧ hFr zT M0 M
theorem TxI.ht {G : hG} {M0 M : hM} {a tt q t n : Nat} {g : Nat → Int32} {L : List Nat} {R9 : hM → Prop} (h : TxI G M0 M a tt g q t n L R9) : M a = some (tt, .inl (hT G 0, 15, .inl g)) := h.1
theorem TxI.hb {G : hG} {M0 M : hM} {a tt q t n : Nat} {g : Nat → Int32} {L : List Nat} {R9 : hM → Prop} (h : TxI G M0 M a tt g q t n L R9) : SbL G M q t L := h.2.1
theorem TxI.hn {G : hG} {M0 M : hM} {a tt q t n : Nat} {g : Nat → Int32} {L : List Nat} {R9 : hM → Prop} (h : TxI G M0 M a tt g q t n L R9) : L.length ≤ n := h.2.2.1
theorem TxI.hR {G : hG} {M0 M : hM} {a tt q t n : Nat} {g : Nat → Int32} {L : List Nat} {R9 : hM → Prop} (h : TxI G M0 M a tt g q t n L R9) : R9 M := h.2.2.2.1
theorem TxI.hf {G : hG} {M0 M : hM} {a tt q t n : Nat} {g : Nat → Int32} {L : List Nat} {R9 : hM → Prop} (h : TxI G M0 M a tt g q t n L R9) : hFr zT M0 M := h.2.2.2.2
section TX
variable {G : hG} {p : Program} {l : Launch} {e : Env} {R : Room} {s : State} {m : MethodId} {args : Array Value} {below : List Frame} {meth : Method} {c : Code} {H : Heap} {locs : List Loc} {cells slots : Nat} {Q : State → Prop}
variable {cc : ByteArray} {maxL : Nat} {ret : Option FieldType} {own nm : String} {M : hM} {pc : Nat} {ls : Array Slot} {rest : List Value} {a t ci index n : Nat} {cA : ClassId}
variable {M0 : hM} {tt q k k2 nk q0 v : Nat} {g : Nat → Int32} {L K : List Nat} {R9 : hM → Prop}
theorem tx_A (X : hCX G p s m args meth c cc maxL ret RL nm) (Y : hHS G M s H locs) (I : TxI G M0 M a tt g q t k L R9) (htt : tt < 5000) (ht : 5000 ≤ t ∧ t + 1 < 5100) (hst : ∀ M1 M2, hFr (fun u => u = t ∨ u = t + 1) M1 M2 → R9 M1 → R9 M2) (hq : StV G M q0 K.length (lsW K)) (hz : ∀ (u : Nat) (e : va_E), M q0 = some (u, e) → u + 1 < t ∨ t + 1 < u) (hK : K.length ≤ nk) (hk2 : k + nk = k2) (hk6 : k2 ≤ 600)
    (hls : ls.size = maxL) (hw : (rest.map fun v => v.category).sum ≤ 8) (hR : 7 ≤ R.frames ∧ 8 + (2 + 11) + 64 * 6 ≤ R.locals) (hf : cells + 1 ≤ R.cells ∧ slots + 1300 ≤ R.slots) (hdg : decode cc pc = .ok (.invokevirtual 51, 3))
    (kk : ∀ M' H locs, hHS G M' s H locs → TxI G M0 M' a tt g q t k2 (L ++ K) R9 → W p l e R s m args below meth c H locs (cells + 1) (slots + 1300) Q (F0 m (pc + 3) ls (.ref q :: rest))) : W p l e R s m args below meth c H locs cells slots Q (F0 m pc ls (.ref q0 :: .ref q :: rest)) := by
  obtain ⟨i1, ⟨cap, i2⟩, i3, i4, i5⟩ := I
  obtain ⟨fs9, ho9⟩ := i2.obj
  refine h_callV (rest := rest) X Y (c_sbApp l G M q t _ cap (lsW L) i2 q0 _ (lsW K) hq hz (by omega)) gw_L_51 dsc_J4_append_15ec4 ho9 rfl rfl rfl hls rfl hw hR hf hdg ?_
  rintro _ M1 H locs ⟨rfl, hn9, hf9⟩ Y
  exact kk M1 H locs Y ⟨hf9 _ _ _ i1 (zT_n htt ht), SbL.app hn9, by rw [List.length_append]; omega, hst _ _ hf9 i4, hFr.tr i5 (hf9.mono (zT_m ht))⟩
theorem tx_D (X : hCX G p s m args meth c cc maxL ret RL nm) (Y : hHS G M s H locs) (I : TxI G M0 M a tt g q t k L R9) (htt : tt < 5000) (ht : 5000 ≤ t ∧ t + 1 < 5100) (hst : ∀ M1 M2, hFr (fun u => u = t ∨ u = t + 1) M1 M2 → R9 M1 → R9 M2) (hv : v < 100000) (hk2 : k + 5 = k2) (hk6 : k2 ≤ 600)
    (hls : ls.size = maxL) (hw : (rest.map fun v => v.category).sum ≤ 8) (hR : 7 ≤ R.frames ∧ 8 + (2 + 11) + 64 * 6 ≤ R.locals) (hf : cells + 1 ≤ R.cells ∧ slots + 1300 ≤ R.slots) (hdg : decode cc pc = .ok (.invokevirtual 55, 3))
    (kk : ∀ M' H locs, hHS G M' s H locs → TxI G M0 M' a tt g q t k2 (L ++ dgs v) R9 → W p l e R s m args below meth c H locs (cells + 1) (slots + 1300) Q (F0 m (pc + 3) ls (.ref q :: rest))) : W p l e R s m args below meth c H locs cells slots Q (F0 m pc ls (.int (nI v) :: .ref q :: rest)) := by
  obtain ⟨i1, ⟨cap, i2⟩, i3, i4, i5⟩ := I
  obtain ⟨fs9, ho9⟩ := i2.obj
  have h5 := dgs_5 hv
  have h6 := dgs_len v
  refine h_callV (rest := rest) X Y (c_sbAppI l G M q t _ cap (lsW L) i2 v hv (by omega)) gw_L_55 dsc_J4_append_bf812 ho9 rfl rfl rfl hls rfl hw hR hf hdg ?_
  rintro _ M1 H locs ⟨rfl, hn9, hf9⟩ Y
  exact kk M1 H locs Y ⟨hf9 _ _ _ i1 (zT_n htt ht), SbL.dec hn9, by rw [List.length_append]; omega, hst _ _ hf9 i4, hFr.tr i5 (hf9.mono (zT_m ht))⟩
theorem tx_T {tq : Nat} (X : hCX G p s m args meth c cc maxL ret RL nm) (Y : hHS G M s H locs) (I : TxI G M0 M a tt g q t k L R9) (htt : tt < 5000) (ht : 5000 ≤ tq ∧ tq + 1 < 5100) (htq : tq + 1 < t ∨ t + 1 < tq) (hst : ∀ M1 M2, hFr (fun u => u = tq ∨ u = tq + 1) M1 M2 → R9 M1 → R9 M2)
    (hls : ls.size = maxL) (hw : (rest.map fun v => v.category).sum ≤ 8) (hR : 7 ≤ R.frames ∧ 8 + (1 + 11) + 64 * 6 ≤ R.locals) (hf : cells + 2 ≤ R.cells ∧ slots + 1310 ≤ R.slots) (hdg : decode cc pc = .ok (.invokevirtual 64, 3))
    (kk : ∀ r M' H locs, hHS G M' s H locs → M' a = some (tt, .inl (hT G 0, 15, .inl g)) → StL G M' r tq L → R9 M' → hFr zT M0 M' → W p l e R s m args below meth c H locs (cells + 2) (slots + 1310) Q (F0 m (pc + 3) ls (.ref r :: rest))) : W p l e R s m args below meth c H locs cells slots Q (F0 m pc ls (.ref q :: rest)) := by
  obtain ⟨i1, ⟨cap, i2⟩, i3, i4, i5⟩ := I
  obtain ⟨fs9, ho9⟩ := i2.obj
  refine h_callV (rest := rest) X Y (c_toStr l G M q t L ⟨cap, i2⟩ tq htq) gw_L_64 dsc_J4_toString_0e30d ho9 rfl rfl rfl hls rfl hw hR hf hdg ?_
  rintro _ M1 H locs ⟨r, rfl, hn9, hf9⟩ Y
  exact kk r M1 H locs Y (hf9 _ _ _ i1 (zT_n htt ht)) hn9 (hst _ _ hf9 i4) (hFr.tr i5 (hf9.mono (zT_m ht)))
theorem tx_N (X : hCX G p s m args meth c cc maxL ret RL nm) (Y : hHS G M s H locs) (t : Nat) (i1 : M a = some (tt, .inl (hT G 0, 15, .inl g))) (i4 : R9 M) (i5 : hFr zT M0 M) (htt : tt < 5000) (ht : 5000 ≤ t ∧ t + 1 < 5100) (hst : ∀ M1 M2, hFr (fun u => u = t ∨ u = t + 1) M1 M2 → R9 M1 → R9 M2)
    (hls : ls.size = maxL) (hw : ((.ref 0 :: rest).map fun v => v.category).sum ≤ 8) (hR : 4 ≤ R.frames ∧ 8 + (1 + 11) + 64 * 3 ≤ R.locals) (hf : cells + 1 + 1 ≤ R.cells ∧ slots + 4 + 16 ≤ R.slots) (hd1 : decode cc pc = .ok (.new 46, 3)) (hd2 : decode cc (pc + 3) = .ok (.dup, 1)) (hd3 : decode cc (pc + 3 + 1) = .ok (.invokespecial 48, 3))
    (kk : ∀ q M' H locs, hHS G M' s H locs → TxI G M0 M' a tt g q t 0 [] R9 → W p l e R s m args below meth c H locs (cells + 1 + 1) (slots + 4 + 16) Q (F0 m (pc + 3 + 1 + 3) ls (.ref q :: rest))) : W p l e R s m args below meth c H locs cells slots Q (F0 m pc ls rest) := by
  refine h_new (ci := 1) X Y t (fs := [.null, .int 0, .int 0, .int 0]) rfl hin_J4 tyJ4_ok kcl_L_46 kinst_J4 kini_J4 (fun j hj => match j, hj with | 0, _ => rfl | 1, _ => rfl | 2, _ => rfl | 3, _ => rfl | z9 + 4, h9 => absurd h9 (by omega)) (by omega) (by omega) hd1 (fun q M1 H hq hg Y => ?_)
  refine lv_dup X.1 X.2.1 hd2 rfl ?_
  refine h_callI (rest := .ref q :: rest) X Y (c_sbInit l G M1 q t (lsW []) hq) (hgi0 kco_J4_init_da8c8) kini_J4 kml_L_48 kin_J4_init_da8c8 rfl dsc_J4_init_da8c8.2 rfl hls rfl hw hR hf hd3 ?_
  rintro _ M2 H locs ⟨rfl, hn9, hf9⟩ Y
  have hf9 : hFr (fun u => u = t ∨ u = t + 1) M M2 := hFr.tr (hFr.grow hFr.rf hg) (hf9.mono fun u z => Or.inl z)
  exact kk q M2 H locs Y ⟨hf9 _ _ _ i1 (zT_n htt ht), ⟨_, hn9⟩, Nat.le_refl 0, hst _ _ hf9 i4, hFr.tr i5 (hf9.mono (zT_m ht))⟩
end TX
theorem ls_hz {G : hG} {M : hM} {s : State} {H : Heap} {locs : List Loc} {q L t : Nat} {W : Nat → Nat} (Y : hHS G M s H locs) (h : sS G q L W) : ∀ (u : Nat) (e : va_E), M q = some (u, e) → u + 1 < t ∨ t + 1 < u := by
  intro u e hm
  obtain ⟨⟨cell, -, -, -, hA⟩, -⟩ := h
  exact absurd (Y.1 q u e hm).1 hA
theorem st_hz {G : hG} {M : hM} {q t t2 : Nat} {L : List Nat} (h : StL G M q t L) (ht : t + 1 < t2 ∨ t2 + 1 < t) : ∀ (u : Nat) (e : va_E), M q = some (u, e) → u + 1 < t2 ∨ t2 + 1 < u := fun u e hm => by rw [h.tag u e hm]; exact ht
theorem dL_text_0 : decode cL_text 0 = .ok (.new 46, 3) := by decide +kernel
theorem dL_text_3 : decode cL_text 3 = .ok (.dup, 1) := by decide +kernel
theorem dL_text_4 : decode cL_text 4 = .ok (.invokespecial 48, 3) := by decide +kernel
theorem dL_text_7 : decode cL_text 7 = .ok (.ldc 49, 2) := by decide +kernel
theorem dL_text_9 : decode cL_text 9 = .ok (.invokevirtual 51, 3) := by decide +kernel
theorem dL_text_12 : decode cL_text 12 = .ok (.aload_n 0, 1) := by decide +kernel
theorem dL_text_13 : decode cL_text 13 = .ok (.iconst 0, 1) := by decide +kernel
theorem dL_text_14 : decode cL_text 14 = .ok (.iaload, 1) := by decide +kernel
theorem dL_text_15 : decode cL_text 15 = .ok (.invokevirtual 55, 3) := by decide +kernel
theorem dL_text_18 : decode cL_text 18 = .ok (.ldc 58, 2) := by decide +kernel
theorem dL_text_20 : decode cL_text 20 = .ok (.invokevirtual 51, 3) := by decide +kernel
theorem dL_text_23 : decode cL_text 23 = .ok (.aload_n 0, 1) := by decide +kernel
theorem dL_text_24 : decode cL_text 24 = .ok (.iconst 1, 1) := by decide +kernel
theorem dL_text_25 : decode cL_text 25 = .ok (.iaload, 1) := by decide +kernel
theorem dL_text_26 : decode cL_text 26 = .ok (.invokevirtual 55, 3) := by decide +kernel
theorem dL_text_29 : decode cL_text 29 = .ok (.ldc 60, 2) := by decide +kernel
theorem dL_text_31 : decode cL_text 31 = .ok (.invokevirtual 51, 3) := by decide +kernel
theorem dL_text_34 : decode cL_text 34 = .ok (.aload_n 0, 1) := by decide +kernel
theorem dL_text_35 : decode cL_text 35 = .ok (.iconst 2, 1) := by decide +kernel
theorem dL_text_36 : decode cL_text 36 = .ok (.iaload, 1) := by decide +kernel
theorem dL_text_37 : decode cL_text 37 = .ok (.invokevirtual 55, 3) := by decide +kernel
theorem dL_text_40 : decode cL_text 40 = .ok (.ldc 62, 2) := by decide +kernel
theorem dL_text_42 : decode cL_text 42 = .ok (.invokevirtual 51, 3) := by decide +kernel
theorem dL_text_45 : decode cL_text 45 = .ok (.invokevirtual 64, 3) := by decide +kernel
theorem dL_text_48 : decode cL_text 48 = .ok (.astore_n 1, 1) := by decide +kernel
theorem dL_text_49 : decode cL_text 49 = .ok (.new 46, 3) := by decide +kernel
theorem dL_text_52 : decode cL_text 52 = .ok (.dup, 1) := by decide +kernel
theorem dL_text_53 : decode cL_text 53 = .ok (.invokespecial 48, 3) := by decide +kernel
theorem dL_text_56 : decode cL_text 56 = .ok (.ldc 68, 2) := by decide +kernel
theorem dL_text_58 : decode cL_text 58 = .ok (.invokevirtual 51, 3) := by decide +kernel
theorem dL_text_61 : decode cL_text 61 = .ok (.aload_n 0, 1) := by decide +kernel
theorem dL_text_62 : decode cL_text 62 = .ok (.iconst 3, 1) := by decide +kernel
theorem dL_text_63 : decode cL_text 63 = .ok (.iaload, 1) := by decide +kernel
theorem dL_text_64 : decode cL_text 64 = .ok (.invokevirtual 55, 3) := by decide +kernel
theorem dL_text_67 : decode cL_text 67 = .ok (.ldc 70, 2) := by decide +kernel
theorem dL_text_69 : decode cL_text 69 = .ok (.invokevirtual 51, 3) := by decide +kernel
theorem dL_text_72 : decode cL_text 72 = .ok (.aload_n 0, 1) := by decide +kernel
theorem dL_text_73 : decode cL_text 73 = .ok (.iconst 4, 1) := by decide +kernel
theorem dL_text_74 : decode cL_text 74 = .ok (.iaload, 1) := by decide +kernel
theorem dL_text_75 : decode cL_text 75 = .ok (.invokevirtual 55, 3) := by decide +kernel
theorem dL_text_78 : decode cL_text 78 = .ok (.ldc 72, 2) := by decide +kernel
theorem dL_text_80 : decode cL_text 80 = .ok (.invokevirtual 51, 3) := by decide +kernel
theorem dL_text_83 : decode cL_text 83 = .ok (.aload_n 0, 1) := by decide +kernel
theorem dL_text_84 : decode cL_text 84 = .ok (.iconst 5, 1) := by decide +kernel
theorem dL_text_85 : decode cL_text 85 = .ok (.iaload, 1) := by decide +kernel
theorem dL_text_86 : decode cL_text 86 = .ok (.invokevirtual 55, 3) := by decide +kernel
theorem dL_text_89 : decode cL_text 89 = .ok (.ldc 74, 2) := by decide +kernel
theorem dL_text_91 : decode cL_text 91 = .ok (.invokevirtual 51, 3) := by decide +kernel
theorem dL_text_94 : decode cL_text 94 = .ok (.aload_n 0, 1) := by decide +kernel
theorem dL_text_95 : decode cL_text 95 = .ok (.bipush 6, 2) := by decide +kernel
theorem dL_text_97 : decode cL_text 97 = .ok (.iaload, 1) := by decide +kernel
theorem dL_text_98 : decode cL_text 98 = .ok (.invokevirtual 55, 3) := by decide +kernel
theorem dL_text_101 : decode cL_text 101 = .ok (.ldc 76, 2) := by decide +kernel
theorem dL_text_103 : decode cL_text 103 = .ok (.invokevirtual 51, 3) := by decide +kernel
theorem dL_text_106 : decode cL_text 106 = .ok (.aload_n 0, 1) := by decide +kernel
theorem dL_text_107 : decode cL_text 107 = .ok (.bipush 7, 2) := by decide +kernel
theorem dL_text_109 : decode cL_text 109 = .ok (.iaload, 1) := by decide +kernel
theorem dL_text_110 : decode cL_text 110 = .ok (.invokevirtual 55, 3) := by decide +kernel
theorem dL_text_113 : decode cL_text 113 = .ok (.aload_n 0, 1) := by decide +kernel
theorem dL_text_114 : decode cL_text 114 = .ok (.bipush 8, 2) := by decide +kernel
theorem dL_text_116 : decode cL_text 116 = .ok (.iaload, 1) := by decide +kernel
theorem dL_text_117 : decode cL_text 117 = .ok (.iconst 1, 1) := by decide +kernel
theorem dL_text_118 : decode cL_text 118 = .ok (.if_icmp .ne 8, 3) := by decide +kernel
theorem dL_text_121 : decode cL_text 121 = .ok (.ldc 78, 2) := by decide +kernel
theorem dL_text_123 : decode cL_text 123 = .ok (.goto 5, 3) := by decide +kernel
theorem dL_text_126 : decode cL_text 126 = .ok (.ldc 80, 2) := by decide +kernel
theorem dL_text_128 : decode cL_text 128 = .ok (.invokevirtual 51, 3) := by decide +kernel
theorem dL_text_131 : decode cL_text 131 = .ok (.ldc 62, 2) := by decide +kernel
theorem dL_text_133 : decode cL_text 133 = .ok (.invokevirtual 51, 3) := by decide +kernel
theorem dL_text_136 : decode cL_text 136 = .ok (.invokevirtual 64, 3) := by decide +kernel
theorem dL_text_139 : decode cL_text 139 = .ok (.astore_n 2, 1) := by decide +kernel
theorem dL_text_140 : decode cL_text 140 = .ok (.new 46, 3) := by decide +kernel
theorem dL_text_143 : decode cL_text 143 = .ok (.dup, 1) := by decide +kernel
theorem dL_text_144 : decode cL_text 144 = .ok (.invokespecial 48, 3) := by decide +kernel
theorem dL_text_147 : decode cL_text 147 = .ok (.aload_n 1, 1) := by decide +kernel
theorem dL_text_148 : decode cL_text 148 = .ok (.invokevirtual 51, 3) := by decide +kernel
theorem dL_text_151 : decode cL_text 151 = .ok (.aload_n 2, 1) := by decide +kernel
theorem dL_text_152 : decode cL_text 152 = .ok (.invokevirtual 51, 3) := by decide +kernel
theorem dL_text_155 : decode cL_text 155 = .ok (.ldc 82, 2) := by decide +kernel
theorem dL_text_157 : decode cL_text 157 = .ok (.invokevirtual 51, 3) := by decide +kernel
theorem dL_text_160 : decode cL_text 160 = .ok (.aload_n 0, 1) := by decide +kernel
theorem dL_text_161 : decode cL_text 161 = .ok (.bipush 9, 2) := by decide +kernel
theorem dL_text_163 : decode cL_text 163 = .ok (.iaload, 1) := by decide +kernel
theorem dL_text_164 : decode cL_text 164 = .ok (.invokevirtual 55, 3) := by decide +kernel
theorem dL_text_167 : decode cL_text 167 = .ok (.ldc 84, 2) := by decide +kernel
theorem dL_text_169 : decode cL_text 169 = .ok (.invokevirtual 51, 3) := by decide +kernel
theorem dL_text_172 : decode cL_text 172 = .ok (.aload_n 0, 1) := by decide +kernel
theorem dL_text_173 : decode cL_text 173 = .ok (.bipush 10, 2) := by decide +kernel
theorem dL_text_175 : decode cL_text 175 = .ok (.iaload, 1) := by decide +kernel
theorem dL_text_176 : decode cL_text 176 = .ok (.invokevirtual 55, 3) := by decide +kernel
theorem dL_text_179 : decode cL_text 179 = .ok (.ldc 86, 2) := by decide +kernel
theorem dL_text_181 : decode cL_text 181 = .ok (.invokevirtual 51, 3) := by decide +kernel
theorem dL_text_184 : decode cL_text 184 = .ok (.aload_n 0, 1) := by decide +kernel
theorem dL_text_185 : decode cL_text 185 = .ok (.bipush 11, 2) := by decide +kernel
theorem dL_text_187 : decode cL_text 187 = .ok (.iaload, 1) := by decide +kernel
theorem dL_text_188 : decode cL_text 188 = .ok (.iconst 5, 1) := by decide +kernel
theorem dL_text_189 : decode cL_text 189 = .ok (.irem, 1) := by decide +kernel
theorem dL_text_190 : decode cL_text 190 = .ok (.invokevirtual 55, 3) := by decide +kernel
theorem dL_text_193 : decode cL_text 193 = .ok (.aload_n 0, 1) := by decide +kernel
theorem dL_text_194 : decode cL_text 194 = .ok (.bipush 11, 2) := by decide +kernel
theorem dL_text_196 : decode cL_text 196 = .ok (.iaload, 1) := by decide +kernel
theorem dL_text_197 : decode cL_text 197 = .ok (.iconst 5, 1) := by decide +kernel
theorem dL_text_198 : decode cL_text 198 = .ok (.irem, 1) := by decide +kernel
theorem dL_text_199 : decode cL_text 199 = .ok (.ifCond .le 28, 3) := by decide +kernel
theorem dL_text_202 : decode cL_text 202 = .ok (.new 46, 3) := by decide +kernel
theorem dL_text_205 : decode cL_text 205 = .ok (.dup, 1) := by decide +kernel
theorem dL_text_206 : decode cL_text 206 = .ok (.invokespecial 48, 3) := by decide +kernel
theorem dL_text_209 : decode cL_text 209 = .ok (.ldc 88, 2) := by decide +kernel
theorem dL_text_211 : decode cL_text 211 = .ok (.invokevirtual 51, 3) := by decide +kernel
theorem dL_text_214 : decode cL_text 214 = .ok (.aload_n 0, 1) := by decide +kernel
theorem dL_text_215 : decode cL_text 215 = .ok (.bipush 12, 2) := by decide +kernel
theorem dL_text_217 : decode cL_text 217 = .ok (.iaload, 1) := by decide +kernel
theorem dL_text_218 : decode cL_text 218 = .ok (.invokevirtual 55, 3) := by decide +kernel
theorem dL_text_221 : decode cL_text 221 = .ok (.invokevirtual 64, 3) := by decide +kernel
theorem dL_text_224 : decode cL_text 224 = .ok (.goto 5, 3) := by decide +kernel
theorem dL_text_227 : decode cL_text 227 = .ok (.ldc 80, 2) := by decide +kernel
theorem dL_text_229 : decode cL_text 229 = .ok (.invokevirtual 51, 3) := by decide +kernel
theorem dL_text_232 : decode cL_text 232 = .ok (.ldc 90, 2) := by decide +kernel
theorem dL_text_234 : decode cL_text 234 = .ok (.invokevirtual 51, 3) := by decide +kernel
theorem dL_text_237 : decode cL_text 237 = .ok (.aload_n 0, 1) := by decide +kernel
theorem dL_text_238 : decode cL_text 238 = .ok (.bipush 13, 2) := by decide +kernel
theorem dL_text_240 : decode cL_text 240 = .ok (.iaload, 1) := by decide +kernel
theorem dL_text_241 : decode cL_text 241 = .ok (.invokevirtual 55, 3) := by decide +kernel
theorem dL_text_244 : decode cL_text 244 = .ok (.ldc 92, 2) := by decide +kernel
theorem dL_text_246 : decode cL_text 246 = .ok (.invokevirtual 51, 3) := by decide +kernel
theorem dL_text_249 : decode cL_text 249 = .ok (.aload_n 0, 1) := by decide +kernel
theorem dL_text_250 : decode cL_text 250 = .ok (.bipush 14, 2) := by decide +kernel
theorem dL_text_252 : decode cL_text 252 = .ok (.iaload, 1) := by decide +kernel
theorem dL_text_253 : decode cL_text 253 = .ok (.invokevirtual 55, 3) := by decide +kernel
theorem dL_text_256 : decode cL_text 256 = .ok (.ldc 94, 2) := by decide +kernel
theorem dL_text_258 : decode cL_text 258 = .ok (.invokevirtual 51, 3) := by decide +kernel
theorem dL_text_261 : decode cL_text 261 = .ok (.invokevirtual 64, 3) := by decide +kernel
theorem dL_text_264 : decode cL_text 264 = .ok (.areturn, 1) := by decide +kernel
set_option maxHeartbeats 400000 in
set_option maxRecDepth 100000 in
theorem c_text (l : Launch) (G : hG) (M : hM) (a tt : Nat) (g : Nat → Int32) (v : Nat → Nat) (ht : M a = some (tt, .inl (hT G 0, 15, .inl g))) (htt : tt < 5000) (hg : ∀ i, i < 15 → g i = nI (v i)) (hv : ∀ i, i < 15 → v i < 100000) : hCT l G yL_text cL_text 3 (Option.some (FieldType.object "java/lang/String")) (hRm 10 80 60000) M [.ref a] (fun v9 M' => ∃ q, v9 = some (.ref q) ∧ StL G M' q 5080 (txT v) ∧ hFr zT M M') := by
  refine hCT.of (own := RL) (nm := "text") (by decide) rfl rfl (Nat.le_of_ble_eq_true rfl) ?_
  intro p e s m args below meth c ls X Y hl
  have hx := X.1
  have hb := X.2.1
  have hl : lv_has ls 3 [(0, .ref a)] := hl
  have b8 := hv 8 (by decide)
  have b11 := hv 11 (by decide)
  have hfr : hFr zT M M := hFr.rf
  have hR0 : True := trivial
  refine tx_N (R9 := (fun _ => True)) X Y 5000 ht hR0 hfr htt ⟨by decide, by decide⟩ (fun _ _ _ z => z) hl.1 (Nat.le_of_ble_eq_true rfl) ⟨Nat.le_of_ble_eq_true rfl, Nat.le_of_ble_eq_true rfl⟩ ⟨(by show _ ≤ 80; decide), (by show _ ≤ 60000; decide)⟩ dL_text_0 dL_text_3 dL_text_4 (fun qz2 Mz1 H locs Y I5000 => ?_)
  refine h_ldcS X (hlsR_49 X.2.2.2.2.2.2.2.2.1 X.2.2.2.2.2.2.2.2.2.1) dL_text_7 ?_
  refine tx_A (K := lsT_49) X Y I5000 htt ⟨by decide, by decide⟩ (fun _ _ _ z => z) (Or.inl (hLs_49 X.2.2.2.2.2.2.2.2.1).2) (ls_hz Y (hLs_49 X.2.2.2.2.2.2.2.2.1).2) (nk := 9) (Nat.le_of_ble_eq_true rfl) (k2 := 9) rfl (by decide) hl.1 (Nat.le_of_ble_eq_true rfl) ⟨Nat.le_of_ble_eq_true rfl, Nat.le_of_ble_eq_true rfl⟩ ⟨(by show _ ≤ 80; decide), (by show _ ≤ 60000; decide)⟩ dL_text_9 (fun Mz3 H locs Y I5000 => ?_)
  refine lv_aload_n hx hb dL_text_12 rfl (lv_at hl 0 rfl) ?_
  refine lv_iconst (v := 0) hx hb dL_text_13 (by decide) ?_
  refine h_iald X Y (i := 0) I5000.ht (Nat.le_of_ble_eq_true rfl) (by decide) dL_text_14 ?_
  refine h_ev (y := nI (v 0)) (hg 0 (by decide)) ?_
  refine tx_D X Y I5000 htt ⟨by decide, by decide⟩ (fun _ _ _ z => z) (v := (v 0)) (hv 0 (by decide)) (k2 := 14) rfl (by decide) hl.1 (Nat.le_of_ble_eq_true rfl) ⟨Nat.le_of_ble_eq_true rfl, Nat.le_of_ble_eq_true rfl⟩ ⟨(by show _ ≤ 80; decide), (by show _ ≤ 60000; decide)⟩ dL_text_15 (fun Mz4 H locs Y I5000 => ?_)
  refine h_ldcS X (hlsR_58 X.2.2.2.2.2.2.2.2.1 X.2.2.2.2.2.2.2.2.2.1) dL_text_18 ?_
  refine tx_A (K := lsT_58) X Y I5000 htt ⟨by decide, by decide⟩ (fun _ _ _ z => z) (Or.inl (hLs_58 X.2.2.2.2.2.2.2.2.1).2) (ls_hz Y (hLs_58 X.2.2.2.2.2.2.2.2.1).2) (nk := 4) (Nat.le_of_ble_eq_true rfl) (k2 := 18) rfl (by decide) hl.1 (Nat.le_of_ble_eq_true rfl) ⟨Nat.le_of_ble_eq_true rfl, Nat.le_of_ble_eq_true rfl⟩ ⟨(by show _ ≤ 80; decide), (by show _ ≤ 60000; decide)⟩ dL_text_20 (fun Mz5 H locs Y I5000 => ?_)
  refine lv_aload_n hx hb dL_text_23 rfl (lv_at hl 0 rfl) ?_
  refine lv_iconst (v := 1) hx hb dL_text_24 (by decide) ?_
  refine h_iald X Y (i := 1) I5000.ht (Nat.le_of_ble_eq_true rfl) (by decide) dL_text_25 ?_
  refine h_ev (y := nI (v 1)) (hg 1 (by decide)) ?_
  refine tx_D X Y I5000 htt ⟨by decide, by decide⟩ (fun _ _ _ z => z) (v := (v 1)) (hv 1 (by decide)) (k2 := 23) rfl (by decide) hl.1 (Nat.le_of_ble_eq_true rfl) ⟨Nat.le_of_ble_eq_true rfl, Nat.le_of_ble_eq_true rfl⟩ ⟨(by show _ ≤ 80; decide), (by show _ ≤ 60000; decide)⟩ dL_text_26 (fun Mz6 H locs Y I5000 => ?_)
  refine h_ldcS X (hlsR_60 X.2.2.2.2.2.2.2.2.1 X.2.2.2.2.2.2.2.2.2.1) dL_text_29 ?_
  refine tx_A (K := lsT_60) X Y I5000 htt ⟨by decide, by decide⟩ (fun _ _ _ z => z) (Or.inl (hLs_60 X.2.2.2.2.2.2.2.2.1).2) (ls_hz Y (hLs_60 X.2.2.2.2.2.2.2.2.1).2) (nk := 7) (Nat.le_of_ble_eq_true rfl) (k2 := 30) rfl (by decide) hl.1 (Nat.le_of_ble_eq_true rfl) ⟨Nat.le_of_ble_eq_true rfl, Nat.le_of_ble_eq_true rfl⟩ ⟨(by show _ ≤ 80; decide), (by show _ ≤ 60000; decide)⟩ dL_text_31 (fun Mz7 H locs Y I5000 => ?_)
  refine lv_aload_n hx hb dL_text_34 rfl (lv_at hl 0 rfl) ?_
  refine lv_iconst (v := 2) hx hb dL_text_35 (by decide) ?_
  refine h_iald X Y (i := 2) I5000.ht (Nat.le_of_ble_eq_true rfl) (by decide) dL_text_36 ?_
  refine h_ev (y := nI (v 2)) (hg 2 (by decide)) ?_
  refine tx_D X Y I5000 htt ⟨by decide, by decide⟩ (fun _ _ _ z => z) (v := (v 2)) (hv 2 (by decide)) (k2 := 35) rfl (by decide) hl.1 (Nat.le_of_ble_eq_true rfl) ⟨Nat.le_of_ble_eq_true rfl, Nat.le_of_ble_eq_true rfl⟩ ⟨(by show _ ≤ 80; decide), (by show _ ≤ 60000; decide)⟩ dL_text_37 (fun Mz8 H locs Y I5000 => ?_)
  refine h_ldcS X (hlsR_62 X.2.2.2.2.2.2.2.2.1 X.2.2.2.2.2.2.2.2.2.1) dL_text_40 ?_
  refine tx_A (K := lsT_62) X Y I5000 htt ⟨by decide, by decide⟩ (fun _ _ _ z => z) (Or.inl (hLs_62 X.2.2.2.2.2.2.2.2.1).2) (ls_hz Y (hLs_62 X.2.2.2.2.2.2.2.2.1).2) (nk := 2) (Nat.le_of_ble_eq_true rfl) (k2 := 37) rfl (by decide) hl.1 (Nat.le_of_ble_eq_true rfl) ⟨Nat.le_of_ble_eq_true rfl, Nat.le_of_ble_eq_true rfl⟩ ⟨(by show _ ≤ 80; decide), (by show _ ≤ 60000; decide)⟩ dL_text_42 (fun Mz9 H locs Y I5000 => ?_)
  have h5010n := I5000.hn
  refine tx_T (tq := 5010) X Y I5000 htt ⟨by decide, by decide⟩ (by decide) (fun _ _ _ z => z) hl.1 (Nat.le_of_ble_eq_true rfl) ⟨Nat.le_of_ble_eq_true rfl, Nat.le_of_ble_eq_true rfl⟩ ⟨(by show _ ≤ 80; decide), (by show _ ≤ 60000; decide)⟩ dL_text_45 (fun r5010 Mz10 H locs Y ht h5010 hR0 hfr => ?_)
  refine lv_astore_n (lv' := [(1, .ref r5010), (0, .ref a)]) hx hb dL_text_48 rfl hl (by decide) rfl (fun ls hl => ?_)
  refine tx_N (R9 := (fun M9 => StL G M9 r5010 5010 (((((((([] ++ lsT_49) ++ dgs (v 0)) ++ lsT_58) ++ dgs (v 1)) ++ lsT_60) ++ dgs (v 2)) ++ lsT_62)))) X Y 5020 ht h5010 hfr htt ⟨by decide, by decide⟩ (fun _ _ f z => z.fr f ⟨by decide, by decide⟩) hl.1 (Nat.le_of_ble_eq_true rfl) ⟨Nat.le_of_ble_eq_true rfl, Nat.le_of_ble_eq_true rfl⟩ ⟨(by show _ ≤ 80; decide), (by show _ ≤ 60000; decide)⟩ dL_text_49 dL_text_52 dL_text_53 (fun qz12 Mz11 H locs Y I5020 => ?_)
  refine h_ldcS X (hlsR_68 X.2.2.2.2.2.2.2.2.1 X.2.2.2.2.2.2.2.2.2.1) dL_text_56 ?_
  refine tx_A (K := lsT_68) X Y I5020 htt ⟨by decide, by decide⟩ (fun _ _ f z => z.fr f ⟨by decide, by decide⟩) (Or.inl (hLs_68 X.2.2.2.2.2.2.2.2.1).2) (ls_hz Y (hLs_68 X.2.2.2.2.2.2.2.2.1).2) (nk := 9) (Nat.le_of_ble_eq_true rfl) (k2 := 9) rfl (by decide) hl.1 (Nat.le_of_ble_eq_true rfl) ⟨Nat.le_of_ble_eq_true rfl, Nat.le_of_ble_eq_true rfl⟩ ⟨(by show _ ≤ 80; decide), (by show _ ≤ 60000; decide)⟩ dL_text_58 (fun Mz13 H locs Y I5020 => ?_)
  refine lv_aload_n hx hb dL_text_61 rfl (lv_at hl 1 rfl) ?_
  refine lv_iconst (v := 3) hx hb dL_text_62 (by decide) ?_
  refine h_iald X Y (i := 3) I5020.ht (Nat.le_of_ble_eq_true rfl) (by decide) dL_text_63 ?_
  refine h_ev (y := nI (v 3)) (hg 3 (by decide)) ?_
  refine tx_D X Y I5020 htt ⟨by decide, by decide⟩ (fun _ _ f z => z.fr f ⟨by decide, by decide⟩) (v := (v 3)) (hv 3 (by decide)) (k2 := 14) rfl (by decide) hl.1 (Nat.le_of_ble_eq_true rfl) ⟨Nat.le_of_ble_eq_true rfl, Nat.le_of_ble_eq_true rfl⟩ ⟨(by show _ ≤ 80; decide), (by show _ ≤ 60000; decide)⟩ dL_text_64 (fun Mz14 H locs Y I5020 => ?_)
  refine h_ldcS X (hlsR_70 X.2.2.2.2.2.2.2.2.1 X.2.2.2.2.2.2.2.2.2.1) dL_text_67 ?_
  refine tx_A (K := lsT_70) X Y I5020 htt ⟨by decide, by decide⟩ (fun _ _ f z => z.fr f ⟨by decide, by decide⟩) (Or.inl (hLs_70 X.2.2.2.2.2.2.2.2.1).2) (ls_hz Y (hLs_70 X.2.2.2.2.2.2.2.2.1).2) (nk := 11) (Nat.le_of_ble_eq_true rfl) (k2 := 25) rfl (by decide) hl.1 (Nat.le_of_ble_eq_true rfl) ⟨Nat.le_of_ble_eq_true rfl, Nat.le_of_ble_eq_true rfl⟩ ⟨(by show _ ≤ 80; decide), (by show _ ≤ 60000; decide)⟩ dL_text_69 (fun Mz15 H locs Y I5020 => ?_)
  refine lv_aload_n hx hb dL_text_72 rfl (lv_at hl 1 rfl) ?_
  refine lv_iconst (v := 4) hx hb dL_text_73 (by decide) ?_
  refine h_iald X Y (i := 4) I5020.ht (Nat.le_of_ble_eq_true rfl) (by decide) dL_text_74 ?_
  refine h_ev (y := nI (v 4)) (hg 4 (by decide)) ?_
  refine tx_D X Y I5020 htt ⟨by decide, by decide⟩ (fun _ _ f z => z.fr f ⟨by decide, by decide⟩) (v := (v 4)) (hv 4 (by decide)) (k2 := 30) rfl (by decide) hl.1 (Nat.le_of_ble_eq_true rfl) ⟨Nat.le_of_ble_eq_true rfl, Nat.le_of_ble_eq_true rfl⟩ ⟨(by show _ ≤ 80; decide), (by show _ ≤ 60000; decide)⟩ dL_text_75 (fun Mz16 H locs Y I5020 => ?_)
  refine h_ldcS X (hlsR_72 X.2.2.2.2.2.2.2.2.1 X.2.2.2.2.2.2.2.2.2.1) dL_text_78 ?_
  refine tx_A (K := lsT_72) X Y I5020 htt ⟨by decide, by decide⟩ (fun _ _ f z => z.fr f ⟨by decide, by decide⟩) (Or.inl (hLs_72 X.2.2.2.2.2.2.2.2.1).2) (ls_hz Y (hLs_72 X.2.2.2.2.2.2.2.2.1).2) (nk := 3) (Nat.le_of_ble_eq_true rfl) (k2 := 33) rfl (by decide) hl.1 (Nat.le_of_ble_eq_true rfl) ⟨Nat.le_of_ble_eq_true rfl, Nat.le_of_ble_eq_true rfl⟩ ⟨(by show _ ≤ 80; decide), (by show _ ≤ 60000; decide)⟩ dL_text_80 (fun Mz17 H locs Y I5020 => ?_)
  refine lv_aload_n hx hb dL_text_83 rfl (lv_at hl 1 rfl) ?_
  refine lv_iconst (v := 5) hx hb dL_text_84 (by decide) ?_
  refine h_iald X Y (i := 5) I5020.ht (Nat.le_of_ble_eq_true rfl) (by decide) dL_text_85 ?_
  refine h_ev (y := nI (v 5)) (hg 5 (by decide)) ?_
  refine tx_D X Y I5020 htt ⟨by decide, by decide⟩ (fun _ _ f z => z.fr f ⟨by decide, by decide⟩) (v := (v 5)) (hv 5 (by decide)) (k2 := 38) rfl (by decide) hl.1 (Nat.le_of_ble_eq_true rfl) ⟨Nat.le_of_ble_eq_true rfl, Nat.le_of_ble_eq_true rfl⟩ ⟨(by show _ ≤ 80; decide), (by show _ ≤ 60000; decide)⟩ dL_text_86 (fun Mz18 H locs Y I5020 => ?_)
  refine h_ldcS X (hlsR_74 X.2.2.2.2.2.2.2.2.1 X.2.2.2.2.2.2.2.2.2.1) dL_text_89 ?_
  refine tx_A (K := lsT_74) X Y I5020 htt ⟨by decide, by decide⟩ (fun _ _ f z => z.fr f ⟨by decide, by decide⟩) (Or.inl (hLs_74 X.2.2.2.2.2.2.2.2.1).2) (ls_hz Y (hLs_74 X.2.2.2.2.2.2.2.2.1).2) (nk := 8) (Nat.le_of_ble_eq_true rfl) (k2 := 46) rfl (by decide) hl.1 (Nat.le_of_ble_eq_true rfl) ⟨Nat.le_of_ble_eq_true rfl, Nat.le_of_ble_eq_true rfl⟩ ⟨(by show _ ≤ 80; decide), (by show _ ≤ 60000; decide)⟩ dL_text_91 (fun Mz19 H locs Y I5020 => ?_)
  refine lv_aload_n hx hb dL_text_94 rfl (lv_at hl 1 rfl) ?_
  refine lv_bipush (v := 6) hx hb dL_text_95 (by decide) ?_
  refine h_iald X Y (i := 6) I5020.ht (Nat.le_of_ble_eq_true rfl) (by decide) dL_text_97 ?_
  refine h_ev (y := nI (v 6)) (hg 6 (by decide)) ?_
  refine tx_D X Y I5020 htt ⟨by decide, by decide⟩ (fun _ _ f z => z.fr f ⟨by decide, by decide⟩) (v := (v 6)) (hv 6 (by decide)) (k2 := 51) rfl (by decide) hl.1 (Nat.le_of_ble_eq_true rfl) ⟨Nat.le_of_ble_eq_true rfl, Nat.le_of_ble_eq_true rfl⟩ ⟨(by show _ ≤ 80; decide), (by show _ ≤ 60000; decide)⟩ dL_text_98 (fun Mz20 H locs Y I5020 => ?_)
  refine h_ldcS X (hlsR_76 X.2.2.2.2.2.2.2.2.1 X.2.2.2.2.2.2.2.2.2.1) dL_text_101 ?_
  refine tx_A (K := lsT_76) X Y I5020 htt ⟨by decide, by decide⟩ (fun _ _ f z => z.fr f ⟨by decide, by decide⟩) (Or.inl (hLs_76 X.2.2.2.2.2.2.2.2.1).2) (ls_hz Y (hLs_76 X.2.2.2.2.2.2.2.2.1).2) (nk := 7) (Nat.le_of_ble_eq_true rfl) (k2 := 58) rfl (by decide) hl.1 (Nat.le_of_ble_eq_true rfl) ⟨Nat.le_of_ble_eq_true rfl, Nat.le_of_ble_eq_true rfl⟩ ⟨(by show _ ≤ 80; decide), (by show _ ≤ 60000; decide)⟩ dL_text_103 (fun Mz21 H locs Y I5020 => ?_)
  refine lv_aload_n hx hb dL_text_106 rfl (lv_at hl 1 rfl) ?_
  refine lv_bipush (v := 7) hx hb dL_text_107 (by decide) ?_
  refine h_iald X Y (i := 7) I5020.ht (Nat.le_of_ble_eq_true rfl) (by decide) dL_text_109 ?_
  refine h_ev (y := nI (v 7)) (hg 7 (by decide)) ?_
  refine tx_D X Y I5020 htt ⟨by decide, by decide⟩ (fun _ _ f z => z.fr f ⟨by decide, by decide⟩) (v := (v 7)) (hv 7 (by decide)) (k2 := 63) rfl (by decide) hl.1 (Nat.le_of_ble_eq_true rfl) ⟨Nat.le_of_ble_eq_true rfl, Nat.le_of_ble_eq_true rfl⟩ ⟨(by show _ ≤ 80; decide), (by show _ ≤ 60000; decide)⟩ dL_text_110 (fun Mz22 H locs Y I5020 => ?_)
  refine lv_aload_n hx hb dL_text_113 rfl (lv_at hl 1 rfl) ?_
  refine lv_bipush (v := 8) hx hb dL_text_114 (by decide) ?_
  refine h_iald X Y (i := 8) I5020.ht (Nat.le_of_ble_eq_true rfl) (by decide) dL_text_116 ?_
  refine h_ev (y := nI (v 8)) (hg 8 (by decide)) ?_
  refine lv_iconst (v := 1) hx hb dL_text_117 (by decide) ?_
  refine lv_icmp_ne (tgt := 126) hx hb dL_text_118 (by decide) (fun c118 => ?_) (fun c118 => ?_)
  · have c118 : ¬ (v 8) = 1 := fun z9 => c118 ((nI_eq (a := (v 8)) (b := 1) (by omega) (by omega)).mpr z9)
    refine h_ldcS X (hlsR_80 X.2.2.2.2.2.2.2.2.1 X.2.2.2.2.2.2.2.2.2.1) dL_text_126 ?_
    refine tx_A (K := lsT_80) X Y I5020 htt ⟨by decide, by decide⟩ (fun _ _ f z => z.fr f ⟨by decide, by decide⟩) (Or.inl (hLs_80 X.2.2.2.2.2.2.2.2.1).2) (ls_hz Y (hLs_80 X.2.2.2.2.2.2.2.2.1).2) (nk := 0) (Nat.le_of_ble_eq_true rfl) (k2 := 63) rfl (by decide) hl.1 (Nat.le_of_ble_eq_true rfl) ⟨Nat.le_of_ble_eq_true rfl, Nat.le_of_ble_eq_true rfl⟩ ⟨(by show _ ≤ 80; decide), (by show _ ≤ 60000; decide)⟩ dL_text_128 (fun Mz23 H locs Y I5020 => ?_)
    refine h_ldcS X (hlsR_62 X.2.2.2.2.2.2.2.2.1 X.2.2.2.2.2.2.2.2.2.1) dL_text_131 ?_
    refine tx_A (K := lsT_62) X Y I5020 htt ⟨by decide, by decide⟩ (fun _ _ f z => z.fr f ⟨by decide, by decide⟩) (Or.inl (hLs_62 X.2.2.2.2.2.2.2.2.1).2) (ls_hz Y (hLs_62 X.2.2.2.2.2.2.2.2.1).2) (nk := 2) (Nat.le_of_ble_eq_true rfl) (k2 := 65) rfl (by decide) hl.1 (Nat.le_of_ble_eq_true rfl) ⟨Nat.le_of_ble_eq_true rfl, Nat.le_of_ble_eq_true rfl⟩ ⟨(by show _ ≤ 80; decide), (by show _ ≤ 60000; decide)⟩ dL_text_133 (fun Mz24 H locs Y I5020 => ?_)
    have h5030n := I5020.hn
    refine tx_T (tq := 5030) X Y I5020 htt ⟨by decide, by decide⟩ (by decide) (fun _ _ f z => z.fr f ⟨by decide, by decide⟩) hl.1 (Nat.le_of_ble_eq_true rfl) ⟨Nat.le_of_ble_eq_true rfl, Nat.le_of_ble_eq_true rfl⟩ ⟨(by show _ ≤ 80; decide), (by show _ ≤ 60000; decide)⟩ dL_text_136 (fun r5030 Mz25 H locs Y ht h5030 hR9 hfr => ?_)
    have h5010 := hR9
    refine lv_astore_n (lv' := [(2, .ref r5030), (1, .ref r5010), (0, .ref a)]) hx hb dL_text_139 rfl hl (by decide) rfl (fun ls hl => ?_)
    refine tx_N (R9 := (fun M9 => StL G M9 r5010 5010 (((((((([] ++ lsT_49) ++ dgs (v 0)) ++ lsT_58) ++ dgs (v 1)) ++ lsT_60) ++ dgs (v 2)) ++ lsT_62)) ∧ StL G M9 r5030 5030 ((((((((((((([] ++ lsT_68) ++ dgs (v 3)) ++ lsT_70) ++ dgs (v 4)) ++ lsT_72) ++ dgs (v 5)) ++ lsT_74) ++ dgs (v 6)) ++ lsT_76) ++ dgs (v 7)) ++ lsT_80) ++ lsT_62)))) X Y 5040 ht ⟨h5010, h5030⟩ hfr htt ⟨by decide, by decide⟩ (fun _ _ f z => ⟨z.1.fr f ⟨by decide, by decide⟩, z.2.fr f ⟨by decide, by decide⟩⟩) hl.1 (Nat.le_of_ble_eq_true rfl) ⟨Nat.le_of_ble_eq_true rfl, Nat.le_of_ble_eq_true rfl⟩ ⟨(by show _ ≤ 80; decide), (by show _ ≤ 60000; decide)⟩ dL_text_140 dL_text_143 dL_text_144 (fun qz27 Mz26 H locs Y I5040 => ?_)
    refine lv_aload_n hx hb dL_text_147 rfl (lv_at hl 1 rfl) ?_
    refine tx_A (K := ((((((([] ++ lsT_49) ++ dgs (v 0)) ++ lsT_58) ++ dgs (v 1)) ++ lsT_60) ++ dgs (v 2)) ++ lsT_62)) X Y I5040 htt ⟨by decide, by decide⟩ (fun _ _ f z => ⟨z.1.fr f ⟨by decide, by decide⟩, z.2.fr f ⟨by decide, by decide⟩⟩) (Or.inr I5040.hR.1.m) (st_hz I5040.hR.1 (by decide)) (nk := 37) h5010n (k2 := 37) rfl (by decide) hl.1 (Nat.le_of_ble_eq_true rfl) ⟨Nat.le_of_ble_eq_true rfl, Nat.le_of_ble_eq_true rfl⟩ ⟨(by show _ ≤ 80; decide), (by show _ ≤ 60000; decide)⟩ dL_text_148 (fun Mz28 H locs Y I5040 => ?_)
    refine lv_aload_n hx hb dL_text_151 rfl (lv_at hl 0 rfl) ?_
    refine tx_A (K := (((((((((((([] ++ lsT_68) ++ dgs (v 3)) ++ lsT_70) ++ dgs (v 4)) ++ lsT_72) ++ dgs (v 5)) ++ lsT_74) ++ dgs (v 6)) ++ lsT_76) ++ dgs (v 7)) ++ lsT_80) ++ lsT_62)) X Y I5040 htt ⟨by decide, by decide⟩ (fun _ _ f z => ⟨z.1.fr f ⟨by decide, by decide⟩, z.2.fr f ⟨by decide, by decide⟩⟩) (Or.inr I5040.hR.2.m) (st_hz I5040.hR.2 (by decide)) (nk := 65) h5030n (k2 := 102) rfl (by decide) hl.1 (Nat.le_of_ble_eq_true rfl) ⟨Nat.le_of_ble_eq_true rfl, Nat.le_of_ble_eq_true rfl⟩ ⟨(by show _ ≤ 80; decide), (by show _ ≤ 60000; decide)⟩ dL_text_152 (fun Mz29 H locs Y I5040 => ?_)
    refine h_ldcS X (hlsR_82 X.2.2.2.2.2.2.2.2.1 X.2.2.2.2.2.2.2.2.2.1) dL_text_155 ?_
    refine tx_A (K := lsT_82) X Y I5040 htt ⟨by decide, by decide⟩ (fun _ _ f z => ⟨z.1.fr f ⟨by decide, by decide⟩, z.2.fr f ⟨by decide, by decide⟩⟩) (Or.inl (hLs_82 X.2.2.2.2.2.2.2.2.1).2) (ls_hz Y (hLs_82 X.2.2.2.2.2.2.2.2.1).2) (nk := 9) (Nat.le_of_ble_eq_true rfl) (k2 := 111) rfl (by decide) hl.1 (Nat.le_of_ble_eq_true rfl) ⟨Nat.le_of_ble_eq_true rfl, Nat.le_of_ble_eq_true rfl⟩ ⟨(by show _ ≤ 80; decide), (by show _ ≤ 60000; decide)⟩ dL_text_157 (fun Mz30 H locs Y I5040 => ?_)
    refine lv_aload_n hx hb dL_text_160 rfl (lv_at hl 2 rfl) ?_
    refine lv_bipush (v := 9) hx hb dL_text_161 (by decide) ?_
    refine h_iald X Y (i := 9) I5040.ht (Nat.le_of_ble_eq_true rfl) (by decide) dL_text_163 ?_
    refine h_ev (y := nI (v 9)) (hg 9 (by decide)) ?_
    refine tx_D X Y I5040 htt ⟨by decide, by decide⟩ (fun _ _ f z => ⟨z.1.fr f ⟨by decide, by decide⟩, z.2.fr f ⟨by decide, by decide⟩⟩) (v := (v 9)) (hv 9 (by decide)) (k2 := 116) rfl (by decide) hl.1 (Nat.le_of_ble_eq_true rfl) ⟨Nat.le_of_ble_eq_true rfl, Nat.le_of_ble_eq_true rfl⟩ ⟨(by show _ ≤ 80; decide), (by show _ ≤ 60000; decide)⟩ dL_text_164 (fun Mz31 H locs Y I5040 => ?_)
    refine h_ldcS X (hlsR_84 X.2.2.2.2.2.2.2.2.1 X.2.2.2.2.2.2.2.2.2.1) dL_text_167 ?_
    refine tx_A (K := lsT_84) X Y I5040 htt ⟨by decide, by decide⟩ (fun _ _ f z => ⟨z.1.fr f ⟨by decide, by decide⟩, z.2.fr f ⟨by decide, by decide⟩⟩) (Or.inl (hLs_84 X.2.2.2.2.2.2.2.2.1).2) (ls_hz Y (hLs_84 X.2.2.2.2.2.2.2.2.1).2) (nk := 16) (Nat.le_of_ble_eq_true rfl) (k2 := 132) rfl (by decide) hl.1 (Nat.le_of_ble_eq_true rfl) ⟨Nat.le_of_ble_eq_true rfl, Nat.le_of_ble_eq_true rfl⟩ ⟨(by show _ ≤ 80; decide), (by show _ ≤ 60000; decide)⟩ dL_text_169 (fun Mz32 H locs Y I5040 => ?_)
    refine lv_aload_n hx hb dL_text_172 rfl (lv_at hl 2 rfl) ?_
    refine lv_bipush (v := 10) hx hb dL_text_173 (by decide) ?_
    refine h_iald X Y (i := 10) I5040.ht (Nat.le_of_ble_eq_true rfl) (by decide) dL_text_175 ?_
    refine h_ev (y := nI (v 10)) (hg 10 (by decide)) ?_
    refine tx_D X Y I5040 htt ⟨by decide, by decide⟩ (fun _ _ f z => ⟨z.1.fr f ⟨by decide, by decide⟩, z.2.fr f ⟨by decide, by decide⟩⟩) (v := (v 10)) (hv 10 (by decide)) (k2 := 137) rfl (by decide) hl.1 (Nat.le_of_ble_eq_true rfl) ⟨Nat.le_of_ble_eq_true rfl, Nat.le_of_ble_eq_true rfl⟩ ⟨(by show _ ≤ 80; decide), (by show _ ≤ 60000; decide)⟩ dL_text_176 (fun Mz33 H locs Y I5040 => ?_)
    refine h_ldcS X (hlsR_86 X.2.2.2.2.2.2.2.2.1 X.2.2.2.2.2.2.2.2.2.1) dL_text_179 ?_
    refine tx_A (K := lsT_86) X Y I5040 htt ⟨by decide, by decide⟩ (fun _ _ f z => ⟨z.1.fr f ⟨by decide, by decide⟩, z.2.fr f ⟨by decide, by decide⟩⟩) (Or.inl (hLs_86 X.2.2.2.2.2.2.2.2.1).2) (ls_hz Y (hLs_86 X.2.2.2.2.2.2.2.2.1).2) (nk := 11) (Nat.le_of_ble_eq_true rfl) (k2 := 148) rfl (by decide) hl.1 (Nat.le_of_ble_eq_true rfl) ⟨Nat.le_of_ble_eq_true rfl, Nat.le_of_ble_eq_true rfl⟩ ⟨(by show _ ≤ 80; decide), (by show _ ≤ 60000; decide)⟩ dL_text_181 (fun Mz34 H locs Y I5040 => ?_)
    refine lv_aload_n hx hb dL_text_184 rfl (lv_at hl 2 rfl) ?_
    refine lv_bipush (v := 11) hx hb dL_text_185 (by decide) ?_
    refine h_iald X Y (i := 11) I5040.ht (Nat.le_of_ble_eq_true rfl) (by decide) dL_text_187 ?_
    refine h_ev (y := nI (v 11)) (hg 11 (by decide)) ?_
    refine lv_iconst (v := 5) hx hb dL_text_188 (by decide) ?_
    refine lv_irem hx hb dL_text_189 (by decide) ?_
    refine h_ev (y := nI (v 11 % 5)) (pk_rem (a := v 11) (d := 5) (by omega) (by omega) (by omega)) ?_
    refine tx_D X Y I5040 htt ⟨by decide, by decide⟩ (fun _ _ f z => ⟨z.1.fr f ⟨by decide, by decide⟩, z.2.fr f ⟨by decide, by decide⟩⟩) (v := (v 11 % 5)) (by omega) (k2 := 153) rfl (by decide) hl.1 (Nat.le_of_ble_eq_true rfl) ⟨Nat.le_of_ble_eq_true rfl, Nat.le_of_ble_eq_true rfl⟩ ⟨(by show _ ≤ 80; decide), (by show _ ≤ 60000; decide)⟩ dL_text_190 (fun Mz35 H locs Y I5040 => ?_)
    refine lv_aload_n hx hb dL_text_193 rfl (lv_at hl 2 rfl) ?_
    refine lv_bipush (v := 11) hx hb dL_text_194 (by decide) ?_
    refine h_iald X Y (i := 11) I5040.ht (Nat.le_of_ble_eq_true rfl) (by decide) dL_text_196 ?_
    refine h_ev (y := nI (v 11)) (hg 11 (by decide)) ?_
    refine lv_iconst (v := 5) hx hb dL_text_197 (by decide) ?_
    refine lv_irem hx hb dL_text_198 (by decide) ?_
    refine h_ev (y := nI (v 11 % 5)) (pk_rem (a := v 11) (d := 5) (by omega) (by omega) (by omega)) ?_
    refine lv_if_le (tgt := 227) hx hb dL_text_199 (by decide) (fun c199 => ?_) (fun c199 => ?_)
    · have c199 : (v 11 % 5) ≤ 0 := (nI_leI (a := (v 11 % 5)) (b := 0) (by omega) (by omega)).mp c199
      refine h_ldcS X (hlsR_80 X.2.2.2.2.2.2.2.2.1 X.2.2.2.2.2.2.2.2.2.1) dL_text_227 ?_
      refine tx_A (K := lsT_80) X Y I5040 htt ⟨by decide, by decide⟩ (fun _ _ f z => ⟨z.1.fr f ⟨by decide, by decide⟩, z.2.fr f ⟨by decide, by decide⟩⟩) (Or.inl (hLs_80 X.2.2.2.2.2.2.2.2.1).2) (ls_hz Y (hLs_80 X.2.2.2.2.2.2.2.2.1).2) (nk := 0) (Nat.le_of_ble_eq_true rfl) (k2 := 153) rfl (by decide) hl.1 (Nat.le_of_ble_eq_true rfl) ⟨Nat.le_of_ble_eq_true rfl, Nat.le_of_ble_eq_true rfl⟩ ⟨(by show _ ≤ 80; decide), (by show _ ≤ 60000; decide)⟩ dL_text_229 (fun Mz36 H locs Y I5040 => ?_)
      refine h_ldcS X (hlsR_90 X.2.2.2.2.2.2.2.2.1 X.2.2.2.2.2.2.2.2.2.1) dL_text_232 ?_
      refine tx_A (K := lsT_90) X Y I5040 htt ⟨by decide, by decide⟩ (fun _ _ f z => ⟨z.1.fr f ⟨by decide, by decide⟩, z.2.fr f ⟨by decide, by decide⟩⟩) (Or.inl (hLs_90 X.2.2.2.2.2.2.2.2.1).2) (ls_hz Y (hLs_90 X.2.2.2.2.2.2.2.2.1).2) (nk := 30) (Nat.le_of_ble_eq_true rfl) (k2 := 183) rfl (by decide) hl.1 (Nat.le_of_ble_eq_true rfl) ⟨Nat.le_of_ble_eq_true rfl, Nat.le_of_ble_eq_true rfl⟩ ⟨(by show _ ≤ 80; decide), (by show _ ≤ 60000; decide)⟩ dL_text_234 (fun Mz37 H locs Y I5040 => ?_)
      refine lv_aload_n hx hb dL_text_237 rfl (lv_at hl 2 rfl) ?_
      refine lv_bipush (v := 13) hx hb dL_text_238 (by decide) ?_
      refine h_iald X Y (i := 13) I5040.ht (Nat.le_of_ble_eq_true rfl) (by decide) dL_text_240 ?_
      refine h_ev (y := nI (v 13)) (hg 13 (by decide)) ?_
      refine tx_D X Y I5040 htt ⟨by decide, by decide⟩ (fun _ _ f z => ⟨z.1.fr f ⟨by decide, by decide⟩, z.2.fr f ⟨by decide, by decide⟩⟩) (v := (v 13)) (hv 13 (by decide)) (k2 := 188) rfl (by decide) hl.1 (Nat.le_of_ble_eq_true rfl) ⟨Nat.le_of_ble_eq_true rfl, Nat.le_of_ble_eq_true rfl⟩ ⟨(by show _ ≤ 80; decide), (by show _ ≤ 60000; decide)⟩ dL_text_241 (fun Mz38 H locs Y I5040 => ?_)
      refine h_ldcS X (hlsR_92 X.2.2.2.2.2.2.2.2.1 X.2.2.2.2.2.2.2.2.2.1) dL_text_244 ?_
      refine tx_A (K := lsT_92) X Y I5040 htt ⟨by decide, by decide⟩ (fun _ _ f z => ⟨z.1.fr f ⟨by decide, by decide⟩, z.2.fr f ⟨by decide, by decide⟩⟩) (Or.inl (hLs_92 X.2.2.2.2.2.2.2.2.1).2) (ls_hz Y (hLs_92 X.2.2.2.2.2.2.2.2.1).2) (nk := 15) (Nat.le_of_ble_eq_true rfl) (k2 := 203) rfl (by decide) hl.1 (Nat.le_of_ble_eq_true rfl) ⟨Nat.le_of_ble_eq_true rfl, Nat.le_of_ble_eq_true rfl⟩ ⟨(by show _ ≤ 80; decide), (by show _ ≤ 60000; decide)⟩ dL_text_246 (fun Mz39 H locs Y I5040 => ?_)
      refine lv_aload_n hx hb dL_text_249 rfl (lv_at hl 2 rfl) ?_
      refine lv_bipush (v := 14) hx hb dL_text_250 (by decide) ?_
      refine h_iald X Y (i := 14) I5040.ht (Nat.le_of_ble_eq_true rfl) (by decide) dL_text_252 ?_
      refine h_ev (y := nI (v 14)) (hg 14 (by decide)) ?_
      refine tx_D X Y I5040 htt ⟨by decide, by decide⟩ (fun _ _ f z => ⟨z.1.fr f ⟨by decide, by decide⟩, z.2.fr f ⟨by decide, by decide⟩⟩) (v := (v 14)) (hv 14 (by decide)) (k2 := 208) rfl (by decide) hl.1 (Nat.le_of_ble_eq_true rfl) ⟨Nat.le_of_ble_eq_true rfl, Nat.le_of_ble_eq_true rfl⟩ ⟨(by show _ ≤ 80; decide), (by show _ ≤ 60000; decide)⟩ dL_text_253 (fun Mz40 H locs Y I5040 => ?_)
      refine h_ldcS X (hlsR_94 X.2.2.2.2.2.2.2.2.1 X.2.2.2.2.2.2.2.2.2.1) dL_text_256 ?_
      refine tx_A (K := lsT_94) X Y I5040 htt ⟨by decide, by decide⟩ (fun _ _ f z => ⟨z.1.fr f ⟨by decide, by decide⟩, z.2.fr f ⟨by decide, by decide⟩⟩) (Or.inl (hLs_94 X.2.2.2.2.2.2.2.2.1).2) (ls_hz Y (hLs_94 X.2.2.2.2.2.2.2.2.1).2) (nk := 1) (Nat.le_of_ble_eq_true rfl) (k2 := 209) rfl (by decide) hl.1 (Nat.le_of_ble_eq_true rfl) ⟨Nat.le_of_ble_eq_true rfl, Nat.le_of_ble_eq_true rfl⟩ ⟨(by show _ ≤ 80; decide), (by show _ ≤ 60000; decide)⟩ dL_text_258 (fun Mz41 H locs Y I5040 => ?_)
      have h5080n := I5040.hn
      refine tx_T (tq := 5080) X Y I5040 htt ⟨by decide, by decide⟩ (by decide) (fun _ _ f z => ⟨z.1.fr f ⟨by decide, by decide⟩, z.2.fr f ⟨by decide, by decide⟩⟩) hl.1 (Nat.le_of_ble_eq_true rfl) ⟨Nat.le_of_ble_eq_true rfl, Nat.le_of_ble_eq_true rfl⟩ ⟨(by show _ ≤ 80; decide), (by show _ ≤ 60000; decide)⟩ dL_text_261 (fun r5080 Mz42 H locs Y ht h5080 hR0 hfr => ?_)
      have hfin : (((((((((((((([] ++ ((((((([] ++ lsT_49) ++ dgs (v 0)) ++ lsT_58) ++ dgs (v 1)) ++ lsT_60) ++ dgs (v 2)) ++ lsT_62)) ++ (((((((((((([] ++ lsT_68) ++ dgs (v 3)) ++ lsT_70) ++ dgs (v 4)) ++ lsT_72) ++ dgs (v 5)) ++ lsT_74) ++ dgs (v 6)) ++ lsT_76) ++ dgs (v 7)) ++ lsT_80) ++ lsT_62)) ++ lsT_82) ++ dgs (v 9)) ++ lsT_84) ++ dgs (v 10)) ++ lsT_86) ++ dgs (v 11 % 5)) ++ lsT_80) ++ lsT_90) ++ dgs (v 13)) ++ lsT_92) ++ dgs (v 14)) ++ lsT_94) = txT v := by rw [txT, txA, txB, if_neg c118, if_pos (show v 11 % 5 = 0 by omega)]
      rw [hfin] at h5080
      exact h_aret (v := some r5080) X Y (Or.inl ⟨_, rfl⟩) ⟨r5080, rfl, h5080, hfr⟩ (by show _ ≤ 80; decide) (by show _ ≤ 60000; decide) dL_text_264
    · have c199 : ¬ (v 11 % 5) ≤ 0 := fun z9 => c199 ((nI_leI (a := (v 11 % 5)) (b := 0) (by omega) (by omega)).mpr z9)
      have hst9 : ∀ t9, (t9 = 5060 ∨ t9 = 5070) → ∀ M1 M2, hFr (fun u => u = t9 ∨ u = t9 + 1) M1 M2 → TxI G M M1 a tt g qz27 5040 153 ((((((((([] ++ ((((((([] ++ lsT_49) ++ dgs (v 0)) ++ lsT_58) ++ dgs (v 1)) ++ lsT_60) ++ dgs (v 2)) ++ lsT_62)) ++ (((((((((((([] ++ lsT_68) ++ dgs (v 3)) ++ lsT_70) ++ dgs (v 4)) ++ lsT_72) ++ dgs (v 5)) ++ lsT_74) ++ dgs (v 6)) ++ lsT_76) ++ dgs (v 7)) ++ lsT_80) ++ lsT_62)) ++ lsT_82) ++ dgs (v 9)) ++ lsT_84) ++ dgs (v 10)) ++ lsT_86) ++ dgs (v 11 % 5))) (fun M9 => StL G M9 r5010 5010 (((((((([] ++ lsT_49) ++ dgs (v 0)) ++ lsT_58) ++ dgs (v 1)) ++ lsT_60) ++ dgs (v 2)) ++ lsT_62)) ∧ StL G M9 r5030 5030 ((((((((((((([] ++ lsT_68) ++ dgs (v 3)) ++ lsT_70) ++ dgs (v 4)) ++ lsT_72) ++ dgs (v 5)) ++ lsT_74) ++ dgs (v 6)) ++ lsT_76) ++ dgs (v 7)) ++ lsT_80) ++ lsT_62))) → TxI G M M2 a tt g qz27 5040 153 ((((((((([] ++ ((((((([] ++ lsT_49) ++ dgs (v 0)) ++ lsT_58) ++ dgs (v 1)) ++ lsT_60) ++ dgs (v 2)) ++ lsT_62)) ++ (((((((((((([] ++ lsT_68) ++ dgs (v 3)) ++ lsT_70) ++ dgs (v 4)) ++ lsT_72) ++ dgs (v 5)) ++ lsT_74) ++ dgs (v 6)) ++ lsT_76) ++ dgs (v 7)) ++ lsT_80) ++ lsT_62)) ++ lsT_82) ++ dgs (v 9)) ++ lsT_84) ++ dgs (v 10)) ++ lsT_86) ++ dgs (v 11 % 5))) (fun M9 => StL G M9 r5010 5010 (((((((([] ++ lsT_49) ++ dgs (v 0)) ++ lsT_58) ++ dgs (v 1)) ++ lsT_60) ++ dgs (v 2)) ++ lsT_62)) ∧ StL G M9 r5030 5030 ((((((((((((([] ++ lsT_68) ++ dgs (v 3)) ++ lsT_70) ++ dgs (v 4)) ++ lsT_72) ++ dgs (v 5)) ++ lsT_74) ++ dgs (v 6)) ++ lsT_76) ++ dgs (v 7)) ++ lsT_80) ++ lsT_62))) := fun t9 h9 M1 M2 f z => ⟨f _ _ _ z.ht (by omega), z.hb.fr f ⟨by omega, by omega⟩, z.hn, ⟨z.hR.1.fr f ⟨by omega, by omega⟩, z.hR.2.fr f ⟨by omega, by omega⟩⟩, hFr.tr z.hf (f.mono (fun u z9 => by unfold zT; omega))⟩
      have ht := I5040.ht
      have hfr := I5040.hf
      refine tx_N (R9 := (fun M9 => TxI G M M9 a tt g qz27 5040 153 ((((((((([] ++ ((((((([] ++ lsT_49) ++ dgs (v 0)) ++ lsT_58) ++ dgs (v 1)) ++ lsT_60) ++ dgs (v 2)) ++ lsT_62)) ++ (((((((((((([] ++ lsT_68) ++ dgs (v 3)) ++ lsT_70) ++ dgs (v 4)) ++ lsT_72) ++ dgs (v 5)) ++ lsT_74) ++ dgs (v 6)) ++ lsT_76) ++ dgs (v 7)) ++ lsT_80) ++ lsT_62)) ++ lsT_82) ++ dgs (v 9)) ++ lsT_84) ++ dgs (v 10)) ++ lsT_86) ++ dgs (v 11 % 5))) (fun M9 => StL G M9 r5010 5010 (((((((([] ++ lsT_49) ++ dgs (v 0)) ++ lsT_58) ++ dgs (v 1)) ++ lsT_60) ++ dgs (v 2)) ++ lsT_62)) ∧ StL G M9 r5030 5030 ((((((((((((([] ++ lsT_68) ++ dgs (v 3)) ++ lsT_70) ++ dgs (v 4)) ++ lsT_72) ++ dgs (v 5)) ++ lsT_74) ++ dgs (v 6)) ++ lsT_76) ++ dgs (v 7)) ++ lsT_80) ++ lsT_62))))) X Y 5060 ht I5040 hfr htt ⟨by decide, by decide⟩ (hst9 _ (by decide)) hl.1 (Nat.le_of_ble_eq_true rfl) ⟨Nat.le_of_ble_eq_true rfl, Nat.le_of_ble_eq_true rfl⟩ ⟨(by show _ ≤ 80; decide), (by show _ ≤ 60000; decide)⟩ dL_text_202 dL_text_205 dL_text_206 (fun qz44 Mz43 H locs Y I5060 => ?_)
      refine h_ldcS X (hlsR_88 X.2.2.2.2.2.2.2.2.1 X.2.2.2.2.2.2.2.2.2.1) dL_text_209 ?_
      refine tx_A (K := lsT_88) X Y I5060 htt ⟨by decide, by decide⟩ (hst9 _ (by decide)) (Or.inl (hLs_88 X.2.2.2.2.2.2.2.2.1).2) (ls_hz Y (hLs_88 X.2.2.2.2.2.2.2.2.1).2) (nk := 4) (Nat.le_of_ble_eq_true rfl) (k2 := 4) rfl (by decide) hl.1 (Nat.le_of_ble_eq_true rfl) ⟨Nat.le_of_ble_eq_true rfl, Nat.le_of_ble_eq_true rfl⟩ ⟨(by show _ ≤ 80; decide), (by show _ ≤ 60000; decide)⟩ dL_text_211 (fun Mz45 H locs Y I5060 => ?_)
      refine lv_aload_n hx hb dL_text_214 rfl (lv_at hl 2 rfl) ?_
      refine lv_bipush (v := 12) hx hb dL_text_215 (by decide) ?_
      refine h_iald X Y (i := 12) I5060.ht (Nat.le_of_ble_eq_true rfl) (by decide) dL_text_217 ?_
      refine h_ev (y := nI (v 12)) (hg 12 (by decide)) ?_
      refine tx_D X Y I5060 htt ⟨by decide, by decide⟩ (hst9 _ (by decide)) (v := (v 12)) (hv 12 (by decide)) (k2 := 9) rfl (by decide) hl.1 (Nat.le_of_ble_eq_true rfl) ⟨Nat.le_of_ble_eq_true rfl, Nat.le_of_ble_eq_true rfl⟩ ⟨(by show _ ≤ 80; decide), (by show _ ≤ 60000; decide)⟩ dL_text_218 (fun Mz46 H locs Y I5060 => ?_)
      have h5070n := I5060.hn
      refine tx_T (tq := 5070) X Y I5060 htt ⟨by decide, by decide⟩ (by decide) (hst9 _ (by decide)) hl.1 (Nat.le_of_ble_eq_true rfl) ⟨Nat.le_of_ble_eq_true rfl, Nat.le_of_ble_eq_true rfl⟩ ⟨(by show _ ≤ 80; decide), (by show _ ≤ 60000; decide)⟩ dL_text_221 (fun r5070 Mz47 H locs Y ht h5070 I5040 hfr => ?_)
      refine lv_goto (tgt := 229) hx hb dL_text_224 (by decide) ?_
      refine tx_A (K := (([] ++ lsT_88) ++ dgs (v 12))) X Y I5040 htt ⟨by decide, by decide⟩ (fun _ _ f z => ⟨z.1.fr f ⟨by decide, by decide⟩, z.2.fr f ⟨by decide, by decide⟩⟩) (Or.inr h5070.m) (st_hz h5070 (by decide)) (nk := 9) h5070n (k2 := 162) rfl (by decide) hl.1 (Nat.le_of_ble_eq_true rfl) ⟨Nat.le_of_ble_eq_true rfl, Nat.le_of_ble_eq_true rfl⟩ ⟨(by show _ ≤ 80; decide), (by show _ ≤ 60000; decide)⟩ dL_text_229 (fun Mz48 H locs Y I5040 => ?_)
      refine h_ldcS X (hlsR_90 X.2.2.2.2.2.2.2.2.1 X.2.2.2.2.2.2.2.2.2.1) dL_text_232 ?_
      refine tx_A (K := lsT_90) X Y I5040 htt ⟨by decide, by decide⟩ (fun _ _ f z => ⟨z.1.fr f ⟨by decide, by decide⟩, z.2.fr f ⟨by decide, by decide⟩⟩) (Or.inl (hLs_90 X.2.2.2.2.2.2.2.2.1).2) (ls_hz Y (hLs_90 X.2.2.2.2.2.2.2.2.1).2) (nk := 30) (Nat.le_of_ble_eq_true rfl) (k2 := 192) rfl (by decide) hl.1 (Nat.le_of_ble_eq_true rfl) ⟨Nat.le_of_ble_eq_true rfl, Nat.le_of_ble_eq_true rfl⟩ ⟨(by show _ ≤ 80; decide), (by show _ ≤ 60000; decide)⟩ dL_text_234 (fun Mz49 H locs Y I5040 => ?_)
      refine lv_aload_n hx hb dL_text_237 rfl (lv_at hl 2 rfl) ?_
      refine lv_bipush (v := 13) hx hb dL_text_238 (by decide) ?_
      refine h_iald X Y (i := 13) I5040.ht (Nat.le_of_ble_eq_true rfl) (by decide) dL_text_240 ?_
      refine h_ev (y := nI (v 13)) (hg 13 (by decide)) ?_
      refine tx_D X Y I5040 htt ⟨by decide, by decide⟩ (fun _ _ f z => ⟨z.1.fr f ⟨by decide, by decide⟩, z.2.fr f ⟨by decide, by decide⟩⟩) (v := (v 13)) (hv 13 (by decide)) (k2 := 197) rfl (by decide) hl.1 (Nat.le_of_ble_eq_true rfl) ⟨Nat.le_of_ble_eq_true rfl, Nat.le_of_ble_eq_true rfl⟩ ⟨(by show _ ≤ 80; decide), (by show _ ≤ 60000; decide)⟩ dL_text_241 (fun Mz50 H locs Y I5040 => ?_)
      refine h_ldcS X (hlsR_92 X.2.2.2.2.2.2.2.2.1 X.2.2.2.2.2.2.2.2.2.1) dL_text_244 ?_
      refine tx_A (K := lsT_92) X Y I5040 htt ⟨by decide, by decide⟩ (fun _ _ f z => ⟨z.1.fr f ⟨by decide, by decide⟩, z.2.fr f ⟨by decide, by decide⟩⟩) (Or.inl (hLs_92 X.2.2.2.2.2.2.2.2.1).2) (ls_hz Y (hLs_92 X.2.2.2.2.2.2.2.2.1).2) (nk := 15) (Nat.le_of_ble_eq_true rfl) (k2 := 212) rfl (by decide) hl.1 (Nat.le_of_ble_eq_true rfl) ⟨Nat.le_of_ble_eq_true rfl, Nat.le_of_ble_eq_true rfl⟩ ⟨(by show _ ≤ 80; decide), (by show _ ≤ 60000; decide)⟩ dL_text_246 (fun Mz51 H locs Y I5040 => ?_)
      refine lv_aload_n hx hb dL_text_249 rfl (lv_at hl 2 rfl) ?_
      refine lv_bipush (v := 14) hx hb dL_text_250 (by decide) ?_
      refine h_iald X Y (i := 14) I5040.ht (Nat.le_of_ble_eq_true rfl) (by decide) dL_text_252 ?_
      refine h_ev (y := nI (v 14)) (hg 14 (by decide)) ?_
      refine tx_D X Y I5040 htt ⟨by decide, by decide⟩ (fun _ _ f z => ⟨z.1.fr f ⟨by decide, by decide⟩, z.2.fr f ⟨by decide, by decide⟩⟩) (v := (v 14)) (hv 14 (by decide)) (k2 := 217) rfl (by decide) hl.1 (Nat.le_of_ble_eq_true rfl) ⟨Nat.le_of_ble_eq_true rfl, Nat.le_of_ble_eq_true rfl⟩ ⟨(by show _ ≤ 80; decide), (by show _ ≤ 60000; decide)⟩ dL_text_253 (fun Mz52 H locs Y I5040 => ?_)
      refine h_ldcS X (hlsR_94 X.2.2.2.2.2.2.2.2.1 X.2.2.2.2.2.2.2.2.2.1) dL_text_256 ?_
      refine tx_A (K := lsT_94) X Y I5040 htt ⟨by decide, by decide⟩ (fun _ _ f z => ⟨z.1.fr f ⟨by decide, by decide⟩, z.2.fr f ⟨by decide, by decide⟩⟩) (Or.inl (hLs_94 X.2.2.2.2.2.2.2.2.1).2) (ls_hz Y (hLs_94 X.2.2.2.2.2.2.2.2.1).2) (nk := 1) (Nat.le_of_ble_eq_true rfl) (k2 := 218) rfl (by decide) hl.1 (Nat.le_of_ble_eq_true rfl) ⟨Nat.le_of_ble_eq_true rfl, Nat.le_of_ble_eq_true rfl⟩ ⟨(by show _ ≤ 80; decide), (by show _ ≤ 60000; decide)⟩ dL_text_258 (fun Mz53 H locs Y I5040 => ?_)
      have h5080n := I5040.hn
      refine tx_T (tq := 5080) X Y I5040 htt ⟨by decide, by decide⟩ (by decide) (fun _ _ f z => ⟨z.1.fr f ⟨by decide, by decide⟩, z.2.fr f ⟨by decide, by decide⟩⟩) hl.1 (Nat.le_of_ble_eq_true rfl) ⟨Nat.le_of_ble_eq_true rfl, Nat.le_of_ble_eq_true rfl⟩ ⟨(by show _ ≤ 80; decide), (by show _ ≤ 60000; decide)⟩ dL_text_261 (fun r5080 Mz54 H locs Y ht h5080 hR0 hfr => ?_)
      have hfin : (((((((((((((([] ++ ((((((([] ++ lsT_49) ++ dgs (v 0)) ++ lsT_58) ++ dgs (v 1)) ++ lsT_60) ++ dgs (v 2)) ++ lsT_62)) ++ (((((((((((([] ++ lsT_68) ++ dgs (v 3)) ++ lsT_70) ++ dgs (v 4)) ++ lsT_72) ++ dgs (v 5)) ++ lsT_74) ++ dgs (v 6)) ++ lsT_76) ++ dgs (v 7)) ++ lsT_80) ++ lsT_62)) ++ lsT_82) ++ dgs (v 9)) ++ lsT_84) ++ dgs (v 10)) ++ lsT_86) ++ dgs (v 11 % 5)) ++ (([] ++ lsT_88) ++ dgs (v 12))) ++ lsT_90) ++ dgs (v 13)) ++ lsT_92) ++ dgs (v 14)) ++ lsT_94) = txT v := by rw [txT, txA, txB, if_neg c118, if_neg (show ¬ v 11 % 5 = 0 by omega)]
      rw [hfin] at h5080
      exact h_aret (v := some r5080) X Y (Or.inl ⟨_, rfl⟩) ⟨r5080, rfl, h5080, hfr⟩ (by show _ ≤ 80; decide) (by show _ ≤ 60000; decide) dL_text_264
  · have c118 : (v 8) = 1 := (nI_eq (a := (v 8)) (b := 1) (by omega) (by omega)).mp c118
    refine h_ldcS X (hlsR_78 X.2.2.2.2.2.2.2.2.1 X.2.2.2.2.2.2.2.2.2.1) dL_text_121 ?_
    refine lv_goto (tgt := 128) hx hb dL_text_123 (by decide) ?_
    refine tx_A (K := lsT_78) X Y I5020 htt ⟨by decide, by decide⟩ (fun _ _ f z => z.fr f ⟨by decide, by decide⟩) (Or.inl (hLs_78 X.2.2.2.2.2.2.2.2.1).2) (ls_hz Y (hLs_78 X.2.2.2.2.2.2.2.2.1).2) (nk := 10) (Nat.le_of_ble_eq_true rfl) (k2 := 73) rfl (by decide) hl.1 (Nat.le_of_ble_eq_true rfl) ⟨Nat.le_of_ble_eq_true rfl, Nat.le_of_ble_eq_true rfl⟩ ⟨(by show _ ≤ 80; decide), (by show _ ≤ 60000; decide)⟩ dL_text_128 (fun Mz55 H locs Y I5020 => ?_)
    refine h_ldcS X (hlsR_62 X.2.2.2.2.2.2.2.2.1 X.2.2.2.2.2.2.2.2.2.1) dL_text_131 ?_
    refine tx_A (K := lsT_62) X Y I5020 htt ⟨by decide, by decide⟩ (fun _ _ f z => z.fr f ⟨by decide, by decide⟩) (Or.inl (hLs_62 X.2.2.2.2.2.2.2.2.1).2) (ls_hz Y (hLs_62 X.2.2.2.2.2.2.2.2.1).2) (nk := 2) (Nat.le_of_ble_eq_true rfl) (k2 := 75) rfl (by decide) hl.1 (Nat.le_of_ble_eq_true rfl) ⟨Nat.le_of_ble_eq_true rfl, Nat.le_of_ble_eq_true rfl⟩ ⟨(by show _ ≤ 80; decide), (by show _ ≤ 60000; decide)⟩ dL_text_133 (fun Mz56 H locs Y I5020 => ?_)
    have h5030n := I5020.hn
    refine tx_T (tq := 5030) X Y I5020 htt ⟨by decide, by decide⟩ (by decide) (fun _ _ f z => z.fr f ⟨by decide, by decide⟩) hl.1 (Nat.le_of_ble_eq_true rfl) ⟨Nat.le_of_ble_eq_true rfl, Nat.le_of_ble_eq_true rfl⟩ ⟨(by show _ ≤ 80; decide), (by show _ ≤ 60000; decide)⟩ dL_text_136 (fun r5030 Mz57 H locs Y ht h5030 hR9 hfr => ?_)
    have h5010 := hR9
    refine lv_astore_n (lv' := [(2, .ref r5030), (1, .ref r5010), (0, .ref a)]) hx hb dL_text_139 rfl hl (by decide) rfl (fun ls hl => ?_)
    refine tx_N (R9 := (fun M9 => StL G M9 r5010 5010 (((((((([] ++ lsT_49) ++ dgs (v 0)) ++ lsT_58) ++ dgs (v 1)) ++ lsT_60) ++ dgs (v 2)) ++ lsT_62)) ∧ StL G M9 r5030 5030 ((((((((((((([] ++ lsT_68) ++ dgs (v 3)) ++ lsT_70) ++ dgs (v 4)) ++ lsT_72) ++ dgs (v 5)) ++ lsT_74) ++ dgs (v 6)) ++ lsT_76) ++ dgs (v 7)) ++ lsT_78) ++ lsT_62)))) X Y 5040 ht ⟨h5010, h5030⟩ hfr htt ⟨by decide, by decide⟩ (fun _ _ f z => ⟨z.1.fr f ⟨by decide, by decide⟩, z.2.fr f ⟨by decide, by decide⟩⟩) hl.1 (Nat.le_of_ble_eq_true rfl) ⟨Nat.le_of_ble_eq_true rfl, Nat.le_of_ble_eq_true rfl⟩ ⟨(by show _ ≤ 80; decide), (by show _ ≤ 60000; decide)⟩ dL_text_140 dL_text_143 dL_text_144 (fun qz59 Mz58 H locs Y I5040 => ?_)
    refine lv_aload_n hx hb dL_text_147 rfl (lv_at hl 1 rfl) ?_
    refine tx_A (K := ((((((([] ++ lsT_49) ++ dgs (v 0)) ++ lsT_58) ++ dgs (v 1)) ++ lsT_60) ++ dgs (v 2)) ++ lsT_62)) X Y I5040 htt ⟨by decide, by decide⟩ (fun _ _ f z => ⟨z.1.fr f ⟨by decide, by decide⟩, z.2.fr f ⟨by decide, by decide⟩⟩) (Or.inr I5040.hR.1.m) (st_hz I5040.hR.1 (by decide)) (nk := 37) h5010n (k2 := 37) rfl (by decide) hl.1 (Nat.le_of_ble_eq_true rfl) ⟨Nat.le_of_ble_eq_true rfl, Nat.le_of_ble_eq_true rfl⟩ ⟨(by show _ ≤ 80; decide), (by show _ ≤ 60000; decide)⟩ dL_text_148 (fun Mz60 H locs Y I5040 => ?_)
    refine lv_aload_n hx hb dL_text_151 rfl (lv_at hl 0 rfl) ?_
    refine tx_A (K := (((((((((((([] ++ lsT_68) ++ dgs (v 3)) ++ lsT_70) ++ dgs (v 4)) ++ lsT_72) ++ dgs (v 5)) ++ lsT_74) ++ dgs (v 6)) ++ lsT_76) ++ dgs (v 7)) ++ lsT_78) ++ lsT_62)) X Y I5040 htt ⟨by decide, by decide⟩ (fun _ _ f z => ⟨z.1.fr f ⟨by decide, by decide⟩, z.2.fr f ⟨by decide, by decide⟩⟩) (Or.inr I5040.hR.2.m) (st_hz I5040.hR.2 (by decide)) (nk := 75) h5030n (k2 := 112) rfl (by decide) hl.1 (Nat.le_of_ble_eq_true rfl) ⟨Nat.le_of_ble_eq_true rfl, Nat.le_of_ble_eq_true rfl⟩ ⟨(by show _ ≤ 80; decide), (by show _ ≤ 60000; decide)⟩ dL_text_152 (fun Mz61 H locs Y I5040 => ?_)
    refine h_ldcS X (hlsR_82 X.2.2.2.2.2.2.2.2.1 X.2.2.2.2.2.2.2.2.2.1) dL_text_155 ?_
    refine tx_A (K := lsT_82) X Y I5040 htt ⟨by decide, by decide⟩ (fun _ _ f z => ⟨z.1.fr f ⟨by decide, by decide⟩, z.2.fr f ⟨by decide, by decide⟩⟩) (Or.inl (hLs_82 X.2.2.2.2.2.2.2.2.1).2) (ls_hz Y (hLs_82 X.2.2.2.2.2.2.2.2.1).2) (nk := 9) (Nat.le_of_ble_eq_true rfl) (k2 := 121) rfl (by decide) hl.1 (Nat.le_of_ble_eq_true rfl) ⟨Nat.le_of_ble_eq_true rfl, Nat.le_of_ble_eq_true rfl⟩ ⟨(by show _ ≤ 80; decide), (by show _ ≤ 60000; decide)⟩ dL_text_157 (fun Mz62 H locs Y I5040 => ?_)
    refine lv_aload_n hx hb dL_text_160 rfl (lv_at hl 2 rfl) ?_
    refine lv_bipush (v := 9) hx hb dL_text_161 (by decide) ?_
    refine h_iald X Y (i := 9) I5040.ht (Nat.le_of_ble_eq_true rfl) (by decide) dL_text_163 ?_
    refine h_ev (y := nI (v 9)) (hg 9 (by decide)) ?_
    refine tx_D X Y I5040 htt ⟨by decide, by decide⟩ (fun _ _ f z => ⟨z.1.fr f ⟨by decide, by decide⟩, z.2.fr f ⟨by decide, by decide⟩⟩) (v := (v 9)) (hv 9 (by decide)) (k2 := 126) rfl (by decide) hl.1 (Nat.le_of_ble_eq_true rfl) ⟨Nat.le_of_ble_eq_true rfl, Nat.le_of_ble_eq_true rfl⟩ ⟨(by show _ ≤ 80; decide), (by show _ ≤ 60000; decide)⟩ dL_text_164 (fun Mz63 H locs Y I5040 => ?_)
    refine h_ldcS X (hlsR_84 X.2.2.2.2.2.2.2.2.1 X.2.2.2.2.2.2.2.2.2.1) dL_text_167 ?_
    refine tx_A (K := lsT_84) X Y I5040 htt ⟨by decide, by decide⟩ (fun _ _ f z => ⟨z.1.fr f ⟨by decide, by decide⟩, z.2.fr f ⟨by decide, by decide⟩⟩) (Or.inl (hLs_84 X.2.2.2.2.2.2.2.2.1).2) (ls_hz Y (hLs_84 X.2.2.2.2.2.2.2.2.1).2) (nk := 16) (Nat.le_of_ble_eq_true rfl) (k2 := 142) rfl (by decide) hl.1 (Nat.le_of_ble_eq_true rfl) ⟨Nat.le_of_ble_eq_true rfl, Nat.le_of_ble_eq_true rfl⟩ ⟨(by show _ ≤ 80; decide), (by show _ ≤ 60000; decide)⟩ dL_text_169 (fun Mz64 H locs Y I5040 => ?_)
    refine lv_aload_n hx hb dL_text_172 rfl (lv_at hl 2 rfl) ?_
    refine lv_bipush (v := 10) hx hb dL_text_173 (by decide) ?_
    refine h_iald X Y (i := 10) I5040.ht (Nat.le_of_ble_eq_true rfl) (by decide) dL_text_175 ?_
    refine h_ev (y := nI (v 10)) (hg 10 (by decide)) ?_
    refine tx_D X Y I5040 htt ⟨by decide, by decide⟩ (fun _ _ f z => ⟨z.1.fr f ⟨by decide, by decide⟩, z.2.fr f ⟨by decide, by decide⟩⟩) (v := (v 10)) (hv 10 (by decide)) (k2 := 147) rfl (by decide) hl.1 (Nat.le_of_ble_eq_true rfl) ⟨Nat.le_of_ble_eq_true rfl, Nat.le_of_ble_eq_true rfl⟩ ⟨(by show _ ≤ 80; decide), (by show _ ≤ 60000; decide)⟩ dL_text_176 (fun Mz65 H locs Y I5040 => ?_)
    refine h_ldcS X (hlsR_86 X.2.2.2.2.2.2.2.2.1 X.2.2.2.2.2.2.2.2.2.1) dL_text_179 ?_
    refine tx_A (K := lsT_86) X Y I5040 htt ⟨by decide, by decide⟩ (fun _ _ f z => ⟨z.1.fr f ⟨by decide, by decide⟩, z.2.fr f ⟨by decide, by decide⟩⟩) (Or.inl (hLs_86 X.2.2.2.2.2.2.2.2.1).2) (ls_hz Y (hLs_86 X.2.2.2.2.2.2.2.2.1).2) (nk := 11) (Nat.le_of_ble_eq_true rfl) (k2 := 158) rfl (by decide) hl.1 (Nat.le_of_ble_eq_true rfl) ⟨Nat.le_of_ble_eq_true rfl, Nat.le_of_ble_eq_true rfl⟩ ⟨(by show _ ≤ 80; decide), (by show _ ≤ 60000; decide)⟩ dL_text_181 (fun Mz66 H locs Y I5040 => ?_)
    refine lv_aload_n hx hb dL_text_184 rfl (lv_at hl 2 rfl) ?_
    refine lv_bipush (v := 11) hx hb dL_text_185 (by decide) ?_
    refine h_iald X Y (i := 11) I5040.ht (Nat.le_of_ble_eq_true rfl) (by decide) dL_text_187 ?_
    refine h_ev (y := nI (v 11)) (hg 11 (by decide)) ?_
    refine lv_iconst (v := 5) hx hb dL_text_188 (by decide) ?_
    refine lv_irem hx hb dL_text_189 (by decide) ?_
    refine h_ev (y := nI (v 11 % 5)) (pk_rem (a := v 11) (d := 5) (by omega) (by omega) (by omega)) ?_
    refine tx_D X Y I5040 htt ⟨by decide, by decide⟩ (fun _ _ f z => ⟨z.1.fr f ⟨by decide, by decide⟩, z.2.fr f ⟨by decide, by decide⟩⟩) (v := (v 11 % 5)) (by omega) (k2 := 163) rfl (by decide) hl.1 (Nat.le_of_ble_eq_true rfl) ⟨Nat.le_of_ble_eq_true rfl, Nat.le_of_ble_eq_true rfl⟩ ⟨(by show _ ≤ 80; decide), (by show _ ≤ 60000; decide)⟩ dL_text_190 (fun Mz67 H locs Y I5040 => ?_)
    refine lv_aload_n hx hb dL_text_193 rfl (lv_at hl 2 rfl) ?_
    refine lv_bipush (v := 11) hx hb dL_text_194 (by decide) ?_
    refine h_iald X Y (i := 11) I5040.ht (Nat.le_of_ble_eq_true rfl) (by decide) dL_text_196 ?_
    refine h_ev (y := nI (v 11)) (hg 11 (by decide)) ?_
    refine lv_iconst (v := 5) hx hb dL_text_197 (by decide) ?_
    refine lv_irem hx hb dL_text_198 (by decide) ?_
    refine h_ev (y := nI (v 11 % 5)) (pk_rem (a := v 11) (d := 5) (by omega) (by omega) (by omega)) ?_
    refine lv_if_le (tgt := 227) hx hb dL_text_199 (by decide) (fun c199 => ?_) (fun c199 => ?_)
    · have c199 : (v 11 % 5) ≤ 0 := (nI_leI (a := (v 11 % 5)) (b := 0) (by omega) (by omega)).mp c199
      refine h_ldcS X (hlsR_80 X.2.2.2.2.2.2.2.2.1 X.2.2.2.2.2.2.2.2.2.1) dL_text_227 ?_
      refine tx_A (K := lsT_80) X Y I5040 htt ⟨by decide, by decide⟩ (fun _ _ f z => ⟨z.1.fr f ⟨by decide, by decide⟩, z.2.fr f ⟨by decide, by decide⟩⟩) (Or.inl (hLs_80 X.2.2.2.2.2.2.2.2.1).2) (ls_hz Y (hLs_80 X.2.2.2.2.2.2.2.2.1).2) (nk := 0) (Nat.le_of_ble_eq_true rfl) (k2 := 163) rfl (by decide) hl.1 (Nat.le_of_ble_eq_true rfl) ⟨Nat.le_of_ble_eq_true rfl, Nat.le_of_ble_eq_true rfl⟩ ⟨(by show _ ≤ 80; decide), (by show _ ≤ 60000; decide)⟩ dL_text_229 (fun Mz68 H locs Y I5040 => ?_)
      refine h_ldcS X (hlsR_90 X.2.2.2.2.2.2.2.2.1 X.2.2.2.2.2.2.2.2.2.1) dL_text_232 ?_
      refine tx_A (K := lsT_90) X Y I5040 htt ⟨by decide, by decide⟩ (fun _ _ f z => ⟨z.1.fr f ⟨by decide, by decide⟩, z.2.fr f ⟨by decide, by decide⟩⟩) (Or.inl (hLs_90 X.2.2.2.2.2.2.2.2.1).2) (ls_hz Y (hLs_90 X.2.2.2.2.2.2.2.2.1).2) (nk := 30) (Nat.le_of_ble_eq_true rfl) (k2 := 193) rfl (by decide) hl.1 (Nat.le_of_ble_eq_true rfl) ⟨Nat.le_of_ble_eq_true rfl, Nat.le_of_ble_eq_true rfl⟩ ⟨(by show _ ≤ 80; decide), (by show _ ≤ 60000; decide)⟩ dL_text_234 (fun Mz69 H locs Y I5040 => ?_)
      refine lv_aload_n hx hb dL_text_237 rfl (lv_at hl 2 rfl) ?_
      refine lv_bipush (v := 13) hx hb dL_text_238 (by decide) ?_
      refine h_iald X Y (i := 13) I5040.ht (Nat.le_of_ble_eq_true rfl) (by decide) dL_text_240 ?_
      refine h_ev (y := nI (v 13)) (hg 13 (by decide)) ?_
      refine tx_D X Y I5040 htt ⟨by decide, by decide⟩ (fun _ _ f z => ⟨z.1.fr f ⟨by decide, by decide⟩, z.2.fr f ⟨by decide, by decide⟩⟩) (v := (v 13)) (hv 13 (by decide)) (k2 := 198) rfl (by decide) hl.1 (Nat.le_of_ble_eq_true rfl) ⟨Nat.le_of_ble_eq_true rfl, Nat.le_of_ble_eq_true rfl⟩ ⟨(by show _ ≤ 80; decide), (by show _ ≤ 60000; decide)⟩ dL_text_241 (fun Mz70 H locs Y I5040 => ?_)
      refine h_ldcS X (hlsR_92 X.2.2.2.2.2.2.2.2.1 X.2.2.2.2.2.2.2.2.2.1) dL_text_244 ?_
      refine tx_A (K := lsT_92) X Y I5040 htt ⟨by decide, by decide⟩ (fun _ _ f z => ⟨z.1.fr f ⟨by decide, by decide⟩, z.2.fr f ⟨by decide, by decide⟩⟩) (Or.inl (hLs_92 X.2.2.2.2.2.2.2.2.1).2) (ls_hz Y (hLs_92 X.2.2.2.2.2.2.2.2.1).2) (nk := 15) (Nat.le_of_ble_eq_true rfl) (k2 := 213) rfl (by decide) hl.1 (Nat.le_of_ble_eq_true rfl) ⟨Nat.le_of_ble_eq_true rfl, Nat.le_of_ble_eq_true rfl⟩ ⟨(by show _ ≤ 80; decide), (by show _ ≤ 60000; decide)⟩ dL_text_246 (fun Mz71 H locs Y I5040 => ?_)
      refine lv_aload_n hx hb dL_text_249 rfl (lv_at hl 2 rfl) ?_
      refine lv_bipush (v := 14) hx hb dL_text_250 (by decide) ?_
      refine h_iald X Y (i := 14) I5040.ht (Nat.le_of_ble_eq_true rfl) (by decide) dL_text_252 ?_
      refine h_ev (y := nI (v 14)) (hg 14 (by decide)) ?_
      refine tx_D X Y I5040 htt ⟨by decide, by decide⟩ (fun _ _ f z => ⟨z.1.fr f ⟨by decide, by decide⟩, z.2.fr f ⟨by decide, by decide⟩⟩) (v := (v 14)) (hv 14 (by decide)) (k2 := 218) rfl (by decide) hl.1 (Nat.le_of_ble_eq_true rfl) ⟨Nat.le_of_ble_eq_true rfl, Nat.le_of_ble_eq_true rfl⟩ ⟨(by show _ ≤ 80; decide), (by show _ ≤ 60000; decide)⟩ dL_text_253 (fun Mz72 H locs Y I5040 => ?_)
      refine h_ldcS X (hlsR_94 X.2.2.2.2.2.2.2.2.1 X.2.2.2.2.2.2.2.2.2.1) dL_text_256 ?_
      refine tx_A (K := lsT_94) X Y I5040 htt ⟨by decide, by decide⟩ (fun _ _ f z => ⟨z.1.fr f ⟨by decide, by decide⟩, z.2.fr f ⟨by decide, by decide⟩⟩) (Or.inl (hLs_94 X.2.2.2.2.2.2.2.2.1).2) (ls_hz Y (hLs_94 X.2.2.2.2.2.2.2.2.1).2) (nk := 1) (Nat.le_of_ble_eq_true rfl) (k2 := 219) rfl (by decide) hl.1 (Nat.le_of_ble_eq_true rfl) ⟨Nat.le_of_ble_eq_true rfl, Nat.le_of_ble_eq_true rfl⟩ ⟨(by show _ ≤ 80; decide), (by show _ ≤ 60000; decide)⟩ dL_text_258 (fun Mz73 H locs Y I5040 => ?_)
      have h5080n := I5040.hn
      refine tx_T (tq := 5080) X Y I5040 htt ⟨by decide, by decide⟩ (by decide) (fun _ _ f z => ⟨z.1.fr f ⟨by decide, by decide⟩, z.2.fr f ⟨by decide, by decide⟩⟩) hl.1 (Nat.le_of_ble_eq_true rfl) ⟨Nat.le_of_ble_eq_true rfl, Nat.le_of_ble_eq_true rfl⟩ ⟨(by show _ ≤ 80; decide), (by show _ ≤ 60000; decide)⟩ dL_text_261 (fun r5080 Mz74 H locs Y ht h5080 hR0 hfr => ?_)
      have hfin : (((((((((((((([] ++ ((((((([] ++ lsT_49) ++ dgs (v 0)) ++ lsT_58) ++ dgs (v 1)) ++ lsT_60) ++ dgs (v 2)) ++ lsT_62)) ++ (((((((((((([] ++ lsT_68) ++ dgs (v 3)) ++ lsT_70) ++ dgs (v 4)) ++ lsT_72) ++ dgs (v 5)) ++ lsT_74) ++ dgs (v 6)) ++ lsT_76) ++ dgs (v 7)) ++ lsT_78) ++ lsT_62)) ++ lsT_82) ++ dgs (v 9)) ++ lsT_84) ++ dgs (v 10)) ++ lsT_86) ++ dgs (v 11 % 5)) ++ lsT_80) ++ lsT_90) ++ dgs (v 13)) ++ lsT_92) ++ dgs (v 14)) ++ lsT_94) = txT v := by rw [txT, txA, txB, if_pos c118, if_pos (show v 11 % 5 = 0 by omega)]
      rw [hfin] at h5080
      exact h_aret (v := some r5080) X Y (Or.inl ⟨_, rfl⟩) ⟨r5080, rfl, h5080, hfr⟩ (by show _ ≤ 80; decide) (by show _ ≤ 60000; decide) dL_text_264
    · have c199 : ¬ (v 11 % 5) ≤ 0 := fun z9 => c199 ((nI_leI (a := (v 11 % 5)) (b := 0) (by omega) (by omega)).mpr z9)
      have hst9 : ∀ t9, (t9 = 5060 ∨ t9 = 5070) → ∀ M1 M2, hFr (fun u => u = t9 ∨ u = t9 + 1) M1 M2 → TxI G M M1 a tt g qz59 5040 163 ((((((((([] ++ ((((((([] ++ lsT_49) ++ dgs (v 0)) ++ lsT_58) ++ dgs (v 1)) ++ lsT_60) ++ dgs (v 2)) ++ lsT_62)) ++ (((((((((((([] ++ lsT_68) ++ dgs (v 3)) ++ lsT_70) ++ dgs (v 4)) ++ lsT_72) ++ dgs (v 5)) ++ lsT_74) ++ dgs (v 6)) ++ lsT_76) ++ dgs (v 7)) ++ lsT_78) ++ lsT_62)) ++ lsT_82) ++ dgs (v 9)) ++ lsT_84) ++ dgs (v 10)) ++ lsT_86) ++ dgs (v 11 % 5))) (fun M9 => StL G M9 r5010 5010 (((((((([] ++ lsT_49) ++ dgs (v 0)) ++ lsT_58) ++ dgs (v 1)) ++ lsT_60) ++ dgs (v 2)) ++ lsT_62)) ∧ StL G M9 r5030 5030 ((((((((((((([] ++ lsT_68) ++ dgs (v 3)) ++ lsT_70) ++ dgs (v 4)) ++ lsT_72) ++ dgs (v 5)) ++ lsT_74) ++ dgs (v 6)) ++ lsT_76) ++ dgs (v 7)) ++ lsT_78) ++ lsT_62))) → TxI G M M2 a tt g qz59 5040 163 ((((((((([] ++ ((((((([] ++ lsT_49) ++ dgs (v 0)) ++ lsT_58) ++ dgs (v 1)) ++ lsT_60) ++ dgs (v 2)) ++ lsT_62)) ++ (((((((((((([] ++ lsT_68) ++ dgs (v 3)) ++ lsT_70) ++ dgs (v 4)) ++ lsT_72) ++ dgs (v 5)) ++ lsT_74) ++ dgs (v 6)) ++ lsT_76) ++ dgs (v 7)) ++ lsT_78) ++ lsT_62)) ++ lsT_82) ++ dgs (v 9)) ++ lsT_84) ++ dgs (v 10)) ++ lsT_86) ++ dgs (v 11 % 5))) (fun M9 => StL G M9 r5010 5010 (((((((([] ++ lsT_49) ++ dgs (v 0)) ++ lsT_58) ++ dgs (v 1)) ++ lsT_60) ++ dgs (v 2)) ++ lsT_62)) ∧ StL G M9 r5030 5030 ((((((((((((([] ++ lsT_68) ++ dgs (v 3)) ++ lsT_70) ++ dgs (v 4)) ++ lsT_72) ++ dgs (v 5)) ++ lsT_74) ++ dgs (v 6)) ++ lsT_76) ++ dgs (v 7)) ++ lsT_78) ++ lsT_62))) := fun t9 h9 M1 M2 f z => ⟨f _ _ _ z.ht (by omega), z.hb.fr f ⟨by omega, by omega⟩, z.hn, ⟨z.hR.1.fr f ⟨by omega, by omega⟩, z.hR.2.fr f ⟨by omega, by omega⟩⟩, hFr.tr z.hf (f.mono (fun u z9 => by unfold zT; omega))⟩
      have ht := I5040.ht
      have hfr := I5040.hf
      refine tx_N (R9 := (fun M9 => TxI G M M9 a tt g qz59 5040 163 ((((((((([] ++ ((((((([] ++ lsT_49) ++ dgs (v 0)) ++ lsT_58) ++ dgs (v 1)) ++ lsT_60) ++ dgs (v 2)) ++ lsT_62)) ++ (((((((((((([] ++ lsT_68) ++ dgs (v 3)) ++ lsT_70) ++ dgs (v 4)) ++ lsT_72) ++ dgs (v 5)) ++ lsT_74) ++ dgs (v 6)) ++ lsT_76) ++ dgs (v 7)) ++ lsT_78) ++ lsT_62)) ++ lsT_82) ++ dgs (v 9)) ++ lsT_84) ++ dgs (v 10)) ++ lsT_86) ++ dgs (v 11 % 5))) (fun M9 => StL G M9 r5010 5010 (((((((([] ++ lsT_49) ++ dgs (v 0)) ++ lsT_58) ++ dgs (v 1)) ++ lsT_60) ++ dgs (v 2)) ++ lsT_62)) ∧ StL G M9 r5030 5030 ((((((((((((([] ++ lsT_68) ++ dgs (v 3)) ++ lsT_70) ++ dgs (v 4)) ++ lsT_72) ++ dgs (v 5)) ++ lsT_74) ++ dgs (v 6)) ++ lsT_76) ++ dgs (v 7)) ++ lsT_78) ++ lsT_62))))) X Y 5060 ht I5040 hfr htt ⟨by decide, by decide⟩ (hst9 _ (by decide)) hl.1 (Nat.le_of_ble_eq_true rfl) ⟨Nat.le_of_ble_eq_true rfl, Nat.le_of_ble_eq_true rfl⟩ ⟨(by show _ ≤ 80; decide), (by show _ ≤ 60000; decide)⟩ dL_text_202 dL_text_205 dL_text_206 (fun qz76 Mz75 H locs Y I5060 => ?_)
      refine h_ldcS X (hlsR_88 X.2.2.2.2.2.2.2.2.1 X.2.2.2.2.2.2.2.2.2.1) dL_text_209 ?_
      refine tx_A (K := lsT_88) X Y I5060 htt ⟨by decide, by decide⟩ (hst9 _ (by decide)) (Or.inl (hLs_88 X.2.2.2.2.2.2.2.2.1).2) (ls_hz Y (hLs_88 X.2.2.2.2.2.2.2.2.1).2) (nk := 4) (Nat.le_of_ble_eq_true rfl) (k2 := 4) rfl (by decide) hl.1 (Nat.le_of_ble_eq_true rfl) ⟨Nat.le_of_ble_eq_true rfl, Nat.le_of_ble_eq_true rfl⟩ ⟨(by show _ ≤ 80; decide), (by show _ ≤ 60000; decide)⟩ dL_text_211 (fun Mz77 H locs Y I5060 => ?_)
      refine lv_aload_n hx hb dL_text_214 rfl (lv_at hl 2 rfl) ?_
      refine lv_bipush (v := 12) hx hb dL_text_215 (by decide) ?_
      refine h_iald X Y (i := 12) I5060.ht (Nat.le_of_ble_eq_true rfl) (by decide) dL_text_217 ?_
      refine h_ev (y := nI (v 12)) (hg 12 (by decide)) ?_
      refine tx_D X Y I5060 htt ⟨by decide, by decide⟩ (hst9 _ (by decide)) (v := (v 12)) (hv 12 (by decide)) (k2 := 9) rfl (by decide) hl.1 (Nat.le_of_ble_eq_true rfl) ⟨Nat.le_of_ble_eq_true rfl, Nat.le_of_ble_eq_true rfl⟩ ⟨(by show _ ≤ 80; decide), (by show _ ≤ 60000; decide)⟩ dL_text_218 (fun Mz78 H locs Y I5060 => ?_)
      have h5070n := I5060.hn
      refine tx_T (tq := 5070) X Y I5060 htt ⟨by decide, by decide⟩ (by decide) (hst9 _ (by decide)) hl.1 (Nat.le_of_ble_eq_true rfl) ⟨Nat.le_of_ble_eq_true rfl, Nat.le_of_ble_eq_true rfl⟩ ⟨(by show _ ≤ 80; decide), (by show _ ≤ 60000; decide)⟩ dL_text_221 (fun r5070 Mz79 H locs Y ht h5070 I5040 hfr => ?_)
      refine lv_goto (tgt := 229) hx hb dL_text_224 (by decide) ?_
      refine tx_A (K := (([] ++ lsT_88) ++ dgs (v 12))) X Y I5040 htt ⟨by decide, by decide⟩ (fun _ _ f z => ⟨z.1.fr f ⟨by decide, by decide⟩, z.2.fr f ⟨by decide, by decide⟩⟩) (Or.inr h5070.m) (st_hz h5070 (by decide)) (nk := 9) h5070n (k2 := 172) rfl (by decide) hl.1 (Nat.le_of_ble_eq_true rfl) ⟨Nat.le_of_ble_eq_true rfl, Nat.le_of_ble_eq_true rfl⟩ ⟨(by show _ ≤ 80; decide), (by show _ ≤ 60000; decide)⟩ dL_text_229 (fun Mz80 H locs Y I5040 => ?_)
      refine h_ldcS X (hlsR_90 X.2.2.2.2.2.2.2.2.1 X.2.2.2.2.2.2.2.2.2.1) dL_text_232 ?_
      refine tx_A (K := lsT_90) X Y I5040 htt ⟨by decide, by decide⟩ (fun _ _ f z => ⟨z.1.fr f ⟨by decide, by decide⟩, z.2.fr f ⟨by decide, by decide⟩⟩) (Or.inl (hLs_90 X.2.2.2.2.2.2.2.2.1).2) (ls_hz Y (hLs_90 X.2.2.2.2.2.2.2.2.1).2) (nk := 30) (Nat.le_of_ble_eq_true rfl) (k2 := 202) rfl (by decide) hl.1 (Nat.le_of_ble_eq_true rfl) ⟨Nat.le_of_ble_eq_true rfl, Nat.le_of_ble_eq_true rfl⟩ ⟨(by show _ ≤ 80; decide), (by show _ ≤ 60000; decide)⟩ dL_text_234 (fun Mz81 H locs Y I5040 => ?_)
      refine lv_aload_n hx hb dL_text_237 rfl (lv_at hl 2 rfl) ?_
      refine lv_bipush (v := 13) hx hb dL_text_238 (by decide) ?_
      refine h_iald X Y (i := 13) I5040.ht (Nat.le_of_ble_eq_true rfl) (by decide) dL_text_240 ?_
      refine h_ev (y := nI (v 13)) (hg 13 (by decide)) ?_
      refine tx_D X Y I5040 htt ⟨by decide, by decide⟩ (fun _ _ f z => ⟨z.1.fr f ⟨by decide, by decide⟩, z.2.fr f ⟨by decide, by decide⟩⟩) (v := (v 13)) (hv 13 (by decide)) (k2 := 207) rfl (by decide) hl.1 (Nat.le_of_ble_eq_true rfl) ⟨Nat.le_of_ble_eq_true rfl, Nat.le_of_ble_eq_true rfl⟩ ⟨(by show _ ≤ 80; decide), (by show _ ≤ 60000; decide)⟩ dL_text_241 (fun Mz82 H locs Y I5040 => ?_)
      refine h_ldcS X (hlsR_92 X.2.2.2.2.2.2.2.2.1 X.2.2.2.2.2.2.2.2.2.1) dL_text_244 ?_
      refine tx_A (K := lsT_92) X Y I5040 htt ⟨by decide, by decide⟩ (fun _ _ f z => ⟨z.1.fr f ⟨by decide, by decide⟩, z.2.fr f ⟨by decide, by decide⟩⟩) (Or.inl (hLs_92 X.2.2.2.2.2.2.2.2.1).2) (ls_hz Y (hLs_92 X.2.2.2.2.2.2.2.2.1).2) (nk := 15) (Nat.le_of_ble_eq_true rfl) (k2 := 222) rfl (by decide) hl.1 (Nat.le_of_ble_eq_true rfl) ⟨Nat.le_of_ble_eq_true rfl, Nat.le_of_ble_eq_true rfl⟩ ⟨(by show _ ≤ 80; decide), (by show _ ≤ 60000; decide)⟩ dL_text_246 (fun Mz83 H locs Y I5040 => ?_)
      refine lv_aload_n hx hb dL_text_249 rfl (lv_at hl 2 rfl) ?_
      refine lv_bipush (v := 14) hx hb dL_text_250 (by decide) ?_
      refine h_iald X Y (i := 14) I5040.ht (Nat.le_of_ble_eq_true rfl) (by decide) dL_text_252 ?_
      refine h_ev (y := nI (v 14)) (hg 14 (by decide)) ?_
      refine tx_D X Y I5040 htt ⟨by decide, by decide⟩ (fun _ _ f z => ⟨z.1.fr f ⟨by decide, by decide⟩, z.2.fr f ⟨by decide, by decide⟩⟩) (v := (v 14)) (hv 14 (by decide)) (k2 := 227) rfl (by decide) hl.1 (Nat.le_of_ble_eq_true rfl) ⟨Nat.le_of_ble_eq_true rfl, Nat.le_of_ble_eq_true rfl⟩ ⟨(by show _ ≤ 80; decide), (by show _ ≤ 60000; decide)⟩ dL_text_253 (fun Mz84 H locs Y I5040 => ?_)
      refine h_ldcS X (hlsR_94 X.2.2.2.2.2.2.2.2.1 X.2.2.2.2.2.2.2.2.2.1) dL_text_256 ?_
      refine tx_A (K := lsT_94) X Y I5040 htt ⟨by decide, by decide⟩ (fun _ _ f z => ⟨z.1.fr f ⟨by decide, by decide⟩, z.2.fr f ⟨by decide, by decide⟩⟩) (Or.inl (hLs_94 X.2.2.2.2.2.2.2.2.1).2) (ls_hz Y (hLs_94 X.2.2.2.2.2.2.2.2.1).2) (nk := 1) (Nat.le_of_ble_eq_true rfl) (k2 := 228) rfl (by decide) hl.1 (Nat.le_of_ble_eq_true rfl) ⟨Nat.le_of_ble_eq_true rfl, Nat.le_of_ble_eq_true rfl⟩ ⟨(by show _ ≤ 80; decide), (by show _ ≤ 60000; decide)⟩ dL_text_258 (fun Mz85 H locs Y I5040 => ?_)
      have h5080n := I5040.hn
      refine tx_T (tq := 5080) X Y I5040 htt ⟨by decide, by decide⟩ (by decide) (fun _ _ f z => ⟨z.1.fr f ⟨by decide, by decide⟩, z.2.fr f ⟨by decide, by decide⟩⟩) hl.1 (Nat.le_of_ble_eq_true rfl) ⟨Nat.le_of_ble_eq_true rfl, Nat.le_of_ble_eq_true rfl⟩ ⟨(by show _ ≤ 80; decide), (by show _ ≤ 60000; decide)⟩ dL_text_261 (fun r5080 Mz86 H locs Y ht h5080 hR0 hfr => ?_)
      have hfin : (((((((((((((([] ++ ((((((([] ++ lsT_49) ++ dgs (v 0)) ++ lsT_58) ++ dgs (v 1)) ++ lsT_60) ++ dgs (v 2)) ++ lsT_62)) ++ (((((((((((([] ++ lsT_68) ++ dgs (v 3)) ++ lsT_70) ++ dgs (v 4)) ++ lsT_72) ++ dgs (v 5)) ++ lsT_74) ++ dgs (v 6)) ++ lsT_76) ++ dgs (v 7)) ++ lsT_78) ++ lsT_62)) ++ lsT_82) ++ dgs (v 9)) ++ lsT_84) ++ dgs (v 10)) ++ lsT_86) ++ dgs (v 11 % 5)) ++ (([] ++ lsT_88) ++ dgs (v 12))) ++ lsT_90) ++ dgs (v 13)) ++ lsT_92) ++ dgs (v 14)) ++ lsT_94) = txT v := by rw [txT, txA, txB, if_pos c118, if_neg (show ¬ v 11 % 5 = 0 by omega)]
      rw [hfin] at h5080
      exact h_aret (v := some r5080) X Y (Or.inl ⟨_, rfl⟩) ⟨r5080, rfl, h5080, hfr⟩ (by show _ ≤ 80; decide) (by show _ ≤ 60000; decide) dL_text_264
