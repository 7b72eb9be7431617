-- THE LAW'S OWN STRINGS; A TEXT AS A LIST
abbrev lsW (L : List Nat) : Nat → Nat := fun i => L.getD i 0
/-- a builder that holds the letters L -/
def SbL (G : hG) (M : hM) (a t : Nat) (L : List Nat) : Prop := ∃ cap, SbV G M a t L.length cap (lsW L)
/-- a String of the letters L, of the tags t, t + 1 -/
def StL (G : hG) (M : hM) (q t : Nat) (L : List Nat) : Prop := ∃ (va : Nat) (f : Nat → Int32), M q = some (t, .inr (0, [.ref va, .int 0, .int 0, .int 0])) ∧ M va = some (t + 1, .inl (hT G 1, L.length, .inl f)) ∧ ∀ i, i < L.length → f i = nI (lsW L i) ∧ lsW L i < 128
theorem StL.m {G : hG} {M : hM} {q t : Nat} {L : List Nat} (h : StL G M q t L) : StM G M q L.length (lsW L) := by
  obtain ⟨va, f, h0, h1, h2⟩ := h
  exact ⟨t, va, 0, 0, f, h0, h1, h2⟩
theorem StL.fr {G : hG} {Z : Nat → Prop} {M M' : hM} {q t : Nat} {L : List Nat} (h : hFr Z M M') (hz : ¬ Z t ∧ ¬ Z (t + 1)) (hV : StL G M q t L) : StL G M' q t L := by
  obtain ⟨va, f, h0, h1, h2⟩ := hV
  exact ⟨va, f, h _ _ _ h0 hz.1, h _ _ _ h1 hz.2, h2⟩
theorem StL.gr {G : hG} {M M' : hM} {q t : Nat} {L : List Nat} (h : hGr M M') (hV : StL G M q t L) : StL G M' q t L := by
  obtain ⟨va, f, h0, h1, h2⟩ := hV
  exact ⟨va, f, h _ _ h0, h _ _ h1, h2⟩
theorem StL.tag {G : hG} {M : hM} {q t : Nat} {L : List Nat} (hV : StL G M q t L) : ∀ (u : Nat) (e : va_E), M q = some (u, e) → u = t := by
  obtain ⟨va, f, h0, h1, h2⟩ := hV
  intro u e h
  rw [h0] at h
  cases h
  rfl
theorem SbL.fr {G : hG} {Z : Nat → Prop} {M M' : hM} {a t : Nat} {L : List Nat} (h : hFr Z M M') (hz : ¬ Z t ∧ ¬ Z (t + 1)) (hV : SbL G M a t L) : SbL G M' a t L := by
  obtain ⟨cap, hV⟩ := hV
  exact ⟨cap, hV.fr h hz⟩
theorem SbL.gr {G : hG} {M M' : hM} {a t : Nat} {L : List Nat} (h : hGr M M') (hV : SbL G M a t L) : SbL G M' a t L := by
  obtain ⟨cap, va, f, h0, h1, h2⟩ := hV
  exact ⟨cap, va, f, h _ _ h0, h _ _ h1, h2⟩
theorem SbV.map {G : hG} {M : hM} {a t n m cap : Nat} {T U : Nat → Nat} (h : SbV G M a t n cap T) (hm : n = m) (he : ∀ i, i < n → T i = U i) : SbV G M a t m cap U := by
  subst hm
  obtain ⟨va, f, h0, h1, h2, h3, h4, h5⟩ := h
  exact ⟨va, f, h0, h1, h2, h3, h4, fun i hi => by rw [← he i hi]; exact h5 i hi⟩
theorem ls_app (A K : List Nat) (W : Nat → Nat) (m : Nat) (hm : m = K.length) (hW : ∀ j, j < m → W j = lsW K j) : ∀ i, i < A.length + m → sb_cat (lsW A) A.length W i = lsW (A ++ K) i := by
  intro i hi
  subst hm
  rcases Nat.lt_or_ge i A.length with h | h
  · rw [sb_cat_lo h]
    show A.getD i 0 = (A ++ K).getD i 0
    rw [List.getD_eq_getElem?_getD, List.getD_eq_getElem?_getD, List.getElem?_append_left h]
  · obtain ⟨j, rfl⟩ := Nat.exists_eq_add_of_le h
    rw [sb_cat_hi, hW j (by omega)]
    show K.getD j 0 = (A ++ K).getD (A.length + j) 0
    rw [List.getD_eq_getElem?_getD, List.getD_eq_getElem?_getD, List.getElem?_append_right (by omega), Nat.add_sub_cancel_left]
/-- the digits of a number -/
def dgs (v : Nat) : List Nat := (List.range (sb_dg v)).map (sb_dec v)
theorem dgs_len (v : Nat) : (dgs v).length = sb_dg v := by rw [dgs, List.length_map, List.length_range]
theorem dgs_at {v j : Nat} (h : j < sb_dg v) : lsW (dgs v) j = sb_dec v j := by
  show ((List.range (sb_dg v)).map (sb_dec v)).getD j 0 = _
  rw [List.getD_eq_getElem?_getD, List.getElem?_map, List.getElem?_range h]
  rfl
theorem dgs_5 {v : Nat} (h : v < 100000) : (dgs v).length ≤ 5 := by
  rw [dgs_len]
  unfold sb_dg
  (repeat' split) <;> omega
theorem SbL.app {G : hG} {M : hM} {a t : Nat} {A K : List Nat} (h : ∃ cap, SbV G M a t (A.length + K.length) cap (sb_cat (lsW A) A.length (lsW K))) : SbL G M a t (A ++ K) := by
  obtain ⟨cap, h⟩ := h
  exact ⟨cap, h.map List.length_append.symm (ls_app A K (lsW K) _ rfl fun _ _ => rfl)⟩
theorem SbL.dec {G : hG} {M : hM} {a t v : Nat} {A : List Nat} (h : ∃ cap, SbV G M a t (A.length + sb_dg v) cap (sb_cat (lsW A) A.length (sb_dec v))) : SbL G M a t (A ++ dgs v) := by
  obtain ⟨cap, h⟩ := h
  exact ⟨cap, h.map (by rw [List.length_append, dgs_len]) (ls_app A (dgs v) (sb_dec v) _ (dgs_len v).symm fun j hj => (dgs_at hj).symm)⟩
theorem sS_hz {G : hG} {M : hM} {s : State} {H : Heap} {locs : List Loc} {q L : Nat} {W : Nat → Nat} (Y : hHS G M s H locs) (h : sS G q L W) : ∀ (u : Nat) (e : va_E), M q = some (u, e) → u + 1 < 0 ∨ 7000000 < u := by
  intro u e hm
  obtain ⟨⟨cell, -, -, -, hA⟩, -⟩ := h
  exact absurd (Y.1 q u e hm).1 hA
def lsT_49 : List Nat := [108, 97, 121, 101, 114, 32, 97, 97, 32]
def hls_49 (G : hG) : Nat := had G (.string "LossHouseLaw" 49)
set_option maxRecDepth 100000 in
theorem hLs_49 {G : hG} (hs : hSt G) : hev G (.string "LossHouseLaw" 49) = some (.ref (hls_49 G)) ∧ sS G (hls_49 G) lsT_49.length (lsW lsT_49) :=
  sS_of (G := G) (tm := (.string "LossHouseLaw" 49)) (L := 9) (W := lsW lsT_49) (hN hs 993 (by decide +kernel)) (hN hs 994 (by decide +kernel)) (hN hs 995 (by decide +kernel)) (by decide) (hN hs 996 (by decide +kernel)) (hNs hs [997, 998, 999, 1000, 1001, 1002, 1003, 1004, 1005] (fun j => Cond.eq (.elem (.field (.string "LossHouseLaw" 49) "java/lang/String" "value" "[B") (.int (Int32.ofNat j))) (.int (nI (lsW lsT_49 j)))) 9 (by decide +kernel)) (by decide +kernel)
theorem hlsR_49 {G : hG} {s : State} (hs : hSt G) (hr : hR G s) : vk_R "LossHouseLaw" 49 "layer aa " (hls_49 G) s := vk_R.warm hr.1 (vk_R.of (hW0 hs 1309 (by decide +kernel)) (hLs_49 hs).1)
def lsT_58 : List Nat := [32, 120, 115, 32]
def hls_58 (G : hG) : Nat := had G (.string "LossHouseLaw" 58)
set_option maxRecDepth 100000 in
theorem hLs_58 {G : hG} (hs : hSt G) : hev G (.string "LossHouseLaw" 58) = some (.ref (hls_58 G)) ∧ sS G (hls_58 G) lsT_58.length (lsW lsT_58) :=
  sS_of (G := G) (tm := (.string "LossHouseLaw" 58)) (L := 4) (W := lsW lsT_58) (hN hs 1006 (by decide +kernel)) (hN hs 1007 (by decide +kernel)) (hN hs 1008 (by decide +kernel)) (by decide) (hN hs 1009 (by decide +kernel)) (hNs hs [1010, 1011, 1012, 1013] (fun j => Cond.eq (.elem (.field (.string "LossHouseLaw" 58) "java/lang/String" "value" "[B") (.int (Int32.ofNat j))) (.int (nI (lsW lsT_58 j)))) 4 (by decide +kernel)) (by decide +kernel)
theorem hlsR_58 {G : hG} {s : State} (hs : hSt G) (hr : hR G s) : vk_R "LossHouseLaw" 58 " xs " (hls_58 G) s := vk_R.warm hr.1 (vk_R.of (hW0 hs 1421 (by decide +kernel)) (hLs_58 hs).1)
def lsT_60 : List Nat := [32, 115, 104, 97, 114, 101, 32]
def hls_60 (G : hG) : Nat := had G (.string "LossHouseLaw" 60)
set_option maxRecDepth 100000 in
theorem hLs_60 {G : hG} (hs : hSt G) : hev G (.string "LossHouseLaw" 60) = some (.ref (hls_60 G)) ∧ sS G (hls_60 G) lsT_60.length (lsW lsT_60) :=
  sS_of (G := G) (tm := (.string "LossHouseLaw" 60)) (L := 7) (W := lsW lsT_60) (hN hs 1014 (by decide +kernel)) (hN hs 1015 (by decide +kernel)) (hN hs 1016 (by decide +kernel)) (by decide) (hN hs 1017 (by decide +kernel)) (hNs hs [1018, 1019, 1020, 1021, 1022, 1023, 1024] (fun j => Cond.eq (.elem (.field (.string "LossHouseLaw" 60) "java/lang/String" "value" "[B") (.int (Int32.ofNat j))) (.int (nI (lsW lsT_60 j)))) 7 (by decide +kernel)) (by decide +kernel)
theorem hlsR_60 {G : hG} {s : State} (hs : hSt G) (hr : hR G s) : vk_R "LossHouseLaw" 60 " share " (hls_60 G) s := vk_R.warm hr.1 (vk_R.of (hW0 hs 1422 (by decide +kernel)) (hLs_60 hs).1)
def lsT_62 : List Nat := [59, 32]
def hls_62 (G : hG) : Nat := had G (.string "LossHouseLaw" 62)
set_option maxRecDepth 100000 in
theorem hLs_62 {G : hG} (hs : hSt G) : hev G (.string "LossHouseLaw" 62) = some (.ref (hls_62 G)) ∧ sS G (hls_62 G) lsT_62.length (lsW lsT_62) :=
  sS_of (G := G) (tm := (.string "LossHouseLaw" 62)) (L := 2) (W := lsW lsT_62) (hN hs 1025 (by decide +kernel)) (hN hs 1026 (by decide +kernel)) (hN hs 1027 (by decide +kernel)) (by decide) (hN hs 1028 (by decide +kernel)) (hNs hs [1029, 1030] (fun j => Cond.eq (.elem (.field (.string "LossHouseLaw" 62) "java/lang/String" "value" "[B") (.int (Int32.ofNat j))) (.int (nI (lsW lsT_62 j)))) 2 (by decide +kernel)) (by decide +kernel)
theorem hlsR_62 {G : hG} {s : State} (hs : hSt G) (hr : hR G s) : vk_R "LossHouseLaw" 62 "; " (hls_62 G) s := vk_R.warm hr.1 (vk_R.of (hW0 hs 1423 (by decide +kernel)) (hLs_62 hs).1)
def lsT_68 : List Nat := [108, 97, 121, 101, 114, 32, 98, 98, 32]
def hls_68 (G : hG) : Nat := had G (.string "LossHouseLaw" 68)
set_option maxRecDepth 100000 in
theorem hLs_68 {G : hG} (hs : hSt G) : hev G (.string "LossHouseLaw" 68) = some (.ref (hls_68 G)) ∧ sS G (hls_68 G) lsT_68.length (lsW lsT_68) :=
  sS_of (G := G) (tm := (.string "LossHouseLaw" 68)) (L := 9) (W := lsW lsT_68) (hN hs 1031 (by decide +kernel)) (hN hs 1032 (by decide +kernel)) (hN hs 1033 (by decide +kernel)) (by decide) (hN hs 1034 (by decide +kernel)) (hNs hs [1035, 1036, 1037, 1038, 1039, 1040, 1041, 1042, 1043] (fun j => Cond.eq (.elem (.field (.string "LossHouseLaw" 68) "java/lang/String" "value" "[B") (.int (Int32.ofNat j))) (.int (nI (lsW lsT_68 j)))) 9 (by decide +kernel)) (by decide +kernel)
theorem hlsR_68 {G : hG} {s : State} (hs : hSt G) (hr : hR G s) : vk_R "LossHouseLaw" 68 "layer bb " (hls_68 G) s := vk_R.warm hr.1 (vk_R.of (hW0 hs 1481 (by decide +kernel)) (hLs_68 hs).1)
def lsT_70 : List Nat := [32, 120, 115, 32, 108, 105, 110, 101, 32, 42, 32]
def hls_70 (G : hG) : Nat := had G (.string "LossHouseLaw" 70)
set_option maxRecDepth 100000 in
theorem hLs_70 {G : hG} (hs : hSt G) : hev G (.string "LossHouseLaw" 70) = some (.ref (hls_70 G)) ∧ sS G (hls_70 G) lsT_70.length (lsW lsT_70) :=
  sS_of (G := G) (tm := (.string "LossHouseLaw" 70)) (L := 11) (W := lsW lsT_70) (hN hs 1044 (by decide +kernel)) (hN hs 1045 (by decide +kernel)) (hN hs 1046 (by decide +kernel)) (by decide) (hN hs 1047 (by decide +kernel)) (hNs hs [1048, 1049, 1050, 1051, 1052, 1053, 1054, 1055, 1056, 1057, 1058] (fun j => Cond.eq (.elem (.field (.string "LossHouseLaw" 70) "java/lang/String" "value" "[B") (.int (Int32.ofNat j))) (.int (nI (lsW lsT_70 j)))) 11 (by decide +kernel)) (by decide +kernel)
theorem hlsR_70 {G : hG} {s : State} (hs : hSt G) (hr : hR G s) : vk_R "LossHouseLaw" 70 " xs line * " (hls_70 G) s := vk_R.warm hr.1 (vk_R.of (hW0 hs 1482 (by decide +kernel)) (hLs_70 hs).1)
def lsT_72 : List Nat := [32, 43, 32]
def hls_72 (G : hG) : Nat := had G (.string "LossHouseLaw" 72)
set_option maxRecDepth 100000 in
theorem hLs_72 {G : hG} (hs : hSt G) : hev G (.string "LossHouseLaw" 72) = some (.ref (hls_72 G)) ∧ sS G (hls_72 G) lsT_72.length (lsW lsT_72) :=
  sS_of (G := G) (tm := (.string "LossHouseLaw" 72)) (L := 3) (W := lsW lsT_72) (hN hs 1059 (by decide +kernel)) (hN hs 1060 (by decide +kernel)) (hN hs 1061 (by decide +kernel)) (by decide) (hN hs 1062 (by decide +kernel)) (hNs hs [1063, 1064, 1065] (fun j => Cond.eq (.elem (.field (.string "LossHouseLaw" 72) "java/lang/String" "value" "[B") (.int (Int32.ofNat j))) (.int (nI (lsW lsT_72 j)))) 3 (by decide +kernel)) (by decide +kernel)
theorem hlsR_72 {G : hG} {s : State} (hs : hSt G) (hr : hR G s) : vk_R "LossHouseLaw" 72 " + " (hls_72 G) s := vk_R.warm hr.1 (vk_R.of (hW0 hs 1483 (by decide +kernel)) (hLs_72 hs).1)
def lsT_74 : List Nat := [32, 121, 101, 97, 114, 108, 121, 32]
def hls_74 (G : hG) : Nat := had G (.string "LossHouseLaw" 74)
set_option maxRecDepth 100000 in
theorem hLs_74 {G : hG} (hs : hSt G) : hev G (.string "LossHouseLaw" 74) = some (.ref (hls_74 G)) ∧ sS G (hls_74 G) lsT_74.length (lsW lsT_74) :=
  sS_of (G := G) (tm := (.string "LossHouseLaw" 74)) (L := 8) (W := lsW lsT_74) (hN hs 1066 (by decide +kernel)) (hN hs 1067 (by decide +kernel)) (hN hs 1068 (by decide +kernel)) (by decide) (hN hs 1069 (by decide +kernel)) (hNs hs [1070, 1071, 1072, 1073, 1074, 1075, 1076, 1077] (fun j => Cond.eq (.elem (.field (.string "LossHouseLaw" 74) "java/lang/String" "value" "[B") (.int (Int32.ofNat j))) (.int (nI (lsW lsT_74 j)))) 8 (by decide +kernel)) (by decide +kernel)
theorem hlsR_74 {G : hG} {s : State} (hs : hSt G) (hr : hR G s) : vk_R "LossHouseLaw" 74 " yearly " (hls_74 G) s := vk_R.warm hr.1 (vk_R.of (hW0 hs 1484 (by decide +kernel)) (hLs_74 hs).1)
def lsT_76 : List Nat := [32, 97, 102, 116, 101, 114, 32]
def hls_76 (G : hG) : Nat := had G (.string "LossHouseLaw" 76)
set_option maxRecDepth 100000 in
theorem hLs_76 {G : hG} (hs : hSt G) : hev G (.string "LossHouseLaw" 76) = some (.ref (hls_76 G)) ∧ sS G (hls_76 G) lsT_76.length (lsW lsT_76) :=
  sS_of (G := G) (tm := (.string "LossHouseLaw" 76)) (L := 7) (W := lsW lsT_76) (hN hs 1078 (by decide +kernel)) (hN hs 1079 (by decide +kernel)) (hN hs 1080 (by decide +kernel)) (by decide) (hN hs 1081 (by decide +kernel)) (hNs hs [1082, 1083, 1084, 1085, 1086, 1087, 1088] (fun j => Cond.eq (.elem (.field (.string "LossHouseLaw" 76) "java/lang/String" "value" "[B") (.int (Int32.ofNat j))) (.int (nI (lsW lsT_76 j)))) 7 (by decide +kernel)) (by decide +kernel)
theorem hlsR_76 {G : hG} {s : State} (hs : hSt G) (hr : hR G s) : vk_R "LossHouseLaw" 76 " after " (hls_76 G) s := vk_R.warm hr.1 (vk_R.of (hW0 hs 1485 (by decide +kernel)) (hLs_76 hs).1)
def lsT_78 : List Nat := [32, 110, 101, 116, 32, 111, 102, 32, 97, 97]
def hls_78 (G : hG) : Nat := had G (.string "LossHouseLaw" 78)
set_option maxRecDepth 100000 in
theorem hLs_78 {G : hG} (hs : hSt G) : hev G (.string "LossHouseLaw" 78) = some (.ref (hls_78 G)) ∧ sS G (hls_78 G) lsT_78.length (lsW lsT_78) :=
  sS_of (G := G) (tm := (.string "LossHouseLaw" 78)) (L := 10) (W := lsW lsT_78) (hN hs 1089 (by decide +kernel)) (hN hs 1090 (by decide +kernel)) (hN hs 1091 (by decide +kernel)) (by decide) (hN hs 1092 (by decide +kernel)) (hNs hs [1093, 1094, 1095, 1096, 1097, 1098, 1099, 1100, 1101, 1102] (fun j => Cond.eq (.elem (.field (.string "LossHouseLaw" 78) "java/lang/String" "value" "[B") (.int (Int32.ofNat j))) (.int (nI (lsW lsT_78 j)))) 10 (by decide +kernel)) (by decide +kernel)
theorem hlsR_78 {G : hG} {s : State} (hs : hSt G) (hr : hR G s) : vk_R "LossHouseLaw" 78 " net of aa" (hls_78 G) s := vk_R.warm hr.1 (vk_R.of (hW0 hs 1486 (by decide +kernel)) (hLs_78 hs).1)
def lsT_80 : List Nat := []
def hls_80 (G : hG) : Nat := had G (.string "LossHouseLaw" 80)
set_option maxRecDepth 100000 in
theorem hLs_80 {G : hG} (hs : hSt G) : hev G (.string "LossHouseLaw" 80) = some (.ref (hls_80 G)) ∧ sS G (hls_80 G) lsT_80.length (lsW lsT_80) :=
  sS_of (G := G) (tm := (.string "LossHouseLaw" 80)) (L := 0) (W := lsW lsT_80) (hN hs 1103 (by decide +kernel)) (hN hs 1104 (by decide +kernel)) (hN hs 1105 (by decide +kernel)) (by decide) (hN hs 1106 (by decide +kernel)) (hNs hs [] (fun j => Cond.eq (.elem (.field (.string "LossHouseLaw" 80) "java/lang/String" "value" "[B") (.int (Int32.ofNat j))) (.int (nI (lsW lsT_80 j)))) 0 (by decide +kernel)) (by decide +kernel)
theorem hlsR_80 {G : hG} {s : State} (hs : hSt G) (hr : hR G s) : vk_R "LossHouseLaw" 80 "" (hls_80 G) s := vk_R.warm hr.1 (vk_R.of (hW0 hs 1487 (by decide +kernel)) (hLs_80 hs).1)
def lsT_82 : List Nat := [108, 97, 121, 101, 114, 32, 99, 99, 32]
def hls_82 (G : hG) : Nat := had G (.string "LossHouseLaw" 82)
set_option maxRecDepth 100000 in
theorem hLs_82 {G : hG} (hs : hSt G) : hev G (.string "LossHouseLaw" 82) = some (.ref (hls_82 G)) ∧ sS G (hls_82 G) lsT_82.length (lsW lsT_82) :=
  sS_of (G := G) (tm := (.string "LossHouseLaw" 82)) (L := 9) (W := lsW lsT_82) (hN hs 1107 (by decide +kernel)) (hN hs 1108 (by decide +kernel)) (hN hs 1109 (by decide +kernel)) (by decide) (hN hs 1110 (by decide +kernel)) (hNs hs [1111, 1112, 1113, 1114, 1115, 1116, 1117, 1118, 1119] (fun j => Cond.eq (.elem (.field (.string "LossHouseLaw" 82) "java/lang/String" "value" "[B") (.int (Int32.ofNat j))) (.int (nI (lsW lsT_82 j)))) 9 (by decide +kernel)) (by decide +kernel)
theorem hlsR_82 {G : hG} {s : State} (hs : hSt G) (hr : hR G s) : vk_R "LossHouseLaw" 82 "layer cc " (hls_82 G) s := vk_R.warm hr.1 (vk_R.of (hW0 hs 1488 (by decide +kernel)) (hLs_82 hs).1)
def lsT_84 : List Nat := [32, 43, 32, 49, 48, 32, 42, 32, 108, 105, 110, 101, 32, 120, 115, 32]
def hls_84 (G : hG) : Nat := had G (.string "LossHouseLaw" 84)
set_option maxRecDepth 100000 in
theorem hLs_84 {G : hG} (hs : hSt G) : hev G (.string "LossHouseLaw" 84) = some (.ref (hls_84 G)) ∧ sS G (hls_84 G) lsT_84.length (lsW lsT_84) :=
  sS_of (G := G) (tm := (.string "LossHouseLaw" 84)) (L := 16) (W := lsW lsT_84) (hN hs 1120 (by decide +kernel)) (hN hs 1121 (by decide +kernel)) (hN hs 1122 (by decide +kernel)) (by decide) (hN hs 1123 (by decide +kernel)) (hNs hs [1124, 1125, 1126, 1127, 1128, 1129, 1130, 1131, 1132, 1133, 1134, 1135, 1136, 1137, 1138, 1139] (fun j => Cond.eq (.elem (.field (.string "LossHouseLaw" 84) "java/lang/String" "value" "[B") (.int (Int32.ofNat j))) (.int (nI (lsW lsT_84 j)))) 16 (by decide +kernel)) (by decide +kernel)
theorem hlsR_84 {G : hG} {s : State} (hs : hSt G) (hr : hR G s) : vk_R "LossHouseLaw" 84 " + 10 * line xs " (hls_84 G) s := vk_R.warm hr.1 (vk_R.of (hW0 hs 1489 (by decide +kernel)) (hLs_84 hs).1)
def lsT_86 : List Nat := [32, 114, 101, 105, 110, 115, 116, 97, 116, 101, 32]
def hls_86 (G : hG) : Nat := had G (.string "LossHouseLaw" 86)
set_option maxRecDepth 100000 in
theorem hLs_86 {G : hG} (hs : hSt G) : hev G (.string "LossHouseLaw" 86) = some (.ref (hls_86 G)) ∧ sS G (hls_86 G) lsT_86.length (lsW lsT_86) :=
  sS_of (G := G) (tm := (.string "LossHouseLaw" 86)) (L := 11) (W := lsW lsT_86) (hN hs 1140 (by decide +kernel)) (hN hs 1141 (by decide +kernel)) (hN hs 1142 (by decide +kernel)) (by decide) (hN hs 1143 (by decide +kernel)) (hNs hs [1144, 1145, 1146, 1147, 1148, 1149, 1150, 1151, 1152, 1153, 1154] (fun j => Cond.eq (.elem (.field (.string "LossHouseLaw" 86) "java/lang/String" "value" "[B") (.int (Int32.ofNat j))) (.int (nI (lsW lsT_86 j)))) 11 (by decide +kernel)) (by decide +kernel)
theorem hlsR_86 {G : hG} {s : State} (hs : hSt G) (hr : hR G s) : vk_R "LossHouseLaw" 86 " reinstate " (hls_86 G) s := vk_R.warm hr.1 (vk_R.of (hW0 hs 1490 (by decide +kernel)) (hLs_86 hs).1)
def lsT_88 : List Nat := [32, 97, 116, 32]
def hls_88 (G : hG) : Nat := had G (.string "LossHouseLaw" 88)
set_option maxRecDepth 100000 in
theorem hLs_88 {G : hG} (hs : hSt G) : hev G (.string "LossHouseLaw" 88) = some (.ref (hls_88 G)) ∧ sS G (hls_88 G) lsT_88.length (lsW lsT_88) :=
  sS_of (G := G) (tm := (.string "LossHouseLaw" 88)) (L := 4) (W := lsW lsT_88) (hN hs 1155 (by decide +kernel)) (hN hs 1156 (by decide +kernel)) (hN hs 1157 (by decide +kernel)) (by decide) (hN hs 1158 (by decide +kernel)) (hNs hs [1159, 1160, 1161, 1162] (fun j => Cond.eq (.elem (.field (.string "LossHouseLaw" 88) "java/lang/String" "value" "[B") (.int (Int32.ofNat j))) (.int (nI (lsW lsT_88 j)))) 4 (by decide +kernel)) (by decide +kernel)
theorem hlsR_88 {G : hG} {s : State} (hs : hSt G) (hr : hR G s) : vk_R "LossHouseLaw" 88 " at " (hls_88 G) s := vk_R.warm hr.1 (vk_R.of (hW0 hs 1491 (by decide +kernel)) (hLs_88 hs).1)
def lsT_90 : List Nat := [32, 110, 101, 116, 32, 111, 102, 32, 97, 97, 44, 32, 98, 98, 32, 119, 104, 101, 110, 32, 97, 109, 111, 117, 110, 116, 32, 62, 61, 32]
def hls_90 (G : hG) : Nat := had G (.string "LossHouseLaw" 90)
set_option maxRecDepth 100000 in
theorem hLs_90 {G : hG} (hs : hSt G) : hev G (.string "LossHouseLaw" 90) = some (.ref (hls_90 G)) ∧ sS G (hls_90 G) lsT_90.length (lsW lsT_90) :=
  sS_of (G := G) (tm := (.string "LossHouseLaw" 90)) (L := 30) (W := lsW lsT_90) (hN hs 1163 (by decide +kernel)) (hN hs 1164 (by decide +kernel)) (hN hs 1165 (by decide +kernel)) (by decide) (hN hs 1166 (by decide +kernel)) (hNs hs [1167, 1168, 1169, 1170, 1171, 1172, 1173, 1174, 1175, 1176, 1177, 1178, 1179, 1180, 1181, 1182, 1183, 1184, 1185, 1186, 1187, 1188, 1189, 1190, 1191, 1192, 1193, 1194, 1195, 1196] (fun j => Cond.eq (.elem (.field (.string "LossHouseLaw" 90) "java/lang/String" "value" "[B") (.int (Int32.ofNat j))) (.int (nI (lsW lsT_90 j)))) 30 (by decide +kernel)) (by decide +kernel)
theorem hlsR_90 {G : hG} {s : State} (hs : hSt G) (hr : hR G s) : vk_R "LossHouseLaw" 90 " net of aa, bb when amount >= " (hls_90 G) s := vk_R.warm hr.1 (vk_R.of (hW0 hs 1492 (by decide +kernel)) (hLs_90 hs).1)
def lsT_92 : List Nat := [32, 111, 114, 32, 110, 111, 116, 32, 108, 105, 110, 101, 32, 60, 32]
def hls_92 (G : hG) : Nat := had G (.string "LossHouseLaw" 92)
set_option maxRecDepth 100000 in
theorem hLs_92 {G : hG} (hs : hSt G) : hev G (.string "LossHouseLaw" 92) = some (.ref (hls_92 G)) ∧ sS G (hls_92 G) lsT_92.length (lsW lsT_92) :=
  sS_of (G := G) (tm := (.string "LossHouseLaw" 92)) (L := 15) (W := lsW lsT_92) (hN hs 1197 (by decide +kernel)) (hN hs 1198 (by decide +kernel)) (hN hs 1199 (by decide +kernel)) (by decide) (hN hs 1200 (by decide +kernel)) (hNs hs [1201, 1202, 1203, 1204, 1205, 1206, 1207, 1208, 1209, 1210, 1211, 1212, 1213, 1214, 1215] (fun j => Cond.eq (.elem (.field (.string "LossHouseLaw" 92) "java/lang/String" "value" "[B") (.int (Int32.ofNat j))) (.int (nI (lsW lsT_92 j)))) 15 (by decide +kernel)) (by decide +kernel)
theorem hlsR_92 {G : hG} {s : State} (hs : hSt G) (hr : hR G s) : vk_R "LossHouseLaw" 92 " or not line < " (hls_92 G) s := vk_R.warm hr.1 (vk_R.of (hW0 hs 1493 (by decide +kernel)) (hLs_92 hs).1)
def lsT_94 : List Nat := [59]
def hls_94 (G : hG) : Nat := had G (.string "LossHouseLaw" 94)
set_option maxRecDepth 100000 in
theorem hLs_94 {G : hG} (hs : hSt G) : hev G (.string "LossHouseLaw" 94) = some (.ref (hls_94 G)) ∧ sS G (hls_94 G) lsT_94.length (lsW lsT_94) :=
  sS_of (G := G) (tm := (.string "LossHouseLaw" 94)) (L := 1) (W := lsW lsT_94) (hN hs 1216 (by decide +kernel)) (hN hs 1217 (by decide +kernel)) (hN hs 1218 (by decide +kernel)) (by decide) (hN hs 1219 (by decide +kernel)) (hNs hs [1220] (fun j => Cond.eq (.elem (.field (.string "LossHouseLaw" 94) "java/lang/String" "value" "[B") (.int (Int32.ofNat j))) (.int (nI (lsW lsT_94 j)))) 1 (by decide +kernel)) (by decide +kernel)
theorem hlsR_94 {G : hG} {s : State} (hs : hSt G) (hr : hR G s) : vk_R "LossHouseLaw" 94 ";" (hls_94 G) s := vk_R.warm hr.1 (vk_R.of (hW0 hs 1494 (by decide +kernel)) (hLs_94 hs).1)
