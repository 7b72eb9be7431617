-- LAYERS AS THEY MAY BE
def GL (L : hLy) (F : Nat → hFo) : Prop := (1 ≤ (lyI L 0).toInt ∧ (lyI L 0).toInt ≤ 100) ∧ (∀ li, li ≤ 5 → ∀ am, (fv (F 0) (nI li) am).toInt ≤ 1000000) ∧ (∀ y, y < 10 → (0 ≤ (lyN L 1 y).toInt ∧ (lyN L 1 y).toInt ≤ 1000000) ∧ 0 ≤ (lyN L 3 y).toInt ∧ (lyB L y = -1 ∨ (0 ≤ (lyB L y).toInt ∧ (lyB L y).toInt ≤ 2147483647))) ∧ ∃ n, n ≤ 4 ∧ lyI L 2 = nI n ∧ ∀ k, k < n → 0 ≤ (lyN L 0 k).toInt ∧ (lyN L 0 k).toInt ≤ 300
theorem sMax_0 {v : Nat} (h : v < 2147483648) : sMax (nI v) 0 = nI v := by
  unfold sMax
  by_cases h0 : v = 0
  · subst h0; decide
  · exact if_neg (fun z => absurd ((nI_ltI (a := v) (b := 0) (by omega) (by omega)).mp z) (by omega))
theorem FoGs.congr {L L' : hLy} {F : Nat → hFo} (h : FoGs L F) (hR : lyR L' = lyR L) : FoGs L' F := by
  unfold FoGs
  rw [hR]
  exact h
theorem shA.g {nb : Nat → Int32} {p : Nat} {L : hLy} {F : Nat → hFo} (h : shA nb p L F) : FoGs L F := by
  obtain ⟨-, -, ⟨r0, r1, r2⟩, f0, f1⟩ := h
  exact ⟨(fo_1 f0).1, (fo_1 f1).1, fun q hq => absurd (r0.symm.trans hq) (by simp), fun q hq => absurd (r1.symm.trans hq) (by simp), fun q hq => absurd (r2.symm.trans hq) (by simp)⟩
theorem shB.g {nb : Nat → Int32} {p : Nat} {L : hLy} {F : Nat → hFo} (h : shB nb p L F) : FoGs L F := by
  obtain ⟨-, -, ⟨r0, r1, r2⟩, f0, f1, f2, f3⟩ := h
  exact ⟨(fo_1 f0).1, (fo_5a f1).1, fun q hq => (fo_1 f2).1, fun q hq => (fo_1 f3).1, fun q hq => absurd (r2.symm.trans hq) (by simp)⟩
theorem shC.g {nb : Nat → Int32} {p b : Nat} {L : hLy} {F : Nat → hFo} (h : shC nb p b L F) : FoGs L F := by
  obtain ⟨-, -, ⟨r0, r1, r2⟩, f0, f1, f4⟩ := h
  exact ⟨(fo_5b f0).1, (fo_1 f1).1, fun q hq => absurd (r0.symm.trans hq) (by simp), fun q hq => absurd (r1.symm.trans hq) (by simp), fun q hq => (fo_8 f4).1⟩
/-- what a settled layer's years hold -/
def SetIs (L : hLy) (F : Nat → hFo) (N1 : Nat → Nat → Int32) (B1 : Nat → Int64) : Prop := N1 0 = lyN L 0 ∧ (∀ y, y < 10 → N1 1 y = vY (F 0) ∧ N1 2 y = vY (F 1) ∧ N1 3 y = vAft L F ∧ B1 y = vBnd L F (vY (F 0)))
def nbOk (nb : Nat → Int32) : Prop := ∀ i, ∃ v, v < 90000 ∧ nb i = nI v
/-- without a test the fifth formula is any -/
def fA (F : Nat → hFo) : Nat → hFo := fun j => if j = 4 then F 0 else F j
theorem GL.a {nb : Nat → Int32} {p : Nat} {L L' : hLy} {F : Nat → hFo} {N1 : Nat → Nat → Int32} {B1 : Nat → Int64} {x : Nat} (h : shA nb p L F) (hb : nbOk nb) (hL : L' = lyU L 0 (nI x)) (hx : 1 ≤ x ∧ x ≤ 100) (hs : SetIs L' F N1 B1) : GL (lyZ L' N1 B1) (fA F) := by
  subst hL
  obtain ⟨hI, hN, ⟨r0, r1, r2⟩, f0, f1⟩ := h
  obtain ⟨v, hv, e0⟩ := hb (p + 1)
  have g0 : ∀ li am, fv (F 0) li am = nI v := fun li am => ((fo_1 f0).2 li am).trans e0
  have y0 : vY (F 0) = nI v := by unfold vY; rw [g0]; exact sMax_0 (by omega)
  refine ⟨?_, fun li hli am => ?_, fun y hy => ?_, 0, by omega, ?_, fun k hk => absurd hk (by omega)⟩
  · show 1 ≤ (nI x).toInt ∧ (nI x).toInt ≤ 100
    rw [nI_toInt (by omega)]
    omega
  · show (fv (F 0) (nI li) am).toInt ≤ 1000000
    rw [g0, nI_toInt (by omega)]
    omega
  · obtain ⟨k1, k2, k3, k4⟩ := hs.2 y hy
    refine ⟨?_, ?_, Or.inl ?_⟩
    · show 0 ≤ (N1 1 y).toInt ∧ (N1 1 y).toInt ≤ 1000000
      rw [k1, y0, nI_toInt (by omega)]
      omega
    · show 0 ≤ (N1 3 y).toInt
      rw [k3, show vAft (lyU L 0 (nI x)) F = 0 from if_pos r1]
      decide
    · show B1 y = -1
      rw [k4]
      have e1 : lyI (lyU L 0 (nI x)) 1 = -1 := by show upd (lyI L) 0 (nI x) 1 = -1; rw [hI]; rfl
      unfold vBnd
      rw [if_pos e1]
      exact if_pos r0
  · show upd (lyI L) 0 (nI x) 2 = nI 0
    rw [hI]
    rfl
theorem GL.b {nb : Nat → Int32} {p : Nat} {L L' : hLy} {F : Nat → hFo} {N1 : Nat → Nat → Int32} {B1 : Nat → Int64} (h : shB nb p L F) (hb : nbOk nb) (hL : lyI L' 0 = lyI L 0 ∧ lyI L' 1 = lyI L 1 ∧ lyI L' 2 = lyI L 2 ∧ lyR L' = lyR L) (hs : SetIs L' F N1 B1) : GL (lyZ L' N1 B1) (fA F) := by
  obtain ⟨hI, hN, ⟨⟨z0, r0⟩, ⟨z1, r1⟩, r2⟩, f0, f1, f2, f3⟩ := h
  obtain ⟨e1, e2, e3, e4⟩ := hL
  rw [hI] at e1 e2 e3
  obtain ⟨v, hv, q0⟩ := hb (p + 1)
  obtain ⟨w, hw, q2⟩ := hb (p + 9)
  obtain ⟨u, hu, q3⟩ := hb (p + 11)
  have g0 : ∀ li am, fv (F 0) li am = nI v := fun li am => ((fo_1 f0).2 li am).trans q0
  have y0 : vY (F 0) = nI v := by unfold vY; rw [g0]; exact sMax_0 (by omega)
  have y2 : vY (F 2) = nI w := by unfold vY; rw [((fo_1 f2).2 0 0).trans q2]; exact sMax_0 (by omega)
  have y3 : vY (F 3) = nI u := by unfold vY; rw [((fo_1 f3).2 0 0).trans q3]; exact sMax_0 (by omega)
  refine ⟨?_, fun li hli am => ?_, fun y hy => ?_, 0, by omega, ?_, fun k hk => absurd hk (by omega)⟩
  · show 1 ≤ (lyI L' 0).toInt ∧ (lyI L' 0).toInt ≤ 100
    rw [e1]
    decide
  · show (fv (F 0) (nI li) am).toInt ≤ 1000000
    rw [g0, nI_toInt (by omega)]
    omega
  · obtain ⟨k1, k2, k3, k4⟩ := hs.2 y hy
    refine ⟨?_, ?_, Or.inr ?_⟩
    · show 0 ≤ (N1 1 y).toInt ∧ (N1 1 y).toInt ≤ 1000000
      rw [k1, y0, nI_toInt (by omega)]
      omega
    · show 0 ≤ (N1 3 y).toInt
      rw [k3, show vAft L' F = vY (F 3) from if_neg (by rw [e4, r1]; simp), y3, nI_toInt (by omega)]
      omega
    · show 0 ≤ (B1 y).toInt ∧ (B1 y).toInt ≤ 2147483647
      rw [k4]
      have e5 : vBnd L' F (vY (F 0)) = (vY (F 2)).toInt64 := by
        unfold vBnd
        rw [if_pos (show lyI L' 1 = -1 from e2)]
        exact if_neg (by rw [e4, r0]; simp)
      rw [e5, y2, nI_l (by omega), lN_toInt (by omega)]
      omega
  · show lyI L' 2 = nI 0
    rw [e3]
    rfl
theorem GL.c {nb : Nat → Int32} {p b n : Nat} {L L' : hLy} {F : Nat → hFo} {N1 : Nat → Nat → Int32} {B1 : Nat → Int64} {r : Nat} (h : shC nb p b L F) (hb : nbOk nb) (hL : lyI L' 0 = lyI L 0 ∧ lyI L' 1 = nI r ∧ lyI L' 2 = nI n ∧ lyR L' = lyR L) (hr : r < 5) (hn : n ≤ 4) (hat : ∀ k, k < n → 0 ≤ (lyN L' 0 k).toInt ∧ (lyN L' 0 k).toInt ≤ 300) (hs : SetIs L' F N1 B1) : GL (lyZ L' N1 B1) F := by
  obtain ⟨hI, hN, ⟨r0, r1, r2⟩, f0, f1, f4⟩ := h
  obtain ⟨e1, e2, e3, e4⟩ := hL
  rw [hI] at e1
  obtain ⟨v, hv, q0⟩ := hb (p + 1)
  obtain ⟨w, hw, q2⟩ := hb (p + 3)
  have g0 : ∀ li am, li ≤ 5 → fv (F 0) (nI li) am = nI (v + w * li) := fun li am _ => by rw [(fo_5b f0).2, q0, q2, pk_mul, nI_add]
  have y0 : vY (F 0) = nI v := by
    unfold vY
    rw [show fv (F 0) 0 0 = nI v from (g0 0 0 (by omega)).trans (by rw [Nat.mul_zero, Nat.add_zero])]
    exact sMax_0 (by omega)
  have hwl : ∀ li, li ≤ 5 → w * li ≤ 450000 := fun li hli => Nat.le_trans (Nat.mul_le_mul (Nat.le_of_lt hw) hli) (by decide)
  refine ⟨?_, fun li hli am => ?_, fun y hy => ?_, n, hn, e3, fun k hk => ?_⟩
  · show 1 ≤ (lyI L' 0).toInt ∧ (lyI L' 0).toInt ≤ 100
    rw [e1]
    decide
  · show (fv (F 0) (nI li) am).toInt ≤ 1000000
    have := hwl li hli
    rw [g0 li am hli, nI_toInt (by omega)]
    omega
  · obtain ⟨k1, k2, k3, k4⟩ := hs.2 y hy
    refine ⟨?_, ?_, Or.inr ?_⟩
    · show 0 ≤ (N1 1 y).toInt ∧ (N1 1 y).toInt ≤ 1000000
      rw [k1, y0, nI_toInt (by omega)]
      omega
    · show 0 ≤ (N1 3 y).toInt
      rw [k3, show vAft L' F = 0 from if_pos (by rw [e4]; exact r1)]
      decide
    · show 0 ≤ (B1 y).toInt ∧ (B1 y).toInt ≤ 2147483647
      rw [k4]
      have hne : ¬ lyI L' 1 = -1 := by
        rw [e2]
        exact fun z9 => absurd (congrArg Int32.toInt z9) (by rw [nI_toInt (by omega), show (-1 : Int32).toInt = -1 from by decide]; omega)
      have e5 : vBnd L' F (vY (F 0)) = lN (v * (1 + r)) := by
        unfold vBnd
        rw [if_neg hne, if_pos (if_pos (by rw [e4]; exact r0)), y0, e2, show (1 : Int32) + nI r = nI (1 + r) from nI_add 1 r, nI_l (by omega), nI_l (by omega), lN_mul]
      have hvr : v * (1 + r) ≤ 450000 := Nat.le_trans (Nat.mul_le_mul (Nat.le_of_lt hv) (show 1 + r ≤ 5 by omega)) (by decide)
      rw [e5, lN_toInt (by omega)]
      omega
  · show 0 ≤ (N1 0 k).toInt ∧ (N1 0 k).toInt ≤ 300
    rw [hs.1]
    exact hat k hk
-- THE HOUSE BEHIND A TEXT
theorem CeE.fr2 {G : hG} {Z : Nat → Prop} {M M' : hM} {S S' : hSy} {cx : Nat} (hc : cx < 3) (h : hFr Z M M') (hz : ∀ u, 100 ≤ u → u < 400 → ¬ Z u) (hA : ∀ u, u ≠ 14 → u < 2000 → sA S' u = sA S u) (hV : CeE G M S cx) : CeE G M' S' cx := by
  obtain ⟨am, be, yl, lo, ho, ham, ⟨fb, hfb, hbo⟩, hbr, ⟨fy, hfy, hyo⟩, hyr, hlo⟩ := hV
  refine ⟨am, be, yl, lo, ?_, ?_, ⟨fb, fun i hi => ?_, ?_⟩, fun i hi => ?_, ⟨fy, fun k hk => ?_, ?_⟩, fun k hk => ?_, ?_⟩
  · rw [hA (100 * (cx + 1)) (by omega) (by omega), hA (100 * (cx + 1) + 1) (by omega) (by omega), hA (100 * (cx + 1) + 2) (by omega) (by omega), hA (100 * (cx + 1) + 3) (by omega) (by omega), hA (100 * (cx + 1) + 4) (by omega) (by omega), hA (13) (by omega) (by omega), hA (15) (by omega) (by omega)]; exact h _ _ _ ho (hz _ (by omega) (by omega))
  · rw [hA (100 * (cx + 1) + 1) (by omega) (by omega)]; exact h _ _ _ ham (hz _ (by omega) (by omega))
  · rw [hA (100 * (cx + 1) + 10 + i) (by omega) (by omega)]; exact hfb i hi
  · rw [hA (100 * (cx + 1) + 2) (by omega) (by omega)]; exact h _ _ _ hbo (hz _ (by omega) (by omega))
  · rw [hA (100 * (cx + 1) + 10 + i) (by omega) (by omega)]; exact h _ _ _ (hbr i hi) (hz _ (by omega) (by omega))
  · rw [hA (100 * (cx + 1) + 60 + k) (by omega) (by omega)]; exact hfy k hk
  · rw [hA (100 * (cx + 1) + 3) (by omega) (by omega)]; exact h _ _ _ hyo (hz _ (by omega) (by omega))
  · rw [hA (100 * (cx + 1) + 60 + k) (by omega) (by omega)]; exact h _ _ _ (hyr k hk) (hz _ (by omega) (by omega))
  · rw [hA (100 * (cx + 1) + 4) (by omega) (by omega)]; exact h _ _ _ hlo (hz _ (by omega) (by omega))
theorem TrE.fr2 {G : hG} {Z : Nat → Prop} {M M' : hM} {S S' : hSy} {j : Nat} (hj : j < 4) (h : hFr Z M M') (hz : ∀ u, 400 ≤ u → u < 480 → ¬ Z u) (hA : ∀ u, u ≠ 14 → u < 2000 → sA S' u = sA S u) (hV : TrE G M S j) : TrE G M' S' j := by
  obtain ⟨ce, nv, h1, ⟨f, h2, h3⟩, h4⟩ := hV
  refine ⟨ce, nv, ?_, ⟨f, fun i hi => ?_, ?_⟩, fun i hi => ?_⟩
  · rw [hA (400 + 20 * j) (by omega) (by omega), hA (400 + 20 * j + 1) (by omega) (by omega)]; exact h _ _ _ h1 (hz _ (by omega) (by omega))
  · rw [hA (400 + 20 * j + 2 + i) (by omega) (by omega)]; exact h2 i hi
  · rw [hA (400 + 20 * j + 1) (by omega) (by omega)]; exact h _ _ _ h3 (hz _ (by omega) (by omega))
  · rw [hA (400 + 20 * j + 2 + i) (by omega) (by omega)]; exact h _ _ _ (h4 i hi) (hz _ (by omega) (by omega))
def aTau (A : Nat → Nat) (q qa qb qc : Nat) : Nat → Nat := fun u => if u = 14 then q else if u = 2000 then qa else if u = 2100 then qb else if u = 2200 then qc else A u
def l3 {α : Type} (a b c : α) : Nat → α := fun k => match k with | 0 => a | 1 => b | _ => c
theorem QV.taught {G : hG} {M M' : hM} {A : Nat → Nat} {now : Nat} {tail er tl er' tl' mc : Int32} {pr ex : Nat → Int32} {q qa qb qc cap : Nat} {f : Nat → Option Nat} {La Lb Lc : hLy} {Fa Fb Fc : Nat → hFo} (hV : QV G M (s00 A) (now, tail, er, tl, pr, ex)) (hf : hFr (fun u => u = 0 ∨ u = 1 ∨ (3 ≤ u ∧ u < 15) ∨ (2000 ≤ u ∧ u < 2300) ∨ u = 3013 ∨ u = 3014) M M')
    (ho0 : M' (A 0) = some (0, .inr (12, hoO (s00 A) (now, tail, er', tl', pr, ex)))) (ho1 : M' (A 1) = some (1, .inr (9, [.ref (A 2), .int tl']))) (h13 : M' (A 13) = some (13, .inr (2, [.int mc, .ref q, .int (nI 3)]))) (h14 : M' q = some (14, .inl (hT G 6, cap, .inr (.inr (.inr (.inr f)))))) (c1 : 3 ≤ cap) (c2 : cap ≤ 1000) (hfi : ∀ i, i < 3 → f i = some (gq qa qb qc i))
    (va : LaV G M' qa 2000 La Fa) (vb : LaV G M' qb 2100 Lb Fb) (vc : LaV G M' qc 2200 Lc Fc) (ga : LaG La Fa) (gb : LaG Lb Fb) (gc : LaG Lc Fc) : QV G M' (3, l3 La Lb Lc, l3 Fa Fb Fc, 0, default, aTau A q qa qb qc) (now, tail, er', tl', pr, ex) := by
  obtain ⟨⟨hl13, he14, hl15, he16, hLa, hCl⟩, hG1, ⟨h0, h1, h17, h18, ff, h4, h19⟩, hCe, hTr, hnow, hyn⟩ := hV
  have hA : ∀ u, u ≠ 14 → u < 2000 → sA (3, l3 La Lb Lc, l3 Fa Fb Fc, 0, default, aTau A q qa qb qc) u = sA (s00 A) u := fun u z1 z2 => by
    show aTau A q qa qb qc u = A u
    unfold aTau
    rw [if_neg z1, if_neg (by omega), if_neg (by omega), if_neg (by omega)]
  have q3 : ∀ k, k < 3 → k = 0 ∨ k = 1 ∨ k = 2 := fun k hk => by omega
  refine ⟨⟨?_, fun _ => ?_, ?_, fun z9 => absurd z9 (Nat.not_lt_zero 0), fun k hk => ?_, fun i hi => absurd hi (Nat.not_lt_zero i)⟩, ⟨(by show 3 ≤ 8; decide), (by show 0 ≤ 40; decide), fun k hk => ?_, fun i hi => absurd hi (Nat.not_lt_zero i)⟩, ⟨?_, ?_, ?_, ?_, ff, fun j hj => ?_, ?_⟩, fun cx hc => (hCe cx hc).fr2 hc hf (fun u z1 z2 => by omega) hA, fun j hj => (hTr j hj).fr2 hj hf (fun u z1 z2 => by omega) hA, hnow, fun i hi => absurd hi (Nat.not_lt_zero i)⟩
  · refine ⟨mc, ?_⟩
    rw [hA 13 (by omega) (by omega)]
    exact h13
  · refine ⟨cap, f, c1, c2, fun i hi => ?_, h14⟩
    rcases q3 i hi with rfl | rfl | rfl <;> exact hfi _ (by omega)
  · obtain ⟨mc15, e15⟩ := hl15
    refine ⟨mc15, ?_⟩
    rw [hA 15 (by omega) (by omega), hA 16 (by omega) (by omega)]
    exact hf _ _ _ e15 (by omega)
  · rcases q3 k hk with rfl | rfl | rfl
    · exact va
    · exact vb
    · exact vc
  · rcases q3 k hk with rfl | rfl | rfl
    · exact ga
    · exact gb
    · exact gc
  · show M' (aTau A q qa qb qc 0) = some (0, .inr (12, [.ref (aTau A q qa qb qc 1), .ref (aTau A q qa qb qc 3), .ref (aTau A q qa qb qc 8), .ref (aTau A q qa qb qc 11), .ref (aTau A q qa qb qc 13), .ref (aTau A q qa qb qc 15), .ref (aTau A q qa qb qc 100), .ref (aTau A q qa qb qc 200), .ref (aTau A q qa qb qc 300), .ref (aTau A q qa qb qc 19), .ref (aTau A q qa qb qc 17), .ref (aTau A q qa qb qc 18), .int (nI now), .int tail, .int er']))
    exact ho0
  · rw [hA 1 (by omega) (by omega), hA 2 (by omega) (by omega)]; exact ho1
  · rw [hA 17 (by omega) (by omega)]; exact hf _ _ _ h17 (by omega)
  · rw [hA 18 (by omega) (by omega)]; exact hf _ _ _ h18 (by omega)
  · rw [hA (400 + 20 * j) (by omega) (by omega)]; exact h4 j hj
  · rw [hA 19 (by omega) (by omega)]; exact hf _ _ _ h19 (by omega)
