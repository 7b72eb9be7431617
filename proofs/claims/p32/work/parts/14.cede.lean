-- WHAT STAYS WHEN SCRATCH ROWS ARE WRITTEN
def hS0 (u : Nat) : Prop := 2000 ≤ u ∧ u < 3000 ∧ u % 10 = 9
def hScr (u : Nat) : Prop := hS0 u ∨ (100 ≤ u ∧ u < 600)
def hS1 (cx u : Nat) : Prop := hS0 u ∨ (100 * (cx + 1) ≤ u ∧ u < 100 * (cx + 1) + 100)
theorem hSim.obj {G : hG} {S : Nat → Prop} {M M' : hM} (h : hSim G S M M') {a t ci : Nat} {fs : List Value} (he : M a = some (t, .inr (ci, fs))) (hne : ci ≠ 11 := by decide) : M' a = some (t, .inr (ci, fs)) := by
  rcases h a with h1 | ⟨t', n, f, f', h1, h2, -⟩ | ⟨t', x, v, v', h1, h2, -⟩
  · rw [h1]; exact he
  · rw [he] at h2; cases h2
  · rw [he] at h2; cases h2; exact absurd rfl hne
theorem hSim.oth {G : hG} {S : Nat → Prop} {M M' : hM} (h : hSim G S M M') {a t n : Nat} {cA : ClassId} {z : (Nat → Int64) ⊕ (Nat → UInt32) ⊕ (Nat → UInt64) ⊕ (Nat → Option Nat)} (he : M a = some (t, .inl (cA, n, .inr z))) : M' a = some (t, .inl (cA, n, .inr z)) := by
  rcases h a with h1 | ⟨t', n', f, f', h1, h2, -⟩ | ⟨t', x, v, v', h1, h2, -⟩
  · rw [h1]; exact he
  · rw [he] at h2; cases h2
  · rw [he] at h2; cases h2
theorem LsO.sim {G : hG} {S : Nat → Prop} {M M' : hM} {a t e n : Nat} (h : hSim G S M M') (hO : LsO M a t e n) : LsO M' a t e n := by
  obtain ⟨mc, ho⟩ := hO
  exact ⟨mc, h.obj ho⟩
theorem LsE.sim {G : hG} {S : Nat → Prop} {M M' : hM} {e t n : Nat} {g : Nat → Nat} (h : hSim G S M M') (hE : LsE G M e t n g) : LsE G M' e t n g := by
  obtain ⟨cap, f, h1, h2, h3, h4⟩ := hE
  exact ⟨cap, f, h1, h2, h3, h.oth h4⟩
theorem FoV.sim {G : hG} {S : Nat → Prop} {M M' : hM} {a t : Nat} {F : hFo} (h : hSim G S M M') (hs : ¬ S (t + 2)) (hF : FoV G M a t F) : FoV G M' a t F := by
  obtain ⟨h1, ⟨f, h2, h3⟩, h4, s0, h5⟩ := hF
  obtain ⟨s1, h6⟩ := h.row h5
  exact ⟨h.obj h1, ⟨f, h2, h.oth h3⟩, h.keep h4 hs, s1, h6⟩
theorem LyV.sim {G : hG} {S : Nat → Prop} {M M' : hM} {a t : Nat} {L : hLy} (h : hSim G S M M') (hs : ¬ S (t + 1) ∧ ¬ S (t + 2) ∧ ¬ S (t + 3) ∧ ¬ S (t + 4)) (hL : LyV G M a t L) : LyV G M' a t L :=
  ⟨h.obj hL.1, h.keep hL.2.1 hs.1, h.keep hL.2.2.1 hs.2.1, h.keep hL.2.2.2.1 hs.2.2.1, h.keep hL.2.2.2.2.1 hs.2.2.2, h.oth hL.2.2.2.2.2⟩
theorem ClV.sim {G : hG} {S : Nat → Prop} {M M' : hM} {a t : Nat} {C : hCl} (h : hSim G S M M') (hs : ¬ S (t + 1) ∧ ¬ S (t + 2)) (hC : ClV G M a t C) : ClV G M' a t C :=
  ⟨h.obj hC.1, h.keep hC.2.1 hs.1, h.keep hC.2.2 hs.2⟩
theorem LaV.sim {G : hG} {S : Nat → Prop} {M M' : hM} {a k : Nat} {L : hLy} {F : Nat → hFo} (h : hSim G S M M') (hs : ∀ u, S u → hScr u) (hL : LaV G M a (2000 + 100 * k) L F) : LaV G M' a (2000 + 100 * k) L F := by
  have n : ∀ j, j % 10 ≠ 9 → ¬ S (2000 + 100 * k + j) := fun j hj q => by
    have := hs _ q
    unfold hScr hS0 at this
    omega
  exact ⟨hL.1.sim h ⟨n 1 (by decide), n 2 (by decide), n 3 (by decide), n 4 (by decide)⟩, hL.2.1.sim h (n 12 (by decide)), hL.2.2.1.sim h (n 22 (by decide)), fun q hq => (hL.2.2.2 q hq).sim h (n 52 (by decide))⟩
theorem SyV.sim {G : hG} {S : Nat → Prop} {M M' : hM} {Sy : hSy} (h : hSim G S M M') (hs : ∀ u, S u → hScr u) (hV : SyV G M Sy) : SyV G M' Sy := by
  refine ⟨hV.1.sim h, fun q => (hV.2.1 q).sim h, hV.2.2.1.sim h, fun q => (hV.2.2.2.1 q).sim h, fun k hk => (hV.2.2.2.2.1 k hk).sim h hs, fun i hi => (hV.2.2.2.2.2 i hi).sim h ⟨fun q => ?_, fun q => ?_⟩⟩ <;>
  · have := hs _ q
    unfold hScr hS0 at this
    omega
theorem CesV.sim {G : hG} {S : Nat → Prop} {M M' : hM} {Sy : hSy} {cx : Nat} {am : Nat → Int32} {be yl : Nat → Nat → Int32} {lo : Nat → Int32} (h : hSim G S M M') (hs : ∀ u, S u → ¬ (100 * (cx + 1) ≤ u ∧ u < 100 * (cx + 1) + 100)) (hV : CesV G M Sy cx am be yl lo) : CesV G M' Sy cx am be yl lo := by
  obtain ⟨ho, ham, ⟨fb, hfb, hbo⟩, hbr, ⟨fy, hfy, hyo⟩, hyr, hlo⟩ := hV
  refine ⟨h.obj ho, h.keep ham (fun q => hs _ q (by omega)), ⟨fb, hfb, h.oth hbo⟩, fun i hi => h.keep (hbr i hi) (fun q => hs _ q (by omega)), ⟨fy, hfy, h.oth hyo⟩, fun k hk => h.keep (hyr k hk) (fun q => hs _ q (by omega)), h.keep hlo (fun q => hs _ q (by omega))⟩
theorem hS0_scr : ∀ u, hS0 u → hScr u := fun u h => Or.inl h
theorem hS1_scr {cx : Nat} (hc : cx < 3) : ∀ u, hS1 cx u → hScr u := fun u h => by
  rcases h with h | h
  · exact Or.inl h
  · exact Or.inr (by omega)
theorem hS0_ces {cx : Nat} (hc : cx < 3) : ∀ u, hS0 u → ¬ (100 * (cx + 1) ≤ u ∧ u < 100 * (cx + 1) + 100) := fun u h => by unfold hS0 at h; omega
theorem hS1_ces {cx cy : Nat} (hc : cy < 3) (hne : cx ≠ cy) : ∀ u, hS1 cx u → ¬ (100 * (cy + 1) ≤ u ∧ u < 100 * (cy + 1) + 100) := fun u h => by
  unfold hS1 hS0 at h
  omega
theorem hS0_1 {cx : Nat} : ∀ u, hS0 u → hS1 cx u := fun u h => Or.inl h
section CESPUT
variable {G : hG} {M : hM} {Sy : hSy} {cx : Nat} {am : Nat → Int32} {be yl : Nat → Nat → Int32} {lo : Nat → Int32}
theorem CesV.putLo (hc : cx < 3) (lo' : Nat → Int32) (hV : CesV G M Sy cx am be yl lo) (hS : SyV G M Sy) : CesV G (hup M (sA Sy (100 * (cx + 1) + 4)) (100 * (cx + 1) + 4, .inl (hT G 0, 8, .inl lo'))) Sy cx am be yl lo' ∧ SyV G (hup M (sA Sy (100 * (cx + 1) + 4)) (100 * (cx + 1) + 4, .inl (hT G 0, 8, .inl lo'))) Sy ∧ hSim G (hS1 cx) M (hup M (sA Sy (100 * (cx + 1) + 4)) (100 * (cx + 1) + 4, .inl (hT G 0, 8, .inl lo'))) := by
  obtain ⟨ho, ham, ⟨fb, hfb, hbo⟩, hbr, ⟨fy, hfy, hyo⟩, hyr, hlo⟩ := hV
  have hq : hSim G (hS1 cx) M (hup M (sA Sy (100 * (cx + 1) + 4)) (100 * (cx + 1) + 4, .inl (hT G 0, 8, .inl lo'))) := hSim.put hlo (Or.inr (by omega))
  exact ⟨⟨hup_tag ho hlo (by omega), hup_tag ham hlo (by omega), ⟨fb, hfb, hup_tag hbo hlo (by omega)⟩, fun i hi => hup_tag (hbr i hi) hlo (by omega), ⟨fy, hfy, hup_tag hyo hlo (by omega)⟩, fun k hk => hup_tag (hyr k hk) hlo (by omega), hup_eq⟩, hS.sim hq (hS1_scr hc), hq⟩
theorem CesV.putAm (hc : cx < 3) (am' : Nat → Int32) (hV : CesV G M Sy cx am be yl lo) (hS : SyV G M Sy) : CesV G (hup M (sA Sy (100 * (cx + 1) + 1)) (100 * (cx + 1) + 1, .inl (hT G 0, 40, .inl am'))) Sy cx am' be yl lo ∧ SyV G (hup M (sA Sy (100 * (cx + 1) + 1)) (100 * (cx + 1) + 1, .inl (hT G 0, 40, .inl am'))) Sy ∧ hSim G (hS1 cx) M (hup M (sA Sy (100 * (cx + 1) + 1)) (100 * (cx + 1) + 1, .inl (hT G 0, 40, .inl am'))) := by
  obtain ⟨ho, ham, ⟨fb, hfb, hbo⟩, hbr, ⟨fy, hfy, hyo⟩, hyr, hlo⟩ := hV
  have hq : hSim G (hS1 cx) M (hup M (sA Sy (100 * (cx + 1) + 1)) (100 * (cx + 1) + 1, .inl (hT G 0, 40, .inl am'))) := hSim.put ham (Or.inr (by omega))
  exact ⟨⟨hup_tag ho ham (by omega), hup_eq, ⟨fb, hfb, hup_tag hbo ham (by omega)⟩, fun i hi => hup_tag (hbr i hi) ham (by omega), ⟨fy, hfy, hup_tag hyo ham (by omega)⟩, fun k hk => hup_tag (hyr k hk) ham (by omega), hup_tag hlo ham (by omega)⟩, hS.sim hq (hS1_scr hc), hq⟩
theorem CesV.putBe (hc : cx < 3) (i : Nat) (hi : i < 40) (b : Nat → Int32) (hV : CesV G M Sy cx am be yl lo) (hS : SyV G M Sy) : CesV G (hup M (sA Sy (100 * (cx + 1) + 10 + i)) (100 * (cx + 1) + 10 + i, .inl (hT G 0, 8, .inl b))) Sy cx am (va_up be i b) yl lo ∧ SyV G (hup M (sA Sy (100 * (cx + 1) + 10 + i)) (100 * (cx + 1) + 10 + i, .inl (hT G 0, 8, .inl b))) Sy ∧ hSim G (hS1 cx) M (hup M (sA Sy (100 * (cx + 1) + 10 + i)) (100 * (cx + 1) + 10 + i, .inl (hT G 0, 8, .inl b))) := by
  obtain ⟨ho, ham, ⟨fb, hfb, hbo⟩, hbr, ⟨fy, hfy, hyo⟩, hyr, hlo⟩ := hV
  have hq : hSim G (hS1 cx) M (hup M (sA Sy (100 * (cx + 1) + 10 + i)) (100 * (cx + 1) + 10 + i, .inl (hT G 0, 8, .inl b))) := hSim.put (hbr i hi) (Or.inr (by omega))
  refine ⟨⟨hup_tag ho (hbr i hi) (by omega), hup_tag ham (hbr i hi) (by omega), ⟨fb, hfb, hup_tag hbo (hbr i hi) (by omega)⟩, fun j hj => ?_, ⟨fy, hfy, hup_tag hyo (hbr i hi) (by omega)⟩, fun k hk => hup_tag (hyr k hk) (hbr i hi) (by omega), hup_tag hlo (hbr i hi) (by omega)⟩, hS.sim hq (hS1_scr hc), hq⟩
  by_cases e : j = i
  · subst e; rw [va_up_self]; exact hup_eq
  · rw [va_up_ne _ _ e]; exact hup_tag (hbr j hj) (hbr i hi) (by omega)
theorem CesV.putYl (hc : cx < 3) (k : Nat) (hk : k < 8) (b : Nat → Int32) (hV : CesV G M Sy cx am be yl lo) (hS : SyV G M Sy) : CesV G (hup M (sA Sy (100 * (cx + 1) + 60 + k)) (100 * (cx + 1) + 60 + k, .inl (hT G 0, 10, .inl b))) Sy cx am be (va_up yl k b) lo ∧ SyV G (hup M (sA Sy (100 * (cx + 1) + 60 + k)) (100 * (cx + 1) + 60 + k, .inl (hT G 0, 10, .inl b))) Sy ∧ hSim G (hS1 cx) M (hup M (sA Sy (100 * (cx + 1) + 60 + k)) (100 * (cx + 1) + 60 + k, .inl (hT G 0, 10, .inl b))) := by
  obtain ⟨ho, ham, ⟨fb, hfb, hbo⟩, hbr, ⟨fy, hfy, hyo⟩, hyr, hlo⟩ := hV
  have hq : hSim G (hS1 cx) M (hup M (sA Sy (100 * (cx + 1) + 60 + k)) (100 * (cx + 1) + 60 + k, .inl (hT G 0, 10, .inl b))) := hSim.put (hyr k hk) (Or.inr (by omega))
  refine ⟨⟨hup_tag ho (hyr k hk) (by omega), hup_tag ham (hyr k hk) (by omega), ⟨fb, hfb, hup_tag hbo (hyr k hk) (by omega)⟩, fun j hj => hup_tag (hbr j hj) (hyr k hk) (by omega), ⟨fy, hfy, hup_tag hyo (hyr k hk) (by omega)⟩, fun j hj => ?_, hup_tag hlo (hyr k hk) (by omega)⟩, hS.sim hq (hS1_scr hc), hq⟩
  by_cases e : j = k
  · subst e; rw [va_up_self]; exact hup_eq
  · rw [va_up_ne _ _ e]; exact hup_tag (hyr j hj) (hyr k hk) (by omega)
end CESPUT
/-- what of the subject is the loss of a layer -/
def hLoss (L : hLy) (F : Nat → hFo) (line amount subject : Int32) : Int32 := if lyR L 2 ≠ none ∧ fv (F 4) line amount = 0 then 0 else sMin (sMax (subject - sMax (fv (F 1) line amount) 0) 0) (sMax (fv (F 0) line amount) 0)

/-- the subject of the layer k, of the layers ahead of e -/
def pSubj (S : hSy) (k : Nat) (a : Int32) (b : Nat → Int32) : Nat → Int32
  | 0 => a
  | j + 1 => if lyNet (sL S k) j then pSubj S k a b j - lyShare (sL S j) (b j) else pSubj S k a b j
theorem pSubj_congr (S : hSy) (k : Nat) (a : Int32) {b b' : Nat → Int32} : ∀ e, (∀ j, j < e → b j = b' j) → pSubj S k a b e = pSubj S k a b' e
  | 0, _ => rfl
  | e + 1, h => by
    unfold pSubj
    rw [pSubj_congr S k a e (fun j hj => h j (by omega)), h e (by omega)]
def pLoss (S : hSy) (mu : Int32) (k : Nat) (line a : Int32) (b : Nat → Int32) : Int32 := if nI k = mu then 0 else hLoss (sL S k) (sF S k) line a (sMax (pSubj S k a b k) 0)
/-- what the first layers bear of a claim: of the year y, over the losses yl of its year -/
def pB (S : hSy) (mu : Int32) (y : Nat) (line a : Int32) (yl : Nat → Int32) : Nat → (Nat → Int32)
  | 0 => fun _ => 0
  | k + 1 => va_up (pB S mu y line a yl k) k (lyBorne (sL S k) y (yl k + pLoss S mu k line a (pB S mu y line a yl k)) - lyBorne (sL S k) y (yl k))
/-- the losses of the years, of the claims ahead of i -/
def pYl (S : hSy) (mu : Int32) (am : Nat → Int32) : Nat → Nat → Nat → Int32
  | 0, _, _ => 0
  | i + 1, k, y => if y = clY (sC S i) then pYl S mu am i k y + pLoss S mu k (clI (sC S i) 0) (am i) (pB S mu (clY (sC S i)) (clI (sC S i) 0) (am i) (fun k => pYl S mu am i k (clY (sC S i))) k) else pYl S mu am i k y
/-- what the layers bear of the claim i -/
def pBe (S : hSy) (mu : Int32) (am : Nat → Int32) (i : Nat) : Nat → Int32 := pB S mu (clY (sC S i)) (clI (sC S i) 0) (am i) (fun k => pYl S mu am i k (clY (sC S i))) (sN S)
theorem gw_X5_85 : GoodIn hGW (wsV RX5 85 RX4 yX4_value (Cond.code yX4_value cX4_value 7 (Option.some FieldType.int) :: hGW)) := hgi4 kml_X5_85 kin_X4_value kse_X4_X4_value_X4_value kini_X4 kco_X4_value
theorem dsc_X4_value : yX4_value.cls = RX4 ∧ yX4_value.cls ≠ "java/lang/invoke/MethodHandle" ∧ yX4_value.cls ≠ "java/lang/invoke/VarHandle" ∧ (parseMethodDescriptor yX4_value.desc).map (fun d => d.parameters.length) = some 3 := ⟨rfl, by decide +kernel, by decide +kernel, by decide +kernel⟩
theorem dX5_lossOf_0 : decode cX5_lossOf 0 = .ok (.aload_n 0, 1) := by decide +kernel
theorem dX5_lossOf_1 : decode cX5_lossOf 1 = .ok (.getfield 18, 3) := by decide +kernel
theorem dX5_lossOf_4 : decode cX5_lossOf 4 = .ok (.ifnull 24, 3) := by decide +kernel
theorem dX5_lossOf_7 : decode cX5_lossOf 7 = .ok (.aload_n 0, 1) := by decide +kernel
theorem dX5_lossOf_8 : decode cX5_lossOf 8 = .ok (.getfield 18, 3) := by decide +kernel
theorem dX5_lossOf_11 : decode cX5_lossOf 11 = .ok (.aload_n 1, 1) := by decide +kernel
theorem dX5_lossOf_12 : decode cX5_lossOf 12 = .ok (.getfield 77, 3) := by decide +kernel
theorem dX5_lossOf_15 : decode cX5_lossOf 15 = .ok (.aload_n 1, 1) := by decide +kernel
theorem dX5_lossOf_16 : decode cX5_lossOf 16 = .ok (.getfield 82, 3) := by decide +kernel
theorem dX5_lossOf_19 : decode cX5_lossOf 19 = .ok (.iload_n 2, 1) := by decide +kernel
theorem dX5_lossOf_20 : decode cX5_lossOf 20 = .ok (.invokevirtual 85, 3) := by decide +kernel
theorem dX5_lossOf_23 : decode cX5_lossOf 23 = .ok (.ifCond .ne 5, 3) := by decide +kernel
theorem dX5_lossOf_26 : decode cX5_lossOf 26 = .ok (.iconst 0, 1) := by decide +kernel
theorem dX5_lossOf_27 : decode cX5_lossOf 27 = .ok (.ireturn, 1) := by decide +kernel
theorem dX5_lossOf_28 : decode cX5_lossOf 28 = .ok (.iload_n 3, 1) := by decide +kernel
theorem dX5_lossOf_29 : decode cX5_lossOf 29 = .ok (.aload_n 0, 1) := by decide +kernel
theorem dX5_lossOf_30 : decode cX5_lossOf 30 = .ok (.getfield 54, 3) := by decide +kernel
theorem dX5_lossOf_33 : decode cX5_lossOf 33 = .ok (.aload_n 1, 1) := by decide +kernel
theorem dX5_lossOf_34 : decode cX5_lossOf 34 = .ok (.getfield 77, 3) := by decide +kernel
theorem dX5_lossOf_37 : decode cX5_lossOf 37 = .ok (.aload_n 1, 1) := by decide +kernel
theorem dX5_lossOf_38 : decode cX5_lossOf 38 = .ok (.getfield 82, 3) := by decide +kernel
theorem dX5_lossOf_41 : decode cX5_lossOf 41 = .ok (.iload_n 2, 1) := by decide +kernel
theorem dX5_lossOf_42 : decode cX5_lossOf 42 = .ok (.invokevirtual 85, 3) := by decide +kernel
theorem dX5_lossOf_45 : decode cX5_lossOf 45 = .ok (.iconst 0, 1) := by decide +kernel
theorem dX5_lossOf_46 : decode cX5_lossOf 46 = .ok (.invokestatic 89, 3) := by decide +kernel
theorem dX5_lossOf_49 : decode cX5_lossOf 49 = .ok (.isub, 1) := by decide +kernel
theorem dX5_lossOf_50 : decode cX5_lossOf 50 = .ok (.istore 4, 2) := by decide +kernel
theorem dX5_lossOf_52 : decode cX5_lossOf 52 = .ok (.aload_n 0, 1) := by decide +kernel
theorem dX5_lossOf_53 : decode cX5_lossOf 53 = .ok (.getfield 51, 3) := by decide +kernel
theorem dX5_lossOf_56 : decode cX5_lossOf 56 = .ok (.aload_n 1, 1) := by decide +kernel
theorem dX5_lossOf_57 : decode cX5_lossOf 57 = .ok (.getfield 77, 3) := by decide +kernel
theorem dX5_lossOf_60 : decode cX5_lossOf 60 = .ok (.aload_n 1, 1) := by decide +kernel
theorem dX5_lossOf_61 : decode cX5_lossOf 61 = .ok (.getfield 82, 3) := by decide +kernel
theorem dX5_lossOf_64 : decode cX5_lossOf 64 = .ok (.iload_n 2, 1) := by decide +kernel
theorem dX5_lossOf_65 : decode cX5_lossOf 65 = .ok (.invokevirtual 85, 3) := by decide +kernel
theorem dX5_lossOf_68 : decode cX5_lossOf 68 = .ok (.iconst 0, 1) := by decide +kernel
theorem dX5_lossOf_69 : decode cX5_lossOf 69 = .ok (.invokestatic 89, 3) := by decide +kernel
theorem dX5_lossOf_72 : decode cX5_lossOf 72 = .ok (.istore 5, 2) := by decide +kernel
theorem dX5_lossOf_74 : decode cX5_lossOf 74 = .ok (.iload 4, 2) := by decide +kernel
theorem dX5_lossOf_76 : decode cX5_lossOf 76 = .ok (.iconst 0, 1) := by decide +kernel
theorem dX5_lossOf_77 : decode cX5_lossOf 77 = .ok (.invokestatic 89, 3) := by decide +kernel
theorem dX5_lossOf_80 : decode cX5_lossOf 80 = .ok (.iload 5, 2) := by decide +kernel
theorem dX5_lossOf_82 : decode cX5_lossOf 82 = .ok (.invokestatic 93, 3) := by decide +kernel
theorem dX5_lossOf_85 : decode cX5_lossOf 85 = .ok (.ireturn, 1) := by decide +kernel
set_option maxHeartbeats 400000 in
set_option maxRecDepth 100000 in
theorem c_lossOf (l : Launch) (G : hG) (M : hM) (S : hSy) (hS : SyV G M S) (hG1 : SyG S) (k i : Nat) (hk : k < sN S) (hi : i < sM S) (amount subject : Int32) : hCT l G yX5_lossOf cX5_lossOf 6 (Option.some FieldType.int) (hRm 4 0 0) M [.ref (sA S (2000 + 100 * k)), .ref (sA S (1000 + 10 * i)), .int amount, .int subject] (fun v M' => v = some (.int (hLoss (sL S k) (sF S k) (clI (sC S i) 0) amount subject)) ∧ hSim G hS0 M M') := by
  refine hCT.of (own := RX5) (nm := "lossOf") (by decide) rfl rfl (Nat.le_of_ble_eq_true rfl) ?_
  intro p e s m args below meth c ls X Y hl
  have hx := X.1
  have hb := X.2.1
  have hl : lv_has ls 6 [(0, .ref (sA S (2000 + 100 * k))), (1, .ref (sA S (1000 + 10 * i))), (2, .int amount), (3, .int subject)] := hl
  obtain ⟨hN8, hM40, hLG, hCY⟩ := id hG1
  obtain ⟨hl13, he14, hl15, he16, hLa, hCl⟩ := id hS
  obtain ⟨mc13, hlo13⟩ := id hl13
  obtain ⟨mc15, hlo15⟩ := id hl15
  have hs0 : hSim G hS0 M M := hSim.rf
  obtain ⟨g0, g1, g4, -⟩ := hLG k hk
  have hk8 : k < 8 := by omega
  refine lv_aload_n hx hb dX5_lossOf_0 rfl (lv_at hl 0 rfl) ?_
  refine h_get X Y (k := 4) (v := va_rf (lyR (sL S k) 2)) (hLa k hk).1.1 rfl hin_X5 (by decide) kfl_X5_18 rfl dX5_lossOf_1 ?_
  cases hq0 : lyR (sL S k) 2 with
  | none =>
    refine lv_ifnullN (tgt := 28) hx hb dX5_lossOf_4 (by decide) ?_
    refine lv_iload_n hx hb dX5_lossOf_28 rfl (lv_at hl 3 rfl) ?_
    refine lv_aload_n hx hb dX5_lossOf_29 rfl (lv_at hl 0 rfl) ?_
    refine h_get X Y (k := 1) (v := .ref (lyA (sL S k) 1)) (hLa k hk).1.1 rfl hin_X5 (by decide) kfl_X5_54 rfl dX5_lossOf_30 ?_
    refine lv_aload_n hx hb dX5_lossOf_33 rfl (lv_at hl 1 rfl) ?_
    refine h_get X Y (k := 1) (v := .int (clI (sC S i) 0)) (hCl i hi).1 rfl hin_X3 (by decide) kfl_X5_77 rfl dX5_lossOf_34 ?_
    refine lv_aload_n hx hb dX5_lossOf_37 rfl (lv_at hl 1 rfl) ?_
    refine h_get X Y (k := 0) (v := .int (nI (clY (sC S i)))) (hCl i hi).1 rfl hin_X3 (by decide) kfl_X5_82 rfl dX5_lossOf_38 ?_
    refine lv_iload_n hx hb dX5_lossOf_41 rfl (lv_at hl 2 rfl) ?_
    refine h_callV (rest := [.int subject]) X Y (c_value l G M (lyA (sL S k) 1) (2000 + 100 * k + 20) (sF S k 1) (hLa k hk).2.2.1 g1.1 (clI (sC S i) 0) (nI (clY (sC S i))) amount (fv (sF S k 1) (clI (sC S i) 0) amount) (g1.2 _ _)) gw_X5_85 dsc_X4_value (hLa k hk).2.2.1.1 rfl rfl rfl hl.1 rfl (Nat.le_of_ble_eq_true rfl) ⟨Nat.le_of_ble_eq_true rfl, Nat.le_of_ble_eq_true rfl⟩ ⟨Nat.le_of_ble_eq_true rfl, Nat.le_of_ble_eq_true rfl⟩ dX5_lossOf_42 ?_
    rintro _ M1 H locs ⟨rfl, hq⟩ Y
    have hq : hSim G hS0 _ _ := hq.mono (fun u hu => by unfold hS0; omega)
    have hs0 := hs0.tr hq
    have hS := hS.sim hq hS0_scr
    obtain ⟨hl13, he14, hl15, he16, hLa, hCl⟩ := id hS
    obtain ⟨mc13, hlo13⟩ := id hl13
    obtain ⟨mc15, hlo15⟩ := id hl15
    try dsimp only [Option.toList, List.cons_append, List.nil_append]
    refine lv_iconst (v := 0) hx hb dX5_lossOf_45 (by decide) ?_
    refine h_mmax X kml_X5_89 hl.1 (Nat.le_of_ble_eq_true rfl) (Nat.le_of_ble_eq_true rfl) ⟨Nat.le_of_ble_eq_true rfl, Nat.le_of_ble_eq_true rfl⟩ dX5_lossOf_46 ?_
    refine lv_isub hx hb dX5_lossOf_49 ?_
    refine lv_istore (lv' := [(4, .int (subject - (sMax (fv (sF S k 1) (clI (sC S i) 0) amount) 0))), (0, .ref (sA S (2000 + 100 * k))), (1, .ref (sA S (1000 + 10 * i))), (2, .int amount), (3, .int subject)]) hx hb dX5_lossOf_50 hl (by decide) rfl (fun ls hl => ?_)
    refine lv_aload_n hx hb dX5_lossOf_52 rfl (lv_at hl 1 rfl) ?_
    refine h_get X Y (k := 0) (v := .ref (lyA (sL S k) 0)) (hLa k hk).1.1 rfl hin_X5 (by decide) kfl_X5_51 rfl dX5_lossOf_53 ?_
    refine lv_aload_n hx hb dX5_lossOf_56 rfl (lv_at hl 2 rfl) ?_
    refine h_get X Y (k := 1) (v := .int (clI (sC S i) 0)) (hCl i hi).1 rfl hin_X3 (by decide) kfl_X5_77 rfl dX5_lossOf_57 ?_
    refine lv_aload_n hx hb dX5_lossOf_60 rfl (lv_at hl 2 rfl) ?_
    refine h_get X Y (k := 0) (v := .int (nI (clY (sC S i)))) (hCl i hi).1 rfl hin_X3 (by decide) kfl_X5_82 rfl dX5_lossOf_61 ?_
    refine lv_iload_n hx hb dX5_lossOf_64 rfl (lv_at hl 3 rfl) ?_
    refine h_callV (rest := []) X Y (c_value l G M1 (lyA (sL S k) 0) (2000 + 100 * k + 10) (sF S k 0) (hLa k hk).2.1 g0.1 (clI (sC S i) 0) (nI (clY (sC S i))) amount (fv (sF S k 0) (clI (sC S i) 0) amount) (g0.2 _ _)) gw_X5_85 dsc_X4_value (hLa k hk).2.1.1 rfl rfl rfl hl.1 rfl (Nat.le_of_ble_eq_true rfl) ⟨Nat.le_of_ble_eq_true rfl, Nat.le_of_ble_eq_true rfl⟩ ⟨Nat.le_of_ble_eq_true rfl, Nat.le_of_ble_eq_true rfl⟩ dX5_lossOf_65 ?_
    rintro _ M2 H locs ⟨rfl, hq⟩ Y
    have hq : hSim G hS0 _ _ := hq.mono (fun u hu => by unfold hS0; omega)
    have hs0 := hs0.tr hq
    have hS := hS.sim hq hS0_scr
    obtain ⟨hl13, he14, hl15, he16, hLa, hCl⟩ := id hS
    obtain ⟨mc13, hlo13⟩ := id hl13
    obtain ⟨mc15, hlo15⟩ := id hl15
    try dsimp only [Option.toList, List.cons_append, List.nil_append]
    refine lv_iconst (v := 0) hx hb dX5_lossOf_68 (by decide) ?_
    refine h_mmax X kml_X5_89 hl.1 (Nat.le_of_ble_eq_true rfl) (Nat.le_of_ble_eq_true rfl) ⟨Nat.le_of_ble_eq_true rfl, Nat.le_of_ble_eq_true rfl⟩ dX5_lossOf_69 ?_
    refine lv_istore (lv' := [(5, .int (sMax (fv (sF S k 0) (clI (sC S i) 0) amount) 0)), (4, .int (subject - (sMax (fv (sF S k 1) (clI (sC S i) 0) amount) 0))), (0, .ref (sA S (2000 + 100 * k))), (1, .ref (sA S (1000 + 10 * i))), (2, .int amount), (3, .int subject)]) hx hb dX5_lossOf_72 hl (by decide) rfl (fun ls hl => ?_)
    refine lv_iload hx hb dX5_lossOf_74 (lv_at hl 1 rfl) ?_
    refine lv_iconst (v := 0) hx hb dX5_lossOf_76 (by decide) ?_
    refine h_mmax X kml_X5_89 hl.1 (Nat.le_of_ble_eq_true rfl) (Nat.le_of_ble_eq_true rfl) ⟨Nat.le_of_ble_eq_true rfl, Nat.le_of_ble_eq_true rfl⟩ dX5_lossOf_77 ?_
    refine lv_iload hx hb dX5_lossOf_80 (lv_at hl 0 rfl) ?_
    refine h_mmin X kml_X5_93 hl.1 (Nat.le_of_ble_eq_true rfl) (Nat.le_of_ble_eq_true rfl) ⟨Nat.le_of_ble_eq_true rfl, Nat.le_of_ble_eq_true rfl⟩ dX5_lossOf_82 ?_
    exact h_iret X Y ⟨congrArg (fun z => some (Value.int z)) (if_neg (fun z9 => z9.1 hq0)).symm, hs0⟩ (Nat.le_refl _) (Nat.le_refl _) dX5_lossOf_85
  | some q =>
    refine lv_ifnull hx hb dX5_lossOf_4 ?_
    refine lv_aload_n hx hb dX5_lossOf_7 rfl (lv_at hl 0 rfl) ?_
    refine h_get X Y (k := 4) (v := va_rf (lyR (sL S k) 2)) (hLa k hk).1.1 rfl hin_X5 (by decide) kfl_X5_18 rfl dX5_lossOf_8 ?_
    refine h_rf hq0 ?_
    refine lv_aload_n hx hb dX5_lossOf_11 rfl (lv_at hl 1 rfl) ?_
    refine h_get X Y (k := 1) (v := .int (clI (sC S i) 0)) (hCl i hi).1 rfl hin_X3 (by decide) kfl_X5_77 rfl dX5_lossOf_12 ?_
    refine lv_aload_n hx hb dX5_lossOf_15 rfl (lv_at hl 1 rfl) ?_
    refine h_get X Y (k := 0) (v := .int (nI (clY (sC S i)))) (hCl i hi).1 rfl hin_X3 (by decide) kfl_X5_82 rfl dX5_lossOf_16 ?_
    refine lv_iload_n hx hb dX5_lossOf_19 rfl (lv_at hl 2 rfl) ?_
    refine h_callV (rest := []) X Y (c_value l G M q (2000 + 100 * k + 50) (sF S k 4) ((hLa k hk).2.2.2 q hq0) g4.1 (clI (sC S i) 0) (nI (clY (sC S i))) amount (fv (sF S k 4) (clI (sC S i) 0) amount) (g4.2 _ _)) gw_X5_85 dsc_X4_value ((hLa k hk).2.2.2 q hq0).1 rfl rfl rfl hl.1 rfl (Nat.le_of_ble_eq_true rfl) ⟨Nat.le_of_ble_eq_true rfl, Nat.le_of_ble_eq_true rfl⟩ ⟨Nat.le_of_ble_eq_true rfl, Nat.le_of_ble_eq_true rfl⟩ dX5_lossOf_20 ?_
    rintro _ M1 H locs ⟨rfl, hq⟩ Y
    have hq : hSim G hS0 _ _ := hq.mono (fun u hu => by unfold hS0; omega)
    have hs0 := hs0.tr hq
    have hS := hS.sim hq hS0_scr
    obtain ⟨hl13, he14, hl15, he16, hLa, hCl⟩ := id hS
    obtain ⟨mc13, hlo13⟩ := id hl13
    obtain ⟨mc15, hlo15⟩ := id hl15
    try dsimp only [Option.toList, List.cons_append, List.nil_append]
    refine lv_if_ne (tgt := 28) hx hb dX5_lossOf_23 (by decide) (fun c23 => ?_) (fun c23 => ?_)
    · refine lv_iload_n hx hb dX5_lossOf_28 rfl (lv_at hl 3 rfl) ?_
      refine lv_aload_n hx hb dX5_lossOf_29 rfl (lv_at hl 0 rfl) ?_
      refine h_get X Y (k := 1) (v := .ref (lyA (sL S k) 1)) (hLa k hk).1.1 rfl hin_X5 (by decide) kfl_X5_54 rfl dX5_lossOf_30 ?_
      refine lv_aload_n hx hb dX5_lossOf_33 rfl (lv_at hl 1 rfl) ?_
      refine h_get X Y (k := 1) (v := .int (clI (sC S i) 0)) (hCl i hi).1 rfl hin_X3 (by decide) kfl_X5_77 rfl dX5_lossOf_34 ?_
      refine lv_aload_n hx hb dX5_lossOf_37 rfl (lv_at hl 1 rfl) ?_
      refine h_get X Y (k := 0) (v := .int (nI (clY (sC S i)))) (hCl i hi).1 rfl hin_X3 (by decide) kfl_X5_82 rfl dX5_lossOf_38 ?_
      refine lv_iload_n hx hb dX5_lossOf_41 rfl (lv_at hl 2 rfl) ?_
      refine h_callV (rest := [.int subject]) X Y (c_value l G M1 (lyA (sL S k) 1) (2000 + 100 * k + 20) (sF S k 1) (hLa k hk).2.2.1 g1.1 (clI (sC S i) 0) (nI (clY (sC S i))) amount (fv (sF S k 1) (clI (sC S i) 0) amount) (g1.2 _ _)) gw_X5_85 dsc_X4_value (hLa k hk).2.2.1.1 rfl rfl rfl hl.1 rfl (Nat.le_of_ble_eq_true rfl) ⟨Nat.le_of_ble_eq_true rfl, Nat.le_of_ble_eq_true rfl⟩ ⟨Nat.le_of_ble_eq_true rfl, Nat.le_of_ble_eq_true rfl⟩ dX5_lossOf_42 ?_
      rintro _ M2 H locs ⟨rfl, hq⟩ Y
      have hq : hSim G hS0 _ _ := hq.mono (fun u hu => by unfold hS0; omega)
      have hs0 := hs0.tr hq
      have hS := hS.sim hq hS0_scr
      obtain ⟨hl13, he14, hl15, he16, hLa, hCl⟩ := id hS
      obtain ⟨mc13, hlo13⟩ := id hl13
      obtain ⟨mc15, hlo15⟩ := id hl15
      try dsimp only [Option.toList, List.cons_append, List.nil_append]
      refine lv_iconst (v := 0) hx hb dX5_lossOf_45 (by decide) ?_
      refine h_mmax X kml_X5_89 hl.1 (Nat.le_of_ble_eq_true rfl) (Nat.le_of_ble_eq_true rfl) ⟨Nat.le_of_ble_eq_true rfl, Nat.le_of_ble_eq_true rfl⟩ dX5_lossOf_46 ?_
      refine lv_isub hx hb dX5_lossOf_49 ?_
      refine lv_istore (lv' := [(4, .int (subject - (sMax (fv (sF S k 1) (clI (sC S i) 0) amount) 0))), (0, .ref (sA S (2000 + 100 * k))), (1, .ref (sA S (1000 + 10 * i))), (2, .int amount), (3, .int subject)]) hx hb dX5_lossOf_50 hl (by decide) rfl (fun ls hl => ?_)
      refine lv_aload_n hx hb dX5_lossOf_52 rfl (lv_at hl 1 rfl) ?_
      refine h_get X Y (k := 0) (v := .ref (lyA (sL S k) 0)) (hLa k hk).1.1 rfl hin_X5 (by decide) kfl_X5_51 rfl dX5_lossOf_53 ?_
      refine lv_aload_n hx hb dX5_lossOf_56 rfl (lv_at hl 2 rfl) ?_
      refine h_get X Y (k := 1) (v := .int (clI (sC S i) 0)) (hCl i hi).1 rfl hin_X3 (by decide) kfl_X5_77 rfl dX5_lossOf_57 ?_
      refine lv_aload_n hx hb dX5_lossOf_60 rfl (lv_at hl 2 rfl) ?_
      refine h_get X Y (k := 0) (v := .int (nI (clY (sC S i)))) (hCl i hi).1 rfl hin_X3 (by decide) kfl_X5_82 rfl dX5_lossOf_61 ?_
      refine lv_iload_n hx hb dX5_lossOf_64 rfl (lv_at hl 3 rfl) ?_
      refine h_callV (rest := []) X Y (c_value l G M2 (lyA (sL S k) 0) (2000 + 100 * k + 10) (sF S k 0) (hLa k hk).2.1 g0.1 (clI (sC S i) 0) (nI (clY (sC S i))) amount (fv (sF S k 0) (clI (sC S i) 0) amount) (g0.2 _ _)) gw_X5_85 dsc_X4_value (hLa k hk).2.1.1 rfl rfl rfl hl.1 rfl (Nat.le_of_ble_eq_true rfl) ⟨Nat.le_of_ble_eq_true rfl, Nat.le_of_ble_eq_true rfl⟩ ⟨Nat.le_of_ble_eq_true rfl, Nat.le_of_ble_eq_true rfl⟩ dX5_lossOf_65 ?_
      rintro _ M3 H locs ⟨rfl, hq⟩ Y
      have hq : hSim G hS0 _ _ := hq.mono (fun u hu => by unfold hS0; omega)
      have hs0 := hs0.tr hq
      have hS := hS.sim hq hS0_scr
      obtain ⟨hl13, he14, hl15, he16, hLa, hCl⟩ := id hS
      obtain ⟨mc13, hlo13⟩ := id hl13
      obtain ⟨mc15, hlo15⟩ := id hl15
      try dsimp only [Option.toList, List.cons_append, List.nil_append]
      refine lv_iconst (v := 0) hx hb dX5_lossOf_68 (by decide) ?_
      refine h_mmax X kml_X5_89 hl.1 (Nat.le_of_ble_eq_true rfl) (Nat.le_of_ble_eq_true rfl) ⟨Nat.le_of_ble_eq_true rfl, Nat.le_of_ble_eq_true rfl⟩ dX5_lossOf_69 ?_
      refine lv_istore (lv' := [(5, .int (sMax (fv (sF S k 0) (clI (sC S i) 0) amount) 0)), (4, .int (subject - (sMax (fv (sF S k 1) (clI (sC S i) 0) amount) 0))), (0, .ref (sA S (2000 + 100 * k))), (1, .ref (sA S (1000 + 10 * i))), (2, .int amount), (3, .int subject)]) hx hb dX5_lossOf_72 hl (by decide) rfl (fun ls hl => ?_)
      refine lv_iload hx hb dX5_lossOf_74 (lv_at hl 1 rfl) ?_
      refine lv_iconst (v := 0) hx hb dX5_lossOf_76 (by decide) ?_
      refine h_mmax X kml_X5_89 hl.1 (Nat.le_of_ble_eq_true rfl) (Nat.le_of_ble_eq_true rfl) ⟨Nat.le_of_ble_eq_true rfl, Nat.le_of_ble_eq_true rfl⟩ dX5_lossOf_77 ?_
      refine lv_iload hx hb dX5_lossOf_80 (lv_at hl 0 rfl) ?_
      refine h_mmin X kml_X5_93 hl.1 (Nat.le_of_ble_eq_true rfl) (Nat.le_of_ble_eq_true rfl) ⟨Nat.le_of_ble_eq_true rfl, Nat.le_of_ble_eq_true rfl⟩ dX5_lossOf_82 ?_
      exact h_iret X Y ⟨congrArg (fun z => some (Value.int z)) (if_neg (fun z9 => c23 z9.2)).symm, hs0⟩ (Nat.le_refl _) (Nat.le_refl _) dX5_lossOf_85
    · refine lv_iconst (v := 0) hx hb dX5_lossOf_26 (by decide) ?_
      exact h_iret X Y ⟨congrArg (fun z => some (Value.int z)) (if_pos ⟨(by rw [hq0]; exact fun z9 => nomatch z9), c23⟩).symm, hs0⟩ (Nat.le_refl _) (Nat.le_refl _) dX5_lossOf_27
theorem gw_X1_67 : GoodIn hGW (wsV RX1 67 RX5 yX5_isNetOf (Cond.code yX5_isNetOf cX5_isNetOf 2 (Option.some FieldType.boolean) :: hGW)) := hgi4 kml_X1_67 kin_X5_isNetOf kse_X5_X5_isNetOf_X5_isNetOf kini_X5 kco_X5_isNetOf
theorem dsc_X5_isNetOf : yX5_isNetOf.cls = RX5 ∧ yX5_isNetOf.cls ≠ "java/lang/invoke/MethodHandle" ∧ yX5_isNetOf.cls ≠ "java/lang/invoke/VarHandle" ∧ (parseMethodDescriptor yX5_isNetOf.desc).map (fun d => d.parameters.length) = some 1 := ⟨rfl, by decide +kernel, by decide +kernel, by decide +kernel⟩
theorem dX1_subject_0 : decode cX1_subject 0 = .ok (.aload_n 0, 1) := by decide +kernel
theorem dX1_subject_1 : decode cX1_subject 1 = .ok (.getfield 9, 3) := by decide +kernel
theorem dX1_subject_4 : decode cX1_subject 4 = .ok (.iload_n 2, 1) := by decide +kernel
theorem dX1_subject_5 : decode cX1_subject 5 = .ok (.iaload, 1) := by decide +kernel
theorem dX1_subject_6 : decode cX1_subject 6 = .ok (.istore 4, 2) := by decide +kernel
theorem dX1_subject_8 : decode cX1_subject 8 = .ok (.iconst 0, 1) := by decide +kernel
theorem dX1_subject_9 : decode cX1_subject 9 = .ok (.istore 5, 2) := by decide +kernel
theorem dX1_subject_11 : decode cX1_subject 11 = .ok (.iload 5, 2) := by decide +kernel
theorem dX1_subject_13 : decode cX1_subject 13 = .ok (.iload_n 3, 1) := by decide +kernel
theorem dX1_subject_14 : decode cX1_subject 14 = .ok (.if_icmp .ge 30, 3) := by decide +kernel
theorem dX1_subject_17 : decode cX1_subject 17 = .ok (.aload_n 1, 1) := by decide +kernel
theorem dX1_subject_18 : decode cX1_subject 18 = .ok (.iload 5, 2) := by decide +kernel
theorem dX1_subject_20 : decode cX1_subject 20 = .ok (.invokevirtual 67, 3) := by decide +kernel
theorem dX1_subject_23 : decode cX1_subject 23 = .ok (.ifCond .eq 15, 3) := by decide +kernel
theorem dX1_subject_26 : decode cX1_subject 26 = .ok (.iload 4, 2) := by decide +kernel
theorem dX1_subject_28 : decode cX1_subject 28 = .ok (.aload_n 0, 1) := by decide +kernel
theorem dX1_subject_29 : decode cX1_subject 29 = .ok (.iload 5, 2) := by decide +kernel
theorem dX1_subject_31 : decode cX1_subject 31 = .ok (.iload_n 2, 1) := by decide +kernel
theorem dX1_subject_32 : decode cX1_subject 32 = .ok (.invokevirtual 71, 3) := by decide +kernel
theorem dX1_subject_35 : decode cX1_subject 35 = .ok (.isub, 1) := by decide +kernel
theorem dX1_subject_36 : decode cX1_subject 36 = .ok (.istore 4, 2) := by decide +kernel
theorem dX1_subject_38 : decode cX1_subject 38 = .ok (.iinc 5 1, 3) := by decide +kernel
theorem dX1_subject_41 : decode cX1_subject 41 = .ok (.goto (-30), 3) := by decide +kernel
theorem dX1_subject_44 : decode cX1_subject 44 = .ok (.iload 4, 2) := by decide +kernel
theorem dX1_subject_46 : decode cX1_subject 46 = .ok (.iconst 0, 1) := by decide +kernel
theorem dX1_subject_47 : decode cX1_subject 47 = .ok (.invokestatic 74, 3) := by decide +kernel
theorem dX1_subject_50 : decode cX1_subject 50 = .ok (.ireturn, 1) := by decide +kernel
set_option maxHeartbeats 400000 in
set_option maxRecDepth 100000 in
theorem c_subject (l : Launch) (G : hG) (M : hM) (S : hSy) (hS : SyV G M S) (hG1 : SyG S) (cx : Nat) (am : Nat → Int32) (be yl : Nat → Nat → Int32) (lo : Nat → Int32) (hV : CesV G M S cx am be yl lo) (k i f : Nat) (hk : k < sN S) (hi : i < 40) (hf : f ≤ sN S) : hCT l G yX1_subject cX1_subject 6 (Option.some FieldType.int) (hRm 5 0 0) M [.ref (sA S (100 * (cx + 1))), .ref (sA S (2000 + 100 * k)), .int (nI i), .int (nI f)] (hRd M (.int (sMax (pSubj S k (am i) (be i) f) 0))) := by
  refine hCT.of (own := RX1) (nm := "subject") (by decide) rfl rfl (Nat.le_of_ble_eq_true rfl) ?_
  intro p e s m args below meth c ls X Y hl
  have hx := X.1
  have hb := X.2.1
  have hl : lv_has ls 6 [(0, .ref (sA S (100 * (cx + 1)))), (1, .ref (sA S (2000 + 100 * k))), (2, .int (nI i)), (3, .int (nI f))] := hl
  obtain ⟨hN8, hM40, hLG, hCY⟩ := id hG1
  obtain ⟨hl13, he14, hl15, he16, hLa, hCl⟩ := id hS
  obtain ⟨mc13, hlo13⟩ := id hl13
  obtain ⟨mc15, hlo15⟩ := id hl15
  obtain ⟨ho, ham, ⟨fb, hfb, hbo⟩, hbr, ⟨fy, hfy, hyo⟩, hyr, hlo⟩ := id hV
  refine lv_aload_n hx hb dX1_subject_0 rfl (lv_at hl 0 rfl) ?_
  refine h_get X Y (k := 0) (v := .ref (sA S (100 * (cx + 1) + 1))) ho rfl hin_X1 (by decide) kfl_X1_9 rfl dX1_subject_1 ?_
  refine lv_iload_n hx hb dX1_subject_4 rfl (lv_at hl 2 rfl) ?_
  refine h_iald X Y (i := i) ham (by omega) (by decide) dX1_subject_5 ?_
  refine lv_istore (lv' := [(4, .int (am i)), (0, .ref (sA S (100 * (cx + 1)))), (1, .ref (sA S (2000 + 100 * k))), (2, .int (nI i)), (3, .int (nI f))]) hx hb dX1_subject_6 hl (by decide) rfl (fun ls hl => ?_)
  refine lv_iconst (v := 0) hx hb dX1_subject_8 (by decide) ?_
  refine lv_istore (lv' := [(5, .int 0), (4, .int (am i)), (0, .ref (sA S (100 * (cx + 1)))), (1, .ref (sA S (2000 + 100 * k))), (2, .int (nI i)), (3, .int (nI f))]) hx hb dX1_subject_9 hl (by decide) rfl (fun ls hl => ?_)
  have loop : ∀ (d j : Nat), j + d = f + 1 → j ≤ f → ∀ (H : Heap) (locs : List Loc) (ls : Array Slot), hHS G M s H locs → lv_has ls 6 [(0, .ref (sA S (100 * (cx + 1)))), (1, .ref (sA S (2000 + 100 * k))), (2, .int (nI i)), (3, .int (nI f)), (4, .int (pSubj S k (am i) (be i) j)), (5, .int (nI j))] → W p l e (hRm 5 0 0) s m args below meth c H locs 0 0 (MQ below (hQ G (hRd M (.int (sMax (pSubj S k (am i) (be i) f) 0)))) args s 0 0 (hA G)) (F0 m 11 ls []) := by
    intro d
    induction d with
    | zero => intro j h1 h2; exact absurd h1 (by omega)
    | succ d ih =>
      intro j h1 h2 H locs ls Y hl
      refine lv_iload hx hb dX1_subject_11 (lv_at hl 5 rfl) ?_
      refine lv_iload_n hx hb dX1_subject_13 rfl (lv_at hl 3 rfl) ?_
      refine lv_icmp_ge (tgt := 44) hx hb dX1_subject_14 (by decide) (fun c14 => ?_) (fun c14 => ?_)
      · have c14 : f ≤ j := (nI_leI (a := f) (b := j) (by omega) (by omega)).mp c14
        have hk9 : f = j := by omega
        subst hk9
        refine lv_iload hx hb dX1_subject_44 (lv_at hl 4 rfl) ?_
        refine lv_iconst (v := 0) hx hb dX1_subject_46 (by decide) ?_
        refine h_mmax X kml_X1_74 hl.1 (Nat.le_of_ble_eq_true rfl) (Nat.le_of_ble_eq_true rfl) ⟨Nat.le_of_ble_eq_true rfl, Nat.le_of_ble_eq_true rfl⟩ dX1_subject_47 ?_
        exact h_iret X Y ⟨rfl, rfl⟩ (Nat.le_refl _) (Nat.le_refl _) dX1_subject_50
      · have c14 : ¬ f ≤ j := fun z9 => c14 ((nI_leI (a := f) (b := j) (by omega) (by omega)).mpr z9)
        refine lv_aload_n hx hb dX1_subject_17 rfl (lv_at hl 1 rfl) ?_
        refine lv_iload hx hb dX1_subject_18 (lv_at hl 5 rfl) ?_
        refine h_callVr (rest := []) X Y (c_isNetOf l G M (sA S (2000 + 100 * k)) (2000 + 100 * k) (sL S k) (hLa k hk).1 j) rfl rfl gw_X1_67 dsc_X5_isNetOf (hLa k hk).1.1 rfl rfl rfl rfl hl.1 (Nat.le_of_ble_eq_true rfl) ⟨Nat.le_of_ble_eq_true rfl, Nat.le_of_ble_eq_true rfl⟩ ⟨Nat.le_of_ble_eq_true rfl, Nat.le_of_ble_eq_true rfl⟩ dX1_subject_20 (fun H locs Y => ?_)
        by_cases hnt : lyNet (sL S k) j
        · refine h_ev (y := nI 1) (if_pos hnt) ?_
          refine lv_if_eq (tgt := 38) hx hb dX1_subject_23 (by decide) (fun c23 => absurd c23 (by decide)) (fun c23 => ?_)
          refine lv_iload hx hb dX1_subject_26 (lv_at hl 4 rfl) ?_
          refine lv_aload_n hx hb dX1_subject_28 rfl (lv_at hl 0 rfl) ?_
          refine lv_iload hx hb dX1_subject_29 (lv_at hl 5 rfl) ?_
          refine lv_iload_n hx hb dX1_subject_31 rfl (lv_at hl 2 rfl) ?_
          refine h_callVr (rest := [.int (pSubj S k (am i) (be i) j)]) X Y (c_given l G M S hS hG1 cx am be yl lo hV j i (by omega) hi) rfl rfl gw_X1_71 dsc_X1_given ho rfl rfl rfl rfl hl.1 (Nat.le_of_ble_eq_true rfl) ⟨Nat.le_of_ble_eq_true rfl, Nat.le_of_ble_eq_true rfl⟩ ⟨Nat.le_of_ble_eq_true rfl, Nat.le_of_ble_eq_true rfl⟩ dX1_subject_32 (fun H locs Y => ?_)
          refine lv_isub hx hb dX1_subject_35 ?_
          refine lv_istore (lv' := [(4, .int ((pSubj S k (am i) (be i) j) - (lyShare (sL S j) (be i j)))), (0, .ref (sA S (100 * (cx + 1)))), (1, .ref (sA S (2000 + 100 * k))), (2, .int (nI i)), (3, .int (nI f)), (5, .int (nI j))]) hx hb dX1_subject_36 hl (by decide) rfl (fun ls hl => ?_)
          have e1 : pSubj S k (am i) (be i) (j + 1) = (pSubj S k (am i) (be i) j) - (lyShare (sL S j) (be i j)) := if_pos hnt
          rw [← e1] at hl
          refine lv_iinc (v := nI (j + 1)) (lv' := [(5, .int (nI (j + 1))), (4, .int (pSubj S k (am i) (be i) (j + 1))), (0, .ref (sA S (100 * (cx + 1)))), (1, .ref (sA S (2000 + 100 * k))), (2, .int (nI i)), (3, .int (nI f))]) hx hb dX1_subject_38 hl (k := 5) rfl (nI_1 j) (by decide) rfl (fun ls hl => ?_)
          refine lv_goto (tgt := 11) hx hb dX1_subject_41 (by decide) ?_
          exact ih (j + 1) (by omega) (by omega) _ _ _ Y (lv_sub hl [2, 3, 4, 5, 1, 0] rfl)
        · refine h_ev (y := nI 0) (if_neg hnt) ?_
          refine lv_if_eq (tgt := 38) hx hb dX1_subject_23 (by decide) (fun c23 => ?_) (fun c23 => absurd (by decide) c23)
          have e1 : pSubj S k (am i) (be i) (j + 1) = pSubj S k (am i) (be i) j := if_neg hnt
          rw [← e1] at hl
          refine lv_iinc (v := nI (j + 1)) (lv' := [(5, .int (nI (j + 1))), (0, .ref (sA S (100 * (cx + 1)))), (1, .ref (sA S (2000 + 100 * k))), (2, .int (nI i)), (3, .int (nI f)), (4, .int (pSubj S k (am i) (be i) (j + 1)))]) hx hb dX1_subject_38 hl (k := 5) rfl (nI_1 j) (by decide) rfl (fun ls hl => ?_)
          refine lv_goto (tgt := 11) hx hb dX1_subject_41 (by decide) ?_
          exact ih (j + 1) (by omega) (by omega) _ _ _ Y (lv_sub hl [1, 2, 3, 4, 5, 0] rfl)
  exact loop (f + 1) 0 (by omega) (by omega) _ _ _ Y (lv_sub hl [2, 3, 4, 5, 1, 0] rfl)
theorem gw_X1_55 : GoodIn hGW (wsV RX1 55 RX1 yX1_subject (Cond.code yX1_subject cX1_subject 6 (Option.some FieldType.int) :: hGW)) := hgi4 kml_X1_55 kin_X1_subject kse_X1_X1_subject_X1_subject kini_X1 kco_X1_subject
theorem dsc_X1_subject : yX1_subject.cls = RX1 ∧ yX1_subject.cls ≠ "java/lang/invoke/MethodHandle" ∧ yX1_subject.cls ≠ "java/lang/invoke/VarHandle" ∧ (parseMethodDescriptor yX1_subject.desc).map (fun d => d.parameters.length) = some 3 := ⟨rfl, by decide +kernel, by decide +kernel, by decide +kernel⟩
theorem gw_X1_59 : GoodIn hGW (wsV RX1 59 RX5 yX5_lossOf (Cond.code yX5_lossOf cX5_lossOf 6 (Option.some FieldType.int) :: hGW)) := hgi4 kml_X1_59 kin_X5_lossOf kse_X5_X5_lossOf_X5_lossOf kini_X5 kco_X5_lossOf
theorem dsc_X5_lossOf : yX5_lossOf.cls = RX5 ∧ yX5_lossOf.cls ≠ "java/lang/invoke/MethodHandle" ∧ yX5_lossOf.cls ≠ "java/lang/invoke/VarHandle" ∧ (parseMethodDescriptor yX5_lossOf.desc).map (fun d => d.parameters.length) = some 3 := ⟨rfl, by decide +kernel, by decide +kernel, by decide +kernel⟩
theorem dX1_cede_0 : decode cX1_cede 0 = .ok (.aload_n 0, 1) := by decide +kernel
theorem dX1_cede_1 : decode cX1_cede 1 = .ok (.getfield 30, 3) := by decide +kernel
theorem dX1_cede_4 : decode cX1_cede 4 = .ok (.iload_n 1, 1) := by decide +kernel
theorem dX1_cede_5 : decode cX1_cede 5 = .ok (.invokeinterface 43 2, 5) := by decide +kernel
theorem dX1_cede_10 : decode cX1_cede 10 = .ok (.checkcast 47, 3) := by decide +kernel
theorem dX1_cede_13 : decode cX1_cede 13 = .ok (.astore_n 3, 1) := by decide +kernel
theorem dX1_cede_14 : decode cX1_cede 14 = .ok (.iconst 0, 1) := by decide +kernel
theorem dX1_cede_15 : decode cX1_cede 15 = .ok (.istore 4, 2) := by decide +kernel
theorem dX1_cede_17 : decode cX1_cede 17 = .ok (.iload 4, 2) := by decide +kernel
theorem dX1_cede_19 : decode cX1_cede 19 = .ok (.aload_n 0, 1) := by decide +kernel
theorem dX1_cede_20 : decode cX1_cede 20 = .ok (.getfield 26, 3) := by decide +kernel
theorem dX1_cede_23 : decode cX1_cede 23 = .ok (.invokeinterface 33 1, 5) := by decide +kernel
theorem dX1_cede_28 : decode cX1_cede 28 = .ok (.if_icmp .ge 116, 3) := by decide +kernel
theorem dX1_cede_31 : decode cX1_cede 31 = .ok (.aload_n 0, 1) := by decide +kernel
theorem dX1_cede_32 : decode cX1_cede 32 = .ok (.getfield 26, 3) := by decide +kernel
theorem dX1_cede_35 : decode cX1_cede 35 = .ok (.iload 4, 2) := by decide +kernel
theorem dX1_cede_37 : decode cX1_cede 37 = .ok (.invokeinterface 43 2, 5) := by decide +kernel
theorem dX1_cede_42 : decode cX1_cede 42 = .ok (.checkcast 53, 3) := by decide +kernel
theorem dX1_cede_45 : decode cX1_cede 45 = .ok (.astore 5, 2) := by decide +kernel
theorem dX1_cede_47 : decode cX1_cede 47 = .ok (.iload 4, 2) := by decide +kernel
theorem dX1_cede_49 : decode cX1_cede 49 = .ok (.iload_n 2, 1) := by decide +kernel
theorem dX1_cede_50 : decode cX1_cede 50 = .ok (.if_icmp .ne 7, 3) := by decide +kernel
theorem dX1_cede_53 : decode cX1_cede 53 = .ok (.iconst 0, 1) := by decide +kernel
theorem dX1_cede_54 : decode cX1_cede 54 = .ok (.goto 24, 3) := by decide +kernel
theorem dX1_cede_57 : decode cX1_cede 57 = .ok (.aload 5, 2) := by decide +kernel
theorem dX1_cede_59 : decode cX1_cede 59 = .ok (.aload_n 3, 1) := by decide +kernel
theorem dX1_cede_60 : decode cX1_cede 60 = .ok (.aload_n 0, 1) := by decide +kernel
theorem dX1_cede_61 : decode cX1_cede 61 = .ok (.getfield 9, 3) := by decide +kernel
theorem dX1_cede_64 : decode cX1_cede 64 = .ok (.iload_n 1, 1) := by decide +kernel
theorem dX1_cede_65 : decode cX1_cede 65 = .ok (.iaload, 1) := by decide +kernel
theorem dX1_cede_66 : decode cX1_cede 66 = .ok (.aload_n 0, 1) := by decide +kernel
theorem dX1_cede_67 : decode cX1_cede 67 = .ok (.aload 5, 2) := by decide +kernel
theorem dX1_cede_69 : decode cX1_cede 69 = .ok (.iload_n 1, 1) := by decide +kernel
theorem dX1_cede_70 : decode cX1_cede 70 = .ok (.iload 4, 2) := by decide +kernel
theorem dX1_cede_72 : decode cX1_cede 72 = .ok (.invokevirtual 55, 3) := by decide +kernel
theorem dX1_cede_75 : decode cX1_cede 75 = .ok (.invokevirtual 59, 3) := by decide +kernel
theorem dX1_cede_78 : decode cX1_cede 78 = .ok (.istore 6, 2) := by decide +kernel
theorem dX1_cede_80 : decode cX1_cede 80 = .ok (.aload_n 0, 1) := by decide +kernel
theorem dX1_cede_81 : decode cX1_cede 81 = .ok (.getfield 20, 3) := by decide +kernel
theorem dX1_cede_84 : decode cX1_cede 84 = .ok (.iload 4, 2) := by decide +kernel
theorem dX1_cede_86 : decode cX1_cede 86 = .ok (.aaload, 1) := by decide +kernel
theorem dX1_cede_87 : decode cX1_cede 87 = .ok (.aload_n 3, 1) := by decide +kernel
theorem dX1_cede_88 : decode cX1_cede 88 = .ok (.getfield 49, 3) := by decide +kernel
theorem dX1_cede_91 : decode cX1_cede 91 = .ok (.iaload, 1) := by decide +kernel
theorem dX1_cede_92 : decode cX1_cede 92 = .ok (.istore 7, 2) := by decide +kernel
theorem dX1_cede_94 : decode cX1_cede 94 = .ok (.aload_n 0, 1) := by decide +kernel
theorem dX1_cede_95 : decode cX1_cede 95 = .ok (.getfield 23, 3) := by decide +kernel
theorem dX1_cede_98 : decode cX1_cede 98 = .ok (.iload 4, 2) := by decide +kernel
theorem dX1_cede_100 : decode cX1_cede 100 = .ok (.iload 6, 2) := by decide +kernel
theorem dX1_cede_102 : decode cX1_cede 102 = .ok (.iastore, 1) := by decide +kernel
theorem dX1_cede_103 : decode cX1_cede 103 = .ok (.aload_n 0, 1) := by decide +kernel
theorem dX1_cede_104 : decode cX1_cede 104 = .ok (.getfield 17, 3) := by decide +kernel
theorem dX1_cede_107 : decode cX1_cede 107 = .ok (.iload_n 1, 1) := by decide +kernel
theorem dX1_cede_108 : decode cX1_cede 108 = .ok (.aaload, 1) := by decide +kernel
theorem dX1_cede_109 : decode cX1_cede 109 = .ok (.iload 4, 2) := by decide +kernel
theorem dX1_cede_111 : decode cX1_cede 111 = .ok (.aload 5, 2) := by decide +kernel
theorem dX1_cede_113 : decode cX1_cede 113 = .ok (.aload_n 3, 1) := by decide +kernel
theorem dX1_cede_114 : decode cX1_cede 114 = .ok (.getfield 49, 3) := by decide +kernel
theorem dX1_cede_117 : decode cX1_cede 117 = .ok (.iload 7, 2) := by decide +kernel
theorem dX1_cede_119 : decode cX1_cede 119 = .ok (.iload 6, 2) := by decide +kernel
theorem dX1_cede_121 : decode cX1_cede 121 = .ok (.iadd, 1) := by decide +kernel
theorem dX1_cede_122 : decode cX1_cede 122 = .ok (.invokevirtual 63, 3) := by decide +kernel
theorem dX1_cede_125 : decode cX1_cede 125 = .ok (.aload 5, 2) := by decide +kernel
theorem dX1_cede_127 : decode cX1_cede 127 = .ok (.aload_n 3, 1) := by decide +kernel
theorem dX1_cede_128 : decode cX1_cede 128 = .ok (.getfield 49, 3) := by decide +kernel
theorem dX1_cede_131 : decode cX1_cede 131 = .ok (.iload 7, 2) := by decide +kernel
theorem dX1_cede_133 : decode cX1_cede 133 = .ok (.invokevirtual 63, 3) := by decide +kernel
theorem dX1_cede_136 : decode cX1_cede 136 = .ok (.isub, 1) := by decide +kernel
theorem dX1_cede_137 : decode cX1_cede 137 = .ok (.iastore, 1) := by decide +kernel
theorem dX1_cede_138 : decode cX1_cede 138 = .ok (.iinc 4 1, 3) := by decide +kernel
theorem dX1_cede_141 : decode cX1_cede 141 = .ok (.goto (-124), 3) := by decide +kernel
theorem dX1_cede_144 : decode cX1_cede 144 = .ok (.return_, 1) := by decide +kernel
set_option maxHeartbeats 400000 in
set_option maxRecDepth 100000 in
theorem c_cede (l : Launch) (G : hG) (M : hM) (S : hSy) (hS : SyV G M S) (hG1 : SyG S) (cx : Nat) (am : Nat → Int32) (be yl : Nat → Nat → Int32) (lo : Nat → Int32) (hV : CesV G M S cx am be yl lo) (hc3 : cx < 3) (i : Nat) (mu : Int32) (hi : i < sM S) : hCT l G yX1_cede cX1_cede 8 (Option.none) (hRm 6 0 0) M [.ref (sA S (100 * (cx + 1))), .int (nI i), .int mu] (fun v M' => v = none ∧ ∃ be' lo', CesV G M' S cx am be' yl lo' ∧ (∀ j, j ≠ i → be' j = be j) ∧ (∀ j, j < sN S → be' i j = pB S mu (clY (sC S i)) (clI (sC S i) 0) (am i) (fun k => yl k (clY (sC S i))) (sN S) j) ∧ (∀ j, j < sN S → lo' j = pLoss S mu j (clI (sC S i) 0) (am i) (pB S mu (clY (sC S i)) (clI (sC S i) 0) (am i) (fun k => yl k (clY (sC S i))) j)) ∧ hSim G (hS1 cx) M M') := by
  refine hCT.of (own := RX1) (nm := "cede") (by decide) rfl rfl (Nat.le_of_ble_eq_true rfl) ?_
  intro p e s m args below meth c ls X Y hl
  have hx := X.1
  have hb := X.2.1
  have hl : lv_has ls 8 [(0, .ref (sA S (100 * (cx + 1)))), (1, .int (nI i)), (2, .int mu)] := hl
  obtain ⟨hN8, hM40, hLG, hCY⟩ := id hG1
  obtain ⟨hl13, he14, hl15, he16, hLa, hCl⟩ := id hS
  obtain ⟨mc13, hlo13⟩ := id hl13
  obtain ⟨mc15, hlo15⟩ := id hl15
  obtain ⟨ho, ham, ⟨fb, hfb, hbo⟩, hbr, ⟨fy, hfy, hyo⟩, hyr, hlo⟩ := id hV
  have hy := hCY i hi
  refine lv_aload_n hx hb dX1_cede_0 rfl (lv_at hl 0 rfl) ?_
  refine h_get X Y (k := 5) (v := .ref (sA S 15)) ho rfl hin_X1 (by decide) kfl_X1_30 rfl dX1_cede_1 ?_
  refine lv_iload_n hx hb dX1_cede_4 rfl (lv_at hl 1 rfl) ?_
  refine h_callFr (rest := []) X Y (c_get l G M (sA S 15) 15 (sA S 16) 16 (sM S) i (fun i => sA S (1000 + 10 * i)) hl15 (he16 (by omega)) (by omega)) rfl rfl (hFw_Jx4a65c_get_915e3 X) gw_X1_43 dsi_Jx4a65c_get_915e3 hlo15 rfl rfl rfl rfl hl.1 (Nat.le_of_ble_eq_true rfl) ⟨Nat.le_of_ble_eq_true rfl, Nat.le_of_ble_eq_true rfl⟩ ⟨Nat.le_of_ble_eq_true rfl, Nat.le_of_ble_eq_true rfl⟩ dX1_cede_5 (fun H locs Y => ?_)
  refine h_cast X Y (hCl i (by omega)).1 rfl rfl kcl_X1_47 dX1_cede_10 ?_
  refine lv_astore_n (lv' := [(3, .ref (sA S (1000 + 10 * i))), (0, .ref (sA S (100 * (cx + 1)))), (1, .int (nI i)), (2, .int mu)]) hx hb dX1_cede_13 rfl hl (by decide) rfl (fun ls hl => ?_)
  refine lv_iconst (v := 0) hx hb dX1_cede_14 (by decide) ?_
  refine lv_istore (lv' := [(4, .int 0), (3, .ref (sA S (1000 + 10 * i))), (0, .ref (sA S (100 * (cx + 1)))), (1, .int (nI i)), (2, .int mu)]) hx hb dX1_cede_15 hl (by decide) rfl (fun ls hl => ?_)
  have loop : ∀ (d k : Nat), k + d = sN S + 1 → k ≤ sN S → ∀ (M1 : hM) (be1 : Nat → Nat → Int32) (lo1 : Nat → Int32), SyV G M1 S → CesV G M1 S cx am be1 yl lo1 → hSim G (hS1 cx) M M1 → (∀ j, j ≠ i → be1 j = be j) → (∀ j, j < k → be1 i j = (pB S mu (clY (sC S i)) (clI (sC S i) 0) (am i) (fun k => yl k (clY (sC S i))) k) j) → (∀ j, j < k → lo1 j = pLoss S mu j (clI (sC S i) 0) (am i) (pB S mu (clY (sC S i)) (clI (sC S i) 0) (am i) (fun k => yl k (clY (sC S i))) j)) → ∀ (H : Heap) (locs : List Loc) (ls : Array Slot), hHS G M1 s H locs → lv_has ls 8 [(0, .ref (sA S (100 * (cx + 1)))), (1, .int (nI i)), (2, .int mu), (3, .ref (sA S (1000 + 10 * i))), (4, .int (nI k))] → W p l e (hRm 6 0 0) s m args below meth c H locs 0 0 (MQ below (hQ G (fun v M' => v = none ∧ ∃ be' lo', CesV G M' S cx am be' yl lo' ∧ (∀ j, j ≠ i → be' j = be j) ∧ (∀ j, j < sN S → be' i j = pB S mu (clY (sC S i)) (clI (sC S i) 0) (am i) (fun k => yl k (clY (sC S i))) (sN S) j) ∧ (∀ j, j < sN S → lo' j = pLoss S mu j (clI (sC S i) 0) (am i) (pB S mu (clY (sC S i)) (clI (sC S i) 0) (am i) (fun k => yl k (clY (sC S i))) j)) ∧ hSim G (hS1 cx) M M')) args s 0 0 (hA G)) (F0 m 17 ls []) := by
    intro d
    induction d with
    | zero => intro k h1; intros; exact absurd h1 (by omega)
    | succ d ih =>
      intro k h1 h2 M1 be1 lo1 hS hV hs0 hbo1 hb1 hl1 H locs ls Y hl
      obtain ⟨hl13, he14, hl15, he16, hLa, hCl⟩ := id hS
      obtain ⟨mc13, hlo13⟩ := id hl13
      obtain ⟨mc15, hlo15⟩ := id hl15
      obtain ⟨ho, ham, ⟨fb, hfb, hbo⟩, hbr, ⟨fy, hfy, hyo⟩, hyr, hlo⟩ := id hV
      refine lv_iload hx hb dX1_cede_17 (lv_at hl 4 rfl) ?_
      refine lv_aload_n hx hb dX1_cede_19 rfl (lv_at hl 0 rfl) ?_
      refine h_get X Y (k := 4) (v := .ref (sA S 13)) ho rfl hin_X1 (by decide) kfl_X1_26 rfl dX1_cede_20 ?_
      refine h_callFr (rest := [.int (nI k)]) X Y (c_size l G M1 (sA S 13) 13 (sA S 14) (sN S) hl13) rfl rfl (hFw_Jx4a65c_size_8abf5 X) gw_X1_33 dsi_Jx4a65c_size_8abf5 hlo13 rfl rfl rfl rfl hl.1 (Nat.le_of_ble_eq_true rfl) ⟨Nat.le_of_ble_eq_true rfl, Nat.le_of_ble_eq_true rfl⟩ ⟨Nat.le_of_ble_eq_true rfl, Nat.le_of_ble_eq_true rfl⟩ dX1_cede_23 (fun H locs Y => ?_)
      refine lv_icmp_ge (tgt := 144) hx hb dX1_cede_28 (by decide) (fun c28 => ?_) (fun c28 => ?_)
      · have c28 : (sN S) ≤ k := (nI_leI (a := (sN S)) (b := k) (by omega) (by omega)).mp c28
        have hk9 : k = (sN S) := by omega
        subst hk9
        exact h_vret X Y ⟨rfl, be1, lo1, hV, hbo1, hb1, hl1, hs0⟩ (Nat.le_refl _) (Nat.le_refl _) dX1_cede_144
      · have c28 : ¬ (sN S) ≤ k := fun z9 => c28 ((nI_leI (a := (sN S)) (b := k) (by omega) (by omega)).mpr z9)
        refine lv_aload_n hx hb dX1_cede_31 rfl (lv_at hl 0 rfl) ?_
        refine h_get X Y (k := 4) (v := .ref (sA S 13)) ho rfl hin_X1 (by decide) kfl_X1_26 rfl dX1_cede_32 ?_
        refine lv_iload hx hb dX1_cede_35 (lv_at hl 4 rfl) ?_
        refine h_callFr (rest := []) X Y (c_get l G M1 (sA S 13) 13 (sA S 14) 14 (sN S) k (fun k => sA S (2000 + 100 * k)) hl13 (he14 (by omega)) (by omega)) rfl rfl (hFw_Jx4a65c_get_915e3 X) gw_X1_43 dsi_Jx4a65c_get_915e3 hlo13 rfl rfl rfl rfl hl.1 (Nat.le_of_ble_eq_true rfl) ⟨Nat.le_of_ble_eq_true rfl, Nat.le_of_ble_eq_true rfl⟩ ⟨Nat.le_of_ble_eq_true rfl, Nat.le_of_ble_eq_true rfl⟩ dX1_cede_37 (fun H locs Y => ?_)
        refine h_cast X Y (hLa k (by omega)).1.1 rfl rfl kcl_X1_53 dX1_cede_42 ?_
        refine lv_astore (lv' := [(5, .ref (sA S (2000 + 100 * k))), (0, .ref (sA S (100 * (cx + 1)))), (1, .int (nI i)), (2, .int mu), (3, .ref (sA S (1000 + 10 * i))), (4, .int (nI k))]) hx hb dX1_cede_45 hl (by decide) rfl (fun ls hl => ?_)
        refine lv_iload hx hb dX1_cede_47 (lv_at hl 5 rfl) ?_
        refine lv_iload_n hx hb dX1_cede_49 rfl (lv_at hl 3 rfl) ?_
        refine lv_icmp_ne (tgt := 57) hx hb dX1_cede_50 (by decide) (fun c50 => ?_) (fun c50 => ?_)
        · refine lv_aload hx hb dX1_cede_57 (lv_at hl 0 rfl) ?_
          refine lv_aload_n hx hb dX1_cede_59 rfl (lv_at hl 4 rfl) ?_
          refine lv_aload_n hx hb dX1_cede_60 rfl (lv_at hl 1 rfl) ?_
          refine h_get X Y (k := 0) (v := .ref (sA S (100 * (cx + 1) + 1))) ho rfl hin_X1 (by decide) kfl_X1_9 rfl dX1_cede_61 ?_
          refine lv_iload_n hx hb dX1_cede_64 rfl (lv_at hl 2 rfl) ?_
          refine h_iald X Y (i := i) ham (by omega) (by decide) dX1_cede_65 ?_
          refine lv_aload_n hx hb dX1_cede_66 rfl (lv_at hl 1 rfl) ?_
          refine lv_aload hx hb dX1_cede_67 (lv_at hl 0 rfl) ?_
          refine lv_iload_n hx hb dX1_cede_69 rfl (lv_at hl 2 rfl) ?_
          refine lv_iload hx hb dX1_cede_70 (lv_at hl 5 rfl) ?_
          refine h_callVr (rest := [.int (am i), .ref (sA S (1000 + 10 * i)), .ref (sA S (2000 + 100 * k))]) X Y (c_subject l G M1 S hS hG1 cx am be1 yl lo1 hV k i k (by omega) (by omega) (by omega)) rfl rfl gw_X1_55 dsc_X1_subject ho rfl rfl rfl rfl hl.1 (Nat.le_of_ble_eq_true rfl) ⟨Nat.le_of_ble_eq_true rfl, Nat.le_of_ble_eq_true rfl⟩ ⟨Nat.le_of_ble_eq_true rfl, Nat.le_of_ble_eq_true rfl⟩ dX1_cede_72 (fun H locs Y => ?_)
          refine h_callV (rest := []) X Y (c_lossOf l G M1 S hS hG1 k i (by omega) hi (am i) (sMax (pSubj S k (am i) (be1 i) k) 0)) gw_X1_59 dsc_X5_lossOf (hLa k (by omega)).1.1 rfl rfl rfl hl.1 rfl (Nat.le_of_ble_eq_true rfl) ⟨Nat.le_of_ble_eq_true rfl, Nat.le_of_ble_eq_true rfl⟩ ⟨Nat.le_of_ble_eq_true rfl, Nat.le_of_ble_eq_true rfl⟩ dX1_cede_75 ?_
          rintro _ M1 H locs ⟨rfl, hq⟩ Y
          have hs0 := hs0.tr (hq.mono hS0_1)
          have hS := hS.sim hq hS0_scr
          have hV := hV.sim hq (hS0_ces hc3)
          obtain ⟨hl13, he14, hl15, he16, hLa, hCl⟩ := id hS
          obtain ⟨mc13, hlo13⟩ := id hl13
          obtain ⟨mc15, hlo15⟩ := id hl15
          obtain ⟨ho, ham, ⟨fb, hfb, hbo⟩, hbr, ⟨fy, hfy, hyo⟩, hyr, hlo⟩ := id hV
          try dsimp only [Option.toList, List.cons_append, List.nil_append]
          have hloss : hLoss (sL S k) (sF S k) (clI (sC S i) 0) (am i) (sMax (pSubj S k (am i) (be1 i) k) 0) = pLoss S mu k (clI (sC S i) 0) (am i) (pB S mu (clY (sC S i)) (clI (sC S i) 0) (am i) (fun k => yl k (clY (sC S i))) k) := by
            rw [pSubj_congr S k (am i) k hb1]; exact (if_neg c50).symm
          refine lv_topi (fun x0 ex0 => ?_)
          rw [← ex0] at hloss
          refine lv_istore (lv' := [(6, .int x0), (5, .ref (sA S (2000 + 100 * k))), (0, .ref (sA S (100 * (cx + 1)))), (1, .int (nI i)), (2, .int mu), (3, .ref (sA S (1000 + 10 * i))), (4, .int (nI k))]) hx hb dX1_cede_78 hl (by decide) rfl (fun ls hl => ?_)
          refine lv_aload_n hx hb dX1_cede_80 rfl (lv_at hl 2 rfl) ?_
          refine h_get X Y (k := 2) (v := .ref (sA S (100 * (cx + 1) + 3))) ho rfl hin_X1 (by decide) kfl_X1_20 rfl dX1_cede_81 ?_
          refine lv_iload hx hb dX1_cede_84 (lv_at hl 6 rfl) ?_
          refine h_aaldI X Y (i := k) hyo (by omega) (by decide) dX1_cede_86 ?_
          refine h_rf (hfy k (by omega)) ?_
          refine lv_aload_n hx hb dX1_cede_87 rfl (lv_at hl 5 rfl) ?_
          refine h_get X Y (k := 0) (v := .int (nI (clY (sC S i)))) (hCl i hi).1 rfl hin_X3 (by decide) kfl_X1_49 rfl dX1_cede_88 ?_
          refine h_iald X Y (i := (clY (sC S i))) (hyr k (by omega)) (by omega) (by decide) dX1_cede_91 ?_
          refine lv_istore (lv' := [(7, .int ((yl k) (clY (sC S i)))), (6, .int x0), (5, .ref (sA S (2000 + 100 * k))), (0, .ref (sA S (100 * (cx + 1)))), (1, .int (nI i)), (2, .int mu), (3, .ref (sA S (1000 + 10 * i))), (4, .int (nI k))]) hx hb dX1_cede_92 hl (by decide) rfl (fun ls hl => ?_)
          refine lv_aload_n hx hb dX1_cede_94 rfl (lv_at hl 3 rfl) ?_
          refine h_get X Y (k := 3) (v := .ref (sA S (100 * (cx + 1) + 4))) ho rfl hin_X1 (by decide) kfl_X1_23 rfl dX1_cede_95 ?_
          refine lv_iload hx hb dX1_cede_98 (lv_at hl 7 rfl) ?_
          refine lv_iload hx hb dX1_cede_100 (lv_at hl 1 rfl) ?_
          refine h_iast X Y (i := k) hlo (by omega) (by decide) dX1_cede_102 (fun H locs Y => ?_)
          obtain ⟨hV, hS, hq⟩ := CesV.putLo hc3 (upd lo1 k x0) hV hS
          have hs0 := hs0.tr hq
          generalize hup M1 _ _ = M2 at Y hV hS hq hs0
          obtain ⟨hl13, he14, hl15, he16, hLa, hCl⟩ := id hS
          obtain ⟨mc13, hlo13⟩ := id hl13
          obtain ⟨mc15, hlo15⟩ := id hl15
          obtain ⟨ho, ham, ⟨fb, hfb, hbo⟩, hbr, ⟨fy, hfy, hyo⟩, hyr, hlo⟩ := id hV
          refine lv_aload_n hx hb dX1_cede_103 rfl (lv_at hl 3 rfl) ?_
          refine h_get X Y (k := 1) (v := .ref (sA S (100 * (cx + 1) + 2))) ho rfl hin_X1 (by decide) kfl_X1_17 rfl dX1_cede_104 ?_
          refine lv_iload_n hx hb dX1_cede_107 rfl (lv_at hl 4 rfl) ?_
          refine h_aaldI X Y (i := i) hbo (by omega) (by decide) dX1_cede_108 ?_
          refine h_rf (hfb i (by omega)) ?_
          refine lv_iload hx hb dX1_cede_109 (lv_at hl 7 rfl) ?_
          refine lv_aload hx hb dX1_cede_111 (lv_at hl 2 rfl) ?_
          refine lv_aload_n hx hb dX1_cede_113 rfl (lv_at hl 6 rfl) ?_
          refine h_get X Y (k := 0) (v := .int (nI (clY (sC S i)))) (hCl i hi).1 rfl hin_X3 (by decide) kfl_X1_49 rfl dX1_cede_114 ?_
          refine lv_iload hx hb dX1_cede_117 (lv_at hl 0 rfl) ?_
          refine lv_iload hx hb dX1_cede_119 (lv_at hl 1 rfl) ?_
          refine lv_iadd hx hb dX1_cede_121 ?_
          refine h_callVr (rest := [.int (nI k), .ref (sA S (100 * (cx + 1) + 10 + i))]) X Y (c_borneOf l G M2 (sA S (2000 + 100 * k)) (2000 + 100 * k) (sL S k) (hLa k (by omega)).1 (clY (sC S i)) hy (((yl k) (clY (sC S i))) + x0)) rfl rfl gw_X1_63 dsc_X5_borneOf (hLa k (by omega)).1.1 rfl rfl rfl rfl hl.1 (Nat.le_of_ble_eq_true rfl) ⟨Nat.le_of_ble_eq_true rfl, Nat.le_of_ble_eq_true rfl⟩ ⟨Nat.le_of_ble_eq_true rfl, Nat.le_of_ble_eq_true rfl⟩ dX1_cede_122 (fun H locs Y => ?_)
          refine lv_aload hx hb dX1_cede_125 (lv_at hl 2 rfl) ?_
          refine lv_aload_n hx hb dX1_cede_127 rfl (lv_at hl 6 rfl) ?_
          refine h_get X Y (k := 0) (v := .int (nI (clY (sC S i)))) (hCl i hi).1 rfl hin_X3 (by decide) kfl_X1_49 rfl dX1_cede_128 ?_
          refine lv_iload hx hb dX1_cede_131 (lv_at hl 0 rfl) ?_
          refine h_callVr (rest := [.int (lyBorne (sL S k) (clY (sC S i)) (((yl k) (clY (sC S i))) + x0)), .int (nI k), .ref (sA S (100 * (cx + 1) + 10 + i))]) X Y (c_borneOf l G M2 (sA S (2000 + 100 * k)) (2000 + 100 * k) (sL S k) (hLa k (by omega)).1 (clY (sC S i)) hy ((yl k) (clY (sC S i)))) rfl rfl gw_X1_63 dsc_X5_borneOf (hLa k (by omega)).1.1 rfl rfl rfl rfl hl.1 (Nat.le_of_ble_eq_true rfl) ⟨Nat.le_of_ble_eq_true rfl, Nat.le_of_ble_eq_true rfl⟩ ⟨Nat.le_of_ble_eq_true rfl, Nat.le_of_ble_eq_true rfl⟩ dX1_cede_133 (fun H locs Y => ?_)
          refine lv_isub hx hb dX1_cede_136 ?_
          refine h_iast X Y (i := k) (hbr i (by omega)) (by omega) (by decide) dX1_cede_137 (fun H locs Y => ?_)
          obtain ⟨hV, hS, hq⟩ := CesV.putBe hc3 i (by omega) (upd (be1 i) k ((lyBorne (sL S k) (clY (sC S i)) (((yl k) (clY (sC S i))) + x0)) - (lyBorne (sL S k) (clY (sC S i)) ((yl k) (clY (sC S i)))))) hV hS
          have hs0 := hs0.tr hq
          generalize hup M2 _ _ = M3 at Y hV hS hq hs0
          refine lv_iinc (v := nI (k + 1)) (lv' := [(4, .int (nI (k + 1))), (7, .int ((yl k) (clY (sC S i)))), (6, .int x0), (5, .ref (sA S (2000 + 100 * k))), (0, .ref (sA S (100 * (cx + 1)))), (1, .int (nI i)), (2, .int mu), (3, .ref (sA S (1000 + 10 * i)))]) hx hb dX1_cede_138 hl (k := 7) rfl (nI_1 k) (by decide) rfl (fun ls hl => ?_)
          refine lv_goto (tgt := 17) hx hb dX1_cede_141 (by decide) ?_
          refine ih (k + 1) (by omega) (by omega) M3 _ _ hS hV hs0 ?_ ?_ ?_ _ _ _ Y (lv_sub hl [4, 5, 6, 7, 0] rfl)
          · intro j hj; rw [va_up_ne _ _ hj]; exact hbo1 j hj
          · intro j hj
            rw [va_up_self]
            show upd _ _ _ j = va_up (pB S mu (clY (sC S i)) (clI (sC S i) 0) (am i) (fun k => yl k (clY (sC S i))) k) k _ j
            by_cases e : j = k
            · subst e; rw [va_up_self]; simp only [upd, if_true]; rw [hloss]
            · rw [va_up_ne _ _ e]; simp only [upd, if_neg e]; exact hb1 j (by omega)
          · intro j hj
            by_cases e : j = k
            · subst e; simp only [upd, if_true]; exact hloss
            · simp only [upd, if_neg e]; exact hl1 j (by omega)
        · refine lv_iconst (v := 0) hx hb dX1_cede_53 (by decide) ?_
          refine lv_goto (tgt := 78) hx hb dX1_cede_54 (by decide) ?_
          have hloss : 0 = pLoss S mu k (clI (sC S i) 0) (am i) (pB S mu (clY (sC S i)) (clI (sC S i) 0) (am i) (fun k => yl k (clY (sC S i))) k) := by
            exact (if_pos c50).symm
          refine lv_topi (fun x0 ex0 => ?_)
          rw [← ex0] at hloss
          refine lv_istore (lv' := [(6, .int x0), (5, .ref (sA S (2000 + 100 * k))), (0, .ref (sA S (100 * (cx + 1)))), (1, .int (nI i)), (2, .int mu), (3, .ref (sA S (1000 + 10 * i))), (4, .int (nI k))]) hx hb dX1_cede_78 hl (by decide) rfl (fun ls hl => ?_)
          refine lv_aload_n hx hb dX1_cede_80 rfl (lv_at hl 2 rfl) ?_
          refine h_get X Y (k := 2) (v := .ref (sA S (100 * (cx + 1) + 3))) ho rfl hin_X1 (by decide) kfl_X1_20 rfl dX1_cede_81 ?_
          refine lv_iload hx hb dX1_cede_84 (lv_at hl 6 rfl) ?_
          refine h_aaldI X Y (i := k) hyo (by omega) (by decide) dX1_cede_86 ?_
          refine h_rf (hfy k (by omega)) ?_
          refine lv_aload_n hx hb dX1_cede_87 rfl (lv_at hl 5 rfl) ?_
          refine h_get X Y (k := 0) (v := .int (nI (clY (sC S i)))) (hCl i hi).1 rfl hin_X3 (by decide) kfl_X1_49 rfl dX1_cede_88 ?_
          refine h_iald X Y (i := (clY (sC S i))) (hyr k (by omega)) (by omega) (by decide) dX1_cede_91 ?_
          refine lv_istore (lv' := [(7, .int ((yl k) (clY (sC S i)))), (6, .int x0), (5, .ref (sA S (2000 + 100 * k))), (0, .ref (sA S (100 * (cx + 1)))), (1, .int (nI i)), (2, .int mu), (3, .ref (sA S (1000 + 10 * i))), (4, .int (nI k))]) hx hb dX1_cede_92 hl (by decide) rfl (fun ls hl => ?_)
          refine lv_aload_n hx hb dX1_cede_94 rfl (lv_at hl 3 rfl) ?_
          refine h_get X Y (k := 3) (v := .ref (sA S (100 * (cx + 1) + 4))) ho rfl hin_X1 (by decide) kfl_X1_23 rfl dX1_cede_95 ?_
          refine lv_iload hx hb dX1_cede_98 (lv_at hl 7 rfl) ?_
          refine lv_iload hx hb dX1_cede_100 (lv_at hl 1 rfl) ?_
          refine h_iast X Y (i := k) hlo (by omega) (by decide) dX1_cede_102 (fun H locs Y => ?_)
          obtain ⟨hV, hS, hq⟩ := CesV.putLo hc3 (upd lo1 k x0) hV hS
          have hs0 := hs0.tr hq
          generalize hup M1 _ _ = M4 at Y hV hS hq hs0
          obtain ⟨hl13, he14, hl15, he16, hLa, hCl⟩ := id hS
          obtain ⟨mc13, hlo13⟩ := id hl13
          obtain ⟨mc15, hlo15⟩ := id hl15
          obtain ⟨ho, ham, ⟨fb, hfb, hbo⟩, hbr, ⟨fy, hfy, hyo⟩, hyr, hlo⟩ := id hV
          refine lv_aload_n hx hb dX1_cede_103 rfl (lv_at hl 3 rfl) ?_
          refine h_get X Y (k := 1) (v := .ref (sA S (100 * (cx + 1) + 2))) ho rfl hin_X1 (by decide) kfl_X1_17 rfl dX1_cede_104 ?_
          refine lv_iload_n hx hb dX1_cede_107 rfl (lv_at hl 4 rfl) ?_
          refine h_aaldI X Y (i := i) hbo (by omega) (by decide) dX1_cede_108 ?_
          refine h_rf (hfb i (by omega)) ?_
          refine lv_iload hx hb dX1_cede_109 (lv_at hl 7 rfl) ?_
          refine lv_aload hx hb dX1_cede_111 (lv_at hl 2 rfl) ?_
          refine lv_aload_n hx hb dX1_cede_113 rfl (lv_at hl 6 rfl) ?_
          refine h_get X Y (k := 0) (v := .int (nI (clY (sC S i)))) (hCl i hi).1 rfl hin_X3 (by decide) kfl_X1_49 rfl dX1_cede_114 ?_
          refine lv_iload hx hb dX1_cede_117 (lv_at hl 0 rfl) ?_
          refine lv_iload hx hb dX1_cede_119 (lv_at hl 1 rfl) ?_
          refine lv_iadd hx hb dX1_cede_121 ?_
          refine h_callVr (rest := [.int (nI k), .ref (sA S (100 * (cx + 1) + 10 + i))]) X Y (c_borneOf l G M4 (sA S (2000 + 100 * k)) (2000 + 100 * k) (sL S k) (hLa k (by omega)).1 (clY (sC S i)) hy (((yl k) (clY (sC S i))) + x0)) rfl rfl gw_X1_63 dsc_X5_borneOf (hLa k (by omega)).1.1 rfl rfl rfl rfl hl.1 (Nat.le_of_ble_eq_true rfl) ⟨Nat.le_of_ble_eq_true rfl, Nat.le_of_ble_eq_true rfl⟩ ⟨Nat.le_of_ble_eq_true rfl, Nat.le_of_ble_eq_true rfl⟩ dX1_cede_122 (fun H locs Y => ?_)
          refine lv_aload hx hb dX1_cede_125 (lv_at hl 2 rfl) ?_
          refine lv_aload_n hx hb dX1_cede_127 rfl (lv_at hl 6 rfl) ?_
          refine h_get X Y (k := 0) (v := .int (nI (clY (sC S i)))) (hCl i hi).1 rfl hin_X3 (by decide) kfl_X1_49 rfl dX1_cede_128 ?_
          refine lv_iload hx hb dX1_cede_131 (lv_at hl 0 rfl) ?_
          refine h_callVr (rest := [.int (lyBorne (sL S k) (clY (sC S i)) (((yl k) (clY (sC S i))) + x0)), .int (nI k), .ref (sA S (100 * (cx + 1) + 10 + i))]) X Y (c_borneOf l G M4 (sA S (2000 + 100 * k)) (2000 + 100 * k) (sL S k) (hLa k (by omega)).1 (clY (sC S i)) hy ((yl k) (clY (sC S i)))) rfl rfl gw_X1_63 dsc_X5_borneOf (hLa k (by omega)).1.1 rfl rfl rfl rfl hl.1 (Nat.le_of_ble_eq_true rfl) ⟨Nat.le_of_ble_eq_true rfl, Nat.le_of_ble_eq_true rfl⟩ ⟨Nat.le_of_ble_eq_true rfl, Nat.le_of_ble_eq_true rfl⟩ dX1_cede_133 (fun H locs Y => ?_)
          refine lv_isub hx hb dX1_cede_136 ?_
          refine h_iast X Y (i := k) (hbr i (by omega)) (by omega) (by decide) dX1_cede_137 (fun H locs Y => ?_)
          obtain ⟨hV, hS, hq⟩ := CesV.putBe hc3 i (by omega) (upd (be1 i) k ((lyBorne (sL S k) (clY (sC S i)) (((yl k) (clY (sC S i))) + x0)) - (lyBorne (sL S k) (clY (sC S i)) ((yl k) (clY (sC S i)))))) hV hS
          have hs0 := hs0.tr hq
          generalize hup M4 _ _ = M5 at Y hV hS hq hs0
          refine lv_iinc (v := nI (k + 1)) (lv' := [(4, .int (nI (k + 1))), (7, .int ((yl k) (clY (sC S i)))), (6, .int x0), (5, .ref (sA S (2000 + 100 * k))), (0, .ref (sA S (100 * (cx + 1)))), (1, .int (nI i)), (2, .int mu), (3, .ref (sA S (1000 + 10 * i)))]) hx hb dX1_cede_138 hl (k := 7) rfl (nI_1 k) (by decide) rfl (fun ls hl => ?_)
          refine lv_goto (tgt := 17) hx hb dX1_cede_141 (by decide) ?_
          refine ih (k + 1) (by omega) (by omega) M5 _ _ hS hV hs0 ?_ ?_ ?_ _ _ _ Y (lv_sub hl [4, 5, 6, 7, 0] rfl)
          · intro j hj; rw [va_up_ne _ _ hj]; exact hbo1 j hj
          · intro j hj
            rw [va_up_self]
            show upd _ _ _ j = va_up (pB S mu (clY (sC S i)) (clI (sC S i) 0) (am i) (fun k => yl k (clY (sC S i))) k) k _ j
            by_cases e : j = k
            · subst e; rw [va_up_self]; simp only [upd, if_true]; rw [hloss]
            · rw [va_up_ne _ _ e]; simp only [upd, if_neg e]; exact hb1 j (by omega)
          · intro j hj
            by_cases e : j = k
            · subst e; simp only [upd, if_true]; exact hloss
            · simp only [upd, if_neg e]; exact hl1 j (by omega)
  exact loop (sN S + 1) 0 (by omega) (by omega) M be lo hS hV hSim.rf (fun _ _ => rfl) (fun _ z9 => absurd z9 (by omega)) (fun _ z9 => absurd z9 (by omega)) _ _ _ Y (lv_sub hl [2, 3, 4, 1, 0] rfl)
