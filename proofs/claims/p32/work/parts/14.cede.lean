-- WHAT STAYS WHEN SCRATCH ROWS ARE WRITTEN
def hS0 (u : Nat) : Prop := 2000 ≤ u ∧ u < 3000 ∧ u % 10 = 9
def hScr (u : Nat) : Prop := hS0 u ∨ (100 ≤ u ∧ u < 600)
def hS1 (cx u : Nat) : Prop := hS0 u ∨ (100 * (cx + 1) ≤ u ∧ u < 100 * (cx + 1) + 100)
theorem hSim.obj {G : hG} {S : Nat → Prop} {M M' : hM} (h : hSim G S M M') {a t : Nat} {o : Nat × List Value} (he : M a = some (t, .inr o)) : M' a = some (t, .inr o) := by
  rcases h a with h1 | ⟨t', n, f, f', h1, h2, -⟩
  · rw [h1]; exact he
  · rw [he] at h2; cases h2
theorem hSim.oth {G : hG} {S : Nat → Prop} {M M' : hM} (h : hSim G S M M') {a t n : Nat} {cA : ClassId} {z : (Nat → Int64) ⊕ (Nat → UInt32) ⊕ (Nat → UInt64) ⊕ (Nat → Option Nat)} (he : M a = some (t, .inl (cA, n, .inr z))) : M' a = some (t, .inl (cA, n, .inr z)) := by
  rcases h a with h1 | ⟨t', n', f, f', h1, h2, -⟩
  · rw [h1]; exact he
  · rw [he] at h2; cases h2
theorem LsO.sim {G : hG} {S : Nat → Prop} {M M' : hM} {a t e n : Nat} (h : hSim G S M M') (hO : LsO M a t e n) : LsO M' a t e n := by
  obtain ⟨mc, ho⟩ := hO
  exact ⟨mc, h.obj ho⟩
theorem LsE.sim {G : hG} {S : Nat → Prop} {M M' : hM} {e t n : Nat} {g : Nat → Nat} (h : hSim G S M M') (hE : LsE G M e t n g) : LsE G M' e t n g := by
  obtain ⟨cap, f, h1, h2, h3, h4⟩ := hE
  exact ⟨cap, f, h1, h2, h3, h.oth h4⟩
theorem FoV.sim {G : hG} {S : Nat → Prop} {M M' : hM} {a t : Nat} {F : hFo} (h : hSim G S M M') (hs : ¬ S (t + 2)) (hF : FoV G M a t F) : FoV G M' a t F := by
  obtain ⟨h1, ⟨f, h2, h3⟩, h4, s0, h5⟩ := hF
  obtain ⟨s1, h6⟩ := h.row h5
  exact ⟨h.obj h1, ⟨f, h2, h.oth h3⟩, h.keep h4 hs, s1, h6⟩
theorem LyV.sim {G : hG} {S : Nat → Prop} {M M' : hM} {a t : Nat} {L : hLy} (h : hSim G S M M') (hs : ¬ S (t + 1) ∧ ¬ S (t + 2) ∧ ¬ S (t + 3) ∧ ¬ S (t + 4)) (hL : LyV G M a t L) : LyV G M' a t L :=
  ⟨h.obj hL.1, h.keep hL.2.1 hs.1, h.keep hL.2.2.1 hs.2.1, h.keep hL.2.2.2.1 hs.2.2.1, h.keep hL.2.2.2.2.1 hs.2.2.2, h.oth hL.2.2.2.2.2⟩
theorem ClV.sim {G : hG} {S : Nat → Prop} {M M' : hM} {a t : Nat} {C : hCl} (h : hSim G S M M') (hs : ¬ S (t + 1) ∧ ¬ S (t + 2)) (hC : ClV G M a t C) : ClV G M' a t C :=
  ⟨h.obj hC.1, h.keep hC.2.1 hs.1, h.keep hC.2.2 hs.2⟩
theorem LaV.sim {G : hG} {S : Nat → Prop} {M M' : hM} {a k : Nat} {L : hLy} {F : Nat → hFo} (h : hSim G S M M') (hs : ∀ u, S u → hScr u) (hL : LaV G M a (2000 + 100 * k) L F) : LaV G M' a (2000 + 100 * k) L F := by
  have n : ∀ j, j % 10 ≠ 9 → ¬ S (2000 + 100 * k + j) := fun j hj q => by
    have := hs _ q
    unfold hScr hS0 at this
    omega
  exact ⟨hL.1.sim h ⟨n 1 (by decide), n 2 (by decide), n 3 (by decide), n 4 (by decide)⟩, hL.2.1.sim h (n 12 (by decide)), hL.2.2.1.sim h (n 22 (by decide)), fun q hq => (hL.2.2.2 q hq).sim h (n 52 (by decide))⟩
theorem SyV.sim {G : hG} {S : Nat → Prop} {M M' : hM} {Sy : hSy} (h : hSim G S M M') (hs : ∀ u, S u → hScr u) (hV : SyV G M Sy) : SyV G M' Sy := by
  refine ⟨hV.1.sim h, fun q => (hV.2.1 q).sim h, hV.2.2.1.sim h, fun q => (hV.2.2.2.1 q).sim h, fun k hk => (hV.2.2.2.2.1 k hk).sim h hs, fun i hi => (hV.2.2.2.2.2 i hi).sim h ⟨fun q => ?_, fun q => ?_⟩⟩ <;>
  · have := hs _ q
    unfold hScr hS0 at this
    omega
theorem CesV.sim {G : hG} {S : Nat → Prop} {M M' : hM} {Sy : hSy} {cx : Nat} {am : Nat → Int32} {be yl : Nat → Nat → Int32} {lo : Nat → Int32} (h : hSim G S M M') (hs : ∀ u, S u → ¬ (100 * (cx + 1) ≤ u ∧ u < 100 * (cx + 1) + 100)) (hV : CesV G M Sy cx am be yl lo) : CesV G M' Sy cx am be yl lo := by
  obtain ⟨ho, ham, ⟨fb, hfb, hbo⟩, hbr, ⟨fy, hfy, hyo⟩, hyr, hlo⟩ := hV
  refine ⟨h.obj ho, h.keep ham (fun q => hs _ q (by omega)), ⟨fb, hfb, h.oth hbo⟩, fun i hi => h.keep (hbr i hi) (fun q => hs _ q (by omega)), ⟨fy, hfy, h.oth hyo⟩, fun k hk => h.keep (hyr k hk) (fun q => hs _ q (by omega)), h.keep hlo (fun q => hs _ q (by omega))⟩
theorem hS0_scr : ∀ u, hS0 u → hScr u := fun u h => Or.inl h
theorem hS1_scr {cx : Nat} (hc : cx < 3) : ∀ u, hS1 cx u → hScr u := fun u h => by
  rcases h with h | h
  · exact Or.inl h
  · exact Or.inr (by omega)
theorem hS0_ces {cx : Nat} (hc : cx < 3) : ∀ u, hS0 u → ¬ (100 * (cx + 1) ≤ u ∧ u < 100 * (cx + 1) + 100) := fun u h => by unfold hS0 at h; omega
theorem hS1_ces {cx cy : Nat} (hc : cy < 3) (hne : cx ≠ cy) : ∀ u, hS1 cx u → ¬ (100 * (cy + 1) ≤ u ∧ u < 100 * (cy + 1) + 100) := fun u h => by
  unfold hS1 hS0 at h
  omega
theorem hS0_1 {cx : Nat} : ∀ u, hS0 u → hS1 cx u := fun u h => Or.inl h
section CESPUT
variable {G : hG} {M : hM} {Sy : hSy} {cx : Nat} {am : Nat → Int32} {be yl : Nat → Nat → Int32} {lo : Nat → Int32}
theorem CesV.putLo (hc : cx < 3) (lo' : Nat → Int32) (hV : CesV G M Sy cx am be yl lo) (hS : SyV G M Sy) : CesV G (hup M (sA Sy (100 * (cx + 1) + 4)) (100 * (cx + 1) + 4, .inl (hT G 0, 8, .inl lo'))) Sy cx am be yl lo' ∧ SyV G (hup M (sA Sy (100 * (cx + 1) + 4)) (100 * (cx + 1) + 4, .inl (hT G 0, 8, .inl lo'))) Sy ∧ hSim G (hS1 cx) M (hup M (sA Sy (100 * (cx + 1) + 4)) (100 * (cx + 1) + 4, .inl (hT G 0, 8, .inl lo'))) := by
  obtain ⟨ho, ham, ⟨fb, hfb, hbo⟩, hbr, ⟨fy, hfy, hyo⟩, hyr, hlo⟩ := hV
  have hq : hSim G (hS1 cx) M (hup M (sA Sy (100 * (cx + 1) + 4)) (100 * (cx + 1) + 4, .inl (hT G 0, 8, .inl lo'))) := hSim.put hlo (Or.inr (by omega))
  exact ⟨⟨hup_tag ho hlo (by omega), hup_tag ham hlo (by omega), ⟨fb, hfb, hup_tag hbo hlo (by omega)⟩, fun i hi => hup_tag (hbr i hi) hlo (by omega), ⟨fy, hfy, hup_tag hyo hlo (by omega)⟩, fun k hk => hup_tag (hyr k hk) hlo (by omega), hup_eq⟩, hS.sim hq (hS1_scr hc), hq⟩
theorem CesV.putAm (hc : cx < 3) (am' : Nat → Int32) (hV : CesV G M Sy cx am be yl lo) (hS : SyV G M Sy) : CesV G (hup M (sA Sy (100 * (cx + 1) + 1)) (100 * (cx + 1) + 1, .inl (hT G 0, 40, .inl am'))) Sy cx am' be yl lo ∧ SyV G (hup M (sA Sy (100 * (cx + 1) + 1)) (100 * (cx + 1) + 1, .inl (hT G 0, 40, .inl am'))) Sy ∧ hSim G (hS1 cx) M (hup M (sA Sy (100 * (cx + 1) + 1)) (100 * (cx + 1) + 1, .inl (hT G 0, 40, .inl am'))) := by
  obtain ⟨ho, ham, ⟨fb, hfb, hbo⟩, hbr, ⟨fy, hfy, hyo⟩, hyr, hlo⟩ := hV
  have hq : hSim G (hS1 cx) M (hup M (sA Sy (100 * (cx + 1) + 1)) (100 * (cx + 1) + 1, .inl (hT G 0, 40, .inl am'))) := hSim.put ham (Or.inr (by omega))
  exact ⟨⟨hup_tag ho ham (by omega), hup_eq, ⟨fb, hfb, hup_tag hbo ham (by omega)⟩, fun i hi => hup_tag (hbr i hi) ham (by omega), ⟨fy, hfy, hup_tag hyo ham (by omega)⟩, fun k hk => hup_tag (hyr k hk) ham (by omega), hup_tag hlo ham (by omega)⟩, hS.sim hq (hS1_scr hc), hq⟩
theorem CesV.putBe (hc : cx < 3) (i : Nat) (hi : i < 40) (b : Nat → Int32) (hV : CesV G M Sy cx am be yl lo) (hS : SyV G M Sy) : CesV G (hup M (sA Sy (100 * (cx + 1) + 10 + i)) (100 * (cx + 1) + 10 + i, .inl (hT G 0, 8, .inl b))) Sy cx am (va_up be i b) yl lo ∧ SyV G (hup M (sA Sy (100 * (cx + 1) + 10 + i)) (100 * (cx + 1) + 10 + i, .inl (hT G 0, 8, .inl b))) Sy ∧ hSim G (hS1 cx) M (hup M (sA Sy (100 * (cx + 1) + 10 + i)) (100 * (cx + 1) + 10 + i, .inl (hT G 0, 8, .inl b))) := by
  obtain ⟨ho, ham, ⟨fb, hfb, hbo⟩, hbr, ⟨fy, hfy, hyo⟩, hyr, hlo⟩ := hV
  have hq : hSim G (hS1 cx) M (hup M (sA Sy (100 * (cx + 1) + 10 + i)) (100 * (cx + 1) + 10 + i, .inl (hT G 0, 8, .inl b))) := hSim.put (hbr i hi) (Or.inr (by omega))
  refine ⟨⟨hup_tag ho (hbr i hi) (by omega), hup_tag ham (hbr i hi) (by omega), ⟨fb, hfb, hup_tag hbo (hbr i hi) (by omega)⟩, fun j hj => ?_, ⟨fy, hfy, hup_tag hyo (hbr i hi) (by omega)⟩, fun k hk => hup_tag (hyr k hk) (hbr i hi) (by omega), hup_tag hlo (hbr i hi) (by omega)⟩, hS.sim hq (hS1_scr hc), hq⟩
  by_cases e : j = i
  · subst e; rw [va_up_self]; exact hup_eq
  · rw [va_up_ne _ _ e]; exact hup_tag (hbr j hj) (hbr i hi) (by omega)
theorem CesV.putYl (hc : cx < 3) (k : Nat) (hk : k < 8) (b : Nat → Int32) (hV : CesV G M Sy cx am be yl lo) (hS : SyV G M Sy) : CesV G (hup M (sA Sy (100 * (cx + 1) + 60 + k)) (100 * (cx + 1) + 60 + k, .inl (hT G 0, 10, .inl b))) Sy cx am be (va_up yl k b) lo ∧ SyV G (hup M (sA Sy (100 * (cx + 1) + 60 + k)) (100 * (cx + 1) + 60 + k, .inl (hT G 0, 10, .inl b))) Sy ∧ hSim G (hS1 cx) M (hup M (sA Sy (100 * (cx + 1) + 60 + k)) (100 * (cx + 1) + 60 + k, .inl (hT G 0, 10, .inl b))) := by
  obtain ⟨ho, ham, ⟨fb, hfb, hbo⟩, hbr, ⟨fy, hfy, hyo⟩, hyr, hlo⟩ := hV
  have hq : hSim G (hS1 cx) M (hup M (sA Sy (100 * (cx + 1) + 60 + k)) (100 * (cx + 1) + 60 + k, .inl (hT G 0, 10, .inl b))) := hSim.put (hyr k hk) (Or.inr (by omega))
  refine ⟨⟨hup_tag ho (hyr k hk) (by omega), hup_tag ham (hyr k hk) (by omega), ⟨fb, hfb, hup_tag hbo (hyr k hk) (by omega)⟩, fun j hj => hup_tag (hbr j hj) (hyr k hk) (by omega), ⟨fy, hfy, hup_tag hyo (hyr k hk) (by omega)⟩, fun j hj => ?_, hup_tag hlo (hyr k hk) (by omega)⟩, hS.sim hq (hS1_scr hc), hq⟩
  by_cases e : j = k
  · subst e; rw [va_up_self]; exact hup_eq
  · rw [va_up_ne _ _ e]; exact hup_tag (hyr j hj) (hyr k hk) (by omega)
end CESPUT
/-- what of the subject is the loss of a layer -/
def hLoss (L : hLy) (F : Nat → hFo) (line amount subject : Int32) : Int32 := if lyR L 2 ≠ none ∧ fv (F 4) line amount = 0 then 0 else sMin (sMax (subject - sMax (fv (F 1) line amount) 0) 0) (sMax (fv (F 0) line amount) 0)

theorem gw_X5_85 : GoodIn hGW (wsV RX5 85 RX4 yX4_value (Cond.code yX4_value cX4_value 7 (Option.some FieldType.int) :: hGW)) := hgi4 kml_X5_85 kin_X4_value kse_X4_X4_value_X4_value kini_X4 kco_X4_value
theorem dsc_X4_value : yX4_value.cls = RX4 ∧ yX4_value.cls ≠ "java/lang/invoke/MethodHandle" ∧ yX4_value.cls ≠ "java/lang/invoke/VarHandle" ∧ (parseMethodDescriptor yX4_value.desc).map (fun d => d.parameters.length) = some 3 := ⟨rfl, by decide +kernel, by decide +kernel, by decide +kernel⟩
theorem dX5_lossOf_0 : decode cX5_lossOf 0 = .ok (.aload_n 0, 1) := by decide +kernel
theorem dX5_lossOf_1 : decode cX5_lossOf 1 = .ok (.getfield 18, 3) := by decide +kernel
theorem dX5_lossOf_4 : decode cX5_lossOf 4 = .ok (.ifnull 24, 3) := by decide +kernel
theorem dX5_lossOf_7 : decode cX5_lossOf 7 = .ok (.aload_n 0, 1) := by decide +kernel
theorem dX5_lossOf_8 : decode cX5_lossOf 8 = .ok (.getfield 18, 3) := by decide +kernel
theorem dX5_lossOf_11 : decode cX5_lossOf 11 = .ok (.aload_n 1, 1) := by decide +kernel
theorem dX5_lossOf_12 : decode cX5_lossOf 12 = .ok (.getfield 77, 3) := by decide +kernel
theorem dX5_lossOf_15 : decode cX5_lossOf 15 = .ok (.aload_n 1, 1) := by decide +kernel
theorem dX5_lossOf_16 : decode cX5_lossOf 16 = .ok (.getfield 82, 3) := by decide +kernel
theorem dX5_lossOf_19 : decode cX5_lossOf 19 = .ok (.iload_n 2, 1) := by decide +kernel
theorem dX5_lossOf_20 : decode cX5_lossOf 20 = .ok (.invokevirtual 85, 3) := by decide +kernel
theorem dX5_lossOf_23 : decode cX5_lossOf 23 = .ok (.ifCond .ne 5, 3) := by decide +kernel
theorem dX5_lossOf_26 : decode cX5_lossOf 26 = .ok (.iconst 0, 1) := by decide +kernel
theorem dX5_lossOf_27 : decode cX5_lossOf 27 = .ok (.ireturn, 1) := by decide +kernel
theorem dX5_lossOf_28 : decode cX5_lossOf 28 = .ok (.iload_n 3, 1) := by decide +kernel
theorem dX5_lossOf_29 : decode cX5_lossOf 29 = .ok (.aload_n 0, 1) := by decide +kernel
theorem dX5_lossOf_30 : decode cX5_lossOf 30 = .ok (.getfield 54, 3) := by decide +kernel
theorem dX5_lossOf_33 : decode cX5_lossOf 33 = .ok (.aload_n 1, 1) := by decide +kernel
theorem dX5_lossOf_34 : decode cX5_lossOf 34 = .ok (.getfield 77, 3) := by decide +kernel
theorem dX5_lossOf_37 : decode cX5_lossOf 37 = .ok (.aload_n 1, 1) := by decide +kernel
theorem dX5_lossOf_38 : decode cX5_lossOf 38 = .ok (.getfield 82, 3) := by decide +kernel
theorem dX5_lossOf_41 : decode cX5_lossOf 41 = .ok (.iload_n 2, 1) := by decide +kernel
theorem dX5_lossOf_42 : decode cX5_lossOf 42 = .ok (.invokevirtual 85, 3) := by decide +kernel
theorem dX5_lossOf_45 : decode cX5_lossOf 45 = .ok (.iconst 0, 1) := by decide +kernel
theorem dX5_lossOf_46 : decode cX5_lossOf 46 = .ok (.invokestatic 89, 3) := by decide +kernel
theorem dX5_lossOf_49 : decode cX5_lossOf 49 = .ok (.isub, 1) := by decide +kernel
theorem dX5_lossOf_50 : decode cX5_lossOf 50 = .ok (.istore 4, 2) := by decide +kernel
theorem dX5_lossOf_52 : decode cX5_lossOf 52 = .ok (.aload_n 0, 1) := by decide +kernel
theorem dX5_lossOf_53 : decode cX5_lossOf 53 = .ok (.getfield 51, 3) := by decide +kernel
theorem dX5_lossOf_56 : decode cX5_lossOf 56 = .ok (.aload_n 1, 1) := by decide +kernel
theorem dX5_lossOf_57 : decode cX5_lossOf 57 = .ok (.getfield 77, 3) := by decide +kernel
theorem dX5_lossOf_60 : decode cX5_lossOf 60 = .ok (.aload_n 1, 1) := by decide +kernel
theorem dX5_lossOf_61 : decode cX5_lossOf 61 = .ok (.getfield 82, 3) := by decide +kernel
theorem dX5_lossOf_64 : decode cX5_lossOf 64 = .ok (.iload_n 2, 1) := by decide +kernel
theorem dX5_lossOf_65 : decode cX5_lossOf 65 = .ok (.invokevirtual 85, 3) := by decide +kernel
theorem dX5_lossOf_68 : decode cX5_lossOf 68 = .ok (.iconst 0, 1) := by decide +kernel
theorem dX5_lossOf_69 : decode cX5_lossOf 69 = .ok (.invokestatic 89, 3) := by decide +kernel
theorem dX5_lossOf_72 : decode cX5_lossOf 72 = .ok (.istore 5, 2) := by decide +kernel
theorem dX5_lossOf_74 : decode cX5_lossOf 74 = .ok (.iload 4, 2) := by decide +kernel
theorem dX5_lossOf_76 : decode cX5_lossOf 76 = .ok (.iconst 0, 1) := by decide +kernel
theorem dX5_lossOf_77 : decode cX5_lossOf 77 = .ok (.invokestatic 89, 3) := by decide +kernel
theorem dX5_lossOf_80 : decode cX5_lossOf 80 = .ok (.iload 5, 2) := by decide +kernel
theorem dX5_lossOf_82 : decode cX5_lossOf 82 = .ok (.invokestatic 93, 3) := by decide +kernel
theorem dX5_lossOf_85 : decode cX5_lossOf 85 = .ok (.ireturn, 1) := by decide +kernel
set_option maxHeartbeats 400000 in
set_option maxRecDepth 100000 in
theorem c_lossOf (l : Launch) (G : hG) (M : hM) (S : hSy) (hS : SyV G M S) (hG1 : SyG S) (k i : Nat) (hk : k < sN S) (hi : i < sM S) (amount subject : Int32) : hCT l G yX5_lossOf cX5_lossOf 6 (Option.some FieldType.int) (hRm 4 0 0) M [.ref (sA S (2000 + 100 * k)), .ref (sA S (1000 + 10 * i)), .int amount, .int subject] (fun v M' => v = some (.int (hLoss (sL S k) (sF S k) (clI (sC S i) 0) amount subject)) ∧ hSim G hS0 M M') := by
  refine hCT.of (own := RX5) (nm := "lossOf") (by decide) rfl rfl (Nat.le_of_ble_eq_true rfl) ?_
  intro p e s m args below meth c ls X Y hl
  have hx := X.1
  have hb := X.2.1
  have hl : lv_has ls 6 [(0, .ref (sA S (2000 + 100 * k))), (1, .ref (sA S (1000 + 10 * i))), (2, .int amount), (3, .int subject)] := hl
  obtain ⟨hN8, hM40, hLG, hCY⟩ := id hG1
  obtain ⟨hl13, he14, hl15, he16, hLa, hCl⟩ := id hS
  obtain ⟨mc13, hlo13⟩ := id hl13
  obtain ⟨mc15, hlo15⟩ := id hl15
  have hs0 : hSim G hS0 M M := hSim.rf
  obtain ⟨g0, g1, g4, -⟩ := hLG k hk
  have hk8 : k < 8 := by omega
  refine lv_aload_n hx hb dX5_lossOf_0 rfl (lv_at hl 0 rfl) ?_
  refine h_get X Y (k := 4) (v := va_rf (lyR (sL S k) 2)) (hLa k hk).1.1 rfl hin_X5 (by decide) kfl_X5_18 rfl dX5_lossOf_1 ?_
  cases hq0 : lyR (sL S k) 2 with
  | none =>
    refine lv_ifnullN (tgt := 28) hx hb dX5_lossOf_4 (by decide) ?_
    refine lv_iload_n hx hb dX5_lossOf_28 rfl (lv_at hl 3 rfl) ?_
    refine lv_aload_n hx hb dX5_lossOf_29 rfl (lv_at hl 0 rfl) ?_
    refine h_get X Y (k := 1) (v := .ref (lyA (sL S k) 1)) (hLa k hk).1.1 rfl hin_X5 (by decide) kfl_X5_54 rfl dX5_lossOf_30 ?_
    refine lv_aload_n hx hb dX5_lossOf_33 rfl (lv_at hl 1 rfl) ?_
    refine h_get X Y (k := 1) (v := .int (clI (sC S i) 0)) (hCl i hi).1 rfl hin_X3 (by decide) kfl_X5_77 rfl dX5_lossOf_34 ?_
    refine lv_aload_n hx hb dX5_lossOf_37 rfl (lv_at hl 1 rfl) ?_
    refine h_get X Y (k := 0) (v := .int (nI (clY (sC S i)))) (hCl i hi).1 rfl hin_X3 (by decide) kfl_X5_82 rfl dX5_lossOf_38 ?_
    refine lv_iload_n hx hb dX5_lossOf_41 rfl (lv_at hl 2 rfl) ?_
    refine h_callV (rest := [.int subject]) X Y (c_value l G M (lyA (sL S k) 1) (2000 + 100 * k + 20) (sF S k 1) (hLa k hk).2.2.1 g1.1 (clI (sC S i) 0) (nI (clY (sC S i))) amount (fv (sF S k 1) (clI (sC S i) 0) amount) (g1.2 _ _)) gw_X5_85 dsc_X4_value (hLa k hk).2.2.1.1 rfl rfl rfl hl.1 rfl (Nat.le_of_ble_eq_true rfl) ⟨Nat.le_of_ble_eq_true rfl, Nat.le_of_ble_eq_true rfl⟩ ⟨Nat.le_of_ble_eq_true rfl, Nat.le_of_ble_eq_true rfl⟩ dX5_lossOf_42 ?_
    rintro _ M1 H locs ⟨rfl, hq⟩ Y
    have hq : hSim G hS0 _ _ := hq.mono (fun u hu => by unfold hS0; omega)
    have hs0 := hs0.tr hq
    have hS := hS.sim hq hS0_scr
    obtain ⟨hl13, he14, hl15, he16, hLa, hCl⟩ := id hS
    obtain ⟨mc13, hlo13⟩ := id hl13
    obtain ⟨mc15, hlo15⟩ := id hl15
    try dsimp only [Option.toList, List.cons_append, List.nil_append]
    refine lv_iconst (v := 0) hx hb dX5_lossOf_45 (by decide) ?_
    refine h_mmax X kml_X5_89 hl.1 (Nat.le_of_ble_eq_true rfl) (Nat.le_of_ble_eq_true rfl) ⟨Nat.le_of_ble_eq_true rfl, Nat.le_of_ble_eq_true rfl⟩ dX5_lossOf_46 ?_
    refine lv_isub hx hb dX5_lossOf_49 ?_
    refine lv_istore (lv' := [(4, .int (subject - (sMax (fv (sF S k 1) (clI (sC S i) 0) amount) 0))), (0, .ref (sA S (2000 + 100 * k))), (1, .ref (sA S (1000 + 10 * i))), (2, .int amount), (3, .int subject)]) hx hb dX5_lossOf_50 hl (by decide) rfl (fun ls hl => ?_)
    refine lv_aload_n hx hb dX5_lossOf_52 rfl (lv_at hl 1 rfl) ?_
    refine h_get X Y (k := 0) (v := .ref (lyA (sL S k) 0)) (hLa k hk).1.1 rfl hin_X5 (by decide) kfl_X5_51 rfl dX5_lossOf_53 ?_
    refine lv_aload_n hx hb dX5_lossOf_56 rfl (lv_at hl 2 rfl) ?_
    refine h_get X Y (k := 1) (v := .int (clI (sC S i) 0)) (hCl i hi).1 rfl hin_X3 (by decide) kfl_X5_77 rfl dX5_lossOf_57 ?_
    refine lv_aload_n hx hb dX5_lossOf_60 rfl (lv_at hl 2 rfl) ?_
    refine h_get X Y (k := 0) (v := .int (nI (clY (sC S i)))) (hCl i hi).1 rfl hin_X3 (by decide) kfl_X5_82 rfl dX5_lossOf_61 ?_
    refine lv_iload_n hx hb dX5_lossOf_64 rfl (lv_at hl 3 rfl) ?_
    refine h_callV (rest := []) X Y (c_value l G M1 (lyA (sL S k) 0) (2000 + 100 * k + 10) (sF S k 0) (hLa k hk).2.1 g0.1 (clI (sC S i) 0) (nI (clY (sC S i))) amount (fv (sF S k 0) (clI (sC S i) 0) amount) (g0.2 _ _)) gw_X5_85 dsc_X4_value (hLa k hk).2.1.1 rfl rfl rfl hl.1 rfl (Nat.le_of_ble_eq_true rfl) ⟨Nat.le_of_ble_eq_true rfl, Nat.le_of_ble_eq_true rfl⟩ ⟨Nat.le_of_ble_eq_true rfl, Nat.le_of_ble_eq_true rfl⟩ dX5_lossOf_65 ?_
    rintro _ M2 H locs ⟨rfl, hq⟩ Y
    have hq : hSim G hS0 _ _ := hq.mono (fun u hu => by unfold hS0; omega)
    have hs0 := hs0.tr hq
    have hS := hS.sim hq hS0_scr
    obtain ⟨hl13, he14, hl15, he16, hLa, hCl⟩ := id hS
    obtain ⟨mc13, hlo13⟩ := id hl13
    obtain ⟨mc15, hlo15⟩ := id hl15
    try dsimp only [Option.toList, List.cons_append, List.nil_append]
    refine lv_iconst (v := 0) hx hb dX5_lossOf_68 (by decide) ?_
    refine h_mmax X kml_X5_89 hl.1 (Nat.le_of_ble_eq_true rfl) (Nat.le_of_ble_eq_true rfl) ⟨Nat.le_of_ble_eq_true rfl, Nat.le_of_ble_eq_true rfl⟩ dX5_lossOf_69 ?_
    refine lv_istore (lv' := [(5, .int (sMax (fv (sF S k 0) (clI (sC S i) 0) amount) 0)), (4, .int (subject - (sMax (fv (sF S k 1) (clI (sC S i) 0) amount) 0))), (0, .ref (sA S (2000 + 100 * k))), (1, .ref (sA S (1000 + 10 * i))), (2, .int amount), (3, .int subject)]) hx hb dX5_lossOf_72 hl (by decide) rfl (fun ls hl => ?_)
    refine lv_iload hx hb dX5_lossOf_74 (lv_at hl 1 rfl) ?_
    refine lv_iconst (v := 0) hx hb dX5_lossOf_76 (by decide) ?_
    refine h_mmax X kml_X5_89 hl.1 (Nat.le_of_ble_eq_true rfl) (Nat.le_of_ble_eq_true rfl) ⟨Nat.le_of_ble_eq_true rfl, Nat.le_of_ble_eq_true rfl⟩ dX5_lossOf_77 ?_
    refine lv_iload hx hb dX5_lossOf_80 (lv_at hl 0 rfl) ?_
    refine h_mmin X kml_X5_93 hl.1 (Nat.le_of_ble_eq_true rfl) (Nat.le_of_ble_eq_true rfl) ⟨Nat.le_of_ble_eq_true rfl, Nat.le_of_ble_eq_true rfl⟩ dX5_lossOf_82 ?_
    exact h_iret X Y ⟨congrArg (fun z => some (Value.int z)) (if_neg (fun z9 => z9.1 hq0)).symm, hs0⟩ (Nat.le_refl _) (Nat.le_refl _) dX5_lossOf_85
  | some q =>
    refine lv_ifnull hx hb dX5_lossOf_4 ?_
    refine lv_aload_n hx hb dX5_lossOf_7 rfl (lv_at hl 0 rfl) ?_
    refine h_get X Y (k := 4) (v := va_rf (lyR (sL S k) 2)) (hLa k hk).1.1 rfl hin_X5 (by decide) kfl_X5_18 rfl dX5_lossOf_8 ?_
    refine h_rf hq0 ?_
    refine lv_aload_n hx hb dX5_lossOf_11 rfl (lv_at hl 1 rfl) ?_
    refine h_get X Y (k := 1) (v := .int (clI (sC S i) 0)) (hCl i hi).1 rfl hin_X3 (by decide) kfl_X5_77 rfl dX5_lossOf_12 ?_
    refine lv_aload_n hx hb dX5_lossOf_15 rfl (lv_at hl 1 rfl) ?_
    refine h_get X Y (k := 0) (v := .int (nI (clY (sC S i)))) (hCl i hi).1 rfl hin_X3 (by decide) kfl_X5_82 rfl dX5_lossOf_16 ?_
    refine lv_iload_n hx hb dX5_lossOf_19 rfl (lv_at hl 2 rfl) ?_
    refine h_callV (rest := []) X Y (c_value l G M q (2000 + 100 * k + 50) (sF S k 4) ((hLa k hk).2.2.2 q hq0) g4.1 (clI (sC S i) 0) (nI (clY (sC S i))) amount (fv (sF S k 4) (clI (sC S i) 0) amount) (g4.2 _ _)) gw_X5_85 dsc_X4_value ((hLa k hk).2.2.2 q hq0).1 rfl rfl rfl hl.1 rfl (Nat.le_of_ble_eq_true rfl) ⟨Nat.le_of_ble_eq_true rfl, Nat.le_of_ble_eq_true rfl⟩ ⟨Nat.le_of_ble_eq_true rfl, Nat.le_of_ble_eq_true rfl⟩ dX5_lossOf_20 ?_
    rintro _ M1 H locs ⟨rfl, hq⟩ Y
    have hq : hSim G hS0 _ _ := hq.mono (fun u hu => by unfold hS0; omega)
    have hs0 := hs0.tr hq
    have hS := hS.sim hq hS0_scr
    obtain ⟨hl13, he14, hl15, he16, hLa, hCl⟩ := id hS
    obtain ⟨mc13, hlo13⟩ := id hl13
    obtain ⟨mc15, hlo15⟩ := id hl15
    try dsimp only [Option.toList, List.cons_append, List.nil_append]
    refine lv_if_ne (tgt := 28) hx hb dX5_lossOf_23 (by decide) (fun c23 => ?_) (fun c23 => ?_)
    · refine lv_iload_n hx hb dX5_lossOf_28 rfl (lv_at hl 3 rfl) ?_
      refine lv_aload_n hx hb dX5_lossOf_29 rfl (lv_at hl 0 rfl) ?_
      refine h_get X Y (k := 1) (v := .ref (lyA (sL S k) 1)) (hLa k hk).1.1 rfl hin_X5 (by decide) kfl_X5_54 rfl dX5_lossOf_30 ?_
      refine lv_aload_n hx hb dX5_lossOf_33 rfl (lv_at hl 1 rfl) ?_
      refine h_get X Y (k := 1) (v := .int (clI (sC S i) 0)) (hCl i hi).1 rfl hin_X3 (by decide) kfl_X5_77 rfl dX5_lossOf_34 ?_
      refine lv_aload_n hx hb dX5_lossOf_37 rfl (lv_at hl 1 rfl) ?_
      refine h_get X Y (k := 0) (v := .int (nI (clY (sC S i)))) (hCl i hi).1 rfl hin_X3 (by decide) kfl_X5_82 rfl dX5_lossOf_38 ?_
      refine lv_iload_n hx hb dX5_lossOf_41 rfl (lv_at hl 2 rfl) ?_
      refine h_callV (rest := [.int subject]) X Y (c_value l G M1 (lyA (sL S k) 1) (2000 + 100 * k + 20) (sF S k 1) (hLa k hk).2.2.1 g1.1 (clI (sC S i) 0) (nI (clY (sC S i))) amount (fv (sF S k 1) (clI (sC S i) 0) amount) (g1.2 _ _)) gw_X5_85 dsc_X4_value (hLa k hk).2.2.1.1 rfl rfl rfl hl.1 rfl (Nat.le_of_ble_eq_true rfl) ⟨Nat.le_of_ble_eq_true rfl, Nat.le_of_ble_eq_true rfl⟩ ⟨Nat.le_of_ble_eq_true rfl, Nat.le_of_ble_eq_true rfl⟩ dX5_lossOf_42 ?_
      rintro _ M2 H locs ⟨rfl, hq⟩ Y
      have hq : hSim G hS0 _ _ := hq.mono (fun u hu => by unfold hS0; omega)
      have hs0 := hs0.tr hq
      have hS := hS.sim hq hS0_scr
      obtain ⟨hl13, he14, hl15, he16, hLa, hCl⟩ := id hS
      obtain ⟨mc13, hlo13⟩ := id hl13
      obtain ⟨mc15, hlo15⟩ := id hl15
      try dsimp only [Option.toList, List.cons_append, List.nil_append]
      refine lv_iconst (v := 0) hx hb dX5_lossOf_45 (by decide) ?_
      refine h_mmax X kml_X5_89 hl.1 (Nat.le_of_ble_eq_true rfl) (Nat.le_of_ble_eq_true rfl) ⟨Nat.le_of_ble_eq_true rfl, Nat.le_of_ble_eq_true rfl⟩ dX5_lossOf_46 ?_
      refine lv_isub hx hb dX5_lossOf_49 ?_
      refine lv_istore (lv' := [(4, .int (subject - (sMax (fv (sF S k 1) (clI (sC S i) 0) amount) 0))), (0, .ref (sA S (2000 + 100 * k))), (1, .ref (sA S (1000 + 10 * i))), (2, .int amount), (3, .int subject)]) hx hb dX5_lossOf_50 hl (by decide) rfl (fun ls hl => ?_)
      refine lv_aload_n hx hb dX5_lossOf_52 rfl (lv_at hl 1 rfl) ?_
      refine h_get X Y (k := 0) (v := .ref (lyA (sL S k) 0)) (hLa k hk).1.1 rfl hin_X5 (by decide) kfl_X5_51 rfl dX5_lossOf_53 ?_
      refine lv_aload_n hx hb dX5_lossOf_56 rfl (lv_at hl 2 rfl) ?_
      refine h_get X Y (k := 1) (v := .int (clI (sC S i) 0)) (hCl i hi).1 rfl hin_X3 (by decide) kfl_X5_77 rfl dX5_lossOf_57 ?_
      refine lv_aload_n hx hb dX5_lossOf_60 rfl (lv_at hl 2 rfl) ?_
      refine h_get X Y (k := 0) (v := .int (nI (clY (sC S i)))) (hCl i hi).1 rfl hin_X3 (by decide) kfl_X5_82 rfl dX5_lossOf_61 ?_
      refine lv_iload_n hx hb dX5_lossOf_64 rfl (lv_at hl 3 rfl) ?_
      refine h_callV (rest := []) X Y (c_value l G M2 (lyA (sL S k) 0) (2000 + 100 * k + 10) (sF S k 0) (hLa k hk).2.1 g0.1 (clI (sC S i) 0) (nI (clY (sC S i))) amount (fv (sF S k 0) (clI (sC S i) 0) amount) (g0.2 _ _)) gw_X5_85 dsc_X4_value (hLa k hk).2.1.1 rfl rfl rfl hl.1 rfl (Nat.le_of_ble_eq_true rfl) ⟨Nat.le_of_ble_eq_true rfl, Nat.le_of_ble_eq_true rfl⟩ ⟨Nat.le_of_ble_eq_true rfl, Nat.le_of_ble_eq_true rfl⟩ dX5_lossOf_65 ?_
      rintro _ M3 H locs ⟨rfl, hq⟩ Y
      have hq : hSim G hS0 _ _ := hq.mono (fun u hu => by unfold hS0; omega)
      have hs0 := hs0.tr hq
      have hS := hS.sim hq hS0_scr
      obtain ⟨hl13, he14, hl15, he16, hLa, hCl⟩ := id hS
      obtain ⟨mc13, hlo13⟩ := id hl13
      obtain ⟨mc15, hlo15⟩ := id hl15
      try dsimp only [Option.toList, List.cons_append, List.nil_append]
      refine lv_iconst (v := 0) hx hb dX5_lossOf_68 (by decide) ?_
      refine h_mmax X kml_X5_89 hl.1 (Nat.le_of_ble_eq_true rfl) (Nat.le_of_ble_eq_true rfl) ⟨Nat.le_of_ble_eq_true rfl, Nat.le_of_ble_eq_true rfl⟩ dX5_lossOf_69 ?_
      refine lv_istore (lv' := [(5, .int (sMax (fv (sF S k 0) (clI (sC S i) 0) amount) 0)), (4, .int (subject - (sMax (fv (sF S k 1) (clI (sC S i) 0) amount) 0))), (0, .ref (sA S (2000 + 100 * k))), (1, .ref (sA S (1000 + 10 * i))), (2, .int amount), (3, .int subject)]) hx hb dX5_lossOf_72 hl (by decide) rfl (fun ls hl => ?_)
      refine lv_iload hx hb dX5_lossOf_74 (lv_at hl 1 rfl) ?_
      refine lv_iconst (v := 0) hx hb dX5_lossOf_76 (by decide) ?_
      refine h_mmax X kml_X5_89 hl.1 (Nat.le_of_ble_eq_true rfl) (Nat.le_of_ble_eq_true rfl) ⟨Nat.le_of_ble_eq_true rfl, Nat.le_of_ble_eq_true rfl⟩ dX5_lossOf_77 ?_
      refine lv_iload hx hb dX5_lossOf_80 (lv_at hl 0 rfl) ?_
      refine h_mmin X kml_X5_93 hl.1 (Nat.le_of_ble_eq_true rfl) (Nat.le_of_ble_eq_true rfl) ⟨Nat.le_of_ble_eq_true rfl, Nat.le_of_ble_eq_true rfl⟩ dX5_lossOf_82 ?_
      exact h_iret X Y ⟨congrArg (fun z => some (Value.int z)) (if_neg (fun z9 => c23 z9.2)).symm, hs0⟩ (Nat.le_refl _) (Nat.le_refl _) dX5_lossOf_85
    · refine lv_iconst (v := 0) hx hb dX5_lossOf_26 (by decide) ?_
      exact h_iret X Y ⟨congrArg (fun z => some (Value.int z)) (if_pos ⟨(by rw [hq0]; exact fun z9 => nomatch z9), c23⟩).symm, hs0⟩ (Nat.le_refl _) (Nat.le_refl _) dX5_lossOf_27
