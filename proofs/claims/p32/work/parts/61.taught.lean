-- THE LAW'S TEXT IS TAUGHT
theorem QV.fed {G : hG} {Z : Nat → Prop} {M M' : hM} {A : Nat → Nat} {now : Nat} {tail er tl tl' : Int32} {pr ex : Nat → Int32} (hV : QV G M (s00 A) (now, tail, er, tl, pr, ex)) (hf : hFr Z M M') (hz : ∀ u, Z u → u = 1 ∨ u = 2 ∨ 4900 ≤ u) (ho1 : M' (A 1) = some (1, .inr (9, [.ref (A 2), .int tl']))) : QV G M' (s00 A) (now, tail, er, tl', pr, ex) := by
  obtain ⟨⟨hl13, he14, hl15, he16, hLa, hCl⟩, hG1, ⟨h0, h1, h17, h18, ff, h4, h19⟩, hCe, hTr, hnow, hyn⟩ := hV
  have hn : ∀ u, u ≠ 1 → u ≠ 2 → u < 4900 → ¬ Z u := fun u z1 z2 z3 z => by have := hz u z; omega
  refine ⟨⟨?_, fun z9 => absurd z9 (Nat.not_lt_zero 0), ?_, fun z9 => absurd z9 (Nat.not_lt_zero 0), fun k hk => absurd hk (Nat.not_lt_zero k), fun i hi => absurd hi (Nat.not_lt_zero i)⟩, hG1, ⟨hf _ _ _ h0 (hn 0 (by omega) (by omega) (by omega)), ho1, hf _ _ _ h17 (hn 17 (by omega) (by omega) (by omega)), hf _ _ _ h18 (hn 18 (by omega) (by omega) (by omega)), ff, fun j hj => h4 j hj, hf _ _ _ h19 (hn 19 (by omega) (by omega) (by omega))⟩, fun cx hc => (hCe cx hc).fr hc hf (fun u z1 z2 => hn u (by omega) (by omega) (by omega)) (fun u _ _ => rfl), fun j hj => (hTr j hj).fr hj hf (fun u z1 z2 => hn u (by omega) (by omega) (by omega)) (fun u _ _ => rfl), hnow, hyn⟩
  · obtain ⟨mc, e⟩ := hl13
    exact ⟨mc, hf _ _ _ e (hn 13 (by omega) (by omega) (by omega))⟩
  · obtain ⟨mc, e⟩ := hl15
    exact ⟨mc, hf _ _ _ e (hn 15 (by omega) (by omega) (by omega))⟩
theorem txT_len (v : Nat → Nat) (hv : ∀ i, i < 15 → v i < 90000) : (txT v).length ≤ 600 := by
  have h : ∀ i, i < 15 → (dgs (v i)).length ≤ 5 := fun i hi => dgs_5 (by have := hv i hi; omega)
  have h0 := h 0 (by decide)
  have h1 := h 1 (by decide)
  have h2 := h 2 (by decide)
  have h3 := h 3 (by decide)
  have h4 := h 4 (by decide)
  have h5 := h 5 (by decide)
  have h6 := h 6 (by decide)
  have h7 := h 7 (by decide)
  have h9 := h 9 (by decide)
  have h10 := h 10 (by decide)
  have h12 := h 12 (by decide)
  have h13 := h 13 (by decide)
  have h14 := h 14 (by decide)
  have hr := dgs_5 (v := v 11 % 5) (by omega)
  have e49 : lsT_49.length = 9 := rfl
  have e58 : lsT_58.length = 4 := rfl
  have e60 : lsT_60.length = 7 := rfl
  have e62 : lsT_62.length = 2 := rfl
  have e68 : lsT_68.length = 9 := rfl
  have e70 : lsT_70.length = 11 := rfl
  have e72 : lsT_72.length = 3 := rfl
  have e74 : lsT_74.length = 8 := rfl
  have e76 : lsT_76.length = 7 := rfl
  have e82 : lsT_82.length = 9 := rfl
  have e84 : lsT_84.length = 16 := rfl
  have e86 : lsT_86.length = 11 := rfl
  have e90 : lsT_90.length = 30 := rfl
  have e92 : lsT_92.length = 15 := rfl
  have e94 : lsT_94.length = 1 := rfl
  have k1 : (if v 8 = 1 then lsT_78 else lsT_80).length ≤ 10 := by split <;> decide
  have k2 : (if v 11 % 5 = 0 then lsT_80 else (([] ++ lsT_88) ++ dgs (v 12))).length ≤ 20 := by
    split
    · decide
    · rw [List.length_append]; have : ([] ++ lsT_88).length ≤ 10 := by decide
      omega
  rw [txT, txA, txB]
  generalize (if v 8 = 1 then lsT_78 else lsT_80) = K1 at k1
  generalize (if v 11 % 5 = 0 then lsT_80 else (([] ++ lsT_88) ++ dgs (v 12))) = K2 at k2
  simp only [List.length_append, List.length_nil]
  omega
set_option maxHeartbeats 2000000 in
set_option maxRecDepth 100000 in
theorem c_learn (l : Launch) (G : hG) (M : hM) (A : Nat → Nat) (hQ : QV G M (s00 A) h00) (hB : mkB G M A) (h14 : A 14 = hDE G) (v : Nat → Nat) (hv : ∀ i, i < 15 → v i < 90000) (h2 : 1 ≤ v 2 ∧ v 2 ≤ 100) (h12 : v 12 ≤ 300) (q : Nat) (hq : StL G M q 5080 (txT v)) : hCT l G yL_teach cL_teach 5 (Option.some FieldType.int) (hRm 14 200 24000) M [.ref (A 0), .ref q] (fun v9 M' => v9 = some (.int 0) ∧ (fun M' => ∃ S', QV G M' S' (0, 1000, -1, 0, fun _ => 0, fun _ => 0) ∧ sN S' = 3 ∧ sM S' = 0 ∧ sA S' 0 = A 0 ∧ sA S' 16 = A 16 ∧ ∀ k, k < 3 → GL (sL S' k) (sF S' k)) M') := by
  have hT6 := txT_len v hv
  have hQ : QV G M (s00 A) (0, 1000, -1, 0, fun _ => 0, fun _ => 0) := hQ
  obtain ⟨k2, k3, k4, k5, k6, k7, k8, k9, k10, k11, k12⟩ := hB
  have ho := hQ.2.2.1.1
  have ho1 := hQ.2.2.1.2.1
  refine c_lTeach l G M (txT v) hT6 q hq (A 0) (A 1) (A 2) _ _ _ _ _ _ _ _ _ _ _ _ _ _ ho _ ho1 k2 (fun M' => ∃ S', QV G M' S' (0, 1000, -1, 0, fun _ => 0, fun _ => 0) ∧ sN S' = 3 ∧ sM S' = 0 ∧ sA S' 0 = A 0 ∧ sA S' 16 = A 16 ∧ ∀ k, k < 3 → GL (sL S' k) (sF S' k)) (fun M1 f1 hf e0 t1 t2 hB1 => ?_)
  by_cases h8 : v 8 = 1
  · by_cases h11 : v 11 % 5 = 0
    · have e := it10_tx v h8 h11
      have hok := it10_ok v hv
      have hnm := it10_nm v hv
      rw [← e] at t1 hB1
      have hT : ∀ i, i < (fl (it10 v)).length → lsW (fl (it10 v)) i < 128 := fun i hi => (hB1 i hi).2
      have hlen : (fl (it10 v)).length ≤ 600 := by rw [e]; exact hT6
      have hQ1 : QV G M1 (s00 A) (0, 1000, -1, nI (fl (it10 v)).length, fun _ => 0, fun _ => 0) := QV.fed hQ hf (fun u z => by omega) t1
      exact c_teach10 l G M1 A 0 (fl (it10 v)).length 1000 (-1) (fun _ => 0) (fun _ => 0) hQ1 h14 f1 (lsW (fl (it10 v))) (by omega) t2 hB1 0 _ _ _ _ (hf _ _ _ k3 (by omega)) (hf _ _ _ k4 (by omega)) (hf _ _ _ k5 (by omega)) (hf _ _ _ k6 (by omega)) (hf _ _ _ k7 (by omega)) 0 0 37 _ _ (hf _ _ _ k8 (by omega)) (hf _ _ _ k9 (by omega)) (hf _ _ _ k10 (by omega)) 0 (-1) _ (hf _ _ _ k11 (by omega)) (hf _ _ _ k12 (by omega)) 51 (by decide) (tTs (it10 v)) (tEn 0 (it10 v)) (fun i => (tIt (it10 v) i).2.1) rfl tTs_end rfl (tk_bl hok hT) (fun i hi => ⟨(tk_w hok hT hi).1, (tk_w hok hT hi).2.1, (tk_w hok hT hi).2.2.1⟩) (kw_end (Nat.le_succ _)) rfl (it10_pat v) (tNb (it10 v)) (tWv (it10 v)) (fun i _ => rfl) (fun i _ => rfl) (let h := tWv_at (l := (it10 v)) (i := 1) hok hT (by show 1 < 51; decide) rfl; h.1.trans (tWd_aa h.2.1 h.2.2.1 h.2.2.2)) (let h := tWv_at (l := (it10 v)) (i := 9) hok hT (by show 9 < 51; decide) rfl; h.1.trans (tWd_bb h.2.1 h.2.2.1 h.2.2.2)) (let h := tWv_at (l := (it10 v)) (i := 26) hok hT (by show 26 < 51; decide) rfl; h.1.trans (tWd_cc h.2.1 h.2.2.1 h.2.2.2)) (let h := tWv_at (l := (it10 v)) (i := 23) hok hT (by show 23 < 51; decide) rfl; h.1.trans (tWd_aa h.2.1 h.2.2.1 h.2.2.2)) (let h := tWv_at (l := (it10 v)) (i := 38) hok hT (by show 38 < 51; decide) rfl; h.1.trans (tWd_aa h.2.1 h.2.2.1 h.2.2.2)) (let h := tWv_at (l := (it10 v)) (i := 40) hok hT (by show 40 < 51; decide) rfl; h.1.trans (tWd_bb h.2.1 h.2.2.1 h.2.2.2)) (tNb_ok hok hnm hT) (v 2) (v 11 % 5) (tNb_at (l := (it10 v)) (i := 6) hok hT (by show 6 < 51; decide) (hv 2 (by decide)) rfl rfl) h2 (tNb_at (l := (it10 v)) (i := 35) hok hT (by show 35 < 51; decide) (Nat.lt_trans (Nat.mod_lt _ (by decide)) (by decide)) rfl rfl) (Nat.mod_lt _ (by decide))
    · have e := it11_tx v h8 h11
      have hok := it11_ok v hv
      have hnm := it11_nm v hv
      rw [← e] at t1 hB1
      have hT : ∀ i, i < (fl (it11 v)).length → lsW (fl (it11 v)) i < 128 := fun i hi => (hB1 i hi).2
      have hlen : (fl (it11 v)).length ≤ 600 := by rw [e]; exact hT6
      have hQ1 : QV G M1 (s00 A) (0, 1000, -1, nI (fl (it11 v)).length, fun _ => 0, fun _ => 0) := QV.fed hQ hf (fun u z => by omega) t1
      exact c_teach11 l G M1 A 0 (fl (it11 v)).length 1000 (-1) (fun _ => 0) (fun _ => 0) hQ1 h14 f1 (lsW (fl (it11 v))) (by omega) t2 hB1 0 _ _ _ _ (hf _ _ _ k3 (by omega)) (hf _ _ _ k4 (by omega)) (hf _ _ _ k5 (by omega)) (hf _ _ _ k6 (by omega)) (hf _ _ _ k7 (by omega)) 0 0 37 _ _ (hf _ _ _ k8 (by omega)) (hf _ _ _ k9 (by omega)) (hf _ _ _ k10 (by omega)) 0 (-1) _ (hf _ _ _ k11 (by omega)) (hf _ _ _ k12 (by omega)) 53 (by decide) (tTs (it11 v)) (tEn 0 (it11 v)) (fun i => (tIt (it11 v) i).2.1) rfl tTs_end rfl (tk_bl hok hT) (fun i hi => ⟨(tk_w hok hT hi).1, (tk_w hok hT hi).2.1, (tk_w hok hT hi).2.2.1⟩) (kw_end (Nat.le_succ _)) rfl (it11_pat v) (tNb (it11 v)) (tWv (it11 v)) (fun i _ => rfl) (fun i _ => rfl) (let h := tWv_at (l := (it11 v)) (i := 1) hok hT (by show 1 < 53; decide) rfl; h.1.trans (tWd_aa h.2.1 h.2.2.1 h.2.2.2)) (let h := tWv_at (l := (it11 v)) (i := 9) hok hT (by show 9 < 53; decide) rfl; h.1.trans (tWd_bb h.2.1 h.2.2.1 h.2.2.2)) (let h := tWv_at (l := (it11 v)) (i := 26) hok hT (by show 26 < 53; decide) rfl; h.1.trans (tWd_cc h.2.1 h.2.2.1 h.2.2.2)) (let h := tWv_at (l := (it11 v)) (i := 23) hok hT (by show 23 < 53; decide) rfl; h.1.trans (tWd_aa h.2.1 h.2.2.1 h.2.2.2)) (let h := tWv_at (l := (it11 v)) (i := 40) hok hT (by show 40 < 53; decide) rfl; h.1.trans (tWd_aa h.2.1 h.2.2.1 h.2.2.2)) (let h := tWv_at (l := (it11 v)) (i := 42) hok hT (by show 42 < 53; decide) rfl; h.1.trans (tWd_bb h.2.1 h.2.2.1 h.2.2.2)) (tNb_ok hok hnm hT) (v 2) (v 11 % 5) (tNb_at (l := (it11 v)) (i := 6) hok hT (by show 6 < 53; decide) (hv 2 (by decide)) rfl rfl) h2 (tNb_at (l := (it11 v)) (i := 35) hok hT (by show 35 < 53; decide) (Nat.lt_trans (Nat.mod_lt _ (by decide)) (by decide)) rfl rfl) (Nat.mod_lt _ (by decide)) (Nat.one_le_iff_ne_zero.mpr h11) (v 12) (tNb_at (l := (it11 v)) (i := 37) hok hT (by show 37 < 53; decide) (hv 12 (by decide)) rfl rfl) h12
  · by_cases h11 : v 11 % 5 = 0
    · have e := it00_tx v h8 h11
      have hok := it00_ok v hv
      have hnm := it00_nm v hv
      rw [← e] at t1 hB1
      have hT : ∀ i, i < (fl (it00 v)).length → lsW (fl (it00 v)) i < 128 := fun i hi => (hB1 i hi).2
      have hlen : (fl (it00 v)).length ≤ 600 := by rw [e]; exact hT6
      have hQ1 : QV G M1 (s00 A) (0, 1000, -1, nI (fl (it00 v)).length, fun _ => 0, fun _ => 0) := QV.fed hQ hf (fun u z => by omega) t1
      exact c_teach00 l G M1 A 0 (fl (it00 v)).length 1000 (-1) (fun _ => 0) (fun _ => 0) hQ1 h14 f1 (lsW (fl (it00 v))) (by omega) t2 hB1 0 _ _ _ _ (hf _ _ _ k3 (by omega)) (hf _ _ _ k4 (by omega)) (hf _ _ _ k5 (by omega)) (hf _ _ _ k6 (by omega)) (hf _ _ _ k7 (by omega)) 0 0 37 _ _ (hf _ _ _ k8 (by omega)) (hf _ _ _ k9 (by omega)) (hf _ _ _ k10 (by omega)) 0 (-1) _ (hf _ _ _ k11 (by omega)) (hf _ _ _ k12 (by omega)) 48 (by decide) (tTs (it00 v)) (tEn 0 (it00 v)) (fun i => (tIt (it00 v) i).2.1) rfl tTs_end rfl (tk_bl hok hT) (fun i hi => ⟨(tk_w hok hT hi).1, (tk_w hok hT hi).2.1, (tk_w hok hT hi).2.2.1⟩) (kw_end (Nat.le_succ _)) rfl (it00_pat v) (tNb (it00 v)) (tWv (it00 v)) (fun i _ => rfl) (fun i _ => rfl) (let h := tWv_at (l := (it00 v)) (i := 1) hok hT (by show 1 < 48; decide) rfl; h.1.trans (tWd_aa h.2.1 h.2.2.1 h.2.2.2)) (let h := tWv_at (l := (it00 v)) (i := 9) hok hT (by show 9 < 48; decide) rfl; h.1.trans (tWd_bb h.2.1 h.2.2.1 h.2.2.2)) (let h := tWv_at (l := (it00 v)) (i := 23) hok hT (by show 23 < 48; decide) rfl; h.1.trans (tWd_cc h.2.1 h.2.2.1 h.2.2.2)) (let h := tWv_at (l := (it00 v)) (i := 35) hok hT (by show 35 < 48; decide) rfl; h.1.trans (tWd_aa h.2.1 h.2.2.1 h.2.2.2)) (let h := tWv_at (l := (it00 v)) (i := 37) hok hT (by show 37 < 48; decide) rfl; h.1.trans (tWd_bb h.2.1 h.2.2.1 h.2.2.2)) (tNb_ok hok hnm hT) (v 2) (v 11 % 5) (tNb_at (l := (it00 v)) (i := 6) hok hT (by show 6 < 48; decide) (hv 2 (by decide)) rfl rfl) h2 (tNb_at (l := (it00 v)) (i := 32) hok hT (by show 32 < 48; decide) (Nat.lt_trans (Nat.mod_lt _ (by decide)) (by decide)) rfl rfl) (Nat.mod_lt _ (by decide))
    · have e := it01_tx v h8 h11
      have hok := it01_ok v hv
      have hnm := it01_nm v hv
      rw [← e] at t1 hB1
      have hT : ∀ i, i < (fl (it01 v)).length → lsW (fl (it01 v)) i < 128 := fun i hi => (hB1 i hi).2
      have hlen : (fl (it01 v)).length ≤ 600 := by rw [e]; exact hT6
      have hQ1 : QV G M1 (s00 A) (0, 1000, -1, nI (fl (it01 v)).length, fun _ => 0, fun _ => 0) := QV.fed hQ hf (fun u z => by omega) t1
      exact c_teach01 l G M1 A 0 (fl (it01 v)).length 1000 (-1) (fun _ => 0) (fun _ => 0) hQ1 h14 f1 (lsW (fl (it01 v))) (by omega) t2 hB1 0 _ _ _ _ (hf _ _ _ k3 (by omega)) (hf _ _ _ k4 (by omega)) (hf _ _ _ k5 (by omega)) (hf _ _ _ k6 (by omega)) (hf _ _ _ k7 (by omega)) 0 0 37 _ _ (hf _ _ _ k8 (by omega)) (hf _ _ _ k9 (by omega)) (hf _ _ _ k10 (by omega)) 0 (-1) _ (hf _ _ _ k11 (by omega)) (hf _ _ _ k12 (by omega)) 50 (by decide) (tTs (it01 v)) (tEn 0 (it01 v)) (fun i => (tIt (it01 v) i).2.1) rfl tTs_end rfl (tk_bl hok hT) (fun i hi => ⟨(tk_w hok hT hi).1, (tk_w hok hT hi).2.1, (tk_w hok hT hi).2.2.1⟩) (kw_end (Nat.le_succ _)) rfl (it01_pat v) (tNb (it01 v)) (tWv (it01 v)) (fun i _ => rfl) (fun i _ => rfl) (let h := tWv_at (l := (it01 v)) (i := 1) hok hT (by show 1 < 50; decide) rfl; h.1.trans (tWd_aa h.2.1 h.2.2.1 h.2.2.2)) (let h := tWv_at (l := (it01 v)) (i := 9) hok hT (by show 9 < 50; decide) rfl; h.1.trans (tWd_bb h.2.1 h.2.2.1 h.2.2.2)) (let h := tWv_at (l := (it01 v)) (i := 23) hok hT (by show 23 < 50; decide) rfl; h.1.trans (tWd_cc h.2.1 h.2.2.1 h.2.2.2)) (let h := tWv_at (l := (it01 v)) (i := 37) hok hT (by show 37 < 50; decide) rfl; h.1.trans (tWd_aa h.2.1 h.2.2.1 h.2.2.2)) (let h := tWv_at (l := (it01 v)) (i := 39) hok hT (by show 39 < 50; decide) rfl; h.1.trans (tWd_bb h.2.1 h.2.2.1 h.2.2.2)) (tNb_ok hok hnm hT) (v 2) (v 11 % 5) (tNb_at (l := (it01 v)) (i := 6) hok hT (by show 6 < 50; decide) (hv 2 (by decide)) rfl rfl) h2 (tNb_at (l := (it01 v)) (i := 32) hok hT (by show 32 < 50; decide) (Nat.lt_trans (Nat.mod_lt _ (by decide)) (by decide)) rfl rfl) (Nat.mod_lt _ (by decide)) (Nat.one_le_iff_ne_zero.mpr h11) (v 12) (tNb_at (l := (it01 v)) (i := 34) hok hT (by show 34 < 50; decide) (hv 12 (by decide)) rfl rfl) h12
