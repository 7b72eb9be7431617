-- ROWS OF ROWS ARE MADE
theorem t_aoa {G : hG} {s : State} (hs : hSt G) (hr : hR G s) : va_AOA .int s := over_moved (t := .int) (a := hAr G) (a' := #[]) hr.1.alike (hW0 hs 222 (by decide +kernel))
section MNA
variable {G : hG} {p : Program} {l : Launch} {e : Env} {R : Room} {s : State} {m : MethodId} {args : Array Value} {below : List Frame} {meth : Method} {c : Code} {H : Heap} {locs : List Loc} {cells slots : Nat} {Q : State → Prop}
variable {cc : ByteArray} {maxL : Nat} {ret : Option FieldType} {own nm : String} {M : hM} {pc : Nat} {ls : Array Slot} {rest : List Value} {a t ci index n : Nat} {cA : ClassId}
/-- a row of n rows of k ints, all 0; the row has the tag t, the i-th of its rows t2 + i -/
theorem h_mna {k : Nat} (X : hCX G p s m args meth c cc maxL ret own nm) (Y : hHS G M s H locs) (t t2 : Nat) (hn : n < 1000) (hk : k < 1000) (hlink : Cond.classLink own index "[[I" ∈ hGW) (hcells : cells + (1 + n) ≤ R.cells) (hslots : slots + (n + n * k) ≤ R.slots) (hdg : decode cc pc = .ok (.multianewarray index 2, 4))
    (kk : ∀ (q : Nat) (r : Nat → Nat) (f : Nat → Option Nat) (M1 : hM) (H1 : Heap), (∀ i, i < n → f i = some (r i)) → M1 q = some (t, .inl (hT G 5, n, .inr (.inr (.inr (.inr f))))) → (∀ i, i < n → M1 (r i) = some (t2 + i, .inl (hT G 0, k, .inl (fun _ => 0)))) → hGr M M1 → hHS G M1 s H1 locs → W p l e R s m args below meth c H1 locs (cells + 1 + n) (slots + n + n * k) Q (F0 m (pc + 4) ls (.ref q :: rest))) : W p l e R s m args below meth c H locs cells slots Q (F0 m pc ls (.int (nI k) :: .int (nI n) :: rest)) := by
  have hts := X.2.2.2.2.2.1
  have hK := X.2.2.2.2.2.2.2.1
  obtain ⟨ws, hP, hDw, hw⟩ := Y.1.list
  have hcy : s.vm.findClass (FieldType.array .int).toString = some (hT G 0) := (hK.2 0 (hT G 0, .int) rfl).2
  refine va_mna (D := hD G) (cl := vwCl) (X := ws) (L := []) (f := fun _ => .inl (hT G 0, 0, .inl (fun _ => 0))) (N' := n) (K' := k) (z := (k, .inl (fun _ => 0))) X.1 X.2.1 X.2.2.2.2.1 (hts _ hlink) (t_aoa X.2.2.2.2.2.2.2.2.1 X.2.2.2.2.2.2.2.2.2.1) (hts _ kac_int) hcy hK (by show va_P _ _ (ws ++ []) _; rw [List.append_nil]; exact hP) (by show va_D _ (ws ++ []); rw [List.append_nil]; exact hDw) Y.2 (h_free X) (nI_nn (by omega)) (nI_nn (by omega)) (nI_clamp (by omega)) (nI_clamp (by omega)) (by omega) (by show k * 4 ≤ _; omega) (by omega) rfl rfl hcells hslots (fun cq => arrV_new cq k (.int 0)) hdg fun q r cA H1 hri hrL hK1 hP1 hD1 hS1 => ?_
  have hc : cA = hT G 5 := by
    have h1 := (hK1.2 7 (cA, .array .int) rfl).2
    have h2 := (hK.2 5 (hT G 5, .array .int) rfl).2
    exact Option.some.inj (h1.symm.trans h2)
  subst hc
  generalize hfe : (fun i => if i < n then some (r i) else Option.none) = f at hP1 hD1
  have hfi : ∀ i, i < n → f i = some (r i) := fun i hi => by rw [← hfe]; exact if_pos hi
  generalize hLL : (ws ++ [(q, (.inl (hT G 5, n, .inr (.inr (.inr (.inr f)))) : va_E))]) = L1 at hP1 hD1
  rw [List.nil_append] at hP1 hD1
  have hq1 : L1[ws.length]? = some (q, .inl (hT G 5, n, .inr (.inr (.inr (.inr f))))) := by rw [← hLL, List.getElem?_append_right (Nat.le_refl _), Nat.sub_self]; rfl
  have hlen : L1.length = ws.length + 1 := by rw [← hLL, List.length_append]; rfl
  have hqa : ∀ g : va_W, (L1 ++ g)[ws.length]? = some (q, .inl (hT G 5, n, .inr (.inr (.inr (.inr f))))) := fun g => by rw [List.getElem?_append_left (by omega)]; exact hq1
  have hMa : ∀ (g : va_W) (b u : Nat) (e : va_E), M b = some (u, e) → ∃ j : Nat, j < ws.length ∧ (L1 ++ g)[j]? = some (b, e) := fun g b u e hb => by
    obtain ⟨j, hj⟩ := hw b u e hb
    have hl := (List.getElem?_eq_some_iff.mp hj).1
    exact ⟨j, hl, by rw [List.getElem?_append_left (by omega), ← hLL, List.getElem?_append_left hl]; exact hj⟩
  have hra : ∀ i, i < n → (L1 ++ va_pl ((List.range n).map r) (vr_up (fun _ => (.inl (hT G 0, 0, .inl (fun _ => 0)) : va_E)) ((List.range n).map r) (.inl (hT G 0, k, .inl (fun _ => 0)))))[L1.length + i]? = some (r i, .inl (hT G 0, k, .inl (fun _ => 0))) := fun i hi => by
    rw [List.getElem?_append_right (by omega), Nat.add_sub_cancel_left]
    unfold va_pl
    rw [List.getElem?_map, List.getElem?_map, List.getElem?_range hi]
    show some (r i, _) = _
    rw [vr_up_in (List.mem_map.mpr ⟨i, List.mem_range.mpr hi, rfl⟩)]
  have key : ∀ j, j ≤ n → ∃ Mj : hM, hH G Mj H1 ∧ hGr M Mj ∧ Mj q = some (t, .inl (hT G 5, n, .inr (.inr (.inr (.inr f))))) ∧ (∀ i, i < j → Mj (r i) = some (t2 + i, .inl (hT G 0, k, .inl (fun _ => 0)))) ∧ ∀ (b : Nat) (x : Nat × va_E), Mj b = some x → (∃ y, M b = some y) ∨ b = q ∨ ∃ i, i < j ∧ b = r i := by
    intro j
    induction j with
    | zero =>
      intro _
      refine ⟨hup M q (t, .inl (hT G 5, n, .inr (.inr (.inr (.inr f))))), fun b u e hb => ?_, hGr.new ?_, hup_eq, fun i hi => absurd hi (Nat.not_lt_zero i), fun b x hb => ?_⟩
      · by_cases h : b = q
        · subst h
          rw [hup_eq] at hb
          cases hb
          exact ⟨hD1.2 _ _ (hqa _), hP1 _ _ (hqa _)⟩
        · rw [hup_ne h] at hb
          obtain ⟨j, -, hj⟩ := hMa _ b u e hb
          exact ⟨hD1.2 _ _ hj, hP1 _ _ hj⟩
      · cases hm : M q with
        | none => rfl
        | some y =>
          obtain ⟨j, hl, hj⟩ := hMa _ q y.1 y.2 hm
          exact absurd (hD1.1 j ws.length _ _ hj (hqa _) rfl) (by omega)
      · by_cases h : b = q
        · exact Or.inr (Or.inl h)
        · rw [hup_ne h] at hb
          exact Or.inl ⟨x, hb⟩
    | succ j ih =>
      intro hj
      obtain ⟨Mj, h1, h2, h3, h4, h5⟩ := ih (by omega)
      have hno : Mj (r j) = none := by
        cases hm : Mj (r j) with
        | none => rfl
        | some x =>
          rcases h5 _ x hm with ⟨y, hy⟩ | h | ⟨i, hi, h⟩
          · obtain ⟨z, hl, hz⟩ := hMa _ (r j) y.1 y.2 hy
            exact absurd (hD1.1 z _ _ _ hz (hra j (by omega)) rfl) (by omega)
          · exact absurd (hD1.1 _ _ _ _ (hqa _) (hra j (by omega)) h.symm) (by omega)
          · exact absurd (hri j i (by omega) (by omega) h) (by omega)
      refine ⟨hup Mj (r j) (t2 + j, .inl (hT G 0, k, .inl (fun _ => 0))), fun b u e hb => ?_, fun b x hb => hGr.new hno b x (h2 b x hb), hGr.new hno _ _ h3, fun i hi => ?_, fun b x hb => ?_⟩
      · by_cases h : b = r j
        · subst h
          rw [hup_eq] at hb
          cases hb
          exact ⟨hD1.2 _ _ (hra j (by omega)), hP1 _ _ (hra j (by omega))⟩
        · rw [hup_ne h] at hb
          exact h1 b u e hb
      · by_cases h : i = j
        · subst h; exact hup_eq
        · exact hGr.new hno _ _ (h4 i (by omega))
      · by_cases h : b = r j
        · exact Or.inr (Or.inr ⟨j, by omega, h⟩)
        · rw [hup_ne h] at hb
          rcases h5 b x hb with h | h | ⟨i, hi, h⟩
          · exact Or.inl h
          · exact Or.inr (Or.inl h)
          · exact Or.inr (Or.inr ⟨i, by omega, h⟩)
  obtain ⟨M1, h1, h2, h3, h4, -⟩ := key n (Nat.le_refl n)
  exact kk q r f M1 H1 hfi h3 h4 h2 ⟨h1, hS1⟩
end MNA
