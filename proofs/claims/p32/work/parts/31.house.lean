-- A NEW HOUSE
def mkC (G : hG) (M : hM) (t a1 a2 : Nat) (A : Nat → Nat) : Prop := M (A 0) = some (t, .inr (3, [.ref (A 1), .ref (A 2), .ref (A 3), .ref (A 4), .ref a1, .ref a2])) ∧ M (A 1) = some (t + 1, .inl (hT G 0, 40, .inl (fun _ => 0))) ∧ (∃ f : Nat → Option Nat, (∀ i, i < 40 → f i = some (A (10 + i))) ∧ M (A 2) = some (t + 2, .inl (hT G 5, 40, .inr (.inr (.inr (.inr f)))))) ∧ (∀ i, i < 40 → M (A (10 + i)) = some (t + 10 + i, .inl (hT G 0, 8, .inl (fun _ => 0)))) ∧ (∃ f : Nat → Option Nat, (∀ i, i < 8 → f i = some (A (60 + i))) ∧ M (A 3) = some (t + 3, .inl (hT G 5, 8, .inr (.inr (.inr (.inr f)))))) ∧ (∀ i, i < 8 → M (A (60 + i)) = some (t + 60 + i, .inl (hT G 0, 10, .inl (fun _ => 0)))) ∧ M (A 4) = some (t + 4, .inl (hT G 0, 8, .inl (fun _ => 0)))
def mkT (G : hG) (M : hM) (t : Nat) (A : Nat → Nat) : Prop := M (A 0) = some (t, .inr (11, [.ref (A 1), .int 0])) ∧ (∃ f : Nat → Option Nat, (∀ i, i < 10 → f i = some (A (2 + i))) ∧ M (A 1) = some (t + 1, .inl (hT G 5, 10, .inr (.inr (.inr (.inr f)))))) ∧ ∀ i, i < 10 → M (A (2 + i)) = some (t + 2 + i, .inl (hT G 0, 10, .inl (fun _ => 0)))
theorem mkC.fr {G : hG} {Z : Nat → Prop} {M M' : hM} {t a1 a2 : Nat} {A : Nat → Nat} (h : hFr Z M M') (hz : ∀ j, j < 100 → ¬ Z (t + j)) (hC : mkC G M t a1 a2 A) : mkC G M' t a1 a2 A := by
  obtain ⟨h0, h1, ⟨f, h2, h3⟩, h4, ⟨g, h5, h6⟩, h7, h8⟩ := hC
  exact ⟨h _ _ _ h0 (hz 0 (by omega)), h _ _ _ h1 (hz 1 (by omega)), ⟨f, h2, h _ _ _ h3 (hz 2 (by omega))⟩, fun i hi => h _ _ _ (h4 i hi) (by rw [Nat.add_assoc]; exact hz _ (by omega)), ⟨g, h5, h _ _ _ h6 (hz 3 (by omega))⟩, fun i hi => h _ _ _ (h7 i hi) (by rw [Nat.add_assoc]; exact hz _ (by omega)), h _ _ _ h8 (hz 4 (by omega))⟩
theorem mkT.fr {G : hG} {Z : Nat → Prop} {M M' : hM} {t : Nat} {A : Nat → Nat} (h : hFr Z M M') (hz : ∀ j, j < 20 → ¬ Z (t + j)) (hC : mkT G M t A) : mkT G M' t A := by
  obtain ⟨h0, ⟨f, h2, h3⟩, h4⟩ := hC
  exact ⟨h _ _ _ h0 (hz 0 (by omega)), ⟨f, h2, h _ _ _ h3 (hz 1 (by omega))⟩, fun i hi => h _ _ _ (h4 i hi) (by rw [Nat.add_assoc]; exact hz _ (by omega))⟩
theorem mkC_of {G : hG} {M : hM} {t a1 a2 q0 r1 r2 r3 r4 : Nat} {b d : Nat → Nat} (h0 : M q0 = some (t, .inr (3, [.ref r1, .ref r2, .ref r3, .ref r4, .ref a1, .ref a2]))) (h1 : M r1 = some (t + 1, .inl (hT G 0, 40, .inl (fun _ => 0)))) (h2 : ∃ f : Nat → Option Nat, (∀ i, i < 40 → f i = some (b i)) ∧ M r2 = some (t + 2, .inl (hT G 5, 40, .inr (.inr (.inr (.inr f)))))) (h3 : ∀ i, i < 40 → M (b i) = some (t + 10 + i, .inl (hT G 0, 8, .inl (fun _ => 0)))) (h4 : ∃ f : Nat → Option Nat, (∀ i, i < 8 → f i = some (d i)) ∧ M r3 = some (t + 3, .inl (hT G 5, 8, .inr (.inr (.inr (.inr f)))))) (h5 : ∀ i, i < 8 → M (d i) = some (t + 60 + i, .inl (hT G 0, 10, .inl (fun _ => 0)))) (h6 : M r4 = some (t + 4, .inl (hT G 0, 8, .inl (fun _ => 0)))) : ∃ A : Nat → Nat, A 0 = q0 ∧ mkC G M t a1 a2 A := by
  refine ⟨fun v => if v = 0 then q0 else if v = 1 then r1 else if v = 2 then r2 else if v = 3 then r3 else if v = 4 then r4 else if v < 60 then b (v - 10) else d (v - 60), rfl, h0, h1, ?_, fun i hi => ?_, ?_, fun i hi => ?_, h6⟩
  · obtain ⟨f, g1, g2⟩ := h2
    refine ⟨f, fun i hi => ?_, g2⟩
    dsimp only
    rw [if_neg (by omega), if_neg (by omega), if_neg (by omega), if_neg (by omega), if_neg (by omega), if_pos (by omega), Nat.add_sub_cancel_left]
    exact g1 i hi
  · show M (if 10 + i = 0 then q0 else _) = _
    rw [if_neg (by omega), if_neg (by omega), if_neg (by omega), if_neg (by omega), if_neg (by omega), if_pos (by omega), Nat.add_sub_cancel_left]
    exact h3 i hi
  · obtain ⟨f, g1, g2⟩ := h4
    refine ⟨f, fun i hi => ?_, g2⟩
    dsimp only
    rw [if_neg (by omega), if_neg (by omega), if_neg (by omega), if_neg (by omega), if_neg (by omega), if_neg (by omega), Nat.add_sub_cancel_left]
    exact g1 i hi
  · show M (if 60 + i = 0 then q0 else _) = _
    rw [if_neg (by omega), if_neg (by omega), if_neg (by omega), if_neg (by omega), if_neg (by omega), if_neg (by omega), Nat.add_sub_cancel_left]
    exact h5 i hi
theorem mkT_of {G : hG} {M : hM} {t q0 r1 : Nat} {b : Nat → Nat} (h0 : M q0 = some (t, .inr (11, [.ref r1, .int 0]))) (h2 : ∃ f : Nat → Option Nat, (∀ i, i < 10 → f i = some (b i)) ∧ M r1 = some (t + 1, .inl (hT G 5, 10, .inr (.inr (.inr (.inr f)))))) (h3 : ∀ i, i < 10 → M (b i) = some (t + 2 + i, .inl (hT G 0, 10, .inl (fun _ => 0)))) : ∃ A : Nat → Nat, A 0 = q0 ∧ mkT G M t A := by
  refine ⟨fun v => if v = 0 then q0 else if v = 1 then r1 else b (v - 2), rfl, h0, ?_, fun i hi => ?_⟩
  · obtain ⟨f, g1, g2⟩ := h2
    refine ⟨f, fun i hi => ?_, g2⟩
    dsimp only
    rw [if_neg (by omega), if_neg (by omega), Nat.add_sub_cancel_left]
    exact g1 i hi
  · show M (if 2 + i = 0 then q0 else _) = _
    rw [if_neg (by omega), if_neg (by omega), Nat.add_sub_cancel_left]
    exact h3 i hi
/-- the tape's bytes, the tokens, the parser, the checker, as their rows stand at first -/
def mkB (G : hG) (M : hM) (A : Nat → Nat) : Prop := M (A 2) = some (2, .inl (hT G 1, 2000, .inl (fun _ => 0))) ∧ M (A 3) = some (3, .inr (10, [.ref (A 4), .ref (A 5), .ref (A 6), .ref (A 7), .int 0])) ∧ M (A 4) = some (4, .inl (hT G 3, 401, .inr (.inr (.inr (.inr (fun _ => none)))))) ∧ M (A 5) = some (5, .inl (hT G 0, 401, .inl (fun _ => 0))) ∧ M (A 6) = some (6, .inl (hT G 0, 401, .inl (fun _ => 0))) ∧ M (A 7) = some (7, .inl (hT G 2, 401, .inr (.inl (fun _ => 0)))) ∧ M (A 8) = some (8, .inr (8, [.ref (A 3), .ref (A 9), .ref (A 10), .int 0, .int 0, .ref (hSg G 37)])) ∧ M (A 9) = some (9, .inl (hT G 3, 400, .inr (.inr (.inr (.inr (fun _ => none)))))) ∧ M (A 10) = some (10, .inl (hT G 0, 400, .inl (fun _ => 0))) ∧ M (A 11) = some (11, .inr (4, [.ref (A 3), .ref (A 12), .int 0, .int (-1)])) ∧ M (A 12) = some (12, .inl (hT G 2, 8, .inr (.inl (fun _ => 0))))
abbrev s00 (A : Nat → Nat) : hSy := (0, default, default, 0, default, A)
def h00 : hHo := (0, 1000, -1, 0, fun _ => 0, fun _ => 0)
def aHouse (a : Nat → Nat) (c0 c1 c2 t0 t1 t2 t3 : Nat → Nat) : Nat → Nat := fun u => if u < 100 then a u else if u < 200 then c0 (u - 100) else if u < 300 then c1 (u - 200) else if u < 400 then c2 (u - 300) else if u < 420 then t0 (u - 400) else if u < 440 then t1 (u - 420) else if u < 460 then t2 (u - 440) else t3 (u - 460)
theorem aHouse_lo {a c0 c1 c2 t0 t1 t2 t3 : Nat → Nat} (u : Nat) (h : u < 100) : aHouse a c0 c1 c2 t0 t1 t2 t3 u = a u := if_pos h
theorem mkC.to {G : hG} {M : hM} {S : hSy} {cx : Nat} {A : Nat → Nat} (hC : mkC G M (100 * (cx + 1)) (sA S 13) (sA S 15) A) (hA : ∀ v, v < 100 → sA S (100 * (cx + 1) + v) = A v) : CeE G M S cx := by
  obtain ⟨h0, h1, ⟨f, h2, h3⟩, h4, ⟨g, h5, h6⟩, h7, h8⟩ := hC
  refine ⟨fun _ => 0, fun _ _ => 0, fun _ _ => 0, fun _ => 0, ?_, ?_, ⟨f, fun i hi => ?_, ?_⟩, fun i hi => ?_, ⟨g, fun i hi => ?_, ?_⟩, fun i hi => ?_, ?_⟩
  · rw [show sA S (100 * (cx + 1)) = A 0 from hA 0 (by omega), hA 1 (by omega), hA 2 (by omega), hA 3 (by omega), hA 4 (by omega)]; exact h0
  · rw [hA 1 (by omega)]; exact h1
  · rw [Nat.add_assoc, hA _ (by omega)]; exact h2 i hi
  · rw [hA 2 (by omega)]; exact h3
  · rw [Nat.add_assoc, hA _ (by omega), ← Nat.add_assoc]; exact h4 i hi
  · rw [Nat.add_assoc, hA _ (by omega)]; exact h5 i hi
  · rw [hA 3 (by omega)]; exact h6
  · rw [Nat.add_assoc, hA _ (by omega), ← Nat.add_assoc]; exact h7 i hi
  · rw [hA 4 (by omega)]; exact h8
theorem mkT.to {G : hG} {M : hM} {S : hSy} {j : Nat} {A : Nat → Nat} (hC : mkT G M (400 + 20 * j) A) (hA : ∀ v, v < 20 → sA S (400 + 20 * j + v) = A v) : TrE G M S j := by
  obtain ⟨h0, ⟨f, h2, h3⟩, h4⟩ := hC
  refine ⟨fun _ _ => 0, 0, ?_, ⟨f, fun i hi => ?_, ?_⟩, fun i hi => ?_⟩
  · rw [show sA S (400 + 20 * j) = A 0 from hA 0 (by omega), hA 1 (by omega)]; exact h0
  · rw [Nat.add_assoc, hA _ (by omega)]; exact h2 i hi
  · rw [hA 1 (by omega)]; exact h3
  · rw [Nat.add_assoc, hA _ (by omega), ← Nat.add_assoc]; exact h4 i hi
