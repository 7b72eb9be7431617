-- WHAT THE FORMULAS TELL
def fhS (S : Nat → Nat) : Nat → Nat
  | 0 => 0
  | i + 1 => if sgOp (S i) = 2 then fhS S i - 1 else if sgOp (S i) = 1 then fhS S i else fhS S i + 1
theorem fH_eq (F : hFo) : ∀ i, fH F i = fhS (foS F) i
  | 0 => rfl
  | i + 1 => by
    show (if _ then _ else _) = (if _ then _ else _)
    rw [fH_eq F i]
theorem FoL.w {F : hFo} {ks : List Nat} {vs : List Int32} (h : FoL F ks vs) (h1 : ks.length ≤ 400) (h2 : 0 < fhS (fun i => ks.getD i 0) ks.length ∧ fhS (fun i => ks.getD i 0) ks.length ≤ ks.length) (h3 : 0 < ks.length) (h4 : ∀ i, i < ks.length → (ks.getD i 0 = 11 ∨ ks.getD i 0 = 12 ∨ ks.getD i 0 = 15 ∨ ks.getD i 0 = 17 ∨ ks.getD i 0 = 24 ∨ ks.getD i 0 = 26 ∨ ks.getD i 0 = 28 ∨ ks.getD i 0 = 32 ∨ ks.getD i 0 = 34) ∧ (sgOp (ks.getD i 0) = 2 → 2 ≤ fhS (fun i => ks.getD i 0) i) ∧ (sgOp (ks.getD i 0) = 1 → 1 ≤ fhS (fun i => ks.getD i 0) i) ∧ fhS (fun i => ks.getD i 0) i ≤ ks.length ∧ (¬ sgOp (ks.getD i 0) = 2 → ¬ sgOp (ks.getD i 0) = 1 → fhS (fun i => ks.getD i 0) i < ks.length)) : FoW F := by
  obtain ⟨e1, e2, -⟩ := h
  have e3 : fH F = fhS (fun i => ks.getD i 0) := funext fun i => by rw [fH_eq F i, e2]
  unfold FoW
  rw [e1, e2, e3]
  exact ⟨h1, h2, h3, h4⟩
theorem FoG.of {F : hFo} {g : Int32 → Int32 → Int32} (hw : FoW F) (h : ∀ li am, FoE F li am (g li am)) : FoG F ∧ ∀ li am, fv F li am = g li am :=
  ⟨⟨hw, fun li am => by rw [show fv F li am = g li am from h li am _]; exact h li am⟩, fun li am => h li am _⟩
theorem op_34 : sgOp 34 = 0 := by decide
theorem op_15 : sgOp 15 = 0 := by decide
theorem op_17 : sgOp 17 = 0 := by decide
theorem op_26 : sgOp 26 = 2 := by decide
theorem op_24 : sgOp 24 = 2 := by decide
theorem op_28 : sgOp 28 = 2 := by decide
theorem op_32 : sgOp 32 = 2 := by decide
theorem op_11 : sgOp 11 = 2 := by decide
theorem op_12 : sgOp 12 = 1 := by decide
theorem n02 : ¬ (0 : Int32) = 2 := by decide
theorem n01 : ¬ (0 : Int32) = 1 := by decide
theorem n12 : ¬ (1 : Int32) = 2 := by decide
theorem fo_1 {F : hFo} {v0 : Int32} (h : FoL F [34] [v0]) : FoG F ∧ ∀ li am, fv F li am = v0 := by
  refine FoG.of (g := fun li am => v0) (h.w (by decide) (by decide) (by decide) (by decide)) (fun li am s0 => ?_)
  obtain ⟨A, n, S, I⟩ := F
  obtain ⟨h1, h2, h3⟩ := h
  have h1 : n = 1 := h1
  have h2 : S = fun i => [34].getD i 0 := h2
  subst h1
  subst h2
  have i0 : I 0 = v0 := h3 0 (by decide)
  simp [fSt, fH, foN, foS, foI, op_34, n02, n01, n12, upd, fJoin, fLeaf, i0]
theorem fo_5a {F : hFo} {v0 v1 v2 v3 v4 : Int32} (h : FoL F [15, 34, 26, 34, 24] [v0, v1, v2, v3, v4]) : FoG F ∧ ∀ li am, fv F li am = li * v1 + v3 := by
  refine FoG.of (g := fun li am => li * v1 + v3) (h.w (by decide) (by decide) (by decide) (by decide)) (fun li am s0 => ?_)
  obtain ⟨A, n, S, I⟩ := F
  obtain ⟨h1, h2, h3⟩ := h
  have h1 : n = 5 := h1
  have h2 : S = fun i => [15, 34, 26, 34, 24].getD i 0 := h2
  subst h1
  subst h2
  have i1 : I 1 = v1 := h3 1 (by decide)
  have i3 : I 3 = v3 := h3 3 (by decide)
  simp [fSt, fH, foN, foS, foI, op_15, op_24, op_26, op_34, n02, n01, n12, upd, fJoin, fLeaf, i1, i3]
theorem fo_5b {F : hFo} {v0 v1 v2 v3 v4 : Int32} (h : FoL F [34, 34, 15, 26, 24] [v0, v1, v2, v3, v4]) : FoG F ∧ ∀ li am, fv F li am = v0 + v1 * li := by
  refine FoG.of (g := fun li am => v0 + v1 * li) (h.w (by decide) (by decide) (by decide) (by decide)) (fun li am s0 => ?_)
  obtain ⟨A, n, S, I⟩ := F
  obtain ⟨h1, h2, h3⟩ := h
  have h1 : n = 5 := h1
  have h2 : S = fun i => [34, 34, 15, 26, 24].getD i 0 := h2
  subst h1
  subst h2
  have i0 : I 0 = v0 := h3 0 (by decide)
  have i1 : I 1 = v1 := h3 1 (by decide)
  simp [fSt, fH, foN, foS, foI, op_15, op_24, op_26, op_34, n02, n01, n12, upd, fJoin, fLeaf, i0, i1]
theorem fo_8 {F : hFo} {v0 v1 v2 v3 v4 v5 v6 v7 : Int32} (h : FoL F [17, 34, 32, 15, 34, 28, 12, 11] [v0, v1, v2, v3, v4, v5, v6, v7]) : FoG F ∧ ∀ li am, fv F li am = (if v1 ≤ am then (1 : Int32) else 0) ||| (1 - (if li < v4 then (1 : Int32) else 0)) := by
  refine FoG.of (g := fun li am => (if v1 ≤ am then (1 : Int32) else 0) ||| (1 - (if li < v4 then (1 : Int32) else 0))) (h.w (by decide) (by decide) (by decide) (by decide)) (fun li am s0 => ?_)
  obtain ⟨A, n, S, I⟩ := F
  obtain ⟨h1, h2, h3⟩ := h
  have h1 : n = 8 := h1
  have h2 : S = fun i => [17, 34, 32, 15, 34, 28, 12, 11].getD i 0 := h2
  subst h1
  subst h2
  have i1 : I 1 = v1 := h3 1 (by decide)
  have i4 : I 4 = v4 := h3 4 (by decide)
  simp [fSt, fH, foN, foS, foI, op_11, op_12, op_15, op_17, op_28, op_32, op_34, n02, n01, n12, upd, fJoin, fLeaf, i1, i4]
