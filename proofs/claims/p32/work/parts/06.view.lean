-- LAYERS, FORMULAS, CLAIMS: what their cells hold, as values
abbrev hLy : Type := (Nat → Nat) × (Nat → Option Nat) × (Nat → Int32) × (Nat → Nat → Int32) × (Nat → Int64)
abbrev lyA (L : hLy) : Nat → Nat := L.1
abbrev lyR (L : hLy) : Nat → Option Nat := L.2.1
abbrev lyI (L : hLy) : Nat → Int32 := L.2.2.1
abbrev lyN (L : hLy) : Nat → Nat → Int32 := L.2.2.2.1
abbrev lyB (L : hLy) : Nat → Int64 := L.2.2.2.2
abbrev lyO (L : hLy) : List Value := [.ref (lyA L 0), .ref (lyA L 1), va_rf (lyR L 0), va_rf (lyR L 1), va_rf (lyR L 2), .int (lyI L 0), .int (lyI L 1), .ref (lyA L 2), .int (lyI L 2), .int (lyI L 3), .ref (lyA L 3), .ref (lyA L 4), .ref (lyA L 5), .ref (lyA L 6)]
/-- the object of a layer and its rows; its formulas stand apart -/
def LyV (G : hG) (M : hM) (a t : Nat) (L : hLy) : Prop := M a = some (t, .inr (7, lyO L)) ∧ M (lyA L 2) = some (t + 1, .inl (hT G 0, 4, .inl (lyN L 0))) ∧ M (lyA L 3) = some (t + 2, .inl (hT G 0, 10, .inl (lyN L 1))) ∧ M (lyA L 4) = some (t + 3, .inl (hT G 0, 10, .inl (lyN L 2))) ∧ M (lyA L 5) = some (t + 4, .inl (hT G 0, 10, .inl (lyN L 3))) ∧ M (lyA L 6) = some (t + 5, .inl (hT G 2, 10, .inr (.inl (lyB L))))
theorem lg_cmp_0 {x y : Int64} (h : lg_cmp x y = 0) : x = y := by
  unfold lg_cmp at h
  by_cases h1 : x > y
  · rw [if_pos h1] at h; exact absurd h (by decide)
  · rw [if_neg h1] at h
    by_cases h2 : x = y
    · exact h2
    · rw [if_neg h2] at h; exact absurd h (by decide)
theorem lg_cmp_n {x y : Int64} (h : ¬ lg_cmp x y = 0) : ¬ x = y := fun e => h (by subst e; unfold lg_cmp; rw [if_neg (show ¬ x > x from fun q => absurd (Int64.lt_iff_toInt_lt.mp q) (by omega)), if_pos rfl])
def lyShare (L : hLy) (b : Int32) : Int32 := (b.toInt64 * (lyI L 0).toInt64 / 100).toInt32
def lyBorne (L : hLy) (y : Nat) (x : Int32) : Int32 := if lyB L y = -1 then sMax (x - lyN L 3 y) 0 else (sMinL (sMax (x - lyN L 3 y) 0).toInt64 (lyB L y)).toInt32
def lyRoom (L : hLy) (y : Nat) (b : Int32) : Int32 := if lyB L y = -1 then -1 else (sMinL (lyB L y - b.toInt64) 2147483647).toInt32
abbrev lyNet (L : hLy) (k : Nat) : Prop := (lyI L 3 >>> (nI k &&& 31)) &&& 1 = 1
def lyYear (L : hLy) (y what : Nat) : Int32 := match what with
  | 0 => lyN L 1 y
  | 1 => lyN L 2 y
  | 2 => lyN L 3 y
  | _ => (sMinL (lyB L y) 2147483647).toInt32
def lyTell (L : hLy) (what : Nat) : Int32 := match what with
  | 0 => lyI L 0
  | 1 => lyI L 1
  | 2 => if lyR L 0 = none then 0 else 1
  | 3 => lyI L 3
  | w + 4 => lyN L 0 w
/-- one part of what reinstatements are charged -/
def lyPart (L : hLy) (y : Nat) (b : Int32) (k : Nat) : Int64 := sMaxL (sMinL (b.toInt64 - (nI k).toInt64 * (lyN L 1 y).toInt64) (lyN L 1 y).toInt64) 0 * (lyN L 0 k).toInt64 / 100
def lyParts (L : hLy) (y : Nat) (b : Int32) : Nat → Int64
  | 0 => 0
  | k + 1 => lyParts L y b k + lyPart L y b k
def lyCharge (L : hLy) (y : Nat) (b : Int32) (n : Nat) : Int32 := (lyParts L y b n * (lyI L 0).toInt64 / 100).toInt32

