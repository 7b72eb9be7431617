-- A TEXT OF TOKENS: WHERE THEY STAND, WHAT THEY ARE
/-- a token: blanks ahead, its sign, its letters -/
abbrev tIm : Type := Nat × Nat × List Nat
def fl : List tIm → List Nat
  | [] => []
  | x :: r => List.replicate x.1 32 ++ (x.2.2 ++ fl r)
def tEn (o : Nat) : List tIm → Nat → Nat
  | _, 0 => o
  | [], _ + 1 => o
  | x :: r, i + 1 => tEn (o + x.1 + x.2.2.length) r i
def tIt (l : List tIm) (i : Nat) : tIm := l.getD i (0, 36, [])
def tTs (l : List tIm) (i : Nat) : Nat := tEn 0 l i + (tIt l i).1
/-- a word's letters spell the k-th first (37: none) -/
abbrev kwW (w : List Nat) (k : Nat) : Prop := (k < 38 ∧ (∀ j, j < k → sgTx.getD j [] ≠ w) ∧ sgTx.getD k [] = w) ∨ (k = 37 ∧ ∀ j, j < 38 → sgTx.getD j [] ≠ w)
abbrev isL (c : Nat) : Prop := 97 ≤ c ∧ c ≤ 122
abbrev isD (c : Nat) : Prop := 48 ≤ c ∧ c ≤ 57
/-- what a token and the letter behind it may be -/
abbrev okNum (k : Nat) (w : List Nat) (nx : Option Nat) : Prop := k = 34 ∧ w.length ≤ 7 ∧ (∀ j, j < w.length → isD (lsW w j)) ∧ ¬ isD (nx.getD 32)
abbrev okWrd (k : Nat) (w : List Nat) (nx : Option Nat) : Prop := isL (lsW w 0) ∧ (∀ j, j < w.length → isL (lsW w j)) ∧ (¬ isL (nx.getD 32) ∧ ¬ isD (nx.getD 32)) ∧ ((k = 33 ∧ w.length ≤ 10 ∧ kwW w 37) ∨ (k < 37 ∧ kwW w k))
abbrev okSym (k : Nat) (w : List Nat) (nx : Option Nat) : Prop := ¬ isL (lsW w 0) ∧ ¬ isD (lsW w 0) ∧ k < 37 ∧ kwW w k ∧ ((w.length = 1 ∧ kwW [lsW w 0, nx.getD 32] 37) ∨ w.length = 2)
abbrev okI (x : tIm) (nx : Option Nat) : Prop := 0 < x.2.2.length ∧ (lsW x.2.2 0 ≠ 32 ∧ lsW x.2.2 0 ≠ 10) ∧ (okNum x.2.1 x.2.2 nx ∨ okWrd x.2.1 x.2.2 nx ∨ okSym x.2.1 x.2.2 nx)
def okL : List tIm → Prop
  | [] => True
  | x :: r => okI x (fl r).head? ∧ okL r
theorem okc {x : tIm} {r : List tIm} {nx : Option Nat} (h : okI x nx) (hn : (fl r).head? = nx) (hr : okL r) : okL (x :: r) := ⟨by rw [hn]; exact h, hr⟩
theorem ls_hi (A X : List Nat) (j : Nat) : lsW (A ++ X) (A.length + j) = lsW X j := by
  show (A ++ X).getD (A.length + j) 0 = X.getD j 0
  rw [List.getD_eq_getElem?_getD, List.getD_eq_getElem?_getD, List.getElem?_append_right (by omega), Nat.add_sub_cancel_left]
theorem ls_lo (A X : List Nat) {j : Nat} (h : j < A.length) : lsW (A ++ X) j = lsW A j := by
  show (A ++ X).getD j 0 = A.getD j 0
  rw [List.getD_eq_getElem?_getD, List.getD_eq_getElem?_getD, List.getElem?_append_left h]
theorem ls_rep {b j : Nat} (h : j < b) : lsW (List.replicate b 32) j = 32 := by
  show (List.replicate b 32).getD j 0 = 32
  rw [List.getD_eq_getElem?_getD, List.getElem?_replicate, if_pos h]
  rfl
/-- the i-th token in its text -/
def Wn (T : List Nat) (s : Nat) (x : tIm) (e : Nat) : Prop := ∃ pre suf : List Nat, T = pre ++ (List.replicate x.1 32 ++ (x.2.2 ++ suf)) ∧ pre.length = s ∧ e = s + x.1 + x.2.2.length ∧ okI x suf.head?
theorem tk_all : ∀ (l : List tIm), okL l → ∀ (pre : List Nat) (i : Nat), i < l.length → Wn (pre ++ fl l) (tEn pre.length l i) (tIt l i) (tEn pre.length l (i + 1))
  | [], _, _, i, hi => absurd hi (Nat.not_lt_zero i)
  | x :: r, hok, pre, 0, _ => ⟨pre, fl r, rfl, rfl, by cases r <;> rfl, hok.1⟩
  | x :: r, hok, pre, i + 1, hi => by
    have h := tk_all r hok.2 (pre ++ (List.replicate x.1 32 ++ x.2.2)) i (Nat.lt_of_succ_lt_succ hi)
    have e1 : (pre ++ (List.replicate x.1 32 ++ x.2.2)) ++ fl r = pre ++ fl (x :: r) := by simp only [fl, List.append_assoc]
    have e2 : (pre ++ (List.replicate x.1 32 ++ x.2.2)).length = pre.length + x.1 + x.2.2.length := by simp only [List.length_append, List.length_replicate]; omega
    rw [e1, e2] at h
    exact h
theorem tEn_len : ∀ (l : List tIm) (o : Nat), tEn o l l.length = o + (fl l).length
  | [], _ => rfl
  | x :: r, o => by
    show tEn (o + x.1 + x.2.2.length) r r.length = _
    rw [tEn_len r]
    simp only [fl, List.length_append, List.length_replicate]
    omega
theorem sgC_lt : ∀ k, k < 38 → ∀ j, j < sgL k → sgC k j < 128 := by decide +kernel
theorem kw_eq {B : Nat → Nat} {n s : Nat} {w : List Nat} (hw : ∀ j, j < w.length → B (s + j) = lsW w j) (hn : s + w.length ≤ n) (h128 : ∀ j, j < w.length → lsW w j < 128) {k : Nat} (hk : k < 38) : tSp B n s (s + w.length) k ↔ sgTx.getD k [] = w := by
  constructor
  · intro h
    have hl : (sgTx.getD k []).length = w.length := by have := h.1; unfold sgL at this; omega
    refine List.ext_getElem hl (fun j h1 h2 => ?_)
    have h3 := h.2 j h1
    rw [bt, if_pos (by omega), hw j h2] at h3
    have h4 := (nI_eq (by have := h128 j h2; omega) (by have := sgC_lt k hk j h1; omega)).mp h3
    have e1 : sgC k j = (sgTx.getD k [])[j] := by unfold sgC; rw [List.getD_eq_getElem?_getD, List.getElem?_eq_getElem h1]; rfl
    have e2 : lsW w j = w[j] := by show w.getD j 0 = _; rw [List.getD_eq_getElem?_getD, List.getElem?_eq_getElem h2]; rfl
    rw [← e1, ← e2, h4]
  · intro h
    have hl : sgL k = w.length := by unfold sgL; rw [h]
    refine ⟨by omega, fun j hj => ?_⟩
    rw [bt, if_pos (by omega), hw j (by omega)]
    unfold sgC
    rw [h]
theorem kw_of {B : Nat → Nat} {n s k : Nat} {w : List Nat} (hw : ∀ j, j < w.length → B (s + j) = lsW w j) (hn : s + w.length ≤ n) (h128 : ∀ j, j < w.length → lsW w j < 128) (h : kwW w k) : kwIs B n s (s + w.length) k := by
  rcases h with ⟨h1, h2, h3⟩ | ⟨h1, h2⟩
  · exact Or.inl ⟨h1, fun j hj z => h2 j hj ((kw_eq hw hn h128 (by omega)).mp z), (kw_eq hw hn h128 h1).mpr h3⟩
  · exact Or.inr ⟨h1, fun j hj z => h2 j hj ((kw_eq hw hn h128 hj).mp z)⟩
theorem nI_m1 {c : Nat} (h : c < 128) : ¬ (-1 : Int32) = nI c := fun z => by
  have h1 := congrArg Int32.toInt z
  rw [nI_toInt (by omega)] at h1
  have h2 : (-1 : Int32).toInt = -1 := by decide
  omega
/-- beyond the tape no word of two letters or more is spelled -/
theorem kw_end {B : Nat → Nat} {n s : Nat} (hs : n ≤ s + 1) : kwIs B n s (s + 2) 37 := Or.inr ⟨rfl, fun j hj z => by
  have h1 := z.1
  have h2 := z.2 1 (by omega)
  rw [bt, if_neg (by omega)] at h2
  exact nI_m1 (sgC_lt j hj 1 (by omega)) h2⟩
theorem Wn.tk {T : List Nat} {s e : Nat} {x : tIm} (h : Wn T s x e) (hT : ∀ i, i < T.length → lsW T i < 128) : TkAt (lsW T) T.length (s + x.1) e x.2.1 ∧ lsW T (s + x.1) ≠ 32 ∧ lsW T (s + x.1) ≠ 10 ∧ (∀ j, s ≤ j → j < s + x.1 → lsW T j = 32) ∧ (∀ j, j < x.2.2.length → lsW T (s + x.1 + j) = lsW x.2.2 j) ∧ e = s + x.1 + x.2.2.length ∧ e ≤ T.length := by
  obtain ⟨pre, suf, hTe, hp, he, hl0, ⟨h32, h10⟩, hk⟩ := h
  obtain ⟨b, k, w⟩ := x
  have hlen : T.length = s + b + w.length + suf.length := by rw [hTe]; simp only [List.length_append, List.length_replicate]; omega
  have he : e = s + b + w.length := he
  have hw : ∀ j, j < w.length → lsW T (s + b + j) = lsW w j := fun j hj => by
    rw [hTe, ← hp, show pre.length + b + j = pre.length + ((List.replicate b 32).length + j) by rw [List.length_replicate]; omega]
    rw [ls_hi]
    show lsW (List.replicate b 32 ++ (w ++ suf)) _ = _
    rw [ls_hi, ls_lo _ _ hj]
  have hbl : ∀ j, s ≤ j → j < s + b → lsW T j = 32 := fun j h1 h2 => by
    rw [hTe, show j = pre.length + (j - s) by omega, ls_hi]
    show lsW (List.replicate b 32 ++ (w ++ suf)) _ = _
    rw [ls_lo _ _ (by rw [List.length_replicate]; omega), ls_rep (by omega)]
  have h128 : ∀ j, j < w.length → lsW w j < 128 := fun j hj => by rw [← hw j hj]; exact hT _ (by omega)
  have hnx : e = T.length ∨ ∃ c, suf.head? = some c ∧ e < T.length ∧ lsW T e = c := by
    cases suf with
    | nil => left; simp at hlen; omega
    | cons c r =>
      right
      refine ⟨c, rfl, by simp at hlen; omega, ?_⟩
      rw [hTe, he, ← hp, show pre.length + b + w.length = pre.length + ((List.replicate b 32).length + (w.length + 0)) by rw [List.length_replicate]; omega, ls_hi]
      show lsW (List.replicate b 32 ++ (w ++ c :: r)) _ = _
      rw [ls_hi, ls_hi]
      rfl
  have h0 : lsW T (s + b) = lsW w 0 := hw 0 hl0
  have hl0 : 0 < w.length := hl0
  have tL : ∀ j, j < w.length → (tLet (lsW T) T.length (s + b + j) = true ↔ isL (lsW w j)) := fun j hj => by
    unfold tLet
    rw [decide_eq_true_iff, hw j hj]
    exact ⟨fun z => z.2, fun z => ⟨by omega, z⟩⟩
  have tD : ∀ j, j < w.length → (tDig (lsW T) T.length (s + b + j) = true ↔ isD (lsW w j)) := fun j hj => by
    unfold tDig
    rw [decide_eq_true_iff, hw j hj]
    exact ⟨fun z => z.2, fun z => ⟨by omega, z⟩⟩
  have bf : ∀ {x : Bool} {P : Prop}, (x = true ↔ P) → ¬ P → x = false := fun h q => by
    rename_i x P
    cases x with
    | false => rfl
    | true => exact absurd (h.mp rfl) q
  have tL0 := tL 0 hl0
  have tD0 := tD 0 hl0
  rw [Nat.add_zero] at tL0 tD0
  refine ⟨⟨?_, ?_, ?_⟩, ?_, ?_, hbl, hw, he, ?_⟩
  · show s + b < e; omega
  · omega
  · rcases hk with hk | hk | hk
    · obtain ⟨k1, k2, k3, k4⟩ := hk
      have k1 : k = 34 := k1
      have k2 : w.length ≤ 7 := k2
      have k3 : ∀ j, j < w.length → isD (lsW w j) := k3
      refine Or.inl ⟨k1, bf tL0 (fun z => by have z2 := k3 0 hl0; unfold isL isD at *; omega), tD0.mpr (k3 0 hl0), ?_, fun j h1 h2 => ?_, ?_⟩
      · show e ≤ s + b + 7; omega
      · have h1 : s + b ≤ j := h1
        obtain ⟨i, rfl⟩ := Nat.exists_eq_add_of_le h1
        exact (tD i (by omega)).mpr (k3 i (by omega))
      · rcases hnx with z | ⟨c, z1, z2, z3⟩
        · exact Or.inl z
        · right
          rw [z1] at k4
          have k4 : ¬ isD c := k4
          exact bf (P := isD c) (by unfold tDig; rw [decide_eq_true_iff, z3]; exact ⟨fun q => q.2, fun q => ⟨z2, q⟩⟩) k4
    · obtain ⟨k1, k2, k3, k4⟩ := hk
      have k1 : isL (lsW w 0) := k1
      have k2 : ∀ j, j < w.length → isL (lsW w j) := k2
      refine Or.inr (Or.inl ⟨tL0.mpr k1, bf tD0 (fun z => by unfold isL isD at *; omega), fun j h1 h2 => ?_, ?_, ?_⟩)
      · have h1 : s + b ≤ j := h1
        obtain ⟨i, rfl⟩ := Nat.exists_eq_add_of_le h1
        exact Or.inl ((tL i (by omega)).mpr (k2 i (by omega)))
      · rcases hnx with z | ⟨c, z1, z2, z3⟩
        · exact Or.inl z
        · right
          rw [z1] at k3
          have k3 : ¬ isL c ∧ ¬ isD c := k3
          exact ⟨bf (P := isL c) (by unfold tLet; rw [decide_eq_true_iff, z3]; exact ⟨fun q => q.2, fun q => ⟨z2, q⟩⟩) k3.1, bf (P := isD c) (by unfold tDig; rw [decide_eq_true_iff, z3]; exact ⟨fun q => q.2, fun q => ⟨z2, q⟩⟩) k3.2⟩
      · rcases k4 with ⟨z1, z2, z3⟩ | ⟨z1, z2⟩
        · have z2 : w.length ≤ 10 := z2
          exact Or.inl ⟨z1, by show e ≤ s + b + 10; omega, by rw [he]; exact kw_of hw (by omega) h128 z3⟩
        · exact Or.inr ⟨z1, by rw [he]; exact kw_of hw (by omega) h128 z2⟩
    · obtain ⟨k1, k2, k3, k4, k5⟩ := hk
      have k1 : ¬ isL (lsW w 0) := k1
      have k2 : ¬ isD (lsW w 0) := k2
      refine Or.inr (Or.inr ⟨bf tL0 k1, bf tD0 k2, k3, by rw [he]; exact kw_of hw (by omega) h128 k4, ?_⟩)
      rcases k5 with ⟨z1, z2⟩ | z1
      · have z1 : w.length = 1 := z1
        refine Or.inl ⟨by show e = s + b + 1; omega, ?_⟩
        rcases hnx with z | ⟨c, y1, y2, y3⟩
        · exact kw_end (by show T.length ≤ s + b + 1; omega)
        · rw [y1] at z2
          have z2 : kwW [lsW w 0, c] 37 := z2
          have e1 : e = s + b + 1 := by omega
          rw [e1] at y3
          have ha : ∀ j, j < [lsW w 0, c].length → lsW T (s + b + j) = lsW [lsW w 0, c] j := fun j hj => match j, hj with
            | 0, _ => h0
            | 1, _ => y3
            | j + 2, hj => absurd hj (by simp)
          exact kw_of (w := [lsW w 0, c]) ha (by show s + b + 2 ≤ _; omega) (fun j hj => by rw [← ha j hj]; exact hT _ (by have : j < 2 := hj; omega)) z2
      · have z1 : w.length = 2 := z1
        exact Or.inr (by show e = s + b + 2; omega)
  · show lsW T (s + b) ≠ 32; rw [h0]; exact h32
  · show lsW T (s + b) ≠ 10; rw [h0]; exact h10
  · omega
