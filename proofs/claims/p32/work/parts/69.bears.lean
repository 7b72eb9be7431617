-- WHAT LAYERS BEAR OF CLAIMS: NUMBERS
theorem i_of {x : Int32} (h : 0 ≤ x.toInt) : ∃ n, n < 2147483648 ∧ x = nI n ∧ x.toInt = n := by
  obtain ⟨j, hj, e⟩ := nI_of (x := x) (fun z => by
    rw [Int32.lt_iff_toInt_lt] at z
    have h0 : (0 : Int32).toInt = 0 := by decide
    omega)
  exact ⟨j, hj, e, by rw [e, nI_toInt hj]⟩
theorem i_ofB {x : Int32} {B : Nat} (h : 0 ≤ x.toInt) (hB : x.toInt ≤ B) : ∃ n, n ≤ B ∧ x = nI n := by
  obtain ⟨n, -, e, e2⟩ := i_of h
  exact ⟨n, by omega, e⟩
theorem nI_gz (n : Nat) (h : n < 2147483648) : ¬ nI n < 0 := nI_nn (by omega)
theorem sMax_nn {x : Int32} : ∃ n, n < 2147483648 ∧ sMax x 0 = nI n := by
  unfold sMax
  by_cases h : x < 0
  · exact ⟨0, by decide, if_pos h⟩
  · obtain ⟨j, hj, e⟩ := nI_of h
    exact ⟨j, hj, by rw [if_neg h, e]⟩
theorem sMax_le {x : Int32} {B : Nat} (hB : B < 2147483648) (h : x.toInt ≤ B) : ∃ n, n ≤ B ∧ sMax x 0 = nI n := by
  unfold sMax
  by_cases h2 : x < 0
  · exact ⟨0, Nat.zero_le _, if_pos h2⟩
  · obtain ⟨j, hj, e⟩ := nI_of h2
    rw [e, nI_toInt hj] at h
    exact ⟨j, by omega, by rw [if_neg h2, e]⟩
theorem sMin_n (a b : Nat) (ha : a < 2147483648) (hb : b < 2147483648) : sMin (nI a) (nI b) = nI (min a b) := by
  unfold sMin
  by_cases h : b < a
  · rw [if_pos ((nI_ltI hb ha).mpr h), Nat.min_eq_right (by omega)]
  · rw [if_neg (fun z => h ((nI_ltI hb ha).mp z)), Nat.min_eq_left (by omega)]
theorem sMaxs (a b : Nat) (ha : a < 1073741824) (hb : b < 2147483648) : sMax (nI a - nI b) 0 = nI (a - b) := by
  by_cases h : b ≤ a
  · rw [pk_sub h]
    exact if_neg (nI_gz _ (by omega))
  · have h0 : (0 : Int32).toInt = 0 := by decide
    have h1 : (nI a - nI b).toInt = (a : Int) - b := by
      rw [Int32.toInt_sub, nI_toInt (by omega), nI_toInt (by omega)]
      exact Int.bmod_eq_of_le (by omega) (by omega)
    unfold sMax
    rw [if_pos (by rw [Int32.lt_iff_toInt_lt, h1, h0]; omega), show a - b = 0 by omega]
    rfl
theorem sMinL_n (a b : Nat) (ha : a < 2 ^ 63) (hb : b < 2 ^ 63) : sMinL (lN a) (lN b) = lN (min a b) := by
  unfold sMinL
  by_cases h : b < a
  · rw [if_pos ((pk_lLT hb ha).mpr h), Nat.min_eq_right (by omega)]
  · rw [if_neg (fun z => h ((pk_lLT hb ha).mp z)), Nat.min_eq_left (by omega)]
/-- a layer's year: what it bears of the losses x -/
def boN (L : hLy) (y x : Nat) : Nat := if lyB L y = -1 then x - (lyN L 3 y).toInt.toNat else min (x - (lyN L 3 y).toInt.toNat) (lyB L y).toInt.toNat
def YO (L : hLy) (y : Nat) : Prop := 0 ≤ (lyN L 3 y).toInt ∧ (lyB L y = -1 ∨ (0 ≤ (lyB L y).toInt ∧ (lyB L y).toInt ≤ 2147483647))
theorem bo_eq {L : hLy} {y x : Nat} (h : YO L y) (hx : x < 1073741824) : lyBorne L y (nI x) = nI (boN L y x) := by
  obtain ⟨h3, hB⟩ := h
  obtain ⟨a, ha, e, e2⟩ := i_of h3
  unfold lyBorne boN
  rw [e2, Int.toNat_natCast, e, sMaxs x a hx ha]
  by_cases hb : lyB L y = -1
  · rw [if_pos hb, if_pos hb]
  · rw [if_neg hb, if_neg hb]
    obtain ⟨b1, b2⟩ := hB.resolve_left hb
    obtain ⟨B, hB1, eB⟩ := pk_lOf (x := lyB L y) (fun z => by
      rw [Int64.lt_iff_toInt_lt] at z
      have h0 : (0 : Int64).toInt = 0 := by decide
      omega)
    rw [eB, pk_lT hB1, Int.toNat_natCast, nI_l (by omega), sMinL_n _ _ (by omega) hB1, lN_i]
theorem bo_up (L : hLy) (y x d : Nat) : boN L y x ≤ boN L y (x + d) ∧ boN L y (x + d) ≤ boN L y x + d := by
  unfold boN
  by_cases hb : lyB L y = -1
  · rw [if_pos hb, if_pos hb]; omega
  · rw [if_neg hb, if_neg hb]; omega
theorem bo_le (L : hLy) (y x : Nat) : boN L y x ≤ x := by
  unfold boN
  by_cases hb : lyB L y = -1
  · rw [if_pos hb]; omega
  · rw [if_neg hb]; omega
/-- the three layers and the claims, as they stand -/
def GS (S : hSy) : Prop := sN S = 3 ∧ (∀ k, k < 3 → GL (sL S k) (sF S k)) ∧ sM S ≤ 40 ∧ ∀ i, i < sM S → clY (sC S i) < 10 ∧ ∃ li, li ≤ 5 ∧ clI (sC S i) 0 = nI li
theorem GS.yo {S : hSy} (h : GS S) {k y : Nat} (hk : k < 3) (hy : y < 10) : YO (sL S k) y := ⟨((h.2.1 k hk).2.2.1 y hy).2.1, ((h.2.1 k hk).2.2.1 y hy).2.2⟩
theorem loss_in {S : hSy} (h : GS S) {mu : Int32} {k li : Nat} {a : Int32} {b : Nat → Int32} (hk : k < 3) (hl : li ≤ 5) : ∃ n, n ≤ 1000000 ∧ pLoss S mu k (nI li) a b = nI n := by
  unfold pLoss
  by_cases h1 : nI k = mu
  · exact ⟨0, by omega, if_pos h1⟩
  · rw [if_neg h1]
    unfold hLoss
    by_cases h2 : lyR (sL S k) 2 ≠ none ∧ fv (sF S k 4) (nI li) a = 0
    · exact ⟨0, by omega, if_pos h2⟩
    · rw [if_neg h2]
      obtain ⟨u, hu, eu⟩ := sMax_nn (x := sMax (pSubj S k a b k) 0 - sMax (fv (sF S k 1) (nI li) a) 0)
      obtain ⟨v, hv, ev⟩ := sMax_le (x := fv (sF S k 0) (nI li) a) (B := 1000000) (by decide) ((h.2.1 k hk).2.1 li hl a)
      rw [eu, ev, sMin_n u v hu (by omega)]
      exact ⟨_, by omega, rfl⟩
theorem pB_in {S : hSy} (h : GS S) {mu : Int32} {y li : Nat} {a : Int32} {yl : Nat → Int32} (hy : y < 10) (hl : li ≤ 5) : ∀ K, K ≤ 3 → (∀ k, k < K → ∃ n, n ≤ 100000000 ∧ yl k = nI n) → ∀ k, ∃ n, n ≤ 1000000 ∧ pB S mu y (nI li) a yl K k = nI n
  | 0, _, _, _ => ⟨0, by omega, rfl⟩
  | K + 1, hK, hyl, k => by
    show ∃ n, n ≤ 1000000 ∧ va_up (pB S mu y (nI li) a yl K) K (lyBorne (sL S K) y (yl K + pLoss S mu K (nI li) a (pB S mu y (nI li) a yl K)) - lyBorne (sL S K) y (yl K)) k = nI n
    by_cases e : k = K
    · subst e
      rw [va_up_self]
      obtain ⟨x, hx, ex⟩ := hyl k (by omega)
      obtain ⟨d, hd, ed⟩ := loss_in h (mu := mu) (a := a) (b := pB S mu y (nI li) a yl k) (show k < 3 by omega) hl
      have hyo := h.yo (show k < 3 by omega) hy
      have h2 := bo_up (sL S k) y x d
      rw [ex, ed, nI_add, bo_eq hyo (by omega), bo_eq hyo (by omega), pk_sub h2.1]
      exact ⟨_, by omega, rfl⟩
    · rw [va_up_ne _ _ e]
      exact pB_in h hy hl K (by omega) (fun k hk => hyl k (by omega)) k
theorem pYl_in {S : hSy} (h : GS S) {mu : Int32} {am : Nat → Int32} : ∀ i, i ≤ sM S → ∀ k, k < 3 → ∀ y, ∃ n, n ≤ i * 1000000 ∧ pYl S mu am i k y = nI n
  | 0, _, _, _, _ => ⟨0, Nat.zero_le _, rfl⟩
  | i + 1, hi, k, hk, y => by
    have h40 := h.2.2.1
    obtain ⟨n, hn, e⟩ := pYl_in h i (by omega) k hk y
    unfold pYl
    by_cases hy : y = clY (sC S i)
    · rw [if_pos hy]
      obtain ⟨hc, li, hl, el⟩ := h.2.2.2 i (by omega)
      obtain ⟨d, hd, ed⟩ := loss_in h (mu := mu) (a := am i) (b := pB S mu (clY (sC S i)) (clI (sC S i) 0) (am i) (fun k => pYl S mu am i k (clY (sC S i))) k) hk hl
      rw [← el] at ed
      rw [e, ed, nI_add]
      exact ⟨_, by omega, rfl⟩
    · rw [if_neg hy]
      exact ⟨n, Nat.le_trans hn (Nat.mul_le_mul_right _ (Nat.le_succ i)), e⟩
theorem pBe_in {S : hSy} (h : GS S) {mu : Int32} {am : Nat → Int32} {i : Nat} (hi : i < sM S) (k : Nat) : ∃ n, n ≤ 1000000 ∧ pBe S mu am i k = nI n := by
  have h40 := h.2.2.1
  obtain ⟨hc, li, hl, el⟩ := h.2.2.2 i hi
  unfold pBe
  rw [h.1, el]
  refine pB_in h hc hl 3 (Nat.le_refl _) (fun k hk => ?_) k
  obtain ⟨n, hn, e⟩ := pYl_in h (mu := mu) (am := am) i (by omega) k hk (clY (sC S i))
  exact ⟨n, by omega, e⟩
theorem share_in {S : hSy} (h : GS S) {k n : Nat} (hk : k < 3) (hn : n ≤ 1000000) : ∃ v, v ≤ n ∧ lyShare (sL S k) (nI n) = nI v := by
  obtain ⟨h1, h2⟩ := (h.2.1 k hk).1
  obtain ⟨s, hs, e, e2⟩ := i_of (x := lyI (sL S k) 0) (by omega)
  unfold lyShare
  rw [e, nI_l (by omega), nI_l (by omega), lN_mul, show (100 : Int64) = lN 100 from rfl, pk_lDiv (by
    have : n * s ≤ 1000000 * 100 := Nat.mul_le_mul hn (by omega)
    omega) (by decide) (by decide), lN_i]
  refine ⟨_, ?_, rfl⟩
  have : n * s ≤ n * 100 := Nat.mul_le_mul_left n (by omega)
  omega
theorem given_in {S : hSy} (h : GS S) {mu : Int32} {am : Nat → Int32} {i k : Nat} (hi : i < sM S) (hk : k < 3) : ∃ n, n ≤ 1000000 ∧ rGiven S (pBe S mu am) i k = nI n := by
  obtain ⟨n, hn, e⟩ := pBe_in h (mu := mu) (am := am) hi k
  obtain ⟨v, hv, ev⟩ := share_in h hk hn
  unfold rGiven
  rw [e, ev]
  exact ⟨v, by omega, rfl⟩
/-- what a claim's layers give, together -/
theorem left_in {S : hSy} (h : GS S) {mu : Int32} {am : Nat → Int32} {i a : Nat} (hi : i < sM S) (ha : am i = nI a) (hab : a ≤ 1120000) : ∃ g0 g1 g2, (g0 ≤ 1000000 ∧ g1 ≤ 1000000 ∧ g2 ≤ 1000000) ∧ rGiven S (pBe S mu am) i 0 = nI g0 ∧ rGiven S (pBe S mu am) i 1 = nI g1 ∧ rGiven S (pBe S mu am) i 2 = nI g2 ∧ rLeft S am (pBe S mu am) i = nI (a - (g0 + g1 + g2)) := by
  obtain ⟨g0, b0, e0⟩ := given_in h (mu := mu) (am := am) (k := 0) hi (by decide)
  obtain ⟨g1, b1, e1⟩ := given_in h (mu := mu) (am := am) (k := 1) hi (by decide)
  obtain ⟨g2, b2, e2⟩ := given_in h (mu := mu) (am := am) (k := 2) hi (by decide)
  refine ⟨g0, g1, g2, ⟨b0, b1, b2⟩, e0, e1, e2, ?_⟩
  unfold rLeft rAll
  rw [h.1, ha]
  show sMax (nI a - (((0 : Int32) + rGiven S (pBe S mu am) i 0) + rGiven S (pBe S mu am) i 1 + rGiven S (pBe S mu am) i 2)) 0 = _
  rw [e0, e1, e2, show (0 : Int32) = nI 0 from rfl, nI_add, nI_add, nI_add, Nat.zero_add]
  exact sMaxs _ _ (by omega) (by omega)
/-- a sum of numbers -/
def nSum (f : Nat → Nat) : Nat → Nat
  | 0 => 0
  | n + 1 => nSum f n + f n
theorem nSum_le {f g : Nat → Nat} : ∀ n, (∀ i, i < n → f i ≤ g i) → nSum f n ≤ nSum g n
  | 0, _ => Nat.le_refl _
  | n + 1, h => Nat.add_le_add (nSum_le n fun i hi => h i (by omega)) (h n (by omega))
theorem nSum_b {f : Nat → Nat} {B : Nat} : ∀ n, (∀ i, i < n → f i ≤ B) → nSum f n ≤ n * B
  | 0, _ => by rw [Nat.zero_mul]; exact Nat.le_refl _
  | n + 1, h => by
    rw [Nat.succ_mul]
    exact Nat.add_le_add (nSum_b n fun i hi => h i (by omega)) (h n (by omega))
theorem rSum_n {f : Nat → Int32} {g : Nat → Nat} : ∀ n, (∀ i, i < n → f i = nI (g i)) → rSum f n = nI (nSum g n)
  | 0, _ => rfl
  | n + 1, h => by
    show rSum f n + f n = nI (nSum g n + g n)
    rw [rSum_n n fun i hi => h i (by omega), h n (by omega), nI_add]
