-- TRIANGLES: THEIR NUMBERS, THEIR LAST DIAGONALS
theorem at_in {S : hSy} {now : Nat} (h : GC S now) (a : Nat) (pd : Bool) {i : Nat} (hi : i < sM S) : qAt S now a pd i = nI (vn (qAt S now a pd i)) ∧ vn (qAt S now a pd i) ≤ 1120000 := by
  refine vn_b (by decide) ?_
  unfold qAt
  by_cases c : a ≤ now - clY (sC S i)
  · rw [if_pos c]; exact known_in (h.2.2 i hi).1 pd
  · rw [if_neg c]; exact ⟨0, by omega, rfl⟩
theorem val_in {S : hSy} {now : Nat} (h : GC S now) (k a : Nat) {i : Nat} (hi : i < sM S) : qVal S now k a i = nI (vn (qVal S now k a i)) ∧ vn (qVal S now k a i) ≤ 1120000 ∧ (2 ≤ k → vn (qVal S now k a i) ≤ vn (qVal S now (k - 2) a i)) := by
  obtain ⟨e, he⟩ := at_in h a (kpd k) hi
  unfold qVal
  by_cases hk : 2 ≤ k
  · obtain ⟨g0, g1, g2, -, -, -, -, el⟩ := left_in h.1 (mu := -1) (am := qAt S now a (kpd k)) hi e he
    have h1 := vn_b (B := vn (qAt S now a (kpd k) i)) (by omega) ⟨_, Nat.sub_le _ _, el⟩
    rw [if_pos hk]
    refine ⟨h1.1, Nat.le_trans h1.2 he, fun _ => ?_⟩
    by_cases hk2 : 2 ≤ k - 2
    · rw [if_pos hk2, show kpd (k - 2) = kpd k by unfold kpd; rw [show (k - 2) % 2 = k % 2 by omega]]
      exact Nat.le_refl _
    · rw [if_neg hk2, show kpd (k - 2) = kpd k by unfold kpd; rw [show (k - 2) % 2 = k % 2 by omega]]
      exact h1.2
  · rw [if_neg hk]
    exact ⟨e, he, fun z => absurd z hk⟩
/-- a triangle's cell as a number -/
def cellN (S : hSy) (now k y a : Nat) : Nat → Nat
  | 0 => 0
  | i + 1 => if clY (sC S i) = y ∧ a ≤ now - y then cellN S now k y a i + vn (qVal S now k a i) else cellN S now k y a i
theorem cell_in {S : hSy} {now : Nat} (h : GC S now) (k y a : Nat) : ∀ n, n ≤ sM S → qCell S now k y a n = nI (cellN S now k y a n) ∧ cellN S now k y a n ≤ n * 1120000 ∧ (2 ≤ k → cellN S now k y a n ≤ cellN S now (k - 2) y a n)
  | 0, _ => ⟨rfl, Nat.zero_le _, fun _ => Nat.le_refl _⟩
  | n + 1, hn => by
    obtain ⟨e, b, c⟩ := cell_in h k y a n (by omega)
    obtain ⟨e2, b2, c2⟩ := val_in h k a (show n < sM S by omega)
    unfold qCell cellN
    rw [Nat.succ_mul]
    by_cases q : clY (sC S n) = y ∧ a ≤ now - y
    · rw [if_pos q, if_pos q, if_pos q, e, e2, nI_add, vn_n (by omega)]
      exact ⟨rfl, by omega, fun z => Nat.add_le_add (c z) (by have := c2 z; omega)⟩
    · rw [if_neg q, if_neg q, if_neg q]
      exact ⟨e, Nat.le_trans b (Nat.le_add_right _ _), c⟩
theorem tri_in {S : hSy} {now : Nat} (h : GC S now) (k y a : Nat) : qTri S now k y a = nI (cellN S now k y a (sM S)) ∧ cellN S now k y a (sM S) ≤ 44800000 ∧ (2 ≤ k → cellN S now k y a (sM S) ≤ cellN S now (k - 2) y a (sM S)) := by
  obtain ⟨e, b, c⟩ := cell_in h k y a (sM S) (Nat.le_refl _)
  have h40 : sM S * 1120000 ≤ 40 * 1120000 := Nat.mul_le_mul_right _ h.1.2.2.1
  exact ⟨e, by omega, c⟩
/-- what belongs to a claim's year alone -/
theorem pYl_loc {S : hSy} {mu : Int32} {am am' : Nat → Int32} {y : Nat} : ∀ i, (∀ j, j < i → clY (sC S j) = y → am j = am' j) → ∀ k, pYl S mu am i k y = pYl S mu am' i k y
  | 0, _, _ => rfl
  | i + 1, h, k => by
    have ih := pYl_loc (mu := mu) i (fun j hj => h j (by omega))
    unfold pYl
    by_cases hy : y = clY (sC S i)
    · rw [if_pos hy, if_pos hy, h i (by omega) hy.symm, ih k]
      subst hy
      rw [show (fun k => pYl S mu am i k (clY (sC S i))) = (fun k => pYl S mu am' i k (clY (sC S i))) from funext ih]
    · rw [if_neg hy, if_neg hy, ih k]
theorem pBe_loc {S : hSy} {mu : Int32} {am am' : Nat → Int32} {i : Nat} (h : ∀ j, j ≤ i → clY (sC S j) = clY (sC S i) → am j = am' j) : pBe S mu am i = pBe S mu am' i := by
  unfold pBe
  rw [h i (Nat.le_refl i) rfl, show (fun k => pYl S mu am i k (clY (sC S i))) = (fun k => pYl S mu am' i k (clY (sC S i))) from funext (pYl_loc i (fun j hj => h j (by omega)))]
theorem rLeft_loc {S : hSy} {mu : Int32} {am am' : Nat → Int32} {i : Nat} (h : ∀ j, j ≤ i → clY (sC S j) = clY (sC S i) → am j = am' j) : rLeft S am (pBe S mu am) i = rLeft S am' (pBe S mu am') i := by
  have e := pBe_loc (mu := mu) h
  have e2 : ∀ n, rSum (rGiven S (pBe S mu am) i) n = rSum (rGiven S (pBe S mu am') i) n := fun n => by
    rw [show rGiven S (pBe S mu am) i = rGiven S (pBe S mu am') i from funext fun k => by unfold rGiven; rw [e]]
  unfold rLeft rAll
  rw [h i (Nat.le_refl i) rfl, e2]
theorem at_last {S : hSy} {now j : Nat} (pd : Bool) : qAt S now (now - clY (sC S j)) pd j = qAm S pd j := by
  unfold qAt
  rw [if_pos (Nat.le_refl _), known_now]
/-- the sum that the law makes of its claims' answers -/
def lwS (S : hSy) (y what : Nat) : Nat → Int32
  | 0 => 0
  | i + 1 => lwS S y what i + (if nI (clY (sC S i)) = nI y then qClaim S i what else 0)
def lwW (k : Nat) : Nat := match k with
  | 0 => 2
  | 1 => 4
  | 2 => 6
  | _ => 7
theorem val_last {S : hSy} {now k i : Nat} (hk : k < 4) : qVal S now k (now - clY (sC S i)) i = qClaim S i (lwW k) := by
  have e : ∀ pd, rLeft S (qAt S now (now - clY (sC S i)) pd) (pBe S (-1) (qAt S now (now - clY (sC S i)) pd)) i = qLeft S pd i := fun pd => rLeft_loc fun j _ hj => by rw [← hj]; exact at_last pd
  match k, hk with
  | 0, _ => exact at_last true
  | 1, _ => exact at_last false
  | 2, _ => exact e true
  | 3, _ => exact e false
  | k + 4, hk => exact absurd hk (by omega)
theorem tri_last {S : hSy} {now k y : Nat} (hk : k < 4) (hy : y < 2147483648) (hc : ∀ i, i < sM S → clY (sC S i) < 10) : qTri S now k y (now - y) = lwS S y (lwW k) (sM S) := by
  have K : ∀ n, n ≤ sM S → qCell S now k y (now - y) n = lwS S y (lwW k) n := by
    intro n
    induction n with
    | zero => intro _; rfl
    | succ n ih =>
      intro hn
      have hc := hc n (by omega)
      show (if clY (sC S n) = y ∧ now - y ≤ now - y then qCell S now k y (now - y) n + qVal S now k (now - y) n else qCell S now k y (now - y) n) = lwS S y (lwW k) n + (if nI (clY (sC S n)) = nI y then qClaim S n (lwW k) else 0)
      rw [ih (by omega)]
      by_cases q : clY (sC S n) = y
      · rw [if_pos ⟨q, Nat.le_refl _⟩, if_pos (by rw [q])]
        subst q
        rw [val_last hk]
      · rw [if_neg (fun z => q z.1), if_neg (fun z => q ((nI_eq (by omega) hy).mp z))]
        exact (Int32.add_zero _).symm
  exact K _ (Nat.le_refl _)
theorem rSumL_n {f : Nat → Int32} {g : Nat → Nat} : ∀ n, (∀ i, i < n → f i = nI (g i) ∧ g i ≤ 44800000) → rSumL f n = lN (nSum g n) ∧ nSum g n ≤ n * 44800000
  | 0, _ => ⟨rfl, Nat.zero_le _⟩
  | n + 1, h => by
    obtain ⟨e, b⟩ := rSumL_n n fun i hi => h i (by omega)
    obtain ⟨e2, b2⟩ := h n (by omega)
    show rSumL f n + (f n).toInt64 = lN (nSum g n + g n) ∧ nSum g n + g n ≤ (n + 1) * 44800000
    rw [e, e2, nI_l (by omega), lN_add, Nat.succ_mul]
    exact ⟨rfl, by omega⟩
theorem fac_in {S : hSy} {now : Nat} (h : GC S now) (k age : Nat) : ∃ v, v ≤ 1000000 ∧ trFac (qTri S now k) now age = nI v := by
  have hn := h.2.1
  obtain ⟨e1, b1⟩ := rSumL_n (f := fun y => qTri S now k y age) (g := fun y => cellN S now k y age (sM S)) (now - age) fun i _ => ⟨(tri_in h k i age).1, (tri_in h k i age).2.1⟩
  obtain ⟨e2, b2⟩ := rSumL_n (f := fun y => qTri S now k y (age + 1)) (g := fun y => cellN S now k y (age + 1) (sM S)) (now - age) fun i _ => ⟨(tri_in h k i (age + 1)).1, (tri_in h k i (age + 1)).2.1⟩
  have hb : (now - age) * 44800000 ≤ 10 * 44800000 := Nat.mul_le_mul_right _ (by omega)
  unfold trFac
  by_cases c : rSumL (fun y => qTri S now k y age) (now - age) = 0
  · rw [if_pos c]; exact ⟨1000, by omega, rfl⟩
  · rw [if_neg c, e1, e2]
    rw [e1] at c
    have hp : 0 < nSum (fun y => cellN S now k y age (sM S)) (now - age) := by
      rcases Nat.eq_zero_or_pos (nSum (fun y => cellN S now k y age (sM S)) (now - age)) with z | z
      · exact absurd (by rw [z]; rfl) c
      · exact z
    rw [show (1000 : Int64) = lN 1000 from rfl, lN_mul, pk_lDiv (by omega) hp (by omega), show (1000000 : Int64) = lN 1000000 from rfl, sMinL_n _ _ (Nat.lt_of_le_of_lt (Nat.div_le_self _ _) (by omega)) (by decide), lN_i]
    exact ⟨_, Nat.min_le_right _ _, rfl⟩
theorem trG_in {S : hSy} {now : Nat} (h : GC S now) (k a0 : Nat) {z : Nat} (hz : z ≤ 2000000000) : ∀ j, ∃ v, v ≤ 2000000000 ∧ trG (qTri S now k) now a0 (lN z) j = lN v
  | 0 => ⟨z, hz, rfl⟩
  | j + 1 => by
    obtain ⟨v, hv, e⟩ := trG_in h k a0 hz j
    obtain ⟨f, hf, ef⟩ := fac_in h k (a0 + j)
    have hm : v * f ≤ 2000000000 * 1000000 := Nat.mul_le_mul hv hf
    show ∃ v, v ≤ 2000000000 ∧ sMinL (trG (qTri S now k) now a0 (lN z) j * (trFac (qTri S now k) now (a0 + j)).toInt64 / 1000) 2000000000 = lN v
    rw [e, ef, nI_l (by omega), lN_mul, show (1000 : Int64) = lN 1000 from rfl, pk_lDiv (by omega) (by decide) (by decide), show (2000000000 : Int64) = lN 2000000000 from rfl, sMinL_n _ _ (by omega) (by decide)]
    exact ⟨_, Nat.min_le_right _ _, rfl⟩
theorem grown_in {S : hSy} {now : Nat} (h : GC S now) (k y : Nat) {z : Nat} (hz : z ≤ 2000000000) : ∃ v, v ≤ 2000000000 ∧ trGrown (qTri S now k) now (lN z) y 1000 = nI v := by
  obtain ⟨v, hv, e⟩ := trG_in h k (now - y) hz (9 - (now - y))
  unfold trGrown
  rw [e, show (1000 : Int32).toInt64 = lN 1000 from by decide, lN_mul, show (1000 : Int64) = lN 1000 from rfl, pk_lDiv (by omega) (by decide) (by decide), show (2000000000 : Int64) = lN 2000000000 from rfl, sMinL_n _ _ (by omega) (by decide), lN_i]
  exact ⟨_, Nat.min_le_right _ _, rfl⟩
theorem ult_in {S : hSy} {h0 : hHo} (h : GC S (hNow h0)) (ht : hTail h0 = 1000) (k y : Nat) : (∃ v, v ≤ 2000000000 ∧ qUlt S h0 k y = nI v) ∧ ∃ v, v ≤ 2000000000 ∧ qGro S h0 k y = nI v := by
  obtain ⟨e, b, -⟩ := tri_in h k y (hNow h0 - y)
  constructor
  · unfold qUlt
    rw [e, nI_l (by omega), ht]
    exact grown_in h k y (by omega)
  · unfold qGro
    rw [ht, show (1000 : Int64) = lN 1000 from rfl]
    exact grown_in h k y (by omega)
theorem res_in {S : hSy} {h0 : hHo} {y : Nat} (hp : hPr h0 y = 0) : qRes S h0 2 y = 0 := by
  show (if qGro S h0 0 y = 0 then 0 else (sMaxL ((hPr h0 y).toInt64 * (hEx h0 y).toInt64 / 100 * (1000 - 1000000 / qGro S h0 0 y).toInt64 / 1000) 0).toInt32) = 0
  by_cases c : qGro S h0 0 y = 0
  · exact if_pos c
  · rw [if_neg c, hp, show (0 : Int32).toInt64 = 0 from by decide, Int64.zero_mul, show (0 : Int64) / 100 = 0 from by decide, Int64.zero_mul, show (0 : Int64) / 1000 = 0 from by decide]
    decide
