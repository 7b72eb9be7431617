-- YEARS, BOUNDS, CHARGES; WHAT IS KEPT IN ALL
def vn (x : Int32) : Nat := x.toInt.toNat
theorem vn_n {n : Nat} (h : n < 2147483648) : vn (nI n) = n := by
  unfold vn
  rw [nI_toInt h]
  exact Int.toNat_natCast n
theorem vn_e {x : Int32} {n : Nat} (h : n < 2147483648) (e : x = nI n) : vn x = n := by rw [e, vn_n h]
theorem vn_b {x : Int32} {B : Nat} (hB : B < 2147483648) (h : ∃ n, n ≤ B ∧ x = nI n) : x = nI (vn x) ∧ vn x ≤ B := by
  obtain ⟨n, hn, e⟩ := h
  rw [vn_e (show n < 2147483648 by omega) e]
  exact ⟨e, hn⟩
/-- a claim's amounts -/
theorem CI.am {S : hSy} {now i : Nat} (h : CI (sC S i) now) : ∃ p r, p ≤ 1000000 ∧ r ≤ 120000 ∧ clI (sC S i) 1 = nI p ∧ clI (sC S i) 2 = nI r ∧ qAm S true i = nI p ∧ qAm S false i = nI (p + r) ∧ qClaim S i 4 = nI (p + r) ∧ (clOpen (sC S i) = 0 → r = 0) := by
  obtain ⟨li, p, r, o, N0, N1, h0, h0b, h1, h1b, h2, h2b, h3, h3b, h4, -, -⟩ := h
  refine ⟨p, r, h1b, h2b, h1, h2, h1, ?_, ?_, fun z => ?_⟩
  · show clI (sC S i) 1 + clI (sC S i) 2 = _
    rw [h1, h2, nI_add]
  · show clI (sC S i) 1 + clI (sC S i) 2 = _
    rw [h1, h2, nI_add]
  · unfold clOpen at z
    rw [h3] at z
    by_cases ho : o = 0
    · exact h4 ho
    · rw [if_neg (show ¬ nI o = 0 from fun q => ho ((nI_eq (b := 0) (by omega) (by omega)).mp q))] at z
      exact absurd z (by decide)
def GC (S : hSy) (now : Nat) : Prop := GS S ∧ now < 10 ∧ ∀ i, i < sM S → CI (sC S i) now ∧ clY (sC S i) ≤ now
theorem am_in {S : hSy} {now i : Nat} (h : GC S now) (hi : i < sM S) (pd : Bool) : qAm S pd i = nI (vn (qAm S pd i)) ∧ vn (qAm S pd i) ≤ 1120000 := by
  obtain ⟨p, r, hp, hr, -, -, e1, e2, -⟩ := (h.2.2 i hi).1.am
  cases pd with
  | true => exact vn_b (by decide) ⟨p, by omega, e1⟩
  | false => exact vn_b (by decide) ⟨p + r, by omega, e2⟩
theorem lefts_in {S : hSy} {now : Nat} (h : GC S now) (pd : Bool) (mu : Int32) : ∀ i, i < sM S → rLeft S (qAm S pd) (pBe S mu (qAm S pd)) i = nI (vn (rLeft S (qAm S pd) (pBe S mu (qAm S pd)) i)) ∧ vn (rLeft S (qAm S pd) (pBe S mu (qAm S pd)) i) ≤ vn (qAm S pd i) := fun i hi => by
  obtain ⟨e, he⟩ := am_in h hi pd
  obtain ⟨g0, g1, g2, -, -, -, -, el⟩ := left_in h.1 (mu := mu) hi e he
  have := vn_b (x := rLeft S (qAm S pd) (pBe S mu (qAm S pd)) i) (B := vn (qAm S pd i)) (by omega) ⟨_, Nat.sub_le _ _, el⟩
  exact this
/-- the sums of what is left -/
def lfN (S : hSy) (mu : Int32) (i : Nat) : Nat := vn (rLeft S (qAm S false) (pBe S mu (qAm S false)) i)
theorem qLefts_n {S : hSy} {now : Nat} (h : GC S now) (mu : Int32) : qLefts S false mu = nI (nSum (lfN S mu) (sM S)) ∧ nSum (lfN S mu) (sM S) ≤ nSum (fun i => vn (qAm S false i)) (sM S) ∧ nSum (fun i => vn (qAm S false i)) (sM S) ≤ 44800000 := by
  refine ⟨rSum_n _ fun i hi => (lefts_in h false mu i hi).1, nSum_le _ fun i hi => (lefts_in h false mu i hi).2, ?_⟩
  have h1 := nSum_b (B := 1120000) (sM S) (f := fun i => vn (qAm S false i)) fun i hi => (am_in h hi false).2
  have := h.1.2.2.1
  have : sM S * 1120000 ≤ 40 * 1120000 := Nat.mul_le_mul_right _ this
  omega
theorem qKe_in {S : hSy} {now : Nat} (h : GC S now) : ∀ n, n ≤ 3 → ((qKe S n).1 = qLefts S false (-1) ∧ (qKe S n).2 = -1) ∨ ∃ k, k < n ∧ (qKe S n).2 = nI k ∧ (qKe S n).1 = qLefts S false (nI k) ∧ nSum (lfN S (-1)) (sM S) < nSum (lfN S (nI k)) (sM S)
  | 0, _ => Or.inl ⟨rfl, rfl⟩
  | n + 1, hn => by
    have q := fun mu => qLefts_n h mu
    have hlt : ∀ a b, qLefts S false a < qLefts S false b → nSum (lfN S a) (sM S) < nSum (lfN S b) (sM S) := fun a b z => by
      rw [(q a).1, (q b).1] at z
      have := q a
      have := q b
      exact (nI_ltI (by omega) (by omega)).mp z
    unfold qKe
    by_cases c : (qKe S n).1 < qLefts S false (nI n)
    · rw [if_pos c]
      refine Or.inr ⟨n, Nat.lt_succ_self n, rfl, rfl, ?_⟩
      rcases qKe_in h n (by omega) with ⟨e1, -⟩ | ⟨k, -, -, e1, e2⟩
      · rw [e1] at c; exact hlt _ _ c
      · rw [e1] at c; exact Nat.lt_trans e2 (hlt _ _ c)
    · rw [if_neg c]
      rcases qKe_in h n (by omega) with z | ⟨k, hk, z⟩
      · exact Or.inl z
      · exact Or.inr ⟨k, by omega, z⟩
/-- a layer's year -/
theorem used_in {S : hSy} {now k y : Nat} (h : GC S now) (hk : k < 3) (hy : y < 10) : ∃ u, u ≤ 40000000 ∧ qUsed S k y 0 = nI u ∧ ((lyYear (sL S k) y 3 = -1 ∧ qUsed S k y 1 = -1) ∨ ∃ B, B < 2147483648 ∧ lyYear (sL S k) y 3 = nI B ∧ u ≤ B ∧ qUsed S k y 1 = nI (B - u)) := by
  have h40 := h.1.2.2.1
  obtain ⟨x, hx, ex⟩ := pYl_in h.1 (mu := -1) (am := qAm S false) (sM S) (Nat.le_refl _) k hk y
  have hx4 : x ≤ 40000000 := Nat.le_trans hx (Nat.mul_le_mul_right 1000000 h40)
  have hyo := h.1.yo hk hy
  have e0 : qUsed S k y 0 = nI (boN (sL S k) y x) := by
    show lyBorne (sL S k) y (pYl S (-1) (qAm S false) (sM S) k y) = _
    rw [ex, bo_eq hyo (by omega)]
  have hb := bo_le (sL S k) y x
  refine ⟨boN (sL S k) y x, by omega, e0, ?_⟩
  have e1 : qUsed S k y 1 = lyRoom (sL S k) y (qUsed S k y 0) := rfl
  rw [e1, e0]
  unfold lyRoom
  by_cases hB : lyB (sL S k) y = -1
  · left
    refine ⟨?_, if_pos hB⟩
    show (sMinL (lyB (sL S k) y) 2147483647).toInt32 = -1
    rw [hB]
    decide
  · right
    obtain ⟨b1, b2⟩ := hyo.2.resolve_left hB
    obtain ⟨B, hB1, eB⟩ := pk_lOf (x := lyB (sL S k) y) (fun z => by
      rw [Int64.lt_iff_toInt_lt] at z
      have h0 : (0 : Int64).toInt = 0 := by decide
      omega)
    have hB2 : B ≤ 2147483647 := by rw [eB, pk_lT hB1] at b2; omega
    have hu : boN (sL S k) y x ≤ B := by
      unfold boN
      rw [if_neg hB, eB, pk_lT hB1, Int.toNat_natCast]
      omega
    refine ⟨B, by omega, ?_, hu, ?_⟩
    · show (sMinL (lyB (sL S k) y) 2147483647).toInt32 = _
      rw [eB, show (2147483647 : Int64) = lN 2147483647 from rfl, sMinL_n _ _ hB1 (by decide), lN_i, Nat.min_eq_left hB2]
    · rw [if_neg hB, eB, nI_l (by omega), lN_sub hu, show (2147483647 : Int64) = lN 2147483647 from rfl, sMinL_n _ _ (by omega) (by decide), lN_i, Nat.min_eq_left (by omega)]
theorem clamp_in (z : Int64) (v : Nat) (hv : v < 2147483648) : ∃ u, u ≤ v ∧ sMaxL (sMinL z (lN v)) 0 = lN u := by
  unfold sMinL sMaxL
  by_cases h : lN v < z
  · rw [if_pos h]
    by_cases h0 : 0 < lN v
    · exact ⟨v, Nat.le_refl v, if_pos h0⟩
    · exact ⟨0, Nat.zero_le v, if_neg h0⟩
  · rw [if_neg h]
    by_cases h0 : 0 < z
    · obtain ⟨u, hu, e⟩ := pk_lOf (x := z) (fun q => Int64.lt_irrefl (Int64.lt_trans h0 q))
      rw [e] at h ⊢
      rw [e] at h0
      exact ⟨u, Nat.not_lt.mp (fun q => h ((pk_lLT (by omega) hu).mpr q)), if_pos h0⟩
    · exact ⟨0, Nat.zero_le v, if_neg h0⟩
theorem parts_in {L : hLy} {y n : Nat} {b : Int32} (hL1 : 0 ≤ (lyN L 1 y).toInt ∧ (lyN L 1 y).toInt ≤ 1000000) (hr : ∀ k, k < n → 0 ≤ (lyN L 0 k).toInt ∧ (lyN L 0 k).toInt ≤ 300) (hn : n ≤ 4) : ∀ k, k ≤ n → ∃ v, v ≤ k * 3000000 ∧ lyParts L y b k = lN v
  | 0, _ => ⟨0, Nat.zero_le _, rfl⟩
  | k + 1, hk => by
    obtain ⟨v, hv, e⟩ := parts_in hL1 hr hn k (by omega)
    obtain ⟨lam, hl, el⟩ := i_ofB (B := 1000000) hL1.1 (by omega)
    obtain ⟨rho, hrh, er⟩ := i_ofB (B := 300) (hr k (by omega)).1 (by have := (hr k (by omega)).2; omega)
    unfold lyParts lyPart
    rw [e, el, er, nI_l (n := lam) (by omega), nI_l (n := rho) (by omega)]
    obtain ⟨u, hu, eu⟩ := clamp_in (b.toInt64 - (nI k).toInt64 * lN lam) lam (by omega)
    have hm : u * rho ≤ 1000000 * 300 := Nat.mul_le_mul (by omega) hrh
    rw [eu, lN_mul, show (100 : Int64) = lN 100 from rfl, pk_lDiv (by omega) (by decide) (by decide), lN_add]
    refine ⟨_, ?_, rfl⟩
    rw [Nat.succ_mul]
    omega
theorem charge_in {S : hSy} {now k y : Nat} (h : GC S now) (hk : k < 3) (hy : y < 10) : ∃ v, v ≤ 12000000 ∧ qUsed S k y 2 = nI v := by
  obtain ⟨⟨s1, s2⟩, -, hyr, n, hn4, en, hr⟩ := h.1.2.1 k hk
  obtain ⟨s, hs, es⟩ := i_ofB (B := 100) (x := lyI (sL S k) 0) (by omega) (by omega)
  obtain ⟨v, hv, ev⟩ := parts_in (L := sL S k) (y := y) (n := n) (b := rBorne S (qYl S false) k y) (hyr y hy).1 hr hn4 n (Nat.le_refl n)
  show ∃ v, v ≤ 12000000 ∧ lyCharge (sL S k) y (rBorne S (qYl S false) k y) (rNum (lyI (sL S k) 2)) = nI v
  unfold lyCharge
  have e1 : rNum (lyI (sL S k) 2) = n := by
    unfold rNum
    rw [en]
    exact nI_clamp (by omega)
  have hv2 : v ≤ 12000000 := Nat.le_trans hv (by omega)
  have hm : v * s ≤ 12000000 * 100 := Nat.mul_le_mul hv2 hs
  rw [e1, ev, es, nI_l (by omega), lN_mul, show (100 : Int64) = lN 100 from rfl, pk_lDiv (by omega) (by decide) (by decide), lN_i]
  exact ⟨_, by omega, rfl⟩
/-- what was known of a claim -/
theorem known_now {S : hSy} {now i : Nat} (pd : Bool) : clKnown (sC S i) (now - clY (sC S i)) now pd = qAm S pd i := by
  unfold clKnown
  rw [if_pos (Nat.le_refl _)]
  cases pd <;> rfl
theorem known_in {C : hCl} {now a : Nat} (h : CI C now) (pd : Bool) : ∃ n, n ≤ 1120000 ∧ clKnown C a now pd = nI n := by
  obtain ⟨li, p, r, o, N0, N1, h0, h0b, h1, h1b, h2, h2b, h3, h3b, h4, h5, h6⟩ := h
  unfold clKnown
  by_cases c : now - clY C ≤ a
  · rw [if_pos c]
    cases pd with
    | true => exact ⟨p, by omega, h1⟩
    | false => exact ⟨p + r, by omega, by rw [← nI_add, ← h1, ← h2]; rfl⟩
  · rw [if_neg c]
    obtain ⟨a1, a2, a3, a4, a5⟩ := h5 a (by omega)
    cases pd with
    | true => exact ⟨N0 a, by omega, a1⟩
    | false => exact ⟨N1 a, by omega, a2⟩
theorem known_up {C : hCl} {now a : Nat} (h : CI C now) (ha : a + 1 ≤ now - clY C) : ∃ m n, m ≤ n ∧ n ≤ 1000000 ∧ clKnown C a now true = nI m ∧ clKnown C (a + 1) now true = nI n := by
  obtain ⟨li, p, r, o, N0, N1, h0, h0b, h1, h1b, h2, h2b, h3, h3b, h4, h5, h6⟩ := h
  obtain ⟨a1, a2, a3, a4, a5⟩ := h5 a (by omega)
  unfold clKnown
  rw [if_neg (by omega)]
  by_cases c : now - clY C ≤ a + 1
  · rw [if_pos c]
    exact ⟨N0 a, p, a5, h1b, a1, h1⟩
  · rw [if_neg c]
    obtain ⟨b1, b2, b3, b4, b5⟩ := h5 (a + 1) (by omega)
    exact ⟨N0 a, N0 (a + 1), h6 a (by omega), by omega, a1, b1⟩
