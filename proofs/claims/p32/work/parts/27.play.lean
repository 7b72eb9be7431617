-- THE HOUSE THROUGH THE YEARS: claims come and change
def hZc (u : Nat) : Prop := u = 0 ∨ u = 15 ∨ u = 16 ∨ (1000 ≤ u ∧ u < 2000)
theorem LsO.fr {Z : Nat → Prop} {M M' : hM} {a t e n : Nat} (h : hFr Z M M') (hz : ¬ Z t) (hO : LsO M a t e n) : LsO M' a t e n := by
  obtain ⟨mc, ho⟩ := hO
  exact ⟨mc, h _ _ _ ho hz⟩
theorem LsE.fr {G : hG} {Z : Nat → Prop} {M M' : hM} {e t n : Nat} {g : Nat → Nat} (h : hFr Z M M') (hz : ¬ Z t) (hE : LsE G M e t n g) : LsE G M' e t n g := by
  obtain ⟨cap, f, h1, h2, h3, h4⟩ := hE
  exact ⟨cap, f, h1, h2, h3, h _ _ _ h4 hz⟩
theorem FoV.fr {G : hG} {Z : Nat → Prop} {M M' : hM} {a t : Nat} {F : hFo} (h : hFr Z M M') (hz : ∀ j, j < 10 → ¬ Z (t + j)) (hF : FoV G M a t F) : FoV G M' a t F := by
  obtain ⟨h1, ⟨f, h2, h3⟩, h4, s0, h5⟩ := hF
  exact ⟨h _ _ _ h1 (hz 0 (by omega)), ⟨f, h2, h _ _ _ h3 (hz 1 (by omega))⟩, h _ _ _ h4 (hz 2 (by omega)), s0, h _ _ _ h5 (hz 9 (by omega))⟩
theorem LyV.fr {G : hG} {Z : Nat → Prop} {M M' : hM} {a t : Nat} {L : hLy} (h : hFr Z M M') (hz : ∀ j, j < 10 → ¬ Z (t + j)) (hL : LyV G M a t L) : LyV G M' a t L :=
  ⟨h _ _ _ hL.1 (hz 0 (by omega)), h _ _ _ hL.2.1 (hz 1 (by omega)), h _ _ _ hL.2.2.1 (hz 2 (by omega)), h _ _ _ hL.2.2.2.1 (hz 3 (by omega)), h _ _ _ hL.2.2.2.2.1 (hz 4 (by omega)), h _ _ _ hL.2.2.2.2.2 (hz 5 (by omega))⟩
theorem LaV.fr {G : hG} {Z : Nat → Prop} {M M' : hM} {a t : Nat} {L : hLy} {F : Nat → hFo} (h : hFr Z M M') (hz : ∀ j, j < 100 → ¬ Z (t + j)) (hL : LaV G M a t L F) : LaV G M' a t L F :=
  ⟨hL.1.fr h (fun j hj => hz j (by omega)), hL.2.1.fr h (fun j hj => by rw [Nat.add_assoc]; exact hz _ (by omega)), hL.2.2.1.fr h (fun j hj => by rw [Nat.add_assoc]; exact hz _ (by omega)), fun q hq => (hL.2.2.2 q hq).fr h (fun j hj => by rw [Nat.add_assoc]; exact hz _ (by omega))⟩
theorem ClV.fr {G : hG} {Z : Nat → Prop} {M M' : hM} {a t : Nat} {C : hCl} (h : hFr Z M M') (hz : ∀ j, j < 3 → ¬ Z (t + j)) (hC : ClV G M a t C) : ClV G M' a t C :=
  ⟨h _ _ _ hC.1 (hz 0 (by omega)), h _ _ _ hC.2.1 (hz 1 (by omega)), h _ _ _ hC.2.2 (hz 2 (by omega))⟩
theorem CeE.fr {G : hG} {Z : Nat → Prop} {M M' : hM} {S S' : hSy} {cx : Nat} (hc : cx < 3) (h : hFr Z M M') (hz : ∀ u, 100 ≤ u → u < 400 → ¬ Z u) (hA : ∀ u, u ≠ 16 → ¬ (1000 ≤ u ∧ u < 2000) → sA S' u = sA S u) (hV : CeE G M S cx) : CeE G M' S' cx := by
  obtain ⟨am, be, yl, lo, ho, ham, ⟨fb, hfb, hbo⟩, hbr, ⟨fy, hfy, hyo⟩, hyr, hlo⟩ := hV
  refine ⟨am, be, yl, lo, ?_, ?_, ⟨fb, fun i hi => ?_, ?_⟩, fun i hi => ?_, ⟨fy, fun k hk => ?_, ?_⟩, fun k hk => ?_, ?_⟩
  · rw [hA (100 * (cx + 1)) (by omega) (by omega), hA (100 * (cx + 1) + 1) (by omega) (by omega), hA (100 * (cx + 1) + 2) (by omega) (by omega), hA (100 * (cx + 1) + 3) (by omega) (by omega), hA (100 * (cx + 1) + 4) (by omega) (by omega), hA (13) (by omega) (by omega), hA (15) (by omega) (by omega)]; exact h _ _ _ ho (hz _ (by omega) (by omega))
  · rw [hA (100 * (cx + 1) + 1) (by omega) (by omega)]; exact h _ _ _ ham (hz _ (by omega) (by omega))
  · rw [hA (100 * (cx + 1) + 10 + i) (by omega) (by omega)]; exact hfb i hi
  · rw [hA (100 * (cx + 1) + 2) (by omega) (by omega)]; exact h _ _ _ hbo (hz _ (by omega) (by omega))
  · rw [hA (100 * (cx + 1) + 10 + i) (by omega) (by omega)]; exact h _ _ _ (hbr i hi) (hz _ (by omega) (by omega))
  · rw [hA (100 * (cx + 1) + 60 + k) (by omega) (by omega)]; exact hfy k hk
  · rw [hA (100 * (cx + 1) + 3) (by omega) (by omega)]; exact h _ _ _ hyo (hz _ (by omega) (by omega))
  · rw [hA (100 * (cx + 1) + 60 + k) (by omega) (by omega)]; exact h _ _ _ (hyr k hk) (hz _ (by omega) (by omega))
  · rw [hA (100 * (cx + 1) + 4) (by omega) (by omega)]; exact h _ _ _ hlo (hz _ (by omega) (by omega))
theorem TrE.fr {G : hG} {Z : Nat → Prop} {M M' : hM} {S S' : hSy} {j : Nat} (hj : j < 4) (h : hFr Z M M') (hz : ∀ u, 400 ≤ u → u < 480 → ¬ Z u) (hA : ∀ u, u ≠ 16 → ¬ (1000 ≤ u ∧ u < 2000) → sA S' u = sA S u) (hV : TrE G M S j) : TrE G M' S' j := by
  obtain ⟨ce, nv, h1, ⟨f, h2, h3⟩, h4⟩ := hV
  refine ⟨ce, nv, ?_, ⟨f, fun i hi => ?_, ?_⟩, fun i hi => ?_⟩
  · rw [hA (400 + 20 * j) (by omega) (by omega), hA (400 + 20 * j + 1) (by omega) (by omega)]; exact h _ _ _ h1 (hz _ (by omega) (by omega))
  · rw [hA (400 + 20 * j + 2 + i) (by omega) (by omega)]; exact h2 i hi
  · rw [hA (400 + 20 * j + 1) (by omega) (by omega)]; exact h _ _ _ h3 (hz _ (by omega) (by omega))
  · rw [hA (400 + 20 * j + 2 + i) (by omega) (by omega)]; exact h _ _ _ (h4 i hi) (hz _ (by omega) (by omega))
theorem QV.next {G : hG} {M M' : hM} {S : hSy} {h : hHo} {m' now' : Nat} {C' : Nat → hCl} {A' : Nat → Nat} (hV : QV G M S h) (hf : hFr hZc M M') (hA : ∀ u, u ≠ 16 → ¬ (1000 ≤ u ∧ u < 2000) → A' u = sA S u) (hL : LsO M' (sA S 15) 15 (A' 16) m') (hE : 0 < m' → LsE G M' (A' 16) 16 m' (fun i => A' (1000 + 10 * i)))
    (hC : ∀ i, i < m' → ClV G M' (A' (1000 + 10 * i)) (1000 + 10 * i) (C' i)) (hm : m' ≤ 40) (hy : ∀ i, i < m' → clY (C' i) ≤ now') (hn : now' < 10) (ho : M' (sA S 0) = some (0, .inr (12, hoO S (now', h.2)))) : QV G M' (sN S, sL S, sF S, m', C', A') (now', h.2) := by
  obtain ⟨⟨hl13, he14, -, -, hLa, -⟩, ⟨hN8, hM40, hLG, hCY⟩, ⟨h0, h1, h2, h3, f, h4, h5⟩, hCe, hTr, hnow, hyn⟩ := hV
  have hA : ∀ u, u ≠ 16 → ¬ (1000 ≤ u ∧ u < 2000) → sA (sN S, sL S, sF S, m', C', A') u = sA S u := hA
  have nz : ∀ u, u ≠ 0 → u ≠ 15 → u ≠ 16 → ¬ (1000 ≤ u ∧ u < 2000) → ¬ hZc u := fun u q1 q2 q3 q4 z => by unfold hZc at z; omega
  refine ⟨⟨?_, fun q => ?_, ?_, hE, fun k hk => ?_, hC⟩, ⟨hN8, hm, hLG, fun i hi => Nat.lt_of_le_of_lt (hy i hi) hn⟩, ⟨?_, ?_, ?_, ?_, f, fun j hj => ?_, ?_⟩, fun cx hc => (hCe cx hc).fr hc hf (fun u q1 q2 => nz u (by omega) (by omega) (by omega) (by omega)) hA, fun j hj => (hTr j hj).fr hj hf (fun u q1 q2 => nz u (by omega) (by omega) (by omega) (by omega)) hA, hn, hy⟩
  · rw [hA (13) (by omega) (by omega), hA (14) (by omega) (by omega)]; exact hl13.fr hf (nz 13 (by omega) (by omega) (by omega) (by omega))
  · rw [hA (14) (by omega) (by omega), show (fun k => sA (sN S, sL S, sF S, m', C', A') (2000 + 100 * k)) = (fun k => sA S (2000 + 100 * k)) from funext fun k => hA _ (by omega) (by omega)]
    exact (he14 q).fr hf (nz 14 (by omega) (by omega) (by omega) (by omega))
  · rw [hA (15) (by omega) (by omega)]; exact hL
  · rw [hA (2000 + 100 * k) (by omega) (by omega)]; exact (hLa k hk).fr hf (fun j hj => nz _ (by omega) (by omega) (by omega) (by omega))
  · unfold hoO
    rw [hA (0) (by omega) (by omega), hA (1) (by omega) (by omega), hA (3) (by omega) (by omega), hA (8) (by omega) (by omega), hA (11) (by omega) (by omega), hA (13) (by omega) (by omega), hA (15) (by omega) (by omega), hA (100) (by omega) (by omega), hA (200) (by omega) (by omega), hA (300) (by omega) (by omega), hA (19) (by omega) (by omega), hA (17) (by omega) (by omega), hA (18) (by omega) (by omega)]
    exact ho
  · rw [hA (1) (by omega) (by omega), hA (2) (by omega) (by omega)]; exact hf _ _ _ h1 (nz 1 (by omega) (by omega) (by omega) (by omega))
  · rw [hA (17) (by omega) (by omega)]; exact hf _ _ _ h2 (nz 17 (by omega) (by omega) (by omega) (by omega))
  · rw [hA (18) (by omega) (by omega)]; exact hf _ _ _ h3 (nz 18 (by omega) (by omega) (by omega) (by omega))
  · rw [hA (400 + 20 * j) (by omega) (by omega)]; exact h4 j hj
  · rw [hA (19) (by omega) (by omega)]; exact hf _ _ _ h5 (nz 19 (by omega) (by omega) (by omega) (by omega))
/-- the claims' row, to be written -/
def tE (G : hG) (M : hM) (te n e0 : Nat) (g : Nat → Nat) : Prop := (n = 0 ∧ e0 = hDE G) ∨ ∃ (cap : Nat) (f : Nat → Option Nat), M e0 = some (te, .inl (hT G 6, cap, .inr (.inr (.inr (.inr f))))) ∧ n ≤ cap ∧ 10 ≤ cap ∧ cap ≤ 1000 ∧ ∀ i, i < n → f i = some (g i)
theorem tE.fr {G : hG} {Z : Nat → Prop} {M M' : hM} {te n e0 : Nat} {g : Nat → Nat} (h : hFr Z M M') (hz : ¬ Z te) (hE : tE G M te n e0 g) : tE G M' te n e0 g := hE.imp id (fun ⟨cap, f, h1, h2⟩ => ⟨cap, f, h _ _ _ h1 hz, h2⟩)
theorem tE.sim {G : hG} {Z : Nat → Prop} {M M' : hM} {te n e0 : Nat} {g : Nat → Nat} (h : hSim G Z M M') (hE : tE G M te n e0 g) : tE G M' te n e0 g := hE.imp id (fun ⟨cap, f, h1, h2⟩ => ⟨cap, f, h.oth h1, h2⟩)
/-- ready for questions, and for more claims -/
def PV (G : hG) (M : hM) (S : hSy) (h : hHo) : Prop := QV G M S h ∧ tE G M 16 (sM S) (sA S 16) (fun i => sA S (1000 + 10 * i))
theorem PV.sim {G : hG} {M M' : hM} {S : hSy} {h : hHo} (hq : hSim G hScr M M') (hV : PV G M S h) : PV G M' S h := ⟨hV.1.sim hq, hV.2.sim hq⟩
def sUp (S : hSy) (i : Nat) (Cn : hCl) : hSy := (sN S, sL S, sF S, sM S, va_up (sC S) i Cn, sA S)
def sAdd (S : hSy) (Cn : hCl) (A' : Nat → Nat) : hSy := (sN S, sL S, sF S, sM S + 1, va_up (sC S) (sM S) Cn, A')
/-- a claim changes -/
theorem PV.up {G : hG} {M M' : hM} {S : hSy} {h : hHo} {i : Nat} {Cn : hCl} (hV : PV G M S h) (hi : i < sM S) (hf : hFr (fun u => 1000 + 10 * i ≤ u ∧ u < 1010 + 10 * i) M M') (hC : ClV G M' (sA S (1000 + 10 * i)) (1000 + 10 * i) Cn) (hy : clY Cn = clY (sC S i)) : PV G M' (sUp S i Cn) h := by
  obtain ⟨hQ, hE⟩ := hV
  have hQ0 := hQ
  obtain ⟨⟨-, -, hl15, he16, -, hCl⟩, ⟨-, hM40, -, -⟩, ⟨h0, -⟩, -, -, hnow, hyn⟩ := hQ0
  refine ⟨?_, hE.fr hf (by omega)⟩
  have := QV.next (m' := sM S) (now' := hNow h) (C' := va_up (sC S) i Cn) (A' := sA S) hQ (hf.mono (fun u z => Or.inr (Or.inr (Or.inr (by omega))))) (fun _ _ _ => rfl) (hl15.fr hf (by omega)) (fun q => (he16 q).fr hf (by omega)) (fun j hj => ?_) hM40 (fun j hj => ?_) hnow (hf _ _ _ h0 (by omega))
  · exact this
  · by_cases e : j = i
    · subst e; rw [va_up_self]; exact hC
    · rw [va_up_ne _ _ e]; exact (hCl j hj).fr hf (fun k hk => by omega)
  · by_cases e : j = i
    · subst e; rw [va_up_self, hy]; exact hyn j hj
    · rw [va_up_ne _ _ e]; exact hyn j hj
/-- a year ends -/
theorem PV.year {G : hG} {M M' : hM} {S : hSy} {h : hHo} (hV : PV G M S h) (hn : hNow h < 9) (hf : hFr (fun u => u = 0) M M') (ho : M' (sA S 0) = some (0, .inr (12, hoO S (hNow h + 1, h.2)))) : PV G M' S (hNow h + 1, h.2) := by
  obtain ⟨hQ, hE⟩ := hV
  have hQ0 := hQ
  obtain ⟨⟨-, -, hl15, he16, -, hCl⟩, ⟨-, hM40, -, -⟩, -, -, -, hnow, hyn⟩ := hQ0
  refine ⟨?_, hE.fr hf (by omega)⟩
  exact QV.next (m' := sM S) (now' := hNow h + 1) (C' := sC S) (A' := sA S) hQ (hf.mono (fun u z => Or.inl z)) (fun _ _ _ => rfl) (hl15.fr hf (by omega)) (fun q => (he16 q).fr hf (by omega)) (fun j hj => (hCl j hj).fr hf (fun k hk => by omega)) hM40 (fun j hj => Nat.le_succ_of_le (hyn j hj)) (by omega) ho

