-- THE TAPE
section TAPEROWS
variable {G : hG} {p : Program} {l : Launch} {e : Env} {R : Room} {s : State} {m : MethodId} {args : Array Value} {below : List Frame} {meth : Method} {c : Code} {H : Heap} {locs : List Loc} {cells slots : Nat} {Q : State → Prop}
variable {cc : ByteArray} {maxL : Nat} {ret : Option FieldType} {own nm : String} {M : hM} {pc : Nat} {ls : Array Slot} {rest : List Value} {a t ci index n : Nat} {cA : ClassId}
theorem h_bast (X : hCX G p s m args meth c cc maxL ret own nm) (Y : hHS G M s H locs) {f : Nat → Int32} {i : Nat} {x : Int32} (he : M a = some (t, .inl (hT G 1, n, .inl f))) (hi : i < n) (hn : n < 2 ^ 31) (hdg : decode cc pc = .ok (.bastore, 1))
    (kk : ∀ (H1 : Heap) (locs1 : List Loc), hHS G (hup M a (t, .inl (hT G 1, n, .inl (upd f i (vp_nar .byte x))))) s H1 locs1 → W p l e R s m args below meth c H1 locs1 cells slots Q (F0 m (pc + 1) ls rest)) : W p l e R s m args below meth c H locs cells slots Q (F0 m pc ls (.int x :: .int (nI i) :: .ref a :: rest)) := by
  obtain ⟨ws, hP, hDw, hw⟩ := Y.1.list
  obtain ⟨k1, hk1⟩ := hw a t _ he
  refine va_bast (D := hD G) (cl := vwCl) X.1 X.2.1 X.2.2.2.2.2.2.2.1 hP hDw Y.2 k1 1 hk1 rfl (vp_in_nI hi hn) hdg fun H1 locs1 hP1 hD1 hS1 => ?_
  rw [nI_clamp (Nat.lt_trans hi hn)] at hP1
  exact kk H1 locs1 ⟨Y.1.wset hw he hk1 hP1, hS1⟩
end TAPEROWS
theorem tp_sh {v s : Nat} (hv : v < 2147483648) (hs : s = 0 ∨ s = 8 ∨ s = 16 ∨ s = 24) : nI v >>> ((nI s) &&& 31) = nI (v / 2 ^ s) := by
  have hd : v / 2 ^ s < 2147483648 := Nat.lt_of_le_of_lt (Nat.div_le_self _ _) hv
  apply Int32.toInt_inj.mp
  show (BitVec.sshiftRight' (nI v).toBitVec ((nI s &&& 31).toBitVec.smod 32)).toInt = _
  rw [BitVec.toInt_sshiftRight', show (nI v).toBitVec.toInt = (nI v).toInt from rfl, nI_toInt hv, nI_toInt hd]
  have e : ((nI s &&& 31).toBitVec.smod 32).toNat = s := by rcases hs with rfl | rfl | rfl | rfl <;> decide
  rw [e, Int.shiftRight_eq_div_pow]
  norm_cast
theorem tp_b0 {v : Nat} (hv : v < 2147483648) (h : v % 256 < 128) : (nI v).toInt8.toInt32 = nI (v % 256) := by
  apply Int32.toInt_inj.mp
  rw [Int8.toInt_toInt32, Int32.toInt_toInt8, nI_toInt hv, nI_toInt (by omega), Int.bmod]
  rw [if_pos (by omega)]
  omega
theorem tp_b {v : Nat} (hv : v < 2147483648) (h : v % 256 < 128) : vp_nar .byte ((nI v).toInt8.toInt32) = nI (v % 256) := by
  rw [vp_nar_byte, tp_b0 hv h, tp_b0 (by omega) (by omega), Nat.mod_mod]

