-- STRINGS THAT LAY THERE
/-- a Latin-1 String of L letters -/
def sS (G : hG) (q L : Nat) (W : Nat → Nat) : Prop := va_O "java/lang/String" q (hA G) (hU G) (hU G).heap ∧ va_OF "java/lang/String" "coder" "B" (.int 0) q (hA G) (hU G) (hU G).heap ∧ (∃ va : Nat, va_OF "java/lang/String" "value" "[B" (.ref va) q (hA G) (hU G) (hU G).heap ∧ va_T .byte va L (fun i => .int (nI (W i))) (hA G) (hU G) (hU G).heap) ∧ ∀ i, i < L → W i < 128
theorem sS_of {G : hG} {tm : Term} {L : Nat} {W : Nat → Nat} (hex : (Cond.exactly tm "java/lang/String").before (hAr G) (hU G) = true) (hco : (Cond.eq (.field tm "java/lang/String" "coder" "B") (.int 0)).before (hAr G) (hU G) = true) (har : (Cond.arrayOf (.field tm "java/lang/String" "value" "[B") .byte).before (hAr G) (hU G) = true) (hL : L < 2 ^ 31) (hle : (Cond.eq (.length (.field tm "java/lang/String" "value" "[B")) (.int (Int32.ofNat L))).before (hAr G) (hU G) = true)
    (hel : ∀ j, j < L → (Cond.eq (.elem (.field tm "java/lang/String" "value" "[B") (.int (Int32.ofNat j))) (.int (nI (W j)))).before (hAr G) (hU G) = true) (hW : ∀ i, i < L → W i < 128) : hev G tm = some (.ref (had G tm)) ∧ sS G (had G tm) L W := by
  obtain ⟨h1, h2⟩ := hO_of hex
  obtain ⟨t, h3, h4⟩ := va_Tof (ty := .byte) (tm := .field tm "java/lang/String" "value" "[B") (f := fun i => .int (nI (W i))) (A := hA G) (N := L) hL har (va_eqt hle) (fun j hj => va_eqt (hel j hj)) hlow
  exact ⟨h1, h2, hOF_of h1 hco rfl, ⟨t, vk_OFof h1 h3 hlow, h4⟩, hW⟩
/-- the letters of the constants' texts -/
def sgTx : List (List Nat) := [[108, 97, 121, 101, 114], [120, 115], [115, 104, 97, 114, 101], [121, 101, 97, 114, 108, 121], [97, 102, 116, 101, 114], [114, 101, 105, 110, 115, 116, 97, 116, 101], [97, 116], [110, 101, 116], [111, 102], [119, 104, 101, 110], [97, 110, 100], [111, 114], [110, 111, 116], [109, 105, 110], [109, 97, 120], [108, 105, 110, 101], [121, 101, 97, 114], [97, 109, 111, 117, 110, 116], [40], [41], [91], [93], [59], [44], [43], [45], [42], [47], [60], [62], [61], [60, 61], [62, 61], [], [], [], [], []]
def sgC (k j : Nat) : Nat := (sgTx.getD k []).getD j 0
def sgL (k : Nat) : Nat := (sgTx.getD k []).length
def sgN : List Nat := [146, 152, 155, 158, 161, 164, 167, 170, 173, 176, 179, 182, 185, 188, 191, 194, 197, 200, 203, 206, 209, 212, 215, 218, 221, 224, 227, 230, 233, 236, 239, 242, 245, 248, 248, 248, 248, 248]
/-- where the text of a constant lies -/
def hTx (G : hG) (k : Nat) : Nat := had G (.string "LossHouse$Sign" (sgN.getD k 0))
set_option maxRecDepth 100000 in
theorem hTx_0 {G : hG} (hs : hSt G) : va_OF "LossHouse$Sign" "text" "Ljava/lang/String;" (.ref (hTx G 0)) (hSg G 0) (hA G) (hU G) (hU G).heap ∧ sS G (hTx G 0) (sgL 0) (sgC 0) := by
  have h := sS_of (G := G) (tm := (.string "LossHouse$Sign" 146)) (L := 5) (W := sgC 0) (hN hs 1446 (by decide +kernel)) (hN hs 1447 (by decide +kernel)) (hN hs 1448 (by decide +kernel)) (by decide) (hN hs 1449 (by decide +kernel)) (hNs hs [1450, 1451, 1452, 1453, 1454] (fun j => Cond.eq (.elem (.field (.string "LossHouse$Sign" 146) "java/lang/String" "value" "[B") (.int (Int32.ofNat j))) (.int (nI (sgC 0 j)))) 5 (by decide +kernel)) (by decide +kernel)
  exact ⟨hOF_of (hO_of (hsg_ex hs 0 (by decide))).1 (hN hs 121 (by decide +kernel)) h.1, h.2⟩
set_option maxRecDepth 100000 in
theorem hTx_1 {G : hG} (hs : hSt G) : va_OF "LossHouse$Sign" "text" "Ljava/lang/String;" (.ref (hTx G 1)) (hSg G 1) (hA G) (hU G) (hU G).heap ∧ sS G (hTx G 1) (sgL 1) (sgC 1) := by
  have h := sS_of (G := G) (tm := (.string "LossHouse$Sign" 152)) (L := 2) (W := sgC 1) (hN hs 1530 (by decide +kernel)) (hN hs 1531 (by decide +kernel)) (hN hs 1532 (by decide +kernel)) (by decide) (hN hs 1533 (by decide +kernel)) (hNs hs [1534, 1535] (fun j => Cond.eq (.elem (.field (.string "LossHouse$Sign" 152) "java/lang/String" "value" "[B") (.int (Int32.ofNat j))) (.int (nI (sgC 1 j)))) 2 (by decide +kernel)) (by decide +kernel)
  exact ⟨hOF_of (hO_of (hsg_ex hs 1 (by decide))).1 (hN hs 177 (by decide +kernel)) h.1, h.2⟩
set_option maxRecDepth 100000 in
theorem hTx_2 {G : hG} (hs : hSt G) : va_OF "LossHouse$Sign" "text" "Ljava/lang/String;" (.ref (hTx G 2)) (hSg G 2) (hA G) (hU G) (hU G).heap ∧ sS G (hTx G 2) (sgL 2) (sgC 2) := by
  have h := sS_of (G := G) (tm := (.string "LossHouse$Sign" 155)) (L := 5) (W := sgC 2) (hN hs 1536 (by decide +kernel)) (hN hs 1537 (by decide +kernel)) (hN hs 1538 (by decide +kernel)) (by decide) (hN hs 1539 (by decide +kernel)) (hNs hs [1540, 1541, 1542, 1543, 1544] (fun j => Cond.eq (.elem (.field (.string "LossHouse$Sign" 155) "java/lang/String" "value" "[B") (.int (Int32.ofNat j))) (.int (nI (sgC 2 j)))) 5 (by decide +kernel)) (by decide +kernel)
  exact ⟨hOF_of (hO_of (hsg_ex hs 2 (by decide))).1 (hN hs 181 (by decide +kernel)) h.1, h.2⟩
set_option maxRecDepth 100000 in
theorem hTx_3 {G : hG} (hs : hSt G) : va_OF "LossHouse$Sign" "text" "Ljava/lang/String;" (.ref (hTx G 3)) (hSg G 3) (hA G) (hU G) (hU G).heap ∧ sS G (hTx G 3) (sgL 3) (sgC 3) := by
  have h := sS_of (G := G) (tm := (.string "LossHouse$Sign" 158)) (L := 6) (W := sgC 3) (hN hs 1545 (by decide +kernel)) (hN hs 1546 (by decide +kernel)) (hN hs 1547 (by decide +kernel)) (by decide) (hN hs 1548 (by decide +kernel)) (hNs hs [1549, 1550, 1551, 1552, 1553, 1554] (fun j => Cond.eq (.elem (.field (.string "LossHouse$Sign" 158) "java/lang/String" "value" "[B") (.int (Int32.ofNat j))) (.int (nI (sgC 3 j)))) 6 (by decide +kernel)) (by decide +kernel)
  exact ⟨hOF_of (hO_of (hsg_ex hs 3 (by decide))).1 (hN hs 185 (by decide +kernel)) h.1, h.2⟩
set_option maxRecDepth 100000 in
theorem hTx_4 {G : hG} (hs : hSt G) : va_OF "LossHouse$Sign" "text" "Ljava/lang/String;" (.ref (hTx G 4)) (hSg G 4) (hA G) (hU G) (hU G).heap ∧ sS G (hTx G 4) (sgL 4) (sgC 4) := by
  have h := sS_of (G := G) (tm := (.string "LossHouse$Sign" 161)) (L := 5) (W := sgC 4) (hN hs 1555 (by decide +kernel)) (hN hs 1556 (by decide +kernel)) (hN hs 1557 (by decide +kernel)) (by decide) (hN hs 1558 (by decide +kernel)) (hNs hs [1559, 1560, 1561, 1562, 1563] (fun j => Cond.eq (.elem (.field (.string "LossHouse$Sign" 161) "java/lang/String" "value" "[B") (.int (Int32.ofNat j))) (.int (nI (sgC 4 j)))) 5 (by decide +kernel)) (by decide +kernel)
  exact ⟨hOF_of (hO_of (hsg_ex hs 4 (by decide))).1 (hN hs 189 (by decide +kernel)) h.1, h.2⟩
set_option maxRecDepth 100000 in
theorem hTx_5 {G : hG} (hs : hSt G) : va_OF "LossHouse$Sign" "text" "Ljava/lang/String;" (.ref (hTx G 5)) (hSg G 5) (hA G) (hU G) (hU G).heap ∧ sS G (hTx G 5) (sgL 5) (sgC 5) := by
  have h := sS_of (G := G) (tm := (.string "LossHouse$Sign" 164)) (L := 9) (W := sgC 5) (hN hs 1564 (by decide +kernel)) (hN hs 1565 (by decide +kernel)) (hN hs 1566 (by decide +kernel)) (by decide) (hN hs 1567 (by decide +kernel)) (hNs hs [1568, 1569, 1570, 1571, 1572, 1573, 1574, 1575, 1576] (fun j => Cond.eq (.elem (.field (.string "LossHouse$Sign" 164) "java/lang/String" "value" "[B") (.int (Int32.ofNat j))) (.int (nI (sgC 5 j)))) 9 (by decide +kernel)) (by decide +kernel)
  exact ⟨hOF_of (hO_of (hsg_ex hs 5 (by decide))).1 (hN hs 193 (by decide +kernel)) h.1, h.2⟩
set_option maxRecDepth 100000 in
theorem hTx_6 {G : hG} (hs : hSt G) : va_OF "LossHouse$Sign" "text" "Ljava/lang/String;" (.ref (hTx G 6)) (hSg G 6) (hA G) (hU G) (hU G).heap ∧ sS G (hTx G 6) (sgL 6) (sgC 6) := by
  have h := sS_of (G := G) (tm := (.string "LossHouse$Sign" 167)) (L := 2) (W := sgC 6) (hN hs 1577 (by decide +kernel)) (hN hs 1578 (by decide +kernel)) (hN hs 1579 (by decide +kernel)) (by decide) (hN hs 1580 (by decide +kernel)) (hNs hs [1581, 1582] (fun j => Cond.eq (.elem (.field (.string "LossHouse$Sign" 167) "java/lang/String" "value" "[B") (.int (Int32.ofNat j))) (.int (nI (sgC 6 j)))) 2 (by decide +kernel)) (by decide +kernel)
  exact ⟨hOF_of (hO_of (hsg_ex hs 6 (by decide))).1 (hN hs 197 (by decide +kernel)) h.1, h.2⟩
set_option maxRecDepth 100000 in
theorem hTx_7 {G : hG} (hs : hSt G) : va_OF "LossHouse$Sign" "text" "Ljava/lang/String;" (.ref (hTx G 7)) (hSg G 7) (hA G) (hU G) (hU G).heap ∧ sS G (hTx G 7) (sgL 7) (sgC 7) := by
  have h := sS_of (G := G) (tm := (.string "LossHouse$Sign" 170)) (L := 3) (W := sgC 7) (hN hs 1583 (by decide +kernel)) (hN hs 1584 (by decide +kernel)) (hN hs 1585 (by decide +kernel)) (by decide) (hN hs 1586 (by decide +kernel)) (hNs hs [1587, 1588, 1589] (fun j => Cond.eq (.elem (.field (.string "LossHouse$Sign" 170) "java/lang/String" "value" "[B") (.int (Int32.ofNat j))) (.int (nI (sgC 7 j)))) 3 (by decide +kernel)) (by decide +kernel)
  exact ⟨hOF_of (hO_of (hsg_ex hs 7 (by decide))).1 (hN hs 201 (by decide +kernel)) h.1, h.2⟩
set_option maxRecDepth 100000 in
theorem hTx_8 {G : hG} (hs : hSt G) : va_OF "LossHouse$Sign" "text" "Ljava/lang/String;" (.ref (hTx G 8)) (hSg G 8) (hA G) (hU G) (hU G).heap ∧ sS G (hTx G 8) (sgL 8) (sgC 8) := by
  have h := sS_of (G := G) (tm := (.string "LossHouse$Sign" 173)) (L := 2) (W := sgC 8) (hN hs 1590 (by decide +kernel)) (hN hs 1591 (by decide +kernel)) (hN hs 1592 (by decide +kernel)) (by decide) (hN hs 1593 (by decide +kernel)) (hNs hs [1594, 1595] (fun j => Cond.eq (.elem (.field (.string "LossHouse$Sign" 173) "java/lang/String" "value" "[B") (.int (Int32.ofNat j))) (.int (nI (sgC 8 j)))) 2 (by decide +kernel)) (by decide +kernel)
  exact ⟨hOF_of (hO_of (hsg_ex hs 8 (by decide))).1 (hN hs 205 (by decide +kernel)) h.1, h.2⟩
set_option maxRecDepth 100000 in
theorem hTx_9 {G : hG} (hs : hSt G) : va_OF "LossHouse$Sign" "text" "Ljava/lang/String;" (.ref (hTx G 9)) (hSg G 9) (hA G) (hU G) (hU G).heap ∧ sS G (hTx G 9) (sgL 9) (sgC 9) := by
  have h := sS_of (G := G) (tm := (.string "LossHouse$Sign" 176)) (L := 4) (W := sgC 9) (hN hs 1596 (by decide +kernel)) (hN hs 1597 (by decide +kernel)) (hN hs 1598 (by decide +kernel)) (by decide) (hN hs 1599 (by decide +kernel)) (hNs hs [1600, 1601, 1602, 1603] (fun j => Cond.eq (.elem (.field (.string "LossHouse$Sign" 176) "java/lang/String" "value" "[B") (.int (Int32.ofNat j))) (.int (nI (sgC 9 j)))) 4 (by decide +kernel)) (by decide +kernel)
  exact ⟨hOF_of (hO_of (hsg_ex hs 9 (by decide))).1 (hN hs 209 (by decide +kernel)) h.1, h.2⟩
set_option maxRecDepth 100000 in
theorem hTx_10 {G : hG} (hs : hSt G) : va_OF "LossHouse$Sign" "text" "Ljava/lang/String;" (.ref (hTx G 10)) (hSg G 10) (hA G) (hU G) (hU G).heap ∧ sS G (hTx G 10) (sgL 10) (sgC 10) := by
  have h := sS_of (G := G) (tm := (.string "LossHouse$Sign" 179)) (L := 3) (W := sgC 10) (hN hs 1641 (by decide +kernel)) (hN hs 1642 (by decide +kernel)) (hN hs 1643 (by decide +kernel)) (by decide) (hN hs 1644 (by decide +kernel)) (hNs hs [1645, 1646, 1647] (fun j => Cond.eq (.elem (.field (.string "LossHouse$Sign" 179) "java/lang/String" "value" "[B") (.int (Int32.ofNat j))) (.int (nI (sgC 10 j)))) 3 (by decide +kernel)) (by decide +kernel)
  exact ⟨hOF_of (hO_of (hsg_ex hs 10 (by decide))).1 (hN hs 241 (by decide +kernel)) h.1, h.2⟩
set_option maxRecDepth 100000 in
theorem hTx_11 {G : hG} (hs : hSt G) : va_OF "LossHouse$Sign" "text" "Ljava/lang/String;" (.ref (hTx G 11)) (hSg G 11) (hA G) (hU G) (hU G).heap ∧ sS G (hTx G 11) (sgL 11) (sgC 11) := by
  have h := sS_of (G := G) (tm := (.string "LossHouse$Sign" 182)) (L := 2) (W := sgC 11) (hN hs 1648 (by decide +kernel)) (hN hs 1649 (by decide +kernel)) (hN hs 1650 (by decide +kernel)) (by decide) (hN hs 1651 (by decide +kernel)) (hNs hs [1652, 1653] (fun j => Cond.eq (.elem (.field (.string "LossHouse$Sign" 182) "java/lang/String" "value" "[B") (.int (Int32.ofNat j))) (.int (nI (sgC 11 j)))) 2 (by decide +kernel)) (by decide +kernel)
  exact ⟨hOF_of (hO_of (hsg_ex hs 11 (by decide))).1 (hN hs 245 (by decide +kernel)) h.1, h.2⟩
set_option maxRecDepth 100000 in
theorem hTx_12 {G : hG} (hs : hSt G) : va_OF "LossHouse$Sign" "text" "Ljava/lang/String;" (.ref (hTx G 12)) (hSg G 12) (hA G) (hU G) (hU G).heap ∧ sS G (hTx G 12) (sgL 12) (sgC 12) := by
  have h := sS_of (G := G) (tm := (.string "LossHouse$Sign" 185)) (L := 3) (W := sgC 12) (hN hs 1439 (by decide +kernel)) (hN hs 1440 (by decide +kernel)) (hN hs 1441 (by decide +kernel)) (by decide) (hN hs 1442 (by decide +kernel)) (hNs hs [1443, 1444, 1445] (fun j => Cond.eq (.elem (.field (.string "LossHouse$Sign" 185) "java/lang/String" "value" "[B") (.int (Int32.ofNat j))) (.int (nI (sgC 12 j)))) 3 (by decide +kernel)) (by decide +kernel)
  exact ⟨hOF_of (hO_of (hsg_ex hs 12 (by decide))).1 (hN hs 57 (by decide +kernel)) h.1, h.2⟩
set_option maxRecDepth 100000 in
theorem hTx_13 {G : hG} (hs : hSt G) : va_OF "LossHouse$Sign" "text" "Ljava/lang/String;" (.ref (hTx G 13)) (hSg G 13) (hA G) (hU G) (hU G).heap ∧ sS G (hTx G 13) (sgL 13) (sgC 13) := by
  have h := sS_of (G := G) (tm := (.string "LossHouse$Sign" 188)) (L := 3) (W := sgC 13) (hN hs 1496 (by decide +kernel)) (hN hs 1497 (by decide +kernel)) (hN hs 1498 (by decide +kernel)) (by decide) (hN hs 1499 (by decide +kernel)) (hNs hs [1500, 1501, 1502] (fun j => Cond.eq (.elem (.field (.string "LossHouse$Sign" 188) "java/lang/String" "value" "[B") (.int (Int32.ofNat j))) (.int (nI (sgC 13 j)))) 3 (by decide +kernel)) (by decide +kernel)
  exact ⟨hOF_of (hO_of (hsg_ex hs 13 (by decide))).1 (hN hs 153 (by decide +kernel)) h.1, h.2⟩
set_option maxRecDepth 100000 in
theorem hTx_14 {G : hG} (hs : hSt G) : va_OF "LossHouse$Sign" "text" "Ljava/lang/String;" (.ref (hTx G 14)) (hSg G 14) (hA G) (hU G) (hU G).heap ∧ sS G (hTx G 14) (sgL 14) (sgC 14) := by
  have h := sS_of (G := G) (tm := (.string "LossHouse$Sign" 191)) (L := 3) (W := sgC 14) (hN hs 1503 (by decide +kernel)) (hN hs 1504 (by decide +kernel)) (hN hs 1505 (by decide +kernel)) (by decide) (hN hs 1506 (by decide +kernel)) (hNs hs [1507, 1508, 1509] (fun j => Cond.eq (.elem (.field (.string "LossHouse$Sign" 191) "java/lang/String" "value" "[B") (.int (Int32.ofNat j))) (.int (nI (sgC 14 j)))) 3 (by decide +kernel)) (by decide +kernel)
  exact ⟨hOF_of (hO_of (hsg_ex hs 14 (by decide))).1 (hN hs 157 (by decide +kernel)) h.1, h.2⟩
set_option maxRecDepth 100000 in
theorem hTx_15 {G : hG} (hs : hSt G) : va_OF "LossHouse$Sign" "text" "Ljava/lang/String;" (.ref (hTx G 15)) (hSg G 15) (hA G) (hU G) (hU G).heap ∧ sS G (hTx G 15) (sgL 15) (sgC 15) := by
  have h := sS_of (G := G) (tm := (.string "LossHouse$Sign" 194)) (L := 4) (W := sgC 15) (hN hs 1455 (by decide +kernel)) (hN hs 1456 (by decide +kernel)) (hN hs 1457 (by decide +kernel)) (by decide) (hN hs 1458 (by decide +kernel)) (hNs hs [1459, 1460, 1461, 1462] (fun j => Cond.eq (.elem (.field (.string "LossHouse$Sign" 194) "java/lang/String" "value" "[B") (.int (Int32.ofNat j))) (.int (nI (sgC 15 j)))) 4 (by decide +kernel)) (by decide +kernel)
  exact ⟨hOF_of (hO_of (hsg_ex hs 15 (by decide))).1 (hN hs 125 (by decide +kernel)) h.1, h.2⟩
set_option maxRecDepth 100000 in
theorem hTx_16 {G : hG} (hs : hSt G) : va_OF "LossHouse$Sign" "text" "Ljava/lang/String;" (.ref (hTx G 16)) (hSg G 16) (hA G) (hU G) (hU G).heap ∧ sS G (hTx G 16) (sgL 16) (sgC 16) := by
  have h := sS_of (G := G) (tm := (.string "LossHouse$Sign" 197)) (L := 4) (W := sgC 16) (hN hs 1463 (by decide +kernel)) (hN hs 1464 (by decide +kernel)) (hN hs 1465 (by decide +kernel)) (by decide) (hN hs 1466 (by decide +kernel)) (hNs hs [1467, 1468, 1469, 1470] (fun j => Cond.eq (.elem (.field (.string "LossHouse$Sign" 197) "java/lang/String" "value" "[B") (.int (Int32.ofNat j))) (.int (nI (sgC 16 j)))) 4 (by decide +kernel)) (by decide +kernel)
  exact ⟨hOF_of (hO_of (hsg_ex hs 16 (by decide))).1 (hN hs 129 (by decide +kernel)) h.1, h.2⟩
set_option maxRecDepth 100000 in
theorem hTx_17 {G : hG} (hs : hSt G) : va_OF "LossHouse$Sign" "text" "Ljava/lang/String;" (.ref (hTx G 17)) (hSg G 17) (hA G) (hU G) (hU G).heap ∧ sS G (hTx G 17) (sgL 17) (sgC 17) := by
  have h := sS_of (G := G) (tm := (.string "LossHouse$Sign" 200)) (L := 6) (W := sgC 17) (hN hs 1471 (by decide +kernel)) (hN hs 1472 (by decide +kernel)) (hN hs 1473 (by decide +kernel)) (by decide) (hN hs 1474 (by decide +kernel)) (hNs hs [1475, 1476, 1477, 1478, 1479, 1480] (fun j => Cond.eq (.elem (.field (.string "LossHouse$Sign" 200) "java/lang/String" "value" "[B") (.int (Int32.ofNat j))) (.int (nI (sgC 17 j)))) 6 (by decide +kernel)) (by decide +kernel)
  exact ⟨hOF_of (hO_of (hsg_ex hs 17 (by decide))).1 (hN hs 133 (by decide +kernel)) h.1, h.2⟩
set_option maxRecDepth 100000 in
theorem hTx_18 {G : hG} (hs : hSt G) : va_OF "LossHouse$Sign" "text" "Ljava/lang/String;" (.ref (hTx G 18)) (hSg G 18) (hA G) (hU G) (hU G).heap ∧ sS G (hTx G 18) (sgL 18) (sgC 18) := by
  have h := sS_of (G := G) (tm := (.string "LossHouse$Sign" 203)) (L := 1) (W := sgC 18) (hN hs 1486 (by decide +kernel)) (hN hs 1487 (by decide +kernel)) (hN hs 1488 (by decide +kernel)) (by decide) (hN hs 1489 (by decide +kernel)) (hNs hs [1490] (fun j => Cond.eq (.elem (.field (.string "LossHouse$Sign" 203) "java/lang/String" "value" "[B") (.int (Int32.ofNat j))) (.int (nI (sgC 18 j)))) 1 (by decide +kernel)) (by decide +kernel)
  exact ⟨hOF_of (hO_of (hsg_ex hs 18 (by decide))).1 (hN hs 145 (by decide +kernel)) h.1, h.2⟩
set_option maxRecDepth 100000 in
theorem hTx_19 {G : hG} (hs : hSt G) : va_OF "LossHouse$Sign" "text" "Ljava/lang/String;" (.ref (hTx G 19)) (hSg G 19) (hA G) (hU G) (hU G).heap ∧ sS G (hTx G 19) (sgL 19) (sgC 19) := by
  have h := sS_of (G := G) (tm := (.string "LossHouse$Sign" 206)) (L := 1) (W := sgC 19) (hN hs 1491 (by decide +kernel)) (hN hs 1492 (by decide +kernel)) (hN hs 1493 (by decide +kernel)) (by decide) (hN hs 1494 (by decide +kernel)) (hNs hs [1495] (fun j => Cond.eq (.elem (.field (.string "LossHouse$Sign" 206) "java/lang/String" "value" "[B") (.int (Int32.ofNat j))) (.int (nI (sgC 19 j)))) 1 (by decide +kernel)) (by decide +kernel)
  exact ⟨hOF_of (hO_of (hsg_ex hs 19 (by decide))).1 (hN hs 149 (by decide +kernel)) h.1, h.2⟩
set_option maxRecDepth 100000 in
theorem hTx_20 {G : hG} (hs : hSt G) : va_OF "LossHouse$Sign" "text" "Ljava/lang/String;" (.ref (hTx G 20)) (hSg G 20) (hA G) (hU G) (hU G).heap ∧ sS G (hTx G 20) (sgL 20) (sgC 20) := by
  have h := sS_of (G := G) (tm := (.string "LossHouse$Sign" 209)) (L := 1) (W := sgC 20) (hN hs 1604 (by decide +kernel)) (hN hs 1605 (by decide +kernel)) (hN hs 1606 (by decide +kernel)) (by decide) (hN hs 1607 (by decide +kernel)) (hNs hs [1608] (fun j => Cond.eq (.elem (.field (.string "LossHouse$Sign" 209) "java/lang/String" "value" "[B") (.int (Int32.ofNat j))) (.int (nI (sgC 20 j)))) 1 (by decide +kernel)) (by decide +kernel)
  exact ⟨hOF_of (hO_of (hsg_ex hs 20 (by decide))).1 (hN hs 213 (by decide +kernel)) h.1, h.2⟩
set_option maxRecDepth 100000 in
theorem hTx_21 {G : hG} (hs : hSt G) : va_OF "LossHouse$Sign" "text" "Ljava/lang/String;" (.ref (hTx G 21)) (hSg G 21) (hA G) (hU G) (hU G).heap ∧ sS G (hTx G 21) (sgL 21) (sgC 21) := by
  have h := sS_of (G := G) (tm := (.string "LossHouse$Sign" 212)) (L := 1) (W := sgC 21) (hN hs 1609 (by decide +kernel)) (hN hs 1610 (by decide +kernel)) (hN hs 1611 (by decide +kernel)) (by decide) (hN hs 1612 (by decide +kernel)) (hNs hs [1613] (fun j => Cond.eq (.elem (.field (.string "LossHouse$Sign" 212) "java/lang/String" "value" "[B") (.int (Int32.ofNat j))) (.int (nI (sgC 21 j)))) 1 (by decide +kernel)) (by decide +kernel)
  exact ⟨hOF_of (hO_of (hsg_ex hs 21 (by decide))).1 (hN hs 217 (by decide +kernel)) h.1, h.2⟩
set_option maxRecDepth 100000 in
theorem hTx_22 {G : hG} (hs : hSt G) : va_OF "LossHouse$Sign" "text" "Ljava/lang/String;" (.ref (hTx G 22)) (hSg G 22) (hA G) (hU G) (hU G).heap ∧ sS G (hTx G 22) (sgL 22) (sgC 22) := by
  have h := sS_of (G := G) (tm := (.string "LossHouse$Sign" 215)) (L := 1) (W := sgC 22) (hN hs 1654 (by decide +kernel)) (hN hs 1655 (by decide +kernel)) (hN hs 1656 (by decide +kernel)) (by decide) (hN hs 1657 (by decide +kernel)) (hNs hs [1658] (fun j => Cond.eq (.elem (.field (.string "LossHouse$Sign" 215) "java/lang/String" "value" "[B") (.int (Int32.ofNat j))) (.int (nI (sgC 22 j)))) 1 (by decide +kernel)) (by decide +kernel)
  exact ⟨hOF_of (hO_of (hsg_ex hs 22 (by decide))).1 (hN hs 249 (by decide +kernel)) h.1, h.2⟩
set_option maxRecDepth 100000 in
theorem hTx_23 {G : hG} (hs : hSt G) : va_OF "LossHouse$Sign" "text" "Ljava/lang/String;" (.ref (hTx G 23)) (hSg G 23) (hA G) (hU G) (hU G).heap ∧ sS G (hTx G 23) (sgL 23) (sgC 23) := by
  have h := sS_of (G := G) (tm := (.string "LossHouse$Sign" 218)) (L := 1) (W := sgC 23) (hN hs 1510 (by decide +kernel)) (hN hs 1511 (by decide +kernel)) (hN hs 1512 (by decide +kernel)) (by decide) (hN hs 1513 (by decide +kernel)) (hNs hs [1514] (fun j => Cond.eq (.elem (.field (.string "LossHouse$Sign" 218) "java/lang/String" "value" "[B") (.int (Int32.ofNat j))) (.int (nI (sgC 23 j)))) 1 (by decide +kernel)) (by decide +kernel)
  exact ⟨hOF_of (hO_of (hsg_ex hs 23 (by decide))).1 (hN hs 161 (by decide +kernel)) h.1, h.2⟩
set_option maxRecDepth 100000 in
theorem hTx_24 {G : hG} (hs : hSt G) : va_OF "LossHouse$Sign" "text" "Ljava/lang/String;" (.ref (hTx G 24)) (hSg G 24) (hA G) (hU G) (hU G).heap ∧ sS G (hTx G 24) (sgL 24) (sgC 24) := by
  have h := sS_of (G := G) (tm := (.string "LossHouse$Sign" 221)) (L := 1) (W := sgC 24) (hN hs 1525 (by decide +kernel)) (hN hs 1526 (by decide +kernel)) (hN hs 1527 (by decide +kernel)) (by decide) (hN hs 1528 (by decide +kernel)) (hNs hs [1529] (fun j => Cond.eq (.elem (.field (.string "LossHouse$Sign" 221) "java/lang/String" "value" "[B") (.int (Int32.ofNat j))) (.int (nI (sgC 24 j)))) 1 (by decide +kernel)) (by decide +kernel)
  exact ⟨hOF_of (hO_of (hsg_ex hs 24 (by decide))).1 (hN hs 173 (by decide +kernel)) h.1, h.2⟩
set_option maxRecDepth 100000 in
theorem hTx_25 {G : hG} (hs : hSt G) : va_OF "LossHouse$Sign" "text" "Ljava/lang/String;" (.ref (hTx G 25)) (hSg G 25) (hA G) (hU G) (hU G).heap ∧ sS G (hTx G 25) (sgL 25) (sgC 25) := by
  have h := sS_of (G := G) (tm := (.string "LossHouse$Sign" 224)) (L := 1) (W := sgC 25) (hN hs 1481 (by decide +kernel)) (hN hs 1482 (by decide +kernel)) (hN hs 1483 (by decide +kernel)) (by decide) (hN hs 1484 (by decide +kernel)) (hNs hs [1485] (fun j => Cond.eq (.elem (.field (.string "LossHouse$Sign" 224) "java/lang/String" "value" "[B") (.int (Int32.ofNat j))) (.int (nI (sgC 25 j)))) 1 (by decide +kernel)) (by decide +kernel)
  exact ⟨hOF_of (hO_of (hsg_ex hs 25 (by decide))).1 (hN hs 137 (by decide +kernel)) h.1, h.2⟩
set_option maxRecDepth 100000 in
theorem hTx_26 {G : hG} (hs : hSt G) : va_OF "LossHouse$Sign" "text" "Ljava/lang/String;" (.ref (hTx G 26)) (hSg G 26) (hA G) (hU G) (hU G).heap ∧ sS G (hTx G 26) (sgL 26) (sgC 26) := by
  have h := sS_of (G := G) (tm := (.string "LossHouse$Sign" 227)) (L := 1) (W := sgC 26) (hN hs 1515 (by decide +kernel)) (hN hs 1516 (by decide +kernel)) (hN hs 1517 (by decide +kernel)) (by decide) (hN hs 1518 (by decide +kernel)) (hNs hs [1519] (fun j => Cond.eq (.elem (.field (.string "LossHouse$Sign" 227) "java/lang/String" "value" "[B") (.int (Int32.ofNat j))) (.int (nI (sgC 26 j)))) 1 (by decide +kernel)) (by decide +kernel)
  exact ⟨hOF_of (hO_of (hsg_ex hs 26 (by decide))).1 (hN hs 165 (by decide +kernel)) h.1, h.2⟩
set_option maxRecDepth 100000 in
theorem hTx_27 {G : hG} (hs : hSt G) : va_OF "LossHouse$Sign" "text" "Ljava/lang/String;" (.ref (hTx G 27)) (hSg G 27) (hA G) (hU G) (hU G).heap ∧ sS G (hTx G 27) (sgL 27) (sgC 27) := by
  have h := sS_of (G := G) (tm := (.string "LossHouse$Sign" 230)) (L := 1) (W := sgC 27) (hN hs 1520 (by decide +kernel)) (hN hs 1521 (by decide +kernel)) (hN hs 1522 (by decide +kernel)) (by decide) (hN hs 1523 (by decide +kernel)) (hNs hs [1524] (fun j => Cond.eq (.elem (.field (.string "LossHouse$Sign" 230) "java/lang/String" "value" "[B") (.int (Int32.ofNat j))) (.int (nI (sgC 27 j)))) 1 (by decide +kernel)) (by decide +kernel)
  exact ⟨hOF_of (hO_of (hsg_ex hs 27 (by decide))).1 (hN hs 169 (by decide +kernel)) h.1, h.2⟩
set_option maxRecDepth 100000 in
theorem hTx_28 {G : hG} (hs : hSt G) : va_OF "LossHouse$Sign" "text" "Ljava/lang/String;" (.ref (hTx G 28)) (hSg G 28) (hA G) (hU G) (hU G).heap ∧ sS G (hTx G 28) (sgL 28) (sgC 28) := by
  have h := sS_of (G := G) (tm := (.string "LossHouse$Sign" 233)) (L := 1) (W := sgC 28) (hN hs 1614 (by decide +kernel)) (hN hs 1615 (by decide +kernel)) (hN hs 1616 (by decide +kernel)) (by decide) (hN hs 1617 (by decide +kernel)) (hNs hs [1618] (fun j => Cond.eq (.elem (.field (.string "LossHouse$Sign" 233) "java/lang/String" "value" "[B") (.int (Int32.ofNat j))) (.int (nI (sgC 28 j)))) 1 (by decide +kernel)) (by decide +kernel)
  exact ⟨hOF_of (hO_of (hsg_ex hs 28 (by decide))).1 (hN hs 221 (by decide +kernel)) h.1, h.2⟩
set_option maxRecDepth 100000 in
theorem hTx_29 {G : hG} (hs : hSt G) : va_OF "LossHouse$Sign" "text" "Ljava/lang/String;" (.ref (hTx G 29)) (hSg G 29) (hA G) (hU G) (hU G).heap ∧ sS G (hTx G 29) (sgL 29) (sgC 29) := by
  have h := sS_of (G := G) (tm := (.string "LossHouse$Sign" 236)) (L := 1) (W := sgC 29) (hN hs 1619 (by decide +kernel)) (hN hs 1620 (by decide +kernel)) (hN hs 1621 (by decide +kernel)) (by decide) (hN hs 1622 (by decide +kernel)) (hNs hs [1623] (fun j => Cond.eq (.elem (.field (.string "LossHouse$Sign" 236) "java/lang/String" "value" "[B") (.int (Int32.ofNat j))) (.int (nI (sgC 29 j)))) 1 (by decide +kernel)) (by decide +kernel)
  exact ⟨hOF_of (hO_of (hsg_ex hs 29 (by decide))).1 (hN hs 225 (by decide +kernel)) h.1, h.2⟩
set_option maxRecDepth 100000 in
theorem hTx_30 {G : hG} (hs : hSt G) : va_OF "LossHouse$Sign" "text" "Ljava/lang/String;" (.ref (hTx G 30)) (hSg G 30) (hA G) (hU G) (hU G).heap ∧ sS G (hTx G 30) (sgL 30) (sgC 30) := by
  have h := sS_of (G := G) (tm := (.string "LossHouse$Sign" 239)) (L := 1) (W := sgC 30) (hN hs 1624 (by decide +kernel)) (hN hs 1625 (by decide +kernel)) (hN hs 1626 (by decide +kernel)) (by decide) (hN hs 1627 (by decide +kernel)) (hNs hs [1628] (fun j => Cond.eq (.elem (.field (.string "LossHouse$Sign" 239) "java/lang/String" "value" "[B") (.int (Int32.ofNat j))) (.int (nI (sgC 30 j)))) 1 (by decide +kernel)) (by decide +kernel)
  exact ⟨hOF_of (hO_of (hsg_ex hs 30 (by decide))).1 (hN hs 229 (by decide +kernel)) h.1, h.2⟩
set_option maxRecDepth 100000 in
theorem hTx_31 {G : hG} (hs : hSt G) : va_OF "LossHouse$Sign" "text" "Ljava/lang/String;" (.ref (hTx G 31)) (hSg G 31) (hA G) (hU G) (hU G).heap ∧ sS G (hTx G 31) (sgL 31) (sgC 31) := by
  have h := sS_of (G := G) (tm := (.string "LossHouse$Sign" 242)) (L := 2) (W := sgC 31) (hN hs 1629 (by decide +kernel)) (hN hs 1630 (by decide +kernel)) (hN hs 1631 (by decide +kernel)) (by decide) (hN hs 1632 (by decide +kernel)) (hNs hs [1633, 1634] (fun j => Cond.eq (.elem (.field (.string "LossHouse$Sign" 242) "java/lang/String" "value" "[B") (.int (Int32.ofNat j))) (.int (nI (sgC 31 j)))) 2 (by decide +kernel)) (by decide +kernel)
  exact ⟨hOF_of (hO_of (hsg_ex hs 31 (by decide))).1 (hN hs 233 (by decide +kernel)) h.1, h.2⟩
set_option maxRecDepth 100000 in
theorem hTx_32 {G : hG} (hs : hSt G) : va_OF "LossHouse$Sign" "text" "Ljava/lang/String;" (.ref (hTx G 32)) (hSg G 32) (hA G) (hU G) (hU G).heap ∧ sS G (hTx G 32) (sgL 32) (sgC 32) := by
  have h := sS_of (G := G) (tm := (.string "LossHouse$Sign" 245)) (L := 2) (W := sgC 32) (hN hs 1635 (by decide +kernel)) (hN hs 1636 (by decide +kernel)) (hN hs 1637 (by decide +kernel)) (by decide) (hN hs 1638 (by decide +kernel)) (hNs hs [1639, 1640] (fun j => Cond.eq (.elem (.field (.string "LossHouse$Sign" 245) "java/lang/String" "value" "[B") (.int (Int32.ofNat j))) (.int (nI (sgC 32 j)))) 2 (by decide +kernel)) (by decide +kernel)
  exact ⟨hOF_of (hO_of (hsg_ex hs 32 (by decide))).1 (hN hs 237 (by decide +kernel)) h.1, h.2⟩
set_option maxRecDepth 100000 in
theorem hTx_33 {G : hG} (hs : hSt G) : va_OF "LossHouse$Sign" "text" "Ljava/lang/String;" (.ref (hTx G 33)) (hSg G 33) (hA G) (hU G) (hU G).heap ∧ sS G (hTx G 33) (sgL 33) (sgC 33) := by
  have h := sS_of (G := G) (tm := (.string "LossHouse$Sign" 248)) (L := 0) (W := sgC 33) (hN hs 1434 (by decide +kernel)) (hN hs 1435 (by decide +kernel)) (hN hs 1436 (by decide +kernel)) (by decide) (hN hs 1437 (by decide +kernel)) (hNs hs [] (fun j => Cond.eq (.elem (.field (.string "LossHouse$Sign" 248) "java/lang/String" "value" "[B") (.int (Int32.ofNat j))) (.int (nI (sgC 33 j)))) 0 (by decide +kernel)) (by decide +kernel)
  exact ⟨hOF_of (hO_of (hsg_ex hs 33 (by decide))).1 (hN hs 117 (by decide +kernel)) h.1, h.2⟩
set_option maxRecDepth 100000 in
theorem hTx_34 {G : hG} (hs : hSt G) : va_OF "LossHouse$Sign" "text" "Ljava/lang/String;" (.ref (hTx G 34)) (hSg G 34) (hA G) (hU G) (hU G).heap ∧ sS G (hTx G 34) (sgL 34) (sgC 34) := by
  have h := sS_of (G := G) (tm := (.string "LossHouse$Sign" 248)) (L := 0) (W := sgC 34) (hN hs 1434 (by decide +kernel)) (hN hs 1435 (by decide +kernel)) (hN hs 1436 (by decide +kernel)) (by decide) (hN hs 1437 (by decide +kernel)) (hNs hs [] (fun j => Cond.eq (.elem (.field (.string "LossHouse$Sign" 248) "java/lang/String" "value" "[B") (.int (Int32.ofNat j))) (.int (nI (sgC 34 j)))) 0 (by decide +kernel)) (by decide +kernel)
  exact ⟨hOF_of (hO_of (hsg_ex hs 34 (by decide))).1 (hN hs 113 (by decide +kernel)) h.1, h.2⟩
set_option maxRecDepth 100000 in
theorem hTx_35 {G : hG} (hs : hSt G) : va_OF "LossHouse$Sign" "text" "Ljava/lang/String;" (.ref (hTx G 35)) (hSg G 35) (hA G) (hU G) (hU G).heap ∧ sS G (hTx G 35) (sgL 35) (sgC 35) := by
  have h := sS_of (G := G) (tm := (.string "LossHouse$Sign" 248)) (L := 0) (W := sgC 35) (hN hs 1434 (by decide +kernel)) (hN hs 1435 (by decide +kernel)) (hN hs 1436 (by decide +kernel)) (by decide) (hN hs 1437 (by decide +kernel)) (hNs hs [] (fun j => Cond.eq (.elem (.field (.string "LossHouse$Sign" 248) "java/lang/String" "value" "[B") (.int (Int32.ofNat j))) (.int (nI (sgC 35 j)))) 0 (by decide +kernel)) (by decide +kernel)
  exact ⟨hOF_of (hO_of (hsg_ex hs 35 (by decide))).1 (hN hs 141 (by decide +kernel)) h.1, h.2⟩
set_option maxRecDepth 100000 in
theorem hTx_36 {G : hG} (hs : hSt G) : va_OF "LossHouse$Sign" "text" "Ljava/lang/String;" (.ref (hTx G 36)) (hSg G 36) (hA G) (hU G) (hU G).heap ∧ sS G (hTx G 36) (sgL 36) (sgC 36) := by
  have h := sS_of (G := G) (tm := (.string "LossHouse$Sign" 248)) (L := 0) (W := sgC 36) (hN hs 1434 (by decide +kernel)) (hN hs 1435 (by decide +kernel)) (hN hs 1436 (by decide +kernel)) (by decide) (hN hs 1437 (by decide +kernel)) (hNs hs [] (fun j => Cond.eq (.elem (.field (.string "LossHouse$Sign" 248) "java/lang/String" "value" "[B") (.int (Int32.ofNat j))) (.int (nI (sgC 36 j)))) 0 (by decide +kernel)) (by decide +kernel)
  exact ⟨hOF_of (hO_of (hsg_ex hs 36 (by decide))).1 (hN hs 109 (by decide +kernel)) h.1, h.2⟩
set_option maxRecDepth 100000 in
theorem hTx_37 {G : hG} (hs : hSt G) : va_OF "LossHouse$Sign" "text" "Ljava/lang/String;" (.ref (hTx G 37)) (hSg G 37) (hA G) (hU G) (hU G).heap ∧ sS G (hTx G 37) (sgL 37) (sgC 37) := by
  have h := sS_of (G := G) (tm := (.string "LossHouse$Sign" 248)) (L := 0) (W := sgC 37) (hN hs 1434 (by decide +kernel)) (hN hs 1435 (by decide +kernel)) (hN hs 1436 (by decide +kernel)) (by decide) (hN hs 1437 (by decide +kernel)) (hNs hs [] (fun j => Cond.eq (.elem (.field (.string "LossHouse$Sign" 248) "java/lang/String" "value" "[B") (.int (Int32.ofNat j))) (.int (nI (sgC 37 j)))) 0 (by decide +kernel)) (by decide +kernel)
  exact ⟨hOF_of (hO_of (hsg_ex hs 37 (by decide))).1 (hN hs 6 (by decide +kernel)) h.1, h.2⟩
theorem hTx_k {G : hG} (hs : hSt G) : ∀ k, k < 38 → va_OF "LossHouse$Sign" "text" "Ljava/lang/String;" (.ref (hTx G k)) (hSg G k) (hA G) (hU G) (hU G).heap ∧ sS G (hTx G k) (sgL k) (sgC k) := fun k hk => match k, hk with
  | 0, _ => hTx_0 hs
  | 1, _ => hTx_1 hs
  | 2, _ => hTx_2 hs
  | 3, _ => hTx_3 hs
  | 4, _ => hTx_4 hs
  | 5, _ => hTx_5 hs
  | 6, _ => hTx_6 hs
  | 7, _ => hTx_7 hs
  | 8, _ => hTx_8 hs
  | 9, _ => hTx_9 hs
  | 10, _ => hTx_10 hs
  | 11, _ => hTx_11 hs
  | 12, _ => hTx_12 hs
  | 13, _ => hTx_13 hs
  | 14, _ => hTx_14 hs
  | 15, _ => hTx_15 hs
  | 16, _ => hTx_16 hs
  | 17, _ => hTx_17 hs
  | 18, _ => hTx_18 hs
  | 19, _ => hTx_19 hs
  | 20, _ => hTx_20 hs
  | 21, _ => hTx_21 hs
  | 22, _ => hTx_22 hs
  | 23, _ => hTx_23 hs
  | 24, _ => hTx_24 hs
  | 25, _ => hTx_25 hs
  | 26, _ => hTx_26 hs
  | 27, _ => hTx_27 hs
  | 28, _ => hTx_28 hs
  | 29, _ => hTx_29 hs
  | 30, _ => hTx_30 hs
  | 31, _ => hTx_31 hs
  | 32, _ => hTx_32 hs
  | 33, _ => hTx_33 hs
  | 34, _ => hTx_34 hs
  | 35, _ => hTx_35 hs
  | 36, _ => hTx_36 hs
  | 37, _ => hTx_37 hs
  | z9 + 38, h => absurd h (by omega)
