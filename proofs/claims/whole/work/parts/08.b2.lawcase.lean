/-! LAW: cases 3 -/
set_option maxHeartbeats 4000000 in
set_option maxRecDepth 100000 in
theorem lwz_40 {Γ : GT} {g : gT} {b0 L : Nat} {xs : Nat → Int32} (X : Cx Γ g 4 cL_law RL wsL_law) (S : Sx Γ b0 L xs) (hL : L ≤ 3072) {i : Nat} (hi : i + 6 ≤ L) {ad ad2 : Nat → Nat} {B : Bx} {J : Jx} {J2 : Mx} (hB : bOk B) (hm : mOk B J2) (kk : LK Γ g b0 i ad ad2) : Go Γ g 4 room_1 46 1431 (LX g ad ad2 B J B J2) 1379 [(3, .int (nI i)), (2, .ref (ad2 0)), (1, .ref (ad 0)), (0, .ref b0)] [] := by
  obtain ⟨N, K, b, z, le, rf, hd, ln, vl⟩ := B
  obtain ⟨T, ts, te, tk0, br⟩ := J
  obtain ⟨aw, at1, tk, so, va, lm, ol, ah, lt, lo⟩ := J2
  obtain rfl : aw = 6 := hm.1
  refine Go.aload_n X 2 dL_law_1379 rfl ?_
  refine Go.arg X S 1 dL_law_1380 dL_law_1381 dL_law_1382 dL_law_1383 dL_law_1384 rfl (by omega) hL ?_
  refine Go.callC X (b_asleep g ad N K b z le rf hd ln vl T ts te tk0 br (xs (i + 1)) hB.1) lcal_X3_asleep gL_law_X3_asleep rfl rfl rfl dL_law_1385 (fun J9 => ?_)
  refine Go.aload_n X 1 dL_law_1388 rfl ?_
  refine Go.arg X S 1 dL_law_1389 dL_law_1390 dL_law_1391 dL_law_1392 dL_law_1393 rfl (by omega) hL ?_
  refine Go.callM X (e_asleep g ad2 N K b z le rf hd ln vl at1 tk so va lm ol ah lt lo (xs (i + 1)) hB.1 hB.2.2.2.2.2 hm) lcal_X4_asleep gL_law_X4_asleep rfl rfl rfl dL_law_1394 (fun J4 hJ => ?_)
  exact Go.icmp_eq X 1852 dL_law_1397 rfl (fun _ => kk _ _ _ (k_asleep hB (xs (i + 1))) hJ) (fun h => absurd rfl h)
set_option maxHeartbeats 4000000 in
set_option maxRecDepth 100000 in
theorem lwz_41 {Γ : GT} {g : gT} {b0 L : Nat} {xs : Nat → Int32} (X : Cx Γ g 4 cL_law RL wsL_law) (S : Sx Γ b0 L xs) (hL : L ≤ 3072) {i : Nat} (hi : i + 6 ≤ L) {ad ad2 : Nat → Nat} {B : Bx} {J : Jx} {J2 : Mx} (hB : bOk B) (hm : mOk B J2) (kk : LK Γ g b0 i ad ad2) : Go Γ g 4 room_1 46 1431 (LX g ad ad2 B J B J2) 1402 [(3, .int (nI i)), (2, .ref (ad2 0)), (1, .ref (ad 0)), (0, .ref b0)] [] := by
  obtain ⟨N, K, b, z, le, rf, hd, ln, vl⟩ := B
  obtain ⟨T, ts, te, tk0, br⟩ := J
  obtain ⟨aw, at1, tk, so, va, lm, ol, ah, lt, lo⟩ := J2
  obtain rfl : aw = 6 := hm.1
  refine Go.aload_n X 2 dL_law_1402 rfl ?_
  refine Go.arg X S 1 dL_law_1403 dL_law_1404 dL_law_1405 dL_law_1406 dL_law_1407 rfl (by omega) hL ?_
  refine Go.callC X (b_crowd g ad N K b z le rf hd ln vl T ts te tk0 br (xs (i + 1)) hB.1) lcal_X3_crowd gL_law_X3_crowd rfl rfl rfl dL_law_1408 (fun J9 => ?_)
  refine Go.aload_n X 1 dL_law_1411 rfl ?_
  refine Go.arg X S 1 dL_law_1412 dL_law_1413 dL_law_1414 dL_law_1415 dL_law_1416 rfl (by omega) hL ?_
  refine Go.callM X (e_crowd g ad2 N K b z le rf hd ln vl at1 tk so va lm ol ah lt lo (xs (i + 1)) hB.1 hB.2.2.2.2.2 hm) lcal_X4_crowd gL_law_X4_crowd rfl rfl rfl dL_law_1417 (fun J4 hJ => ?_)
  exact Go.icmp_eq X 1852 dL_law_1420 rfl (fun _ => kk _ _ _ (k_crowd hB (xs (i + 1))) hJ) (fun h => absurd rfl h)
set_option maxHeartbeats 4000000 in
set_option maxRecDepth 100000 in
theorem lwz_42 {Γ : GT} {g : gT} {b0 L : Nat} {xs : Nat → Int32} (X : Cx Γ g 4 cL_law RL wsL_law) (S : Sx Γ b0 L xs) (hL : L ≤ 3072) {i : Nat} (hi : i + 6 ≤ L) {ad ad2 : Nat → Nat} {B : Bx} {J : Jx} {J2 : Mx} (hB : bOk B) (hm : mOk B J2) (kk : LK Γ g b0 i ad ad2) : Go Γ g 4 room_1 46 1431 (LX g ad ad2 B J B J2) 1425 [(3, .int (nI i)), (2, .ref (ad2 0)), (1, .ref (ad 0)), (0, .ref b0)] [] := by
  obtain ⟨N, K, b, z, le, rf, hd, ln, vl⟩ := B
  obtain ⟨T, ts, te, tk0, br⟩ := J
  obtain ⟨aw, at1, tk, so, va, lm, ol, ah, lt, lo⟩ := J2
  obtain rfl : aw = 6 := hm.1
  refine Go.aload_n X 2 dL_law_1425 rfl ?_
  refine Go.arg X S 1 dL_law_1426 dL_law_1427 dL_law_1428 dL_law_1429 dL_law_1430 rfl (by omega) hL ?_
  refine Go.callC X (b_level g ad N K b z le rf hd ln vl T ts te tk0 br (xs (i + 1)) hB.1) lcal_X3_level gL_law_X3_level rfl rfl rfl dL_law_1431 (fun J9 => ?_)
  refine Go.aload_n X 1 dL_law_1434 rfl ?_
  refine Go.arg X S 1 dL_law_1435 dL_law_1436 dL_law_1437 dL_law_1438 dL_law_1439 rfl (by omega) hL ?_
  refine Go.callM X (e_level g ad2 N K b z le rf hd ln vl at1 tk so va lm ol ah lt lo (xs (i + 1)) hB.1 hB.2.2.2.2.2 hm) lcal_X4_level gL_law_X4_level rfl rfl rfl dL_law_1440 (fun J4 hJ => ?_)
  exact Go.icmp_eq X 1852 dL_law_1443 rfl (fun _ => kk _ _ _ (k_level hB (xs (i + 1))) hJ) (fun h => absurd rfl h)
set_option maxHeartbeats 4000000 in
set_option maxRecDepth 100000 in
theorem lwz_43 {Γ : GT} {g : gT} {b0 L : Nat} {xs : Nat → Int32} (X : Cx Γ g 4 cL_law RL wsL_law) (S : Sx Γ b0 L xs) (hL : L ≤ 3072) {i : Nat} (hi : i + 6 ≤ L) {ad ad2 : Nat → Nat} {B : Bx} {J : Jx} {J2 : Mx} (hB : bOk B) (hm : mOk B J2) (kk : LK Γ g b0 i ad ad2) : Go Γ g 4 room_1 46 1431 (LX g ad ad2 B J B J2) 1448 [(3, .int (nI i)), (2, .ref (ad2 0)), (1, .ref (ad 0)), (0, .ref b0)] [] := by
  obtain ⟨N, K, b, z, le, rf, hd, ln, vl⟩ := B
  obtain ⟨T, ts, te, tk0, br⟩ := J
  obtain ⟨aw, at1, tk, so, va, lm, ol, ah, lt, lo⟩ := J2
  obtain rfl : aw = 6 := hm.1
  refine Go.aload_n X 2 dL_law_1448 rfl ?_
  refine Go.callC X (b_longest g ad N K b z le rf hd ln vl T ts te tk0 br hB.1) lcal_X3_longest gL_law_X3_longest rfl rfl rfl dL_law_1449 (fun J9 => ?_)
  refine Go.aload_n X 1 dL_law_1452 rfl ?_
  refine Go.callM X (e_longest g ad2 N K b z le rf hd ln vl at1 tk so va lm ol ah lt lo hB.1 hB.2.2.2.2.2 hm) lcal_X4_longest gL_law_X4_longest rfl rfl rfl dL_law_1453 (fun J4 hJ => ?_)
  exact Go.icmp_eq X 1852 dL_law_1456 rfl (fun _ => kk _ _ _ (k_longest hB) hJ) (fun h => absurd rfl h)
set_option maxHeartbeats 4000000 in
set_option maxRecDepth 100000 in
theorem lwz_44 {Γ : GT} {g : gT} {b0 L : Nat} {xs : Nat → Int32} (X : Cx Γ g 4 cL_law RL wsL_law) (S : Sx Γ b0 L xs) (hL : L ≤ 3072) {i : Nat} (hi : i + 6 ≤ L) {ad ad2 : Nat → Nat} {B : Bx} {J : Jx} {J2 : Mx} (hB : bOk B) (hm : mOk B J2) (kk : LK Γ g b0 i ad ad2) : Go Γ g 4 room_1 46 1431 (LX g ad ad2 B J B J2) 1461 [(3, .int (nI i)), (2, .ref (ad2 0)), (1, .ref (ad 0)), (0, .ref b0)] [] := by
  obtain ⟨N, K, b, z, le, rf, hd, ln, vl⟩ := B
  obtain ⟨T, ts, te, tk0, br⟩ := J
  obtain ⟨aw, at1, tk, so, va, lm, ol, ah, lt, lo⟩ := J2
  obtain rfl : aw = 6 := hm.1
  refine Go.aload_n X 2 dL_law_1461 rfl ?_
  refine Go.callC X (b_leave g ad N K b z le rf hd ln vl T ts te tk0 br hB.1) lcal_X3_leave gL_law_X3_leave rfl rfl rfl dL_law_1462 (fun J9 => ?_)
  refine Go.aload_n X 1 dL_law_1465 rfl ?_
  refine Go.callM X (e_leave g ad2 N K b z le rf hd ln vl at1 tk so va lm ol ah lt lo hB.1 hB.2.2.2.2.2 hm) lcal_X4_leave gL_law_X4_leave rfl rfl rfl dL_law_1466 (fun J4 hJ => ?_)
  exact Go.icmp_eq X 1852 dL_law_1469 rfl (fun _ => kk _ _ _ (k_leave hB) hJ) (fun h => absurd rfl h)
set_option maxHeartbeats 4000000 in
set_option maxRecDepth 100000 in
theorem lwz_45 {Γ : GT} {g : gT} {b0 L : Nat} {xs : Nat → Int32} (X : Cx Γ g 4 cL_law RL wsL_law) (S : Sx Γ b0 L xs) (hL : L ≤ 3072) {i : Nat} (hi : i + 6 ≤ L) {ad ad2 : Nat → Nat} {B : Bx} {J : Jx} {J2 : Mx} (hB : bOk B) (hm : mOk B J2) (kk : LK Γ g b0 i ad ad2) : Go Γ g 4 room_1 46 1431 (LX g ad ad2 B J B J2) 1474 [(3, .int (nI i)), (2, .ref (ad2 0)), (1, .ref (ad 0)), (0, .ref b0)] [] := by
  obtain ⟨N, K, b, z, le, rf, hd, ln, vl⟩ := B
  obtain ⟨T, ts, te, tk0, br⟩ := J
  obtain ⟨aw, at1, tk, so, va, lm, ol, ah, lt, lo⟩ := J2
  obtain rfl : aw = 6 := hm.1
  refine Go.aload_n X 2 dL_law_1474 rfl ?_
  refine Go.arg X S 1 dL_law_1475 dL_law_1476 dL_law_1477 dL_law_1478 dL_law_1479 rfl (by omega) hL ?_
  refine Go.callC X (b_by g ad N K b z le rf hd ln vl T ts te tk0 br (xs (i + 1)) hB.1) lcal_X3_by gL_law_X3_by rfl rfl rfl dL_law_1480 (fun J9 => ?_)
  refine Go.aload_n X 1 dL_law_1483 rfl ?_
  refine Go.arg X S 1 dL_law_1484 dL_law_1485 dL_law_1486 dL_law_1487 dL_law_1488 rfl (by omega) hL ?_
  refine Go.callM X (e_by g ad2 N K b z le rf hd ln vl at1 tk so va lm ol ah lt lo (xs (i + 1)) hB.1 hB.2.2.2.2.2 hm) lcal_X4_by gL_law_X4_by rfl rfl rfl dL_law_1489 (fun J4 hJ => ?_)
  exact Go.icmp_eq X 1852 dL_law_1492 rfl (fun _ => kk _ _ _ (k_by hB (xs (i + 1))) hJ) (fun h => absurd rfl h)
set_option maxHeartbeats 4000000 in
set_option maxRecDepth 100000 in
theorem lwz_46 {Γ : GT} {g : gT} {b0 L : Nat} {xs : Nat → Int32} (X : Cx Γ g 4 cL_law RL wsL_law) (S : Sx Γ b0 L xs) (hL : L ≤ 3072) {i : Nat} (hi : i + 6 ≤ L) {ad ad2 : Nat → Nat} {B : Bx} {J : Jx} {J2 : Mx} (hB : bOk B) (hm : mOk B J2) (kk : LK Γ g b0 i ad ad2) : Go Γ g 4 room_1 46 1431 (LX g ad ad2 B J B J2) 1497 [(3, .int (nI i)), (2, .ref (ad2 0)), (1, .ref (ad 0)), (0, .ref b0)] [] := by
  obtain ⟨N, K, b, z, le, rf, hd, ln, vl⟩ := B
  obtain ⟨T, ts, te, tk0, br⟩ := J
  obtain ⟨aw, at1, tk, so, va, lm, ol, ah, lt, lo⟩ := J2
  obtain rfl : aw = 6 := hm.1
  refine Go.aload_n X 2 dL_law_1497 rfl ?_
  refine Go.callC X (b_mean g ad N K b z le rf hd ln vl T ts te tk0 br hB.1) lcal_X3_mean gL_law_X3_mean rfl rfl rfl dL_law_1498 (fun J9 => ?_)
  refine Go.aload_n X 1 dL_law_1501 rfl ?_
  refine Go.callM X (e_mean g ad2 N K b z le rf hd ln vl at1 tk so va lm ol ah lt lo hB.1 hB.2.2.2.2.2 hm) lcal_X4_mean gL_law_X4_mean rfl rfl rfl dL_law_1502 (fun J4 hJ => ?_)
  exact Go.icmp_eq X 1852 dL_law_1505 rfl (fun _ => kk _ _ _ (k_mean hB) hJ) (fun h => absurd rfl h)
set_option maxHeartbeats 4000000 in
set_option maxRecDepth 100000 in
theorem lwz_47 {Γ : GT} {g : gT} {b0 L : Nat} {xs : Nat → Int32} (X : Cx Γ g 4 cL_law RL wsL_law) (S : Sx Γ b0 L xs) (hL : L ≤ 3072) {i : Nat} (hi : i + 6 ≤ L) {ad ad2 : Nat → Nat} {B : Bx} {J : Jx} {J2 : Mx} (hB : bOk B) (hm : mOk B J2) (kk : LK Γ g b0 i ad ad2) : Go Γ g 4 room_1 46 1431 (LX g ad ad2 B J B J2) 1510 [(3, .int (nI i)), (2, .ref (ad2 0)), (1, .ref (ad 0)), (0, .ref b0)] [] := by
  obtain ⟨N, K, b, z, le, rf, hd, ln, vl⟩ := B
  obtain ⟨T, ts, te, tk0, br⟩ := J
  obtain ⟨aw, at1, tk, so, va, lm, ol, ah, lt, lo⟩ := J2
  obtain rfl : aw = 6 := hm.1
  refine Go.aload_n X 2 dL_law_1510 rfl ?_
  refine Go.arg X S 1 dL_law_1511 dL_law_1512 dL_law_1513 dL_law_1514 dL_law_1515 rfl (by omega) hL ?_
  refine Go.callC X (b_fair g ad N K b z le rf hd ln vl T ts te tk0 br (xs (i + 1)) hB.1) lcal_X3_fair gL_law_X3_fair rfl rfl rfl dL_law_1516 (fun J9 => ?_)
  refine Go.aload_n X 1 dL_law_1519 rfl ?_
  refine Go.arg X S 1 dL_law_1520 dL_law_1521 dL_law_1522 dL_law_1523 dL_law_1524 rfl (by omega) hL ?_
  refine Go.callM X (e_fair g ad2 N K b z le rf hd ln vl at1 tk so va lm ol ah lt lo (xs (i + 1)) hB.1 hB.2.2.2.2.2 hm) lcal_X4_fair gL_law_X4_fair rfl rfl rfl dL_law_1525 (fun J4 hJ => ?_)
  exact Go.icmp_eq X 1852 dL_law_1528 rfl (fun _ => kk _ _ _ (k_fair hB (xs (i + 1))) hJ) (fun h => absurd rfl h)
set_option maxHeartbeats 4000000 in
set_option maxRecDepth 100000 in
theorem lwz_48 {Γ : GT} {g : gT} {b0 L : Nat} {xs : Nat → Int32} (X : Cx Γ g 4 cL_law RL wsL_law) (S : Sx Γ b0 L xs) (hL : L ≤ 3072) {i : Nat} (hi : i + 6 ≤ L) {ad ad2 : Nat → Nat} {B : Bx} {J : Jx} {J2 : Mx} (hB : bOk B) (hm : mOk B J2) (kk : LK Γ g b0 i ad ad2) : Go Γ g 4 room_1 46 1431 (LX g ad ad2 B J B J2) 1533 [(3, .int (nI i)), (2, .ref (ad2 0)), (1, .ref (ad 0)), (0, .ref b0)] [] := by
  obtain ⟨N, K, b, z, le, rf, hd, ln, vl⟩ := B
  obtain ⟨T, ts, te, tk0, br⟩ := J
  obtain ⟨aw, at1, tk, so, va, lm, ol, ah, lt, lo⟩ := J2
  obtain rfl : aw = 6 := hm.1
  refine Go.aload_n X 2 dL_law_1533 rfl ?_
  refine Go.arg X S 1 dL_law_1534 dL_law_1535 dL_law_1536 dL_law_1537 dL_law_1538 rfl (by omega) hL ?_
  refine Go.arg X S 2 dL_law_1539 dL_law_1540 dL_law_1541 dL_law_1542 dL_law_1543 rfl (by omega) hL ?_
  refine Go.callC X (b_book g ad N K b z le rf hd ln vl T ts te tk0 br (xs (i + 1)) (xs (i + 2)) hB.1 hB.2.2.2.2.1) lcal_X3_book gL_law_X3_book rfl rfl rfl dL_law_1544 (fun J9 => ?_)
  refine Go.aload_n X 1 dL_law_1547 rfl ?_
  refine Go.arg X S 1 dL_law_1548 dL_law_1549 dL_law_1550 dL_law_1551 dL_law_1552 rfl (by omega) hL ?_
  refine Go.arg X S 2 dL_law_1553 dL_law_1554 dL_law_1555 dL_law_1556 dL_law_1557 rfl (by omega) hL ?_
  refine Go.callM X (e_book g ad2 N K b z le rf hd ln vl at1 tk so va lm ol ah lt lo (xs (i + 1)) (xs (i + 2)) hB.1 hB.2.2.2.2.2 hB.2.2.2.2.1 hm) lcal_X4_book gL_law_X4_book rfl rfl rfl dL_law_1558 (fun J4 hJ => ?_)
  exact Go.icmp_eq X 1852 dL_law_1561 rfl (fun _ => kk _ _ _ (k_book hB (xs (i + 1)) (xs (i + 2))) hJ) (fun h => absurd rfl h)
set_option maxHeartbeats 4000000 in
set_option maxRecDepth 100000 in
theorem lwz_49 {Γ : GT} {g : gT} {b0 L : Nat} {xs : Nat → Int32} (X : Cx Γ g 4 cL_law RL wsL_law) (S : Sx Γ b0 L xs) (hL : L ≤ 3072) {i : Nat} (hi : i + 6 ≤ L) {ad ad2 : Nat → Nat} {B : Bx} {J : Jx} {J2 : Mx} (hB : bOk B) (hm : mOk B J2) (kk : LK Γ g b0 i ad ad2) : Go Γ g 4 room_1 46 1431 (LX g ad ad2 B J B J2) 1566 [(3, .int (nI i)), (2, .ref (ad2 0)), (1, .ref (ad 0)), (0, .ref b0)] [] := by
  obtain ⟨N, K, b, z, le, rf, hd, ln, vl⟩ := B
  obtain ⟨T, ts, te, tk0, br⟩ := J
  obtain ⟨aw, at1, tk, so, va, lm, ol, ah, lt, lo⟩ := J2
  obtain rfl : aw = 6 := hm.1
  refine Go.aload_n X 2 dL_law_1566 rfl ?_
  refine Go.arg X S 1 dL_law_1567 dL_law_1568 dL_law_1569 dL_law_1570 dL_law_1571 rfl (by omega) hL ?_
  refine Go.arg X S 2 dL_law_1572 dL_law_1573 dL_law_1574 dL_law_1575 dL_law_1576 rfl (by omega) hL ?_
  refine Go.callC X (b_second g ad N K b z le rf hd ln vl T ts te tk0 br (xs (i + 1)) (xs (i + 2)) hB.1) lcal_X3_second gL_law_X3_second rfl rfl rfl dL_law_1577 (fun J9 => ?_)
  refine Go.aload_n X 1 dL_law_1580 rfl ?_
  refine Go.arg X S 1 dL_law_1581 dL_law_1582 dL_law_1583 dL_law_1584 dL_law_1585 rfl (by omega) hL ?_
  refine Go.arg X S 2 dL_law_1586 dL_law_1587 dL_law_1588 dL_law_1589 dL_law_1590 rfl (by omega) hL ?_
  refine Go.callM X (e_second g ad2 N K b z le rf hd ln vl at1 tk so va lm ol ah lt lo (xs (i + 1)) (xs (i + 2)) hB.1 hB.2.2.2.2.2 hm) lcal_X4_second gL_law_X4_second rfl rfl rfl dL_law_1591 (fun J4 hJ => ?_)
  exact Go.icmp_eq X 1852 dL_law_1594 rfl (fun _ => kk _ _ _ (k_second hB (xs (i + 1)) (xs (i + 2))) hJ) (fun h => absurd rfl h)
set_option maxHeartbeats 4000000 in
set_option maxRecDepth 100000 in
theorem lwz_50 {Γ : GT} {g : gT} {b0 L : Nat} {xs : Nat → Int32} (X : Cx Γ g 4 cL_law RL wsL_law) (S : Sx Γ b0 L xs) (hL : L ≤ 3072) {i : Nat} (hi : i + 6 ≤ L) {ad ad2 : Nat → Nat} {B : Bx} {J : Jx} {J2 : Mx} (hB : bOk B) (hm : mOk B J2) (kk : LK Γ g b0 i ad ad2) : Go Γ g 4 room_1 46 1431 (LX g ad ad2 B J B J2) 1599 [(3, .int (nI i)), (2, .ref (ad2 0)), (1, .ref (ad 0)), (0, .ref b0)] [] := by
  obtain ⟨N, K, b, z, le, rf, hd, ln, vl⟩ := B
  obtain ⟨T, ts, te, tk0, br⟩ := J
  obtain ⟨aw, at1, tk, so, va, lm, ol, ah, lt, lo⟩ := J2
  obtain rfl : aw = 6 := hm.1
  refine Go.aload_n X 2 dL_law_1599 rfl ?_
  refine Go.arg X S 1 dL_law_1600 dL_law_1601 dL_law_1602 dL_law_1603 dL_law_1604 rfl (by omega) hL ?_
  refine Go.callC X (b_hints g ad N K b z le rf hd ln vl T ts te tk0 br (xs (i + 1)) hB.1) lcal_X3_hints gL_law_X3_hints rfl rfl rfl dL_law_1605 (fun J9 => ?_)
  refine Go.aload_n X 1 dL_law_1608 rfl ?_
  refine Go.arg X S 1 dL_law_1609 dL_law_1610 dL_law_1611 dL_law_1612 dL_law_1613 rfl (by omega) hL ?_
  refine Go.callM X (e_hints g ad2 N K b z le rf hd ln vl at1 tk so va lm ol ah lt lo (xs (i + 1)) hB.1 hB.2.2.2.2.2 hm) lcal_X4_hints gL_law_X4_hints rfl rfl rfl dL_law_1614 (fun J4 hJ => ?_)
  exact Go.icmp_eq X 1852 dL_law_1617 rfl (fun _ => kk _ _ _ (k_hints hB (xs (i + 1))) hJ) (fun h => absurd rfl h)
set_option maxHeartbeats 4000000 in
set_option maxRecDepth 100000 in
theorem lwz_51 {Γ : GT} {g : gT} {b0 L : Nat} {xs : Nat → Int32} (X : Cx Γ g 4 cL_law RL wsL_law) (S : Sx Γ b0 L xs) (hL : L ≤ 3072) {i : Nat} (hi : i + 6 ≤ L) {ad ad2 : Nat → Nat} {B : Bx} {J : Jx} {J2 : Mx} (hB : bOk B) (hm : mOk B J2) (kk : LK Γ g b0 i ad ad2) : Go Γ g 4 room_1 46 1431 (LX g ad ad2 B J B J2) 1622 [(3, .int (nI i)), (2, .ref (ad2 0)), (1, .ref (ad 0)), (0, .ref b0)] [] := by
  obtain ⟨N, K, b, z, le, rf, hd, ln, vl⟩ := B
  obtain ⟨T, ts, te, tk0, br⟩ := J
  obtain ⟨aw, at1, tk, so, va, lm, ol, ah, lt, lo⟩ := J2
  obtain rfl : aw = 6 := hm.1
  refine Go.aload_n X 2 dL_law_1622 rfl ?_
  refine Go.arg X S 1 dL_law_1623 dL_law_1624 dL_law_1625 dL_law_1626 dL_law_1627 rfl (by omega) hL ?_
  refine Go.arg X S 2 dL_law_1628 dL_law_1629 dL_law_1630 dL_law_1631 dL_law_1632 rfl (by omega) hL ?_
  refine Go.arg X S 3 dL_law_1633 dL_law_1634 dL_law_1635 dL_law_1636 dL_law_1637 rfl (by omega) hL ?_
  refine Go.callC X (b_rules g ad N K b z le rf hd ln vl T ts te tk0 br (xs (i + 1)) (xs (i + 2)) (xs (i + 3)) hB.1 hB.2.2.2.2.1) lcal_X3_rules gL_law_X3_rules rfl rfl rfl dL_law_1638 (fun J9 => ?_)
  refine Go.aload_n X 1 dL_law_1641 rfl ?_
  refine Go.arg X S 1 dL_law_1642 dL_law_1643 dL_law_1644 dL_law_1645 dL_law_1646 rfl (by omega) hL ?_
  refine Go.arg X S 2 dL_law_1647 dL_law_1648 dL_law_1649 dL_law_1650 dL_law_1651 rfl (by omega) hL ?_
  refine Go.arg X S 3 dL_law_1652 dL_law_1653 dL_law_1654 dL_law_1655 dL_law_1656 rfl (by omega) hL ?_
  refine Go.callM X (e_rules g ad2 N K b z le rf hd ln vl at1 tk so va lm ol ah lt lo (xs (i + 1)) (xs (i + 2)) (xs (i + 3)) hB.1 hB.2.2.2.2.2 hB.2.2.2.2.1 hm) lcal_X4_rules gL_law_X4_rules rfl rfl rfl dL_law_1657 (fun J4 hJ => ?_)
  exact Go.icmp_eq X 1852 dL_law_1660 rfl (fun _ => kk _ _ _ (k_rules hB (xs (i + 1)) (xs (i + 2)) (xs (i + 3))) hJ) (fun h => absurd rfl h)
set_option maxHeartbeats 4000000 in
set_option maxRecDepth 100000 in
theorem lwz_52 {Γ : GT} {g : gT} {b0 L : Nat} {xs : Nat → Int32} (X : Cx Γ g 4 cL_law RL wsL_law) (S : Sx Γ b0 L xs) (hL : L ≤ 3072) {i : Nat} (hi : i + 6 ≤ L) {ad ad2 : Nat → Nat} {B : Bx} {J : Jx} {J2 : Mx} (hB : bOk B) (hm : mOk B J2) (kk : LK Γ g b0 i ad ad2) : Go Γ g 4 room_1 46 1431 (LX g ad ad2 B J B J2) 1665 [(3, .int (nI i)), (2, .ref (ad2 0)), (1, .ref (ad 0)), (0, .ref b0)] [] := by
  obtain ⟨N, K, b, z, le, rf, hd, ln, vl⟩ := B
  obtain ⟨T, ts, te, tk0, br⟩ := J
  obtain ⟨aw, at1, tk, so, va, lm, ol, ah, lt, lo⟩ := J2
  obtain rfl : aw = 6 := hm.1
  refine Go.aload_n X 2 dL_law_1665 rfl ?_
  refine Go.arg X S 1 dL_law_1666 dL_law_1667 dL_law_1668 dL_law_1669 dL_law_1670 rfl (by omega) hL ?_
  refine Go.callC X (b_judge g ad N K b z le rf hd ln vl T ts te tk0 br (xs (i + 1)) hB.1 hB.2.2.2.2.1) lcal_X3_judge gL_law_X3_judge rfl rfl rfl dL_law_1671 (fun J9 => ?_)
  refine Go.aload_n X 1 dL_law_1674 rfl ?_
  refine Go.arg X S 1 dL_law_1675 dL_law_1676 dL_law_1677 dL_law_1678 dL_law_1679 rfl (by omega) hL ?_
  refine Go.callM X (e_judge g ad2 N K b z le rf hd ln vl at1 tk so va lm ol ah lt lo (xs (i + 1)) hB.1 hB.2.2.2.2.2 hB.2.2.2.2.1 hm) lcal_X4_judge gL_law_X4_judge rfl rfl rfl dL_law_1680 (fun J4 hJ => ?_)
  exact Go.icmp_eq X 1852 dL_law_1683 rfl (fun _ => kk _ _ _ (k_judge hB (xs (i + 1))) hJ) (fun h => absurd rfl h)
set_option maxHeartbeats 4000000 in
set_option maxRecDepth 100000 in
theorem lwz_53 {Γ : GT} {g : gT} {b0 L : Nat} {xs : Nat → Int32} (X : Cx Γ g 4 cL_law RL wsL_law) (S : Sx Γ b0 L xs) (hL : L ≤ 3072) {i : Nat} (hi : i + 6 ≤ L) {ad ad2 : Nat → Nat} {B : Bx} {J : Jx} {J2 : Mx} (hB : bOk B) (hm : mOk B J2) (kk : LK Γ g b0 i ad ad2) : Go Γ g 4 room_1 46 1431 (LX g ad ad2 B J B J2) 1688 [(3, .int (nI i)), (2, .ref (ad2 0)), (1, .ref (ad 0)), (0, .ref b0)] [] := by
  obtain ⟨N, K, b, z, le, rf, hd, ln, vl⟩ := B
  obtain ⟨T, ts, te, tk0, br⟩ := J
  obtain ⟨aw, at1, tk, so, va, lm, ol, ah, lt, lo⟩ := J2
  obtain rfl : aw = 6 := hm.1
  refine Go.aload_n X 2 dL_law_1688 rfl ?_
  refine Go.arg X S 1 dL_law_1689 dL_law_1690 dL_law_1691 dL_law_1692 dL_law_1693 rfl (by omega) hL ?_
  refine Go.callC X (b_unlike g ad N K b z le rf hd ln vl T ts te tk0 br (xs (i + 1)) hB.1 hB.2.2.2.2.1) lcal_X3_unlike gL_law_X3_unlike rfl rfl rfl dL_law_1694 (fun J9 => ?_)
  refine Go.aload_n X 1 dL_law_1697 rfl ?_
  refine Go.arg X S 1 dL_law_1698 dL_law_1699 dL_law_1700 dL_law_1701 dL_law_1702 rfl (by omega) hL ?_
  refine Go.callM X (e_unlike g ad2 N K b z le rf hd ln vl at1 tk so va lm ol ah lt lo (xs (i + 1)) hB.1 hB.2.2.2.2.2 hB.2.2.2.2.1 hm) lcal_X4_unlike gL_law_X4_unlike rfl rfl rfl dL_law_1703 (fun J4 hJ => ?_)
  exact Go.icmp_eq X 1852 dL_law_1706 rfl (fun _ => kk _ _ _ (k_unlike hB (xs (i + 1))) hJ) (fun h => absurd rfl h)
set_option maxHeartbeats 4000000 in
set_option maxRecDepth 100000 in
theorem lwz_54 {Γ : GT} {g : gT} {b0 L : Nat} {xs : Nat → Int32} (X : Cx Γ g 4 cL_law RL wsL_law) (S : Sx Γ b0 L xs) (hL : L ≤ 3072) {i : Nat} (hi : i + 6 ≤ L) {ad ad2 : Nat → Nat} {B : Bx} {J : Jx} {J2 : Mx} (hB : bOk B) (hm : mOk B J2) (kk : LK Γ g b0 i ad ad2) : Go Γ g 4 room_1 46 1431 (LX g ad ad2 B J B J2) 1711 [(3, .int (nI i)), (2, .ref (ad2 0)), (1, .ref (ad 0)), (0, .ref b0)] [] := by
  obtain ⟨N, K, b, z, le, rf, hd, ln, vl⟩ := B
  obtain ⟨T, ts, te, tk0, br⟩ := J
  obtain ⟨aw, at1, tk, so, va, lm, ol, ah, lt, lo⟩ := J2
  obtain rfl : aw = 6 := hm.1
  refine Go.aload_n X 2 dL_law_1711 rfl ?_
  refine Go.callC X (b_ring g ad N K b z le rf hd ln vl T ts te tk0 br hB.1) lcal_X3_ring gL_law_X3_ring rfl rfl rfl dL_law_1712 (fun J9 => ?_)
  refine Go.aload_n X 1 dL_law_1715 rfl ?_
  refine Go.callM X (e_ring g ad2 N K b z le rf hd ln vl at1 tk so va lm ol ah lt lo hB.1 hB.2.2.2.2.2 hm) lcal_X4_ring gL_law_X4_ring rfl rfl rfl dL_law_1716 (fun J4 hJ => ?_)
  exact Go.icmp_eq X 1852 dL_law_1719 rfl (fun _ => kk _ _ _ (k_ring hB) hJ) (fun h => absurd rfl h)
set_option maxHeartbeats 4000000 in
set_option maxRecDepth 100000 in
theorem lwz_55 {Γ : GT} {g : gT} {b0 L : Nat} {xs : Nat → Int32} (X : Cx Γ g 4 cL_law RL wsL_law) (S : Sx Γ b0 L xs) (hL : L ≤ 3072) {i : Nat} (hi : i + 6 ≤ L) {ad ad2 : Nat → Nat} {B : Bx} {J : Jx} {J2 : Mx} (hB : bOk B) (hm : mOk B J2) (kk : LK Γ g b0 i ad ad2) : Go Γ g 4 room_1 46 1431 (LX g ad ad2 B J B J2) 1724 [(3, .int (nI i)), (2, .ref (ad2 0)), (1, .ref (ad 0)), (0, .ref b0)] [] := by
  obtain ⟨N, K, b, z, le, rf, hd, ln, vl⟩ := B
  obtain ⟨T, ts, te, tk0, br⟩ := J
  obtain ⟨aw, at1, tk, so, va, lm, ol, ah, lt, lo⟩ := J2
  obtain rfl : aw = 6 := hm.1
  refine Go.aload_n X 2 dL_law_1724 rfl ?_
  refine Go.arg X S 1 dL_law_1725 dL_law_1726 dL_law_1727 dL_law_1728 dL_law_1729 rfl (by omega) hL ?_
  refine Go.callC X (b_rings g ad N K b z le rf hd ln vl T ts te tk0 br (xs (i + 1)) hB.1) lcal_X3_rings gL_law_X3_rings rfl rfl rfl dL_law_1730 (fun J9 => ?_)
  refine Go.aload_n X 1 dL_law_1733 rfl ?_
  refine Go.arg X S 1 dL_law_1734 dL_law_1735 dL_law_1736 dL_law_1737 dL_law_1738 rfl (by omega) hL ?_
  refine Go.callM X (e_rings g ad2 N K b z le rf hd ln vl at1 tk so va lm ol ah lt lo (xs (i + 1)) hB.1 hB.2.2.2.2.2 hm) lcal_X4_rings gL_law_X4_rings rfl rfl rfl dL_law_1739 (fun J4 hJ => ?_)
  exact Go.icmp_eq X 1852 dL_law_1742 rfl (fun _ => kk _ _ _ (k_rings hB (xs (i + 1))) hJ) (fun h => absurd rfl h)
set_option maxHeartbeats 4000000 in
set_option maxRecDepth 100000 in
theorem lwz_56 {Γ : GT} {g : gT} {b0 L : Nat} {xs : Nat → Int32} (X : Cx Γ g 4 cL_law RL wsL_law) (S : Sx Γ b0 L xs) (hL : L ≤ 3072) {i : Nat} (hi : i + 6 ≤ L) {ad ad2 : Nat → Nat} {B : Bx} {J : Jx} {J2 : Mx} (hB : bOk B) (hm : mOk B J2) (kk : LK Γ g b0 i ad ad2) : Go Γ g 4 room_1 46 1431 (LX g ad ad2 B J B J2) 1747 [(3, .int (nI i)), (2, .ref (ad2 0)), (1, .ref (ad 0)), (0, .ref b0)] [] := by
  obtain ⟨N, K, b, z, le, rf, hd, ln, vl⟩ := B
  obtain ⟨T, ts, te, tk0, br⟩ := J
  obtain ⟨aw, at1, tk, so, va, lm, ol, ah, lt, lo⟩ := J2
  obtain rfl : aw = 6 := hm.1
  refine Go.aload_n X 2 dL_law_1747 rfl ?_
  refine Go.arg X S 1 dL_law_1748 dL_law_1749 dL_law_1750 dL_law_1751 dL_law_1752 rfl (by omega) hL ?_
  refine Go.arg X S 2 dL_law_1753 dL_law_1754 dL_law_1755 dL_law_1756 dL_law_1757 rfl (by omega) hL ?_
  refine Go.callC X (b_learn g ad N K b z le rf hd ln vl T ts te tk0 br (xs (i + 1)) (xs (i + 2)) hB.1) lcal_X3_learn gL_law_X3_learn rfl rfl rfl dL_law_1758 (fun J9 => ?_)
  refine Go.aload_n X 1 dL_law_1761 rfl ?_
  refine Go.arg X S 1 dL_law_1762 dL_law_1763 dL_law_1764 dL_law_1765 dL_law_1766 rfl (by omega) hL ?_
  refine Go.arg X S 2 dL_law_1767 dL_law_1768 dL_law_1769 dL_law_1770 dL_law_1771 rfl (by omega) hL ?_
  refine Go.callM X (e_learn g ad2 N K b z le rf hd ln vl at1 tk so va lm ol ah lt lo (xs (i + 1)) (xs (i + 2)) hB.1 hB.2.2.2.2.2 hm) lcal_X4_learn gL_law_X4_learn rfl rfl rfl dL_law_1772 (fun J4 hJ => ?_)
  exact Go.icmp_eq X 1852 dL_law_1775 rfl (fun _ => kk _ _ _ (k_learn hB (xs (i + 1)) (xs (i + 2))) hJ) (fun h => absurd rfl h)
set_option maxHeartbeats 4000000 in
set_option maxRecDepth 100000 in
theorem lwz_57 {Γ : GT} {g : gT} {b0 L : Nat} {xs : Nat → Int32} (X : Cx Γ g 4 cL_law RL wsL_law) (S : Sx Γ b0 L xs) (hL : L ≤ 3072) {i : Nat} (hi : i + 6 ≤ L) {ad ad2 : Nat → Nat} {B : Bx} {J : Jx} {J2 : Mx} (hB : bOk B) (hm : mOk B J2) (kk : LK Γ g b0 i ad ad2) : Go Γ g 4 room_1 46 1431 (LX g ad ad2 B J B J2) 1780 [(3, .int (nI i)), (2, .ref (ad2 0)), (1, .ref (ad 0)), (0, .ref b0)] [] := by
  obtain ⟨N, K, b, z, le, rf, hd, ln, vl⟩ := B
  obtain ⟨T, ts, te, tk0, br⟩ := J
  obtain ⟨aw, at1, tk, so, va, lm, ol, ah, lt, lo⟩ := J2
  obtain rfl : aw = 6 := hm.1
  refine Go.aload_n X 2 dL_law_1780 rfl ?_
  refine Go.arg X S 1 dL_law_1781 dL_law_1782 dL_law_1783 dL_law_1784 dL_law_1785 rfl (by omega) hL ?_
  refine Go.callC X (b_seed g ad N K b z le rf hd ln vl T ts te tk0 br (xs (i + 1))) lcal_X3_seed gL_law_X3_seed rfl rfl rfl dL_law_1786 (fun J9 => ?_)
  refine Go.aload_n X 1 dL_law_1789 rfl ?_
  refine Go.arg X S 1 dL_law_1790 dL_law_1791 dL_law_1792 dL_law_1793 dL_law_1794 rfl (by omega) hL ?_
  refine Go.callM X (e_seed g ad2 N K b z le rf hd ln vl at1 tk so va lm ol ah lt lo (xs (i + 1)) hm) lcal_X4_seed gL_law_X4_seed rfl rfl rfl dL_law_1795 (fun J4 hJ => ?_)
  exact Go.icmp_eq X 1852 dL_law_1798 rfl (fun _ => kk _ _ _ (k_seed hB (xs (i + 1))) hJ) (fun h => absurd rfl h)
set_option maxHeartbeats 4000000 in
set_option maxRecDepth 100000 in
theorem lwz_58 {Γ : GT} {g : gT} {b0 L : Nat} {xs : Nat → Int32} (X : Cx Γ g 4 cL_law RL wsL_law) (S : Sx Γ b0 L xs) (hL : L ≤ 3072) {i : Nat} (hi : i + 6 ≤ L) {ad ad2 : Nat → Nat} {B : Bx} {J : Jx} {J2 : Mx} (hB : bOk B) (hm : mOk B J2) (kk : LK Γ g b0 i ad ad2) : Go Γ g 4 room_1 46 1431 (LX g ad ad2 B J B J2) 1803 [(3, .int (nI i)), (2, .ref (ad2 0)), (1, .ref (ad 0)), (0, .ref b0)] [] := by
  obtain ⟨N, K, b, z, le, rf, hd, ln, vl⟩ := B
  obtain ⟨T, ts, te, tk0, br⟩ := J
  obtain ⟨aw, at1, tk, so, va, lm, ol, ah, lt, lo⟩ := J2
  obtain rfl : aw = 6 := hm.1
  refine Go.aload_n X 2 dL_law_1803 rfl ?_
  refine Go.callC X (b_image g ad N K b z le rf hd ln vl T ts te tk0 br hB.1) lcal_X3_image gL_law_X3_image rfl rfl rfl dL_law_1804 (fun J9 => ?_)
  refine Go.aload_n X 1 dL_law_1807 rfl ?_
  refine Go.callM X (e_image g ad2 N K b z le rf hd ln vl at1 tk so va lm ol ah lt lo hB.1 hB.2.2.2.2.2 hm) lcal_X4_image gL_law_X4_image rfl rfl rfl dL_law_1808 (fun J4 hJ => ?_)
  exact Go.icmp_eq X 1852 dL_law_1811 rfl (fun _ => kk _ _ _ (k_image hB) hJ) (fun h => absurd rfl h)
set_option maxHeartbeats 4000000 in
set_option maxRecDepth 100000 in
theorem lwz_59 {Γ : GT} {g : gT} {b0 L : Nat} {xs : Nat → Int32} (X : Cx Γ g 4 cL_law RL wsL_law) (S : Sx Γ b0 L xs) (hL : L ≤ 3072) {i : Nat} (hi : i + 6 ≤ L) {ad ad2 : Nat → Nat} {B : Bx} {J : Jx} {J2 : Mx} (hB : bOk B) (hm : mOk B J2) (kk : LK Γ g b0 i ad ad2) : Go Γ g 4 room_1 46 1431 (LX g ad ad2 B J B J2) 1816 [(3, .int (nI i)), (2, .ref (ad2 0)), (1, .ref (ad 0)), (0, .ref b0)] [] := by
  obtain ⟨N, K, b, z, le, rf, hd, ln, vl⟩ := B
  obtain ⟨T, ts, te, tk0, br⟩ := J
  obtain ⟨aw, at1, tk, so, va, lm, ol, ah, lt, lo⟩ := J2
  obtain rfl : aw = 6 := hm.1
  refine Go.aload_n X 2 dL_law_1816 rfl ?_
  refine Go.callC X (b_back g ad N K b z le rf hd ln vl T ts te tk0 br hB.2.1) lcal_X3_back gL_law_X3_back rfl rfl rfl dL_law_1817 (fun J9 => ?_)
  refine Go.aload_n X 1 dL_law_1820 rfl ?_
  refine Go.callM X (e_back g ad2 N K b z le rf hd ln vl at1 tk so va lm ol ah lt lo hB.1 hB.2.2.2.2.2 (fun _ => hB.2.1) hm) lcal_X4_back gL_law_X4_back rfl rfl rfl dL_law_1821 (fun J4 hJ => ?_)
  exact Go.icmp_eq X 1852 dL_law_1824 rfl (fun _ => kk _ _ _ (k_back hB) hJ) (fun h => absurd rfl h)
set_option maxHeartbeats 4000000 in
set_option maxRecDepth 100000 in
theorem lwz_60 {Γ : GT} {g : gT} {b0 L : Nat} {xs : Nat → Int32} (X : Cx Γ g 4 cL_law RL wsL_law) (S : Sx Γ b0 L xs) (hL : L ≤ 3072) {i : Nat} (hi : i + 6 ≤ L) {ad ad2 : Nat → Nat} {B : Bx} {J : Jx} {J2 : Mx} (hB : bOk B) (hm : mOk B J2) (kk : LK Γ g b0 i ad ad2) : Go Γ g 4 room_1 46 1431 (LX g ad ad2 B J B J2) 1829 [(3, .int (nI i)), (2, .ref (ad2 0)), (1, .ref (ad 0)), (0, .ref b0)] [] := by
  obtain ⟨N, K, b, z, le, rf, hd, ln, vl⟩ := B
  obtain ⟨T, ts, te, tk0, br⟩ := J
  obtain ⟨aw, at1, tk, so, va, lm, ol, ah, lt, lo⟩ := J2
  obtain rfl : aw = 6 := hm.1
  refine Go.aload_n X 2 dL_law_1829 rfl ?_
  refine Go.arg X S 1 dL_law_1830 dL_law_1831 dL_law_1832 dL_law_1833 dL_law_1834 rfl (by omega) hL ?_
  refine Go.callC X (b_status g ad N K b z le rf hd ln vl T ts te tk0 br (xs (i + 1)) hB.1) lcal_X3_status gL_law_X3_status rfl rfl rfl dL_law_1835 (fun J9 => ?_)
  refine Go.aload_n X 1 dL_law_1838 rfl ?_
  refine Go.arg X S 1 dL_law_1839 dL_law_1840 dL_law_1841 dL_law_1842 dL_law_1843 rfl (by omega) hL ?_
  refine Go.callM X (e_status g ad2 N K b z le rf hd ln vl at1 tk so va lm ol ah lt lo (xs (i + 1)) hB.1 hB.2.2.2.2.2 hm) lcal_X4_status gL_law_X4_status rfl rfl rfl dL_law_1844 (fun J4 hJ => ?_)
  exact Go.icmp_eq X 1852 dL_law_1847 rfl (fun _ => kk _ _ _ (k_status hB (xs (i + 1))) hJ) (fun h => absurd rfl h)
