set_option maxHeartbeats 4000000 in
set_option maxRecDepth 100000 in
theorem k_seen {p : Program} {l : Launch} {e : Env} {s : State} {m : MethodId} {args : Array Value} {below : List Frame} {meth : Method} {c : Code} {g : hG} {X0 : va_W} {o : Nat} {f : Nat → Int64} {Q : State → Prop} {S : hS} {cells slots b L h md t : Nat} {xs : Nat → Int32} (F : hF p l s m args meth c cL_law 8 wsL_law RL g) (hst : l.stackTraces = false) (hX : va_X b L xs s s.heap) (hb : b < s.heap.size) (hbA : b < g.2.2) (hL : L < 2 ^ 31) (ht : 8 * t + 8 ≤ L) (hc : cells + 9 ≤ room_1.cells) (hs : slots + 55 ≤ room_1.slots) (hJ : jS S h md) (kk : ∀ (f' : Nat → Int64) (S' : hS), jS S' h md → V p l e room_1 s m args below meth c 8 g (oX g X0 o f') Q S' (cells + 9) (slots + 55) [(0, .ref b), (1, .ref h), (2, .ref md), (3, .ref o), (4, .int (nI (8 * t)))] 1733 []) : V p l e room_1 s m args below meth c 8 g (oX g X0 o f) Q S cells slots [(0, .ref b), (1, .ref h), (2, .ref md), (3, .ref o), (4, .int (nI (8 * t)))] 1398 [] := by
  obtain ⟨sc, bk, ca, sa, ad, pa, ar, M, n, nc, ns, hG, hC, hM, hI⟩ := hJ
  have hCz := cC_z hC
  refine q_aload_n F 1 dL_law_1398 rfl rfl ?_
  refine q_aload_n F 0 dL_law_1399 rfl rfl ?_
  refine q_iload F dL_law_1400 rfl ?_
  refine q_iconst F dL_law_1402 hc_1 ?_
  refine q_iadd F dL_law_1403 ?_
  refine q_sld F hX hb hbA (nI_add (8 * t) 1) (by omega) hL dL_law_1404 ?_
  refine q_aload_n F 3 dL_law_1405 rfl rfl ?_
  refine q_callO F (c_L_seen hst hG hCz) gL_law_L_seen rfl hd_L_seen ⟨Nat.le_of_ble_eq_true rfl, Nat.le_of_ble_eq_true rfl⟩ rfl rfl (Nat.le_of_ble_eq_true rfl) dL_law_1406 ⟨Nat.le_trans (lw_b1 (Nat.le_of_ble_eq_true rfl)) hc, Nat.le_trans (lw_b1 (Nat.le_of_ble_eq_true rfl)) hs⟩ (fun r1 f1 S1 hw => ?_)
  refine q_istore F dL_law_1409 (by decide) rfl ?_
  have hM1 := mS_cl hM (pw1_cl hw (fun z => by obtain ⟨v, -, -, rfl, -⟩ := z; exact clF.rf _))
  refine q_aload_n F 2 dL_law_1411 rfl rfl ?_
  refine q_aload_n F 0 dL_law_1412 rfl rfl ?_
  refine q_iload F dL_law_1413 rfl ?_
  refine q_iconst F dL_law_1415 hc_1 ?_
  refine q_iadd F dL_law_1416 ?_
  refine q_sld F hX hb hbA (nI_add (8 * t) 1) (by omega) hL dL_law_1417 ?_
  refine q_callV_gi F (c_X5_seen hM1 hC.1.2.1 hC.1.2.2) gL_law_X5_seen rfl hd_X5_seen ⟨Nat.le_of_ble_eq_true rfl, Nat.le_of_ble_eq_true rfl⟩ hM1.1.1 rfl rfl rfl (Nat.le_of_ble_eq_true rfl) dL_law_1418 ⟨Nat.le_trans (lw_b2 (Nat.le_of_ble_eq_true rfl)) hc, Nat.le_trans (lw_b2 (Nat.le_of_ble_eq_true rfl)) hs⟩ (fun x2 S2 hp => ?_)
  have hT := j_seen hG hCz hI hw hp
  refine q_istore F dL_law_1421 (by decide) rfl ?_
  obtain ⟨hJ2, ⟨sc2, M2, hM2, hr2⟩, ha2⟩ := hT
  refine q_aload_n F 2 dL_law_1423 rfl rfl ?_
  refine q_callV_i F (c_X5_thrown hM2) gL_law_X5_thrown rfl hd_X5_thrown ⟨Nat.le_of_ble_eq_true rfl, Nat.le_of_ble_eq_true rfl⟩ hM2.1.1 rfl rfl rfl (Nat.le_of_ble_eq_true rfl) dL_law_1424 ⟨Nat.le_trans (lw_b3 (Nat.le_of_ble_eq_true rfl)) hc, Nat.le_trans (lw_b3 (Nat.le_of_ble_eq_true rfl)) hs⟩ ?_
  refine q_iload F dL_law_1427 rfl ?_
  refine q_icmp_eq F 1434 dL_law_1429 rfl (fun c1 => ?_) (fun c1 => absurd hr2 c1)
  refine q_iload F dL_law_1434 rfl ?_
  refine q_if_ne F 1451 dL_law_1436 rfl (fun c2 => ?_) (fun c2 => ?_)
  · skip
    refine q_goto F 1733 dL_law_1451 rfl ?_
    exact q_widen (lw_b3 (Nat.le_of_ble_eq_true rfl)) (lw_b3 (Nat.le_of_ble_eq_true rfl)) (q_to (kk _ _ hJ2) ⟨rfl, rfl, rfl, rfl, rfl, trivial⟩)
  refine q_aload_n F 3 dL_law_1439 rfl rfl ?_
  refine q_iconst F dL_law_1440 hc_0 ?_
  refine q_lald F dL_law_1441 ?_
  refine q_iload F dL_law_1442 rfl ?_
  refine q_i2l F dL_law_1444 ?_
  refine q_lcmp F (ha2 c2) dL_law_1445 ?_
  refine q_if_eq F 1451 dL_law_1446 rfl (fun c4 => ?_) (fun c4 => absurd rfl c4)
  refine q_goto F 1733 dL_law_1451 rfl ?_
  exact q_widen (lw_b3 (Nat.le_of_ble_eq_true rfl)) (lw_b3 (Nat.le_of_ble_eq_true rfl)) (q_to (kk _ _ hJ2) ⟨rfl, rfl, rfl, rfl, rfl, trivial⟩)

set_option maxHeartbeats 4000000 in
set_option maxRecDepth 100000 in
theorem k_end {p : Program} {l : Launch} {e : Env} {s : State} {m : MethodId} {args : Array Value} {below : List Frame} {meth : Method} {c : Code} {g : hG} {X0 : va_W} {o : Nat} {f : Nat → Int64} {Q : State → Prop} {S : hS} {cells slots b L h md t : Nat} {xs : Nat → Int32} (F : hF p l s m args meth c cL_law 8 wsL_law RL g) (hst : l.stackTraces = false) (hX : va_X b L xs s s.heap) (hb : b < s.heap.size) (hbA : b < g.2.2) (hL : L < 2 ^ 31) (ht : 8 * t + 8 ≤ L) (hc : cells + 9 ≤ room_1.cells) (hs : slots + 55 ≤ room_1.slots) (hJ : jS S h md) (kk : ∀ (f' : Nat → Int64) (S' : hS), jS S' h md → V p l e room_1 s m args below meth c 8 g (oX g X0 o f') Q S' (cells + 9) (slots + 55) [(0, .ref b), (1, .ref h), (2, .ref md), (3, .ref o), (4, .int (nI (8 * t)))] 1733 []) : V p l e room_1 s m args below meth c 8 g (oX g X0 o f) Q S cells slots [(0, .ref b), (1, .ref h), (2, .ref md), (3, .ref o), (4, .int (nI (8 * t)))] 1454 [] := by
  obtain ⟨sc, bk, ca, sa, ad, pa, ar, M, n, nc, ns, hG, hC, hM, hI⟩ := hJ
  have hCz := cC_z hC
  refine q_aload_n F 1 dL_law_1454 rfl rfl ?_
  refine q_aload_n F 0 dL_law_1455 rfl rfl ?_
  refine q_iload F dL_law_1456 rfl ?_
  refine q_iconst F dL_law_1458 hc_1 ?_
  refine q_iadd F dL_law_1459 ?_
  refine q_sld F hX hb hbA (nI_add (8 * t) 1) (by omega) hL dL_law_1460 ?_
  refine q_aload_n F 3 dL_law_1461 rfl rfl ?_
  refine q_callO F (c_L_end hst hG hCz) gL_law_L_end rfl hd_L_end ⟨Nat.le_of_ble_eq_true rfl, Nat.le_of_ble_eq_true rfl⟩ rfl rfl (Nat.le_of_ble_eq_true rfl) dL_law_1462 ⟨Nat.le_trans (lw_b1 (Nat.le_of_ble_eq_true rfl)) hc, Nat.le_trans (lw_b1 (Nat.le_of_ble_eq_true rfl)) hs⟩ (fun r1 f1 S1 hw => ?_)
  refine q_istore F dL_law_1465 (by decide) rfl ?_
  have hM1 := mS_cl hM (pw1_cl hw (fun z => by obtain ⟨v, -, -, rfl, -⟩ := z; exact clF.rf _))
  refine q_aload_n F 2 dL_law_1467 rfl rfl ?_
  refine q_aload_n F 0 dL_law_1468 rfl rfl ?_
  refine q_iload F dL_law_1469 rfl ?_
  refine q_iconst F dL_law_1471 hc_1 ?_
  refine q_iadd F dL_law_1472 ?_
  refine q_sld F hX hb hbA (nI_add (8 * t) 1) (by omega) hL dL_law_1473 ?_
  refine q_callV_gi F (c_X5_end hM1 hC.1.2.1 hC.1.2.2) gL_law_X5_end rfl hd_X5_end ⟨Nat.le_of_ble_eq_true rfl, Nat.le_of_ble_eq_true rfl⟩ hM1.1.1 rfl rfl rfl (Nat.le_of_ble_eq_true rfl) dL_law_1474 ⟨Nat.le_trans (lw_b2 (Nat.le_of_ble_eq_true rfl)) hc, Nat.le_trans (lw_b2 (Nat.le_of_ble_eq_true rfl)) hs⟩ (fun x2 S2 hp => ?_)
  have hT := j_end hG hCz hI hw hp
  refine q_istore F dL_law_1477 (by decide) rfl ?_
  obtain ⟨hJ2, ⟨sc2, M2, hM2, hr2⟩, ha2⟩ := hT
  refine q_aload_n F 2 dL_law_1479 rfl rfl ?_
  refine q_callV_i F (c_X5_thrown hM2) gL_law_X5_thrown rfl hd_X5_thrown ⟨Nat.le_of_ble_eq_true rfl, Nat.le_of_ble_eq_true rfl⟩ hM2.1.1 rfl rfl rfl (Nat.le_of_ble_eq_true rfl) dL_law_1480 ⟨Nat.le_trans (lw_b3 (Nat.le_of_ble_eq_true rfl)) hc, Nat.le_trans (lw_b3 (Nat.le_of_ble_eq_true rfl)) hs⟩ ?_
  refine q_iload F dL_law_1483 rfl ?_
  refine q_icmp_eq F 1490 dL_law_1485 rfl (fun c1 => ?_) (fun c1 => absurd hr2 c1)
  refine q_iload F dL_law_1490 rfl ?_
  refine q_if_ne F 1507 dL_law_1492 rfl (fun c2 => ?_) (fun c2 => ?_)
  · skip
    refine q_goto F 1733 dL_law_1507 rfl ?_
    exact q_widen (lw_b3 (Nat.le_of_ble_eq_true rfl)) (lw_b3 (Nat.le_of_ble_eq_true rfl)) (q_to (kk _ _ hJ2) ⟨rfl, rfl, rfl, rfl, rfl, trivial⟩)
  refine q_aload_n F 3 dL_law_1495 rfl rfl ?_
  refine q_iconst F dL_law_1496 hc_0 ?_
  refine q_lald F dL_law_1497 ?_
  refine q_iload F dL_law_1498 rfl ?_
  refine q_i2l F dL_law_1500 ?_
  refine q_lcmp F (ha2 c2) dL_law_1501 ?_
  refine q_if_eq F 1507 dL_law_1502 rfl (fun c4 => ?_) (fun c4 => absurd rfl c4)
  refine q_goto F 1733 dL_law_1507 rfl ?_
  exact q_widen (lw_b3 (Nat.le_of_ble_eq_true rfl)) (lw_b3 (Nat.le_of_ble_eq_true rfl)) (q_to (kk _ _ hJ2) ⟨rfl, rfl, rfl, rfl, rfl, trivial⟩)

set_option maxHeartbeats 4000000 in
set_option maxRecDepth 100000 in
theorem k_matches {p : Program} {l : Launch} {e : Env} {s : State} {m : MethodId} {args : Array Value} {below : List Frame} {meth : Method} {c : Code} {g : hG} {X0 : va_W} {o : Nat} {f : Nat → Int64} {Q : State → Prop} {S : hS} {cells slots b L h md t : Nat} {xs : Nat → Int32} (F : hF p l s m args meth c cL_law 8 wsL_law RL g) (hst : l.stackTraces = false) (hX : va_X b L xs s s.heap) (hb : b < s.heap.size) (hbA : b < g.2.2) (hL : L < 2 ^ 31) (ht : 8 * t + 8 ≤ L) (hc : cells + 9 ≤ room_1.cells) (hs : slots + 55 ≤ room_1.slots) (hJ : jS S h md) (kk : ∀ (f' : Nat → Int64) (S' : hS), jS S' h md → V p l e room_1 s m args below meth c 8 g (oX g X0 o f') Q S' (cells + 9) (slots + 55) [(0, .ref b), (1, .ref h), (2, .ref md), (3, .ref o), (4, .int (nI (8 * t)))] 1733 []) : V p l e room_1 s m args below meth c 8 g (oX g X0 o f) Q S cells slots [(0, .ref b), (1, .ref h), (2, .ref md), (3, .ref o), (4, .int (nI (8 * t)))] 1510 [] := by
  obtain ⟨sc, bk, ca, sa, ad, pa, ar, M, n, nc, ns, hG, hC, hM, hI⟩ := hJ
  have hCz := cC_z hC
  refine q_aload_n F 1 dL_law_1510 rfl rfl ?_
  refine q_aload_n F 0 dL_law_1511 rfl rfl ?_
  refine q_iload F dL_law_1512 rfl ?_
  refine q_iconst F dL_law_1514 hc_1 ?_
  refine q_iadd F dL_law_1515 ?_
  refine q_sld F hX hb hbA (nI_add (8 * t) 1) (by omega) hL dL_law_1516 ?_
  refine q_aload_n F 0 dL_law_1517 rfl rfl ?_
  refine q_iload F dL_law_1518 rfl ?_
  refine q_iconst F dL_law_1520 hc_2 ?_
  refine q_iadd F dL_law_1521 ?_
  refine q_sld F hX hb hbA (nI_add (8 * t) 2) (by omega) hL dL_law_1522 ?_
  refine q_aload_n F 0 dL_law_1523 rfl rfl ?_
  refine q_iload F dL_law_1524 rfl ?_
  refine q_iconst F dL_law_1526 hc_3 ?_
  refine q_iadd F dL_law_1527 ?_
  refine q_sld F hX hb hbA (nI_add (8 * t) 3) (by omega) hL dL_law_1528 ?_
  refine q_aload_n F 3 dL_law_1529 rfl rfl ?_
  refine q_callO F (c_L_matches hst hG hCz) gL_law_L_matches rfl hd_L_matches ⟨Nat.le_of_ble_eq_true rfl, Nat.le_of_ble_eq_true rfl⟩ rfl rfl (Nat.le_of_ble_eq_true rfl) dL_law_1530 ⟨Nat.le_trans (lw_b1 (Nat.le_of_ble_eq_true rfl)) hc, Nat.le_trans (lw_b1 (Nat.le_of_ble_eq_true rfl)) hs⟩ (fun r1 f1 S1 hw => ?_)
  refine q_istore F dL_law_1533 (by decide) rfl ?_
  have hM1 := mS_cl hM (pw2_cl hw (fun z => by obtain ⟨-, rfl, -, -⟩ := z; exact clF.rf _))
  refine q_aload_n F 2 dL_law_1535 rfl rfl ?_
  refine q_aload_n F 0 dL_law_1536 rfl rfl ?_
  refine q_iload F dL_law_1537 rfl ?_
  refine q_iconst F dL_law_1539 hc_1 ?_
  refine q_iadd F dL_law_1540 ?_
  refine q_sld F hX hb hbA (nI_add (8 * t) 1) (by omega) hL dL_law_1541 ?_
  refine q_aload_n F 0 dL_law_1542 rfl rfl ?_
  refine q_iload F dL_law_1543 rfl ?_
  refine q_iconst F dL_law_1545 hc_2 ?_
  refine q_iadd F dL_law_1546 ?_
  refine q_sld F hX hb hbA (nI_add (8 * t) 2) (by omega) hL dL_law_1547 ?_
  refine q_aload_n F 0 dL_law_1548 rfl rfl ?_
  refine q_iload F dL_law_1549 rfl ?_
  refine q_iconst F dL_law_1551 hc_3 ?_
  refine q_iadd F dL_law_1552 ?_
  refine q_sld F hX hb hbA (nI_add (8 * t) 3) (by omega) hL dL_law_1553 ?_
  refine q_callV_gi F (c_X5_matches hM1 hC.1.2.1 hC.1.2.2 (cC_sz hC)) gL_law_X5_matches rfl hd_X5_matches ⟨Nat.le_of_ble_eq_true rfl, Nat.le_of_ble_eq_true rfl⟩ hM1.1.1 rfl rfl rfl (Nat.le_of_ble_eq_true rfl) dL_law_1554 ⟨Nat.le_trans (lw_b2 (Nat.le_of_ble_eq_true rfl)) hc, Nat.le_trans (lw_b2 (Nat.le_of_ble_eq_true rfl)) hs⟩ (fun x2 S2 hp => ?_)
  have hT := j_matches hG hCz hI hw hp
  refine q_istore F dL_law_1557 (by decide) rfl ?_
  obtain ⟨hJ2, ⟨sc2, M2, hM2, hr2⟩, ha2⟩ := hT
  refine q_aload_n F 2 dL_law_1559 rfl rfl ?_
  refine q_callV_i F (c_X5_thrown hM2) gL_law_X5_thrown rfl hd_X5_thrown ⟨Nat.le_of_ble_eq_true rfl, Nat.le_of_ble_eq_true rfl⟩ hM2.1.1 rfl rfl rfl (Nat.le_of_ble_eq_true rfl) dL_law_1560 ⟨Nat.le_trans (lw_b3 (Nat.le_of_ble_eq_true rfl)) hc, Nat.le_trans (lw_b3 (Nat.le_of_ble_eq_true rfl)) hs⟩ ?_
  refine q_iload F dL_law_1563 rfl ?_
  refine q_icmp_eq F 1570 dL_law_1565 rfl (fun c1 => ?_) (fun c1 => absurd hr2 c1)
  refine q_iload F dL_law_1570 rfl ?_
  refine q_if_ne F 1594 dL_law_1572 rfl (fun c2 => ?_) (fun c2 => ?_)
  · skip
    refine q_goto F 1733 dL_law_1594 rfl ?_
    exact q_widen (lw_b3 (Nat.le_of_ble_eq_true rfl)) (lw_b3 (Nat.le_of_ble_eq_true rfl)) (q_to (kk _ _ hJ2) ⟨rfl, rfl, rfl, rfl, rfl, trivial⟩)
  refine q_aload_n F 3 dL_law_1575 rfl rfl ?_
  refine q_iconst F dL_law_1576 hc_0 ?_
  refine q_lald F dL_law_1577 ?_
  refine q_iload F dL_law_1578 rfl ?_
  refine q_bl F 1587 dL_law_1580 rfl dL_law_1583 dL_law_1584 rfl dL_law_1587 ?_
  refine q_lcmp F (ha2 c2) dL_law_1588 ?_
  refine q_if_eq F 1594 dL_law_1589 rfl (fun c4 => ?_) (fun c4 => absurd rfl c4)
  refine q_goto F 1733 dL_law_1594 rfl ?_
  exact q_widen (lw_b3 (Nat.le_of_ble_eq_true rfl)) (lw_b3 (Nat.le_of_ble_eq_true rfl)) (q_to (kk _ _ hJ2) ⟨rfl, rfl, rfl, rfl, rfl, trivial⟩)

set_option maxHeartbeats 4000000 in
set_option maxRecDepth 100000 in
theorem k_find {p : Program} {l : Launch} {e : Env} {s : State} {m : MethodId} {args : Array Value} {below : List Frame} {meth : Method} {c : Code} {g : hG} {X0 : va_W} {o : Nat} {f : Nat → Int64} {Q : State → Prop} {S : hS} {cells slots b L h md t : Nat} {xs : Nat → Int32} (F : hF p l s m args meth c cL_law 8 wsL_law RL g) (hst : l.stackTraces = false) (hX : va_X b L xs s s.heap) (hb : b < s.heap.size) (hbA : b < g.2.2) (hL : L < 2 ^ 31) (ht : 8 * t + 8 ≤ L) (hc : cells + 9 ≤ room_1.cells) (hs : slots + 55 ≤ room_1.slots) (hJ : jS S h md) (kk : ∀ (f' : Nat → Int64) (S' : hS), jS S' h md → V p l e room_1 s m args below meth c 8 g (oX g X0 o f') Q S' (cells + 9) (slots + 55) [(0, .ref b), (1, .ref h), (2, .ref md), (3, .ref o), (4, .int (nI (8 * t)))] 1733 []) : V p l e room_1 s m args below meth c 8 g (oX g X0 o f) Q S cells slots [(0, .ref b), (1, .ref h), (2, .ref md), (3, .ref o), (4, .int (nI (8 * t)))] 1597 [] := by
  obtain ⟨sc, bk, ca, sa, ad, pa, ar, M, n, nc, ns, hG, hC, hM, hI⟩ := hJ
  have hCz := cC_z hC
  refine q_aload_n F 1 dL_law_1597 rfl rfl ?_
  refine q_aload_n F 0 dL_law_1598 rfl rfl ?_
  refine q_iload F dL_law_1599 rfl ?_
  refine q_iconst F dL_law_1601 hc_1 ?_
  refine q_iadd F dL_law_1602 ?_
  refine q_sld F hX hb hbA (nI_add (8 * t) 1) (by omega) hL dL_law_1603 ?_
  refine q_aload_n F 0 dL_law_1604 rfl rfl ?_
  refine q_iload F dL_law_1605 rfl ?_
  refine q_iconst F dL_law_1607 hc_2 ?_
  refine q_iadd F dL_law_1608 ?_
  refine q_sld F hX hb hbA (nI_add (8 * t) 2) (by omega) hL dL_law_1609 ?_
  refine q_aload_n F 3 dL_law_1610 rfl rfl ?_
  refine q_callO F (c_L_find hst hG hCz) gL_law_L_find rfl hd_L_find ⟨Nat.le_of_ble_eq_true rfl, Nat.le_of_ble_eq_true rfl⟩ rfl rfl (Nat.le_of_ble_eq_true rfl) dL_law_1611 ⟨Nat.le_trans (lw_b1 (Nat.le_of_ble_eq_true rfl)) hc, Nat.le_trans (lw_b1 (Nat.le_of_ble_eq_true rfl)) hs⟩ (fun r1 f1 S1 hw => ?_)
  refine q_istore F dL_law_1614 (by decide) rfl ?_
  have hM1 := mS_cl hM (pw1_cl hw (fun z => by obtain ⟨v, -, -, rfl, -⟩ := z; exact clF.rf _))
  refine q_aload_n F 2 dL_law_1616 rfl rfl ?_
  refine q_aload_n F 0 dL_law_1617 rfl rfl ?_
  refine q_iload F dL_law_1618 rfl ?_
  refine q_iconst F dL_law_1620 hc_1 ?_
  refine q_iadd F dL_law_1621 ?_
  refine q_sld F hX hb hbA (nI_add (8 * t) 1) (by omega) hL dL_law_1622 ?_
  refine q_aload_n F 0 dL_law_1623 rfl rfl ?_
  refine q_iload F dL_law_1624 rfl ?_
  refine q_iconst F dL_law_1626 hc_2 ?_
  refine q_iadd F dL_law_1627 ?_
  refine q_sld F hX hb hbA (nI_add (8 * t) 2) (by omega) hL dL_law_1628 ?_
  refine q_callV_gi F (c_X5_find hM1 hC.1.2.1 hC.1.2.2 (cC_sz hC)) gL_law_X5_find rfl hd_X5_find ⟨Nat.le_of_ble_eq_true rfl, Nat.le_of_ble_eq_true rfl⟩ hM1.1.1 rfl rfl rfl (Nat.le_of_ble_eq_true rfl) dL_law_1629 ⟨Nat.le_trans (lw_b2 (Nat.le_of_ble_eq_true rfl)) hc, Nat.le_trans (lw_b2 (Nat.le_of_ble_eq_true rfl)) hs⟩ (fun x2 S2 hp => ?_)
  have hT := j_find hG hCz hI hw hp
  refine q_istore F dL_law_1632 (by decide) rfl ?_
  obtain ⟨hJ2, ⟨sc2, M2, hM2, hr2⟩, ha2⟩ := hT
  refine q_aload_n F 2 dL_law_1634 rfl rfl ?_
  refine q_callV_i F (c_X5_thrown hM2) gL_law_X5_thrown rfl hd_X5_thrown ⟨Nat.le_of_ble_eq_true rfl, Nat.le_of_ble_eq_true rfl⟩ hM2.1.1 rfl rfl rfl (Nat.le_of_ble_eq_true rfl) dL_law_1635 ⟨Nat.le_trans (lw_b3 (Nat.le_of_ble_eq_true rfl)) hc, Nat.le_trans (lw_b3 (Nat.le_of_ble_eq_true rfl)) hs⟩ ?_
  refine q_iload F dL_law_1638 rfl ?_
  refine q_icmp_eq F 1645 dL_law_1640 rfl (fun c1 => ?_) (fun c1 => absurd hr2 c1)
  refine q_iload F dL_law_1645 rfl ?_
  refine q_if_ne F 1662 dL_law_1647 rfl (fun c2 => ?_) (fun c2 => ?_)
  · skip
    refine q_goto F 1733 dL_law_1662 rfl ?_
    exact q_widen (lw_b3 (Nat.le_of_ble_eq_true rfl)) (lw_b3 (Nat.le_of_ble_eq_true rfl)) (q_to (kk _ _ hJ2) ⟨rfl, rfl, rfl, rfl, rfl, trivial⟩)
  refine q_aload_n F 3 dL_law_1650 rfl rfl ?_
  refine q_iconst F dL_law_1651 hc_0 ?_
  refine q_lald F dL_law_1652 ?_
  refine q_iload F dL_law_1653 rfl ?_
  refine q_i2l F dL_law_1655 ?_
  refine q_lcmp F (ha2 c2) dL_law_1656 ?_
  refine q_if_eq F 1662 dL_law_1657 rfl (fun c4 => ?_) (fun c4 => absurd rfl c4)
  refine q_goto F 1733 dL_law_1662 rfl ?_
  exact q_widen (lw_b3 (Nat.le_of_ble_eq_true rfl)) (lw_b3 (Nat.le_of_ble_eq_true rfl)) (q_to (kk _ _ hJ2) ⟨rfl, rfl, rfl, rfl, rfl, trivial⟩)

set_option maxHeartbeats 4000000 in
set_option maxRecDepth 100000 in
theorem k_linesOf {p : Program} {l : Launch} {e : Env} {s : State} {m : MethodId} {args : Array Value} {below : List Frame} {meth : Method} {c : Code} {g : hG} {X0 : va_W} {o : Nat} {f : Nat → Int64} {Q : State → Prop} {S : hS} {cells slots b L h md t : Nat} {xs : Nat → Int32} (F : hF p l s m args meth c cL_law 8 wsL_law RL g) (hst : l.stackTraces = false) (hX : va_X b L xs s s.heap) (hb : b < s.heap.size) (hbA : b < g.2.2) (hL : L < 2 ^ 31) (ht : 8 * t + 8 ≤ L) (hc : cells + 9 ≤ room_1.cells) (hs : slots + 55 ≤ room_1.slots) (hJ : jS S h md) (kk : ∀ (f' : Nat → Int64) (S' : hS), jS S' h md → V p l e room_1 s m args below meth c 8 g (oX g X0 o f') Q S' (cells + 9) (slots + 55) [(0, .ref b), (1, .ref h), (2, .ref md), (3, .ref o), (4, .int (nI (8 * t)))] 1733 []) : V p l e room_1 s m args below meth c 8 g (oX g X0 o f) Q S cells slots [(0, .ref b), (1, .ref h), (2, .ref md), (3, .ref o), (4, .int (nI (8 * t)))] 1665 [] := by
  obtain ⟨sc, bk, ca, sa, ad, pa, ar, M, n, nc, ns, hG, hC, hM, hI⟩ := hJ
  have hCz := cC_z hC
  refine q_aload_n F 1 dL_law_1665 rfl rfl ?_
  refine q_aload_n F 0 dL_law_1666 rfl rfl ?_
  refine q_iload F dL_law_1667 rfl ?_
  refine q_iconst F dL_law_1669 hc_1 ?_
  refine q_iadd F dL_law_1670 ?_
  refine q_sld F hX hb hbA (nI_add (8 * t) 1) (by omega) hL dL_law_1671 ?_
  refine q_aload_n F 3 dL_law_1672 rfl rfl ?_
  refine q_callO F (c_L_linesOf hst hG hCz) gL_law_L_linesOf rfl hd_L_linesOf ⟨Nat.le_of_ble_eq_true rfl, Nat.le_of_ble_eq_true rfl⟩ rfl rfl (Nat.le_of_ble_eq_true rfl) dL_law_1673 ⟨Nat.le_trans (lw_b1 (Nat.le_of_ble_eq_true rfl)) hc, Nat.le_trans (lw_b1 (Nat.le_of_ble_eq_true rfl)) hs⟩ (fun r1 f1 S1 hw => ?_)
  refine q_istore F dL_law_1676 (by decide) rfl ?_
  have hM1 := mS_cl hM (pw1_cl hw (fun z => by obtain ⟨-, rfl, -⟩ := z; exact clF.rf _))
  refine q_aload_n F 2 dL_law_1678 rfl rfl ?_
  refine q_aload_n F 0 dL_law_1679 rfl rfl ?_
  refine q_iload F dL_law_1680 rfl ?_
  refine q_iconst F dL_law_1682 hc_1 ?_
  refine q_iadd F dL_law_1683 ?_
  refine q_sld F hX hb hbA (nI_add (8 * t) 1) (by omega) hL dL_law_1684 ?_
  refine q_callV_gl F (c_X5_linesOf hM1 hC.1.2.1 hC.1.2.2) gL_law_X5_linesOf rfl hd_X5_linesOf ⟨Nat.le_of_ble_eq_true rfl, Nat.le_of_ble_eq_true rfl⟩ hM1.1.1 rfl rfl rfl (Nat.le_of_ble_eq_true rfl) dL_law_1685 ⟨Nat.le_trans (lw_b2 (Nat.le_of_ble_eq_true rfl)) hc, Nat.le_trans (lw_b2 (Nat.le_of_ble_eq_true rfl)) hs⟩ (fun x2 S2 hp => ?_)
  have hT := j_linesOf hG hCz hI hw hp
  refine q_lstore F dL_law_1688 (by decide) rfl ?_
  obtain ⟨hJ2, ⟨sc2, M2, hM2, hr2⟩, ha2⟩ := hT
  refine q_aload_n F 2 dL_law_1690 rfl rfl ?_
  refine q_callV_i F (c_X5_thrown hM2) gL_law_X5_thrown rfl hd_X5_thrown ⟨Nat.le_of_ble_eq_true rfl, Nat.le_of_ble_eq_true rfl⟩ hM2.1.1 rfl rfl rfl (Nat.le_of_ble_eq_true rfl) dL_law_1691 ⟨Nat.le_trans (lw_b3 (Nat.le_of_ble_eq_true rfl)) hc, Nat.le_trans (lw_b3 (Nat.le_of_ble_eq_true rfl)) hs⟩ ?_
  refine q_iload F dL_law_1694 rfl ?_
  refine q_icmp_eq F 1701 dL_law_1696 rfl (fun c1 => ?_) (fun c1 => absurd hr2 c1)
  refine q_iload F dL_law_1701 rfl ?_
  refine q_if_ne F 1717 dL_law_1703 rfl (fun c2 => ?_) (fun c2 => ?_)
  · skip
    refine q_goto F 1733 dL_law_1717 rfl ?_
    exact q_widen (lw_b3 (Nat.le_of_ble_eq_true rfl)) (lw_b3 (Nat.le_of_ble_eq_true rfl)) (q_to (kk _ _ hJ2) ⟨rfl, rfl, rfl, rfl, rfl, trivial⟩)
  refine q_aload_n F 3 dL_law_1706 rfl rfl ?_
  refine q_iconst F dL_law_1707 hc_0 ?_
  refine q_lald F dL_law_1708 ?_
  refine q_lload F dL_law_1709 rfl ?_
  refine q_lcmp F (ha2 c2) dL_law_1711 ?_
  refine q_if_eq F 1717 dL_law_1712 rfl (fun c4 => ?_) (fun c4 => absurd rfl c4)
  refine q_goto F 1733 dL_law_1717 rfl ?_
  exact q_widen (lw_b3 (Nat.le_of_ble_eq_true rfl)) (lw_b3 (Nat.le_of_ble_eq_true rfl)) (q_to (kk _ _ hJ2) ⟨rfl, rfl, rfl, rfl, rfl, trivial⟩)

set_option maxHeartbeats 4000000 in
set_option maxRecDepth 100000 in
theorem k_day {p : Program} {l : Launch} {e : Env} {s : State} {m : MethodId} {args : Array Value} {below : List Frame} {meth : Method} {c : Code} {g : hG} {X0 : va_W} {o : Nat} {f : Nat → Int64} {Q : State → Prop} {S : hS} {cells slots b L h md t : Nat} {xs : Nat → Int32} (F : hF p l s m args meth c cL_law 8 wsL_law RL g) (hst : l.stackTraces = false) (hX : va_X b L xs s s.heap) (hb : b < s.heap.size) (hbA : b < g.2.2) (hL : L < 2 ^ 31) (ht : 8 * t + 8 ≤ L) (hc : cells + 9 ≤ room_1.cells) (hs : slots + 55 ≤ room_1.slots) (hJ : jS S h md) (kk : ∀ (f' : Nat → Int64) (S' : hS), jS S' h md → V p l e room_1 s m args below meth c 8 g (oX g X0 o f') Q S' (cells + 9) (slots + 55) [(0, .ref b), (1, .ref h), (2, .ref md), (3, .ref o), (4, .int (nI (8 * t)))] 1733 []) : V p l e room_1 s m args below meth c 8 g (oX g X0 o f) Q S cells slots [(0, .ref b), (1, .ref h), (2, .ref md), (3, .ref o), (4, .int (nI (8 * t)))] 1316 [] := by
  obtain ⟨sc, bk, ca, sa, ad, pa, ar, M, n, nc, ns, hG, hC, hM, hI⟩ := hJ
  refine q_aload_n F 1 dL_law_1316 rfl rfl ?_
  refine q_callV_i F (c_X4_day hG.1) gL_law_X4_day rfl hd_X4_day ⟨Nat.le_of_ble_eq_true rfl, Nat.le_of_ble_eq_true rfl⟩ hG.1 rfl rfl rfl (Nat.le_of_ble_eq_true rfl) dL_law_1317 ⟨Nat.le_trans (lw_b1 (Nat.le_of_ble_eq_true rfl)) hc, Nat.le_trans (lw_b1 (Nat.le_of_ble_eq_true rfl)) hs⟩ ?_
  refine q_aload_n F 2 dL_law_1320 rfl rfl ?_
  refine q_callV_gi F (c_X5_day hM) gL_law_X5_day rfl hd_X5_day ⟨Nat.le_of_ble_eq_true rfl, Nat.le_of_ble_eq_true rfl⟩ hM.1.1 rfl rfl rfl (Nat.le_of_ble_eq_true rfl) dL_law_1321 ⟨Nat.le_trans (lw_b2 (Nat.le_of_ble_eq_true rfl)) hc, Nat.le_trans (lw_b2 (Nat.le_of_ble_eq_true rfl)) hs⟩ (fun x2 S2 hp => ?_)
  obtain ⟨hx, hM2, hm2⟩ := hp
  refine q_icmp_eq F 1733 dL_law_1324 rfl (fun c1 => ?_) (fun c1 => absurd (hC.2.2.2.2.1.1.trans hx.symm) c1)
  exact q_widen (lw_b2 (Nat.le_of_ble_eq_true rfl)) (lw_b2 (Nat.le_of_ble_eq_true rfl)) (q_to (kk _ _ (j_read hG hC hI hm2 hM2)) ⟨rfl, rfl, rfl, rfl, rfl, trivial⟩)

set_option maxHeartbeats 4000000 in
set_option maxRecDepth 100000 in
theorem k_lines {p : Program} {l : Launch} {e : Env} {s : State} {m : MethodId} {args : Array Value} {below : List Frame} {meth : Method} {c : Code} {g : hG} {X0 : va_W} {o : Nat} {f : Nat → Int64} {Q : State → Prop} {S : hS} {cells slots b L h md t : Nat} {xs : Nat → Int32} (F : hF p l s m args meth c cL_law 8 wsL_law RL g) (hst : l.stackTraces = false) (hX : va_X b L xs s s.heap) (hb : b < s.heap.size) (hbA : b < g.2.2) (hL : L < 2 ^ 31) (ht : 8 * t + 8 ≤ L) (hc : cells + 9 ≤ room_1.cells) (hs : slots + 55 ≤ room_1.slots) (hJ : jS S h md) (kk : ∀ (f' : Nat → Int64) (S' : hS), jS S' h md → V p l e room_1 s m args below meth c 8 g (oX g X0 o f') Q S' (cells + 9) (slots + 55) [(0, .ref b), (1, .ref h), (2, .ref md), (3, .ref o), (4, .int (nI (8 * t)))] 1733 []) : V p l e room_1 s m args below meth c 8 g (oX g X0 o f) Q S cells slots [(0, .ref b), (1, .ref h), (2, .ref md), (3, .ref o), (4, .int (nI (8 * t)))] 1329 [] := by
  obtain ⟨sc, bk, ca, sa, ad, pa, ar, M, n, nc, ns, hG, hC, hM, hI⟩ := hJ
  refine q_aload_n F 1 dL_law_1329 rfl rfl ?_
  refine q_callV_i F (c_X4_lines hG.1) gL_law_X4_lines rfl hd_X4_lines ⟨Nat.le_of_ble_eq_true rfl, Nat.le_of_ble_eq_true rfl⟩ hG.1 rfl rfl rfl (Nat.le_of_ble_eq_true rfl) dL_law_1330 ⟨Nat.le_trans (lw_b1 (Nat.le_of_ble_eq_true rfl)) hc, Nat.le_trans (lw_b1 (Nat.le_of_ble_eq_true rfl)) hs⟩ ?_
  refine q_aload_n F 2 dL_law_1333 rfl rfl ?_
  refine q_callV_gi F (c_X5_lines hM) gL_law_X5_lines rfl hd_X5_lines ⟨Nat.le_of_ble_eq_true rfl, Nat.le_of_ble_eq_true rfl⟩ hM.1.1 rfl rfl rfl (Nat.le_of_ble_eq_true rfl) dL_law_1334 ⟨Nat.le_trans (lw_b2 (Nat.le_of_ble_eq_true rfl)) hc, Nat.le_trans (lw_b2 (Nat.le_of_ble_eq_true rfl)) hs⟩ (fun x2 S2 hp => ?_)
  obtain ⟨hx, hM2, hm2⟩ := hp
  refine q_icmp_eq F 1733 dL_law_1337 rfl (fun c1 => ?_) (fun c1 => absurd ((hC.1.1.trans hC.1.2.1.symm).trans hx.symm) c1)
  exact q_widen (lw_b2 (Nat.le_of_ble_eq_true rfl)) (lw_b2 (Nat.le_of_ble_eq_true rfl)) (q_to (kk _ _ (j_read hG hC hI hm2 hM2)) ⟨rfl, rfl, rfl, rfl, rfl, trivial⟩)

set_option maxHeartbeats 4000000 in
set_option maxRecDepth 100000 in
theorem k_waiting {p : Program} {l : Launch} {e : Env} {s : State} {m : MethodId} {args : Array Value} {below : List Frame} {meth : Method} {c : Code} {g : hG} {X0 : va_W} {o : Nat} {f : Nat → Int64} {Q : State → Prop} {S : hS} {cells slots b L h md t : Nat} {xs : Nat → Int32} (F : hF p l s m args meth c cL_law 8 wsL_law RL g) (hst : l.stackTraces = false) (hX : va_X b L xs s s.heap) (hb : b < s.heap.size) (hbA : b < g.2.2) (hL : L < 2 ^ 31) (ht : 8 * t + 8 ≤ L) (hc : cells + 9 ≤ room_1.cells) (hs : slots + 55 ≤ room_1.slots) (hJ : jS S h md) (kk : ∀ (f' : Nat → Int64) (S' : hS), jS S' h md → V p l e room_1 s m args below meth c 8 g (oX g X0 o f') Q S' (cells + 9) (slots + 55) [(0, .ref b), (1, .ref h), (2, .ref md), (3, .ref o), (4, .int (nI (8 * t)))] 1733 []) : V p l e room_1 s m args below meth c 8 g (oX g X0 o f) Q S cells slots [(0, .ref b), (1, .ref h), (2, .ref md), (3, .ref o), (4, .int (nI (8 * t)))] 1720 [] := by
  obtain ⟨sc, bk, ca, sa, ad, pa, ar, M, n, nc, ns, hG, hC, hM, hI⟩ := hJ
  refine q_aload_n F 1 dL_law_1720 rfl rfl ?_
  refine q_callV_i F (c_X4_waiting hG.1) gL_law_X4_waiting rfl hd_X4_waiting ⟨Nat.le_of_ble_eq_true rfl, Nat.le_of_ble_eq_true rfl⟩ hG.1 rfl rfl rfl (Nat.le_of_ble_eq_true rfl) dL_law_1721 ⟨Nat.le_trans (lw_b1 (Nat.le_of_ble_eq_true rfl)) hc, Nat.le_trans (lw_b1 (Nat.le_of_ble_eq_true rfl)) hs⟩ ?_
  refine q_aload_n F 2 dL_law_1724 rfl rfl ?_
  refine q_callV_gi F (c_X5_waiting hM) gL_law_X5_waiting rfl hd_X5_waiting ⟨Nat.le_of_ble_eq_true rfl, Nat.le_of_ble_eq_true rfl⟩ hM.1.1 rfl rfl rfl (Nat.le_of_ble_eq_true rfl) dL_law_1725 ⟨Nat.le_trans (lw_b2 (Nat.le_of_ble_eq_true rfl)) hc, Nat.le_trans (lw_b2 (Nat.le_of_ble_eq_true rfl)) hs⟩ (fun x2 S2 hp => ?_)
  obtain ⟨hx, hM2, hm2⟩ := hp
  refine q_icmp_eq F 1733 dL_law_1728 rfl (fun c1 => ?_) (fun c1 => absurd (hC.2.2.2.2.2.1.1.trans hx.symm) c1)
  exact q_widen (lw_b2 (Nat.le_of_ble_eq_true rfl)) (lw_b2 (Nat.le_of_ble_eq_true rfl)) (q_to (kk _ _ (j_read hG hC hI hm2 hM2)) ⟨rfl, rfl, rfl, rfl, rfl, trivial⟩)
