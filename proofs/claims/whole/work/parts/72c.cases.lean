/-! ===== the law, case by case ===== -/
set_option maxRecDepth 100000 in
set_option maxHeartbeats 4000000 in
theorem lc_20 (g : Geo) {p : Program} (l : Launch) {e : Env} {s : State} {m : MethodId} {args : Array Value} {below : List Frame} {meth : Method} {c : Code} {k0 n0 : Nat} {Q : State → Prop} {b L : Nat} {xs : Nat → Int32} (hl9 : l.stackTraces = false) (X : Cx g p l room_1 s m args meth c cL_law 9 RL wsL_law) (hX : va_X b L xs s s.heap) (hbl : b < s.heap.size) (hbA : ¬ gA g b) (hL : L ≤ 2560) (t : Nat) (ht : 5 * t + 5 ≤ L) {σ : St} (hN : Nx σ) (hk9 : k0 + 5 ≤ 601024) (hn9 : n0 + 30 ≤ 7293034) (kk : ∀ u, Nx u → V g p l e room_1 s m args below meth c 9 (k0 + 5) (n0 + 30) Q u 2387 (lvL g b t) []) : V g p l e room_1 s m args below meth c 9 k0 n0 Q σ 1457 (lvL g b t) [] := by
  obtain ⟨n, ty, R, D, h, hU⟩ := id hN
  refine V_lv (lv' := [(0, .ref b), (1, .ref (ga g (0))), (2, .ref (ga g (89))), (3, .ref (ga g (110))), (4, .ref (ga g (111))), (5, .int (iN (5 * (t : Int))))]) rfl ?_
  refine V_aload_n X 1 rfl dL_law_1457 rfl ?_
  refine V_callV_I X (na := 0) (ci := 6) (b0 := 0) (by decide) (rfl) (by decide) rfl (m_X6_stored g l hl9 σ h.1 n h.b1 h.n30 h.pb.1 h.pb.2) gL_law_X6_stored rfl rfl rfl (by decide +kernel) ⟨Nat.le_of_ble_eq_true rfl, Nat.le_of_ble_eq_true rfl⟩ rfl rfl (Nat.le_of_ble_eq_true rfl) ⟨by show k0 + 0 ≤ 601024; omega, by show n0 + 0 ≤ 7293034; omega⟩ dL_law_1458 (fun z u zr hz => ?_)
  obtain ⟨f, hq⟩ := q_stored h hU hz
  refine V_aload_n X 2 rfl dL_law_1461 rfl ?_
  refine V_callV_I X (na := 0) (ci := 7) (b0 := 89) (by decide) (rfl) (by decide) rfl (m_X7_stored g l hl9 u f.2 n (f.MB h.MB)) gL_law_X7_stored rfl rfl rfl (by decide +kernel) ⟨Nat.le_of_ble_eq_true rfl, Nat.le_of_ble_eq_true rfl⟩ rfl rfl (Nat.le_of_ble_eq_true rfl) ⟨by show k0 + 0 + 0 ≤ 601024; omega, by show n0 + 0 + 0 ≤ 7293034; omega⟩ dL_law_1462 (fun b9 y9 br hy => ?_)
  obtain ⟨e1, e3⟩ := hq b9 y9 hy
  refine V_icmp_eq X 2387 zr br dL_law_1465 (by decide) (fun _ => ?_) (fun h9 => absurd (e1) h9)
  refine V_sub (lv' := [(0, .ref b), (1, .ref (ga g (0))), (2, .ref (ga g (89))), (3, .ref (ga g (110))), (4, .ref (ga g (111))), (5, .int (iN (5 * (t : Int))))]) [0, 1, 2, 3, 4, 5] rfl ?_
  exact V_widen (by omega) (by omega) (kk _ e3)
set_option maxRecDepth 100000 in
set_option maxHeartbeats 4000000 in
theorem lc_21 (g : Geo) {p : Program} (l : Launch) {e : Env} {s : State} {m : MethodId} {args : Array Value} {below : List Frame} {meth : Method} {c : Code} {k0 n0 : Nat} {Q : State → Prop} {b L : Nat} {xs : Nat → Int32} (hl9 : l.stackTraces = false) (X : Cx g p l room_1 s m args meth c cL_law 9 RL wsL_law) (hX : va_X b L xs s s.heap) (hbl : b < s.heap.size) (hbA : ¬ gA g b) (hL : L ≤ 2560) (t : Nat) (ht : 5 * t + 5 ≤ L) {σ : St} (hN : Nx σ) (hk9 : k0 + 5 ≤ 601024) (hn9 : n0 + 30 ≤ 7293034) (kk : ∀ u, Nx u → V g p l e room_1 s m args below meth c 9 (k0 + 5) (n0 + 30) Q u 2387 (lvL g b t) []) : V g p l e room_1 s m args below meth c 9 k0 n0 Q σ 1470 (lvL g b t) [] := by
  obtain ⟨n, ty, R, D, h, hU⟩ := id hN
  refine V_lv (lv' := [(0, .ref b), (1, .ref (ga g (0))), (2, .ref (ga g (89))), (3, .ref (ga g (110))), (4, .ref (ga g (111))), (5, .int (iN (5 * (t : Int))))]) rfl ?_
  refine V_aload_n X 1 rfl dL_law_1470 rfl ?_
  refine V_aload_n X 0 rfl dL_law_1471 rfl ?_
  refine V_iload X 5 rfl dL_law_1472 ?_
  refine V_iconst X dL_law_1474 ?_
  refine V_iadd X dL_law_1475 ?_
  refine V_sld X hX hbl hbA (5 * t + 1) (by omega) (by omega) (by omega) dL_law_1476 ?_
  refine V_aload_n X 3 rfl dL_law_1477 rfl ?_
  refine V_callS_Iw X (na := 3) (m_L_resting g l hl9 σ h.1 ((xs (5 * t + 1)).toInt) (R32_toI _) n h.LB) gL_law_L_resting rfl rfl rfl (by decide +kernel) ⟨Nat.le_of_ble_eq_true rfl, Nat.le_of_ble_eq_true rfl⟩ rfl rfl (Nat.le_of_ble_eq_true rfl) ⟨by show k0 + 1 ≤ 601024; omega, by show n0 + 6 ≤ 7293034; omega⟩ dL_law_1478 (fun E u hp => hp.elim) (fun z u zr hz => ?_)
  obtain ⟨f, hq⟩ := q_resting ((xs (5 * t + 1)).toInt) h hU  hz
  refine V_istore X [(6, .int (iN (z))), (0, .ref b), (1, .ref (ga g (0))), (2, .ref (ga g (89))), (3, .ref (ga g (110))), (4, .ref (ga g (111))), (5, .int (iN (5 * (t : Int))))] dL_law_1481 (by decide) rfl ?_
  refine V_aload_n X 3 rfl dL_law_1483 rfl ?_
  refine V_aload_n X 1 rfl dL_law_1484 rfl ?_
  refine V_iload X 6 rfl dL_law_1485 ?_
  refine V_iconst X dL_law_1487 ?_
  refine V_iadd X dL_law_1488 ?_
  refine V_sld X hX hbl hbA (5 * t + 1) (by omega) (by omega) (by omega) dL_law_1489 ?_
  refine V_callV_I X (na := 1) (ci := 7) (b0 := 89) (by decide) (rfl) (by decide) rfl (m_X7_resting g l hl9 u f.2 n (f.MB h.MB) (dpR σ) (f.MD h.MD) ((xs (5 * t + 1)).toInt) (R32_toI _)) gL_law_X7_resting rfl rfl rfl (by decide +kernel) ⟨Nat.le_of_ble_eq_true rfl, Nat.le_of_ble_eq_true rfl⟩ rfl rfl (Nat.le_of_ble_eq_true rfl) ⟨by show k0 + 1 + 0 ≤ 601024; omega, by show n0 + 6 + 0 ≤ 7293034; omega⟩ dL_law_1490 (fun b9 y9 br hy => ?_)
  obtain ⟨e1, e2, e3⟩ := hq b9 y9 hy
  refine V_istore X [(7, .int (iN (b9))), (6, .int (iN (z))), (0, .ref b), (1, .ref (ga g (0))), (2, .ref (ga g (89))), (3, .ref (ga g (110))), (4, .ref (ga g (111))), (5, .int (iN (5 * (t : Int))))] dL_law_1493 (by decide) rfl ?_
  refine V_aload_n X 4 rfl dL_law_1495 rfl ?_
  refine V_callV_I X (na := 0) (ci := 7) (b0 := 89) (by decide) (rfl) (by decide) rfl (m_X7_thrown g l hl9 y9 e3.rg) gL_law_X7_thrown rfl rfl rfl (by decide +kernel) ⟨Nat.le_of_ble_eq_true rfl, Nat.le_of_ble_eq_true rfl⟩ rfl rfl (Nat.le_of_ble_eq_true rfl) ⟨by show k0 + 1 + 0 + 0 ≤ 601024; omega, by show n0 + 6 + 0 + 0 ≤ 7293034; omega⟩ dL_law_1496 (fun z3 u3 z3r h3 => ?_)
  obtain ⟨h3a, h3b⟩ := h3
  have h3b := h3b.symm
  subst h3b
  refine V_iload X 1 rfl dL_law_1499 ?_
  refine V_icmp_eq X 1506 z3r zr dL_law_1501 (by decide) (fun _ => ?_) (fun h9 => absurd (h3a.trans e1) h9)
  refine V_iload X 1 rfl dL_law_1506 ?_
  refine V_if_ne X 1523 zr dL_law_1508 (by decide) (fun hz9 => ?_) (fun hz9 => ?_)
  · skip
    refine V_goto X 2387 dL_law_1523 (by decide) ?_
    refine V_sub (lv' := [(0, .ref b), (1, .ref (ga g (0))), (2, .ref (ga g (89))), (3, .ref (ga g (110))), (4, .ref (ga g (111))), (5, .int (iN (5 * (t : Int))))]) [2, 3, 4, 5, 6, 7] rfl ?_
    exact V_widen (by omega) (by omega) (kk _ e3)
  · skip
    refine V_aload_n X 5 rfl dL_law_1511 rfl ?_
    refine V_iconst X dL_law_1512 ?_
    refine V_laload X dL_law_1513 ?_
    refine V_topl (b := b9) (e2 hz9) ?_
    refine V_iload X 0 rfl dL_law_1514 ?_
    refine V_i2l X br dL_law_1516 ?_
    refine V_lcmpE X dL_law_1517 ?_
    refine V_if_eq X 1523 ⟨by decide, by decide⟩ dL_law_1518 (by decide) (fun _ => ?_) (fun h9 => absurd h9 (by decide))
    refine V_goto X 2387 dL_law_1523 (by decide) ?_
    refine V_sub (lv' := [(0, .ref b), (1, .ref (ga g (0))), (2, .ref (ga g (89))), (3, .ref (ga g (110))), (4, .ref (ga g (111))), (5, .int (iN (5 * (t : Int))))]) [2, 3, 4, 5, 6, 7] rfl ?_
    exact V_widen (by omega) (by omega) (kk _ e3)
set_option maxRecDepth 100000 in
set_option maxHeartbeats 4000000 in
theorem lc_22 (g : Geo) {p : Program} (l : Launch) {e : Env} {s : State} {m : MethodId} {args : Array Value} {below : List Frame} {meth : Method} {c : Code} {k0 n0 : Nat} {Q : State → Prop} {b L : Nat} {xs : Nat → Int32} (hl9 : l.stackTraces = false) (X : Cx g p l room_1 s m args meth c cL_law 9 RL wsL_law) (hX : va_X b L xs s s.heap) (hbl : b < s.heap.size) (hbA : ¬ gA g b) (hL : L ≤ 2560) (t : Nat) (ht : 5 * t + 5 ≤ L) {σ : St} (hN : Nx σ) (hk9 : k0 + 5 ≤ 601024) (hn9 : n0 + 30 ≤ 7293034) (kk : ∀ u, Nx u → V g p l e room_1 s m args below meth c 9 (k0 + 5) (n0 + 30) Q u 2387 (lvL g b t) []) : V g p l e room_1 s m args below meth c 9 k0 n0 Q σ 1526 (lvL g b t) [] := by
  obtain ⟨n, ty, R, D, h, hU⟩ := id hN
  refine V_lv (lv' := [(0, .ref b), (1, .ref (ga g (0))), (2, .ref (ga g (89))), (3, .ref (ga g (110))), (4, .ref (ga g (111))), (5, .int (iN (5 * (t : Int))))]) rfl ?_
  refine V_aload_n X 1 rfl dL_law_1526 rfl ?_
  refine V_aload_n X 0 rfl dL_law_1527 rfl ?_
  refine V_iload X 5 rfl dL_law_1528 ?_
  refine V_iconst X dL_law_1530 ?_
  refine V_iadd X dL_law_1531 ?_
  refine V_sld X hX hbl hbA (5 * t + 1) (by omega) (by omega) (by omega) dL_law_1532 ?_
  refine V_aload_n X 3 rfl dL_law_1533 rfl ?_
  refine V_callS_Iw X (na := 3) (m_L_strike g l hl9 σ h.1 ((xs (5 * t + 1)).toInt) (R32_toI _) n h.LB) gL_law_L_strike rfl rfl rfl (by decide +kernel) ⟨Nat.le_of_ble_eq_true rfl, Nat.le_of_ble_eq_true rfl⟩ rfl rfl (Nat.le_of_ble_eq_true rfl) ⟨by show k0 + 2 ≤ 601024; omega, by show n0 + 12 ≤ 7293034; omega⟩ dL_law_1534 (fun E u hp => hp.elim) (fun z u zr hz => ?_)
  obtain ⟨f, hq⟩ := q_strike ((xs (5 * t + 1)).toInt) h hU  hz
  refine V_istore X [(6, .int (iN (z))), (0, .ref b), (1, .ref (ga g (0))), (2, .ref (ga g (89))), (3, .ref (ga g (110))), (4, .ref (ga g (111))), (5, .int (iN (5 * (t : Int))))] dL_law_1537 (by decide) rfl ?_
  refine V_aload_n X 3 rfl dL_law_1539 rfl ?_
  refine V_aload_n X 1 rfl dL_law_1540 rfl ?_
  refine V_iload X 6 rfl dL_law_1541 ?_
  refine V_iconst X dL_law_1543 ?_
  refine V_iadd X dL_law_1544 ?_
  refine V_sld X hX hbl hbA (5 * t + 1) (by omega) (by omega) (by omega) dL_law_1545 ?_
  refine V_callV_I X (na := 1) (ci := 7) (b0 := 89) (by decide) (rfl) (by decide) rfl (m_X7_strike g l hl9 u f.2 n (f.MB h.MB) ((xs (5 * t + 1)).toInt) (R32_toI _)) gL_law_X7_strike rfl rfl rfl (by decide +kernel) ⟨Nat.le_of_ble_eq_true rfl, Nat.le_of_ble_eq_true rfl⟩ rfl rfl (Nat.le_of_ble_eq_true rfl) ⟨by show k0 + 2 + 0 ≤ 601024; omega, by show n0 + 12 + 0 ≤ 7293034; omega⟩ dL_law_1546 (fun b9 y9 br hy => ?_)
  obtain ⟨e1, e2, e3⟩ := hq b9 y9 hy
  refine V_istore X [(7, .int (iN (b9))), (6, .int (iN (z))), (0, .ref b), (1, .ref (ga g (0))), (2, .ref (ga g (89))), (3, .ref (ga g (110))), (4, .ref (ga g (111))), (5, .int (iN (5 * (t : Int))))] dL_law_1549 (by decide) rfl ?_
  refine V_aload_n X 4 rfl dL_law_1551 rfl ?_
  refine V_callV_I X (na := 0) (ci := 7) (b0 := 89) (by decide) (rfl) (by decide) rfl (m_X7_thrown g l hl9 y9 e3.rg) gL_law_X7_thrown rfl rfl rfl (by decide +kernel) ⟨Nat.le_of_ble_eq_true rfl, Nat.le_of_ble_eq_true rfl⟩ rfl rfl (Nat.le_of_ble_eq_true rfl) ⟨by show k0 + 2 + 0 + 0 ≤ 601024; omega, by show n0 + 12 + 0 + 0 ≤ 7293034; omega⟩ dL_law_1552 (fun z3 u3 z3r h3 => ?_)
  obtain ⟨h3a, h3b⟩ := h3
  have h3b := h3b.symm
  subst h3b
  refine V_iload X 1 rfl dL_law_1555 ?_
  refine V_icmp_eq X 1562 z3r zr dL_law_1557 (by decide) (fun _ => ?_) (fun h9 => absurd (h3a.trans e1) h9)
  refine V_iload X 1 rfl dL_law_1562 ?_
  refine V_if_ne X 1579 zr dL_law_1564 (by decide) (fun hz9 => ?_) (fun hz9 => ?_)
  · skip
    refine V_goto X 2387 dL_law_1579 (by decide) ?_
    refine V_sub (lv' := [(0, .ref b), (1, .ref (ga g (0))), (2, .ref (ga g (89))), (3, .ref (ga g (110))), (4, .ref (ga g (111))), (5, .int (iN (5 * (t : Int))))]) [2, 3, 4, 5, 6, 7] rfl ?_
    exact V_widen (by omega) (by omega) (kk _ e3)
  · skip
    refine V_aload_n X 5 rfl dL_law_1567 rfl ?_
    refine V_iconst X dL_law_1568 ?_
    refine V_laload X dL_law_1569 ?_
    refine V_topl (b := b9) (e2 hz9) ?_
    refine V_iload X 0 rfl dL_law_1570 ?_
    refine V_i2l X br dL_law_1572 ?_
    refine V_lcmpE X dL_law_1573 ?_
    refine V_if_eq X 1579 ⟨by decide, by decide⟩ dL_law_1574 (by decide) (fun _ => ?_) (fun h9 => absurd h9 (by decide))
    refine V_goto X 2387 dL_law_1579 (by decide) ?_
    refine V_sub (lv' := [(0, .ref b), (1, .ref (ga g (0))), (2, .ref (ga g (89))), (3, .ref (ga g (110))), (4, .ref (ga g (111))), (5, .int (iN (5 * (t : Int))))]) [2, 3, 4, 5, 6, 7] rfl ?_
    exact V_widen (by omega) (by omega) (kk _ e3)
set_option maxRecDepth 100000 in
set_option maxHeartbeats 4000000 in
theorem lc_23 (g : Geo) {p : Program} (l : Launch) {e : Env} {s : State} {m : MethodId} {args : Array Value} {below : List Frame} {meth : Method} {c : Code} {k0 n0 : Nat} {Q : State → Prop} {b L : Nat} {xs : Nat → Int32} (hl9 : l.stackTraces = false) (X : Cx g p l room_1 s m args meth c cL_law 9 RL wsL_law) (hX : va_X b L xs s s.heap) (hbl : b < s.heap.size) (hbA : ¬ gA g b) (hL : L ≤ 2560) (t : Nat) (ht : 5 * t + 5 ≤ L) {σ : St} (hN : Nx σ) (hk9 : k0 + 5 ≤ 601024) (hn9 : n0 + 30 ≤ 7293034) (kk : ∀ u, Nx u → V g p l e room_1 s m args below meth c 9 (k0 + 5) (n0 + 30) Q u 2387 (lvL g b t) []) : V g p l e room_1 s m args below meth c 9 k0 n0 Q σ 1582 (lvL g b t) [] := by
  obtain ⟨n, ty, R, D, h, hU⟩ := id hN
  refine V_lv (lv' := [(0, .ref b), (1, .ref (ga g (0))), (2, .ref (ga g (89))), (3, .ref (ga g (110))), (4, .ref (ga g (111))), (5, .int (iN (5 * (t : Int))))]) rfl ?_
  refine V_aload_n X 1 rfl dL_law_1582 rfl ?_
  refine V_aload_n X 0 rfl dL_law_1583 rfl ?_
  refine V_iload X 5 rfl dL_law_1584 ?_
  refine V_iconst X dL_law_1586 ?_
  refine V_iadd X dL_law_1587 ?_
  refine V_sld X hX hbl hbA (5 * t + 1) (by omega) (by omega) (by omega) dL_law_1588 ?_
  refine V_aload_n X 3 rfl dL_law_1589 rfl ?_
  refine V_callS_Iw X (na := 3) (m_L_giveBack g l hl9 σ h.1 ((xs (5 * t + 1)).toInt) (R32_toI _) n h.LB) gL_law_L_giveBack rfl rfl rfl (by decide +kernel) ⟨Nat.le_of_ble_eq_true rfl, Nat.le_of_ble_eq_true rfl⟩ rfl rfl (Nat.le_of_ble_eq_true rfl) ⟨by show k0 + 2 ≤ 601024; omega, by show n0 + 12 ≤ 7293034; omega⟩ dL_law_1590 (fun E u hp => hp.elim) (fun z u zr hz => ?_)
  obtain ⟨f, hq⟩ := q_giveBack ((xs (5 * t + 1)).toInt) h hU  hz
  refine V_istore X [(6, .int (iN (z))), (0, .ref b), (1, .ref (ga g (0))), (2, .ref (ga g (89))), (3, .ref (ga g (110))), (4, .ref (ga g (111))), (5, .int (iN (5 * (t : Int))))] dL_law_1593 (by decide) rfl ?_
  refine V_aload_n X 3 rfl dL_law_1595 rfl ?_
  refine V_aload_n X 1 rfl dL_law_1596 rfl ?_
  refine V_iload X 6 rfl dL_law_1597 ?_
  refine V_iconst X dL_law_1599 ?_
  refine V_iadd X dL_law_1600 ?_
  refine V_sld X hX hbl hbA (5 * t + 1) (by omega) (by omega) (by omega) dL_law_1601 ?_
  refine V_callV_I X (na := 1) (ci := 7) (b0 := 89) (by decide) (rfl) (by decide) rfl (m_X7_giveBack g l hl9 u f.2 n (f.MB h.MB) ((xs (5 * t + 1)).toInt) (R32_toI _)) gL_law_X7_giveBack rfl rfl rfl (by decide +kernel) ⟨Nat.le_of_ble_eq_true rfl, Nat.le_of_ble_eq_true rfl⟩ rfl rfl (Nat.le_of_ble_eq_true rfl) ⟨by show k0 + 2 + 0 ≤ 601024; omega, by show n0 + 12 + 0 ≤ 7293034; omega⟩ dL_law_1602 (fun b9 y9 br hy => ?_)
  obtain ⟨e1, e2, e3⟩ := hq b9 y9 hy
  refine V_istore X [(7, .int (iN (b9))), (6, .int (iN (z))), (0, .ref b), (1, .ref (ga g (0))), (2, .ref (ga g (89))), (3, .ref (ga g (110))), (4, .ref (ga g (111))), (5, .int (iN (5 * (t : Int))))] dL_law_1605 (by decide) rfl ?_
  refine V_aload_n X 4 rfl dL_law_1607 rfl ?_
  refine V_callV_I X (na := 0) (ci := 7) (b0 := 89) (by decide) (rfl) (by decide) rfl (m_X7_thrown g l hl9 y9 e3.rg) gL_law_X7_thrown rfl rfl rfl (by decide +kernel) ⟨Nat.le_of_ble_eq_true rfl, Nat.le_of_ble_eq_true rfl⟩ rfl rfl (Nat.le_of_ble_eq_true rfl) ⟨by show k0 + 2 + 0 + 0 ≤ 601024; omega, by show n0 + 12 + 0 + 0 ≤ 7293034; omega⟩ dL_law_1608 (fun z3 u3 z3r h3 => ?_)
  obtain ⟨h3a, h3b⟩ := h3
  have h3b := h3b.symm
  subst h3b
  refine V_iload X 1 rfl dL_law_1611 ?_
  refine V_icmp_eq X 1618 z3r zr dL_law_1613 (by decide) (fun _ => ?_) (fun h9 => absurd (h3a.trans e1) h9)
  refine V_iload X 1 rfl dL_law_1618 ?_
  refine V_if_ne X 1635 zr dL_law_1620 (by decide) (fun hz9 => ?_) (fun hz9 => ?_)
  · skip
    refine V_goto X 2387 dL_law_1635 (by decide) ?_
    refine V_sub (lv' := [(0, .ref b), (1, .ref (ga g (0))), (2, .ref (ga g (89))), (3, .ref (ga g (110))), (4, .ref (ga g (111))), (5, .int (iN (5 * (t : Int))))]) [2, 3, 4, 5, 6, 7] rfl ?_
    exact V_widen (by omega) (by omega) (kk _ e3)
  · skip
    refine V_aload_n X 5 rfl dL_law_1623 rfl ?_
    refine V_iconst X dL_law_1624 ?_
    refine V_laload X dL_law_1625 ?_
    refine V_topl (b := b9) (e2 hz9) ?_
    refine V_iload X 0 rfl dL_law_1626 ?_
    refine V_i2l X br dL_law_1628 ?_
    refine V_lcmpE X dL_law_1629 ?_
    refine V_if_eq X 1635 ⟨by decide, by decide⟩ dL_law_1630 (by decide) (fun _ => ?_) (fun h9 => absurd h9 (by decide))
    refine V_goto X 2387 dL_law_1635 (by decide) ?_
    refine V_sub (lv' := [(0, .ref b), (1, .ref (ga g (0))), (2, .ref (ga g (89))), (3, .ref (ga g (110))), (4, .ref (ga g (111))), (5, .int (iN (5 * (t : Int))))]) [2, 3, 4, 5, 6, 7] rfl ?_
    exact V_widen (by omega) (by omega) (kk _ e3)
set_option maxRecDepth 100000 in
set_option maxHeartbeats 4000000 in
theorem lc_24 (g : Geo) {p : Program} (l : Launch) {e : Env} {s : State} {m : MethodId} {args : Array Value} {below : List Frame} {meth : Method} {c : Code} {k0 n0 : Nat} {Q : State → Prop} {b L : Nat} {xs : Nat → Int32} (hl9 : l.stackTraces = false) (X : Cx g p l room_1 s m args meth c cL_law 9 RL wsL_law) (hX : va_X b L xs s s.heap) (hbl : b < s.heap.size) (hbA : ¬ gA g b) (hL : L ≤ 2560) (t : Nat) (ht : 5 * t + 5 ≤ L) {σ : St} (hN : Nx σ) (hk9 : k0 + 5 ≤ 601024) (hn9 : n0 + 30 ≤ 7293034) (kk : ∀ u, Nx u → V g p l e room_1 s m args below meth c 9 (k0 + 5) (n0 + 30) Q u 2387 (lvL g b t) []) : V g p l e room_1 s m args below meth c 9 k0 n0 Q σ 1638 (lvL g b t) [] := by
  obtain ⟨n, ty, R, D, h, hU⟩ := id hN
  refine V_lv (lv' := [(0, .ref b), (1, .ref (ga g (0))), (2, .ref (ga g (89))), (3, .ref (ga g (110))), (4, .ref (ga g (111))), (5, .int (iN (5 * (t : Int))))]) rfl ?_
  refine V_aload_n X 1 rfl dL_law_1638 rfl ?_
  refine V_aload_n X 0 rfl dL_law_1639 rfl ?_
  refine V_iload X 5 rfl dL_law_1640 ?_
  refine V_iconst X dL_law_1642 ?_
  refine V_iadd X dL_law_1643 ?_
  refine V_sld X hX hbl hbA (5 * t + 1) (by omega) (by omega) (by omega) dL_law_1644 ?_
  refine V_aload_n X 3 rfl dL_law_1645 rfl ?_
  refine V_callS_Iw X (na := 3) (m_L_stands g l hl9 σ h.1 ((xs (5 * t + 1)).toInt) (R32_toI _) h.b30 h.l9) gL_law_L_stands rfl rfl rfl (by decide +kernel) ⟨Nat.le_of_ble_eq_true rfl, Nat.le_of_ble_eq_true rfl⟩ rfl rfl (Nat.le_of_ble_eq_true rfl) ⟨by show k0 + 1 ≤ 601024; omega, by show n0 + 6 ≤ 7293034; omega⟩ dL_law_1646 (fun E u hp => hp.elim) (fun z u zr hz => ?_)
  obtain ⟨f, hq⟩ := q_stands ((xs (5 * t + 1)).toInt) h hU  hz
  refine V_istore X [(6, .int (iN (z))), (0, .ref b), (1, .ref (ga g (0))), (2, .ref (ga g (89))), (3, .ref (ga g (110))), (4, .ref (ga g (111))), (5, .int (iN (5 * (t : Int))))] dL_law_1649 (by decide) rfl ?_
  refine V_aload_n X 3 rfl dL_law_1651 rfl ?_
  refine V_aload_n X 1 rfl dL_law_1652 rfl ?_
  refine V_iload X 6 rfl dL_law_1653 ?_
  refine V_iconst X dL_law_1655 ?_
  refine V_iadd X dL_law_1656 ?_
  refine V_sld X hX hbl hbA (5 * t + 1) (by omega) (by omega) (by omega) dL_law_1657 ?_
  refine V_callV_I X (na := 1) (ci := 7) (b0 := 89) (by decide) (rfl) (by decide) rfl (m_X7_stands g l hl9 u f.2 n (f.MB h.MB) ((xs (5 * t + 1)).toInt) (R32_toI _)) gL_law_X7_stands rfl rfl rfl (by decide +kernel) ⟨Nat.le_of_ble_eq_true rfl, Nat.le_of_ble_eq_true rfl⟩ rfl rfl (Nat.le_of_ble_eq_true rfl) ⟨by show k0 + 1 + 0 ≤ 601024; omega, by show n0 + 6 + 0 ≤ 7293034; omega⟩ dL_law_1658 (fun b9 y9 br hy => ?_)
  obtain ⟨e1, e2, e3⟩ := hq b9 y9 hy
  refine V_istore X [(7, .int (iN (b9))), (6, .int (iN (z))), (0, .ref b), (1, .ref (ga g (0))), (2, .ref (ga g (89))), (3, .ref (ga g (110))), (4, .ref (ga g (111))), (5, .int (iN (5 * (t : Int))))] dL_law_1661 (by decide) rfl ?_
  refine V_aload_n X 4 rfl dL_law_1663 rfl ?_
  refine V_callV_I X (na := 0) (ci := 7) (b0 := 89) (by decide) (rfl) (by decide) rfl (m_X7_thrown g l hl9 y9 e3.rg) gL_law_X7_thrown rfl rfl rfl (by decide +kernel) ⟨Nat.le_of_ble_eq_true rfl, Nat.le_of_ble_eq_true rfl⟩ rfl rfl (Nat.le_of_ble_eq_true rfl) ⟨by show k0 + 1 + 0 + 0 ≤ 601024; omega, by show n0 + 6 + 0 + 0 ≤ 7293034; omega⟩ dL_law_1664 (fun z3 u3 z3r h3 => ?_)
  obtain ⟨h3a, h3b⟩ := h3
  have h3b := h3b.symm
  subst h3b
  refine V_iload X 1 rfl dL_law_1667 ?_
  refine V_icmp_eq X 1674 z3r zr dL_law_1669 (by decide) (fun _ => ?_) (fun h9 => absurd (h3a.trans e1) h9)
  refine V_iload X 1 rfl dL_law_1674 ?_
  refine V_if_ne X 1698 zr dL_law_1676 (by decide) (fun hz9 => ?_) (fun hz9 => ?_)
  · skip
    refine V_goto X 2387 dL_law_1698 (by decide) ?_
    refine V_sub (lv' := [(0, .ref b), (1, .ref (ga g (0))), (2, .ref (ga g (89))), (3, .ref (ga g (110))), (4, .ref (ga g (111))), (5, .int (iN (5 * (t : Int))))]) [2, 3, 4, 5, 6, 7] rfl ?_
    exact V_widen (by omega) (by omega) (kk _ e3)
  · skip
    obtain ⟨e4, e5⟩ := e2 hz9
    rcases e5 with e5 | e5
    · skip
      refine V_aload_n X 5 rfl dL_law_1679 rfl ?_
      refine V_iconst X dL_law_1680 ?_
      refine V_laload X dL_law_1681 ?_
      refine V_topl (b := 0) (e4.trans e5) ?_
      refine V_iload X 0 rfl dL_law_1682 ?_
      refine V_if_eq X 1691 br dL_law_1684 (by decide) (fun _ => ?_) (fun h9 => absurd h9 (by omega))
      refine V_lconst X (z := 0) (by decide) dL_law_1691 ?_
      refine V_lcmpE X dL_law_1692 ?_
      refine V_if_eq X 1698 ⟨by decide, by decide⟩ dL_law_1693 (by decide) (fun _ => ?_) (fun h9 => absurd h9 (by decide))
      refine V_goto X 2387 dL_law_1698 (by decide) ?_
      refine V_sub (lv' := [(0, .ref b), (1, .ref (ga g (0))), (2, .ref (ga g (89))), (3, .ref (ga g (110))), (4, .ref (ga g (111))), (5, .int (iN (5 * (t : Int))))]) [2, 3, 4, 5, 6, 7] rfl ?_
      exact V_widen (by omega) (by omega) (kk _ e3)
    · skip
      refine V_aload_n X 5 rfl dL_law_1679 rfl ?_
      refine V_iconst X dL_law_1680 ?_
      refine V_laload X dL_law_1681 ?_
      refine V_topl (b := 1) (e4.trans e5) ?_
      refine V_iload X 0 rfl dL_law_1682 ?_
      refine V_if_eq X 1691 br dL_law_1684 (by decide) (fun h9 => absurd h9 (by omega)) (fun _ => ?_)
      refine V_lconst X (z := 1) (by decide) dL_law_1687 ?_
      refine V_goto X 1692 dL_law_1688 (by decide) ?_
      refine V_lcmpE X dL_law_1692 ?_
      refine V_if_eq X 1698 ⟨by decide, by decide⟩ dL_law_1693 (by decide) (fun _ => ?_) (fun h9 => absurd h9 (by decide))
      refine V_goto X 2387 dL_law_1698 (by decide) ?_
      refine V_sub (lv' := [(0, .ref b), (1, .ref (ga g (0))), (2, .ref (ga g (89))), (3, .ref (ga g (110))), (4, .ref (ga g (111))), (5, .int (iN (5 * (t : Int))))]) [2, 3, 4, 5, 6, 7] rfl ?_
      exact V_widen (by omega) (by omega) (kk _ e3)
set_option maxRecDepth 100000 in
set_option maxHeartbeats 4000000 in
theorem lc_25 (g : Geo) {p : Program} (l : Launch) {e : Env} {s : State} {m : MethodId} {args : Array Value} {below : List Frame} {meth : Method} {c : Code} {k0 n0 : Nat} {Q : State → Prop} {b L : Nat} {xs : Nat → Int32} (hl9 : l.stackTraces = false) (X : Cx g p l room_1 s m args meth c cL_law 9 RL wsL_law) (hX : va_X b L xs s s.heap) (hbl : b < s.heap.size) (hbA : ¬ gA g b) (hL : L ≤ 2560) (t : Nat) (ht : 5 * t + 5 ≤ L) {σ : St} (hN : Nx σ) (hk9 : k0 + 5 ≤ 601024) (hn9 : n0 + 30 ≤ 7293034) (kk : ∀ u, Nx u → V g p l e room_1 s m args below meth c 9 (k0 + 5) (n0 + 30) Q u 2387 (lvL g b t) []) : V g p l e room_1 s m args below meth c 9 k0 n0 Q σ 1701 (lvL g b t) [] := by
  obtain ⟨n, ty, R, D, h, hU⟩ := id hN
  refine V_lv (lv' := [(0, .ref b), (1, .ref (ga g (0))), (2, .ref (ga g (89))), (3, .ref (ga g (110))), (4, .ref (ga g (111))), (5, .int (iN (5 * (t : Int))))]) rfl ?_
  refine V_aload_n X 1 rfl dL_law_1701 rfl ?_
  refine V_aload_n X 0 rfl dL_law_1702 rfl ?_
  refine V_iload X 5 rfl dL_law_1703 ?_
  refine V_iconst X dL_law_1705 ?_
  refine V_iadd X dL_law_1706 ?_
  refine V_sld X hX hbl hbA (5 * t + 1) (by omega) (by omega) (by omega) dL_law_1707 ?_
  refine V_aload_n X 0 rfl dL_law_1708 rfl ?_
  refine V_iload X 5 rfl dL_law_1709 ?_
  refine V_iconst X dL_law_1711 ?_
  refine V_iadd X dL_law_1712 ?_
  refine V_sld X hX hbl hbA (5 * t + 2) (by omega) (by omega) (by omega) dL_law_1713 ?_
  refine V_aload_n X 3 rfl dL_law_1714 rfl ?_
  refine V_callS_Iw X (na := 4) (m_L_penalty g l hl9 σ h.1 ((xs (5 * t + 1)).toInt) ((xs (5 * t + 2)).toInt) (R32_toI _) (R32_toI _) h.b30) gL_law_L_penalty rfl rfl rfl (by decide +kernel) ⟨Nat.le_of_ble_eq_true rfl, Nat.le_of_ble_eq_true rfl⟩ rfl rfl (Nat.le_of_ble_eq_true rfl) ⟨by show k0 + 2 ≤ 601024; omega, by show n0 + 12 ≤ 7293034; omega⟩ dL_law_1715 (fun E u hp => hp.elim) (fun z u zr hz => ?_)
  obtain ⟨f, hq⟩ := q_penalty ((xs (5 * t + 1)).toInt) ((xs (5 * t + 2)).toInt) h hU  hz
  refine V_istore X [(6, .int (iN (z))), (0, .ref b), (1, .ref (ga g (0))), (2, .ref (ga g (89))), (3, .ref (ga g (110))), (4, .ref (ga g (111))), (5, .int (iN (5 * (t : Int))))] dL_law_1718 (by decide) rfl ?_
  refine V_aload_n X 3 rfl dL_law_1720 rfl ?_
  refine V_aload_n X 1 rfl dL_law_1721 rfl ?_
  refine V_iload X 6 rfl dL_law_1722 ?_
  refine V_iconst X dL_law_1724 ?_
  refine V_iadd X dL_law_1725 ?_
  refine V_sld X hX hbl hbA (5 * t + 1) (by omega) (by omega) (by omega) dL_law_1726 ?_
  refine V_aload_n X 1 rfl dL_law_1727 rfl ?_
  refine V_iload X 6 rfl dL_law_1728 ?_
  refine V_iconst X dL_law_1730 ?_
  refine V_iadd X dL_law_1731 ?_
  refine V_sld X hX hbl hbA (5 * t + 2) (by omega) (by omega) (by omega) dL_law_1732 ?_
  refine V_callV_I X (na := 2) (ci := 7) (b0 := 89) (by decide) (rfl) (by decide) rfl (m_X7_penalty g l hl9 u f.2 n (f.MB h.MB) ((xs (5 * t + 1)).toInt) ((xs (5 * t + 2)).toInt) (R32_toI _) (R32_toI _)) gL_law_X7_penalty rfl rfl rfl (by decide +kernel) ⟨Nat.le_of_ble_eq_true rfl, Nat.le_of_ble_eq_true rfl⟩ rfl rfl (Nat.le_of_ble_eq_true rfl) ⟨by show k0 + 2 + 0 ≤ 601024; omega, by show n0 + 12 + 0 ≤ 7293034; omega⟩ dL_law_1733 (fun b9 y9 br hy => ?_)
  obtain ⟨e1, e2, e3⟩ := hq b9 y9 hy
  refine V_istore X [(7, .int (iN (b9))), (6, .int (iN (z))), (0, .ref b), (1, .ref (ga g (0))), (2, .ref (ga g (89))), (3, .ref (ga g (110))), (4, .ref (ga g (111))), (5, .int (iN (5 * (t : Int))))] dL_law_1736 (by decide) rfl ?_
  refine V_aload_n X 4 rfl dL_law_1738 rfl ?_
  refine V_callV_I X (na := 0) (ci := 7) (b0 := 89) (by decide) (rfl) (by decide) rfl (m_X7_thrown g l hl9 y9 e3.rg) gL_law_X7_thrown rfl rfl rfl (by decide +kernel) ⟨Nat.le_of_ble_eq_true rfl, Nat.le_of_ble_eq_true rfl⟩ rfl rfl (Nat.le_of_ble_eq_true rfl) ⟨by show k0 + 2 + 0 + 0 ≤ 601024; omega, by show n0 + 12 + 0 + 0 ≤ 7293034; omega⟩ dL_law_1739 (fun z3 u3 z3r h3 => ?_)
  obtain ⟨h3a, h3b⟩ := h3
  have h3b := h3b.symm
  subst h3b
  refine V_iload X 1 rfl dL_law_1742 ?_
  refine V_icmp_eq X 1749 z3r zr dL_law_1744 (by decide) (fun _ => ?_) (fun h9 => absurd (h3a.trans e1) h9)
  refine V_iload X 1 rfl dL_law_1749 ?_
  refine V_if_ne X 1766 zr dL_law_1751 (by decide) (fun hz9 => ?_) (fun hz9 => ?_)
  · skip
    refine V_goto X 2387 dL_law_1766 (by decide) ?_
    refine V_sub (lv' := [(0, .ref b), (1, .ref (ga g (0))), (2, .ref (ga g (89))), (3, .ref (ga g (110))), (4, .ref (ga g (111))), (5, .int (iN (5 * (t : Int))))]) [2, 3, 4, 5, 6, 7] rfl ?_
    exact V_widen (by omega) (by omega) (kk _ e3)
  · skip
    refine V_aload_n X 5 rfl dL_law_1754 rfl ?_
    refine V_iconst X dL_law_1755 ?_
    refine V_laload X dL_law_1756 ?_
    refine V_topl (b := b9) (e2 hz9) ?_
    refine V_iload X 0 rfl dL_law_1757 ?_
    refine V_i2l X br dL_law_1759 ?_
    refine V_lcmpE X dL_law_1760 ?_
    refine V_if_eq X 1766 ⟨by decide, by decide⟩ dL_law_1761 (by decide) (fun _ => ?_) (fun h9 => absurd h9 (by decide))
    refine V_goto X 2387 dL_law_1766 (by decide) ?_
    refine V_sub (lv' := [(0, .ref b), (1, .ref (ga g (0))), (2, .ref (ga g (89))), (3, .ref (ga g (110))), (4, .ref (ga g (111))), (5, .int (iN (5 * (t : Int))))]) [2, 3, 4, 5, 6, 7] rfl ?_
    exact V_widen (by omega) (by omega) (kk _ e3)
set_option maxRecDepth 100000 in
set_option maxHeartbeats 4000000 in
theorem lc_26 (g : Geo) {p : Program} (l : Launch) {e : Env} {s : State} {m : MethodId} {args : Array Value} {below : List Frame} {meth : Method} {c : Code} {k0 n0 : Nat} {Q : State → Prop} {b L : Nat} {xs : Nat → Int32} (hl9 : l.stackTraces = false) (X : Cx g p l room_1 s m args meth c cL_law 9 RL wsL_law) (hX : va_X b L xs s s.heap) (hbl : b < s.heap.size) (hbA : ¬ gA g b) (hL : L ≤ 2560) (t : Nat) (ht : 5 * t + 5 ≤ L) {σ : St} (hN : Nx σ) (hk9 : k0 + 5 ≤ 601024) (hn9 : n0 + 30 ≤ 7293034) (kk : ∀ u, Nx u → V g p l e room_1 s m args below meth c 9 (k0 + 5) (n0 + 30) Q u 2387 (lvL g b t) []) : V g p l e room_1 s m args below meth c 9 k0 n0 Q σ 1769 (lvL g b t) [] := by
  obtain ⟨n, ty, R, D, h, hU⟩ := id hN
  refine V_lv (lv' := [(0, .ref b), (1, .ref (ga g (0))), (2, .ref (ga g (89))), (3, .ref (ga g (110))), (4, .ref (ga g (111))), (5, .int (iN (5 * (t : Int))))]) rfl ?_
  refine V_aload_n X 1 rfl dL_law_1769 rfl ?_
  refine V_aload_n X 0 rfl dL_law_1770 rfl ?_
  refine V_iload X 5 rfl dL_law_1771 ?_
  refine V_iconst X dL_law_1773 ?_
  refine V_iadd X dL_law_1774 ?_
  refine V_sld X hX hbl hbA (5 * t + 1) (by omega) (by omega) (by omega) dL_law_1775 ?_
  refine V_aload_n X 3 rfl dL_law_1776 rfl ?_
  refine V_callS_Iw X (na := 3) (m_L_round g l hl9 σ h.1 ((xs (5 * t + 1)).toInt) (R32_toI _) h.c1.2 R h.s1) gL_law_L_round rfl rfl rfl (by decide +kernel) ⟨Nat.le_of_ble_eq_true rfl, Nat.le_of_ble_eq_true rfl⟩ rfl rfl (Nat.le_of_ble_eq_true rfl) ⟨by show k0 + 2 ≤ 601024; omega, by show n0 + 12 ≤ 7293034; omega⟩ dL_law_1777 (fun E u hp => hp.elim) (fun z u zr hz => ?_)
  obtain ⟨f, hq⟩ := q_round ((xs (5 * t + 1)).toInt) h hU (R32_toI _) hz
  refine V_istore X [(6, .int (iN (z))), (0, .ref b), (1, .ref (ga g (0))), (2, .ref (ga g (89))), (3, .ref (ga g (110))), (4, .ref (ga g (111))), (5, .int (iN (5 * (t : Int))))] dL_law_1780 (by decide) rfl ?_
  refine V_aload_n X 3 rfl dL_law_1782 rfl ?_
  refine V_aload_n X 1 rfl dL_law_1783 rfl ?_
  refine V_iload X 6 rfl dL_law_1784 ?_
  refine V_iconst X dL_law_1786 ?_
  refine V_iadd X dL_law_1787 ?_
  refine V_sld X hX hbl hbA (5 * t + 1) (by omega) (by omega) (by omega) dL_law_1788 ?_
  refine V_callV_I X (na := 1) (ci := 7) (b0 := 89) (by decide) (rfl) (by decide) rfl (m_X7_round g l hl9 u f.2 (h.f1 f) ((xs (5 * t + 1)).toInt) (R32_toI _) R (h.f23 f) h.R10) gL_law_X7_round rfl rfl rfl (by decide +kernel) ⟨Nat.le_of_ble_eq_true rfl, Nat.le_of_ble_eq_true rfl⟩ rfl rfl (Nat.le_of_ble_eq_true rfl) ⟨by show k0 + 2 + 0 ≤ 601024; omega, by show n0 + 12 + 0 ≤ 7293034; omega⟩ dL_law_1789 (fun b9 y9 br hy => ?_)
  obtain ⟨e1, e2, e3⟩ := hq b9 y9 hy
  refine V_istore X [(7, .int (iN (b9))), (6, .int (iN (z))), (0, .ref b), (1, .ref (ga g (0))), (2, .ref (ga g (89))), (3, .ref (ga g (110))), (4, .ref (ga g (111))), (5, .int (iN (5 * (t : Int))))] dL_law_1792 (by decide) rfl ?_
  refine V_aload_n X 4 rfl dL_law_1794 rfl ?_
  refine V_callV_I X (na := 0) (ci := 7) (b0 := 89) (by decide) (rfl) (by decide) rfl (m_X7_thrown g l hl9 y9 e3.rg) gL_law_X7_thrown rfl rfl rfl (by decide +kernel) ⟨Nat.le_of_ble_eq_true rfl, Nat.le_of_ble_eq_true rfl⟩ rfl rfl (Nat.le_of_ble_eq_true rfl) ⟨by show k0 + 2 + 0 + 0 ≤ 601024; omega, by show n0 + 12 + 0 + 0 ≤ 7293034; omega⟩ dL_law_1795 (fun z3 u3 z3r h3 => ?_)
  obtain ⟨h3a, h3b⟩ := h3
  have h3b := h3b.symm
  subst h3b
  refine V_iload X 1 rfl dL_law_1798 ?_
  refine V_icmp_eq X 1805 z3r zr dL_law_1800 (by decide) (fun _ => ?_) (fun h9 => absurd (h3a.trans e1) h9)
  refine V_iload X 1 rfl dL_law_1805 ?_
  refine V_if_ne X 1822 zr dL_law_1807 (by decide) (fun hz9 => ?_) (fun hz9 => ?_)
  · skip
    refine V_goto X 2387 dL_law_1822 (by decide) ?_
    refine V_sub (lv' := [(0, .ref b), (1, .ref (ga g (0))), (2, .ref (ga g (89))), (3, .ref (ga g (110))), (4, .ref (ga g (111))), (5, .int (iN (5 * (t : Int))))]) [2, 3, 4, 5, 6, 7] rfl ?_
    exact V_widen (by omega) (by omega) (kk _ e3)
  · skip
    refine V_aload_n X 5 rfl dL_law_1810 rfl ?_
    refine V_iconst X dL_law_1811 ?_
    refine V_laload X dL_law_1812 ?_
    refine V_topl (b := b9) (e2 hz9) ?_
    refine V_iload X 0 rfl dL_law_1813 ?_
    refine V_i2l X br dL_law_1815 ?_
    refine V_lcmpE X dL_law_1816 ?_
    refine V_if_eq X 1822 ⟨by decide, by decide⟩ dL_law_1817 (by decide) (fun _ => ?_) (fun h9 => absurd h9 (by decide))
    refine V_goto X 2387 dL_law_1822 (by decide) ?_
    refine V_sub (lv' := [(0, .ref b), (1, .ref (ga g (0))), (2, .ref (ga g (89))), (3, .ref (ga g (110))), (4, .ref (ga g (111))), (5, .int (iN (5 * (t : Int))))]) [2, 3, 4, 5, 6, 7] rfl ?_
    exact V_widen (by omega) (by omega) (kk _ e3)
set_option maxRecDepth 100000 in
set_option maxHeartbeats 4000000 in
theorem lc_27 (g : Geo) {p : Program} (l : Launch) {e : Env} {s : State} {m : MethodId} {args : Array Value} {below : List Frame} {meth : Method} {c : Code} {k0 n0 : Nat} {Q : State → Prop} {b L : Nat} {xs : Nat → Int32} (hl9 : l.stackTraces = false) (X : Cx g p l room_1 s m args meth c cL_law 9 RL wsL_law) (hX : va_X b L xs s s.heap) (hbl : b < s.heap.size) (hbA : ¬ gA g b) (hL : L ≤ 2560) (t : Nat) (ht : 5 * t + 5 ≤ L) {σ : St} (hN : Nx σ) (hk9 : k0 + 5 ≤ 601024) (hn9 : n0 + 30 ≤ 7293034) (kk : ∀ u, Nx u → V g p l e room_1 s m args below meth c 9 (k0 + 5) (n0 + 30) Q u 2387 (lvL g b t) []) : V g p l e room_1 s m args below meth c 9 k0 n0 Q σ 1825 (lvL g b t) [] := by
  obtain ⟨n, ty, R, D, h, hU⟩ := id hN
  refine V_lv (lv' := [(0, .ref b), (1, .ref (ga g (0))), (2, .ref (ga g (89))), (3, .ref (ga g (110))), (4, .ref (ga g (111))), (5, .int (iN (5 * (t : Int))))]) rfl ?_
  refine V_aload_n X 1 rfl dL_law_1825 rfl ?_
  refine V_aload_n X 3 rfl dL_law_1826 rfl ?_
  refine V_callS_Iw X (na := 2) (m_L_shut g l hl9 σ h.1) gL_law_L_shut rfl rfl rfl (by decide +kernel) ⟨Nat.le_of_ble_eq_true rfl, Nat.le_of_ble_eq_true rfl⟩ rfl rfl (Nat.le_of_ble_eq_true rfl) ⟨by show k0 + 1 ≤ 601024; omega, by show n0 + 6 ≤ 7293034; omega⟩ dL_law_1827 (fun E u hp => hp.elim) (fun z u zr hz => ?_)
  obtain ⟨f, hq⟩ := q_shut  h hU  hz
  refine V_istore X [(6, .int (iN (z))), (0, .ref b), (1, .ref (ga g (0))), (2, .ref (ga g (89))), (3, .ref (ga g (110))), (4, .ref (ga g (111))), (5, .int (iN (5 * (t : Int))))] dL_law_1830 (by decide) rfl ?_
  refine V_aload_n X 3 rfl dL_law_1832 rfl ?_
  refine V_callV_I X (na := 0) (ci := 7) (b0 := 89) (by decide) (rfl) (by decide) rfl (m_X7_shut g l hl9 u f.2 (h.f23b f)) gL_law_X7_shut rfl rfl rfl (by decide +kernel) ⟨Nat.le_of_ble_eq_true rfl, Nat.le_of_ble_eq_true rfl⟩ rfl rfl (Nat.le_of_ble_eq_true rfl) ⟨by show k0 + 1 + 0 ≤ 601024; omega, by show n0 + 6 + 0 ≤ 7293034; omega⟩ dL_law_1833 (fun b9 y9 br hy => ?_)
  obtain ⟨e1, e2, e3⟩ := hq b9 y9 hy
  refine V_istore X [(7, .int (iN (b9))), (6, .int (iN (z))), (0, .ref b), (1, .ref (ga g (0))), (2, .ref (ga g (89))), (3, .ref (ga g (110))), (4, .ref (ga g (111))), (5, .int (iN (5 * (t : Int))))] dL_law_1836 (by decide) rfl ?_
  refine V_aload_n X 4 rfl dL_law_1838 rfl ?_
  refine V_callV_I X (na := 0) (ci := 7) (b0 := 89) (by decide) (rfl) (by decide) rfl (m_X7_thrown g l hl9 y9 e3.rg) gL_law_X7_thrown rfl rfl rfl (by decide +kernel) ⟨Nat.le_of_ble_eq_true rfl, Nat.le_of_ble_eq_true rfl⟩ rfl rfl (Nat.le_of_ble_eq_true rfl) ⟨by show k0 + 1 + 0 + 0 ≤ 601024; omega, by show n0 + 6 + 0 + 0 ≤ 7293034; omega⟩ dL_law_1839 (fun z3 u3 z3r h3 => ?_)
  obtain ⟨h3a, h3b⟩ := h3
  have h3b := h3b.symm
  subst h3b
  refine V_iload X 1 rfl dL_law_1842 ?_
  refine V_icmp_eq X 1849 z3r zr dL_law_1844 (by decide) (fun _ => ?_) (fun h9 => absurd (h3a.trans e1) h9)
  refine V_iload X 1 rfl dL_law_1849 ?_
  refine V_if_ne X 1866 zr dL_law_1851 (by decide) (fun hz9 => ?_) (fun hz9 => ?_)
  · skip
    refine V_goto X 2387 dL_law_1866 (by decide) ?_
    refine V_sub (lv' := [(0, .ref b), (1, .ref (ga g (0))), (2, .ref (ga g (89))), (3, .ref (ga g (110))), (4, .ref (ga g (111))), (5, .int (iN (5 * (t : Int))))]) [2, 3, 4, 5, 6, 7] rfl ?_
    exact V_widen (by omega) (by omega) (kk _ e3)
  · skip
    refine V_aload_n X 5 rfl dL_law_1854 rfl ?_
    refine V_iconst X dL_law_1855 ?_
    refine V_laload X dL_law_1856 ?_
    refine V_topl (b := b9) (e2 hz9) ?_
    refine V_iload X 0 rfl dL_law_1857 ?_
    refine V_i2l X br dL_law_1859 ?_
    refine V_lcmpE X dL_law_1860 ?_
    refine V_if_eq X 1866 ⟨by decide, by decide⟩ dL_law_1861 (by decide) (fun _ => ?_) (fun h9 => absurd h9 (by decide))
    refine V_goto X 2387 dL_law_1866 (by decide) ?_
    refine V_sub (lv' := [(0, .ref b), (1, .ref (ga g (0))), (2, .ref (ga g (89))), (3, .ref (ga g (110))), (4, .ref (ga g (111))), (5, .int (iN (5 * (t : Int))))]) [2, 3, 4, 5, 6, 7] rfl ?_
    exact V_widen (by omega) (by omega) (kk _ e3)
set_option maxRecDepth 100000 in
set_option maxHeartbeats 4000000 in
theorem lc_28 (g : Geo) {p : Program} (l : Launch) {e : Env} {s : State} {m : MethodId} {args : Array Value} {below : List Frame} {meth : Method} {c : Code} {k0 n0 : Nat} {Q : State → Prop} {b L : Nat} {xs : Nat → Int32} (hl9 : l.stackTraces = false) (X : Cx g p l room_1 s m args meth c cL_law 9 RL wsL_law) (hX : va_X b L xs s s.heap) (hbl : b < s.heap.size) (hbA : ¬ gA g b) (hL : L ≤ 2560) (t : Nat) (ht : 5 * t + 5 ≤ L) {σ : St} (hN : Nx σ) (hk9 : k0 + 5 ≤ 601024) (hn9 : n0 + 30 ≤ 7293034) (kk : ∀ u, Nx u → V g p l e room_1 s m args below meth c 9 (k0 + 5) (n0 + 30) Q u 2387 (lvL g b t) []) : V g p l e room_1 s m args below meth c 9 k0 n0 Q σ 1869 (lvL g b t) [] := by
  obtain ⟨n, ty, R, D, h, hU⟩ := id hN
  refine V_lv (lv' := [(0, .ref b), (1, .ref (ga g (0))), (2, .ref (ga g (89))), (3, .ref (ga g (110))), (4, .ref (ga g (111))), (5, .int (iN (5 * (t : Int))))]) rfl ?_
  refine V_aload_n X 1 rfl dL_law_1869 rfl ?_
  refine V_aload_n X 0 rfl dL_law_1870 rfl ?_
  refine V_iload X 5 rfl dL_law_1871 ?_
  refine V_iconst X dL_law_1873 ?_
  refine V_iadd X dL_law_1874 ?_
  refine V_sld X hX hbl hbA (5 * t + 1) (by omega) (by omega) (by omega) dL_law_1875 ?_
  refine V_aload_n X 0 rfl dL_law_1876 rfl ?_
  refine V_iload X 5 rfl dL_law_1877 ?_
  refine V_iconst X dL_law_1879 ?_
  refine V_iadd X dL_law_1880 ?_
  refine V_sld X hX hbl hbA (5 * t + 2) (by omega) (by omega) (by omega) dL_law_1881 ?_
  refine V_aload_n X 3 rfl dL_law_1882 rfl ?_
  refine V_callS_Iw X (na := 4) (m_L_lapIn g l hl9 σ h.1 ((xs (5 * t + 1)).toInt) ((xs (5 * t + 2)).toInt) (R32_toI _) (R32_toI _) n h.LB) gL_law_L_lapIn rfl rfl rfl (by decide +kernel) ⟨Nat.le_of_ble_eq_true rfl, Nat.le_of_ble_eq_true rfl⟩ rfl rfl (Nat.le_of_ble_eq_true rfl) ⟨by show k0 + 2 ≤ 601024; omega, by show n0 + 12 ≤ 7293034; omega⟩ dL_law_1883 (fun E u hp => hp.elim) (fun z u zr hz => ?_)
  obtain ⟨f, hq⟩ := q_lapIn ((xs (5 * t + 1)).toInt) ((xs (5 * t + 2)).toInt) h hU  hz
  refine V_istore X [(6, .int (iN (z))), (0, .ref b), (1, .ref (ga g (0))), (2, .ref (ga g (89))), (3, .ref (ga g (110))), (4, .ref (ga g (111))), (5, .int (iN (5 * (t : Int))))] dL_law_1886 (by decide) rfl ?_
  refine V_aload_n X 3 rfl dL_law_1888 rfl ?_
  refine V_aload_n X 1 rfl dL_law_1889 rfl ?_
  refine V_iload X 6 rfl dL_law_1890 ?_
  refine V_iconst X dL_law_1892 ?_
  refine V_iadd X dL_law_1893 ?_
  refine V_sld X hX hbl hbA (5 * t + 1) (by omega) (by omega) (by omega) dL_law_1894 ?_
  refine V_aload_n X 1 rfl dL_law_1895 rfl ?_
  refine V_iload X 6 rfl dL_law_1896 ?_
  refine V_iconst X dL_law_1898 ?_
  refine V_iadd X dL_law_1899 ?_
  refine V_sld X hX hbl hbA (5 * t + 2) (by omega) (by omega) (by omega) dL_law_1900 ?_
  refine V_callV_I X (na := 2) (ci := 7) (b0 := 89) (by decide) (rfl) (by decide) rfl (m_X7_lapIn g l hl9 u f.2 n (f.MB h.MB) (h.f23b f) ((xs (5 * t + 1)).toInt) ((xs (5 * t + 2)).toInt) (R32_toI _) (R32_toI _)) gL_law_X7_lapIn rfl rfl rfl (by decide +kernel) ⟨Nat.le_of_ble_eq_true rfl, Nat.le_of_ble_eq_true rfl⟩ rfl rfl (Nat.le_of_ble_eq_true rfl) ⟨by show k0 + 2 + 0 ≤ 601024; omega, by show n0 + 12 + 0 ≤ 7293034; omega⟩ dL_law_1901 (fun b9 y9 br hy => ?_)
  obtain ⟨e1, e2, e3⟩ := hq b9 y9 hy
  refine V_istore X [(7, .int (iN (b9))), (6, .int (iN (z))), (0, .ref b), (1, .ref (ga g (0))), (2, .ref (ga g (89))), (3, .ref (ga g (110))), (4, .ref (ga g (111))), (5, .int (iN (5 * (t : Int))))] dL_law_1904 (by decide) rfl ?_
  refine V_aload_n X 4 rfl dL_law_1906 rfl ?_
  refine V_callV_I X (na := 0) (ci := 7) (b0 := 89) (by decide) (rfl) (by decide) rfl (m_X7_thrown g l hl9 y9 e3.rg) gL_law_X7_thrown rfl rfl rfl (by decide +kernel) ⟨Nat.le_of_ble_eq_true rfl, Nat.le_of_ble_eq_true rfl⟩ rfl rfl (Nat.le_of_ble_eq_true rfl) ⟨by show k0 + 2 + 0 + 0 ≤ 601024; omega, by show n0 + 12 + 0 + 0 ≤ 7293034; omega⟩ dL_law_1907 (fun z3 u3 z3r h3 => ?_)
  obtain ⟨h3a, h3b⟩ := h3
  have h3b := h3b.symm
  subst h3b
  refine V_iload X 1 rfl dL_law_1910 ?_
  refine V_icmp_eq X 1917 z3r zr dL_law_1912 (by decide) (fun _ => ?_) (fun h9 => absurd (h3a.trans e1) h9)
  refine V_iload X 1 rfl dL_law_1917 ?_
  refine V_if_ne X 1934 zr dL_law_1919 (by decide) (fun hz9 => ?_) (fun hz9 => ?_)
  · skip
    refine V_goto X 2387 dL_law_1934 (by decide) ?_
    refine V_sub (lv' := [(0, .ref b), (1, .ref (ga g (0))), (2, .ref (ga g (89))), (3, .ref (ga g (110))), (4, .ref (ga g (111))), (5, .int (iN (5 * (t : Int))))]) [2, 3, 4, 5, 6, 7] rfl ?_
    exact V_widen (by omega) (by omega) (kk _ e3)
  · skip
    refine V_aload_n X 5 rfl dL_law_1922 rfl ?_
    refine V_iconst X dL_law_1923 ?_
    refine V_laload X dL_law_1924 ?_
    refine V_topl (b := b9) (e2 hz9) ?_
    refine V_iload X 0 rfl dL_law_1925 ?_
    refine V_i2l X br dL_law_1927 ?_
    refine V_lcmpE X dL_law_1928 ?_
    refine V_if_eq X 1934 ⟨by decide, by decide⟩ dL_law_1929 (by decide) (fun _ => ?_) (fun h9 => absurd h9 (by decide))
    refine V_goto X 2387 dL_law_1934 (by decide) ?_
    refine V_sub (lv' := [(0, .ref b), (1, .ref (ga g (0))), (2, .ref (ga g (89))), (3, .ref (ga g (110))), (4, .ref (ga g (111))), (5, .int (iN (5 * (t : Int))))]) [2, 3, 4, 5, 6, 7] rfl ?_
    exact V_widen (by omega) (by omega) (kk _ e3)
set_option maxRecDepth 100000 in
set_option maxHeartbeats 4000000 in
theorem lc_29 (g : Geo) {p : Program} (l : Launch) {e : Env} {s : State} {m : MethodId} {args : Array Value} {below : List Frame} {meth : Method} {c : Code} {k0 n0 : Nat} {Q : State → Prop} {b L : Nat} {xs : Nat → Int32} (hl9 : l.stackTraces = false) (X : Cx g p l room_1 s m args meth c cL_law 9 RL wsL_law) (hX : va_X b L xs s s.heap) (hbl : b < s.heap.size) (hbA : ¬ gA g b) (hL : L ≤ 2560) (t : Nat) (ht : 5 * t + 5 ≤ L) {σ : St} (hN : Nx σ) (hk9 : k0 + 5 ≤ 601024) (hn9 : n0 + 30 ≤ 7293034) (kk : ∀ u, Nx u → V g p l e room_1 s m args below meth c 9 (k0 + 5) (n0 + 30) Q u 2387 (lvL g b t) []) : V g p l e room_1 s m args below meth c 9 k0 n0 Q σ 1937 (lvL g b t) [] := by
  obtain ⟨n, ty, R, D, h, hU⟩ := id hN
  refine V_lv (lv' := [(0, .ref b), (1, .ref (ga g (0))), (2, .ref (ga g (89))), (3, .ref (ga g (110))), (4, .ref (ga g (111))), (5, .int (iN (5 * (t : Int))))]) rfl ?_
  refine V_aload_n X 1 rfl dL_law_1937 rfl ?_
  refine V_aload_n X 0 rfl dL_law_1938 rfl ?_
  refine V_iload X 5 rfl dL_law_1939 ?_
  refine V_iconst X dL_law_1941 ?_
  refine V_iadd X dL_law_1942 ?_
  refine V_sld X hX hbl hbA (5 * t + 1) (by omega) (by omega) (by omega) dL_law_1943 ?_
  refine V_aload_n X 0 rfl dL_law_1944 rfl ?_
  refine V_iload X 5 rfl dL_law_1945 ?_
  refine V_iconst X dL_law_1947 ?_
  refine V_iadd X dL_law_1948 ?_
  refine V_sld X hX hbl hbA (5 * t + 2) (by omega) (by omega) (by omega) dL_law_1949 ?_
  refine V_aload_n X 3 rfl dL_law_1950 rfl ?_
  refine V_callS_Iw X (na := 4) (m_L_placeIn g l hl9 σ h.1 ((xs (5 * t + 1)).toInt) ((xs (5 * t + 2)).toInt) (R32_toI _) (R32_toI _) n h.LB) gL_law_L_placeIn rfl rfl rfl (by decide +kernel) ⟨Nat.le_of_ble_eq_true rfl, Nat.le_of_ble_eq_true rfl⟩ rfl rfl (Nat.le_of_ble_eq_true rfl) ⟨by show k0 + 2 ≤ 601024; omega, by show n0 + 12 ≤ 7293034; omega⟩ dL_law_1951 (fun E u hp => hp.elim) (fun z u zr hz => ?_)
  obtain ⟨f, hq⟩ := q_placeIn ((xs (5 * t + 1)).toInt) ((xs (5 * t + 2)).toInt) h hU  hz
  refine V_istore X [(6, .int (iN (z))), (0, .ref b), (1, .ref (ga g (0))), (2, .ref (ga g (89))), (3, .ref (ga g (110))), (4, .ref (ga g (111))), (5, .int (iN (5 * (t : Int))))] dL_law_1954 (by decide) rfl ?_
  refine V_aload_n X 3 rfl dL_law_1956 rfl ?_
  refine V_aload_n X 1 rfl dL_law_1957 rfl ?_
  refine V_iload X 6 rfl dL_law_1958 ?_
  refine V_iconst X dL_law_1960 ?_
  refine V_iadd X dL_law_1961 ?_
  refine V_sld X hX hbl hbA (5 * t + 1) (by omega) (by omega) (by omega) dL_law_1962 ?_
  refine V_aload_n X 1 rfl dL_law_1963 rfl ?_
  refine V_iload X 6 rfl dL_law_1964 ?_
  refine V_iconst X dL_law_1966 ?_
  refine V_iadd X dL_law_1967 ?_
  refine V_sld X hX hbl hbA (5 * t + 2) (by omega) (by omega) (by omega) dL_law_1968 ?_
  refine V_callV_I X (na := 2) (ci := 7) (b0 := 89) (by decide) (rfl) (by decide) rfl (m_X7_placeIn g l hl9 u f.2 n (f.MB h.MB) (h.f23b f) ((xs (5 * t + 1)).toInt) ((xs (5 * t + 2)).toInt) (R32_toI _) (R32_toI _)) gL_law_X7_placeIn rfl rfl rfl (by decide +kernel) ⟨Nat.le_of_ble_eq_true rfl, Nat.le_of_ble_eq_true rfl⟩ rfl rfl (Nat.le_of_ble_eq_true rfl) ⟨by show k0 + 2 + 0 ≤ 601024; omega, by show n0 + 12 + 0 ≤ 7293034; omega⟩ dL_law_1969 (fun b9 y9 br hy => ?_)
  obtain ⟨e1, e2, e3⟩ := hq b9 y9 hy
  refine V_istore X [(7, .int (iN (b9))), (6, .int (iN (z))), (0, .ref b), (1, .ref (ga g (0))), (2, .ref (ga g (89))), (3, .ref (ga g (110))), (4, .ref (ga g (111))), (5, .int (iN (5 * (t : Int))))] dL_law_1972 (by decide) rfl ?_
  refine V_aload_n X 4 rfl dL_law_1974 rfl ?_
  refine V_callV_I X (na := 0) (ci := 7) (b0 := 89) (by decide) (rfl) (by decide) rfl (m_X7_thrown g l hl9 y9 e3.rg) gL_law_X7_thrown rfl rfl rfl (by decide +kernel) ⟨Nat.le_of_ble_eq_true rfl, Nat.le_of_ble_eq_true rfl⟩ rfl rfl (Nat.le_of_ble_eq_true rfl) ⟨by show k0 + 2 + 0 + 0 ≤ 601024; omega, by show n0 + 12 + 0 + 0 ≤ 7293034; omega⟩ dL_law_1975 (fun z3 u3 z3r h3 => ?_)
  obtain ⟨h3a, h3b⟩ := h3
  have h3b := h3b.symm
  subst h3b
  refine V_iload X 1 rfl dL_law_1978 ?_
  refine V_icmp_eq X 1985 z3r zr dL_law_1980 (by decide) (fun _ => ?_) (fun h9 => absurd (h3a.trans e1) h9)
  refine V_iload X 1 rfl dL_law_1985 ?_
  refine V_if_ne X 2002 zr dL_law_1987 (by decide) (fun hz9 => ?_) (fun hz9 => ?_)
  · skip
    refine V_goto X 2387 dL_law_2002 (by decide) ?_
    refine V_sub (lv' := [(0, .ref b), (1, .ref (ga g (0))), (2, .ref (ga g (89))), (3, .ref (ga g (110))), (4, .ref (ga g (111))), (5, .int (iN (5 * (t : Int))))]) [2, 3, 4, 5, 6, 7] rfl ?_
    exact V_widen (by omega) (by omega) (kk _ e3)
  · skip
    refine V_aload_n X 5 rfl dL_law_1990 rfl ?_
    refine V_iconst X dL_law_1991 ?_
    refine V_laload X dL_law_1992 ?_
    refine V_topl (b := b9) (e2 hz9) ?_
    refine V_iload X 0 rfl dL_law_1993 ?_
    refine V_i2l X br dL_law_1995 ?_
    refine V_lcmpE X dL_law_1996 ?_
    refine V_if_eq X 2002 ⟨by decide, by decide⟩ dL_law_1997 (by decide) (fun _ => ?_) (fun h9 => absurd h9 (by decide))
    refine V_goto X 2387 dL_law_2002 (by decide) ?_
    refine V_sub (lv' := [(0, .ref b), (1, .ref (ga g (0))), (2, .ref (ga g (89))), (3, .ref (ga g (110))), (4, .ref (ga g (111))), (5, .int (iN (5 * (t : Int))))]) [2, 3, 4, 5, 6, 7] rfl ?_
    exact V_widen (by omega) (by omega) (kk _ e3)
