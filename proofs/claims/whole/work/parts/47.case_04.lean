/-! ===== printed: the law, call by call ===== -/
section LL
variable {tb : List (Nat × Nat × Nat × Nat)} {g : GP} {adr : Nat → Nat} {b L i k n : Nat} {xs : Nat → Int32} {Q : QT} {μ : Mem} {α : A7}
set_option maxRecDepth 100000 in
set_option maxHeartbeats 4000000 in
theorem law_21 (hb : b < g.1) (hL : L ≤ 2048) (hi : i + 4 ≤ L) (hC : CR μ α) (hM : MR μ α) (hk : k + 1 ≤ 601024) (hn : n + 6 ≤ 7293034) (K : LK tb g adr b L xs Q i (k + 1) (n + 6)) : J g (mL_law tb) room_1 (QX b L xs Q) k n (WM g adr μ) 1504 [some (.ref b), some (.ref (adr 0)), some (.ref (adr 237)), some (.ref (adr 247)), some (.int (nI i)), none, none, none, none] [] := by
  by_cases hz0 : xs (i + 2) = 0
  · obtain ⟨c, v, v2, α1, ψ, hc10, hv, hz, hψ, hw, hm⟩ := k_isEven (g := g) (adr := adr) (xs (i + 1)) (j := 0) (by decide) hC hM
    refine J.al1 dL_law_1504 ?_
    refine J.al0 dL_law_1505 ?_
    refine J.il4 dL_law_1506 ?_
    refine J.iconst dL_law_1508 kI_1 ?_
    refine J.iaddN dL_law_1509 ?_
    refine J.sld hb (by omega) (by omega) dL_law_1510 ?_
    refine J.al0 dL_law_1511 ?_
    refine J.il4 dL_law_1512 ?_
    refine J.iconst dL_law_1514 kI_2 ?_
    refine J.iaddN dL_law_1515 ?_
    refine J.sld hb (by omega) (by omega) dL_law_1516 ?_
    refine J.if_eq (tgt := 1524) dL_law_1517 (by decide) (fun _ => ?_) (fun q => absurd hz0 q)
    refine J.iconst dL_law_1524 kI_0 ?_
    refine J.al3 dL_law_1525 ?_
    refine cl_L_205 rfl (k' := k + 1) (n' := n + 6) hw ⟨⟨by decide, by decide⟩, ⟨rfl, rfl⟩, hk, hn⟩ rfl dL_law_1526 (fun μ1 h1 => ?_)
    obtain ⟨hC1, hM1, hout⟩ := hψ μ1 h1
    refine J.is5 dL_law_1529 (Nat.le_of_ble_eq_true rfl) rfl ?_
    refine J.al2 dL_law_1531 ?_
    refine J.al0 dL_law_1532 ?_
    refine J.il4 dL_law_1533 ?_
    refine J.iconst dL_law_1535 kI_1 ?_
    refine J.iaddN dL_law_1536 ?_
    refine J.sld hb (by omega) (by omega) dL_law_1537 ?_
    refine J.al0 dL_law_1538 ?_
    refine J.il4 dL_law_1539 ?_
    refine J.iconst dL_law_1541 kI_2 ?_
    refine J.iaddN dL_law_1542 ?_
    refine J.sld hb (by omega) (by omega) dL_law_1543 ?_
    refine J.if_eq (tgt := 1551) dL_law_1544 (by decide) (fun _ => ?_) (fun q => absurd hz0 q)
    refine J.iconst dL_law_1551 kI_0 ?_
    refine cl_L_208 rfl (by decide) (k' := k + 1) (n' := n + 6) (hm μ1 hM1) ⟨⟨by decide, by decide⟩, ⟨rfl, rfl⟩, hk, hn⟩ rfl dL_law_1552 (fun μ2 h2 => ?_)
    obtain ⟨hM2, ht, hf⟩ := h2
    refine J.is6 dL_law_1555 (Nat.le_of_ble_eq_true rfl) rfl ?_
    refine J.al2 dL_law_1557 ?_
    refine cl_L_138 rfl (by decide) (k' := k + 1) (n' := n + 6) (c_m_thrown _ ht) ⟨⟨by decide, by decide⟩, ⟨rfl, rfl⟩, hk, hn⟩ rfl dL_law_1558 (fun μ3 h3 => ?_)
    rw [h3]; clear h3
    refine J.il5 dL_law_1561 ?_
    refine J.icmp_eqN (tgt := 1568) dL_law_1563 (by decide) (by omega) (by omega) (fun _ => ?_) (fun q => absurd rfl q)
    refine J.il5 dL_law_1568 ?_
    have fin : J g (mL_law tb) room_1 (QX b L xs Q) (k + 1) (n + 6) (WM g adr μ2) 1592 [some (.ref b), some (.ref (adr 0)), some (.ref (adr 237)), some (.ref (adr 247)), some (.int (nI i)), some (.int (nI c)), some (.int v2), none, none] [] := by
      refine J.goto (tgt := 2391) dL_law_1592 (by decide) ?_
      exact J.subR (K μ2 α1 (hC1.fm hf) hM2) ⟨rfl, ⟨rfl, ⟨rfl, ⟨rfl, ⟨rfl, trivial⟩⟩⟩⟩⟩
    refine J.if_neN (tgt := 1592) dL_law_1570 (by decide) (by omega) (fun _ => fin) (fun hc0 => ?_)
    have hvv := hv hc0
    subst hvv
    refine J.al3 dL_law_1573 ?_
    refine J.iconst dL_law_1574 kI_0 ?_
    refine J.lald (x := v2) (by decide) (by decide) ((congrFun (hf 247 (Or.inr rfl)) 0).trans (hout hc0)) dL_law_1575 ?_
    refine J.il6 dL_law_1576 ?_
    rcases hz rfl with e | e
    · subst e
      refine J.if_eq (tgt := 1585) dL_law_1578 (by decide) (fun _ => ?_) (fun q => absurd (by decide) q)
      refine J.lconst (i := 0) (v := (nI 0).toInt64) dL_law_1585 (by decide) ?_
      refine J.lcmpE dL_law_1586 ?_
      exact J.if_eq (tgt := 1592) dL_law_1587 (by decide) (fun _ => fin) (fun q => absurd rfl q)
    · subst e
      refine J.if_eq (tgt := 1585) dL_law_1578 (by decide) (fun q => absurd q (by decide)) (fun _ => ?_)
      refine J.lconst (i := 1) (v := (nI 1).toInt64) dL_law_1581 (by decide) ?_
      refine J.goto (tgt := 1586) dL_law_1582 (by decide) ?_
      refine J.lcmpE dL_law_1586 ?_
      exact J.if_eq (tgt := 1592) dL_law_1587 (by decide) (fun _ => fin) (fun q => absurd rfl q)
  · obtain ⟨c, v, v2, α1, ψ, hc10, hv, hz, hψ, hw, hm⟩ := k_isEven (g := g) (adr := adr) (xs (i + 1)) (j := 1) (by decide) hC hM
    refine J.al1 dL_law_1504 ?_
    refine J.al0 dL_law_1505 ?_
    refine J.il4 dL_law_1506 ?_
    refine J.iconst dL_law_1508 kI_1 ?_
    refine J.iaddN dL_law_1509 ?_
    refine J.sld hb (by omega) (by omega) dL_law_1510 ?_
    refine J.al0 dL_law_1511 ?_
    refine J.il4 dL_law_1512 ?_
    refine J.iconst dL_law_1514 kI_2 ?_
    refine J.iaddN dL_law_1515 ?_
    refine J.sld hb (by omega) (by omega) dL_law_1516 ?_
    refine J.if_eq (tgt := 1524) dL_law_1517 (by decide) (fun q => absurd q hz0) (fun _ => ?_)
    refine J.iconst dL_law_1520 kI_1 ?_
    refine J.goto (tgt := 1525) dL_law_1521 (by decide) ?_
    refine J.al3 dL_law_1525 ?_
    refine cl_L_205 rfl (k' := k + 1) (n' := n + 6) hw ⟨⟨by decide, by decide⟩, ⟨rfl, rfl⟩, hk, hn⟩ rfl dL_law_1526 (fun μ1 h1 => ?_)
    obtain ⟨hC1, hM1, hout⟩ := hψ μ1 h1
    refine J.is5 dL_law_1529 (Nat.le_of_ble_eq_true rfl) rfl ?_
    refine J.al2 dL_law_1531 ?_
    refine J.al0 dL_law_1532 ?_
    refine J.il4 dL_law_1533 ?_
    refine J.iconst dL_law_1535 kI_1 ?_
    refine J.iaddN dL_law_1536 ?_
    refine J.sld hb (by omega) (by omega) dL_law_1537 ?_
    refine J.al0 dL_law_1538 ?_
    refine J.il4 dL_law_1539 ?_
    refine J.iconst dL_law_1541 kI_2 ?_
    refine J.iaddN dL_law_1542 ?_
    refine J.sld hb (by omega) (by omega) dL_law_1543 ?_
    refine J.if_eq (tgt := 1551) dL_law_1544 (by decide) (fun q => absurd q hz0) (fun _ => ?_)
    refine J.iconst dL_law_1547 kI_1 ?_
    refine J.goto (tgt := 1552) dL_law_1548 (by decide) ?_
    refine cl_L_208 rfl (by decide) (k' := k + 1) (n' := n + 6) (hm μ1 hM1) ⟨⟨by decide, by decide⟩, ⟨rfl, rfl⟩, hk, hn⟩ rfl dL_law_1552 (fun μ2 h2 => ?_)
    obtain ⟨hM2, ht, hf⟩ := h2
    refine J.is6 dL_law_1555 (Nat.le_of_ble_eq_true rfl) rfl ?_
    refine J.al2 dL_law_1557 ?_
    refine cl_L_138 rfl (by decide) (k' := k + 1) (n' := n + 6) (c_m_thrown _ ht) ⟨⟨by decide, by decide⟩, ⟨rfl, rfl⟩, hk, hn⟩ rfl dL_law_1558 (fun μ3 h3 => ?_)
    rw [h3]; clear h3
    refine J.il5 dL_law_1561 ?_
    refine J.icmp_eqN (tgt := 1568) dL_law_1563 (by decide) (by omega) (by omega) (fun _ => ?_) (fun q => absurd rfl q)
    refine J.il5 dL_law_1568 ?_
    have fin : J g (mL_law tb) room_1 (QX b L xs Q) (k + 1) (n + 6) (WM g adr μ2) 1592 [some (.ref b), some (.ref (adr 0)), some (.ref (adr 237)), some (.ref (adr 247)), some (.int (nI i)), some (.int (nI c)), some (.int v2), none, none] [] := by
      refine J.goto (tgt := 2391) dL_law_1592 (by decide) ?_
      exact J.subR (K μ2 α1 (hC1.fm hf) hM2) ⟨rfl, ⟨rfl, ⟨rfl, ⟨rfl, ⟨rfl, trivial⟩⟩⟩⟩⟩
    refine J.if_neN (tgt := 1592) dL_law_1570 (by decide) (by omega) (fun _ => fin) (fun hc0 => ?_)
    have hvv := hv hc0
    subst hvv
    refine J.al3 dL_law_1573 ?_
    refine J.iconst dL_law_1574 kI_0 ?_
    refine J.lald (x := v2) (by decide) (by decide) ((congrFun (hf 247 (Or.inr rfl)) 0).trans (hout hc0)) dL_law_1575 ?_
    refine J.il6 dL_law_1576 ?_
    rcases hz rfl with e | e
    · subst e
      refine J.if_eq (tgt := 1585) dL_law_1578 (by decide) (fun _ => ?_) (fun q => absurd (by decide) q)
      refine J.lconst (i := 0) (v := (nI 0).toInt64) dL_law_1585 (by decide) ?_
      refine J.lcmpE dL_law_1586 ?_
      exact J.if_eq (tgt := 1592) dL_law_1587 (by decide) (fun _ => fin) (fun q => absurd rfl q)
    · subst e
      refine J.if_eq (tgt := 1585) dL_law_1578 (by decide) (fun q => absurd q (by decide)) (fun _ => ?_)
      refine J.lconst (i := 1) (v := (nI 1).toInt64) dL_law_1581 (by decide) ?_
      refine J.goto (tgt := 1586) dL_law_1582 (by decide) ?_
      refine J.lcmpE dL_law_1586 ?_
      exact J.if_eq (tgt := 1592) dL_law_1587 (by decide) (fun _ => fin) (fun q => absurd rfl q)

set_option maxRecDepth 100000 in
set_option maxHeartbeats 4000000 in
theorem law_22 (hb : b < g.1) (hL : L ≤ 2048) (hi : i + 4 ≤ L) (hC : CR μ α) (hM : MR μ α) (hk : k + 1 ≤ 601024) (hn : n + 6 ≤ 7293034) (K : LK tb g adr b L xs Q i (k + 1) (n + 6)) : J g (mL_law tb) room_1 (QX b L xs Q) k n (WM g adr μ) 1595 [some (.ref b), some (.ref (adr 0)), some (.ref (adr 237)), some (.ref (adr 247)), some (.int (nI i)), none, none, none, none] [] := by
  obtain ⟨c, v, v2, α1, ψ, hc10, hv, hz, hψ, hw, hm⟩ := k_cycle (g := g) (adr := adr) (xs (i + 1)) (xs (i + 2)) hC hM
  refine J.al1 dL_law_1595 ?_
  refine J.al0 dL_law_1596 ?_
  refine J.il4 dL_law_1597 ?_
  refine J.iconst dL_law_1599 kI_1 ?_
  refine J.iaddN dL_law_1600 ?_
  refine J.sld hb (by omega) (by omega) dL_law_1601 ?_
  refine J.al0 dL_law_1602 ?_
  refine J.il4 dL_law_1603 ?_
  refine J.iconst dL_law_1605 kI_2 ?_
  refine J.iaddN dL_law_1606 ?_
  refine J.sld hb (by omega) (by omega) dL_law_1607 ?_
  refine J.al3 dL_law_1608 ?_
  refine cl_L_209 rfl (k' := k + 1) (n' := n + 6) hw ⟨⟨by decide, by decide⟩, ⟨rfl, rfl⟩, hk, hn⟩ rfl dL_law_1609 (fun μ1 h1 => ?_)
  obtain ⟨hC1, hM1, hout⟩ := hψ μ1 h1
  refine J.is5 dL_law_1612 (Nat.le_of_ble_eq_true rfl) rfl ?_
  refine J.al2 dL_law_1614 ?_
  refine J.al0 dL_law_1615 ?_
  refine J.il4 dL_law_1616 ?_
  refine J.iconst dL_law_1618 kI_1 ?_
  refine J.iaddN dL_law_1619 ?_
  refine J.sld hb (by omega) (by omega) dL_law_1620 ?_
  refine J.al0 dL_law_1621 ?_
  refine J.il4 dL_law_1622 ?_
  refine J.iconst dL_law_1624 kI_2 ?_
  refine J.iaddN dL_law_1625 ?_
  refine J.sld hb (by omega) (by omega) dL_law_1626 ?_
  refine cl_L_211 rfl (by decide) (k' := k + 1) (n' := n + 6) (hm μ1 hM1) ⟨⟨by decide, by decide⟩, ⟨rfl, rfl⟩, hk, hn⟩ rfl dL_law_1627 (fun μ2 h2 => ?_)
  obtain ⟨hM2, ht, hf⟩ := h2
  refine J.is6 dL_law_1630 (Nat.le_of_ble_eq_true rfl) rfl ?_
  refine J.al2 dL_law_1632 ?_
  refine cl_L_138 rfl (by decide) (k' := k + 1) (n' := n + 6) (c_m_thrown _ ht) ⟨⟨by decide, by decide⟩, ⟨rfl, rfl⟩, hk, hn⟩ rfl dL_law_1633 (fun μ3 h3 => ?_)
  rw [h3]; clear h3
  refine J.il5 dL_law_1636 ?_
  refine J.icmp_eqN (tgt := 1643) dL_law_1638 (by decide) (by omega) (by omega) (fun _ => ?_) (fun q => absurd rfl q)
  refine J.il5 dL_law_1643 ?_
  have fin : J g (mL_law tb) room_1 (QX b L xs Q) (k + 1) (n + 6) (WM g adr μ2) 1660 [some (.ref b), some (.ref (adr 0)), some (.ref (adr 237)), some (.ref (adr 247)), some (.int (nI i)), some (.int (nI c)), some (.int v2), none, none] [] := by
    refine J.goto (tgt := 2391) dL_law_1660 (by decide) ?_
    exact J.subR (K μ2 α1 (hC1.fm hf) hM2) ⟨rfl, ⟨rfl, ⟨rfl, ⟨rfl, ⟨rfl, trivial⟩⟩⟩⟩⟩
  refine J.if_neN (tgt := 1660) dL_law_1645 (by decide) (by omega) (fun _ => fin) (fun hc0 => ?_)
  have hvv := hv hc0
  subst hvv
  refine J.al3 dL_law_1648 ?_
  refine J.iconst dL_law_1649 kI_0 ?_
  refine J.lald (x := v2) (by decide) (by decide) ((congrFun (hf 247 (Or.inr rfl)) 0).trans (hout hc0)) dL_law_1650 ?_
  refine J.il6 dL_law_1651 ?_
  refine J.i2l dL_law_1653 ?_
  refine J.lcmpE dL_law_1654 ?_
  exact J.if_eq (tgt := 1660) dL_law_1655 (by decide) (fun _ => fin) (fun q => absurd rfl q)

set_option maxRecDepth 100000 in
set_option maxHeartbeats 4000000 in
theorem law_23 (hb : b < g.1) (hL : L ≤ 2048) (hi : i + 4 ≤ L) (hC : CR μ α) (hM : MR μ α) (hk : k + 1 ≤ 601024) (hn : n + 6 ≤ 7293034) (K : LK tb g adr b L xs Q i (k + 1) (n + 6)) : J g (mL_law tb) room_1 (QX b L xs Q) k n (WM g adr μ) 1663 [some (.ref b), some (.ref (adr 0)), some (.ref (adr 237)), some (.ref (adr 247)), some (.int (nI i)), none, none, none, none] [] := by
  obtain ⟨c, v, v2, α1, ψ, hc10, hv, hz, hψ, hw, hm⟩ := k_commutes (g := g) (adr := adr) (xs (i + 1)) (xs (i + 2)) hC hM
  refine J.al1 dL_law_1663 ?_
  refine J.al0 dL_law_1664 ?_
  refine J.il4 dL_law_1665 ?_
  refine J.iconst dL_law_1667 kI_1 ?_
  refine J.iaddN dL_law_1668 ?_
  refine J.sld hb (by omega) (by omega) dL_law_1669 ?_
  refine J.al0 dL_law_1670 ?_
  refine J.il4 dL_law_1671 ?_
  refine J.iconst dL_law_1673 kI_2 ?_
  refine J.iaddN dL_law_1674 ?_
  refine J.sld hb (by omega) (by omega) dL_law_1675 ?_
  refine J.al3 dL_law_1676 ?_
  refine cl_L_212 rfl (k' := k + 1) (n' := n + 6) hw ⟨⟨by decide, by decide⟩, ⟨rfl, rfl⟩, hk, hn⟩ rfl dL_law_1677 (fun μ1 h1 => ?_)
  obtain ⟨hC1, hM1, hout⟩ := hψ μ1 h1
  refine J.is5 dL_law_1680 (Nat.le_of_ble_eq_true rfl) rfl ?_
  refine J.al2 dL_law_1682 ?_
  refine J.al0 dL_law_1683 ?_
  refine J.il4 dL_law_1684 ?_
  refine J.iconst dL_law_1686 kI_1 ?_
  refine J.iaddN dL_law_1687 ?_
  refine J.sld hb (by omega) (by omega) dL_law_1688 ?_
  refine J.al0 dL_law_1689 ?_
  refine J.il4 dL_law_1690 ?_
  refine J.iconst dL_law_1692 kI_2 ?_
  refine J.iaddN dL_law_1693 ?_
  refine J.sld hb (by omega) (by omega) dL_law_1694 ?_
  refine cl_L_214 rfl (by decide) (k' := k + 1) (n' := n + 6) (hm μ1 hM1) ⟨⟨by decide, by decide⟩, ⟨rfl, rfl⟩, hk, hn⟩ rfl dL_law_1695 (fun μ2 h2 => ?_)
  obtain ⟨hM2, ht, hf⟩ := h2
  refine J.is6 dL_law_1698 (Nat.le_of_ble_eq_true rfl) rfl ?_
  refine J.al2 dL_law_1700 ?_
  refine cl_L_138 rfl (by decide) (k' := k + 1) (n' := n + 6) (c_m_thrown _ ht) ⟨⟨by decide, by decide⟩, ⟨rfl, rfl⟩, hk, hn⟩ rfl dL_law_1701 (fun μ3 h3 => ?_)
  rw [h3]; clear h3
  refine J.il5 dL_law_1704 ?_
  refine J.icmp_eqN (tgt := 1711) dL_law_1706 (by decide) (by omega) (by omega) (fun _ => ?_) (fun q => absurd rfl q)
  refine J.il5 dL_law_1711 ?_
  have fin : J g (mL_law tb) room_1 (QX b L xs Q) (k + 1) (n + 6) (WM g adr μ2) 1735 [some (.ref b), some (.ref (adr 0)), some (.ref (adr 237)), some (.ref (adr 247)), some (.int (nI i)), some (.int (nI c)), some (.int v2), none, none] [] := by
    refine J.goto (tgt := 2391) dL_law_1735 (by decide) ?_
    exact J.subR (K μ2 α1 (hC1.fm hf) hM2) ⟨rfl, ⟨rfl, ⟨rfl, ⟨rfl, ⟨rfl, trivial⟩⟩⟩⟩⟩
  refine J.if_neN (tgt := 1735) dL_law_1713 (by decide) (by omega) (fun _ => fin) (fun hc0 => ?_)
  have hvv := hv hc0
  subst hvv
  refine J.al3 dL_law_1716 ?_
  refine J.iconst dL_law_1717 kI_0 ?_
  refine J.lald (x := v2) (by decide) (by decide) ((congrFun (hf 247 (Or.inr rfl)) 0).trans (hout hc0)) dL_law_1718 ?_
  refine J.il6 dL_law_1719 ?_
  rcases hz rfl with e | e
  · subst e
    refine J.if_eq (tgt := 1728) dL_law_1721 (by decide) (fun _ => ?_) (fun q => absurd (by decide) q)
    refine J.lconst (i := 0) (v := (nI 0).toInt64) dL_law_1728 (by decide) ?_
    refine J.lcmpE dL_law_1729 ?_
    exact J.if_eq (tgt := 1735) dL_law_1730 (by decide) (fun _ => fin) (fun q => absurd rfl q)
  · subst e
    refine J.if_eq (tgt := 1728) dL_law_1721 (by decide) (fun q => absurd q (by decide)) (fun _ => ?_)
    refine J.lconst (i := 1) (v := (nI 1).toInt64) dL_law_1724 (by decide) ?_
    refine J.goto (tgt := 1729) dL_law_1725 (by decide) ?_
    refine J.lcmpE dL_law_1729 ?_
    exact J.if_eq (tgt := 1735) dL_law_1730 (by decide) (fun _ => fin) (fun q => absurd rfl q)

set_option maxRecDepth 100000 in
set_option maxHeartbeats 4000000 in
theorem law_24 (hb : b < g.1) (hL : L ≤ 2048) (hi : i + 4 ≤ L) (hC : CR μ α) (hM : MR μ α) (hk : k + 1 ≤ 601024) (hn : n + 6 ≤ 7293034) (K : LK tb g adr b L xs Q i (k + 1) (n + 6)) : J g (mL_law tb) room_1 (QX b L xs Q) k n (WM g adr μ) 1738 [some (.ref b), some (.ref (adr 0)), some (.ref (adr 237)), some (.ref (adr 247)), some (.int (nI i)), none, none, none, none] [] := by
  obtain ⟨c, v, v2, α1, ψ, hc10, hv, hz, hψ, hw, hm⟩ := k_line (g := g) (adr := adr) (xs (i + 1)) hC hM
  refine J.al1 dL_law_1738 ?_
  refine J.al0 dL_law_1739 ?_
  refine J.il4 dL_law_1740 ?_
  refine J.iconst dL_law_1742 kI_1 ?_
  refine J.iaddN dL_law_1743 ?_
  refine J.sld hb (by omega) (by omega) dL_law_1744 ?_
  refine J.al3 dL_law_1745 ?_
  refine cl_L_215 rfl (k' := k + 1) (n' := n + 6) hw ⟨⟨by decide, by decide⟩, ⟨rfl, rfl⟩, hk, hn⟩ rfl dL_law_1746 (fun μ1 h1 => ?_)
  obtain ⟨hC1, hM1, hout⟩ := hψ μ1 h1
  refine J.is5 dL_law_1749 (Nat.le_of_ble_eq_true rfl) rfl ?_
  refine J.al2 dL_law_1751 ?_
  refine J.al0 dL_law_1752 ?_
  refine J.il4 dL_law_1753 ?_
  refine J.iconst dL_law_1755 kI_1 ?_
  refine J.iaddN dL_law_1756 ?_
  refine J.sld hb (by omega) (by omega) dL_law_1757 ?_
  refine cl_L_217 rfl (by decide) (k' := k + 1) (n' := n + 6) (hm μ1 hM1) ⟨⟨by decide, by decide⟩, ⟨rfl, rfl⟩, hk, hn⟩ rfl dL_law_1758 (fun μ2 h2 => ?_)
  obtain ⟨hM2, ht, hf⟩ := h2
  refine J.is6 dL_law_1761 (Nat.le_of_ble_eq_true rfl) rfl ?_
  refine J.al2 dL_law_1763 ?_
  refine cl_L_138 rfl (by decide) (k' := k + 1) (n' := n + 6) (c_m_thrown _ ht) ⟨⟨by decide, by decide⟩, ⟨rfl, rfl⟩, hk, hn⟩ rfl dL_law_1764 (fun μ3 h3 => ?_)
  rw [h3]; clear h3
  refine J.il5 dL_law_1767 ?_
  refine J.icmp_eqN (tgt := 1774) dL_law_1769 (by decide) (by omega) (by omega) (fun _ => ?_) (fun q => absurd rfl q)
  refine J.il5 dL_law_1774 ?_
  have fin : J g (mL_law tb) room_1 (QX b L xs Q) (k + 1) (n + 6) (WM g adr μ2) 1791 [some (.ref b), some (.ref (adr 0)), some (.ref (adr 237)), some (.ref (adr 247)), some (.int (nI i)), some (.int (nI c)), some (.int v2), none, none] [] := by
    refine J.goto (tgt := 2391) dL_law_1791 (by decide) ?_
    exact J.subR (K μ2 α1 (hC1.fm hf) hM2) ⟨rfl, ⟨rfl, ⟨rfl, ⟨rfl, ⟨rfl, trivial⟩⟩⟩⟩⟩
  refine J.if_neN (tgt := 1791) dL_law_1776 (by decide) (by omega) (fun _ => fin) (fun hc0 => ?_)
  have hvv := hv hc0
  subst hvv
  refine J.al3 dL_law_1779 ?_
  refine J.iconst dL_law_1780 kI_0 ?_
  refine J.lald (x := v2) (by decide) (by decide) ((congrFun (hf 247 (Or.inr rfl)) 0).trans (hout hc0)) dL_law_1781 ?_
  refine J.il6 dL_law_1782 ?_
  refine J.i2l dL_law_1784 ?_
  refine J.lcmpE dL_law_1785 ?_
  exact J.if_eq (tgt := 1791) dL_law_1786 (by decide) (fun _ => fin) (fun q => absurd rfl q)

set_option maxRecDepth 100000 in
set_option maxHeartbeats 4000000 in
theorem law_25 (hb : b < g.1) (hL : L ≤ 2048) (hi : i + 4 ≤ L) (hC : CR μ α) (hM : MR μ α) (hk : k + 1 ≤ 601024) (hn : n + 6 ≤ 7293034) (K : LK tb g adr b L xs Q i (k + 1) (n + 6)) : J g (mL_law tb) room_1 (QX b L xs Q) k n (WM g adr μ) 1794 [some (.ref b), some (.ref (adr 0)), some (.ref (adr 237)), some (.ref (adr 247)), some (.int (nI i)), none, none, none, none] [] := by
  refine J.al1 dL_law_1794 ?_
  refine cl_L_218 rfl (by decide) (k' := k + 1) (n' := n + 6) (c_logLine μ hC) ⟨⟨by decide, by decide⟩, ⟨rfl, rfl⟩, hk, hn⟩ rfl dL_law_1795 (fun μ1 h1 => ?_)
  have hM1 : MR μ1 α := hM.fc (fun o ho _ => h1.2 o ho)
  refine J.al2 dL_law_1798 ?_
  refine cl_L_221 rfl (by decide) (k' := k + 1) (n' := n + 6) (c_m_logLine μ1 hM1) ⟨⟨by decide, by decide⟩, ⟨rfl, rfl⟩, hk, hn⟩ rfl dL_law_1799 (fun μ2 h2 => ?_)
  obtain ⟨hM2, ht, hf⟩ := h2
  exact J.icmp_eq (tgt := 2391) dL_law_1802 (by decide) (fun _ => K μ2 _ (h1.1.fm hf) hM2) (fun q => absurd rfl q)

set_option maxRecDepth 100000 in
set_option maxHeartbeats 4000000 in
theorem law_26 (hb : b < g.1) (hL : L ≤ 2048) (hi : i + 4 ≤ L) (hC : CR μ α) (hM : MR μ α) (hk : k + 1 ≤ 601024) (hn : n + 6 ≤ 7293034) (K : LK tb g adr b L xs Q i (k + 1) (n + 6)) : J g (mL_law tb) room_1 (QX b L xs Q) k n (WM g adr μ) 1807 [some (.ref b), some (.ref (adr 0)), some (.ref (adr 237)), some (.ref (adr 247)), some (.int (nI i)), none, none, none, none] [] := by
  obtain ⟨c, v, v2, α1, ψ, hc10, hv, hz, hψ, hw, hm⟩ := k_cycleLine (g := g) (adr := adr) (xs (i + 1)) hC hM
  refine J.al1 dL_law_1807 ?_
  refine J.al0 dL_law_1808 ?_
  refine J.il4 dL_law_1809 ?_
  refine J.iconst dL_law_1811 kI_1 ?_
  refine J.iaddN dL_law_1812 ?_
  refine J.sld hb (by omega) (by omega) dL_law_1813 ?_
  refine J.al3 dL_law_1814 ?_
  refine cl_L_222 rfl (k' := k + 1) (n' := n + 6) hw ⟨⟨by decide, by decide⟩, ⟨rfl, rfl⟩, hk, hn⟩ rfl dL_law_1815 (fun μ1 h1 => ?_)
  obtain ⟨hC1, hM1, hout⟩ := hψ μ1 h1
  refine J.is5 dL_law_1818 (Nat.le_of_ble_eq_true rfl) rfl ?_
  refine J.al2 dL_law_1820 ?_
  refine J.al0 dL_law_1821 ?_
  refine J.il4 dL_law_1822 ?_
  refine J.iconst dL_law_1824 kI_1 ?_
  refine J.iaddN dL_law_1825 ?_
  refine J.sld hb (by omega) (by omega) dL_law_1826 ?_
  refine cl_L_224 rfl (by decide) (k' := k + 1) (n' := n + 6) (hm μ1 hM1) ⟨⟨by decide, by decide⟩, ⟨rfl, rfl⟩, hk, hn⟩ rfl dL_law_1827 (fun μ2 h2 => ?_)
  obtain ⟨hM2, ht, hf⟩ := h2
  refine J.is6 dL_law_1830 (Nat.le_of_ble_eq_true rfl) rfl ?_
  refine J.al2 dL_law_1832 ?_
  refine cl_L_138 rfl (by decide) (k' := k + 1) (n' := n + 6) (c_m_thrown _ ht) ⟨⟨by decide, by decide⟩, ⟨rfl, rfl⟩, hk, hn⟩ rfl dL_law_1833 (fun μ3 h3 => ?_)
  rw [h3]; clear h3
  refine J.il5 dL_law_1836 ?_
  refine J.icmp_eqN (tgt := 1843) dL_law_1838 (by decide) (by omega) (by omega) (fun _ => ?_) (fun q => absurd rfl q)
  refine J.il5 dL_law_1843 ?_
  have fin : J g (mL_law tb) room_1 (QX b L xs Q) (k + 1) (n + 6) (WM g adr μ2) 1860 [some (.ref b), some (.ref (adr 0)), some (.ref (adr 237)), some (.ref (adr 247)), some (.int (nI i)), some (.int (nI c)), some (.int v2), none, none] [] := by
    refine J.goto (tgt := 2391) dL_law_1860 (by decide) ?_
    exact J.subR (K μ2 α1 (hC1.fm hf) hM2) ⟨rfl, ⟨rfl, ⟨rfl, ⟨rfl, ⟨rfl, trivial⟩⟩⟩⟩⟩
  refine J.if_neN (tgt := 1860) dL_law_1845 (by decide) (by omega) (fun _ => fin) (fun hc0 => ?_)
  have hvv := hv hc0
  subst hvv
  refine J.al3 dL_law_1848 ?_
  refine J.iconst dL_law_1849 kI_0 ?_
  refine J.lald (x := v2) (by decide) (by decide) ((congrFun (hf 247 (Or.inr rfl)) 0).trans (hout hc0)) dL_law_1850 ?_
  refine J.il6 dL_law_1851 ?_
  refine J.i2l dL_law_1853 ?_
  refine J.lcmpE dL_law_1854 ?_
  exact J.if_eq (tgt := 1860) dL_law_1855 (by decide) (fun _ => fin) (fun q => absurd rfl q)

set_option maxRecDepth 100000 in
set_option maxHeartbeats 4000000 in
theorem law_27 (hb : b < g.1) (hL : L ≤ 2048) (hi : i + 4 ≤ L) (hC : CR μ α) (hM : MR μ α) (hk : k + 1 ≤ 601024) (hn : n + 6 ≤ 7293034) (K : LK tb g adr b L xs Q i (k + 1) (n + 6)) : J g (mL_law tb) room_1 (QX b L xs Q) k n (WM g adr μ) 1863 [some (.ref b), some (.ref (adr 0)), some (.ref (adr 237)), some (.ref (adr 247)), some (.int (nI i)), none, none, none, none] [] := by
  obtain ⟨c, v, v2, α1, ψ, hc10, hv, hz, hψ, hw, hm⟩ := k_character (g := g) (adr := adr) (xs (i + 1)) hC hM
  refine J.al1 dL_law_1863 ?_
  refine J.al0 dL_law_1864 ?_
  refine J.il4 dL_law_1865 ?_
  refine J.iconst dL_law_1867 kI_1 ?_
  refine J.iaddN dL_law_1868 ?_
  refine J.sld hb (by omega) (by omega) dL_law_1869 ?_
  refine J.al3 dL_law_1870 ?_
  refine cl_L_225 rfl (k' := k + 1) (n' := n + 6) hw ⟨⟨by decide, by decide⟩, ⟨rfl, rfl⟩, hk, hn⟩ rfl dL_law_1871 (fun μ1 h1 => ?_)
  obtain ⟨hC1, hM1, hout⟩ := hψ μ1 h1
  refine J.is5 dL_law_1874 (Nat.le_of_ble_eq_true rfl) rfl ?_
  refine J.al2 dL_law_1876 ?_
  refine J.al0 dL_law_1877 ?_
  refine J.il4 dL_law_1878 ?_
  refine J.iconst dL_law_1880 kI_1 ?_
  refine J.iaddN dL_law_1881 ?_
  refine J.sld hb (by omega) (by omega) dL_law_1882 ?_
  refine cl_L_227 rfl (by decide) (k' := k + 1) (n' := n + 6) (hm μ1 hM1) ⟨⟨by decide, by decide⟩, ⟨rfl, rfl⟩, hk, hn⟩ rfl dL_law_1883 (fun μ2 h2 => ?_)
  obtain ⟨hM2, ht, hf⟩ := h2
  refine J.is6 dL_law_1886 (Nat.le_of_ble_eq_true rfl) rfl ?_
  refine J.al2 dL_law_1888 ?_
  refine cl_L_138 rfl (by decide) (k' := k + 1) (n' := n + 6) (c_m_thrown _ ht) ⟨⟨by decide, by decide⟩, ⟨rfl, rfl⟩, hk, hn⟩ rfl dL_law_1889 (fun μ3 h3 => ?_)
  rw [h3]; clear h3
  refine J.il5 dL_law_1892 ?_
  refine J.icmp_eqN (tgt := 1899) dL_law_1894 (by decide) (by omega) (by omega) (fun _ => ?_) (fun q => absurd rfl q)
  refine J.il5 dL_law_1899 ?_
  have fin : J g (mL_law tb) room_1 (QX b L xs Q) (k + 1) (n + 6) (WM g adr μ2) 1916 [some (.ref b), some (.ref (adr 0)), some (.ref (adr 237)), some (.ref (adr 247)), some (.int (nI i)), some (.int (nI c)), some (.int v2), none, none] [] := by
    refine J.goto (tgt := 2391) dL_law_1916 (by decide) ?_
    exact J.subR (K μ2 α1 (hC1.fm hf) hM2) ⟨rfl, ⟨rfl, ⟨rfl, ⟨rfl, ⟨rfl, trivial⟩⟩⟩⟩⟩
  refine J.if_neN (tgt := 1916) dL_law_1901 (by decide) (by omega) (fun _ => fin) (fun hc0 => ?_)
  have hvv := hv hc0
  subst hvv
  refine J.al3 dL_law_1904 ?_
  refine J.iconst dL_law_1905 kI_0 ?_
  refine J.lald (x := v2) (by decide) (by decide) ((congrFun (hf 247 (Or.inr rfl)) 0).trans (hout hc0)) dL_law_1906 ?_
  refine J.il6 dL_law_1907 ?_
  refine J.i2l dL_law_1909 ?_
  refine J.lcmpE dL_law_1910 ?_
  exact J.if_eq (tgt := 1916) dL_law_1911 (by decide) (fun _ => fin) (fun q => absurd rfl q)
end LL
