theorem dL_law_1594 : decode cL_law 1594 = .ok (.aload_n 1, 1) := by decide +kernel
theorem dL_law_1595 : decode cL_law 1595 = .ok (.aload_n 0, 1) := by decide +kernel
theorem dL_law_1596 : decode cL_law 1596 = .ok (.iload_n 3, 1) := by decide +kernel
theorem dL_law_1597 : decode cL_law 1597 = .ok (.iconst 1, 1) := by decide +kernel
theorem dL_law_1598 : decode cL_law 1598 = .ok (.iadd, 1) := by decide +kernel
theorem dL_law_1599 : decode cL_law 1599 = .ok (.iaload, 1) := by decide +kernel
theorem dL_law_1600 : decode cL_law 1600 = .ok (.aload_n 0, 1) := by decide +kernel
theorem dL_law_1601 : decode cL_law 1601 = .ok (.iload_n 3, 1) := by decide +kernel
theorem dL_law_1602 : decode cL_law 1602 = .ok (.iconst 2, 1) := by decide +kernel
theorem dL_law_1603 : decode cL_law 1603 = .ok (.iadd, 1) := by decide +kernel
theorem dL_law_1604 : decode cL_law 1604 = .ok (.iaload, 1) := by decide +kernel
theorem dL_law_1605 : decode cL_law 1605 = .ok (.aload_n 0, 1) := by decide +kernel
theorem dL_law_1606 : decode cL_law 1606 = .ok (.iload_n 3, 1) := by decide +kernel
theorem dL_law_1607 : decode cL_law 1607 = .ok (.iconst 3, 1) := by decide +kernel
theorem dL_law_1608 : decode cL_law 1608 = .ok (.iadd, 1) := by decide +kernel
theorem dL_law_1609 : decode cL_law 1609 = .ok (.iaload, 1) := by decide +kernel
theorem dL_law_1610 : decode cL_law 1610 = .ok (.i2l, 1) := by decide +kernel
theorem dL_law_1611 : decode cL_law 1611 = .ok (.bipush 32, 2) := by decide +kernel
theorem dL_law_1613 : decode cL_law 1613 = .ok (.lshl, 1) := by decide +kernel
theorem dL_law_1614 : decode cL_law 1614 = .ok (.aload_n 0, 1) := by decide +kernel
theorem dL_law_1615 : decode cL_law 1615 = .ok (.iload_n 3, 1) := by decide +kernel
theorem dL_law_1616 : decode cL_law 1616 = .ok (.iconst 4, 1) := by decide +kernel
theorem dL_law_1617 : decode cL_law 1617 = .ok (.iadd, 1) := by decide +kernel
theorem dL_law_1618 : decode cL_law 1618 = .ok (.iaload, 1) := by decide +kernel
theorem dL_law_1619 : decode cL_law 1619 = .ok (.i2l, 1) := by decide +kernel
theorem dL_law_1620 : decode cL_law 1620 = .ok (.ldc2_w 205, 3) := by decide +kernel
theorem dL_law_1623 : decode cL_law 1623 = .ok (.land, 1) := by decide +kernel
theorem dL_law_1624 : decode cL_law 1624 = .ok (.lor, 1) := by decide +kernel
theorem dL_law_1625 : decode cL_law 1625 = .ok (.invokevirtual 207, 3) := by decide +kernel
theorem dL_law_1628 : decode cL_law 1628 = .ok (.pop, 1) := by decide +kernel
theorem dL_law_1629 : decode cL_law 1629 = .ok (.aload_n 2, 1) := by decide +kernel
theorem dL_law_1630 : decode cL_law 1630 = .ok (.aload_n 0, 1) := by decide +kernel
theorem dL_law_1631 : decode cL_law 1631 = .ok (.iload_n 3, 1) := by decide +kernel
theorem dL_law_1632 : decode cL_law 1632 = .ok (.iconst 1, 1) := by decide +kernel
theorem dL_law_1633 : decode cL_law 1633 = .ok (.iadd, 1) := by decide +kernel
theorem dL_law_1634 : decode cL_law 1634 = .ok (.iaload, 1) := by decide +kernel
theorem dL_law_1635 : decode cL_law 1635 = .ok (.aload_n 0, 1) := by decide +kernel
theorem dL_law_1636 : decode cL_law 1636 = .ok (.iload_n 3, 1) := by decide +kernel
theorem dL_law_1637 : decode cL_law 1637 = .ok (.iconst 2, 1) := by decide +kernel
theorem dL_law_1638 : decode cL_law 1638 = .ok (.iadd, 1) := by decide +kernel
theorem dL_law_1639 : decode cL_law 1639 = .ok (.iaload, 1) := by decide +kernel
theorem dL_law_1640 : decode cL_law 1640 = .ok (.aload_n 0, 1) := by decide +kernel
theorem dL_law_1641 : decode cL_law 1641 = .ok (.iload_n 3, 1) := by decide +kernel
theorem dL_law_1642 : decode cL_law 1642 = .ok (.iconst 3, 1) := by decide +kernel
theorem dL_law_1643 : decode cL_law 1643 = .ok (.iadd, 1) := by decide +kernel
theorem dL_law_1644 : decode cL_law 1644 = .ok (.iaload, 1) := by decide +kernel
theorem dL_law_1645 : decode cL_law 1645 = .ok (.i2l, 1) := by decide +kernel
theorem dL_law_1646 : decode cL_law 1646 = .ok (.bipush 32, 2) := by decide +kernel
theorem dL_law_1648 : decode cL_law 1648 = .ok (.lshl, 1) := by decide +kernel
theorem dL_law_1649 : decode cL_law 1649 = .ok (.aload_n 0, 1) := by decide +kernel
theorem dL_law_1650 : decode cL_law 1650 = .ok (.iload_n 3, 1) := by decide +kernel
theorem dL_law_1651 : decode cL_law 1651 = .ok (.iconst 4, 1) := by decide +kernel
theorem dL_law_1652 : decode cL_law 1652 = .ok (.iadd, 1) := by decide +kernel
theorem dL_law_1653 : decode cL_law 1653 = .ok (.iaload, 1) := by decide +kernel
theorem dL_law_1654 : decode cL_law 1654 = .ok (.i2l, 1) := by decide +kernel
theorem dL_law_1655 : decode cL_law 1655 = .ok (.ldc2_w 205, 3) := by decide +kernel
theorem dL_law_1658 : decode cL_law 1658 = .ok (.land, 1) := by decide +kernel
theorem dL_law_1659 : decode cL_law 1659 = .ok (.lor, 1) := by decide +kernel
theorem dL_law_1660 : decode cL_law 1660 = .ok (.invokevirtual 211, 3) := by decide +kernel
theorem dL_law_1663 : decode cL_law 1663 = .ok (.pop, 1) := by decide +kernel
theorem dL_law_1664 : decode cL_law 1664 = .ok (.goto 66, 3) := by decide +kernel
def CW_46 (cI cZ cB cJ cM cG : ClassId) (a : Nat → Nat) (u : Nat → Int32) (F : Nat → Nat → Int32) (G : Nat → Nat → Int64) (j : Int64) : va_W := [(a 0, .inr (11, [.ref (a 1), .ref (a 2), .ref (a 3), .ref (a 4), .ref (a 5), .ref (a 6), .ref (a 7), .ref (a 8), .ref (a 9), .ref (a 10)])), (a 5, .inr (8, [.ref (a 36), .ref (a 37), .ref (a 38), .ref (a 39)])), (a 36, .inl (cI, 4, .inl (F 24))), (a 37, .inl (cI, 4, .inl (F 25))), (a 38, .inl (cZ, 4, .inl (F 26))), (a 39, .inl (cJ, 240, .inr (.inl (G 0)))), (a 171, .inr (12, [.int (u 117), .ref (a 172), .ref (a 173), .ref (a 174), .ref (a 175), .int (u 118), .ref (a 176), .int (u 119), .int (u 120), .int (u 121), .int (u 122), .int (u 123), .int (u 124), .int (u 125), .ref (a 177), .ref (a 178), .ref (a 179), .ref (a 180), .ref (a 181), .ref (a 182), .ref (a 183), .int (u 126), .ref (a 184), .int (u 127), .ref (a 185), .ref (a 186), .int (u 128), .ref (a 187), .ref (a 188), .ref (a 189), .ref (a 190), .int (u 129), .int (u 130), .int (u 131), .int (u 132), .int (u 133), .ref (a 191), .long j, .ref (a 192), .ref (a 193), .ref (a 194), .ref (a 195)])), (a 192, .inl (cI, 4, .inl (F 156))), (a 193, .inl (cI, 4, .inl (F 157))), (a 194, .inl (cJ, 240, .inr (.inl (G 1))))]
def CA_46 (a : Nat → Nat) : List Nat := [a 0, a 5, a 36, a 37, a 38, a 39, a 171, a 192, a 193, a 194]
set_option maxHeartbeats 16000000 in
set_option maxRecDepth 100000 in
theorem lcase_46 {p : Program} {l : Launch} {e : Env} {s : State} {m : MethodId} {below : List Frame} {meth : Method} {c : Code} {b L : Nat} {xs : Nat → Int32} {dC : Nat → ClassId} {dI : Nat → Nat → Nat} {cI cZ cB cJ cM cG : ClassId} (a : Nat → Nat) (u : Nat → Int32) (F : Nat → Nat → Int32) (G : Nat → Nat → Int64) (j : Int64) {H0 H : Heap} {locs : List Loc} {ls : Array Slot} {w3 : Int32} (C0 : lw_At p s m meth c b L xs) (hL : L ≤ 384) (hN : NT (fun q : Nat => s.heap.size ≤ q) s) (hK : va_K (dC, dI) vwCl [(cI, .int), (cZ, .boolean), (cB, .byte), (cJ, .long), (cM, .object RX2), (cG, .array .int)] s) (hP : va_P (dC, dI) vwCl (CW_46 cI cZ cB cJ cM cG a u F G j) H) (hD : va_D (fun q : Nat => s.heap.size ≤ q) (CW_46 cI cZ cB cJ cM cG a u F G j)) (hF : (∀ q : Nat, q < H0.size → q ∉ (CA_46 a) → H[q]? = H0[q]?)) (hZ : H0.size ≤ H.size) (hS : va_S (fun q : Nat => s.heap.size ≤ q) s.heap H locs) (hl : lv_has ls 4 [(0, .ref b), (1, .ref (a 0)), (2, .ref (a 171)), (3, .int w3)]) (hi0 : 0 ≤ w3.toInt) (hi6 : w3.toInt + 6 ≤ (L : Int)) (p_10 : rng (F 25) 4 0 60) (p_11 : rng (F 26) 4 0 1) (p_64 : (0 : Int) ≤ (u 118).toInt ∧ (u 118).toInt ≤ 1600) (p_65 : (0 : Int) ≤ (u 119).toInt ∧ (u 119).toInt ≤ 1600) (p_66 : (0 : Int) ≤ (u 120).toInt ∧ (u 120).toInt ≤ 1600) (p_67 : (0 : Int) ≤ (u 121).toInt ∧ (u 121).toInt ≤ 1600) (p_68 : (0 : Int) ≤ (u 122).toInt ∧ (u 122).toInt ≤ 6) (p_69 : (0 : Int) ≤ (u 124).toInt ∧ (u 124).toInt ≤ 3) (p_70 : (0 : Int) ≤ (u 128).toInt ∧ (u 128).toInt ≤ 59) (p_74 : rng (F 156) 4 (-1) 60) (p_75 : rng (F 157) 4 0 3) (hk : ∀ (H : Heap) (locs : List Loc) (ls : Array Slot) (x9 : Int32) (u9 : Nat → Int32) (F9 : Nat → Nat → Int32) (G9 : Nat → Nat → Int64) (j9 : Int64), va_P (dC, dI) vwCl (CW_46 cI cZ cB cJ cM cG a u9 F9 G9 j9) H → va_D (fun q : Nat => s.heap.size ≤ q) (CW_46 cI cZ cB cJ cM cG a u9 F9 G9 j9) → (∀ q : Nat, q < H0.size → q ∉ (CA_46 a) → H[q]? = H0[q]?) → H0.size ≤ H.size → va_S (fun q : Nat => s.heap.size ≤ q) s.heap H locs → lv_has ls 4 [(0, .ref b), (1, .ref (a 0)), (2, .ref (a 171)), (3, .int x9)] → x9.toInt = w3.toInt + (6 : Int32).toInt → (rng (F9 25) 4 0 60) → (rng (F9 26) 4 0 1) → ((0 : Int) ≤ (u9 118).toInt ∧ (u9 118).toInt ≤ 1600) → ((0 : Int) ≤ (u9 119).toInt ∧ (u9 119).toInt ≤ 1600) → ((0 : Int) ≤ (u9 120).toInt ∧ (u9 120).toInt ≤ 1600) → ((0 : Int) ≤ (u9 121).toInt ∧ (u9 121).toInt ≤ 1600) → ((0 : Int) ≤ (u9 122).toInt ∧ (u9 122).toInt ≤ 6) → ((0 : Int) ≤ (u9 124).toInt ∧ (u9 124).toInt ≤ 3) → ((0 : Int) ≤ (u9 128).toInt ∧ (u9 128).toInt ≤ 59) → (rng (F9 156) 4 (-1) 60) → (rng (F9 157) 4 0 3) → W p l e room_1 s m #[Value.ref b] below meth c H locs 600000 7302250 (lw_Z below #[Value.ref b] s) (F0 m 18 ls [])) : W p l e room_1 s m #[Value.ref b] below meth c H locs 600000 7302250 (lw_Z below #[Value.ref b] s) (F0 m 1594 ls []) := by
  replace hP : va_P (dC, dI) vwCl [(a 0, .inr (11, [.ref (a 1), .ref (a 2), .ref (a 3), .ref (a 4), .ref (a 5), .ref (a 6), .ref (a 7), .ref (a 8), .ref (a 9), .ref (a 10)])), (a 5, .inr (8, [.ref (a 36), .ref (a 37), .ref (a 38), .ref (a 39)])), (a 36, .inl (cI, 4, .inl (F 24))), (a 37, .inl (cI, 4, .inl (F 25))), (a 38, .inl (cZ, 4, .inl (F 26))), (a 39, .inl (cJ, 240, .inr (.inl (G 0)))), (a 171, .inr (12, [.int (u 117), .ref (a 172), .ref (a 173), .ref (a 174), .ref (a 175), .int (u 118), .ref (a 176), .int (u 119), .int (u 120), .int (u 121), .int (u 122), .int (u 123), .int (u 124), .int (u 125), .ref (a 177), .ref (a 178), .ref (a 179), .ref (a 180), .ref (a 181), .ref (a 182), .ref (a 183), .int (u 126), .ref (a 184), .int (u 127), .ref (a 185), .ref (a 186), .int (u 128), .ref (a 187), .ref (a 188), .ref (a 189), .ref (a 190), .int (u 129), .int (u 130), .int (u 131), .int (u 132), .int (u 133), .ref (a 191), .long j, .ref (a 192), .ref (a 193), .ref (a 194), .ref (a 195)])), (a 192, .inl (cI, 4, .inl (F 156))), (a 193, .inl (cI, 4, .inl (F 157))), (a 194, .inl (cJ, 240, .inr (.inl (G 1))))] H := hP
  replace hD : va_D (fun q : Nat => s.heap.size ≤ q) [(a 0, .inr (11, [.ref (a 1), .ref (a 2), .ref (a 3), .ref (a 4), .ref (a 5), .ref (a 6), .ref (a 7), .ref (a 8), .ref (a 9), .ref (a 10)])), (a 5, .inr (8, [.ref (a 36), .ref (a 37), .ref (a 38), .ref (a 39)])), (a 36, .inl (cI, 4, .inl (F 24))), (a 37, .inl (cI, 4, .inl (F 25))), (a 38, .inl (cZ, 4, .inl (F 26))), (a 39, .inl (cJ, 240, .inr (.inl (G 0)))), (a 171, .inr (12, [.int (u 117), .ref (a 172), .ref (a 173), .ref (a 174), .ref (a 175), .int (u 118), .ref (a 176), .int (u 119), .int (u 120), .int (u 121), .int (u 122), .int (u 123), .int (u 124), .int (u 125), .ref (a 177), .ref (a 178), .ref (a 179), .ref (a 180), .ref (a 181), .ref (a 182), .ref (a 183), .int (u 126), .ref (a 184), .int (u 127), .ref (a 185), .ref (a 186), .int (u 128), .ref (a 187), .ref (a 188), .ref (a 189), .ref (a 190), .int (u 129), .int (u 130), .int (u 131), .int (u 132), .int (u 133), .ref (a 191), .long j, .ref (a 192), .ref (a 193), .ref (a 194), .ref (a 195)])), (a 192, .inl (cI, 4, .inl (F 156))), (a 193, .inl (cI, 4, .inl (F 157))), (a 194, .inl (cJ, 240, .inr (.inl (G 1))))] := hD
  replace hF : ∀ q : Nat, q < H0.size → q ∉ ([a 0, a 5, a 36, a 37, a 38, a 39, a 171, a 192, a 193, a 194] : List Nat) → H[q]? = H0[q]? := hF
  obtain ⟨hx, hb, hr, hml, hown0, hts, hX, hbl, hlocks, hgv⟩ := id C0
  have hb : c.code = cL_law := hb
  have hown : s.vm.findClass RL = some m.cls := hown0
  have hwd : ∀ wd ∈ wsL_law, wd.before #[Value.ref b] s = true := fun w h => hts w (wsL_law_in w h)
  have hA : ∀ q : Nat, s.heap.size ≤ q → (fun q : Nat => s.heap.size ≤ q) q := fun _ h => h
  have hbA : ¬ (fun q : Nat => s.heap.size ≤ q) b := Nat.not_le.mpr hbl
  clear hgv hts
  have k1 : (1 : Int32).toInt = 1 := by decide
  have k2 : (2 : Int32).toInt = 2 := by decide
  have k3 : (3 : Int32).toInt = 3 := by decide
  have k4 : (4 : Int32).toInt = 4 := by decide
  have k6 : (6 : Int32).toInt = 6 := by decide
  refine lv_aload_n hx hb dL_law_1594 rfl (lv_at hl 1 rfl) ?_
  refine lv_aload_n hx hb dL_law_1595 rfl (lv_at hl 0 rfl) ?_
  refine lv_iload_n hx hb dL_law_1596 rfl (lv_at hl 3 rfl) ?_
  refine lv_iconst (v := 1) hx hb dL_law_1597 (by decide) ?_
  refine lv_iadd hx hb dL_law_1598 ?_
  refine lv_topi (fun x1 ex1 => ?_)
  have tx1 := ia_add (a := w3) (b := (1 : Int32)) (by omega) (by omega)
  rw [← ex1] at tx1
  refine va_sld hx hb hX hbl hbA hS (vp_of (by omega) (by omega)) dL_law_1599 ?_
  refine lv_topi (fun x2 ex2 => ?_)
  refine lv_aload_n hx hb dL_law_1600 rfl (lv_at hl 0 rfl) ?_
  refine lv_iload_n hx hb dL_law_1601 rfl (lv_at hl 3 rfl) ?_
  refine lv_iconst (v := 2) hx hb dL_law_1602 (by decide) ?_
  refine lv_iadd hx hb dL_law_1603 ?_
  refine lv_topi (fun x3 ex3 => ?_)
  have tx3 := ia_add (a := w3) (b := (2 : Int32)) (by omega) (by omega)
  rw [← ex3] at tx3
  refine va_sld hx hb hX hbl hbA hS (vp_of (by omega) (by omega)) dL_law_1604 ?_
  refine lv_topi (fun x4 ex4 => ?_)
  refine lv_aload_n hx hb dL_law_1605 rfl (lv_at hl 0 rfl) ?_
  refine lv_iload_n hx hb dL_law_1606 rfl (lv_at hl 3 rfl) ?_
  refine lv_iconst (v := 3) hx hb dL_law_1607 (by decide) ?_
  refine lv_iadd hx hb dL_law_1608 ?_
  refine lv_topi (fun x5 ex5 => ?_)
  have tx5 := ia_add (a := w3) (b := (3 : Int32)) (by omega) (by omega)
  rw [← ex5] at tx5
  refine va_sld hx hb hX hbl hbA hS (vp_of (by omega) (by omega)) dL_law_1609 ?_
  refine lv_topi (fun x6 ex6 => ?_)
  refine lv_i2l hx hb dL_law_1610 rfl ?_
  refine lv_bipush (v := 32) hx hb dL_law_1611 (by decide) ?_
  refine lv_lshl hx hb dL_law_1613 rfl ?_
  refine lv_topl (fun x7 ex7 => ?_)
  refine lv_aload_n hx hb dL_law_1614 rfl (lv_at hl 0 rfl) ?_
  refine lv_iload_n hx hb dL_law_1615 rfl (lv_at hl 3 rfl) ?_
  refine lv_iconst (v := 4) hx hb dL_law_1616 (by decide) ?_
  refine lv_iadd hx hb dL_law_1617 ?_
  refine lv_topi (fun x8 ex8 => ?_)
  have tx8 := ia_add (a := w3) (b := (4 : Int32)) (by omega) (by omega)
  rw [← ex8] at tx8
  refine va_sld hx hb hX hbl hbA hS (vp_of (by omega) (by omega)) dL_law_1618 ?_
  refine lv_topi (fun x9 ex9 => ?_)
  refine lv_i2l hx hb dL_law_1619 rfl ?_
  refine lv_ldc2 (v := 4294967295) hx hb hown (hwd _ kr1_6) dL_law_1620 ?_
  refine lv_land hx hb dL_law_1623 ?_
  refine lv_topl (fun x10 ex10 => ?_)
  refine lv_lor hx hb dL_law_1624 ?_
  refine lv_topl (fun x11 ex11 => ?_)
  have hPc := hP.sub (ws' := [(a 0, .inr (11, [.ref (a 1), .ref (a 2), .ref (a 3), .ref (a 4), .ref (a 5), .ref (a 6), .ref (a 7), .ref (a 8), .ref (a 9), .ref (a 10)])), (a 5, .inr (8, [.ref (a 36), .ref (a 37), .ref (a 38), .ref (a 39)])), (a 36, .inl (cI, 4, .inl (F 24))), (a 37, .inl (cI, 4, .inl (F 25))), (a 38, .inl (cZ, 4, .inl (F 26))), (a 39, .inl (cJ, 240, .inr (.inl (G 0))))]) [0, 1, 2, 3, 4, 5] rfl
  have hDc := hD.sub (ws' := [(a 0, .inr (11, [.ref (a 1), .ref (a 2), .ref (a 3), .ref (a 4), .ref (a 5), .ref (a 6), .ref (a 7), .ref (a 8), .ref (a 9), .ref (a 10)])), (a 5, .inr (8, [.ref (a 36), .ref (a 37), .ref (a 38), .ref (a 39)])), (a 36, .inl (cI, 4, .inl (F 24))), (a 37, .inl (cI, 4, .inl (F 25))), (a 38, .inl (cZ, 4, .inl (F 26))), (a 39, .inl (cJ, 240, .inr (.inl (G 0))))]) [0, 1, 2, 3, 4, 5] (by decide) rfl
  have hFc := va_free (wc := [(a 0, .inr (11, [.ref (a 1), .ref (a 2), .ref (a 3), .ref (a 4), .ref (a 5), .ref (a 6), .ref (a 7), .ref (a 8), .ref (a 9), .ref (a 10)])), (a 5, .inr (8, [.ref (a 36), .ref (a 37), .ref (a 38), .ref (a 39)])), (a 36, .inl (cI, 4, .inl (F 24))), (a 37, .inl (cI, 4, .inl (F 25))), (a 38, .inl (cZ, 4, .inl (F 26))), (a 39, .inl (cJ, 240, .inr (.inl (G 0))))]) hD hS hA [0, 1, 2, 3, 4, 5] rfl
  refine va_calli (va_runV (As := [.int x2, .int x4, .long x11]) (rest := []) ⟨hx, hb, hml, hown, hwd⟩ (s_X11_write l dC dI cI cZ cB cJ cM cG (a 0) (a 1) (a 2) (a 3) (a 4) (a 5) (a 6) (a 7) (a 8) (a 9) (a 10) (a 36) (a 37) (a 38) (a 39) (F 24) (F 25) (F 26) (G 0) x2 x4 x11 H.size (show rng (F 25) 4 0 60 from p_10) (show rng (F 26) 4 0 1 from p_11)) (cwV 3 hwd (gV kr67_12 kr67_13 kr67_14 kr1_2 kr67_15) rfl rfl rfl (by decide +kernel) ⟨Nat.le_of_ble_eq_true rfl, Nat.le_of_ble_eq_true rfl⟩) (kPreV hPc hK hDc (ci := 11) (q0 := 0) rfl rfl) rfl rfl hl.1 rfl (lv_room (Nat.le_of_ble_eq_true rfl)) dL_law_1625 ⟨Nat.le_of_ble_eq_true rfl, Nat.le_of_ble_eq_true rfl⟩) hS (fun q _ h => hFc q h) hFc (fun r12 u13 t H1 locs ht9 hvm hw hB hz1 hk1 hS => ?_)
  obtain ⟨u14, U14, V14⟩ := u13
  obtain ⟨hw15, -⟩ := hw
  replace hw15 : (-7 : Int) ≤ r12.toInt ∧ r12.toInt ≤ 0 := hw15
  obtain ⟨hP1, hD1⟩ := hB
  rw [ht9] at hP1
  obtain ⟨hF, hZ⟩ := fr_step hF hZ hz1 [0, 1, 2, 3, 4, 5] rfl hk1
  obtain ⟨hP, hD⟩ := va_join (wr := [(a 171, .inr (12, [.int (u 117), .ref (a 172), .ref (a 173), .ref (a 174), .ref (a 175), .int (u 118), .ref (a 176), .int (u 119), .int (u 120), .int (u 121), .int (u 122), .int (u 123), .int (u 124), .int (u 125), .ref (a 177), .ref (a 178), .ref (a 179), .ref (a 180), .ref (a 181), .ref (a 182), .ref (a 183), .int (u 126), .ref (a 184), .int (u 127), .ref (a 185), .ref (a 186), .int (u 128), .ref (a 187), .ref (a 188), .ref (a 189), .ref (a 190), .int (u 129), .int (u 130), .int (u 131), .int (u 132), .int (u 133), .ref (a 191), .long j, .ref (a 192), .ref (a 193), .ref (a 194), .ref (a 195)])), (a 192, .inl (cI, 4, .inl (F 156))), (a 193, .inl (cI, 4, .inl (F 157))), (a 194, .inl (cJ, 240, .inr (.inl (G 1))))]) (w1 := [(a 0, .inr (11, [.ref (a 1), .ref (a 2), .ref (a 3), .ref (a 4), .ref (a 5), .ref (a 6), .ref (a 7), .ref (a 8), .ref (a 9), .ref (a 10)])), (a 5, .inr (8, [.ref (a 36), .ref (a 37), .ref (a 38), .ref (a 39)])), (a 36, .inl (cI, 4, .inl (F 24))), (a 37, .inl (cI, 4, .inl (F 25))), (a 38, .inl (cZ, 4, .inl (F 26))), (a 39, .inl (cJ, 240, .inr (.inl (V14 0))))]) hP hD [0, 1, 2, 3, 4, 5] [6, 7, 8, 9] rfl rfl (by decide +kernel) (by decide +kernel) hk1 hFc hP1 hD1
  generalize H1 = H at hP hS hF hZ ⊢
  replace hP : va_P (dC, dI) vwCl [(a 171, .inr (12, [.int (u 117), .ref (a 172), .ref (a 173), .ref (a 174), .ref (a 175), .int (u 118), .ref (a 176), .int (u 119), .int (u 120), .int (u 121), .int (u 122), .int (u 123), .int (u 124), .int (u 125), .ref (a 177), .ref (a 178), .ref (a 179), .ref (a 180), .ref (a 181), .ref (a 182), .ref (a 183), .int (u 126), .ref (a 184), .int (u 127), .ref (a 185), .ref (a 186), .int (u 128), .ref (a 187), .ref (a 188), .ref (a 189), .ref (a 190), .int (u 129), .int (u 130), .int (u 131), .int (u 132), .int (u 133), .ref (a 191), .long j, .ref (a 192), .ref (a 193), .ref (a 194), .ref (a 195)])), (a 192, .inl (cI, 4, .inl (F 156))), (a 193, .inl (cI, 4, .inl (F 157))), (a 194, .inl (cJ, 240, .inr (.inl (G 1)))), (a 0, .inr (11, [.ref (a 1), .ref (a 2), .ref (a 3), .ref (a 4), .ref (a 5), .ref (a 6), .ref (a 7), .ref (a 8), .ref (a 9), .ref (a 10)])), (a 5, .inr (8, [.ref (a 36), .ref (a 37), .ref (a 38), .ref (a 39)])), (a 36, .inl (cI, 4, .inl (F 24))), (a 37, .inl (cI, 4, .inl (F 25))), (a 38, .inl (cZ, 4, .inl (F 26))), (a 39, .inl (cJ, 240, .inr (.inl (V14 0))))] H := hP
  replace hD : va_D (fun q : Nat => s.heap.size ≤ q) [(a 171, .inr (12, [.int (u 117), .ref (a 172), .ref (a 173), .ref (a 174), .ref (a 175), .int (u 118), .ref (a 176), .int (u 119), .int (u 120), .int (u 121), .int (u 122), .int (u 123), .int (u 124), .int (u 125), .ref (a 177), .ref (a 178), .ref (a 179), .ref (a 180), .ref (a 181), .ref (a 182), .ref (a 183), .int (u 126), .ref (a 184), .int (u 127), .ref (a 185), .ref (a 186), .int (u 128), .ref (a 187), .ref (a 188), .ref (a 189), .ref (a 190), .int (u 129), .int (u 130), .int (u 131), .int (u 132), .int (u 133), .ref (a 191), .long j, .ref (a 192), .ref (a 193), .ref (a 194), .ref (a 195)])), (a 192, .inl (cI, 4, .inl (F 156))), (a 193, .inl (cI, 4, .inl (F 157))), (a 194, .inl (cJ, 240, .inr (.inl (G 1)))), (a 0, .inr (11, [.ref (a 1), .ref (a 2), .ref (a 3), .ref (a 4), .ref (a 5), .ref (a 6), .ref (a 7), .ref (a 8), .ref (a 9), .ref (a 10)])), (a 5, .inr (8, [.ref (a 36), .ref (a 37), .ref (a 38), .ref (a 39)])), (a 36, .inl (cI, 4, .inl (F 24))), (a 37, .inl (cI, 4, .inl (F 25))), (a 38, .inl (cZ, 4, .inl (F 26))), (a 39, .inl (cJ, 240, .inr (.inl (V14 0))))] := hD
  refine lv_pop hx hb dL_law_1628 rfl ?_
  refine lv_aload_n hx hb dL_law_1629 rfl (lv_at hl 2 rfl) ?_
  refine lv_aload_n hx hb dL_law_1630 rfl (lv_at hl 0 rfl) ?_
  refine lv_iload_n hx hb dL_law_1631 rfl (lv_at hl 3 rfl) ?_
  refine lv_iconst (v := 1) hx hb dL_law_1632 (by decide) ?_
  refine lv_iadd hx hb dL_law_1633 ?_
  refine lv_topi (fun x16 ex16 => ?_)
  have tx16 := ia_add (a := w3) (b := (1 : Int32)) (by omega) (by omega)
  rw [← ex16] at tx16
  refine va_sld hx hb hX hbl hbA hS (vp_of (by omega) (by omega)) dL_law_1634 ?_
  refine lv_topi (fun x17 ex17 => ?_)
  refine lv_aload_n hx hb dL_law_1635 rfl (lv_at hl 0 rfl) ?_
  refine lv_iload_n hx hb dL_law_1636 rfl (lv_at hl 3 rfl) ?_
  refine lv_iconst (v := 2) hx hb dL_law_1637 (by decide) ?_
  refine lv_iadd hx hb dL_law_1638 ?_
  refine lv_topi (fun x18 ex18 => ?_)
  have tx18 := ia_add (a := w3) (b := (2 : Int32)) (by omega) (by omega)
  rw [← ex18] at tx18
  refine va_sld hx hb hX hbl hbA hS (vp_of (by omega) (by omega)) dL_law_1639 ?_
  refine lv_topi (fun x19 ex19 => ?_)
  refine lv_aload_n hx hb dL_law_1640 rfl (lv_at hl 0 rfl) ?_
  refine lv_iload_n hx hb dL_law_1641 rfl (lv_at hl 3 rfl) ?_
  refine lv_iconst (v := 3) hx hb dL_law_1642 (by decide) ?_
  refine lv_iadd hx hb dL_law_1643 ?_
  refine lv_topi (fun x20 ex20 => ?_)
  have tx20 := ia_add (a := w3) (b := (3 : Int32)) (by omega) (by omega)
  rw [← ex20] at tx20
  refine va_sld hx hb hX hbl hbA hS (vp_of (by omega) (by omega)) dL_law_1644 ?_
  refine lv_topi (fun x21 ex21 => ?_)
  refine lv_i2l hx hb dL_law_1645 rfl ?_
  refine lv_bipush (v := 32) hx hb dL_law_1646 (by decide) ?_
  refine lv_lshl hx hb dL_law_1648 rfl ?_
  refine lv_topl (fun x22 ex22 => ?_)
  refine lv_aload_n hx hb dL_law_1649 rfl (lv_at hl 0 rfl) ?_
  refine lv_iload_n hx hb dL_law_1650 rfl (lv_at hl 3 rfl) ?_
  refine lv_iconst (v := 4) hx hb dL_law_1651 (by decide) ?_
  refine lv_iadd hx hb dL_law_1652 ?_
  refine lv_topi (fun x23 ex23 => ?_)
  have tx23 := ia_add (a := w3) (b := (4 : Int32)) (by omega) (by omega)
  rw [← ex23] at tx23
  refine va_sld hx hb hX hbl hbA hS (vp_of (by omega) (by omega)) dL_law_1653 ?_
  refine lv_topi (fun x24 ex24 => ?_)
  refine lv_i2l hx hb dL_law_1654 rfl ?_
  refine lv_ldc2 (v := 4294967295) hx hb hown (hwd _ kr1_6) dL_law_1655 ?_
  refine lv_land hx hb dL_law_1658 ?_
  refine lv_topl (fun x25 ex25 => ?_)
  refine lv_lor hx hb dL_law_1659 ?_
  refine lv_topl (fun x26 ex26 => ?_)
  have hPc := hP.sub (ws' := [(a 171, .inr (12, [.int (u 117), .ref (a 172), .ref (a 173), .ref (a 174), .ref (a 175), .int (u 118), .ref (a 176), .int (u 119), .int (u 120), .int (u 121), .int (u 122), .int (u 123), .int (u 124), .int (u 125), .ref (a 177), .ref (a 178), .ref (a 179), .ref (a 180), .ref (a 181), .ref (a 182), .ref (a 183), .int (u 126), .ref (a 184), .int (u 127), .ref (a 185), .ref (a 186), .int (u 128), .ref (a 187), .ref (a 188), .ref (a 189), .ref (a 190), .int (u 129), .int (u 130), .int (u 131), .int (u 132), .int (u 133), .ref (a 191), .long j, .ref (a 192), .ref (a 193), .ref (a 194), .ref (a 195)])), (a 192, .inl (cI, 4, .inl (F 156))), (a 193, .inl (cI, 4, .inl (F 157))), (a 194, .inl (cJ, 240, .inr (.inl (G 1))))]) [0, 1, 2, 3] rfl
  have hDc := hD.sub (ws' := [(a 171, .inr (12, [.int (u 117), .ref (a 172), .ref (a 173), .ref (a 174), .ref (a 175), .int (u 118), .ref (a 176), .int (u 119), .int (u 120), .int (u 121), .int (u 122), .int (u 123), .int (u 124), .int (u 125), .ref (a 177), .ref (a 178), .ref (a 179), .ref (a 180), .ref (a 181), .ref (a 182), .ref (a 183), .int (u 126), .ref (a 184), .int (u 127), .ref (a 185), .ref (a 186), .int (u 128), .ref (a 187), .ref (a 188), .ref (a 189), .ref (a 190), .int (u 129), .int (u 130), .int (u 131), .int (u 132), .int (u 133), .ref (a 191), .long j, .ref (a 192), .ref (a 193), .ref (a 194), .ref (a 195)])), (a 192, .inl (cI, 4, .inl (F 156))), (a 193, .inl (cI, 4, .inl (F 157))), (a 194, .inl (cJ, 240, .inr (.inl (G 1))))]) [0, 1, 2, 3] (by decide) rfl
  have hFc := va_free (wc := [(a 171, .inr (12, [.int (u 117), .ref (a 172), .ref (a 173), .ref (a 174), .ref (a 175), .int (u 118), .ref (a 176), .int (u 119), .int (u 120), .int (u 121), .int (u 122), .int (u 123), .int (u 124), .int (u 125), .ref (a 177), .ref (a 178), .ref (a 179), .ref (a 180), .ref (a 181), .ref (a 182), .ref (a 183), .int (u 126), .ref (a 184), .int (u 127), .ref (a 185), .ref (a 186), .int (u 128), .ref (a 187), .ref (a 188), .ref (a 189), .ref (a 190), .int (u 129), .int (u 130), .int (u 131), .int (u 132), .int (u 133), .ref (a 191), .long j, .ref (a 192), .ref (a 193), .ref (a 194), .ref (a 195)])), (a 192, .inl (cI, 4, .inl (F 156))), (a 193, .inl (cI, 4, .inl (F 157))), (a 194, .inl (cJ, 240, .inr (.inl (G 1))))]) hD hS hA [0, 1, 2, 3] rfl
  refine va_calli (va_runV (As := [.int x17, .int x19, .long x26]) (rest := []) ⟨hx, hb, hml, hown, hwd⟩ (s_X12_write l dC dI cI cZ cB cJ cM cG (a 171) (a 172) (a 173) (a 174) (a 175) (a 176) (a 177) (a 178) (a 179) (a 180) (a 181) (a 182) (a 183) (a 184) (a 185) (a 186) (a 187) (a 188) (a 189) (a 190) (a 191) (a 192) (a 193) (a 194) (a 195) (u 117) (u 118) (u 119) (u 120) (u 121) (u 122) (u 123) (u 124) (u 125) (u 126) (u 127) (u 128) (u 129) (u 130) (u 131) (u 132) (u 133) j (F 156) (F 157) (G 1) x17 x19 x26 H.size (show (0 : Int) ≤ (u 118).toInt ∧ (u 118).toInt ≤ 1600 from p_64) (show (0 : Int) ≤ (u 119).toInt ∧ (u 119).toInt ≤ 1600 from p_65) (show (0 : Int) ≤ (u 120).toInt ∧ (u 120).toInt ≤ 1600 from p_66) (show (0 : Int) ≤ (u 121).toInt ∧ (u 121).toInt ≤ 1600 from p_67) (show (0 : Int) ≤ (u 122).toInt ∧ (u 122).toInt ≤ 6 from p_68) (show (0 : Int) ≤ (u 124).toInt ∧ (u 124).toInt ≤ 3 from p_69) (show (0 : Int) ≤ (u 128).toInt ∧ (u 128).toInt ≤ 59 from p_70) (show rng (F 156) 4 (-1) 60 from p_74) (show MI (F 156) from trivial) (show rng (F 157) 4 0 3 from p_75)) (cwV 3 hwd (gV kr67_23 kr68_0 kr68_1 kr1_5 kr68_2) rfl rfl rfl (by decide +kernel) ⟨Nat.le_of_ble_eq_true rfl, Nat.le_of_ble_eq_true rfl⟩) (kPreV hPc hK hDc (ci := 12) (q0 := 0) rfl rfl) rfl rfl hl.1 rfl (lv_room (Nat.le_of_ble_eq_true rfl)) dL_law_1660 ⟨Nat.le_of_ble_eq_true rfl, Nat.le_of_ble_eq_true rfl⟩) hS (fun q _ h => hFc q h) hFc (fun r27 u28 t H1 locs ht9 hvm hw hB hz1 hk1 hS => ?_)
  obtain ⟨u29, U29, V29⟩ := u28
  obtain ⟨hw30, -⟩ := hw
  replace hw30 : (-7 : Int) ≤ r27.toInt ∧ r27.toInt ≤ 0 := hw30
  obtain ⟨hP1, hD1⟩ := hB
  rw [ht9] at hP1
  obtain ⟨hF, hZ⟩ := fr_step hF hZ hz1 [6, 7, 8, 9] rfl hk1
  obtain ⟨hP, hD⟩ := va_join (wr := [(a 0, .inr (11, [.ref (a 1), .ref (a 2), .ref (a 3), .ref (a 4), .ref (a 5), .ref (a 6), .ref (a 7), .ref (a 8), .ref (a 9), .ref (a 10)])), (a 5, .inr (8, [.ref (a 36), .ref (a 37), .ref (a 38), .ref (a 39)])), (a 36, .inl (cI, 4, .inl (F 24))), (a 37, .inl (cI, 4, .inl (F 25))), (a 38, .inl (cZ, 4, .inl (F 26))), (a 39, .inl (cJ, 240, .inr (.inl (V14 0))))]) (w1 := [(a 171, .inr (12, [.int (u 117), .ref (a 172), .ref (a 173), .ref (a 174), .ref (a 175), .int (u 118), .ref (a 176), .int (u 119), .int (u 120), .int (u 121), .int (u 122), .int (u 123), .int (u 124), .int (u 125), .ref (a 177), .ref (a 178), .ref (a 179), .ref (a 180), .ref (a 181), .ref (a 182), .ref (a 183), .int (u 126), .ref (a 184), .int (u 127), .ref (a 185), .ref (a 186), .int (u 128), .ref (a 187), .ref (a 188), .ref (a 189), .ref (a 190), .int (u 129), .int (u 130), .int (u 131), .int (u 132), .int (u 133), .ref (a 191), .long j, .ref (a 192), .ref (a 193), .ref (a 194), .ref (a 195)])), (a 192, .inl (cI, 4, .inl (F 156))), (a 193, .inl (cI, 4, .inl (F 157))), (a 194, .inl (cJ, 240, .inr (.inl (V29 0))))]) hP hD [0, 1, 2, 3] [4, 5, 6, 7, 8, 9] rfl rfl (by decide +kernel) (by decide +kernel) hk1 hFc hP1 hD1
  generalize H1 = H at hP hS hF hZ ⊢
  replace hP : va_P (dC, dI) vwCl [(a 0, .inr (11, [.ref (a 1), .ref (a 2), .ref (a 3), .ref (a 4), .ref (a 5), .ref (a 6), .ref (a 7), .ref (a 8), .ref (a 9), .ref (a 10)])), (a 5, .inr (8, [.ref (a 36), .ref (a 37), .ref (a 38), .ref (a 39)])), (a 36, .inl (cI, 4, .inl (F 24))), (a 37, .inl (cI, 4, .inl (F 25))), (a 38, .inl (cZ, 4, .inl (F 26))), (a 39, .inl (cJ, 240, .inr (.inl (V14 0)))), (a 171, .inr (12, [.int (u 117), .ref (a 172), .ref (a 173), .ref (a 174), .ref (a 175), .int (u 118), .ref (a 176), .int (u 119), .int (u 120), .int (u 121), .int (u 122), .int (u 123), .int (u 124), .int (u 125), .ref (a 177), .ref (a 178), .ref (a 179), .ref (a 180), .ref (a 181), .ref (a 182), .ref (a 183), .int (u 126), .ref (a 184), .int (u 127), .ref (a 185), .ref (a 186), .int (u 128), .ref (a 187), .ref (a 188), .ref (a 189), .ref (a 190), .int (u 129), .int (u 130), .int (u 131), .int (u 132), .int (u 133), .ref (a 191), .long j, .ref (a 192), .ref (a 193), .ref (a 194), .ref (a 195)])), (a 192, .inl (cI, 4, .inl (F 156))), (a 193, .inl (cI, 4, .inl (F 157))), (a 194, .inl (cJ, 240, .inr (.inl (V29 0))))] H := hP
  replace hD : va_D (fun q : Nat => s.heap.size ≤ q) [(a 0, .inr (11, [.ref (a 1), .ref (a 2), .ref (a 3), .ref (a 4), .ref (a 5), .ref (a 6), .ref (a 7), .ref (a 8), .ref (a 9), .ref (a 10)])), (a 5, .inr (8, [.ref (a 36), .ref (a 37), .ref (a 38), .ref (a 39)])), (a 36, .inl (cI, 4, .inl (F 24))), (a 37, .inl (cI, 4, .inl (F 25))), (a 38, .inl (cZ, 4, .inl (F 26))), (a 39, .inl (cJ, 240, .inr (.inl (V14 0)))), (a 171, .inr (12, [.int (u 117), .ref (a 172), .ref (a 173), .ref (a 174), .ref (a 175), .int (u 118), .ref (a 176), .int (u 119), .int (u 120), .int (u 121), .int (u 122), .int (u 123), .int (u 124), .int (u 125), .ref (a 177), .ref (a 178), .ref (a 179), .ref (a 180), .ref (a 181), .ref (a 182), .ref (a 183), .int (u 126), .ref (a 184), .int (u 127), .ref (a 185), .ref (a 186), .int (u 128), .ref (a 187), .ref (a 188), .ref (a 189), .ref (a 190), .int (u 129), .int (u 130), .int (u 131), .int (u 132), .int (u 133), .ref (a 191), .long j, .ref (a 192), .ref (a 193), .ref (a 194), .ref (a 195)])), (a 192, .inl (cI, 4, .inl (F 156))), (a 193, .inl (cI, 4, .inl (F 157))), (a 194, .inl (cJ, 240, .inr (.inl (V29 0))))] := hD
  refine lv_pop hx hb dL_law_1663 rfl ?_
  refine lv_goto (tgt := 1730) hx hb dL_law_1664 (by decide) ?_
  obtain ⟨x9, ex9⟩ : ∃ y : Int32, y = w3 + 6 := ⟨_, rfl⟩
  refine lv_iinc (v := x9) (lv' := [(3, .int x9), (0, .ref b), (1, .ref (a 0)), (2, .ref (a 171))]) hx hb dL_law_1730 hl (k := 3) rfl (by rw [ex9]; rfl) (by decide) rfl (fun ls hl => ?_)
  have tx9 := ia_add (a := w3) (b := (6 : Int32)) (by omega) (by omega)
  rw [← ex9] at tx9
  refine lv_goto (tgt := 18) hx hb dL_law_1733 (by decide) ?_
  have hP9 := hP.sub (ws' := [(a 0, .inr (11, [.ref (a 1), .ref (a 2), .ref (a 3), .ref (a 4), .ref (a 5), .ref (a 6), .ref (a 7), .ref (a 8), .ref (a 9), .ref (a 10)])), (a 5, .inr (8, [.ref (a 36), .ref (a 37), .ref (a 38), .ref (a 39)])), (a 36, .inl (cI, 4, .inl (F 24))), (a 37, .inl (cI, 4, .inl (F 25))), (a 38, .inl (cZ, 4, .inl (F 26))), (a 39, .inl (cJ, 240, .inr (.inl (V14 0)))), (a 171, .inr (12, [.int (u 117), .ref (a 172), .ref (a 173), .ref (a 174), .ref (a 175), .int (u 118), .ref (a 176), .int (u 119), .int (u 120), .int (u 121), .int (u 122), .int (u 123), .int (u 124), .int (u 125), .ref (a 177), .ref (a 178), .ref (a 179), .ref (a 180), .ref (a 181), .ref (a 182), .ref (a 183), .int (u 126), .ref (a 184), .int (u 127), .ref (a 185), .ref (a 186), .int (u 128), .ref (a 187), .ref (a 188), .ref (a 189), .ref (a 190), .int (u 129), .int (u 130), .int (u 131), .int (u 132), .int (u 133), .ref (a 191), .long j, .ref (a 192), .ref (a 193), .ref (a 194), .ref (a 195)])), (a 192, .inl (cI, 4, .inl (F 156))), (a 193, .inl (cI, 4, .inl (F 157))), (a 194, .inl (cJ, 240, .inr (.inl (V29 0))))]) [0, 1, 2, 3, 4, 5, 6, 7, 8, 9] rfl
  have hD9 := hD.sub (ws' := [(a 0, .inr (11, [.ref (a 1), .ref (a 2), .ref (a 3), .ref (a 4), .ref (a 5), .ref (a 6), .ref (a 7), .ref (a 8), .ref (a 9), .ref (a 10)])), (a 5, .inr (8, [.ref (a 36), .ref (a 37), .ref (a 38), .ref (a 39)])), (a 36, .inl (cI, 4, .inl (F 24))), (a 37, .inl (cI, 4, .inl (F 25))), (a 38, .inl (cZ, 4, .inl (F 26))), (a 39, .inl (cJ, 240, .inr (.inl (V14 0)))), (a 171, .inr (12, [.int (u 117), .ref (a 172), .ref (a 173), .ref (a 174), .ref (a 175), .int (u 118), .ref (a 176), .int (u 119), .int (u 120), .int (u 121), .int (u 122), .int (u 123), .int (u 124), .int (u 125), .ref (a 177), .ref (a 178), .ref (a 179), .ref (a 180), .ref (a 181), .ref (a 182), .ref (a 183), .int (u 126), .ref (a 184), .int (u 127), .ref (a 185), .ref (a 186), .int (u 128), .ref (a 187), .ref (a 188), .ref (a 189), .ref (a 190), .int (u 129), .int (u 130), .int (u 131), .int (u 132), .int (u 133), .ref (a 191), .long j, .ref (a 192), .ref (a 193), .ref (a 194), .ref (a 195)])), (a 192, .inl (cI, 4, .inl (F 156))), (a 193, .inl (cI, 4, .inl (F 157))), (a 194, .inl (cJ, 240, .inr (.inl (V29 0))))]) [0, 1, 2, 3, 4, 5, 6, 7, 8, 9] (by decide +kernel) rfl
  exact hk _ _ ls x9 u F (updG (updG G 0 (V14 0)) 1 (V29 0)) j hP9 hD9 hF hZ hS (lv_sub hl [1, 2, 3, 0] rfl) tx9 p_10 p_11 p_64 p_65 p_66 p_67 p_68 p_69 p_70 p_74 p_75
def M_46 : List Bool := [true, false, false, false, false, false, false, false, false, false, false, false, false, false, false, false, false, false, false, false, false, false, false, false, false, false, false, false, false, false, true, true, true, true, true, false, false, false, false, false, false, false, false, false, false, false, false, false, false, false, false, false, false, false, false, false, false, false, false, false, false, false, false, false, false, false, false, false, false, false, false, false, false, false, false, false, false, false, false, false, false, false, false, false, false, false, false, false, false, false, false, false, false, false, false, false, false, false, false, false, false, false, false, false, false, false, false, false, false, false, false, false, false, false, false, false, false, false, false, false, false, false, false, false, false, false, false, false, false, false, false, false, false, false, false, false, false, false, false, false, false, false, false, false, false, false, false, false, false, false, false, false, false, false, false, false, false, false, false, false, false, false, false, false, false, false, false, false, false, false, false, true, false, false, false, false, false, false, false, false, false, false, false, false, false, false, false, false, false, false, false, false, true, true, true]
set_option maxHeartbeats 16000000 in
set_option maxRecDepth 100000 in
theorem ldisp_46 {p : Program} {l : Launch} {e : Env} {s : State} {m : MethodId} {below : List Frame} {meth : Method} {c : Code} {b L : Nat} {xs : Nat → Int32} {dC : Nat → ClassId} {dI : Nat → Nat → Nat} {cI cZ cB cJ cM cG : ClassId} {a : Nat → Nat} {u : Nat → Int32} {F : Nat → Nat → Int32} {G : Nat → Nat → Int64} {j : Int64} {H : Heap} {locs : List Loc} {ls : Array Slot} {w3 : Int32} {d : Nat} (C0 : lw_At p s m meth c b L xs) (hL : L ≤ 384) (hN : NT (fun q : Nat => s.heap.size ≤ q) s) (hK : va_K (dC, dI) vwCl [(cI, .int), (cZ, .boolean), (cB, .byte), (cJ, .long), (cM, .object RX2), (cG, .array .int)] s) (hk : LInv p l e s m below meth c b L xs dC dI cI cZ cB cJ cM cG d) (hP : va_P (dC, dI) vwCl (LW cI cZ cB cJ cM cG a u F G j) H) (hD : va_D (fun q : Nat => s.heap.size ≤ q) (LW cI cZ cB cJ cM cG a u F G j)) (hS : va_S (fun q : Nat => s.heap.size ≤ q) s.heap H locs) (hl : lv_has ls 4 [(0, .ref b), (1, .ref (a 0)), (2, .ref (a 171)), (3, .int w3)]) (hi0 : 0 ≤ w3.toInt) (hi6 : w3.toInt + 6 ≤ (L : Int)) (hp : LPr u F w3) (hm : (400 - w3.toInt).toNat < d + 1) : W p l e room_1 s m #[Value.ref b] below meth c H locs 600000 7302250 (lw_Z below #[Value.ref b] s) (F0 m 1594 ls []) := by
  unfold LPr at hp
  obtain ⟨p_0, p_1, p_2, p_3, p_4, p_5, p_6, p_7, p_8, p_9, p_10, p_11, p_12, p_13, p_14, p_15, p_16, p_17, p_18, p_19, p_20, p_21, p_22, p_23, p_24, p_25, p_26, p_27, p_28, p_29, p_30, p_31, p_32, p_33, p_34, p_35, p_36, p_37, p_38, p_39, p_40, p_41, p_42, p_43, p_44, p_45, p_46, p_47, p_48, p_49, p_50, p_51, p_52, p_53, p_54, p_55, p_56, p_57, p_58, p_59, p_60, p_61, p_62, p_63, p_64, p_65, p_66, p_67, p_68, p_69, p_70, p_71, p_72, p_73, p_74, p_75, p_76⟩ := hp
  have k6 : (6 : Int32).toInt = 6 := by decide
  have hPN : va_P (dC, dI) vwCl (CW_46 cI cZ cB cJ cM cG a u F G j) H := P_pk M_46 hP
  have hDN : va_D (fun q : Nat => s.heap.size ≤ q) (CW_46 cI cZ cB cJ cM cG a u F G j) := D_pk M_46 hD
  refine lcase_46 a u F G j C0 hL hN hK hPN hDN (fun _ _ _ => rfl) (Nat.le_refl _) hS hl hi0 hi6 p_10 p_11 p_64 p_65 p_66 p_67 p_68 p_69 p_70 p_74 p_75 (fun H9 locs9 ls9 x9 u9 F9 G9 j9 hP9 hD9 hF9 hZ9 hS9 hl9 e9 q_10 q_11 q_64 q_65 q_66 q_67 q_68 q_69 q_70 q_74 q_75 => ?_)
  have hP7 : va_P (dC, dI) vwCl (LW cI cZ cB cJ cM cG a (mx 21777905329440588547171861899750630490112 u9 u) (mx 274031556999544297163190906134303066185604792320 F9 F) (mx 3 G9 G) j9) H9 := back_pk M_46 hP hD hP9 rfl rfl rfl hF9
  have hD7 : va_D (fun q : Nat => s.heap.size ≤ q) (LW cI cZ cB cJ cM cG a (mx 21777905329440588547171861899750630490112 u9 u) (mx 274031556999544297163190906134303066185604792320 F9 F) (mx 3 G9 G) j9) := D_congr (by rw [LW_fst, LW_fst]) hD
  exact hk H9 locs9 ls9 x9 a (mx 21777905329440588547171861899750630490112 u9 u) (mx 274031556999544297163190906134303066185604792320 F9 F) (mx 3 G9 G) j9 hP7 hD7 hS9 hl9 (by omega) (by omega) ⟨p_0, p_1, p_2, p_3, p_4, p_5, p_6, p_7, p_8, p_9, q_10, q_11, p_12, p_13, p_14, p_15, p_16, p_17, p_18, p_19, p_20, p_21, p_22, p_23, p_24, p_25, p_26, p_27, p_28, p_29, p_30, p_31, p_32, p_33, p_34, p_35, p_36, p_37, p_38, p_39, p_40, p_41, p_42, p_43, p_44, p_45, p_46, p_47, p_48, p_49, p_50, p_51, p_52, p_53, p_54, p_55, p_56, p_57, p_58, p_59, p_60, p_61, p_62, p_63, q_64, q_65, q_66, q_67, q_68, q_69, q_70, WI_mono p_71 (by omega), p_72, p_73, q_74, q_75, IMG_mono p_76 (by omega)⟩ (by omega)
