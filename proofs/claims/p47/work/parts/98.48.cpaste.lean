theorem dL_law_1667 : decode cL_law 1667 = .ok (.aload_n 1, 1) := by decide +kernel
theorem dL_law_1668 : decode cL_law 1668 = .ok (.aload_n 0, 1) := by decide +kernel
theorem dL_law_1669 : decode cL_law 1669 = .ok (.iload_n 3, 1) := by decide +kernel
theorem dL_law_1670 : decode cL_law 1670 = .ok (.iconst 1, 1) := by decide +kernel
theorem dL_law_1671 : decode cL_law 1671 = .ok (.iadd, 1) := by decide +kernel
theorem dL_law_1672 : decode cL_law 1672 = .ok (.iaload, 1) := by decide +kernel
theorem dL_law_1673 : decode cL_law 1673 = .ok (.aload_n 0, 1) := by decide +kernel
theorem dL_law_1674 : decode cL_law 1674 = .ok (.iload_n 3, 1) := by decide +kernel
theorem dL_law_1675 : decode cL_law 1675 = .ok (.iconst 2, 1) := by decide +kernel
theorem dL_law_1676 : decode cL_law 1676 = .ok (.iadd, 1) := by decide +kernel
theorem dL_law_1677 : decode cL_law 1677 = .ok (.iaload, 1) := by decide +kernel
theorem dL_law_1678 : decode cL_law 1678 = .ok (.aload_n 0, 1) := by decide +kernel
theorem dL_law_1679 : decode cL_law 1679 = .ok (.iload_n 3, 1) := by decide +kernel
theorem dL_law_1680 : decode cL_law 1680 = .ok (.iconst 3, 1) := by decide +kernel
theorem dL_law_1681 : decode cL_law 1681 = .ok (.iadd, 1) := by decide +kernel
theorem dL_law_1682 : decode cL_law 1682 = .ok (.iaload, 1) := by decide +kernel
theorem dL_law_1683 : decode cL_law 1683 = .ok (.aload_n 0, 1) := by decide +kernel
theorem dL_law_1684 : decode cL_law 1684 = .ok (.iload_n 3, 1) := by decide +kernel
theorem dL_law_1685 : decode cL_law 1685 = .ok (.iconst 4, 1) := by decide +kernel
theorem dL_law_1686 : decode cL_law 1686 = .ok (.iadd, 1) := by decide +kernel
theorem dL_law_1687 : decode cL_law 1687 = .ok (.iaload, 1) := by decide +kernel
theorem dL_law_1688 : decode cL_law 1688 = .ok (.aload_n 0, 1) := by decide +kernel
theorem dL_law_1689 : decode cL_law 1689 = .ok (.iload_n 3, 1) := by decide +kernel
theorem dL_law_1690 : decode cL_law 1690 = .ok (.iconst 5, 1) := by decide +kernel
theorem dL_law_1691 : decode cL_law 1691 = .ok (.iadd, 1) := by decide +kernel
theorem dL_law_1692 : decode cL_law 1692 = .ok (.iaload, 1) := by decide +kernel
theorem dL_law_1693 : decode cL_law 1693 = .ok (.invokevirtual 212, 3) := by decide +kernel
theorem dL_law_1696 : decode cL_law 1696 = .ok (.pop, 1) := by decide +kernel
theorem dL_law_1697 : decode cL_law 1697 = .ok (.aload_n 2, 1) := by decide +kernel
theorem dL_law_1698 : decode cL_law 1698 = .ok (.aload_n 0, 1) := by decide +kernel
theorem dL_law_1699 : decode cL_law 1699 = .ok (.iload_n 3, 1) := by decide +kernel
theorem dL_law_1700 : decode cL_law 1700 = .ok (.iconst 1, 1) := by decide +kernel
theorem dL_law_1701 : decode cL_law 1701 = .ok (.iadd, 1) := by decide +kernel
theorem dL_law_1702 : decode cL_law 1702 = .ok (.iaload, 1) := by decide +kernel
theorem dL_law_1703 : decode cL_law 1703 = .ok (.aload_n 0, 1) := by decide +kernel
theorem dL_law_1704 : decode cL_law 1704 = .ok (.iload_n 3, 1) := by decide +kernel
theorem dL_law_1705 : decode cL_law 1705 = .ok (.iconst 2, 1) := by decide +kernel
theorem dL_law_1706 : decode cL_law 1706 = .ok (.iadd, 1) := by decide +kernel
theorem dL_law_1707 : decode cL_law 1707 = .ok (.iaload, 1) := by decide +kernel
theorem dL_law_1708 : decode cL_law 1708 = .ok (.aload_n 0, 1) := by decide +kernel
theorem dL_law_1709 : decode cL_law 1709 = .ok (.iload_n 3, 1) := by decide +kernel
theorem dL_law_1710 : decode cL_law 1710 = .ok (.iconst 3, 1) := by decide +kernel
theorem dL_law_1711 : decode cL_law 1711 = .ok (.iadd, 1) := by decide +kernel
theorem dL_law_1712 : decode cL_law 1712 = .ok (.iaload, 1) := by decide +kernel
theorem dL_law_1713 : decode cL_law 1713 = .ok (.aload_n 0, 1) := by decide +kernel
theorem dL_law_1714 : decode cL_law 1714 = .ok (.iload_n 3, 1) := by decide +kernel
theorem dL_law_1715 : decode cL_law 1715 = .ok (.iconst 4, 1) := by decide +kernel
theorem dL_law_1716 : decode cL_law 1716 = .ok (.iadd, 1) := by decide +kernel
theorem dL_law_1717 : decode cL_law 1717 = .ok (.iaload, 1) := by decide +kernel
theorem dL_law_1718 : decode cL_law 1718 = .ok (.aload_n 0, 1) := by decide +kernel
theorem dL_law_1719 : decode cL_law 1719 = .ok (.iload_n 3, 1) := by decide +kernel
theorem dL_law_1720 : decode cL_law 1720 = .ok (.iconst 5, 1) := by decide +kernel
theorem dL_law_1721 : decode cL_law 1721 = .ok (.iadd, 1) := by decide +kernel
theorem dL_law_1722 : decode cL_law 1722 = .ok (.iaload, 1) := by decide +kernel
theorem dL_law_1723 : decode cL_law 1723 = .ok (.invokevirtual 215, 3) := by decide +kernel
theorem dL_law_1726 : decode cL_law 1726 = .ok (.pop, 1) := by decide +kernel
theorem dL_law_1727 : decode cL_law 1727 = .ok (.goto 3, 3) := by decide +kernel
def CW_47 (cI cZ cB cJ cM cG : ClassId) (a : Nat → Nat) (u : Nat → Int32) (F : Nat → Nat → Int32) (G : Nat → Nat → Int64) (j : Int64) : va_W := [(a 0, .inr (11, [.ref (a 1), .ref (a 2), .ref (a 3), .ref (a 4), .ref (a 5), .ref (a 6), .ref (a 7), .ref (a 8), .ref (a 9), .ref (a 10)])), (a 5, .inr (8, [.ref (a 36), .ref (a 37), .ref (a 38), .ref (a 39)])), (a 36, .inl (cI, 4, .inl (F 24))), (a 37, .inl (cI, 4, .inl (F 25))), (a 38, .inl (cZ, 4, .inl (F 26))), (a 39, .inl (cJ, 240, .inr (.inl (G 0)))), (a 171, .inr (12, [.int (u 117), .ref (a 172), .ref (a 173), .ref (a 174), .ref (a 175), .int (u 118), .ref (a 176), .int (u 119), .int (u 120), .int (u 121), .int (u 122), .int (u 123), .int (u 124), .int (u 125), .ref (a 177), .ref (a 178), .ref (a 179), .ref (a 180), .ref (a 181), .ref (a 182), .ref (a 183), .int (u 126), .ref (a 184), .int (u 127), .ref (a 185), .ref (a 186), .int (u 128), .ref (a 187), .ref (a 188), .ref (a 189), .ref (a 190), .int (u 129), .int (u 130), .int (u 131), .int (u 132), .int (u 133), .ref (a 191), .long j, .ref (a 192), .ref (a 193), .ref (a 194), .ref (a 195)])), (a 192, .inl (cI, 4, .inl (F 156))), (a 193, .inl (cI, 4, .inl (F 157))), (a 194, .inl (cJ, 240, .inr (.inl (G 1)))), (a 195, .inl (cJ, 60, .inr (.inl (G 2))))]
def CA_47 (a : Nat → Nat) : List Nat := [a 0, a 5, a 36, a 37, a 38, a 39, a 171, a 192, a 193, a 194, a 195]
set_option maxHeartbeats 16000000 in
set_option maxRecDepth 100000 in
theorem lcase_47 {p : Program} {l : Launch} {e : Env} {s : State} {m : MethodId} {below : List Frame} {meth : Method} {c : Code} {b L : Nat} {xs : Nat → Int32} {dC : Nat → ClassId} {dI : Nat → Nat → Nat} {cI cZ cB cJ cM cG : ClassId} (a : Nat → Nat) (u : Nat → Int32) (F : Nat → Nat → Int32) (G : Nat → Nat → Int64) (j : Int64) {H0 H : Heap} {locs : List Loc} {ls : Array Slot} {w3 : Int32} (C0 : lw_At p s m meth c b L xs) (hL : L ≤ 384) (hN : NT (fun q : Nat => s.heap.size ≤ q) s) (hK : va_K (dC, dI) vwCl [(cI, .int), (cZ, .boolean), (cB, .byte), (cJ, .long), (cM, .object RX2), (cG, .array .int)] s) (hP : va_P (dC, dI) vwCl (CW_47 cI cZ cB cJ cM cG a u F G j) H) (hD : va_D (fun q : Nat => s.heap.size ≤ q) (CW_47 cI cZ cB cJ cM cG a u F G j)) (hF : (∀ q : Nat, q < H0.size → q ∉ (CA_47 a) → H[q]? = H0[q]?)) (hZ : H0.size ≤ H.size) (hS : va_S (fun q : Nat => s.heap.size ≤ q) s.heap H locs) (hl : lv_has ls 4 [(0, .ref b), (1, .ref (a 0)), (2, .ref (a 171)), (3, .int w3)]) (hi0 : 0 ≤ w3.toInt) (hi6 : w3.toInt + 6 ≤ (L : Int)) (p_10 : rng (F 25) 4 0 60) (p_11 : rng (F 26) 4 0 1) (p_64 : (0 : Int) ≤ (u 118).toInt ∧ (u 118).toInt ≤ 1600) (p_65 : (0 : Int) ≤ (u 119).toInt ∧ (u 119).toInt ≤ 1600) (p_66 : (0 : Int) ≤ (u 120).toInt ∧ (u 120).toInt ≤ 1600) (p_67 : (0 : Int) ≤ (u 121).toInt ∧ (u 121).toInt ≤ 1600) (p_68 : (0 : Int) ≤ (u 122).toInt ∧ (u 122).toInt ≤ 6) (p_69 : (0 : Int) ≤ (u 124).toInt ∧ (u 124).toInt ≤ 3) (p_70 : (0 : Int) ≤ (u 128).toInt ∧ (u 128).toInt ≤ 59) (p_74 : rng (F 156) 4 (-1) 60) (p_75 : rng (F 157) 4 0 3) (hk : ∀ (H : Heap) (locs : List Loc) (ls : Array Slot) (x9 : Int32) (u9 : Nat → Int32) (F9 : Nat → Nat → Int32) (G9 : Nat → Nat → Int64) (j9 : Int64), va_P (dC, dI) vwCl (CW_47 cI cZ cB cJ cM cG a u9 F9 G9 j9) H → va_D (fun q : Nat => s.heap.size ≤ q) (CW_47 cI cZ cB cJ cM cG a u9 F9 G9 j9) → (∀ q : Nat, q < H0.size → q ∉ (CA_47 a) → H[q]? = H0[q]?) → H0.size ≤ H.size → va_S (fun q : Nat => s.heap.size ≤ q) s.heap H locs → lv_has ls 4 [(0, .ref b), (1, .ref (a 0)), (2, .ref (a 171)), (3, .int x9)] → x9.toInt = w3.toInt + (6 : Int32).toInt → (rng (F9 25) 4 0 60) → (rng (F9 26) 4 0 1) → ((0 : Int) ≤ (u9 118).toInt ∧ (u9 118).toInt ≤ 1600) → ((0 : Int) ≤ (u9 119).toInt ∧ (u9 119).toInt ≤ 1600) → ((0 : Int) ≤ (u9 120).toInt ∧ (u9 120).toInt ≤ 1600) → ((0 : Int) ≤ (u9 121).toInt ∧ (u9 121).toInt ≤ 1600) → ((0 : Int) ≤ (u9 122).toInt ∧ (u9 122).toInt ≤ 6) → ((0 : Int) ≤ (u9 124).toInt ∧ (u9 124).toInt ≤ 3) → ((0 : Int) ≤ (u9 128).toInt ∧ (u9 128).toInt ≤ 59) → (rng (F9 156) 4 (-1) 60) → (rng (F9 157) 4 0 3) → W p l e room_1 s m #[Value.ref b] below meth c H locs 600000 7302250 (lw_Z below #[Value.ref b] s) (F0 m 18 ls [])) : W p l e room_1 s m #[Value.ref b] below meth c H locs 600000 7302250 (lw_Z below #[Value.ref b] s) (F0 m 1667 ls []) := by
  replace hP : va_P (dC, dI) vwCl [(a 0, .inr (11, [.ref (a 1), .ref (a 2), .ref (a 3), .ref (a 4), .ref (a 5), .ref (a 6), .ref (a 7), .ref (a 8), .ref (a 9), .ref (a 10)])), (a 5, .inr (8, [.ref (a 36), .ref (a 37), .ref (a 38), .ref (a 39)])), (a 36, .inl (cI, 4, .inl (F 24))), (a 37, .inl (cI, 4, .inl (F 25))), (a 38, .inl (cZ, 4, .inl (F 26))), (a 39, .inl (cJ, 240, .inr (.inl (G 0)))), (a 171, .inr (12, [.int (u 117), .ref (a 172), .ref (a 173), .ref (a 174), .ref (a 175), .int (u 118), .ref (a 176), .int (u 119), .int (u 120), .int (u 121), .int (u 122), .int (u 123), .int (u 124), .int (u 125), .ref (a 177), .ref (a 178), .ref (a 179), .ref (a 180), .ref (a 181), .ref (a 182), .ref (a 183), .int (u 126), .ref (a 184), .int (u 127), .ref (a 185), .ref (a 186), .int (u 128), .ref (a 187), .ref (a 188), .ref (a 189), .ref (a 190), .int (u 129), .int (u 130), .int (u 131), .int (u 132), .int (u 133), .ref (a 191), .long j, .ref (a 192), .ref (a 193), .ref (a 194), .ref (a 195)])), (a 192, .inl (cI, 4, .inl (F 156))), (a 193, .inl (cI, 4, .inl (F 157))), (a 194, .inl (cJ, 240, .inr (.inl (G 1)))), (a 195, .inl (cJ, 60, .inr (.inl (G 2))))] H := hP
  replace hD : va_D (fun q : Nat => s.heap.size ≤ q) [(a 0, .inr (11, [.ref (a 1), .ref (a 2), .ref (a 3), .ref (a 4), .ref (a 5), .ref (a 6), .ref (a 7), .ref (a 8), .ref (a 9), .ref (a 10)])), (a 5, .inr (8, [.ref (a 36), .ref (a 37), .ref (a 38), .ref (a 39)])), (a 36, .inl (cI, 4, .inl (F 24))), (a 37, .inl (cI, 4, .inl (F 25))), (a 38, .inl (cZ, 4, .inl (F 26))), (a 39, .inl (cJ, 240, .inr (.inl (G 0)))), (a 171, .inr (12, [.int (u 117), .ref (a 172), .ref (a 173), .ref (a 174), .ref (a 175), .int (u 118), .ref (a 176), .int (u 119), .int (u 120), .int (u 121), .int (u 122), .int (u 123), .int (u 124), .int (u 125), .ref (a 177), .ref (a 178), .ref (a 179), .ref (a 180), .ref (a 181), .ref (a 182), .ref (a 183), .int (u 126), .ref (a 184), .int (u 127), .ref (a 185), .ref (a 186), .int (u 128), .ref (a 187), .ref (a 188), .ref (a 189), .ref (a 190), .int (u 129), .int (u 130), .int (u 131), .int (u 132), .int (u 133), .ref (a 191), .long j, .ref (a 192), .ref (a 193), .ref (a 194), .ref (a 195)])), (a 192, .inl (cI, 4, .inl (F 156))), (a 193, .inl (cI, 4, .inl (F 157))), (a 194, .inl (cJ, 240, .inr (.inl (G 1)))), (a 195, .inl (cJ, 60, .inr (.inl (G 2))))] := hD
  replace hF : ∀ q : Nat, q < H0.size → q ∉ ([a 0, a 5, a 36, a 37, a 38, a 39, a 171, a 192, a 193, a 194, a 195] : List Nat) → H[q]? = H0[q]? := hF
  obtain ⟨hx, hb, hr, hml, hown0, hts, hX, hbl, hlocks, hgv⟩ := id C0
  have hb : c.code = cL_law := hb
  have hown : s.vm.findClass RL = some m.cls := hown0
  have hwd : ∀ wd ∈ wsL_law, wd.before #[Value.ref b] s = true := fun w h => hts w (wsL_law_in w h)
  have hA : ∀ q : Nat, s.heap.size ≤ q → (fun q : Nat => s.heap.size ≤ q) q := fun _ h => h
  have hbA : ¬ (fun q : Nat => s.heap.size ≤ q) b := Nat.not_le.mpr hbl
  clear hgv hts
  have k1 : (1 : Int32).toInt = 1 := by decide
  have k2 : (2 : Int32).toInt = 2 := by decide
  have k3 : (3 : Int32).toInt = 3 := by decide
  have k4 : (4 : Int32).toInt = 4 := by decide
  have k5 : (5 : Int32).toInt = 5 := by decide
  have k6 : (6 : Int32).toInt = 6 := by decide
  refine lv_aload_n hx hb dL_law_1667 rfl (lv_at hl 1 rfl) ?_
  refine lv_aload_n hx hb dL_law_1668 rfl (lv_at hl 0 rfl) ?_
  refine lv_iload_n hx hb dL_law_1669 rfl (lv_at hl 3 rfl) ?_
  refine lv_iconst (v := 1) hx hb dL_law_1670 (by decide) ?_
  refine lv_iadd hx hb dL_law_1671 ?_
  refine lv_topi (fun x1 ex1 => ?_)
  have tx1 := ia_add (a := w3) (b := (1 : Int32)) (by omega) (by omega)
  rw [← ex1] at tx1
  refine va_sld hx hb hX hbl hbA hS (vp_of (by omega) (by omega)) dL_law_1672 ?_
  refine lv_topi (fun x2 ex2 => ?_)
  refine lv_aload_n hx hb dL_law_1673 rfl (lv_at hl 0 rfl) ?_
  refine lv_iload_n hx hb dL_law_1674 rfl (lv_at hl 3 rfl) ?_
  refine lv_iconst (v := 2) hx hb dL_law_1675 (by decide) ?_
  refine lv_iadd hx hb dL_law_1676 ?_
  refine lv_topi (fun x3 ex3 => ?_)
  have tx3 := ia_add (a := w3) (b := (2 : Int32)) (by omega) (by omega)
  rw [← ex3] at tx3
  refine va_sld hx hb hX hbl hbA hS (vp_of (by omega) (by omega)) dL_law_1677 ?_
  refine lv_topi (fun x4 ex4 => ?_)
  refine lv_aload_n hx hb dL_law_1678 rfl (lv_at hl 0 rfl) ?_
  refine lv_iload_n hx hb dL_law_1679 rfl (lv_at hl 3 rfl) ?_
  refine lv_iconst (v := 3) hx hb dL_law_1680 (by decide) ?_
  refine lv_iadd hx hb dL_law_1681 ?_
  refine lv_topi (fun x5 ex5 => ?_)
  have tx5 := ia_add (a := w3) (b := (3 : Int32)) (by omega) (by omega)
  rw [← ex5] at tx5
  refine va_sld hx hb hX hbl hbA hS (vp_of (by omega) (by omega)) dL_law_1682 ?_
  refine lv_topi (fun x6 ex6 => ?_)
  refine lv_aload_n hx hb dL_law_1683 rfl (lv_at hl 0 rfl) ?_
  refine lv_iload_n hx hb dL_law_1684 rfl (lv_at hl 3 rfl) ?_
  refine lv_iconst (v := 4) hx hb dL_law_1685 (by decide) ?_
  refine lv_iadd hx hb dL_law_1686 ?_
  refine lv_topi (fun x7 ex7 => ?_)
  have tx7 := ia_add (a := w3) (b := (4 : Int32)) (by omega) (by omega)
  rw [← ex7] at tx7
  refine va_sld hx hb hX hbl hbA hS (vp_of (by omega) (by omega)) dL_law_1687 ?_
  refine lv_topi (fun x8 ex8 => ?_)
  refine lv_aload_n hx hb dL_law_1688 rfl (lv_at hl 0 rfl) ?_
  refine lv_iload_n hx hb dL_law_1689 rfl (lv_at hl 3 rfl) ?_
  refine lv_iconst (v := 5) hx hb dL_law_1690 (by decide) ?_
  refine lv_iadd hx hb dL_law_1691 ?_
  refine lv_topi (fun x9 ex9 => ?_)
  have tx9 := ia_add (a := w3) (b := (5 : Int32)) (by omega) (by omega)
  rw [← ex9] at tx9
  refine va_sld hx hb hX hbl hbA hS (vp_of (by omega) (by omega)) dL_law_1692 ?_
  refine lv_topi (fun x10 ex10 => ?_)
  have hPc := hP.sub (ws' := [(a 0, .inr (11, [.ref (a 1), .ref (a 2), .ref (a 3), .ref (a 4), .ref (a 5), .ref (a 6), .ref (a 7), .ref (a 8), .ref (a 9), .ref (a 10)])), (a 5, .inr (8, [.ref (a 36), .ref (a 37), .ref (a 38), .ref (a 39)])), (a 36, .inl (cI, 4, .inl (F 24))), (a 37, .inl (cI, 4, .inl (F 25))), (a 38, .inl (cZ, 4, .inl (F 26))), (a 39, .inl (cJ, 240, .inr (.inl (G 0))))]) [0, 1, 2, 3, 4, 5] rfl
  have hDc := hD.sub (ws' := [(a 0, .inr (11, [.ref (a 1), .ref (a 2), .ref (a 3), .ref (a 4), .ref (a 5), .ref (a 6), .ref (a 7), .ref (a 8), .ref (a 9), .ref (a 10)])), (a 5, .inr (8, [.ref (a 36), .ref (a 37), .ref (a 38), .ref (a 39)])), (a 36, .inl (cI, 4, .inl (F 24))), (a 37, .inl (cI, 4, .inl (F 25))), (a 38, .inl (cZ, 4, .inl (F 26))), (a 39, .inl (cJ, 240, .inr (.inl (G 0))))]) [0, 1, 2, 3, 4, 5] (by decide) rfl
  have hFc := va_free (wc := [(a 0, .inr (11, [.ref (a 1), .ref (a 2), .ref (a 3), .ref (a 4), .ref (a 5), .ref (a 6), .ref (a 7), .ref (a 8), .ref (a 9), .ref (a 10)])), (a 5, .inr (8, [.ref (a 36), .ref (a 37), .ref (a 38), .ref (a 39)])), (a 36, .inl (cI, 4, .inl (F 24))), (a 37, .inl (cI, 4, .inl (F 25))), (a 38, .inl (cZ, 4, .inl (F 26))), (a 39, .inl (cJ, 240, .inr (.inl (G 0))))]) hD hS hA [0, 1, 2, 3, 4, 5] rfl
  refine va_calli (va_runV (As := [.int x2, .int x4, .int x6, .int x8, .int x10]) (rest := []) ⟨hx, hb, hml, hown, hwd⟩ (s_X11_paste l dC dI cI cZ cB cJ cM cG (a 0) (a 1) (a 2) (a 3) (a 4) (a 5) (a 6) (a 7) (a 8) (a 9) (a 10) (a 36) (a 37) (a 38) (a 39) (F 24) (F 25) (F 26) (G 0) x2 x4 x6 x8 x10 H.size (show rng (F 25) 4 0 60 from p_10) (show rng (F 26) 4 0 1 from p_11)) (cwV 5 hwd (gV kr68_6 kr68_7 kr68_8 kr1_2 kr68_9) rfl rfl rfl (by decide +kernel) ⟨Nat.le_of_ble_eq_true rfl, Nat.le_of_ble_eq_true rfl⟩) (kPreV hPc hK hDc (ci := 11) (q0 := 0) rfl rfl) rfl rfl hl.1 rfl (lv_room (Nat.le_of_ble_eq_true rfl)) dL_law_1693 ⟨Nat.le_of_ble_eq_true rfl, Nat.le_of_ble_eq_true rfl⟩) hS (fun q _ h => hFc q h) hFc (fun r11 u12 t H1 locs ht9 hvm hw hB hz1 hk1 hS => ?_)
  obtain ⟨u13, U13, V13⟩ := u12
  obtain ⟨hw14, -⟩ := hw
  replace hw14 : (-8 : Int) ≤ r11.toInt ∧ r11.toInt ≤ 0 := hw14
  obtain ⟨hP1, hD1⟩ := hB
  rw [ht9] at hP1
  obtain ⟨hF, hZ⟩ := fr_step hF hZ hz1 [0, 1, 2, 3, 4, 5] rfl hk1
  obtain ⟨hP, hD⟩ := va_join (wr := [(a 171, .inr (12, [.int (u 117), .ref (a 172), .ref (a 173), .ref (a 174), .ref (a 175), .int (u 118), .ref (a 176), .int (u 119), .int (u 120), .int (u 121), .int (u 122), .int (u 123), .int (u 124), .int (u 125), .ref (a 177), .ref (a 178), .ref (a 179), .ref (a 180), .ref (a 181), .ref (a 182), .ref (a 183), .int (u 126), .ref (a 184), .int (u 127), .ref (a 185), .ref (a 186), .int (u 128), .ref (a 187), .ref (a 188), .ref (a 189), .ref (a 190), .int (u 129), .int (u 130), .int (u 131), .int (u 132), .int (u 133), .ref (a 191), .long j, .ref (a 192), .ref (a 193), .ref (a 194), .ref (a 195)])), (a 192, .inl (cI, 4, .inl (F 156))), (a 193, .inl (cI, 4, .inl (F 157))), (a 194, .inl (cJ, 240, .inr (.inl (G 1)))), (a 195, .inl (cJ, 60, .inr (.inl (G 2))))]) (w1 := [(a 0, .inr (11, [.ref (a 1), .ref (a 2), .ref (a 3), .ref (a 4), .ref (a 5), .ref (a 6), .ref (a 7), .ref (a 8), .ref (a 9), .ref (a 10)])), (a 5, .inr (8, [.ref (a 36), .ref (a 37), .ref (a 38), .ref (a 39)])), (a 36, .inl (cI, 4, .inl (F 24))), (a 37, .inl (cI, 4, .inl (F 25))), (a 38, .inl (cZ, 4, .inl (F 26))), (a 39, .inl (cJ, 240, .inr (.inl (V13 0))))]) hP hD [0, 1, 2, 3, 4, 5] [6, 7, 8, 9, 10] rfl rfl (by decide +kernel) (by decide +kernel) hk1 hFc hP1 hD1
  generalize H1 = H at hP hS hF hZ ⊢
  replace hP : va_P (dC, dI) vwCl [(a 171, .inr (12, [.int (u 117), .ref (a 172), .ref (a 173), .ref (a 174), .ref (a 175), .int (u 118), .ref (a 176), .int (u 119), .int (u 120), .int (u 121), .int (u 122), .int (u 123), .int (u 124), .int (u 125), .ref (a 177), .ref (a 178), .ref (a 179), .ref (a 180), .ref (a 181), .ref (a 182), .ref (a 183), .int (u 126), .ref (a 184), .int (u 127), .ref (a 185), .ref (a 186), .int (u 128), .ref (a 187), .ref (a 188), .ref (a 189), .ref (a 190), .int (u 129), .int (u 130), .int (u 131), .int (u 132), .int (u 133), .ref (a 191), .long j, .ref (a 192), .ref (a 193), .ref (a 194), .ref (a 195)])), (a 192, .inl (cI, 4, .inl (F 156))), (a 193, .inl (cI, 4, .inl (F 157))), (a 194, .inl (cJ, 240, .inr (.inl (G 1)))), (a 195, .inl (cJ, 60, .inr (.inl (G 2)))), (a 0, .inr (11, [.ref (a 1), .ref (a 2), .ref (a 3), .ref (a 4), .ref (a 5), .ref (a 6), .ref (a 7), .ref (a 8), .ref (a 9), .ref (a 10)])), (a 5, .inr (8, [.ref (a 36), .ref (a 37), .ref (a 38), .ref (a 39)])), (a 36, .inl (cI, 4, .inl (F 24))), (a 37, .inl (cI, 4, .inl (F 25))), (a 38, .inl (cZ, 4, .inl (F 26))), (a 39, .inl (cJ, 240, .inr (.inl (V13 0))))] H := hP
  replace hD : va_D (fun q : Nat => s.heap.size ≤ q) [(a 171, .inr (12, [.int (u 117), .ref (a 172), .ref (a 173), .ref (a 174), .ref (a 175), .int (u 118), .ref (a 176), .int (u 119), .int (u 120), .int (u 121), .int (u 122), .int (u 123), .int (u 124), .int (u 125), .ref (a 177), .ref (a 178), .ref (a 179), .ref (a 180), .ref (a 181), .ref (a 182), .ref (a 183), .int (u 126), .ref (a 184), .int (u 127), .ref (a 185), .ref (a 186), .int (u 128), .ref (a 187), .ref (a 188), .ref (a 189), .ref (a 190), .int (u 129), .int (u 130), .int (u 131), .int (u 132), .int (u 133), .ref (a 191), .long j, .ref (a 192), .ref (a 193), .ref (a 194), .ref (a 195)])), (a 192, .inl (cI, 4, .inl (F 156))), (a 193, .inl (cI, 4, .inl (F 157))), (a 194, .inl (cJ, 240, .inr (.inl (G 1)))), (a 195, .inl (cJ, 60, .inr (.inl (G 2)))), (a 0, .inr (11, [.ref (a 1), .ref (a 2), .ref (a 3), .ref (a 4), .ref (a 5), .ref (a 6), .ref (a 7), .ref (a 8), .ref (a 9), .ref (a 10)])), (a 5, .inr (8, [.ref (a 36), .ref (a 37), .ref (a 38), .ref (a 39)])), (a 36, .inl (cI, 4, .inl (F 24))), (a 37, .inl (cI, 4, .inl (F 25))), (a 38, .inl (cZ, 4, .inl (F 26))), (a 39, .inl (cJ, 240, .inr (.inl (V13 0))))] := hD
  refine lv_pop hx hb dL_law_1696 rfl ?_
  refine lv_aload_n hx hb dL_law_1697 rfl (lv_at hl 2 rfl) ?_
  refine lv_aload_n hx hb dL_law_1698 rfl (lv_at hl 0 rfl) ?_
  refine lv_iload_n hx hb dL_law_1699 rfl (lv_at hl 3 rfl) ?_
  refine lv_iconst (v := 1) hx hb dL_law_1700 (by decide) ?_
  refine lv_iadd hx hb dL_law_1701 ?_
  refine lv_topi (fun x15 ex15 => ?_)
  have tx15 := ia_add (a := w3) (b := (1 : Int32)) (by omega) (by omega)
  rw [← ex15] at tx15
  refine va_sld hx hb hX hbl hbA hS (vp_of (by omega) (by omega)) dL_law_1702 ?_
  refine lv_topi (fun x16 ex16 => ?_)
  refine lv_aload_n hx hb dL_law_1703 rfl (lv_at hl 0 rfl) ?_
  refine lv_iload_n hx hb dL_law_1704 rfl (lv_at hl 3 rfl) ?_
  refine lv_iconst (v := 2) hx hb dL_law_1705 (by decide) ?_
  refine lv_iadd hx hb dL_law_1706 ?_
  refine lv_topi (fun x17 ex17 => ?_)
  have tx17 := ia_add (a := w3) (b := (2 : Int32)) (by omega) (by omega)
  rw [← ex17] at tx17
  refine va_sld hx hb hX hbl hbA hS (vp_of (by omega) (by omega)) dL_law_1707 ?_
  refine lv_topi (fun x18 ex18 => ?_)
  refine lv_aload_n hx hb dL_law_1708 rfl (lv_at hl 0 rfl) ?_
  refine lv_iload_n hx hb dL_law_1709 rfl (lv_at hl 3 rfl) ?_
  refine lv_iconst (v := 3) hx hb dL_law_1710 (by decide) ?_
  refine lv_iadd hx hb dL_law_1711 ?_
  refine lv_topi (fun x19 ex19 => ?_)
  have tx19 := ia_add (a := w3) (b := (3 : Int32)) (by omega) (by omega)
  rw [← ex19] at tx19
  refine va_sld hx hb hX hbl hbA hS (vp_of (by omega) (by omega)) dL_law_1712 ?_
  refine lv_topi (fun x20 ex20 => ?_)
  refine lv_aload_n hx hb dL_law_1713 rfl (lv_at hl 0 rfl) ?_
  refine lv_iload_n hx hb dL_law_1714 rfl (lv_at hl 3 rfl) ?_
  refine lv_iconst (v := 4) hx hb dL_law_1715 (by decide) ?_
  refine lv_iadd hx hb dL_law_1716 ?_
  refine lv_topi (fun x21 ex21 => ?_)
  have tx21 := ia_add (a := w3) (b := (4 : Int32)) (by omega) (by omega)
  rw [← ex21] at tx21
  refine va_sld hx hb hX hbl hbA hS (vp_of (by omega) (by omega)) dL_law_1717 ?_
  refine lv_topi (fun x22 ex22 => ?_)
  refine lv_aload_n hx hb dL_law_1718 rfl (lv_at hl 0 rfl) ?_
  refine lv_iload_n hx hb dL_law_1719 rfl (lv_at hl 3 rfl) ?_
  refine lv_iconst (v := 5) hx hb dL_law_1720 (by decide) ?_
  refine lv_iadd hx hb dL_law_1721 ?_
  refine lv_topi (fun x23 ex23 => ?_)
  have tx23 := ia_add (a := w3) (b := (5 : Int32)) (by omega) (by omega)
  rw [← ex23] at tx23
  refine va_sld hx hb hX hbl hbA hS (vp_of (by omega) (by omega)) dL_law_1722 ?_
  refine lv_topi (fun x24 ex24 => ?_)
  have hPc := hP.sub (ws' := [(a 171, .inr (12, [.int (u 117), .ref (a 172), .ref (a 173), .ref (a 174), .ref (a 175), .int (u 118), .ref (a 176), .int (u 119), .int (u 120), .int (u 121), .int (u 122), .int (u 123), .int (u 124), .int (u 125), .ref (a 177), .ref (a 178), .ref (a 179), .ref (a 180), .ref (a 181), .ref (a 182), .ref (a 183), .int (u 126), .ref (a 184), .int (u 127), .ref (a 185), .ref (a 186), .int (u 128), .ref (a 187), .ref (a 188), .ref (a 189), .ref (a 190), .int (u 129), .int (u 130), .int (u 131), .int (u 132), .int (u 133), .ref (a 191), .long j, .ref (a 192), .ref (a 193), .ref (a 194), .ref (a 195)])), (a 192, .inl (cI, 4, .inl (F 156))), (a 193, .inl (cI, 4, .inl (F 157))), (a 194, .inl (cJ, 240, .inr (.inl (G 1)))), (a 195, .inl (cJ, 60, .inr (.inl (G 2))))]) [0, 1, 2, 3, 4] rfl
  have hDc := hD.sub (ws' := [(a 171, .inr (12, [.int (u 117), .ref (a 172), .ref (a 173), .ref (a 174), .ref (a 175), .int (u 118), .ref (a 176), .int (u 119), .int (u 120), .int (u 121), .int (u 122), .int (u 123), .int (u 124), .int (u 125), .ref (a 177), .ref (a 178), .ref (a 179), .ref (a 180), .ref (a 181), .ref (a 182), .ref (a 183), .int (u 126), .ref (a 184), .int (u 127), .ref (a 185), .ref (a 186), .int (u 128), .ref (a 187), .ref (a 188), .ref (a 189), .ref (a 190), .int (u 129), .int (u 130), .int (u 131), .int (u 132), .int (u 133), .ref (a 191), .long j, .ref (a 192), .ref (a 193), .ref (a 194), .ref (a 195)])), (a 192, .inl (cI, 4, .inl (F 156))), (a 193, .inl (cI, 4, .inl (F 157))), (a 194, .inl (cJ, 240, .inr (.inl (G 1)))), (a 195, .inl (cJ, 60, .inr (.inl (G 2))))]) [0, 1, 2, 3, 4] (by decide) rfl
  have hFc := va_free (wc := [(a 171, .inr (12, [.int (u 117), .ref (a 172), .ref (a 173), .ref (a 174), .ref (a 175), .int (u 118), .ref (a 176), .int (u 119), .int (u 120), .int (u 121), .int (u 122), .int (u 123), .int (u 124), .int (u 125), .ref (a 177), .ref (a 178), .ref (a 179), .ref (a 180), .ref (a 181), .ref (a 182), .ref (a 183), .int (u 126), .ref (a 184), .int (u 127), .ref (a 185), .ref (a 186), .int (u 128), .ref (a 187), .ref (a 188), .ref (a 189), .ref (a 190), .int (u 129), .int (u 130), .int (u 131), .int (u 132), .int (u 133), .ref (a 191), .long j, .ref (a 192), .ref (a 193), .ref (a 194), .ref (a 195)])), (a 192, .inl (cI, 4, .inl (F 156))), (a 193, .inl (cI, 4, .inl (F 157))), (a 194, .inl (cJ, 240, .inr (.inl (G 1)))), (a 195, .inl (cJ, 60, .inr (.inl (G 2))))]) hD hS hA [0, 1, 2, 3, 4] rfl
  refine va_calli (va_runV (As := [.int x16, .int x18, .int x20, .int x22, .int x24]) (rest := []) ⟨hx, hb, hml, hown, hwd⟩ (s_X12_paste l dC dI cI cZ cB cJ cM cG (a 171) (a 172) (a 173) (a 174) (a 175) (a 176) (a 177) (a 178) (a 179) (a 180) (a 181) (a 182) (a 183) (a 184) (a 185) (a 186) (a 187) (a 188) (a 189) (a 190) (a 191) (a 192) (a 193) (a 194) (a 195) (u 117) (u 118) (u 119) (u 120) (u 121) (u 122) (u 123) (u 124) (u 125) (u 126) (u 127) (u 128) (u 129) (u 130) (u 131) (u 132) (u 133) j (F 156) (F 157) (G 1) (G 2) x16 x18 x20 x22 x24 H.size (show (0 : Int) ≤ (u 118).toInt ∧ (u 118).toInt ≤ 1600 from p_64) (show (0 : Int) ≤ (u 119).toInt ∧ (u 119).toInt ≤ 1600 from p_65) (show (0 : Int) ≤ (u 120).toInt ∧ (u 120).toInt ≤ 1600 from p_66) (show (0 : Int) ≤ (u 121).toInt ∧ (u 121).toInt ≤ 1600 from p_67) (show (0 : Int) ≤ (u 122).toInt ∧ (u 122).toInt ≤ 6 from p_68) (show (0 : Int) ≤ (u 124).toInt ∧ (u 124).toInt ≤ 3 from p_69) (show (0 : Int) ≤ (u 128).toInt ∧ (u 128).toInt ≤ 59 from p_70) (show rng (F 156) 4 (-1) 60 from p_74) (show MI (F 156) from trivial) (show rng (F 157) 4 0 3 from p_75)) (cwV 5 hwd (gV kr68_20 kr68_21 kr68_22 kr1_5 kr68_23) rfl rfl rfl (by decide +kernel) ⟨Nat.le_of_ble_eq_true rfl, Nat.le_of_ble_eq_true rfl⟩) (kPreV hPc hK hDc (ci := 12) (q0 := 0) rfl rfl) rfl rfl hl.1 rfl (lv_room (Nat.le_of_ble_eq_true rfl)) dL_law_1723 ⟨Nat.le_of_ble_eq_true rfl, Nat.le_of_ble_eq_true rfl⟩) hS (fun q _ h => hFc q h) hFc (fun r25 u26 t H1 locs ht9 hvm hw hB hz1 hk1 hS => ?_)
  obtain ⟨u27, U27, V27⟩ := u26
  obtain ⟨hw28, -⟩ := hw
  replace hw28 : (-8 : Int) ≤ r25.toInt ∧ r25.toInt ≤ 0 := hw28
  obtain ⟨hP1, hD1⟩ := hB
  rw [ht9] at hP1
  obtain ⟨hF, hZ⟩ := fr_step hF hZ hz1 [6, 7, 8, 9, 10] rfl hk1
  obtain ⟨hP, hD⟩ := va_join (wr := [(a 0, .inr (11, [.ref (a 1), .ref (a 2), .ref (a 3), .ref (a 4), .ref (a 5), .ref (a 6), .ref (a 7), .ref (a 8), .ref (a 9), .ref (a 10)])), (a 5, .inr (8, [.ref (a 36), .ref (a 37), .ref (a 38), .ref (a 39)])), (a 36, .inl (cI, 4, .inl (F 24))), (a 37, .inl (cI, 4, .inl (F 25))), (a 38, .inl (cZ, 4, .inl (F 26))), (a 39, .inl (cJ, 240, .inr (.inl (V13 0))))]) (w1 := [(a 171, .inr (12, [.int (u 117), .ref (a 172), .ref (a 173), .ref (a 174), .ref (a 175), .int (u 118), .ref (a 176), .int (u 119), .int (u 120), .int (u 121), .int (u 122), .int (u 123), .int (u 124), .int (u 125), .ref (a 177), .ref (a 178), .ref (a 179), .ref (a 180), .ref (a 181), .ref (a 182), .ref (a 183), .int (u 126), .ref (a 184), .int (u 127), .ref (a 185), .ref (a 186), .int (u 128), .ref (a 187), .ref (a 188), .ref (a 189), .ref (a 190), .int (u 129), .int (u 130), .int (u 131), .int (u 132), .int (u 133), .ref (a 191), .long j, .ref (a 192), .ref (a 193), .ref (a 194), .ref (a 195)])), (a 192, .inl (cI, 4, .inl (F 156))), (a 193, .inl (cI, 4, .inl (F 157))), (a 194, .inl (cJ, 240, .inr (.inl (V27 0)))), (a 195, .inl (cJ, 60, .inr (.inl (V27 1))))]) hP hD [0, 1, 2, 3, 4] [5, 6, 7, 8, 9, 10] rfl rfl (by decide +kernel) (by decide +kernel) hk1 hFc hP1 hD1
  generalize H1 = H at hP hS hF hZ ⊢
  replace hP : va_P (dC, dI) vwCl [(a 0, .inr (11, [.ref (a 1), .ref (a 2), .ref (a 3), .ref (a 4), .ref (a 5), .ref (a 6), .ref (a 7), .ref (a 8), .ref (a 9), .ref (a 10)])), (a 5, .inr (8, [.ref (a 36), .ref (a 37), .ref (a 38), .ref (a 39)])), (a 36, .inl (cI, 4, .inl (F 24))), (a 37, .inl (cI, 4, .inl (F 25))), (a 38, .inl (cZ, 4, .inl (F 26))), (a 39, .inl (cJ, 240, .inr (.inl (V13 0)))), (a 171, .inr (12, [.int (u 117), .ref (a 172), .ref (a 173), .ref (a 174), .ref (a 175), .int (u 118), .ref (a 176), .int (u 119), .int (u 120), .int (u 121), .int (u 122), .int (u 123), .int (u 124), .int (u 125), .ref (a 177), .ref (a 178), .ref (a 179), .ref (a 180), .ref (a 181), .ref (a 182), .ref (a 183), .int (u 126), .ref (a 184), .int (u 127), .ref (a 185), .ref (a 186), .int (u 128), .ref (a 187), .ref (a 188), .ref (a 189), .ref (a 190), .int (u 129), .int (u 130), .int (u 131), .int (u 132), .int (u 133), .ref (a 191), .long j, .ref (a 192), .ref (a 193), .ref (a 194), .ref (a 195)])), (a 192, .inl (cI, 4, .inl (F 156))), (a 193, .inl (cI, 4, .inl (F 157))), (a 194, .inl (cJ, 240, .inr (.inl (V27 0)))), (a 195, .inl (cJ, 60, .inr (.inl (V27 1))))] H := hP
  replace hD : va_D (fun q : Nat => s.heap.size ≤ q) [(a 0, .inr (11, [.ref (a 1), .ref (a 2), .ref (a 3), .ref (a 4), .ref (a 5), .ref (a 6), .ref (a 7), .ref (a 8), .ref (a 9), .ref (a 10)])), (a 5, .inr (8, [.ref (a 36), .ref (a 37), .ref (a 38), .ref (a 39)])), (a 36, .inl (cI, 4, .inl (F 24))), (a 37, .inl (cI, 4, .inl (F 25))), (a 38, .inl (cZ, 4, .inl (F 26))), (a 39, .inl (cJ, 240, .inr (.inl (V13 0)))), (a 171, .inr (12, [.int (u 117), .ref (a 172), .ref (a 173), .ref (a 174), .ref (a 175), .int (u 118), .ref (a 176), .int (u 119), .int (u 120), .int (u 121), .int (u 122), .int (u 123), .int (u 124), .int (u 125), .ref (a 177), .ref (a 178), .ref (a 179), .ref (a 180), .ref (a 181), .ref (a 182), .ref (a 183), .int (u 126), .ref (a 184), .int (u 127), .ref (a 185), .ref (a 186), .int (u 128), .ref (a 187), .ref (a 188), .ref (a 189), .ref (a 190), .int (u 129), .int (u 130), .int (u 131), .int (u 132), .int (u 133), .ref (a 191), .long j, .ref (a 192), .ref (a 193), .ref (a 194), .ref (a 195)])), (a 192, .inl (cI, 4, .inl (F 156))), (a 193, .inl (cI, 4, .inl (F 157))), (a 194, .inl (cJ, 240, .inr (.inl (V27 0)))), (a 195, .inl (cJ, 60, .inr (.inl (V27 1))))] := hD
  refine lv_pop hx hb dL_law_1726 rfl ?_
  refine lv_goto (tgt := 1730) hx hb dL_law_1727 (by decide) ?_
  obtain ⟨x9, ex9⟩ : ∃ y : Int32, y = w3 + 6 := ⟨_, rfl⟩
  refine lv_iinc (v := x9) (lv' := [(3, .int x9), (0, .ref b), (1, .ref (a 0)), (2, .ref (a 171))]) hx hb dL_law_1730 hl (k := 3) rfl (by rw [ex9]; rfl) (by decide) rfl (fun ls hl => ?_)
  have tx9 := ia_add (a := w3) (b := (6 : Int32)) (by omega) (by omega)
  rw [← ex9] at tx9
  refine lv_goto (tgt := 18) hx hb dL_law_1733 (by decide) ?_
  have hP9 := hP.sub (ws' := [(a 0, .inr (11, [.ref (a 1), .ref (a 2), .ref (a 3), .ref (a 4), .ref (a 5), .ref (a 6), .ref (a 7), .ref (a 8), .ref (a 9), .ref (a 10)])), (a 5, .inr (8, [.ref (a 36), .ref (a 37), .ref (a 38), .ref (a 39)])), (a 36, .inl (cI, 4, .inl (F 24))), (a 37, .inl (cI, 4, .inl (F 25))), (a 38, .inl (cZ, 4, .inl (F 26))), (a 39, .inl (cJ, 240, .inr (.inl (V13 0)))), (a 171, .inr (12, [.int (u 117), .ref (a 172), .ref (a 173), .ref (a 174), .ref (a 175), .int (u 118), .ref (a 176), .int (u 119), .int (u 120), .int (u 121), .int (u 122), .int (u 123), .int (u 124), .int (u 125), .ref (a 177), .ref (a 178), .ref (a 179), .ref (a 180), .ref (a 181), .ref (a 182), .ref (a 183), .int (u 126), .ref (a 184), .int (u 127), .ref (a 185), .ref (a 186), .int (u 128), .ref (a 187), .ref (a 188), .ref (a 189), .ref (a 190), .int (u 129), .int (u 130), .int (u 131), .int (u 132), .int (u 133), .ref (a 191), .long j, .ref (a 192), .ref (a 193), .ref (a 194), .ref (a 195)])), (a 192, .inl (cI, 4, .inl (F 156))), (a 193, .inl (cI, 4, .inl (F 157))), (a 194, .inl (cJ, 240, .inr (.inl (V27 0)))), (a 195, .inl (cJ, 60, .inr (.inl (V27 1))))]) [0, 1, 2, 3, 4, 5, 6, 7, 8, 9, 10] rfl
  have hD9 := hD.sub (ws' := [(a 0, .inr (11, [.ref (a 1), .ref (a 2), .ref (a 3), .ref (a 4), .ref (a 5), .ref (a 6), .ref (a 7), .ref (a 8), .ref (a 9), .ref (a 10)])), (a 5, .inr (8, [.ref (a 36), .ref (a 37), .ref (a 38), .ref (a 39)])), (a 36, .inl (cI, 4, .inl (F 24))), (a 37, .inl (cI, 4, .inl (F 25))), (a 38, .inl (cZ, 4, .inl (F 26))), (a 39, .inl (cJ, 240, .inr (.inl (V13 0)))), (a 171, .inr (12, [.int (u 117), .ref (a 172), .ref (a 173), .ref (a 174), .ref (a 175), .int (u 118), .ref (a 176), .int (u 119), .int (u 120), .int (u 121), .int (u 122), .int (u 123), .int (u 124), .int (u 125), .ref (a 177), .ref (a 178), .ref (a 179), .ref (a 180), .ref (a 181), .ref (a 182), .ref (a 183), .int (u 126), .ref (a 184), .int (u 127), .ref (a 185), .ref (a 186), .int (u 128), .ref (a 187), .ref (a 188), .ref (a 189), .ref (a 190), .int (u 129), .int (u 130), .int (u 131), .int (u 132), .int (u 133), .ref (a 191), .long j, .ref (a 192), .ref (a 193), .ref (a 194), .ref (a 195)])), (a 192, .inl (cI, 4, .inl (F 156))), (a 193, .inl (cI, 4, .inl (F 157))), (a 194, .inl (cJ, 240, .inr (.inl (V27 0)))), (a 195, .inl (cJ, 60, .inr (.inl (V27 1))))]) [0, 1, 2, 3, 4, 5, 6, 7, 8, 9, 10] (by decide +kernel) rfl
  exact hk _ _ ls x9 u F (updR (updG G 0 (V13 0)) 1 2 (fun k => V27 (k - 1 + 0))) j hP9 hD9 hF hZ hS (lv_sub hl [1, 2, 3, 0] rfl) tx9 p_10 p_11 p_64 p_65 p_66 p_67 p_68 p_69 p_70 p_74 p_75
def M_47 : List Bool := [true, false, false, false, false, false, false, false, false, false, false, false, false, false, false, false, false, false, false, false, false, false, false, false, false, false, false, false, false, false, true, true, true, true, true, false, false, false, false, false, false, false, false, false, false, false, false, false, false, false, false, false, false, false, false, false, false, false, false, false, false, false, false, false, false, false, false, false, false, false, false, false, false, false, false, false, false, false, false, false, false, false, false, false, false, false, false, false, false, false, false, false, false, false, false, false, false, false, false, false, false, false, false, false, false, false, false, false, false, false, false, false, false, false, false, false, false, false, false, false, false, false, false, false, false, false, false, false, false, false, false, false, false, false, false, false, false, false, false, false, false, false, false, false, false, false, false, false, false, false, false, false, false, false, false, false, false, false, false, false, false, false, false, false, false, false, false, false, false, false, false, true, false, false, false, false, false, false, false, false, false, false, false, false, false, false, false, false, false, false, false, false, true, true, true, true]
set_option maxHeartbeats 16000000 in
set_option maxRecDepth 100000 in
theorem ldisp_47 {p : Program} {l : Launch} {e : Env} {s : State} {m : MethodId} {below : List Frame} {meth : Method} {c : Code} {b L : Nat} {xs : Nat → Int32} {dC : Nat → ClassId} {dI : Nat → Nat → Nat} {cI cZ cB cJ cM cG : ClassId} {a : Nat → Nat} {u : Nat → Int32} {F : Nat → Nat → Int32} {G : Nat → Nat → Int64} {j : Int64} {H : Heap} {locs : List Loc} {ls : Array Slot} {w3 : Int32} {d : Nat} (C0 : lw_At p s m meth c b L xs) (hL : L ≤ 384) (hN : NT (fun q : Nat => s.heap.size ≤ q) s) (hK : va_K (dC, dI) vwCl [(cI, .int), (cZ, .boolean), (cB, .byte), (cJ, .long), (cM, .object RX2), (cG, .array .int)] s) (hk : LInv p l e s m below meth c b L xs dC dI cI cZ cB cJ cM cG d) (hP : va_P (dC, dI) vwCl (LW cI cZ cB cJ cM cG a u F G j) H) (hD : va_D (fun q : Nat => s.heap.size ≤ q) (LW cI cZ cB cJ cM cG a u F G j)) (hS : va_S (fun q : Nat => s.heap.size ≤ q) s.heap H locs) (hl : lv_has ls 4 [(0, .ref b), (1, .ref (a 0)), (2, .ref (a 171)), (3, .int w3)]) (hi0 : 0 ≤ w3.toInt) (hi6 : w3.toInt + 6 ≤ (L : Int)) (hp : LPr u F w3) (hm : (400 - w3.toInt).toNat < d + 1) : W p l e room_1 s m #[Value.ref b] below meth c H locs 600000 7302250 (lw_Z below #[Value.ref b] s) (F0 m 1667 ls []) := by
  unfold LPr at hp
  obtain ⟨p_0, p_1, p_2, p_3, p_4, p_5, p_6, p_7, p_8, p_9, p_10, p_11, p_12, p_13, p_14, p_15, p_16, p_17, p_18, p_19, p_20, p_21, p_22, p_23, p_24, p_25, p_26, p_27, p_28, p_29, p_30, p_31, p_32, p_33, p_34, p_35, p_36, p_37, p_38, p_39, p_40, p_41, p_42, p_43, p_44, p_45, p_46, p_47, p_48, p_49, p_50, p_51, p_52, p_53, p_54, p_55, p_56, p_57, p_58, p_59, p_60, p_61, p_62, p_63, p_64, p_65, p_66, p_67, p_68, p_69, p_70, p_71, p_72, p_73, p_74, p_75, p_76⟩ := hp
  have k6 : (6 : Int32).toInt = 6 := by decide
  have hPN : va_P (dC, dI) vwCl (CW_47 cI cZ cB cJ cM cG a u F G j) H := P_pk M_47 hP
  have hDN : va_D (fun q : Nat => s.heap.size ≤ q) (CW_47 cI cZ cB cJ cM cG a u F G j) := D_pk M_47 hD
  refine lcase_47 a u F G j C0 hL hN hK hPN hDN (fun _ _ _ => rfl) (Nat.le_refl _) hS hl hi0 hi6 p_10 p_11 p_64 p_65 p_66 p_67 p_68 p_69 p_70 p_74 p_75 (fun H9 locs9 ls9 x9 u9 F9 G9 j9 hP9 hD9 hF9 hZ9 hS9 hl9 e9 q_10 q_11 q_64 q_65 q_66 q_67 q_68 q_69 q_70 q_74 q_75 => ?_)
  have hP7 : va_P (dC, dI) vwCl (LW cI cZ cB cJ cM cG a (mx 21777905329440588547171861899750630490112 u9 u) (mx 274031556999544297163190906134303066185604792320 F9 F) (mx 7 G9 G) j9) H9 := back_pk M_47 hP hD hP9 rfl rfl rfl hF9
  have hD7 : va_D (fun q : Nat => s.heap.size ≤ q) (LW cI cZ cB cJ cM cG a (mx 21777905329440588547171861899750630490112 u9 u) (mx 274031556999544297163190906134303066185604792320 F9 F) (mx 7 G9 G) j9) := D_congr (by rw [LW_fst, LW_fst]) hD
  exact hk H9 locs9 ls9 x9 a (mx 21777905329440588547171861899750630490112 u9 u) (mx 274031556999544297163190906134303066185604792320 F9 F) (mx 7 G9 G) j9 hP7 hD7 hS9 hl9 (by omega) (by omega) ⟨p_0, p_1, p_2, p_3, p_4, p_5, p_6, p_7, p_8, p_9, q_10, q_11, p_12, p_13, p_14, p_15, p_16, p_17, p_18, p_19, p_20, p_21, p_22, p_23, p_24, p_25, p_26, p_27, p_28, p_29, p_30, p_31, p_32, p_33, p_34, p_35, p_36, p_37, p_38, p_39, p_40, p_41, p_42, p_43, p_44, p_45, p_46, p_47, p_48, p_49, p_50, p_51, p_52, p_53, p_54, p_55, p_56, p_57, p_58, p_59, p_60, p_61, p_62, p_63, q_64, q_65, q_66, q_67, q_68, q_69, q_70, WI_mono p_71 (by omega), p_72, p_73, q_74, q_75, IMG_mono p_76 (by omega)⟩ (by omega)
