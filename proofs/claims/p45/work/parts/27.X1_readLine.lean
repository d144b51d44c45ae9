theorem dX1_readLine_0 : decode cX1_readLine 0 = .ok (.aload_n 1, 1) := by decide +kernel
theorem dX1_readLine_1 : decode cX1_readLine 1 = .ok (.invokestatic 39, 3) := by decide +kernel
theorem dX1_readLine_4 : decode cX1_readLine 4 = .ok (.istore_n 3, 1) := by decide +kernel
theorem dX1_readLine_5 : decode cX1_readLine 5 = .ok (.iload_n 3, 1) := by decide +kernel
theorem dX1_readLine_6 : decode cX1_readLine 6 = .ok (.iconst (-1), 1) := by decide +kernel
theorem dX1_readLine_7 : decode cX1_readLine 7 = .ok (.if_icmp .ne 9, 3) := by decide +kernel
theorem dX1_readLine_10 : decode cX1_readLine 10 = .ok (.aload_n 1, 1) := by decide +kernel
theorem dX1_readLine_11 : decode cX1_readLine 11 = .ok (.iconst 1, 1) := by decide +kernel
theorem dX1_readLine_12 : decode cX1_readLine 12 = .ok (.invokevirtual 45, 3) := by decide +kernel
theorem dX1_readLine_15 : decode cX1_readLine 15 = .ok (.return_, 1) := by decide +kernel
theorem dX1_readLine_16 : decode cX1_readLine 16 = .ok (.aload_n 0, 1) := by decide +kernel
theorem dX1_readLine_17 : decode cX1_readLine 17 = .ok (.getfield 49, 3) := by decide +kernel
theorem dX1_readLine_20 : decode cX1_readLine 20 = .ok (.bipush 10, 2) := by decide +kernel
theorem dX1_readLine_22 : decode cX1_readLine 22 = .ok (.if_icmp .lt 9, 3) := by decide +kernel
theorem dX1_readLine_25 : decode cX1_readLine 25 = .ok (.aload_n 1, 1) := by decide +kernel
theorem dX1_readLine_26 : decode cX1_readLine 26 = .ok (.iconst 3, 1) := by decide +kernel
theorem dX1_readLine_27 : decode cX1_readLine 27 = .ok (.invokevirtual 45, 3) := by decide +kernel
theorem dX1_readLine_30 : decode cX1_readLine 30 = .ok (.return_, 1) := by decide +kernel
theorem dX1_readLine_31 : decode cX1_readLine 31 = .ok (.aload_n 1, 1) := by decide +kernel
theorem dX1_readLine_32 : decode cX1_readLine 32 = .ok (.invokevirtual 53, 3) := by decide +kernel
theorem dX1_readLine_35 : decode cX1_readLine 35 = .ok (.aload_n 0, 1) := by decide +kernel
theorem dX1_readLine_36 : decode cX1_readLine 36 = .ok (.getfield 9, 3) := by decide +kernel
theorem dX1_readLine_39 : decode cX1_readLine 39 = .ok (.aload_n 0, 1) := by decide +kernel
theorem dX1_readLine_40 : decode cX1_readLine 40 = .ok (.getfield 49, 3) := by decide +kernel
theorem dX1_readLine_43 : decode cX1_readLine 43 = .ok (.iload_n 3, 1) := by decide +kernel
theorem dX1_readLine_44 : decode cX1_readLine 44 = .ok (.iastore, 1) := by decide +kernel
theorem dX1_readLine_45 : decode cX1_readLine 45 = .ok (.iload_n 3, 1) := by decide +kernel
theorem dX1_readLine_46 : decode cX1_readLine 46 = .ok (.iconst 3, 1) := by decide +kernel
theorem dX1_readLine_47 : decode cX1_readLine 47 = .ok (.if_icmp .ne 11, 3) := by decide +kernel
theorem dX1_readLine_50 : decode cX1_readLine 50 = .ok (.aload_n 0, 1) := by decide +kernel
theorem dX1_readLine_51 : decode cX1_readLine 51 = .ok (.aload_n 1, 1) := by decide +kernel
theorem dX1_readLine_52 : decode cX1_readLine 52 = .ok (.invokevirtual 56, 3) := by decide +kernel
theorem dX1_readLine_55 : decode cX1_readLine 55 = .ok (.goto 10, 3) := by decide +kernel
theorem dX1_readLine_58 : decode cX1_readLine 58 = .ok (.aload_n 0, 1) := by decide +kernel
theorem dX1_readLine_59 : decode cX1_readLine 59 = .ok (.aload_n 1, 1) := by decide +kernel
theorem dX1_readLine_60 : decode cX1_readLine 60 = .ok (.iload_n 3, 1) := by decide +kernel
theorem dX1_readLine_61 : decode cX1_readLine 61 = .ok (.iload_n 2, 1) := by decide +kernel
theorem dX1_readLine_62 : decode cX1_readLine 62 = .ok (.invokevirtual 60, 3) := by decide +kernel
theorem dX1_readLine_65 : decode cX1_readLine 65 = .ok (.aload_n 0, 1) := by decide +kernel
theorem dX1_readLine_66 : decode cX1_readLine 66 = .ok (.dup, 1) := by decide +kernel
theorem dX1_readLine_67 : decode cX1_readLine 67 = .ok (.getfield 49, 3) := by decide +kernel
theorem dX1_readLine_70 : decode cX1_readLine 70 = .ok (.iconst 1, 1) := by decide +kernel
theorem dX1_readLine_71 : decode cX1_readLine 71 = .ok (.iadd, 1) := by decide +kernel
theorem dX1_readLine_72 : decode cX1_readLine 72 = .ok (.putfield 49, 3) := by decide +kernel
theorem dX1_readLine_75 : decode cX1_readLine 75 = .ok (.return_, 1) := by decide +kernel
set_option maxHeartbeats 4000000 in
set_option maxRecDepth 100000 in
theorem s_X1_readLine (l : Launch) (dC : Nat → ClassId) (dI : Nat → Nat → Nat) (cI cZ cB cJ cM cG : ClassId) (a0 a1 a2 a3 a4 a5 a6 a7 a8 a9 a10 a11 : Nat) (i0 i1 i2 i3 i4 i5 i6 i7 : Int32) (xF0 xF1 xF2 xF3 xF4 xF5 xF9 : Nat → Int32) (p1 : Int32) (sz : Nat) (p_0 : (0 : Int) ≤ i0.toInt ∧ i0.toInt ≤ 10) (p_1 : rng xF2 10 0 9) (p_2 : (0 : Int) ≤ i1.toInt ∧ i1.toInt ≤ 1600) (p_3 : (0 : Int) ≤ i5.toInt ∧ i5.toInt ≤ 1600) (p_4 : (0 : Int) ≤ i6.toInt ∧ i6.toInt ≤ 1600) : Met l yX1_readLine (kw yX1_readLine cX1_readLine 4 none) ({ frames := 7, cells := 0, slots := 0, locals := 151 } : Room) (va_Pc [.ref a0, .ref a10, .int p1] (kPreX dC dI [(cI, .int), (cZ, .boolean), (cB, .byte), (cJ, .long), (cM, .object RX2), (cG, .array .int)] [(a0, .inr (1, [.int i0, .ref a1, .ref a2, .ref a3, .ref a4, .ref a5, .ref a6, .ref a7, .ref a8, .ref a9])), (a1, .inl (cI, 10, .inl xF0)), (a2, .inl (cI, 10, .inl xF1)), (a3, .inl (cI, 10, .inl xF2)), (a4, .inl (cI, 10, .inl xF3)), (a5, .inl (cI, 10, .inl xF4)), (a6, .inl (cI, 10, .inl xF5)), (a10, .inr (10, [.ref a11, .int i1, .int i2, .int i3, .int i4, .int i5, .int i6, .int i7])), (a11, .inl (cB, 1600, .inl xF9))] sz NT)) (va_Qv (fun (u9 : (Nat → Int32) × (Nat → Nat → Int32) × (Nat → Nat → Int64)) => ((0 : Int) ≤ (u9.1 0).toInt ∧ (u9.1 0).toInt ≤ 10) ∧ (rng (u9.2.1 2) 10 0 9) ∧ ((0 : Int) ≤ (u9.1 4).toInt ∧ (u9.1 4).toInt ≤ 1600) ∧ ((0 : Int) ≤ (u9.1 5).toInt ∧ (u9.1 5).toInt ≤ 1600) ∧ True) (fun u9 t => va_P (dC, dI) vwCl [(a0, .inr (1, [.int (u9.1 0), .ref a1, .ref a2, .ref a3, .ref a4, .ref a5, .ref a6, .ref a7, .ref a8, .ref a9])), (a1, .inl (cI, 10, .inl (u9.2.1 0))), (a2, .inl (cI, 10, .inl (u9.2.1 1))), (a3, .inl (cI, 10, .inl (u9.2.1 2))), (a4, .inl (cI, 10, .inl (u9.2.1 3))), (a5, .inl (cI, 10, .inl (u9.2.1 4))), (a6, .inl (cI, 10, .inl (u9.2.1 5))), (a10, .inr (10, [.ref a11, .int i1, .int (u9.1 1), .int (u9.1 2), .int (u9.1 3), .int (u9.1 4), .int (u9.1 5), .int (u9.1 6)])), (a11, .inl (cB, 1600, .inl xF9))] t.heap ∧ va_D (va_A [(a0, .inr (1, [.int i0, .ref a1, .ref a2, .ref a3, .ref a4, .ref a5, .ref a6, .ref a7, .ref a8, .ref a9])), (a1, .inl (cI, 10, .inl xF0)), (a2, .inl (cI, 10, .inl xF1)), (a3, .inl (cI, 10, .inl xF2)), (a4, .inl (cI, 10, .inl xF3)), (a5, .inl (cI, 10, .inl xF4)), (a6, .inl (cI, 10, .inl xF5)), (a10, .inr (10, [.ref a11, .int i1, .int i2, .int i3, .int i4, .int i5, .int i6, .int i7])), (a11, .inl (cB, 1600, .inl xF9))] sz) [(a0, .inr (1, [.int (u9.1 0), .ref a1, .ref a2, .ref a3, .ref a4, .ref a5, .ref a6, .ref a7, .ref a8, .ref a9])), (a1, .inl (cI, 10, .inl (u9.2.1 0))), (a2, .inl (cI, 10, .inl (u9.2.1 1))), (a3, .inl (cI, 10, .inl (u9.2.1 2))), (a4, .inl (cI, 10, .inl (u9.2.1 3))), (a5, .inl (cI, 10, .inl (u9.2.1 4))), (a6, .inl (cI, 10, .inl (u9.2.1 5))), (a10, .inr (10, [.ref a11, .int i1, .int (u9.1 1), .int (u9.1 2), .int (u9.1 3), .int (u9.1 4), .int (u9.1 5), .int (u9.1 6)])), (a11, .inl (cB, 1600, .inl xF9))]) (va_A [(a0, .inr (1, [.int i0, .ref a1, .ref a2, .ref a3, .ref a4, .ref a5, .ref a6, .ref a7, .ref a8, .ref a9])), (a1, .inl (cI, 10, .inl xF0)), (a2, .inl (cI, 10, .inl xF1)), (a3, .inl (cI, 10, .inl xF2)), (a4, .inl (cI, 10, .inl xF3)), (a5, .inl (cI, 10, .inl xF4)), (a6, .inl (cI, 10, .inl xF5)), (a10, .inr (10, [.ref a11, .int i1, .int i2, .int i3, .int i4, .int i5, .int i6, .int i7])), (a11, .inl (cB, 1600, .inl xF9))] sz)) 0 0 (va_A [(a0, .inr (1, [.int i0, .ref a1, .ref a2, .ref a3, .ref a4, .ref a5, .ref a6, .ref a7, .ref a8, .ref a9])), (a1, .inl (cI, 10, .inl xF0)), (a2, .inl (cI, 10, .inl xF1)), (a3, .inl (cI, 10, .inl xF2)), (a4, .inl (cI, 10, .inl xF3)), (a5, .inl (cI, 10, .inl xF4)), (a6, .inl (cI, 10, .inl xF5)), (a10, .inr (10, [.ref a11, .int i1, .int i2, .int i3, .int i4, .int i5, .int i6, .int i7])), (a11, .inl (cB, 1600, .inl xF9))] sz) := by
  refine kEnterX (by decide) (Nat.le_of_ble_eq_true rfl) ?_
  intro p e s m below meth c ls hx hb hr hml hown hlocks hin hwd hsz hP hK hD hN hl
  subst hsz
  generalize hAe : va_A [(a0, .inr (1, [.int i0, .ref a1, .ref a2, .ref a3, .ref a4, .ref a5, .ref a6, .ref a7, .ref a8, .ref a9])), (a1, .inl (cI, 10, .inl xF0)), (a2, .inl (cI, 10, .inl xF1)), (a3, .inl (cI, 10, .inl xF2)), (a4, .inl (cI, 10, .inl xF3)), (a5, .inl (cI, 10, .inl xF4)), (a6, .inl (cI, 10, .inl xF5)), (a10, .inr (10, [.ref a11, .int i1, .int i2, .int i3, .int i4, .int i5, .int i6, .int i7])), (a11, .inl (cB, 1600, .inl xF9))] s.heap.size = A at hD hN ⊢
  have hA : ∀ q : Nat, s.heap.size ≤ q → A q := fun q h => by rw [← hAe]; exact Or.inr h
  have hS : va_S A s.heap s.heap [] := va_S.rf
  have hl : lv_has ls 4 [(0, .ref a0), (1, .ref a10), (2, .int p1)] := hl
  obtain ⟨Q, hQ⟩ : ∃ Q, Q = MQ below (va_Qv (fun (u9 : (Nat → Int32) × (Nat → Nat → Int32) × (Nat → Nat → Int64)) => ((0 : Int) ≤ (u9.1 0).toInt ∧ (u9.1 0).toInt ≤ 10) ∧ (rng (u9.2.1 2) 10 0 9) ∧ ((0 : Int) ≤ (u9.1 4).toInt ∧ (u9.1 4).toInt ≤ 1600) ∧ ((0 : Int) ≤ (u9.1 5).toInt ∧ (u9.1 5).toInt ≤ 1600) ∧ True) (fun u9 t => va_P (dC, dI) vwCl [(a0, .inr (1, [.int (u9.1 0), .ref a1, .ref a2, .ref a3, .ref a4, .ref a5, .ref a6, .ref a7, .ref a8, .ref a9])), (a1, .inl (cI, 10, .inl (u9.2.1 0))), (a2, .inl (cI, 10, .inl (u9.2.1 1))), (a3, .inl (cI, 10, .inl (u9.2.1 2))), (a4, .inl (cI, 10, .inl (u9.2.1 3))), (a5, .inl (cI, 10, .inl (u9.2.1 4))), (a6, .inl (cI, 10, .inl (u9.2.1 5))), (a10, .inr (10, [.ref a11, .int i1, .int (u9.1 1), .int (u9.1 2), .int (u9.1 3), .int (u9.1 4), .int (u9.1 5), .int (u9.1 6)])), (a11, .inl (cB, 1600, .inl xF9))] t.heap ∧ va_D A [(a0, .inr (1, [.int (u9.1 0), .ref a1, .ref a2, .ref a3, .ref a4, .ref a5, .ref a6, .ref a7, .ref a8, .ref a9])), (a1, .inl (cI, 10, .inl (u9.2.1 0))), (a2, .inl (cI, 10, .inl (u9.2.1 1))), (a3, .inl (cI, 10, .inl (u9.2.1 2))), (a4, .inl (cI, 10, .inl (u9.2.1 3))), (a5, .inl (cI, 10, .inl (u9.2.1 4))), (a6, .inl (cI, 10, .inl (u9.2.1 5))), (a10, .inr (10, [.ref a11, .int i1, .int (u9.1 1), .int (u9.1 2), .int (u9.1 3), .int (u9.1 4), .int (u9.1 5), .int (u9.1 6)])), (a11, .inl (cB, 1600, .inl xF9))]) A) ([.ref a0, .ref a10, .int p1] : List Value).toArray s 0 0 A := ⟨_, rfl⟩
  rw [← hQ]
  have km1 : ((-1) : Int32).toInt = -1 := by decide
  have k1 : (1 : Int32).toInt = 1 := by decide
  have k3 : (3 : Int32).toInt = 3 := by decide
  have k10 : (10 : Int32).toInt = 10 := by decide
  refine lv_aload_n hx hb dX1_readLine_0 rfl (lv_at hl 1 rfl) ?_
  have hPc := hP.sub (ws' := [(a10, .inr (10, [.ref a11, .int i1, .int i2, .int i3, .int i4, .int i5, .int i6, .int i7])), (a11, .inl (cB, 1600, .inl xF9))]) [7, 8] rfl
  have hDc := hD.sub (ws' := [(a10, .inr (10, [.ref a11, .int i1, .int i2, .int i3, .int i4, .int i5, .int i6, .int i7])), (a11, .inl (cB, 1600, .inl xF9))]) [7, 8] (by decide) rfl
  have hFc := va_free (wc := [(a10, .inr (10, [.ref a11, .int i1, .int i2, .int i3, .int i4, .int i5, .int i6, .int i7])), (a11, .inl (cB, 1600, .inl xF9))]) hD hS hA [7, 8] rfl
  refine va_calli (va_runS (As := [.ref a10]) (rest := []) ⟨hx, hb, hml, hown, hwd⟩ (s_X1_sortHere l dC dI cI cZ cB cJ cM cG a10 a11 i1 i2 i3 i4 i5 i6 i7 xF9 s.heap.size (show (0 : Int) ≤ i1.toInt ∧ i1.toInt ≤ 1600 from ⟨by omega, by omega⟩) (show (0 : Int) ≤ i5.toInt ∧ i5.toInt ≤ 1600 from ⟨by omega, by omega⟩) (show (0 : Int) ≤ i6.toInt ∧ i6.toInt ≤ 1600 from ⟨by omega, by omega⟩)) (cwS 1 hwd (gS kr17_5 kr17_6 kr5_3 kr17_7) rfl rfl rfl (by decide +kernel) ⟨Nat.le_of_ble_eq_true rfl, Nat.le_of_ble_eq_true rfl⟩) (kPreSX hPc hK hDc NT_st hN hS hFc) rfl rfl hl.1 rfl (lv_room (Nat.le_of_ble_eq_true rfl)) dX1_readLine_1 ⟨Nat.le_of_ble_eq_true rfl, Nat.le_of_ble_eq_true rfl⟩) hS (fun q _ h => hFc q h) hFc (fun r1 u2 t H1 locs ht9 hvm hw hB hz1 hk1 hS => ?_)
  obtain ⟨hw3, -⟩ := hw
  have hw3 : (-1 : Int) ≤ r1.toInt ∧ r1.toInt ≤ 3 := hw3
  obtain ⟨hP1, hD1⟩ := hB
  rw [ht9] at hP1
  obtain ⟨hP, hD⟩ := va_join (wr := [(a0, .inr (1, [.int i0, .ref a1, .ref a2, .ref a3, .ref a4, .ref a5, .ref a6, .ref a7, .ref a8, .ref a9])), (a1, .inl (cI, 10, .inl xF0)), (a2, .inl (cI, 10, .inl xF1)), (a3, .inl (cI, 10, .inl xF2)), (a4, .inl (cI, 10, .inl xF3)), (a5, .inl (cI, 10, .inl xF4)), (a6, .inl (cI, 10, .inl xF5))]) (w1 := [(a10, .inr (10, [.ref a11, .int i1, .int i2, .int i3, .int i4, .int i5, .int i6, .int i7])), (a11, .inl (cB, 1600, .inl xF9))]) hP hD [7, 8] [0, 1, 2, 3, 4, 5, 6] rfl rfl (by decide) (by decide) hk1 hFc hP1 hD1
  generalize H1 = H at hP hS ⊢
  have hP : va_P (dC, dI) vwCl [(a0, .inr (1, [.int i0, .ref a1, .ref a2, .ref a3, .ref a4, .ref a5, .ref a6, .ref a7, .ref a8, .ref a9])), (a1, .inl (cI, 10, .inl xF0)), (a2, .inl (cI, 10, .inl xF1)), (a3, .inl (cI, 10, .inl xF2)), (a4, .inl (cI, 10, .inl xF3)), (a5, .inl (cI, 10, .inl xF4)), (a6, .inl (cI, 10, .inl xF5)), (a10, .inr (10, [.ref a11, .int i1, .int i2, .int i3, .int i4, .int i5, .int i6, .int i7])), (a11, .inl (cB, 1600, .inl xF9))] H := hP
  have hD : va_D A [(a0, .inr (1, [.int i0, .ref a1, .ref a2, .ref a3, .ref a4, .ref a5, .ref a6, .ref a7, .ref a8, .ref a9])), (a1, .inl (cI, 10, .inl xF0)), (a2, .inl (cI, 10, .inl xF1)), (a3, .inl (cI, 10, .inl xF2)), (a4, .inl (cI, 10, .inl xF3)), (a5, .inl (cI, 10, .inl xF4)), (a6, .inl (cI, 10, .inl xF5)), (a10, .inr (10, [.ref a11, .int i1, .int i2, .int i3, .int i4, .int i5, .int i6, .int i7])), (a11, .inl (cB, 1600, .inl xF9))] := hD
  refine lv_istore_n (lv' := [(3, .int r1), (0, .ref a0), (1, .ref a10), (2, .int p1)]) hx hb dX1_readLine_4 rfl hl (by decide) rfl (fun ls hl => ?_)
  refine lv_iload_n hx hb dX1_readLine_5 rfl (lv_at hl 0 rfl) ?_
  refine lv_iconst (v := (-1)) hx hb dX1_readLine_6 (by decide) ?_
  refine lv_icmp_ne (tgt := 16) hx hb dX1_readLine_7 (by decide) (fun c4 => ?_) (fun c4 => ?_)
  · rw [ki_eq] at c4
    refine lv_aload_n hx hb dX1_readLine_16 rfl (lv_at hl 1 rfl) ?_
    refine va_get (D := (dC, dI)) (ci := 1) (v := .int i0) (C := RX1) (T := TX1) (N := 10) hx hb hwd inlX1 hown hK hP 0 rfl rfl 0 (by decide) (hwd _ kr17_4) (fun _ h9 => h9) rfl dX1_readLine_17 ?_
    refine lv_bipush (v := 10) hx hb dX1_readLine_20 (by decide) ?_
    refine lv_icmp_lt (tgt := 31) hx hb dX1_readLine_22 (by decide) (fun c5 => ?_) (fun c5 => ?_)
    · rw [ki_lt] at c5
      refine lv_aload_n hx hb dX1_readLine_31 rfl (lv_at hl 2 rfl) ?_
      have hPc := hP.sub (ws' := [(a10, .inr (10, [.ref a11, .int i1, .int i2, .int i3, .int i4, .int i5, .int i6, .int i7])), (a11, .inl (cB, 1600, .inl xF9))]) [7, 8] rfl
      have hDc := hD.sub (ws' := [(a10, .inr (10, [.ref a11, .int i1, .int i2, .int i3, .int i4, .int i5, .int i6, .int i7])), (a11, .inl (cB, 1600, .inl xF9))]) [7, 8] (by decide) rfl
      have hFc := va_free (wc := [(a10, .inr (10, [.ref a11, .int i1, .int i2, .int i3, .int i4, .int i5, .int i6, .int i7])), (a11, .inl (cB, 1600, .inl xF9))]) hD hS hA [7, 8] rfl
      refine va_callv (va_runV (As := []) (rest := []) ⟨hx, hb, hml, hown, hwd⟩ (s_X10_readToken l dC dI cI cZ cB cJ cM cG a10 a11 i1 i2 i3 i4 i5 i6 i7 xF9 H.size (show (0 : Int) ≤ i1.toInt ∧ i1.toInt ≤ 1600 from ⟨by omega, by omega⟩) (show (0 : Int) ≤ i5.toInt ∧ i5.toInt ≤ 1600 from ⟨by omega, by omega⟩) (show (0 : Int) ≤ i6.toInt ∧ i6.toInt ≤ 1600 from ⟨by omega, by omega⟩)) (cwV 0 hwd (gV kr17_10 kr11_5 kr11_6 kr1_15 kr11_7) rfl rfl rfl (by decide +kernel) ⟨Nat.le_of_ble_eq_true rfl, Nat.le_of_ble_eq_true rfl⟩) (kPreV hPc hK hDc (ci := 10) (q0 := 0) rfl rfl) rfl rfl hl.1 rfl (lv_room (Nat.le_of_ble_eq_true rfl)) dX1_readLine_32 ⟨Nat.le_of_ble_eq_true rfl, Nat.le_of_ble_eq_true rfl⟩) hS (fun q _ h => hFc q h) hFc (fun u7 t H1 locs ht9 hvm hw hB hz1 hk1 hS => ?_)
      obtain ⟨u8, U8, V8⟩ := u7
      obtain ⟨hw9, hw10, -⟩ := hw
      have hw9 : (0 : Int) ≤ (u8 1).toInt ∧ (u8 1).toInt ≤ 1600 := hw9
      have hw10 : (0 : Int) ≤ (u8 2).toInt ∧ (u8 2).toInt ≤ 1600 := hw10
      obtain ⟨hP1, hD1⟩ := hB
      rw [ht9] at hP1
      obtain ⟨hP, hD⟩ := va_join (wr := [(a0, .inr (1, [.int i0, .ref a1, .ref a2, .ref a3, .ref a4, .ref a5, .ref a6, .ref a7, .ref a8, .ref a9])), (a1, .inl (cI, 10, .inl xF0)), (a2, .inl (cI, 10, .inl xF1)), (a3, .inl (cI, 10, .inl xF2)), (a4, .inl (cI, 10, .inl xF3)), (a5, .inl (cI, 10, .inl xF4)), (a6, .inl (cI, 10, .inl xF5))]) (w1 := [(a10, .inr (10, [.ref a11, .int i1, .int i2, .int i3, .int (u8 0), .int (u8 1), .int (u8 2), .int (u8 3)])), (a11, .inl (cB, 1600, .inl xF9))]) hP hD [7, 8] [0, 1, 2, 3, 4, 5, 6] rfl rfl (by decide) (by decide) hk1 hFc hP1 hD1
      generalize H1 = H at hP hS ⊢
      have hP : va_P (dC, dI) vwCl [(a0, .inr (1, [.int i0, .ref a1, .ref a2, .ref a3, .ref a4, .ref a5, .ref a6, .ref a7, .ref a8, .ref a9])), (a1, .inl (cI, 10, .inl xF0)), (a2, .inl (cI, 10, .inl xF1)), (a3, .inl (cI, 10, .inl xF2)), (a4, .inl (cI, 10, .inl xF3)), (a5, .inl (cI, 10, .inl xF4)), (a6, .inl (cI, 10, .inl xF5)), (a10, .inr (10, [.ref a11, .int i1, .int i2, .int i3, .int (u8 0), .int (u8 1), .int (u8 2), .int (u8 3)])), (a11, .inl (cB, 1600, .inl xF9))] H := hP
      have hD : va_D A [(a0, .inr (1, [.int i0, .ref a1, .ref a2, .ref a3, .ref a4, .ref a5, .ref a6, .ref a7, .ref a8, .ref a9])), (a1, .inl (cI, 10, .inl xF0)), (a2, .inl (cI, 10, .inl xF1)), (a3, .inl (cI, 10, .inl xF2)), (a4, .inl (cI, 10, .inl xF3)), (a5, .inl (cI, 10, .inl xF4)), (a6, .inl (cI, 10, .inl xF5)), (a10, .inr (10, [.ref a11, .int i1, .int i2, .int i3, .int (u8 0), .int (u8 1), .int (u8 2), .int (u8 3)])), (a11, .inl (cB, 1600, .inl xF9))] := hD
      refine lv_aload_n hx hb dX1_readLine_35 rfl (lv_at hl 1 rfl) ?_
      refine va_get (D := (dC, dI)) (ci := 1) (v := .ref a1) (C := RX1) (T := TX1) (N := 10) hx hb hwd inlX1 hown hK hP 0 rfl rfl 1 (by decide) (hwd _ kr6_3) (fun _ h9 => h9) rfl dX1_readLine_36 ?_
      refine lv_aload_n hx hb dX1_readLine_39 rfl (lv_at hl 1 rfl) ?_
      refine va_get (D := (dC, dI)) (ci := 1) (v := .int i0) (C := RX1) (T := TX1) (N := 10) hx hb hwd inlX1 hown hK hP 0 rfl rfl 0 (by decide) (hwd _ kr17_4) (fun _ h9 => h9) rfl dX1_readLine_40 ?_
      refine lv_iload_n hx hb dX1_readLine_43 rfl (lv_at hl 0 rfl) ?_
      refine va_iast hx hb hK hP hD hS 1 0 rfl rfl (vp_of (by omega) (by omega)) dX1_readLine_44 (fun H locs hP hD hS => ?_)
      obtain ⟨f11, ef11⟩ : ∃ f, f = upd xF0 i0.toNatClampNeg r1 := ⟨_, rfl⟩
      have hP : va_P (dC, dI) vwCl [(a0, .inr (1, [.int i0, .ref a1, .ref a2, .ref a3, .ref a4, .ref a5, .ref a6, .ref a7, .ref a8, .ref a9])), (a1, .inl (cI, 10, .inl f11)), (a2, .inl (cI, 10, .inl xF1)), (a3, .inl (cI, 10, .inl xF2)), (a4, .inl (cI, 10, .inl xF3)), (a5, .inl (cI, 10, .inl xF4)), (a6, .inl (cI, 10, .inl xF5)), (a10, .inr (10, [.ref a11, .int i1, .int i2, .int i3, .int (u8 0), .int (u8 1), .int (u8 2), .int (u8 3)])), (a11, .inl (cB, 1600, .inl xF9))] H := by rw [ef11]; exact hP
      have hD : va_D A [(a0, .inr (1, [.int i0, .ref a1, .ref a2, .ref a3, .ref a4, .ref a5, .ref a6, .ref a7, .ref a8, .ref a9])), (a1, .inl (cI, 10, .inl f11)), (a2, .inl (cI, 10, .inl xF1)), (a3, .inl (cI, 10, .inl xF2)), (a4, .inl (cI, 10, .inl xF3)), (a5, .inl (cI, 10, .inl xF4)), (a6, .inl (cI, 10, .inl xF5)), (a10, .inr (10, [.ref a11, .int i1, .int i2, .int i3, .int (u8 0), .int (u8 1), .int (u8 2), .int (u8 3)])), (a11, .inl (cB, 1600, .inl xF9))] := by rw [ef11]; exact hD
      refine lv_iload_n hx hb dX1_readLine_45 rfl (lv_at hl 0 rfl) ?_
      refine lv_iconst (v := 3) hx hb dX1_readLine_46 (by decide) ?_
      have jp1 : ∀ (H : Heap) (locs : List Loc) (ls : Array Slot) (g0_1 : Nat → Int32) (g1_1 : Nat → Int32) (g2_1 : Nat → Int32) (g3_1 : Nat → Int32) (g4_1 : Nat → Int32) (v5_1 : Int32) (v6_1 : Int32) (v7_1 : Int32) (v8_1 : Int32) (v9_1 : Int32) (v10_1 : Int32), (rng g1_1 10 0 9) → ((0 : Int) ≤ v8_1.toInt ∧ v8_1.toInt ≤ 1600) → ((0 : Int) ≤ v9_1.toInt ∧ v9_1.toInt ≤ 1600) → va_P (dC, dI) vwCl [(a0, .inr (1, [.int i0, .ref a1, .ref a2, .ref a3, .ref a4, .ref a5, .ref a6, .ref a7, .ref a8, .ref a9])), (a1, .inl (cI, 10, .inl f11)), (a2, .inl (cI, 10, .inl g0_1)), (a3, .inl (cI, 10, .inl g1_1)), (a4, .inl (cI, 10, .inl g2_1)), (a5, .inl (cI, 10, .inl g3_1)), (a6, .inl (cI, 10, .inl g4_1)), (a10, .inr (10, [.ref a11, .int i1, .int v5_1, .int v6_1, .int v7_1, .int v8_1, .int v9_1, .int v10_1])), (a11, .inl (cB, 1600, .inl xF9))] H → va_D A [(a0, .inr (1, [.int i0, .ref a1, .ref a2, .ref a3, .ref a4, .ref a5, .ref a6, .ref a7, .ref a8, .ref a9])), (a1, .inl (cI, 10, .inl f11)), (a2, .inl (cI, 10, .inl g0_1)), (a3, .inl (cI, 10, .inl g1_1)), (a4, .inl (cI, 10, .inl g2_1)), (a5, .inl (cI, 10, .inl g3_1)), (a6, .inl (cI, 10, .inl g4_1)), (a10, .inr (10, [.ref a11, .int i1, .int v5_1, .int v6_1, .int v7_1, .int v8_1, .int v9_1, .int v10_1])), (a11, .inl (cB, 1600, .inl xF9))] → va_S A s.heap H locs → lv_has ls 4 [(0, .ref a0), (1, .ref a10), (2, .int p1), (3, .int r1)] → W p l e ({ frames := 7, cells := 0, slots := 0, locals := 151 } : Room) s m ([.ref a0, .ref a10, .int p1] : List Value).toArray below meth c H locs 0 0 Q (F0 m 65 ls []) := by
        intro H locs ls g0_1 g1_1 g2_1 g3_1 g4_1 v5_1 v6_1 v7_1 v8_1 v9_1 v10_1 hr_g1_1 hr_v8_1 hr_v9_1 hP hD hS hl
        refine lv_aload_n hx hb dX1_readLine_65 rfl (lv_at hl 0 rfl) ?_
        refine lv_dup hx hb dX1_readLine_66 rfl ?_
        refine va_get (D := (dC, dI)) (ci := 1) (v := .int i0) (C := RX1) (T := TX1) (N := 10) hx hb hwd inlX1 hown hK hP 0 rfl rfl 0 (by decide) (hwd _ kr17_4) (fun _ h9 => h9) rfl dX1_readLine_67 ?_
        refine lv_iconst (v := 1) hx hb dX1_readLine_70 (by decide) ?_
        refine lv_iadd hx hb dX1_readLine_71 ?_
        refine lv_topi (fun x25 ex25 => ?_)
        have tx25 := ia_add (a := i0) (b := (1 : Int32)) (by omega) (by omega)
        rw [← ex25] at tx25
        refine va_put (D := (dC, dI)) (ci := 1) (v := .int x25) (ty := .int) (C := RX1) (T := TX1) (N := 10) hx hb hwd inlX1 tyX1 tyX1_ok nmX1 hown hK hP hD hS 0 rfl rfl 0 (by decide) (hwd _ kr17_4) (fun _ h9 => h9) rfl (by decide +kernel) rfl rfl (Nat.le_of_ble_eq_true rfl) dX1_readLine_72 (fun H locs hP hD hS => ?_)
        have hP : va_P (dC, dI) vwCl [(a0, .inr (1, [.int x25, .ref a1, .ref a2, .ref a3, .ref a4, .ref a5, .ref a6, .ref a7, .ref a8, .ref a9])), (a1, .inl (cI, 10, .inl f11)), (a2, .inl (cI, 10, .inl g0_1)), (a3, .inl (cI, 10, .inl g1_1)), (a4, .inl (cI, 10, .inl g2_1)), (a5, .inl (cI, 10, .inl g3_1)), (a6, .inl (cI, 10, .inl g4_1)), (a10, .inr (10, [.ref a11, .int i1, .int v5_1, .int v6_1, .int v7_1, .int v8_1, .int v9_1, .int v10_1])), (a11, .inl (cB, 1600, .inl xF9))] H := hP
        have hD : va_D A [(a0, .inr (1, [.int x25, .ref a1, .ref a2, .ref a3, .ref a4, .ref a5, .ref a6, .ref a7, .ref a8, .ref a9])), (a1, .inl (cI, 10, .inl f11)), (a2, .inl (cI, 10, .inl g0_1)), (a3, .inl (cI, 10, .inl g1_1)), (a4, .inl (cI, 10, .inl g2_1)), (a5, .inl (cI, 10, .inl g3_1)), (a6, .inl (cI, 10, .inl g4_1)), (a10, .inr (10, [.ref a11, .int i1, .int v5_1, .int v6_1, .int v7_1, .int v8_1, .int v9_1, .int v10_1])), (a11, .inl (cB, 1600, .inl xF9))] := hD
        have hP9 := hP.sub (ws' := [(a0, .inr (1, [.int x25, .ref a1, .ref a2, .ref a3, .ref a4, .ref a5, .ref a6, .ref a7, .ref a8, .ref a9])), (a1, .inl (cI, 10, .inl f11)), (a2, .inl (cI, 10, .inl g0_1)), (a3, .inl (cI, 10, .inl g1_1)), (a4, .inl (cI, 10, .inl g2_1)), (a5, .inl (cI, 10, .inl g3_1)), (a6, .inl (cI, 10, .inl g4_1)), (a10, .inr (10, [.ref a11, .int i1, .int v5_1, .int v6_1, .int v7_1, .int v8_1, .int v9_1, .int v10_1])), (a11, .inl (cB, 1600, .inl xF9))]) [0, 1, 2, 3, 4, 5, 6, 7, 8] rfl
        have hD9 := hD.sub (ws' := [(a0, .inr (1, [.int x25, .ref a1, .ref a2, .ref a3, .ref a4, .ref a5, .ref a6, .ref a7, .ref a8, .ref a9])), (a1, .inl (cI, 10, .inl f11)), (a2, .inl (cI, 10, .inl g0_1)), (a3, .inl (cI, 10, .inl g1_1)), (a4, .inl (cI, 10, .inl g2_1)), (a5, .inl (cI, 10, .inl g3_1)), (a6, .inl (cI, 10, .inl g4_1)), (a10, .inr (10, [.ref a11, .int i1, .int v5_1, .int v6_1, .int v7_1, .int v8_1, .int v9_1, .int v10_1])), (a11, .inl (cB, 1600, .inl xF9))]) [0, 1, 2, 3, 4, 5, 6, 7, 8] (by decide) rfl
        rw [hQ]
        exact W.vret hx hb hr (fun t ht hW => ⟨⟨(pickG 0 [x25, v5_1, v6_1, v7_1, v8_1, v9_1, v10_1], pickG (fun _ => 0) [f11, g0_1, g1_1, g2_1, g3_1, g4_1], pickG (fun _ => 0) []), rfl, ⟨(show (0 : Int) ≤ x25.toInt ∧ x25.toInt ≤ 10 from ⟨by omega, by omega⟩), (show rng g1_1 10 0 9 from hr_g1_1), (show (0 : Int) ≤ v8_1.toInt ∧ v8_1.toInt ≤ 1600 from ⟨by omega, by omega⟩), (show (0 : Int) ≤ v9_1.toInt ∧ v9_1.toInt ≤ 1600 from ⟨by omega, by omega⟩), trivial⟩, (by rw [ht]; exact hP9), hD9⟩, hS.F ht⟩) hS.2.2 dX1_readLine_75
      refine lv_icmp_ne (tgt := 58) hx hb dX1_readLine_47 (by decide) (fun c26 => ?_) (fun c26 => ?_)
      · rw [ki_eq] at c26
        refine lv_aload_n hx hb dX1_readLine_58 rfl (lv_at hl 1 rfl) ?_
        refine lv_aload_n hx hb dX1_readLine_59 rfl (lv_at hl 2 rfl) ?_
        refine lv_iload_n hx hb dX1_readLine_60 rfl (lv_at hl 0 rfl) ?_
        refine lv_iload_n hx hb dX1_readLine_61 rfl (lv_at hl 3 rfl) ?_
        have hPc := hP.sub (ws' := [(a0, .inr (1, [.int i0, .ref a1, .ref a2, .ref a3, .ref a4, .ref a5, .ref a6, .ref a7, .ref a8, .ref a9])), (a2, .inl (cI, 10, .inl xF1)), (a3, .inl (cI, 10, .inl xF2)), (a4, .inl (cI, 10, .inl xF3)), (a5, .inl (cI, 10, .inl xF4)), (a6, .inl (cI, 10, .inl xF5)), (a10, .inr (10, [.ref a11, .int i1, .int i2, .int i3, .int (u8 0), .int (u8 1), .int (u8 2), .int (u8 3)])), (a11, .inl (cB, 1600, .inl xF9))]) [0, 2, 3, 4, 5, 6, 7, 8] rfl
        have hDc := hD.sub (ws' := [(a0, .inr (1, [.int i0, .ref a1, .ref a2, .ref a3, .ref a4, .ref a5, .ref a6, .ref a7, .ref a8, .ref a9])), (a2, .inl (cI, 10, .inl xF1)), (a3, .inl (cI, 10, .inl xF2)), (a4, .inl (cI, 10, .inl xF3)), (a5, .inl (cI, 10, .inl xF4)), (a6, .inl (cI, 10, .inl xF5)), (a10, .inr (10, [.ref a11, .int i1, .int i2, .int i3, .int (u8 0), .int (u8 1), .int (u8 2), .int (u8 3)])), (a11, .inl (cB, 1600, .inl xF9))]) [0, 2, 3, 4, 5, 6, 7, 8] (by decide) rfl
        have hFc := va_free (wc := [(a0, .inr (1, [.int i0, .ref a1, .ref a2, .ref a3, .ref a4, .ref a5, .ref a6, .ref a7, .ref a8, .ref a9])), (a2, .inl (cI, 10, .inl xF1)), (a3, .inl (cI, 10, .inl xF2)), (a4, .inl (cI, 10, .inl xF3)), (a5, .inl (cI, 10, .inl xF4)), (a6, .inl (cI, 10, .inl xF5)), (a10, .inr (10, [.ref a11, .int i1, .int i2, .int i3, .int (u8 0), .int (u8 1), .int (u8 2), .int (u8 3)])), (a11, .inl (cB, 1600, .inl xF9))]) hD hS hA [0, 2, 3, 4, 5, 6, 7, 8] rfl
        refine va_callv (va_runV (As := [.ref a10, .int r1, .int p1]) (rest := []) ⟨hx, hb, hml, hown, hwd⟩ (s_X1_readSprung l dC dI cI cZ cB cJ cM cG a0 a1 a2 a3 a4 a5 a6 a7 a8 a9 a10 a11 i0 i1 i2 i3 (u8 0) (u8 1) (u8 2) (u8 3) xF1 xF2 xF3 xF4 xF5 xF9 r1 p1 H.size (show rng xF2 10 0 9 from p_1) (show (0 : Int) ≤ i1.toInt ∧ i1.toInt ≤ 1600 from ⟨by omega, by omega⟩) (show (0 : Int) ≤ (u8 1).toInt ∧ (u8 1).toInt ≤ 1600 from ⟨by omega, by omega⟩) (show (0 : Int) ≤ (u8 2).toInt ∧ (u8 2).toInt ≤ 1600 from ⟨by omega, by omega⟩) (show (0 : Int) ≤ i0.toInt ∧ i0.toInt ≤ 9 from ⟨by omega, by omega⟩)) (cwV 3 hwd (gV kr17_17 kr17_18 kr17_19 kr5_3 kr17_20) rfl rfl rfl (by decide +kernel) ⟨Nat.le_of_ble_eq_true rfl, Nat.le_of_ble_eq_true rfl⟩) (kPreVX hPc hK hDc NT_st hN hS hFc (ci := 1) (q0 := 0) rfl rfl) rfl rfl hl.1 rfl (lv_room (Nat.le_of_ble_eq_true rfl)) dX1_readLine_62 ⟨Nat.le_of_ble_eq_true rfl, Nat.le_of_ble_eq_true rfl⟩) hS (fun q _ h => hFc q h) hFc (fun u28 t H1 locs ht9 hvm hw hB hz1 hk1 hS => ?_)
        obtain ⟨u29, U29, V29⟩ := u28
        obtain ⟨hw30, hw31, hw32, -⟩ := hw
        have hw30 : rng (U29 1) 10 0 9 := hw30
        have hw31 : (0 : Int) ≤ (u29 3).toInt ∧ (u29 3).toInt ≤ 1600 := hw31
        have hw32 : (0 : Int) ≤ (u29 4).toInt ∧ (u29 4).toInt ≤ 1600 := hw32
        obtain ⟨hP1, hD1⟩ := hB
        rw [ht9] at hP1
        obtain ⟨hP, hD⟩ := va_join (wr := [(a1, .inl (cI, 10, .inl f11))]) (w1 := [(a0, .inr (1, [.int i0, .ref a1, .ref a2, .ref a3, .ref a4, .ref a5, .ref a6, .ref a7, .ref a8, .ref a9])), (a2, .inl (cI, 10, .inl (U29 0))), (a3, .inl (cI, 10, .inl (U29 1))), (a4, .inl (cI, 10, .inl (U29 2))), (a5, .inl (cI, 10, .inl (U29 3))), (a6, .inl (cI, 10, .inl (U29 4))), (a10, .inr (10, [.ref a11, .int i1, .int (u29 0), .int (u29 1), .int (u29 2), .int (u29 3), .int (u29 4), .int (u29 5)])), (a11, .inl (cB, 1600, .inl xF9))]) hP hD [0, 2, 3, 4, 5, 6, 7, 8] [1] rfl rfl (by decide) (by decide) hk1 hFc hP1 hD1
        generalize H1 = H at hP hS ⊢
        have hP : va_P (dC, dI) vwCl [(a1, .inl (cI, 10, .inl f11)), (a0, .inr (1, [.int i0, .ref a1, .ref a2, .ref a3, .ref a4, .ref a5, .ref a6, .ref a7, .ref a8, .ref a9])), (a2, .inl (cI, 10, .inl (U29 0))), (a3, .inl (cI, 10, .inl (U29 1))), (a4, .inl (cI, 10, .inl (U29 2))), (a5, .inl (cI, 10, .inl (U29 3))), (a6, .inl (cI, 10, .inl (U29 4))), (a10, .inr (10, [.ref a11, .int i1, .int (u29 0), .int (u29 1), .int (u29 2), .int (u29 3), .int (u29 4), .int (u29 5)])), (a11, .inl (cB, 1600, .inl xF9))] H := hP
        have hD : va_D A [(a1, .inl (cI, 10, .inl f11)), (a0, .inr (1, [.int i0, .ref a1, .ref a2, .ref a3, .ref a4, .ref a5, .ref a6, .ref a7, .ref a8, .ref a9])), (a2, .inl (cI, 10, .inl (U29 0))), (a3, .inl (cI, 10, .inl (U29 1))), (a4, .inl (cI, 10, .inl (U29 2))), (a5, .inl (cI, 10, .inl (U29 3))), (a6, .inl (cI, 10, .inl (U29 4))), (a10, .inr (10, [.ref a11, .int i1, .int (u29 0), .int (u29 1), .int (u29 2), .int (u29 3), .int (u29 4), .int (u29 5)])), (a11, .inl (cB, 1600, .inl xF9))] := hD
        exact jp1 _ _ ls (U29 0) (U29 1) (U29 2) (U29 3) (U29 4) (u29 0) (u29 1) (u29 2) (u29 3) (u29 4) (u29 5) (show rng (U29 1) 10 0 9 from hw30) (show (0 : Int) ≤ (u29 3).toInt ∧ (u29 3).toInt ≤ 1600 from ⟨by omega, by omega⟩) (show (0 : Int) ≤ (u29 4).toInt ∧ (u29 4).toInt ≤ 1600 from ⟨by omega, by omega⟩) (hP.sub (ws' := [(a0, .inr (1, [.int i0, .ref a1, .ref a2, .ref a3, .ref a4, .ref a5, .ref a6, .ref a7, .ref a8, .ref a9])), (a1, .inl (cI, 10, .inl f11)), (a2, .inl (cI, 10, .inl (U29 0))), (a3, .inl (cI, 10, .inl (U29 1))), (a4, .inl (cI, 10, .inl (U29 2))), (a5, .inl (cI, 10, .inl (U29 3))), (a6, .inl (cI, 10, .inl (U29 4))), (a10, .inr (10, [.ref a11, .int i1, .int (u29 0), .int (u29 1), .int (u29 2), .int (u29 3), .int (u29 4), .int (u29 5)])), (a11, .inl (cB, 1600, .inl xF9))]) [1, 0, 2, 3, 4, 5, 6, 7, 8] rfl) (hD.sub (ws' := [(a0, .inr (1, [.int i0, .ref a1, .ref a2, .ref a3, .ref a4, .ref a5, .ref a6, .ref a7, .ref a8, .ref a9])), (a1, .inl (cI, 10, .inl f11)), (a2, .inl (cI, 10, .inl (U29 0))), (a3, .inl (cI, 10, .inl (U29 1))), (a4, .inl (cI, 10, .inl (U29 2))), (a5, .inl (cI, 10, .inl (U29 3))), (a6, .inl (cI, 10, .inl (U29 4))), (a10, .inr (10, [.ref a11, .int i1, .int (u29 0), .int (u29 1), .int (u29 2), .int (u29 3), .int (u29 4), .int (u29 5)])), (a11, .inl (cB, 1600, .inl xF9))]) [1, 0, 2, 3, 4, 5, 6, 7, 8] (by decide) rfl) hS (lv_sub hl [1, 2, 3, 0] rfl)
      · rw [ki_eq] at c26
        refine lv_aload_n hx hb dX1_readLine_50 rfl (lv_at hl 1 rfl) ?_
        refine lv_aload_n hx hb dX1_readLine_51 rfl (lv_at hl 2 rfl) ?_
        have hPc := hP.sub (ws' := [(a0, .inr (1, [.int i0, .ref a1, .ref a2, .ref a3, .ref a4, .ref a5, .ref a6, .ref a7, .ref a8, .ref a9])), (a2, .inl (cI, 10, .inl xF1)), (a3, .inl (cI, 10, .inl xF2)), (a4, .inl (cI, 10, .inl xF3)), (a5, .inl (cI, 10, .inl xF4)), (a6, .inl (cI, 10, .inl xF5)), (a10, .inr (10, [.ref a11, .int i1, .int i2, .int i3, .int (u8 0), .int (u8 1), .int (u8 2), .int (u8 3)])), (a11, .inl (cB, 1600, .inl xF9))]) [0, 2, 3, 4, 5, 6, 7, 8] rfl
        have hDc := hD.sub (ws' := [(a0, .inr (1, [.int i0, .ref a1, .ref a2, .ref a3, .ref a4, .ref a5, .ref a6, .ref a7, .ref a8, .ref a9])), (a2, .inl (cI, 10, .inl xF1)), (a3, .inl (cI, 10, .inl xF2)), (a4, .inl (cI, 10, .inl xF3)), (a5, .inl (cI, 10, .inl xF4)), (a6, .inl (cI, 10, .inl xF5)), (a10, .inr (10, [.ref a11, .int i1, .int i2, .int i3, .int (u8 0), .int (u8 1), .int (u8 2), .int (u8 3)])), (a11, .inl (cB, 1600, .inl xF9))]) [0, 2, 3, 4, 5, 6, 7, 8] (by decide) rfl
        have hFc := va_free (wc := [(a0, .inr (1, [.int i0, .ref a1, .ref a2, .ref a3, .ref a4, .ref a5, .ref a6, .ref a7, .ref a8, .ref a9])), (a2, .inl (cI, 10, .inl xF1)), (a3, .inl (cI, 10, .inl xF2)), (a4, .inl (cI, 10, .inl xF3)), (a5, .inl (cI, 10, .inl xF4)), (a6, .inl (cI, 10, .inl xF5)), (a10, .inr (10, [.ref a11, .int i1, .int i2, .int i3, .int (u8 0), .int (u8 1), .int (u8 2), .int (u8 3)])), (a11, .inl (cB, 1600, .inl xF9))]) hD hS hA [0, 2, 3, 4, 5, 6, 7, 8] rfl
        refine va_callv (va_runV (As := [.ref a10]) (rest := []) ⟨hx, hb, hml, hown, hwd⟩ (s_X1_readLever l dC dI cI cZ cB cJ cM cG a0 a1 a2 a3 a4 a5 a6 a7 a8 a9 a10 a11 i0 i1 i2 i3 (u8 0) (u8 1) (u8 2) (u8 3) xF1 xF2 xF3 xF4 xF5 xF9 H.size (show rng xF2 10 0 9 from p_1) (show (0 : Int) ≤ i1.toInt ∧ i1.toInt ≤ 1600 from ⟨by omega, by omega⟩) (show (0 : Int) ≤ (u8 1).toInt ∧ (u8 1).toInt ≤ 1600 from ⟨by omega, by omega⟩) (show (0 : Int) ≤ (u8 2).toInt ∧ (u8 2).toInt ≤ 1600 from ⟨by omega, by omega⟩) (show (0 : Int) ≤ i0.toInt ∧ i0.toInt ≤ 9 from ⟨by omega, by omega⟩)) (cwV 1 hwd (gV kr17_11 kr17_12 kr17_13 kr5_3 kr17_14) rfl rfl rfl (by decide +kernel) ⟨Nat.le_of_ble_eq_true rfl, Nat.le_of_ble_eq_true rfl⟩) (kPreVX hPc hK hDc NT_st hN hS hFc (ci := 1) (q0 := 0) rfl rfl) rfl rfl hl.1 rfl (lv_room (Nat.le_of_ble_eq_true rfl)) dX1_readLine_52 ⟨Nat.le_of_ble_eq_true rfl, Nat.le_of_ble_eq_true rfl⟩) hS (fun q _ h => hFc q h) hFc (fun u34 t H1 locs ht9 hvm hw hB hz1 hk1 hS => ?_)
        obtain ⟨u35, U35, V35⟩ := u34
        obtain ⟨hw36, hw37, hw38, -⟩ := hw
        have hw36 : rng (U35 1) 10 0 9 := hw36
        have hw37 : (0 : Int) ≤ (u35 3).toInt ∧ (u35 3).toInt ≤ 1600 := hw37
        have hw38 : (0 : Int) ≤ (u35 4).toInt ∧ (u35 4).toInt ≤ 1600 := hw38
        obtain ⟨hP1, hD1⟩ := hB
        rw [ht9] at hP1
        obtain ⟨hP, hD⟩ := va_join (wr := [(a1, .inl (cI, 10, .inl f11))]) (w1 := [(a0, .inr (1, [.int i0, .ref a1, .ref a2, .ref a3, .ref a4, .ref a5, .ref a6, .ref a7, .ref a8, .ref a9])), (a2, .inl (cI, 10, .inl (U35 0))), (a3, .inl (cI, 10, .inl (U35 1))), (a4, .inl (cI, 10, .inl (U35 2))), (a5, .inl (cI, 10, .inl (U35 3))), (a6, .inl (cI, 10, .inl (U35 4))), (a10, .inr (10, [.ref a11, .int i1, .int (u35 0), .int (u35 1), .int (u35 2), .int (u35 3), .int (u35 4), .int (u35 5)])), (a11, .inl (cB, 1600, .inl xF9))]) hP hD [0, 2, 3, 4, 5, 6, 7, 8] [1] rfl rfl (by decide) (by decide) hk1 hFc hP1 hD1
        generalize H1 = H at hP hS ⊢
        have hP : va_P (dC, dI) vwCl [(a1, .inl (cI, 10, .inl f11)), (a0, .inr (1, [.int i0, .ref a1, .ref a2, .ref a3, .ref a4, .ref a5, .ref a6, .ref a7, .ref a8, .ref a9])), (a2, .inl (cI, 10, .inl (U35 0))), (a3, .inl (cI, 10, .inl (U35 1))), (a4, .inl (cI, 10, .inl (U35 2))), (a5, .inl (cI, 10, .inl (U35 3))), (a6, .inl (cI, 10, .inl (U35 4))), (a10, .inr (10, [.ref a11, .int i1, .int (u35 0), .int (u35 1), .int (u35 2), .int (u35 3), .int (u35 4), .int (u35 5)])), (a11, .inl (cB, 1600, .inl xF9))] H := hP
        have hD : va_D A [(a1, .inl (cI, 10, .inl f11)), (a0, .inr (1, [.int i0, .ref a1, .ref a2, .ref a3, .ref a4, .ref a5, .ref a6, .ref a7, .ref a8, .ref a9])), (a2, .inl (cI, 10, .inl (U35 0))), (a3, .inl (cI, 10, .inl (U35 1))), (a4, .inl (cI, 10, .inl (U35 2))), (a5, .inl (cI, 10, .inl (U35 3))), (a6, .inl (cI, 10, .inl (U35 4))), (a10, .inr (10, [.ref a11, .int i1, .int (u35 0), .int (u35 1), .int (u35 2), .int (u35 3), .int (u35 4), .int (u35 5)])), (a11, .inl (cB, 1600, .inl xF9))] := hD
        refine lv_goto (tgt := 65) hx hb dX1_readLine_55 (by decide) ?_
        exact jp1 _ _ ls (U35 0) (U35 1) (U35 2) (U35 3) (U35 4) (u35 0) (u35 1) (u35 2) (u35 3) (u35 4) (u35 5) (show rng (U35 1) 10 0 9 from hw36) (show (0 : Int) ≤ (u35 3).toInt ∧ (u35 3).toInt ≤ 1600 from ⟨by omega, by omega⟩) (show (0 : Int) ≤ (u35 4).toInt ∧ (u35 4).toInt ≤ 1600 from ⟨by omega, by omega⟩) (hP.sub (ws' := [(a0, .inr (1, [.int i0, .ref a1, .ref a2, .ref a3, .ref a4, .ref a5, .ref a6, .ref a7, .ref a8, .ref a9])), (a1, .inl (cI, 10, .inl f11)), (a2, .inl (cI, 10, .inl (U35 0))), (a3, .inl (cI, 10, .inl (U35 1))), (a4, .inl (cI, 10, .inl (U35 2))), (a5, .inl (cI, 10, .inl (U35 3))), (a6, .inl (cI, 10, .inl (U35 4))), (a10, .inr (10, [.ref a11, .int i1, .int (u35 0), .int (u35 1), .int (u35 2), .int (u35 3), .int (u35 4), .int (u35 5)])), (a11, .inl (cB, 1600, .inl xF9))]) [1, 0, 2, 3, 4, 5, 6, 7, 8] rfl) (hD.sub (ws' := [(a0, .inr (1, [.int i0, .ref a1, .ref a2, .ref a3, .ref a4, .ref a5, .ref a6, .ref a7, .ref a8, .ref a9])), (a1, .inl (cI, 10, .inl f11)), (a2, .inl (cI, 10, .inl (U35 0))), (a3, .inl (cI, 10, .inl (U35 1))), (a4, .inl (cI, 10, .inl (U35 2))), (a5, .inl (cI, 10, .inl (U35 3))), (a6, .inl (cI, 10, .inl (U35 4))), (a10, .inr (10, [.ref a11, .int i1, .int (u35 0), .int (u35 1), .int (u35 2), .int (u35 3), .int (u35 4), .int (u35 5)])), (a11, .inl (cB, 1600, .inl xF9))]) [1, 0, 2, 3, 4, 5, 6, 7, 8] (by decide) rfl) hS (lv_sub hl [1, 2, 3, 0] rfl)
    · rw [ki_lt] at c5
      refine lv_aload_n hx hb dX1_readLine_25 rfl (lv_at hl 2 rfl) ?_
      refine lv_iconst (v := 3) hx hb dX1_readLine_26 (by decide) ?_
      have hPc := hP.sub (ws' := [(a10, .inr (10, [.ref a11, .int i1, .int i2, .int i3, .int i4, .int i5, .int i6, .int i7]))]) [7] rfl
      have hDc := hD.sub (ws' := [(a10, .inr (10, [.ref a11, .int i1, .int i2, .int i3, .int i4, .int i5, .int i6, .int i7]))]) [7] (by decide) rfl
      have hFc := va_free (wc := [(a10, .inr (10, [.ref a11, .int i1, .int i2, .int i3, .int i4, .int i5, .int i6, .int i7]))]) hD hS hA [7] rfl
      refine va_callv (va_runV (As := [.int 3]) (rest := []) ⟨hx, hb, hml, hown, hwd⟩ (s_X10_blame l dC dI cI cZ cB cJ cM cG a10 a11 i1 i2 i3 i4 i5 i6 i7 3 H.size (show (0 : Int) ≤ i1.toInt ∧ i1.toInt ≤ 1600 from ⟨by omega, by omega⟩) (show (0 : Int) ≤ i5.toInt ∧ i5.toInt ≤ 1600 from ⟨by omega, by omega⟩) (show (0 : Int) ≤ i6.toInt ∧ i6.toInt ≤ 1600 from ⟨by omega, by omega⟩)) (cwV 1 hwd (gV kr17_9 kr15_12 kr15_13 kr1_15 kr15_14) rfl rfl rfl (by decide +kernel) ⟨Nat.le_of_ble_eq_true rfl, Nat.le_of_ble_eq_true rfl⟩) (kPreV hPc hK hDc (ci := 10) (q0 := 0) rfl rfl) rfl rfl hl.1 rfl (lv_room (Nat.le_of_ble_eq_true rfl)) dX1_readLine_27 ⟨Nat.le_of_ble_eq_true rfl, Nat.le_of_ble_eq_true rfl⟩) hS (fun q _ h => hFc q h) hFc (fun u40 t H1 locs ht9 hvm hw hB hz1 hk1 hS => ?_)
      obtain ⟨u41, U41, V41⟩ := u40
      obtain ⟨hP1, hD1⟩ := hB
      rw [ht9] at hP1
      obtain ⟨hP, hD⟩ := va_join (wr := [(a0, .inr (1, [.int i0, .ref a1, .ref a2, .ref a3, .ref a4, .ref a5, .ref a6, .ref a7, .ref a8, .ref a9])), (a1, .inl (cI, 10, .inl xF0)), (a2, .inl (cI, 10, .inl xF1)), (a3, .inl (cI, 10, .inl xF2)), (a4, .inl (cI, 10, .inl xF3)), (a5, .inl (cI, 10, .inl xF4)), (a6, .inl (cI, 10, .inl xF5)), (a11, .inl (cB, 1600, .inl xF9))]) (w1 := [(a10, .inr (10, [.ref a11, .int i1, .int (u41 0), .int (u41 1), .int i4, .int i5, .int i6, .int i7]))]) hP hD [7] [0, 1, 2, 3, 4, 5, 6, 8] rfl rfl (by decide) (by decide) hk1 hFc hP1 hD1
      generalize H1 = H at hP hS ⊢
      have hP : va_P (dC, dI) vwCl [(a0, .inr (1, [.int i0, .ref a1, .ref a2, .ref a3, .ref a4, .ref a5, .ref a6, .ref a7, .ref a8, .ref a9])), (a1, .inl (cI, 10, .inl xF0)), (a2, .inl (cI, 10, .inl xF1)), (a3, .inl (cI, 10, .inl xF2)), (a4, .inl (cI, 10, .inl xF3)), (a5, .inl (cI, 10, .inl xF4)), (a6, .inl (cI, 10, .inl xF5)), (a11, .inl (cB, 1600, .inl xF9)), (a10, .inr (10, [.ref a11, .int i1, .int (u41 0), .int (u41 1), .int i4, .int i5, .int i6, .int i7]))] H := hP
      have hD : va_D A [(a0, .inr (1, [.int i0, .ref a1, .ref a2, .ref a3, .ref a4, .ref a5, .ref a6, .ref a7, .ref a8, .ref a9])), (a1, .inl (cI, 10, .inl xF0)), (a2, .inl (cI, 10, .inl xF1)), (a3, .inl (cI, 10, .inl xF2)), (a4, .inl (cI, 10, .inl xF3)), (a5, .inl (cI, 10, .inl xF4)), (a6, .inl (cI, 10, .inl xF5)), (a11, .inl (cB, 1600, .inl xF9)), (a10, .inr (10, [.ref a11, .int i1, .int (u41 0), .int (u41 1), .int i4, .int i5, .int i6, .int i7]))] := hD
      have hP9 := hP.sub (ws' := [(a0, .inr (1, [.int i0, .ref a1, .ref a2, .ref a3, .ref a4, .ref a5, .ref a6, .ref a7, .ref a8, .ref a9])), (a1, .inl (cI, 10, .inl xF0)), (a2, .inl (cI, 10, .inl xF1)), (a3, .inl (cI, 10, .inl xF2)), (a4, .inl (cI, 10, .inl xF3)), (a5, .inl (cI, 10, .inl xF4)), (a6, .inl (cI, 10, .inl xF5)), (a10, .inr (10, [.ref a11, .int i1, .int (u41 0), .int (u41 1), .int i4, .int i5, .int i6, .int i7])), (a11, .inl (cB, 1600, .inl xF9))]) [0, 1, 2, 3, 4, 5, 6, 8, 7] rfl
      have hD9 := hD.sub (ws' := [(a0, .inr (1, [.int i0, .ref a1, .ref a2, .ref a3, .ref a4, .ref a5, .ref a6, .ref a7, .ref a8, .ref a9])), (a1, .inl (cI, 10, .inl xF0)), (a2, .inl (cI, 10, .inl xF1)), (a3, .inl (cI, 10, .inl xF2)), (a4, .inl (cI, 10, .inl xF3)), (a5, .inl (cI, 10, .inl xF4)), (a6, .inl (cI, 10, .inl xF5)), (a10, .inr (10, [.ref a11, .int i1, .int (u41 0), .int (u41 1), .int i4, .int i5, .int i6, .int i7])), (a11, .inl (cB, 1600, .inl xF9))]) [0, 1, 2, 3, 4, 5, 6, 8, 7] (by decide) rfl
      rw [hQ]
      exact W.vret hx hb hr (fun t ht hW => ⟨⟨(pickG 0 [i0, (u41 0), (u41 1), i4, i5, i6, i7], pickG (fun _ => 0) [xF0, xF1, xF2, xF3, xF4, xF5], pickG (fun _ => 0) []), rfl, ⟨(show (0 : Int) ≤ i0.toInt ∧ i0.toInt ≤ 10 from ⟨by omega, by omega⟩), (show rng xF2 10 0 9 from p_1), (show (0 : Int) ≤ i5.toInt ∧ i5.toInt ≤ 1600 from ⟨by omega, by omega⟩), (show (0 : Int) ≤ i6.toInt ∧ i6.toInt ≤ 1600 from ⟨by omega, by omega⟩), trivial⟩, (by rw [ht]; exact hP9), hD9⟩, hS.F ht⟩) hS.2.2 dX1_readLine_30
  · rw [ki_eq] at c4
    refine lv_aload_n hx hb dX1_readLine_10 rfl (lv_at hl 2 rfl) ?_
    refine lv_iconst (v := 1) hx hb dX1_readLine_11 (by decide) ?_
    have hPc := hP.sub (ws' := [(a10, .inr (10, [.ref a11, .int i1, .int i2, .int i3, .int i4, .int i5, .int i6, .int i7]))]) [7] rfl
    have hDc := hD.sub (ws' := [(a10, .inr (10, [.ref a11, .int i1, .int i2, .int i3, .int i4, .int i5, .int i6, .int i7]))]) [7] (by decide) rfl
    have hFc := va_free (wc := [(a10, .inr (10, [.ref a11, .int i1, .int i2, .int i3, .int i4, .int i5, .int i6, .int i7]))]) hD hS hA [7] rfl
    refine va_callv (va_runV (As := [.int 1]) (rest := []) ⟨hx, hb, hml, hown, hwd⟩ (s_X10_blame l dC dI cI cZ cB cJ cM cG a10 a11 i1 i2 i3 i4 i5 i6 i7 1 H.size (show (0 : Int) ≤ i1.toInt ∧ i1.toInt ≤ 1600 from ⟨by omega, by omega⟩) (show (0 : Int) ≤ i5.toInt ∧ i5.toInt ≤ 1600 from ⟨by omega, by omega⟩) (show (0 : Int) ≤ i6.toInt ∧ i6.toInt ≤ 1600 from ⟨by omega, by omega⟩)) (cwV 1 hwd (gV kr17_9 kr15_12 kr15_13 kr1_15 kr15_14) rfl rfl rfl (by decide +kernel) ⟨Nat.le_of_ble_eq_true rfl, Nat.le_of_ble_eq_true rfl⟩) (kPreV hPc hK hDc (ci := 10) (q0 := 0) rfl rfl) rfl rfl hl.1 rfl (lv_room (Nat.le_of_ble_eq_true rfl)) dX1_readLine_12 ⟨Nat.le_of_ble_eq_true rfl, Nat.le_of_ble_eq_true rfl⟩) hS (fun q _ h => hFc q h) hFc (fun u43 t H1 locs ht9 hvm hw hB hz1 hk1 hS => ?_)
    obtain ⟨u44, U44, V44⟩ := u43
    obtain ⟨hP1, hD1⟩ := hB
    rw [ht9] at hP1
    obtain ⟨hP, hD⟩ := va_join (wr := [(a0, .inr (1, [.int i0, .ref a1, .ref a2, .ref a3, .ref a4, .ref a5, .ref a6, .ref a7, .ref a8, .ref a9])), (a1, .inl (cI, 10, .inl xF0)), (a2, .inl (cI, 10, .inl xF1)), (a3, .inl (cI, 10, .inl xF2)), (a4, .inl (cI, 10, .inl xF3)), (a5, .inl (cI, 10, .inl xF4)), (a6, .inl (cI, 10, .inl xF5)), (a11, .inl (cB, 1600, .inl xF9))]) (w1 := [(a10, .inr (10, [.ref a11, .int i1, .int (u44 0), .int (u44 1), .int i4, .int i5, .int i6, .int i7]))]) hP hD [7] [0, 1, 2, 3, 4, 5, 6, 8] rfl rfl (by decide) (by decide) hk1 hFc hP1 hD1
    generalize H1 = H at hP hS ⊢
    have hP : va_P (dC, dI) vwCl [(a0, .inr (1, [.int i0, .ref a1, .ref a2, .ref a3, .ref a4, .ref a5, .ref a6, .ref a7, .ref a8, .ref a9])), (a1, .inl (cI, 10, .inl xF0)), (a2, .inl (cI, 10, .inl xF1)), (a3, .inl (cI, 10, .inl xF2)), (a4, .inl (cI, 10, .inl xF3)), (a5, .inl (cI, 10, .inl xF4)), (a6, .inl (cI, 10, .inl xF5)), (a11, .inl (cB, 1600, .inl xF9)), (a10, .inr (10, [.ref a11, .int i1, .int (u44 0), .int (u44 1), .int i4, .int i5, .int i6, .int i7]))] H := hP
    have hD : va_D A [(a0, .inr (1, [.int i0, .ref a1, .ref a2, .ref a3, .ref a4, .ref a5, .ref a6, .ref a7, .ref a8, .ref a9])), (a1, .inl (cI, 10, .inl xF0)), (a2, .inl (cI, 10, .inl xF1)), (a3, .inl (cI, 10, .inl xF2)), (a4, .inl (cI, 10, .inl xF3)), (a5, .inl (cI, 10, .inl xF4)), (a6, .inl (cI, 10, .inl xF5)), (a11, .inl (cB, 1600, .inl xF9)), (a10, .inr (10, [.ref a11, .int i1, .int (u44 0), .int (u44 1), .int i4, .int i5, .int i6, .int i7]))] := hD
    have hP9 := hP.sub (ws' := [(a0, .inr (1, [.int i0, .ref a1, .ref a2, .ref a3, .ref a4, .ref a5, .ref a6, .ref a7, .ref a8, .ref a9])), (a1, .inl (cI, 10, .inl xF0)), (a2, .inl (cI, 10, .inl xF1)), (a3, .inl (cI, 10, .inl xF2)), (a4, .inl (cI, 10, .inl xF3)), (a5, .inl (cI, 10, .inl xF4)), (a6, .inl (cI, 10, .inl xF5)), (a10, .inr (10, [.ref a11, .int i1, .int (u44 0), .int (u44 1), .int i4, .int i5, .int i6, .int i7])), (a11, .inl (cB, 1600, .inl xF9))]) [0, 1, 2, 3, 4, 5, 6, 8, 7] rfl
    have hD9 := hD.sub (ws' := [(a0, .inr (1, [.int i0, .ref a1, .ref a2, .ref a3, .ref a4, .ref a5, .ref a6, .ref a7, .ref a8, .ref a9])), (a1, .inl (cI, 10, .inl xF0)), (a2, .inl (cI, 10, .inl xF1)), (a3, .inl (cI, 10, .inl xF2)), (a4, .inl (cI, 10, .inl xF3)), (a5, .inl (cI, 10, .inl xF4)), (a6, .inl (cI, 10, .inl xF5)), (a10, .inr (10, [.ref a11, .int i1, .int (u44 0), .int (u44 1), .int i4, .int i5, .int i6, .int i7])), (a11, .inl (cB, 1600, .inl xF9))]) [0, 1, 2, 3, 4, 5, 6, 8, 7] (by decide) rfl
    rw [hQ]
    exact W.vret hx hb hr (fun t ht hW => ⟨⟨(pickG 0 [i0, (u44 0), (u44 1), i4, i5, i6, i7], pickG (fun _ => 0) [xF0, xF1, xF2, xF3, xF4, xF5], pickG (fun _ => 0) []), rfl, ⟨(show (0 : Int) ≤ i0.toInt ∧ i0.toInt ≤ 10 from ⟨by omega, by omega⟩), (show rng xF2 10 0 9 from p_1), (show (0 : Int) ≤ i5.toInt ∧ i5.toInt ≤ 1600 from ⟨by omega, by omega⟩), (show (0 : Int) ≤ i6.toInt ∧ i6.toInt ≤ 1600 from ⟨by omega, by omega⟩), trivial⟩, (by rw [ht]; exact hP9), hD9⟩, hS.F ht⟩) hS.2.2 dX1_readLine_15
theorem dX2_readDrumLine_0 : decode cX2_readDrumLine 0 = .ok (.aload_n 1, 1) := by decide +kernel
theorem dX2_readDrumLine_1 : decode cX2_readDrumLine 1 = .ok (.ldc 151, 2) := by decide +kernel
theorem dX2_readDrumLine_3 : decode cX2_readDrumLine 3 = .ok (.invokevirtual 153, 3) := by decide +kernel
theorem dX2_readDrumLine_6 : decode cX2_readDrumLine 6 = .ok (.aload_n 1, 1) := by decide +kernel
theorem dX2_readDrumLine_7 : decode cX2_readDrumLine 7 = .ok (.ldc 157, 2) := by decide +kernel
theorem dX2_readDrumLine_9 : decode cX2_readDrumLine 9 = .ok (.invokevirtual 153, 3) := by decide +kernel
theorem dX2_readDrumLine_12 : decode cX2_readDrumLine 12 = .ok (.aload_n 0, 1) := by decide +kernel
theorem dX2_readDrumLine_13 : decode cX2_readDrumLine 13 = .ok (.aload_n 1, 1) := by decide +kernel
theorem dX2_readDrumLine_14 : decode cX2_readDrumLine 14 = .ok (.iconst 4, 1) := by decide +kernel
theorem dX2_readDrumLine_15 : decode cX2_readDrumLine 15 = .ok (.bipush 60, 2) := by decide +kernel
theorem dX2_readDrumLine_17 : decode cX2_readDrumLine 17 = .ok (.invokevirtual 158, 3) := by decide +kernel
theorem dX2_readDrumLine_20 : decode cX2_readDrumLine 20 = .ok (.putfield 43, 3) := by decide +kernel
theorem dX2_readDrumLine_23 : decode cX2_readDrumLine 23 = .ok (.aload_n 1, 1) := by decide +kernel
theorem dX2_readDrumLine_24 : decode cX2_readDrumLine 24 = .ok (.ldc 161, 2) := by decide +kernel
theorem dX2_readDrumLine_26 : decode cX2_readDrumLine 26 = .ok (.invokevirtual 153, 3) := by decide +kernel
theorem dX2_readDrumLine_29 : decode cX2_readDrumLine 29 = .ok (.aload_n 0, 1) := by decide +kernel
theorem dX2_readDrumLine_30 : decode cX2_readDrumLine 30 = .ok (.aload_n 1, 1) := by decide +kernel
theorem dX2_readDrumLine_31 : decode cX2_readDrumLine 31 = .ok (.iconst 1, 1) := by decide +kernel
theorem dX2_readDrumLine_32 : decode cX2_readDrumLine 32 = .ok (.bipush 60, 2) := by decide +kernel
theorem dX2_readDrumLine_34 : decode cX2_readDrumLine 34 = .ok (.invokevirtual 158, 3) := by decide +kernel
theorem dX2_readDrumLine_37 : decode cX2_readDrumLine 37 = .ok (.putfield 71, 3) := by decide +kernel
theorem dX2_readDrumLine_40 : decode cX2_readDrumLine 40 = .ok (.aload_n 1, 1) := by decide +kernel
theorem dX2_readDrumLine_41 : decode cX2_readDrumLine 41 = .ok (.ldc 162, 2) := by decide +kernel
theorem dX2_readDrumLine_43 : decode cX2_readDrumLine 43 = .ok (.invokevirtual 153, 3) := by decide +kernel
theorem dX2_readDrumLine_46 : decode cX2_readDrumLine 46 = .ok (.aload_n 0, 1) := by decide +kernel
theorem dX2_readDrumLine_47 : decode cX2_readDrumLine 47 = .ok (.aload_n 1, 1) := by decide +kernel
theorem dX2_readDrumLine_48 : decode cX2_readDrumLine 48 = .ok (.iconst 0, 1) := by decide +kernel
theorem dX2_readDrumLine_49 : decode cX2_readDrumLine 49 = .ok (.bipush 9, 2) := by decide +kernel
theorem dX2_readDrumLine_51 : decode cX2_readDrumLine 51 = .ok (.invokevirtual 158, 3) := by decide +kernel
theorem dX2_readDrumLine_54 : decode cX2_readDrumLine 54 = .ok (.putfield 74, 3) := by decide +kernel
theorem dX2_readDrumLine_57 : decode cX2_readDrumLine 57 = .ok (.return_, 1) := by decide +kernel
set_option maxHeartbeats 4000000 in
set_option maxRecDepth 100000 in
theorem s_X2_readDrumLine (l : Launch) (dC : Nat → ClassId) (dI : Nat → Nat → Nat) (cI cZ cB cJ cM cG : ClassId) (a0 a1 a2 a3 a4 a5 a26 a27 : Nat) (i0 i1 i2 i3 i4 i5 i6 i7 i8 i20 i21 i22 i23 i24 i25 i26 : Int32) (xF21 : Nat → Int32) (sz : Nat) (p_0 : (0 : Int) ≤ i0.toInt ∧ i0.toInt ≤ 60) (p_1 : (0 : Int) ≤ i3.toInt ∧ i3.toInt ≤ 6) (p_2 : (0 : Int) ≤ i5.toInt ∧ i5.toInt ≤ 1) (p_3 : (0 : Int) ≤ i8.toInt ∧ i8.toInt ≤ 1) (p_4 : (0 : Int) ≤ i20.toInt ∧ i20.toInt ≤ 1600) (p_5 : (0 : Int) ≤ i24.toInt ∧ i24.toInt ≤ 1600) (p_6 : (0 : Int) ≤ i25.toInt ∧ i25.toInt ≤ 1600) : Met l yX2_readDrumLine (kw yX2_readDrumLine cX2_readDrumLine 2 none) ({ frames := 6, cells := 0, slots := 0, locals := 128 } : Room) (va_Pc [.ref a0, .ref a26] (kPreX dC dI [(cI, .int), (cZ, .boolean), (cB, .byte), (cJ, .long), (cM, .object RX2), (cG, .array .int)] [(a0, .inr (2, [.int i0, .int i1, .int i2, .int i3, .int i4, .int i5, .int i6, .int i7, .int i8, .ref a1, .ref a2, .ref a3, .ref a4, .ref a5])), (a26, .inr (10, [.ref a27, .int i20, .int i21, .int i22, .int i23, .int i24, .int i25, .int i26])), (a27, .inl (cB, 1600, .inl xF21))] sz NT)) (va_Qv (fun (u9 : (Nat → Int32) × (Nat → Nat → Int32) × (Nat → Nat → Int64)) => ((0 : Int) ≤ (u9.1 0).toInt ∧ (u9.1 0).toInt ≤ 60) ∧ ((0 : Int) ≤ (u9.1 6).toInt ∧ (u9.1 6).toInt ≤ 1600) ∧ ((0 : Int) ≤ (u9.1 7).toInt ∧ (u9.1 7).toInt ≤ 1600) ∧ True) (fun u9 t => va_P (dC, dI) vwCl [(a0, .inr (2, [.int (u9.1 0), .int (u9.1 1), .int (u9.1 2), .int i3, .int i4, .int i5, .int i6, .int i7, .int i8, .ref a1, .ref a2, .ref a3, .ref a4, .ref a5])), (a26, .inr (10, [.ref a27, .int i20, .int (u9.1 3), .int (u9.1 4), .int (u9.1 5), .int (u9.1 6), .int (u9.1 7), .int (u9.1 8)])), (a27, .inl (cB, 1600, .inl xF21))] t.heap ∧ va_D (va_A [(a0, .inr (2, [.int i0, .int i1, .int i2, .int i3, .int i4, .int i5, .int i6, .int i7, .int i8, .ref a1, .ref a2, .ref a3, .ref a4, .ref a5])), (a26, .inr (10, [.ref a27, .int i20, .int i21, .int i22, .int i23, .int i24, .int i25, .int i26])), (a27, .inl (cB, 1600, .inl xF21))] sz) [(a0, .inr (2, [.int (u9.1 0), .int (u9.1 1), .int (u9.1 2), .int i3, .int i4, .int i5, .int i6, .int i7, .int i8, .ref a1, .ref a2, .ref a3, .ref a4, .ref a5])), (a26, .inr (10, [.ref a27, .int i20, .int (u9.1 3), .int (u9.1 4), .int (u9.1 5), .int (u9.1 6), .int (u9.1 7), .int (u9.1 8)])), (a27, .inl (cB, 1600, .inl xF21))]) (va_A [(a0, .inr (2, [.int i0, .int i1, .int i2, .int i3, .int i4, .int i5, .int i6, .int i7, .int i8, .ref a1, .ref a2, .ref a3, .ref a4, .ref a5])), (a26, .inr (10, [.ref a27, .int i20, .int i21, .int i22, .int i23, .int i24, .int i25, .int i26])), (a27, .inl (cB, 1600, .inl xF21))] sz)) 0 0 (va_A [(a0, .inr (2, [.int i0, .int i1, .int i2, .int i3, .int i4, .int i5, .int i6, .int i7, .int i8, .ref a1, .ref a2, .ref a3, .ref a4, .ref a5])), (a26, .inr (10, [.ref a27, .int i20, .int i21, .int i22, .int i23, .int i24, .int i25, .int i26])), (a27, .inl (cB, 1600, .inl xF21))] sz) := by
  refine kEnterX (by decide) (Nat.le_of_ble_eq_true rfl) ?_
  intro p e s m below meth c ls hx hb hr hml hown hlocks hin hwd hsz hP hK hD hN hl
  subst hsz
  generalize hAe : va_A [(a0, .inr (2, [.int i0, .int i1, .int i2, .int i3, .int i4, .int i5, .int i6, .int i7, .int i8, .ref a1, .ref a2, .ref a3, .ref a4, .ref a5])), (a26, .inr (10, [.ref a27, .int i20, .int i21, .int i22, .int i23, .int i24, .int i25, .int i26])), (a27, .inl (cB, 1600, .inl xF21))] s.heap.size = A at hD hN ⊢
  have hA : ∀ q : Nat, s.heap.size ≤ q → A q := fun q h => by rw [← hAe]; exact Or.inr h
  have hS : va_S A s.heap s.heap [] := va_S.rf
  have hl : lv_has ls 2 [(0, .ref a0), (1, .ref a26)] := hl
  obtain ⟨Q, hQ⟩ : ∃ Q, Q = MQ below (va_Qv (fun (u9 : (Nat → Int32) × (Nat → Nat → Int32) × (Nat → Nat → Int64)) => ((0 : Int) ≤ (u9.1 0).toInt ∧ (u9.1 0).toInt ≤ 60) ∧ ((0 : Int) ≤ (u9.1 6).toInt ∧ (u9.1 6).toInt ≤ 1600) ∧ ((0 : Int) ≤ (u9.1 7).toInt ∧ (u9.1 7).toInt ≤ 1600) ∧ True) (fun u9 t => va_P (dC, dI) vwCl [(a0, .inr (2, [.int (u9.1 0), .int (u9.1 1), .int (u9.1 2), .int i3, .int i4, .int i5, .int i6, .int i7, .int i8, .ref a1, .ref a2, .ref a3, .ref a4, .ref a5])), (a26, .inr (10, [.ref a27, .int i20, .int (u9.1 3), .int (u9.1 4), .int (u9.1 5), .int (u9.1 6), .int (u9.1 7), .int (u9.1 8)])), (a27, .inl (cB, 1600, .inl xF21))] t.heap ∧ va_D A [(a0, .inr (2, [.int (u9.1 0), .int (u9.1 1), .int (u9.1 2), .int i3, .int i4, .int i5, .int i6, .int i7, .int i8, .ref a1, .ref a2, .ref a3, .ref a4, .ref a5])), (a26, .inr (10, [.ref a27, .int i20, .int (u9.1 3), .int (u9.1 4), .int (u9.1 5), .int (u9.1 6), .int (u9.1 7), .int (u9.1 8)])), (a27, .inl (cB, 1600, .inl xF21))]) A) ([.ref a0, .ref a26] : List Value).toArray s 0 0 A := ⟨_, rfl⟩
  rw [← hQ]
  have k0 : (0 : Int32).toInt = 0 := by decide
  have k1 : (1 : Int32).toInt = 1 := by decide
  have k4 : (4 : Int32).toInt = 4 := by decide
  have k9 : (9 : Int32).toInt = 9 := by decide
  have k60 : (60 : Int32).toInt = 60 := by decide
  obtain ⟨sa151, sav151, sn151, sf151, hsn151, hR151, hks151⟩ := hN.2 _ rf_RX2_151
  have hN151 : NS sa151 sav151 sn151 sf151 A s := ⟨hN.1, hsn151.1, hks151⟩
  obtain ⟨sa157, sav157, sn157, sf157, hsn157, hR157, hks157⟩ := hN.2 _ rf_RX2_157
  have hN157 : NS sa157 sav157 sn157 sf157 A s := ⟨hN.1, hsn157.1, hks157⟩
  obtain ⟨sa161, sav161, sn161, sf161, hsn161, hR161, hks161⟩ := hN.2 _ rf_RX2_161
  have hN161 : NS sa161 sav161 sn161 sf161 A s := ⟨hN.1, hsn161.1, hks161⟩
  obtain ⟨sa162, sav162, sn162, sf162, hsn162, hR162, hks162⟩ := hN.2 _ rf_RX2_162
  have hN162 : NS sa162 sav162 sn162 sf162 A s := ⟨hN.1, hsn162.1, hks162⟩
  refine lv_aload_n hx hb dX2_readDrumLine_0 rfl (lv_at hl 1 rfl) ?_
  refine va_ldcS hx hb hown hR151 dX2_readDrumLine_1 ?_
  have hPc := hP.sub (ws' := [(a26, .inr (10, [.ref a27, .int i20, .int i21, .int i22, .int i23, .int i24, .int i25, .int i26])), (a27, .inl (cB, 1600, .inl xF21))]) [1, 2] rfl
  have hDc := hD.sub (ws' := [(a26, .inr (10, [.ref a27, .int i20, .int i21, .int i22, .int i23, .int i24, .int i25, .int i26])), (a27, .inl (cB, 1600, .inl xF21))]) [1, 2] (by decide) rfl
  have hFc := va_free (wc := [(a26, .inr (10, [.ref a27, .int i20, .int i21, .int i22, .int i23, .int i24, .int i25, .int i26])), (a27, .inl (cB, 1600, .inl xF21))]) hD hS hA [1, 2] rfl
  refine va_callv (va_runV (As := [.ref sa151]) (rest := []) ⟨hx, hb, hml, hown, hwd⟩ (s_X10_takeWord l dC dI cI cZ cB cJ cM cG a26 a27 i20 i21 i22 i23 i24 i25 i26 xF21 sa151 sav151 sn151 sf151 s.heap.size (show (0 : Int) ≤ i20.toInt ∧ i20.toInt ≤ 1600 from ⟨by omega, by omega⟩) (show (0 : Int) ≤ i24.toInt ∧ i24.toInt ≤ 1600 from ⟨by omega, by omega⟩) (show (0 : Int) ≤ i25.toInt ∧ i25.toInt ≤ 1600 from ⟨by omega, by omega⟩)) (cwV 1 hwd (gV kr13_2 kr13_3 kr13_4 kr1_15 kr13_5) rfl rfl rfl (by decide +kernel) ⟨Nat.le_of_ble_eq_true rfl, Nat.le_of_ble_eq_true rfl⟩) (kPreVX hPc hK hDc (NS_st _ _ _ _) hN151 hS hFc (ci := 10) (q0 := 0) rfl rfl) rfl rfl hl.1 rfl (lv_room (Nat.le_of_ble_eq_true rfl)) dX2_readDrumLine_3 ⟨Nat.le_of_ble_eq_true rfl, Nat.le_of_ble_eq_true rfl⟩) hS (fun q _ h => hFc q h) hFc (fun u2 t H1 locs ht9 hvm hw hB hz1 hk1 hS => ?_)
  obtain ⟨u3, U3, V3⟩ := u2
  obtain ⟨hw4, hw5, -⟩ := hw
  have hw4 : (0 : Int) ≤ (u3 3).toInt ∧ (u3 3).toInt ≤ 1600 := hw4
  have hw5 : (0 : Int) ≤ (u3 4).toInt ∧ (u3 4).toInt ≤ 1600 := hw5
  obtain ⟨hP1, hD1⟩ := hB
  rw [ht9] at hP1
  obtain ⟨hP, hD⟩ := va_join (wr := [(a0, .inr (2, [.int i0, .int i1, .int i2, .int i3, .int i4, .int i5, .int i6, .int i7, .int i8, .ref a1, .ref a2, .ref a3, .ref a4, .ref a5]))]) (w1 := [(a26, .inr (10, [.ref a27, .int i20, .int (u3 0), .int (u3 1), .int (u3 2), .int (u3 3), .int (u3 4), .int (u3 5)])), (a27, .inl (cB, 1600, .inl xF21))]) hP hD [1, 2] [0] rfl rfl (by decide) (by decide) hk1 hFc hP1 hD1
  generalize H1 = H at hP hS ⊢
  have hP : va_P (dC, dI) vwCl [(a0, .inr (2, [.int i0, .int i1, .int i2, .int i3, .int i4, .int i5, .int i6, .int i7, .int i8, .ref a1, .ref a2, .ref a3, .ref a4, .ref a5])), (a26, .inr (10, [.ref a27, .int i20, .int (u3 0), .int (u3 1), .int (u3 2), .int (u3 3), .int (u3 4), .int (u3 5)])), (a27, .inl (cB, 1600, .inl xF21))] H := hP
  have hD : va_D A [(a0, .inr (2, [.int i0, .int i1, .int i2, .int i3, .int i4, .int i5, .int i6, .int i7, .int i8, .ref a1, .ref a2, .ref a3, .ref a4, .ref a5])), (a26, .inr (10, [.ref a27, .int i20, .int (u3 0), .int (u3 1), .int (u3 2), .int (u3 3), .int (u3 4), .int (u3 5)])), (a27, .inl (cB, 1600, .inl xF21))] := hD
  refine lv_aload_n hx hb dX2_readDrumLine_6 rfl (lv_at hl 1 rfl) ?_
  refine va_ldcS hx hb hown hR157 dX2_readDrumLine_7 ?_
  have hPc := hP.sub (ws' := [(a26, .inr (10, [.ref a27, .int i20, .int (u3 0), .int (u3 1), .int (u3 2), .int (u3 3), .int (u3 4), .int (u3 5)])), (a27, .inl (cB, 1600, .inl xF21))]) [1, 2] rfl
  have hDc := hD.sub (ws' := [(a26, .inr (10, [.ref a27, .int i20, .int (u3 0), .int (u3 1), .int (u3 2), .int (u3 3), .int (u3 4), .int (u3 5)])), (a27, .inl (cB, 1600, .inl xF21))]) [1, 2] (by decide) rfl
  have hFc := va_free (wc := [(a26, .inr (10, [.ref a27, .int i20, .int (u3 0), .int (u3 1), .int (u3 2), .int (u3 3), .int (u3 4), .int (u3 5)])), (a27, .inl (cB, 1600, .inl xF21))]) hD hS hA [1, 2] rfl
  refine va_callv (va_runV (As := [.ref sa157]) (rest := []) ⟨hx, hb, hml, hown, hwd⟩ (s_X10_takeWord l dC dI cI cZ cB cJ cM cG a26 a27 i20 (u3 0) (u3 1) (u3 2) (u3 3) (u3 4) (u3 5) xF21 sa157 sav157 sn157 sf157 H.size (show (0 : Int) ≤ i20.toInt ∧ i20.toInt ≤ 1600 from ⟨by omega, by omega⟩) (show (0 : Int) ≤ (u3 3).toInt ∧ (u3 3).toInt ≤ 1600 from ⟨by omega, by omega⟩) (show (0 : Int) ≤ (u3 4).toInt ∧ (u3 4).toInt ≤ 1600 from ⟨by omega, by omega⟩)) (cwV 1 hwd (gV kr13_2 kr13_3 kr13_4 kr1_15 kr13_5) rfl rfl rfl (by decide +kernel) ⟨Nat.le_of_ble_eq_true rfl, Nat.le_of_ble_eq_true rfl⟩) (kPreVX hPc hK hDc (NS_st _ _ _ _) hN157 hS hFc (ci := 10) (q0 := 0) rfl rfl) rfl rfl hl.1 rfl (lv_room (Nat.le_of_ble_eq_true rfl)) dX2_readDrumLine_9 ⟨Nat.le_of_ble_eq_true rfl, Nat.le_of_ble_eq_true rfl⟩) hS (fun q _ h => hFc q h) hFc (fun u7 t H1 locs ht9 hvm hw hB hz1 hk1 hS => ?_)
  obtain ⟨u8, U8, V8⟩ := u7
  obtain ⟨hw9, hw10, -⟩ := hw
  have hw9 : (0 : Int) ≤ (u8 3).toInt ∧ (u8 3).toInt ≤ 1600 := hw9
  have hw10 : (0 : Int) ≤ (u8 4).toInt ∧ (u8 4).toInt ≤ 1600 := hw10
  obtain ⟨hP1, hD1⟩ := hB
  rw [ht9] at hP1
  obtain ⟨hP, hD⟩ := va_join (wr := [(a0, .inr (2, [.int i0, .int i1, .int i2, .int i3, .int i4, .int i5, .int i6, .int i7, .int i8, .ref a1, .ref a2, .ref a3, .ref a4, .ref a5]))]) (w1 := [(a26, .inr (10, [.ref a27, .int i20, .int (u8 0), .int (u8 1), .int (u8 2), .int (u8 3), .int (u8 4), .int (u8 5)])), (a27, .inl (cB, 1600, .inl xF21))]) hP hD [1, 2] [0] rfl rfl (by decide) (by decide) hk1 hFc hP1 hD1
  generalize H1 = H at hP hS ⊢
  have hP : va_P (dC, dI) vwCl [(a0, .inr (2, [.int i0, .int i1, .int i2, .int i3, .int i4, .int i5, .int i6, .int i7, .int i8, .ref a1, .ref a2, .ref a3, .ref a4, .ref a5])), (a26, .inr (10, [.ref a27, .int i20, .int (u8 0), .int (u8 1), .int (u8 2), .int (u8 3), .int (u8 4), .int (u8 5)])), (a27, .inl (cB, 1600, .inl xF21))] H := hP
  have hD : va_D A [(a0, .inr (2, [.int i0, .int i1, .int i2, .int i3, .int i4, .int i5, .int i6, .int i7, .int i8, .ref a1, .ref a2, .ref a3, .ref a4, .ref a5])), (a26, .inr (10, [.ref a27, .int i20, .int (u8 0), .int (u8 1), .int (u8 2), .int (u8 3), .int (u8 4), .int (u8 5)])), (a27, .inl (cB, 1600, .inl xF21))] := hD
  refine lv_aload_n hx hb dX2_readDrumLine_12 rfl (lv_at hl 0 rfl) ?_
  refine lv_aload_n hx hb dX2_readDrumLine_13 rfl (lv_at hl 1 rfl) ?_
  refine lv_iconst (v := 4) hx hb dX2_readDrumLine_14 (by decide) ?_
  refine lv_bipush (v := 60) hx hb dX2_readDrumLine_15 (by decide) ?_
  have hPc := hP.sub (ws' := [(a26, .inr (10, [.ref a27, .int i20, .int (u8 0), .int (u8 1), .int (u8 2), .int (u8 3), .int (u8 4), .int (u8 5)])), (a27, .inl (cB, 1600, .inl xF21))]) [1, 2] rfl
  have hDc := hD.sub (ws' := [(a26, .inr (10, [.ref a27, .int i20, .int (u8 0), .int (u8 1), .int (u8 2), .int (u8 3), .int (u8 4), .int (u8 5)])), (a27, .inl (cB, 1600, .inl xF21))]) [1, 2] (by decide) rfl
  have hFc := va_free (wc := [(a26, .inr (10, [.ref a27, .int i20, .int (u8 0), .int (u8 1), .int (u8 2), .int (u8 3), .int (u8 4), .int (u8 5)])), (a27, .inl (cB, 1600, .inl xF21))]) hD hS hA [1, 2] rfl
  refine va_calli (va_runV (As := [.int 4, .int 60]) (rest := [.ref a0]) ⟨hx, hb, hml, hown, hwd⟩ (s_X10_takeNumber l dC dI cI cZ cB cJ cM cG a26 a27 i20 (u8 0) (u8 1) (u8 2) (u8 3) (u8 4) (u8 5) xF21 4 60 H.size (show (0 : Int) ≤ i20.toInt ∧ i20.toInt ≤ 1600 from ⟨by omega, by omega⟩) (show (0 : Int) ≤ (u8 3).toInt ∧ (u8 3).toInt ≤ 1600 from ⟨by omega, by omega⟩) (show (0 : Int) ≤ (u8 4).toInt ∧ (u8 4).toInt ≤ 1600 from ⟨by omega, by omega⟩)) (cwV 2 hwd (gV kr15_15 kr15_16 kr15_17 kr1_15 kr15_18) rfl rfl rfl (by decide +kernel) ⟨Nat.le_of_ble_eq_true rfl, Nat.le_of_ble_eq_true rfl⟩) (kPreV hPc hK hDc (ci := 10) (q0 := 0) rfl rfl) rfl rfl hl.1 rfl (lv_room (Nat.le_of_ble_eq_true rfl)) dX2_readDrumLine_17 ⟨Nat.le_of_ble_eq_true rfl, Nat.le_of_ble_eq_true rfl⟩) hS (fun q _ h => hFc q h) hFc (fun r11 u12 t H1 locs ht9 hvm hw hB hz1 hk1 hS => ?_)
  obtain ⟨u13, U13, V13⟩ := u12
  obtain ⟨hw14, hw15, hw16, -⟩ := hw
  have hw14 : (4 : Int32).toInt ≤ r11.toInt ∧ (r11.toInt ≤ (4 : Int32).toInt ∨ r11.toInt ≤ (60 : Int32).toInt) := hw14
  have hw15 : (0 : Int) ≤ (u13 3).toInt ∧ (u13 3).toInt ≤ 1600 := hw15
  have hw16 : (0 : Int) ≤ (u13 4).toInt ∧ (u13 4).toInt ≤ 1600 := hw16
  obtain ⟨hP1, hD1⟩ := hB
  rw [ht9] at hP1
  obtain ⟨hP, hD⟩ := va_join (wr := [(a0, .inr (2, [.int i0, .int i1, .int i2, .int i3, .int i4, .int i5, .int i6, .int i7, .int i8, .ref a1, .ref a2, .ref a3, .ref a4, .ref a5]))]) (w1 := [(a26, .inr (10, [.ref a27, .int i20, .int (u13 0), .int (u13 1), .int (u13 2), .int (u13 3), .int (u13 4), .int (u13 5)])), (a27, .inl (cB, 1600, .inl xF21))]) hP hD [1, 2] [0] rfl rfl (by decide) (by decide) hk1 hFc hP1 hD1
  generalize H1 = H at hP hS ⊢
  have hP : va_P (dC, dI) vwCl [(a0, .inr (2, [.int i0, .int i1, .int i2, .int i3, .int i4, .int i5, .int i6, .int i7, .int i8, .ref a1, .ref a2, .ref a3, .ref a4, .ref a5])), (a26, .inr (10, [.ref a27, .int i20, .int (u13 0), .int (u13 1), .int (u13 2), .int (u13 3), .int (u13 4), .int (u13 5)])), (a27, .inl (cB, 1600, .inl xF21))] H := hP
  have hD : va_D A [(a0, .inr (2, [.int i0, .int i1, .int i2, .int i3, .int i4, .int i5, .int i6, .int i7, .int i8, .ref a1, .ref a2, .ref a3, .ref a4, .ref a5])), (a26, .inr (10, [.ref a27, .int i20, .int (u13 0), .int (u13 1), .int (u13 2), .int (u13 3), .int (u13 4), .int (u13 5)])), (a27, .inl (cB, 1600, .inl xF21))] := hD
  refine va_put (D := (dC, dI)) (ci := 2) (v := .int r11) (ty := .int) (C := RX2) (T := TX2) (N := 14) hx hb hwd inlX2 tyX2 tyX2_ok nmX2 hown hK hP hD hS 0 rfl rfl 0 (by decide) (hwd _ kr9_23) (fun _ h9 => h9) rfl (by decide +kernel) rfl rfl (Nat.le_of_ble_eq_true rfl) dX2_readDrumLine_20 (fun H locs hP hD hS => ?_)
  have hP : va_P (dC, dI) vwCl [(a0, .inr (2, [.int r11, .int i1, .int i2, .int i3, .int i4, .int i5, .int i6, .int i7, .int i8, .ref a1, .ref a2, .ref a3, .ref a4, .ref a5])), (a26, .inr (10, [.ref a27, .int i20, .int (u13 0), .int (u13 1), .int (u13 2), .int (u13 3), .int (u13 4), .int (u13 5)])), (a27, .inl (cB, 1600, .inl xF21))] H := hP
  have hD : va_D A [(a0, .inr (2, [.int r11, .int i1, .int i2, .int i3, .int i4, .int i5, .int i6, .int i7, .int i8, .ref a1, .ref a2, .ref a3, .ref a4, .ref a5])), (a26, .inr (10, [.ref a27, .int i20, .int (u13 0), .int (u13 1), .int (u13 2), .int (u13 3), .int (u13 4), .int (u13 5)])), (a27, .inl (cB, 1600, .inl xF21))] := hD
  refine lv_aload_n hx hb dX2_readDrumLine_23 rfl (lv_at hl 1 rfl) ?_
  refine va_ldcS hx hb hown hR161 dX2_readDrumLine_24 ?_
  have hPc := hP.sub (ws' := [(a26, .inr (10, [.ref a27, .int i20, .int (u13 0), .int (u13 1), .int (u13 2), .int (u13 3), .int (u13 4), .int (u13 5)])), (a27, .inl (cB, 1600, .inl xF21))]) [1, 2] rfl
  have hDc := hD.sub (ws' := [(a26, .inr (10, [.ref a27, .int i20, .int (u13 0), .int (u13 1), .int (u13 2), .int (u13 3), .int (u13 4), .int (u13 5)])), (a27, .inl (cB, 1600, .inl xF21))]) [1, 2] (by decide) rfl
  have hFc := va_free (wc := [(a26, .inr (10, [.ref a27, .int i20, .int (u13 0), .int (u13 1), .int (u13 2), .int (u13 3), .int (u13 4), .int (u13 5)])), (a27, .inl (cB, 1600, .inl xF21))]) hD hS hA [1, 2] rfl
  refine va_callv (va_runV (As := [.ref sa161]) (rest := []) ⟨hx, hb, hml, hown, hwd⟩ (s_X10_takeWord l dC dI cI cZ cB cJ cM cG a26 a27 i20 (u13 0) (u13 1) (u13 2) (u13 3) (u13 4) (u13 5) xF21 sa161 sav161 sn161 sf161 H.size (show (0 : Int) ≤ i20.toInt ∧ i20.toInt ≤ 1600 from ⟨by omega, by omega⟩) (show (0 : Int) ≤ (u13 3).toInt ∧ (u13 3).toInt ≤ 1600 from ⟨by omega, by omega⟩) (show (0 : Int) ≤ (u13 4).toInt ∧ (u13 4).toInt ≤ 1600 from ⟨by omega, by omega⟩)) (cwV 1 hwd (gV kr13_2 kr13_3 kr13_4 kr1_15 kr13_5) rfl rfl rfl (by decide +kernel) ⟨Nat.le_of_ble_eq_true rfl, Nat.le_of_ble_eq_true rfl⟩) (kPreVX hPc hK hDc (NS_st _ _ _ _) hN161 hS hFc (ci := 10) (q0 := 0) rfl rfl) rfl rfl hl.1 rfl (lv_room (Nat.le_of_ble_eq_true rfl)) dX2_readDrumLine_26 ⟨Nat.le_of_ble_eq_true rfl, Nat.le_of_ble_eq_true rfl⟩) hS (fun q _ h => hFc q h) hFc (fun u18 t H1 locs ht9 hvm hw hB hz1 hk1 hS => ?_)
  obtain ⟨u19, U19, V19⟩ := u18
  obtain ⟨hw20, hw21, -⟩ := hw
  have hw20 : (0 : Int) ≤ (u19 3).toInt ∧ (u19 3).toInt ≤ 1600 := hw20
  have hw21 : (0 : Int) ≤ (u19 4).toInt ∧ (u19 4).toInt ≤ 1600 := hw21
  obtain ⟨hP1, hD1⟩ := hB
  rw [ht9] at hP1
  obtain ⟨hP, hD⟩ := va_join (wr := [(a0, .inr (2, [.int r11, .int i1, .int i2, .int i3, .int i4, .int i5, .int i6, .int i7, .int i8, .ref a1, .ref a2, .ref a3, .ref a4, .ref a5]))]) (w1 := [(a26, .inr (10, [.ref a27, .int i20, .int (u19 0), .int (u19 1), .int (u19 2), .int (u19 3), .int (u19 4), .int (u19 5)])), (a27, .inl (cB, 1600, .inl xF21))]) hP hD [1, 2] [0] rfl rfl (by decide) (by decide) hk1 hFc hP1 hD1
  generalize H1 = H at hP hS ⊢
  have hP : va_P (dC, dI) vwCl [(a0, .inr (2, [.int r11, .int i1, .int i2, .int i3, .int i4, .int i5, .int i6, .int i7, .int i8, .ref a1, .ref a2, .ref a3, .ref a4, .ref a5])), (a26, .inr (10, [.ref a27, .int i20, .int (u19 0), .int (u19 1), .int (u19 2), .int (u19 3), .int (u19 4), .int (u19 5)])), (a27, .inl (cB, 1600, .inl xF21))] H := hP
  have hD : va_D A [(a0, .inr (2, [.int r11, .int i1, .int i2, .int i3, .int i4, .int i5, .int i6, .int i7, .int i8, .ref a1, .ref a2, .ref a3, .ref a4, .ref a5])), (a26, .inr (10, [.ref a27, .int i20, .int (u19 0), .int (u19 1), .int (u19 2), .int (u19 3), .int (u19 4), .int (u19 5)])), (a27, .inl (cB, 1600, .inl xF21))] := hD
  refine lv_aload_n hx hb dX2_readDrumLine_29 rfl (lv_at hl 0 rfl) ?_
  refine lv_aload_n hx hb dX2_readDrumLine_30 rfl (lv_at hl 1 rfl) ?_
  refine lv_iconst (v := 1) hx hb dX2_readDrumLine_31 (by decide) ?_
  refine lv_bipush (v := 60) hx hb dX2_readDrumLine_32 (by decide) ?_
  have hPc := hP.sub (ws' := [(a26, .inr (10, [.ref a27, .int i20, .int (u19 0), .int (u19 1), .int (u19 2), .int (u19 3), .int (u19 4), .int (u19 5)])), (a27, .inl (cB, 1600, .inl xF21))]) [1, 2] rfl
  have hDc := hD.sub (ws' := [(a26, .inr (10, [.ref a27, .int i20, .int (u19 0), .int (u19 1), .int (u19 2), .int (u19 3), .int (u19 4), .int (u19 5)])), (a27, .inl (cB, 1600, .inl xF21))]) [1, 2] (by decide) rfl
  have hFc := va_free (wc := [(a26, .inr (10, [.ref a27, .int i20, .int (u19 0), .int (u19 1), .int (u19 2), .int (u19 3), .int (u19 4), .int (u19 5)])), (a27, .inl (cB, 1600, .inl xF21))]) hD hS hA [1, 2] rfl
  refine va_calli (va_runV (As := [.int 1, .int 60]) (rest := [.ref a0]) ⟨hx, hb, hml, hown, hwd⟩ (s_X10_takeNumber l dC dI cI cZ cB cJ cM cG a26 a27 i20 (u19 0) (u19 1) (u19 2) (u19 3) (u19 4) (u19 5) xF21 1 60 H.size (show (0 : Int) ≤ i20.toInt ∧ i20.toInt ≤ 1600 from ⟨by omega, by omega⟩) (show (0 : Int) ≤ (u19 3).toInt ∧ (u19 3).toInt ≤ 1600 from ⟨by omega, by omega⟩) (show (0 : Int) ≤ (u19 4).toInt ∧ (u19 4).toInt ≤ 1600 from ⟨by omega, by omega⟩)) (cwV 2 hwd (gV kr15_15 kr15_16 kr15_17 kr1_15 kr15_18) rfl rfl rfl (by decide +kernel) ⟨Nat.le_of_ble_eq_true rfl, Nat.le_of_ble_eq_true rfl⟩) (kPreV hPc hK hDc (ci := 10) (q0 := 0) rfl rfl) rfl rfl hl.1 rfl (lv_room (Nat.le_of_ble_eq_true rfl)) dX2_readDrumLine_34 ⟨Nat.le_of_ble_eq_true rfl, Nat.le_of_ble_eq_true rfl⟩) hS (fun q _ h => hFc q h) hFc (fun r22 u23 t H1 locs ht9 hvm hw hB hz1 hk1 hS => ?_)
  obtain ⟨u24, U24, V24⟩ := u23
  obtain ⟨hw25, hw26, hw27, -⟩ := hw
  have hw25 : (1 : Int32).toInt ≤ r22.toInt ∧ (r22.toInt ≤ (1 : Int32).toInt ∨ r22.toInt ≤ (60 : Int32).toInt) := hw25
  have hw26 : (0 : Int) ≤ (u24 3).toInt ∧ (u24 3).toInt ≤ 1600 := hw26
  have hw27 : (0 : Int) ≤ (u24 4).toInt ∧ (u24 4).toInt ≤ 1600 := hw27
  obtain ⟨hP1, hD1⟩ := hB
  rw [ht9] at hP1
  obtain ⟨hP, hD⟩ := va_join (wr := [(a0, .inr (2, [.int r11, .int i1, .int i2, .int i3, .int i4, .int i5, .int i6, .int i7, .int i8, .ref a1, .ref a2, .ref a3, .ref a4, .ref a5]))]) (w1 := [(a26, .inr (10, [.ref a27, .int i20, .int (u24 0), .int (u24 1), .int (u24 2), .int (u24 3), .int (u24 4), .int (u24 5)])), (a27, .inl (cB, 1600, .inl xF21))]) hP hD [1, 2] [0] rfl rfl (by decide) (by decide) hk1 hFc hP1 hD1
  generalize H1 = H at hP hS ⊢
  have hP : va_P (dC, dI) vwCl [(a0, .inr (2, [.int r11, .int i1, .int i2, .int i3, .int i4, .int i5, .int i6, .int i7, .int i8, .ref a1, .ref a2, .ref a3, .ref a4, .ref a5])), (a26, .inr (10, [.ref a27, .int i20, .int (u24 0), .int (u24 1), .int (u24 2), .int (u24 3), .int (u24 4), .int (u24 5)])), (a27, .inl (cB, 1600, .inl xF21))] H := hP
  have hD : va_D A [(a0, .inr (2, [.int r11, .int i1, .int i2, .int i3, .int i4, .int i5, .int i6, .int i7, .int i8, .ref a1, .ref a2, .ref a3, .ref a4, .ref a5])), (a26, .inr (10, [.ref a27, .int i20, .int (u24 0), .int (u24 1), .int (u24 2), .int (u24 3), .int (u24 4), .int (u24 5)])), (a27, .inl (cB, 1600, .inl xF21))] := hD
  refine va_put (D := (dC, dI)) (ci := 2) (v := .int r22) (ty := .int) (C := RX2) (T := TX2) (N := 14) hx hb hwd inlX2 tyX2 tyX2_ok nmX2 hown hK hP hD hS 0 rfl rfl 1 (by decide) (hwd _ kr10_0) (fun _ h9 => h9) rfl (by decide +kernel) rfl rfl (Nat.le_of_ble_eq_true rfl) dX2_readDrumLine_37 (fun H locs hP hD hS => ?_)
  have hP : va_P (dC, dI) vwCl [(a0, .inr (2, [.int r11, .int r22, .int i2, .int i3, .int i4, .int i5, .int i6, .int i7, .int i8, .ref a1, .ref a2, .ref a3, .ref a4, .ref a5])), (a26, .inr (10, [.ref a27, .int i20, .int (u24 0), .int (u24 1), .int (u24 2), .int (u24 3), .int (u24 4), .int (u24 5)])), (a27, .inl (cB, 1600, .inl xF21))] H := hP
  have hD : va_D A [(a0, .inr (2, [.int r11, .int r22, .int i2, .int i3, .int i4, .int i5, .int i6, .int i7, .int i8, .ref a1, .ref a2, .ref a3, .ref a4, .ref a5])), (a26, .inr (10, [.ref a27, .int i20, .int (u24 0), .int (u24 1), .int (u24 2), .int (u24 3), .int (u24 4), .int (u24 5)])), (a27, .inl (cB, 1600, .inl xF21))] := hD
  refine lv_aload_n hx hb dX2_readDrumLine_40 rfl (lv_at hl 1 rfl) ?_
  refine va_ldcS hx hb hown hR162 dX2_readDrumLine_41 ?_
  have hPc := hP.sub (ws' := [(a26, .inr (10, [.ref a27, .int i20, .int (u24 0), .int (u24 1), .int (u24 2), .int (u24 3), .int (u24 4), .int (u24 5)])), (a27, .inl (cB, 1600, .inl xF21))]) [1, 2] rfl
  have hDc := hD.sub (ws' := [(a26, .inr (10, [.ref a27, .int i20, .int (u24 0), .int (u24 1), .int (u24 2), .int (u24 3), .int (u24 4), .int (u24 5)])), (a27, .inl (cB, 1600, .inl xF21))]) [1, 2] (by decide) rfl
  have hFc := va_free (wc := [(a26, .inr (10, [.ref a27, .int i20, .int (u24 0), .int (u24 1), .int (u24 2), .int (u24 3), .int (u24 4), .int (u24 5)])), (a27, .inl (cB, 1600, .inl xF21))]) hD hS hA [1, 2] rfl
  refine va_callv (va_runV (As := [.ref sa162]) (rest := []) ⟨hx, hb, hml, hown, hwd⟩ (s_X10_takeWord l dC dI cI cZ cB cJ cM cG a26 a27 i20 (u24 0) (u24 1) (u24 2) (u24 3) (u24 4) (u24 5) xF21 sa162 sav162 sn162 sf162 H.size (show (0 : Int) ≤ i20.toInt ∧ i20.toInt ≤ 1600 from ⟨by omega, by omega⟩) (show (0 : Int) ≤ (u24 3).toInt ∧ (u24 3).toInt ≤ 1600 from ⟨by omega, by omega⟩) (show (0 : Int) ≤ (u24 4).toInt ∧ (u24 4).toInt ≤ 1600 from ⟨by omega, by omega⟩)) (cwV 1 hwd (gV kr13_2 kr13_3 kr13_4 kr1_15 kr13_5) rfl rfl rfl (by decide +kernel) ⟨Nat.le_of_ble_eq_true rfl, Nat.le_of_ble_eq_true rfl⟩) (kPreVX hPc hK hDc (NS_st _ _ _ _) hN162 hS hFc (ci := 10) (q0 := 0) rfl rfl) rfl rfl hl.1 rfl (lv_room (Nat.le_of_ble_eq_true rfl)) dX2_readDrumLine_43 ⟨Nat.le_of_ble_eq_true rfl, Nat.le_of_ble_eq_true rfl⟩) hS (fun q _ h => hFc q h) hFc (fun u29 t H1 locs ht9 hvm hw hB hz1 hk1 hS => ?_)
  obtain ⟨u30, U30, V30⟩ := u29
  obtain ⟨hw31, hw32, -⟩ := hw
  have hw31 : (0 : Int) ≤ (u30 3).toInt ∧ (u30 3).toInt ≤ 1600 := hw31
  have hw32 : (0 : Int) ≤ (u30 4).toInt ∧ (u30 4).toInt ≤ 1600 := hw32
  obtain ⟨hP1, hD1⟩ := hB
  rw [ht9] at hP1
  obtain ⟨hP, hD⟩ := va_join (wr := [(a0, .inr (2, [.int r11, .int r22, .int i2, .int i3, .int i4, .int i5, .int i6, .int i7, .int i8, .ref a1, .ref a2, .ref a3, .ref a4, .ref a5]))]) (w1 := [(a26, .inr (10, [.ref a27, .int i20, .int (u30 0), .int (u30 1), .int (u30 2), .int (u30 3), .int (u30 4), .int (u30 5)])), (a27, .inl (cB, 1600, .inl xF21))]) hP hD [1, 2] [0] rfl rfl (by decide) (by decide) hk1 hFc hP1 hD1
  generalize H1 = H at hP hS ⊢
  have hP : va_P (dC, dI) vwCl [(a0, .inr (2, [.int r11, .int r22, .int i2, .int i3, .int i4, .int i5, .int i6, .int i7, .int i8, .ref a1, .ref a2, .ref a3, .ref a4, .ref a5])), (a26, .inr (10, [.ref a27, .int i20, .int (u30 0), .int (u30 1), .int (u30 2), .int (u30 3), .int (u30 4), .int (u30 5)])), (a27, .inl (cB, 1600, .inl xF21))] H := hP
  have hD : va_D A [(a0, .inr (2, [.int r11, .int r22, .int i2, .int i3, .int i4, .int i5, .int i6, .int i7, .int i8, .ref a1, .ref a2, .ref a3, .ref a4, .ref a5])), (a26, .inr (10, [.ref a27, .int i20, .int (u30 0), .int (u30 1), .int (u30 2), .int (u30 3), .int (u30 4), .int (u30 5)])), (a27, .inl (cB, 1600, .inl xF21))] := hD
  refine lv_aload_n hx hb dX2_readDrumLine_46 rfl (lv_at hl 0 rfl) ?_
  refine lv_aload_n hx hb dX2_readDrumLine_47 rfl (lv_at hl 1 rfl) ?_
  refine lv_iconst (v := 0) hx hb dX2_readDrumLine_48 (by decide) ?_
  refine lv_bipush (v := 9) hx hb dX2_readDrumLine_49 (by decide) ?_
  have hPc := hP.sub (ws' := [(a26, .inr (10, [.ref a27, .int i20, .int (u30 0), .int (u30 1), .int (u30 2), .int (u30 3), .int (u30 4), .int (u30 5)])), (a27, .inl (cB, 1600, .inl xF21))]) [1, 2] rfl
  have hDc := hD.sub (ws' := [(a26, .inr (10, [.ref a27, .int i20, .int (u30 0), .int (u30 1), .int (u30 2), .int (u30 3), .int (u30 4), .int (u30 5)])), (a27, .inl (cB, 1600, .inl xF21))]) [1, 2] (by decide) rfl
  have hFc := va_free (wc := [(a26, .inr (10, [.ref a27, .int i20, .int (u30 0), .int (u30 1), .int (u30 2), .int (u30 3), .int (u30 4), .int (u30 5)])), (a27, .inl (cB, 1600, .inl xF21))]) hD hS hA [1, 2] rfl
  refine va_calli (va_runV (As := [.int 0, .int 9]) (rest := [.ref a0]) ⟨hx, hb, hml, hown, hwd⟩ (s_X10_takeNumber l dC dI cI cZ cB cJ cM cG a26 a27 i20 (u30 0) (u30 1) (u30 2) (u30 3) (u30 4) (u30 5) xF21 0 9 H.size (show (0 : Int) ≤ i20.toInt ∧ i20.toInt ≤ 1600 from ⟨by omega, by omega⟩) (show (0 : Int) ≤ (u30 3).toInt ∧ (u30 3).toInt ≤ 1600 from ⟨by omega, by omega⟩) (show (0 : Int) ≤ (u30 4).toInt ∧ (u30 4).toInt ≤ 1600 from ⟨by omega, by omega⟩)) (cwV 2 hwd (gV kr15_15 kr15_16 kr15_17 kr1_15 kr15_18) rfl rfl rfl (by decide +kernel) ⟨Nat.le_of_ble_eq_true rfl, Nat.le_of_ble_eq_true rfl⟩) (kPreV hPc hK hDc (ci := 10) (q0 := 0) rfl rfl) rfl rfl hl.1 rfl (lv_room (Nat.le_of_ble_eq_true rfl)) dX2_readDrumLine_51 ⟨Nat.le_of_ble_eq_true rfl, Nat.le_of_ble_eq_true rfl⟩) hS (fun q _ h => hFc q h) hFc (fun r33 u34 t H1 locs ht9 hvm hw hB hz1 hk1 hS => ?_)
  obtain ⟨u35, U35, V35⟩ := u34
  obtain ⟨hw36, hw37, hw38, -⟩ := hw
  have hw36 : (0 : Int32).toInt ≤ r33.toInt ∧ (r33.toInt ≤ (0 : Int32).toInt ∨ r33.toInt ≤ (9 : Int32).toInt) := hw36
  have hw37 : (0 : Int) ≤ (u35 3).toInt ∧ (u35 3).toInt ≤ 1600 := hw37
  have hw38 : (0 : Int) ≤ (u35 4).toInt ∧ (u35 4).toInt ≤ 1600 := hw38
  obtain ⟨hP1, hD1⟩ := hB
  rw [ht9] at hP1
  obtain ⟨hP, hD⟩ := va_join (wr := [(a0, .inr (2, [.int r11, .int r22, .int i2, .int i3, .int i4, .int i5, .int i6, .int i7, .int i8, .ref a1, .ref a2, .ref a3, .ref a4, .ref a5]))]) (w1 := [(a26, .inr (10, [.ref a27, .int i20, .int (u35 0), .int (u35 1), .int (u35 2), .int (u35 3), .int (u35 4), .int (u35 5)])), (a27, .inl (cB, 1600, .inl xF21))]) hP hD [1, 2] [0] rfl rfl (by decide) (by decide) hk1 hFc hP1 hD1
  generalize H1 = H at hP hS ⊢
  have hP : va_P (dC, dI) vwCl [(a0, .inr (2, [.int r11, .int r22, .int i2, .int i3, .int i4, .int i5, .int i6, .int i7, .int i8, .ref a1, .ref a2, .ref a3, .ref a4, .ref a5])), (a26, .inr (10, [.ref a27, .int i20, .int (u35 0), .int (u35 1), .int (u35 2), .int (u35 3), .int (u35 4), .int (u35 5)])), (a27, .inl (cB, 1600, .inl xF21))] H := hP
  have hD : va_D A [(a0, .inr (2, [.int r11, .int r22, .int i2, .int i3, .int i4, .int i5, .int i6, .int i7, .int i8, .ref a1, .ref a2, .ref a3, .ref a4, .ref a5])), (a26, .inr (10, [.ref a27, .int i20, .int (u35 0), .int (u35 1), .int (u35 2), .int (u35 3), .int (u35 4), .int (u35 5)])), (a27, .inl (cB, 1600, .inl xF21))] := hD
  refine va_put (D := (dC, dI)) (ci := 2) (v := .int r33) (ty := .int) (C := RX2) (T := TX2) (N := 14) hx hb hwd inlX2 tyX2 tyX2_ok nmX2 hown hK hP hD hS 0 rfl rfl 2 (by decide) (hwd _ kr10_1) (fun _ h9 => h9) rfl (by decide +kernel) rfl rfl (Nat.le_of_ble_eq_true rfl) dX2_readDrumLine_54 (fun H locs hP hD hS => ?_)
  have hP : va_P (dC, dI) vwCl [(a0, .inr (2, [.int r11, .int r22, .int r33, .int i3, .int i4, .int i5, .int i6, .int i7, .int i8, .ref a1, .ref a2, .ref a3, .ref a4, .ref a5])), (a26, .inr (10, [.ref a27, .int i20, .int (u35 0), .int (u35 1), .int (u35 2), .int (u35 3), .int (u35 4), .int (u35 5)])), (a27, .inl (cB, 1600, .inl xF21))] H := hP
  have hD : va_D A [(a0, .inr (2, [.int r11, .int r22, .int r33, .int i3, .int i4, .int i5, .int i6, .int i7, .int i8, .ref a1, .ref a2, .ref a3, .ref a4, .ref a5])), (a26, .inr (10, [.ref a27, .int i20, .int (u35 0), .int (u35 1), .int (u35 2), .int (u35 3), .int (u35 4), .int (u35 5)])), (a27, .inl (cB, 1600, .inl xF21))] := hD
  have hP9 := hP.sub (ws' := [(a0, .inr (2, [.int r11, .int r22, .int r33, .int i3, .int i4, .int i5, .int i6, .int i7, .int i8, .ref a1, .ref a2, .ref a3, .ref a4, .ref a5])), (a26, .inr (10, [.ref a27, .int i20, .int (u35 0), .int (u35 1), .int (u35 2), .int (u35 3), .int (u35 4), .int (u35 5)])), (a27, .inl (cB, 1600, .inl xF21))]) [0, 1, 2] rfl
  have hD9 := hD.sub (ws' := [(a0, .inr (2, [.int r11, .int r22, .int r33, .int i3, .int i4, .int i5, .int i6, .int i7, .int i8, .ref a1, .ref a2, .ref a3, .ref a4, .ref a5])), (a26, .inr (10, [.ref a27, .int i20, .int (u35 0), .int (u35 1), .int (u35 2), .int (u35 3), .int (u35 4), .int (u35 5)])), (a27, .inl (cB, 1600, .inl xF21))]) [0, 1, 2] (by decide) rfl
  rw [hQ]
  exact W.vret hx hb hr (fun t ht hW => ⟨⟨(pickG 0 [r11, r22, r33, (u35 0), (u35 1), (u35 2), (u35 3), (u35 4), (u35 5)], pickG (fun _ => 0) [], pickG (fun _ => 0) []), rfl, ⟨(show (0 : Int) ≤ r11.toInt ∧ r11.toInt ≤ 60 from ⟨by omega, by omega⟩), (show (0 : Int) ≤ (u35 3).toInt ∧ (u35 3).toInt ≤ 1600 from ⟨by omega, by omega⟩), (show (0 : Int) ≤ (u35 4).toInt ∧ (u35 4).toInt ≤ 1600 from ⟨by omega, by omega⟩), trivial⟩, (by rw [ht]; exact hP9), hD9⟩, hS.F ht⟩) hS.2.2 dX2_readDrumLine_57
theorem dX2_readTrackLine_0 : decode cX2_readTrackLine 0 = .ok (.aload_n 0, 1) := by decide +kernel
theorem dX2_readTrackLine_1 : decode cX2_readTrackLine 1 = .ok (.getfield 47, 3) := by decide +kernel
theorem dX2_readTrackLine_4 : decode cX2_readTrackLine 4 = .ok (.bipush 6, 2) := by decide +kernel
theorem dX2_readTrackLine_6 : decode cX2_readTrackLine 6 = .ok (.if_icmp .lt 9, 3) := by decide +kernel
theorem dX2_readTrackLine_9 : decode cX2_readTrackLine 9 = .ok (.aload_n 1, 1) := by decide +kernel
theorem dX2_readTrackLine_10 : decode cX2_readTrackLine 10 = .ok (.iconst 3, 1) := by decide +kernel
theorem dX2_readTrackLine_11 : decode cX2_readTrackLine 11 = .ok (.invokevirtual 163, 3) := by decide +kernel
theorem dX2_readTrackLine_14 : decode cX2_readTrackLine 14 = .ok (.return_, 1) := by decide +kernel
theorem dX2_readTrackLine_15 : decode cX2_readTrackLine 15 = .ok (.aload_n 1, 1) := by decide +kernel
theorem dX2_readTrackLine_16 : decode cX2_readTrackLine 16 = .ok (.invokevirtual 167, 3) := by decide +kernel
theorem dX2_readTrackLine_19 : decode cX2_readTrackLine 19 = .ok (.aload_n 0, 1) := by decide +kernel
theorem dX2_readTrackLine_20 : decode cX2_readTrackLine 20 = .ok (.dup, 1) := by decide +kernel
theorem dX2_readTrackLine_21 : decode cX2_readTrackLine 21 = .ok (.getfield 47, 3) := by decide +kernel
theorem dX2_readTrackLine_24 : decode cX2_readTrackLine 24 = .ok (.iconst 1, 1) := by decide +kernel
theorem dX2_readTrackLine_25 : decode cX2_readTrackLine 25 = .ok (.iadd, 1) := by decide +kernel
theorem dX2_readTrackLine_26 : decode cX2_readTrackLine 26 = .ok (.putfield 47, 3) := by decide +kernel
theorem dX2_readTrackLine_29 : decode cX2_readTrackLine 29 = .ok (.return_, 1) := by decide +kernel
set_option maxHeartbeats 4000000 in
set_option maxRecDepth 100000 in
theorem s_X2_readTrackLine (l : Launch) (dC : Nat → ClassId) (dI : Nat → Nat → Nat) (cI cZ cB cJ cM cG : ClassId) (a0 a1 a2 a3 a4 a5 a26 a27 : Nat) (i0 i1 i2 i3 i4 i5 i6 i7 i8 i20 i21 i22 i23 i24 i25 i26 : Int32) (xF21 : Nat → Int32) (sz : Nat) (p_0 : (0 : Int) ≤ i0.toInt ∧ i0.toInt ≤ 60) (p_1 : (0 : Int) ≤ i3.toInt ∧ i3.toInt ≤ 6) (p_2 : (0 : Int) ≤ i5.toInt ∧ i5.toInt ≤ 1) (p_3 : (0 : Int) ≤ i8.toInt ∧ i8.toInt ≤ 1) (p_4 : (0 : Int) ≤ i20.toInt ∧ i20.toInt ≤ 1600) (p_5 : (0 : Int) ≤ i24.toInt ∧ i24.toInt ≤ 1600) (p_6 : (0 : Int) ≤ i25.toInt ∧ i25.toInt ≤ 1600) : Met l yX2_readTrackLine (kw yX2_readTrackLine cX2_readTrackLine 2 none) ({ frames := 2, cells := 0, slots := 0, locals := 43 } : Room) (va_Pc [.ref a0, .ref a26] (kPreX dC dI [(cI, .int), (cZ, .boolean), (cB, .byte), (cJ, .long), (cM, .object RX2), (cG, .array .int)] [(a0, .inr (2, [.int i0, .int i1, .int i2, .int i3, .int i4, .int i5, .int i6, .int i7, .int i8, .ref a1, .ref a2, .ref a3, .ref a4, .ref a5])), (a26, .inr (10, [.ref a27, .int i20, .int i21, .int i22, .int i23, .int i24, .int i25, .int i26])), (a27, .inl (cB, 1600, .inl xF21))] sz NT)) (va_Qv (fun (u9 : (Nat → Int32) × (Nat → Nat → Int32) × (Nat → Nat → Int64)) => ((0 : Int) ≤ (u9.1 0).toInt ∧ (u9.1 0).toInt ≤ 6) ∧ ((0 : Int) ≤ (u9.1 4).toInt ∧ (u9.1 4).toInt ≤ 1600) ∧ ((0 : Int) ≤ (u9.1 5).toInt ∧ (u9.1 5).toInt ≤ 1600) ∧ True) (fun u9 t => va_P (dC, dI) vwCl [(a0, .inr (2, [.int i0, .int i1, .int i2, .int (u9.1 0), .int i4, .int i5, .int i6, .int i7, .int i8, .ref a1, .ref a2, .ref a3, .ref a4, .ref a5])), (a26, .inr (10, [.ref a27, .int i20, .int (u9.1 1), .int (u9.1 2), .int (u9.1 3), .int (u9.1 4), .int (u9.1 5), .int (u9.1 6)])), (a27, .inl (cB, 1600, .inl xF21))] t.heap ∧ va_D (va_A [(a0, .inr (2, [.int i0, .int i1, .int i2, .int i3, .int i4, .int i5, .int i6, .int i7, .int i8, .ref a1, .ref a2, .ref a3, .ref a4, .ref a5])), (a26, .inr (10, [.ref a27, .int i20, .int i21, .int i22, .int i23, .int i24, .int i25, .int i26])), (a27, .inl (cB, 1600, .inl xF21))] sz) [(a0, .inr (2, [.int i0, .int i1, .int i2, .int (u9.1 0), .int i4, .int i5, .int i6, .int i7, .int i8, .ref a1, .ref a2, .ref a3, .ref a4, .ref a5])), (a26, .inr (10, [.ref a27, .int i20, .int (u9.1 1), .int (u9.1 2), .int (u9.1 3), .int (u9.1 4), .int (u9.1 5), .int (u9.1 6)])), (a27, .inl (cB, 1600, .inl xF21))]) (va_A [(a0, .inr (2, [.int i0, .int i1, .int i2, .int i3, .int i4, .int i5, .int i6, .int i7, .int i8, .ref a1, .ref a2, .ref a3, .ref a4, .ref a5])), (a26, .inr (10, [.ref a27, .int i20, .int i21, .int i22, .int i23, .int i24, .int i25, .int i26])), (a27, .inl (cB, 1600, .inl xF21))] sz)) 0 0 (va_A [(a0, .inr (2, [.int i0, .int i1, .int i2, .int i3, .int i4, .int i5, .int i6, .int i7, .int i8, .ref a1, .ref a2, .ref a3, .ref a4, .ref a5])), (a26, .inr (10, [.ref a27, .int i20, .int i21, .int i22, .int i23, .int i24, .int i25, .int i26])), (a27, .inl (cB, 1600, .inl xF21))] sz) := by
  refine kEnterX (by decide) (Nat.le_of_ble_eq_true rfl) ?_
  intro p e s m below meth c ls hx hb hr hml hown hlocks hin hwd hsz hP hK hD hN hl
  subst hsz
  generalize hAe : va_A [(a0, .inr (2, [.int i0, .int i1, .int i2, .int i3, .int i4, .int i5, .int i6, .int i7, .int i8, .ref a1, .ref a2, .ref a3, .ref a4, .ref a5])), (a26, .inr (10, [.ref a27, .int i20, .int i21, .int i22, .int i23, .int i24, .int i25, .int i26])), (a27, .inl (cB, 1600, .inl xF21))] s.heap.size = A at hD hN ⊢
  have hA : ∀ q : Nat, s.heap.size ≤ q → A q := fun q h => by rw [← hAe]; exact Or.inr h
  have hS : va_S A s.heap s.heap [] := va_S.rf
  have hl : lv_has ls 2 [(0, .ref a0), (1, .ref a26)] := hl
  obtain ⟨Q, hQ⟩ : ∃ Q, Q = MQ below (va_Qv (fun (u9 : (Nat → Int32) × (Nat → Nat → Int32) × (Nat → Nat → Int64)) => ((0 : Int) ≤ (u9.1 0).toInt ∧ (u9.1 0).toInt ≤ 6) ∧ ((0 : Int) ≤ (u9.1 4).toInt ∧ (u9.1 4).toInt ≤ 1600) ∧ ((0 : Int) ≤ (u9.1 5).toInt ∧ (u9.1 5).toInt ≤ 1600) ∧ True) (fun u9 t => va_P (dC, dI) vwCl [(a0, .inr (2, [.int i0, .int i1, .int i2, .int (u9.1 0), .int i4, .int i5, .int i6, .int i7, .int i8, .ref a1, .ref a2, .ref a3, .ref a4, .ref a5])), (a26, .inr (10, [.ref a27, .int i20, .int (u9.1 1), .int (u9.1 2), .int (u9.1 3), .int (u9.1 4), .int (u9.1 5), .int (u9.1 6)])), (a27, .inl (cB, 1600, .inl xF21))] t.heap ∧ va_D A [(a0, .inr (2, [.int i0, .int i1, .int i2, .int (u9.1 0), .int i4, .int i5, .int i6, .int i7, .int i8, .ref a1, .ref a2, .ref a3, .ref a4, .ref a5])), (a26, .inr (10, [.ref a27, .int i20, .int (u9.1 1), .int (u9.1 2), .int (u9.1 3), .int (u9.1 4), .int (u9.1 5), .int (u9.1 6)])), (a27, .inl (cB, 1600, .inl xF21))]) A) ([.ref a0, .ref a26] : List Value).toArray s 0 0 A := ⟨_, rfl⟩
  rw [← hQ]
  have k1 : (1 : Int32).toInt = 1 := by decide
  have k6 : (6 : Int32).toInt = 6 := by decide
  refine lv_aload_n hx hb dX2_readTrackLine_0 rfl (lv_at hl 0 rfl) ?_
  refine va_get (D := (dC, dI)) (ci := 2) (v := .int i3) (C := RX2) (T := TX2) (N := 14) hx hb hwd inlX2 hown hK hP 0 rfl rfl 3 (by decide) (hwd _ kr10_2) (fun _ h9 => h9) rfl dX2_readTrackLine_1 ?_
  refine lv_bipush (v := 6) hx hb dX2_readTrackLine_4 (by decide) ?_
  refine lv_icmp_lt (tgt := 15) hx hb dX2_readTrackLine_6 (by decide) (fun c1 => ?_) (fun c1 => ?_)
  · rw [ki_lt] at c1
    refine lv_aload_n hx hb dX2_readTrackLine_15 rfl (lv_at hl 1 rfl) ?_
    have hPc := hP.sub (ws' := [(a26, .inr (10, [.ref a27, .int i20, .int i21, .int i22, .int i23, .int i24, .int i25, .int i26])), (a27, .inl (cB, 1600, .inl xF21))]) [1, 2] rfl
    have hDc := hD.sub (ws' := [(a26, .inr (10, [.ref a27, .int i20, .int i21, .int i22, .int i23, .int i24, .int i25, .int i26])), (a27, .inl (cB, 1600, .inl xF21))]) [1, 2] (by decide) rfl
    have hFc := va_free (wc := [(a26, .inr (10, [.ref a27, .int i20, .int i21, .int i22, .int i23, .int i24, .int i25, .int i26])), (a27, .inl (cB, 1600, .inl xF21))]) hD hS hA [1, 2] rfl
    refine va_callv (va_runV (As := []) (rest := []) ⟨hx, hb, hml, hown, hwd⟩ (s_X10_readToken l dC dI cI cZ cB cJ cM cG a26 a27 i20 i21 i22 i23 i24 i25 i26 xF21 s.heap.size (show (0 : Int) ≤ i20.toInt ∧ i20.toInt ≤ 1600 from ⟨by omega, by omega⟩) (show (0 : Int) ≤ i24.toInt ∧ i24.toInt ≤ 1600 from ⟨by omega, by omega⟩) (show (0 : Int) ≤ i25.toInt ∧ i25.toInt ≤ 1600 from ⟨by omega, by omega⟩)) (cwV 0 hwd (gV kr16_1 kr11_5 kr11_6 kr1_15 kr11_7) rfl rfl rfl (by decide +kernel) ⟨Nat.le_of_ble_eq_true rfl, Nat.le_of_ble_eq_true rfl⟩) (kPreV hPc hK hDc (ci := 10) (q0 := 0) rfl rfl) rfl rfl hl.1 rfl (lv_room (Nat.le_of_ble_eq_true rfl)) dX2_readTrackLine_16 ⟨Nat.le_of_ble_eq_true rfl, Nat.le_of_ble_eq_true rfl⟩) hS (fun q _ h => hFc q h) hFc (fun u3 t H1 locs ht9 hvm hw hB hz1 hk1 hS => ?_)
    obtain ⟨u4, U4, V4⟩ := u3
    obtain ⟨hw5, hw6, -⟩ := hw
    have hw5 : (0 : Int) ≤ (u4 1).toInt ∧ (u4 1).toInt ≤ 1600 := hw5
    have hw6 : (0 : Int) ≤ (u4 2).toInt ∧ (u4 2).toInt ≤ 1600 := hw6
    obtain ⟨hP1, hD1⟩ := hB
    rw [ht9] at hP1
    obtain ⟨hP, hD⟩ := va_join (wr := [(a0, .inr (2, [.int i0, .int i1, .int i2, .int i3, .int i4, .int i5, .int i6, .int i7, .int i8, .ref a1, .ref a2, .ref a3, .ref a4, .ref a5]))]) (w1 := [(a26, .inr (10, [.ref a27, .int i20, .int i21, .int i22, .int (u4 0), .int (u4 1), .int (u4 2), .int (u4 3)])), (a27, .inl (cB, 1600, .inl xF21))]) hP hD [1, 2] [0] rfl rfl (by decide) (by decide) hk1 hFc hP1 hD1
    generalize H1 = H at hP hS ⊢
    have hP : va_P (dC, dI) vwCl [(a0, .inr (2, [.int i0, .int i1, .int i2, .int i3, .int i4, .int i5, .int i6, .int i7, .int i8, .ref a1, .ref a2, .ref a3, .ref a4, .ref a5])), (a26, .inr (10, [.ref a27, .int i20, .int i21, .int i22, .int (u4 0), .int (u4 1), .int (u4 2), .int (u4 3)])), (a27, .inl (cB, 1600, .inl xF21))] H := hP
    have hD : va_D A [(a0, .inr (2, [.int i0, .int i1, .int i2, .int i3, .int i4, .int i5, .int i6, .int i7, .int i8, .ref a1, .ref a2, .ref a3, .ref a4, .ref a5])), (a26, .inr (10, [.ref a27, .int i20, .int i21, .int i22, .int (u4 0), .int (u4 1), .int (u4 2), .int (u4 3)])), (a27, .inl (cB, 1600, .inl xF21))] := hD
    refine lv_aload_n hx hb dX2_readTrackLine_19 rfl (lv_at hl 0 rfl) ?_
    refine lv_dup hx hb dX2_readTrackLine_20 rfl ?_
    refine va_get (D := (dC, dI)) (ci := 2) (v := .int i3) (C := RX2) (T := TX2) (N := 14) hx hb hwd inlX2 hown hK hP 0 rfl rfl 3 (by decide) (hwd _ kr10_2) (fun _ h9 => h9) rfl dX2_readTrackLine_21 ?_
    refine lv_iconst (v := 1) hx hb dX2_readTrackLine_24 (by decide) ?_
    refine lv_iadd hx hb dX2_readTrackLine_25 ?_
    refine lv_topi (fun x7 ex7 => ?_)
    have tx7 := ia_add (a := i3) (b := (1 : Int32)) (by omega) (by omega)
    rw [← ex7] at tx7
    refine va_put (D := (dC, dI)) (ci := 2) (v := .int x7) (ty := .int) (C := RX2) (T := TX2) (N := 14) hx hb hwd inlX2 tyX2 tyX2_ok nmX2 hown hK hP hD hS 0 rfl rfl 3 (by decide) (hwd _ kr10_2) (fun _ h9 => h9) rfl (by decide +kernel) rfl rfl (Nat.le_of_ble_eq_true rfl) dX2_readTrackLine_26 (fun H locs hP hD hS => ?_)
    have hP : va_P (dC, dI) vwCl [(a0, .inr (2, [.int i0, .int i1, .int i2, .int x7, .int i4, .int i5, .int i6, .int i7, .int i8, .ref a1, .ref a2, .ref a3, .ref a4, .ref a5])), (a26, .inr (10, [.ref a27, .int i20, .int i21, .int i22, .int (u4 0), .int (u4 1), .int (u4 2), .int (u4 3)])), (a27, .inl (cB, 1600, .inl xF21))] H := hP
    have hD : va_D A [(a0, .inr (2, [.int i0, .int i1, .int i2, .int x7, .int i4, .int i5, .int i6, .int i7, .int i8, .ref a1, .ref a2, .ref a3, .ref a4, .ref a5])), (a26, .inr (10, [.ref a27, .int i20, .int i21, .int i22, .int (u4 0), .int (u4 1), .int (u4 2), .int (u4 3)])), (a27, .inl (cB, 1600, .inl xF21))] := hD
    have hP9 := hP.sub (ws' := [(a0, .inr (2, [.int i0, .int i1, .int i2, .int x7, .int i4, .int i5, .int i6, .int i7, .int i8, .ref a1, .ref a2, .ref a3, .ref a4, .ref a5])), (a26, .inr (10, [.ref a27, .int i20, .int i21, .int i22, .int (u4 0), .int (u4 1), .int (u4 2), .int (u4 3)])), (a27, .inl (cB, 1600, .inl xF21))]) [0, 1, 2] rfl
    have hD9 := hD.sub (ws' := [(a0, .inr (2, [.int i0, .int i1, .int i2, .int x7, .int i4, .int i5, .int i6, .int i7, .int i8, .ref a1, .ref a2, .ref a3, .ref a4, .ref a5])), (a26, .inr (10, [.ref a27, .int i20, .int i21, .int i22, .int (u4 0), .int (u4 1), .int (u4 2), .int (u4 3)])), (a27, .inl (cB, 1600, .inl xF21))]) [0, 1, 2] (by decide) rfl
    rw [hQ]
    exact W.vret hx hb hr (fun t ht hW => ⟨⟨(pickG 0 [x7, i21, i22, (u4 0), (u4 1), (u4 2), (u4 3)], pickG (fun _ => 0) [], pickG (fun _ => 0) []), rfl, ⟨(show (0 : Int) ≤ x7.toInt ∧ x7.toInt ≤ 6 from ⟨by omega, by omega⟩), (show (0 : Int) ≤ (u4 1).toInt ∧ (u4 1).toInt ≤ 1600 from ⟨by omega, by omega⟩), (show (0 : Int) ≤ (u4 2).toInt ∧ (u4 2).toInt ≤ 1600 from ⟨by omega, by omega⟩), trivial⟩, (by rw [ht]; exact hP9), hD9⟩, hS.F ht⟩) hS.2.2 dX2_readTrackLine_29
  · rw [ki_lt] at c1
    refine lv_aload_n hx hb dX2_readTrackLine_9 rfl (lv_at hl 1 rfl) ?_
    refine lv_iconst (v := 3) hx hb dX2_readTrackLine_10 (by decide) ?_
    have hPc := hP.sub (ws' := [(a26, .inr (10, [.ref a27, .int i20, .int i21, .int i22, .int i23, .int i24, .int i25, .int i26]))]) [1] rfl
    have hDc := hD.sub (ws' := [(a26, .inr (10, [.ref a27, .int i20, .int i21, .int i22, .int i23, .int i24, .int i25, .int i26]))]) [1] (by decide) rfl
    have hFc := va_free (wc := [(a26, .inr (10, [.ref a27, .int i20, .int i21, .int i22, .int i23, .int i24, .int i25, .int i26]))]) hD hS hA [1] rfl
    refine va_callv (va_runV (As := [.int 3]) (rest := []) ⟨hx, hb, hml, hown, hwd⟩ (s_X10_blame l dC dI cI cZ cB cJ cM cG a26 a27 i20 i21 i22 i23 i24 i25 i26 3 s.heap.size (show (0 : Int) ≤ i20.toInt ∧ i20.toInt ≤ 1600 from ⟨by omega, by omega⟩) (show (0 : Int) ≤ i24.toInt ∧ i24.toInt ≤ 1600 from ⟨by omega, by omega⟩) (show (0 : Int) ≤ i25.toInt ∧ i25.toInt ≤ 1600 from ⟨by omega, by omega⟩)) (cwV 1 hwd (gV kr16_0 kr15_12 kr15_13 kr1_15 kr15_14) rfl rfl rfl (by decide +kernel) ⟨Nat.le_of_ble_eq_true rfl, Nat.le_of_ble_eq_true rfl⟩) (kPreV hPc hK hDc (ci := 10) (q0 := 0) rfl rfl) rfl rfl hl.1 rfl (lv_room (Nat.le_of_ble_eq_true rfl)) dX2_readTrackLine_11 ⟨Nat.le_of_ble_eq_true rfl, Nat.le_of_ble_eq_true rfl⟩) hS (fun q _ h => hFc q h) hFc (fun u9 t H1 locs ht9 hvm hw hB hz1 hk1 hS => ?_)
    obtain ⟨u10, U10, V10⟩ := u9
    obtain ⟨hP1, hD1⟩ := hB
    rw [ht9] at hP1
    obtain ⟨hP, hD⟩ := va_join (wr := [(a0, .inr (2, [.int i0, .int i1, .int i2, .int i3, .int i4, .int i5, .int i6, .int i7, .int i8, .ref a1, .ref a2, .ref a3, .ref a4, .ref a5])), (a27, .inl (cB, 1600, .inl xF21))]) (w1 := [(a26, .inr (10, [.ref a27, .int i20, .int (u10 0), .int (u10 1), .int i23, .int i24, .int i25, .int i26]))]) hP hD [1] [0, 2] rfl rfl (by decide) (by decide) hk1 hFc hP1 hD1
    generalize H1 = H at hP hS ⊢
    have hP : va_P (dC, dI) vwCl [(a0, .inr (2, [.int i0, .int i1, .int i2, .int i3, .int i4, .int i5, .int i6, .int i7, .int i8, .ref a1, .ref a2, .ref a3, .ref a4, .ref a5])), (a27, .inl (cB, 1600, .inl xF21)), (a26, .inr (10, [.ref a27, .int i20, .int (u10 0), .int (u10 1), .int i23, .int i24, .int i25, .int i26]))] H := hP
    have hD : va_D A [(a0, .inr (2, [.int i0, .int i1, .int i2, .int i3, .int i4, .int i5, .int i6, .int i7, .int i8, .ref a1, .ref a2, .ref a3, .ref a4, .ref a5])), (a27, .inl (cB, 1600, .inl xF21)), (a26, .inr (10, [.ref a27, .int i20, .int (u10 0), .int (u10 1), .int i23, .int i24, .int i25, .int i26]))] := hD
    have hP9 := hP.sub (ws' := [(a0, .inr (2, [.int i0, .int i1, .int i2, .int i3, .int i4, .int i5, .int i6, .int i7, .int i8, .ref a1, .ref a2, .ref a3, .ref a4, .ref a5])), (a26, .inr (10, [.ref a27, .int i20, .int (u10 0), .int (u10 1), .int i23, .int i24, .int i25, .int i26])), (a27, .inl (cB, 1600, .inl xF21))]) [0, 2, 1] rfl
    have hD9 := hD.sub (ws' := [(a0, .inr (2, [.int i0, .int i1, .int i2, .int i3, .int i4, .int i5, .int i6, .int i7, .int i8, .ref a1, .ref a2, .ref a3, .ref a4, .ref a5])), (a26, .inr (10, [.ref a27, .int i20, .int (u10 0), .int (u10 1), .int i23, .int i24, .int i25, .int i26])), (a27, .inl (cB, 1600, .inl xF21))]) [0, 2, 1] (by decide) rfl
    rw [hQ]
    exact W.vret hx hb hr (fun t ht hW => ⟨⟨(pickG 0 [i3, (u10 0), (u10 1), i23, i24, i25, i26], pickG (fun _ => 0) [], pickG (fun _ => 0) []), rfl, ⟨(show (0 : Int) ≤ i3.toInt ∧ i3.toInt ≤ 6 from ⟨by omega, by omega⟩), (show (0 : Int) ≤ i24.toInt ∧ i24.toInt ≤ 1600 from ⟨by omega, by omega⟩), (show (0 : Int) ≤ i25.toInt ∧ i25.toInt ≤ 1600 from ⟨by omega, by omega⟩), trivial⟩, (by rw [ht]; exact hP9), hD9⟩, hS.F ht⟩) hS.2.2 dX2_readTrackLine_14
theorem dX2_readGearLine_0 : decode cX2_readGearLine 0 = .ok (.aload_n 0, 1) := by decide +kernel
theorem dX2_readGearLine_1 : decode cX2_readGearLine 1 = .ok (.getfield 84, 3) := by decide +kernel
theorem dX2_readGearLine_4 : decode cX2_readGearLine 4 = .ok (.ifCond .eq 9, 3) := by decide +kernel
theorem dX2_readGearLine_7 : decode cX2_readGearLine 7 = .ok (.aload_n 1, 1) := by decide +kernel
theorem dX2_readGearLine_8 : decode cX2_readGearLine 8 = .ok (.iconst 2, 1) := by decide +kernel
theorem dX2_readGearLine_9 : decode cX2_readGearLine 9 = .ok (.invokevirtual 163, 3) := by decide +kernel
theorem dX2_readGearLine_12 : decode cX2_readGearLine 12 = .ok (.return_, 1) := by decide +kernel
theorem dX2_readGearLine_13 : decode cX2_readGearLine 13 = .ok (.aload_n 1, 1) := by decide +kernel
theorem dX2_readGearLine_14 : decode cX2_readGearLine 14 = .ok (.invokevirtual 167, 3) := by decide +kernel
theorem dX2_readGearLine_17 : decode cX2_readGearLine 17 = .ok (.aload_n 0, 1) := by decide +kernel
theorem dX2_readGearLine_18 : decode cX2_readGearLine 18 = .ok (.aload_n 1, 1) := by decide +kernel
theorem dX2_readGearLine_19 : decode cX2_readGearLine 19 = .ok (.iconst 1, 1) := by decide +kernel
theorem dX2_readGearLine_20 : decode cX2_readGearLine 20 = .ok (.bipush 60, 2) := by decide +kernel
theorem dX2_readGearLine_22 : decode cX2_readGearLine 22 = .ok (.invokevirtual 158, 3) := by decide +kernel
theorem dX2_readGearLine_25 : decode cX2_readGearLine 25 = .ok (.putfield 64, 3) := by decide +kernel
theorem dX2_readGearLine_28 : decode cX2_readGearLine 28 = .ok (.aload_n 1, 1) := by decide +kernel
theorem dX2_readGearLine_29 : decode cX2_readGearLine 29 = .ok (.ldc 170, 2) := by decide +kernel
theorem dX2_readGearLine_31 : decode cX2_readGearLine 31 = .ok (.invokevirtual 153, 3) := by decide +kernel
theorem dX2_readGearLine_34 : decode cX2_readGearLine 34 = .ok (.aload_n 0, 1) := by decide +kernel
theorem dX2_readGearLine_35 : decode cX2_readGearLine 35 = .ok (.aload_n 1, 1) := by decide +kernel
theorem dX2_readGearLine_36 : decode cX2_readGearLine 36 = .ok (.iconst 1, 1) := by decide +kernel
theorem dX2_readGearLine_37 : decode cX2_readGearLine 37 = .ok (.bipush 60, 2) := by decide +kernel
theorem dX2_readGearLine_39 : decode cX2_readGearLine 39 = .ok (.invokevirtual 158, 3) := by decide +kernel
theorem dX2_readGearLine_42 : decode cX2_readGearLine 42 = .ok (.putfield 61, 3) := by decide +kernel
theorem dX2_readGearLine_45 : decode cX2_readGearLine 45 = .ok (.aload_n 0, 1) := by decide +kernel
theorem dX2_readGearLine_46 : decode cX2_readGearLine 46 = .ok (.iconst 1, 1) := by decide +kernel
theorem dX2_readGearLine_47 : decode cX2_readGearLine 47 = .ok (.putfield 84, 3) := by decide +kernel
theorem dX2_readGearLine_50 : decode cX2_readGearLine 50 = .ok (.return_, 1) := by decide +kernel
set_option maxHeartbeats 4000000 in
set_option maxRecDepth 100000 in
theorem s_X2_readGearLine (l : Launch) (dC : Nat → ClassId) (dI : Nat → Nat → Nat) (cI cZ cB cJ cM cG : ClassId) (a0 a1 a2 a3 a4 a5 a26 a27 : Nat) (i0 i1 i2 i3 i4 i5 i6 i7 i8 i20 i21 i22 i23 i24 i25 i26 : Int32) (xF21 : Nat → Int32) (sz : Nat) (p_0 : (0 : Int) ≤ i0.toInt ∧ i0.toInt ≤ 60) (p_1 : (0 : Int) ≤ i3.toInt ∧ i3.toInt ≤ 6) (p_2 : (0 : Int) ≤ i5.toInt ∧ i5.toInt ≤ 1) (p_3 : (0 : Int) ≤ i8.toInt ∧ i8.toInt ≤ 1) (p_4 : (0 : Int) ≤ i20.toInt ∧ i20.toInt ≤ 1600) (p_5 : (0 : Int) ≤ i24.toInt ∧ i24.toInt ≤ 1600) (p_6 : (0 : Int) ≤ i25.toInt ∧ i25.toInt ≤ 1600) : Met l yX2_readGearLine (kw yX2_readGearLine cX2_readGearLine 2 none) ({ frames := 6, cells := 0, slots := 0, locals := 128 } : Room) (va_Pc [.ref a0, .ref a26] (kPreX dC dI [(cI, .int), (cZ, .boolean), (cB, .byte), (cJ, .long), (cM, .object RX2), (cG, .array .int)] [(a0, .inr (2, [.int i0, .int i1, .int i2, .int i3, .int i4, .int i5, .int i6, .int i7, .int i8, .ref a1, .ref a2, .ref a3, .ref a4, .ref a5])), (a26, .inr (10, [.ref a27, .int i20, .int i21, .int i22, .int i23, .int i24, .int i25, .int i26])), (a27, .inl (cB, 1600, .inl xF21))] sz NT)) (va_Qv (fun (u9 : (Nat → Int32) × (Nat → Nat → Int32) × (Nat → Nat → Int64)) => ((0 : Int) ≤ (u9.1 2).toInt ∧ (u9.1 2).toInt ≤ 1) ∧ ((0 : Int) ≤ (u9.1 6).toInt ∧ (u9.1 6).toInt ≤ 1600) ∧ ((0 : Int) ≤ (u9.1 7).toInt ∧ (u9.1 7).toInt ≤ 1600) ∧ True) (fun u9 t => va_P (dC, dI) vwCl [(a0, .inr (2, [.int i0, .int i1, .int i2, .int i3, .int i4, .int i5, .int (u9.1 0), .int (u9.1 1), .int (u9.1 2), .ref a1, .ref a2, .ref a3, .ref a4, .ref a5])), (a26, .inr (10, [.ref a27, .int i20, .int (u9.1 3), .int (u9.1 4), .int (u9.1 5), .int (u9.1 6), .int (u9.1 7), .int (u9.1 8)])), (a27, .inl (cB, 1600, .inl xF21))] t.heap ∧ va_D (va_A [(a0, .inr (2, [.int i0, .int i1, .int i2, .int i3, .int i4, .int i5, .int i6, .int i7, .int i8, .ref a1, .ref a2, .ref a3, .ref a4, .ref a5])), (a26, .inr (10, [.ref a27, .int i20, .int i21, .int i22, .int i23, .int i24, .int i25, .int i26])), (a27, .inl (cB, 1600, .inl xF21))] sz) [(a0, .inr (2, [.int i0, .int i1, .int i2, .int i3, .int i4, .int i5, .int (u9.1 0), .int (u9.1 1), .int (u9.1 2), .ref a1, .ref a2, .ref a3, .ref a4, .ref a5])), (a26, .inr (10, [.ref a27, .int i20, .int (u9.1 3), .int (u9.1 4), .int (u9.1 5), .int (u9.1 6), .int (u9.1 7), .int (u9.1 8)])), (a27, .inl (cB, 1600, .inl xF21))]) (va_A [(a0, .inr (2, [.int i0, .int i1, .int i2, .int i3, .int i4, .int i5, .int i6, .int i7, .int i8, .ref a1, .ref a2, .ref a3, .ref a4, .ref a5])), (a26, .inr (10, [.ref a27, .int i20, .int i21, .int i22, .int i23, .int i24, .int i25, .int i26])), (a27, .inl (cB, 1600, .inl xF21))] sz)) 0 0 (va_A [(a0, .inr (2, [.int i0, .int i1, .int i2, .int i3, .int i4, .int i5, .int i6, .int i7, .int i8, .ref a1, .ref a2, .ref a3, .ref a4, .ref a5])), (a26, .inr (10, [.ref a27, .int i20, .int i21, .int i22, .int i23, .int i24, .int i25, .int i26])), (a27, .inl (cB, 1600, .inl xF21))] sz) := by
  refine kEnterX (by decide) (Nat.le_of_ble_eq_true rfl) ?_
  intro p e s m below meth c ls hx hb hr hml hown hlocks hin hwd hsz hP hK hD hN hl
  subst hsz
  generalize hAe : va_A [(a0, .inr (2, [.int i0, .int i1, .int i2, .int i3, .int i4, .int i5, .int i6, .int i7, .int i8, .ref a1, .ref a2, .ref a3, .ref a4, .ref a5])), (a26, .inr (10, [.ref a27, .int i20, .int i21, .int i22, .int i23, .int i24, .int i25, .int i26])), (a27, .inl (cB, 1600, .inl xF21))] s.heap.size = A at hD hN ⊢
  have hA : ∀ q : Nat, s.heap.size ≤ q → A q := fun q h => by rw [← hAe]; exact Or.inr h
  have hS : va_S A s.heap s.heap [] := va_S.rf
  have hl : lv_has ls 2 [(0, .ref a0), (1, .ref a26)] := hl
  obtain ⟨Q, hQ⟩ : ∃ Q, Q = MQ below (va_Qv (fun (u9 : (Nat → Int32) × (Nat → Nat → Int32) × (Nat → Nat → Int64)) => ((0 : Int) ≤ (u9.1 2).toInt ∧ (u9.1 2).toInt ≤ 1) ∧ ((0 : Int) ≤ (u9.1 6).toInt ∧ (u9.1 6).toInt ≤ 1600) ∧ ((0 : Int) ≤ (u9.1 7).toInt ∧ (u9.1 7).toInt ≤ 1600) ∧ True) (fun u9 t => va_P (dC, dI) vwCl [(a0, .inr (2, [.int i0, .int i1, .int i2, .int i3, .int i4, .int i5, .int (u9.1 0), .int (u9.1 1), .int (u9.1 2), .ref a1, .ref a2, .ref a3, .ref a4, .ref a5])), (a26, .inr (10, [.ref a27, .int i20, .int (u9.1 3), .int (u9.1 4), .int (u9.1 5), .int (u9.1 6), .int (u9.1 7), .int (u9.1 8)])), (a27, .inl (cB, 1600, .inl xF21))] t.heap ∧ va_D A [(a0, .inr (2, [.int i0, .int i1, .int i2, .int i3, .int i4, .int i5, .int (u9.1 0), .int (u9.1 1), .int (u9.1 2), .ref a1, .ref a2, .ref a3, .ref a4, .ref a5])), (a26, .inr (10, [.ref a27, .int i20, .int (u9.1 3), .int (u9.1 4), .int (u9.1 5), .int (u9.1 6), .int (u9.1 7), .int (u9.1 8)])), (a27, .inl (cB, 1600, .inl xF21))]) A) ([.ref a0, .ref a26] : List Value).toArray s 0 0 A := ⟨_, rfl⟩
  rw [← hQ]
  have k0 : (0 : Int32).toInt = 0 := by decide
  have k1 : (1 : Int32).toInt = 1 := by decide
  have k60 : (60 : Int32).toInt = 60 := by decide
  obtain ⟨sa170, sav170, sn170, sf170, hsn170, hR170, hks170⟩ := hN.2 _ rf_RX2_170
  have hN170 : NS sa170 sav170 sn170 sf170 A s := ⟨hN.1, hsn170.1, hks170⟩
  refine lv_aload_n hx hb dX2_readGearLine_0 rfl (lv_at hl 0 rfl) ?_
  refine va_get (D := (dC, dI)) (ci := 2) (v := .int i8) (C := RX2) (T := TX2) (N := 14) hx hb hwd inlX2 hown hK hP 0 rfl rfl 8 (by decide) (hwd _ kr10_7) (fun _ h9 => h9) rfl dX2_readGearLine_1 ?_
  refine lv_if_eq (tgt := 13) hx hb dX2_readGearLine_4 (by decide) (fun c1 => ?_) (fun c1 => ?_)
  · rw [ki_eq] at c1
    refine lv_aload_n hx hb dX2_readGearLine_13 rfl (lv_at hl 1 rfl) ?_
    have hPc := hP.sub (ws' := [(a26, .inr (10, [.ref a27, .int i20, .int i21, .int i22, .int i23, .int i24, .int i25, .int i26])), (a27, .inl (cB, 1600, .inl xF21))]) [1, 2] rfl
    have hDc := hD.sub (ws' := [(a26, .inr (10, [.ref a27, .int i20, .int i21, .int i22, .int i23, .int i24, .int i25, .int i26])), (a27, .inl (cB, 1600, .inl xF21))]) [1, 2] (by decide) rfl
    have hFc := va_free (wc := [(a26, .inr (10, [.ref a27, .int i20, .int i21, .int i22, .int i23, .int i24, .int i25, .int i26])), (a27, .inl (cB, 1600, .inl xF21))]) hD hS hA [1, 2] rfl
    refine va_callv (va_runV (As := []) (rest := []) ⟨hx, hb, hml, hown, hwd⟩ (s_X10_readToken l dC dI cI cZ cB cJ cM cG a26 a27 i20 i21 i22 i23 i24 i25 i26 xF21 s.heap.size (show (0 : Int) ≤ i20.toInt ∧ i20.toInt ≤ 1600 from ⟨by omega, by omega⟩) (show (0 : Int) ≤ i24.toInt ∧ i24.toInt ≤ 1600 from ⟨by omega, by omega⟩) (show (0 : Int) ≤ i25.toInt ∧ i25.toInt ≤ 1600 from ⟨by omega, by omega⟩)) (cwV 0 hwd (gV kr16_1 kr11_5 kr11_6 kr1_15 kr11_7) rfl rfl rfl (by decide +kernel) ⟨Nat.le_of_ble_eq_true rfl, Nat.le_of_ble_eq_true rfl⟩) (kPreV hPc hK hDc (ci := 10) (q0 := 0) rfl rfl) rfl rfl hl.1 rfl (lv_room (Nat.le_of_ble_eq_true rfl)) dX2_readGearLine_14 ⟨Nat.le_of_ble_eq_true rfl, Nat.le_of_ble_eq_true rfl⟩) hS (fun q _ h => hFc q h) hFc (fun u3 t H1 locs ht9 hvm hw hB hz1 hk1 hS => ?_)
    obtain ⟨u4, U4, V4⟩ := u3
    obtain ⟨hw5, hw6, -⟩ := hw
    have hw5 : (0 : Int) ≤ (u4 1).toInt ∧ (u4 1).toInt ≤ 1600 := hw5
    have hw6 : (0 : Int) ≤ (u4 2).toInt ∧ (u4 2).toInt ≤ 1600 := hw6
    obtain ⟨hP1, hD1⟩ := hB
    rw [ht9] at hP1
    obtain ⟨hP, hD⟩ := va_join (wr := [(a0, .inr (2, [.int i0, .int i1, .int i2, .int i3, .int i4, .int i5, .int i6, .int i7, .int i8, .ref a1, .ref a2, .ref a3, .ref a4, .ref a5]))]) (w1 := [(a26, .inr (10, [.ref a27, .int i20, .int i21, .int i22, .int (u4 0), .int (u4 1), .int (u4 2), .int (u4 3)])), (a27, .inl (cB, 1600, .inl xF21))]) hP hD [1, 2] [0] rfl rfl (by decide) (by decide) hk1 hFc hP1 hD1
    generalize H1 = H at hP hS ⊢
    have hP : va_P (dC, dI) vwCl [(a0, .inr (2, [.int i0, .int i1, .int i2, .int i3, .int i4, .int i5, .int i6, .int i7, .int i8, .ref a1, .ref a2, .ref a3, .ref a4, .ref a5])), (a26, .inr (10, [.ref a27, .int i20, .int i21, .int i22, .int (u4 0), .int (u4 1), .int (u4 2), .int (u4 3)])), (a27, .inl (cB, 1600, .inl xF21))] H := hP
    have hD : va_D A [(a0, .inr (2, [.int i0, .int i1, .int i2, .int i3, .int i4, .int i5, .int i6, .int i7, .int i8, .ref a1, .ref a2, .ref a3, .ref a4, .ref a5])), (a26, .inr (10, [.ref a27, .int i20, .int i21, .int i22, .int (u4 0), .int (u4 1), .int (u4 2), .int (u4 3)])), (a27, .inl (cB, 1600, .inl xF21))] := hD
    refine lv_aload_n hx hb dX2_readGearLine_17 rfl (lv_at hl 0 rfl) ?_
    refine lv_aload_n hx hb dX2_readGearLine_18 rfl (lv_at hl 1 rfl) ?_
    refine lv_iconst (v := 1) hx hb dX2_readGearLine_19 (by decide) ?_
    refine lv_bipush (v := 60) hx hb dX2_readGearLine_20 (by decide) ?_
    have hPc := hP.sub (ws' := [(a26, .inr (10, [.ref a27, .int i20, .int i21, .int i22, .int (u4 0), .int (u4 1), .int (u4 2), .int (u4 3)])), (a27, .inl (cB, 1600, .inl xF21))]) [1, 2] rfl
    have hDc := hD.sub (ws' := [(a26, .inr (10, [.ref a27, .int i20, .int i21, .int i22, .int (u4 0), .int (u4 1), .int (u4 2), .int (u4 3)])), (a27, .inl (cB, 1600, .inl xF21))]) [1, 2] (by decide) rfl
    have hFc := va_free (wc := [(a26, .inr (10, [.ref a27, .int i20, .int i21, .int i22, .int (u4 0), .int (u4 1), .int (u4 2), .int (u4 3)])), (a27, .inl (cB, 1600, .inl xF21))]) hD hS hA [1, 2] rfl
    refine va_calli (va_runV (As := [.int 1, .int 60]) (rest := [.ref a0]) ⟨hx, hb, hml, hown, hwd⟩ (s_X10_takeNumber l dC dI cI cZ cB cJ cM cG a26 a27 i20 i21 i22 (u4 0) (u4 1) (u4 2) (u4 3) xF21 1 60 H.size (show (0 : Int) ≤ i20.toInt ∧ i20.toInt ≤ 1600 from ⟨by omega, by omega⟩) (show (0 : Int) ≤ (u4 1).toInt ∧ (u4 1).toInt ≤ 1600 from ⟨by omega, by omega⟩) (show (0 : Int) ≤ (u4 2).toInt ∧ (u4 2).toInt ≤ 1600 from ⟨by omega, by omega⟩)) (cwV 2 hwd (gV kr15_15 kr15_16 kr15_17 kr1_15 kr15_18) rfl rfl rfl (by decide +kernel) ⟨Nat.le_of_ble_eq_true rfl, Nat.le_of_ble_eq_true rfl⟩) (kPreV hPc hK hDc (ci := 10) (q0 := 0) rfl rfl) rfl rfl hl.1 rfl (lv_room (Nat.le_of_ble_eq_true rfl)) dX2_readGearLine_22 ⟨Nat.le_of_ble_eq_true rfl, Nat.le_of_ble_eq_true rfl⟩) hS (fun q _ h => hFc q h) hFc (fun r7 u8 t H1 locs ht9 hvm hw hB hz1 hk1 hS => ?_)
    obtain ⟨u9, U9, V9⟩ := u8
    obtain ⟨hw10, hw11, hw12, -⟩ := hw
    have hw10 : (1 : Int32).toInt ≤ r7.toInt ∧ (r7.toInt ≤ (1 : Int32).toInt ∨ r7.toInt ≤ (60 : Int32).toInt) := hw10
    have hw11 : (0 : Int) ≤ (u9 3).toInt ∧ (u9 3).toInt ≤ 1600 := hw11
    have hw12 : (0 : Int) ≤ (u9 4).toInt ∧ (u9 4).toInt ≤ 1600 := hw12
    obtain ⟨hP1, hD1⟩ := hB
    rw [ht9] at hP1
    obtain ⟨hP, hD⟩ := va_join (wr := [(a0, .inr (2, [.int i0, .int i1, .int i2, .int i3, .int i4, .int i5, .int i6, .int i7, .int i8, .ref a1, .ref a2, .ref a3, .ref a4, .ref a5]))]) (w1 := [(a26, .inr (10, [.ref a27, .int i20, .int (u9 0), .int (u9 1), .int (u9 2), .int (u9 3), .int (u9 4), .int (u9 5)])), (a27, .inl (cB, 1600, .inl xF21))]) hP hD [1, 2] [0] rfl rfl (by decide) (by decide) hk1 hFc hP1 hD1
    generalize H1 = H at hP hS ⊢
    have hP : va_P (dC, dI) vwCl [(a0, .inr (2, [.int i0, .int i1, .int i2, .int i3, .int i4, .int i5, .int i6, .int i7, .int i8, .ref a1, .ref a2, .ref a3, .ref a4, .ref a5])), (a26, .inr (10, [.ref a27, .int i20, .int (u9 0), .int (u9 1), .int (u9 2), .int (u9 3), .int (u9 4), .int (u9 5)])), (a27, .inl (cB, 1600, .inl xF21))] H := hP
    have hD : va_D A [(a0, .inr (2, [.int i0, .int i1, .int i2, .int i3, .int i4, .int i5, .int i6, .int i7, .int i8, .ref a1, .ref a2, .ref a3, .ref a4, .ref a5])), (a26, .inr (10, [.ref a27, .int i20, .int (u9 0), .int (u9 1), .int (u9 2), .int (u9 3), .int (u9 4), .int (u9 5)])), (a27, .inl (cB, 1600, .inl xF21))] := hD
    refine va_put (D := (dC, dI)) (ci := 2) (v := .int r7) (ty := .int) (C := RX2) (T := TX2) (N := 14) hx hb hwd inlX2 tyX2 tyX2_ok nmX2 hown hK hP hD hS 0 rfl rfl 6 (by decide) (hwd _ kr10_5) (fun _ h9 => h9) rfl (by decide +kernel) rfl rfl (Nat.le_of_ble_eq_true rfl) dX2_readGearLine_25 (fun H locs hP hD hS => ?_)
    have hP : va_P (dC, dI) vwCl [(a0, .inr (2, [.int i0, .int i1, .int i2, .int i3, .int i4, .int i5, .int r7, .int i7, .int i8, .ref a1, .ref a2, .ref a3, .ref a4, .ref a5])), (a26, .inr (10, [.ref a27, .int i20, .int (u9 0), .int (u9 1), .int (u9 2), .int (u9 3), .int (u9 4), .int (u9 5)])), (a27, .inl (cB, 1600, .inl xF21))] H := hP
    have hD : va_D A [(a0, .inr (2, [.int i0, .int i1, .int i2, .int i3, .int i4, .int i5, .int r7, .int i7, .int i8, .ref a1, .ref a2, .ref a3, .ref a4, .ref a5])), (a26, .inr (10, [.ref a27, .int i20, .int (u9 0), .int (u9 1), .int (u9 2), .int (u9 3), .int (u9 4), .int (u9 5)])), (a27, .inl (cB, 1600, .inl xF21))] := hD
    refine lv_aload_n hx hb dX2_readGearLine_28 rfl (lv_at hl 1 rfl) ?_
    refine va_ldcS hx hb hown hR170 dX2_readGearLine_29 ?_
    have hPc := hP.sub (ws' := [(a26, .inr (10, [.ref a27, .int i20, .int (u9 0), .int (u9 1), .int (u9 2), .int (u9 3), .int (u9 4), .int (u9 5)])), (a27, .inl (cB, 1600, .inl xF21))]) [1, 2] rfl
    have hDc := hD.sub (ws' := [(a26, .inr (10, [.ref a27, .int i20, .int (u9 0), .int (u9 1), .int (u9 2), .int (u9 3), .int (u9 4), .int (u9 5)])), (a27, .inl (cB, 1600, .inl xF21))]) [1, 2] (by decide) rfl
    have hFc := va_free (wc := [(a26, .inr (10, [.ref a27, .int i20, .int (u9 0), .int (u9 1), .int (u9 2), .int (u9 3), .int (u9 4), .int (u9 5)])), (a27, .inl (cB, 1600, .inl xF21))]) hD hS hA [1, 2] rfl
    refine va_callv (va_runV (As := [.ref sa170]) (rest := []) ⟨hx, hb, hml, hown, hwd⟩ (s_X10_takeWord l dC dI cI cZ cB cJ cM cG a26 a27 i20 (u9 0) (u9 1) (u9 2) (u9 3) (u9 4) (u9 5) xF21 sa170 sav170 sn170 sf170 H.size (show (0 : Int) ≤ i20.toInt ∧ i20.toInt ≤ 1600 from ⟨by omega, by omega⟩) (show (0 : Int) ≤ (u9 3).toInt ∧ (u9 3).toInt ≤ 1600 from ⟨by omega, by omega⟩) (show (0 : Int) ≤ (u9 4).toInt ∧ (u9 4).toInt ≤ 1600 from ⟨by omega, by omega⟩)) (cwV 1 hwd (gV kr13_2 kr13_3 kr13_4 kr1_15 kr13_5) rfl rfl rfl (by decide +kernel) ⟨Nat.le_of_ble_eq_true rfl, Nat.le_of_ble_eq_true rfl⟩) (kPreVX hPc hK hDc (NS_st _ _ _ _) hN170 hS hFc (ci := 10) (q0 := 0) rfl rfl) rfl rfl hl.1 rfl (lv_room (Nat.le_of_ble_eq_true rfl)) dX2_readGearLine_31 ⟨Nat.le_of_ble_eq_true rfl, Nat.le_of_ble_eq_true rfl⟩) hS (fun q _ h => hFc q h) hFc (fun u14 t H1 locs ht9 hvm hw hB hz1 hk1 hS => ?_)
    obtain ⟨u15, U15, V15⟩ := u14
    obtain ⟨hw16, hw17, -⟩ := hw
    have hw16 : (0 : Int) ≤ (u15 3).toInt ∧ (u15 3).toInt ≤ 1600 := hw16
    have hw17 : (0 : Int) ≤ (u15 4).toInt ∧ (u15 4).toInt ≤ 1600 := hw17
    obtain ⟨hP1, hD1⟩ := hB
    rw [ht9] at hP1
    obtain ⟨hP, hD⟩ := va_join (wr := [(a0, .inr (2, [.int i0, .int i1, .int i2, .int i3, .int i4, .int i5, .int r7, .int i7, .int i8, .ref a1, .ref a2, .ref a3, .ref a4, .ref a5]))]) (w1 := [(a26, .inr (10, [.ref a27, .int i20, .int (u15 0), .int (u15 1), .int (u15 2), .int (u15 3), .int (u15 4), .int (u15 5)])), (a27, .inl (cB, 1600, .inl xF21))]) hP hD [1, 2] [0] rfl rfl (by decide) (by decide) hk1 hFc hP1 hD1
    generalize H1 = H at hP hS ⊢
    have hP : va_P (dC, dI) vwCl [(a0, .inr (2, [.int i0, .int i1, .int i2, .int i3, .int i4, .int i5, .int r7, .int i7, .int i8, .ref a1, .ref a2, .ref a3, .ref a4, .ref a5])), (a26, .inr (10, [.ref a27, .int i20, .int (u15 0), .int (u15 1), .int (u15 2), .int (u15 3), .int (u15 4), .int (u15 5)])), (a27, .inl (cB, 1600, .inl xF21))] H := hP
    have hD : va_D A [(a0, .inr (2, [.int i0, .int i1, .int i2, .int i3, .int i4, .int i5, .int r7, .int i7, .int i8, .ref a1, .ref a2, .ref a3, .ref a4, .ref a5])), (a26, .inr (10, [.ref a27, .int i20, .int (u15 0), .int (u15 1), .int (u15 2), .int (u15 3), .int (u15 4), .int (u15 5)])), (a27, .inl (cB, 1600, .inl xF21))] := hD
    refine lv_aload_n hx hb dX2_readGearLine_34 rfl (lv_at hl 0 rfl) ?_
    refine lv_aload_n hx hb dX2_readGearLine_35 rfl (lv_at hl 1 rfl) ?_
    refine lv_iconst (v := 1) hx hb dX2_readGearLine_36 (by decide) ?_
    refine lv_bipush (v := 60) hx hb dX2_readGearLine_37 (by decide) ?_
    have hPc := hP.sub (ws' := [(a26, .inr (10, [.ref a27, .int i20, .int (u15 0), .int (u15 1), .int (u15 2), .int (u15 3), .int (u15 4), .int (u15 5)])), (a27, .inl (cB, 1600, .inl xF21))]) [1, 2] rfl
    have hDc := hD.sub (ws' := [(a26, .inr (10, [.ref a27, .int i20, .int (u15 0), .int (u15 1), .int (u15 2), .int (u15 3), .int (u15 4), .int (u15 5)])), (a27, .inl (cB, 1600, .inl xF21))]) [1, 2] (by decide) rfl
    have hFc := va_free (wc := [(a26, .inr (10, [.ref a27, .int i20, .int (u15 0), .int (u15 1), .int (u15 2), .int (u15 3), .int (u15 4), .int (u15 5)])), (a27, .inl (cB, 1600, .inl xF21))]) hD hS hA [1, 2] rfl
    refine va_calli (va_runV (As := [.int 1, .int 60]) (rest := [.ref a0]) ⟨hx, hb, hml, hown, hwd⟩ (s_X10_takeNumber l dC dI cI cZ cB cJ cM cG a26 a27 i20 (u15 0) (u15 1) (u15 2) (u15 3) (u15 4) (u15 5) xF21 1 60 H.size (show (0 : Int) ≤ i20.toInt ∧ i20.toInt ≤ 1600 from ⟨by omega, by omega⟩) (show (0 : Int) ≤ (u15 3).toInt ∧ (u15 3).toInt ≤ 1600 from ⟨by omega, by omega⟩) (show (0 : Int) ≤ (u15 4).toInt ∧ (u15 4).toInt ≤ 1600 from ⟨by omega, by omega⟩)) (cwV 2 hwd (gV kr15_15 kr15_16 kr15_17 kr1_15 kr15_18) rfl rfl rfl (by decide +kernel) ⟨Nat.le_of_ble_eq_true rfl, Nat.le_of_ble_eq_true rfl⟩) (kPreV hPc hK hDc (ci := 10) (q0 := 0) rfl rfl) rfl rfl hl.1 rfl (lv_room (Nat.le_of_ble_eq_true rfl)) dX2_readGearLine_39 ⟨Nat.le_of_ble_eq_true rfl, Nat.le_of_ble_eq_true rfl⟩) hS (fun q _ h => hFc q h) hFc (fun r18 u19 t H1 locs ht9 hvm hw hB hz1 hk1 hS => ?_)
    obtain ⟨u20, U20, V20⟩ := u19
    obtain ⟨hw21, hw22, hw23, -⟩ := hw
    have hw21 : (1 : Int32).toInt ≤ r18.toInt ∧ (r18.toInt ≤ (1 : Int32).toInt ∨ r18.toInt ≤ (60 : Int32).toInt) := hw21
    have hw22 : (0 : Int) ≤ (u20 3).toInt ∧ (u20 3).toInt ≤ 1600 := hw22
    have hw23 : (0 : Int) ≤ (u20 4).toInt ∧ (u20 4).toInt ≤ 1600 := hw23
    obtain ⟨hP1, hD1⟩ := hB
    rw [ht9] at hP1
    obtain ⟨hP, hD⟩ := va_join (wr := [(a0, .inr (2, [.int i0, .int i1, .int i2, .int i3, .int i4, .int i5, .int r7, .int i7, .int i8, .ref a1, .ref a2, .ref a3, .ref a4, .ref a5]))]) (w1 := [(a26, .inr (10, [.ref a27, .int i20, .int (u20 0), .int (u20 1), .int (u20 2), .int (u20 3), .int (u20 4), .int (u20 5)])), (a27, .inl (cB, 1600, .inl xF21))]) hP hD [1, 2] [0] rfl rfl (by decide) (by decide) hk1 hFc hP1 hD1
    generalize H1 = H at hP hS ⊢
    have hP : va_P (dC, dI) vwCl [(a0, .inr (2, [.int i0, .int i1, .int i2, .int i3, .int i4, .int i5, .int r7, .int i7, .int i8, .ref a1, .ref a2, .ref a3, .ref a4, .ref a5])), (a26, .inr (10, [.ref a27, .int i20, .int (u20 0), .int (u20 1), .int (u20 2), .int (u20 3), .int (u20 4), .int (u20 5)])), (a27, .inl (cB, 1600, .inl xF21))] H := hP
    have hD : va_D A [(a0, .inr (2, [.int i0, .int i1, .int i2, .int i3, .int i4, .int i5, .int r7, .int i7, .int i8, .ref a1, .ref a2, .ref a3, .ref a4, .ref a5])), (a26, .inr (10, [.ref a27, .int i20, .int (u20 0), .int (u20 1), .int (u20 2), .int (u20 3), .int (u20 4), .int (u20 5)])), (a27, .inl (cB, 1600, .inl xF21))] := hD
    refine va_put (D := (dC, dI)) (ci := 2) (v := .int r18) (ty := .int) (C := RX2) (T := TX2) (N := 14) hx hb hwd inlX2 tyX2 tyX2_ok nmX2 hown hK hP hD hS 0 rfl rfl 7 (by decide) (hwd _ kr10_6) (fun _ h9 => h9) rfl (by decide +kernel) rfl rfl (Nat.le_of_ble_eq_true rfl) dX2_readGearLine_42 (fun H locs hP hD hS => ?_)
    have hP : va_P (dC, dI) vwCl [(a0, .inr (2, [.int i0, .int i1, .int i2, .int i3, .int i4, .int i5, .int r7, .int r18, .int i8, .ref a1, .ref a2, .ref a3, .ref a4, .ref a5])), (a26, .inr (10, [.ref a27, .int i20, .int (u20 0), .int (u20 1), .int (u20 2), .int (u20 3), .int (u20 4), .int (u20 5)])), (a27, .inl (cB, 1600, .inl xF21))] H := hP
    have hD : va_D A [(a0, .inr (2, [.int i0, .int i1, .int i2, .int i3, .int i4, .int i5, .int r7, .int r18, .int i8, .ref a1, .ref a2, .ref a3, .ref a4, .ref a5])), (a26, .inr (10, [.ref a27, .int i20, .int (u20 0), .int (u20 1), .int (u20 2), .int (u20 3), .int (u20 4), .int (u20 5)])), (a27, .inl (cB, 1600, .inl xF21))] := hD
    refine lv_aload_n hx hb dX2_readGearLine_45 rfl (lv_at hl 0 rfl) ?_
    refine lv_iconst (v := 1) hx hb dX2_readGearLine_46 (by decide) ?_
    refine va_put (D := (dC, dI)) (ci := 2) (v := .int 1) (ty := .boolean) (C := RX2) (T := TX2) (N := 14) hx hb hwd inlX2 tyX2 tyX2_ok nmX2 hown hK hP hD hS 0 rfl rfl 8 (by decide) (hwd _ kr10_7) (fun _ h9 => h9) rfl (by decide +kernel) rfl rfl (Nat.le_of_ble_eq_true rfl) dX2_readGearLine_47 (fun H locs hP hD hS => ?_)
    have hP : va_P (dC, dI) vwCl [(a0, .inr (2, [.int i0, .int i1, .int i2, .int i3, .int i4, .int i5, .int r7, .int r18, .int 1, .ref a1, .ref a2, .ref a3, .ref a4, .ref a5])), (a26, .inr (10, [.ref a27, .int i20, .int (u20 0), .int (u20 1), .int (u20 2), .int (u20 3), .int (u20 4), .int (u20 5)])), (a27, .inl (cB, 1600, .inl xF21))] H := hP
    have hD : va_D A [(a0, .inr (2, [.int i0, .int i1, .int i2, .int i3, .int i4, .int i5, .int r7, .int r18, .int 1, .ref a1, .ref a2, .ref a3, .ref a4, .ref a5])), (a26, .inr (10, [.ref a27, .int i20, .int (u20 0), .int (u20 1), .int (u20 2), .int (u20 3), .int (u20 4), .int (u20 5)])), (a27, .inl (cB, 1600, .inl xF21))] := hD
    have hP9 := hP.sub (ws' := [(a0, .inr (2, [.int i0, .int i1, .int i2, .int i3, .int i4, .int i5, .int r7, .int r18, .int 1, .ref a1, .ref a2, .ref a3, .ref a4, .ref a5])), (a26, .inr (10, [.ref a27, .int i20, .int (u20 0), .int (u20 1), .int (u20 2), .int (u20 3), .int (u20 4), .int (u20 5)])), (a27, .inl (cB, 1600, .inl xF21))]) [0, 1, 2] rfl
    have hD9 := hD.sub (ws' := [(a0, .inr (2, [.int i0, .int i1, .int i2, .int i3, .int i4, .int i5, .int r7, .int r18, .int 1, .ref a1, .ref a2, .ref a3, .ref a4, .ref a5])), (a26, .inr (10, [.ref a27, .int i20, .int (u20 0), .int (u20 1), .int (u20 2), .int (u20 3), .int (u20 4), .int (u20 5)])), (a27, .inl (cB, 1600, .inl xF21))]) [0, 1, 2] (by decide) rfl
    rw [hQ]
    exact W.vret hx hb hr (fun t ht hW => ⟨⟨(pickG 0 [r7, r18, 1, (u20 0), (u20 1), (u20 2), (u20 3), (u20 4), (u20 5)], pickG (fun _ => 0) [], pickG (fun _ => 0) []), rfl, ⟨(show (0 : Int) ≤ (1 : Int32).toInt ∧ (1 : Int32).toInt ≤ 1 from ⟨by omega, by omega⟩), (show (0 : Int) ≤ (u20 3).toInt ∧ (u20 3).toInt ≤ 1600 from ⟨by omega, by omega⟩), (show (0 : Int) ≤ (u20 4).toInt ∧ (u20 4).toInt ≤ 1600 from ⟨by omega, by omega⟩), trivial⟩, (by rw [ht]; exact hP9), hD9⟩, hS.F ht⟩) hS.2.2 dX2_readGearLine_50
  · rw [ki_eq] at c1
    refine lv_aload_n hx hb dX2_readGearLine_7 rfl (lv_at hl 1 rfl) ?_
    refine lv_iconst (v := 2) hx hb dX2_readGearLine_8 (by decide) ?_
    have hPc := hP.sub (ws' := [(a26, .inr (10, [.ref a27, .int i20, .int i21, .int i22, .int i23, .int i24, .int i25, .int i26]))]) [1] rfl
    have hDc := hD.sub (ws' := [(a26, .inr (10, [.ref a27, .int i20, .int i21, .int i22, .int i23, .int i24, .int i25, .int i26]))]) [1] (by decide) rfl
    have hFc := va_free (wc := [(a26, .inr (10, [.ref a27, .int i20, .int i21, .int i22, .int i23, .int i24, .int i25, .int i26]))]) hD hS hA [1] rfl
    refine va_callv (va_runV (As := [.int 2]) (rest := []) ⟨hx, hb, hml, hown, hwd⟩ (s_X10_blame l dC dI cI cZ cB cJ cM cG a26 a27 i20 i21 i22 i23 i24 i25 i26 2 s.heap.size (show (0 : Int) ≤ i20.toInt ∧ i20.toInt ≤ 1600 from ⟨by omega, by omega⟩) (show (0 : Int) ≤ i24.toInt ∧ i24.toInt ≤ 1600 from ⟨by omega, by omega⟩) (show (0 : Int) ≤ i25.toInt ∧ i25.toInt ≤ 1600 from ⟨by omega, by omega⟩)) (cwV 1 hwd (gV kr16_0 kr15_12 kr15_13 kr1_15 kr15_14) rfl rfl rfl (by decide +kernel) ⟨Nat.le_of_ble_eq_true rfl, Nat.le_of_ble_eq_true rfl⟩) (kPreV hPc hK hDc (ci := 10) (q0 := 0) rfl rfl) rfl rfl hl.1 rfl (lv_room (Nat.le_of_ble_eq_true rfl)) dX2_readGearLine_9 ⟨Nat.le_of_ble_eq_true rfl, Nat.le_of_ble_eq_true rfl⟩) hS (fun q _ h => hFc q h) hFc (fun u25 t H1 locs ht9 hvm hw hB hz1 hk1 hS => ?_)
    obtain ⟨u26, U26, V26⟩ := u25
    obtain ⟨hP1, hD1⟩ := hB
    rw [ht9] at hP1
    obtain ⟨hP, hD⟩ := va_join (wr := [(a0, .inr (2, [.int i0, .int i1, .int i2, .int i3, .int i4, .int i5, .int i6, .int i7, .int i8, .ref a1, .ref a2, .ref a3, .ref a4, .ref a5])), (a27, .inl (cB, 1600, .inl xF21))]) (w1 := [(a26, .inr (10, [.ref a27, .int i20, .int (u26 0), .int (u26 1), .int i23, .int i24, .int i25, .int i26]))]) hP hD [1] [0, 2] rfl rfl (by decide) (by decide) hk1 hFc hP1 hD1
    generalize H1 = H at hP hS ⊢
    have hP : va_P (dC, dI) vwCl [(a0, .inr (2, [.int i0, .int i1, .int i2, .int i3, .int i4, .int i5, .int i6, .int i7, .int i8, .ref a1, .ref a2, .ref a3, .ref a4, .ref a5])), (a27, .inl (cB, 1600, .inl xF21)), (a26, .inr (10, [.ref a27, .int i20, .int (u26 0), .int (u26 1), .int i23, .int i24, .int i25, .int i26]))] H := hP
    have hD : va_D A [(a0, .inr (2, [.int i0, .int i1, .int i2, .int i3, .int i4, .int i5, .int i6, .int i7, .int i8, .ref a1, .ref a2, .ref a3, .ref a4, .ref a5])), (a27, .inl (cB, 1600, .inl xF21)), (a26, .inr (10, [.ref a27, .int i20, .int (u26 0), .int (u26 1), .int i23, .int i24, .int i25, .int i26]))] := hD
    have hP9 := hP.sub (ws' := [(a0, .inr (2, [.int i0, .int i1, .int i2, .int i3, .int i4, .int i5, .int i6, .int i7, .int i8, .ref a1, .ref a2, .ref a3, .ref a4, .ref a5])), (a26, .inr (10, [.ref a27, .int i20, .int (u26 0), .int (u26 1), .int i23, .int i24, .int i25, .int i26])), (a27, .inl (cB, 1600, .inl xF21))]) [0, 2, 1] rfl
    have hD9 := hD.sub (ws' := [(a0, .inr (2, [.int i0, .int i1, .int i2, .int i3, .int i4, .int i5, .int i6, .int i7, .int i8, .ref a1, .ref a2, .ref a3, .ref a4, .ref a5])), (a26, .inr (10, [.ref a27, .int i20, .int (u26 0), .int (u26 1), .int i23, .int i24, .int i25, .int i26])), (a27, .inl (cB, 1600, .inl xF21))]) [0, 2, 1] (by decide) rfl
    rw [hQ]
    exact W.vret hx hb hr (fun t ht hW => ⟨⟨(pickG 0 [i6, i7, i8, (u26 0), (u26 1), i23, i24, i25, i26], pickG (fun _ => 0) [], pickG (fun _ => 0) []), rfl, ⟨(show (0 : Int) ≤ i8.toInt ∧ i8.toInt ≤ 1 from ⟨by omega, by omega⟩), (show (0 : Int) ≤ i24.toInt ∧ i24.toInt ≤ 1600 from ⟨by omega, by omega⟩), (show (0 : Int) ≤ i25.toInt ∧ i25.toInt ≤ 1600 from ⟨by omega, by omega⟩), trivial⟩, (by rw [ht]; exact hP9), hD9⟩, hS.F ht⟩) hS.2.2 dX2_readGearLine_12
