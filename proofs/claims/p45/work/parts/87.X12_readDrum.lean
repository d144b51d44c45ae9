theorem dX12_readDrum_0 : decode cX12_readDrum 0 = .ok (.aload_n 0, 1) := by decide +kernel
theorem dX12_readDrum_1 : decode cX12_readDrum 1 = .ok (.ldc 177, 2) := by decide +kernel
theorem dX12_readDrum_3 : decode cX12_readDrum 3 = .ok (.invokevirtual 170, 3) := by decide +kernel
theorem dX12_readDrum_6 : decode cX12_readDrum 6 = .ok (.aload_n 0, 1) := by decide +kernel
theorem dX12_readDrum_7 : decode cX12_readDrum 7 = .ok (.getfield 34, 3) := by decide +kernel
theorem dX12_readDrum_10 : decode cX12_readDrum 10 = .ok (.iconst 1, 1) := by decide +kernel
theorem dX12_readDrum_11 : decode cX12_readDrum 11 = .ok (.aload_n 0, 1) := by decide +kernel
theorem dX12_readDrum_12 : decode cX12_readDrum 12 = .ok (.ldc 179, 2) := by decide +kernel
theorem dX12_readDrum_14 : decode cX12_readDrum 14 = .ok (.iconst 4, 1) := by decide +kernel
theorem dX12_readDrum_15 : decode cX12_readDrum 15 = .ok (.bipush 60, 2) := by decide +kernel
theorem dX12_readDrum_17 : decode cX12_readDrum 17 = .ok (.invokevirtual 181, 3) := by decide +kernel
theorem dX12_readDrum_20 : decode cX12_readDrum 20 = .ok (.iastore, 1) := by decide +kernel
theorem dX12_readDrum_21 : decode cX12_readDrum 21 = .ok (.aload_n 0, 1) := by decide +kernel
theorem dX12_readDrum_22 : decode cX12_readDrum 22 = .ok (.getfield 34, 3) := by decide +kernel
theorem dX12_readDrum_25 : decode cX12_readDrum 25 = .ok (.iconst 2, 1) := by decide +kernel
theorem dX12_readDrum_26 : decode cX12_readDrum 26 = .ok (.aload_n 0, 1) := by decide +kernel
theorem dX12_readDrum_27 : decode cX12_readDrum 27 = .ok (.ldc 185, 2) := by decide +kernel
theorem dX12_readDrum_29 : decode cX12_readDrum 29 = .ok (.iconst 1, 1) := by decide +kernel
theorem dX12_readDrum_30 : decode cX12_readDrum 30 = .ok (.bipush 60, 2) := by decide +kernel
theorem dX12_readDrum_32 : decode cX12_readDrum 32 = .ok (.invokevirtual 181, 3) := by decide +kernel
theorem dX12_readDrum_35 : decode cX12_readDrum 35 = .ok (.iastore, 1) := by decide +kernel
theorem dX12_readDrum_36 : decode cX12_readDrum 36 = .ok (.aload_n 0, 1) := by decide +kernel
theorem dX12_readDrum_37 : decode cX12_readDrum 37 = .ok (.getfield 34, 3) := by decide +kernel
theorem dX12_readDrum_40 : decode cX12_readDrum 40 = .ok (.iconst 3, 1) := by decide +kernel
theorem dX12_readDrum_41 : decode cX12_readDrum 41 = .ok (.aload_n 0, 1) := by decide +kernel
theorem dX12_readDrum_42 : decode cX12_readDrum 42 = .ok (.ldc 187, 2) := by decide +kernel
theorem dX12_readDrum_44 : decode cX12_readDrum 44 = .ok (.iconst 0, 1) := by decide +kernel
theorem dX12_readDrum_45 : decode cX12_readDrum 45 = .ok (.bipush 9, 2) := by decide +kernel
theorem dX12_readDrum_47 : decode cX12_readDrum 47 = .ok (.invokevirtual 181, 3) := by decide +kernel
theorem dX12_readDrum_50 : decode cX12_readDrum 50 = .ok (.iastore, 1) := by decide +kernel
theorem dX12_readDrum_51 : decode cX12_readDrum 51 = .ok (.return_, 1) := by decide +kernel
set_option maxHeartbeats 4000000 in
set_option maxRecDepth 100000 in
theorem s_X12_readDrum (l : Launch) (dC : Nat → ClassId) (dI : Nat → Nat → Nat) (cI cZ cB cJ cM cG : ClassId) (a0 a1 a2 a3 a4 a5 a6 a7 a8 a9 a10 a11 a12 a13 a14 a15 a16 a17 a18 a19 a20 a21 a22 a23 a24 : Nat) (i0 i1 i2 i3 i4 i5 i6 i7 i8 i9 i10 i11 i12 i13 i14 i15 i16 : Int32) (j0 : Int64) (xF3 xF5 : Nat → Int32) (sz : Nat) (p_0 : (0 : Int) ≤ i1.toInt ∧ i1.toInt ≤ 1600) (p_1 : (0 : Int) ≤ i2.toInt ∧ i2.toInt ≤ 1600) (p_2 : (0 : Int) ≤ i3.toInt ∧ i3.toInt ≤ 1600) (p_3 : (0 : Int) ≤ i4.toInt ∧ i4.toInt ≤ 1600) (p_4 : (0 : Int) ≤ i5.toInt ∧ i5.toInt ≤ 6) (p_5 : (0 : Int) ≤ i7.toInt ∧ i7.toInt ≤ 3) (p_6 : (0 : Int) ≤ i11.toInt ∧ i11.toInt ≤ 59) (p_7 : WI 0 xF5) (p_8 : i4.toInt ≤ i3.toInt) (p_9 : (2 ≤ i5.toInt → i4.toInt + 1 ≤ i3.toInt)) : Met l yX12_readDrum (kw yX12_readDrum cX12_readDrum 1 none) ({ frames := 8, cells := 0, slots := 0, locals := 174 } : Room) (va_Pc [.ref a0] (kPreX dC dI [(cI, .int), (cZ, .boolean), (cB, .byte), (cJ, .long), (cM, .object RX2), (cG, .array .int)] [(a0, .inr (12, [.int i0, .ref a1, .ref a2, .ref a3, .ref a4, .int i1, .ref a5, .int i2, .int i3, .int i4, .int i5, .int i6, .int i7, .int i8, .ref a6, .ref a7, .ref a8, .ref a9, .ref a10, .ref a11, .ref a12, .int i9, .ref a13, .int i10, .ref a14, .ref a15, .int i11, .ref a16, .ref a17, .ref a18, .ref a19, .int i12, .int i13, .int i14, .int i15, .int i16, .ref a20, .long j0, .ref a21, .ref a22, .ref a23, .ref a24])), (a4, .inl (cB, 1600, .inl xF3)), (a6, .inl (cI, 544, .inl xF5))] sz NT)) (va_Qv (fun (u9 : (Nat → Int32) × (Nat → Nat → Int32) × (Nat → Nat → Int64)) => ((0 : Int) ≤ (u9.1 0).toInt ∧ (u9.1 0).toInt ≤ 1600) ∧ ((0 : Int) ≤ (u9.1 1).toInt ∧ (u9.1 1).toInt ≤ 1600) ∧ ((0 : Int) ≤ (u9.1 2).toInt ∧ (u9.1 2).toInt ≤ 6) ∧ ((0 : Int) ≤ (u9.1 4).toInt ∧ (u9.1 4).toInt ≤ 3) ∧ ((u9.1 1).toInt ≤ (u9.1 0).toInt) ∧ ((2 ≤ (u9.1 2).toInt → (u9.1 1).toInt + 1 ≤ (u9.1 0).toInt)) ∧ (i4.toInt ≤ (u9.1 1).toInt) ∧ (FG (u9.1 4).toInt (u9.2.1 0)) ∧ True) (fun u9 t => va_P (dC, dI) vwCl [(a0, .inr (12, [.int i0, .ref a1, .ref a2, .ref a3, .ref a4, .int i1, .ref a5, .int i2, .int (u9.1 0), .int (u9.1 1), .int (u9.1 2), .int (u9.1 3), .int (u9.1 4), .int (u9.1 5), .ref a6, .ref a7, .ref a8, .ref a9, .ref a10, .ref a11, .ref a12, .int i9, .ref a13, .int i10, .ref a14, .ref a15, .int i11, .ref a16, .ref a17, .ref a18, .ref a19, .int i12, .int i13, .int i14, .int i15, .int i16, .ref a20, .long j0, .ref a21, .ref a22, .ref a23, .ref a24])), (a4, .inl (cB, 1600, .inl xF3)), (a6, .inl (cI, 544, .inl (u9.2.1 0)))] t.heap ∧ va_D (va_A [(a0, .inr (12, [.int i0, .ref a1, .ref a2, .ref a3, .ref a4, .int i1, .ref a5, .int i2, .int i3, .int i4, .int i5, .int i6, .int i7, .int i8, .ref a6, .ref a7, .ref a8, .ref a9, .ref a10, .ref a11, .ref a12, .int i9, .ref a13, .int i10, .ref a14, .ref a15, .int i11, .ref a16, .ref a17, .ref a18, .ref a19, .int i12, .int i13, .int i14, .int i15, .int i16, .ref a20, .long j0, .ref a21, .ref a22, .ref a23, .ref a24])), (a4, .inl (cB, 1600, .inl xF3)), (a6, .inl (cI, 544, .inl xF5))] sz) [(a0, .inr (12, [.int i0, .ref a1, .ref a2, .ref a3, .ref a4, .int i1, .ref a5, .int i2, .int (u9.1 0), .int (u9.1 1), .int (u9.1 2), .int (u9.1 3), .int (u9.1 4), .int (u9.1 5), .ref a6, .ref a7, .ref a8, .ref a9, .ref a10, .ref a11, .ref a12, .int i9, .ref a13, .int i10, .ref a14, .ref a15, .int i11, .ref a16, .ref a17, .ref a18, .ref a19, .int i12, .int i13, .int i14, .int i15, .int i16, .ref a20, .long j0, .ref a21, .ref a22, .ref a23, .ref a24])), (a4, .inl (cB, 1600, .inl xF3)), (a6, .inl (cI, 544, .inl (u9.2.1 0)))]) (va_A [(a0, .inr (12, [.int i0, .ref a1, .ref a2, .ref a3, .ref a4, .int i1, .ref a5, .int i2, .int i3, .int i4, .int i5, .int i6, .int i7, .int i8, .ref a6, .ref a7, .ref a8, .ref a9, .ref a10, .ref a11, .ref a12, .int i9, .ref a13, .int i10, .ref a14, .ref a15, .int i11, .ref a16, .ref a17, .ref a18, .ref a19, .int i12, .int i13, .int i14, .int i15, .int i16, .ref a20, .long j0, .ref a21, .ref a22, .ref a23, .ref a24])), (a4, .inl (cB, 1600, .inl xF3)), (a6, .inl (cI, 544, .inl xF5))] sz)) 0 0 (va_A [(a0, .inr (12, [.int i0, .ref a1, .ref a2, .ref a3, .ref a4, .int i1, .ref a5, .int i2, .int i3, .int i4, .int i5, .int i6, .int i7, .int i8, .ref a6, .ref a7, .ref a8, .ref a9, .ref a10, .ref a11, .ref a12, .int i9, .ref a13, .int i10, .ref a14, .ref a15, .int i11, .ref a16, .ref a17, .ref a18, .ref a19, .int i12, .int i13, .int i14, .int i15, .int i16, .ref a20, .long j0, .ref a21, .ref a22, .ref a23, .ref a24])), (a4, .inl (cB, 1600, .inl xF3)), (a6, .inl (cI, 544, .inl xF5))] sz) := by
  refine kEnterX (by decide) (Nat.le_of_ble_eq_true rfl) ?_
  intro p e s m below meth c ls hx hb hr hml hown hlocks hin hwd hsz hP hK hD hN hl
  subst hsz
  generalize hAe : va_A [(a0, .inr (12, [.int i0, .ref a1, .ref a2, .ref a3, .ref a4, .int i1, .ref a5, .int i2, .int i3, .int i4, .int i5, .int i6, .int i7, .int i8, .ref a6, .ref a7, .ref a8, .ref a9, .ref a10, .ref a11, .ref a12, .int i9, .ref a13, .int i10, .ref a14, .ref a15, .int i11, .ref a16, .ref a17, .ref a18, .ref a19, .int i12, .int i13, .int i14, .int i15, .int i16, .ref a20, .long j0, .ref a21, .ref a22, .ref a23, .ref a24])), (a4, .inl (cB, 1600, .inl xF3)), (a6, .inl (cI, 544, .inl xF5))] s.heap.size = A at hD hN ⊢
  have hA : ∀ q : Nat, s.heap.size ≤ q → A q := fun q h => by rw [← hAe]; exact Or.inr h
  have hS : va_S A s.heap s.heap [] := va_S.rf
  have hl : lv_has ls 1 [(0, .ref a0)] := hl
  obtain ⟨Q, hQ⟩ : ∃ Q, Q = MQ below (va_Qv (fun (u9 : (Nat → Int32) × (Nat → Nat → Int32) × (Nat → Nat → Int64)) => ((0 : Int) ≤ (u9.1 0).toInt ∧ (u9.1 0).toInt ≤ 1600) ∧ ((0 : Int) ≤ (u9.1 1).toInt ∧ (u9.1 1).toInt ≤ 1600) ∧ ((0 : Int) ≤ (u9.1 2).toInt ∧ (u9.1 2).toInt ≤ 6) ∧ ((0 : Int) ≤ (u9.1 4).toInt ∧ (u9.1 4).toInt ≤ 3) ∧ ((u9.1 1).toInt ≤ (u9.1 0).toInt) ∧ ((2 ≤ (u9.1 2).toInt → (u9.1 1).toInt + 1 ≤ (u9.1 0).toInt)) ∧ (i4.toInt ≤ (u9.1 1).toInt) ∧ (FG (u9.1 4).toInt (u9.2.1 0)) ∧ True) (fun u9 t => va_P (dC, dI) vwCl [(a0, .inr (12, [.int i0, .ref a1, .ref a2, .ref a3, .ref a4, .int i1, .ref a5, .int i2, .int (u9.1 0), .int (u9.1 1), .int (u9.1 2), .int (u9.1 3), .int (u9.1 4), .int (u9.1 5), .ref a6, .ref a7, .ref a8, .ref a9, .ref a10, .ref a11, .ref a12, .int i9, .ref a13, .int i10, .ref a14, .ref a15, .int i11, .ref a16, .ref a17, .ref a18, .ref a19, .int i12, .int i13, .int i14, .int i15, .int i16, .ref a20, .long j0, .ref a21, .ref a22, .ref a23, .ref a24])), (a4, .inl (cB, 1600, .inl xF3)), (a6, .inl (cI, 544, .inl (u9.2.1 0)))] t.heap ∧ va_D A [(a0, .inr (12, [.int i0, .ref a1, .ref a2, .ref a3, .ref a4, .int i1, .ref a5, .int i2, .int (u9.1 0), .int (u9.1 1), .int (u9.1 2), .int (u9.1 3), .int (u9.1 4), .int (u9.1 5), .ref a6, .ref a7, .ref a8, .ref a9, .ref a10, .ref a11, .ref a12, .int i9, .ref a13, .int i10, .ref a14, .ref a15, .int i11, .ref a16, .ref a17, .ref a18, .ref a19, .int i12, .int i13, .int i14, .int i15, .int i16, .ref a20, .long j0, .ref a21, .ref a22, .ref a23, .ref a24])), (a4, .inl (cB, 1600, .inl xF3)), (a6, .inl (cI, 544, .inl (u9.2.1 0)))]) A) ([.ref a0] : List Value).toArray s 0 0 A := ⟨_, rfl⟩
  rw [← hQ]
  have k0 : (0 : Int32).toInt = 0 := by decide
  have k1 : (1 : Int32).toInt = 1 := by decide
  have k2 : (2 : Int32).toInt = 2 := by decide
  have k3 : (3 : Int32).toInt = 3 := by decide
  have k4 : (4 : Int32).toInt = 4 := by decide
  have k9 : (9 : Int32).toInt = 9 := by decide
  have k60 : (60 : Int32).toInt = 60 := by decide
  obtain ⟨sa177, sav177, sn177, sf177, hsn177, hR177, hks177⟩ := hN.2 _ rf_RX12_177
  have hN177 : NS sa177 sav177 sn177 sf177 A s := ⟨hN.1, hsn177.1, hks177⟩
  have hsl177 : sn177 = 4 := hsn177.2
  obtain ⟨sa179, sav179, sn179, sf179, hsn179, hR179, hks179⟩ := hN.2 _ rf_RX12_179
  have hN179 : NS sa179 sav179 sn179 sf179 A s := ⟨hN.1, hsn179.1, hks179⟩
  have hsl179 : sn179 = 5 := hsn179.2
  obtain ⟨sa185, sav185, sn185, sf185, hsn185, hR185, hks185⟩ := hN.2 _ rf_RX12_185
  have hN185 : NS sa185 sav185 sn185 sf185 A s := ⟨hN.1, hsn185.1, hks185⟩
  have hsl185 : sn185 = 3 := hsn185.2
  obtain ⟨sa187, sav187, sn187, sf187, hsn187, hR187, hks187⟩ := hN.2 _ rf_RX12_187
  have hN187 : NS sa187 sav187 sn187 sf187 A s := ⟨hN.1, hsn187.1, hks187⟩
  have hsl187 : sn187 = 5 := hsn187.2
  refine lv_aload_n hx hb dX12_readDrum_0 rfl (lv_at hl 0 rfl) ?_
  refine va_ldcS hx hb hown hR177 dX12_readDrum_1 ?_
  have hPc := hP.sub (ws' := [(a0, .inr (12, [.int i0, .ref a1, .ref a2, .ref a3, .ref a4, .int i1, .ref a5, .int i2, .int i3, .int i4, .int i5, .int i6, .int i7, .int i8, .ref a6, .ref a7, .ref a8, .ref a9, .ref a10, .ref a11, .ref a12, .int i9, .ref a13, .int i10, .ref a14, .ref a15, .int i11, .ref a16, .ref a17, .ref a18, .ref a19, .int i12, .int i13, .int i14, .int i15, .int i16, .ref a20, .long j0, .ref a21, .ref a22, .ref a23, .ref a24])), (a4, .inl (cB, 1600, .inl xF3))]) [0, 1] rfl
  have hDc := hD.sub (ws' := [(a0, .inr (12, [.int i0, .ref a1, .ref a2, .ref a3, .ref a4, .int i1, .ref a5, .int i2, .int i3, .int i4, .int i5, .int i6, .int i7, .int i8, .ref a6, .ref a7, .ref a8, .ref a9, .ref a10, .ref a11, .ref a12, .int i9, .ref a13, .int i10, .ref a14, .ref a15, .int i11, .ref a16, .ref a17, .ref a18, .ref a19, .int i12, .int i13, .int i14, .int i15, .int i16, .ref a20, .long j0, .ref a21, .ref a22, .ref a23, .ref a24])), (a4, .inl (cB, 1600, .inl xF3))]) [0, 1] (by decide) rfl
  have hFc := va_free (wc := [(a0, .inr (12, [.int i0, .ref a1, .ref a2, .ref a3, .ref a4, .int i1, .ref a5, .int i2, .int i3, .int i4, .int i5, .int i6, .int i7, .int i8, .ref a6, .ref a7, .ref a8, .ref a9, .ref a10, .ref a11, .ref a12, .int i9, .ref a13, .int i10, .ref a14, .ref a15, .int i11, .ref a16, .ref a17, .ref a18, .ref a19, .int i12, .int i13, .int i14, .int i15, .int i16, .ref a20, .long j0, .ref a21, .ref a22, .ref a23, .ref a24])), (a4, .inl (cB, 1600, .inl xF3))]) hD hS hA [0, 1] rfl
  refine va_callv (va_runV (As := [.ref sa177]) (rest := []) ⟨hx, hb, hml, hown, hwd⟩ (s_X12_needs l dC dI cI cZ cB cJ cM cG a0 a1 a2 a3 a4 a5 a6 a7 a8 a9 a10 a11 a12 a13 a14 a15 a16 a17 a18 a19 a20 a21 a22 a23 a24 i0 i1 i2 i3 i4 i5 i6 i7 i8 i9 i10 i11 i12 i13 i14 i15 i16 j0 xF3 sa177 sav177 sn177 sf177 s.heap.size (show (0 : Int) ≤ i1.toInt ∧ i1.toInt ≤ 1600 from ⟨by omega, by omega⟩) (show (0 : Int) ≤ i2.toInt ∧ i2.toInt ≤ 1600 from ⟨by omega, by omega⟩) (show (0 : Int) ≤ i3.toInt ∧ i3.toInt ≤ 1600 from ⟨by omega, by omega⟩) (show (0 : Int) ≤ i4.toInt ∧ i4.toInt ≤ 1600 from ⟨by omega, by omega⟩) (show (0 : Int) ≤ i5.toInt ∧ i5.toInt ≤ 6 from ⟨by omega, by omega⟩) (show (0 : Int) ≤ i7.toInt ∧ i7.toInt ≤ 3 from ⟨by omega, by omega⟩) (show (0 : Int) ≤ i11.toInt ∧ i11.toInt ≤ 59 from ⟨by omega, by omega⟩) p_8 p_9) (cwV 1 hwd (gV kr24_7 kr24_8 kr24_9 kr1_5 kr24_10) rfl rfl rfl (by decide +kernel) ⟨Nat.le_of_ble_eq_true rfl, Nat.le_of_ble_eq_true rfl⟩) (kPreVX hPc hK hDc (NS_st _ _ _ _) hN177 hS hFc (ci := 12) (q0 := 0) rfl rfl) rfl rfl hl.1 rfl (lv_room (Nat.le_of_ble_eq_true rfl)) dX12_readDrum_3 ⟨Nat.le_of_ble_eq_true rfl, Nat.le_of_ble_eq_true rfl⟩) hS (fun q _ h => hFc q h) hFc (fun u2 t H1 locs ht9 hvm hw hB hz1 hk1 hS => ?_)
  obtain ⟨u3, U3, V3⟩ := u2
  obtain ⟨hw4, hw5, hw6, hw7, hw8, hw9, hw10, hw11, -⟩ := hw
  have hw4 : (0 : Int) ≤ (u3 0).toInt ∧ (u3 0).toInt ≤ 1600 := hw4
  have hw5 : (0 : Int) ≤ (u3 1).toInt ∧ (u3 1).toInt ≤ 1600 := hw5
  have hw6 : (0 : Int) ≤ (u3 2).toInt ∧ (u3 2).toInt ≤ 6 := hw6
  have hw7 : (0 : Int) ≤ (u3 4).toInt ∧ (u3 4).toInt ≤ 3 := hw7
  have hw8 : (u3 1).toInt ≤ (u3 0).toInt := hw8
  have hw9 : (2 ≤ (u3 2).toInt → (u3 1).toInt + 1 ≤ (u3 0).toInt) := hw9
  have hw10 : i4.toInt ≤ (u3 1).toInt := hw10
  have hw11 : ((u3 4).toInt = 0 → i7.toInt = 0 ∧ i4.toInt + (sn177 : Int) ≤ (u3 1).toInt) := hw11
  obtain ⟨hP1, hD1⟩ := hB
  rw [ht9] at hP1
  obtain ⟨hP, hD⟩ := va_join (wr := [(a6, .inl (cI, 544, .inl xF5))]) (w1 := [(a0, .inr (12, [.int i0, .ref a1, .ref a2, .ref a3, .ref a4, .int i1, .ref a5, .int i2, .int (u3 0), .int (u3 1), .int (u3 2), .int (u3 3), .int (u3 4), .int (u3 5), .ref a6, .ref a7, .ref a8, .ref a9, .ref a10, .ref a11, .ref a12, .int i9, .ref a13, .int i10, .ref a14, .ref a15, .int i11, .ref a16, .ref a17, .ref a18, .ref a19, .int i12, .int i13, .int i14, .int i15, .int i16, .ref a20, .long j0, .ref a21, .ref a22, .ref a23, .ref a24])), (a4, .inl (cB, 1600, .inl xF3))]) hP hD [0, 1] [2] rfl rfl (by decide) (by decide) hk1 hFc hP1 hD1
  generalize H1 = H at hP hS ⊢
  have hP : va_P (dC, dI) vwCl [(a6, .inl (cI, 544, .inl xF5)), (a0, .inr (12, [.int i0, .ref a1, .ref a2, .ref a3, .ref a4, .int i1, .ref a5, .int i2, .int (u3 0), .int (u3 1), .int (u3 2), .int (u3 3), .int (u3 4), .int (u3 5), .ref a6, .ref a7, .ref a8, .ref a9, .ref a10, .ref a11, .ref a12, .int i9, .ref a13, .int i10, .ref a14, .ref a15, .int i11, .ref a16, .ref a17, .ref a18, .ref a19, .int i12, .int i13, .int i14, .int i15, .int i16, .ref a20, .long j0, .ref a21, .ref a22, .ref a23, .ref a24])), (a4, .inl (cB, 1600, .inl xF3))] H := hP
  have hD : va_D A [(a6, .inl (cI, 544, .inl xF5)), (a0, .inr (12, [.int i0, .ref a1, .ref a2, .ref a3, .ref a4, .int i1, .ref a5, .int i2, .int (u3 0), .int (u3 1), .int (u3 2), .int (u3 3), .int (u3 4), .int (u3 5), .ref a6, .ref a7, .ref a8, .ref a9, .ref a10, .ref a11, .ref a12, .int i9, .ref a13, .int i10, .ref a14, .ref a15, .int i11, .ref a16, .ref a17, .ref a18, .ref a19, .int i12, .int i13, .int i14, .int i15, .int i16, .ref a20, .long j0, .ref a21, .ref a22, .ref a23, .ref a24])), (a4, .inl (cB, 1600, .inl xF3))] := hD
  refine lv_aload_n hx hb dX12_readDrum_6 rfl (lv_at hl 0 rfl) ?_
  refine va_get (D := (dC, dI)) (ci := 12) (v := .ref a6) (C := RX12) (T := TX12) (N := 42) hx hb hwd inlX12 hown hK hP 1 rfl rfl 14 (by decide) (hwd _ kr7_9) (fun _ h9 => h9) rfl dX12_readDrum_7 ?_
  refine lv_iconst (v := 1) hx hb dX12_readDrum_10 (by decide) ?_
  refine lv_aload_n hx hb dX12_readDrum_11 rfl (lv_at hl 0 rfl) ?_
  refine va_ldcS hx hb hown hR179 dX12_readDrum_12 ?_
  refine lv_iconst (v := 4) hx hb dX12_readDrum_14 (by decide) ?_
  refine lv_bipush (v := 60) hx hb dX12_readDrum_15 (by decide) ?_
  have hPc := hP.sub (ws' := [(a0, .inr (12, [.int i0, .ref a1, .ref a2, .ref a3, .ref a4, .int i1, .ref a5, .int i2, .int (u3 0), .int (u3 1), .int (u3 2), .int (u3 3), .int (u3 4), .int (u3 5), .ref a6, .ref a7, .ref a8, .ref a9, .ref a10, .ref a11, .ref a12, .int i9, .ref a13, .int i10, .ref a14, .ref a15, .int i11, .ref a16, .ref a17, .ref a18, .ref a19, .int i12, .int i13, .int i14, .int i15, .int i16, .ref a20, .long j0, .ref a21, .ref a22, .ref a23, .ref a24])), (a4, .inl (cB, 1600, .inl xF3))]) [1, 2] rfl
  have hDc := hD.sub (ws' := [(a0, .inr (12, [.int i0, .ref a1, .ref a2, .ref a3, .ref a4, .int i1, .ref a5, .int i2, .int (u3 0), .int (u3 1), .int (u3 2), .int (u3 3), .int (u3 4), .int (u3 5), .ref a6, .ref a7, .ref a8, .ref a9, .ref a10, .ref a11, .ref a12, .int i9, .ref a13, .int i10, .ref a14, .ref a15, .int i11, .ref a16, .ref a17, .ref a18, .ref a19, .int i12, .int i13, .int i14, .int i15, .int i16, .ref a20, .long j0, .ref a21, .ref a22, .ref a23, .ref a24])), (a4, .inl (cB, 1600, .inl xF3))]) [1, 2] (by decide) rfl
  have hFc := va_free (wc := [(a0, .inr (12, [.int i0, .ref a1, .ref a2, .ref a3, .ref a4, .int i1, .ref a5, .int i2, .int (u3 0), .int (u3 1), .int (u3 2), .int (u3 3), .int (u3 4), .int (u3 5), .ref a6, .ref a7, .ref a8, .ref a9, .ref a10, .ref a11, .ref a12, .int i9, .ref a13, .int i10, .ref a14, .ref a15, .int i11, .ref a16, .ref a17, .ref a18, .ref a19, .int i12, .int i13, .int i14, .int i15, .int i16, .ref a20, .long j0, .ref a21, .ref a22, .ref a23, .ref a24])), (a4, .inl (cB, 1600, .inl xF3))]) hD hS hA [1, 2] rfl
  refine va_calli (va_runV (As := [.ref sa179, .int 4, .int 60]) (rest := [.int 1, .ref a6]) ⟨hx, hb, hml, hown, hwd⟩ (s_X12_told l dC dI cI cZ cB cJ cM cG a0 a1 a2 a3 a4 a5 a6 a7 a8 a9 a10 a11 a12 a13 a14 a15 a16 a17 a18 a19 a20 a21 a22 a23 a24 i0 i1 i2 (u3 0) (u3 1) (u3 2) (u3 3) (u3 4) (u3 5) i9 i10 i11 i12 i13 i14 i15 i16 j0 xF3 4 60 sa179 sav179 sn179 sf179 H.size (show (0 : Int) ≤ i1.toInt ∧ i1.toInt ≤ 1600 from ⟨by omega, by omega⟩) (show (0 : Int) ≤ i2.toInt ∧ i2.toInt ≤ 1600 from ⟨by omega, by omega⟩) (show (0 : Int) ≤ (u3 0).toInt ∧ (u3 0).toInt ≤ 1600 from ⟨by omega, by omega⟩) (show (0 : Int) ≤ (u3 1).toInt ∧ (u3 1).toInt ≤ 1600 from ⟨by omega, by omega⟩) (show (0 : Int) ≤ (u3 2).toInt ∧ (u3 2).toInt ≤ 6 from ⟨by omega, by omega⟩) (show (0 : Int) ≤ (u3 4).toInt ∧ (u3 4).toInt ≤ 3 from ⟨by omega, by omega⟩) (show (0 : Int) ≤ i11.toInt ∧ i11.toInt ≤ 59 from ⟨by omega, by omega⟩) (show (0 : Int) ≤ (4 : Int32).toInt ∧ (4 : Int32).toInt ≤ 4 from ⟨by omega, by omega⟩) (show (-1 : Int) ≤ (60 : Int32).toInt ∧ (60 : Int32).toInt ≤ 999 from ⟨by omega, by omega⟩) hw8 hw9) (cwV 3 hwd (gV kr25_1 kr25_2 kr25_3 kr1_5 kr25_4) rfl rfl rfl (by decide +kernel) ⟨Nat.le_of_ble_eq_true rfl, Nat.le_of_ble_eq_true rfl⟩) (kPreVX hPc hK hDc (NS_st _ _ _ _) hN179 hS hFc (ci := 12) (q0 := 0) rfl rfl) rfl rfl hl.1 rfl (lv_room (Nat.le_of_ble_eq_true rfl)) dX12_readDrum_17 ⟨Nat.le_of_ble_eq_true rfl, Nat.le_of_ble_eq_true rfl⟩) hS (fun q _ h => hFc q h) hFc (fun r12 u13 t H1 locs ht9 hvm hw hB hz1 hk1 hS => ?_)
  obtain ⟨u14, U14, V14⟩ := u13
  obtain ⟨hw15, hw16, hw17, hw18, hw19, hw20, hw21, hw22, hw23, -⟩ := hw
  have hw15 : (r12.toInt = 0 ∨ ((4 : Int32).toInt ≤ r12.toInt ∧ r12.toInt ≤ (60 : Int32).toInt)) := hw15
  have hw16 : (0 : Int) ≤ (u14 0).toInt ∧ (u14 0).toInt ≤ 1600 := hw16
  have hw17 : (0 : Int) ≤ (u14 1).toInt ∧ (u14 1).toInt ≤ 1600 := hw17
  have hw18 : (0 : Int) ≤ (u14 2).toInt ∧ (u14 2).toInt ≤ 6 := hw18
  have hw19 : (0 : Int) ≤ (u14 4).toInt ∧ (u14 4).toInt ≤ 3 := hw19
  have hw20 : (u14 1).toInt ≤ (u14 0).toInt := hw20
  have hw21 : (2 ≤ (u14 2).toInt → (u14 1).toInt + 1 ≤ (u14 0).toInt) := hw21
  have hw22 : (u3 1).toInt ≤ (u14 1).toInt := hw22
  have hw23 : ((u14 4).toInt = 0 → (u3 4).toInt = 0 ∧ (4 : Int32).toInt ≤ r12.toInt ∧ r12.toInt ≤ (60 : Int32).toInt ∧ (u3 1).toInt + (sn179 : Int) + 1 ≤ (u14 1).toInt) := hw23
  obtain ⟨hP1, hD1⟩ := hB
  rw [ht9] at hP1
  obtain ⟨hP, hD⟩ := va_join (wr := [(a6, .inl (cI, 544, .inl xF5))]) (w1 := [(a0, .inr (12, [.int i0, .ref a1, .ref a2, .ref a3, .ref a4, .int i1, .ref a5, .int i2, .int (u14 0), .int (u14 1), .int (u14 2), .int (u14 3), .int (u14 4), .int (u14 5), .ref a6, .ref a7, .ref a8, .ref a9, .ref a10, .ref a11, .ref a12, .int i9, .ref a13, .int i10, .ref a14, .ref a15, .int i11, .ref a16, .ref a17, .ref a18, .ref a19, .int i12, .int i13, .int i14, .int i15, .int i16, .ref a20, .long j0, .ref a21, .ref a22, .ref a23, .ref a24])), (a4, .inl (cB, 1600, .inl xF3))]) hP hD [1, 2] [0] rfl rfl (by decide) (by decide) hk1 hFc hP1 hD1
  generalize H1 = H at hP hS ⊢
  have hP : va_P (dC, dI) vwCl [(a6, .inl (cI, 544, .inl xF5)), (a0, .inr (12, [.int i0, .ref a1, .ref a2, .ref a3, .ref a4, .int i1, .ref a5, .int i2, .int (u14 0), .int (u14 1), .int (u14 2), .int (u14 3), .int (u14 4), .int (u14 5), .ref a6, .ref a7, .ref a8, .ref a9, .ref a10, .ref a11, .ref a12, .int i9, .ref a13, .int i10, .ref a14, .ref a15, .int i11, .ref a16, .ref a17, .ref a18, .ref a19, .int i12, .int i13, .int i14, .int i15, .int i16, .ref a20, .long j0, .ref a21, .ref a22, .ref a23, .ref a24])), (a4, .inl (cB, 1600, .inl xF3))] H := hP
  have hD : va_D A [(a6, .inl (cI, 544, .inl xF5)), (a0, .inr (12, [.int i0, .ref a1, .ref a2, .ref a3, .ref a4, .int i1, .ref a5, .int i2, .int (u14 0), .int (u14 1), .int (u14 2), .int (u14 3), .int (u14 4), .int (u14 5), .ref a6, .ref a7, .ref a8, .ref a9, .ref a10, .ref a11, .ref a12, .int i9, .ref a13, .int i10, .ref a14, .ref a15, .int i11, .ref a16, .ref a17, .ref a18, .ref a19, .int i12, .int i13, .int i14, .int i15, .int i16, .ref a20, .long j0, .ref a21, .ref a22, .ref a23, .ref a24])), (a4, .inl (cB, 1600, .inl xF3))] := hD
  refine va_iast hx hb hK hP hD hS 0 0 rfl rfl (vin (by decide)) dX12_readDrum_20 (fun H locs hP hD hS => ?_)
  obtain ⟨f24, ef24⟩ : ∃ f, f = upd xF5 (1 : Int32).toNatClampNeg r12 := ⟨_, rfl⟩
  have hP : va_P (dC, dI) vwCl [(a6, .inl (cI, 544, .inl f24)), (a0, .inr (12, [.int i0, .ref a1, .ref a2, .ref a3, .ref a4, .int i1, .ref a5, .int i2, .int (u14 0), .int (u14 1), .int (u14 2), .int (u14 3), .int (u14 4), .int (u14 5), .ref a6, .ref a7, .ref a8, .ref a9, .ref a10, .ref a11, .ref a12, .int i9, .ref a13, .int i10, .ref a14, .ref a15, .int i11, .ref a16, .ref a17, .ref a18, .ref a19, .int i12, .int i13, .int i14, .int i15, .int i16, .ref a20, .long j0, .ref a21, .ref a22, .ref a23, .ref a24])), (a4, .inl (cB, 1600, .inl xF3))] H := by rw [ef24]; exact hP
  have hD : va_D A [(a6, .inl (cI, 544, .inl f24)), (a0, .inr (12, [.int i0, .ref a1, .ref a2, .ref a3, .ref a4, .int i1, .ref a5, .int i2, .int (u14 0), .int (u14 1), .int (u14 2), .int (u14 3), .int (u14 4), .int (u14 5), .ref a6, .ref a7, .ref a8, .ref a9, .ref a10, .ref a11, .ref a12, .int i9, .ref a13, .int i10, .ref a14, .ref a15, .int i11, .ref a16, .ref a17, .ref a18, .ref a19, .int i12, .int i13, .int i14, .int i15, .int i16, .ref a20, .long j0, .ref a21, .ref a22, .ref a23, .ref a24])), (a4, .inl (cB, 1600, .inl xF3))] := by rw [ef24]; exact hD
  refine lv_aload_n hx hb dX12_readDrum_21 rfl (lv_at hl 0 rfl) ?_
  refine va_get (D := (dC, dI)) (ci := 12) (v := .ref a6) (C := RX12) (T := TX12) (N := 42) hx hb hwd inlX12 hown hK hP 1 rfl rfl 14 (by decide) (hwd _ kr7_9) (fun _ h9 => h9) rfl dX12_readDrum_22 ?_
  refine lv_iconst (v := 2) hx hb dX12_readDrum_25 (by decide) ?_
  refine lv_aload_n hx hb dX12_readDrum_26 rfl (lv_at hl 0 rfl) ?_
  refine va_ldcS hx hb hown hR185 dX12_readDrum_27 ?_
  refine lv_iconst (v := 1) hx hb dX12_readDrum_29 (by decide) ?_
  refine lv_bipush (v := 60) hx hb dX12_readDrum_30 (by decide) ?_
  have hPc := hP.sub (ws' := [(a0, .inr (12, [.int i0, .ref a1, .ref a2, .ref a3, .ref a4, .int i1, .ref a5, .int i2, .int (u14 0), .int (u14 1), .int (u14 2), .int (u14 3), .int (u14 4), .int (u14 5), .ref a6, .ref a7, .ref a8, .ref a9, .ref a10, .ref a11, .ref a12, .int i9, .ref a13, .int i10, .ref a14, .ref a15, .int i11, .ref a16, .ref a17, .ref a18, .ref a19, .int i12, .int i13, .int i14, .int i15, .int i16, .ref a20, .long j0, .ref a21, .ref a22, .ref a23, .ref a24])), (a4, .inl (cB, 1600, .inl xF3))]) [1, 2] rfl
  have hDc := hD.sub (ws' := [(a0, .inr (12, [.int i0, .ref a1, .ref a2, .ref a3, .ref a4, .int i1, .ref a5, .int i2, .int (u14 0), .int (u14 1), .int (u14 2), .int (u14 3), .int (u14 4), .int (u14 5), .ref a6, .ref a7, .ref a8, .ref a9, .ref a10, .ref a11, .ref a12, .int i9, .ref a13, .int i10, .ref a14, .ref a15, .int i11, .ref a16, .ref a17, .ref a18, .ref a19, .int i12, .int i13, .int i14, .int i15, .int i16, .ref a20, .long j0, .ref a21, .ref a22, .ref a23, .ref a24])), (a4, .inl (cB, 1600, .inl xF3))]) [1, 2] (by decide) rfl
  have hFc := va_free (wc := [(a0, .inr (12, [.int i0, .ref a1, .ref a2, .ref a3, .ref a4, .int i1, .ref a5, .int i2, .int (u14 0), .int (u14 1), .int (u14 2), .int (u14 3), .int (u14 4), .int (u14 5), .ref a6, .ref a7, .ref a8, .ref a9, .ref a10, .ref a11, .ref a12, .int i9, .ref a13, .int i10, .ref a14, .ref a15, .int i11, .ref a16, .ref a17, .ref a18, .ref a19, .int i12, .int i13, .int i14, .int i15, .int i16, .ref a20, .long j0, .ref a21, .ref a22, .ref a23, .ref a24])), (a4, .inl (cB, 1600, .inl xF3))]) hD hS hA [1, 2] rfl
  refine va_calli (va_runV (As := [.ref sa185, .int 1, .int 60]) (rest := [.int 2, .ref a6]) ⟨hx, hb, hml, hown, hwd⟩ (s_X12_told l dC dI cI cZ cB cJ cM cG a0 a1 a2 a3 a4 a5 a6 a7 a8 a9 a10 a11 a12 a13 a14 a15 a16 a17 a18 a19 a20 a21 a22 a23 a24 i0 i1 i2 (u14 0) (u14 1) (u14 2) (u14 3) (u14 4) (u14 5) i9 i10 i11 i12 i13 i14 i15 i16 j0 xF3 1 60 sa185 sav185 sn185 sf185 H.size (show (0 : Int) ≤ i1.toInt ∧ i1.toInt ≤ 1600 from ⟨by omega, by omega⟩) (show (0 : Int) ≤ i2.toInt ∧ i2.toInt ≤ 1600 from ⟨by omega, by omega⟩) (show (0 : Int) ≤ (u14 0).toInt ∧ (u14 0).toInt ≤ 1600 from ⟨by omega, by omega⟩) (show (0 : Int) ≤ (u14 1).toInt ∧ (u14 1).toInt ≤ 1600 from ⟨by omega, by omega⟩) (show (0 : Int) ≤ (u14 2).toInt ∧ (u14 2).toInt ≤ 6 from ⟨by omega, by omega⟩) (show (0 : Int) ≤ (u14 4).toInt ∧ (u14 4).toInt ≤ 3 from ⟨by omega, by omega⟩) (show (0 : Int) ≤ i11.toInt ∧ i11.toInt ≤ 59 from ⟨by omega, by omega⟩) (show (0 : Int) ≤ (1 : Int32).toInt ∧ (1 : Int32).toInt ≤ 4 from ⟨by omega, by omega⟩) (show (-1 : Int) ≤ (60 : Int32).toInt ∧ (60 : Int32).toInt ≤ 999 from ⟨by omega, by omega⟩) hw20 hw21) (cwV 3 hwd (gV kr25_1 kr25_2 kr25_3 kr1_5 kr25_4) rfl rfl rfl (by decide +kernel) ⟨Nat.le_of_ble_eq_true rfl, Nat.le_of_ble_eq_true rfl⟩) (kPreVX hPc hK hDc (NS_st _ _ _ _) hN185 hS hFc (ci := 12) (q0 := 0) rfl rfl) rfl rfl hl.1 rfl (lv_room (Nat.le_of_ble_eq_true rfl)) dX12_readDrum_32 ⟨Nat.le_of_ble_eq_true rfl, Nat.le_of_ble_eq_true rfl⟩) hS (fun q _ h => hFc q h) hFc (fun r25 u26 t H1 locs ht9 hvm hw hB hz1 hk1 hS => ?_)
  obtain ⟨u27, U27, V27⟩ := u26
  obtain ⟨hw28, hw29, hw30, hw31, hw32, hw33, hw34, hw35, hw36, -⟩ := hw
  have hw28 : (r25.toInt = 0 ∨ ((1 : Int32).toInt ≤ r25.toInt ∧ r25.toInt ≤ (60 : Int32).toInt)) := hw28
  have hw29 : (0 : Int) ≤ (u27 0).toInt ∧ (u27 0).toInt ≤ 1600 := hw29
  have hw30 : (0 : Int) ≤ (u27 1).toInt ∧ (u27 1).toInt ≤ 1600 := hw30
  have hw31 : (0 : Int) ≤ (u27 2).toInt ∧ (u27 2).toInt ≤ 6 := hw31
  have hw32 : (0 : Int) ≤ (u27 4).toInt ∧ (u27 4).toInt ≤ 3 := hw32
  have hw33 : (u27 1).toInt ≤ (u27 0).toInt := hw33
  have hw34 : (2 ≤ (u27 2).toInt → (u27 1).toInt + 1 ≤ (u27 0).toInt) := hw34
  have hw35 : (u14 1).toInt ≤ (u27 1).toInt := hw35
  have hw36 : ((u27 4).toInt = 0 → (u14 4).toInt = 0 ∧ (1 : Int32).toInt ≤ r25.toInt ∧ r25.toInt ≤ (60 : Int32).toInt ∧ (u14 1).toInt + (sn185 : Int) + 1 ≤ (u27 1).toInt) := hw36
  obtain ⟨hP1, hD1⟩ := hB
  rw [ht9] at hP1
  obtain ⟨hP, hD⟩ := va_join (wr := [(a6, .inl (cI, 544, .inl f24))]) (w1 := [(a0, .inr (12, [.int i0, .ref a1, .ref a2, .ref a3, .ref a4, .int i1, .ref a5, .int i2, .int (u27 0), .int (u27 1), .int (u27 2), .int (u27 3), .int (u27 4), .int (u27 5), .ref a6, .ref a7, .ref a8, .ref a9, .ref a10, .ref a11, .ref a12, .int i9, .ref a13, .int i10, .ref a14, .ref a15, .int i11, .ref a16, .ref a17, .ref a18, .ref a19, .int i12, .int i13, .int i14, .int i15, .int i16, .ref a20, .long j0, .ref a21, .ref a22, .ref a23, .ref a24])), (a4, .inl (cB, 1600, .inl xF3))]) hP hD [1, 2] [0] rfl rfl (by decide) (by decide) hk1 hFc hP1 hD1
  generalize H1 = H at hP hS ⊢
  have hP : va_P (dC, dI) vwCl [(a6, .inl (cI, 544, .inl f24)), (a0, .inr (12, [.int i0, .ref a1, .ref a2, .ref a3, .ref a4, .int i1, .ref a5, .int i2, .int (u27 0), .int (u27 1), .int (u27 2), .int (u27 3), .int (u27 4), .int (u27 5), .ref a6, .ref a7, .ref a8, .ref a9, .ref a10, .ref a11, .ref a12, .int i9, .ref a13, .int i10, .ref a14, .ref a15, .int i11, .ref a16, .ref a17, .ref a18, .ref a19, .int i12, .int i13, .int i14, .int i15, .int i16, .ref a20, .long j0, .ref a21, .ref a22, .ref a23, .ref a24])), (a4, .inl (cB, 1600, .inl xF3))] H := hP
  have hD : va_D A [(a6, .inl (cI, 544, .inl f24)), (a0, .inr (12, [.int i0, .ref a1, .ref a2, .ref a3, .ref a4, .int i1, .ref a5, .int i2, .int (u27 0), .int (u27 1), .int (u27 2), .int (u27 3), .int (u27 4), .int (u27 5), .ref a6, .ref a7, .ref a8, .ref a9, .ref a10, .ref a11, .ref a12, .int i9, .ref a13, .int i10, .ref a14, .ref a15, .int i11, .ref a16, .ref a17, .ref a18, .ref a19, .int i12, .int i13, .int i14, .int i15, .int i16, .ref a20, .long j0, .ref a21, .ref a22, .ref a23, .ref a24])), (a4, .inl (cB, 1600, .inl xF3))] := hD
  refine va_iast hx hb hK hP hD hS 0 0 rfl rfl (vin (by decide)) dX12_readDrum_35 (fun H locs hP hD hS => ?_)
  obtain ⟨f37, ef37⟩ : ∃ f, f = upd f24 (2 : Int32).toNatClampNeg r25 := ⟨_, rfl⟩
  have hP : va_P (dC, dI) vwCl [(a6, .inl (cI, 544, .inl f37)), (a0, .inr (12, [.int i0, .ref a1, .ref a2, .ref a3, .ref a4, .int i1, .ref a5, .int i2, .int (u27 0), .int (u27 1), .int (u27 2), .int (u27 3), .int (u27 4), .int (u27 5), .ref a6, .ref a7, .ref a8, .ref a9, .ref a10, .ref a11, .ref a12, .int i9, .ref a13, .int i10, .ref a14, .ref a15, .int i11, .ref a16, .ref a17, .ref a18, .ref a19, .int i12, .int i13, .int i14, .int i15, .int i16, .ref a20, .long j0, .ref a21, .ref a22, .ref a23, .ref a24])), (a4, .inl (cB, 1600, .inl xF3))] H := by rw [ef37]; exact hP
  have hD : va_D A [(a6, .inl (cI, 544, .inl f37)), (a0, .inr (12, [.int i0, .ref a1, .ref a2, .ref a3, .ref a4, .int i1, .ref a5, .int i2, .int (u27 0), .int (u27 1), .int (u27 2), .int (u27 3), .int (u27 4), .int (u27 5), .ref a6, .ref a7, .ref a8, .ref a9, .ref a10, .ref a11, .ref a12, .int i9, .ref a13, .int i10, .ref a14, .ref a15, .int i11, .ref a16, .ref a17, .ref a18, .ref a19, .int i12, .int i13, .int i14, .int i15, .int i16, .ref a20, .long j0, .ref a21, .ref a22, .ref a23, .ref a24])), (a4, .inl (cB, 1600, .inl xF3))] := by rw [ef37]; exact hD
  refine lv_aload_n hx hb dX12_readDrum_36 rfl (lv_at hl 0 rfl) ?_
  refine va_get (D := (dC, dI)) (ci := 12) (v := .ref a6) (C := RX12) (T := TX12) (N := 42) hx hb hwd inlX12 hown hK hP 1 rfl rfl 14 (by decide) (hwd _ kr7_9) (fun _ h9 => h9) rfl dX12_readDrum_37 ?_
  refine lv_iconst (v := 3) hx hb dX12_readDrum_40 (by decide) ?_
  refine lv_aload_n hx hb dX12_readDrum_41 rfl (lv_at hl 0 rfl) ?_
  refine va_ldcS hx hb hown hR187 dX12_readDrum_42 ?_
  refine lv_iconst (v := 0) hx hb dX12_readDrum_44 (by decide) ?_
  refine lv_bipush (v := 9) hx hb dX12_readDrum_45 (by decide) ?_
  have hPc := hP.sub (ws' := [(a0, .inr (12, [.int i0, .ref a1, .ref a2, .ref a3, .ref a4, .int i1, .ref a5, .int i2, .int (u27 0), .int (u27 1), .int (u27 2), .int (u27 3), .int (u27 4), .int (u27 5), .ref a6, .ref a7, .ref a8, .ref a9, .ref a10, .ref a11, .ref a12, .int i9, .ref a13, .int i10, .ref a14, .ref a15, .int i11, .ref a16, .ref a17, .ref a18, .ref a19, .int i12, .int i13, .int i14, .int i15, .int i16, .ref a20, .long j0, .ref a21, .ref a22, .ref a23, .ref a24])), (a4, .inl (cB, 1600, .inl xF3))]) [1, 2] rfl
  have hDc := hD.sub (ws' := [(a0, .inr (12, [.int i0, .ref a1, .ref a2, .ref a3, .ref a4, .int i1, .ref a5, .int i2, .int (u27 0), .int (u27 1), .int (u27 2), .int (u27 3), .int (u27 4), .int (u27 5), .ref a6, .ref a7, .ref a8, .ref a9, .ref a10, .ref a11, .ref a12, .int i9, .ref a13, .int i10, .ref a14, .ref a15, .int i11, .ref a16, .ref a17, .ref a18, .ref a19, .int i12, .int i13, .int i14, .int i15, .int i16, .ref a20, .long j0, .ref a21, .ref a22, .ref a23, .ref a24])), (a4, .inl (cB, 1600, .inl xF3))]) [1, 2] (by decide) rfl
  have hFc := va_free (wc := [(a0, .inr (12, [.int i0, .ref a1, .ref a2, .ref a3, .ref a4, .int i1, .ref a5, .int i2, .int (u27 0), .int (u27 1), .int (u27 2), .int (u27 3), .int (u27 4), .int (u27 5), .ref a6, .ref a7, .ref a8, .ref a9, .ref a10, .ref a11, .ref a12, .int i9, .ref a13, .int i10, .ref a14, .ref a15, .int i11, .ref a16, .ref a17, .ref a18, .ref a19, .int i12, .int i13, .int i14, .int i15, .int i16, .ref a20, .long j0, .ref a21, .ref a22, .ref a23, .ref a24])), (a4, .inl (cB, 1600, .inl xF3))]) hD hS hA [1, 2] rfl
  refine va_calli (va_runV (As := [.ref sa187, .int 0, .int 9]) (rest := [.int 3, .ref a6]) ⟨hx, hb, hml, hown, hwd⟩ (s_X12_told l dC dI cI cZ cB cJ cM cG a0 a1 a2 a3 a4 a5 a6 a7 a8 a9 a10 a11 a12 a13 a14 a15 a16 a17 a18 a19 a20 a21 a22 a23 a24 i0 i1 i2 (u27 0) (u27 1) (u27 2) (u27 3) (u27 4) (u27 5) i9 i10 i11 i12 i13 i14 i15 i16 j0 xF3 0 9 sa187 sav187 sn187 sf187 H.size (show (0 : Int) ≤ i1.toInt ∧ i1.toInt ≤ 1600 from ⟨by omega, by omega⟩) (show (0 : Int) ≤ i2.toInt ∧ i2.toInt ≤ 1600 from ⟨by omega, by omega⟩) (show (0 : Int) ≤ (u27 0).toInt ∧ (u27 0).toInt ≤ 1600 from ⟨by omega, by omega⟩) (show (0 : Int) ≤ (u27 1).toInt ∧ (u27 1).toInt ≤ 1600 from ⟨by omega, by omega⟩) (show (0 : Int) ≤ (u27 2).toInt ∧ (u27 2).toInt ≤ 6 from ⟨by omega, by omega⟩) (show (0 : Int) ≤ (u27 4).toInt ∧ (u27 4).toInt ≤ 3 from ⟨by omega, by omega⟩) (show (0 : Int) ≤ i11.toInt ∧ i11.toInt ≤ 59 from ⟨by omega, by omega⟩) (show (0 : Int) ≤ (0 : Int32).toInt ∧ (0 : Int32).toInt ≤ 4 from ⟨by omega, by omega⟩) (show (-1 : Int) ≤ (9 : Int32).toInt ∧ (9 : Int32).toInt ≤ 999 from ⟨by omega, by omega⟩) hw33 hw34) (cwV 3 hwd (gV kr25_1 kr25_2 kr25_3 kr1_5 kr25_4) rfl rfl rfl (by decide +kernel) ⟨Nat.le_of_ble_eq_true rfl, Nat.le_of_ble_eq_true rfl⟩) (kPreVX hPc hK hDc (NS_st _ _ _ _) hN187 hS hFc (ci := 12) (q0 := 0) rfl rfl) rfl rfl hl.1 rfl (lv_room (Nat.le_of_ble_eq_true rfl)) dX12_readDrum_47 ⟨Nat.le_of_ble_eq_true rfl, Nat.le_of_ble_eq_true rfl⟩) hS (fun q _ h => hFc q h) hFc (fun r38 u39 t H1 locs ht9 hvm hw hB hz1 hk1 hS => ?_)
  obtain ⟨u40, U40, V40⟩ := u39
  obtain ⟨hw41, hw42, hw43, hw44, hw45, hw46, hw47, hw48, hw49, -⟩ := hw
  have hw41 : (r38.toInt = 0 ∨ ((0 : Int32).toInt ≤ r38.toInt ∧ r38.toInt ≤ (9 : Int32).toInt)) := hw41
  have hw42 : (0 : Int) ≤ (u40 0).toInt ∧ (u40 0).toInt ≤ 1600 := hw42
  have hw43 : (0 : Int) ≤ (u40 1).toInt ∧ (u40 1).toInt ≤ 1600 := hw43
  have hw44 : (0 : Int) ≤ (u40 2).toInt ∧ (u40 2).toInt ≤ 6 := hw44
  have hw45 : (0 : Int) ≤ (u40 4).toInt ∧ (u40 4).toInt ≤ 3 := hw45
  have hw46 : (u40 1).toInt ≤ (u40 0).toInt := hw46
  have hw47 : (2 ≤ (u40 2).toInt → (u40 1).toInt + 1 ≤ (u40 0).toInt) := hw47
  have hw48 : (u27 1).toInt ≤ (u40 1).toInt := hw48
  have hw49 : ((u40 4).toInt = 0 → (u27 4).toInt = 0 ∧ (0 : Int32).toInt ≤ r38.toInt ∧ r38.toInt ≤ (9 : Int32).toInt ∧ (u27 1).toInt + (sn187 : Int) + 1 ≤ (u40 1).toInt) := hw49
  obtain ⟨hP1, hD1⟩ := hB
  rw [ht9] at hP1
  obtain ⟨hP, hD⟩ := va_join (wr := [(a6, .inl (cI, 544, .inl f37))]) (w1 := [(a0, .inr (12, [.int i0, .ref a1, .ref a2, .ref a3, .ref a4, .int i1, .ref a5, .int i2, .int (u40 0), .int (u40 1), .int (u40 2), .int (u40 3), .int (u40 4), .int (u40 5), .ref a6, .ref a7, .ref a8, .ref a9, .ref a10, .ref a11, .ref a12, .int i9, .ref a13, .int i10, .ref a14, .ref a15, .int i11, .ref a16, .ref a17, .ref a18, .ref a19, .int i12, .int i13, .int i14, .int i15, .int i16, .ref a20, .long j0, .ref a21, .ref a22, .ref a23, .ref a24])), (a4, .inl (cB, 1600, .inl xF3))]) hP hD [1, 2] [0] rfl rfl (by decide) (by decide) hk1 hFc hP1 hD1
  generalize H1 = H at hP hS ⊢
  have hP : va_P (dC, dI) vwCl [(a6, .inl (cI, 544, .inl f37)), (a0, .inr (12, [.int i0, .ref a1, .ref a2, .ref a3, .ref a4, .int i1, .ref a5, .int i2, .int (u40 0), .int (u40 1), .int (u40 2), .int (u40 3), .int (u40 4), .int (u40 5), .ref a6, .ref a7, .ref a8, .ref a9, .ref a10, .ref a11, .ref a12, .int i9, .ref a13, .int i10, .ref a14, .ref a15, .int i11, .ref a16, .ref a17, .ref a18, .ref a19, .int i12, .int i13, .int i14, .int i15, .int i16, .ref a20, .long j0, .ref a21, .ref a22, .ref a23, .ref a24])), (a4, .inl (cB, 1600, .inl xF3))] H := hP
  have hD : va_D A [(a6, .inl (cI, 544, .inl f37)), (a0, .inr (12, [.int i0, .ref a1, .ref a2, .ref a3, .ref a4, .int i1, .ref a5, .int i2, .int (u40 0), .int (u40 1), .int (u40 2), .int (u40 3), .int (u40 4), .int (u40 5), .ref a6, .ref a7, .ref a8, .ref a9, .ref a10, .ref a11, .ref a12, .int i9, .ref a13, .int i10, .ref a14, .ref a15, .int i11, .ref a16, .ref a17, .ref a18, .ref a19, .int i12, .int i13, .int i14, .int i15, .int i16, .ref a20, .long j0, .ref a21, .ref a22, .ref a23, .ref a24])), (a4, .inl (cB, 1600, .inl xF3))] := hD
  refine va_iast hx hb hK hP hD hS 0 0 rfl rfl (vin (by decide)) dX12_readDrum_50 (fun H locs hP hD hS => ?_)
  obtain ⟨f50, ef50⟩ : ∃ f, f = upd f37 (3 : Int32).toNatClampNeg r38 := ⟨_, rfl⟩
  have hP : va_P (dC, dI) vwCl [(a6, .inl (cI, 544, .inl f50)), (a0, .inr (12, [.int i0, .ref a1, .ref a2, .ref a3, .ref a4, .int i1, .ref a5, .int i2, .int (u40 0), .int (u40 1), .int (u40 2), .int (u40 3), .int (u40 4), .int (u40 5), .ref a6, .ref a7, .ref a8, .ref a9, .ref a10, .ref a11, .ref a12, .int i9, .ref a13, .int i10, .ref a14, .ref a15, .int i11, .ref a16, .ref a17, .ref a18, .ref a19, .int i12, .int i13, .int i14, .int i15, .int i16, .ref a20, .long j0, .ref a21, .ref a22, .ref a23, .ref a24])), (a4, .inl (cB, 1600, .inl xF3))] H := by rw [ef50]; exact hP
  have hD : va_D A [(a6, .inl (cI, 544, .inl f50)), (a0, .inr (12, [.int i0, .ref a1, .ref a2, .ref a3, .ref a4, .int i1, .ref a5, .int i2, .int (u40 0), .int (u40 1), .int (u40 2), .int (u40 3), .int (u40 4), .int (u40 5), .ref a6, .ref a7, .ref a8, .ref a9, .ref a10, .ref a11, .ref a12, .int i9, .ref a13, .int i10, .ref a14, .ref a15, .int i11, .ref a16, .ref a17, .ref a18, .ref a19, .int i12, .int i13, .int i14, .int i15, .int i16, .ref a20, .long j0, .ref a21, .ref a22, .ref a23, .ref a24])), (a4, .inl (cB, 1600, .inl xF3))] := by rw [ef50]; exact hD
  have hP9 := hP.sub (ws' := [(a0, .inr (12, [.int i0, .ref a1, .ref a2, .ref a3, .ref a4, .int i1, .ref a5, .int i2, .int (u40 0), .int (u40 1), .int (u40 2), .int (u40 3), .int (u40 4), .int (u40 5), .ref a6, .ref a7, .ref a8, .ref a9, .ref a10, .ref a11, .ref a12, .int i9, .ref a13, .int i10, .ref a14, .ref a15, .int i11, .ref a16, .ref a17, .ref a18, .ref a19, .int i12, .int i13, .int i14, .int i15, .int i16, .ref a20, .long j0, .ref a21, .ref a22, .ref a23, .ref a24])), (a4, .inl (cB, 1600, .inl xF3)), (a6, .inl (cI, 544, .inl f50))]) [1, 2, 0] rfl
  have hD9 := hD.sub (ws' := [(a0, .inr (12, [.int i0, .ref a1, .ref a2, .ref a3, .ref a4, .int i1, .ref a5, .int i2, .int (u40 0), .int (u40 1), .int (u40 2), .int (u40 3), .int (u40 4), .int (u40 5), .ref a6, .ref a7, .ref a8, .ref a9, .ref a10, .ref a11, .ref a12, .int i9, .ref a13, .int i10, .ref a14, .ref a15, .int i11, .ref a16, .ref a17, .ref a18, .ref a19, .int i12, .int i13, .int i14, .int i15, .int i16, .ref a20, .long j0, .ref a21, .ref a22, .ref a23, .ref a24])), (a4, .inl (cB, 1600, .inl xF3)), (a6, .inl (cI, 544, .inl f50))]) [1, 2, 0] (by decide) rfl
  rw [hQ]
  exact W.vret hx hb hr (fun t ht hW => ⟨⟨(pickG 0 [(u40 0), (u40 1), (u40 2), (u40 3), (u40 4), (u40 5)], pickG (fun _ => 0) [f50], pickG (fun _ => 0) []), rfl, ⟨(show (0 : Int) ≤ (u40 0).toInt ∧ (u40 0).toInt ≤ 1600 from ⟨by omega, by omega⟩), (show (0 : Int) ≤ (u40 1).toInt ∧ (u40 1).toInt ≤ 1600 from ⟨by omega, by omega⟩), (show (0 : Int) ≤ (u40 2).toInt ∧ (u40 2).toInt ≤ 6 from ⟨by omega, by omega⟩), (show (0 : Int) ≤ (u40 4).toInt ∧ (u40 4).toInt ≤ 3 from ⟨by omega, by omega⟩), (show (u40 1).toInt ≤ (u40 0).toInt from by omega), (show (2 ≤ (u40 2).toInt → (u40 1).toInt + 1 ≤ (u40 0).toInt) from by omega), (show i4.toInt ≤ (u40 1).toInt from by omega), (show FG (u40 4).toInt f50 from fun h9 => ⟨by rw [ef50, ef37, ef24]; exact WI_ot (WI_ot (WI_st p_7 (by omega) (by omega) (by omega)) (by omega)) (by omega), by rw [ef50, wat_nei (by omega), ef37, wat_nei (by omega), ef24, wat_eqi (by omega)]; omega⟩), trivial⟩, (by rw [ht]; exact hP9), hD9⟩, hS.F ht⟩) hS.2.2 dX12_readDrum_51
theorem dX12_readNose_0 : decode cX12_readNose 0 = .ok (.bipush 20, 2) := by decide +kernel
theorem dX12_readNose_2 : decode cX12_readNose 2 = .ok (.bipush 7, 2) := by decide +kernel
theorem dX12_readNose_4 : decode cX12_readNose 4 = .ok (.aload_n 0, 1) := by decide +kernel
theorem dX12_readNose_5 : decode cX12_readNose 5 = .ok (.getfield 34, 3) := by decide +kernel
theorem dX12_readNose_8 : decode cX12_readNose 8 = .ok (.iconst 5, 1) := by decide +kernel
theorem dX12_readNose_9 : decode cX12_readNose 9 = .ok (.iaload, 1) := by decide +kernel
theorem dX12_readNose_10 : decode cX12_readNose 10 = .ok (.imul, 1) := by decide +kernel
theorem dX12_readNose_11 : decode cX12_readNose 11 = .ok (.iadd, 1) := by decide +kernel
theorem dX12_readNose_12 : decode cX12_readNose 12 = .ok (.istore_n 1, 1) := by decide +kernel
theorem dX12_readNose_13 : decode cX12_readNose 13 = .ok (.aload_n 0, 1) := by decide +kernel
theorem dX12_readNose_14 : decode cX12_readNose 14 = .ok (.getfield 34, 3) := by decide +kernel
theorem dX12_readNose_17 : decode cX12_readNose 17 = .ok (.iload_n 1, 1) := by decide +kernel
theorem dX12_readNose_18 : decode cX12_readNose 18 = .ok (.iconst 0, 1) := by decide +kernel
theorem dX12_readNose_19 : decode cX12_readNose 19 = .ok (.iadd, 1) := by decide +kernel
theorem dX12_readNose_20 : decode cX12_readNose 20 = .ok (.aload_n 0, 1) := by decide +kernel
theorem dX12_readNose_21 : decode cX12_readNose 21 = .ok (.ldc 189, 2) := by decide +kernel
theorem dX12_readNose_23 : decode cX12_readNose 23 = .ok (.iconst 0, 1) := by decide +kernel
theorem dX12_readNose_24 : decode cX12_readNose 24 = .ok (.aload_n 0, 1) := by decide +kernel
theorem dX12_readNose_25 : decode cX12_readNose 25 = .ok (.getfield 34, 3) := by decide +kernel
theorem dX12_readNose_28 : decode cX12_readNose 28 = .ok (.iconst 4, 1) := by decide +kernel
theorem dX12_readNose_29 : decode cX12_readNose 29 = .ok (.iaload, 1) := by decide +kernel
theorem dX12_readNose_30 : decode cX12_readNose 30 = .ok (.iconst 1, 1) := by decide +kernel
theorem dX12_readNose_31 : decode cX12_readNose 31 = .ok (.isub, 1) := by decide +kernel
theorem dX12_readNose_32 : decode cX12_readNose 32 = .ok (.invokevirtual 181, 3) := by decide +kernel
theorem dX12_readNose_35 : decode cX12_readNose 35 = .ok (.iastore, 1) := by decide +kernel
theorem dX12_readNose_36 : decode cX12_readNose 36 = .ok (.aload_n 0, 1) := by decide +kernel
theorem dX12_readNose_37 : decode cX12_readNose 37 = .ok (.getfield 34, 3) := by decide +kernel
theorem dX12_readNose_40 : decode cX12_readNose 40 = .ok (.iload_n 1, 1) := by decide +kernel
theorem dX12_readNose_41 : decode cX12_readNose 41 = .ok (.iconst 1, 1) := by decide +kernel
theorem dX12_readNose_42 : decode cX12_readNose 42 = .ok (.iadd, 1) := by decide +kernel
theorem dX12_readNose_43 : decode cX12_readNose 43 = .ok (.aload_n 0, 1) := by decide +kernel
theorem dX12_readNose_44 : decode cX12_readNose 44 = .ok (.ldc 191, 2) := by decide +kernel
theorem dX12_readNose_46 : decode cX12_readNose 46 = .ok (.iconst 0, 1) := by decide +kernel
theorem dX12_readNose_47 : decode cX12_readNose 47 = .ok (.aload_n 0, 1) := by decide +kernel
theorem dX12_readNose_48 : decode cX12_readNose 48 = .ok (.getfield 34, 3) := by decide +kernel
theorem dX12_readNose_51 : decode cX12_readNose 51 = .ok (.iconst 1, 1) := by decide +kernel
theorem dX12_readNose_52 : decode cX12_readNose 52 = .ok (.iaload, 1) := by decide +kernel
theorem dX12_readNose_53 : decode cX12_readNose 53 = .ok (.iconst 1, 1) := by decide +kernel
theorem dX12_readNose_54 : decode cX12_readNose 54 = .ok (.isub, 1) := by decide +kernel
theorem dX12_readNose_55 : decode cX12_readNose 55 = .ok (.invokevirtual 181, 3) := by decide +kernel
theorem dX12_readNose_58 : decode cX12_readNose 58 = .ok (.iastore, 1) := by decide +kernel
theorem dX12_readNose_59 : decode cX12_readNose 59 = .ok (.aload_n 0, 1) := by decide +kernel
theorem dX12_readNose_60 : decode cX12_readNose 60 = .ok (.getfield 34, 3) := by decide +kernel
theorem dX12_readNose_63 : decode cX12_readNose 63 = .ok (.iload_n 1, 1) := by decide +kernel
theorem dX12_readNose_64 : decode cX12_readNose 64 = .ok (.iconst 2, 1) := by decide +kernel
theorem dX12_readNose_65 : decode cX12_readNose 65 = .ok (.iadd, 1) := by decide +kernel
theorem dX12_readNose_66 : decode cX12_readNose 66 = .ok (.aload_n 0, 1) := by decide +kernel
theorem dX12_readNose_67 : decode cX12_readNose 67 = .ok (.ldc 192, 2) := by decide +kernel
theorem dX12_readNose_69 : decode cX12_readNose 69 = .ok (.iconst 1, 1) := by decide +kernel
theorem dX12_readNose_70 : decode cX12_readNose 70 = .ok (.aload_n 0, 1) := by decide +kernel
theorem dX12_readNose_71 : decode cX12_readNose 71 = .ok (.getfield 34, 3) := by decide +kernel
theorem dX12_readNose_74 : decode cX12_readNose 74 = .ok (.iconst 1, 1) := by decide +kernel
theorem dX12_readNose_75 : decode cX12_readNose 75 = .ok (.iaload, 1) := by decide +kernel
theorem dX12_readNose_76 : decode cX12_readNose 76 = .ok (.invokevirtual 181, 3) := by decide +kernel
theorem dX12_readNose_79 : decode cX12_readNose 79 = .ok (.iastore, 1) := by decide +kernel
theorem dX12_readNose_80 : decode cX12_readNose 80 = .ok (.aload_n 0, 1) := by decide +kernel
theorem dX12_readNose_81 : decode cX12_readNose 81 = .ok (.getfield 34, 3) := by decide +kernel
theorem dX12_readNose_84 : decode cX12_readNose 84 = .ok (.iload_n 1, 1) := by decide +kernel
theorem dX12_readNose_85 : decode cX12_readNose 85 = .ok (.iconst 3, 1) := by decide +kernel
theorem dX12_readNose_86 : decode cX12_readNose 86 = .ok (.iadd, 1) := by decide +kernel
theorem dX12_readNose_87 : decode cX12_readNose 87 = .ok (.aload_n 0, 1) := by decide +kernel
theorem dX12_readNose_88 : decode cX12_readNose 88 = .ok (.ldc 194, 2) := by decide +kernel
theorem dX12_readNose_90 : decode cX12_readNose 90 = .ok (.iconst 1, 1) := by decide +kernel
theorem dX12_readNose_91 : decode cX12_readNose 91 = .ok (.bipush 60, 2) := by decide +kernel
theorem dX12_readNose_93 : decode cX12_readNose 93 = .ok (.invokevirtual 181, 3) := by decide +kernel
theorem dX12_readNose_96 : decode cX12_readNose 96 = .ok (.iastore, 1) := by decide +kernel
theorem dX12_readNose_97 : decode cX12_readNose 97 = .ok (.aload_n 0, 1) := by decide +kernel
theorem dX12_readNose_98 : decode cX12_readNose 98 = .ok (.getfield 34, 3) := by decide +kernel
theorem dX12_readNose_101 : decode cX12_readNose 101 = .ok (.iload_n 1, 1) := by decide +kernel
theorem dX12_readNose_102 : decode cX12_readNose 102 = .ok (.iconst 4, 1) := by decide +kernel
theorem dX12_readNose_103 : decode cX12_readNose 103 = .ok (.iadd, 1) := by decide +kernel
theorem dX12_readNose_104 : decode cX12_readNose 104 = .ok (.aload_n 0, 1) := by decide +kernel
theorem dX12_readNose_105 : decode cX12_readNose 105 = .ok (.ldc 196, 2) := by decide +kernel
theorem dX12_readNose_107 : decode cX12_readNose 107 = .ok (.iconst 1, 1) := by decide +kernel
theorem dX12_readNose_108 : decode cX12_readNose 108 = .ok (.bipush 60, 2) := by decide +kernel
theorem dX12_readNose_110 : decode cX12_readNose 110 = .ok (.invokevirtual 181, 3) := by decide +kernel
theorem dX12_readNose_113 : decode cX12_readNose 113 = .ok (.iastore, 1) := by decide +kernel
theorem dX12_readNose_114 : decode cX12_readNose 114 = .ok (.aload_n 0, 1) := by decide +kernel
theorem dX12_readNose_115 : decode cX12_readNose 115 = .ok (.getfield 34, 3) := by decide +kernel
theorem dX12_readNose_118 : decode cX12_readNose 118 = .ok (.iconst 5, 1) := by decide +kernel
theorem dX12_readNose_119 : decode cX12_readNose 119 = .ok (.dup2, 1) := by decide +kernel
theorem dX12_readNose_120 : decode cX12_readNose 120 = .ok (.iaload, 1) := by decide +kernel
theorem dX12_readNose_121 : decode cX12_readNose 121 = .ok (.iconst 1, 1) := by decide +kernel
theorem dX12_readNose_122 : decode cX12_readNose 122 = .ok (.iadd, 1) := by decide +kernel
theorem dX12_readNose_123 : decode cX12_readNose 123 = .ok (.iastore, 1) := by decide +kernel
theorem dX12_readNose_124 : decode cX12_readNose 124 = .ok (.return_, 1) := by decide +kernel
set_option maxHeartbeats 4000000 in
set_option maxRecDepth 100000 in
theorem s_X12_readNose (l : Launch) (dC : Nat → ClassId) (dI : Nat → Nat → Nat) (cI cZ cB cJ cM cG : ClassId) (a0 a1 a2 a3 a4 a5 a6 a7 a8 a9 a10 a11 a12 a13 a14 a15 a16 a17 a18 a19 a20 a21 a22 a23 a24 : Nat) (i0 i1 i2 i3 i4 i5 i6 i7 i8 i9 i10 i11 i12 i13 i14 i15 i16 : Int32) (j0 : Int64) (xF3 xF5 : Nat → Int32) (sz : Nat) (p_0 : (0 : Int) ≤ i1.toInt ∧ i1.toInt ≤ 1600) (p_1 : (0 : Int) ≤ i2.toInt ∧ i2.toInt ≤ 1600) (p_2 : (0 : Int) ≤ i3.toInt ∧ i3.toInt ≤ 1600) (p_3 : (0 : Int) ≤ i4.toInt ∧ i4.toInt ≤ 1600) (p_4 : (0 : Int) ≤ i5.toInt ∧ i5.toInt ≤ 6) (p_5 : (0 : Int) ≤ i7.toInt ∧ i7.toInt ≤ 3) (p_6 : (0 : Int) ≤ i11.toInt ∧ i11.toInt ≤ 59) (p_7 : WI 0 xF5) (p_8 : 1 ≤ wat xF5 1) (p_9 : wat xF5 5 ≤ 23) (p_10 : i4.toInt ≤ i3.toInt) (p_11 : (2 ≤ i5.toInt → i4.toInt + 1 ≤ i3.toInt)) : Met l yX12_readNose (kw yX12_readNose cX12_readNose 2 none) ({ frames := 8, cells := 0, slots := 0, locals := 174 } : Room) (va_Pc [.ref a0] (kPreX dC dI [(cI, .int), (cZ, .boolean), (cB, .byte), (cJ, .long), (cM, .object RX2), (cG, .array .int)] [(a0, .inr (12, [.int i0, .ref a1, .ref a2, .ref a3, .ref a4, .int i1, .ref a5, .int i2, .int i3, .int i4, .int i5, .int i6, .int i7, .int i8, .ref a6, .ref a7, .ref a8, .ref a9, .ref a10, .ref a11, .ref a12, .int i9, .ref a13, .int i10, .ref a14, .ref a15, .int i11, .ref a16, .ref a17, .ref a18, .ref a19, .int i12, .int i13, .int i14, .int i15, .int i16, .ref a20, .long j0, .ref a21, .ref a22, .ref a23, .ref a24])), (a4, .inl (cB, 1600, .inl xF3)), (a6, .inl (cI, 544, .inl xF5))] sz NT)) (va_Qv (fun (u9 : (Nat → Int32) × (Nat → Nat → Int32) × (Nat → Nat → Int64)) => ((0 : Int) ≤ (u9.1 0).toInt ∧ (u9.1 0).toInt ≤ 1600) ∧ ((0 : Int) ≤ (u9.1 1).toInt ∧ (u9.1 1).toInt ≤ 1600) ∧ ((0 : Int) ≤ (u9.1 2).toInt ∧ (u9.1 2).toInt ≤ 6) ∧ ((0 : Int) ≤ (u9.1 4).toInt ∧ (u9.1 4).toInt ≤ 3) ∧ ((u9.1 1).toInt ≤ (u9.1 0).toInt) ∧ ((2 ≤ (u9.1 2).toInt → (u9.1 1).toInt + 1 ≤ (u9.1 0).toInt)) ∧ (i4.toInt ≤ (u9.1 1).toInt) ∧ (FG (u9.1 4).toInt (u9.2.1 0)) ∧ True) (fun u9 t => va_P (dC, dI) vwCl [(a0, .inr (12, [.int i0, .ref a1, .ref a2, .ref a3, .ref a4, .int i1, .ref a5, .int i2, .int (u9.1 0), .int (u9.1 1), .int (u9.1 2), .int (u9.1 3), .int (u9.1 4), .int (u9.1 5), .ref a6, .ref a7, .ref a8, .ref a9, .ref a10, .ref a11, .ref a12, .int i9, .ref a13, .int i10, .ref a14, .ref a15, .int i11, .ref a16, .ref a17, .ref a18, .ref a19, .int i12, .int i13, .int i14, .int i15, .int i16, .ref a20, .long j0, .ref a21, .ref a22, .ref a23, .ref a24])), (a4, .inl (cB, 1600, .inl xF3)), (a6, .inl (cI, 544, .inl (u9.2.1 0)))] t.heap ∧ va_D (va_A [(a0, .inr (12, [.int i0, .ref a1, .ref a2, .ref a3, .ref a4, .int i1, .ref a5, .int i2, .int i3, .int i4, .int i5, .int i6, .int i7, .int i8, .ref a6, .ref a7, .ref a8, .ref a9, .ref a10, .ref a11, .ref a12, .int i9, .ref a13, .int i10, .ref a14, .ref a15, .int i11, .ref a16, .ref a17, .ref a18, .ref a19, .int i12, .int i13, .int i14, .int i15, .int i16, .ref a20, .long j0, .ref a21, .ref a22, .ref a23, .ref a24])), (a4, .inl (cB, 1600, .inl xF3)), (a6, .inl (cI, 544, .inl xF5))] sz) [(a0, .inr (12, [.int i0, .ref a1, .ref a2, .ref a3, .ref a4, .int i1, .ref a5, .int i2, .int (u9.1 0), .int (u9.1 1), .int (u9.1 2), .int (u9.1 3), .int (u9.1 4), .int (u9.1 5), .ref a6, .ref a7, .ref a8, .ref a9, .ref a10, .ref a11, .ref a12, .int i9, .ref a13, .int i10, .ref a14, .ref a15, .int i11, .ref a16, .ref a17, .ref a18, .ref a19, .int i12, .int i13, .int i14, .int i15, .int i16, .ref a20, .long j0, .ref a21, .ref a22, .ref a23, .ref a24])), (a4, .inl (cB, 1600, .inl xF3)), (a6, .inl (cI, 544, .inl (u9.2.1 0)))]) (va_A [(a0, .inr (12, [.int i0, .ref a1, .ref a2, .ref a3, .ref a4, .int i1, .ref a5, .int i2, .int i3, .int i4, .int i5, .int i6, .int i7, .int i8, .ref a6, .ref a7, .ref a8, .ref a9, .ref a10, .ref a11, .ref a12, .int i9, .ref a13, .int i10, .ref a14, .ref a15, .int i11, .ref a16, .ref a17, .ref a18, .ref a19, .int i12, .int i13, .int i14, .int i15, .int i16, .ref a20, .long j0, .ref a21, .ref a22, .ref a23, .ref a24])), (a4, .inl (cB, 1600, .inl xF3)), (a6, .inl (cI, 544, .inl xF5))] sz)) 0 0 (va_A [(a0, .inr (12, [.int i0, .ref a1, .ref a2, .ref a3, .ref a4, .int i1, .ref a5, .int i2, .int i3, .int i4, .int i5, .int i6, .int i7, .int i8, .ref a6, .ref a7, .ref a8, .ref a9, .ref a10, .ref a11, .ref a12, .int i9, .ref a13, .int i10, .ref a14, .ref a15, .int i11, .ref a16, .ref a17, .ref a18, .ref a19, .int i12, .int i13, .int i14, .int i15, .int i16, .ref a20, .long j0, .ref a21, .ref a22, .ref a23, .ref a24])), (a4, .inl (cB, 1600, .inl xF3)), (a6, .inl (cI, 544, .inl xF5))] sz) := by
  refine kEnterX (by decide) (Nat.le_of_ble_eq_true rfl) ?_
  intro p e s m below meth c ls hx hb hr hml hown hlocks hin hwd hsz hP hK hD hN hl
  subst hsz
  generalize hAe : va_A [(a0, .inr (12, [.int i0, .ref a1, .ref a2, .ref a3, .ref a4, .int i1, .ref a5, .int i2, .int i3, .int i4, .int i5, .int i6, .int i7, .int i8, .ref a6, .ref a7, .ref a8, .ref a9, .ref a10, .ref a11, .ref a12, .int i9, .ref a13, .int i10, .ref a14, .ref a15, .int i11, .ref a16, .ref a17, .ref a18, .ref a19, .int i12, .int i13, .int i14, .int i15, .int i16, .ref a20, .long j0, .ref a21, .ref a22, .ref a23, .ref a24])), (a4, .inl (cB, 1600, .inl xF3)), (a6, .inl (cI, 544, .inl xF5))] s.heap.size = A at hD hN ⊢
  have hA : ∀ q : Nat, s.heap.size ≤ q → A q := fun q h => by rw [← hAe]; exact Or.inr h
  have hS : va_S A s.heap s.heap [] := va_S.rf
  have hl : lv_has ls 2 [(0, .ref a0)] := hl
  obtain ⟨Q, hQ⟩ : ∃ Q, Q = MQ below (va_Qv (fun (u9 : (Nat → Int32) × (Nat → Nat → Int32) × (Nat → Nat → Int64)) => ((0 : Int) ≤ (u9.1 0).toInt ∧ (u9.1 0).toInt ≤ 1600) ∧ ((0 : Int) ≤ (u9.1 1).toInt ∧ (u9.1 1).toInt ≤ 1600) ∧ ((0 : Int) ≤ (u9.1 2).toInt ∧ (u9.1 2).toInt ≤ 6) ∧ ((0 : Int) ≤ (u9.1 4).toInt ∧ (u9.1 4).toInt ≤ 3) ∧ ((u9.1 1).toInt ≤ (u9.1 0).toInt) ∧ ((2 ≤ (u9.1 2).toInt → (u9.1 1).toInt + 1 ≤ (u9.1 0).toInt)) ∧ (i4.toInt ≤ (u9.1 1).toInt) ∧ (FG (u9.1 4).toInt (u9.2.1 0)) ∧ True) (fun u9 t => va_P (dC, dI) vwCl [(a0, .inr (12, [.int i0, .ref a1, .ref a2, .ref a3, .ref a4, .int i1, .ref a5, .int i2, .int (u9.1 0), .int (u9.1 1), .int (u9.1 2), .int (u9.1 3), .int (u9.1 4), .int (u9.1 5), .ref a6, .ref a7, .ref a8, .ref a9, .ref a10, .ref a11, .ref a12, .int i9, .ref a13, .int i10, .ref a14, .ref a15, .int i11, .ref a16, .ref a17, .ref a18, .ref a19, .int i12, .int i13, .int i14, .int i15, .int i16, .ref a20, .long j0, .ref a21, .ref a22, .ref a23, .ref a24])), (a4, .inl (cB, 1600, .inl xF3)), (a6, .inl (cI, 544, .inl (u9.2.1 0)))] t.heap ∧ va_D A [(a0, .inr (12, [.int i0, .ref a1, .ref a2, .ref a3, .ref a4, .int i1, .ref a5, .int i2, .int (u9.1 0), .int (u9.1 1), .int (u9.1 2), .int (u9.1 3), .int (u9.1 4), .int (u9.1 5), .ref a6, .ref a7, .ref a8, .ref a9, .ref a10, .ref a11, .ref a12, .int i9, .ref a13, .int i10, .ref a14, .ref a15, .int i11, .ref a16, .ref a17, .ref a18, .ref a19, .int i12, .int i13, .int i14, .int i15, .int i16, .ref a20, .long j0, .ref a21, .ref a22, .ref a23, .ref a24])), (a4, .inl (cB, 1600, .inl xF3)), (a6, .inl (cI, 544, .inl (u9.2.1 0)))]) A) ([.ref a0] : List Value).toArray s 0 0 A := ⟨_, rfl⟩
  rw [← hQ]
  have k0 : (0 : Int32).toInt = 0 := by decide
  have k1 : (1 : Int32).toInt = 1 := by decide
  have k2 : (2 : Int32).toInt = 2 := by decide
  have k3 : (3 : Int32).toInt = 3 := by decide
  have k4 : (4 : Int32).toInt = 4 := by decide
  have k5 : (5 : Int32).toInt = 5 := by decide
  have k7 : (7 : Int32).toInt = 7 := by decide
  have k20 : (20 : Int32).toInt = 20 := by decide
  have k60 : (60 : Int32).toInt = 60 := by decide
  obtain ⟨sa189, sav189, sn189, sf189, hsn189, hR189, hks189⟩ := hN.2 _ rf_RX12_189
  have hN189 : NS sa189 sav189 sn189 sf189 A s := ⟨hN.1, hsn189.1, hks189⟩
  have hsl189 : sn189 = 2 := hsn189.2
  obtain ⟨sa191, sav191, sn191, sf191, hsn191, hR191, hks191⟩ := hN.2 _ rf_RX12_191
  have hN191 : NS sa191 sav191 sn191 sf191 A s := ⟨hN.1, hsn191.1, hks191⟩
  have hsl191 : sn191 = 2 := hsn191.2
  obtain ⟨sa192, sav192, sn192, sf192, hsn192, hR192, hks192⟩ := hN.2 _ rf_RX12_192
  have hN192 : NS sa192 sav192 sn192 sf192 A s := ⟨hN.1, hsn192.1, hks192⟩
  have hsl192 : sn192 = 4 := hsn192.2
  obtain ⟨sa194, sav194, sn194, sf194, hsn194, hR194, hks194⟩ := hN.2 _ rf_RX12_194
  have hN194 : NS sa194 sav194 sn194 sf194 A s := ⟨hN.1, hsn194.1, hks194⟩
  have hsl194 : sn194 = 4 := hsn194.2
  obtain ⟨sa196, sav196, sn196, sf196, hsn196, hR196, hks196⟩ := hN.2 _ rf_RX12_196
  have hN196 : NS sa196 sav196 sn196 sf196 A s := ⟨hN.1, hsn196.1, hks196⟩
  have hsl196 : sn196 = 5 := hsn196.2
  refine lv_bipush (v := 20) hx hb dX12_readNose_0 (by decide) ?_
  refine lv_bipush (v := 7) hx hb dX12_readNose_2 (by decide) ?_
  refine lv_aload_n hx hb dX12_readNose_4 rfl (lv_at hl 0 rfl) ?_
  refine va_get (D := (dC, dI)) (ci := 12) (v := .ref a6) (C := RX12) (T := TX12) (N := 42) hx hb hwd inlX12 hown hK hP 0 rfl rfl 14 (by decide) (hwd _ kr7_9) (fun _ h9 => h9) rfl dX12_readNose_5 ?_
  refine lv_iconst (v := 5) hx hb dX12_readNose_8 (by decide) ?_
  have h1 : vp_in (5 : Int32) 544 := (vin (by decide))
  refine va_iald hx hb hK hP 2 0 rfl rfl h1 dX12_readNose_9 ?_
  refine lv_topi (fun x2 ex2 => ?_)
  have ix2 := wat_lit (k := 5) ex2 (by decide)
  have wh3 : whd 0 xF5 := p_7.1
  unfold whd at wh3
  refine lv_imul hx hb dX12_readNose_10 ?_
  refine lv_topi (fun x4 ex4 => ?_)
  have tx4 := ia_mull (a := (7 : Int32)) (b := x2) 7 (by decide) (by omega) (by omega)
  rw [← ex4] at tx4
  refine lv_iadd hx hb dX12_readNose_11 ?_
  refine lv_topi (fun x5 ex5 => ?_)
  have tx5 := ia_add (a := (20 : Int32)) (b := x4) (by omega) (by omega)
  rw [← ex5] at tx5
  refine lv_istore_n (lv' := [(1, .int x5), (0, .ref a0)]) hx hb dX12_readNose_12 rfl hl (by decide) rfl (fun ls hl => ?_)
  refine lv_aload_n hx hb dX12_readNose_13 rfl (lv_at hl 1 rfl) ?_
  refine va_get (D := (dC, dI)) (ci := 12) (v := .ref a6) (C := RX12) (T := TX12) (N := 42) hx hb hwd inlX12 hown hK hP 0 rfl rfl 14 (by decide) (hwd _ kr7_9) (fun _ h9 => h9) rfl dX12_readNose_14 ?_
  refine lv_iload_n hx hb dX12_readNose_17 rfl (lv_at hl 0 rfl) ?_
  refine lv_iconst (v := 0) hx hb dX12_readNose_18 (by decide) ?_
  refine lv_iadd hx hb dX12_readNose_19 ?_
  refine lv_topi (fun x6 ex6 => ?_)
  have tx6 := ia_add (a := x5) (b := (0 : Int32)) (by omega) (by omega)
  rw [← ex6] at tx6
  refine lv_aload_n hx hb dX12_readNose_20 rfl (lv_at hl 1 rfl) ?_
  refine va_ldcS hx hb hown hR189 dX12_readNose_21 ?_
  refine lv_iconst (v := 0) hx hb dX12_readNose_23 (by decide) ?_
  refine lv_aload_n hx hb dX12_readNose_24 rfl (lv_at hl 1 rfl) ?_
  refine va_get (D := (dC, dI)) (ci := 12) (v := .ref a6) (C := RX12) (T := TX12) (N := 42) hx hb hwd inlX12 hown hK hP 0 rfl rfl 14 (by decide) (hwd _ kr7_9) (fun _ h9 => h9) rfl dX12_readNose_25 ?_
  refine lv_iconst (v := 4) hx hb dX12_readNose_28 (by decide) ?_
  have h7 : vp_in (4 : Int32) 544 := (vin (by decide))
  refine va_iald hx hb hK hP 2 0 rfl rfl h7 dX12_readNose_29 ?_
  refine lv_topi (fun x8 ex8 => ?_)
  have ix8 := wat_lit (k := 4) ex8 (by decide)
  refine lv_iconst (v := 1) hx hb dX12_readNose_30 (by decide) ?_
  refine lv_isub hx hb dX12_readNose_31 ?_
  refine lv_topi (fun x9 ex9 => ?_)
  have tx9 := ia_sub (a := x8) (b := (1 : Int32)) (by omega) (by omega)
  rw [← ex9] at tx9
  have hPc := hP.sub (ws' := [(a0, .inr (12, [.int i0, .ref a1, .ref a2, .ref a3, .ref a4, .int i1, .ref a5, .int i2, .int i3, .int i4, .int i5, .int i6, .int i7, .int i8, .ref a6, .ref a7, .ref a8, .ref a9, .ref a10, .ref a11, .ref a12, .int i9, .ref a13, .int i10, .ref a14, .ref a15, .int i11, .ref a16, .ref a17, .ref a18, .ref a19, .int i12, .int i13, .int i14, .int i15, .int i16, .ref a20, .long j0, .ref a21, .ref a22, .ref a23, .ref a24])), (a4, .inl (cB, 1600, .inl xF3))]) [0, 1] rfl
  have hDc := hD.sub (ws' := [(a0, .inr (12, [.int i0, .ref a1, .ref a2, .ref a3, .ref a4, .int i1, .ref a5, .int i2, .int i3, .int i4, .int i5, .int i6, .int i7, .int i8, .ref a6, .ref a7, .ref a8, .ref a9, .ref a10, .ref a11, .ref a12, .int i9, .ref a13, .int i10, .ref a14, .ref a15, .int i11, .ref a16, .ref a17, .ref a18, .ref a19, .int i12, .int i13, .int i14, .int i15, .int i16, .ref a20, .long j0, .ref a21, .ref a22, .ref a23, .ref a24])), (a4, .inl (cB, 1600, .inl xF3))]) [0, 1] (by decide) rfl
  have hFc := va_free (wc := [(a0, .inr (12, [.int i0, .ref a1, .ref a2, .ref a3, .ref a4, .int i1, .ref a5, .int i2, .int i3, .int i4, .int i5, .int i6, .int i7, .int i8, .ref a6, .ref a7, .ref a8, .ref a9, .ref a10, .ref a11, .ref a12, .int i9, .ref a13, .int i10, .ref a14, .ref a15, .int i11, .ref a16, .ref a17, .ref a18, .ref a19, .int i12, .int i13, .int i14, .int i15, .int i16, .ref a20, .long j0, .ref a21, .ref a22, .ref a23, .ref a24])), (a4, .inl (cB, 1600, .inl xF3))]) hD hS hA [0, 1] rfl
  refine va_calli (va_runV (As := [.ref sa189, .int 0, .int x9]) (rest := [.int x6, .ref a6]) ⟨hx, hb, hml, hown, hwd⟩ (s_X12_told l dC dI cI cZ cB cJ cM cG a0 a1 a2 a3 a4 a5 a6 a7 a8 a9 a10 a11 a12 a13 a14 a15 a16 a17 a18 a19 a20 a21 a22 a23 a24 i0 i1 i2 i3 i4 i5 i6 i7 i8 i9 i10 i11 i12 i13 i14 i15 i16 j0 xF3 0 x9 sa189 sav189 sn189 sf189 s.heap.size (show (0 : Int) ≤ i1.toInt ∧ i1.toInt ≤ 1600 from ⟨by omega, by omega⟩) (show (0 : Int) ≤ i2.toInt ∧ i2.toInt ≤ 1600 from ⟨by omega, by omega⟩) (show (0 : Int) ≤ i3.toInt ∧ i3.toInt ≤ 1600 from ⟨by omega, by omega⟩) (show (0 : Int) ≤ i4.toInt ∧ i4.toInt ≤ 1600 from ⟨by omega, by omega⟩) (show (0 : Int) ≤ i5.toInt ∧ i5.toInt ≤ 6 from ⟨by omega, by omega⟩) (show (0 : Int) ≤ i7.toInt ∧ i7.toInt ≤ 3 from ⟨by omega, by omega⟩) (show (0 : Int) ≤ i11.toInt ∧ i11.toInt ≤ 59 from ⟨by omega, by omega⟩) (show (0 : Int) ≤ (0 : Int32).toInt ∧ (0 : Int32).toInt ≤ 4 from ⟨by omega, by omega⟩) (show (-1 : Int) ≤ x9.toInt ∧ x9.toInt ≤ 999 from ⟨by omega, by omega⟩) p_10 p_11) (cwV 3 hwd (gV kr25_1 kr25_2 kr25_3 kr1_5 kr25_4) rfl rfl rfl (by decide +kernel) ⟨Nat.le_of_ble_eq_true rfl, Nat.le_of_ble_eq_true rfl⟩) (kPreVX hPc hK hDc (NS_st _ _ _ _) hN189 hS hFc (ci := 12) (q0 := 0) rfl rfl) rfl rfl hl.1 rfl (lv_room (Nat.le_of_ble_eq_true rfl)) dX12_readNose_32 ⟨Nat.le_of_ble_eq_true rfl, Nat.le_of_ble_eq_true rfl⟩) hS (fun q _ h => hFc q h) hFc (fun r10 u11 t H1 locs ht9 hvm hw hB hz1 hk1 hS => ?_)
  obtain ⟨u12, U12, V12⟩ := u11
  obtain ⟨hw13, hw14, hw15, hw16, hw17, hw18, hw19, hw20, hw21, -⟩ := hw
  have hw13 : (r10.toInt = 0 ∨ ((0 : Int32).toInt ≤ r10.toInt ∧ r10.toInt ≤ x9.toInt)) := hw13
  have hw14 : (0 : Int) ≤ (u12 0).toInt ∧ (u12 0).toInt ≤ 1600 := hw14
  have hw15 : (0 : Int) ≤ (u12 1).toInt ∧ (u12 1).toInt ≤ 1600 := hw15
  have hw16 : (0 : Int) ≤ (u12 2).toInt ∧ (u12 2).toInt ≤ 6 := hw16
  have hw17 : (0 : Int) ≤ (u12 4).toInt ∧ (u12 4).toInt ≤ 3 := hw17
  have hw18 : (u12 1).toInt ≤ (u12 0).toInt := hw18
  have hw19 : (2 ≤ (u12 2).toInt → (u12 1).toInt + 1 ≤ (u12 0).toInt) := hw19
  have hw20 : i4.toInt ≤ (u12 1).toInt := hw20
  have hw21 : ((u12 4).toInt = 0 → i7.toInt = 0 ∧ (0 : Int32).toInt ≤ r10.toInt ∧ r10.toInt ≤ x9.toInt ∧ i4.toInt + (sn189 : Int) + 1 ≤ (u12 1).toInt) := hw21
  obtain ⟨hP1, hD1⟩ := hB
  rw [ht9] at hP1
  obtain ⟨hP, hD⟩ := va_join (wr := [(a6, .inl (cI, 544, .inl xF5))]) (w1 := [(a0, .inr (12, [.int i0, .ref a1, .ref a2, .ref a3, .ref a4, .int i1, .ref a5, .int i2, .int (u12 0), .int (u12 1), .int (u12 2), .int (u12 3), .int (u12 4), .int (u12 5), .ref a6, .ref a7, .ref a8, .ref a9, .ref a10, .ref a11, .ref a12, .int i9, .ref a13, .int i10, .ref a14, .ref a15, .int i11, .ref a16, .ref a17, .ref a18, .ref a19, .int i12, .int i13, .int i14, .int i15, .int i16, .ref a20, .long j0, .ref a21, .ref a22, .ref a23, .ref a24])), (a4, .inl (cB, 1600, .inl xF3))]) hP hD [0, 1] [2] rfl rfl (by decide) (by decide) hk1 hFc hP1 hD1
  generalize H1 = H at hP hS ⊢
  have hP : va_P (dC, dI) vwCl [(a6, .inl (cI, 544, .inl xF5)), (a0, .inr (12, [.int i0, .ref a1, .ref a2, .ref a3, .ref a4, .int i1, .ref a5, .int i2, .int (u12 0), .int (u12 1), .int (u12 2), .int (u12 3), .int (u12 4), .int (u12 5), .ref a6, .ref a7, .ref a8, .ref a9, .ref a10, .ref a11, .ref a12, .int i9, .ref a13, .int i10, .ref a14, .ref a15, .int i11, .ref a16, .ref a17, .ref a18, .ref a19, .int i12, .int i13, .int i14, .int i15, .int i16, .ref a20, .long j0, .ref a21, .ref a22, .ref a23, .ref a24])), (a4, .inl (cB, 1600, .inl xF3))] H := hP
  have hD : va_D A [(a6, .inl (cI, 544, .inl xF5)), (a0, .inr (12, [.int i0, .ref a1, .ref a2, .ref a3, .ref a4, .int i1, .ref a5, .int i2, .int (u12 0), .int (u12 1), .int (u12 2), .int (u12 3), .int (u12 4), .int (u12 5), .ref a6, .ref a7, .ref a8, .ref a9, .ref a10, .ref a11, .ref a12, .int i9, .ref a13, .int i10, .ref a14, .ref a15, .int i11, .ref a16, .ref a17, .ref a18, .ref a19, .int i12, .int i13, .int i14, .int i15, .int i16, .ref a20, .long j0, .ref a21, .ref a22, .ref a23, .ref a24])), (a4, .inl (cB, 1600, .inl xF3))] := hD
  refine va_iast hx hb hK hP hD hS 0 0 rfl rfl (vp_of (by omega) (by omega)) dX12_readNose_35 (fun H locs hP hD hS => ?_)
  obtain ⟨f22, ef22⟩ : ∃ f, f = upd xF5 x6.toNatClampNeg r10 := ⟨_, rfl⟩
  have df22 : WI 0 f22 := by rw [ef22]; exact WI_nose p_7 (by omega) (by omega) (fun h9 => by omega)
  have hP : va_P (dC, dI) vwCl [(a6, .inl (cI, 544, .inl f22)), (a0, .inr (12, [.int i0, .ref a1, .ref a2, .ref a3, .ref a4, .int i1, .ref a5, .int i2, .int (u12 0), .int (u12 1), .int (u12 2), .int (u12 3), .int (u12 4), .int (u12 5), .ref a6, .ref a7, .ref a8, .ref a9, .ref a10, .ref a11, .ref a12, .int i9, .ref a13, .int i10, .ref a14, .ref a15, .int i11, .ref a16, .ref a17, .ref a18, .ref a19, .int i12, .int i13, .int i14, .int i15, .int i16, .ref a20, .long j0, .ref a21, .ref a22, .ref a23, .ref a24])), (a4, .inl (cB, 1600, .inl xF3))] H := by rw [ef22]; exact hP
  have hD : va_D A [(a6, .inl (cI, 544, .inl f22)), (a0, .inr (12, [.int i0, .ref a1, .ref a2, .ref a3, .ref a4, .int i1, .ref a5, .int i2, .int (u12 0), .int (u12 1), .int (u12 2), .int (u12 3), .int (u12 4), .int (u12 5), .ref a6, .ref a7, .ref a8, .ref a9, .ref a10, .ref a11, .ref a12, .int i9, .ref a13, .int i10, .ref a14, .ref a15, .int i11, .ref a16, .ref a17, .ref a18, .ref a19, .int i12, .int i13, .int i14, .int i15, .int i16, .ref a20, .long j0, .ref a21, .ref a22, .ref a23, .ref a24])), (a4, .inl (cB, 1600, .inl xF3))] := by rw [ef22]; exact hD
  refine lv_aload_n hx hb dX12_readNose_36 rfl (lv_at hl 1 rfl) ?_
  refine va_get (D := (dC, dI)) (ci := 12) (v := .ref a6) (C := RX12) (T := TX12) (N := 42) hx hb hwd inlX12 hown hK hP 1 rfl rfl 14 (by decide) (hwd _ kr7_9) (fun _ h9 => h9) rfl dX12_readNose_37 ?_
  refine lv_iload_n hx hb dX12_readNose_40 rfl (lv_at hl 0 rfl) ?_
  refine lv_iconst (v := 1) hx hb dX12_readNose_41 (by decide) ?_
  refine lv_iadd hx hb dX12_readNose_42 ?_
  refine lv_topi (fun x23 ex23 => ?_)
  have tx23 := ia_add (a := x5) (b := (1 : Int32)) (by omega) (by omega)
  rw [← ex23] at tx23
  refine lv_aload_n hx hb dX12_readNose_43 rfl (lv_at hl 1 rfl) ?_
  refine va_ldcS hx hb hown hR191 dX12_readNose_44 ?_
  refine lv_iconst (v := 0) hx hb dX12_readNose_46 (by decide) ?_
  refine lv_aload_n hx hb dX12_readNose_47 rfl (lv_at hl 1 rfl) ?_
  refine va_get (D := (dC, dI)) (ci := 12) (v := .ref a6) (C := RX12) (T := TX12) (N := 42) hx hb hwd inlX12 hown hK hP 1 rfl rfl 14 (by decide) (hwd _ kr7_9) (fun _ h9 => h9) rfl dX12_readNose_48 ?_
  refine lv_iconst (v := 1) hx hb dX12_readNose_51 (by decide) ?_
  have h24 : vp_in (1 : Int32) 544 := (vin (by decide))
  refine va_iald hx hb hK hP 0 0 rfl rfl h24 dX12_readNose_52 ?_
  refine lv_topi (fun x25 ex25 => ?_)
  have ix25 := wat_lit (k := 1) ex25 (by decide)
  have wh26 : whd 0 f22 := df22.1
  unfold whd at wh26
  refine lv_iconst (v := 1) hx hb dX12_readNose_53 (by decide) ?_
  refine lv_isub hx hb dX12_readNose_54 ?_
  refine lv_topi (fun x27 ex27 => ?_)
  have tx27 := ia_sub (a := x25) (b := (1 : Int32)) (by omega) (by omega)
  rw [← ex27] at tx27
  have hPc := hP.sub (ws' := [(a0, .inr (12, [.int i0, .ref a1, .ref a2, .ref a3, .ref a4, .int i1, .ref a5, .int i2, .int (u12 0), .int (u12 1), .int (u12 2), .int (u12 3), .int (u12 4), .int (u12 5), .ref a6, .ref a7, .ref a8, .ref a9, .ref a10, .ref a11, .ref a12, .int i9, .ref a13, .int i10, .ref a14, .ref a15, .int i11, .ref a16, .ref a17, .ref a18, .ref a19, .int i12, .int i13, .int i14, .int i15, .int i16, .ref a20, .long j0, .ref a21, .ref a22, .ref a23, .ref a24])), (a4, .inl (cB, 1600, .inl xF3))]) [1, 2] rfl
  have hDc := hD.sub (ws' := [(a0, .inr (12, [.int i0, .ref a1, .ref a2, .ref a3, .ref a4, .int i1, .ref a5, .int i2, .int (u12 0), .int (u12 1), .int (u12 2), .int (u12 3), .int (u12 4), .int (u12 5), .ref a6, .ref a7, .ref a8, .ref a9, .ref a10, .ref a11, .ref a12, .int i9, .ref a13, .int i10, .ref a14, .ref a15, .int i11, .ref a16, .ref a17, .ref a18, .ref a19, .int i12, .int i13, .int i14, .int i15, .int i16, .ref a20, .long j0, .ref a21, .ref a22, .ref a23, .ref a24])), (a4, .inl (cB, 1600, .inl xF3))]) [1, 2] (by decide) rfl
  have hFc := va_free (wc := [(a0, .inr (12, [.int i0, .ref a1, .ref a2, .ref a3, .ref a4, .int i1, .ref a5, .int i2, .int (u12 0), .int (u12 1), .int (u12 2), .int (u12 3), .int (u12 4), .int (u12 5), .ref a6, .ref a7, .ref a8, .ref a9, .ref a10, .ref a11, .ref a12, .int i9, .ref a13, .int i10, .ref a14, .ref a15, .int i11, .ref a16, .ref a17, .ref a18, .ref a19, .int i12, .int i13, .int i14, .int i15, .int i16, .ref a20, .long j0, .ref a21, .ref a22, .ref a23, .ref a24])), (a4, .inl (cB, 1600, .inl xF3))]) hD hS hA [1, 2] rfl
  refine va_calli (va_runV (As := [.ref sa191, .int 0, .int x27]) (rest := [.int x23, .ref a6]) ⟨hx, hb, hml, hown, hwd⟩ (s_X12_told l dC dI cI cZ cB cJ cM cG a0 a1 a2 a3 a4 a5 a6 a7 a8 a9 a10 a11 a12 a13 a14 a15 a16 a17 a18 a19 a20 a21 a22 a23 a24 i0 i1 i2 (u12 0) (u12 1) (u12 2) (u12 3) (u12 4) (u12 5) i9 i10 i11 i12 i13 i14 i15 i16 j0 xF3 0 x27 sa191 sav191 sn191 sf191 H.size (show (0 : Int) ≤ i1.toInt ∧ i1.toInt ≤ 1600 from ⟨by omega, by omega⟩) (show (0 : Int) ≤ i2.toInt ∧ i2.toInt ≤ 1600 from ⟨by omega, by omega⟩) (show (0 : Int) ≤ (u12 0).toInt ∧ (u12 0).toInt ≤ 1600 from ⟨by omega, by omega⟩) (show (0 : Int) ≤ (u12 1).toInt ∧ (u12 1).toInt ≤ 1600 from ⟨by omega, by omega⟩) (show (0 : Int) ≤ (u12 2).toInt ∧ (u12 2).toInt ≤ 6 from ⟨by omega, by omega⟩) (show (0 : Int) ≤ (u12 4).toInt ∧ (u12 4).toInt ≤ 3 from ⟨by omega, by omega⟩) (show (0 : Int) ≤ i11.toInt ∧ i11.toInt ≤ 59 from ⟨by omega, by omega⟩) (show (0 : Int) ≤ (0 : Int32).toInt ∧ (0 : Int32).toInt ≤ 4 from ⟨by omega, by omega⟩) (show (-1 : Int) ≤ x27.toInt ∧ x27.toInt ≤ 999 from ⟨by omega, by omega⟩) hw18 hw19) (cwV 3 hwd (gV kr25_1 kr25_2 kr25_3 kr1_5 kr25_4) rfl rfl rfl (by decide +kernel) ⟨Nat.le_of_ble_eq_true rfl, Nat.le_of_ble_eq_true rfl⟩) (kPreVX hPc hK hDc (NS_st _ _ _ _) hN191 hS hFc (ci := 12) (q0 := 0) rfl rfl) rfl rfl hl.1 rfl (lv_room (Nat.le_of_ble_eq_true rfl)) dX12_readNose_55 ⟨Nat.le_of_ble_eq_true rfl, Nat.le_of_ble_eq_true rfl⟩) hS (fun q _ h => hFc q h) hFc (fun r28 u29 t H1 locs ht9 hvm hw hB hz1 hk1 hS => ?_)
  obtain ⟨u30, U30, V30⟩ := u29
  obtain ⟨hw31, hw32, hw33, hw34, hw35, hw36, hw37, hw38, hw39, -⟩ := hw
  have hw31 : (r28.toInt = 0 ∨ ((0 : Int32).toInt ≤ r28.toInt ∧ r28.toInt ≤ x27.toInt)) := hw31
  have hw32 : (0 : Int) ≤ (u30 0).toInt ∧ (u30 0).toInt ≤ 1600 := hw32
  have hw33 : (0 : Int) ≤ (u30 1).toInt ∧ (u30 1).toInt ≤ 1600 := hw33
  have hw34 : (0 : Int) ≤ (u30 2).toInt ∧ (u30 2).toInt ≤ 6 := hw34
  have hw35 : (0 : Int) ≤ (u30 4).toInt ∧ (u30 4).toInt ≤ 3 := hw35
  have hw36 : (u30 1).toInt ≤ (u30 0).toInt := hw36
  have hw37 : (2 ≤ (u30 2).toInt → (u30 1).toInt + 1 ≤ (u30 0).toInt) := hw37
  have hw38 : (u12 1).toInt ≤ (u30 1).toInt := hw38
  have hw39 : ((u30 4).toInt = 0 → (u12 4).toInt = 0 ∧ (0 : Int32).toInt ≤ r28.toInt ∧ r28.toInt ≤ x27.toInt ∧ (u12 1).toInt + (sn191 : Int) + 1 ≤ (u30 1).toInt) := hw39
  obtain ⟨hP1, hD1⟩ := hB
  rw [ht9] at hP1
  obtain ⟨hP, hD⟩ := va_join (wr := [(a6, .inl (cI, 544, .inl f22))]) (w1 := [(a0, .inr (12, [.int i0, .ref a1, .ref a2, .ref a3, .ref a4, .int i1, .ref a5, .int i2, .int (u30 0), .int (u30 1), .int (u30 2), .int (u30 3), .int (u30 4), .int (u30 5), .ref a6, .ref a7, .ref a8, .ref a9, .ref a10, .ref a11, .ref a12, .int i9, .ref a13, .int i10, .ref a14, .ref a15, .int i11, .ref a16, .ref a17, .ref a18, .ref a19, .int i12, .int i13, .int i14, .int i15, .int i16, .ref a20, .long j0, .ref a21, .ref a22, .ref a23, .ref a24])), (a4, .inl (cB, 1600, .inl xF3))]) hP hD [1, 2] [0] rfl rfl (by decide) (by decide) hk1 hFc hP1 hD1
  generalize H1 = H at hP hS ⊢
  have hP : va_P (dC, dI) vwCl [(a6, .inl (cI, 544, .inl f22)), (a0, .inr (12, [.int i0, .ref a1, .ref a2, .ref a3, .ref a4, .int i1, .ref a5, .int i2, .int (u30 0), .int (u30 1), .int (u30 2), .int (u30 3), .int (u30 4), .int (u30 5), .ref a6, .ref a7, .ref a8, .ref a9, .ref a10, .ref a11, .ref a12, .int i9, .ref a13, .int i10, .ref a14, .ref a15, .int i11, .ref a16, .ref a17, .ref a18, .ref a19, .int i12, .int i13, .int i14, .int i15, .int i16, .ref a20, .long j0, .ref a21, .ref a22, .ref a23, .ref a24])), (a4, .inl (cB, 1600, .inl xF3))] H := hP
  have hD : va_D A [(a6, .inl (cI, 544, .inl f22)), (a0, .inr (12, [.int i0, .ref a1, .ref a2, .ref a3, .ref a4, .int i1, .ref a5, .int i2, .int (u30 0), .int (u30 1), .int (u30 2), .int (u30 3), .int (u30 4), .int (u30 5), .ref a6, .ref a7, .ref a8, .ref a9, .ref a10, .ref a11, .ref a12, .int i9, .ref a13, .int i10, .ref a14, .ref a15, .int i11, .ref a16, .ref a17, .ref a18, .ref a19, .int i12, .int i13, .int i14, .int i15, .int i16, .ref a20, .long j0, .ref a21, .ref a22, .ref a23, .ref a24])), (a4, .inl (cB, 1600, .inl xF3))] := hD
  refine va_iast hx hb hK hP hD hS 0 0 rfl rfl (vp_of (by omega) (by omega)) dX12_readNose_58 (fun H locs hP hD hS => ?_)
  obtain ⟨f40, ef40⟩ : ∃ f, f = upd f22 x23.toNatClampNeg r28 := ⟨_, rfl⟩
  have df40 : WI 0 f40 := by rw [ef40]; exact WI_nose df22 (by omega) (by omega) (fun h9 => by omega)
  have hP : va_P (dC, dI) vwCl [(a6, .inl (cI, 544, .inl f40)), (a0, .inr (12, [.int i0, .ref a1, .ref a2, .ref a3, .ref a4, .int i1, .ref a5, .int i2, .int (u30 0), .int (u30 1), .int (u30 2), .int (u30 3), .int (u30 4), .int (u30 5), .ref a6, .ref a7, .ref a8, .ref a9, .ref a10, .ref a11, .ref a12, .int i9, .ref a13, .int i10, .ref a14, .ref a15, .int i11, .ref a16, .ref a17, .ref a18, .ref a19, .int i12, .int i13, .int i14, .int i15, .int i16, .ref a20, .long j0, .ref a21, .ref a22, .ref a23, .ref a24])), (a4, .inl (cB, 1600, .inl xF3))] H := by rw [ef40]; exact hP
  have hD : va_D A [(a6, .inl (cI, 544, .inl f40)), (a0, .inr (12, [.int i0, .ref a1, .ref a2, .ref a3, .ref a4, .int i1, .ref a5, .int i2, .int (u30 0), .int (u30 1), .int (u30 2), .int (u30 3), .int (u30 4), .int (u30 5), .ref a6, .ref a7, .ref a8, .ref a9, .ref a10, .ref a11, .ref a12, .int i9, .ref a13, .int i10, .ref a14, .ref a15, .int i11, .ref a16, .ref a17, .ref a18, .ref a19, .int i12, .int i13, .int i14, .int i15, .int i16, .ref a20, .long j0, .ref a21, .ref a22, .ref a23, .ref a24])), (a4, .inl (cB, 1600, .inl xF3))] := by rw [ef40]; exact hD
  refine lv_aload_n hx hb dX12_readNose_59 rfl (lv_at hl 1 rfl) ?_
  refine va_get (D := (dC, dI)) (ci := 12) (v := .ref a6) (C := RX12) (T := TX12) (N := 42) hx hb hwd inlX12 hown hK hP 1 rfl rfl 14 (by decide) (hwd _ kr7_9) (fun _ h9 => h9) rfl dX12_readNose_60 ?_
  refine lv_iload_n hx hb dX12_readNose_63 rfl (lv_at hl 0 rfl) ?_
  refine lv_iconst (v := 2) hx hb dX12_readNose_64 (by decide) ?_
  refine lv_iadd hx hb dX12_readNose_65 ?_
  refine lv_topi (fun x41 ex41 => ?_)
  have tx41 := ia_add (a := x5) (b := (2 : Int32)) (by omega) (by omega)
  rw [← ex41] at tx41
  refine lv_aload_n hx hb dX12_readNose_66 rfl (lv_at hl 1 rfl) ?_
  refine va_ldcS hx hb hown hR192 dX12_readNose_67 ?_
  refine lv_iconst (v := 1) hx hb dX12_readNose_69 (by decide) ?_
  refine lv_aload_n hx hb dX12_readNose_70 rfl (lv_at hl 1 rfl) ?_
  refine va_get (D := (dC, dI)) (ci := 12) (v := .ref a6) (C := RX12) (T := TX12) (N := 42) hx hb hwd inlX12 hown hK hP 1 rfl rfl 14 (by decide) (hwd _ kr7_9) (fun _ h9 => h9) rfl dX12_readNose_71 ?_
  refine lv_iconst (v := 1) hx hb dX12_readNose_74 (by decide) ?_
  have h42 : vp_in (1 : Int32) 544 := (vin (by decide))
  refine va_iald hx hb hK hP 0 0 rfl rfl h42 dX12_readNose_75 ?_
  refine lv_topi (fun x43 ex43 => ?_)
  have ix43 := wat_lit (k := 1) ex43 (by decide)
  have wh44 : whd 0 f40 := df40.1
  unfold whd at wh44
  have hPc := hP.sub (ws' := [(a0, .inr (12, [.int i0, .ref a1, .ref a2, .ref a3, .ref a4, .int i1, .ref a5, .int i2, .int (u30 0), .int (u30 1), .int (u30 2), .int (u30 3), .int (u30 4), .int (u30 5), .ref a6, .ref a7, .ref a8, .ref a9, .ref a10, .ref a11, .ref a12, .int i9, .ref a13, .int i10, .ref a14, .ref a15, .int i11, .ref a16, .ref a17, .ref a18, .ref a19, .int i12, .int i13, .int i14, .int i15, .int i16, .ref a20, .long j0, .ref a21, .ref a22, .ref a23, .ref a24])), (a4, .inl (cB, 1600, .inl xF3))]) [1, 2] rfl
  have hDc := hD.sub (ws' := [(a0, .inr (12, [.int i0, .ref a1, .ref a2, .ref a3, .ref a4, .int i1, .ref a5, .int i2, .int (u30 0), .int (u30 1), .int (u30 2), .int (u30 3), .int (u30 4), .int (u30 5), .ref a6, .ref a7, .ref a8, .ref a9, .ref a10, .ref a11, .ref a12, .int i9, .ref a13, .int i10, .ref a14, .ref a15, .int i11, .ref a16, .ref a17, .ref a18, .ref a19, .int i12, .int i13, .int i14, .int i15, .int i16, .ref a20, .long j0, .ref a21, .ref a22, .ref a23, .ref a24])), (a4, .inl (cB, 1600, .inl xF3))]) [1, 2] (by decide) rfl
  have hFc := va_free (wc := [(a0, .inr (12, [.int i0, .ref a1, .ref a2, .ref a3, .ref a4, .int i1, .ref a5, .int i2, .int (u30 0), .int (u30 1), .int (u30 2), .int (u30 3), .int (u30 4), .int (u30 5), .ref a6, .ref a7, .ref a8, .ref a9, .ref a10, .ref a11, .ref a12, .int i9, .ref a13, .int i10, .ref a14, .ref a15, .int i11, .ref a16, .ref a17, .ref a18, .ref a19, .int i12, .int i13, .int i14, .int i15, .int i16, .ref a20, .long j0, .ref a21, .ref a22, .ref a23, .ref a24])), (a4, .inl (cB, 1600, .inl xF3))]) hD hS hA [1, 2] rfl
  refine va_calli (va_runV (As := [.ref sa192, .int 1, .int x43]) (rest := [.int x41, .ref a6]) ⟨hx, hb, hml, hown, hwd⟩ (s_X12_told l dC dI cI cZ cB cJ cM cG a0 a1 a2 a3 a4 a5 a6 a7 a8 a9 a10 a11 a12 a13 a14 a15 a16 a17 a18 a19 a20 a21 a22 a23 a24 i0 i1 i2 (u30 0) (u30 1) (u30 2) (u30 3) (u30 4) (u30 5) i9 i10 i11 i12 i13 i14 i15 i16 j0 xF3 1 x43 sa192 sav192 sn192 sf192 H.size (show (0 : Int) ≤ i1.toInt ∧ i1.toInt ≤ 1600 from ⟨by omega, by omega⟩) (show (0 : Int) ≤ i2.toInt ∧ i2.toInt ≤ 1600 from ⟨by omega, by omega⟩) (show (0 : Int) ≤ (u30 0).toInt ∧ (u30 0).toInt ≤ 1600 from ⟨by omega, by omega⟩) (show (0 : Int) ≤ (u30 1).toInt ∧ (u30 1).toInt ≤ 1600 from ⟨by omega, by omega⟩) (show (0 : Int) ≤ (u30 2).toInt ∧ (u30 2).toInt ≤ 6 from ⟨by omega, by omega⟩) (show (0 : Int) ≤ (u30 4).toInt ∧ (u30 4).toInt ≤ 3 from ⟨by omega, by omega⟩) (show (0 : Int) ≤ i11.toInt ∧ i11.toInt ≤ 59 from ⟨by omega, by omega⟩) (show (0 : Int) ≤ (1 : Int32).toInt ∧ (1 : Int32).toInt ≤ 4 from ⟨by omega, by omega⟩) (show (-1 : Int) ≤ x43.toInt ∧ x43.toInt ≤ 999 from ⟨by omega, by omega⟩) hw36 hw37) (cwV 3 hwd (gV kr25_1 kr25_2 kr25_3 kr1_5 kr25_4) rfl rfl rfl (by decide +kernel) ⟨Nat.le_of_ble_eq_true rfl, Nat.le_of_ble_eq_true rfl⟩) (kPreVX hPc hK hDc (NS_st _ _ _ _) hN192 hS hFc (ci := 12) (q0 := 0) rfl rfl) rfl rfl hl.1 rfl (lv_room (Nat.le_of_ble_eq_true rfl)) dX12_readNose_76 ⟨Nat.le_of_ble_eq_true rfl, Nat.le_of_ble_eq_true rfl⟩) hS (fun q _ h => hFc q h) hFc (fun r45 u46 t H1 locs ht9 hvm hw hB hz1 hk1 hS => ?_)
  obtain ⟨u47, U47, V47⟩ := u46
  obtain ⟨hw48, hw49, hw50, hw51, hw52, hw53, hw54, hw55, hw56, -⟩ := hw
  have hw48 : (r45.toInt = 0 ∨ ((1 : Int32).toInt ≤ r45.toInt ∧ r45.toInt ≤ x43.toInt)) := hw48
  have hw49 : (0 : Int) ≤ (u47 0).toInt ∧ (u47 0).toInt ≤ 1600 := hw49
  have hw50 : (0 : Int) ≤ (u47 1).toInt ∧ (u47 1).toInt ≤ 1600 := hw50
  have hw51 : (0 : Int) ≤ (u47 2).toInt ∧ (u47 2).toInt ≤ 6 := hw51
  have hw52 : (0 : Int) ≤ (u47 4).toInt ∧ (u47 4).toInt ≤ 3 := hw52
  have hw53 : (u47 1).toInt ≤ (u47 0).toInt := hw53
  have hw54 : (2 ≤ (u47 2).toInt → (u47 1).toInt + 1 ≤ (u47 0).toInt) := hw54
  have hw55 : (u30 1).toInt ≤ (u47 1).toInt := hw55
  have hw56 : ((u47 4).toInt = 0 → (u30 4).toInt = 0 ∧ (1 : Int32).toInt ≤ r45.toInt ∧ r45.toInt ≤ x43.toInt ∧ (u30 1).toInt + (sn192 : Int) + 1 ≤ (u47 1).toInt) := hw56
  obtain ⟨hP1, hD1⟩ := hB
  rw [ht9] at hP1
  obtain ⟨hP, hD⟩ := va_join (wr := [(a6, .inl (cI, 544, .inl f40))]) (w1 := [(a0, .inr (12, [.int i0, .ref a1, .ref a2, .ref a3, .ref a4, .int i1, .ref a5, .int i2, .int (u47 0), .int (u47 1), .int (u47 2), .int (u47 3), .int (u47 4), .int (u47 5), .ref a6, .ref a7, .ref a8, .ref a9, .ref a10, .ref a11, .ref a12, .int i9, .ref a13, .int i10, .ref a14, .ref a15, .int i11, .ref a16, .ref a17, .ref a18, .ref a19, .int i12, .int i13, .int i14, .int i15, .int i16, .ref a20, .long j0, .ref a21, .ref a22, .ref a23, .ref a24])), (a4, .inl (cB, 1600, .inl xF3))]) hP hD [1, 2] [0] rfl rfl (by decide) (by decide) hk1 hFc hP1 hD1
  generalize H1 = H at hP hS ⊢
  have hP : va_P (dC, dI) vwCl [(a6, .inl (cI, 544, .inl f40)), (a0, .inr (12, [.int i0, .ref a1, .ref a2, .ref a3, .ref a4, .int i1, .ref a5, .int i2, .int (u47 0), .int (u47 1), .int (u47 2), .int (u47 3), .int (u47 4), .int (u47 5), .ref a6, .ref a7, .ref a8, .ref a9, .ref a10, .ref a11, .ref a12, .int i9, .ref a13, .int i10, .ref a14, .ref a15, .int i11, .ref a16, .ref a17, .ref a18, .ref a19, .int i12, .int i13, .int i14, .int i15, .int i16, .ref a20, .long j0, .ref a21, .ref a22, .ref a23, .ref a24])), (a4, .inl (cB, 1600, .inl xF3))] H := hP
  have hD : va_D A [(a6, .inl (cI, 544, .inl f40)), (a0, .inr (12, [.int i0, .ref a1, .ref a2, .ref a3, .ref a4, .int i1, .ref a5, .int i2, .int (u47 0), .int (u47 1), .int (u47 2), .int (u47 3), .int (u47 4), .int (u47 5), .ref a6, .ref a7, .ref a8, .ref a9, .ref a10, .ref a11, .ref a12, .int i9, .ref a13, .int i10, .ref a14, .ref a15, .int i11, .ref a16, .ref a17, .ref a18, .ref a19, .int i12, .int i13, .int i14, .int i15, .int i16, .ref a20, .long j0, .ref a21, .ref a22, .ref a23, .ref a24])), (a4, .inl (cB, 1600, .inl xF3))] := hD
  refine va_iast hx hb hK hP hD hS 0 0 rfl rfl (vp_of (by omega) (by omega)) dX12_readNose_79 (fun H locs hP hD hS => ?_)
  obtain ⟨f57, ef57⟩ : ∃ f, f = upd f40 x41.toNatClampNeg r45 := ⟨_, rfl⟩
  have df57 : WI 0 f57 := by rw [ef57]; exact WI_nose df40 (by omega) (by omega) (fun h9 => by omega)
  have hP : va_P (dC, dI) vwCl [(a6, .inl (cI, 544, .inl f57)), (a0, .inr (12, [.int i0, .ref a1, .ref a2, .ref a3, .ref a4, .int i1, .ref a5, .int i2, .int (u47 0), .int (u47 1), .int (u47 2), .int (u47 3), .int (u47 4), .int (u47 5), .ref a6, .ref a7, .ref a8, .ref a9, .ref a10, .ref a11, .ref a12, .int i9, .ref a13, .int i10, .ref a14, .ref a15, .int i11, .ref a16, .ref a17, .ref a18, .ref a19, .int i12, .int i13, .int i14, .int i15, .int i16, .ref a20, .long j0, .ref a21, .ref a22, .ref a23, .ref a24])), (a4, .inl (cB, 1600, .inl xF3))] H := by rw [ef57]; exact hP
  have hD : va_D A [(a6, .inl (cI, 544, .inl f57)), (a0, .inr (12, [.int i0, .ref a1, .ref a2, .ref a3, .ref a4, .int i1, .ref a5, .int i2, .int (u47 0), .int (u47 1), .int (u47 2), .int (u47 3), .int (u47 4), .int (u47 5), .ref a6, .ref a7, .ref a8, .ref a9, .ref a10, .ref a11, .ref a12, .int i9, .ref a13, .int i10, .ref a14, .ref a15, .int i11, .ref a16, .ref a17, .ref a18, .ref a19, .int i12, .int i13, .int i14, .int i15, .int i16, .ref a20, .long j0, .ref a21, .ref a22, .ref a23, .ref a24])), (a4, .inl (cB, 1600, .inl xF3))] := by rw [ef57]; exact hD
  refine lv_aload_n hx hb dX12_readNose_80 rfl (lv_at hl 1 rfl) ?_
  refine va_get (D := (dC, dI)) (ci := 12) (v := .ref a6) (C := RX12) (T := TX12) (N := 42) hx hb hwd inlX12 hown hK hP 1 rfl rfl 14 (by decide) (hwd _ kr7_9) (fun _ h9 => h9) rfl dX12_readNose_81 ?_
  refine lv_iload_n hx hb dX12_readNose_84 rfl (lv_at hl 0 rfl) ?_
  refine lv_iconst (v := 3) hx hb dX12_readNose_85 (by decide) ?_
  refine lv_iadd hx hb dX12_readNose_86 ?_
  refine lv_topi (fun x58 ex58 => ?_)
  have tx58 := ia_add (a := x5) (b := (3 : Int32)) (by omega) (by omega)
  rw [← ex58] at tx58
  refine lv_aload_n hx hb dX12_readNose_87 rfl (lv_at hl 1 rfl) ?_
  refine va_ldcS hx hb hown hR194 dX12_readNose_88 ?_
  refine lv_iconst (v := 1) hx hb dX12_readNose_90 (by decide) ?_
  refine lv_bipush (v := 60) hx hb dX12_readNose_91 (by decide) ?_
  have hPc := hP.sub (ws' := [(a0, .inr (12, [.int i0, .ref a1, .ref a2, .ref a3, .ref a4, .int i1, .ref a5, .int i2, .int (u47 0), .int (u47 1), .int (u47 2), .int (u47 3), .int (u47 4), .int (u47 5), .ref a6, .ref a7, .ref a8, .ref a9, .ref a10, .ref a11, .ref a12, .int i9, .ref a13, .int i10, .ref a14, .ref a15, .int i11, .ref a16, .ref a17, .ref a18, .ref a19, .int i12, .int i13, .int i14, .int i15, .int i16, .ref a20, .long j0, .ref a21, .ref a22, .ref a23, .ref a24])), (a4, .inl (cB, 1600, .inl xF3))]) [1, 2] rfl
  have hDc := hD.sub (ws' := [(a0, .inr (12, [.int i0, .ref a1, .ref a2, .ref a3, .ref a4, .int i1, .ref a5, .int i2, .int (u47 0), .int (u47 1), .int (u47 2), .int (u47 3), .int (u47 4), .int (u47 5), .ref a6, .ref a7, .ref a8, .ref a9, .ref a10, .ref a11, .ref a12, .int i9, .ref a13, .int i10, .ref a14, .ref a15, .int i11, .ref a16, .ref a17, .ref a18, .ref a19, .int i12, .int i13, .int i14, .int i15, .int i16, .ref a20, .long j0, .ref a21, .ref a22, .ref a23, .ref a24])), (a4, .inl (cB, 1600, .inl xF3))]) [1, 2] (by decide) rfl
  have hFc := va_free (wc := [(a0, .inr (12, [.int i0, .ref a1, .ref a2, .ref a3, .ref a4, .int i1, .ref a5, .int i2, .int (u47 0), .int (u47 1), .int (u47 2), .int (u47 3), .int (u47 4), .int (u47 5), .ref a6, .ref a7, .ref a8, .ref a9, .ref a10, .ref a11, .ref a12, .int i9, .ref a13, .int i10, .ref a14, .ref a15, .int i11, .ref a16, .ref a17, .ref a18, .ref a19, .int i12, .int i13, .int i14, .int i15, .int i16, .ref a20, .long j0, .ref a21, .ref a22, .ref a23, .ref a24])), (a4, .inl (cB, 1600, .inl xF3))]) hD hS hA [1, 2] rfl
  refine va_calli (va_runV (As := [.ref sa194, .int 1, .int 60]) (rest := [.int x58, .ref a6]) ⟨hx, hb, hml, hown, hwd⟩ (s_X12_told l dC dI cI cZ cB cJ cM cG a0 a1 a2 a3 a4 a5 a6 a7 a8 a9 a10 a11 a12 a13 a14 a15 a16 a17 a18 a19 a20 a21 a22 a23 a24 i0 i1 i2 (u47 0) (u47 1) (u47 2) (u47 3) (u47 4) (u47 5) i9 i10 i11 i12 i13 i14 i15 i16 j0 xF3 1 60 sa194 sav194 sn194 sf194 H.size (show (0 : Int) ≤ i1.toInt ∧ i1.toInt ≤ 1600 from ⟨by omega, by omega⟩) (show (0 : Int) ≤ i2.toInt ∧ i2.toInt ≤ 1600 from ⟨by omega, by omega⟩) (show (0 : Int) ≤ (u47 0).toInt ∧ (u47 0).toInt ≤ 1600 from ⟨by omega, by omega⟩) (show (0 : Int) ≤ (u47 1).toInt ∧ (u47 1).toInt ≤ 1600 from ⟨by omega, by omega⟩) (show (0 : Int) ≤ (u47 2).toInt ∧ (u47 2).toInt ≤ 6 from ⟨by omega, by omega⟩) (show (0 : Int) ≤ (u47 4).toInt ∧ (u47 4).toInt ≤ 3 from ⟨by omega, by omega⟩) (show (0 : Int) ≤ i11.toInt ∧ i11.toInt ≤ 59 from ⟨by omega, by omega⟩) (show (0 : Int) ≤ (1 : Int32).toInt ∧ (1 : Int32).toInt ≤ 4 from ⟨by omega, by omega⟩) (show (-1 : Int) ≤ (60 : Int32).toInt ∧ (60 : Int32).toInt ≤ 999 from ⟨by omega, by omega⟩) hw53 hw54) (cwV 3 hwd (gV kr25_1 kr25_2 kr25_3 kr1_5 kr25_4) rfl rfl rfl (by decide +kernel) ⟨Nat.le_of_ble_eq_true rfl, Nat.le_of_ble_eq_true rfl⟩) (kPreVX hPc hK hDc (NS_st _ _ _ _) hN194 hS hFc (ci := 12) (q0 := 0) rfl rfl) rfl rfl hl.1 rfl (lv_room (Nat.le_of_ble_eq_true rfl)) dX12_readNose_93 ⟨Nat.le_of_ble_eq_true rfl, Nat.le_of_ble_eq_true rfl⟩) hS (fun q _ h => hFc q h) hFc (fun r59 u60 t H1 locs ht9 hvm hw hB hz1 hk1 hS => ?_)
  obtain ⟨u61, U61, V61⟩ := u60
  obtain ⟨hw62, hw63, hw64, hw65, hw66, hw67, hw68, hw69, hw70, -⟩ := hw
  have hw62 : (r59.toInt = 0 ∨ ((1 : Int32).toInt ≤ r59.toInt ∧ r59.toInt ≤ (60 : Int32).toInt)) := hw62
  have hw63 : (0 : Int) ≤ (u61 0).toInt ∧ (u61 0).toInt ≤ 1600 := hw63
  have hw64 : (0 : Int) ≤ (u61 1).toInt ∧ (u61 1).toInt ≤ 1600 := hw64
  have hw65 : (0 : Int) ≤ (u61 2).toInt ∧ (u61 2).toInt ≤ 6 := hw65
  have hw66 : (0 : Int) ≤ (u61 4).toInt ∧ (u61 4).toInt ≤ 3 := hw66
  have hw67 : (u61 1).toInt ≤ (u61 0).toInt := hw67
  have hw68 : (2 ≤ (u61 2).toInt → (u61 1).toInt + 1 ≤ (u61 0).toInt) := hw68
  have hw69 : (u47 1).toInt ≤ (u61 1).toInt := hw69
  have hw70 : ((u61 4).toInt = 0 → (u47 4).toInt = 0 ∧ (1 : Int32).toInt ≤ r59.toInt ∧ r59.toInt ≤ (60 : Int32).toInt ∧ (u47 1).toInt + (sn194 : Int) + 1 ≤ (u61 1).toInt) := hw70
  obtain ⟨hP1, hD1⟩ := hB
  rw [ht9] at hP1
  obtain ⟨hP, hD⟩ := va_join (wr := [(a6, .inl (cI, 544, .inl f57))]) (w1 := [(a0, .inr (12, [.int i0, .ref a1, .ref a2, .ref a3, .ref a4, .int i1, .ref a5, .int i2, .int (u61 0), .int (u61 1), .int (u61 2), .int (u61 3), .int (u61 4), .int (u61 5), .ref a6, .ref a7, .ref a8, .ref a9, .ref a10, .ref a11, .ref a12, .int i9, .ref a13, .int i10, .ref a14, .ref a15, .int i11, .ref a16, .ref a17, .ref a18, .ref a19, .int i12, .int i13, .int i14, .int i15, .int i16, .ref a20, .long j0, .ref a21, .ref a22, .ref a23, .ref a24])), (a4, .inl (cB, 1600, .inl xF3))]) hP hD [1, 2] [0] rfl rfl (by decide) (by decide) hk1 hFc hP1 hD1
  generalize H1 = H at hP hS ⊢
  have hP : va_P (dC, dI) vwCl [(a6, .inl (cI, 544, .inl f57)), (a0, .inr (12, [.int i0, .ref a1, .ref a2, .ref a3, .ref a4, .int i1, .ref a5, .int i2, .int (u61 0), .int (u61 1), .int (u61 2), .int (u61 3), .int (u61 4), .int (u61 5), .ref a6, .ref a7, .ref a8, .ref a9, .ref a10, .ref a11, .ref a12, .int i9, .ref a13, .int i10, .ref a14, .ref a15, .int i11, .ref a16, .ref a17, .ref a18, .ref a19, .int i12, .int i13, .int i14, .int i15, .int i16, .ref a20, .long j0, .ref a21, .ref a22, .ref a23, .ref a24])), (a4, .inl (cB, 1600, .inl xF3))] H := hP
  have hD : va_D A [(a6, .inl (cI, 544, .inl f57)), (a0, .inr (12, [.int i0, .ref a1, .ref a2, .ref a3, .ref a4, .int i1, .ref a5, .int i2, .int (u61 0), .int (u61 1), .int (u61 2), .int (u61 3), .int (u61 4), .int (u61 5), .ref a6, .ref a7, .ref a8, .ref a9, .ref a10, .ref a11, .ref a12, .int i9, .ref a13, .int i10, .ref a14, .ref a15, .int i11, .ref a16, .ref a17, .ref a18, .ref a19, .int i12, .int i13, .int i14, .int i15, .int i16, .ref a20, .long j0, .ref a21, .ref a22, .ref a23, .ref a24])), (a4, .inl (cB, 1600, .inl xF3))] := hD
  refine va_iast hx hb hK hP hD hS 0 0 rfl rfl (vp_of (by omega) (by omega)) dX12_readNose_96 (fun H locs hP hD hS => ?_)
  obtain ⟨f71, ef71⟩ : ∃ f, f = upd f57 x58.toNatClampNeg r59 := ⟨_, rfl⟩
  have df71 : WI 0 f71 := by rw [ef71]; exact WI_nose df57 (by omega) (by omega) (fun h9 => by omega)
  have hP : va_P (dC, dI) vwCl [(a6, .inl (cI, 544, .inl f71)), (a0, .inr (12, [.int i0, .ref a1, .ref a2, .ref a3, .ref a4, .int i1, .ref a5, .int i2, .int (u61 0), .int (u61 1), .int (u61 2), .int (u61 3), .int (u61 4), .int (u61 5), .ref a6, .ref a7, .ref a8, .ref a9, .ref a10, .ref a11, .ref a12, .int i9, .ref a13, .int i10, .ref a14, .ref a15, .int i11, .ref a16, .ref a17, .ref a18, .ref a19, .int i12, .int i13, .int i14, .int i15, .int i16, .ref a20, .long j0, .ref a21, .ref a22, .ref a23, .ref a24])), (a4, .inl (cB, 1600, .inl xF3))] H := by rw [ef71]; exact hP
  have hD : va_D A [(a6, .inl (cI, 544, .inl f71)), (a0, .inr (12, [.int i0, .ref a1, .ref a2, .ref a3, .ref a4, .int i1, .ref a5, .int i2, .int (u61 0), .int (u61 1), .int (u61 2), .int (u61 3), .int (u61 4), .int (u61 5), .ref a6, .ref a7, .ref a8, .ref a9, .ref a10, .ref a11, .ref a12, .int i9, .ref a13, .int i10, .ref a14, .ref a15, .int i11, .ref a16, .ref a17, .ref a18, .ref a19, .int i12, .int i13, .int i14, .int i15, .int i16, .ref a20, .long j0, .ref a21, .ref a22, .ref a23, .ref a24])), (a4, .inl (cB, 1600, .inl xF3))] := by rw [ef71]; exact hD
  refine lv_aload_n hx hb dX12_readNose_97 rfl (lv_at hl 1 rfl) ?_
  refine va_get (D := (dC, dI)) (ci := 12) (v := .ref a6) (C := RX12) (T := TX12) (N := 42) hx hb hwd inlX12 hown hK hP 1 rfl rfl 14 (by decide) (hwd _ kr7_9) (fun _ h9 => h9) rfl dX12_readNose_98 ?_
  refine lv_iload_n hx hb dX12_readNose_101 rfl (lv_at hl 0 rfl) ?_
  refine lv_iconst (v := 4) hx hb dX12_readNose_102 (by decide) ?_
  refine lv_iadd hx hb dX12_readNose_103 ?_
  refine lv_topi (fun x72 ex72 => ?_)
  have tx72 := ia_add (a := x5) (b := (4 : Int32)) (by omega) (by omega)
  rw [← ex72] at tx72
  refine lv_aload_n hx hb dX12_readNose_104 rfl (lv_at hl 1 rfl) ?_
  refine va_ldcS hx hb hown hR196 dX12_readNose_105 ?_
  refine lv_iconst (v := 1) hx hb dX12_readNose_107 (by decide) ?_
  refine lv_bipush (v := 60) hx hb dX12_readNose_108 (by decide) ?_
  have hPc := hP.sub (ws' := [(a0, .inr (12, [.int i0, .ref a1, .ref a2, .ref a3, .ref a4, .int i1, .ref a5, .int i2, .int (u61 0), .int (u61 1), .int (u61 2), .int (u61 3), .int (u61 4), .int (u61 5), .ref a6, .ref a7, .ref a8, .ref a9, .ref a10, .ref a11, .ref a12, .int i9, .ref a13, .int i10, .ref a14, .ref a15, .int i11, .ref a16, .ref a17, .ref a18, .ref a19, .int i12, .int i13, .int i14, .int i15, .int i16, .ref a20, .long j0, .ref a21, .ref a22, .ref a23, .ref a24])), (a4, .inl (cB, 1600, .inl xF3))]) [1, 2] rfl
  have hDc := hD.sub (ws' := [(a0, .inr (12, [.int i0, .ref a1, .ref a2, .ref a3, .ref a4, .int i1, .ref a5, .int i2, .int (u61 0), .int (u61 1), .int (u61 2), .int (u61 3), .int (u61 4), .int (u61 5), .ref a6, .ref a7, .ref a8, .ref a9, .ref a10, .ref a11, .ref a12, .int i9, .ref a13, .int i10, .ref a14, .ref a15, .int i11, .ref a16, .ref a17, .ref a18, .ref a19, .int i12, .int i13, .int i14, .int i15, .int i16, .ref a20, .long j0, .ref a21, .ref a22, .ref a23, .ref a24])), (a4, .inl (cB, 1600, .inl xF3))]) [1, 2] (by decide) rfl
  have hFc := va_free (wc := [(a0, .inr (12, [.int i0, .ref a1, .ref a2, .ref a3, .ref a4, .int i1, .ref a5, .int i2, .int (u61 0), .int (u61 1), .int (u61 2), .int (u61 3), .int (u61 4), .int (u61 5), .ref a6, .ref a7, .ref a8, .ref a9, .ref a10, .ref a11, .ref a12, .int i9, .ref a13, .int i10, .ref a14, .ref a15, .int i11, .ref a16, .ref a17, .ref a18, .ref a19, .int i12, .int i13, .int i14, .int i15, .int i16, .ref a20, .long j0, .ref a21, .ref a22, .ref a23, .ref a24])), (a4, .inl (cB, 1600, .inl xF3))]) hD hS hA [1, 2] rfl
  refine va_calli (va_runV (As := [.ref sa196, .int 1, .int 60]) (rest := [.int x72, .ref a6]) ⟨hx, hb, hml, hown, hwd⟩ (s_X12_told l dC dI cI cZ cB cJ cM cG a0 a1 a2 a3 a4 a5 a6 a7 a8 a9 a10 a11 a12 a13 a14 a15 a16 a17 a18 a19 a20 a21 a22 a23 a24 i0 i1 i2 (u61 0) (u61 1) (u61 2) (u61 3) (u61 4) (u61 5) i9 i10 i11 i12 i13 i14 i15 i16 j0 xF3 1 60 sa196 sav196 sn196 sf196 H.size (show (0 : Int) ≤ i1.toInt ∧ i1.toInt ≤ 1600 from ⟨by omega, by omega⟩) (show (0 : Int) ≤ i2.toInt ∧ i2.toInt ≤ 1600 from ⟨by omega, by omega⟩) (show (0 : Int) ≤ (u61 0).toInt ∧ (u61 0).toInt ≤ 1600 from ⟨by omega, by omega⟩) (show (0 : Int) ≤ (u61 1).toInt ∧ (u61 1).toInt ≤ 1600 from ⟨by omega, by omega⟩) (show (0 : Int) ≤ (u61 2).toInt ∧ (u61 2).toInt ≤ 6 from ⟨by omega, by omega⟩) (show (0 : Int) ≤ (u61 4).toInt ∧ (u61 4).toInt ≤ 3 from ⟨by omega, by omega⟩) (show (0 : Int) ≤ i11.toInt ∧ i11.toInt ≤ 59 from ⟨by omega, by omega⟩) (show (0 : Int) ≤ (1 : Int32).toInt ∧ (1 : Int32).toInt ≤ 4 from ⟨by omega, by omega⟩) (show (-1 : Int) ≤ (60 : Int32).toInt ∧ (60 : Int32).toInt ≤ 999 from ⟨by omega, by omega⟩) hw67 hw68) (cwV 3 hwd (gV kr25_1 kr25_2 kr25_3 kr1_5 kr25_4) rfl rfl rfl (by decide +kernel) ⟨Nat.le_of_ble_eq_true rfl, Nat.le_of_ble_eq_true rfl⟩) (kPreVX hPc hK hDc (NS_st _ _ _ _) hN196 hS hFc (ci := 12) (q0 := 0) rfl rfl) rfl rfl hl.1 rfl (lv_room (Nat.le_of_ble_eq_true rfl)) dX12_readNose_110 ⟨Nat.le_of_ble_eq_true rfl, Nat.le_of_ble_eq_true rfl⟩) hS (fun q _ h => hFc q h) hFc (fun r73 u74 t H1 locs ht9 hvm hw hB hz1 hk1 hS => ?_)
  obtain ⟨u75, U75, V75⟩ := u74
  obtain ⟨hw76, hw77, hw78, hw79, hw80, hw81, hw82, hw83, hw84, -⟩ := hw
  have hw76 : (r73.toInt = 0 ∨ ((1 : Int32).toInt ≤ r73.toInt ∧ r73.toInt ≤ (60 : Int32).toInt)) := hw76
  have hw77 : (0 : Int) ≤ (u75 0).toInt ∧ (u75 0).toInt ≤ 1600 := hw77
  have hw78 : (0 : Int) ≤ (u75 1).toInt ∧ (u75 1).toInt ≤ 1600 := hw78
  have hw79 : (0 : Int) ≤ (u75 2).toInt ∧ (u75 2).toInt ≤ 6 := hw79
  have hw80 : (0 : Int) ≤ (u75 4).toInt ∧ (u75 4).toInt ≤ 3 := hw80
  have hw81 : (u75 1).toInt ≤ (u75 0).toInt := hw81
  have hw82 : (2 ≤ (u75 2).toInt → (u75 1).toInt + 1 ≤ (u75 0).toInt) := hw82
  have hw83 : (u61 1).toInt ≤ (u75 1).toInt := hw83
  have hw84 : ((u75 4).toInt = 0 → (u61 4).toInt = 0 ∧ (1 : Int32).toInt ≤ r73.toInt ∧ r73.toInt ≤ (60 : Int32).toInt ∧ (u61 1).toInt + (sn196 : Int) + 1 ≤ (u75 1).toInt) := hw84
  obtain ⟨hP1, hD1⟩ := hB
  rw [ht9] at hP1
  obtain ⟨hP, hD⟩ := va_join (wr := [(a6, .inl (cI, 544, .inl f71))]) (w1 := [(a0, .inr (12, [.int i0, .ref a1, .ref a2, .ref a3, .ref a4, .int i1, .ref a5, .int i2, .int (u75 0), .int (u75 1), .int (u75 2), .int (u75 3), .int (u75 4), .int (u75 5), .ref a6, .ref a7, .ref a8, .ref a9, .ref a10, .ref a11, .ref a12, .int i9, .ref a13, .int i10, .ref a14, .ref a15, .int i11, .ref a16, .ref a17, .ref a18, .ref a19, .int i12, .int i13, .int i14, .int i15, .int i16, .ref a20, .long j0, .ref a21, .ref a22, .ref a23, .ref a24])), (a4, .inl (cB, 1600, .inl xF3))]) hP hD [1, 2] [0] rfl rfl (by decide) (by decide) hk1 hFc hP1 hD1
  generalize H1 = H at hP hS ⊢
  have hP : va_P (dC, dI) vwCl [(a6, .inl (cI, 544, .inl f71)), (a0, .inr (12, [.int i0, .ref a1, .ref a2, .ref a3, .ref a4, .int i1, .ref a5, .int i2, .int (u75 0), .int (u75 1), .int (u75 2), .int (u75 3), .int (u75 4), .int (u75 5), .ref a6, .ref a7, .ref a8, .ref a9, .ref a10, .ref a11, .ref a12, .int i9, .ref a13, .int i10, .ref a14, .ref a15, .int i11, .ref a16, .ref a17, .ref a18, .ref a19, .int i12, .int i13, .int i14, .int i15, .int i16, .ref a20, .long j0, .ref a21, .ref a22, .ref a23, .ref a24])), (a4, .inl (cB, 1600, .inl xF3))] H := hP
  have hD : va_D A [(a6, .inl (cI, 544, .inl f71)), (a0, .inr (12, [.int i0, .ref a1, .ref a2, .ref a3, .ref a4, .int i1, .ref a5, .int i2, .int (u75 0), .int (u75 1), .int (u75 2), .int (u75 3), .int (u75 4), .int (u75 5), .ref a6, .ref a7, .ref a8, .ref a9, .ref a10, .ref a11, .ref a12, .int i9, .ref a13, .int i10, .ref a14, .ref a15, .int i11, .ref a16, .ref a17, .ref a18, .ref a19, .int i12, .int i13, .int i14, .int i15, .int i16, .ref a20, .long j0, .ref a21, .ref a22, .ref a23, .ref a24])), (a4, .inl (cB, 1600, .inl xF3))] := hD
  refine va_iast hx hb hK hP hD hS 0 0 rfl rfl (vp_of (by omega) (by omega)) dX12_readNose_113 (fun H locs hP hD hS => ?_)
  obtain ⟨f85, ef85⟩ : ∃ f, f = upd f71 x72.toNatClampNeg r73 := ⟨_, rfl⟩
  have df85 : WI 0 f85 := by rw [ef85]; exact WI_nose df71 (by omega) (by omega) (fun h9 => by omega)
  have hP : va_P (dC, dI) vwCl [(a6, .inl (cI, 544, .inl f85)), (a0, .inr (12, [.int i0, .ref a1, .ref a2, .ref a3, .ref a4, .int i1, .ref a5, .int i2, .int (u75 0), .int (u75 1), .int (u75 2), .int (u75 3), .int (u75 4), .int (u75 5), .ref a6, .ref a7, .ref a8, .ref a9, .ref a10, .ref a11, .ref a12, .int i9, .ref a13, .int i10, .ref a14, .ref a15, .int i11, .ref a16, .ref a17, .ref a18, .ref a19, .int i12, .int i13, .int i14, .int i15, .int i16, .ref a20, .long j0, .ref a21, .ref a22, .ref a23, .ref a24])), (a4, .inl (cB, 1600, .inl xF3))] H := by rw [ef85]; exact hP
  have hD : va_D A [(a6, .inl (cI, 544, .inl f85)), (a0, .inr (12, [.int i0, .ref a1, .ref a2, .ref a3, .ref a4, .int i1, .ref a5, .int i2, .int (u75 0), .int (u75 1), .int (u75 2), .int (u75 3), .int (u75 4), .int (u75 5), .ref a6, .ref a7, .ref a8, .ref a9, .ref a10, .ref a11, .ref a12, .int i9, .ref a13, .int i10, .ref a14, .ref a15, .int i11, .ref a16, .ref a17, .ref a18, .ref a19, .int i12, .int i13, .int i14, .int i15, .int i16, .ref a20, .long j0, .ref a21, .ref a22, .ref a23, .ref a24])), (a4, .inl (cB, 1600, .inl xF3))] := by rw [ef85]; exact hD
  refine lv_aload_n hx hb dX12_readNose_114 rfl (lv_at hl 1 rfl) ?_
  refine va_get (D := (dC, dI)) (ci := 12) (v := .ref a6) (C := RX12) (T := TX12) (N := 42) hx hb hwd inlX12 hown hK hP 1 rfl rfl 14 (by decide) (hwd _ kr7_9) (fun _ h9 => h9) rfl dX12_readNose_115 ?_
  refine lv_iconst (v := 5) hx hb dX12_readNose_118 (by decide) ?_
  refine lv_dup2_11 hx hb dX12_readNose_119 rfl rfl ?_
  have h86 : vp_in (5 : Int32) 544 := (vin (by decide))
  refine va_iald hx hb hK hP 0 0 rfl rfl h86 dX12_readNose_120 ?_
  refine lv_topi (fun x87 ex87 => ?_)
  have ix87 := wat_lit (k := 5) ex87 (by decide)
  have wh88 : whd 0 f85 := df85.1
  unfold whd at wh88
  have ix87 := wat_lit (F := xF5) (k := 5) (show x87 = xF5 (5 : Int32).toNatClampNeg from by rw [ex87, ef85, upd_ne (by omega), ef71, upd_ne (by omega), ef57, upd_ne (by omega), ef40, upd_ne (by omega), ef22, upd_ne (by omega)]) (by decide)
  refine lv_iconst (v := 1) hx hb dX12_readNose_121 (by decide) ?_
  refine lv_iadd hx hb dX12_readNose_122 ?_
  refine lv_topi (fun x89 ex89 => ?_)
  have tx89 := ia_add (a := x87) (b := (1 : Int32)) (by omega) (by omega)
  rw [← ex89] at tx89
  refine va_iast hx hb hK hP hD hS 0 0 rfl rfl (vin (by decide)) dX12_readNose_123 (fun H locs hP hD hS => ?_)
  obtain ⟨f90, ef90⟩ : ∃ f, f = upd f85 (5 : Int32).toNatClampNeg x89 := ⟨_, rfl⟩
  have df90 : WI 0 f90 := by rw [ef90]; exact WI_no df85 (by omega) (by omega) (by omega)
  have hP : va_P (dC, dI) vwCl [(a6, .inl (cI, 544, .inl f90)), (a0, .inr (12, [.int i0, .ref a1, .ref a2, .ref a3, .ref a4, .int i1, .ref a5, .int i2, .int (u75 0), .int (u75 1), .int (u75 2), .int (u75 3), .int (u75 4), .int (u75 5), .ref a6, .ref a7, .ref a8, .ref a9, .ref a10, .ref a11, .ref a12, .int i9, .ref a13, .int i10, .ref a14, .ref a15, .int i11, .ref a16, .ref a17, .ref a18, .ref a19, .int i12, .int i13, .int i14, .int i15, .int i16, .ref a20, .long j0, .ref a21, .ref a22, .ref a23, .ref a24])), (a4, .inl (cB, 1600, .inl xF3))] H := by rw [ef90]; exact hP
  have hD : va_D A [(a6, .inl (cI, 544, .inl f90)), (a0, .inr (12, [.int i0, .ref a1, .ref a2, .ref a3, .ref a4, .int i1, .ref a5, .int i2, .int (u75 0), .int (u75 1), .int (u75 2), .int (u75 3), .int (u75 4), .int (u75 5), .ref a6, .ref a7, .ref a8, .ref a9, .ref a10, .ref a11, .ref a12, .int i9, .ref a13, .int i10, .ref a14, .ref a15, .int i11, .ref a16, .ref a17, .ref a18, .ref a19, .int i12, .int i13, .int i14, .int i15, .int i16, .ref a20, .long j0, .ref a21, .ref a22, .ref a23, .ref a24])), (a4, .inl (cB, 1600, .inl xF3))] := by rw [ef90]; exact hD
  have hP9 := hP.sub (ws' := [(a0, .inr (12, [.int i0, .ref a1, .ref a2, .ref a3, .ref a4, .int i1, .ref a5, .int i2, .int (u75 0), .int (u75 1), .int (u75 2), .int (u75 3), .int (u75 4), .int (u75 5), .ref a6, .ref a7, .ref a8, .ref a9, .ref a10, .ref a11, .ref a12, .int i9, .ref a13, .int i10, .ref a14, .ref a15, .int i11, .ref a16, .ref a17, .ref a18, .ref a19, .int i12, .int i13, .int i14, .int i15, .int i16, .ref a20, .long j0, .ref a21, .ref a22, .ref a23, .ref a24])), (a4, .inl (cB, 1600, .inl xF3)), (a6, .inl (cI, 544, .inl f90))]) [1, 2, 0] rfl
  have hD9 := hD.sub (ws' := [(a0, .inr (12, [.int i0, .ref a1, .ref a2, .ref a3, .ref a4, .int i1, .ref a5, .int i2, .int (u75 0), .int (u75 1), .int (u75 2), .int (u75 3), .int (u75 4), .int (u75 5), .ref a6, .ref a7, .ref a8, .ref a9, .ref a10, .ref a11, .ref a12, .int i9, .ref a13, .int i10, .ref a14, .ref a15, .int i11, .ref a16, .ref a17, .ref a18, .ref a19, .int i12, .int i13, .int i14, .int i15, .int i16, .ref a20, .long j0, .ref a21, .ref a22, .ref a23, .ref a24])), (a4, .inl (cB, 1600, .inl xF3)), (a6, .inl (cI, 544, .inl f90))]) [1, 2, 0] (by decide) rfl
  rw [hQ]
  exact W.vret hx hb hr (fun t ht hW => ⟨⟨(pickG 0 [(u75 0), (u75 1), (u75 2), (u75 3), (u75 4), (u75 5)], pickG (fun _ => 0) [f90], pickG (fun _ => 0) []), rfl, ⟨(show (0 : Int) ≤ (u75 0).toInt ∧ (u75 0).toInt ≤ 1600 from ⟨by omega, by omega⟩), (show (0 : Int) ≤ (u75 1).toInt ∧ (u75 1).toInt ≤ 1600 from ⟨by omega, by omega⟩), (show (0 : Int) ≤ (u75 2).toInt ∧ (u75 2).toInt ≤ 6 from ⟨by omega, by omega⟩), (show (0 : Int) ≤ (u75 4).toInt ∧ (u75 4).toInt ≤ 3 from ⟨by omega, by omega⟩), (show (u75 1).toInt ≤ (u75 0).toInt from by omega), (show (2 ≤ (u75 2).toInt → (u75 1).toInt + 1 ≤ (u75 0).toInt) from by omega), (show i4.toInt ≤ (u75 1).toInt from by omega), (show FG (u75 4).toInt f90 from fun h9 => ⟨df90, (by rw [ef90, wat_nei (by omega), ef85, wat_nei (by omega), ef71, wat_nei (by omega), ef57, wat_nei (by omega), ef40, wat_nei (by omega), ef22, wat_nei (by omega)]; omega)⟩), trivial⟩, (by rw [ht]; exact hP9), hD9⟩, hS.F ht⟩) hS.2.2 dX12_readNose_124
theorem dX12_readPawl_0 : decode cX12_readPawl 0 = .ok (.sipush 248, 3) := by decide +kernel
theorem dX12_readPawl_3 : decode cX12_readPawl 3 = .ok (.iconst 3, 1) := by decide +kernel
theorem dX12_readPawl_4 : decode cX12_readPawl 4 = .ok (.aload_n 0, 1) := by decide +kernel
theorem dX12_readPawl_5 : decode cX12_readPawl 5 = .ok (.getfield 34, 3) := by decide +kernel
theorem dX12_readPawl_8 : decode cX12_readPawl 8 = .ok (.bipush 7, 2) := by decide +kernel
theorem dX12_readPawl_10 : decode cX12_readPawl 10 = .ok (.iaload, 1) := by decide +kernel
theorem dX12_readPawl_11 : decode cX12_readPawl 11 = .ok (.imul, 1) := by decide +kernel
theorem dX12_readPawl_12 : decode cX12_readPawl 12 = .ok (.iadd, 1) := by decide +kernel
theorem dX12_readPawl_13 : decode cX12_readPawl 13 = .ok (.istore_n 1, 1) := by decide +kernel
theorem dX12_readPawl_14 : decode cX12_readPawl 14 = .ok (.aload_n 0, 1) := by decide +kernel
theorem dX12_readPawl_15 : decode cX12_readPawl 15 = .ok (.getfield 34, 3) := by decide +kernel
theorem dX12_readPawl_18 : decode cX12_readPawl 18 = .ok (.iload_n 1, 1) := by decide +kernel
theorem dX12_readPawl_19 : decode cX12_readPawl 19 = .ok (.aload_n 0, 1) := by decide +kernel
theorem dX12_readPawl_20 : decode cX12_readPawl 20 = .ok (.ldc 189, 2) := by decide +kernel
theorem dX12_readPawl_22 : decode cX12_readPawl 22 = .ok (.iconst 0, 1) := by decide +kernel
theorem dX12_readPawl_23 : decode cX12_readPawl 23 = .ok (.aload_n 0, 1) := by decide +kernel
theorem dX12_readPawl_24 : decode cX12_readPawl 24 = .ok (.getfield 34, 3) := by decide +kernel
theorem dX12_readPawl_27 : decode cX12_readPawl 27 = .ok (.bipush 6, 2) := by decide +kernel
theorem dX12_readPawl_29 : decode cX12_readPawl 29 = .ok (.iaload, 1) := by decide +kernel
theorem dX12_readPawl_30 : decode cX12_readPawl 30 = .ok (.iconst 1, 1) := by decide +kernel
theorem dX12_readPawl_31 : decode cX12_readPawl 31 = .ok (.isub, 1) := by decide +kernel
theorem dX12_readPawl_32 : decode cX12_readPawl 32 = .ok (.invokevirtual 181, 3) := by decide +kernel
theorem dX12_readPawl_35 : decode cX12_readPawl 35 = .ok (.iastore, 1) := by decide +kernel
theorem dX12_readPawl_36 : decode cX12_readPawl 36 = .ok (.aload_n 0, 1) := by decide +kernel
theorem dX12_readPawl_37 : decode cX12_readPawl 37 = .ok (.getfield 34, 3) := by decide +kernel
theorem dX12_readPawl_40 : decode cX12_readPawl 40 = .ok (.iload_n 1, 1) := by decide +kernel
theorem dX12_readPawl_41 : decode cX12_readPawl 41 = .ok (.iconst 1, 1) := by decide +kernel
theorem dX12_readPawl_42 : decode cX12_readPawl 42 = .ok (.iadd, 1) := by decide +kernel
theorem dX12_readPawl_43 : decode cX12_readPawl 43 = .ok (.aload_n 0, 1) := by decide +kernel
theorem dX12_readPawl_44 : decode cX12_readPawl 44 = .ok (.ldc 191, 2) := by decide +kernel
theorem dX12_readPawl_46 : decode cX12_readPawl 46 = .ok (.iconst 1, 1) := by decide +kernel
theorem dX12_readPawl_47 : decode cX12_readPawl 47 = .ok (.bipush 99, 2) := by decide +kernel
theorem dX12_readPawl_49 : decode cX12_readPawl 49 = .ok (.invokevirtual 181, 3) := by decide +kernel
theorem dX12_readPawl_52 : decode cX12_readPawl 52 = .ok (.iastore, 1) := by decide +kernel
theorem dX12_readPawl_53 : decode cX12_readPawl 53 = .ok (.aload_n 0, 1) := by decide +kernel
theorem dX12_readPawl_54 : decode cX12_readPawl 54 = .ok (.getfield 34, 3) := by decide +kernel
theorem dX12_readPawl_57 : decode cX12_readPawl 57 = .ok (.iload_n 1, 1) := by decide +kernel
theorem dX12_readPawl_58 : decode cX12_readPawl 58 = .ok (.iconst 2, 1) := by decide +kernel
theorem dX12_readPawl_59 : decode cX12_readPawl 59 = .ok (.iadd, 1) := by decide +kernel
theorem dX12_readPawl_60 : decode cX12_readPawl 60 = .ok (.aload_n 0, 1) := by decide +kernel
theorem dX12_readPawl_61 : decode cX12_readPawl 61 = .ok (.ldc 204, 2) := by decide +kernel
theorem dX12_readPawl_63 : decode cX12_readPawl 63 = .ok (.iconst 2, 1) := by decide +kernel
theorem dX12_readPawl_64 : decode cX12_readPawl 64 = .ok (.bipush 30, 2) := by decide +kernel
theorem dX12_readPawl_66 : decode cX12_readPawl 66 = .ok (.invokevirtual 181, 3) := by decide +kernel
theorem dX12_readPawl_69 : decode cX12_readPawl 69 = .ok (.iastore, 1) := by decide +kernel
theorem dX12_readPawl_70 : decode cX12_readPawl 70 = .ok (.aload_n 0, 1) := by decide +kernel
theorem dX12_readPawl_71 : decode cX12_readPawl 71 = .ok (.getfield 34, 3) := by decide +kernel
theorem dX12_readPawl_74 : decode cX12_readPawl 74 = .ok (.bipush 7, 2) := by decide +kernel
theorem dX12_readPawl_76 : decode cX12_readPawl 76 = .ok (.dup2, 1) := by decide +kernel
theorem dX12_readPawl_77 : decode cX12_readPawl 77 = .ok (.iaload, 1) := by decide +kernel
theorem dX12_readPawl_78 : decode cX12_readPawl 78 = .ok (.iconst 1, 1) := by decide +kernel
theorem dX12_readPawl_79 : decode cX12_readPawl 79 = .ok (.iadd, 1) := by decide +kernel
theorem dX12_readPawl_80 : decode cX12_readPawl 80 = .ok (.iastore, 1) := by decide +kernel
theorem dX12_readPawl_81 : decode cX12_readPawl 81 = .ok (.return_, 1) := by decide +kernel
set_option maxHeartbeats 4000000 in
set_option maxRecDepth 100000 in
theorem s_X12_readPawl (l : Launch) (dC : Nat → ClassId) (dI : Nat → Nat → Nat) (cI cZ cB cJ cM cG : ClassId) (a0 a1 a2 a3 a4 a5 a6 a7 a8 a9 a10 a11 a12 a13 a14 a15 a16 a17 a18 a19 a20 a21 a22 a23 a24 : Nat) (i0 i1 i2 i3 i4 i5 i6 i7 i8 i9 i10 i11 i12 i13 i14 i15 i16 : Int32) (j0 : Int64) (xF3 xF5 : Nat → Int32) (sz : Nat) (p_0 : (0 : Int) ≤ i1.toInt ∧ i1.toInt ≤ 1600) (p_1 : (0 : Int) ≤ i2.toInt ∧ i2.toInt ≤ 1600) (p_2 : (0 : Int) ≤ i3.toInt ∧ i3.toInt ≤ 1600) (p_3 : (0 : Int) ≤ i4.toInt ∧ i4.toInt ≤ 1600) (p_4 : (0 : Int) ≤ i5.toInt ∧ i5.toInt ≤ 6) (p_5 : (0 : Int) ≤ i7.toInt ∧ i7.toInt ≤ 3) (p_6 : (0 : Int) ≤ i11.toInt ∧ i11.toInt ≤ 59) (p_7 : WI 0 xF5) (p_8 : 1 ≤ wat xF5 1) (p_9 : wat xF5 7 ≤ 3) (p_10 : i4.toInt ≤ i3.toInt) (p_11 : (2 ≤ i5.toInt → i4.toInt + 1 ≤ i3.toInt)) : Met l yX12_readPawl (kw yX12_readPawl cX12_readPawl 2 none) ({ frames := 8, cells := 0, slots := 0, locals := 174 } : Room) (va_Pc [.ref a0] (kPreX dC dI [(cI, .int), (cZ, .boolean), (cB, .byte), (cJ, .long), (cM, .object RX2), (cG, .array .int)] [(a0, .inr (12, [.int i0, .ref a1, .ref a2, .ref a3, .ref a4, .int i1, .ref a5, .int i2, .int i3, .int i4, .int i5, .int i6, .int i7, .int i8, .ref a6, .ref a7, .ref a8, .ref a9, .ref a10, .ref a11, .ref a12, .int i9, .ref a13, .int i10, .ref a14, .ref a15, .int i11, .ref a16, .ref a17, .ref a18, .ref a19, .int i12, .int i13, .int i14, .int i15, .int i16, .ref a20, .long j0, .ref a21, .ref a22, .ref a23, .ref a24])), (a4, .inl (cB, 1600, .inl xF3)), (a6, .inl (cI, 544, .inl xF5))] sz NT)) (va_Qv (fun (u9 : (Nat → Int32) × (Nat → Nat → Int32) × (Nat → Nat → Int64)) => ((0 : Int) ≤ (u9.1 0).toInt ∧ (u9.1 0).toInt ≤ 1600) ∧ ((0 : Int) ≤ (u9.1 1).toInt ∧ (u9.1 1).toInt ≤ 1600) ∧ ((0 : Int) ≤ (u9.1 2).toInt ∧ (u9.1 2).toInt ≤ 6) ∧ ((0 : Int) ≤ (u9.1 4).toInt ∧ (u9.1 4).toInt ≤ 3) ∧ ((u9.1 1).toInt ≤ (u9.1 0).toInt) ∧ ((2 ≤ (u9.1 2).toInt → (u9.1 1).toInt + 1 ≤ (u9.1 0).toInt)) ∧ (i4.toInt ≤ (u9.1 1).toInt) ∧ (FG (u9.1 4).toInt (u9.2.1 0)) ∧ True) (fun u9 t => va_P (dC, dI) vwCl [(a0, .inr (12, [.int i0, .ref a1, .ref a2, .ref a3, .ref a4, .int i1, .ref a5, .int i2, .int (u9.1 0), .int (u9.1 1), .int (u9.1 2), .int (u9.1 3), .int (u9.1 4), .int (u9.1 5), .ref a6, .ref a7, .ref a8, .ref a9, .ref a10, .ref a11, .ref a12, .int i9, .ref a13, .int i10, .ref a14, .ref a15, .int i11, .ref a16, .ref a17, .ref a18, .ref a19, .int i12, .int i13, .int i14, .int i15, .int i16, .ref a20, .long j0, .ref a21, .ref a22, .ref a23, .ref a24])), (a4, .inl (cB, 1600, .inl xF3)), (a6, .inl (cI, 544, .inl (u9.2.1 0)))] t.heap ∧ va_D (va_A [(a0, .inr (12, [.int i0, .ref a1, .ref a2, .ref a3, .ref a4, .int i1, .ref a5, .int i2, .int i3, .int i4, .int i5, .int i6, .int i7, .int i8, .ref a6, .ref a7, .ref a8, .ref a9, .ref a10, .ref a11, .ref a12, .int i9, .ref a13, .int i10, .ref a14, .ref a15, .int i11, .ref a16, .ref a17, .ref a18, .ref a19, .int i12, .int i13, .int i14, .int i15, .int i16, .ref a20, .long j0, .ref a21, .ref a22, .ref a23, .ref a24])), (a4, .inl (cB, 1600, .inl xF3)), (a6, .inl (cI, 544, .inl xF5))] sz) [(a0, .inr (12, [.int i0, .ref a1, .ref a2, .ref a3, .ref a4, .int i1, .ref a5, .int i2, .int (u9.1 0), .int (u9.1 1), .int (u9.1 2), .int (u9.1 3), .int (u9.1 4), .int (u9.1 5), .ref a6, .ref a7, .ref a8, .ref a9, .ref a10, .ref a11, .ref a12, .int i9, .ref a13, .int i10, .ref a14, .ref a15, .int i11, .ref a16, .ref a17, .ref a18, .ref a19, .int i12, .int i13, .int i14, .int i15, .int i16, .ref a20, .long j0, .ref a21, .ref a22, .ref a23, .ref a24])), (a4, .inl (cB, 1600, .inl xF3)), (a6, .inl (cI, 544, .inl (u9.2.1 0)))]) (va_A [(a0, .inr (12, [.int i0, .ref a1, .ref a2, .ref a3, .ref a4, .int i1, .ref a5, .int i2, .int i3, .int i4, .int i5, .int i6, .int i7, .int i8, .ref a6, .ref a7, .ref a8, .ref a9, .ref a10, .ref a11, .ref a12, .int i9, .ref a13, .int i10, .ref a14, .ref a15, .int i11, .ref a16, .ref a17, .ref a18, .ref a19, .int i12, .int i13, .int i14, .int i15, .int i16, .ref a20, .long j0, .ref a21, .ref a22, .ref a23, .ref a24])), (a4, .inl (cB, 1600, .inl xF3)), (a6, .inl (cI, 544, .inl xF5))] sz)) 0 0 (va_A [(a0, .inr (12, [.int i0, .ref a1, .ref a2, .ref a3, .ref a4, .int i1, .ref a5, .int i2, .int i3, .int i4, .int i5, .int i6, .int i7, .int i8, .ref a6, .ref a7, .ref a8, .ref a9, .ref a10, .ref a11, .ref a12, .int i9, .ref a13, .int i10, .ref a14, .ref a15, .int i11, .ref a16, .ref a17, .ref a18, .ref a19, .int i12, .int i13, .int i14, .int i15, .int i16, .ref a20, .long j0, .ref a21, .ref a22, .ref a23, .ref a24])), (a4, .inl (cB, 1600, .inl xF3)), (a6, .inl (cI, 544, .inl xF5))] sz) := by
  refine kEnterX (by decide) (Nat.le_of_ble_eq_true rfl) ?_
  intro p e s m below meth c ls hx hb hr hml hown hlocks hin hwd hsz hP hK hD hN hl
  subst hsz
  generalize hAe : va_A [(a0, .inr (12, [.int i0, .ref a1, .ref a2, .ref a3, .ref a4, .int i1, .ref a5, .int i2, .int i3, .int i4, .int i5, .int i6, .int i7, .int i8, .ref a6, .ref a7, .ref a8, .ref a9, .ref a10, .ref a11, .ref a12, .int i9, .ref a13, .int i10, .ref a14, .ref a15, .int i11, .ref a16, .ref a17, .ref a18, .ref a19, .int i12, .int i13, .int i14, .int i15, .int i16, .ref a20, .long j0, .ref a21, .ref a22, .ref a23, .ref a24])), (a4, .inl (cB, 1600, .inl xF3)), (a6, .inl (cI, 544, .inl xF5))] s.heap.size = A at hD hN ⊢
  have hA : ∀ q : Nat, s.heap.size ≤ q → A q := fun q h => by rw [← hAe]; exact Or.inr h
  have hS : va_S A s.heap s.heap [] := va_S.rf
  have hl : lv_has ls 2 [(0, .ref a0)] := hl
  obtain ⟨Q, hQ⟩ : ∃ Q, Q = MQ below (va_Qv (fun (u9 : (Nat → Int32) × (Nat → Nat → Int32) × (Nat → Nat → Int64)) => ((0 : Int) ≤ (u9.1 0).toInt ∧ (u9.1 0).toInt ≤ 1600) ∧ ((0 : Int) ≤ (u9.1 1).toInt ∧ (u9.1 1).toInt ≤ 1600) ∧ ((0 : Int) ≤ (u9.1 2).toInt ∧ (u9.1 2).toInt ≤ 6) ∧ ((0 : Int) ≤ (u9.1 4).toInt ∧ (u9.1 4).toInt ≤ 3) ∧ ((u9.1 1).toInt ≤ (u9.1 0).toInt) ∧ ((2 ≤ (u9.1 2).toInt → (u9.1 1).toInt + 1 ≤ (u9.1 0).toInt)) ∧ (i4.toInt ≤ (u9.1 1).toInt) ∧ (FG (u9.1 4).toInt (u9.2.1 0)) ∧ True) (fun u9 t => va_P (dC, dI) vwCl [(a0, .inr (12, [.int i0, .ref a1, .ref a2, .ref a3, .ref a4, .int i1, .ref a5, .int i2, .int (u9.1 0), .int (u9.1 1), .int (u9.1 2), .int (u9.1 3), .int (u9.1 4), .int (u9.1 5), .ref a6, .ref a7, .ref a8, .ref a9, .ref a10, .ref a11, .ref a12, .int i9, .ref a13, .int i10, .ref a14, .ref a15, .int i11, .ref a16, .ref a17, .ref a18, .ref a19, .int i12, .int i13, .int i14, .int i15, .int i16, .ref a20, .long j0, .ref a21, .ref a22, .ref a23, .ref a24])), (a4, .inl (cB, 1600, .inl xF3)), (a6, .inl (cI, 544, .inl (u9.2.1 0)))] t.heap ∧ va_D A [(a0, .inr (12, [.int i0, .ref a1, .ref a2, .ref a3, .ref a4, .int i1, .ref a5, .int i2, .int (u9.1 0), .int (u9.1 1), .int (u9.1 2), .int (u9.1 3), .int (u9.1 4), .int (u9.1 5), .ref a6, .ref a7, .ref a8, .ref a9, .ref a10, .ref a11, .ref a12, .int i9, .ref a13, .int i10, .ref a14, .ref a15, .int i11, .ref a16, .ref a17, .ref a18, .ref a19, .int i12, .int i13, .int i14, .int i15, .int i16, .ref a20, .long j0, .ref a21, .ref a22, .ref a23, .ref a24])), (a4, .inl (cB, 1600, .inl xF3)), (a6, .inl (cI, 544, .inl (u9.2.1 0)))]) A) ([.ref a0] : List Value).toArray s 0 0 A := ⟨_, rfl⟩
  rw [← hQ]
  have k0 : (0 : Int32).toInt = 0 := by decide
  have k1 : (1 : Int32).toInt = 1 := by decide
  have k2 : (2 : Int32).toInt = 2 := by decide
  have k3 : (3 : Int32).toInt = 3 := by decide
  have k6 : (6 : Int32).toInt = 6 := by decide
  have k7 : (7 : Int32).toInt = 7 := by decide
  have k30 : (30 : Int32).toInt = 30 := by decide
  have k99 : (99 : Int32).toInt = 99 := by decide
  have k248 : (248 : Int32).toInt = 248 := by decide
  obtain ⟨sa189, sav189, sn189, sf189, hsn189, hR189, hks189⟩ := hN.2 _ rf_RX12_189
  have hN189 : NS sa189 sav189 sn189 sf189 A s := ⟨hN.1, hsn189.1, hks189⟩
  have hsl189 : sn189 = 2 := hsn189.2
  obtain ⟨sa191, sav191, sn191, sf191, hsn191, hR191, hks191⟩ := hN.2 _ rf_RX12_191
  have hN191 : NS sa191 sav191 sn191 sf191 A s := ⟨hN.1, hsn191.1, hks191⟩
  have hsl191 : sn191 = 2 := hsn191.2
  obtain ⟨sa204, sav204, sn204, sf204, hsn204, hR204, hks204⟩ := hN.2 _ rf_RX12_204
  have hN204 : NS sa204 sav204 sn204 sf204 A s := ⟨hN.1, hsn204.1, hks204⟩
  have hsl204 : sn204 = 5 := hsn204.2
  refine lv_sipush (v := 248) hx hb dX12_readPawl_0 (by decide) ?_
  refine lv_iconst (v := 3) hx hb dX12_readPawl_3 (by decide) ?_
  refine lv_aload_n hx hb dX12_readPawl_4 rfl (lv_at hl 0 rfl) ?_
  refine va_get (D := (dC, dI)) (ci := 12) (v := .ref a6) (C := RX12) (T := TX12) (N := 42) hx hb hwd inlX12 hown hK hP 0 rfl rfl 14 (by decide) (hwd _ kr7_9) (fun _ h9 => h9) rfl dX12_readPawl_5 ?_
  refine lv_bipush (v := 7) hx hb dX12_readPawl_8 (by decide) ?_
  have h1 : vp_in (7 : Int32) 544 := (vin (by decide))
  refine va_iald hx hb hK hP 2 0 rfl rfl h1 dX12_readPawl_10 ?_
  refine lv_topi (fun x2 ex2 => ?_)
  have ix2 := wat_lit (k := 7) ex2 (by decide)
  have wh3 : whd 0 xF5 := p_7.1
  unfold whd at wh3
  refine lv_imul hx hb dX12_readPawl_11 ?_
  refine lv_topi (fun x4 ex4 => ?_)
  have tx4 := ia_mull (a := (3 : Int32)) (b := x2) 3 (by decide) (by omega) (by omega)
  rw [← ex4] at tx4
  refine lv_iadd hx hb dX12_readPawl_12 ?_
  refine lv_topi (fun x5 ex5 => ?_)
  have tx5 := ia_add (a := (248 : Int32)) (b := x4) (by omega) (by omega)
  rw [← ex5] at tx5
  refine lv_istore_n (lv' := [(1, .int x5), (0, .ref a0)]) hx hb dX12_readPawl_13 rfl hl (by decide) rfl (fun ls hl => ?_)
  refine lv_aload_n hx hb dX12_readPawl_14 rfl (lv_at hl 1 rfl) ?_
  refine va_get (D := (dC, dI)) (ci := 12) (v := .ref a6) (C := RX12) (T := TX12) (N := 42) hx hb hwd inlX12 hown hK hP 0 rfl rfl 14 (by decide) (hwd _ kr7_9) (fun _ h9 => h9) rfl dX12_readPawl_15 ?_
  refine lv_iload_n hx hb dX12_readPawl_18 rfl (lv_at hl 0 rfl) ?_
  refine lv_aload_n hx hb dX12_readPawl_19 rfl (lv_at hl 1 rfl) ?_
  refine va_ldcS hx hb hown hR189 dX12_readPawl_20 ?_
  refine lv_iconst (v := 0) hx hb dX12_readPawl_22 (by decide) ?_
  refine lv_aload_n hx hb dX12_readPawl_23 rfl (lv_at hl 1 rfl) ?_
  refine va_get (D := (dC, dI)) (ci := 12) (v := .ref a6) (C := RX12) (T := TX12) (N := 42) hx hb hwd inlX12 hown hK hP 0 rfl rfl 14 (by decide) (hwd _ kr7_9) (fun _ h9 => h9) rfl dX12_readPawl_24 ?_
  refine lv_bipush (v := 6) hx hb dX12_readPawl_27 (by decide) ?_
  have h6 : vp_in (6 : Int32) 544 := (vin (by decide))
  refine va_iald hx hb hK hP 2 0 rfl rfl h6 dX12_readPawl_29 ?_
  refine lv_topi (fun x7 ex7 => ?_)
  have ix7 := wat_lit (k := 6) ex7 (by decide)
  have ix7 := wat_lit (F := xF5) (k := 6) (show x7 = xF5 (6 : Int32).toNatClampNeg from by rw [ex7]) (by decide)
  refine lv_iconst (v := 1) hx hb dX12_readPawl_30 (by decide) ?_
  refine lv_isub hx hb dX12_readPawl_31 ?_
  refine lv_topi (fun x8 ex8 => ?_)
  have tx8 := ia_sub (a := x7) (b := (1 : Int32)) (by omega) (by omega)
  rw [← ex8] at tx8
  have hPc := hP.sub (ws' := [(a0, .inr (12, [.int i0, .ref a1, .ref a2, .ref a3, .ref a4, .int i1, .ref a5, .int i2, .int i3, .int i4, .int i5, .int i6, .int i7, .int i8, .ref a6, .ref a7, .ref a8, .ref a9, .ref a10, .ref a11, .ref a12, .int i9, .ref a13, .int i10, .ref a14, .ref a15, .int i11, .ref a16, .ref a17, .ref a18, .ref a19, .int i12, .int i13, .int i14, .int i15, .int i16, .ref a20, .long j0, .ref a21, .ref a22, .ref a23, .ref a24])), (a4, .inl (cB, 1600, .inl xF3))]) [0, 1] rfl
  have hDc := hD.sub (ws' := [(a0, .inr (12, [.int i0, .ref a1, .ref a2, .ref a3, .ref a4, .int i1, .ref a5, .int i2, .int i3, .int i4, .int i5, .int i6, .int i7, .int i8, .ref a6, .ref a7, .ref a8, .ref a9, .ref a10, .ref a11, .ref a12, .int i9, .ref a13, .int i10, .ref a14, .ref a15, .int i11, .ref a16, .ref a17, .ref a18, .ref a19, .int i12, .int i13, .int i14, .int i15, .int i16, .ref a20, .long j0, .ref a21, .ref a22, .ref a23, .ref a24])), (a4, .inl (cB, 1600, .inl xF3))]) [0, 1] (by decide) rfl
  have hFc := va_free (wc := [(a0, .inr (12, [.int i0, .ref a1, .ref a2, .ref a3, .ref a4, .int i1, .ref a5, .int i2, .int i3, .int i4, .int i5, .int i6, .int i7, .int i8, .ref a6, .ref a7, .ref a8, .ref a9, .ref a10, .ref a11, .ref a12, .int i9, .ref a13, .int i10, .ref a14, .ref a15, .int i11, .ref a16, .ref a17, .ref a18, .ref a19, .int i12, .int i13, .int i14, .int i15, .int i16, .ref a20, .long j0, .ref a21, .ref a22, .ref a23, .ref a24])), (a4, .inl (cB, 1600, .inl xF3))]) hD hS hA [0, 1] rfl
  refine va_calli (va_runV (As := [.ref sa189, .int 0, .int x8]) (rest := [.int x5, .ref a6]) ⟨hx, hb, hml, hown, hwd⟩ (s_X12_told l dC dI cI cZ cB cJ cM cG a0 a1 a2 a3 a4 a5 a6 a7 a8 a9 a10 a11 a12 a13 a14 a15 a16 a17 a18 a19 a20 a21 a22 a23 a24 i0 i1 i2 i3 i4 i5 i6 i7 i8 i9 i10 i11 i12 i13 i14 i15 i16 j0 xF3 0 x8 sa189 sav189 sn189 sf189 s.heap.size (show (0 : Int) ≤ i1.toInt ∧ i1.toInt ≤ 1600 from ⟨by omega, by omega⟩) (show (0 : Int) ≤ i2.toInt ∧ i2.toInt ≤ 1600 from ⟨by omega, by omega⟩) (show (0 : Int) ≤ i3.toInt ∧ i3.toInt ≤ 1600 from ⟨by omega, by omega⟩) (show (0 : Int) ≤ i4.toInt ∧ i4.toInt ≤ 1600 from ⟨by omega, by omega⟩) (show (0 : Int) ≤ i5.toInt ∧ i5.toInt ≤ 6 from ⟨by omega, by omega⟩) (show (0 : Int) ≤ i7.toInt ∧ i7.toInt ≤ 3 from ⟨by omega, by omega⟩) (show (0 : Int) ≤ i11.toInt ∧ i11.toInt ≤ 59 from ⟨by omega, by omega⟩) (show (0 : Int) ≤ (0 : Int32).toInt ∧ (0 : Int32).toInt ≤ 4 from ⟨by omega, by omega⟩) (show (-1 : Int) ≤ x8.toInt ∧ x8.toInt ≤ 999 from ⟨by omega, by omega⟩) p_10 p_11) (cwV 3 hwd (gV kr25_1 kr25_2 kr25_3 kr1_5 kr25_4) rfl rfl rfl (by decide +kernel) ⟨Nat.le_of_ble_eq_true rfl, Nat.le_of_ble_eq_true rfl⟩) (kPreVX hPc hK hDc (NS_st _ _ _ _) hN189 hS hFc (ci := 12) (q0 := 0) rfl rfl) rfl rfl hl.1 rfl (lv_room (Nat.le_of_ble_eq_true rfl)) dX12_readPawl_32 ⟨Nat.le_of_ble_eq_true rfl, Nat.le_of_ble_eq_true rfl⟩) hS (fun q _ h => hFc q h) hFc (fun r9 u10 t H1 locs ht9 hvm hw hB hz1 hk1 hS => ?_)
  obtain ⟨u11, U11, V11⟩ := u10
  obtain ⟨hw12, hw13, hw14, hw15, hw16, hw17, hw18, hw19, hw20, -⟩ := hw
  have hw12 : (r9.toInt = 0 ∨ ((0 : Int32).toInt ≤ r9.toInt ∧ r9.toInt ≤ x8.toInt)) := hw12
  have hw13 : (0 : Int) ≤ (u11 0).toInt ∧ (u11 0).toInt ≤ 1600 := hw13
  have hw14 : (0 : Int) ≤ (u11 1).toInt ∧ (u11 1).toInt ≤ 1600 := hw14
  have hw15 : (0 : Int) ≤ (u11 2).toInt ∧ (u11 2).toInt ≤ 6 := hw15
  have hw16 : (0 : Int) ≤ (u11 4).toInt ∧ (u11 4).toInt ≤ 3 := hw16
  have hw17 : (u11 1).toInt ≤ (u11 0).toInt := hw17
  have hw18 : (2 ≤ (u11 2).toInt → (u11 1).toInt + 1 ≤ (u11 0).toInt) := hw18
  have hw19 : i4.toInt ≤ (u11 1).toInt := hw19
  have hw20 : ((u11 4).toInt = 0 → i7.toInt = 0 ∧ (0 : Int32).toInt ≤ r9.toInt ∧ r9.toInt ≤ x8.toInt ∧ i4.toInt + (sn189 : Int) + 1 ≤ (u11 1).toInt) := hw20
  obtain ⟨hP1, hD1⟩ := hB
  rw [ht9] at hP1
  obtain ⟨hP, hD⟩ := va_join (wr := [(a6, .inl (cI, 544, .inl xF5))]) (w1 := [(a0, .inr (12, [.int i0, .ref a1, .ref a2, .ref a3, .ref a4, .int i1, .ref a5, .int i2, .int (u11 0), .int (u11 1), .int (u11 2), .int (u11 3), .int (u11 4), .int (u11 5), .ref a6, .ref a7, .ref a8, .ref a9, .ref a10, .ref a11, .ref a12, .int i9, .ref a13, .int i10, .ref a14, .ref a15, .int i11, .ref a16, .ref a17, .ref a18, .ref a19, .int i12, .int i13, .int i14, .int i15, .int i16, .ref a20, .long j0, .ref a21, .ref a22, .ref a23, .ref a24])), (a4, .inl (cB, 1600, .inl xF3))]) hP hD [0, 1] [2] rfl rfl (by decide) (by decide) hk1 hFc hP1 hD1
  generalize H1 = H at hP hS ⊢
  have hP : va_P (dC, dI) vwCl [(a6, .inl (cI, 544, .inl xF5)), (a0, .inr (12, [.int i0, .ref a1, .ref a2, .ref a3, .ref a4, .int i1, .ref a5, .int i2, .int (u11 0), .int (u11 1), .int (u11 2), .int (u11 3), .int (u11 4), .int (u11 5), .ref a6, .ref a7, .ref a8, .ref a9, .ref a10, .ref a11, .ref a12, .int i9, .ref a13, .int i10, .ref a14, .ref a15, .int i11, .ref a16, .ref a17, .ref a18, .ref a19, .int i12, .int i13, .int i14, .int i15, .int i16, .ref a20, .long j0, .ref a21, .ref a22, .ref a23, .ref a24])), (a4, .inl (cB, 1600, .inl xF3))] H := hP
  have hD : va_D A [(a6, .inl (cI, 544, .inl xF5)), (a0, .inr (12, [.int i0, .ref a1, .ref a2, .ref a3, .ref a4, .int i1, .ref a5, .int i2, .int (u11 0), .int (u11 1), .int (u11 2), .int (u11 3), .int (u11 4), .int (u11 5), .ref a6, .ref a7, .ref a8, .ref a9, .ref a10, .ref a11, .ref a12, .int i9, .ref a13, .int i10, .ref a14, .ref a15, .int i11, .ref a16, .ref a17, .ref a18, .ref a19, .int i12, .int i13, .int i14, .int i15, .int i16, .ref a20, .long j0, .ref a21, .ref a22, .ref a23, .ref a24])), (a4, .inl (cB, 1600, .inl xF3))] := hD
  refine va_iast hx hb hK hP hD hS 0 0 rfl rfl (vp_of (by omega) (by omega)) dX12_readPawl_35 (fun H locs hP hD hS => ?_)
  obtain ⟨f21, ef21⟩ : ∃ f, f = upd xF5 x5.toNatClampNeg r9 := ⟨_, rfl⟩
  have df21 : WI 0 f21 := by rw [ef21]; exact WI_pst p_7 (by omega) (by omega) (fun h9 => by omega) (fun h9 => by omega)
  have hP : va_P (dC, dI) vwCl [(a6, .inl (cI, 544, .inl f21)), (a0, .inr (12, [.int i0, .ref a1, .ref a2, .ref a3, .ref a4, .int i1, .ref a5, .int i2, .int (u11 0), .int (u11 1), .int (u11 2), .int (u11 3), .int (u11 4), .int (u11 5), .ref a6, .ref a7, .ref a8, .ref a9, .ref a10, .ref a11, .ref a12, .int i9, .ref a13, .int i10, .ref a14, .ref a15, .int i11, .ref a16, .ref a17, .ref a18, .ref a19, .int i12, .int i13, .int i14, .int i15, .int i16, .ref a20, .long j0, .ref a21, .ref a22, .ref a23, .ref a24])), (a4, .inl (cB, 1600, .inl xF3))] H := by rw [ef21]; exact hP
  have hD : va_D A [(a6, .inl (cI, 544, .inl f21)), (a0, .inr (12, [.int i0, .ref a1, .ref a2, .ref a3, .ref a4, .int i1, .ref a5, .int i2, .int (u11 0), .int (u11 1), .int (u11 2), .int (u11 3), .int (u11 4), .int (u11 5), .ref a6, .ref a7, .ref a8, .ref a9, .ref a10, .ref a11, .ref a12, .int i9, .ref a13, .int i10, .ref a14, .ref a15, .int i11, .ref a16, .ref a17, .ref a18, .ref a19, .int i12, .int i13, .int i14, .int i15, .int i16, .ref a20, .long j0, .ref a21, .ref a22, .ref a23, .ref a24])), (a4, .inl (cB, 1600, .inl xF3))] := by rw [ef21]; exact hD
  refine lv_aload_n hx hb dX12_readPawl_36 rfl (lv_at hl 1 rfl) ?_
  refine va_get (D := (dC, dI)) (ci := 12) (v := .ref a6) (C := RX12) (T := TX12) (N := 42) hx hb hwd inlX12 hown hK hP 1 rfl rfl 14 (by decide) (hwd _ kr7_9) (fun _ h9 => h9) rfl dX12_readPawl_37 ?_
  refine lv_iload_n hx hb dX12_readPawl_40 rfl (lv_at hl 0 rfl) ?_
  refine lv_iconst (v := 1) hx hb dX12_readPawl_41 (by decide) ?_
  refine lv_iadd hx hb dX12_readPawl_42 ?_
  refine lv_topi (fun x22 ex22 => ?_)
  have tx22 := ia_add (a := x5) (b := (1 : Int32)) (by omega) (by omega)
  rw [← ex22] at tx22
  refine lv_aload_n hx hb dX12_readPawl_43 rfl (lv_at hl 1 rfl) ?_
  refine va_ldcS hx hb hown hR191 dX12_readPawl_44 ?_
  refine lv_iconst (v := 1) hx hb dX12_readPawl_46 (by decide) ?_
  refine lv_bipush (v := 99) hx hb dX12_readPawl_47 (by decide) ?_
  have hPc := hP.sub (ws' := [(a0, .inr (12, [.int i0, .ref a1, .ref a2, .ref a3, .ref a4, .int i1, .ref a5, .int i2, .int (u11 0), .int (u11 1), .int (u11 2), .int (u11 3), .int (u11 4), .int (u11 5), .ref a6, .ref a7, .ref a8, .ref a9, .ref a10, .ref a11, .ref a12, .int i9, .ref a13, .int i10, .ref a14, .ref a15, .int i11, .ref a16, .ref a17, .ref a18, .ref a19, .int i12, .int i13, .int i14, .int i15, .int i16, .ref a20, .long j0, .ref a21, .ref a22, .ref a23, .ref a24])), (a4, .inl (cB, 1600, .inl xF3))]) [1, 2] rfl
  have hDc := hD.sub (ws' := [(a0, .inr (12, [.int i0, .ref a1, .ref a2, .ref a3, .ref a4, .int i1, .ref a5, .int i2, .int (u11 0), .int (u11 1), .int (u11 2), .int (u11 3), .int (u11 4), .int (u11 5), .ref a6, .ref a7, .ref a8, .ref a9, .ref a10, .ref a11, .ref a12, .int i9, .ref a13, .int i10, .ref a14, .ref a15, .int i11, .ref a16, .ref a17, .ref a18, .ref a19, .int i12, .int i13, .int i14, .int i15, .int i16, .ref a20, .long j0, .ref a21, .ref a22, .ref a23, .ref a24])), (a4, .inl (cB, 1600, .inl xF3))]) [1, 2] (by decide) rfl
  have hFc := va_free (wc := [(a0, .inr (12, [.int i0, .ref a1, .ref a2, .ref a3, .ref a4, .int i1, .ref a5, .int i2, .int (u11 0), .int (u11 1), .int (u11 2), .int (u11 3), .int (u11 4), .int (u11 5), .ref a6, .ref a7, .ref a8, .ref a9, .ref a10, .ref a11, .ref a12, .int i9, .ref a13, .int i10, .ref a14, .ref a15, .int i11, .ref a16, .ref a17, .ref a18, .ref a19, .int i12, .int i13, .int i14, .int i15, .int i16, .ref a20, .long j0, .ref a21, .ref a22, .ref a23, .ref a24])), (a4, .inl (cB, 1600, .inl xF3))]) hD hS hA [1, 2] rfl
  refine va_calli (va_runV (As := [.ref sa191, .int 1, .int 99]) (rest := [.int x22, .ref a6]) ⟨hx, hb, hml, hown, hwd⟩ (s_X12_told l dC dI cI cZ cB cJ cM cG a0 a1 a2 a3 a4 a5 a6 a7 a8 a9 a10 a11 a12 a13 a14 a15 a16 a17 a18 a19 a20 a21 a22 a23 a24 i0 i1 i2 (u11 0) (u11 1) (u11 2) (u11 3) (u11 4) (u11 5) i9 i10 i11 i12 i13 i14 i15 i16 j0 xF3 1 99 sa191 sav191 sn191 sf191 H.size (show (0 : Int) ≤ i1.toInt ∧ i1.toInt ≤ 1600 from ⟨by omega, by omega⟩) (show (0 : Int) ≤ i2.toInt ∧ i2.toInt ≤ 1600 from ⟨by omega, by omega⟩) (show (0 : Int) ≤ (u11 0).toInt ∧ (u11 0).toInt ≤ 1600 from ⟨by omega, by omega⟩) (show (0 : Int) ≤ (u11 1).toInt ∧ (u11 1).toInt ≤ 1600 from ⟨by omega, by omega⟩) (show (0 : Int) ≤ (u11 2).toInt ∧ (u11 2).toInt ≤ 6 from ⟨by omega, by omega⟩) (show (0 : Int) ≤ (u11 4).toInt ∧ (u11 4).toInt ≤ 3 from ⟨by omega, by omega⟩) (show (0 : Int) ≤ i11.toInt ∧ i11.toInt ≤ 59 from ⟨by omega, by omega⟩) (show (0 : Int) ≤ (1 : Int32).toInt ∧ (1 : Int32).toInt ≤ 4 from ⟨by omega, by omega⟩) (show (-1 : Int) ≤ (99 : Int32).toInt ∧ (99 : Int32).toInt ≤ 999 from ⟨by omega, by omega⟩) hw17 hw18) (cwV 3 hwd (gV kr25_1 kr25_2 kr25_3 kr1_5 kr25_4) rfl rfl rfl (by decide +kernel) ⟨Nat.le_of_ble_eq_true rfl, Nat.le_of_ble_eq_true rfl⟩) (kPreVX hPc hK hDc (NS_st _ _ _ _) hN191 hS hFc (ci := 12) (q0 := 0) rfl rfl) rfl rfl hl.1 rfl (lv_room (Nat.le_of_ble_eq_true rfl)) dX12_readPawl_49 ⟨Nat.le_of_ble_eq_true rfl, Nat.le_of_ble_eq_true rfl⟩) hS (fun q _ h => hFc q h) hFc (fun r23 u24 t H1 locs ht9 hvm hw hB hz1 hk1 hS => ?_)
  obtain ⟨u25, U25, V25⟩ := u24
  obtain ⟨hw26, hw27, hw28, hw29, hw30, hw31, hw32, hw33, hw34, -⟩ := hw
  have hw26 : (r23.toInt = 0 ∨ ((1 : Int32).toInt ≤ r23.toInt ∧ r23.toInt ≤ (99 : Int32).toInt)) := hw26
  have hw27 : (0 : Int) ≤ (u25 0).toInt ∧ (u25 0).toInt ≤ 1600 := hw27
  have hw28 : (0 : Int) ≤ (u25 1).toInt ∧ (u25 1).toInt ≤ 1600 := hw28
  have hw29 : (0 : Int) ≤ (u25 2).toInt ∧ (u25 2).toInt ≤ 6 := hw29
  have hw30 : (0 : Int) ≤ (u25 4).toInt ∧ (u25 4).toInt ≤ 3 := hw30
  have hw31 : (u25 1).toInt ≤ (u25 0).toInt := hw31
  have hw32 : (2 ≤ (u25 2).toInt → (u25 1).toInt + 1 ≤ (u25 0).toInt) := hw32
  have hw33 : (u11 1).toInt ≤ (u25 1).toInt := hw33
  have hw34 : ((u25 4).toInt = 0 → (u11 4).toInt = 0 ∧ (1 : Int32).toInt ≤ r23.toInt ∧ r23.toInt ≤ (99 : Int32).toInt ∧ (u11 1).toInt + (sn191 : Int) + 1 ≤ (u25 1).toInt) := hw34
  obtain ⟨hP1, hD1⟩ := hB
  rw [ht9] at hP1
  obtain ⟨hP, hD⟩ := va_join (wr := [(a6, .inl (cI, 544, .inl f21))]) (w1 := [(a0, .inr (12, [.int i0, .ref a1, .ref a2, .ref a3, .ref a4, .int i1, .ref a5, .int i2, .int (u25 0), .int (u25 1), .int (u25 2), .int (u25 3), .int (u25 4), .int (u25 5), .ref a6, .ref a7, .ref a8, .ref a9, .ref a10, .ref a11, .ref a12, .int i9, .ref a13, .int i10, .ref a14, .ref a15, .int i11, .ref a16, .ref a17, .ref a18, .ref a19, .int i12, .int i13, .int i14, .int i15, .int i16, .ref a20, .long j0, .ref a21, .ref a22, .ref a23, .ref a24])), (a4, .inl (cB, 1600, .inl xF3))]) hP hD [1, 2] [0] rfl rfl (by decide) (by decide) hk1 hFc hP1 hD1
  generalize H1 = H at hP hS ⊢
  have hP : va_P (dC, dI) vwCl [(a6, .inl (cI, 544, .inl f21)), (a0, .inr (12, [.int i0, .ref a1, .ref a2, .ref a3, .ref a4, .int i1, .ref a5, .int i2, .int (u25 0), .int (u25 1), .int (u25 2), .int (u25 3), .int (u25 4), .int (u25 5), .ref a6, .ref a7, .ref a8, .ref a9, .ref a10, .ref a11, .ref a12, .int i9, .ref a13, .int i10, .ref a14, .ref a15, .int i11, .ref a16, .ref a17, .ref a18, .ref a19, .int i12, .int i13, .int i14, .int i15, .int i16, .ref a20, .long j0, .ref a21, .ref a22, .ref a23, .ref a24])), (a4, .inl (cB, 1600, .inl xF3))] H := hP
  have hD : va_D A [(a6, .inl (cI, 544, .inl f21)), (a0, .inr (12, [.int i0, .ref a1, .ref a2, .ref a3, .ref a4, .int i1, .ref a5, .int i2, .int (u25 0), .int (u25 1), .int (u25 2), .int (u25 3), .int (u25 4), .int (u25 5), .ref a6, .ref a7, .ref a8, .ref a9, .ref a10, .ref a11, .ref a12, .int i9, .ref a13, .int i10, .ref a14, .ref a15, .int i11, .ref a16, .ref a17, .ref a18, .ref a19, .int i12, .int i13, .int i14, .int i15, .int i16, .ref a20, .long j0, .ref a21, .ref a22, .ref a23, .ref a24])), (a4, .inl (cB, 1600, .inl xF3))] := hD
  refine va_iast hx hb hK hP hD hS 0 0 rfl rfl (vp_of (by omega) (by omega)) dX12_readPawl_52 (fun H locs hP hD hS => ?_)
  obtain ⟨f35, ef35⟩ : ∃ f, f = upd f21 x22.toNatClampNeg r23 := ⟨_, rfl⟩
  have df35 : WI 0 f35 := by rw [ef35]; exact WI_pst df21 (by omega) (by omega) (fun h9 => by omega) (fun h9 => by rw [ef21, wat_nei (by omega)]; omega)
  have hP : va_P (dC, dI) vwCl [(a6, .inl (cI, 544, .inl f35)), (a0, .inr (12, [.int i0, .ref a1, .ref a2, .ref a3, .ref a4, .int i1, .ref a5, .int i2, .int (u25 0), .int (u25 1), .int (u25 2), .int (u25 3), .int (u25 4), .int (u25 5), .ref a6, .ref a7, .ref a8, .ref a9, .ref a10, .ref a11, .ref a12, .int i9, .ref a13, .int i10, .ref a14, .ref a15, .int i11, .ref a16, .ref a17, .ref a18, .ref a19, .int i12, .int i13, .int i14, .int i15, .int i16, .ref a20, .long j0, .ref a21, .ref a22, .ref a23, .ref a24])), (a4, .inl (cB, 1600, .inl xF3))] H := by rw [ef35]; exact hP
  have hD : va_D A [(a6, .inl (cI, 544, .inl f35)), (a0, .inr (12, [.int i0, .ref a1, .ref a2, .ref a3, .ref a4, .int i1, .ref a5, .int i2, .int (u25 0), .int (u25 1), .int (u25 2), .int (u25 3), .int (u25 4), .int (u25 5), .ref a6, .ref a7, .ref a8, .ref a9, .ref a10, .ref a11, .ref a12, .int i9, .ref a13, .int i10, .ref a14, .ref a15, .int i11, .ref a16, .ref a17, .ref a18, .ref a19, .int i12, .int i13, .int i14, .int i15, .int i16, .ref a20, .long j0, .ref a21, .ref a22, .ref a23, .ref a24])), (a4, .inl (cB, 1600, .inl xF3))] := by rw [ef35]; exact hD
  refine lv_aload_n hx hb dX12_readPawl_53 rfl (lv_at hl 1 rfl) ?_
  refine va_get (D := (dC, dI)) (ci := 12) (v := .ref a6) (C := RX12) (T := TX12) (N := 42) hx hb hwd inlX12 hown hK hP 1 rfl rfl 14 (by decide) (hwd _ kr7_9) (fun _ h9 => h9) rfl dX12_readPawl_54 ?_
  refine lv_iload_n hx hb dX12_readPawl_57 rfl (lv_at hl 0 rfl) ?_
  refine lv_iconst (v := 2) hx hb dX12_readPawl_58 (by decide) ?_
  refine lv_iadd hx hb dX12_readPawl_59 ?_
  refine lv_topi (fun x36 ex36 => ?_)
  have tx36 := ia_add (a := x5) (b := (2 : Int32)) (by omega) (by omega)
  rw [← ex36] at tx36
  refine lv_aload_n hx hb dX12_readPawl_60 rfl (lv_at hl 1 rfl) ?_
  refine va_ldcS hx hb hown hR204 dX12_readPawl_61 ?_
  refine lv_iconst (v := 2) hx hb dX12_readPawl_63 (by decide) ?_
  refine lv_bipush (v := 30) hx hb dX12_readPawl_64 (by decide) ?_
  have hPc := hP.sub (ws' := [(a0, .inr (12, [.int i0, .ref a1, .ref a2, .ref a3, .ref a4, .int i1, .ref a5, .int i2, .int (u25 0), .int (u25 1), .int (u25 2), .int (u25 3), .int (u25 4), .int (u25 5), .ref a6, .ref a7, .ref a8, .ref a9, .ref a10, .ref a11, .ref a12, .int i9, .ref a13, .int i10, .ref a14, .ref a15, .int i11, .ref a16, .ref a17, .ref a18, .ref a19, .int i12, .int i13, .int i14, .int i15, .int i16, .ref a20, .long j0, .ref a21, .ref a22, .ref a23, .ref a24])), (a4, .inl (cB, 1600, .inl xF3))]) [1, 2] rfl
  have hDc := hD.sub (ws' := [(a0, .inr (12, [.int i0, .ref a1, .ref a2, .ref a3, .ref a4, .int i1, .ref a5, .int i2, .int (u25 0), .int (u25 1), .int (u25 2), .int (u25 3), .int (u25 4), .int (u25 5), .ref a6, .ref a7, .ref a8, .ref a9, .ref a10, .ref a11, .ref a12, .int i9, .ref a13, .int i10, .ref a14, .ref a15, .int i11, .ref a16, .ref a17, .ref a18, .ref a19, .int i12, .int i13, .int i14, .int i15, .int i16, .ref a20, .long j0, .ref a21, .ref a22, .ref a23, .ref a24])), (a4, .inl (cB, 1600, .inl xF3))]) [1, 2] (by decide) rfl
  have hFc := va_free (wc := [(a0, .inr (12, [.int i0, .ref a1, .ref a2, .ref a3, .ref a4, .int i1, .ref a5, .int i2, .int (u25 0), .int (u25 1), .int (u25 2), .int (u25 3), .int (u25 4), .int (u25 5), .ref a6, .ref a7, .ref a8, .ref a9, .ref a10, .ref a11, .ref a12, .int i9, .ref a13, .int i10, .ref a14, .ref a15, .int i11, .ref a16, .ref a17, .ref a18, .ref a19, .int i12, .int i13, .int i14, .int i15, .int i16, .ref a20, .long j0, .ref a21, .ref a22, .ref a23, .ref a24])), (a4, .inl (cB, 1600, .inl xF3))]) hD hS hA [1, 2] rfl
  refine va_calli (va_runV (As := [.ref sa204, .int 2, .int 30]) (rest := [.int x36, .ref a6]) ⟨hx, hb, hml, hown, hwd⟩ (s_X12_told l dC dI cI cZ cB cJ cM cG a0 a1 a2 a3 a4 a5 a6 a7 a8 a9 a10 a11 a12 a13 a14 a15 a16 a17 a18 a19 a20 a21 a22 a23 a24 i0 i1 i2 (u25 0) (u25 1) (u25 2) (u25 3) (u25 4) (u25 5) i9 i10 i11 i12 i13 i14 i15 i16 j0 xF3 2 30 sa204 sav204 sn204 sf204 H.size (show (0 : Int) ≤ i1.toInt ∧ i1.toInt ≤ 1600 from ⟨by omega, by omega⟩) (show (0 : Int) ≤ i2.toInt ∧ i2.toInt ≤ 1600 from ⟨by omega, by omega⟩) (show (0 : Int) ≤ (u25 0).toInt ∧ (u25 0).toInt ≤ 1600 from ⟨by omega, by omega⟩) (show (0 : Int) ≤ (u25 1).toInt ∧ (u25 1).toInt ≤ 1600 from ⟨by omega, by omega⟩) (show (0 : Int) ≤ (u25 2).toInt ∧ (u25 2).toInt ≤ 6 from ⟨by omega, by omega⟩) (show (0 : Int) ≤ (u25 4).toInt ∧ (u25 4).toInt ≤ 3 from ⟨by omega, by omega⟩) (show (0 : Int) ≤ i11.toInt ∧ i11.toInt ≤ 59 from ⟨by omega, by omega⟩) (show (0 : Int) ≤ (2 : Int32).toInt ∧ (2 : Int32).toInt ≤ 4 from ⟨by omega, by omega⟩) (show (-1 : Int) ≤ (30 : Int32).toInt ∧ (30 : Int32).toInt ≤ 999 from ⟨by omega, by omega⟩) hw31 hw32) (cwV 3 hwd (gV kr25_1 kr25_2 kr25_3 kr1_5 kr25_4) rfl rfl rfl (by decide +kernel) ⟨Nat.le_of_ble_eq_true rfl, Nat.le_of_ble_eq_true rfl⟩) (kPreVX hPc hK hDc (NS_st _ _ _ _) hN204 hS hFc (ci := 12) (q0 := 0) rfl rfl) rfl rfl hl.1 rfl (lv_room (Nat.le_of_ble_eq_true rfl)) dX12_readPawl_66 ⟨Nat.le_of_ble_eq_true rfl, Nat.le_of_ble_eq_true rfl⟩) hS (fun q _ h => hFc q h) hFc (fun r37 u38 t H1 locs ht9 hvm hw hB hz1 hk1 hS => ?_)
  obtain ⟨u39, U39, V39⟩ := u38
  obtain ⟨hw40, hw41, hw42, hw43, hw44, hw45, hw46, hw47, hw48, -⟩ := hw
  have hw40 : (r37.toInt = 0 ∨ ((2 : Int32).toInt ≤ r37.toInt ∧ r37.toInt ≤ (30 : Int32).toInt)) := hw40
  have hw41 : (0 : Int) ≤ (u39 0).toInt ∧ (u39 0).toInt ≤ 1600 := hw41
  have hw42 : (0 : Int) ≤ (u39 1).toInt ∧ (u39 1).toInt ≤ 1600 := hw42
  have hw43 : (0 : Int) ≤ (u39 2).toInt ∧ (u39 2).toInt ≤ 6 := hw43
  have hw44 : (0 : Int) ≤ (u39 4).toInt ∧ (u39 4).toInt ≤ 3 := hw44
  have hw45 : (u39 1).toInt ≤ (u39 0).toInt := hw45
  have hw46 : (2 ≤ (u39 2).toInt → (u39 1).toInt + 1 ≤ (u39 0).toInt) := hw46
  have hw47 : (u25 1).toInt ≤ (u39 1).toInt := hw47
  have hw48 : ((u39 4).toInt = 0 → (u25 4).toInt = 0 ∧ (2 : Int32).toInt ≤ r37.toInt ∧ r37.toInt ≤ (30 : Int32).toInt ∧ (u25 1).toInt + (sn204 : Int) + 1 ≤ (u39 1).toInt) := hw48
  obtain ⟨hP1, hD1⟩ := hB
  rw [ht9] at hP1
  obtain ⟨hP, hD⟩ := va_join (wr := [(a6, .inl (cI, 544, .inl f35))]) (w1 := [(a0, .inr (12, [.int i0, .ref a1, .ref a2, .ref a3, .ref a4, .int i1, .ref a5, .int i2, .int (u39 0), .int (u39 1), .int (u39 2), .int (u39 3), .int (u39 4), .int (u39 5), .ref a6, .ref a7, .ref a8, .ref a9, .ref a10, .ref a11, .ref a12, .int i9, .ref a13, .int i10, .ref a14, .ref a15, .int i11, .ref a16, .ref a17, .ref a18, .ref a19, .int i12, .int i13, .int i14, .int i15, .int i16, .ref a20, .long j0, .ref a21, .ref a22, .ref a23, .ref a24])), (a4, .inl (cB, 1600, .inl xF3))]) hP hD [1, 2] [0] rfl rfl (by decide) (by decide) hk1 hFc hP1 hD1
  generalize H1 = H at hP hS ⊢
  have hP : va_P (dC, dI) vwCl [(a6, .inl (cI, 544, .inl f35)), (a0, .inr (12, [.int i0, .ref a1, .ref a2, .ref a3, .ref a4, .int i1, .ref a5, .int i2, .int (u39 0), .int (u39 1), .int (u39 2), .int (u39 3), .int (u39 4), .int (u39 5), .ref a6, .ref a7, .ref a8, .ref a9, .ref a10, .ref a11, .ref a12, .int i9, .ref a13, .int i10, .ref a14, .ref a15, .int i11, .ref a16, .ref a17, .ref a18, .ref a19, .int i12, .int i13, .int i14, .int i15, .int i16, .ref a20, .long j0, .ref a21, .ref a22, .ref a23, .ref a24])), (a4, .inl (cB, 1600, .inl xF3))] H := hP
  have hD : va_D A [(a6, .inl (cI, 544, .inl f35)), (a0, .inr (12, [.int i0, .ref a1, .ref a2, .ref a3, .ref a4, .int i1, .ref a5, .int i2, .int (u39 0), .int (u39 1), .int (u39 2), .int (u39 3), .int (u39 4), .int (u39 5), .ref a6, .ref a7, .ref a8, .ref a9, .ref a10, .ref a11, .ref a12, .int i9, .ref a13, .int i10, .ref a14, .ref a15, .int i11, .ref a16, .ref a17, .ref a18, .ref a19, .int i12, .int i13, .int i14, .int i15, .int i16, .ref a20, .long j0, .ref a21, .ref a22, .ref a23, .ref a24])), (a4, .inl (cB, 1600, .inl xF3))] := hD
  refine va_iast hx hb hK hP hD hS 0 0 rfl rfl (vp_of (by omega) (by omega)) dX12_readPawl_69 (fun H locs hP hD hS => ?_)
  obtain ⟨f49, ef49⟩ : ∃ f, f = upd f35 x36.toNatClampNeg r37 := ⟨_, rfl⟩
  have df49 : WI 0 f49 := by rw [ef49]; exact WI_pst df35 (by omega) (by omega) (fun h9 => by omega) (fun h9 => by rw [ef35, wat_nei (by omega), ef21, wat_nei (by omega)]; omega)
  have hP : va_P (dC, dI) vwCl [(a6, .inl (cI, 544, .inl f49)), (a0, .inr (12, [.int i0, .ref a1, .ref a2, .ref a3, .ref a4, .int i1, .ref a5, .int i2, .int (u39 0), .int (u39 1), .int (u39 2), .int (u39 3), .int (u39 4), .int (u39 5), .ref a6, .ref a7, .ref a8, .ref a9, .ref a10, .ref a11, .ref a12, .int i9, .ref a13, .int i10, .ref a14, .ref a15, .int i11, .ref a16, .ref a17, .ref a18, .ref a19, .int i12, .int i13, .int i14, .int i15, .int i16, .ref a20, .long j0, .ref a21, .ref a22, .ref a23, .ref a24])), (a4, .inl (cB, 1600, .inl xF3))] H := by rw [ef49]; exact hP
  have hD : va_D A [(a6, .inl (cI, 544, .inl f49)), (a0, .inr (12, [.int i0, .ref a1, .ref a2, .ref a3, .ref a4, .int i1, .ref a5, .int i2, .int (u39 0), .int (u39 1), .int (u39 2), .int (u39 3), .int (u39 4), .int (u39 5), .ref a6, .ref a7, .ref a8, .ref a9, .ref a10, .ref a11, .ref a12, .int i9, .ref a13, .int i10, .ref a14, .ref a15, .int i11, .ref a16, .ref a17, .ref a18, .ref a19, .int i12, .int i13, .int i14, .int i15, .int i16, .ref a20, .long j0, .ref a21, .ref a22, .ref a23, .ref a24])), (a4, .inl (cB, 1600, .inl xF3))] := by rw [ef49]; exact hD
  refine lv_aload_n hx hb dX12_readPawl_70 rfl (lv_at hl 1 rfl) ?_
  refine va_get (D := (dC, dI)) (ci := 12) (v := .ref a6) (C := RX12) (T := TX12) (N := 42) hx hb hwd inlX12 hown hK hP 1 rfl rfl 14 (by decide) (hwd _ kr7_9) (fun _ h9 => h9) rfl dX12_readPawl_71 ?_
  refine lv_bipush (v := 7) hx hb dX12_readPawl_74 (by decide) ?_
  refine lv_dup2_11 hx hb dX12_readPawl_76 rfl rfl ?_
  have h50 : vp_in (7 : Int32) 544 := (vin (by decide))
  refine va_iald hx hb hK hP 0 0 rfl rfl h50 dX12_readPawl_77 ?_
  refine lv_topi (fun x51 ex51 => ?_)
  have ix51 := wat_lit (k := 7) ex51 (by decide)
  have wh52 : whd 0 f49 := df49.1
  unfold whd at wh52
  have ix51 := wat_lit (F := xF5) (k := 7) (show x51 = xF5 (7 : Int32).toNatClampNeg from by rw [ex51, ef49, upd_ne (by omega), ef35, upd_ne (by omega), ef21, upd_ne (by omega)]) (by decide)
  refine lv_iconst (v := 1) hx hb dX12_readPawl_78 (by decide) ?_
  refine lv_iadd hx hb dX12_readPawl_79 ?_
  refine lv_topi (fun x53 ex53 => ?_)
  have tx53 := ia_add (a := x51) (b := (1 : Int32)) (by omega) (by omega)
  rw [← ex53] at tx53
  refine va_iast hx hb hK hP hD hS 0 0 rfl rfl (vin (by decide)) dX12_readPawl_80 (fun H locs hP hD hS => ?_)
  obtain ⟨f54, ef54⟩ : ∃ f, f = upd f49 (7 : Int32).toNatClampNeg x53 := ⟨_, rfl⟩
  have hP : va_P (dC, dI) vwCl [(a6, .inl (cI, 544, .inl f54)), (a0, .inr (12, [.int i0, .ref a1, .ref a2, .ref a3, .ref a4, .int i1, .ref a5, .int i2, .int (u39 0), .int (u39 1), .int (u39 2), .int (u39 3), .int (u39 4), .int (u39 5), .ref a6, .ref a7, .ref a8, .ref a9, .ref a10, .ref a11, .ref a12, .int i9, .ref a13, .int i10, .ref a14, .ref a15, .int i11, .ref a16, .ref a17, .ref a18, .ref a19, .int i12, .int i13, .int i14, .int i15, .int i16, .ref a20, .long j0, .ref a21, .ref a22, .ref a23, .ref a24])), (a4, .inl (cB, 1600, .inl xF3))] H := by rw [ef54]; exact hP
  have hD : va_D A [(a6, .inl (cI, 544, .inl f54)), (a0, .inr (12, [.int i0, .ref a1, .ref a2, .ref a3, .ref a4, .int i1, .ref a5, .int i2, .int (u39 0), .int (u39 1), .int (u39 2), .int (u39 3), .int (u39 4), .int (u39 5), .ref a6, .ref a7, .ref a8, .ref a9, .ref a10, .ref a11, .ref a12, .int i9, .ref a13, .int i10, .ref a14, .ref a15, .int i11, .ref a16, .ref a17, .ref a18, .ref a19, .int i12, .int i13, .int i14, .int i15, .int i16, .ref a20, .long j0, .ref a21, .ref a22, .ref a23, .ref a24])), (a4, .inl (cB, 1600, .inl xF3))] := by rw [ef54]; exact hD
  have hP9 := hP.sub (ws' := [(a0, .inr (12, [.int i0, .ref a1, .ref a2, .ref a3, .ref a4, .int i1, .ref a5, .int i2, .int (u39 0), .int (u39 1), .int (u39 2), .int (u39 3), .int (u39 4), .int (u39 5), .ref a6, .ref a7, .ref a8, .ref a9, .ref a10, .ref a11, .ref a12, .int i9, .ref a13, .int i10, .ref a14, .ref a15, .int i11, .ref a16, .ref a17, .ref a18, .ref a19, .int i12, .int i13, .int i14, .int i15, .int i16, .ref a20, .long j0, .ref a21, .ref a22, .ref a23, .ref a24])), (a4, .inl (cB, 1600, .inl xF3)), (a6, .inl (cI, 544, .inl f54))]) [1, 2, 0] rfl
  have hD9 := hD.sub (ws' := [(a0, .inr (12, [.int i0, .ref a1, .ref a2, .ref a3, .ref a4, .int i1, .ref a5, .int i2, .int (u39 0), .int (u39 1), .int (u39 2), .int (u39 3), .int (u39 4), .int (u39 5), .ref a6, .ref a7, .ref a8, .ref a9, .ref a10, .ref a11, .ref a12, .int i9, .ref a13, .int i10, .ref a14, .ref a15, .int i11, .ref a16, .ref a17, .ref a18, .ref a19, .int i12, .int i13, .int i14, .int i15, .int i16, .ref a20, .long j0, .ref a21, .ref a22, .ref a23, .ref a24])), (a4, .inl (cB, 1600, .inl xF3)), (a6, .inl (cI, 544, .inl f54))]) [1, 2, 0] (by decide) rfl
  rw [hQ]
  exact W.vret hx hb hr (fun t ht hW => ⟨⟨(pickG 0 [(u39 0), (u39 1), (u39 2), (u39 3), (u39 4), (u39 5)], pickG (fun _ => 0) [f54], pickG (fun _ => 0) []), rfl, ⟨(show (0 : Int) ≤ (u39 0).toInt ∧ (u39 0).toInt ≤ 1600 from ⟨by omega, by omega⟩), (show (0 : Int) ≤ (u39 1).toInt ∧ (u39 1).toInt ≤ 1600 from ⟨by omega, by omega⟩), (show (0 : Int) ≤ (u39 2).toInt ∧ (u39 2).toInt ≤ 6 from ⟨by omega, by omega⟩), (show (0 : Int) ≤ (u39 4).toInt ∧ (u39 4).toInt ≤ 3 from ⟨by omega, by omega⟩), (show (u39 1).toInt ≤ (u39 0).toInt from by omega), (show (2 ≤ (u39 2).toInt → (u39 1).toInt + 1 ≤ (u39 0).toInt) from by omega), (show i4.toInt ≤ (u39 1).toInt from by omega), (show FG (u39 4).toInt f54 from fun h9 => ⟨by rw [ef54]; exact WI_pw (p := wat xF5 7) df49 (by omega) (by rw [ef49, wat_nei (by omega), ef35, wat_nei (by omega), ef21, wat_nei (by omega)]) (by omega) (by omega) (by omega) (by rw [ef49, wat_eqi (by omega)]; omega), (by rw [ef54, wat_nei (by omega), ef49, wat_nei (by omega), ef35, wat_nei (by omega), ef21, wat_nei (by omega)]; omega)⟩), trivial⟩, (by rw [ht]; exact hP9), hD9⟩, hS.F ht⟩) hS.2.2 dX12_readPawl_81
