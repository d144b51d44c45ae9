theorem dX12_readNose_0 : decode cX12_readNose 0 = .ok (.bipush 20, 2) := by decide +kernel
theorem dX12_readNose_2 : decode cX12_readNose 2 = .ok (.bipush 7, 2) := by decide +kernel
theorem dX12_readNose_4 : decode cX12_readNose 4 = .ok (.aload_n 0, 1) := by decide +kernel
theorem dX12_readNose_5 : decode cX12_readNose 5 = .ok (.getfield 34, 3) := by decide +kernel
theorem dX12_readNose_8 : decode cX12_readNose 8 = .ok (.iconst 5, 1) := by decide +kernel
theorem dX12_readNose_9 : decode cX12_readNose 9 = .ok (.iaload, 1) := by decide +kernel
theorem dX12_readNose_10 : decode cX12_readNose 10 = .ok (.imul, 1) := by decide +kernel
theorem dX12_readNose_11 : decode cX12_readNose 11 = .ok (.iadd, 1) := by decide +kernel
theorem dX12_readNose_12 : decode cX12_readNose 12 = .ok (.istore_n 1, 1) := by decide +kernel
theorem dX12_readNose_13 : decode cX12_readNose 13 = .ok (.aload_n 0, 1) := by decide +kernel
theorem dX12_readNose_14 : decode cX12_readNose 14 = .ok (.getfield 34, 3) := by decide +kernel
theorem dX12_readNose_17 : decode cX12_readNose 17 = .ok (.iload_n 1, 1) := by decide +kernel
theorem dX12_readNose_18 : decode cX12_readNose 18 = .ok (.iconst 0, 1) := by decide +kernel
theorem dX12_readNose_19 : decode cX12_readNose 19 = .ok (.iadd, 1) := by decide +kernel
theorem dX12_readNose_20 : decode cX12_readNose 20 = .ok (.aload_n 0, 1) := by decide +kernel
theorem dX12_readNose_21 : decode cX12_readNose 21 = .ok (.ldc 189, 2) := by decide +kernel
theorem dX12_readNose_23 : decode cX12_readNose 23 = .ok (.iconst 0, 1) := by decide +kernel
theorem dX12_readNose_24 : decode cX12_readNose 24 = .ok (.aload_n 0, 1) := by decide +kernel
theorem dX12_readNose_25 : decode cX12_readNose 25 = .ok (.getfield 34, 3) := by decide +kernel
theorem dX12_readNose_28 : decode cX12_readNose 28 = .ok (.iconst 4, 1) := by decide +kernel
theorem dX12_readNose_29 : decode cX12_readNose 29 = .ok (.iaload, 1) := by decide +kernel
theorem dX12_readNose_30 : decode cX12_readNose 30 = .ok (.iconst 1, 1) := by decide +kernel
theorem dX12_readNose_31 : decode cX12_readNose 31 = .ok (.isub, 1) := by decide +kernel
theorem dX12_readNose_32 : decode cX12_readNose 32 = .ok (.invokevirtual 181, 3) := by decide +kernel
theorem dX12_readNose_35 : decode cX12_readNose 35 = .ok (.iastore, 1) := by decide +kernel
theorem dX12_readNose_36 : decode cX12_readNose 36 = .ok (.aload_n 0, 1) := by decide +kernel
theorem dX12_readNose_37 : decode cX12_readNose 37 = .ok (.getfield 34, 3) := by decide +kernel
theorem dX12_readNose_40 : decode cX12_readNose 40 = .ok (.iload_n 1, 1) := by decide +kernel
theorem dX12_readNose_41 : decode cX12_readNose 41 = .ok (.iconst 1, 1) := by decide +kernel
theorem dX12_readNose_42 : decode cX12_readNose 42 = .ok (.iadd, 1) := by decide +kernel
theorem dX12_readNose_43 : decode cX12_readNose 43 = .ok (.aload_n 0, 1) := by decide +kernel
theorem dX12_readNose_44 : decode cX12_readNose 44 = .ok (.ldc 191, 2) := by decide +kernel
theorem dX12_readNose_46 : decode cX12_readNose 46 = .ok (.iconst 0, 1) := by decide +kernel
theorem dX12_readNose_47 : decode cX12_readNose 47 = .ok (.aload_n 0, 1) := by decide +kernel
theorem dX12_readNose_48 : decode cX12_readNose 48 = .ok (.getfield 34, 3) := by decide +kernel
theorem dX12_readNose_51 : decode cX12_readNose 51 = .ok (.iconst 1, 1) := by decide +kernel
theorem dX12_readNose_52 : decode cX12_readNose 52 = .ok (.iaload, 1) := by decide +kernel
theorem dX12_readNose_53 : decode cX12_readNose 53 = .ok (.iconst 1, 1) := by decide +kernel
theorem dX12_readNose_54 : decode cX12_readNose 54 = .ok (.isub, 1) := by decide +kernel
theorem dX12_readNose_55 : decode cX12_readNose 55 = .ok (.invokevirtual 181, 3) := by decide +kernel
theorem dX12_readNose_58 : decode cX12_readNose 58 = .ok (.iastore, 1) := by decide +kernel
theorem dX12_readNose_59 : decode cX12_readNose 59 = .ok (.aload_n 0, 1) := by decide +kernel
theorem dX12_readNose_60 : decode cX12_readNose 60 = .ok (.getfield 34, 3) := by decide +kernel
theorem dX12_readNose_63 : decode cX12_readNose 63 = .ok (.iload_n 1, 1) := by decide +kernel
theorem dX12_readNose_64 : decode cX12_readNose 64 = .ok (.iconst 2, 1) := by decide +kernel
theorem dX12_readNose_65 : decode cX12_readNose 65 = .ok (.iadd, 1) := by decide +kernel
theorem dX12_readNose_66 : decode cX12_readNose 66 = .ok (.aload_n 0, 1) := by decide +kernel
theorem dX12_readNose_67 : decode cX12_readNose 67 = .ok (.ldc 192, 2) := by decide +kernel
theorem dX12_readNose_69 : decode cX12_readNose 69 = .ok (.iconst 1, 1) := by decide +kernel
theorem dX12_readNose_70 : decode cX12_readNose 70 = .ok (.aload_n 0, 1) := by decide +kernel
theorem dX12_readNose_71 : decode cX12_readNose 71 = .ok (.getfield 34, 3) := by decide +kernel
theorem dX12_readNose_74 : decode cX12_readNose 74 = .ok (.iconst 1, 1) := by decide +kernel
theorem dX12_readNose_75 : decode cX12_readNose 75 = .ok (.iaload, 1) := by decide +kernel
theorem dX12_readNose_76 : decode cX12_readNose 76 = .ok (.invokevirtual 181, 3) := by decide +kernel
theorem dX12_readNose_79 : decode cX12_readNose 79 = .ok (.iastore, 1) := by decide +kernel
theorem dX12_readNose_80 : decode cX12_readNose 80 = .ok (.aload_n 0, 1) := by decide +kernel
theorem dX12_readNose_81 : decode cX12_readNose 81 = .ok (.getfield 34, 3) := by decide +kernel
theorem dX12_readNose_84 : decode cX12_readNose 84 = .ok (.iload_n 1, 1) := by decide +kernel
theorem dX12_readNose_85 : decode cX12_readNose 85 = .ok (.iconst 3, 1) := by decide +kernel
theorem dX12_readNose_86 : decode cX12_readNose 86 = .ok (.iadd, 1) := by decide +kernel
theorem dX12_readNose_87 : decode cX12_readNose 87 = .ok (.aload_n 0, 1) := by decide +kernel
theorem dX12_readNose_88 : decode cX12_readNose 88 = .ok (.ldc 194, 2) := by decide +kernel
theorem dX12_readNose_90 : decode cX12_readNose 90 = .ok (.iconst 1, 1) := by decide +kernel
theorem dX12_readNose_91 : decode cX12_readNose 91 = .ok (.bipush 60, 2) := by decide +kernel
theorem dX12_readNose_93 : decode cX12_readNose 93 = .ok (.invokevirtual 181, 3) := by decide +kernel
theorem dX12_readNose_96 : decode cX12_readNose 96 = .ok (.iastore, 1) := by decide +kernel
theorem dX12_readNose_97 : decode cX12_readNose 97 = .ok (.aload_n 0, 1) := by decide +kernel
theorem dX12_readNose_98 : decode cX12_readNose 98 = .ok (.getfield 34, 3) := by decide +kernel
theorem dX12_readNose_101 : decode cX12_readNose 101 = .ok (.iload_n 1, 1) := by decide +kernel
theorem dX12_readNose_102 : decode cX12_readNose 102 = .ok (.iconst 4, 1) := by decide +kernel
theorem dX12_readNose_103 : decode cX12_readNose 103 = .ok (.iadd, 1) := by decide +kernel
theorem dX12_readNose_104 : decode cX12_readNose 104 = .ok (.aload_n 0, 1) := by decide +kernel
theorem dX12_readNose_105 : decode cX12_readNose 105 = .ok (.ldc 196, 2) := by decide +kernel
theorem dX12_readNose_107 : decode cX12_readNose 107 = .ok (.iconst 1, 1) := by decide +kernel
theorem dX12_readNose_108 : decode cX12_readNose 108 = .ok (.bipush 60, 2) := by decide +kernel
theorem dX12_readNose_110 : decode cX12_readNose 110 = .ok (.invokevirtual 181, 3) := by decide +kernel
theorem dX12_readNose_113 : decode cX12_readNose 113 = .ok (.iastore, 1) := by decide +kernel
theorem dX12_readNose_114 : decode cX12_readNose 114 = .ok (.aload_n 0, 1) := by decide +kernel
theorem dX12_readNose_115 : decode cX12_readNose 115 = .ok (.getfield 34, 3) := by decide +kernel
theorem dX12_readNose_118 : decode cX12_readNose 118 = .ok (.iconst 5, 1) := by decide +kernel
theorem dX12_readNose_119 : decode cX12_readNose 119 = .ok (.dup2, 1) := by decide +kernel
theorem dX12_readNose_120 : decode cX12_readNose 120 = .ok (.iaload, 1) := by decide +kernel
theorem dX12_readNose_121 : decode cX12_readNose 121 = .ok (.iconst 1, 1) := by decide +kernel
theorem dX12_readNose_122 : decode cX12_readNose 122 = .ok (.iadd, 1) := by decide +kernel
theorem dX12_readNose_123 : decode cX12_readNose 123 = .ok (.iastore, 1) := by decide +kernel
theorem dX12_readNose_124 : decode cX12_readNose 124 = .ok (.return_, 1) := by decide +kernel
set_option maxHeartbeats 4000000 in
set_option maxRecDepth 100000 in
theorem s_X12_readNose (l : Launch) (dC : Nat → ClassId) (dI : Nat → Nat → Nat) (cI cZ cB cJ cM cG : ClassId) (a0 a1 a2 a3 a4 a5 a6 a7 a8 a9 a10 a11 a12 a13 a14 a15 a16 a17 a18 a19 a20 a21 a22 a23 a24 : Nat) (i0 i1 i2 i3 i4 i5 i6 i7 i8 i9 i10 i11 i12 i13 i14 i15 i16 : Int32) (j0 : Int64) (xF3 xF5 : Nat → Int32) (sz : Nat) (p_0 : (0 : Int) ≤ i1.toInt ∧ i1.toInt ≤ 1600) (p_1 : (0 : Int) ≤ i2.toInt ∧ i2.toInt ≤ 1600) (p_2 : (0 : Int) ≤ i3.toInt ∧ i3.toInt ≤ 1600) (p_3 : (0 : Int) ≤ i4.toInt ∧ i4.toInt ≤ 1600) (p_4 : (0 : Int) ≤ i5.toInt ∧ i5.toInt ≤ 6) (p_5 : (0 : Int) ≤ i7.toInt ∧ i7.toInt ≤ 3) (p_6 : (0 : Int) ≤ i11.toInt ∧ i11.toInt ≤ 59) (p_7 : WI 0 xF5) (p_8 : 1 ≤ wat xF5 1) (p_9 : wat xF5 5 ≤ 23) (p_10 : i4.toInt ≤ i3.toInt) (p_11 : (2 ≤ i5.toInt → i4.toInt + 1 ≤ i3.toInt)) : Met l yX12_readNose (kw yX12_readNose cX12_readNose 2 none) ({ frames := 8, cells := 0, slots := 0, locals := 174 } : Room) (va_Pc [.ref a0] (kPreX dC dI [(cI, .int), (cZ, .boolean), (cB, .byte), (cJ, .long), (cM, .object RX2), (cG, .array .int)] [(a0, .inr (12, [.int i0, .ref a1, .ref a2, .ref a3, .ref a4, .int i1, .ref a5, .int i2, .int i3, .int i4, .int i5, .int i6, .int i7, .int i8, .ref a6, .ref a7, .ref a8, .ref a9, .ref a10, .ref a11, .ref a12, .int i9, .ref a13, .int i10, .ref a14, .ref a15, .int i11, .ref a16, .ref a17, .ref a18, .ref a19, .int i12, .int i13, .int i14, .int i15, .int i16, .ref a20, .long j0, .ref a21, .ref a22, .ref a23, .ref a24])), (a4, .inl (cB, 1600, .inl xF3)), (a6, .inl (cI, 544, .inl xF5))] sz NT)) (va_Qv (fun (u9 : (Nat → Int32) × (Nat → Nat → Int32) × (Nat → Nat → Int64)) => ((0 : Int) ≤ (u9.1 0).toInt ∧ (u9.1 0).toInt ≤ 1600) ∧ ((0 : Int) ≤ (u9.1 1).toInt ∧ (u9.1 1).toInt ≤ 1600) ∧ ((0 : Int) ≤ (u9.1 2).toInt ∧ (u9.1 2).toInt ≤ 6) ∧ ((0 : Int) ≤ (u9.1 4).toInt ∧ (u9.1 4).toInt ≤ 3) ∧ ((u9.1 1).toInt ≤ (u9.1 0).toInt) ∧ ((2 ≤ (u9.1 2).toInt → (u9.1 1).toInt + 1 ≤ (u9.1 0).toInt)) ∧ (i4.toInt ≤ (u9.1 1).toInt) ∧ (FG (u9.1 4).toInt (u9.2.1 0)) ∧ True) (fun u9 t => va_P (dC, dI) vwCl [(a0, .inr (12, [.int i0, .ref a1, .ref a2, .ref a3, .ref a4, .int i1, .ref a5, .int i2, .int (u9.1 0), .int (u9.1 1), .int (u9.1 2), .int (u9.1 3), .int (u9.1 4), .int (u9.1 5), .ref a6, .ref a7, .ref a8, .ref a9, .ref a10, .ref a11, .ref a12, .int i9, .ref a13, .int i10, .ref a14, .ref a15, .int i11, .ref a16, .ref a17, .ref a18, .ref a19, .int i12, .int i13, .int i14, .int i15, .int i16, .ref a20, .long j0, .ref a21, .ref a22, .ref a23, .ref a24])), (a4, .inl (cB, 1600, .inl xF3)), (a6, .inl (cI, 544, .inl (u9.2.1 0)))] t.heap ∧ va_D (va_A [(a0, .inr (12, [.int i0, .ref a1, .ref a2, .ref a3, .ref a4, .int i1, .ref a5, .int i2, .int i3, .int i4, .int i5, .int i6, .int i7, .int i8, .ref a6, .ref a7, .ref a8, .ref a9, .ref a10, .ref a11, .ref a12, .int i9, .ref a13, .int i10, .ref a14, .ref a15, .int i11, .ref a16, .ref a17, .ref a18, .ref a19, .int i12, .int i13, .int i14, .int i15, .int i16, .ref a20, .long j0, .ref a21, .ref a22, .ref a23, .ref a24])), (a4, .inl (cB, 1600, .inl xF3)), (a6, .inl (cI, 544, .inl xF5))] sz) [(a0, .inr (12, [.int i0, .ref a1, .ref a2, .ref a3, .ref a4, .int i1, .ref a5, .int i2, .int (u9.1 0), .int (u9.1 1), .int (u9.1 2), .int (u9.1 3), .int (u9.1 4), .int (u9.1 5), .ref a6, .ref a7, .ref a8, .ref a9, .ref a10, .ref a11, .ref a12, .int i9, .ref a13, .int i10, .ref a14, .ref a15, .int i11, .ref a16, .ref a17, .ref a18, .ref a19, .int i12, .int i13, .int i14, .int i15, .int i16, .ref a20, .long j0, .ref a21, .ref a22, .ref a23, .ref a24])), (a4, .inl (cB, 1600, .inl xF3)), (a6, .inl (cI, 544, .inl (u9.2.1 0)))]) (va_A [(a0, .inr (12, [.int i0, .ref a1, .ref a2, .ref a3, .ref a4, .int i1, .ref a5, .int i2, .int i3, .int i4, .int i5, .int i6, .int i7, .int i8, .ref a6, .ref a7, .ref a8, .ref a9, .ref a10, .ref a11, .ref a12, .int i9, .ref a13, .int i10, .ref a14, .ref a15, .int i11, .ref a16, .ref a17, .ref a18, .ref a19, .int i12, .int i13, .int i14, .int i15, .int i16, .ref a20, .long j0, .ref a21, .ref a22, .ref a23, .ref a24])), (a4, .inl (cB, 1600, .inl xF3)), (a6, .inl (cI, 544, .inl xF5))] sz)) 0 0 (va_A [(a0, .inr (12, [.int i0, .ref a1, .ref a2, .ref a3, .ref a4, .int i1, .ref a5, .int i2, .int i3, .int i4, .int i5, .int i6, .int i7, .int i8, .ref a6, .ref a7, .ref a8, .ref a9, .ref a10, .ref a11, .ref a12, .int i9, .ref a13, .int i10, .ref a14, .ref a15, .int i11, .ref a16, .ref a17, .ref a18, .ref a19, .int i12, .int i13, .int i14, .int i15, .int i16, .ref a20, .long j0, .ref a21, .ref a22, .ref a23, .ref a24])), (a4, .inl (cB, 1600, .inl xF3)), (a6, .inl (cI, 544, .inl xF5))] sz) := by
  refine kEnterX (by decide) (Nat.le_of_ble_eq_true rfl) ?_
  intro p e s m below meth c ls hx hb hr hml hown hlocks hin hwd hsz hP hK hD hN hl
  subst hsz
  generalize hAe : va_A [(a0, .inr (12, [.int i0, .ref a1, .ref a2, .ref a3, .ref a4, .int i1, .ref a5, .int i2, .int i3, .int i4, .int i5, .int i6, .int i7, .int i8, .ref a6, .ref a7, .ref a8, .ref a9, .ref a10, .ref a11, .ref a12, .int i9, .ref a13, .int i10, .ref a14, .ref a15, .int i11, .ref a16, .ref a17, .ref a18, .ref a19, .int i12, .int i13, .int i14, .int i15, .int i16, .ref a20, .long j0, .ref a21, .ref a22, .ref a23, .ref a24])), (a4, .inl (cB, 1600, .inl xF3)), (a6, .inl (cI, 544, .inl xF5))] s.heap.size = A at hD hN ⊢
  have hA : ∀ q : Nat, s.heap.size ≤ q → A q := fun q h => by rw [← hAe]; exact Or.inr h
  have hS : va_S A s.heap s.heap [] := va_S.rf
  have hl : lv_has ls 2 [(0, .ref a0)] := hl
  obtain ⟨Q, hQ⟩ : ∃ Q, Q = MQ below (va_Qv (fun (u9 : (Nat → Int32) × (Nat → Nat → Int32) × (Nat → Nat → Int64)) => ((0 : Int) ≤ (u9.1 0).toInt ∧ (u9.1 0).toInt ≤ 1600) ∧ ((0 : Int) ≤ (u9.1 1).toInt ∧ (u9.1 1).toInt ≤ 1600) ∧ ((0 : Int) ≤ (u9.1 2).toInt ∧ (u9.1 2).toInt ≤ 6) ∧ ((0 : Int) ≤ (u9.1 4).toInt ∧ (u9.1 4).toInt ≤ 3) ∧ ((u9.1 1).toInt ≤ (u9.1 0).toInt) ∧ ((2 ≤ (u9.1 2).toInt → (u9.1 1).toInt + 1 ≤ (u9.1 0).toInt)) ∧ (i4.toInt ≤ (u9.1 1).toInt) ∧ (FG (u9.1 4).toInt (u9.2.1 0)) ∧ True) (fun u9 t => va_P (dC, dI) vwCl [(a0, .inr (12, [.int i0, .ref a1, .ref a2, .ref a3, .ref a4, .int i1, .ref a5, .int i2, .int (u9.1 0), .int (u9.1 1), .int (u9.1 2), .int (u9.1 3), .int (u9.1 4), .int (u9.1 5), .ref a6, .ref a7, .ref a8, .ref a9, .ref a10, .ref a11, .ref a12, .int i9, .ref a13, .int i10, .ref a14, .ref a15, .int i11, .ref a16, .ref a17, .ref a18, .ref a19, .int i12, .int i13, .int i14, .int i15, .int i16, .ref a20, .long j0, .ref a21, .ref a22, .ref a23, .ref a24])), (a4, .inl (cB, 1600, .inl xF3)), (a6, .inl (cI, 544, .inl (u9.2.1 0)))] t.heap ∧ va_D A [(a0, .inr (12, [.int i0, .ref a1, .ref a2, .ref a3, .ref a4, .int i1, .ref a5, .int i2, .int (u9.1 0), .int (u9.1 1), .int (u9.1 2), .int (u9.1 3), .int (u9.1 4), .int (u9.1 5), .ref a6, .ref a7, .ref a8, .ref a9, .ref a10, .ref a11, .ref a12, .int i9, .ref a13, .int i10, .ref a14, .ref a15, .int i11, .ref a16, .ref a17, .ref a18, .ref a19, .int i12, .int i13, .int i14, .int i15, .int i16, .ref a20, .long j0, .ref a21, .ref a22, .ref a23, .ref a24])), (a4, .inl (cB, 1600, .inl xF3)), (a6, .inl (cI, 544, .inl (u9.2.1 0)))]) A) ([.ref a0] : List Value).toArray s 0 0 A := ⟨_, rfl⟩
  rw [← hQ]
  have k0 : (0 : Int32).toInt = 0 := by decide
  have k1 : (1 : Int32).toInt = 1 := by decide
  have k2 : (2 : Int32).toInt = 2 := by decide
  have k3 : (3 : Int32).toInt = 3 := by decide
  have k4 : (4 : Int32).toInt = 4 := by decide
  have k5 : (5 : Int32).toInt = 5 := by decide
  have k7 : (7 : Int32).toInt = 7 := by decide
  have k20 : (20 : Int32).toInt = 20 := by decide
  have k60 : (60 : Int32).toInt = 60 := by decide
  obtain ⟨sa189, sav189, sn189, sf189, hsn189, hR189, hks189⟩ := hN.2 _ rf_RX12_189
  have hN189 : NS sa189 sav189 sn189 sf189 A s := ⟨hN.1, hsn189.1, hks189⟩
  have hsl189 : sn189 = 2 := hsn189.2
  obtain ⟨sa191, sav191, sn191, sf191, hsn191, hR191, hks191⟩ := hN.2 _ rf_RX12_191
  have hN191 : NS sa191 sav191 sn191 sf191 A s := ⟨hN.1, hsn191.1, hks191⟩
  have hsl191 : sn191 = 2 := hsn191.2
  obtain ⟨sa192, sav192, sn192, sf192, hsn192, hR192, hks192⟩ := hN.2 _ rf_RX12_192
  have hN192 : NS sa192 sav192 sn192 sf192 A s := ⟨hN.1, hsn192.1, hks192⟩
  have hsl192 : sn192 = 4 := hsn192.2
  obtain ⟨sa194, sav194, sn194, sf194, hsn194, hR194, hks194⟩ := hN.2 _ rf_RX12_194
  have hN194 : NS sa194 sav194 sn194 sf194 A s := ⟨hN.1, hsn194.1, hks194⟩
  have hsl194 : sn194 = 4 := hsn194.2
  obtain ⟨sa196, sav196, sn196, sf196, hsn196, hR196, hks196⟩ := hN.2 _ rf_RX12_196
  have hN196 : NS sa196 sav196 sn196 sf196 A s := ⟨hN.1, hsn196.1, hks196⟩
  have hsl196 : sn196 = 5 := hsn196.2
  refine lv_bipush (v := 20) hx hb dX12_readNose_0 (by decide) ?_
  refine lv_bipush (v := 7) hx hb dX12_readNose_2 (by decide) ?_
  refine lv_aload_n hx hb dX12_readNose_4 rfl (lv_at hl 0 rfl) ?_
  refine va_get (D := (dC, dI)) (ci := 12) (v := .ref a6) (C := RX12) (T := TX12) (N := 42) hx hb hwd inlX12 hown hK hP 0 rfl rfl 14 (by decide) (hwd _ kr49_15) (fun _ h9 => h9) rfl dX12_readNose_5 ?_
  refine lv_iconst (v := 5) hx hb dX12_readNose_8 (by decide) ?_
  have h1 : vp_in (5 : Int32) 544 := (vin (by decide))
  refine va_iald hx hb hK hP 2 0 rfl rfl h1 dX12_readNose_9 ?_
  refine lv_topi (fun x2 ex2 => ?_)
  have ix2 := wat_lit (k := 5) ex2 (by decide)
  have wh3 : whd 0 xF5 := p_7.1
  unfold whd at wh3
  refine lv_imul hx hb dX12_readNose_10 ?_
  refine lv_topi (fun x4 ex4 => ?_)
  have tx4 := ia_mull (a := (7 : Int32)) (b := x2) 7 (by decide) (by omega) (by omega)
  rw [← ex4] at tx4
  refine lv_iadd hx hb dX12_readNose_11 ?_
  refine lv_topi (fun x5 ex5 => ?_)
  have tx5 := ia_add (a := (20 : Int32)) (b := x4) (by omega) (by omega)
  rw [← ex5] at tx5
  refine lv_istore_n (lv' := [(1, .int x5), (0, .ref a0)]) hx hb dX12_readNose_12 rfl hl (by decide) rfl (fun ls hl => ?_)
  refine lv_aload_n hx hb dX12_readNose_13 rfl (lv_at hl 1 rfl) ?_
  refine va_get (D := (dC, dI)) (ci := 12) (v := .ref a6) (C := RX12) (T := TX12) (N := 42) hx hb hwd inlX12 hown hK hP 0 rfl rfl 14 (by decide) (hwd _ kr49_15) (fun _ h9 => h9) rfl dX12_readNose_14 ?_
  refine lv_iload_n hx hb dX12_readNose_17 rfl (lv_at hl 0 rfl) ?_
  refine lv_iconst (v := 0) hx hb dX12_readNose_18 (by decide) ?_
  refine lv_iadd hx hb dX12_readNose_19 ?_
  refine lv_topi (fun x6 ex6 => ?_)
  have tx6 := ia_add (a := x5) (b := (0 : Int32)) (by omega) (by omega)
  rw [← ex6] at tx6
  refine lv_aload_n hx hb dX12_readNose_20 rfl (lv_at hl 1 rfl) ?_
  refine va_ldcS hx hb hown hR189 dX12_readNose_21 ?_
  refine lv_iconst (v := 0) hx hb dX12_readNose_23 (by decide) ?_
  refine lv_aload_n hx hb dX12_readNose_24 rfl (lv_at hl 1 rfl) ?_
  refine va_get (D := (dC, dI)) (ci := 12) (v := .ref a6) (C := RX12) (T := TX12) (N := 42) hx hb hwd inlX12 hown hK hP 0 rfl rfl 14 (by decide) (hwd _ kr49_15) (fun _ h9 => h9) rfl dX12_readNose_25 ?_
  refine lv_iconst (v := 4) hx hb dX12_readNose_28 (by decide) ?_
  have h7 : vp_in (4 : Int32) 544 := (vin (by decide))
  refine va_iald hx hb hK hP 2 0 rfl rfl h7 dX12_readNose_29 ?_
  refine lv_topi (fun x8 ex8 => ?_)
  have ix8 := wat_lit (k := 4) ex8 (by decide)
  refine lv_iconst (v := 1) hx hb dX12_readNose_30 (by decide) ?_
  refine lv_isub hx hb dX12_readNose_31 ?_
  refine lv_topi (fun x9 ex9 => ?_)
  have tx9 := ia_sub (a := x8) (b := (1 : Int32)) (by omega) (by omega)
  rw [← ex9] at tx9
  have hPc := hP.sub (ws' := [(a0, .inr (12, [.int i0, .ref a1, .ref a2, .ref a3, .ref a4, .int i1, .ref a5, .int i2, .int i3, .int i4, .int i5, .int i6, .int i7, .int i8, .ref a6, .ref a7, .ref a8, .ref a9, .ref a10, .ref a11, .ref a12, .int i9, .ref a13, .int i10, .ref a14, .ref a15, .int i11, .ref a16, .ref a17, .ref a18, .ref a19, .int i12, .int i13, .int i14, .int i15, .int i16, .ref a20, .long j0, .ref a21, .ref a22, .ref a23, .ref a24])), (a4, .inl (cB, 1600, .inl xF3))]) [0, 1] rfl
  have hDc := hD.sub (ws' := [(a0, .inr (12, [.int i0, .ref a1, .ref a2, .ref a3, .ref a4, .int i1, .ref a5, .int i2, .int i3, .int i4, .int i5, .int i6, .int i7, .int i8, .ref a6, .ref a7, .ref a8, .ref a9, .ref a10, .ref a11, .ref a12, .int i9, .ref a13, .int i10, .ref a14, .ref a15, .int i11, .ref a16, .ref a17, .ref a18, .ref a19, .int i12, .int i13, .int i14, .int i15, .int i16, .ref a20, .long j0, .ref a21, .ref a22, .ref a23, .ref a24])), (a4, .inl (cB, 1600, .inl xF3))]) [0, 1] (by decide) rfl
  have hFc := va_free (wc := [(a0, .inr (12, [.int i0, .ref a1, .ref a2, .ref a3, .ref a4, .int i1, .ref a5, .int i2, .int i3, .int i4, .int i5, .int i6, .int i7, .int i8, .ref a6, .ref a7, .ref a8, .ref a9, .ref a10, .ref a11, .ref a12, .int i9, .ref a13, .int i10, .ref a14, .ref a15, .int i11, .ref a16, .ref a17, .ref a18, .ref a19, .int i12, .int i13, .int i14, .int i15, .int i16, .ref a20, .long j0, .ref a21, .ref a22, .ref a23, .ref a24])), (a4, .inl (cB, 1600, .inl xF3))]) hD hS hA [0, 1] rfl
  refine va_calli (va_runV (As := [.ref sa189, .int 0, .int x9]) (rest := [.int x6, .ref a6]) ⟨hx, hb, hml, hown, hwd⟩ (s_X12_told l dC dI cI cZ cB cJ cM cG a0 a1 a2 a3 a4 a5 a6 a7 a8 a9 a10 a11 a12 a13 a14 a15 a16 a17 a18 a19 a20 a21 a22 a23 a24 i0 i1 i2 i3 i4 i5 i6 i7 i8 i9 i10 i11 i12 i13 i14 i15 i16 j0 xF3 0 x9 sa189 sav189 sn189 sf189 s.heap.size (show (0 : Int) ≤ i1.toInt ∧ i1.toInt ≤ 1600 from p_0) (show (0 : Int) ≤ i2.toInt ∧ i2.toInt ≤ 1600 from p_1) (show (0 : Int) ≤ i3.toInt ∧ i3.toInt ≤ 1600 from p_2) (show (0 : Int) ≤ i4.toInt ∧ i4.toInt ≤ 1600 from p_3) (show (0 : Int) ≤ i5.toInt ∧ i5.toInt ≤ 6 from p_4) (show (0 : Int) ≤ i7.toInt ∧ i7.toInt ≤ 3 from p_5) (show (0 : Int) ≤ i11.toInt ∧ i11.toInt ≤ 59 from p_6) (show (0 : Int) ≤ (0 : Int32).toInt ∧ (0 : Int32).toInt ≤ 4 from ⟨by omega, by omega⟩) (show (-1 : Int) ≤ x9.toInt ∧ x9.toInt ≤ 999 from ⟨by omega, by omega⟩) p_10 p_11) (cwV 3 hwd (gV kr53_10 kr53_11 kr2_23 kr5_23 kr53_12) rfl rfl rfl (by decide +kernel) ⟨Nat.le_of_ble_eq_true rfl, Nat.le_of_ble_eq_true rfl⟩) (kPreVX hPc hK hDc (NS_st _ _ _ _) hN189 hS hFc (ci := 12) (q0 := 0) rfl rfl) rfl rfl hl.1 rfl (lv_room (Nat.le_of_ble_eq_true rfl)) dX12_readNose_32 ⟨Nat.le_of_ble_eq_true rfl, Nat.le_of_ble_eq_true rfl⟩) hS (fun q _ h => hFc q h) hFc (fun r10 u11 t H1 locs ht9 hvm hw hB hz1 hk1 hS => ?_)
  obtain ⟨u12, U12, V12⟩ := u11
  obtain ⟨hw13, hw14, hw15, hw16, hw17, hw18, hw19, hw20, hw21, -⟩ := hw
  replace hw13 : (r10.toInt = 0 ∨ ((0 : Int32).toInt ≤ r10.toInt ∧ r10.toInt ≤ x9.toInt)) := hw13
  replace hw14 : (0 : Int) ≤ (u12 0).toInt ∧ (u12 0).toInt ≤ 1600 := hw14
  replace hw15 : (0 : Int) ≤ (u12 1).toInt ∧ (u12 1).toInt ≤ 1600 := hw15
  replace hw16 : (0 : Int) ≤ (u12 2).toInt ∧ (u12 2).toInt ≤ 6 := hw16
  replace hw17 : (0 : Int) ≤ (u12 4).toInt ∧ (u12 4).toInt ≤ 3 := hw17
  replace hw18 : (u12 1).toInt ≤ (u12 0).toInt := hw18
  replace hw19 : (2 ≤ (u12 2).toInt → (u12 1).toInt + 1 ≤ (u12 0).toInt) := hw19
  replace hw20 : i4.toInt ≤ (u12 1).toInt := hw20
  replace hw21 : ((u12 4).toInt = 0 → i7.toInt = 0 ∧ (0 : Int32).toInt ≤ r10.toInt ∧ r10.toInt ≤ x9.toInt ∧ i4.toInt + (sn189 : Int) + 1 ≤ (u12 1).toInt) := hw21
  obtain ⟨hP1, hD1⟩ := hB
  rw [ht9] at hP1
  obtain ⟨hP, hD⟩ := va_join (wr := [(a6, .inl (cI, 544, .inl xF5))]) (w1 := [(a0, .inr (12, [.int i0, .ref a1, .ref a2, .ref a3, .ref a4, .int i1, .ref a5, .int i2, .int (u12 0), .int (u12 1), .int (u12 2), .int (u12 3), .int (u12 4), .int (u12 5), .ref a6, .ref a7, .ref a8, .ref a9, .ref a10, .ref a11, .ref a12, .int i9, .ref a13, .int i10, .ref a14, .ref a15, .int i11, .ref a16, .ref a17, .ref a18, .ref a19, .int i12, .int i13, .int i14, .int i15, .int i16, .ref a20, .long j0, .ref a21, .ref a22, .ref a23, .ref a24])), (a4, .inl (cB, 1600, .inl xF3))]) hP hD [0, 1] [2] rfl rfl (by decide) (by decide) hk1 hFc hP1 hD1
  generalize H1 = H at hP hS ⊢
  replace hP : va_P (dC, dI) vwCl [(a6, .inl (cI, 544, .inl xF5)), (a0, .inr (12, [.int i0, .ref a1, .ref a2, .ref a3, .ref a4, .int i1, .ref a5, .int i2, .int (u12 0), .int (u12 1), .int (u12 2), .int (u12 3), .int (u12 4), .int (u12 5), .ref a6, .ref a7, .ref a8, .ref a9, .ref a10, .ref a11, .ref a12, .int i9, .ref a13, .int i10, .ref a14, .ref a15, .int i11, .ref a16, .ref a17, .ref a18, .ref a19, .int i12, .int i13, .int i14, .int i15, .int i16, .ref a20, .long j0, .ref a21, .ref a22, .ref a23, .ref a24])), (a4, .inl (cB, 1600, .inl xF3))] H := hP
  replace hD : va_D A [(a6, .inl (cI, 544, .inl xF5)), (a0, .inr (12, [.int i0, .ref a1, .ref a2, .ref a3, .ref a4, .int i1, .ref a5, .int i2, .int (u12 0), .int (u12 1), .int (u12 2), .int (u12 3), .int (u12 4), .int (u12 5), .ref a6, .ref a7, .ref a8, .ref a9, .ref a10, .ref a11, .ref a12, .int i9, .ref a13, .int i10, .ref a14, .ref a15, .int i11, .ref a16, .ref a17, .ref a18, .ref a19, .int i12, .int i13, .int i14, .int i15, .int i16, .ref a20, .long j0, .ref a21, .ref a22, .ref a23, .ref a24])), (a4, .inl (cB, 1600, .inl xF3))] := hD
  refine va_iast hx hb hK hP hD hS 0 0 rfl rfl (vp_of (by omega) (by omega)) dX12_readNose_35 (fun H locs hP hD hS => ?_)
  obtain ⟨f22, ef22⟩ : ∃ f, f = upd xF5 x6.toNatClampNeg r10 := ⟨_, rfl⟩
  have df22 : WI 0 f22 := by rw [ef22]; exact WI_nose p_7 (by omega) (by omega) (fun h9 => by omega)
  replace hP : va_P (dC, dI) vwCl [(a6, .inl (cI, 544, .inl f22)), (a0, .inr (12, [.int i0, .ref a1, .ref a2, .ref a3, .ref a4, .int i1, .ref a5, .int i2, .int (u12 0), .int (u12 1), .int (u12 2), .int (u12 3), .int (u12 4), .int (u12 5), .ref a6, .ref a7, .ref a8, .ref a9, .ref a10, .ref a11, .ref a12, .int i9, .ref a13, .int i10, .ref a14, .ref a15, .int i11, .ref a16, .ref a17, .ref a18, .ref a19, .int i12, .int i13, .int i14, .int i15, .int i16, .ref a20, .long j0, .ref a21, .ref a22, .ref a23, .ref a24])), (a4, .inl (cB, 1600, .inl xF3))] H := by rw [ef22]; exact hP
  replace hD : va_D A [(a6, .inl (cI, 544, .inl f22)), (a0, .inr (12, [.int i0, .ref a1, .ref a2, .ref a3, .ref a4, .int i1, .ref a5, .int i2, .int (u12 0), .int (u12 1), .int (u12 2), .int (u12 3), .int (u12 4), .int (u12 5), .ref a6, .ref a7, .ref a8, .ref a9, .ref a10, .ref a11, .ref a12, .int i9, .ref a13, .int i10, .ref a14, .ref a15, .int i11, .ref a16, .ref a17, .ref a18, .ref a19, .int i12, .int i13, .int i14, .int i15, .int i16, .ref a20, .long j0, .ref a21, .ref a22, .ref a23, .ref a24])), (a4, .inl (cB, 1600, .inl xF3))] := by rw [ef22]; exact hD
  refine lv_aload_n hx hb dX12_readNose_36 rfl (lv_at hl 1 rfl) ?_
  refine va_get (D := (dC, dI)) (ci := 12) (v := .ref a6) (C := RX12) (T := TX12) (N := 42) hx hb hwd inlX12 hown hK hP 1 rfl rfl 14 (by decide) (hwd _ kr49_15) (fun _ h9 => h9) rfl dX12_readNose_37 ?_
  refine lv_iload_n hx hb dX12_readNose_40 rfl (lv_at hl 0 rfl) ?_
  refine lv_iconst (v := 1) hx hb dX12_readNose_41 (by decide) ?_
  refine lv_iadd hx hb dX12_readNose_42 ?_
  refine lv_topi (fun x23 ex23 => ?_)
  have tx23 := ia_add (a := x5) (b := (1 : Int32)) (by omega) (by omega)
  rw [← ex23] at tx23
  refine lv_aload_n hx hb dX12_readNose_43 rfl (lv_at hl 1 rfl) ?_
  refine va_ldcS hx hb hown hR191 dX12_readNose_44 ?_
  refine lv_iconst (v := 0) hx hb dX12_readNose_46 (by decide) ?_
  refine lv_aload_n hx hb dX12_readNose_47 rfl (lv_at hl 1 rfl) ?_
  refine va_get (D := (dC, dI)) (ci := 12) (v := .ref a6) (C := RX12) (T := TX12) (N := 42) hx hb hwd inlX12 hown hK hP 1 rfl rfl 14 (by decide) (hwd _ kr49_15) (fun _ h9 => h9) rfl dX12_readNose_48 ?_
  refine lv_iconst (v := 1) hx hb dX12_readNose_51 (by decide) ?_
  have h24 : vp_in (1 : Int32) 544 := (vin (by decide))
  refine va_iald hx hb hK hP 0 0 rfl rfl h24 dX12_readNose_52 ?_
  refine lv_topi (fun x25 ex25 => ?_)
  have ix25 := wat_lit (k := 1) ex25 (by decide)
  have wh26 : whd 0 f22 := df22.1
  unfold whd at wh26
  refine lv_iconst (v := 1) hx hb dX12_readNose_53 (by decide) ?_
  refine lv_isub hx hb dX12_readNose_54 ?_
  refine lv_topi (fun x27 ex27 => ?_)
  have tx27 := ia_sub (a := x25) (b := (1 : Int32)) (by omega) (by omega)
  rw [← ex27] at tx27
  have hPc := hP.sub (ws' := [(a0, .inr (12, [.int i0, .ref a1, .ref a2, .ref a3, .ref a4, .int i1, .ref a5, .int i2, .int (u12 0), .int (u12 1), .int (u12 2), .int (u12 3), .int (u12 4), .int (u12 5), .ref a6, .ref a7, .ref a8, .ref a9, .ref a10, .ref a11, .ref a12, .int i9, .ref a13, .int i10, .ref a14, .ref a15, .int i11, .ref a16, .ref a17, .ref a18, .ref a19, .int i12, .int i13, .int i14, .int i15, .int i16, .ref a20, .long j0, .ref a21, .ref a22, .ref a23, .ref a24])), (a4, .inl (cB, 1600, .inl xF3))]) [1, 2] rfl
  have hDc := hD.sub (ws' := [(a0, .inr (12, [.int i0, .ref a1, .ref a2, .ref a3, .ref a4, .int i1, .ref a5, .int i2, .int (u12 0), .int (u12 1), .int (u12 2), .int (u12 3), .int (u12 4), .int (u12 5), .ref a6, .ref a7, .ref a8, .ref a9, .ref a10, .ref a11, .ref a12, .int i9, .ref a13, .int i10, .ref a14, .ref a15, .int i11, .ref a16, .ref a17, .ref a18, .ref a19, .int i12, .int i13, .int i14, .int i15, .int i16, .ref a20, .long j0, .ref a21, .ref a22, .ref a23, .ref a24])), (a4, .inl (cB, 1600, .inl xF3))]) [1, 2] (by decide) rfl
  have hFc := va_free (wc := [(a0, .inr (12, [.int i0, .ref a1, .ref a2, .ref a3, .ref a4, .int i1, .ref a5, .int i2, .int (u12 0), .int (u12 1), .int (u12 2), .int (u12 3), .int (u12 4), .int (u12 5), .ref a6, .ref a7, .ref a8, .ref a9, .ref a10, .ref a11, .ref a12, .int i9, .ref a13, .int i10, .ref a14, .ref a15, .int i11, .ref a16, .ref a17, .ref a18, .ref a19, .int i12, .int i13, .int i14, .int i15, .int i16, .ref a20, .long j0, .ref a21, .ref a22, .ref a23, .ref a24])), (a4, .inl (cB, 1600, .inl xF3))]) hD hS hA [1, 2] rfl
  refine va_calli (va_runV (As := [.ref sa191, .int 0, .int x27]) (rest := [.int x23, .ref a6]) ⟨hx, hb, hml, hown, hwd⟩ (s_X12_told l dC dI cI cZ cB cJ cM cG a0 a1 a2 a3 a4 a5 a6 a7 a8 a9 a10 a11 a12 a13 a14 a15 a16 a17 a18 a19 a20 a21 a22 a23 a24 i0 i1 i2 (u12 0) (u12 1) (u12 2) (u12 3) (u12 4) (u12 5) i9 i10 i11 i12 i13 i14 i15 i16 j0 xF3 0 x27 sa191 sav191 sn191 sf191 H.size (show (0 : Int) ≤ i1.toInt ∧ i1.toInt ≤ 1600 from p_0) (show (0 : Int) ≤ i2.toInt ∧ i2.toInt ≤ 1600 from p_1) (show (0 : Int) ≤ (u12 0).toInt ∧ (u12 0).toInt ≤ 1600 from hw14) (show (0 : Int) ≤ (u12 1).toInt ∧ (u12 1).toInt ≤ 1600 from hw15) (show (0 : Int) ≤ (u12 2).toInt ∧ (u12 2).toInt ≤ 6 from hw16) (show (0 : Int) ≤ (u12 4).toInt ∧ (u12 4).toInt ≤ 3 from hw17) (show (0 : Int) ≤ i11.toInt ∧ i11.toInt ≤ 59 from p_6) (show (0 : Int) ≤ (0 : Int32).toInt ∧ (0 : Int32).toInt ≤ 4 from ⟨by omega, by omega⟩) (show (-1 : Int) ≤ x27.toInt ∧ x27.toInt ≤ 999 from ⟨by omega, by omega⟩) hw18 hw19) (cwV 3 hwd (gV kr53_10 kr53_11 kr2_23 kr5_23 kr53_12) rfl rfl rfl (by decide +kernel) ⟨Nat.le_of_ble_eq_true rfl, Nat.le_of_ble_eq_true rfl⟩) (kPreVX hPc hK hDc (NS_st _ _ _ _) hN191 hS hFc (ci := 12) (q0 := 0) rfl rfl) rfl rfl hl.1 rfl (lv_room (Nat.le_of_ble_eq_true rfl)) dX12_readNose_55 ⟨Nat.le_of_ble_eq_true rfl, Nat.le_of_ble_eq_true rfl⟩) hS (fun q _ h => hFc q h) hFc (fun r28 u29 t H1 locs ht9 hvm hw hB hz1 hk1 hS => ?_)
  obtain ⟨u30, U30, V30⟩ := u29
  obtain ⟨hw31, hw32, hw33, hw34, hw35, hw36, hw37, hw38, hw39, -⟩ := hw
  replace hw31 : (r28.toInt = 0 ∨ ((0 : Int32).toInt ≤ r28.toInt ∧ r28.toInt ≤ x27.toInt)) := hw31
  replace hw32 : (0 : Int) ≤ (u30 0).toInt ∧ (u30 0).toInt ≤ 1600 := hw32
  replace hw33 : (0 : Int) ≤ (u30 1).toInt ∧ (u30 1).toInt ≤ 1600 := hw33
  replace hw34 : (0 : Int) ≤ (u30 2).toInt ∧ (u30 2).toInt ≤ 6 := hw34
  replace hw35 : (0 : Int) ≤ (u30 4).toInt ∧ (u30 4).toInt ≤ 3 := hw35
  replace hw36 : (u30 1).toInt ≤ (u30 0).toInt := hw36
  replace hw37 : (2 ≤ (u30 2).toInt → (u30 1).toInt + 1 ≤ (u30 0).toInt) := hw37
  replace hw38 : (u12 1).toInt ≤ (u30 1).toInt := hw38
  replace hw39 : ((u30 4).toInt = 0 → (u12 4).toInt = 0 ∧ (0 : Int32).toInt ≤ r28.toInt ∧ r28.toInt ≤ x27.toInt ∧ (u12 1).toInt + (sn191 : Int) + 1 ≤ (u30 1).toInt) := hw39
  obtain ⟨hP1, hD1⟩ := hB
  rw [ht9] at hP1
  obtain ⟨hP, hD⟩ := va_join (wr := [(a6, .inl (cI, 544, .inl f22))]) (w1 := [(a0, .inr (12, [.int i0, .ref a1, .ref a2, .ref a3, .ref a4, .int i1, .ref a5, .int i2, .int (u30 0), .int (u30 1), .int (u30 2), .int (u30 3), .int (u30 4), .int (u30 5), .ref a6, .ref a7, .ref a8, .ref a9, .ref a10, .ref a11, .ref a12, .int i9, .ref a13, .int i10, .ref a14, .ref a15, .int i11, .ref a16, .ref a17, .ref a18, .ref a19, .int i12, .int i13, .int i14, .int i15, .int i16, .ref a20, .long j0, .ref a21, .ref a22, .ref a23, .ref a24])), (a4, .inl (cB, 1600, .inl xF3))]) hP hD [1, 2] [0] rfl rfl (by decide) (by decide) hk1 hFc hP1 hD1
  generalize H1 = H at hP hS ⊢
  replace hP : va_P (dC, dI) vwCl [(a6, .inl (cI, 544, .inl f22)), (a0, .inr (12, [.int i0, .ref a1, .ref a2, .ref a3, .ref a4, .int i1, .ref a5, .int i2, .int (u30 0), .int (u30 1), .int (u30 2), .int (u30 3), .int (u30 4), .int (u30 5), .ref a6, .ref a7, .ref a8, .ref a9, .ref a10, .ref a11, .ref a12, .int i9, .ref a13, .int i10, .ref a14, .ref a15, .int i11, .ref a16, .ref a17, .ref a18, .ref a19, .int i12, .int i13, .int i14, .int i15, .int i16, .ref a20, .long j0, .ref a21, .ref a22, .ref a23, .ref a24])), (a4, .inl (cB, 1600, .inl xF3))] H := hP
  replace hD : va_D A [(a6, .inl (cI, 544, .inl f22)), (a0, .inr (12, [.int i0, .ref a1, .ref a2, .ref a3, .ref a4, .int i1, .ref a5, .int i2, .int (u30 0), .int (u30 1), .int (u30 2), .int (u30 3), .int (u30 4), .int (u30 5), .ref a6, .ref a7, .ref a8, .ref a9, .ref a10, .ref a11, .ref a12, .int i9, .ref a13, .int i10, .ref a14, .ref a15, .int i11, .ref a16, .ref a17, .ref a18, .ref a19, .int i12, .int i13, .int i14, .int i15, .int i16, .ref a20, .long j0, .ref a21, .ref a22, .ref a23, .ref a24])), (a4, .inl (cB, 1600, .inl xF3))] := hD
  refine va_iast hx hb hK hP hD hS 0 0 rfl rfl (vp_of (by omega) (by omega)) dX12_readNose_58 (fun H locs hP hD hS => ?_)
  obtain ⟨f40, ef40⟩ : ∃ f, f = upd f22 x23.toNatClampNeg r28 := ⟨_, rfl⟩
  have df40 : WI 0 f40 := by rw [ef40]; exact WI_nose df22 (by omega) (by omega) (fun h9 => by omega)
  replace hP : va_P (dC, dI) vwCl [(a6, .inl (cI, 544, .inl f40)), (a0, .inr (12, [.int i0, .ref a1, .ref a2, .ref a3, .ref a4, .int i1, .ref a5, .int i2, .int (u30 0), .int (u30 1), .int (u30 2), .int (u30 3), .int (u30 4), .int (u30 5), .ref a6, .ref a7, .ref a8, .ref a9, .ref a10, .ref a11, .ref a12, .int i9, .ref a13, .int i10, .ref a14, .ref a15, .int i11, .ref a16, .ref a17, .ref a18, .ref a19, .int i12, .int i13, .int i14, .int i15, .int i16, .ref a20, .long j0, .ref a21, .ref a22, .ref a23, .ref a24])), (a4, .inl (cB, 1600, .inl xF3))] H := by rw [ef40]; exact hP
  replace hD : va_D A [(a6, .inl (cI, 544, .inl f40)), (a0, .inr (12, [.int i0, .ref a1, .ref a2, .ref a3, .ref a4, .int i1, .ref a5, .int i2, .int (u30 0), .int (u30 1), .int (u30 2), .int (u30 3), .int (u30 4), .int (u30 5), .ref a6, .ref a7, .ref a8, .ref a9, .ref a10, .ref a11, .ref a12, .int i9, .ref a13, .int i10, .ref a14, .ref a15, .int i11, .ref a16, .ref a17, .ref a18, .ref a19, .int i12, .int i13, .int i14, .int i15, .int i16, .ref a20, .long j0, .ref a21, .ref a22, .ref a23, .ref a24])), (a4, .inl (cB, 1600, .inl xF3))] := by rw [ef40]; exact hD
  refine lv_aload_n hx hb dX12_readNose_59 rfl (lv_at hl 1 rfl) ?_
  refine va_get (D := (dC, dI)) (ci := 12) (v := .ref a6) (C := RX12) (T := TX12) (N := 42) hx hb hwd inlX12 hown hK hP 1 rfl rfl 14 (by decide) (hwd _ kr49_15) (fun _ h9 => h9) rfl dX12_readNose_60 ?_
  refine lv_iload_n hx hb dX12_readNose_63 rfl (lv_at hl 0 rfl) ?_
  refine lv_iconst (v := 2) hx hb dX12_readNose_64 (by decide) ?_
  refine lv_iadd hx hb dX12_readNose_65 ?_
  refine lv_topi (fun x41 ex41 => ?_)
  have tx41 := ia_add (a := x5) (b := (2 : Int32)) (by omega) (by omega)
  rw [← ex41] at tx41
  refine lv_aload_n hx hb dX12_readNose_66 rfl (lv_at hl 1 rfl) ?_
  refine va_ldcS hx hb hown hR192 dX12_readNose_67 ?_
  refine lv_iconst (v := 1) hx hb dX12_readNose_69 (by decide) ?_
  refine lv_aload_n hx hb dX12_readNose_70 rfl (lv_at hl 1 rfl) ?_
  refine va_get (D := (dC, dI)) (ci := 12) (v := .ref a6) (C := RX12) (T := TX12) (N := 42) hx hb hwd inlX12 hown hK hP 1 rfl rfl 14 (by decide) (hwd _ kr49_15) (fun _ h9 => h9) rfl dX12_readNose_71 ?_
  refine lv_iconst (v := 1) hx hb dX12_readNose_74 (by decide) ?_
  have h42 : vp_in (1 : Int32) 544 := (vin (by decide))
  refine va_iald hx hb hK hP 0 0 rfl rfl h42 dX12_readNose_75 ?_
  refine lv_topi (fun x43 ex43 => ?_)
  have ix43 := wat_lit (k := 1) ex43 (by decide)
  have wh44 : whd 0 f40 := df40.1
  unfold whd at wh44
  have hPc := hP.sub (ws' := [(a0, .inr (12, [.int i0, .ref a1, .ref a2, .ref a3, .ref a4, .int i1, .ref a5, .int i2, .int (u30 0), .int (u30 1), .int (u30 2), .int (u30 3), .int (u30 4), .int (u30 5), .ref a6, .ref a7, .ref a8, .ref a9, .ref a10, .ref a11, .ref a12, .int i9, .ref a13, .int i10, .ref a14, .ref a15, .int i11, .ref a16, .ref a17, .ref a18, .ref a19, .int i12, .int i13, .int i14, .int i15, .int i16, .ref a20, .long j0, .ref a21, .ref a22, .ref a23, .ref a24])), (a4, .inl (cB, 1600, .inl xF3))]) [1, 2] rfl
  have hDc := hD.sub (ws' := [(a0, .inr (12, [.int i0, .ref a1, .ref a2, .ref a3, .ref a4, .int i1, .ref a5, .int i2, .int (u30 0), .int (u30 1), .int (u30 2), .int (u30 3), .int (u30 4), .int (u30 5), .ref a6, .ref a7, .ref a8, .ref a9, .ref a10, .ref a11, .ref a12, .int i9, .ref a13, .int i10, .ref a14, .ref a15, .int i11, .ref a16, .ref a17, .ref a18, .ref a19, .int i12, .int i13, .int i14, .int i15, .int i16, .ref a20, .long j0, .ref a21, .ref a22, .ref a23, .ref a24])), (a4, .inl (cB, 1600, .inl xF3))]) [1, 2] (by decide) rfl
  have hFc := va_free (wc := [(a0, .inr (12, [.int i0, .ref a1, .ref a2, .ref a3, .ref a4, .int i1, .ref a5, .int i2, .int (u30 0), .int (u30 1), .int (u30 2), .int (u30 3), .int (u30 4), .int (u30 5), .ref a6, .ref a7, .ref a8, .ref a9, .ref a10, .ref a11, .ref a12, .int i9, .ref a13, .int i10, .ref a14, .ref a15, .int i11, .ref a16, .ref a17, .ref a18, .ref a19, .int i12, .int i13, .int i14, .int i15, .int i16, .ref a20, .long j0, .ref a21, .ref a22, .ref a23, .ref a24])), (a4, .inl (cB, 1600, .inl xF3))]) hD hS hA [1, 2] rfl
  refine va_calli (va_runV (As := [.ref sa192, .int 1, .int x43]) (rest := [.int x41, .ref a6]) ⟨hx, hb, hml, hown, hwd⟩ (s_X12_told l dC dI cI cZ cB cJ cM cG a0 a1 a2 a3 a4 a5 a6 a7 a8 a9 a10 a11 a12 a13 a14 a15 a16 a17 a18 a19 a20 a21 a22 a23 a24 i0 i1 i2 (u30 0) (u30 1) (u30 2) (u30 3) (u30 4) (u30 5) i9 i10 i11 i12 i13 i14 i15 i16 j0 xF3 1 x43 sa192 sav192 sn192 sf192 H.size (show (0 : Int) ≤ i1.toInt ∧ i1.toInt ≤ 1600 from p_0) (show (0 : Int) ≤ i2.toInt ∧ i2.toInt ≤ 1600 from p_1) (show (0 : Int) ≤ (u30 0).toInt ∧ (u30 0).toInt ≤ 1600 from hw32) (show (0 : Int) ≤ (u30 1).toInt ∧ (u30 1).toInt ≤ 1600 from hw33) (show (0 : Int) ≤ (u30 2).toInt ∧ (u30 2).toInt ≤ 6 from hw34) (show (0 : Int) ≤ (u30 4).toInt ∧ (u30 4).toInt ≤ 3 from hw35) (show (0 : Int) ≤ i11.toInt ∧ i11.toInt ≤ 59 from p_6) (show (0 : Int) ≤ (1 : Int32).toInt ∧ (1 : Int32).toInt ≤ 4 from ⟨by omega, by omega⟩) (show (-1 : Int) ≤ x43.toInt ∧ x43.toInt ≤ 999 from ⟨by omega, by omega⟩) hw36 hw37) (cwV 3 hwd (gV kr53_10 kr53_11 kr2_23 kr5_23 kr53_12) rfl rfl rfl (by decide +kernel) ⟨Nat.le_of_ble_eq_true rfl, Nat.le_of_ble_eq_true rfl⟩) (kPreVX hPc hK hDc (NS_st _ _ _ _) hN192 hS hFc (ci := 12) (q0 := 0) rfl rfl) rfl rfl hl.1 rfl (lv_room (Nat.le_of_ble_eq_true rfl)) dX12_readNose_76 ⟨Nat.le_of_ble_eq_true rfl, Nat.le_of_ble_eq_true rfl⟩) hS (fun q _ h => hFc q h) hFc (fun r45 u46 t H1 locs ht9 hvm hw hB hz1 hk1 hS => ?_)
  obtain ⟨u47, U47, V47⟩ := u46
  obtain ⟨hw48, hw49, hw50, hw51, hw52, hw53, hw54, hw55, hw56, -⟩ := hw
  replace hw48 : (r45.toInt = 0 ∨ ((1 : Int32).toInt ≤ r45.toInt ∧ r45.toInt ≤ x43.toInt)) := hw48
  replace hw49 : (0 : Int) ≤ (u47 0).toInt ∧ (u47 0).toInt ≤ 1600 := hw49
  replace hw50 : (0 : Int) ≤ (u47 1).toInt ∧ (u47 1).toInt ≤ 1600 := hw50
  replace hw51 : (0 : Int) ≤ (u47 2).toInt ∧ (u47 2).toInt ≤ 6 := hw51
  replace hw52 : (0 : Int) ≤ (u47 4).toInt ∧ (u47 4).toInt ≤ 3 := hw52
  replace hw53 : (u47 1).toInt ≤ (u47 0).toInt := hw53
  replace hw54 : (2 ≤ (u47 2).toInt → (u47 1).toInt + 1 ≤ (u47 0).toInt) := hw54
  replace hw55 : (u30 1).toInt ≤ (u47 1).toInt := hw55
  replace hw56 : ((u47 4).toInt = 0 → (u30 4).toInt = 0 ∧ (1 : Int32).toInt ≤ r45.toInt ∧ r45.toInt ≤ x43.toInt ∧ (u30 1).toInt + (sn192 : Int) + 1 ≤ (u47 1).toInt) := hw56
  obtain ⟨hP1, hD1⟩ := hB
  rw [ht9] at hP1
  obtain ⟨hP, hD⟩ := va_join (wr := [(a6, .inl (cI, 544, .inl f40))]) (w1 := [(a0, .inr (12, [.int i0, .ref a1, .ref a2, .ref a3, .ref a4, .int i1, .ref a5, .int i2, .int (u47 0), .int (u47 1), .int (u47 2), .int (u47 3), .int (u47 4), .int (u47 5), .ref a6, .ref a7, .ref a8, .ref a9, .ref a10, .ref a11, .ref a12, .int i9, .ref a13, .int i10, .ref a14, .ref a15, .int i11, .ref a16, .ref a17, .ref a18, .ref a19, .int i12, .int i13, .int i14, .int i15, .int i16, .ref a20, .long j0, .ref a21, .ref a22, .ref a23, .ref a24])), (a4, .inl (cB, 1600, .inl xF3))]) hP hD [1, 2] [0] rfl rfl (by decide) (by decide) hk1 hFc hP1 hD1
  generalize H1 = H at hP hS ⊢
  replace hP : va_P (dC, dI) vwCl [(a6, .inl (cI, 544, .inl f40)), (a0, .inr (12, [.int i0, .ref a1, .ref a2, .ref a3, .ref a4, .int i1, .ref a5, .int i2, .int (u47 0), .int (u47 1), .int (u47 2), .int (u47 3), .int (u47 4), .int (u47 5), .ref a6, .ref a7, .ref a8, .ref a9, .ref a10, .ref a11, .ref a12, .int i9, .ref a13, .int i10, .ref a14, .ref a15, .int i11, .ref a16, .ref a17, .ref a18, .ref a19, .int i12, .int i13, .int i14, .int i15, .int i16, .ref a20, .long j0, .ref a21, .ref a22, .ref a23, .ref a24])), (a4, .inl (cB, 1600, .inl xF3))] H := hP
  replace hD : va_D A [(a6, .inl (cI, 544, .inl f40)), (a0, .inr (12, [.int i0, .ref a1, .ref a2, .ref a3, .ref a4, .int i1, .ref a5, .int i2, .int (u47 0), .int (u47 1), .int (u47 2), .int (u47 3), .int (u47 4), .int (u47 5), .ref a6, .ref a7, .ref a8, .ref a9, .ref a10, .ref a11, .ref a12, .int i9, .ref a13, .int i10, .ref a14, .ref a15, .int i11, .ref a16, .ref a17, .ref a18, .ref a19, .int i12, .int i13, .int i14, .int i15, .int i16, .ref a20, .long j0, .ref a21, .ref a22, .ref a23, .ref a24])), (a4, .inl (cB, 1600, .inl xF3))] := hD
  refine va_iast hx hb hK hP hD hS 0 0 rfl rfl (vp_of (by omega) (by omega)) dX12_readNose_79 (fun H locs hP hD hS => ?_)
  obtain ⟨f57, ef57⟩ : ∃ f, f = upd f40 x41.toNatClampNeg r45 := ⟨_, rfl⟩
  have df57 : WI 0 f57 := by rw [ef57]; exact WI_nose df40 (by omega) (by omega) (fun h9 => by omega)
  replace hP : va_P (dC, dI) vwCl [(a6, .inl (cI, 544, .inl f57)), (a0, .inr (12, [.int i0, .ref a1, .ref a2, .ref a3, .ref a4, .int i1, .ref a5, .int i2, .int (u47 0), .int (u47 1), .int (u47 2), .int (u47 3), .int (u47 4), .int (u47 5), .ref a6, .ref a7, .ref a8, .ref a9, .ref a10, .ref a11, .ref a12, .int i9, .ref a13, .int i10, .ref a14, .ref a15, .int i11, .ref a16, .ref a17, .ref a18, .ref a19, .int i12, .int i13, .int i14, .int i15, .int i16, .ref a20, .long j0, .ref a21, .ref a22, .ref a23, .ref a24])), (a4, .inl (cB, 1600, .inl xF3))] H := by rw [ef57]; exact hP
  replace hD : va_D A [(a6, .inl (cI, 544, .inl f57)), (a0, .inr (12, [.int i0, .ref a1, .ref a2, .ref a3, .ref a4, .int i1, .ref a5, .int i2, .int (u47 0), .int (u47 1), .int (u47 2), .int (u47 3), .int (u47 4), .int (u47 5), .ref a6, .ref a7, .ref a8, .ref a9, .ref a10, .ref a11, .ref a12, .int i9, .ref a13, .int i10, .ref a14, .ref a15, .int i11, .ref a16, .ref a17, .ref a18, .ref a19, .int i12, .int i13, .int i14, .int i15, .int i16, .ref a20, .long j0, .ref a21, .ref a22, .ref a23, .ref a24])), (a4, .inl (cB, 1600, .inl xF3))] := by rw [ef57]; exact hD
  refine lv_aload_n hx hb dX12_readNose_80 rfl (lv_at hl 1 rfl) ?_
  refine va_get (D := (dC, dI)) (ci := 12) (v := .ref a6) (C := RX12) (T := TX12) (N := 42) hx hb hwd inlX12 hown hK hP 1 rfl rfl 14 (by decide) (hwd _ kr49_15) (fun _ h9 => h9) rfl dX12_readNose_81 ?_
  refine lv_iload_n hx hb dX12_readNose_84 rfl (lv_at hl 0 rfl) ?_
  refine lv_iconst (v := 3) hx hb dX12_readNose_85 (by decide) ?_
  refine lv_iadd hx hb dX12_readNose_86 ?_
  refine lv_topi (fun x58 ex58 => ?_)
  have tx58 := ia_add (a := x5) (b := (3 : Int32)) (by omega) (by omega)
  rw [← ex58] at tx58
  refine lv_aload_n hx hb dX12_readNose_87 rfl (lv_at hl 1 rfl) ?_
  refine va_ldcS hx hb hown hR194 dX12_readNose_88 ?_
  refine lv_iconst (v := 1) hx hb dX12_readNose_90 (by decide) ?_
  refine lv_bipush (v := 60) hx hb dX12_readNose_91 (by decide) ?_
  have hPc := hP.sub (ws' := [(a0, .inr (12, [.int i0, .ref a1, .ref a2, .ref a3, .ref a4, .int i1, .ref a5, .int i2, .int (u47 0), .int (u47 1), .int (u47 2), .int (u47 3), .int (u47 4), .int (u47 5), .ref a6, .ref a7, .ref a8, .ref a9, .ref a10, .ref a11, .ref a12, .int i9, .ref a13, .int i10, .ref a14, .ref a15, .int i11, .ref a16, .ref a17, .ref a18, .ref a19, .int i12, .int i13, .int i14, .int i15, .int i16, .ref a20, .long j0, .ref a21, .ref a22, .ref a23, .ref a24])), (a4, .inl (cB, 1600, .inl xF3))]) [1, 2] rfl
  have hDc := hD.sub (ws' := [(a0, .inr (12, [.int i0, .ref a1, .ref a2, .ref a3, .ref a4, .int i1, .ref a5, .int i2, .int (u47 0), .int (u47 1), .int (u47 2), .int (u47 3), .int (u47 4), .int (u47 5), .ref a6, .ref a7, .ref a8, .ref a9, .ref a10, .ref a11, .ref a12, .int i9, .ref a13, .int i10, .ref a14, .ref a15, .int i11, .ref a16, .ref a17, .ref a18, .ref a19, .int i12, .int i13, .int i14, .int i15, .int i16, .ref a20, .long j0, .ref a21, .ref a22, .ref a23, .ref a24])), (a4, .inl (cB, 1600, .inl xF3))]) [1, 2] (by decide) rfl
  have hFc := va_free (wc := [(a0, .inr (12, [.int i0, .ref a1, .ref a2, .ref a3, .ref a4, .int i1, .ref a5, .int i2, .int (u47 0), .int (u47 1), .int (u47 2), .int (u47 3), .int (u47 4), .int (u47 5), .ref a6, .ref a7, .ref a8, .ref a9, .ref a10, .ref a11, .ref a12, .int i9, .ref a13, .int i10, .ref a14, .ref a15, .int i11, .ref a16, .ref a17, .ref a18, .ref a19, .int i12, .int i13, .int i14, .int i15, .int i16, .ref a20, .long j0, .ref a21, .ref a22, .ref a23, .ref a24])), (a4, .inl (cB, 1600, .inl xF3))]) hD hS hA [1, 2] rfl
  refine va_calli (va_runV (As := [.ref sa194, .int 1, .int 60]) (rest := [.int x58, .ref a6]) ⟨hx, hb, hml, hown, hwd⟩ (s_X12_told l dC dI cI cZ cB cJ cM cG a0 a1 a2 a3 a4 a5 a6 a7 a8 a9 a10 a11 a12 a13 a14 a15 a16 a17 a18 a19 a20 a21 a22 a23 a24 i0 i1 i2 (u47 0) (u47 1) (u47 2) (u47 3) (u47 4) (u47 5) i9 i10 i11 i12 i13 i14 i15 i16 j0 xF3 1 60 sa194 sav194 sn194 sf194 H.size (show (0 : Int) ≤ i1.toInt ∧ i1.toInt ≤ 1600 from p_0) (show (0 : Int) ≤ i2.toInt ∧ i2.toInt ≤ 1600 from p_1) (show (0 : Int) ≤ (u47 0).toInt ∧ (u47 0).toInt ≤ 1600 from hw49) (show (0 : Int) ≤ (u47 1).toInt ∧ (u47 1).toInt ≤ 1600 from hw50) (show (0 : Int) ≤ (u47 2).toInt ∧ (u47 2).toInt ≤ 6 from hw51) (show (0 : Int) ≤ (u47 4).toInt ∧ (u47 4).toInt ≤ 3 from hw52) (show (0 : Int) ≤ i11.toInt ∧ i11.toInt ≤ 59 from p_6) (show (0 : Int) ≤ (1 : Int32).toInt ∧ (1 : Int32).toInt ≤ 4 from ⟨by omega, by omega⟩) (show (-1 : Int) ≤ (60 : Int32).toInt ∧ (60 : Int32).toInt ≤ 999 from ⟨by omega, by omega⟩) hw53 hw54) (cwV 3 hwd (gV kr53_10 kr53_11 kr2_23 kr5_23 kr53_12) rfl rfl rfl (by decide +kernel) ⟨Nat.le_of_ble_eq_true rfl, Nat.le_of_ble_eq_true rfl⟩) (kPreVX hPc hK hDc (NS_st _ _ _ _) hN194 hS hFc (ci := 12) (q0 := 0) rfl rfl) rfl rfl hl.1 rfl (lv_room (Nat.le_of_ble_eq_true rfl)) dX12_readNose_93 ⟨Nat.le_of_ble_eq_true rfl, Nat.le_of_ble_eq_true rfl⟩) hS (fun q _ h => hFc q h) hFc (fun r59 u60 t H1 locs ht9 hvm hw hB hz1 hk1 hS => ?_)
  obtain ⟨u61, U61, V61⟩ := u60
  obtain ⟨hw62, hw63, hw64, hw65, hw66, hw67, hw68, hw69, hw70, -⟩ := hw
  replace hw62 : (r59.toInt = 0 ∨ ((1 : Int32).toInt ≤ r59.toInt ∧ r59.toInt ≤ (60 : Int32).toInt)) := hw62
  replace hw63 : (0 : Int) ≤ (u61 0).toInt ∧ (u61 0).toInt ≤ 1600 := hw63
  replace hw64 : (0 : Int) ≤ (u61 1).toInt ∧ (u61 1).toInt ≤ 1600 := hw64
  replace hw65 : (0 : Int) ≤ (u61 2).toInt ∧ (u61 2).toInt ≤ 6 := hw65
  replace hw66 : (0 : Int) ≤ (u61 4).toInt ∧ (u61 4).toInt ≤ 3 := hw66
  replace hw67 : (u61 1).toInt ≤ (u61 0).toInt := hw67
  replace hw68 : (2 ≤ (u61 2).toInt → (u61 1).toInt + 1 ≤ (u61 0).toInt) := hw68
  replace hw69 : (u47 1).toInt ≤ (u61 1).toInt := hw69
  replace hw70 : ((u61 4).toInt = 0 → (u47 4).toInt = 0 ∧ (1 : Int32).toInt ≤ r59.toInt ∧ r59.toInt ≤ (60 : Int32).toInt ∧ (u47 1).toInt + (sn194 : Int) + 1 ≤ (u61 1).toInt) := hw70
  obtain ⟨hP1, hD1⟩ := hB
  rw [ht9] at hP1
  obtain ⟨hP, hD⟩ := va_join (wr := [(a6, .inl (cI, 544, .inl f57))]) (w1 := [(a0, .inr (12, [.int i0, .ref a1, .ref a2, .ref a3, .ref a4, .int i1, .ref a5, .int i2, .int (u61 0), .int (u61 1), .int (u61 2), .int (u61 3), .int (u61 4), .int (u61 5), .ref a6, .ref a7, .ref a8, .ref a9, .ref a10, .ref a11, .ref a12, .int i9, .ref a13, .int i10, .ref a14, .ref a15, .int i11, .ref a16, .ref a17, .ref a18, .ref a19, .int i12, .int i13, .int i14, .int i15, .int i16, .ref a20, .long j0, .ref a21, .ref a22, .ref a23, .ref a24])), (a4, .inl (cB, 1600, .inl xF3))]) hP hD [1, 2] [0] rfl rfl (by decide) (by decide) hk1 hFc hP1 hD1
  generalize H1 = H at hP hS ⊢
  replace hP : va_P (dC, dI) vwCl [(a6, .inl (cI, 544, .inl f57)), (a0, .inr (12, [.int i0, .ref a1, .ref a2, .ref a3, .ref a4, .int i1, .ref a5, .int i2, .int (u61 0), .int (u61 1), .int (u61 2), .int (u61 3), .int (u61 4), .int (u61 5), .ref a6, .ref a7, .ref a8, .ref a9, .ref a10, .ref a11, .ref a12, .int i9, .ref a13, .int i10, .ref a14, .ref a15, .int i11, .ref a16, .ref a17, .ref a18, .ref a19, .int i12, .int i13, .int i14, .int i15, .int i16, .ref a20, .long j0, .ref a21, .ref a22, .ref a23, .ref a24])), (a4, .inl (cB, 1600, .inl xF3))] H := hP
  replace hD : va_D A [(a6, .inl (cI, 544, .inl f57)), (a0, .inr (12, [.int i0, .ref a1, .ref a2, .ref a3, .ref a4, .int i1, .ref a5, .int i2, .int (u61 0), .int (u61 1), .int (u61 2), .int (u61 3), .int (u61 4), .int (u61 5), .ref a6, .ref a7, .ref a8, .ref a9, .ref a10, .ref a11, .ref a12, .int i9, .ref a13, .int i10, .ref a14, .ref a15, .int i11, .ref a16, .ref a17, .ref a18, .ref a19, .int i12, .int i13, .int i14, .int i15, .int i16, .ref a20, .long j0, .ref a21, .ref a22, .ref a23, .ref a24])), (a4, .inl (cB, 1600, .inl xF3))] := hD
  refine va_iast hx hb hK hP hD hS 0 0 rfl rfl (vp_of (by omega) (by omega)) dX12_readNose_96 (fun H locs hP hD hS => ?_)
  obtain ⟨f71, ef71⟩ : ∃ f, f = upd f57 x58.toNatClampNeg r59 := ⟨_, rfl⟩
  have df71 : WI 0 f71 := by rw [ef71]; exact WI_nose df57 (by omega) (by omega) (fun h9 => by omega)
  replace hP : va_P (dC, dI) vwCl [(a6, .inl (cI, 544, .inl f71)), (a0, .inr (12, [.int i0, .ref a1, .ref a2, .ref a3, .ref a4, .int i1, .ref a5, .int i2, .int (u61 0), .int (u61 1), .int (u61 2), .int (u61 3), .int (u61 4), .int (u61 5), .ref a6, .ref a7, .ref a8, .ref a9, .ref a10, .ref a11, .ref a12, .int i9, .ref a13, .int i10, .ref a14, .ref a15, .int i11, .ref a16, .ref a17, .ref a18, .ref a19, .int i12, .int i13, .int i14, .int i15, .int i16, .ref a20, .long j0, .ref a21, .ref a22, .ref a23, .ref a24])), (a4, .inl (cB, 1600, .inl xF3))] H := by rw [ef71]; exact hP
  replace hD : va_D A [(a6, .inl (cI, 544, .inl f71)), (a0, .inr (12, [.int i0, .ref a1, .ref a2, .ref a3, .ref a4, .int i1, .ref a5, .int i2, .int (u61 0), .int (u61 1), .int (u61 2), .int (u61 3), .int (u61 4), .int (u61 5), .ref a6, .ref a7, .ref a8, .ref a9, .ref a10, .ref a11, .ref a12, .int i9, .ref a13, .int i10, .ref a14, .ref a15, .int i11, .ref a16, .ref a17, .ref a18, .ref a19, .int i12, .int i13, .int i14, .int i15, .int i16, .ref a20, .long j0, .ref a21, .ref a22, .ref a23, .ref a24])), (a4, .inl (cB, 1600, .inl xF3))] := by rw [ef71]; exact hD
  refine lv_aload_n hx hb dX12_readNose_97 rfl (lv_at hl 1 rfl) ?_
  refine va_get (D := (dC, dI)) (ci := 12) (v := .ref a6) (C := RX12) (T := TX12) (N := 42) hx hb hwd inlX12 hown hK hP 1 rfl rfl 14 (by decide) (hwd _ kr49_15) (fun _ h9 => h9) rfl dX12_readNose_98 ?_
  refine lv_iload_n hx hb dX12_readNose_101 rfl (lv_at hl 0 rfl) ?_
  refine lv_iconst (v := 4) hx hb dX12_readNose_102 (by decide) ?_
  refine lv_iadd hx hb dX12_readNose_103 ?_
  refine lv_topi (fun x72 ex72 => ?_)
  have tx72 := ia_add (a := x5) (b := (4 : Int32)) (by omega) (by omega)
  rw [← ex72] at tx72
  refine lv_aload_n hx hb dX12_readNose_104 rfl (lv_at hl 1 rfl) ?_
  refine va_ldcS hx hb hown hR196 dX12_readNose_105 ?_
  refine lv_iconst (v := 1) hx hb dX12_readNose_107 (by decide) ?_
  refine lv_bipush (v := 60) hx hb dX12_readNose_108 (by decide) ?_
  have hPc := hP.sub (ws' := [(a0, .inr (12, [.int i0, .ref a1, .ref a2, .ref a3, .ref a4, .int i1, .ref a5, .int i2, .int (u61 0), .int (u61 1), .int (u61 2), .int (u61 3), .int (u61 4), .int (u61 5), .ref a6, .ref a7, .ref a8, .ref a9, .ref a10, .ref a11, .ref a12, .int i9, .ref a13, .int i10, .ref a14, .ref a15, .int i11, .ref a16, .ref a17, .ref a18, .ref a19, .int i12, .int i13, .int i14, .int i15, .int i16, .ref a20, .long j0, .ref a21, .ref a22, .ref a23, .ref a24])), (a4, .inl (cB, 1600, .inl xF3))]) [1, 2] rfl
  have hDc := hD.sub (ws' := [(a0, .inr (12, [.int i0, .ref a1, .ref a2, .ref a3, .ref a4, .int i1, .ref a5, .int i2, .int (u61 0), .int (u61 1), .int (u61 2), .int (u61 3), .int (u61 4), .int (u61 5), .ref a6, .ref a7, .ref a8, .ref a9, .ref a10, .ref a11, .ref a12, .int i9, .ref a13, .int i10, .ref a14, .ref a15, .int i11, .ref a16, .ref a17, .ref a18, .ref a19, .int i12, .int i13, .int i14, .int i15, .int i16, .ref a20, .long j0, .ref a21, .ref a22, .ref a23, .ref a24])), (a4, .inl (cB, 1600, .inl xF3))]) [1, 2] (by decide) rfl
  have hFc := va_free (wc := [(a0, .inr (12, [.int i0, .ref a1, .ref a2, .ref a3, .ref a4, .int i1, .ref a5, .int i2, .int (u61 0), .int (u61 1), .int (u61 2), .int (u61 3), .int (u61 4), .int (u61 5), .ref a6, .ref a7, .ref a8, .ref a9, .ref a10, .ref a11, .ref a12, .int i9, .ref a13, .int i10, .ref a14, .ref a15, .int i11, .ref a16, .ref a17, .ref a18, .ref a19, .int i12, .int i13, .int i14, .int i15, .int i16, .ref a20, .long j0, .ref a21, .ref a22, .ref a23, .ref a24])), (a4, .inl (cB, 1600, .inl xF3))]) hD hS hA [1, 2] rfl
  refine va_calli (va_runV (As := [.ref sa196, .int 1, .int 60]) (rest := [.int x72, .ref a6]) ⟨hx, hb, hml, hown, hwd⟩ (s_X12_told l dC dI cI cZ cB cJ cM cG a0 a1 a2 a3 a4 a5 a6 a7 a8 a9 a10 a11 a12 a13 a14 a15 a16 a17 a18 a19 a20 a21 a22 a23 a24 i0 i1 i2 (u61 0) (u61 1) (u61 2) (u61 3) (u61 4) (u61 5) i9 i10 i11 i12 i13 i14 i15 i16 j0 xF3 1 60 sa196 sav196 sn196 sf196 H.size (show (0 : Int) ≤ i1.toInt ∧ i1.toInt ≤ 1600 from p_0) (show (0 : Int) ≤ i2.toInt ∧ i2.toInt ≤ 1600 from p_1) (show (0 : Int) ≤ (u61 0).toInt ∧ (u61 0).toInt ≤ 1600 from hw63) (show (0 : Int) ≤ (u61 1).toInt ∧ (u61 1).toInt ≤ 1600 from hw64) (show (0 : Int) ≤ (u61 2).toInt ∧ (u61 2).toInt ≤ 6 from hw65) (show (0 : Int) ≤ (u61 4).toInt ∧ (u61 4).toInt ≤ 3 from hw66) (show (0 : Int) ≤ i11.toInt ∧ i11.toInt ≤ 59 from p_6) (show (0 : Int) ≤ (1 : Int32).toInt ∧ (1 : Int32).toInt ≤ 4 from ⟨by omega, by omega⟩) (show (-1 : Int) ≤ (60 : Int32).toInt ∧ (60 : Int32).toInt ≤ 999 from ⟨by omega, by omega⟩) hw67 hw68) (cwV 3 hwd (gV kr53_10 kr53_11 kr2_23 kr5_23 kr53_12) rfl rfl rfl (by decide +kernel) ⟨Nat.le_of_ble_eq_true rfl, Nat.le_of_ble_eq_true rfl⟩) (kPreVX hPc hK hDc (NS_st _ _ _ _) hN196 hS hFc (ci := 12) (q0 := 0) rfl rfl) rfl rfl hl.1 rfl (lv_room (Nat.le_of_ble_eq_true rfl)) dX12_readNose_110 ⟨Nat.le_of_ble_eq_true rfl, Nat.le_of_ble_eq_true rfl⟩) hS (fun q _ h => hFc q h) hFc (fun r73 u74 t H1 locs ht9 hvm hw hB hz1 hk1 hS => ?_)
  obtain ⟨u75, U75, V75⟩ := u74
  obtain ⟨hw76, hw77, hw78, hw79, hw80, hw81, hw82, hw83, hw84, -⟩ := hw
  replace hw76 : (r73.toInt = 0 ∨ ((1 : Int32).toInt ≤ r73.toInt ∧ r73.toInt ≤ (60 : Int32).toInt)) := hw76
  replace hw77 : (0 : Int) ≤ (u75 0).toInt ∧ (u75 0).toInt ≤ 1600 := hw77
  replace hw78 : (0 : Int) ≤ (u75 1).toInt ∧ (u75 1).toInt ≤ 1600 := hw78
  replace hw79 : (0 : Int) ≤ (u75 2).toInt ∧ (u75 2).toInt ≤ 6 := hw79
  replace hw80 : (0 : Int) ≤ (u75 4).toInt ∧ (u75 4).toInt ≤ 3 := hw80
  replace hw81 : (u75 1).toInt ≤ (u75 0).toInt := hw81
  replace hw82 : (2 ≤ (u75 2).toInt → (u75 1).toInt + 1 ≤ (u75 0).toInt) := hw82
  replace hw83 : (u61 1).toInt ≤ (u75 1).toInt := hw83
  replace hw84 : ((u75 4).toInt = 0 → (u61 4).toInt = 0 ∧ (1 : Int32).toInt ≤ r73.toInt ∧ r73.toInt ≤ (60 : Int32).toInt ∧ (u61 1).toInt + (sn196 : Int) + 1 ≤ (u75 1).toInt) := hw84
  obtain ⟨hP1, hD1⟩ := hB
  rw [ht9] at hP1
  obtain ⟨hP, hD⟩ := va_join (wr := [(a6, .inl (cI, 544, .inl f71))]) (w1 := [(a0, .inr (12, [.int i0, .ref a1, .ref a2, .ref a3, .ref a4, .int i1, .ref a5, .int i2, .int (u75 0), .int (u75 1), .int (u75 2), .int (u75 3), .int (u75 4), .int (u75 5), .ref a6, .ref a7, .ref a8, .ref a9, .ref a10, .ref a11, .ref a12, .int i9, .ref a13, .int i10, .ref a14, .ref a15, .int i11, .ref a16, .ref a17, .ref a18, .ref a19, .int i12, .int i13, .int i14, .int i15, .int i16, .ref a20, .long j0, .ref a21, .ref a22, .ref a23, .ref a24])), (a4, .inl (cB, 1600, .inl xF3))]) hP hD [1, 2] [0] rfl rfl (by decide) (by decide) hk1 hFc hP1 hD1
  generalize H1 = H at hP hS ⊢
  replace hP : va_P (dC, dI) vwCl [(a6, .inl (cI, 544, .inl f71)), (a0, .inr (12, [.int i0, .ref a1, .ref a2, .ref a3, .ref a4, .int i1, .ref a5, .int i2, .int (u75 0), .int (u75 1), .int (u75 2), .int (u75 3), .int (u75 4), .int (u75 5), .ref a6, .ref a7, .ref a8, .ref a9, .ref a10, .ref a11, .ref a12, .int i9, .ref a13, .int i10, .ref a14, .ref a15, .int i11, .ref a16, .ref a17, .ref a18, .ref a19, .int i12, .int i13, .int i14, .int i15, .int i16, .ref a20, .long j0, .ref a21, .ref a22, .ref a23, .ref a24])), (a4, .inl (cB, 1600, .inl xF3))] H := hP
  replace hD : va_D A [(a6, .inl (cI, 544, .inl f71)), (a0, .inr (12, [.int i0, .ref a1, .ref a2, .ref a3, .ref a4, .int i1, .ref a5, .int i2, .int (u75 0), .int (u75 1), .int (u75 2), .int (u75 3), .int (u75 4), .int (u75 5), .ref a6, .ref a7, .ref a8, .ref a9, .ref a10, .ref a11, .ref a12, .int i9, .ref a13, .int i10, .ref a14, .ref a15, .int i11, .ref a16, .ref a17, .ref a18, .ref a19, .int i12, .int i13, .int i14, .int i15, .int i16, .ref a20, .long j0, .ref a21, .ref a22, .ref a23, .ref a24])), (a4, .inl (cB, 1600, .inl xF3))] := hD
  refine va_iast hx hb hK hP hD hS 0 0 rfl rfl (vp_of (by omega) (by omega)) dX12_readNose_113 (fun H locs hP hD hS => ?_)
  obtain ⟨f85, ef85⟩ : ∃ f, f = upd f71 x72.toNatClampNeg r73 := ⟨_, rfl⟩
  have df85 : WI 0 f85 := by rw [ef85]; exact WI_nose df71 (by omega) (by omega) (fun h9 => by omega)
  replace hP : va_P (dC, dI) vwCl [(a6, .inl (cI, 544, .inl f85)), (a0, .inr (12, [.int i0, .ref a1, .ref a2, .ref a3, .ref a4, .int i1, .ref a5, .int i2, .int (u75 0), .int (u75 1), .int (u75 2), .int (u75 3), .int (u75 4), .int (u75 5), .ref a6, .ref a7, .ref a8, .ref a9, .ref a10, .ref a11, .ref a12, .int i9, .ref a13, .int i10, .ref a14, .ref a15, .int i11, .ref a16, .ref a17, .ref a18, .ref a19, .int i12, .int i13, .int i14, .int i15, .int i16, .ref a20, .long j0, .ref a21, .ref a22, .ref a23, .ref a24])), (a4, .inl (cB, 1600, .inl xF3))] H := by rw [ef85]; exact hP
  replace hD : va_D A [(a6, .inl (cI, 544, .inl f85)), (a0, .inr (12, [.int i0, .ref a1, .ref a2, .ref a3, .ref a4, .int i1, .ref a5, .int i2, .int (u75 0), .int (u75 1), .int (u75 2), .int (u75 3), .int (u75 4), .int (u75 5), .ref a6, .ref a7, .ref a8, .ref a9, .ref a10, .ref a11, .ref a12, .int i9, .ref a13, .int i10, .ref a14, .ref a15, .int i11, .ref a16, .ref a17, .ref a18, .ref a19, .int i12, .int i13, .int i14, .int i15, .int i16, .ref a20, .long j0, .ref a21, .ref a22, .ref a23, .ref a24])), (a4, .inl (cB, 1600, .inl xF3))] := by rw [ef85]; exact hD
  refine lv_aload_n hx hb dX12_readNose_114 rfl (lv_at hl 1 rfl) ?_
  refine va_get (D := (dC, dI)) (ci := 12) (v := .ref a6) (C := RX12) (T := TX12) (N := 42) hx hb hwd inlX12 hown hK hP 1 rfl rfl 14 (by decide) (hwd _ kr49_15) (fun _ h9 => h9) rfl dX12_readNose_115 ?_
  refine lv_iconst (v := 5) hx hb dX12_readNose_118 (by decide) ?_
  refine lv_dup2_11 hx hb dX12_readNose_119 rfl rfl ?_
  have h86 : vp_in (5 : Int32) 544 := (vin (by decide))
  refine va_iald hx hb hK hP 0 0 rfl rfl h86 dX12_readNose_120 ?_
  refine lv_topi (fun x87 ex87 => ?_)
  have ix87 := wat_lit (k := 5) ex87 (by decide)
  have wh88 : whd 0 f85 := df85.1
  unfold whd at wh88
  have ix87 := wat_lit (F := xF5) (k := 5) (show x87 = xF5 (5 : Int32).toNatClampNeg from by rw [ex87, ef85, upd_ne (by omega), ef71, upd_ne (by omega), ef57, upd_ne (by omega), ef40, upd_ne (by omega), ef22, upd_ne (by omega)]) (by decide)
  refine lv_iconst (v := 1) hx hb dX12_readNose_121 (by decide) ?_
  refine lv_iadd hx hb dX12_readNose_122 ?_
  refine lv_topi (fun x89 ex89 => ?_)
  have tx89 := ia_add (a := x87) (b := (1 : Int32)) (by omega) (by omega)
  rw [← ex89] at tx89
  refine va_iast hx hb hK hP hD hS 0 0 rfl rfl (vin (by decide)) dX12_readNose_123 (fun H locs hP hD hS => ?_)
  obtain ⟨f90, ef90⟩ : ∃ f, f = upd f85 (5 : Int32).toNatClampNeg x89 := ⟨_, rfl⟩
  have df90 : WI 0 f90 := by rw [ef90]; exact WI_no df85 (by omega) (by omega) (by omega)
  replace hP : va_P (dC, dI) vwCl [(a6, .inl (cI, 544, .inl f90)), (a0, .inr (12, [.int i0, .ref a1, .ref a2, .ref a3, .ref a4, .int i1, .ref a5, .int i2, .int (u75 0), .int (u75 1), .int (u75 2), .int (u75 3), .int (u75 4), .int (u75 5), .ref a6, .ref a7, .ref a8, .ref a9, .ref a10, .ref a11, .ref a12, .int i9, .ref a13, .int i10, .ref a14, .ref a15, .int i11, .ref a16, .ref a17, .ref a18, .ref a19, .int i12, .int i13, .int i14, .int i15, .int i16, .ref a20, .long j0, .ref a21, .ref a22, .ref a23, .ref a24])), (a4, .inl (cB, 1600, .inl xF3))] H := by rw [ef90]; exact hP
  replace hD : va_D A [(a6, .inl (cI, 544, .inl f90)), (a0, .inr (12, [.int i0, .ref a1, .ref a2, .ref a3, .ref a4, .int i1, .ref a5, .int i2, .int (u75 0), .int (u75 1), .int (u75 2), .int (u75 3), .int (u75 4), .int (u75 5), .ref a6, .ref a7, .ref a8, .ref a9, .ref a10, .ref a11, .ref a12, .int i9, .ref a13, .int i10, .ref a14, .ref a15, .int i11, .ref a16, .ref a17, .ref a18, .ref a19, .int i12, .int i13, .int i14, .int i15, .int i16, .ref a20, .long j0, .ref a21, .ref a22, .ref a23, .ref a24])), (a4, .inl (cB, 1600, .inl xF3))] := by rw [ef90]; exact hD
  have hP9 := hP.sub (ws' := [(a0, .inr (12, [.int i0, .ref a1, .ref a2, .ref a3, .ref a4, .int i1, .ref a5, .int i2, .int (u75 0), .int (u75 1), .int (u75 2), .int (u75 3), .int (u75 4), .int (u75 5), .ref a6, .ref a7, .ref a8, .ref a9, .ref a10, .ref a11, .ref a12, .int i9, .ref a13, .int i10, .ref a14, .ref a15, .int i11, .ref a16, .ref a17, .ref a18, .ref a19, .int i12, .int i13, .int i14, .int i15, .int i16, .ref a20, .long j0, .ref a21, .ref a22, .ref a23, .ref a24])), (a4, .inl (cB, 1600, .inl xF3)), (a6, .inl (cI, 544, .inl f90))]) [1, 2, 0] rfl
  have hD9 := hD.sub (ws' := [(a0, .inr (12, [.int i0, .ref a1, .ref a2, .ref a3, .ref a4, .int i1, .ref a5, .int i2, .int (u75 0), .int (u75 1), .int (u75 2), .int (u75 3), .int (u75 4), .int (u75 5), .ref a6, .ref a7, .ref a8, .ref a9, .ref a10, .ref a11, .ref a12, .int i9, .ref a13, .int i10, .ref a14, .ref a15, .int i11, .ref a16, .ref a17, .ref a18, .ref a19, .int i12, .int i13, .int i14, .int i15, .int i16, .ref a20, .long j0, .ref a21, .ref a22, .ref a23, .ref a24])), (a4, .inl (cB, 1600, .inl xF3)), (a6, .inl (cI, 544, .inl f90))]) [1, 2, 0] (by decide) rfl
  rw [hQ]
  exact W.vret hx hb hr (fun t ht hW => ⟨⟨(pickG 0 [(u75 0), (u75 1), (u75 2), (u75 3), (u75 4), (u75 5)], pickG (fun _ => 0) [f90], pickG (fun _ => 0) []), rfl, ⟨(show (0 : Int) ≤ (u75 0).toInt ∧ (u75 0).toInt ≤ 1600 from hw77), (show (0 : Int) ≤ (u75 1).toInt ∧ (u75 1).toInt ≤ 1600 from hw78), (show (0 : Int) ≤ (u75 2).toInt ∧ (u75 2).toInt ≤ 6 from hw79), (show (0 : Int) ≤ (u75 4).toInt ∧ (u75 4).toInt ≤ 3 from hw80), (show (u75 1).toInt ≤ (u75 0).toInt from by omega), (show (2 ≤ (u75 2).toInt → (u75 1).toInt + 1 ≤ (u75 0).toInt) from by omega), (show i4.toInt ≤ (u75 1).toInt from by omega), (show FG (u75 4).toInt f90 from fun h9 => ⟨df90, (by rw [ef90, wat_nei (by omega), ef85, wat_nei (by omega), ef71, wat_nei (by omega), ef57, wat_nei (by omega), ef40, wat_nei (by omega), ef22, wat_nei (by omega)]; omega)⟩), trivial⟩, (by rw [ht]; exact hP9), hD9⟩, hS.F ht⟩) hS.2.2 dX12_readNose_124
theorem dX12_readPawl_0 : decode cX12_readPawl 0 = .ok (.sipush 248, 3) := by decide +kernel
theorem dX12_readPawl_3 : decode cX12_readPawl 3 = .ok (.iconst 3, 1) := by decide +kernel
theorem dX12_readPawl_4 : decode cX12_readPawl 4 = .ok (.aload_n 0, 1) := by decide +kernel
theorem dX12_readPawl_5 : decode cX12_readPawl 5 = .ok (.getfield 34, 3) := by decide +kernel
theorem dX12_readPawl_8 : decode cX12_readPawl 8 = .ok (.bipush 7, 2) := by decide +kernel
theorem dX12_readPawl_10 : decode cX12_readPawl 10 = .ok (.iaload, 1) := by decide +kernel
theorem dX12_readPawl_11 : decode cX12_readPawl 11 = .ok (.imul, 1) := by decide +kernel
theorem dX12_readPawl_12 : decode cX12_readPawl 12 = .ok (.iadd, 1) := by decide +kernel
theorem dX12_readPawl_13 : decode cX12_readPawl 13 = .ok (.istore_n 1, 1) := by decide +kernel
theorem dX12_readPawl_14 : decode cX12_readPawl 14 = .ok (.aload_n 0, 1) := by decide +kernel
theorem dX12_readPawl_15 : decode cX12_readPawl 15 = .ok (.getfield 34, 3) := by decide +kernel
theorem dX12_readPawl_18 : decode cX12_readPawl 18 = .ok (.iload_n 1, 1) := by decide +kernel
theorem dX12_readPawl_19 : decode cX12_readPawl 19 = .ok (.aload_n 0, 1) := by decide +kernel
theorem dX12_readPawl_20 : decode cX12_readPawl 20 = .ok (.ldc 189, 2) := by decide +kernel
theorem dX12_readPawl_22 : decode cX12_readPawl 22 = .ok (.iconst 0, 1) := by decide +kernel
theorem dX12_readPawl_23 : decode cX12_readPawl 23 = .ok (.aload_n 0, 1) := by decide +kernel
theorem dX12_readPawl_24 : decode cX12_readPawl 24 = .ok (.getfield 34, 3) := by decide +kernel
theorem dX12_readPawl_27 : decode cX12_readPawl 27 = .ok (.bipush 6, 2) := by decide +kernel
theorem dX12_readPawl_29 : decode cX12_readPawl 29 = .ok (.iaload, 1) := by decide +kernel
theorem dX12_readPawl_30 : decode cX12_readPawl 30 = .ok (.iconst 1, 1) := by decide +kernel
theorem dX12_readPawl_31 : decode cX12_readPawl 31 = .ok (.isub, 1) := by decide +kernel
theorem dX12_readPawl_32 : decode cX12_readPawl 32 = .ok (.invokevirtual 181, 3) := by decide +kernel
theorem dX12_readPawl_35 : decode cX12_readPawl 35 = .ok (.iastore, 1) := by decide +kernel
theorem dX12_readPawl_36 : decode cX12_readPawl 36 = .ok (.aload_n 0, 1) := by decide +kernel
theorem dX12_readPawl_37 : decode cX12_readPawl 37 = .ok (.getfield 34, 3) := by decide +kernel
theorem dX12_readPawl_40 : decode cX12_readPawl 40 = .ok (.iload_n 1, 1) := by decide +kernel
theorem dX12_readPawl_41 : decode cX12_readPawl 41 = .ok (.iconst 1, 1) := by decide +kernel
theorem dX12_readPawl_42 : decode cX12_readPawl 42 = .ok (.iadd, 1) := by decide +kernel
theorem dX12_readPawl_43 : decode cX12_readPawl 43 = .ok (.aload_n 0, 1) := by decide +kernel
theorem dX12_readPawl_44 : decode cX12_readPawl 44 = .ok (.ldc 191, 2) := by decide +kernel
theorem dX12_readPawl_46 : decode cX12_readPawl 46 = .ok (.iconst 1, 1) := by decide +kernel
theorem dX12_readPawl_47 : decode cX12_readPawl 47 = .ok (.bipush 99, 2) := by decide +kernel
theorem dX12_readPawl_49 : decode cX12_readPawl 49 = .ok (.invokevirtual 181, 3) := by decide +kernel
theorem dX12_readPawl_52 : decode cX12_readPawl 52 = .ok (.iastore, 1) := by decide +kernel
theorem dX12_readPawl_53 : decode cX12_readPawl 53 = .ok (.aload_n 0, 1) := by decide +kernel
theorem dX12_readPawl_54 : decode cX12_readPawl 54 = .ok (.getfield 34, 3) := by decide +kernel
theorem dX12_readPawl_57 : decode cX12_readPawl 57 = .ok (.iload_n 1, 1) := by decide +kernel
theorem dX12_readPawl_58 : decode cX12_readPawl 58 = .ok (.iconst 2, 1) := by decide +kernel
theorem dX12_readPawl_59 : decode cX12_readPawl 59 = .ok (.iadd, 1) := by decide +kernel
theorem dX12_readPawl_60 : decode cX12_readPawl 60 = .ok (.aload_n 0, 1) := by decide +kernel
theorem dX12_readPawl_61 : decode cX12_readPawl 61 = .ok (.ldc 204, 2) := by decide +kernel
theorem dX12_readPawl_63 : decode cX12_readPawl 63 = .ok (.iconst 2, 1) := by decide +kernel
theorem dX12_readPawl_64 : decode cX12_readPawl 64 = .ok (.bipush 30, 2) := by decide +kernel
theorem dX12_readPawl_66 : decode cX12_readPawl 66 = .ok (.invokevirtual 181, 3) := by decide +kernel
theorem dX12_readPawl_69 : decode cX12_readPawl 69 = .ok (.iastore, 1) := by decide +kernel
theorem dX12_readPawl_70 : decode cX12_readPawl 70 = .ok (.aload_n 0, 1) := by decide +kernel
theorem dX12_readPawl_71 : decode cX12_readPawl 71 = .ok (.getfield 34, 3) := by decide +kernel
theorem dX12_readPawl_74 : decode cX12_readPawl 74 = .ok (.bipush 7, 2) := by decide +kernel
theorem dX12_readPawl_76 : decode cX12_readPawl 76 = .ok (.dup2, 1) := by decide +kernel
theorem dX12_readPawl_77 : decode cX12_readPawl 77 = .ok (.iaload, 1) := by decide +kernel
theorem dX12_readPawl_78 : decode cX12_readPawl 78 = .ok (.iconst 1, 1) := by decide +kernel
theorem dX12_readPawl_79 : decode cX12_readPawl 79 = .ok (.iadd, 1) := by decide +kernel
theorem dX12_readPawl_80 : decode cX12_readPawl 80 = .ok (.iastore, 1) := by decide +kernel
theorem dX12_readPawl_81 : decode cX12_readPawl 81 = .ok (.return_, 1) := by decide +kernel
set_option maxHeartbeats 4000000 in
set_option maxRecDepth 100000 in
theorem s_X12_readPawl (l : Launch) (dC : Nat → ClassId) (dI : Nat → Nat → Nat) (cI cZ cB cJ cM cG : ClassId) (a0 a1 a2 a3 a4 a5 a6 a7 a8 a9 a10 a11 a12 a13 a14 a15 a16 a17 a18 a19 a20 a21 a22 a23 a24 : Nat) (i0 i1 i2 i3 i4 i5 i6 i7 i8 i9 i10 i11 i12 i13 i14 i15 i16 : Int32) (j0 : Int64) (xF3 xF5 : Nat → Int32) (sz : Nat) (p_0 : (0 : Int) ≤ i1.toInt ∧ i1.toInt ≤ 1600) (p_1 : (0 : Int) ≤ i2.toInt ∧ i2.toInt ≤ 1600) (p_2 : (0 : Int) ≤ i3.toInt ∧ i3.toInt ≤ 1600) (p_3 : (0 : Int) ≤ i4.toInt ∧ i4.toInt ≤ 1600) (p_4 : (0 : Int) ≤ i5.toInt ∧ i5.toInt ≤ 6) (p_5 : (0 : Int) ≤ i7.toInt ∧ i7.toInt ≤ 3) (p_6 : (0 : Int) ≤ i11.toInt ∧ i11.toInt ≤ 59) (p_7 : WI 0 xF5) (p_8 : 1 ≤ wat xF5 1) (p_9 : wat xF5 7 ≤ 3) (p_10 : i4.toInt ≤ i3.toInt) (p_11 : (2 ≤ i5.toInt → i4.toInt + 1 ≤ i3.toInt)) : Met l yX12_readPawl (kw yX12_readPawl cX12_readPawl 2 none) ({ frames := 8, cells := 0, slots := 0, locals := 174 } : Room) (va_Pc [.ref a0] (kPreX dC dI [(cI, .int), (cZ, .boolean), (cB, .byte), (cJ, .long), (cM, .object RX2), (cG, .array .int)] [(a0, .inr (12, [.int i0, .ref a1, .ref a2, .ref a3, .ref a4, .int i1, .ref a5, .int i2, .int i3, .int i4, .int i5, .int i6, .int i7, .int i8, .ref a6, .ref a7, .ref a8, .ref a9, .ref a10, .ref a11, .ref a12, .int i9, .ref a13, .int i10, .ref a14, .ref a15, .int i11, .ref a16, .ref a17, .ref a18, .ref a19, .int i12, .int i13, .int i14, .int i15, .int i16, .ref a20, .long j0, .ref a21, .ref a22, .ref a23, .ref a24])), (a4, .inl (cB, 1600, .inl xF3)), (a6, .inl (cI, 544, .inl xF5))] sz NT)) (va_Qv (fun (u9 : (Nat → Int32) × (Nat → Nat → Int32) × (Nat → Nat → Int64)) => ((0 : Int) ≤ (u9.1 0).toInt ∧ (u9.1 0).toInt ≤ 1600) ∧ ((0 : Int) ≤ (u9.1 1).toInt ∧ (u9.1 1).toInt ≤ 1600) ∧ ((0 : Int) ≤ (u9.1 2).toInt ∧ (u9.1 2).toInt ≤ 6) ∧ ((0 : Int) ≤ (u9.1 4).toInt ∧ (u9.1 4).toInt ≤ 3) ∧ ((u9.1 1).toInt ≤ (u9.1 0).toInt) ∧ ((2 ≤ (u9.1 2).toInt → (u9.1 1).toInt + 1 ≤ (u9.1 0).toInt)) ∧ (i4.toInt ≤ (u9.1 1).toInt) ∧ (FG (u9.1 4).toInt (u9.2.1 0)) ∧ True) (fun u9 t => va_P (dC, dI) vwCl [(a0, .inr (12, [.int i0, .ref a1, .ref a2, .ref a3, .ref a4, .int i1, .ref a5, .int i2, .int (u9.1 0), .int (u9.1 1), .int (u9.1 2), .int (u9.1 3), .int (u9.1 4), .int (u9.1 5), .ref a6, .ref a7, .ref a8, .ref a9, .ref a10, .ref a11, .ref a12, .int i9, .ref a13, .int i10, .ref a14, .ref a15, .int i11, .ref a16, .ref a17, .ref a18, .ref a19, .int i12, .int i13, .int i14, .int i15, .int i16, .ref a20, .long j0, .ref a21, .ref a22, .ref a23, .ref a24])), (a4, .inl (cB, 1600, .inl xF3)), (a6, .inl (cI, 544, .inl (u9.2.1 0)))] t.heap ∧ va_D (va_A [(a0, .inr (12, [.int i0, .ref a1, .ref a2, .ref a3, .ref a4, .int i1, .ref a5, .int i2, .int i3, .int i4, .int i5, .int i6, .int i7, .int i8, .ref a6, .ref a7, .ref a8, .ref a9, .ref a10, .ref a11, .ref a12, .int i9, .ref a13, .int i10, .ref a14, .ref a15, .int i11, .ref a16, .ref a17, .ref a18, .ref a19, .int i12, .int i13, .int i14, .int i15, .int i16, .ref a20, .long j0, .ref a21, .ref a22, .ref a23, .ref a24])), (a4, .inl (cB, 1600, .inl xF3)), (a6, .inl (cI, 544, .inl xF5))] sz) [(a0, .inr (12, [.int i0, .ref a1, .ref a2, .ref a3, .ref a4, .int i1, .ref a5, .int i2, .int (u9.1 0), .int (u9.1 1), .int (u9.1 2), .int (u9.1 3), .int (u9.1 4), .int (u9.1 5), .ref a6, .ref a7, .ref a8, .ref a9, .ref a10, .ref a11, .ref a12, .int i9, .ref a13, .int i10, .ref a14, .ref a15, .int i11, .ref a16, .ref a17, .ref a18, .ref a19, .int i12, .int i13, .int i14, .int i15, .int i16, .ref a20, .long j0, .ref a21, .ref a22, .ref a23, .ref a24])), (a4, .inl (cB, 1600, .inl xF3)), (a6, .inl (cI, 544, .inl (u9.2.1 0)))]) (va_A [(a0, .inr (12, [.int i0, .ref a1, .ref a2, .ref a3, .ref a4, .int i1, .ref a5, .int i2, .int i3, .int i4, .int i5, .int i6, .int i7, .int i8, .ref a6, .ref a7, .ref a8, .ref a9, .ref a10, .ref a11, .ref a12, .int i9, .ref a13, .int i10, .ref a14, .ref a15, .int i11, .ref a16, .ref a17, .ref a18, .ref a19, .int i12, .int i13, .int i14, .int i15, .int i16, .ref a20, .long j0, .ref a21, .ref a22, .ref a23, .ref a24])), (a4, .inl (cB, 1600, .inl xF3)), (a6, .inl (cI, 544, .inl xF5))] sz)) 0 0 (va_A [(a0, .inr (12, [.int i0, .ref a1, .ref a2, .ref a3, .ref a4, .int i1, .ref a5, .int i2, .int i3, .int i4, .int i5, .int i6, .int i7, .int i8, .ref a6, .ref a7, .ref a8, .ref a9, .ref a10, .ref a11, .ref a12, .int i9, .ref a13, .int i10, .ref a14, .ref a15, .int i11, .ref a16, .ref a17, .ref a18, .ref a19, .int i12, .int i13, .int i14, .int i15, .int i16, .ref a20, .long j0, .ref a21, .ref a22, .ref a23, .ref a24])), (a4, .inl (cB, 1600, .inl xF3)), (a6, .inl (cI, 544, .inl xF5))] sz) := by
  refine kEnterX (by decide) (Nat.le_of_ble_eq_true rfl) ?_
  intro p e s m below meth c ls hx hb hr hml hown hlocks hin hwd hsz hP hK hD hN hl
  subst hsz
  generalize hAe : va_A [(a0, .inr (12, [.int i0, .ref a1, .ref a2, .ref a3, .ref a4, .int i1, .ref a5, .int i2, .int i3, .int i4, .int i5, .int i6, .int i7, .int i8, .ref a6, .ref a7, .ref a8, .ref a9, .ref a10, .ref a11, .ref a12, .int i9, .ref a13, .int i10, .ref a14, .ref a15, .int i11, .ref a16, .ref a17, .ref a18, .ref a19, .int i12, .int i13, .int i14, .int i15, .int i16, .ref a20, .long j0, .ref a21, .ref a22, .ref a23, .ref a24])), (a4, .inl (cB, 1600, .inl xF3)), (a6, .inl (cI, 544, .inl xF5))] s.heap.size = A at hD hN ⊢
  have hA : ∀ q : Nat, s.heap.size ≤ q → A q := fun q h => by rw [← hAe]; exact Or.inr h
  have hS : va_S A s.heap s.heap [] := va_S.rf
  have hl : lv_has ls 2 [(0, .ref a0)] := hl
  obtain ⟨Q, hQ⟩ : ∃ Q, Q = MQ below (va_Qv (fun (u9 : (Nat → Int32) × (Nat → Nat → Int32) × (Nat → Nat → Int64)) => ((0 : Int) ≤ (u9.1 0).toInt ∧ (u9.1 0).toInt ≤ 1600) ∧ ((0 : Int) ≤ (u9.1 1).toInt ∧ (u9.1 1).toInt ≤ 1600) ∧ ((0 : Int) ≤ (u9.1 2).toInt ∧ (u9.1 2).toInt ≤ 6) ∧ ((0 : Int) ≤ (u9.1 4).toInt ∧ (u9.1 4).toInt ≤ 3) ∧ ((u9.1 1).toInt ≤ (u9.1 0).toInt) ∧ ((2 ≤ (u9.1 2).toInt → (u9.1 1).toInt + 1 ≤ (u9.1 0).toInt)) ∧ (i4.toInt ≤ (u9.1 1).toInt) ∧ (FG (u9.1 4).toInt (u9.2.1 0)) ∧ True) (fun u9 t => va_P (dC, dI) vwCl [(a0, .inr (12, [.int i0, .ref a1, .ref a2, .ref a3, .ref a4, .int i1, .ref a5, .int i2, .int (u9.1 0), .int (u9.1 1), .int (u9.1 2), .int (u9.1 3), .int (u9.1 4), .int (u9.1 5), .ref a6, .ref a7, .ref a8, .ref a9, .ref a10, .ref a11, .ref a12, .int i9, .ref a13, .int i10, .ref a14, .ref a15, .int i11, .ref a16, .ref a17, .ref a18, .ref a19, .int i12, .int i13, .int i14, .int i15, .int i16, .ref a20, .long j0, .ref a21, .ref a22, .ref a23, .ref a24])), (a4, .inl (cB, 1600, .inl xF3)), (a6, .inl (cI, 544, .inl (u9.2.1 0)))] t.heap ∧ va_D A [(a0, .inr (12, [.int i0, .ref a1, .ref a2, .ref a3, .ref a4, .int i1, .ref a5, .int i2, .int (u9.1 0), .int (u9.1 1), .int (u9.1 2), .int (u9.1 3), .int (u9.1 4), .int (u9.1 5), .ref a6, .ref a7, .ref a8, .ref a9, .ref a10, .ref a11, .ref a12, .int i9, .ref a13, .int i10, .ref a14, .ref a15, .int i11, .ref a16, .ref a17, .ref a18, .ref a19, .int i12, .int i13, .int i14, .int i15, .int i16, .ref a20, .long j0, .ref a21, .ref a22, .ref a23, .ref a24])), (a4, .inl (cB, 1600, .inl xF3)), (a6, .inl (cI, 544, .inl (u9.2.1 0)))]) A) ([.ref a0] : List Value).toArray s 0 0 A := ⟨_, rfl⟩
  rw [← hQ]
  have k0 : (0 : Int32).toInt = 0 := by decide
  have k1 : (1 : Int32).toInt = 1 := by decide
  have k2 : (2 : Int32).toInt = 2 := by decide
  have k3 : (3 : Int32).toInt = 3 := by decide
  have k6 : (6 : Int32).toInt = 6 := by decide
  have k7 : (7 : Int32).toInt = 7 := by decide
  have k30 : (30 : Int32).toInt = 30 := by decide
  have k99 : (99 : Int32).toInt = 99 := by decide
  have k248 : (248 : Int32).toInt = 248 := by decide
  obtain ⟨sa189, sav189, sn189, sf189, hsn189, hR189, hks189⟩ := hN.2 _ rf_RX12_189
  have hN189 : NS sa189 sav189 sn189 sf189 A s := ⟨hN.1, hsn189.1, hks189⟩
  have hsl189 : sn189 = 2 := hsn189.2
  obtain ⟨sa191, sav191, sn191, sf191, hsn191, hR191, hks191⟩ := hN.2 _ rf_RX12_191
  have hN191 : NS sa191 sav191 sn191 sf191 A s := ⟨hN.1, hsn191.1, hks191⟩
  have hsl191 : sn191 = 2 := hsn191.2
  obtain ⟨sa204, sav204, sn204, sf204, hsn204, hR204, hks204⟩ := hN.2 _ rf_RX12_204
  have hN204 : NS sa204 sav204 sn204 sf204 A s := ⟨hN.1, hsn204.1, hks204⟩
  have hsl204 : sn204 = 5 := hsn204.2
  refine lv_sipush (v := 248) hx hb dX12_readPawl_0 (by decide) ?_
  refine lv_iconst (v := 3) hx hb dX12_readPawl_3 (by decide) ?_
  refine lv_aload_n hx hb dX12_readPawl_4 rfl (lv_at hl 0 rfl) ?_
  refine va_get (D := (dC, dI)) (ci := 12) (v := .ref a6) (C := RX12) (T := TX12) (N := 42) hx hb hwd inlX12 hown hK hP 0 rfl rfl 14 (by decide) (hwd _ kr49_15) (fun _ h9 => h9) rfl dX12_readPawl_5 ?_
  refine lv_bipush (v := 7) hx hb dX12_readPawl_8 (by decide) ?_
  have h1 : vp_in (7 : Int32) 544 := (vin (by decide))
  refine va_iald hx hb hK hP 2 0 rfl rfl h1 dX12_readPawl_10 ?_
  refine lv_topi (fun x2 ex2 => ?_)
  have ix2 := wat_lit (k := 7) ex2 (by decide)
  have wh3 : whd 0 xF5 := p_7.1
  unfold whd at wh3
  refine lv_imul hx hb dX12_readPawl_11 ?_
  refine lv_topi (fun x4 ex4 => ?_)
  have tx4 := ia_mull (a := (3 : Int32)) (b := x2) 3 (by decide) (by omega) (by omega)
  rw [← ex4] at tx4
  refine lv_iadd hx hb dX12_readPawl_12 ?_
  refine lv_topi (fun x5 ex5 => ?_)
  have tx5 := ia_add (a := (248 : Int32)) (b := x4) (by omega) (by omega)
  rw [← ex5] at tx5
  refine lv_istore_n (lv' := [(1, .int x5), (0, .ref a0)]) hx hb dX12_readPawl_13 rfl hl (by decide) rfl (fun ls hl => ?_)
  refine lv_aload_n hx hb dX12_readPawl_14 rfl (lv_at hl 1 rfl) ?_
  refine va_get (D := (dC, dI)) (ci := 12) (v := .ref a6) (C := RX12) (T := TX12) (N := 42) hx hb hwd inlX12 hown hK hP 0 rfl rfl 14 (by decide) (hwd _ kr49_15) (fun _ h9 => h9) rfl dX12_readPawl_15 ?_
  refine lv_iload_n hx hb dX12_readPawl_18 rfl (lv_at hl 0 rfl) ?_
  refine lv_aload_n hx hb dX12_readPawl_19 rfl (lv_at hl 1 rfl) ?_
  refine va_ldcS hx hb hown hR189 dX12_readPawl_20 ?_
  refine lv_iconst (v := 0) hx hb dX12_readPawl_22 (by decide) ?_
  refine lv_aload_n hx hb dX12_readPawl_23 rfl (lv_at hl 1 rfl) ?_
  refine va_get (D := (dC, dI)) (ci := 12) (v := .ref a6) (C := RX12) (T := TX12) (N := 42) hx hb hwd inlX12 hown hK hP 0 rfl rfl 14 (by decide) (hwd _ kr49_15) (fun _ h9 => h9) rfl dX12_readPawl_24 ?_
  refine lv_bipush (v := 6) hx hb dX12_readPawl_27 (by decide) ?_
  have h6 : vp_in (6 : Int32) 544 := (vin (by decide))
  refine va_iald hx hb hK hP 2 0 rfl rfl h6 dX12_readPawl_29 ?_
  refine lv_topi (fun x7 ex7 => ?_)
  have ix7 := wat_lit (k := 6) ex7 (by decide)
  have ix7 := wat_lit (F := xF5) (k := 6) (show x7 = xF5 (6 : Int32).toNatClampNeg from by rw [ex7]) (by decide)
  refine lv_iconst (v := 1) hx hb dX12_readPawl_30 (by decide) ?_
  refine lv_isub hx hb dX12_readPawl_31 ?_
  refine lv_topi (fun x8 ex8 => ?_)
  have tx8 := ia_sub (a := x7) (b := (1 : Int32)) (by omega) (by omega)
  rw [← ex8] at tx8
  have hPc := hP.sub (ws' := [(a0, .inr (12, [.int i0, .ref a1, .ref a2, .ref a3, .ref a4, .int i1, .ref a5, .int i2, .int i3, .int i4, .int i5, .int i6, .int i7, .int i8, .ref a6, .ref a7, .ref a8, .ref a9, .ref a10, .ref a11, .ref a12, .int i9, .ref a13, .int i10, .ref a14, .ref a15, .int i11, .ref a16, .ref a17, .ref a18, .ref a19, .int i12, .int i13, .int i14, .int i15, .int i16, .ref a20, .long j0, .ref a21, .ref a22, .ref a23, .ref a24])), (a4, .inl (cB, 1600, .inl xF3))]) [0, 1] rfl
  have hDc := hD.sub (ws' := [(a0, .inr (12, [.int i0, .ref a1, .ref a2, .ref a3, .ref a4, .int i1, .ref a5, .int i2, .int i3, .int i4, .int i5, .int i6, .int i7, .int i8, .ref a6, .ref a7, .ref a8, .ref a9, .ref a10, .ref a11, .ref a12, .int i9, .ref a13, .int i10, .ref a14, .ref a15, .int i11, .ref a16, .ref a17, .ref a18, .ref a19, .int i12, .int i13, .int i14, .int i15, .int i16, .ref a20, .long j0, .ref a21, .ref a22, .ref a23, .ref a24])), (a4, .inl (cB, 1600, .inl xF3))]) [0, 1] (by decide) rfl
  have hFc := va_free (wc := [(a0, .inr (12, [.int i0, .ref a1, .ref a2, .ref a3, .ref a4, .int i1, .ref a5, .int i2, .int i3, .int i4, .int i5, .int i6, .int i7, .int i8, .ref a6, .ref a7, .ref a8, .ref a9, .ref a10, .ref a11, .ref a12, .int i9, .ref a13, .int i10, .ref a14, .ref a15, .int i11, .ref a16, .ref a17, .ref a18, .ref a19, .int i12, .int i13, .int i14, .int i15, .int i16, .ref a20, .long j0, .ref a21, .ref a22, .ref a23, .ref a24])), (a4, .inl (cB, 1600, .inl xF3))]) hD hS hA [0, 1] rfl
  refine va_calli (va_runV (As := [.ref sa189, .int 0, .int x8]) (rest := [.int x5, .ref a6]) ⟨hx, hb, hml, hown, hwd⟩ (s_X12_told l dC dI cI cZ cB cJ cM cG a0 a1 a2 a3 a4 a5 a6 a7 a8 a9 a10 a11 a12 a13 a14 a15 a16 a17 a18 a19 a20 a21 a22 a23 a24 i0 i1 i2 i3 i4 i5 i6 i7 i8 i9 i10 i11 i12 i13 i14 i15 i16 j0 xF3 0 x8 sa189 sav189 sn189 sf189 s.heap.size (show (0 : Int) ≤ i1.toInt ∧ i1.toInt ≤ 1600 from p_0) (show (0 : Int) ≤ i2.toInt ∧ i2.toInt ≤ 1600 from p_1) (show (0 : Int) ≤ i3.toInt ∧ i3.toInt ≤ 1600 from p_2) (show (0 : Int) ≤ i4.toInt ∧ i4.toInt ≤ 1600 from p_3) (show (0 : Int) ≤ i5.toInt ∧ i5.toInt ≤ 6 from p_4) (show (0 : Int) ≤ i7.toInt ∧ i7.toInt ≤ 3 from p_5) (show (0 : Int) ≤ i11.toInt ∧ i11.toInt ≤ 59 from p_6) (show (0 : Int) ≤ (0 : Int32).toInt ∧ (0 : Int32).toInt ≤ 4 from ⟨by omega, by omega⟩) (show (-1 : Int) ≤ x8.toInt ∧ x8.toInt ≤ 999 from ⟨by omega, by omega⟩) p_10 p_11) (cwV 3 hwd (gV kr53_10 kr53_11 kr2_23 kr5_23 kr53_12) rfl rfl rfl (by decide +kernel) ⟨Nat.le_of_ble_eq_true rfl, Nat.le_of_ble_eq_true rfl⟩) (kPreVX hPc hK hDc (NS_st _ _ _ _) hN189 hS hFc (ci := 12) (q0 := 0) rfl rfl) rfl rfl hl.1 rfl (lv_room (Nat.le_of_ble_eq_true rfl)) dX12_readPawl_32 ⟨Nat.le_of_ble_eq_true rfl, Nat.le_of_ble_eq_true rfl⟩) hS (fun q _ h => hFc q h) hFc (fun r9 u10 t H1 locs ht9 hvm hw hB hz1 hk1 hS => ?_)
  obtain ⟨u11, U11, V11⟩ := u10
  obtain ⟨hw12, hw13, hw14, hw15, hw16, hw17, hw18, hw19, hw20, -⟩ := hw
  replace hw12 : (r9.toInt = 0 ∨ ((0 : Int32).toInt ≤ r9.toInt ∧ r9.toInt ≤ x8.toInt)) := hw12
  replace hw13 : (0 : Int) ≤ (u11 0).toInt ∧ (u11 0).toInt ≤ 1600 := hw13
  replace hw14 : (0 : Int) ≤ (u11 1).toInt ∧ (u11 1).toInt ≤ 1600 := hw14
  replace hw15 : (0 : Int) ≤ (u11 2).toInt ∧ (u11 2).toInt ≤ 6 := hw15
  replace hw16 : (0 : Int) ≤ (u11 4).toInt ∧ (u11 4).toInt ≤ 3 := hw16
  replace hw17 : (u11 1).toInt ≤ (u11 0).toInt := hw17
  replace hw18 : (2 ≤ (u11 2).toInt → (u11 1).toInt + 1 ≤ (u11 0).toInt) := hw18
  replace hw19 : i4.toInt ≤ (u11 1).toInt := hw19
  replace hw20 : ((u11 4).toInt = 0 → i7.toInt = 0 ∧ (0 : Int32).toInt ≤ r9.toInt ∧ r9.toInt ≤ x8.toInt ∧ i4.toInt + (sn189 : Int) + 1 ≤ (u11 1).toInt) := hw20
  obtain ⟨hP1, hD1⟩ := hB
  rw [ht9] at hP1
  obtain ⟨hP, hD⟩ := va_join (wr := [(a6, .inl (cI, 544, .inl xF5))]) (w1 := [(a0, .inr (12, [.int i0, .ref a1, .ref a2, .ref a3, .ref a4, .int i1, .ref a5, .int i2, .int (u11 0), .int (u11 1), .int (u11 2), .int (u11 3), .int (u11 4), .int (u11 5), .ref a6, .ref a7, .ref a8, .ref a9, .ref a10, .ref a11, .ref a12, .int i9, .ref a13, .int i10, .ref a14, .ref a15, .int i11, .ref a16, .ref a17, .ref a18, .ref a19, .int i12, .int i13, .int i14, .int i15, .int i16, .ref a20, .long j0, .ref a21, .ref a22, .ref a23, .ref a24])), (a4, .inl (cB, 1600, .inl xF3))]) hP hD [0, 1] [2] rfl rfl (by decide) (by decide) hk1 hFc hP1 hD1
  generalize H1 = H at hP hS ⊢
  replace hP : va_P (dC, dI) vwCl [(a6, .inl (cI, 544, .inl xF5)), (a0, .inr (12, [.int i0, .ref a1, .ref a2, .ref a3, .ref a4, .int i1, .ref a5, .int i2, .int (u11 0), .int (u11 1), .int (u11 2), .int (u11 3), .int (u11 4), .int (u11 5), .ref a6, .ref a7, .ref a8, .ref a9, .ref a10, .ref a11, .ref a12, .int i9, .ref a13, .int i10, .ref a14, .ref a15, .int i11, .ref a16, .ref a17, .ref a18, .ref a19, .int i12, .int i13, .int i14, .int i15, .int i16, .ref a20, .long j0, .ref a21, .ref a22, .ref a23, .ref a24])), (a4, .inl (cB, 1600, .inl xF3))] H := hP
  replace hD : va_D A [(a6, .inl (cI, 544, .inl xF5)), (a0, .inr (12, [.int i0, .ref a1, .ref a2, .ref a3, .ref a4, .int i1, .ref a5, .int i2, .int (u11 0), .int (u11 1), .int (u11 2), .int (u11 3), .int (u11 4), .int (u11 5), .ref a6, .ref a7, .ref a8, .ref a9, .ref a10, .ref a11, .ref a12, .int i9, .ref a13, .int i10, .ref a14, .ref a15, .int i11, .ref a16, .ref a17, .ref a18, .ref a19, .int i12, .int i13, .int i14, .int i15, .int i16, .ref a20, .long j0, .ref a21, .ref a22, .ref a23, .ref a24])), (a4, .inl (cB, 1600, .inl xF3))] := hD
  refine va_iast hx hb hK hP hD hS 0 0 rfl rfl (vp_of (by omega) (by omega)) dX12_readPawl_35 (fun H locs hP hD hS => ?_)
  obtain ⟨f21, ef21⟩ : ∃ f, f = upd xF5 x5.toNatClampNeg r9 := ⟨_, rfl⟩
  have df21 : WI 0 f21 := by rw [ef21]; exact WI_pst p_7 (by omega) (by omega) (fun h9 => by omega) (fun h9 => by omega)
  replace hP : va_P (dC, dI) vwCl [(a6, .inl (cI, 544, .inl f21)), (a0, .inr (12, [.int i0, .ref a1, .ref a2, .ref a3, .ref a4, .int i1, .ref a5, .int i2, .int (u11 0), .int (u11 1), .int (u11 2), .int (u11 3), .int (u11 4), .int (u11 5), .ref a6, .ref a7, .ref a8, .ref a9, .ref a10, .ref a11, .ref a12, .int i9, .ref a13, .int i10, .ref a14, .ref a15, .int i11, .ref a16, .ref a17, .ref a18, .ref a19, .int i12, .int i13, .int i14, .int i15, .int i16, .ref a20, .long j0, .ref a21, .ref a22, .ref a23, .ref a24])), (a4, .inl (cB, 1600, .inl xF3))] H := by rw [ef21]; exact hP
  replace hD : va_D A [(a6, .inl (cI, 544, .inl f21)), (a0, .inr (12, [.int i0, .ref a1, .ref a2, .ref a3, .ref a4, .int i1, .ref a5, .int i2, .int (u11 0), .int (u11 1), .int (u11 2), .int (u11 3), .int (u11 4), .int (u11 5), .ref a6, .ref a7, .ref a8, .ref a9, .ref a10, .ref a11, .ref a12, .int i9, .ref a13, .int i10, .ref a14, .ref a15, .int i11, .ref a16, .ref a17, .ref a18, .ref a19, .int i12, .int i13, .int i14, .int i15, .int i16, .ref a20, .long j0, .ref a21, .ref a22, .ref a23, .ref a24])), (a4, .inl (cB, 1600, .inl xF3))] := by rw [ef21]; exact hD
  refine lv_aload_n hx hb dX12_readPawl_36 rfl (lv_at hl 1 rfl) ?_
  refine va_get (D := (dC, dI)) (ci := 12) (v := .ref a6) (C := RX12) (T := TX12) (N := 42) hx hb hwd inlX12 hown hK hP 1 rfl rfl 14 (by decide) (hwd _ kr49_15) (fun _ h9 => h9) rfl dX12_readPawl_37 ?_
  refine lv_iload_n hx hb dX12_readPawl_40 rfl (lv_at hl 0 rfl) ?_
  refine lv_iconst (v := 1) hx hb dX12_readPawl_41 (by decide) ?_
  refine lv_iadd hx hb dX12_readPawl_42 ?_
  refine lv_topi (fun x22 ex22 => ?_)
  have tx22 := ia_add (a := x5) (b := (1 : Int32)) (by omega) (by omega)
  rw [← ex22] at tx22
  refine lv_aload_n hx hb dX12_readPawl_43 rfl (lv_at hl 1 rfl) ?_
  refine va_ldcS hx hb hown hR191 dX12_readPawl_44 ?_
  refine lv_iconst (v := 1) hx hb dX12_readPawl_46 (by decide) ?_
  refine lv_bipush (v := 99) hx hb dX12_readPawl_47 (by decide) ?_
  have hPc := hP.sub (ws' := [(a0, .inr (12, [.int i0, .ref a1, .ref a2, .ref a3, .ref a4, .int i1, .ref a5, .int i2, .int (u11 0), .int (u11 1), .int (u11 2), .int (u11 3), .int (u11 4), .int (u11 5), .ref a6, .ref a7, .ref a8, .ref a9, .ref a10, .ref a11, .ref a12, .int i9, .ref a13, .int i10, .ref a14, .ref a15, .int i11, .ref a16, .ref a17, .ref a18, .ref a19, .int i12, .int i13, .int i14, .int i15, .int i16, .ref a20, .long j0, .ref a21, .ref a22, .ref a23, .ref a24])), (a4, .inl (cB, 1600, .inl xF3))]) [1, 2] rfl
  have hDc := hD.sub (ws' := [(a0, .inr (12, [.int i0, .ref a1, .ref a2, .ref a3, .ref a4, .int i1, .ref a5, .int i2, .int (u11 0), .int (u11 1), .int (u11 2), .int (u11 3), .int (u11 4), .int (u11 5), .ref a6, .ref a7, .ref a8, .ref a9, .ref a10, .ref a11, .ref a12, .int i9, .ref a13, .int i10, .ref a14, .ref a15, .int i11, .ref a16, .ref a17, .ref a18, .ref a19, .int i12, .int i13, .int i14, .int i15, .int i16, .ref a20, .long j0, .ref a21, .ref a22, .ref a23, .ref a24])), (a4, .inl (cB, 1600, .inl xF3))]) [1, 2] (by decide) rfl
  have hFc := va_free (wc := [(a0, .inr (12, [.int i0, .ref a1, .ref a2, .ref a3, .ref a4, .int i1, .ref a5, .int i2, .int (u11 0), .int (u11 1), .int (u11 2), .int (u11 3), .int (u11 4), .int (u11 5), .ref a6, .ref a7, .ref a8, .ref a9, .ref a10, .ref a11, .ref a12, .int i9, .ref a13, .int i10, .ref a14, .ref a15, .int i11, .ref a16, .ref a17, .ref a18, .ref a19, .int i12, .int i13, .int i14, .int i15, .int i16, .ref a20, .long j0, .ref a21, .ref a22, .ref a23, .ref a24])), (a4, .inl (cB, 1600, .inl xF3))]) hD hS hA [1, 2] rfl
  refine va_calli (va_runV (As := [.ref sa191, .int 1, .int 99]) (rest := [.int x22, .ref a6]) ⟨hx, hb, hml, hown, hwd⟩ (s_X12_told l dC dI cI cZ cB cJ cM cG a0 a1 a2 a3 a4 a5 a6 a7 a8 a9 a10 a11 a12 a13 a14 a15 a16 a17 a18 a19 a20 a21 a22 a23 a24 i0 i1 i2 (u11 0) (u11 1) (u11 2) (u11 3) (u11 4) (u11 5) i9 i10 i11 i12 i13 i14 i15 i16 j0 xF3 1 99 sa191 sav191 sn191 sf191 H.size (show (0 : Int) ≤ i1.toInt ∧ i1.toInt ≤ 1600 from p_0) (show (0 : Int) ≤ i2.toInt ∧ i2.toInt ≤ 1600 from p_1) (show (0 : Int) ≤ (u11 0).toInt ∧ (u11 0).toInt ≤ 1600 from hw13) (show (0 : Int) ≤ (u11 1).toInt ∧ (u11 1).toInt ≤ 1600 from hw14) (show (0 : Int) ≤ (u11 2).toInt ∧ (u11 2).toInt ≤ 6 from hw15) (show (0 : Int) ≤ (u11 4).toInt ∧ (u11 4).toInt ≤ 3 from hw16) (show (0 : Int) ≤ i11.toInt ∧ i11.toInt ≤ 59 from p_6) (show (0 : Int) ≤ (1 : Int32).toInt ∧ (1 : Int32).toInt ≤ 4 from ⟨by omega, by omega⟩) (show (-1 : Int) ≤ (99 : Int32).toInt ∧ (99 : Int32).toInt ≤ 999 from ⟨by omega, by omega⟩) hw17 hw18) (cwV 3 hwd (gV kr53_10 kr53_11 kr2_23 kr5_23 kr53_12) rfl rfl rfl (by decide +kernel) ⟨Nat.le_of_ble_eq_true rfl, Nat.le_of_ble_eq_true rfl⟩) (kPreVX hPc hK hDc (NS_st _ _ _ _) hN191 hS hFc (ci := 12) (q0 := 0) rfl rfl) rfl rfl hl.1 rfl (lv_room (Nat.le_of_ble_eq_true rfl)) dX12_readPawl_49 ⟨Nat.le_of_ble_eq_true rfl, Nat.le_of_ble_eq_true rfl⟩) hS (fun q _ h => hFc q h) hFc (fun r23 u24 t H1 locs ht9 hvm hw hB hz1 hk1 hS => ?_)
  obtain ⟨u25, U25, V25⟩ := u24
  obtain ⟨hw26, hw27, hw28, hw29, hw30, hw31, hw32, hw33, hw34, -⟩ := hw
  replace hw26 : (r23.toInt = 0 ∨ ((1 : Int32).toInt ≤ r23.toInt ∧ r23.toInt ≤ (99 : Int32).toInt)) := hw26
  replace hw27 : (0 : Int) ≤ (u25 0).toInt ∧ (u25 0).toInt ≤ 1600 := hw27
  replace hw28 : (0 : Int) ≤ (u25 1).toInt ∧ (u25 1).toInt ≤ 1600 := hw28
  replace hw29 : (0 : Int) ≤ (u25 2).toInt ∧ (u25 2).toInt ≤ 6 := hw29
  replace hw30 : (0 : Int) ≤ (u25 4).toInt ∧ (u25 4).toInt ≤ 3 := hw30
  replace hw31 : (u25 1).toInt ≤ (u25 0).toInt := hw31
  replace hw32 : (2 ≤ (u25 2).toInt → (u25 1).toInt + 1 ≤ (u25 0).toInt) := hw32
  replace hw33 : (u11 1).toInt ≤ (u25 1).toInt := hw33
  replace hw34 : ((u25 4).toInt = 0 → (u11 4).toInt = 0 ∧ (1 : Int32).toInt ≤ r23.toInt ∧ r23.toInt ≤ (99 : Int32).toInt ∧ (u11 1).toInt + (sn191 : Int) + 1 ≤ (u25 1).toInt) := hw34
  obtain ⟨hP1, hD1⟩ := hB
  rw [ht9] at hP1
  obtain ⟨hP, hD⟩ := va_join (wr := [(a6, .inl (cI, 544, .inl f21))]) (w1 := [(a0, .inr (12, [.int i0, .ref a1, .ref a2, .ref a3, .ref a4, .int i1, .ref a5, .int i2, .int (u25 0), .int (u25 1), .int (u25 2), .int (u25 3), .int (u25 4), .int (u25 5), .ref a6, .ref a7, .ref a8, .ref a9, .ref a10, .ref a11, .ref a12, .int i9, .ref a13, .int i10, .ref a14, .ref a15, .int i11, .ref a16, .ref a17, .ref a18, .ref a19, .int i12, .int i13, .int i14, .int i15, .int i16, .ref a20, .long j0, .ref a21, .ref a22, .ref a23, .ref a24])), (a4, .inl (cB, 1600, .inl xF3))]) hP hD [1, 2] [0] rfl rfl (by decide) (by decide) hk1 hFc hP1 hD1
  generalize H1 = H at hP hS ⊢
  replace hP : va_P (dC, dI) vwCl [(a6, .inl (cI, 544, .inl f21)), (a0, .inr (12, [.int i0, .ref a1, .ref a2, .ref a3, .ref a4, .int i1, .ref a5, .int i2, .int (u25 0), .int (u25 1), .int (u25 2), .int (u25 3), .int (u25 4), .int (u25 5), .ref a6, .ref a7, .ref a8, .ref a9, .ref a10, .ref a11, .ref a12, .int i9, .ref a13, .int i10, .ref a14, .ref a15, .int i11, .ref a16, .ref a17, .ref a18, .ref a19, .int i12, .int i13, .int i14, .int i15, .int i16, .ref a20, .long j0, .ref a21, .ref a22, .ref a23, .ref a24])), (a4, .inl (cB, 1600, .inl xF3))] H := hP
  replace hD : va_D A [(a6, .inl (cI, 544, .inl f21)), (a0, .inr (12, [.int i0, .ref a1, .ref a2, .ref a3, .ref a4, .int i1, .ref a5, .int i2, .int (u25 0), .int (u25 1), .int (u25 2), .int (u25 3), .int (u25 4), .int (u25 5), .ref a6, .ref a7, .ref a8, .ref a9, .ref a10, .ref a11, .ref a12, .int i9, .ref a13, .int i10, .ref a14, .ref a15, .int i11, .ref a16, .ref a17, .ref a18, .ref a19, .int i12, .int i13, .int i14, .int i15, .int i16, .ref a20, .long j0, .ref a21, .ref a22, .ref a23, .ref a24])), (a4, .inl (cB, 1600, .inl xF3))] := hD
  refine va_iast hx hb hK hP hD hS 0 0 rfl rfl (vp_of (by omega) (by omega)) dX12_readPawl_52 (fun H locs hP hD hS => ?_)
  obtain ⟨f35, ef35⟩ : ∃ f, f = upd f21 x22.toNatClampNeg r23 := ⟨_, rfl⟩
  have df35 : WI 0 f35 := by rw [ef35]; exact WI_pst df21 (by omega) (by omega) (fun h9 => by omega) (fun h9 => by rw [ef21, wat_nei (by omega)]; omega)
  replace hP : va_P (dC, dI) vwCl [(a6, .inl (cI, 544, .inl f35)), (a0, .inr (12, [.int i0, .ref a1, .ref a2, .ref a3, .ref a4, .int i1, .ref a5, .int i2, .int (u25 0), .int (u25 1), .int (u25 2), .int (u25 3), .int (u25 4), .int (u25 5), .ref a6, .ref a7, .ref a8, .ref a9, .ref a10, .ref a11, .ref a12, .int i9, .ref a13, .int i10, .ref a14, .ref a15, .int i11, .ref a16, .ref a17, .ref a18, .ref a19, .int i12, .int i13, .int i14, .int i15, .int i16, .ref a20, .long j0, .ref a21, .ref a22, .ref a23, .ref a24])), (a4, .inl (cB, 1600, .inl xF3))] H := by rw [ef35]; exact hP
  replace hD : va_D A [(a6, .inl (cI, 544, .inl f35)), (a0, .inr (12, [.int i0, .ref a1, .ref a2, .ref a3, .ref a4, .int i1, .ref a5, .int i2, .int (u25 0), .int (u25 1), .int (u25 2), .int (u25 3), .int (u25 4), .int (u25 5), .ref a6, .ref a7, .ref a8, .ref a9, .ref a10, .ref a11, .ref a12, .int i9, .ref a13, .int i10, .ref a14, .ref a15, .int i11, .ref a16, .ref a17, .ref a18, .ref a19, .int i12, .int i13, .int i14, .int i15, .int i16, .ref a20, .long j0, .ref a21, .ref a22, .ref a23, .ref a24])), (a4, .inl (cB, 1600, .inl xF3))] := by rw [ef35]; exact hD
  refine lv_aload_n hx hb dX12_readPawl_53 rfl (lv_at hl 1 rfl) ?_
  refine va_get (D := (dC, dI)) (ci := 12) (v := .ref a6) (C := RX12) (T := TX12) (N := 42) hx hb hwd inlX12 hown hK hP 1 rfl rfl 14 (by decide) (hwd _ kr49_15) (fun _ h9 => h9) rfl dX12_readPawl_54 ?_
  refine lv_iload_n hx hb dX12_readPawl_57 rfl (lv_at hl 0 rfl) ?_
  refine lv_iconst (v := 2) hx hb dX12_readPawl_58 (by decide) ?_
  refine lv_iadd hx hb dX12_readPawl_59 ?_
  refine lv_topi (fun x36 ex36 => ?_)
  have tx36 := ia_add (a := x5) (b := (2 : Int32)) (by omega) (by omega)
  rw [← ex36] at tx36
  refine lv_aload_n hx hb dX12_readPawl_60 rfl (lv_at hl 1 rfl) ?_
  refine va_ldcS hx hb hown hR204 dX12_readPawl_61 ?_
  refine lv_iconst (v := 2) hx hb dX12_readPawl_63 (by decide) ?_
  refine lv_bipush (v := 30) hx hb dX12_readPawl_64 (by decide) ?_
  have hPc := hP.sub (ws' := [(a0, .inr (12, [.int i0, .ref a1, .ref a2, .ref a3, .ref a4, .int i1, .ref a5, .int i2, .int (u25 0), .int (u25 1), .int (u25 2), .int (u25 3), .int (u25 4), .int (u25 5), .ref a6, .ref a7, .ref a8, .ref a9, .ref a10, .ref a11, .ref a12, .int i9, .ref a13, .int i10, .ref a14, .ref a15, .int i11, .ref a16, .ref a17, .ref a18, .ref a19, .int i12, .int i13, .int i14, .int i15, .int i16, .ref a20, .long j0, .ref a21, .ref a22, .ref a23, .ref a24])), (a4, .inl (cB, 1600, .inl xF3))]) [1, 2] rfl
  have hDc := hD.sub (ws' := [(a0, .inr (12, [.int i0, .ref a1, .ref a2, .ref a3, .ref a4, .int i1, .ref a5, .int i2, .int (u25 0), .int (u25 1), .int (u25 2), .int (u25 3), .int (u25 4), .int (u25 5), .ref a6, .ref a7, .ref a8, .ref a9, .ref a10, .ref a11, .ref a12, .int i9, .ref a13, .int i10, .ref a14, .ref a15, .int i11, .ref a16, .ref a17, .ref a18, .ref a19, .int i12, .int i13, .int i14, .int i15, .int i16, .ref a20, .long j0, .ref a21, .ref a22, .ref a23, .ref a24])), (a4, .inl (cB, 1600, .inl xF3))]) [1, 2] (by decide) rfl
  have hFc := va_free (wc := [(a0, .inr (12, [.int i0, .ref a1, .ref a2, .ref a3, .ref a4, .int i1, .ref a5, .int i2, .int (u25 0), .int (u25 1), .int (u25 2), .int (u25 3), .int (u25 4), .int (u25 5), .ref a6, .ref a7, .ref a8, .ref a9, .ref a10, .ref a11, .ref a12, .int i9, .ref a13, .int i10, .ref a14, .ref a15, .int i11, .ref a16, .ref a17, .ref a18, .ref a19, .int i12, .int i13, .int i14, .int i15, .int i16, .ref a20, .long j0, .ref a21, .ref a22, .ref a23, .ref a24])), (a4, .inl (cB, 1600, .inl xF3))]) hD hS hA [1, 2] rfl
  refine va_calli (va_runV (As := [.ref sa204, .int 2, .int 30]) (rest := [.int x36, .ref a6]) ⟨hx, hb, hml, hown, hwd⟩ (s_X12_told l dC dI cI cZ cB cJ cM cG a0 a1 a2 a3 a4 a5 a6 a7 a8 a9 a10 a11 a12 a13 a14 a15 a16 a17 a18 a19 a20 a21 a22 a23 a24 i0 i1 i2 (u25 0) (u25 1) (u25 2) (u25 3) (u25 4) (u25 5) i9 i10 i11 i12 i13 i14 i15 i16 j0 xF3 2 30 sa204 sav204 sn204 sf204 H.size (show (0 : Int) ≤ i1.toInt ∧ i1.toInt ≤ 1600 from p_0) (show (0 : Int) ≤ i2.toInt ∧ i2.toInt ≤ 1600 from p_1) (show (0 : Int) ≤ (u25 0).toInt ∧ (u25 0).toInt ≤ 1600 from hw27) (show (0 : Int) ≤ (u25 1).toInt ∧ (u25 1).toInt ≤ 1600 from hw28) (show (0 : Int) ≤ (u25 2).toInt ∧ (u25 2).toInt ≤ 6 from hw29) (show (0 : Int) ≤ (u25 4).toInt ∧ (u25 4).toInt ≤ 3 from hw30) (show (0 : Int) ≤ i11.toInt ∧ i11.toInt ≤ 59 from p_6) (show (0 : Int) ≤ (2 : Int32).toInt ∧ (2 : Int32).toInt ≤ 4 from ⟨by omega, by omega⟩) (show (-1 : Int) ≤ (30 : Int32).toInt ∧ (30 : Int32).toInt ≤ 999 from ⟨by omega, by omega⟩) hw31 hw32) (cwV 3 hwd (gV kr53_10 kr53_11 kr2_23 kr5_23 kr53_12) rfl rfl rfl (by decide +kernel) ⟨Nat.le_of_ble_eq_true rfl, Nat.le_of_ble_eq_true rfl⟩) (kPreVX hPc hK hDc (NS_st _ _ _ _) hN204 hS hFc (ci := 12) (q0 := 0) rfl rfl) rfl rfl hl.1 rfl (lv_room (Nat.le_of_ble_eq_true rfl)) dX12_readPawl_66 ⟨Nat.le_of_ble_eq_true rfl, Nat.le_of_ble_eq_true rfl⟩) hS (fun q _ h => hFc q h) hFc (fun r37 u38 t H1 locs ht9 hvm hw hB hz1 hk1 hS => ?_)
  obtain ⟨u39, U39, V39⟩ := u38
  obtain ⟨hw40, hw41, hw42, hw43, hw44, hw45, hw46, hw47, hw48, -⟩ := hw
  replace hw40 : (r37.toInt = 0 ∨ ((2 : Int32).toInt ≤ r37.toInt ∧ r37.toInt ≤ (30 : Int32).toInt)) := hw40
  replace hw41 : (0 : Int) ≤ (u39 0).toInt ∧ (u39 0).toInt ≤ 1600 := hw41
  replace hw42 : (0 : Int) ≤ (u39 1).toInt ∧ (u39 1).toInt ≤ 1600 := hw42
  replace hw43 : (0 : Int) ≤ (u39 2).toInt ∧ (u39 2).toInt ≤ 6 := hw43
  replace hw44 : (0 : Int) ≤ (u39 4).toInt ∧ (u39 4).toInt ≤ 3 := hw44
  replace hw45 : (u39 1).toInt ≤ (u39 0).toInt := hw45
  replace hw46 : (2 ≤ (u39 2).toInt → (u39 1).toInt + 1 ≤ (u39 0).toInt) := hw46
  replace hw47 : (u25 1).toInt ≤ (u39 1).toInt := hw47
  replace hw48 : ((u39 4).toInt = 0 → (u25 4).toInt = 0 ∧ (2 : Int32).toInt ≤ r37.toInt ∧ r37.toInt ≤ (30 : Int32).toInt ∧ (u25 1).toInt + (sn204 : Int) + 1 ≤ (u39 1).toInt) := hw48
  obtain ⟨hP1, hD1⟩ := hB
  rw [ht9] at hP1
  obtain ⟨hP, hD⟩ := va_join (wr := [(a6, .inl (cI, 544, .inl f35))]) (w1 := [(a0, .inr (12, [.int i0, .ref a1, .ref a2, .ref a3, .ref a4, .int i1, .ref a5, .int i2, .int (u39 0), .int (u39 1), .int (u39 2), .int (u39 3), .int (u39 4), .int (u39 5), .ref a6, .ref a7, .ref a8, .ref a9, .ref a10, .ref a11, .ref a12, .int i9, .ref a13, .int i10, .ref a14, .ref a15, .int i11, .ref a16, .ref a17, .ref a18, .ref a19, .int i12, .int i13, .int i14, .int i15, .int i16, .ref a20, .long j0, .ref a21, .ref a22, .ref a23, .ref a24])), (a4, .inl (cB, 1600, .inl xF3))]) hP hD [1, 2] [0] rfl rfl (by decide) (by decide) hk1 hFc hP1 hD1
  generalize H1 = H at hP hS ⊢
  replace hP : va_P (dC, dI) vwCl [(a6, .inl (cI, 544, .inl f35)), (a0, .inr (12, [.int i0, .ref a1, .ref a2, .ref a3, .ref a4, .int i1, .ref a5, .int i2, .int (u39 0), .int (u39 1), .int (u39 2), .int (u39 3), .int (u39 4), .int (u39 5), .ref a6, .ref a7, .ref a8, .ref a9, .ref a10, .ref a11, .ref a12, .int i9, .ref a13, .int i10, .ref a14, .ref a15, .int i11, .ref a16, .ref a17, .ref a18, .ref a19, .int i12, .int i13, .int i14, .int i15, .int i16, .ref a20, .long j0, .ref a21, .ref a22, .ref a23, .ref a24])), (a4, .inl (cB, 1600, .inl xF3))] H := hP
  replace hD : va_D A [(a6, .inl (cI, 544, .inl f35)), (a0, .inr (12, [.int i0, .ref a1, .ref a2, .ref a3, .ref a4, .int i1, .ref a5, .int i2, .int (u39 0), .int (u39 1), .int (u39 2), .int (u39 3), .int (u39 4), .int (u39 5), .ref a6, .ref a7, .ref a8, .ref a9, .ref a10, .ref a11, .ref a12, .int i9, .ref a13, .int i10, .ref a14, .ref a15, .int i11, .ref a16, .ref a17, .ref a18, .ref a19, .int i12, .int i13, .int i14, .int i15, .int i16, .ref a20, .long j0, .ref a21, .ref a22, .ref a23, .ref a24])), (a4, .inl (cB, 1600, .inl xF3))] := hD
  refine va_iast hx hb hK hP hD hS 0 0 rfl rfl (vp_of (by omega) (by omega)) dX12_readPawl_69 (fun H locs hP hD hS => ?_)
  obtain ⟨f49, ef49⟩ : ∃ f, f = upd f35 x36.toNatClampNeg r37 := ⟨_, rfl⟩
  have df49 : WI 0 f49 := by rw [ef49]; exact WI_pst df35 (by omega) (by omega) (fun h9 => by omega) (fun h9 => by rw [ef35, wat_nei (by omega), ef21, wat_nei (by omega)]; omega)
  replace hP : va_P (dC, dI) vwCl [(a6, .inl (cI, 544, .inl f49)), (a0, .inr (12, [.int i0, .ref a1, .ref a2, .ref a3, .ref a4, .int i1, .ref a5, .int i2, .int (u39 0), .int (u39 1), .int (u39 2), .int (u39 3), .int (u39 4), .int (u39 5), .ref a6, .ref a7, .ref a8, .ref a9, .ref a10, .ref a11, .ref a12, .int i9, .ref a13, .int i10, .ref a14, .ref a15, .int i11, .ref a16, .ref a17, .ref a18, .ref a19, .int i12, .int i13, .int i14, .int i15, .int i16, .ref a20, .long j0, .ref a21, .ref a22, .ref a23, .ref a24])), (a4, .inl (cB, 1600, .inl xF3))] H := by rw [ef49]; exact hP
  replace hD : va_D A [(a6, .inl (cI, 544, .inl f49)), (a0, .inr (12, [.int i0, .ref a1, .ref a2, .ref a3, .ref a4, .int i1, .ref a5, .int i2, .int (u39 0), .int (u39 1), .int (u39 2), .int (u39 3), .int (u39 4), .int (u39 5), .ref a6, .ref a7, .ref a8, .ref a9, .ref a10, .ref a11, .ref a12, .int i9, .ref a13, .int i10, .ref a14, .ref a15, .int i11, .ref a16, .ref a17, .ref a18, .ref a19, .int i12, .int i13, .int i14, .int i15, .int i16, .ref a20, .long j0, .ref a21, .ref a22, .ref a23, .ref a24])), (a4, .inl (cB, 1600, .inl xF3))] := by rw [ef49]; exact hD
  refine lv_aload_n hx hb dX12_readPawl_70 rfl (lv_at hl 1 rfl) ?_
  refine va_get (D := (dC, dI)) (ci := 12) (v := .ref a6) (C := RX12) (T := TX12) (N := 42) hx hb hwd inlX12 hown hK hP 1 rfl rfl 14 (by decide) (hwd _ kr49_15) (fun _ h9 => h9) rfl dX12_readPawl_71 ?_
  refine lv_bipush (v := 7) hx hb dX12_readPawl_74 (by decide) ?_
  refine lv_dup2_11 hx hb dX12_readPawl_76 rfl rfl ?_
  have h50 : vp_in (7 : Int32) 544 := (vin (by decide))
  refine va_iald hx hb hK hP 0 0 rfl rfl h50 dX12_readPawl_77 ?_
  refine lv_topi (fun x51 ex51 => ?_)
  have ix51 := wat_lit (k := 7) ex51 (by decide)
  have wh52 : whd 0 f49 := df49.1
  unfold whd at wh52
  have ix51 := wat_lit (F := xF5) (k := 7) (show x51 = xF5 (7 : Int32).toNatClampNeg from by rw [ex51, ef49, upd_ne (by omega), ef35, upd_ne (by omega), ef21, upd_ne (by omega)]) (by decide)
  refine lv_iconst (v := 1) hx hb dX12_readPawl_78 (by decide) ?_
  refine lv_iadd hx hb dX12_readPawl_79 ?_
  refine lv_topi (fun x53 ex53 => ?_)
  have tx53 := ia_add (a := x51) (b := (1 : Int32)) (by omega) (by omega)
  rw [← ex53] at tx53
  refine va_iast hx hb hK hP hD hS 0 0 rfl rfl (vin (by decide)) dX12_readPawl_80 (fun H locs hP hD hS => ?_)
  obtain ⟨f54, ef54⟩ : ∃ f, f = upd f49 (7 : Int32).toNatClampNeg x53 := ⟨_, rfl⟩
  replace hP : va_P (dC, dI) vwCl [(a6, .inl (cI, 544, .inl f54)), (a0, .inr (12, [.int i0, .ref a1, .ref a2, .ref a3, .ref a4, .int i1, .ref a5, .int i2, .int (u39 0), .int (u39 1), .int (u39 2), .int (u39 3), .int (u39 4), .int (u39 5), .ref a6, .ref a7, .ref a8, .ref a9, .ref a10, .ref a11, .ref a12, .int i9, .ref a13, .int i10, .ref a14, .ref a15, .int i11, .ref a16, .ref a17, .ref a18, .ref a19, .int i12, .int i13, .int i14, .int i15, .int i16, .ref a20, .long j0, .ref a21, .ref a22, .ref a23, .ref a24])), (a4, .inl (cB, 1600, .inl xF3))] H := by rw [ef54]; exact hP
  replace hD : va_D A [(a6, .inl (cI, 544, .inl f54)), (a0, .inr (12, [.int i0, .ref a1, .ref a2, .ref a3, .ref a4, .int i1, .ref a5, .int i2, .int (u39 0), .int (u39 1), .int (u39 2), .int (u39 3), .int (u39 4), .int (u39 5), .ref a6, .ref a7, .ref a8, .ref a9, .ref a10, .ref a11, .ref a12, .int i9, .ref a13, .int i10, .ref a14, .ref a15, .int i11, .ref a16, .ref a17, .ref a18, .ref a19, .int i12, .int i13, .int i14, .int i15, .int i16, .ref a20, .long j0, .ref a21, .ref a22, .ref a23, .ref a24])), (a4, .inl (cB, 1600, .inl xF3))] := by rw [ef54]; exact hD
  have hP9 := hP.sub (ws' := [(a0, .inr (12, [.int i0, .ref a1, .ref a2, .ref a3, .ref a4, .int i1, .ref a5, .int i2, .int (u39 0), .int (u39 1), .int (u39 2), .int (u39 3), .int (u39 4), .int (u39 5), .ref a6, .ref a7, .ref a8, .ref a9, .ref a10, .ref a11, .ref a12, .int i9, .ref a13, .int i10, .ref a14, .ref a15, .int i11, .ref a16, .ref a17, .ref a18, .ref a19, .int i12, .int i13, .int i14, .int i15, .int i16, .ref a20, .long j0, .ref a21, .ref a22, .ref a23, .ref a24])), (a4, .inl (cB, 1600, .inl xF3)), (a6, .inl (cI, 544, .inl f54))]) [1, 2, 0] rfl
  have hD9 := hD.sub (ws' := [(a0, .inr (12, [.int i0, .ref a1, .ref a2, .ref a3, .ref a4, .int i1, .ref a5, .int i2, .int (u39 0), .int (u39 1), .int (u39 2), .int (u39 3), .int (u39 4), .int (u39 5), .ref a6, .ref a7, .ref a8, .ref a9, .ref a10, .ref a11, .ref a12, .int i9, .ref a13, .int i10, .ref a14, .ref a15, .int i11, .ref a16, .ref a17, .ref a18, .ref a19, .int i12, .int i13, .int i14, .int i15, .int i16, .ref a20, .long j0, .ref a21, .ref a22, .ref a23, .ref a24])), (a4, .inl (cB, 1600, .inl xF3)), (a6, .inl (cI, 544, .inl f54))]) [1, 2, 0] (by decide) rfl
  rw [hQ]
  exact W.vret hx hb hr (fun t ht hW => ⟨⟨(pickG 0 [(u39 0), (u39 1), (u39 2), (u39 3), (u39 4), (u39 5)], pickG (fun _ => 0) [f54], pickG (fun _ => 0) []), rfl, ⟨(show (0 : Int) ≤ (u39 0).toInt ∧ (u39 0).toInt ≤ 1600 from hw41), (show (0 : Int) ≤ (u39 1).toInt ∧ (u39 1).toInt ≤ 1600 from hw42), (show (0 : Int) ≤ (u39 2).toInt ∧ (u39 2).toInt ≤ 6 from hw43), (show (0 : Int) ≤ (u39 4).toInt ∧ (u39 4).toInt ≤ 3 from hw44), (show (u39 1).toInt ≤ (u39 0).toInt from by omega), (show (2 ≤ (u39 2).toInt → (u39 1).toInt + 1 ≤ (u39 0).toInt) from by omega), (show i4.toInt ≤ (u39 1).toInt from by omega), (show FG (u39 4).toInt f54 from fun h9 => ⟨by rw [ef54]; exact WI_pw (p := wat xF5 7) df49 (by omega) (by rw [ef49, wat_nei (by omega), ef35, wat_nei (by omega), ef21, wat_nei (by omega)]) (by omega) (by omega) (by omega) (by rw [ef49, wat_eqi (by omega)]; omega), (by rw [ef54, wat_nei (by omega), ef49, wat_nei (by omega), ef35, wat_nei (by omega), ef21, wat_nei (by omega)]; omega)⟩), trivial⟩, (by rw [ht]; exact hP9), hD9⟩, hS.F ht⟩) hS.2.2 dX12_readPawl_81
theorem dX12_readFollower_0 : decode cX12_readFollower 0 = .ok (.sipush 188, 3) := by decide +kernel
theorem dX12_readFollower_3 : decode cX12_readFollower 3 = .ok (.bipush 6, 2) := by decide +kernel
theorem dX12_readFollower_5 : decode cX12_readFollower 5 = .ok (.aload_n 0, 1) := by decide +kernel
theorem dX12_readFollower_6 : decode cX12_readFollower 6 = .ok (.getfield 34, 3) := by decide +kernel
theorem dX12_readFollower_9 : decode cX12_readFollower 9 = .ok (.bipush 6, 2) := by decide +kernel
theorem dX12_readFollower_11 : decode cX12_readFollower 11 = .ok (.iaload, 1) := by decide +kernel
theorem dX12_readFollower_12 : decode cX12_readFollower 12 = .ok (.imul, 1) := by decide +kernel
theorem dX12_readFollower_13 : decode cX12_readFollower 13 = .ok (.iadd, 1) := by decide +kernel
theorem dX12_readFollower_14 : decode cX12_readFollower 14 = .ok (.istore_n 2, 1) := by decide +kernel
theorem dX12_readFollower_15 : decode cX12_readFollower 15 = .ok (.aload_n 0, 1) := by decide +kernel
theorem dX12_readFollower_16 : decode cX12_readFollower 16 = .ok (.getfield 34, 3) := by decide +kernel
theorem dX12_readFollower_19 : decode cX12_readFollower 19 = .ok (.iload_n 2, 1) := by decide +kernel
theorem dX12_readFollower_20 : decode cX12_readFollower 20 = .ok (.iconst 0, 1) := by decide +kernel
theorem dX12_readFollower_21 : decode cX12_readFollower 21 = .ok (.iadd, 1) := by decide +kernel
theorem dX12_readFollower_22 : decode cX12_readFollower 22 = .ok (.iload_n 1, 1) := by decide +kernel
theorem dX12_readFollower_23 : decode cX12_readFollower 23 = .ok (.iastore, 1) := by decide +kernel
theorem dX12_readFollower_24 : decode cX12_readFollower 24 = .ok (.aload_n 0, 1) := by decide +kernel
theorem dX12_readFollower_25 : decode cX12_readFollower 25 = .ok (.getfield 34, 3) := by decide +kernel
theorem dX12_readFollower_28 : decode cX12_readFollower 28 = .ok (.iload_n 2, 1) := by decide +kernel
theorem dX12_readFollower_29 : decode cX12_readFollower 29 = .ok (.iconst 2, 1) := by decide +kernel
theorem dX12_readFollower_30 : decode cX12_readFollower 30 = .ok (.iadd, 1) := by decide +kernel
theorem dX12_readFollower_31 : decode cX12_readFollower 31 = .ok (.iload_n 1, 1) := by decide +kernel
theorem dX12_readFollower_32 : decode cX12_readFollower 32 = .ok (.ifCond .eq 8, 3) := by decide +kernel
theorem dX12_readFollower_35 : decode cX12_readFollower 35 = .ok (.iload_n 1, 1) := by decide +kernel
theorem dX12_readFollower_36 : decode cX12_readFollower 36 = .ok (.iconst 3, 1) := by decide +kernel
theorem dX12_readFollower_37 : decode cX12_readFollower 37 = .ok (.if_icmp .ne 7, 3) := by decide +kernel
theorem dX12_readFollower_40 : decode cX12_readFollower 40 = .ok (.iconst 0, 1) := by decide +kernel
theorem dX12_readFollower_41 : decode cX12_readFollower 41 = .ok (.goto 10, 3) := by decide +kernel
theorem dX12_readFollower_44 : decode cX12_readFollower 44 = .ok (.aload_n 0, 1) := by decide +kernel
theorem dX12_readFollower_45 : decode cX12_readFollower 45 = .ok (.iconst 0, 1) := by decide +kernel
theorem dX12_readFollower_46 : decode cX12_readFollower 46 = .ok (.bipush 9, 2) := by decide +kernel
theorem dX12_readFollower_48 : decode cX12_readFollower 48 = .ok (.invokevirtual 174, 3) := by decide +kernel
theorem dX12_readFollower_51 : decode cX12_readFollower 51 = .ok (.iastore, 1) := by decide +kernel
theorem dX12_readFollower_52 : decode cX12_readFollower 52 = .ok (.aload_n 0, 1) := by decide +kernel
theorem dX12_readFollower_53 : decode cX12_readFollower 53 = .ok (.getfield 34, 3) := by decide +kernel
theorem dX12_readFollower_56 : decode cX12_readFollower 56 = .ok (.iload_n 2, 1) := by decide +kernel
theorem dX12_readFollower_57 : decode cX12_readFollower 57 = .ok (.iconst 1, 1) := by decide +kernel
theorem dX12_readFollower_58 : decode cX12_readFollower 58 = .ok (.iadd, 1) := by decide +kernel
theorem dX12_readFollower_59 : decode cX12_readFollower 59 = .ok (.aload_n 0, 1) := by decide +kernel
theorem dX12_readFollower_60 : decode cX12_readFollower 60 = .ok (.ldc 189, 2) := by decide +kernel
theorem dX12_readFollower_62 : decode cX12_readFollower 62 = .ok (.iconst 0, 1) := by decide +kernel
theorem dX12_readFollower_63 : decode cX12_readFollower 63 = .ok (.iload_n 1, 1) := by decide +kernel
theorem dX12_readFollower_64 : decode cX12_readFollower 64 = .ok (.iconst 3, 1) := by decide +kernel
theorem dX12_readFollower_65 : decode cX12_readFollower 65 = .ok (.if_icmp .ne 13, 3) := by decide +kernel
theorem dX12_readFollower_68 : decode cX12_readFollower 68 = .ok (.aload_n 0, 1) := by decide +kernel
theorem dX12_readFollower_69 : decode cX12_readFollower 69 = .ok (.getfield 34, 3) := by decide +kernel
theorem dX12_readFollower_72 : decode cX12_readFollower 72 = .ok (.bipush 6, 2) := by decide +kernel
theorem dX12_readFollower_74 : decode cX12_readFollower 74 = .ok (.iaload, 1) := by decide +kernel
theorem dX12_readFollower_75 : decode cX12_readFollower 75 = .ok (.goto 9, 3) := by decide +kernel
theorem dX12_readFollower_78 : decode cX12_readFollower 78 = .ok (.aload_n 0, 1) := by decide +kernel
theorem dX12_readFollower_79 : decode cX12_readFollower 79 = .ok (.getfield 34, 3) := by decide +kernel
theorem dX12_readFollower_82 : decode cX12_readFollower 82 = .ok (.iconst 4, 1) := by decide +kernel
theorem dX12_readFollower_83 : decode cX12_readFollower 83 = .ok (.iaload, 1) := by decide +kernel
theorem dX12_readFollower_84 : decode cX12_readFollower 84 = .ok (.iconst 1, 1) := by decide +kernel
theorem dX12_readFollower_85 : decode cX12_readFollower 85 = .ok (.isub, 1) := by decide +kernel
theorem dX12_readFollower_86 : decode cX12_readFollower 86 = .ok (.invokevirtual 181, 3) := by decide +kernel
theorem dX12_readFollower_89 : decode cX12_readFollower 89 = .ok (.iastore, 1) := by decide +kernel
theorem dX12_readFollower_90 : decode cX12_readFollower 90 = .ok (.iload_n 1, 1) := by decide +kernel
theorem dX12_readFollower_91 : decode cX12_readFollower 91 = .ok (.iconst 3, 1) := by decide +kernel
theorem dX12_readFollower_92 : decode cX12_readFollower 92 = .ok (.if_icmp .ne 38, 3) := by decide +kernel
theorem dX12_readFollower_95 : decode cX12_readFollower 95 = .ok (.aload_n 0, 1) := by decide +kernel
theorem dX12_readFollower_96 : decode cX12_readFollower 96 = .ok (.getfield 34, 3) := by decide +kernel
theorem dX12_readFollower_99 : decode cX12_readFollower 99 = .ok (.iload_n 2, 1) := by decide +kernel
theorem dX12_readFollower_100 : decode cX12_readFollower 100 = .ok (.iconst 2, 1) := by decide +kernel
theorem dX12_readFollower_101 : decode cX12_readFollower 101 = .ok (.iadd, 1) := by decide +kernel
theorem dX12_readFollower_102 : decode cX12_readFollower 102 = .ok (.aload_n 0, 1) := by decide +kernel
theorem dX12_readFollower_103 : decode cX12_readFollower 103 = .ok (.iconst 1, 1) := by decide +kernel
theorem dX12_readFollower_104 : decode cX12_readFollower 104 = .ok (.bipush 9, 2) := by decide +kernel
theorem dX12_readFollower_106 : decode cX12_readFollower 106 = .ok (.invokevirtual 174, 3) := by decide +kernel
theorem dX12_readFollower_109 : decode cX12_readFollower 109 = .ok (.iastore, 1) := by decide +kernel
theorem dX12_readFollower_110 : decode cX12_readFollower 110 = .ok (.aload_n 0, 1) := by decide +kernel
theorem dX12_readFollower_111 : decode cX12_readFollower 111 = .ok (.getfield 34, 3) := by decide +kernel
theorem dX12_readFollower_114 : decode cX12_readFollower 114 = .ok (.iload_n 2, 1) := by decide +kernel
theorem dX12_readFollower_115 : decode cX12_readFollower 115 = .ok (.iconst 3, 1) := by decide +kernel
theorem dX12_readFollower_116 : decode cX12_readFollower 116 = .ok (.iadd, 1) := by decide +kernel
theorem dX12_readFollower_117 : decode cX12_readFollower 117 = .ok (.aload_n 0, 1) := by decide +kernel
theorem dX12_readFollower_118 : decode cX12_readFollower 118 = .ok (.ldc 198, 2) := by decide +kernel
theorem dX12_readFollower_120 : decode cX12_readFollower 120 = .ok (.iconst 1, 1) := by decide +kernel
theorem dX12_readFollower_121 : decode cX12_readFollower 121 = .ok (.bipush 9, 2) := by decide +kernel
theorem dX12_readFollower_123 : decode cX12_readFollower 123 = .ok (.invokevirtual 181, 3) := by decide +kernel
theorem dX12_readFollower_126 : decode cX12_readFollower 126 = .ok (.iastore, 1) := by decide +kernel
theorem dX12_readFollower_127 : decode cX12_readFollower 127 = .ok (.goto 37, 3) := by decide +kernel
theorem dX12_readFollower_130 : decode cX12_readFollower 130 = .ok (.aload_n 0, 1) := by decide +kernel
theorem dX12_readFollower_131 : decode cX12_readFollower 131 = .ok (.getfield 34, 3) := by decide +kernel
theorem dX12_readFollower_134 : decode cX12_readFollower 134 = .ok (.iload_n 2, 1) := by decide +kernel
theorem dX12_readFollower_135 : decode cX12_readFollower 135 = .ok (.iconst 4, 1) := by decide +kernel
theorem dX12_readFollower_136 : decode cX12_readFollower 136 = .ok (.iadd, 1) := by decide +kernel
theorem dX12_readFollower_137 : decode cX12_readFollower 137 = .ok (.aload_n 0, 1) := by decide +kernel
theorem dX12_readFollower_138 : decode cX12_readFollower 138 = .ok (.ldc 200, 2) := by decide +kernel
theorem dX12_readFollower_140 : decode cX12_readFollower 140 = .ok (.iconst 1, 1) := by decide +kernel
theorem dX12_readFollower_141 : decode cX12_readFollower 141 = .ok (.bipush 60, 2) := by decide +kernel
theorem dX12_readFollower_143 : decode cX12_readFollower 143 = .ok (.invokevirtual 181, 3) := by decide +kernel
theorem dX12_readFollower_146 : decode cX12_readFollower 146 = .ok (.iastore, 1) := by decide +kernel
theorem dX12_readFollower_147 : decode cX12_readFollower 147 = .ok (.aload_n 0, 1) := by decide +kernel
theorem dX12_readFollower_148 : decode cX12_readFollower 148 = .ok (.getfield 34, 3) := by decide +kernel
theorem dX12_readFollower_151 : decode cX12_readFollower 151 = .ok (.iload_n 2, 1) := by decide +kernel
theorem dX12_readFollower_152 : decode cX12_readFollower 152 = .ok (.iconst 5, 1) := by decide +kernel
theorem dX12_readFollower_153 : decode cX12_readFollower 153 = .ok (.iadd, 1) := by decide +kernel
theorem dX12_readFollower_154 : decode cX12_readFollower 154 = .ok (.aload_n 0, 1) := by decide +kernel
theorem dX12_readFollower_155 : decode cX12_readFollower 155 = .ok (.ldc 202, 2) := by decide +kernel
theorem dX12_readFollower_157 : decode cX12_readFollower 157 = .ok (.iconst 0, 1) := by decide +kernel
theorem dX12_readFollower_158 : decode cX12_readFollower 158 = .ok (.bipush 20, 2) := by decide +kernel
theorem dX12_readFollower_160 : decode cX12_readFollower 160 = .ok (.invokevirtual 181, 3) := by decide +kernel
theorem dX12_readFollower_163 : decode cX12_readFollower 163 = .ok (.iastore, 1) := by decide +kernel
theorem dX12_readFollower_164 : decode cX12_readFollower 164 = .ok (.aload_n 0, 1) := by decide +kernel
theorem dX12_readFollower_165 : decode cX12_readFollower 165 = .ok (.getfield 34, 3) := by decide +kernel
theorem dX12_readFollower_168 : decode cX12_readFollower 168 = .ok (.bipush 6, 2) := by decide +kernel
theorem dX12_readFollower_170 : decode cX12_readFollower 170 = .ok (.dup2, 1) := by decide +kernel
theorem dX12_readFollower_171 : decode cX12_readFollower 171 = .ok (.iaload, 1) := by decide +kernel
theorem dX12_readFollower_172 : decode cX12_readFollower 172 = .ok (.iconst 1, 1) := by decide +kernel
theorem dX12_readFollower_173 : decode cX12_readFollower 173 = .ok (.iadd, 1) := by decide +kernel
theorem dX12_readFollower_174 : decode cX12_readFollower 174 = .ok (.iastore, 1) := by decide +kernel
theorem dX12_readFollower_175 : decode cX12_readFollower 175 = .ok (.return_, 1) := by decide +kernel
set_option maxHeartbeats 16000000 in
set_option maxRecDepth 100000 in
theorem s_X12_readFollower (l : Launch) (dC : Nat → ClassId) (dI : Nat → Nat → Nat) (cI cZ cB cJ cM cG : ClassId) (a0 a1 a2 a3 a4 a5 a6 a7 a8 a9 a10 a11 a12 a13 a14 a15 a16 a17 a18 a19 a20 a21 a22 a23 a24 : Nat) (i0 i1 i2 i3 i4 i5 i6 i7 i8 i9 i10 i11 i12 i13 i14 i15 i16 : Int32) (j0 : Int64) (xF3 xF5 : Nat → Int32) (p0 : Int32) (sz : Nat) (p_0 : (0 : Int) ≤ i1.toInt ∧ i1.toInt ≤ 1600) (p_1 : (0 : Int) ≤ i2.toInt ∧ i2.toInt ≤ 1600) (p_2 : (0 : Int) ≤ i3.toInt ∧ i3.toInt ≤ 1600) (p_3 : (0 : Int) ≤ i4.toInt ∧ i4.toInt ≤ 1600) (p_4 : (0 : Int) ≤ i5.toInt ∧ i5.toInt ≤ 6) (p_5 : (0 : Int) ≤ i7.toInt ∧ i7.toInt ≤ 3) (p_6 : (0 : Int) ≤ i11.toInt ∧ i11.toInt ≤ 59) (p_7 : WI 0 xF5) (p_8 : 1 ≤ wat xF5 1) (p_9 : wat xF5 6 ≤ 9) (p_10 : (0 : Int) ≤ p0.toInt ∧ p0.toInt ≤ 3) (p_11 : i4.toInt ≤ i3.toInt) (p_12 : (2 ≤ i5.toInt → i4.toInt + 1 ≤ i3.toInt)) : Met l yX12_readFollower (kw yX12_readFollower cX12_readFollower 3 none) ({ frames := 8, cells := 0, slots := 0, locals := 174 } : Room) (va_Pc [.ref a0, .int p0] (kPreX dC dI [(cI, .int), (cZ, .boolean), (cB, .byte), (cJ, .long), (cM, .object RX2), (cG, .array .int)] [(a0, .inr (12, [.int i0, .ref a1, .ref a2, .ref a3, .ref a4, .int i1, .ref a5, .int i2, .int i3, .int i4, .int i5, .int i6, .int i7, .int i8, .ref a6, .ref a7, .ref a8, .ref a9, .ref a10, .ref a11, .ref a12, .int i9, .ref a13, .int i10, .ref a14, .ref a15, .int i11, .ref a16, .ref a17, .ref a18, .ref a19, .int i12, .int i13, .int i14, .int i15, .int i16, .ref a20, .long j0, .ref a21, .ref a22, .ref a23, .ref a24])), (a4, .inl (cB, 1600, .inl xF3)), (a6, .inl (cI, 544, .inl xF5))] sz NT)) (va_Qv (fun (u9 : (Nat → Int32) × (Nat → Nat → Int32) × (Nat → Nat → Int64)) => ((0 : Int) ≤ (u9.1 0).toInt ∧ (u9.1 0).toInt ≤ 1600) ∧ ((0 : Int) ≤ (u9.1 1).toInt ∧ (u9.1 1).toInt ≤ 1600) ∧ ((0 : Int) ≤ (u9.1 2).toInt ∧ (u9.1 2).toInt ≤ 6) ∧ ((0 : Int) ≤ (u9.1 4).toInt ∧ (u9.1 4).toInt ≤ 3) ∧ ((u9.1 1).toInt ≤ (u9.1 0).toInt) ∧ ((2 ≤ (u9.1 2).toInt → (u9.1 1).toInt + 1 ≤ (u9.1 0).toInt)) ∧ (i4.toInt ≤ (u9.1 1).toInt) ∧ (FG (u9.1 4).toInt (u9.2.1 0)) ∧ True) (fun u9 t => va_P (dC, dI) vwCl [(a0, .inr (12, [.int i0, .ref a1, .ref a2, .ref a3, .ref a4, .int i1, .ref a5, .int i2, .int (u9.1 0), .int (u9.1 1), .int (u9.1 2), .int (u9.1 3), .int (u9.1 4), .int (u9.1 5), .ref a6, .ref a7, .ref a8, .ref a9, .ref a10, .ref a11, .ref a12, .int i9, .ref a13, .int i10, .ref a14, .ref a15, .int i11, .ref a16, .ref a17, .ref a18, .ref a19, .int i12, .int i13, .int i14, .int i15, .int i16, .ref a20, .long j0, .ref a21, .ref a22, .ref a23, .ref a24])), (a4, .inl (cB, 1600, .inl xF3)), (a6, .inl (cI, 544, .inl (u9.2.1 0)))] t.heap ∧ va_D (va_A [(a0, .inr (12, [.int i0, .ref a1, .ref a2, .ref a3, .ref a4, .int i1, .ref a5, .int i2, .int i3, .int i4, .int i5, .int i6, .int i7, .int i8, .ref a6, .ref a7, .ref a8, .ref a9, .ref a10, .ref a11, .ref a12, .int i9, .ref a13, .int i10, .ref a14, .ref a15, .int i11, .ref a16, .ref a17, .ref a18, .ref a19, .int i12, .int i13, .int i14, .int i15, .int i16, .ref a20, .long j0, .ref a21, .ref a22, .ref a23, .ref a24])), (a4, .inl (cB, 1600, .inl xF3)), (a6, .inl (cI, 544, .inl xF5))] sz) [(a0, .inr (12, [.int i0, .ref a1, .ref a2, .ref a3, .ref a4, .int i1, .ref a5, .int i2, .int (u9.1 0), .int (u9.1 1), .int (u9.1 2), .int (u9.1 3), .int (u9.1 4), .int (u9.1 5), .ref a6, .ref a7, .ref a8, .ref a9, .ref a10, .ref a11, .ref a12, .int i9, .ref a13, .int i10, .ref a14, .ref a15, .int i11, .ref a16, .ref a17, .ref a18, .ref a19, .int i12, .int i13, .int i14, .int i15, .int i16, .ref a20, .long j0, .ref a21, .ref a22, .ref a23, .ref a24])), (a4, .inl (cB, 1600, .inl xF3)), (a6, .inl (cI, 544, .inl (u9.2.1 0)))]) (va_A [(a0, .inr (12, [.int i0, .ref a1, .ref a2, .ref a3, .ref a4, .int i1, .ref a5, .int i2, .int i3, .int i4, .int i5, .int i6, .int i7, .int i8, .ref a6, .ref a7, .ref a8, .ref a9, .ref a10, .ref a11, .ref a12, .int i9, .ref a13, .int i10, .ref a14, .ref a15, .int i11, .ref a16, .ref a17, .ref a18, .ref a19, .int i12, .int i13, .int i14, .int i15, .int i16, .ref a20, .long j0, .ref a21, .ref a22, .ref a23, .ref a24])), (a4, .inl (cB, 1600, .inl xF3)), (a6, .inl (cI, 544, .inl xF5))] sz)) 0 0 (va_A [(a0, .inr (12, [.int i0, .ref a1, .ref a2, .ref a3, .ref a4, .int i1, .ref a5, .int i2, .int i3, .int i4, .int i5, .int i6, .int i7, .int i8, .ref a6, .ref a7, .ref a8, .ref a9, .ref a10, .ref a11, .ref a12, .int i9, .ref a13, .int i10, .ref a14, .ref a15, .int i11, .ref a16, .ref a17, .ref a18, .ref a19, .int i12, .int i13, .int i14, .int i15, .int i16, .ref a20, .long j0, .ref a21, .ref a22, .ref a23, .ref a24])), (a4, .inl (cB, 1600, .inl xF3)), (a6, .inl (cI, 544, .inl xF5))] sz) := by
  refine kEnterX (by decide) (Nat.le_of_ble_eq_true rfl) ?_
  intro p e s m below meth c ls hx hb hr hml hown hlocks hin hwd hsz hP hK hD hN hl
  subst hsz
  generalize hAe : va_A [(a0, .inr (12, [.int i0, .ref a1, .ref a2, .ref a3, .ref a4, .int i1, .ref a5, .int i2, .int i3, .int i4, .int i5, .int i6, .int i7, .int i8, .ref a6, .ref a7, .ref a8, .ref a9, .ref a10, .ref a11, .ref a12, .int i9, .ref a13, .int i10, .ref a14, .ref a15, .int i11, .ref a16, .ref a17, .ref a18, .ref a19, .int i12, .int i13, .int i14, .int i15, .int i16, .ref a20, .long j0, .ref a21, .ref a22, .ref a23, .ref a24])), (a4, .inl (cB, 1600, .inl xF3)), (a6, .inl (cI, 544, .inl xF5))] s.heap.size = A at hD hN ⊢
  have hA : ∀ q : Nat, s.heap.size ≤ q → A q := fun q h => by rw [← hAe]; exact Or.inr h
  have hS : va_S A s.heap s.heap [] := va_S.rf
  have hl : lv_has ls 3 [(0, .ref a0), (1, .int p0)] := hl
  obtain ⟨Q, hQ⟩ : ∃ Q, Q = MQ below (va_Qv (fun (u9 : (Nat → Int32) × (Nat → Nat → Int32) × (Nat → Nat → Int64)) => ((0 : Int) ≤ (u9.1 0).toInt ∧ (u9.1 0).toInt ≤ 1600) ∧ ((0 : Int) ≤ (u9.1 1).toInt ∧ (u9.1 1).toInt ≤ 1600) ∧ ((0 : Int) ≤ (u9.1 2).toInt ∧ (u9.1 2).toInt ≤ 6) ∧ ((0 : Int) ≤ (u9.1 4).toInt ∧ (u9.1 4).toInt ≤ 3) ∧ ((u9.1 1).toInt ≤ (u9.1 0).toInt) ∧ ((2 ≤ (u9.1 2).toInt → (u9.1 1).toInt + 1 ≤ (u9.1 0).toInt)) ∧ (i4.toInt ≤ (u9.1 1).toInt) ∧ (FG (u9.1 4).toInt (u9.2.1 0)) ∧ True) (fun u9 t => va_P (dC, dI) vwCl [(a0, .inr (12, [.int i0, .ref a1, .ref a2, .ref a3, .ref a4, .int i1, .ref a5, .int i2, .int (u9.1 0), .int (u9.1 1), .int (u9.1 2), .int (u9.1 3), .int (u9.1 4), .int (u9.1 5), .ref a6, .ref a7, .ref a8, .ref a9, .ref a10, .ref a11, .ref a12, .int i9, .ref a13, .int i10, .ref a14, .ref a15, .int i11, .ref a16, .ref a17, .ref a18, .ref a19, .int i12, .int i13, .int i14, .int i15, .int i16, .ref a20, .long j0, .ref a21, .ref a22, .ref a23, .ref a24])), (a4, .inl (cB, 1600, .inl xF3)), (a6, .inl (cI, 544, .inl (u9.2.1 0)))] t.heap ∧ va_D A [(a0, .inr (12, [.int i0, .ref a1, .ref a2, .ref a3, .ref a4, .int i1, .ref a5, .int i2, .int (u9.1 0), .int (u9.1 1), .int (u9.1 2), .int (u9.1 3), .int (u9.1 4), .int (u9.1 5), .ref a6, .ref a7, .ref a8, .ref a9, .ref a10, .ref a11, .ref a12, .int i9, .ref a13, .int i10, .ref a14, .ref a15, .int i11, .ref a16, .ref a17, .ref a18, .ref a19, .int i12, .int i13, .int i14, .int i15, .int i16, .ref a20, .long j0, .ref a21, .ref a22, .ref a23, .ref a24])), (a4, .inl (cB, 1600, .inl xF3)), (a6, .inl (cI, 544, .inl (u9.2.1 0)))]) A) ([.ref a0, .int p0] : List Value).toArray s 0 0 A := ⟨_, rfl⟩
  rw [← hQ]
  have k0 : (0 : Int32).toInt = 0 := by decide
  have k1 : (1 : Int32).toInt = 1 := by decide
  have k2 : (2 : Int32).toInt = 2 := by decide
  have k3 : (3 : Int32).toInt = 3 := by decide
  have k4 : (4 : Int32).toInt = 4 := by decide
  have k5 : (5 : Int32).toInt = 5 := by decide
  have k6 : (6 : Int32).toInt = 6 := by decide
  have k9 : (9 : Int32).toInt = 9 := by decide
  have k20 : (20 : Int32).toInt = 20 := by decide
  have k60 : (60 : Int32).toInt = 60 := by decide
  have k188 : (188 : Int32).toInt = 188 := by decide
  obtain ⟨sa189, sav189, sn189, sf189, hsn189, hR189, hks189⟩ := hN.2 _ rf_RX12_189
  have hN189 : NS sa189 sav189 sn189 sf189 A s := ⟨hN.1, hsn189.1, hks189⟩
  have hsl189 : sn189 = 2 := hsn189.2
  obtain ⟨sa198, sav198, sn198, sf198, hsn198, hR198, hks198⟩ := hN.2 _ rf_RX12_198
  have hN198 : NS sa198 sav198 sn198 sf198 A s := ⟨hN.1, hsn198.1, hks198⟩
  have hsl198 : sn198 = 4 := hsn198.2
  obtain ⟨sa200, sav200, sn200, sf200, hsn200, hR200, hks200⟩ := hN.2 _ rf_RX12_200
  have hN200 : NS sa200 sav200 sn200 sf200 A s := ⟨hN.1, hsn200.1, hks200⟩
  have hsl200 : sn200 = 6 := hsn200.2
  obtain ⟨sa202, sav202, sn202, sf202, hsn202, hR202, hks202⟩ := hN.2 _ rf_RX12_202
  have hN202 : NS sa202 sav202 sn202 sf202 A s := ⟨hN.1, hsn202.1, hks202⟩
  have hsl202 : sn202 = 3 := hsn202.2
  refine lv_sipush (v := 188) hx hb dX12_readFollower_0 (by decide) ?_
  refine lv_bipush (v := 6) hx hb dX12_readFollower_3 (by decide) ?_
  refine lv_aload_n hx hb dX12_readFollower_5 rfl (lv_at hl 0 rfl) ?_
  refine va_get (D := (dC, dI)) (ci := 12) (v := .ref a6) (C := RX12) (T := TX12) (N := 42) hx hb hwd inlX12 hown hK hP 0 rfl rfl 14 (by decide) (hwd _ kr49_15) (fun _ h9 => h9) rfl dX12_readFollower_6 ?_
  refine lv_bipush (v := 6) hx hb dX12_readFollower_9 (by decide) ?_
  have h1 : vp_in (6 : Int32) 544 := (vin (by decide))
  refine va_iald hx hb hK hP 2 0 rfl rfl h1 dX12_readFollower_11 ?_
  refine lv_topi (fun x2 ex2 => ?_)
  have ix2 := wat_lit (k := 6) ex2 (by decide)
  have wh3 : whd 0 xF5 := p_7.1
  unfold whd at wh3
  refine lv_imul hx hb dX12_readFollower_12 ?_
  refine lv_topi (fun x4 ex4 => ?_)
  have tx4 := ia_mull (a := (6 : Int32)) (b := x2) 6 (by decide) (by omega) (by omega)
  rw [← ex4] at tx4
  refine lv_iadd hx hb dX12_readFollower_13 ?_
  refine lv_topi (fun x5 ex5 => ?_)
  have tx5 := ia_add (a := (188 : Int32)) (b := x4) (by omega) (by omega)
  rw [← ex5] at tx5
  refine lv_istore_n (lv' := [(2, .int x5), (0, .ref a0), (1, .int p0)]) hx hb dX12_readFollower_14 rfl hl (by decide) rfl (fun ls hl => ?_)
  refine lv_aload_n hx hb dX12_readFollower_15 rfl (lv_at hl 1 rfl) ?_
  refine va_get (D := (dC, dI)) (ci := 12) (v := .ref a6) (C := RX12) (T := TX12) (N := 42) hx hb hwd inlX12 hown hK hP 0 rfl rfl 14 (by decide) (hwd _ kr49_15) (fun _ h9 => h9) rfl dX12_readFollower_16 ?_
  refine lv_iload_n hx hb dX12_readFollower_19 rfl (lv_at hl 0 rfl) ?_
  refine lv_iconst (v := 0) hx hb dX12_readFollower_20 (by decide) ?_
  refine lv_iadd hx hb dX12_readFollower_21 ?_
  refine lv_topi (fun x6 ex6 => ?_)
  have tx6 := ia_add (a := x5) (b := (0 : Int32)) (by omega) (by omega)
  rw [← ex6] at tx6
  refine lv_iload_n hx hb dX12_readFollower_22 rfl (lv_at hl 2 rfl) ?_
  refine va_iast hx hb hK hP hD hS 2 0 rfl rfl (vp_of (by omega) (by omega)) dX12_readFollower_23 (fun H locs hP hD hS => ?_)
  obtain ⟨f7, ef7⟩ : ∃ f, f = upd xF5 x6.toNatClampNeg p0 := ⟨_, rfl⟩
  replace hP : va_P (dC, dI) vwCl [(a0, .inr (12, [.int i0, .ref a1, .ref a2, .ref a3, .ref a4, .int i1, .ref a5, .int i2, .int i3, .int i4, .int i5, .int i6, .int i7, .int i8, .ref a6, .ref a7, .ref a8, .ref a9, .ref a10, .ref a11, .ref a12, .int i9, .ref a13, .int i10, .ref a14, .ref a15, .int i11, .ref a16, .ref a17, .ref a18, .ref a19, .int i12, .int i13, .int i14, .int i15, .int i16, .ref a20, .long j0, .ref a21, .ref a22, .ref a23, .ref a24])), (a4, .inl (cB, 1600, .inl xF3)), (a6, .inl (cI, 544, .inl f7))] H := by rw [ef7]; exact hP
  replace hD : va_D A [(a0, .inr (12, [.int i0, .ref a1, .ref a2, .ref a3, .ref a4, .int i1, .ref a5, .int i2, .int i3, .int i4, .int i5, .int i6, .int i7, .int i8, .ref a6, .ref a7, .ref a8, .ref a9, .ref a10, .ref a11, .ref a12, .int i9, .ref a13, .int i10, .ref a14, .ref a15, .int i11, .ref a16, .ref a17, .ref a18, .ref a19, .int i12, .int i13, .int i14, .int i15, .int i16, .ref a20, .long j0, .ref a21, .ref a22, .ref a23, .ref a24])), (a4, .inl (cB, 1600, .inl xF3)), (a6, .inl (cI, 544, .inl f7))] := by rw [ef7]; exact hD
  refine lv_aload_n hx hb dX12_readFollower_24 rfl (lv_at hl 1 rfl) ?_
  refine va_get (D := (dC, dI)) (ci := 12) (v := .ref a6) (C := RX12) (T := TX12) (N := 42) hx hb hwd inlX12 hown hK hP 0 rfl rfl 14 (by decide) (hwd _ kr49_15) (fun _ h9 => h9) rfl dX12_readFollower_25 ?_
  refine lv_iload_n hx hb dX12_readFollower_28 rfl (lv_at hl 0 rfl) ?_
  refine lv_iconst (v := 2) hx hb dX12_readFollower_29 (by decide) ?_
  refine lv_iadd hx hb dX12_readFollower_30 ?_
  refine lv_topi (fun x8 ex8 => ?_)
  have tx8 := ia_add (a := x5) (b := (2 : Int32)) (by omega) (by omega)
  rw [← ex8] at tx8
  refine lv_iload_n hx hb dX12_readFollower_31 rfl (lv_at hl 2 rfl) ?_
  have jp1 : ∀ (H : Heap) (locs : List Loc) (ls : Array Slot), va_P (dC, dI) vwCl [(a0, .inr (12, [.int i0, .ref a1, .ref a2, .ref a3, .ref a4, .int i1, .ref a5, .int i2, .int i3, .int i4, .int i5, .int i6, .int i7, .int i8, .ref a6, .ref a7, .ref a8, .ref a9, .ref a10, .ref a11, .ref a12, .int i9, .ref a13, .int i10, .ref a14, .ref a15, .int i11, .ref a16, .ref a17, .ref a18, .ref a19, .int i12, .int i13, .int i14, .int i15, .int i16, .ref a20, .long j0, .ref a21, .ref a22, .ref a23, .ref a24])), (a4, .inl (cB, 1600, .inl xF3)), (a6, .inl (cI, 544, .inl f7))] H → va_D A [(a0, .inr (12, [.int i0, .ref a1, .ref a2, .ref a3, .ref a4, .int i1, .ref a5, .int i2, .int i3, .int i4, .int i5, .int i6, .int i7, .int i8, .ref a6, .ref a7, .ref a8, .ref a9, .ref a10, .ref a11, .ref a12, .int i9, .ref a13, .int i10, .ref a14, .ref a15, .int i11, .ref a16, .ref a17, .ref a18, .ref a19, .int i12, .int i13, .int i14, .int i15, .int i16, .ref a20, .long j0, .ref a21, .ref a22, .ref a23, .ref a24])), (a4, .inl (cB, 1600, .inl xF3)), (a6, .inl (cI, 544, .inl f7))] → va_S A s.heap H locs → lv_has ls 3 [(0, .ref a0), (1, .int p0), (2, .int x5)] → W p l e ({ frames := 8, cells := 0, slots := 0, locals := 174 } : Room) s m ([.ref a0, .int p0] : List Value).toArray below meth c H locs 0 0 Q (F0 m 40 ls [.int x8, .ref a6]) := by
    intro H locs ls  hP hD hS hl
    refine lv_iconst (v := 0) hx hb dX12_readFollower_40 (by decide) ?_
    refine lv_goto (tgt := 51) hx hb dX12_readFollower_41 (by decide) ?_
    refine va_iast hx hb hK hP hD hS 2 0 rfl rfl (vp_of (by omega) (by omega)) dX12_readFollower_51 (fun H locs hP hD hS => ?_)
    obtain ⟨f11, ef11⟩ : ∃ f, f = upd f7 x8.toNatClampNeg (0 : Int32) := ⟨_, rfl⟩
    replace hP : va_P (dC, dI) vwCl [(a0, .inr (12, [.int i0, .ref a1, .ref a2, .ref a3, .ref a4, .int i1, .ref a5, .int i2, .int i3, .int i4, .int i5, .int i6, .int i7, .int i8, .ref a6, .ref a7, .ref a8, .ref a9, .ref a10, .ref a11, .ref a12, .int i9, .ref a13, .int i10, .ref a14, .ref a15, .int i11, .ref a16, .ref a17, .ref a18, .ref a19, .int i12, .int i13, .int i14, .int i15, .int i16, .ref a20, .long j0, .ref a21, .ref a22, .ref a23, .ref a24])), (a4, .inl (cB, 1600, .inl xF3)), (a6, .inl (cI, 544, .inl f11))] H := by rw [ef11]; exact hP
    replace hD : va_D A [(a0, .inr (12, [.int i0, .ref a1, .ref a2, .ref a3, .ref a4, .int i1, .ref a5, .int i2, .int i3, .int i4, .int i5, .int i6, .int i7, .int i8, .ref a6, .ref a7, .ref a8, .ref a9, .ref a10, .ref a11, .ref a12, .int i9, .ref a13, .int i10, .ref a14, .ref a15, .int i11, .ref a16, .ref a17, .ref a18, .ref a19, .int i12, .int i13, .int i14, .int i15, .int i16, .ref a20, .long j0, .ref a21, .ref a22, .ref a23, .ref a24])), (a4, .inl (cB, 1600, .inl xF3)), (a6, .inl (cI, 544, .inl f11))] := by rw [ef11]; exact hD
    refine lv_aload_n hx hb dX12_readFollower_52 rfl (lv_at hl 0 rfl) ?_
    refine va_get (D := (dC, dI)) (ci := 12) (v := .ref a6) (C := RX12) (T := TX12) (N := 42) hx hb hwd inlX12 hown hK hP 0 rfl rfl 14 (by decide) (hwd _ kr49_15) (fun _ h9 => h9) rfl dX12_readFollower_53 ?_
    refine lv_iload_n hx hb dX12_readFollower_56 rfl (lv_at hl 2 rfl) ?_
    refine lv_iconst (v := 1) hx hb dX12_readFollower_57 (by decide) ?_
    refine lv_iadd hx hb dX12_readFollower_58 ?_
    refine lv_topi (fun x12 ex12 => ?_)
    have tx12 := ia_add (a := x5) (b := (1 : Int32)) (by omega) (by omega)
    rw [← ex12] at tx12
    refine lv_aload_n hx hb dX12_readFollower_59 rfl (lv_at hl 0 rfl) ?_
    refine va_ldcS hx hb hown hR189 dX12_readFollower_60 ?_
    refine lv_iconst (v := 0) hx hb dX12_readFollower_62 (by decide) ?_
    refine lv_iload_n hx hb dX12_readFollower_63 rfl (lv_at hl 1 rfl) ?_
    refine lv_iconst (v := 3) hx hb dX12_readFollower_64 (by decide) ?_
    refine lv_icmp_ne (tgt := 78) hx hb dX12_readFollower_65 (by decide) (fun c13 => ?_) (fun c13 => ?_)
    · rw [ki_eq] at c13
      refine lv_aload_n hx hb dX12_readFollower_78 rfl (lv_at hl 0 rfl) ?_
      refine va_get (D := (dC, dI)) (ci := 12) (v := .ref a6) (C := RX12) (T := TX12) (N := 42) hx hb hwd inlX12 hown hK hP 0 rfl rfl 14 (by decide) (hwd _ kr49_15) (fun _ h9 => h9) rfl dX12_readFollower_79 ?_
      refine lv_iconst (v := 4) hx hb dX12_readFollower_82 (by decide) ?_
      have h14 : vp_in (4 : Int32) 544 := (vin (by decide))
      refine va_iald hx hb hK hP 2 0 rfl rfl h14 dX12_readFollower_83 ?_
      refine lv_topi (fun x15 ex15 => ?_)
      have ix15 := wat_lit (F := xF5) (k := 4) (show x15 = xF5 (4 : Int32).toNatClampNeg from by rw [ex15, ef11, upd_ne (by omega), ef7, upd_ne (by omega)]) (by decide)
      refine lv_iconst (v := 1) hx hb dX12_readFollower_84 (by decide) ?_
      refine lv_isub hx hb dX12_readFollower_85 ?_
      refine lv_topi (fun x16 ex16 => ?_)
      have tx16 := ia_sub (a := x15) (b := (1 : Int32)) (by omega) (by omega)
      rw [← ex16] at tx16
      have hPc := hP.sub (ws' := [(a0, .inr (12, [.int i0, .ref a1, .ref a2, .ref a3, .ref a4, .int i1, .ref a5, .int i2, .int i3, .int i4, .int i5, .int i6, .int i7, .int i8, .ref a6, .ref a7, .ref a8, .ref a9, .ref a10, .ref a11, .ref a12, .int i9, .ref a13, .int i10, .ref a14, .ref a15, .int i11, .ref a16, .ref a17, .ref a18, .ref a19, .int i12, .int i13, .int i14, .int i15, .int i16, .ref a20, .long j0, .ref a21, .ref a22, .ref a23, .ref a24])), (a4, .inl (cB, 1600, .inl xF3))]) [0, 1] rfl
      have hDc := hD.sub (ws' := [(a0, .inr (12, [.int i0, .ref a1, .ref a2, .ref a3, .ref a4, .int i1, .ref a5, .int i2, .int i3, .int i4, .int i5, .int i6, .int i7, .int i8, .ref a6, .ref a7, .ref a8, .ref a9, .ref a10, .ref a11, .ref a12, .int i9, .ref a13, .int i10, .ref a14, .ref a15, .int i11, .ref a16, .ref a17, .ref a18, .ref a19, .int i12, .int i13, .int i14, .int i15, .int i16, .ref a20, .long j0, .ref a21, .ref a22, .ref a23, .ref a24])), (a4, .inl (cB, 1600, .inl xF3))]) [0, 1] (by decide) rfl
      have hFc := va_free (wc := [(a0, .inr (12, [.int i0, .ref a1, .ref a2, .ref a3, .ref a4, .int i1, .ref a5, .int i2, .int i3, .int i4, .int i5, .int i6, .int i7, .int i8, .ref a6, .ref a7, .ref a8, .ref a9, .ref a10, .ref a11, .ref a12, .int i9, .ref a13, .int i10, .ref a14, .ref a15, .int i11, .ref a16, .ref a17, .ref a18, .ref a19, .int i12, .int i13, .int i14, .int i15, .int i16, .ref a20, .long j0, .ref a21, .ref a22, .ref a23, .ref a24])), (a4, .inl (cB, 1600, .inl xF3))]) hD hS hA [0, 1] rfl
      refine va_calli (va_runV (As := [.ref sa189, .int 0, .int x16]) (rest := [.int x12, .ref a6]) ⟨hx, hb, hml, hown, hwd⟩ (s_X12_told l dC dI cI cZ cB cJ cM cG a0 a1 a2 a3 a4 a5 a6 a7 a8 a9 a10 a11 a12 a13 a14 a15 a16 a17 a18 a19 a20 a21 a22 a23 a24 i0 i1 i2 i3 i4 i5 i6 i7 i8 i9 i10 i11 i12 i13 i14 i15 i16 j0 xF3 0 x16 sa189 sav189 sn189 sf189 H.size (show (0 : Int) ≤ i1.toInt ∧ i1.toInt ≤ 1600 from p_0) (show (0 : Int) ≤ i2.toInt ∧ i2.toInt ≤ 1600 from p_1) (show (0 : Int) ≤ i3.toInt ∧ i3.toInt ≤ 1600 from p_2) (show (0 : Int) ≤ i4.toInt ∧ i4.toInt ≤ 1600 from p_3) (show (0 : Int) ≤ i5.toInt ∧ i5.toInt ≤ 6 from p_4) (show (0 : Int) ≤ i7.toInt ∧ i7.toInt ≤ 3 from p_5) (show (0 : Int) ≤ i11.toInt ∧ i11.toInt ≤ 59 from p_6) (show (0 : Int) ≤ (0 : Int32).toInt ∧ (0 : Int32).toInt ≤ 4 from ⟨by omega, by omega⟩) (show (-1 : Int) ≤ x16.toInt ∧ x16.toInt ≤ 999 from ⟨by omega, by omega⟩) p_11 p_12) (cwV 3 hwd (gV kr53_10 kr53_11 kr2_23 kr5_23 kr53_12) rfl rfl rfl (by decide +kernel) ⟨Nat.le_of_ble_eq_true rfl, Nat.le_of_ble_eq_true rfl⟩) (kPreVX hPc hK hDc (NS_st _ _ _ _) hN189 hS hFc (ci := 12) (q0 := 0) rfl rfl) rfl rfl hl.1 rfl (lv_room (Nat.le_of_ble_eq_true rfl)) dX12_readFollower_86 ⟨Nat.le_of_ble_eq_true rfl, Nat.le_of_ble_eq_true rfl⟩) hS (fun q _ h => hFc q h) hFc (fun r17 u18 t H1 locs ht9 hvm hw hB hz1 hk1 hS => ?_)
      obtain ⟨u19, U19, V19⟩ := u18
      obtain ⟨hw20, hw21, hw22, hw23, hw24, hw25, hw26, hw27, hw28, -⟩ := hw
      replace hw20 : (r17.toInt = 0 ∨ ((0 : Int32).toInt ≤ r17.toInt ∧ r17.toInt ≤ x16.toInt)) := hw20
      replace hw21 : (0 : Int) ≤ (u19 0).toInt ∧ (u19 0).toInt ≤ 1600 := hw21
      replace hw22 : (0 : Int) ≤ (u19 1).toInt ∧ (u19 1).toInt ≤ 1600 := hw22
      replace hw23 : (0 : Int) ≤ (u19 2).toInt ∧ (u19 2).toInt ≤ 6 := hw23
      replace hw24 : (0 : Int) ≤ (u19 4).toInt ∧ (u19 4).toInt ≤ 3 := hw24
      replace hw25 : (u19 1).toInt ≤ (u19 0).toInt := hw25
      replace hw26 : (2 ≤ (u19 2).toInt → (u19 1).toInt + 1 ≤ (u19 0).toInt) := hw26
      replace hw27 : i4.toInt ≤ (u19 1).toInt := hw27
      replace hw28 : ((u19 4).toInt = 0 → i7.toInt = 0 ∧ (0 : Int32).toInt ≤ r17.toInt ∧ r17.toInt ≤ x16.toInt ∧ i4.toInt + (sn189 : Int) + 1 ≤ (u19 1).toInt) := hw28
      obtain ⟨hP1, hD1⟩ := hB
      rw [ht9] at hP1
      obtain ⟨hP, hD⟩ := va_join (wr := [(a6, .inl (cI, 544, .inl f11))]) (w1 := [(a0, .inr (12, [.int i0, .ref a1, .ref a2, .ref a3, .ref a4, .int i1, .ref a5, .int i2, .int (u19 0), .int (u19 1), .int (u19 2), .int (u19 3), .int (u19 4), .int (u19 5), .ref a6, .ref a7, .ref a8, .ref a9, .ref a10, .ref a11, .ref a12, .int i9, .ref a13, .int i10, .ref a14, .ref a15, .int i11, .ref a16, .ref a17, .ref a18, .ref a19, .int i12, .int i13, .int i14, .int i15, .int i16, .ref a20, .long j0, .ref a21, .ref a22, .ref a23, .ref a24])), (a4, .inl (cB, 1600, .inl xF3))]) hP hD [0, 1] [2] rfl rfl (by decide) (by decide) hk1 hFc hP1 hD1
      generalize H1 = H at hP hS ⊢
      replace hP : va_P (dC, dI) vwCl [(a6, .inl (cI, 544, .inl f11)), (a0, .inr (12, [.int i0, .ref a1, .ref a2, .ref a3, .ref a4, .int i1, .ref a5, .int i2, .int (u19 0), .int (u19 1), .int (u19 2), .int (u19 3), .int (u19 4), .int (u19 5), .ref a6, .ref a7, .ref a8, .ref a9, .ref a10, .ref a11, .ref a12, .int i9, .ref a13, .int i10, .ref a14, .ref a15, .int i11, .ref a16, .ref a17, .ref a18, .ref a19, .int i12, .int i13, .int i14, .int i15, .int i16, .ref a20, .long j0, .ref a21, .ref a22, .ref a23, .ref a24])), (a4, .inl (cB, 1600, .inl xF3))] H := hP
      replace hD : va_D A [(a6, .inl (cI, 544, .inl f11)), (a0, .inr (12, [.int i0, .ref a1, .ref a2, .ref a3, .ref a4, .int i1, .ref a5, .int i2, .int (u19 0), .int (u19 1), .int (u19 2), .int (u19 3), .int (u19 4), .int (u19 5), .ref a6, .ref a7, .ref a8, .ref a9, .ref a10, .ref a11, .ref a12, .int i9, .ref a13, .int i10, .ref a14, .ref a15, .int i11, .ref a16, .ref a17, .ref a18, .ref a19, .int i12, .int i13, .int i14, .int i15, .int i16, .ref a20, .long j0, .ref a21, .ref a22, .ref a23, .ref a24])), (a4, .inl (cB, 1600, .inl xF3))] := hD
      refine va_iast hx hb hK hP hD hS 0 0 rfl rfl (vp_of (by omega) (by omega)) dX12_readFollower_89 (fun H locs hP hD hS => ?_)
      obtain ⟨f29, ef29⟩ : ∃ f, f = upd f11 x12.toNatClampNeg r17 := ⟨_, rfl⟩
      replace hP : va_P (dC, dI) vwCl [(a6, .inl (cI, 544, .inl f29)), (a0, .inr (12, [.int i0, .ref a1, .ref a2, .ref a3, .ref a4, .int i1, .ref a5, .int i2, .int (u19 0), .int (u19 1), .int (u19 2), .int (u19 3), .int (u19 4), .int (u19 5), .ref a6, .ref a7, .ref a8, .ref a9, .ref a10, .ref a11, .ref a12, .int i9, .ref a13, .int i10, .ref a14, .ref a15, .int i11, .ref a16, .ref a17, .ref a18, .ref a19, .int i12, .int i13, .int i14, .int i15, .int i16, .ref a20, .long j0, .ref a21, .ref a22, .ref a23, .ref a24])), (a4, .inl (cB, 1600, .inl xF3))] H := by rw [ef29]; exact hP
      replace hD : va_D A [(a6, .inl (cI, 544, .inl f29)), (a0, .inr (12, [.int i0, .ref a1, .ref a2, .ref a3, .ref a4, .int i1, .ref a5, .int i2, .int (u19 0), .int (u19 1), .int (u19 2), .int (u19 3), .int (u19 4), .int (u19 5), .ref a6, .ref a7, .ref a8, .ref a9, .ref a10, .ref a11, .ref a12, .int i9, .ref a13, .int i10, .ref a14, .ref a15, .int i11, .ref a16, .ref a17, .ref a18, .ref a19, .int i12, .int i13, .int i14, .int i15, .int i16, .ref a20, .long j0, .ref a21, .ref a22, .ref a23, .ref a24])), (a4, .inl (cB, 1600, .inl xF3))] := by rw [ef29]; exact hD
      refine lv_iload_n hx hb dX12_readFollower_90 rfl (lv_at hl 1 rfl) ?_
      refine lv_iconst (v := 3) hx hb dX12_readFollower_91 (by decide) ?_
      refine lv_icmp_ne (tgt := 130) hx hb dX12_readFollower_92 (by decide) (fun c30 => ?_) (fun c30 => ?_)
      · rw [ki_eq] at c30
        refine lv_aload_n hx hb dX12_readFollower_130 rfl (lv_at hl 0 rfl) ?_
        refine va_get (D := (dC, dI)) (ci := 12) (v := .ref a6) (C := RX12) (T := TX12) (N := 42) hx hb hwd inlX12 hown hK hP 1 rfl rfl 14 (by decide) (hwd _ kr49_15) (fun _ h9 => h9) rfl dX12_readFollower_131 ?_
        refine lv_iload_n hx hb dX12_readFollower_134 rfl (lv_at hl 2 rfl) ?_
        refine lv_iconst (v := 4) hx hb dX12_readFollower_135 (by decide) ?_
        refine lv_iadd hx hb dX12_readFollower_136 ?_
        refine lv_topi (fun x31 ex31 => ?_)
        have tx31 := ia_add (a := x5) (b := (4 : Int32)) (by omega) (by omega)
        rw [← ex31] at tx31
        refine lv_aload_n hx hb dX12_readFollower_137 rfl (lv_at hl 0 rfl) ?_
        refine va_ldcS hx hb hown hR200 dX12_readFollower_138 ?_
        refine lv_iconst (v := 1) hx hb dX12_readFollower_140 (by decide) ?_
        refine lv_bipush (v := 60) hx hb dX12_readFollower_141 (by decide) ?_
        have hPc := hP.sub (ws' := [(a0, .inr (12, [.int i0, .ref a1, .ref a2, .ref a3, .ref a4, .int i1, .ref a5, .int i2, .int (u19 0), .int (u19 1), .int (u19 2), .int (u19 3), .int (u19 4), .int (u19 5), .ref a6, .ref a7, .ref a8, .ref a9, .ref a10, .ref a11, .ref a12, .int i9, .ref a13, .int i10, .ref a14, .ref a15, .int i11, .ref a16, .ref a17, .ref a18, .ref a19, .int i12, .int i13, .int i14, .int i15, .int i16, .ref a20, .long j0, .ref a21, .ref a22, .ref a23, .ref a24])), (a4, .inl (cB, 1600, .inl xF3))]) [1, 2] rfl
        have hDc := hD.sub (ws' := [(a0, .inr (12, [.int i0, .ref a1, .ref a2, .ref a3, .ref a4, .int i1, .ref a5, .int i2, .int (u19 0), .int (u19 1), .int (u19 2), .int (u19 3), .int (u19 4), .int (u19 5), .ref a6, .ref a7, .ref a8, .ref a9, .ref a10, .ref a11, .ref a12, .int i9, .ref a13, .int i10, .ref a14, .ref a15, .int i11, .ref a16, .ref a17, .ref a18, .ref a19, .int i12, .int i13, .int i14, .int i15, .int i16, .ref a20, .long j0, .ref a21, .ref a22, .ref a23, .ref a24])), (a4, .inl (cB, 1600, .inl xF3))]) [1, 2] (by decide) rfl
        have hFc := va_free (wc := [(a0, .inr (12, [.int i0, .ref a1, .ref a2, .ref a3, .ref a4, .int i1, .ref a5, .int i2, .int (u19 0), .int (u19 1), .int (u19 2), .int (u19 3), .int (u19 4), .int (u19 5), .ref a6, .ref a7, .ref a8, .ref a9, .ref a10, .ref a11, .ref a12, .int i9, .ref a13, .int i10, .ref a14, .ref a15, .int i11, .ref a16, .ref a17, .ref a18, .ref a19, .int i12, .int i13, .int i14, .int i15, .int i16, .ref a20, .long j0, .ref a21, .ref a22, .ref a23, .ref a24])), (a4, .inl (cB, 1600, .inl xF3))]) hD hS hA [1, 2] rfl
        refine va_calli (va_runV (As := [.ref sa200, .int 1, .int 60]) (rest := [.int x31, .ref a6]) ⟨hx, hb, hml, hown, hwd⟩ (s_X12_told l dC dI cI cZ cB cJ cM cG a0 a1 a2 a3 a4 a5 a6 a7 a8 a9 a10 a11 a12 a13 a14 a15 a16 a17 a18 a19 a20 a21 a22 a23 a24 i0 i1 i2 (u19 0) (u19 1) (u19 2) (u19 3) (u19 4) (u19 5) i9 i10 i11 i12 i13 i14 i15 i16 j0 xF3 1 60 sa200 sav200 sn200 sf200 H.size (show (0 : Int) ≤ i1.toInt ∧ i1.toInt ≤ 1600 from p_0) (show (0 : Int) ≤ i2.toInt ∧ i2.toInt ≤ 1600 from p_1) (show (0 : Int) ≤ (u19 0).toInt ∧ (u19 0).toInt ≤ 1600 from hw21) (show (0 : Int) ≤ (u19 1).toInt ∧ (u19 1).toInt ≤ 1600 from hw22) (show (0 : Int) ≤ (u19 2).toInt ∧ (u19 2).toInt ≤ 6 from hw23) (show (0 : Int) ≤ (u19 4).toInt ∧ (u19 4).toInt ≤ 3 from hw24) (show (0 : Int) ≤ i11.toInt ∧ i11.toInt ≤ 59 from p_6) (show (0 : Int) ≤ (1 : Int32).toInt ∧ (1 : Int32).toInt ≤ 4 from ⟨by omega, by omega⟩) (show (-1 : Int) ≤ (60 : Int32).toInt ∧ (60 : Int32).toInt ≤ 999 from ⟨by omega, by omega⟩) hw25 hw26) (cwV 3 hwd (gV kr53_10 kr53_11 kr2_23 kr5_23 kr53_12) rfl rfl rfl (by decide +kernel) ⟨Nat.le_of_ble_eq_true rfl, Nat.le_of_ble_eq_true rfl⟩) (kPreVX hPc hK hDc (NS_st _ _ _ _) hN200 hS hFc (ci := 12) (q0 := 0) rfl rfl) rfl rfl hl.1 rfl (lv_room (Nat.le_of_ble_eq_true rfl)) dX12_readFollower_143 ⟨Nat.le_of_ble_eq_true rfl, Nat.le_of_ble_eq_true rfl⟩) hS (fun q _ h => hFc q h) hFc (fun r32 u33 t H1 locs ht9 hvm hw hB hz1 hk1 hS => ?_)
        obtain ⟨u34, U34, V34⟩ := u33
        obtain ⟨hw35, hw36, hw37, hw38, hw39, hw40, hw41, hw42, hw43, -⟩ := hw
        replace hw35 : (r32.toInt = 0 ∨ ((1 : Int32).toInt ≤ r32.toInt ∧ r32.toInt ≤ (60 : Int32).toInt)) := hw35
        replace hw36 : (0 : Int) ≤ (u34 0).toInt ∧ (u34 0).toInt ≤ 1600 := hw36
        replace hw37 : (0 : Int) ≤ (u34 1).toInt ∧ (u34 1).toInt ≤ 1600 := hw37
        replace hw38 : (0 : Int) ≤ (u34 2).toInt ∧ (u34 2).toInt ≤ 6 := hw38
        replace hw39 : (0 : Int) ≤ (u34 4).toInt ∧ (u34 4).toInt ≤ 3 := hw39
        replace hw40 : (u34 1).toInt ≤ (u34 0).toInt := hw40
        replace hw41 : (2 ≤ (u34 2).toInt → (u34 1).toInt + 1 ≤ (u34 0).toInt) := hw41
        replace hw42 : (u19 1).toInt ≤ (u34 1).toInt := hw42
        replace hw43 : ((u34 4).toInt = 0 → (u19 4).toInt = 0 ∧ (1 : Int32).toInt ≤ r32.toInt ∧ r32.toInt ≤ (60 : Int32).toInt ∧ (u19 1).toInt + (sn200 : Int) + 1 ≤ (u34 1).toInt) := hw43
        obtain ⟨hP1, hD1⟩ := hB
        rw [ht9] at hP1
        obtain ⟨hP, hD⟩ := va_join (wr := [(a6, .inl (cI, 544, .inl f29))]) (w1 := [(a0, .inr (12, [.int i0, .ref a1, .ref a2, .ref a3, .ref a4, .int i1, .ref a5, .int i2, .int (u34 0), .int (u34 1), .int (u34 2), .int (u34 3), .int (u34 4), .int (u34 5), .ref a6, .ref a7, .ref a8, .ref a9, .ref a10, .ref a11, .ref a12, .int i9, .ref a13, .int i10, .ref a14, .ref a15, .int i11, .ref a16, .ref a17, .ref a18, .ref a19, .int i12, .int i13, .int i14, .int i15, .int i16, .ref a20, .long j0, .ref a21, .ref a22, .ref a23, .ref a24])), (a4, .inl (cB, 1600, .inl xF3))]) hP hD [1, 2] [0] rfl rfl (by decide) (by decide) hk1 hFc hP1 hD1
        generalize H1 = H at hP hS ⊢
        replace hP : va_P (dC, dI) vwCl [(a6, .inl (cI, 544, .inl f29)), (a0, .inr (12, [.int i0, .ref a1, .ref a2, .ref a3, .ref a4, .int i1, .ref a5, .int i2, .int (u34 0), .int (u34 1), .int (u34 2), .int (u34 3), .int (u34 4), .int (u34 5), .ref a6, .ref a7, .ref a8, .ref a9, .ref a10, .ref a11, .ref a12, .int i9, .ref a13, .int i10, .ref a14, .ref a15, .int i11, .ref a16, .ref a17, .ref a18, .ref a19, .int i12, .int i13, .int i14, .int i15, .int i16, .ref a20, .long j0, .ref a21, .ref a22, .ref a23, .ref a24])), (a4, .inl (cB, 1600, .inl xF3))] H := hP
        replace hD : va_D A [(a6, .inl (cI, 544, .inl f29)), (a0, .inr (12, [.int i0, .ref a1, .ref a2, .ref a3, .ref a4, .int i1, .ref a5, .int i2, .int (u34 0), .int (u34 1), .int (u34 2), .int (u34 3), .int (u34 4), .int (u34 5), .ref a6, .ref a7, .ref a8, .ref a9, .ref a10, .ref a11, .ref a12, .int i9, .ref a13, .int i10, .ref a14, .ref a15, .int i11, .ref a16, .ref a17, .ref a18, .ref a19, .int i12, .int i13, .int i14, .int i15, .int i16, .ref a20, .long j0, .ref a21, .ref a22, .ref a23, .ref a24])), (a4, .inl (cB, 1600, .inl xF3))] := hD
        refine va_iast hx hb hK hP hD hS 0 0 rfl rfl (vp_of (by omega) (by omega)) dX12_readFollower_146 (fun H locs hP hD hS => ?_)
        obtain ⟨f44, ef44⟩ : ∃ f, f = upd f29 x31.toNatClampNeg r32 := ⟨_, rfl⟩
        replace hP : va_P (dC, dI) vwCl [(a6, .inl (cI, 544, .inl f44)), (a0, .inr (12, [.int i0, .ref a1, .ref a2, .ref a3, .ref a4, .int i1, .ref a5, .int i2, .int (u34 0), .int (u34 1), .int (u34 2), .int (u34 3), .int (u34 4), .int (u34 5), .ref a6, .ref a7, .ref a8, .ref a9, .ref a10, .ref a11, .ref a12, .int i9, .ref a13, .int i10, .ref a14, .ref a15, .int i11, .ref a16, .ref a17, .ref a18, .ref a19, .int i12, .int i13, .int i14, .int i15, .int i16, .ref a20, .long j0, .ref a21, .ref a22, .ref a23, .ref a24])), (a4, .inl (cB, 1600, .inl xF3))] H := by rw [ef44]; exact hP
        replace hD : va_D A [(a6, .inl (cI, 544, .inl f44)), (a0, .inr (12, [.int i0, .ref a1, .ref a2, .ref a3, .ref a4, .int i1, .ref a5, .int i2, .int (u34 0), .int (u34 1), .int (u34 2), .int (u34 3), .int (u34 4), .int (u34 5), .ref a6, .ref a7, .ref a8, .ref a9, .ref a10, .ref a11, .ref a12, .int i9, .ref a13, .int i10, .ref a14, .ref a15, .int i11, .ref a16, .ref a17, .ref a18, .ref a19, .int i12, .int i13, .int i14, .int i15, .int i16, .ref a20, .long j0, .ref a21, .ref a22, .ref a23, .ref a24])), (a4, .inl (cB, 1600, .inl xF3))] := by rw [ef44]; exact hD
        refine lv_aload_n hx hb dX12_readFollower_147 rfl (lv_at hl 0 rfl) ?_
        refine va_get (D := (dC, dI)) (ci := 12) (v := .ref a6) (C := RX12) (T := TX12) (N := 42) hx hb hwd inlX12 hown hK hP 1 rfl rfl 14 (by decide) (hwd _ kr49_15) (fun _ h9 => h9) rfl dX12_readFollower_148 ?_
        refine lv_iload_n hx hb dX12_readFollower_151 rfl (lv_at hl 2 rfl) ?_
        refine lv_iconst (v := 5) hx hb dX12_readFollower_152 (by decide) ?_
        refine lv_iadd hx hb dX12_readFollower_153 ?_
        refine lv_topi (fun x45 ex45 => ?_)
        have tx45 := ia_add (a := x5) (b := (5 : Int32)) (by omega) (by omega)
        rw [← ex45] at tx45
        refine lv_aload_n hx hb dX12_readFollower_154 rfl (lv_at hl 0 rfl) ?_
        refine va_ldcS hx hb hown hR202 dX12_readFollower_155 ?_
        refine lv_iconst (v := 0) hx hb dX12_readFollower_157 (by decide) ?_
        refine lv_bipush (v := 20) hx hb dX12_readFollower_158 (by decide) ?_
        have hPc := hP.sub (ws' := [(a0, .inr (12, [.int i0, .ref a1, .ref a2, .ref a3, .ref a4, .int i1, .ref a5, .int i2, .int (u34 0), .int (u34 1), .int (u34 2), .int (u34 3), .int (u34 4), .int (u34 5), .ref a6, .ref a7, .ref a8, .ref a9, .ref a10, .ref a11, .ref a12, .int i9, .ref a13, .int i10, .ref a14, .ref a15, .int i11, .ref a16, .ref a17, .ref a18, .ref a19, .int i12, .int i13, .int i14, .int i15, .int i16, .ref a20, .long j0, .ref a21, .ref a22, .ref a23, .ref a24])), (a4, .inl (cB, 1600, .inl xF3))]) [1, 2] rfl
        have hDc := hD.sub (ws' := [(a0, .inr (12, [.int i0, .ref a1, .ref a2, .ref a3, .ref a4, .int i1, .ref a5, .int i2, .int (u34 0), .int (u34 1), .int (u34 2), .int (u34 3), .int (u34 4), .int (u34 5), .ref a6, .ref a7, .ref a8, .ref a9, .ref a10, .ref a11, .ref a12, .int i9, .ref a13, .int i10, .ref a14, .ref a15, .int i11, .ref a16, .ref a17, .ref a18, .ref a19, .int i12, .int i13, .int i14, .int i15, .int i16, .ref a20, .long j0, .ref a21, .ref a22, .ref a23, .ref a24])), (a4, .inl (cB, 1600, .inl xF3))]) [1, 2] (by decide) rfl
        have hFc := va_free (wc := [(a0, .inr (12, [.int i0, .ref a1, .ref a2, .ref a3, .ref a4, .int i1, .ref a5, .int i2, .int (u34 0), .int (u34 1), .int (u34 2), .int (u34 3), .int (u34 4), .int (u34 5), .ref a6, .ref a7, .ref a8, .ref a9, .ref a10, .ref a11, .ref a12, .int i9, .ref a13, .int i10, .ref a14, .ref a15, .int i11, .ref a16, .ref a17, .ref a18, .ref a19, .int i12, .int i13, .int i14, .int i15, .int i16, .ref a20, .long j0, .ref a21, .ref a22, .ref a23, .ref a24])), (a4, .inl (cB, 1600, .inl xF3))]) hD hS hA [1, 2] rfl
        refine va_calli (va_runV (As := [.ref sa202, .int 0, .int 20]) (rest := [.int x45, .ref a6]) ⟨hx, hb, hml, hown, hwd⟩ (s_X12_told l dC dI cI cZ cB cJ cM cG a0 a1 a2 a3 a4 a5 a6 a7 a8 a9 a10 a11 a12 a13 a14 a15 a16 a17 a18 a19 a20 a21 a22 a23 a24 i0 i1 i2 (u34 0) (u34 1) (u34 2) (u34 3) (u34 4) (u34 5) i9 i10 i11 i12 i13 i14 i15 i16 j0 xF3 0 20 sa202 sav202 sn202 sf202 H.size (show (0 : Int) ≤ i1.toInt ∧ i1.toInt ≤ 1600 from p_0) (show (0 : Int) ≤ i2.toInt ∧ i2.toInt ≤ 1600 from p_1) (show (0 : Int) ≤ (u34 0).toInt ∧ (u34 0).toInt ≤ 1600 from hw36) (show (0 : Int) ≤ (u34 1).toInt ∧ (u34 1).toInt ≤ 1600 from hw37) (show (0 : Int) ≤ (u34 2).toInt ∧ (u34 2).toInt ≤ 6 from hw38) (show (0 : Int) ≤ (u34 4).toInt ∧ (u34 4).toInt ≤ 3 from hw39) (show (0 : Int) ≤ i11.toInt ∧ i11.toInt ≤ 59 from p_6) (show (0 : Int) ≤ (0 : Int32).toInt ∧ (0 : Int32).toInt ≤ 4 from ⟨by omega, by omega⟩) (show (-1 : Int) ≤ (20 : Int32).toInt ∧ (20 : Int32).toInt ≤ 999 from ⟨by omega, by omega⟩) hw40 hw41) (cwV 3 hwd (gV kr53_10 kr53_11 kr2_23 kr5_23 kr53_12) rfl rfl rfl (by decide +kernel) ⟨Nat.le_of_ble_eq_true rfl, Nat.le_of_ble_eq_true rfl⟩) (kPreVX hPc hK hDc (NS_st _ _ _ _) hN202 hS hFc (ci := 12) (q0 := 0) rfl rfl) rfl rfl hl.1 rfl (lv_room (Nat.le_of_ble_eq_true rfl)) dX12_readFollower_160 ⟨Nat.le_of_ble_eq_true rfl, Nat.le_of_ble_eq_true rfl⟩) hS (fun q _ h => hFc q h) hFc (fun r46 u47 t H1 locs ht9 hvm hw hB hz1 hk1 hS => ?_)
        obtain ⟨u48, U48, V48⟩ := u47
        obtain ⟨hw49, hw50, hw51, hw52, hw53, hw54, hw55, hw56, hw57, -⟩ := hw
        replace hw49 : (r46.toInt = 0 ∨ ((0 : Int32).toInt ≤ r46.toInt ∧ r46.toInt ≤ (20 : Int32).toInt)) := hw49
        replace hw50 : (0 : Int) ≤ (u48 0).toInt ∧ (u48 0).toInt ≤ 1600 := hw50
        replace hw51 : (0 : Int) ≤ (u48 1).toInt ∧ (u48 1).toInt ≤ 1600 := hw51
        replace hw52 : (0 : Int) ≤ (u48 2).toInt ∧ (u48 2).toInt ≤ 6 := hw52
        replace hw53 : (0 : Int) ≤ (u48 4).toInt ∧ (u48 4).toInt ≤ 3 := hw53
        replace hw54 : (u48 1).toInt ≤ (u48 0).toInt := hw54
        replace hw55 : (2 ≤ (u48 2).toInt → (u48 1).toInt + 1 ≤ (u48 0).toInt) := hw55
        replace hw56 : (u34 1).toInt ≤ (u48 1).toInt := hw56
        replace hw57 : ((u48 4).toInt = 0 → (u34 4).toInt = 0 ∧ (0 : Int32).toInt ≤ r46.toInt ∧ r46.toInt ≤ (20 : Int32).toInt ∧ (u34 1).toInt + (sn202 : Int) + 1 ≤ (u48 1).toInt) := hw57
        obtain ⟨hP1, hD1⟩ := hB
        rw [ht9] at hP1
        obtain ⟨hP, hD⟩ := va_join (wr := [(a6, .inl (cI, 544, .inl f44))]) (w1 := [(a0, .inr (12, [.int i0, .ref a1, .ref a2, .ref a3, .ref a4, .int i1, .ref a5, .int i2, .int (u48 0), .int (u48 1), .int (u48 2), .int (u48 3), .int (u48 4), .int (u48 5), .ref a6, .ref a7, .ref a8, .ref a9, .ref a10, .ref a11, .ref a12, .int i9, .ref a13, .int i10, .ref a14, .ref a15, .int i11, .ref a16, .ref a17, .ref a18, .ref a19, .int i12, .int i13, .int i14, .int i15, .int i16, .ref a20, .long j0, .ref a21, .ref a22, .ref a23, .ref a24])), (a4, .inl (cB, 1600, .inl xF3))]) hP hD [1, 2] [0] rfl rfl (by decide) (by decide) hk1 hFc hP1 hD1
        generalize H1 = H at hP hS ⊢
        replace hP : va_P (dC, dI) vwCl [(a6, .inl (cI, 544, .inl f44)), (a0, .inr (12, [.int i0, .ref a1, .ref a2, .ref a3, .ref a4, .int i1, .ref a5, .int i2, .int (u48 0), .int (u48 1), .int (u48 2), .int (u48 3), .int (u48 4), .int (u48 5), .ref a6, .ref a7, .ref a8, .ref a9, .ref a10, .ref a11, .ref a12, .int i9, .ref a13, .int i10, .ref a14, .ref a15, .int i11, .ref a16, .ref a17, .ref a18, .ref a19, .int i12, .int i13, .int i14, .int i15, .int i16, .ref a20, .long j0, .ref a21, .ref a22, .ref a23, .ref a24])), (a4, .inl (cB, 1600, .inl xF3))] H := hP
        replace hD : va_D A [(a6, .inl (cI, 544, .inl f44)), (a0, .inr (12, [.int i0, .ref a1, .ref a2, .ref a3, .ref a4, .int i1, .ref a5, .int i2, .int (u48 0), .int (u48 1), .int (u48 2), .int (u48 3), .int (u48 4), .int (u48 5), .ref a6, .ref a7, .ref a8, .ref a9, .ref a10, .ref a11, .ref a12, .int i9, .ref a13, .int i10, .ref a14, .ref a15, .int i11, .ref a16, .ref a17, .ref a18, .ref a19, .int i12, .int i13, .int i14, .int i15, .int i16, .ref a20, .long j0, .ref a21, .ref a22, .ref a23, .ref a24])), (a4, .inl (cB, 1600, .inl xF3))] := hD
        refine va_iast hx hb hK hP hD hS 0 0 rfl rfl (vp_of (by omega) (by omega)) dX12_readFollower_163 (fun H locs hP hD hS => ?_)
        obtain ⟨f58, ef58⟩ : ∃ f, f = upd f44 x45.toNatClampNeg r46 := ⟨_, rfl⟩
        replace hP : va_P (dC, dI) vwCl [(a6, .inl (cI, 544, .inl f58)), (a0, .inr (12, [.int i0, .ref a1, .ref a2, .ref a3, .ref a4, .int i1, .ref a5, .int i2, .int (u48 0), .int (u48 1), .int (u48 2), .int (u48 3), .int (u48 4), .int (u48 5), .ref a6, .ref a7, .ref a8, .ref a9, .ref a10, .ref a11, .ref a12, .int i9, .ref a13, .int i10, .ref a14, .ref a15, .int i11, .ref a16, .ref a17, .ref a18, .ref a19, .int i12, .int i13, .int i14, .int i15, .int i16, .ref a20, .long j0, .ref a21, .ref a22, .ref a23, .ref a24])), (a4, .inl (cB, 1600, .inl xF3))] H := by rw [ef58]; exact hP
        replace hD : va_D A [(a6, .inl (cI, 544, .inl f58)), (a0, .inr (12, [.int i0, .ref a1, .ref a2, .ref a3, .ref a4, .int i1, .ref a5, .int i2, .int (u48 0), .int (u48 1), .int (u48 2), .int (u48 3), .int (u48 4), .int (u48 5), .ref a6, .ref a7, .ref a8, .ref a9, .ref a10, .ref a11, .ref a12, .int i9, .ref a13, .int i10, .ref a14, .ref a15, .int i11, .ref a16, .ref a17, .ref a18, .ref a19, .int i12, .int i13, .int i14, .int i15, .int i16, .ref a20, .long j0, .ref a21, .ref a22, .ref a23, .ref a24])), (a4, .inl (cB, 1600, .inl xF3))] := by rw [ef58]; exact hD
        refine lv_aload_n hx hb dX12_readFollower_164 rfl (lv_at hl 0 rfl) ?_
        refine va_get (D := (dC, dI)) (ci := 12) (v := .ref a6) (C := RX12) (T := TX12) (N := 42) hx hb hwd inlX12 hown hK hP 1 rfl rfl 14 (by decide) (hwd _ kr49_15) (fun _ h9 => h9) rfl dX12_readFollower_165 ?_
        refine lv_bipush (v := 6) hx hb dX12_readFollower_168 (by decide) ?_
        refine lv_dup2_11 hx hb dX12_readFollower_170 rfl rfl ?_
        have h59 : vp_in (6 : Int32) 544 := (vin (by decide))
        refine va_iald hx hb hK hP 0 0 rfl rfl h59 dX12_readFollower_171 ?_
        refine lv_topi (fun x60 ex60 => ?_)
        have ix60 := wat_lit (F := xF5) (k := 6) (show x60 = xF5 (6 : Int32).toNatClampNeg from by rw [ex60, ef58, upd_ne (by omega), ef44, upd_ne (by omega), ef29, upd_ne (by omega), ef11, upd_ne (by omega), ef7, upd_ne (by omega)]) (by decide)
        refine lv_iconst (v := 1) hx hb dX12_readFollower_172 (by decide) ?_
        refine lv_iadd hx hb dX12_readFollower_173 ?_
        refine lv_topi (fun x61 ex61 => ?_)
        have tx61 := ia_add (a := x60) (b := (1 : Int32)) (by omega) (by omega)
        rw [← ex61] at tx61
        refine va_iast hx hb hK hP hD hS 0 0 rfl rfl (vin (by decide)) dX12_readFollower_174 (fun H locs hP hD hS => ?_)
        obtain ⟨f62, ef62⟩ : ∃ f, f = upd f58 (6 : Int32).toNatClampNeg x61 := ⟨_, rfl⟩
        replace hP : va_P (dC, dI) vwCl [(a6, .inl (cI, 544, .inl f62)), (a0, .inr (12, [.int i0, .ref a1, .ref a2, .ref a3, .ref a4, .int i1, .ref a5, .int i2, .int (u48 0), .int (u48 1), .int (u48 2), .int (u48 3), .int (u48 4), .int (u48 5), .ref a6, .ref a7, .ref a8, .ref a9, .ref a10, .ref a11, .ref a12, .int i9, .ref a13, .int i10, .ref a14, .ref a15, .int i11, .ref a16, .ref a17, .ref a18, .ref a19, .int i12, .int i13, .int i14, .int i15, .int i16, .ref a20, .long j0, .ref a21, .ref a22, .ref a23, .ref a24])), (a4, .inl (cB, 1600, .inl xF3))] H := by rw [ef62]; exact hP
        replace hD : va_D A [(a6, .inl (cI, 544, .inl f62)), (a0, .inr (12, [.int i0, .ref a1, .ref a2, .ref a3, .ref a4, .int i1, .ref a5, .int i2, .int (u48 0), .int (u48 1), .int (u48 2), .int (u48 3), .int (u48 4), .int (u48 5), .ref a6, .ref a7, .ref a8, .ref a9, .ref a10, .ref a11, .ref a12, .int i9, .ref a13, .int i10, .ref a14, .ref a15, .int i11, .ref a16, .ref a17, .ref a18, .ref a19, .int i12, .int i13, .int i14, .int i15, .int i16, .ref a20, .long j0, .ref a21, .ref a22, .ref a23, .ref a24])), (a4, .inl (cB, 1600, .inl xF3))] := by rw [ef62]; exact hD
        have hP9 := hP.sub (ws' := [(a0, .inr (12, [.int i0, .ref a1, .ref a2, .ref a3, .ref a4, .int i1, .ref a5, .int i2, .int (u48 0), .int (u48 1), .int (u48 2), .int (u48 3), .int (u48 4), .int (u48 5), .ref a6, .ref a7, .ref a8, .ref a9, .ref a10, .ref a11, .ref a12, .int i9, .ref a13, .int i10, .ref a14, .ref a15, .int i11, .ref a16, .ref a17, .ref a18, .ref a19, .int i12, .int i13, .int i14, .int i15, .int i16, .ref a20, .long j0, .ref a21, .ref a22, .ref a23, .ref a24])), (a4, .inl (cB, 1600, .inl xF3)), (a6, .inl (cI, 544, .inl f62))]) [1, 2, 0] rfl
        have hD9 := hD.sub (ws' := [(a0, .inr (12, [.int i0, .ref a1, .ref a2, .ref a3, .ref a4, .int i1, .ref a5, .int i2, .int (u48 0), .int (u48 1), .int (u48 2), .int (u48 3), .int (u48 4), .int (u48 5), .ref a6, .ref a7, .ref a8, .ref a9, .ref a10, .ref a11, .ref a12, .int i9, .ref a13, .int i10, .ref a14, .ref a15, .int i11, .ref a16, .ref a17, .ref a18, .ref a19, .int i12, .int i13, .int i14, .int i15, .int i16, .ref a20, .long j0, .ref a21, .ref a22, .ref a23, .ref a24])), (a4, .inl (cB, 1600, .inl xF3)), (a6, .inl (cI, 544, .inl f62))]) [1, 2, 0] (by decide) rfl
        rw [hQ]
        exact W.vret hx hb hr (fun t ht hW => ⟨⟨(pickG 0 [(u48 0), (u48 1), (u48 2), (u48 3), (u48 4), (u48 5)], pickG (fun _ => 0) [f62], pickG (fun _ => 0) []), rfl, ⟨(show (0 : Int) ≤ (u48 0).toInt ∧ (u48 0).toInt ≤ 1600 from hw50), (show (0 : Int) ≤ (u48 1).toInt ∧ (u48 1).toInt ≤ 1600 from hw51), (show (0 : Int) ≤ (u48 2).toInt ∧ (u48 2).toInt ≤ 6 from hw52), (show (0 : Int) ≤ (u48 4).toInt ∧ (u48 4).toInt ≤ 3 from hw53), (show (u48 1).toInt ≤ (u48 0).toInt from by omega), (show (2 ≤ (u48 2).toInt → (u48 1).toInt + 1 ≤ (u48 0).toInt) from by omega), (show i4.toInt ≤ (u48 1).toInt from by omega), (show FG (u48 4).toInt f62 from fun h9 => by replace hw57 := hw57 h9; replace hw43 := hw43 hw57.1; replace hw28 := hw28 hw43.1; clear hw55 hw49 hw41 hw35 hw26 hw20 p_12; have o0 : wfo f58 0 (wat xF5 6) = p0.toInt := (by rw [ef58, wfo_nei (by omega), ef44, wfo_nei (by omega), ef29, wfo_nei (by omega), ef11, wfo_nei (by omega), ef7, wfo_eqi (by omega)]); have o1 : wfo f58 1 (wat xF5 6) = r17.toInt := (by rw [ef58, wfo_nei (by omega), ef44, wfo_nei (by omega), ef29, wfo_eqi (by omega)]); have o2 : wfo f58 2 (wat xF5 6) = (0 : Int32).toInt := (by rw [ef58, wfo_nei (by omega), ef44, wfo_nei (by omega), ef29, wfo_nei (by omega), ef11, wfo_eqi (by omega)]); exact ⟨by rw [ef62]; exact WI_fo (g0 := wat xF5 6) p_7 (by omega) rfl (by omega) (by omega) (fun j9 h8 => by rw [ef58, upd_nej (by omega), ef44, upd_nej (by omega), ef29, upd_nej (by omega), ef11, upd_nej (by omega), ef7, upd_nej (by omega)]) (by unfold wfl; omega) (by omega), (by rw [ef62, wat_nei (by omega), ef58, wat_nei (by omega), ef44, wat_nei (by omega), ef29, wat_nei (by omega), ef11, wat_nei (by omega), ef7, wat_nei (by omega)]; omega)⟩), trivial⟩, (by rw [ht]; exact hP9), hD9⟩, hS.F ht⟩) hS.2.2 dX12_readFollower_175
      · rw [ki_eq] at c30
        exfalso
        omega
    · rw [ki_eq] at c13
      refine lv_aload_n hx hb dX12_readFollower_68 rfl (lv_at hl 0 rfl) ?_
      refine va_get (D := (dC, dI)) (ci := 12) (v := .ref a6) (C := RX12) (T := TX12) (N := 42) hx hb hwd inlX12 hown hK hP 0 rfl rfl 14 (by decide) (hwd _ kr49_15) (fun _ h9 => h9) rfl dX12_readFollower_69 ?_
      refine lv_bipush (v := 6) hx hb dX12_readFollower_72 (by decide) ?_
      have h63 : vp_in (6 : Int32) 544 := (vin (by decide))
      refine va_iald hx hb hK hP 2 0 rfl rfl h63 dX12_readFollower_74 ?_
      refine lv_topi (fun x64 ex64 => ?_)
      have ix64 := wat_lit (F := xF5) (k := 6) (show x64 = xF5 (6 : Int32).toNatClampNeg from by rw [ex64, ef11, upd_ne (by omega), ef7, upd_ne (by omega)]) (by decide)
      refine lv_goto (tgt := 84) hx hb dX12_readFollower_75 (by decide) ?_
      refine lv_iconst (v := 1) hx hb dX12_readFollower_84 (by decide) ?_
      refine lv_isub hx hb dX12_readFollower_85 ?_
      refine lv_topi (fun x65 ex65 => ?_)
      have tx65 := ia_sub (a := x64) (b := (1 : Int32)) (by omega) (by omega)
      rw [← ex65] at tx65
      have hPc := hP.sub (ws' := [(a0, .inr (12, [.int i0, .ref a1, .ref a2, .ref a3, .ref a4, .int i1, .ref a5, .int i2, .int i3, .int i4, .int i5, .int i6, .int i7, .int i8, .ref a6, .ref a7, .ref a8, .ref a9, .ref a10, .ref a11, .ref a12, .int i9, .ref a13, .int i10, .ref a14, .ref a15, .int i11, .ref a16, .ref a17, .ref a18, .ref a19, .int i12, .int i13, .int i14, .int i15, .int i16, .ref a20, .long j0, .ref a21, .ref a22, .ref a23, .ref a24])), (a4, .inl (cB, 1600, .inl xF3))]) [0, 1] rfl
      have hDc := hD.sub (ws' := [(a0, .inr (12, [.int i0, .ref a1, .ref a2, .ref a3, .ref a4, .int i1, .ref a5, .int i2, .int i3, .int i4, .int i5, .int i6, .int i7, .int i8, .ref a6, .ref a7, .ref a8, .ref a9, .ref a10, .ref a11, .ref a12, .int i9, .ref a13, .int i10, .ref a14, .ref a15, .int i11, .ref a16, .ref a17, .ref a18, .ref a19, .int i12, .int i13, .int i14, .int i15, .int i16, .ref a20, .long j0, .ref a21, .ref a22, .ref a23, .ref a24])), (a4, .inl (cB, 1600, .inl xF3))]) [0, 1] (by decide) rfl
      have hFc := va_free (wc := [(a0, .inr (12, [.int i0, .ref a1, .ref a2, .ref a3, .ref a4, .int i1, .ref a5, .int i2, .int i3, .int i4, .int i5, .int i6, .int i7, .int i8, .ref a6, .ref a7, .ref a8, .ref a9, .ref a10, .ref a11, .ref a12, .int i9, .ref a13, .int i10, .ref a14, .ref a15, .int i11, .ref a16, .ref a17, .ref a18, .ref a19, .int i12, .int i13, .int i14, .int i15, .int i16, .ref a20, .long j0, .ref a21, .ref a22, .ref a23, .ref a24])), (a4, .inl (cB, 1600, .inl xF3))]) hD hS hA [0, 1] rfl
      refine va_calli (va_runV (As := [.ref sa189, .int 0, .int x65]) (rest := [.int x12, .ref a6]) ⟨hx, hb, hml, hown, hwd⟩ (s_X12_told l dC dI cI cZ cB cJ cM cG a0 a1 a2 a3 a4 a5 a6 a7 a8 a9 a10 a11 a12 a13 a14 a15 a16 a17 a18 a19 a20 a21 a22 a23 a24 i0 i1 i2 i3 i4 i5 i6 i7 i8 i9 i10 i11 i12 i13 i14 i15 i16 j0 xF3 0 x65 sa189 sav189 sn189 sf189 H.size (show (0 : Int) ≤ i1.toInt ∧ i1.toInt ≤ 1600 from p_0) (show (0 : Int) ≤ i2.toInt ∧ i2.toInt ≤ 1600 from p_1) (show (0 : Int) ≤ i3.toInt ∧ i3.toInt ≤ 1600 from p_2) (show (0 : Int) ≤ i4.toInt ∧ i4.toInt ≤ 1600 from p_3) (show (0 : Int) ≤ i5.toInt ∧ i5.toInt ≤ 6 from p_4) (show (0 : Int) ≤ i7.toInt ∧ i7.toInt ≤ 3 from p_5) (show (0 : Int) ≤ i11.toInt ∧ i11.toInt ≤ 59 from p_6) (show (0 : Int) ≤ (0 : Int32).toInt ∧ (0 : Int32).toInt ≤ 4 from ⟨by omega, by omega⟩) (show (-1 : Int) ≤ x65.toInt ∧ x65.toInt ≤ 999 from ⟨by omega, by omega⟩) p_11 p_12) (cwV 3 hwd (gV kr53_10 kr53_11 kr2_23 kr5_23 kr53_12) rfl rfl rfl (by decide +kernel) ⟨Nat.le_of_ble_eq_true rfl, Nat.le_of_ble_eq_true rfl⟩) (kPreVX hPc hK hDc (NS_st _ _ _ _) hN189 hS hFc (ci := 12) (q0 := 0) rfl rfl) rfl rfl hl.1 rfl (lv_room (Nat.le_of_ble_eq_true rfl)) dX12_readFollower_86 ⟨Nat.le_of_ble_eq_true rfl, Nat.le_of_ble_eq_true rfl⟩) hS (fun q _ h => hFc q h) hFc (fun r66 u67 t H1 locs ht9 hvm hw hB hz1 hk1 hS => ?_)
      obtain ⟨u68, U68, V68⟩ := u67
      obtain ⟨hw69, hw70, hw71, hw72, hw73, hw74, hw75, hw76, hw77, -⟩ := hw
      replace hw69 : (r66.toInt = 0 ∨ ((0 : Int32).toInt ≤ r66.toInt ∧ r66.toInt ≤ x65.toInt)) := hw69
      replace hw70 : (0 : Int) ≤ (u68 0).toInt ∧ (u68 0).toInt ≤ 1600 := hw70
      replace hw71 : (0 : Int) ≤ (u68 1).toInt ∧ (u68 1).toInt ≤ 1600 := hw71
      replace hw72 : (0 : Int) ≤ (u68 2).toInt ∧ (u68 2).toInt ≤ 6 := hw72
      replace hw73 : (0 : Int) ≤ (u68 4).toInt ∧ (u68 4).toInt ≤ 3 := hw73
      replace hw74 : (u68 1).toInt ≤ (u68 0).toInt := hw74
      replace hw75 : (2 ≤ (u68 2).toInt → (u68 1).toInt + 1 ≤ (u68 0).toInt) := hw75
      replace hw76 : i4.toInt ≤ (u68 1).toInt := hw76
      replace hw77 : ((u68 4).toInt = 0 → i7.toInt = 0 ∧ (0 : Int32).toInt ≤ r66.toInt ∧ r66.toInt ≤ x65.toInt ∧ i4.toInt + (sn189 : Int) + 1 ≤ (u68 1).toInt) := hw77
      obtain ⟨hP1, hD1⟩ := hB
      rw [ht9] at hP1
      obtain ⟨hP, hD⟩ := va_join (wr := [(a6, .inl (cI, 544, .inl f11))]) (w1 := [(a0, .inr (12, [.int i0, .ref a1, .ref a2, .ref a3, .ref a4, .int i1, .ref a5, .int i2, .int (u68 0), .int (u68 1), .int (u68 2), .int (u68 3), .int (u68 4), .int (u68 5), .ref a6, .ref a7, .ref a8, .ref a9, .ref a10, .ref a11, .ref a12, .int i9, .ref a13, .int i10, .ref a14, .ref a15, .int i11, .ref a16, .ref a17, .ref a18, .ref a19, .int i12, .int i13, .int i14, .int i15, .int i16, .ref a20, .long j0, .ref a21, .ref a22, .ref a23, .ref a24])), (a4, .inl (cB, 1600, .inl xF3))]) hP hD [0, 1] [2] rfl rfl (by decide) (by decide) hk1 hFc hP1 hD1
      generalize H1 = H at hP hS ⊢
      replace hP : va_P (dC, dI) vwCl [(a6, .inl (cI, 544, .inl f11)), (a0, .inr (12, [.int i0, .ref a1, .ref a2, .ref a3, .ref a4, .int i1, .ref a5, .int i2, .int (u68 0), .int (u68 1), .int (u68 2), .int (u68 3), .int (u68 4), .int (u68 5), .ref a6, .ref a7, .ref a8, .ref a9, .ref a10, .ref a11, .ref a12, .int i9, .ref a13, .int i10, .ref a14, .ref a15, .int i11, .ref a16, .ref a17, .ref a18, .ref a19, .int i12, .int i13, .int i14, .int i15, .int i16, .ref a20, .long j0, .ref a21, .ref a22, .ref a23, .ref a24])), (a4, .inl (cB, 1600, .inl xF3))] H := hP
      replace hD : va_D A [(a6, .inl (cI, 544, .inl f11)), (a0, .inr (12, [.int i0, .ref a1, .ref a2, .ref a3, .ref a4, .int i1, .ref a5, .int i2, .int (u68 0), .int (u68 1), .int (u68 2), .int (u68 3), .int (u68 4), .int (u68 5), .ref a6, .ref a7, .ref a8, .ref a9, .ref a10, .ref a11, .ref a12, .int i9, .ref a13, .int i10, .ref a14, .ref a15, .int i11, .ref a16, .ref a17, .ref a18, .ref a19, .int i12, .int i13, .int i14, .int i15, .int i16, .ref a20, .long j0, .ref a21, .ref a22, .ref a23, .ref a24])), (a4, .inl (cB, 1600, .inl xF3))] := hD
      refine va_iast hx hb hK hP hD hS 0 0 rfl rfl (vp_of (by omega) (by omega)) dX12_readFollower_89 (fun H locs hP hD hS => ?_)
      obtain ⟨f78, ef78⟩ : ∃ f, f = upd f11 x12.toNatClampNeg r66 := ⟨_, rfl⟩
      replace hP : va_P (dC, dI) vwCl [(a6, .inl (cI, 544, .inl f78)), (a0, .inr (12, [.int i0, .ref a1, .ref a2, .ref a3, .ref a4, .int i1, .ref a5, .int i2, .int (u68 0), .int (u68 1), .int (u68 2), .int (u68 3), .int (u68 4), .int (u68 5), .ref a6, .ref a7, .ref a8, .ref a9, .ref a10, .ref a11, .ref a12, .int i9, .ref a13, .int i10, .ref a14, .ref a15, .int i11, .ref a16, .ref a17, .ref a18, .ref a19, .int i12, .int i13, .int i14, .int i15, .int i16, .ref a20, .long j0, .ref a21, .ref a22, .ref a23, .ref a24])), (a4, .inl (cB, 1600, .inl xF3))] H := by rw [ef78]; exact hP
      replace hD : va_D A [(a6, .inl (cI, 544, .inl f78)), (a0, .inr (12, [.int i0, .ref a1, .ref a2, .ref a3, .ref a4, .int i1, .ref a5, .int i2, .int (u68 0), .int (u68 1), .int (u68 2), .int (u68 3), .int (u68 4), .int (u68 5), .ref a6, .ref a7, .ref a8, .ref a9, .ref a10, .ref a11, .ref a12, .int i9, .ref a13, .int i10, .ref a14, .ref a15, .int i11, .ref a16, .ref a17, .ref a18, .ref a19, .int i12, .int i13, .int i14, .int i15, .int i16, .ref a20, .long j0, .ref a21, .ref a22, .ref a23, .ref a24])), (a4, .inl (cB, 1600, .inl xF3))] := by rw [ef78]; exact hD
      refine lv_iload_n hx hb dX12_readFollower_90 rfl (lv_at hl 1 rfl) ?_
      refine lv_iconst (v := 3) hx hb dX12_readFollower_91 (by decide) ?_
      refine lv_icmp_ne (tgt := 130) hx hb dX12_readFollower_92 (by decide) (fun c79 => ?_) (fun c79 => ?_)
      · rw [ki_eq] at c79
        exfalso
        omega
      · rw [ki_eq] at c79
        refine lv_aload_n hx hb dX12_readFollower_95 rfl (lv_at hl 0 rfl) ?_
        refine va_get (D := (dC, dI)) (ci := 12) (v := .ref a6) (C := RX12) (T := TX12) (N := 42) hx hb hwd inlX12 hown hK hP 1 rfl rfl 14 (by decide) (hwd _ kr49_15) (fun _ h9 => h9) rfl dX12_readFollower_96 ?_
        refine lv_iload_n hx hb dX12_readFollower_99 rfl (lv_at hl 2 rfl) ?_
        refine lv_iconst (v := 2) hx hb dX12_readFollower_100 (by decide) ?_
        refine lv_iadd hx hb dX12_readFollower_101 ?_
        refine lv_topi (fun x80 ex80 => ?_)
        have tx80 := ia_add (a := x5) (b := (2 : Int32)) (by omega) (by omega)
        rw [← ex80] at tx80
        refine lv_aload_n hx hb dX12_readFollower_102 rfl (lv_at hl 0 rfl) ?_
        refine lv_iconst (v := 1) hx hb dX12_readFollower_103 (by decide) ?_
        refine lv_bipush (v := 9) hx hb dX12_readFollower_104 (by decide) ?_
        have hPc := hP.sub (ws' := [(a0, .inr (12, [.int i0, .ref a1, .ref a2, .ref a3, .ref a4, .int i1, .ref a5, .int i2, .int (u68 0), .int (u68 1), .int (u68 2), .int (u68 3), .int (u68 4), .int (u68 5), .ref a6, .ref a7, .ref a8, .ref a9, .ref a10, .ref a11, .ref a12, .int i9, .ref a13, .int i10, .ref a14, .ref a15, .int i11, .ref a16, .ref a17, .ref a18, .ref a19, .int i12, .int i13, .int i14, .int i15, .int i16, .ref a20, .long j0, .ref a21, .ref a22, .ref a23, .ref a24])), (a4, .inl (cB, 1600, .inl xF3))]) [1, 2] rfl
        have hDc := hD.sub (ws' := [(a0, .inr (12, [.int i0, .ref a1, .ref a2, .ref a3, .ref a4, .int i1, .ref a5, .int i2, .int (u68 0), .int (u68 1), .int (u68 2), .int (u68 3), .int (u68 4), .int (u68 5), .ref a6, .ref a7, .ref a8, .ref a9, .ref a10, .ref a11, .ref a12, .int i9, .ref a13, .int i10, .ref a14, .ref a15, .int i11, .ref a16, .ref a17, .ref a18, .ref a19, .int i12, .int i13, .int i14, .int i15, .int i16, .ref a20, .long j0, .ref a21, .ref a22, .ref a23, .ref a24])), (a4, .inl (cB, 1600, .inl xF3))]) [1, 2] (by decide) rfl
        have hFc := va_free (wc := [(a0, .inr (12, [.int i0, .ref a1, .ref a2, .ref a3, .ref a4, .int i1, .ref a5, .int i2, .int (u68 0), .int (u68 1), .int (u68 2), .int (u68 3), .int (u68 4), .int (u68 5), .ref a6, .ref a7, .ref a8, .ref a9, .ref a10, .ref a11, .ref a12, .int i9, .ref a13, .int i10, .ref a14, .ref a15, .int i11, .ref a16, .ref a17, .ref a18, .ref a19, .int i12, .int i13, .int i14, .int i15, .int i16, .ref a20, .long j0, .ref a21, .ref a22, .ref a23, .ref a24])), (a4, .inl (cB, 1600, .inl xF3))]) hD hS hA [1, 2] rfl
        refine va_calli (va_runV (As := [.int 1, .int 9]) (rest := [.int x80, .ref a6]) ⟨hx, hb, hml, hown, hwd⟩ (s_X12_number l dC dI cI cZ cB cJ cM cG a0 a1 a2 a3 a4 a5 a6 a7 a8 a9 a10 a11 a12 a13 a14 a15 a16 a17 a18 a19 a20 a21 a22 a23 a24 i0 i1 i2 (u68 0) (u68 1) (u68 2) (u68 3) (u68 4) (u68 5) i9 i10 i11 i12 i13 i14 i15 i16 j0 xF3 1 9 H.size (show (0 : Int) ≤ i1.toInt ∧ i1.toInt ≤ 1600 from p_0) (show (0 : Int) ≤ i2.toInt ∧ i2.toInt ≤ 1600 from p_1) (show (0 : Int) ≤ (u68 0).toInt ∧ (u68 0).toInt ≤ 1600 from hw70) (show (0 : Int) ≤ (u68 1).toInt ∧ (u68 1).toInt ≤ 1600 from hw71) (show (0 : Int) ≤ (u68 2).toInt ∧ (u68 2).toInt ≤ 6 from hw72) (show (0 : Int) ≤ (u68 4).toInt ∧ (u68 4).toInt ≤ 3 from hw73) (show (0 : Int) ≤ i11.toInt ∧ i11.toInt ≤ 59 from p_6) (show (0 : Int) ≤ (1 : Int32).toInt ∧ (1 : Int32).toInt ≤ 4 from ⟨by omega, by omega⟩) (show (-1 : Int) ≤ (9 : Int32).toInt ∧ (9 : Int32).toInt ≤ 999 from ⟨by omega, by omega⟩) hw74 hw75) (cwV 2 hwd (gV kr53_13 kr53_14 kr3_0 kr5_23 kr53_15) rfl rfl rfl (by decide +kernel) ⟨Nat.le_of_ble_eq_true rfl, Nat.le_of_ble_eq_true rfl⟩) (kPreV hPc hK hDc (ci := 12) (q0 := 0) rfl rfl) rfl rfl hl.1 rfl (lv_room (Nat.le_of_ble_eq_true rfl)) dX12_readFollower_106 ⟨Nat.le_of_ble_eq_true rfl, Nat.le_of_ble_eq_true rfl⟩) hS (fun q _ h => hFc q h) hFc (fun r81 u82 t H1 locs ht9 hvm hw hB hz1 hk1 hS => ?_)
        obtain ⟨u83, U83, V83⟩ := u82
        obtain ⟨hw84, hw85, hw86, hw87, hw88, hw89, hw90, hw91, hw92, -⟩ := hw
        replace hw84 : (r81.toInt = 0 ∨ ((1 : Int32).toInt ≤ r81.toInt ∧ r81.toInt ≤ (9 : Int32).toInt)) := hw84
        replace hw85 : (0 : Int) ≤ (u83 0).toInt ∧ (u83 0).toInt ≤ 1600 := hw85
        replace hw86 : (0 : Int) ≤ (u83 1).toInt ∧ (u83 1).toInt ≤ 1600 := hw86
        replace hw87 : (0 : Int) ≤ (u83 2).toInt ∧ (u83 2).toInt ≤ 6 := hw87
        replace hw88 : (0 : Int) ≤ (u83 4).toInt ∧ (u83 4).toInt ≤ 3 := hw88
        replace hw89 : (u83 1).toInt ≤ (u83 0).toInt := hw89
        replace hw90 : (2 ≤ (u83 2).toInt → (u83 1).toInt + 1 ≤ (u83 0).toInt) := hw90
        replace hw91 : (u68 1).toInt ≤ (u83 1).toInt := hw91
        replace hw92 : ((u83 4).toInt = 0 → (u68 4).toInt = 0 ∧ (1 : Int32).toInt ≤ r81.toInt ∧ r81.toInt ≤ (9 : Int32).toInt ∧ (u68 1).toInt + 1 ≤ (u83 1).toInt) := hw92
        obtain ⟨hP1, hD1⟩ := hB
        rw [ht9] at hP1
        obtain ⟨hP, hD⟩ := va_join (wr := [(a6, .inl (cI, 544, .inl f78))]) (w1 := [(a0, .inr (12, [.int i0, .ref a1, .ref a2, .ref a3, .ref a4, .int i1, .ref a5, .int i2, .int (u83 0), .int (u83 1), .int (u83 2), .int (u83 3), .int (u83 4), .int (u83 5), .ref a6, .ref a7, .ref a8, .ref a9, .ref a10, .ref a11, .ref a12, .int i9, .ref a13, .int i10, .ref a14, .ref a15, .int i11, .ref a16, .ref a17, .ref a18, .ref a19, .int i12, .int i13, .int i14, .int i15, .int i16, .ref a20, .long j0, .ref a21, .ref a22, .ref a23, .ref a24])), (a4, .inl (cB, 1600, .inl xF3))]) hP hD [1, 2] [0] rfl rfl (by decide) (by decide) hk1 hFc hP1 hD1
        generalize H1 = H at hP hS ⊢
        replace hP : va_P (dC, dI) vwCl [(a6, .inl (cI, 544, .inl f78)), (a0, .inr (12, [.int i0, .ref a1, .ref a2, .ref a3, .ref a4, .int i1, .ref a5, .int i2, .int (u83 0), .int (u83 1), .int (u83 2), .int (u83 3), .int (u83 4), .int (u83 5), .ref a6, .ref a7, .ref a8, .ref a9, .ref a10, .ref a11, .ref a12, .int i9, .ref a13, .int i10, .ref a14, .ref a15, .int i11, .ref a16, .ref a17, .ref a18, .ref a19, .int i12, .int i13, .int i14, .int i15, .int i16, .ref a20, .long j0, .ref a21, .ref a22, .ref a23, .ref a24])), (a4, .inl (cB, 1600, .inl xF3))] H := hP
        replace hD : va_D A [(a6, .inl (cI, 544, .inl f78)), (a0, .inr (12, [.int i0, .ref a1, .ref a2, .ref a3, .ref a4, .int i1, .ref a5, .int i2, .int (u83 0), .int (u83 1), .int (u83 2), .int (u83 3), .int (u83 4), .int (u83 5), .ref a6, .ref a7, .ref a8, .ref a9, .ref a10, .ref a11, .ref a12, .int i9, .ref a13, .int i10, .ref a14, .ref a15, .int i11, .ref a16, .ref a17, .ref a18, .ref a19, .int i12, .int i13, .int i14, .int i15, .int i16, .ref a20, .long j0, .ref a21, .ref a22, .ref a23, .ref a24])), (a4, .inl (cB, 1600, .inl xF3))] := hD
        refine va_iast hx hb hK hP hD hS 0 0 rfl rfl (vp_of (by omega) (by omega)) dX12_readFollower_109 (fun H locs hP hD hS => ?_)
        obtain ⟨f93, ef93⟩ : ∃ f, f = upd f78 x80.toNatClampNeg r81 := ⟨_, rfl⟩
        replace hP : va_P (dC, dI) vwCl [(a6, .inl (cI, 544, .inl f93)), (a0, .inr (12, [.int i0, .ref a1, .ref a2, .ref a3, .ref a4, .int i1, .ref a5, .int i2, .int (u83 0), .int (u83 1), .int (u83 2), .int (u83 3), .int (u83 4), .int (u83 5), .ref a6, .ref a7, .ref a8, .ref a9, .ref a10, .ref a11, .ref a12, .int i9, .ref a13, .int i10, .ref a14, .ref a15, .int i11, .ref a16, .ref a17, .ref a18, .ref a19, .int i12, .int i13, .int i14, .int i15, .int i16, .ref a20, .long j0, .ref a21, .ref a22, .ref a23, .ref a24])), (a4, .inl (cB, 1600, .inl xF3))] H := by rw [ef93]; exact hP
        replace hD : va_D A [(a6, .inl (cI, 544, .inl f93)), (a0, .inr (12, [.int i0, .ref a1, .ref a2, .ref a3, .ref a4, .int i1, .ref a5, .int i2, .int (u83 0), .int (u83 1), .int (u83 2), .int (u83 3), .int (u83 4), .int (u83 5), .ref a6, .ref a7, .ref a8, .ref a9, .ref a10, .ref a11, .ref a12, .int i9, .ref a13, .int i10, .ref a14, .ref a15, .int i11, .ref a16, .ref a17, .ref a18, .ref a19, .int i12, .int i13, .int i14, .int i15, .int i16, .ref a20, .long j0, .ref a21, .ref a22, .ref a23, .ref a24])), (a4, .inl (cB, 1600, .inl xF3))] := by rw [ef93]; exact hD
        refine lv_aload_n hx hb dX12_readFollower_110 rfl (lv_at hl 0 rfl) ?_
        refine va_get (D := (dC, dI)) (ci := 12) (v := .ref a6) (C := RX12) (T := TX12) (N := 42) hx hb hwd inlX12 hown hK hP 1 rfl rfl 14 (by decide) (hwd _ kr49_15) (fun _ h9 => h9) rfl dX12_readFollower_111 ?_
        refine lv_iload_n hx hb dX12_readFollower_114 rfl (lv_at hl 2 rfl) ?_
        refine lv_iconst (v := 3) hx hb dX12_readFollower_115 (by decide) ?_
        refine lv_iadd hx hb dX12_readFollower_116 ?_
        refine lv_topi (fun x94 ex94 => ?_)
        have tx94 := ia_add (a := x5) (b := (3 : Int32)) (by omega) (by omega)
        rw [← ex94] at tx94
        refine lv_aload_n hx hb dX12_readFollower_117 rfl (lv_at hl 0 rfl) ?_
        refine va_ldcS hx hb hown hR198 dX12_readFollower_118 ?_
        refine lv_iconst (v := 1) hx hb dX12_readFollower_120 (by decide) ?_
        refine lv_bipush (v := 9) hx hb dX12_readFollower_121 (by decide) ?_
        have hPc := hP.sub (ws' := [(a0, .inr (12, [.int i0, .ref a1, .ref a2, .ref a3, .ref a4, .int i1, .ref a5, .int i2, .int (u83 0), .int (u83 1), .int (u83 2), .int (u83 3), .int (u83 4), .int (u83 5), .ref a6, .ref a7, .ref a8, .ref a9, .ref a10, .ref a11, .ref a12, .int i9, .ref a13, .int i10, .ref a14, .ref a15, .int i11, .ref a16, .ref a17, .ref a18, .ref a19, .int i12, .int i13, .int i14, .int i15, .int i16, .ref a20, .long j0, .ref a21, .ref a22, .ref a23, .ref a24])), (a4, .inl (cB, 1600, .inl xF3))]) [1, 2] rfl
        have hDc := hD.sub (ws' := [(a0, .inr (12, [.int i0, .ref a1, .ref a2, .ref a3, .ref a4, .int i1, .ref a5, .int i2, .int (u83 0), .int (u83 1), .int (u83 2), .int (u83 3), .int (u83 4), .int (u83 5), .ref a6, .ref a7, .ref a8, .ref a9, .ref a10, .ref a11, .ref a12, .int i9, .ref a13, .int i10, .ref a14, .ref a15, .int i11, .ref a16, .ref a17, .ref a18, .ref a19, .int i12, .int i13, .int i14, .int i15, .int i16, .ref a20, .long j0, .ref a21, .ref a22, .ref a23, .ref a24])), (a4, .inl (cB, 1600, .inl xF3))]) [1, 2] (by decide) rfl
        have hFc := va_free (wc := [(a0, .inr (12, [.int i0, .ref a1, .ref a2, .ref a3, .ref a4, .int i1, .ref a5, .int i2, .int (u83 0), .int (u83 1), .int (u83 2), .int (u83 3), .int (u83 4), .int (u83 5), .ref a6, .ref a7, .ref a8, .ref a9, .ref a10, .ref a11, .ref a12, .int i9, .ref a13, .int i10, .ref a14, .ref a15, .int i11, .ref a16, .ref a17, .ref a18, .ref a19, .int i12, .int i13, .int i14, .int i15, .int i16, .ref a20, .long j0, .ref a21, .ref a22, .ref a23, .ref a24])), (a4, .inl (cB, 1600, .inl xF3))]) hD hS hA [1, 2] rfl
        refine va_calli (va_runV (As := [.ref sa198, .int 1, .int 9]) (rest := [.int x94, .ref a6]) ⟨hx, hb, hml, hown, hwd⟩ (s_X12_told l dC dI cI cZ cB cJ cM cG a0 a1 a2 a3 a4 a5 a6 a7 a8 a9 a10 a11 a12 a13 a14 a15 a16 a17 a18 a19 a20 a21 a22 a23 a24 i0 i1 i2 (u83 0) (u83 1) (u83 2) (u83 3) (u83 4) (u83 5) i9 i10 i11 i12 i13 i14 i15 i16 j0 xF3 1 9 sa198 sav198 sn198 sf198 H.size (show (0 : Int) ≤ i1.toInt ∧ i1.toInt ≤ 1600 from p_0) (show (0 : Int) ≤ i2.toInt ∧ i2.toInt ≤ 1600 from p_1) (show (0 : Int) ≤ (u83 0).toInt ∧ (u83 0).toInt ≤ 1600 from hw85) (show (0 : Int) ≤ (u83 1).toInt ∧ (u83 1).toInt ≤ 1600 from hw86) (show (0 : Int) ≤ (u83 2).toInt ∧ (u83 2).toInt ≤ 6 from hw87) (show (0 : Int) ≤ (u83 4).toInt ∧ (u83 4).toInt ≤ 3 from hw88) (show (0 : Int) ≤ i11.toInt ∧ i11.toInt ≤ 59 from p_6) (show (0 : Int) ≤ (1 : Int32).toInt ∧ (1 : Int32).toInt ≤ 4 from ⟨by omega, by omega⟩) (show (-1 : Int) ≤ (9 : Int32).toInt ∧ (9 : Int32).toInt ≤ 999 from ⟨by omega, by omega⟩) hw89 hw90) (cwV 3 hwd (gV kr53_10 kr53_11 kr2_23 kr5_23 kr53_12) rfl rfl rfl (by decide +kernel) ⟨Nat.le_of_ble_eq_true rfl, Nat.le_of_ble_eq_true rfl⟩) (kPreVX hPc hK hDc (NS_st _ _ _ _) hN198 hS hFc (ci := 12) (q0 := 0) rfl rfl) rfl rfl hl.1 rfl (lv_room (Nat.le_of_ble_eq_true rfl)) dX12_readFollower_123 ⟨Nat.le_of_ble_eq_true rfl, Nat.le_of_ble_eq_true rfl⟩) hS (fun q _ h => hFc q h) hFc (fun r95 u96 t H1 locs ht9 hvm hw hB hz1 hk1 hS => ?_)
        obtain ⟨u97, U97, V97⟩ := u96
        obtain ⟨hw98, hw99, hw100, hw101, hw102, hw103, hw104, hw105, hw106, -⟩ := hw
        replace hw98 : (r95.toInt = 0 ∨ ((1 : Int32).toInt ≤ r95.toInt ∧ r95.toInt ≤ (9 : Int32).toInt)) := hw98
        replace hw99 : (0 : Int) ≤ (u97 0).toInt ∧ (u97 0).toInt ≤ 1600 := hw99
        replace hw100 : (0 : Int) ≤ (u97 1).toInt ∧ (u97 1).toInt ≤ 1600 := hw100
        replace hw101 : (0 : Int) ≤ (u97 2).toInt ∧ (u97 2).toInt ≤ 6 := hw101
        replace hw102 : (0 : Int) ≤ (u97 4).toInt ∧ (u97 4).toInt ≤ 3 := hw102
        replace hw103 : (u97 1).toInt ≤ (u97 0).toInt := hw103
        replace hw104 : (2 ≤ (u97 2).toInt → (u97 1).toInt + 1 ≤ (u97 0).toInt) := hw104
        replace hw105 : (u83 1).toInt ≤ (u97 1).toInt := hw105
        replace hw106 : ((u97 4).toInt = 0 → (u83 4).toInt = 0 ∧ (1 : Int32).toInt ≤ r95.toInt ∧ r95.toInt ≤ (9 : Int32).toInt ∧ (u83 1).toInt + (sn198 : Int) + 1 ≤ (u97 1).toInt) := hw106
        obtain ⟨hP1, hD1⟩ := hB
        rw [ht9] at hP1
        obtain ⟨hP, hD⟩ := va_join (wr := [(a6, .inl (cI, 544, .inl f93))]) (w1 := [(a0, .inr (12, [.int i0, .ref a1, .ref a2, .ref a3, .ref a4, .int i1, .ref a5, .int i2, .int (u97 0), .int (u97 1), .int (u97 2), .int (u97 3), .int (u97 4), .int (u97 5), .ref a6, .ref a7, .ref a8, .ref a9, .ref a10, .ref a11, .ref a12, .int i9, .ref a13, .int i10, .ref a14, .ref a15, .int i11, .ref a16, .ref a17, .ref a18, .ref a19, .int i12, .int i13, .int i14, .int i15, .int i16, .ref a20, .long j0, .ref a21, .ref a22, .ref a23, .ref a24])), (a4, .inl (cB, 1600, .inl xF3))]) hP hD [1, 2] [0] rfl rfl (by decide) (by decide) hk1 hFc hP1 hD1
        generalize H1 = H at hP hS ⊢
        replace hP : va_P (dC, dI) vwCl [(a6, .inl (cI, 544, .inl f93)), (a0, .inr (12, [.int i0, .ref a1, .ref a2, .ref a3, .ref a4, .int i1, .ref a5, .int i2, .int (u97 0), .int (u97 1), .int (u97 2), .int (u97 3), .int (u97 4), .int (u97 5), .ref a6, .ref a7, .ref a8, .ref a9, .ref a10, .ref a11, .ref a12, .int i9, .ref a13, .int i10, .ref a14, .ref a15, .int i11, .ref a16, .ref a17, .ref a18, .ref a19, .int i12, .int i13, .int i14, .int i15, .int i16, .ref a20, .long j0, .ref a21, .ref a22, .ref a23, .ref a24])), (a4, .inl (cB, 1600, .inl xF3))] H := hP
        replace hD : va_D A [(a6, .inl (cI, 544, .inl f93)), (a0, .inr (12, [.int i0, .ref a1, .ref a2, .ref a3, .ref a4, .int i1, .ref a5, .int i2, .int (u97 0), .int (u97 1), .int (u97 2), .int (u97 3), .int (u97 4), .int (u97 5), .ref a6, .ref a7, .ref a8, .ref a9, .ref a10, .ref a11, .ref a12, .int i9, .ref a13, .int i10, .ref a14, .ref a15, .int i11, .ref a16, .ref a17, .ref a18, .ref a19, .int i12, .int i13, .int i14, .int i15, .int i16, .ref a20, .long j0, .ref a21, .ref a22, .ref a23, .ref a24])), (a4, .inl (cB, 1600, .inl xF3))] := hD
        refine va_iast hx hb hK hP hD hS 0 0 rfl rfl (vp_of (by omega) (by omega)) dX12_readFollower_126 (fun H locs hP hD hS => ?_)
        obtain ⟨f107, ef107⟩ : ∃ f, f = upd f93 x94.toNatClampNeg r95 := ⟨_, rfl⟩
        replace hP : va_P (dC, dI) vwCl [(a6, .inl (cI, 544, .inl f107)), (a0, .inr (12, [.int i0, .ref a1, .ref a2, .ref a3, .ref a4, .int i1, .ref a5, .int i2, .int (u97 0), .int (u97 1), .int (u97 2), .int (u97 3), .int (u97 4), .int (u97 5), .ref a6, .ref a7, .ref a8, .ref a9, .ref a10, .ref a11, .ref a12, .int i9, .ref a13, .int i10, .ref a14, .ref a15, .int i11, .ref a16, .ref a17, .ref a18, .ref a19, .int i12, .int i13, .int i14, .int i15, .int i16, .ref a20, .long j0, .ref a21, .ref a22, .ref a23, .ref a24])), (a4, .inl (cB, 1600, .inl xF3))] H := by rw [ef107]; exact hP
        replace hD : va_D A [(a6, .inl (cI, 544, .inl f107)), (a0, .inr (12, [.int i0, .ref a1, .ref a2, .ref a3, .ref a4, .int i1, .ref a5, .int i2, .int (u97 0), .int (u97 1), .int (u97 2), .int (u97 3), .int (u97 4), .int (u97 5), .ref a6, .ref a7, .ref a8, .ref a9, .ref a10, .ref a11, .ref a12, .int i9, .ref a13, .int i10, .ref a14, .ref a15, .int i11, .ref a16, .ref a17, .ref a18, .ref a19, .int i12, .int i13, .int i14, .int i15, .int i16, .ref a20, .long j0, .ref a21, .ref a22, .ref a23, .ref a24])), (a4, .inl (cB, 1600, .inl xF3))] := by rw [ef107]; exact hD
        refine lv_goto (tgt := 164) hx hb dX12_readFollower_127 (by decide) ?_
        refine lv_aload_n hx hb dX12_readFollower_164 rfl (lv_at hl 0 rfl) ?_
        refine va_get (D := (dC, dI)) (ci := 12) (v := .ref a6) (C := RX12) (T := TX12) (N := 42) hx hb hwd inlX12 hown hK hP 1 rfl rfl 14 (by decide) (hwd _ kr49_15) (fun _ h9 => h9) rfl dX12_readFollower_165 ?_
        refine lv_bipush (v := 6) hx hb dX12_readFollower_168 (by decide) ?_
        refine lv_dup2_11 hx hb dX12_readFollower_170 rfl rfl ?_
        have h108 : vp_in (6 : Int32) 544 := (vin (by decide))
        refine va_iald hx hb hK hP 0 0 rfl rfl h108 dX12_readFollower_171 ?_
        refine lv_topi (fun x109 ex109 => ?_)
        have ix109 := wat_lit (F := xF5) (k := 6) (show x109 = xF5 (6 : Int32).toNatClampNeg from by rw [ex109, ef107, upd_ne (by omega), ef93, upd_ne (by omega), ef78, upd_ne (by omega), ef11, upd_ne (by omega), ef7, upd_ne (by omega)]) (by decide)
        refine lv_iconst (v := 1) hx hb dX12_readFollower_172 (by decide) ?_
        refine lv_iadd hx hb dX12_readFollower_173 ?_
        refine lv_topi (fun x110 ex110 => ?_)
        have tx110 := ia_add (a := x109) (b := (1 : Int32)) (by omega) (by omega)
        rw [← ex110] at tx110
        refine va_iast hx hb hK hP hD hS 0 0 rfl rfl (vin (by decide)) dX12_readFollower_174 (fun H locs hP hD hS => ?_)
        obtain ⟨f111, ef111⟩ : ∃ f, f = upd f107 (6 : Int32).toNatClampNeg x110 := ⟨_, rfl⟩
        replace hP : va_P (dC, dI) vwCl [(a6, .inl (cI, 544, .inl f111)), (a0, .inr (12, [.int i0, .ref a1, .ref a2, .ref a3, .ref a4, .int i1, .ref a5, .int i2, .int (u97 0), .int (u97 1), .int (u97 2), .int (u97 3), .int (u97 4), .int (u97 5), .ref a6, .ref a7, .ref a8, .ref a9, .ref a10, .ref a11, .ref a12, .int i9, .ref a13, .int i10, .ref a14, .ref a15, .int i11, .ref a16, .ref a17, .ref a18, .ref a19, .int i12, .int i13, .int i14, .int i15, .int i16, .ref a20, .long j0, .ref a21, .ref a22, .ref a23, .ref a24])), (a4, .inl (cB, 1600, .inl xF3))] H := by rw [ef111]; exact hP
        replace hD : va_D A [(a6, .inl (cI, 544, .inl f111)), (a0, .inr (12, [.int i0, .ref a1, .ref a2, .ref a3, .ref a4, .int i1, .ref a5, .int i2, .int (u97 0), .int (u97 1), .int (u97 2), .int (u97 3), .int (u97 4), .int (u97 5), .ref a6, .ref a7, .ref a8, .ref a9, .ref a10, .ref a11, .ref a12, .int i9, .ref a13, .int i10, .ref a14, .ref a15, .int i11, .ref a16, .ref a17, .ref a18, .ref a19, .int i12, .int i13, .int i14, .int i15, .int i16, .ref a20, .long j0, .ref a21, .ref a22, .ref a23, .ref a24])), (a4, .inl (cB, 1600, .inl xF3))] := by rw [ef111]; exact hD
        have hP9 := hP.sub (ws' := [(a0, .inr (12, [.int i0, .ref a1, .ref a2, .ref a3, .ref a4, .int i1, .ref a5, .int i2, .int (u97 0), .int (u97 1), .int (u97 2), .int (u97 3), .int (u97 4), .int (u97 5), .ref a6, .ref a7, .ref a8, .ref a9, .ref a10, .ref a11, .ref a12, .int i9, .ref a13, .int i10, .ref a14, .ref a15, .int i11, .ref a16, .ref a17, .ref a18, .ref a19, .int i12, .int i13, .int i14, .int i15, .int i16, .ref a20, .long j0, .ref a21, .ref a22, .ref a23, .ref a24])), (a4, .inl (cB, 1600, .inl xF3)), (a6, .inl (cI, 544, .inl f111))]) [1, 2, 0] rfl
        have hD9 := hD.sub (ws' := [(a0, .inr (12, [.int i0, .ref a1, .ref a2, .ref a3, .ref a4, .int i1, .ref a5, .int i2, .int (u97 0), .int (u97 1), .int (u97 2), .int (u97 3), .int (u97 4), .int (u97 5), .ref a6, .ref a7, .ref a8, .ref a9, .ref a10, .ref a11, .ref a12, .int i9, .ref a13, .int i10, .ref a14, .ref a15, .int i11, .ref a16, .ref a17, .ref a18, .ref a19, .int i12, .int i13, .int i14, .int i15, .int i16, .ref a20, .long j0, .ref a21, .ref a22, .ref a23, .ref a24])), (a4, .inl (cB, 1600, .inl xF3)), (a6, .inl (cI, 544, .inl f111))]) [1, 2, 0] (by decide) rfl
        rw [hQ]
        exact W.vret hx hb hr (fun t ht hW => ⟨⟨(pickG 0 [(u97 0), (u97 1), (u97 2), (u97 3), (u97 4), (u97 5)], pickG (fun _ => 0) [f111], pickG (fun _ => 0) []), rfl, ⟨(show (0 : Int) ≤ (u97 0).toInt ∧ (u97 0).toInt ≤ 1600 from hw99), (show (0 : Int) ≤ (u97 1).toInt ∧ (u97 1).toInt ≤ 1600 from hw100), (show (0 : Int) ≤ (u97 2).toInt ∧ (u97 2).toInt ≤ 6 from hw101), (show (0 : Int) ≤ (u97 4).toInt ∧ (u97 4).toInt ≤ 3 from hw102), (show (u97 1).toInt ≤ (u97 0).toInt from by omega), (show (2 ≤ (u97 2).toInt → (u97 1).toInt + 1 ≤ (u97 0).toInt) from by omega), (show i4.toInt ≤ (u97 1).toInt from by omega), (show FG (u97 4).toInt f111 from fun h9 => by replace hw106 := hw106 h9; replace hw92 := hw92 hw106.1; replace hw77 := hw77 hw92.1; clear hw104 hw98 hw90 hw84 hw75 hw69 p_12; have o0 : wfo f107 0 (wat xF5 6) = p0.toInt := (by rw [ef107, wfo_nei (by omega), ef93, wfo_nei (by omega), ef78, wfo_nei (by omega), ef11, wfo_nei (by omega), ef7, wfo_eqi (by omega)]); have o1 : wfo f107 1 (wat xF5 6) = r66.toInt := (by rw [ef107, wfo_nei (by omega), ef93, wfo_nei (by omega), ef78, wfo_eqi (by omega)]); have o2 : wfo f107 2 (wat xF5 6) = r81.toInt := (by rw [ef107, wfo_nei (by omega), ef93, wfo_eqi (by omega)]); have o3 : wfo f107 3 (wat xF5 6) = r95.toInt := (by rw [ef107, wfo_eqi (by omega)]); exact ⟨by rw [ef111]; exact WI_fo (g0 := wat xF5 6) p_7 (by omega) rfl (by omega) (by omega) (fun j9 h8 => by rw [ef107, upd_nej (by omega), ef93, upd_nej (by omega), ef78, upd_nej (by omega), ef11, upd_nej (by omega), ef7, upd_nej (by omega)]) (by unfold wfl; omega) (by omega), (by rw [ef111, wat_nei (by omega), ef107, wat_nei (by omega), ef93, wat_nei (by omega), ef78, wat_nei (by omega), ef11, wat_nei (by omega), ef7, wat_nei (by omega)]; omega)⟩), trivial⟩, (by rw [ht]; exact hP9), hD9⟩, hS.F ht⟩) hS.2.2 dX12_readFollower_175
  refine lv_if_eq (tgt := 40) hx hb dX12_readFollower_32 (by decide) (fun c112 => ?_) (fun c112 => ?_)
  · rw [ki_eq] at c112
    exact jp1 _ _ ls  (hP.sub (ws' := [(a0, .inr (12, [.int i0, .ref a1, .ref a2, .ref a3, .ref a4, .int i1, .ref a5, .int i2, .int i3, .int i4, .int i5, .int i6, .int i7, .int i8, .ref a6, .ref a7, .ref a8, .ref a9, .ref a10, .ref a11, .ref a12, .int i9, .ref a13, .int i10, .ref a14, .ref a15, .int i11, .ref a16, .ref a17, .ref a18, .ref a19, .int i12, .int i13, .int i14, .int i15, .int i16, .ref a20, .long j0, .ref a21, .ref a22, .ref a23, .ref a24])), (a4, .inl (cB, 1600, .inl xF3)), (a6, .inl (cI, 544, .inl f7))]) [0, 1, 2] rfl) (hD.sub (ws' := [(a0, .inr (12, [.int i0, .ref a1, .ref a2, .ref a3, .ref a4, .int i1, .ref a5, .int i2, .int i3, .int i4, .int i5, .int i6, .int i7, .int i8, .ref a6, .ref a7, .ref a8, .ref a9, .ref a10, .ref a11, .ref a12, .int i9, .ref a13, .int i10, .ref a14, .ref a15, .int i11, .ref a16, .ref a17, .ref a18, .ref a19, .int i12, .int i13, .int i14, .int i15, .int i16, .ref a20, .long j0, .ref a21, .ref a22, .ref a23, .ref a24])), (a4, .inl (cB, 1600, .inl xF3)), (a6, .inl (cI, 544, .inl f7))]) [0, 1, 2] (by decide) rfl) hS (lv_sub hl [1, 2, 0] rfl)
  · rw [ki_eq] at c112
    refine lv_iload_n hx hb dX12_readFollower_35 rfl (lv_at hl 2 rfl) ?_
    refine lv_iconst (v := 3) hx hb dX12_readFollower_36 (by decide) ?_
    refine lv_icmp_ne (tgt := 44) hx hb dX12_readFollower_37 (by decide) (fun c113 => ?_) (fun c113 => ?_)
    · rw [ki_eq] at c113
      refine lv_aload_n hx hb dX12_readFollower_44 rfl (lv_at hl 1 rfl) ?_
      refine lv_iconst (v := 0) hx hb dX12_readFollower_45 (by decide) ?_
      refine lv_bipush (v := 9) hx hb dX12_readFollower_46 (by decide) ?_
      have hPc := hP.sub (ws' := [(a0, .inr (12, [.int i0, .ref a1, .ref a2, .ref a3, .ref a4, .int i1, .ref a5, .int i2, .int i3, .int i4, .int i5, .int i6, .int i7, .int i8, .ref a6, .ref a7, .ref a8, .ref a9, .ref a10, .ref a11, .ref a12, .int i9, .ref a13, .int i10, .ref a14, .ref a15, .int i11, .ref a16, .ref a17, .ref a18, .ref a19, .int i12, .int i13, .int i14, .int i15, .int i16, .ref a20, .long j0, .ref a21, .ref a22, .ref a23, .ref a24])), (a4, .inl (cB, 1600, .inl xF3))]) [0, 1] rfl
      have hDc := hD.sub (ws' := [(a0, .inr (12, [.int i0, .ref a1, .ref a2, .ref a3, .ref a4, .int i1, .ref a5, .int i2, .int i3, .int i4, .int i5, .int i6, .int i7, .int i8, .ref a6, .ref a7, .ref a8, .ref a9, .ref a10, .ref a11, .ref a12, .int i9, .ref a13, .int i10, .ref a14, .ref a15, .int i11, .ref a16, .ref a17, .ref a18, .ref a19, .int i12, .int i13, .int i14, .int i15, .int i16, .ref a20, .long j0, .ref a21, .ref a22, .ref a23, .ref a24])), (a4, .inl (cB, 1600, .inl xF3))]) [0, 1] (by decide) rfl
      have hFc := va_free (wc := [(a0, .inr (12, [.int i0, .ref a1, .ref a2, .ref a3, .ref a4, .int i1, .ref a5, .int i2, .int i3, .int i4, .int i5, .int i6, .int i7, .int i8, .ref a6, .ref a7, .ref a8, .ref a9, .ref a10, .ref a11, .ref a12, .int i9, .ref a13, .int i10, .ref a14, .ref a15, .int i11, .ref a16, .ref a17, .ref a18, .ref a19, .int i12, .int i13, .int i14, .int i15, .int i16, .ref a20, .long j0, .ref a21, .ref a22, .ref a23, .ref a24])), (a4, .inl (cB, 1600, .inl xF3))]) hD hS hA [0, 1] rfl
      refine va_calli (va_runV (As := [.int 0, .int 9]) (rest := [.int x8, .ref a6]) ⟨hx, hb, hml, hown, hwd⟩ (s_X12_number l dC dI cI cZ cB cJ cM cG a0 a1 a2 a3 a4 a5 a6 a7 a8 a9 a10 a11 a12 a13 a14 a15 a16 a17 a18 a19 a20 a21 a22 a23 a24 i0 i1 i2 i3 i4 i5 i6 i7 i8 i9 i10 i11 i12 i13 i14 i15 i16 j0 xF3 0 9 H.size (show (0 : Int) ≤ i1.toInt ∧ i1.toInt ≤ 1600 from p_0) (show (0 : Int) ≤ i2.toInt ∧ i2.toInt ≤ 1600 from p_1) (show (0 : Int) ≤ i3.toInt ∧ i3.toInt ≤ 1600 from p_2) (show (0 : Int) ≤ i4.toInt ∧ i4.toInt ≤ 1600 from p_3) (show (0 : Int) ≤ i5.toInt ∧ i5.toInt ≤ 6 from p_4) (show (0 : Int) ≤ i7.toInt ∧ i7.toInt ≤ 3 from p_5) (show (0 : Int) ≤ i11.toInt ∧ i11.toInt ≤ 59 from p_6) (show (0 : Int) ≤ (0 : Int32).toInt ∧ (0 : Int32).toInt ≤ 4 from ⟨by omega, by omega⟩) (show (-1 : Int) ≤ (9 : Int32).toInt ∧ (9 : Int32).toInt ≤ 999 from ⟨by omega, by omega⟩) p_11 p_12) (cwV 2 hwd (gV kr53_13 kr53_14 kr3_0 kr5_23 kr53_15) rfl rfl rfl (by decide +kernel) ⟨Nat.le_of_ble_eq_true rfl, Nat.le_of_ble_eq_true rfl⟩) (kPreV hPc hK hDc (ci := 12) (q0 := 0) rfl rfl) rfl rfl hl.1 rfl (lv_room (Nat.le_of_ble_eq_true rfl)) dX12_readFollower_48 ⟨Nat.le_of_ble_eq_true rfl, Nat.le_of_ble_eq_true rfl⟩) hS (fun q _ h => hFc q h) hFc (fun r114 u115 t H1 locs ht9 hvm hw hB hz1 hk1 hS => ?_)
      obtain ⟨u116, U116, V116⟩ := u115
      obtain ⟨hw117, hw118, hw119, hw120, hw121, hw122, hw123, hw124, hw125, -⟩ := hw
      replace hw117 : (r114.toInt = 0 ∨ ((0 : Int32).toInt ≤ r114.toInt ∧ r114.toInt ≤ (9 : Int32).toInt)) := hw117
      replace hw118 : (0 : Int) ≤ (u116 0).toInt ∧ (u116 0).toInt ≤ 1600 := hw118
      replace hw119 : (0 : Int) ≤ (u116 1).toInt ∧ (u116 1).toInt ≤ 1600 := hw119
      replace hw120 : (0 : Int) ≤ (u116 2).toInt ∧ (u116 2).toInt ≤ 6 := hw120
      replace hw121 : (0 : Int) ≤ (u116 4).toInt ∧ (u116 4).toInt ≤ 3 := hw121
      replace hw122 : (u116 1).toInt ≤ (u116 0).toInt := hw122
      replace hw123 : (2 ≤ (u116 2).toInt → (u116 1).toInt + 1 ≤ (u116 0).toInt) := hw123
      replace hw124 : i4.toInt ≤ (u116 1).toInt := hw124
      replace hw125 : ((u116 4).toInt = 0 → i7.toInt = 0 ∧ (0 : Int32).toInt ≤ r114.toInt ∧ r114.toInt ≤ (9 : Int32).toInt ∧ i4.toInt + 1 ≤ (u116 1).toInt) := hw125
      obtain ⟨hP1, hD1⟩ := hB
      rw [ht9] at hP1
      obtain ⟨hP, hD⟩ := va_join (wr := [(a6, .inl (cI, 544, .inl f7))]) (w1 := [(a0, .inr (12, [.int i0, .ref a1, .ref a2, .ref a3, .ref a4, .int i1, .ref a5, .int i2, .int (u116 0), .int (u116 1), .int (u116 2), .int (u116 3), .int (u116 4), .int (u116 5), .ref a6, .ref a7, .ref a8, .ref a9, .ref a10, .ref a11, .ref a12, .int i9, .ref a13, .int i10, .ref a14, .ref a15, .int i11, .ref a16, .ref a17, .ref a18, .ref a19, .int i12, .int i13, .int i14, .int i15, .int i16, .ref a20, .long j0, .ref a21, .ref a22, .ref a23, .ref a24])), (a4, .inl (cB, 1600, .inl xF3))]) hP hD [0, 1] [2] rfl rfl (by decide) (by decide) hk1 hFc hP1 hD1
      generalize H1 = H at hP hS ⊢
      replace hP : va_P (dC, dI) vwCl [(a6, .inl (cI, 544, .inl f7)), (a0, .inr (12, [.int i0, .ref a1, .ref a2, .ref a3, .ref a4, .int i1, .ref a5, .int i2, .int (u116 0), .int (u116 1), .int (u116 2), .int (u116 3), .int (u116 4), .int (u116 5), .ref a6, .ref a7, .ref a8, .ref a9, .ref a10, .ref a11, .ref a12, .int i9, .ref a13, .int i10, .ref a14, .ref a15, .int i11, .ref a16, .ref a17, .ref a18, .ref a19, .int i12, .int i13, .int i14, .int i15, .int i16, .ref a20, .long j0, .ref a21, .ref a22, .ref a23, .ref a24])), (a4, .inl (cB, 1600, .inl xF3))] H := hP
      replace hD : va_D A [(a6, .inl (cI, 544, .inl f7)), (a0, .inr (12, [.int i0, .ref a1, .ref a2, .ref a3, .ref a4, .int i1, .ref a5, .int i2, .int (u116 0), .int (u116 1), .int (u116 2), .int (u116 3), .int (u116 4), .int (u116 5), .ref a6, .ref a7, .ref a8, .ref a9, .ref a10, .ref a11, .ref a12, .int i9, .ref a13, .int i10, .ref a14, .ref a15, .int i11, .ref a16, .ref a17, .ref a18, .ref a19, .int i12, .int i13, .int i14, .int i15, .int i16, .ref a20, .long j0, .ref a21, .ref a22, .ref a23, .ref a24])), (a4, .inl (cB, 1600, .inl xF3))] := hD
      refine va_iast hx hb hK hP hD hS 0 0 rfl rfl (vp_of (by omega) (by omega)) dX12_readFollower_51 (fun H locs hP hD hS => ?_)
      obtain ⟨f126, ef126⟩ : ∃ f, f = upd f7 x8.toNatClampNeg r114 := ⟨_, rfl⟩
      replace hP : va_P (dC, dI) vwCl [(a6, .inl (cI, 544, .inl f126)), (a0, .inr (12, [.int i0, .ref a1, .ref a2, .ref a3, .ref a4, .int i1, .ref a5, .int i2, .int (u116 0), .int (u116 1), .int (u116 2), .int (u116 3), .int (u116 4), .int (u116 5), .ref a6, .ref a7, .ref a8, .ref a9, .ref a10, .ref a11, .ref a12, .int i9, .ref a13, .int i10, .ref a14, .ref a15, .int i11, .ref a16, .ref a17, .ref a18, .ref a19, .int i12, .int i13, .int i14, .int i15, .int i16, .ref a20, .long j0, .ref a21, .ref a22, .ref a23, .ref a24])), (a4, .inl (cB, 1600, .inl xF3))] H := by rw [ef126]; exact hP
      replace hD : va_D A [(a6, .inl (cI, 544, .inl f126)), (a0, .inr (12, [.int i0, .ref a1, .ref a2, .ref a3, .ref a4, .int i1, .ref a5, .int i2, .int (u116 0), .int (u116 1), .int (u116 2), .int (u116 3), .int (u116 4), .int (u116 5), .ref a6, .ref a7, .ref a8, .ref a9, .ref a10, .ref a11, .ref a12, .int i9, .ref a13, .int i10, .ref a14, .ref a15, .int i11, .ref a16, .ref a17, .ref a18, .ref a19, .int i12, .int i13, .int i14, .int i15, .int i16, .ref a20, .long j0, .ref a21, .ref a22, .ref a23, .ref a24])), (a4, .inl (cB, 1600, .inl xF3))] := by rw [ef126]; exact hD
      refine lv_aload_n hx hb dX12_readFollower_52 rfl (lv_at hl 1 rfl) ?_
      refine va_get (D := (dC, dI)) (ci := 12) (v := .ref a6) (C := RX12) (T := TX12) (N := 42) hx hb hwd inlX12 hown hK hP 1 rfl rfl 14 (by decide) (hwd _ kr49_15) (fun _ h9 => h9) rfl dX12_readFollower_53 ?_
      refine lv_iload_n hx hb dX12_readFollower_56 rfl (lv_at hl 0 rfl) ?_
      refine lv_iconst (v := 1) hx hb dX12_readFollower_57 (by decide) ?_
      refine lv_iadd hx hb dX12_readFollower_58 ?_
      refine lv_topi (fun x127 ex127 => ?_)
      have tx127 := ia_add (a := x5) (b := (1 : Int32)) (by omega) (by omega)
      rw [← ex127] at tx127
      refine lv_aload_n hx hb dX12_readFollower_59 rfl (lv_at hl 1 rfl) ?_
      refine va_ldcS hx hb hown hR189 dX12_readFollower_60 ?_
      refine lv_iconst (v := 0) hx hb dX12_readFollower_62 (by decide) ?_
      refine lv_iload_n hx hb dX12_readFollower_63 rfl (lv_at hl 2 rfl) ?_
      refine lv_iconst (v := 3) hx hb dX12_readFollower_64 (by decide) ?_
      refine lv_icmp_ne (tgt := 78) hx hb dX12_readFollower_65 (by decide) (fun c128 => ?_) (fun c128 => ?_)
      · rw [ki_eq] at c128
        refine lv_aload_n hx hb dX12_readFollower_78 rfl (lv_at hl 1 rfl) ?_
        refine va_get (D := (dC, dI)) (ci := 12) (v := .ref a6) (C := RX12) (T := TX12) (N := 42) hx hb hwd inlX12 hown hK hP 1 rfl rfl 14 (by decide) (hwd _ kr49_15) (fun _ h9 => h9) rfl dX12_readFollower_79 ?_
        refine lv_iconst (v := 4) hx hb dX12_readFollower_82 (by decide) ?_
        have h129 : vp_in (4 : Int32) 544 := (vin (by decide))
        refine va_iald hx hb hK hP 0 0 rfl rfl h129 dX12_readFollower_83 ?_
        refine lv_topi (fun x130 ex130 => ?_)
        have ix130 := wat_lit (F := xF5) (k := 4) (show x130 = xF5 (4 : Int32).toNatClampNeg from by rw [ex130, ef126, upd_ne (by omega), ef7, upd_ne (by omega)]) (by decide)
        refine lv_iconst (v := 1) hx hb dX12_readFollower_84 (by decide) ?_
        refine lv_isub hx hb dX12_readFollower_85 ?_
        refine lv_topi (fun x131 ex131 => ?_)
        have tx131 := ia_sub (a := x130) (b := (1 : Int32)) (by omega) (by omega)
        rw [← ex131] at tx131
        have hPc := hP.sub (ws' := [(a0, .inr (12, [.int i0, .ref a1, .ref a2, .ref a3, .ref a4, .int i1, .ref a5, .int i2, .int (u116 0), .int (u116 1), .int (u116 2), .int (u116 3), .int (u116 4), .int (u116 5), .ref a6, .ref a7, .ref a8, .ref a9, .ref a10, .ref a11, .ref a12, .int i9, .ref a13, .int i10, .ref a14, .ref a15, .int i11, .ref a16, .ref a17, .ref a18, .ref a19, .int i12, .int i13, .int i14, .int i15, .int i16, .ref a20, .long j0, .ref a21, .ref a22, .ref a23, .ref a24])), (a4, .inl (cB, 1600, .inl xF3))]) [1, 2] rfl
        have hDc := hD.sub (ws' := [(a0, .inr (12, [.int i0, .ref a1, .ref a2, .ref a3, .ref a4, .int i1, .ref a5, .int i2, .int (u116 0), .int (u116 1), .int (u116 2), .int (u116 3), .int (u116 4), .int (u116 5), .ref a6, .ref a7, .ref a8, .ref a9, .ref a10, .ref a11, .ref a12, .int i9, .ref a13, .int i10, .ref a14, .ref a15, .int i11, .ref a16, .ref a17, .ref a18, .ref a19, .int i12, .int i13, .int i14, .int i15, .int i16, .ref a20, .long j0, .ref a21, .ref a22, .ref a23, .ref a24])), (a4, .inl (cB, 1600, .inl xF3))]) [1, 2] (by decide) rfl
        have hFc := va_free (wc := [(a0, .inr (12, [.int i0, .ref a1, .ref a2, .ref a3, .ref a4, .int i1, .ref a5, .int i2, .int (u116 0), .int (u116 1), .int (u116 2), .int (u116 3), .int (u116 4), .int (u116 5), .ref a6, .ref a7, .ref a8, .ref a9, .ref a10, .ref a11, .ref a12, .int i9, .ref a13, .int i10, .ref a14, .ref a15, .int i11, .ref a16, .ref a17, .ref a18, .ref a19, .int i12, .int i13, .int i14, .int i15, .int i16, .ref a20, .long j0, .ref a21, .ref a22, .ref a23, .ref a24])), (a4, .inl (cB, 1600, .inl xF3))]) hD hS hA [1, 2] rfl
        refine va_calli (va_runV (As := [.ref sa189, .int 0, .int x131]) (rest := [.int x127, .ref a6]) ⟨hx, hb, hml, hown, hwd⟩ (s_X12_told l dC dI cI cZ cB cJ cM cG a0 a1 a2 a3 a4 a5 a6 a7 a8 a9 a10 a11 a12 a13 a14 a15 a16 a17 a18 a19 a20 a21 a22 a23 a24 i0 i1 i2 (u116 0) (u116 1) (u116 2) (u116 3) (u116 4) (u116 5) i9 i10 i11 i12 i13 i14 i15 i16 j0 xF3 0 x131 sa189 sav189 sn189 sf189 H.size (show (0 : Int) ≤ i1.toInt ∧ i1.toInt ≤ 1600 from p_0) (show (0 : Int) ≤ i2.toInt ∧ i2.toInt ≤ 1600 from p_1) (show (0 : Int) ≤ (u116 0).toInt ∧ (u116 0).toInt ≤ 1600 from hw118) (show (0 : Int) ≤ (u116 1).toInt ∧ (u116 1).toInt ≤ 1600 from hw119) (show (0 : Int) ≤ (u116 2).toInt ∧ (u116 2).toInt ≤ 6 from hw120) (show (0 : Int) ≤ (u116 4).toInt ∧ (u116 4).toInt ≤ 3 from hw121) (show (0 : Int) ≤ i11.toInt ∧ i11.toInt ≤ 59 from p_6) (show (0 : Int) ≤ (0 : Int32).toInt ∧ (0 : Int32).toInt ≤ 4 from ⟨by omega, by omega⟩) (show (-1 : Int) ≤ x131.toInt ∧ x131.toInt ≤ 999 from ⟨by omega, by omega⟩) hw122 hw123) (cwV 3 hwd (gV kr53_10 kr53_11 kr2_23 kr5_23 kr53_12) rfl rfl rfl (by decide +kernel) ⟨Nat.le_of_ble_eq_true rfl, Nat.le_of_ble_eq_true rfl⟩) (kPreVX hPc hK hDc (NS_st _ _ _ _) hN189 hS hFc (ci := 12) (q0 := 0) rfl rfl) rfl rfl hl.1 rfl (lv_room (Nat.le_of_ble_eq_true rfl)) dX12_readFollower_86 ⟨Nat.le_of_ble_eq_true rfl, Nat.le_of_ble_eq_true rfl⟩) hS (fun q _ h => hFc q h) hFc (fun r132 u133 t H1 locs ht9 hvm hw hB hz1 hk1 hS => ?_)
        obtain ⟨u134, U134, V134⟩ := u133
        obtain ⟨hw135, hw136, hw137, hw138, hw139, hw140, hw141, hw142, hw143, -⟩ := hw
        replace hw135 : (r132.toInt = 0 ∨ ((0 : Int32).toInt ≤ r132.toInt ∧ r132.toInt ≤ x131.toInt)) := hw135
        replace hw136 : (0 : Int) ≤ (u134 0).toInt ∧ (u134 0).toInt ≤ 1600 := hw136
        replace hw137 : (0 : Int) ≤ (u134 1).toInt ∧ (u134 1).toInt ≤ 1600 := hw137
        replace hw138 : (0 : Int) ≤ (u134 2).toInt ∧ (u134 2).toInt ≤ 6 := hw138
        replace hw139 : (0 : Int) ≤ (u134 4).toInt ∧ (u134 4).toInt ≤ 3 := hw139
        replace hw140 : (u134 1).toInt ≤ (u134 0).toInt := hw140
        replace hw141 : (2 ≤ (u134 2).toInt → (u134 1).toInt + 1 ≤ (u134 0).toInt) := hw141
        replace hw142 : (u116 1).toInt ≤ (u134 1).toInt := hw142
        replace hw143 : ((u134 4).toInt = 0 → (u116 4).toInt = 0 ∧ (0 : Int32).toInt ≤ r132.toInt ∧ r132.toInt ≤ x131.toInt ∧ (u116 1).toInt + (sn189 : Int) + 1 ≤ (u134 1).toInt) := hw143
        obtain ⟨hP1, hD1⟩ := hB
        rw [ht9] at hP1
        obtain ⟨hP, hD⟩ := va_join (wr := [(a6, .inl (cI, 544, .inl f126))]) (w1 := [(a0, .inr (12, [.int i0, .ref a1, .ref a2, .ref a3, .ref a4, .int i1, .ref a5, .int i2, .int (u134 0), .int (u134 1), .int (u134 2), .int (u134 3), .int (u134 4), .int (u134 5), .ref a6, .ref a7, .ref a8, .ref a9, .ref a10, .ref a11, .ref a12, .int i9, .ref a13, .int i10, .ref a14, .ref a15, .int i11, .ref a16, .ref a17, .ref a18, .ref a19, .int i12, .int i13, .int i14, .int i15, .int i16, .ref a20, .long j0, .ref a21, .ref a22, .ref a23, .ref a24])), (a4, .inl (cB, 1600, .inl xF3))]) hP hD [1, 2] [0] rfl rfl (by decide) (by decide) hk1 hFc hP1 hD1
        generalize H1 = H at hP hS ⊢
        replace hP : va_P (dC, dI) vwCl [(a6, .inl (cI, 544, .inl f126)), (a0, .inr (12, [.int i0, .ref a1, .ref a2, .ref a3, .ref a4, .int i1, .ref a5, .int i2, .int (u134 0), .int (u134 1), .int (u134 2), .int (u134 3), .int (u134 4), .int (u134 5), .ref a6, .ref a7, .ref a8, .ref a9, .ref a10, .ref a11, .ref a12, .int i9, .ref a13, .int i10, .ref a14, .ref a15, .int i11, .ref a16, .ref a17, .ref a18, .ref a19, .int i12, .int i13, .int i14, .int i15, .int i16, .ref a20, .long j0, .ref a21, .ref a22, .ref a23, .ref a24])), (a4, .inl (cB, 1600, .inl xF3))] H := hP
        replace hD : va_D A [(a6, .inl (cI, 544, .inl f126)), (a0, .inr (12, [.int i0, .ref a1, .ref a2, .ref a3, .ref a4, .int i1, .ref a5, .int i2, .int (u134 0), .int (u134 1), .int (u134 2), .int (u134 3), .int (u134 4), .int (u134 5), .ref a6, .ref a7, .ref a8, .ref a9, .ref a10, .ref a11, .ref a12, .int i9, .ref a13, .int i10, .ref a14, .ref a15, .int i11, .ref a16, .ref a17, .ref a18, .ref a19, .int i12, .int i13, .int i14, .int i15, .int i16, .ref a20, .long j0, .ref a21, .ref a22, .ref a23, .ref a24])), (a4, .inl (cB, 1600, .inl xF3))] := hD
        refine va_iast hx hb hK hP hD hS 0 0 rfl rfl (vp_of (by omega) (by omega)) dX12_readFollower_89 (fun H locs hP hD hS => ?_)
        obtain ⟨f144, ef144⟩ : ∃ f, f = upd f126 x127.toNatClampNeg r132 := ⟨_, rfl⟩
        replace hP : va_P (dC, dI) vwCl [(a6, .inl (cI, 544, .inl f144)), (a0, .inr (12, [.int i0, .ref a1, .ref a2, .ref a3, .ref a4, .int i1, .ref a5, .int i2, .int (u134 0), .int (u134 1), .int (u134 2), .int (u134 3), .int (u134 4), .int (u134 5), .ref a6, .ref a7, .ref a8, .ref a9, .ref a10, .ref a11, .ref a12, .int i9, .ref a13, .int i10, .ref a14, .ref a15, .int i11, .ref a16, .ref a17, .ref a18, .ref a19, .int i12, .int i13, .int i14, .int i15, .int i16, .ref a20, .long j0, .ref a21, .ref a22, .ref a23, .ref a24])), (a4, .inl (cB, 1600, .inl xF3))] H := by rw [ef144]; exact hP
        replace hD : va_D A [(a6, .inl (cI, 544, .inl f144)), (a0, .inr (12, [.int i0, .ref a1, .ref a2, .ref a3, .ref a4, .int i1, .ref a5, .int i2, .int (u134 0), .int (u134 1), .int (u134 2), .int (u134 3), .int (u134 4), .int (u134 5), .ref a6, .ref a7, .ref a8, .ref a9, .ref a10, .ref a11, .ref a12, .int i9, .ref a13, .int i10, .ref a14, .ref a15, .int i11, .ref a16, .ref a17, .ref a18, .ref a19, .int i12, .int i13, .int i14, .int i15, .int i16, .ref a20, .long j0, .ref a21, .ref a22, .ref a23, .ref a24])), (a4, .inl (cB, 1600, .inl xF3))] := by rw [ef144]; exact hD
        refine lv_iload_n hx hb dX12_readFollower_90 rfl (lv_at hl 2 rfl) ?_
        refine lv_iconst (v := 3) hx hb dX12_readFollower_91 (by decide) ?_
        refine lv_icmp_ne (tgt := 130) hx hb dX12_readFollower_92 (by decide) (fun c145 => ?_) (fun c145 => ?_)
        · rw [ki_eq] at c145
          refine lv_aload_n hx hb dX12_readFollower_130 rfl (lv_at hl 1 rfl) ?_
          refine va_get (D := (dC, dI)) (ci := 12) (v := .ref a6) (C := RX12) (T := TX12) (N := 42) hx hb hwd inlX12 hown hK hP 1 rfl rfl 14 (by decide) (hwd _ kr49_15) (fun _ h9 => h9) rfl dX12_readFollower_131 ?_
          refine lv_iload_n hx hb dX12_readFollower_134 rfl (lv_at hl 0 rfl) ?_
          refine lv_iconst (v := 4) hx hb dX12_readFollower_135 (by decide) ?_
          refine lv_iadd hx hb dX12_readFollower_136 ?_
          refine lv_topi (fun x146 ex146 => ?_)
          have tx146 := ia_add (a := x5) (b := (4 : Int32)) (by omega) (by omega)
          rw [← ex146] at tx146
          refine lv_aload_n hx hb dX12_readFollower_137 rfl (lv_at hl 1 rfl) ?_
          refine va_ldcS hx hb hown hR200 dX12_readFollower_138 ?_
          refine lv_iconst (v := 1) hx hb dX12_readFollower_140 (by decide) ?_
          refine lv_bipush (v := 60) hx hb dX12_readFollower_141 (by decide) ?_
          have hPc := hP.sub (ws' := [(a0, .inr (12, [.int i0, .ref a1, .ref a2, .ref a3, .ref a4, .int i1, .ref a5, .int i2, .int (u134 0), .int (u134 1), .int (u134 2), .int (u134 3), .int (u134 4), .int (u134 5), .ref a6, .ref a7, .ref a8, .ref a9, .ref a10, .ref a11, .ref a12, .int i9, .ref a13, .int i10, .ref a14, .ref a15, .int i11, .ref a16, .ref a17, .ref a18, .ref a19, .int i12, .int i13, .int i14, .int i15, .int i16, .ref a20, .long j0, .ref a21, .ref a22, .ref a23, .ref a24])), (a4, .inl (cB, 1600, .inl xF3))]) [1, 2] rfl
          have hDc := hD.sub (ws' := [(a0, .inr (12, [.int i0, .ref a1, .ref a2, .ref a3, .ref a4, .int i1, .ref a5, .int i2, .int (u134 0), .int (u134 1), .int (u134 2), .int (u134 3), .int (u134 4), .int (u134 5), .ref a6, .ref a7, .ref a8, .ref a9, .ref a10, .ref a11, .ref a12, .int i9, .ref a13, .int i10, .ref a14, .ref a15, .int i11, .ref a16, .ref a17, .ref a18, .ref a19, .int i12, .int i13, .int i14, .int i15, .int i16, .ref a20, .long j0, .ref a21, .ref a22, .ref a23, .ref a24])), (a4, .inl (cB, 1600, .inl xF3))]) [1, 2] (by decide) rfl
          have hFc := va_free (wc := [(a0, .inr (12, [.int i0, .ref a1, .ref a2, .ref a3, .ref a4, .int i1, .ref a5, .int i2, .int (u134 0), .int (u134 1), .int (u134 2), .int (u134 3), .int (u134 4), .int (u134 5), .ref a6, .ref a7, .ref a8, .ref a9, .ref a10, .ref a11, .ref a12, .int i9, .ref a13, .int i10, .ref a14, .ref a15, .int i11, .ref a16, .ref a17, .ref a18, .ref a19, .int i12, .int i13, .int i14, .int i15, .int i16, .ref a20, .long j0, .ref a21, .ref a22, .ref a23, .ref a24])), (a4, .inl (cB, 1600, .inl xF3))]) hD hS hA [1, 2] rfl
          refine va_calli (va_runV (As := [.ref sa200, .int 1, .int 60]) (rest := [.int x146, .ref a6]) ⟨hx, hb, hml, hown, hwd⟩ (s_X12_told l dC dI cI cZ cB cJ cM cG a0 a1 a2 a3 a4 a5 a6 a7 a8 a9 a10 a11 a12 a13 a14 a15 a16 a17 a18 a19 a20 a21 a22 a23 a24 i0 i1 i2 (u134 0) (u134 1) (u134 2) (u134 3) (u134 4) (u134 5) i9 i10 i11 i12 i13 i14 i15 i16 j0 xF3 1 60 sa200 sav200 sn200 sf200 H.size (show (0 : Int) ≤ i1.toInt ∧ i1.toInt ≤ 1600 from p_0) (show (0 : Int) ≤ i2.toInt ∧ i2.toInt ≤ 1600 from p_1) (show (0 : Int) ≤ (u134 0).toInt ∧ (u134 0).toInt ≤ 1600 from hw136) (show (0 : Int) ≤ (u134 1).toInt ∧ (u134 1).toInt ≤ 1600 from hw137) (show (0 : Int) ≤ (u134 2).toInt ∧ (u134 2).toInt ≤ 6 from hw138) (show (0 : Int) ≤ (u134 4).toInt ∧ (u134 4).toInt ≤ 3 from hw139) (show (0 : Int) ≤ i11.toInt ∧ i11.toInt ≤ 59 from p_6) (show (0 : Int) ≤ (1 : Int32).toInt ∧ (1 : Int32).toInt ≤ 4 from ⟨by omega, by omega⟩) (show (-1 : Int) ≤ (60 : Int32).toInt ∧ (60 : Int32).toInt ≤ 999 from ⟨by omega, by omega⟩) hw140 hw141) (cwV 3 hwd (gV kr53_10 kr53_11 kr2_23 kr5_23 kr53_12) rfl rfl rfl (by decide +kernel) ⟨Nat.le_of_ble_eq_true rfl, Nat.le_of_ble_eq_true rfl⟩) (kPreVX hPc hK hDc (NS_st _ _ _ _) hN200 hS hFc (ci := 12) (q0 := 0) rfl rfl) rfl rfl hl.1 rfl (lv_room (Nat.le_of_ble_eq_true rfl)) dX12_readFollower_143 ⟨Nat.le_of_ble_eq_true rfl, Nat.le_of_ble_eq_true rfl⟩) hS (fun q _ h => hFc q h) hFc (fun r147 u148 t H1 locs ht9 hvm hw hB hz1 hk1 hS => ?_)
          obtain ⟨u149, U149, V149⟩ := u148
          obtain ⟨hw150, hw151, hw152, hw153, hw154, hw155, hw156, hw157, hw158, -⟩ := hw
          replace hw150 : (r147.toInt = 0 ∨ ((1 : Int32).toInt ≤ r147.toInt ∧ r147.toInt ≤ (60 : Int32).toInt)) := hw150
          replace hw151 : (0 : Int) ≤ (u149 0).toInt ∧ (u149 0).toInt ≤ 1600 := hw151
          replace hw152 : (0 : Int) ≤ (u149 1).toInt ∧ (u149 1).toInt ≤ 1600 := hw152
          replace hw153 : (0 : Int) ≤ (u149 2).toInt ∧ (u149 2).toInt ≤ 6 := hw153
          replace hw154 : (0 : Int) ≤ (u149 4).toInt ∧ (u149 4).toInt ≤ 3 := hw154
          replace hw155 : (u149 1).toInt ≤ (u149 0).toInt := hw155
          replace hw156 : (2 ≤ (u149 2).toInt → (u149 1).toInt + 1 ≤ (u149 0).toInt) := hw156
          replace hw157 : (u134 1).toInt ≤ (u149 1).toInt := hw157
          replace hw158 : ((u149 4).toInt = 0 → (u134 4).toInt = 0 ∧ (1 : Int32).toInt ≤ r147.toInt ∧ r147.toInt ≤ (60 : Int32).toInt ∧ (u134 1).toInt + (sn200 : Int) + 1 ≤ (u149 1).toInt) := hw158
          obtain ⟨hP1, hD1⟩ := hB
          rw [ht9] at hP1
          obtain ⟨hP, hD⟩ := va_join (wr := [(a6, .inl (cI, 544, .inl f144))]) (w1 := [(a0, .inr (12, [.int i0, .ref a1, .ref a2, .ref a3, .ref a4, .int i1, .ref a5, .int i2, .int (u149 0), .int (u149 1), .int (u149 2), .int (u149 3), .int (u149 4), .int (u149 5), .ref a6, .ref a7, .ref a8, .ref a9, .ref a10, .ref a11, .ref a12, .int i9, .ref a13, .int i10, .ref a14, .ref a15, .int i11, .ref a16, .ref a17, .ref a18, .ref a19, .int i12, .int i13, .int i14, .int i15, .int i16, .ref a20, .long j0, .ref a21, .ref a22, .ref a23, .ref a24])), (a4, .inl (cB, 1600, .inl xF3))]) hP hD [1, 2] [0] rfl rfl (by decide) (by decide) hk1 hFc hP1 hD1
          generalize H1 = H at hP hS ⊢
          replace hP : va_P (dC, dI) vwCl [(a6, .inl (cI, 544, .inl f144)), (a0, .inr (12, [.int i0, .ref a1, .ref a2, .ref a3, .ref a4, .int i1, .ref a5, .int i2, .int (u149 0), .int (u149 1), .int (u149 2), .int (u149 3), .int (u149 4), .int (u149 5), .ref a6, .ref a7, .ref a8, .ref a9, .ref a10, .ref a11, .ref a12, .int i9, .ref a13, .int i10, .ref a14, .ref a15, .int i11, .ref a16, .ref a17, .ref a18, .ref a19, .int i12, .int i13, .int i14, .int i15, .int i16, .ref a20, .long j0, .ref a21, .ref a22, .ref a23, .ref a24])), (a4, .inl (cB, 1600, .inl xF3))] H := hP
          replace hD : va_D A [(a6, .inl (cI, 544, .inl f144)), (a0, .inr (12, [.int i0, .ref a1, .ref a2, .ref a3, .ref a4, .int i1, .ref a5, .int i2, .int (u149 0), .int (u149 1), .int (u149 2), .int (u149 3), .int (u149 4), .int (u149 5), .ref a6, .ref a7, .ref a8, .ref a9, .ref a10, .ref a11, .ref a12, .int i9, .ref a13, .int i10, .ref a14, .ref a15, .int i11, .ref a16, .ref a17, .ref a18, .ref a19, .int i12, .int i13, .int i14, .int i15, .int i16, .ref a20, .long j0, .ref a21, .ref a22, .ref a23, .ref a24])), (a4, .inl (cB, 1600, .inl xF3))] := hD
          refine va_iast hx hb hK hP hD hS 0 0 rfl rfl (vp_of (by omega) (by omega)) dX12_readFollower_146 (fun H locs hP hD hS => ?_)
          obtain ⟨f159, ef159⟩ : ∃ f, f = upd f144 x146.toNatClampNeg r147 := ⟨_, rfl⟩
          replace hP : va_P (dC, dI) vwCl [(a6, .inl (cI, 544, .inl f159)), (a0, .inr (12, [.int i0, .ref a1, .ref a2, .ref a3, .ref a4, .int i1, .ref a5, .int i2, .int (u149 0), .int (u149 1), .int (u149 2), .int (u149 3), .int (u149 4), .int (u149 5), .ref a6, .ref a7, .ref a8, .ref a9, .ref a10, .ref a11, .ref a12, .int i9, .ref a13, .int i10, .ref a14, .ref a15, .int i11, .ref a16, .ref a17, .ref a18, .ref a19, .int i12, .int i13, .int i14, .int i15, .int i16, .ref a20, .long j0, .ref a21, .ref a22, .ref a23, .ref a24])), (a4, .inl (cB, 1600, .inl xF3))] H := by rw [ef159]; exact hP
          replace hD : va_D A [(a6, .inl (cI, 544, .inl f159)), (a0, .inr (12, [.int i0, .ref a1, .ref a2, .ref a3, .ref a4, .int i1, .ref a5, .int i2, .int (u149 0), .int (u149 1), .int (u149 2), .int (u149 3), .int (u149 4), .int (u149 5), .ref a6, .ref a7, .ref a8, .ref a9, .ref a10, .ref a11, .ref a12, .int i9, .ref a13, .int i10, .ref a14, .ref a15, .int i11, .ref a16, .ref a17, .ref a18, .ref a19, .int i12, .int i13, .int i14, .int i15, .int i16, .ref a20, .long j0, .ref a21, .ref a22, .ref a23, .ref a24])), (a4, .inl (cB, 1600, .inl xF3))] := by rw [ef159]; exact hD
          refine lv_aload_n hx hb dX12_readFollower_147 rfl (lv_at hl 1 rfl) ?_
          refine va_get (D := (dC, dI)) (ci := 12) (v := .ref a6) (C := RX12) (T := TX12) (N := 42) hx hb hwd inlX12 hown hK hP 1 rfl rfl 14 (by decide) (hwd _ kr49_15) (fun _ h9 => h9) rfl dX12_readFollower_148 ?_
          refine lv_iload_n hx hb dX12_readFollower_151 rfl (lv_at hl 0 rfl) ?_
          refine lv_iconst (v := 5) hx hb dX12_readFollower_152 (by decide) ?_
          refine lv_iadd hx hb dX12_readFollower_153 ?_
          refine lv_topi (fun x160 ex160 => ?_)
          have tx160 := ia_add (a := x5) (b := (5 : Int32)) (by omega) (by omega)
          rw [← ex160] at tx160
          refine lv_aload_n hx hb dX12_readFollower_154 rfl (lv_at hl 1 rfl) ?_
          refine va_ldcS hx hb hown hR202 dX12_readFollower_155 ?_
          refine lv_iconst (v := 0) hx hb dX12_readFollower_157 (by decide) ?_
          refine lv_bipush (v := 20) hx hb dX12_readFollower_158 (by decide) ?_
          have hPc := hP.sub (ws' := [(a0, .inr (12, [.int i0, .ref a1, .ref a2, .ref a3, .ref a4, .int i1, .ref a5, .int i2, .int (u149 0), .int (u149 1), .int (u149 2), .int (u149 3), .int (u149 4), .int (u149 5), .ref a6, .ref a7, .ref a8, .ref a9, .ref a10, .ref a11, .ref a12, .int i9, .ref a13, .int i10, .ref a14, .ref a15, .int i11, .ref a16, .ref a17, .ref a18, .ref a19, .int i12, .int i13, .int i14, .int i15, .int i16, .ref a20, .long j0, .ref a21, .ref a22, .ref a23, .ref a24])), (a4, .inl (cB, 1600, .inl xF3))]) [1, 2] rfl
          have hDc := hD.sub (ws' := [(a0, .inr (12, [.int i0, .ref a1, .ref a2, .ref a3, .ref a4, .int i1, .ref a5, .int i2, .int (u149 0), .int (u149 1), .int (u149 2), .int (u149 3), .int (u149 4), .int (u149 5), .ref a6, .ref a7, .ref a8, .ref a9, .ref a10, .ref a11, .ref a12, .int i9, .ref a13, .int i10, .ref a14, .ref a15, .int i11, .ref a16, .ref a17, .ref a18, .ref a19, .int i12, .int i13, .int i14, .int i15, .int i16, .ref a20, .long j0, .ref a21, .ref a22, .ref a23, .ref a24])), (a4, .inl (cB, 1600, .inl xF3))]) [1, 2] (by decide) rfl
          have hFc := va_free (wc := [(a0, .inr (12, [.int i0, .ref a1, .ref a2, .ref a3, .ref a4, .int i1, .ref a5, .int i2, .int (u149 0), .int (u149 1), .int (u149 2), .int (u149 3), .int (u149 4), .int (u149 5), .ref a6, .ref a7, .ref a8, .ref a9, .ref a10, .ref a11, .ref a12, .int i9, .ref a13, .int i10, .ref a14, .ref a15, .int i11, .ref a16, .ref a17, .ref a18, .ref a19, .int i12, .int i13, .int i14, .int i15, .int i16, .ref a20, .long j0, .ref a21, .ref a22, .ref a23, .ref a24])), (a4, .inl (cB, 1600, .inl xF3))]) hD hS hA [1, 2] rfl
          refine va_calli (va_runV (As := [.ref sa202, .int 0, .int 20]) (rest := [.int x160, .ref a6]) ⟨hx, hb, hml, hown, hwd⟩ (s_X12_told l dC dI cI cZ cB cJ cM cG a0 a1 a2 a3 a4 a5 a6 a7 a8 a9 a10 a11 a12 a13 a14 a15 a16 a17 a18 a19 a20 a21 a22 a23 a24 i0 i1 i2 (u149 0) (u149 1) (u149 2) (u149 3) (u149 4) (u149 5) i9 i10 i11 i12 i13 i14 i15 i16 j0 xF3 0 20 sa202 sav202 sn202 sf202 H.size (show (0 : Int) ≤ i1.toInt ∧ i1.toInt ≤ 1600 from p_0) (show (0 : Int) ≤ i2.toInt ∧ i2.toInt ≤ 1600 from p_1) (show (0 : Int) ≤ (u149 0).toInt ∧ (u149 0).toInt ≤ 1600 from hw151) (show (0 : Int) ≤ (u149 1).toInt ∧ (u149 1).toInt ≤ 1600 from hw152) (show (0 : Int) ≤ (u149 2).toInt ∧ (u149 2).toInt ≤ 6 from hw153) (show (0 : Int) ≤ (u149 4).toInt ∧ (u149 4).toInt ≤ 3 from hw154) (show (0 : Int) ≤ i11.toInt ∧ i11.toInt ≤ 59 from p_6) (show (0 : Int) ≤ (0 : Int32).toInt ∧ (0 : Int32).toInt ≤ 4 from ⟨by omega, by omega⟩) (show (-1 : Int) ≤ (20 : Int32).toInt ∧ (20 : Int32).toInt ≤ 999 from ⟨by omega, by omega⟩) hw155 hw156) (cwV 3 hwd (gV kr53_10 kr53_11 kr2_23 kr5_23 kr53_12) rfl rfl rfl (by decide +kernel) ⟨Nat.le_of_ble_eq_true rfl, Nat.le_of_ble_eq_true rfl⟩) (kPreVX hPc hK hDc (NS_st _ _ _ _) hN202 hS hFc (ci := 12) (q0 := 0) rfl rfl) rfl rfl hl.1 rfl (lv_room (Nat.le_of_ble_eq_true rfl)) dX12_readFollower_160 ⟨Nat.le_of_ble_eq_true rfl, Nat.le_of_ble_eq_true rfl⟩) hS (fun q _ h => hFc q h) hFc (fun r161 u162 t H1 locs ht9 hvm hw hB hz1 hk1 hS => ?_)
          obtain ⟨u163, U163, V163⟩ := u162
          obtain ⟨hw164, hw165, hw166, hw167, hw168, hw169, hw170, hw171, hw172, -⟩ := hw
          replace hw164 : (r161.toInt = 0 ∨ ((0 : Int32).toInt ≤ r161.toInt ∧ r161.toInt ≤ (20 : Int32).toInt)) := hw164
          replace hw165 : (0 : Int) ≤ (u163 0).toInt ∧ (u163 0).toInt ≤ 1600 := hw165
          replace hw166 : (0 : Int) ≤ (u163 1).toInt ∧ (u163 1).toInt ≤ 1600 := hw166
          replace hw167 : (0 : Int) ≤ (u163 2).toInt ∧ (u163 2).toInt ≤ 6 := hw167
          replace hw168 : (0 : Int) ≤ (u163 4).toInt ∧ (u163 4).toInt ≤ 3 := hw168
          replace hw169 : (u163 1).toInt ≤ (u163 0).toInt := hw169
          replace hw170 : (2 ≤ (u163 2).toInt → (u163 1).toInt + 1 ≤ (u163 0).toInt) := hw170
          replace hw171 : (u149 1).toInt ≤ (u163 1).toInt := hw171
          replace hw172 : ((u163 4).toInt = 0 → (u149 4).toInt = 0 ∧ (0 : Int32).toInt ≤ r161.toInt ∧ r161.toInt ≤ (20 : Int32).toInt ∧ (u149 1).toInt + (sn202 : Int) + 1 ≤ (u163 1).toInt) := hw172
          obtain ⟨hP1, hD1⟩ := hB
          rw [ht9] at hP1
          obtain ⟨hP, hD⟩ := va_join (wr := [(a6, .inl (cI, 544, .inl f159))]) (w1 := [(a0, .inr (12, [.int i0, .ref a1, .ref a2, .ref a3, .ref a4, .int i1, .ref a5, .int i2, .int (u163 0), .int (u163 1), .int (u163 2), .int (u163 3), .int (u163 4), .int (u163 5), .ref a6, .ref a7, .ref a8, .ref a9, .ref a10, .ref a11, .ref a12, .int i9, .ref a13, .int i10, .ref a14, .ref a15, .int i11, .ref a16, .ref a17, .ref a18, .ref a19, .int i12, .int i13, .int i14, .int i15, .int i16, .ref a20, .long j0, .ref a21, .ref a22, .ref a23, .ref a24])), (a4, .inl (cB, 1600, .inl xF3))]) hP hD [1, 2] [0] rfl rfl (by decide) (by decide) hk1 hFc hP1 hD1
          generalize H1 = H at hP hS ⊢
          replace hP : va_P (dC, dI) vwCl [(a6, .inl (cI, 544, .inl f159)), (a0, .inr (12, [.int i0, .ref a1, .ref a2, .ref a3, .ref a4, .int i1, .ref a5, .int i2, .int (u163 0), .int (u163 1), .int (u163 2), .int (u163 3), .int (u163 4), .int (u163 5), .ref a6, .ref a7, .ref a8, .ref a9, .ref a10, .ref a11, .ref a12, .int i9, .ref a13, .int i10, .ref a14, .ref a15, .int i11, .ref a16, .ref a17, .ref a18, .ref a19, .int i12, .int i13, .int i14, .int i15, .int i16, .ref a20, .long j0, .ref a21, .ref a22, .ref a23, .ref a24])), (a4, .inl (cB, 1600, .inl xF3))] H := hP
          replace hD : va_D A [(a6, .inl (cI, 544, .inl f159)), (a0, .inr (12, [.int i0, .ref a1, .ref a2, .ref a3, .ref a4, .int i1, .ref a5, .int i2, .int (u163 0), .int (u163 1), .int (u163 2), .int (u163 3), .int (u163 4), .int (u163 5), .ref a6, .ref a7, .ref a8, .ref a9, .ref a10, .ref a11, .ref a12, .int i9, .ref a13, .int i10, .ref a14, .ref a15, .int i11, .ref a16, .ref a17, .ref a18, .ref a19, .int i12, .int i13, .int i14, .int i15, .int i16, .ref a20, .long j0, .ref a21, .ref a22, .ref a23, .ref a24])), (a4, .inl (cB, 1600, .inl xF3))] := hD
          refine va_iast hx hb hK hP hD hS 0 0 rfl rfl (vp_of (by omega) (by omega)) dX12_readFollower_163 (fun H locs hP hD hS => ?_)
          obtain ⟨f173, ef173⟩ : ∃ f, f = upd f159 x160.toNatClampNeg r161 := ⟨_, rfl⟩
          replace hP : va_P (dC, dI) vwCl [(a6, .inl (cI, 544, .inl f173)), (a0, .inr (12, [.int i0, .ref a1, .ref a2, .ref a3, .ref a4, .int i1, .ref a5, .int i2, .int (u163 0), .int (u163 1), .int (u163 2), .int (u163 3), .int (u163 4), .int (u163 5), .ref a6, .ref a7, .ref a8, .ref a9, .ref a10, .ref a11, .ref a12, .int i9, .ref a13, .int i10, .ref a14, .ref a15, .int i11, .ref a16, .ref a17, .ref a18, .ref a19, .int i12, .int i13, .int i14, .int i15, .int i16, .ref a20, .long j0, .ref a21, .ref a22, .ref a23, .ref a24])), (a4, .inl (cB, 1600, .inl xF3))] H := by rw [ef173]; exact hP
          replace hD : va_D A [(a6, .inl (cI, 544, .inl f173)), (a0, .inr (12, [.int i0, .ref a1, .ref a2, .ref a3, .ref a4, .int i1, .ref a5, .int i2, .int (u163 0), .int (u163 1), .int (u163 2), .int (u163 3), .int (u163 4), .int (u163 5), .ref a6, .ref a7, .ref a8, .ref a9, .ref a10, .ref a11, .ref a12, .int i9, .ref a13, .int i10, .ref a14, .ref a15, .int i11, .ref a16, .ref a17, .ref a18, .ref a19, .int i12, .int i13, .int i14, .int i15, .int i16, .ref a20, .long j0, .ref a21, .ref a22, .ref a23, .ref a24])), (a4, .inl (cB, 1600, .inl xF3))] := by rw [ef173]; exact hD
          refine lv_aload_n hx hb dX12_readFollower_164 rfl (lv_at hl 1 rfl) ?_
          refine va_get (D := (dC, dI)) (ci := 12) (v := .ref a6) (C := RX12) (T := TX12) (N := 42) hx hb hwd inlX12 hown hK hP 1 rfl rfl 14 (by decide) (hwd _ kr49_15) (fun _ h9 => h9) rfl dX12_readFollower_165 ?_
          refine lv_bipush (v := 6) hx hb dX12_readFollower_168 (by decide) ?_
          refine lv_dup2_11 hx hb dX12_readFollower_170 rfl rfl ?_
          have h174 : vp_in (6 : Int32) 544 := (vin (by decide))
          refine va_iald hx hb hK hP 0 0 rfl rfl h174 dX12_readFollower_171 ?_
          refine lv_topi (fun x175 ex175 => ?_)
          have ix175 := wat_lit (F := xF5) (k := 6) (show x175 = xF5 (6 : Int32).toNatClampNeg from by rw [ex175, ef173, upd_ne (by omega), ef159, upd_ne (by omega), ef144, upd_ne (by omega), ef126, upd_ne (by omega), ef7, upd_ne (by omega)]) (by decide)
          refine lv_iconst (v := 1) hx hb dX12_readFollower_172 (by decide) ?_
          refine lv_iadd hx hb dX12_readFollower_173 ?_
          refine lv_topi (fun x176 ex176 => ?_)
          have tx176 := ia_add (a := x175) (b := (1 : Int32)) (by omega) (by omega)
          rw [← ex176] at tx176
          refine va_iast hx hb hK hP hD hS 0 0 rfl rfl (vin (by decide)) dX12_readFollower_174 (fun H locs hP hD hS => ?_)
          obtain ⟨f177, ef177⟩ : ∃ f, f = upd f173 (6 : Int32).toNatClampNeg x176 := ⟨_, rfl⟩
          replace hP : va_P (dC, dI) vwCl [(a6, .inl (cI, 544, .inl f177)), (a0, .inr (12, [.int i0, .ref a1, .ref a2, .ref a3, .ref a4, .int i1, .ref a5, .int i2, .int (u163 0), .int (u163 1), .int (u163 2), .int (u163 3), .int (u163 4), .int (u163 5), .ref a6, .ref a7, .ref a8, .ref a9, .ref a10, .ref a11, .ref a12, .int i9, .ref a13, .int i10, .ref a14, .ref a15, .int i11, .ref a16, .ref a17, .ref a18, .ref a19, .int i12, .int i13, .int i14, .int i15, .int i16, .ref a20, .long j0, .ref a21, .ref a22, .ref a23, .ref a24])), (a4, .inl (cB, 1600, .inl xF3))] H := by rw [ef177]; exact hP
          replace hD : va_D A [(a6, .inl (cI, 544, .inl f177)), (a0, .inr (12, [.int i0, .ref a1, .ref a2, .ref a3, .ref a4, .int i1, .ref a5, .int i2, .int (u163 0), .int (u163 1), .int (u163 2), .int (u163 3), .int (u163 4), .int (u163 5), .ref a6, .ref a7, .ref a8, .ref a9, .ref a10, .ref a11, .ref a12, .int i9, .ref a13, .int i10, .ref a14, .ref a15, .int i11, .ref a16, .ref a17, .ref a18, .ref a19, .int i12, .int i13, .int i14, .int i15, .int i16, .ref a20, .long j0, .ref a21, .ref a22, .ref a23, .ref a24])), (a4, .inl (cB, 1600, .inl xF3))] := by rw [ef177]; exact hD
          have hP9 := hP.sub (ws' := [(a0, .inr (12, [.int i0, .ref a1, .ref a2, .ref a3, .ref a4, .int i1, .ref a5, .int i2, .int (u163 0), .int (u163 1), .int (u163 2), .int (u163 3), .int (u163 4), .int (u163 5), .ref a6, .ref a7, .ref a8, .ref a9, .ref a10, .ref a11, .ref a12, .int i9, .ref a13, .int i10, .ref a14, .ref a15, .int i11, .ref a16, .ref a17, .ref a18, .ref a19, .int i12, .int i13, .int i14, .int i15, .int i16, .ref a20, .long j0, .ref a21, .ref a22, .ref a23, .ref a24])), (a4, .inl (cB, 1600, .inl xF3)), (a6, .inl (cI, 544, .inl f177))]) [1, 2, 0] rfl
          have hD9 := hD.sub (ws' := [(a0, .inr (12, [.int i0, .ref a1, .ref a2, .ref a3, .ref a4, .int i1, .ref a5, .int i2, .int (u163 0), .int (u163 1), .int (u163 2), .int (u163 3), .int (u163 4), .int (u163 5), .ref a6, .ref a7, .ref a8, .ref a9, .ref a10, .ref a11, .ref a12, .int i9, .ref a13, .int i10, .ref a14, .ref a15, .int i11, .ref a16, .ref a17, .ref a18, .ref a19, .int i12, .int i13, .int i14, .int i15, .int i16, .ref a20, .long j0, .ref a21, .ref a22, .ref a23, .ref a24])), (a4, .inl (cB, 1600, .inl xF3)), (a6, .inl (cI, 544, .inl f177))]) [1, 2, 0] (by decide) rfl
          rw [hQ]
          exact W.vret hx hb hr (fun t ht hW => ⟨⟨(pickG 0 [(u163 0), (u163 1), (u163 2), (u163 3), (u163 4), (u163 5)], pickG (fun _ => 0) [f177], pickG (fun _ => 0) []), rfl, ⟨(show (0 : Int) ≤ (u163 0).toInt ∧ (u163 0).toInt ≤ 1600 from hw165), (show (0 : Int) ≤ (u163 1).toInt ∧ (u163 1).toInt ≤ 1600 from hw166), (show (0 : Int) ≤ (u163 2).toInt ∧ (u163 2).toInt ≤ 6 from hw167), (show (0 : Int) ≤ (u163 4).toInt ∧ (u163 4).toInt ≤ 3 from hw168), (show (u163 1).toInt ≤ (u163 0).toInt from by omega), (show (2 ≤ (u163 2).toInt → (u163 1).toInt + 1 ≤ (u163 0).toInt) from by omega), (show i4.toInt ≤ (u163 1).toInt from by omega), (show FG (u163 4).toInt f177 from fun h9 => by replace hw172 := hw172 h9; replace hw158 := hw158 hw172.1; replace hw143 := hw143 hw158.1; replace hw125 := hw125 hw143.1; clear hw170 hw164 hw156 hw150 hw141 hw135 hw123 hw117 p_12; have o0 : wfo f173 0 (wat xF5 6) = p0.toInt := (by rw [ef173, wfo_nei (by omega), ef159, wfo_nei (by omega), ef144, wfo_nei (by omega), ef126, wfo_nei (by omega), ef7, wfo_eqi (by omega)]); have o1 : wfo f173 1 (wat xF5 6) = r132.toInt := (by rw [ef173, wfo_nei (by omega), ef159, wfo_nei (by omega), ef144, wfo_eqi (by omega)]); have o2 : wfo f173 2 (wat xF5 6) = r114.toInt := (by rw [ef173, wfo_nei (by omega), ef159, wfo_nei (by omega), ef144, wfo_nei (by omega), ef126, wfo_eqi (by omega)]); exact ⟨by rw [ef177]; exact WI_fo (g0 := wat xF5 6) p_7 (by omega) rfl (by omega) (by omega) (fun j9 h8 => by rw [ef173, upd_nej (by omega), ef159, upd_nej (by omega), ef144, upd_nej (by omega), ef126, upd_nej (by omega), ef7, upd_nej (by omega)]) (by unfold wfl; omega) (by omega), (by rw [ef177, wat_nei (by omega), ef173, wat_nei (by omega), ef159, wat_nei (by omega), ef144, wat_nei (by omega), ef126, wat_nei (by omega), ef7, wat_nei (by omega)]; omega)⟩), trivial⟩, (by rw [ht]; exact hP9), hD9⟩, hS.F ht⟩) hS.2.2 dX12_readFollower_175
        · rw [ki_eq] at c145
          exfalso
          omega
      · rw [ki_eq] at c128
        exfalso
        omega
    · rw [ki_eq] at c113
      exact jp1 _ _ ls  (hP.sub (ws' := [(a0, .inr (12, [.int i0, .ref a1, .ref a2, .ref a3, .ref a4, .int i1, .ref a5, .int i2, .int i3, .int i4, .int i5, .int i6, .int i7, .int i8, .ref a6, .ref a7, .ref a8, .ref a9, .ref a10, .ref a11, .ref a12, .int i9, .ref a13, .int i10, .ref a14, .ref a15, .int i11, .ref a16, .ref a17, .ref a18, .ref a19, .int i12, .int i13, .int i14, .int i15, .int i16, .ref a20, .long j0, .ref a21, .ref a22, .ref a23, .ref a24])), (a4, .inl (cB, 1600, .inl xF3)), (a6, .inl (cI, 544, .inl f7))]) [0, 1, 2] rfl) (hD.sub (ws' := [(a0, .inr (12, [.int i0, .ref a1, .ref a2, .ref a3, .ref a4, .int i1, .ref a5, .int i2, .int i3, .int i4, .int i5, .int i6, .int i7, .int i8, .ref a6, .ref a7, .ref a8, .ref a9, .ref a10, .ref a11, .ref a12, .int i9, .ref a13, .int i10, .ref a14, .ref a15, .int i11, .ref a16, .ref a17, .ref a18, .ref a19, .int i12, .int i13, .int i14, .int i15, .int i16, .ref a20, .long j0, .ref a21, .ref a22, .ref a23, .ref a24])), (a4, .inl (cB, 1600, .inl xF3)), (a6, .inl (cI, 544, .inl f7))]) [0, 1, 2] (by decide) rfl) hS (lv_sub hl [1, 2, 0] rfl)
