theorem dX12_fillFew_0 : decode cX12_fillFew 0 = .ok (.iconst 0, 1) := by decide +kernel
theorem dX12_fillFew_1 : decode cX12_fillFew 1 = .ok (.istore_n 2, 1) := by decide +kernel
theorem dX12_fillFew_2 : decode cX12_fillFew 2 = .ok (.iload_n 2, 1) := by decide +kernel
theorem dX12_fillFew_3 : decode cX12_fillFew 3 = .ok (.iconst 1, 1) := by decide +kernel
theorem dX12_fillFew_4 : decode cX12_fillFew 4 = .ok (.aload_n 0, 1) := by decide +kernel
theorem dX12_fillFew_5 : decode cX12_fillFew 5 = .ok (.getfield 79, 3) := by decide +kernel
theorem dX12_fillFew_8 : decode cX12_fillFew 8 = .ok (.iload_n 1, 1) := by decide +kernel
theorem dX12_fillFew_9 : decode cX12_fillFew 9 = .ok (.iaload, 1) := by decide +kernel
theorem dX12_fillFew_10 : decode cX12_fillFew 10 = .ok (.ishl, 1) := by decide +kernel
theorem dX12_fillFew_11 : decode cX12_fillFew 11 = .ok (.if_icmp .ge 150, 3) := by decide +kernel
theorem dX12_fillFew_14 : decode cX12_fillFew 14 = .ok (.aload_n 0, 1) := by decide +kernel
theorem dX12_fillFew_15 : decode cX12_fillFew 15 = .ok (.getfield 64, 3) := by decide +kernel
theorem dX12_fillFew_18 : decode cX12_fillFew 18 = .ok (.iload_n 2, 1) := by decide +kernel
theorem dX12_fillFew_19 : decode cX12_fillFew 19 = .ok (.iconst 0, 1) := by decide +kernel
theorem dX12_fillFew_20 : decode cX12_fillFew 20 = .ok (.iastore, 1) := by decide +kernel
theorem dX12_fillFew_21 : decode cX12_fillFew 21 = .ok (.iconst 0, 1) := by decide +kernel
theorem dX12_fillFew_22 : decode cX12_fillFew 22 = .ok (.istore_n 3, 1) := by decide +kernel
theorem dX12_fillFew_23 : decode cX12_fillFew 23 = .ok (.iload_n 3, 1) := by decide +kernel
theorem dX12_fillFew_24 : decode cX12_fillFew 24 = .ok (.aload_n 0, 1) := by decide +kernel
theorem dX12_fillFew_25 : decode cX12_fillFew 25 = .ok (.getfield 79, 3) := by decide +kernel
theorem dX12_fillFew_28 : decode cX12_fillFew 28 = .ok (.iload_n 1, 1) := by decide +kernel
theorem dX12_fillFew_29 : decode cX12_fillFew 29 = .ok (.iaload, 1) := by decide +kernel
theorem dX12_fillFew_30 : decode cX12_fillFew 30 = .ok (.if_icmp .ge 43, 3) := by decide +kernel
theorem dX12_fillFew_33 : decode cX12_fillFew 33 = .ok (.aload_n 0, 1) := by decide +kernel
theorem dX12_fillFew_34 : decode cX12_fillFew 34 = .ok (.getfield 64, 3) := by decide +kernel
theorem dX12_fillFew_37 : decode cX12_fillFew 37 = .ok (.iload_n 2, 1) := by decide +kernel
theorem dX12_fillFew_38 : decode cX12_fillFew 38 = .ok (.dup2, 1) := by decide +kernel
theorem dX12_fillFew_39 : decode cX12_fillFew 39 = .ok (.iaload, 1) := by decide +kernel
theorem dX12_fillFew_40 : decode cX12_fillFew 40 = .ok (.iload_n 2, 1) := by decide +kernel
theorem dX12_fillFew_41 : decode cX12_fillFew 41 = .ok (.iload_n 3, 1) := by decide +kernel
theorem dX12_fillFew_42 : decode cX12_fillFew 42 = .ok (.ishr, 1) := by decide +kernel
theorem dX12_fillFew_43 : decode cX12_fillFew 43 = .ok (.iconst 1, 1) := by decide +kernel
theorem dX12_fillFew_44 : decode cX12_fillFew 44 = .ok (.iand, 1) := by decide +kernel
theorem dX12_fillFew_45 : decode cX12_fillFew 45 = .ok (.iconst 1, 1) := by decide +kernel
theorem dX12_fillFew_46 : decode cX12_fillFew 46 = .ok (.if_icmp .ne 18, 3) := by decide +kernel
theorem dX12_fillFew_49 : decode cX12_fillFew 49 = .ok (.aload_n 0, 1) := by decide +kernel
theorem dX12_fillFew_50 : decode cX12_fillFew 50 = .ok (.getfield 85, 3) := by decide +kernel
theorem dX12_fillFew_53 : decode cX12_fillFew 53 = .ok (.bipush 60, 2) := by decide +kernel
theorem dX12_fillFew_55 : decode cX12_fillFew 55 = .ok (.iload_n 1, 1) := by decide +kernel
theorem dX12_fillFew_56 : decode cX12_fillFew 56 = .ok (.imul, 1) := by decide +kernel
theorem dX12_fillFew_57 : decode cX12_fillFew 57 = .ok (.iload_n 3, 1) := by decide +kernel
theorem dX12_fillFew_58 : decode cX12_fillFew 58 = .ok (.iadd, 1) := by decide +kernel
theorem dX12_fillFew_59 : decode cX12_fillFew 59 = .ok (.laload, 1) := by decide +kernel
theorem dX12_fillFew_60 : decode cX12_fillFew 60 = .ok (.l2i, 1) := by decide +kernel
theorem dX12_fillFew_61 : decode cX12_fillFew 61 = .ok (.goto 4, 3) := by decide +kernel
theorem dX12_fillFew_64 : decode cX12_fillFew 64 = .ok (.iconst 0, 1) := by decide +kernel
theorem dX12_fillFew_65 : decode cX12_fillFew 65 = .ok (.iadd, 1) := by decide +kernel
theorem dX12_fillFew_66 : decode cX12_fillFew 66 = .ok (.iastore, 1) := by decide +kernel
theorem dX12_fillFew_67 : decode cX12_fillFew 67 = .ok (.iinc 3 1, 3) := by decide +kernel
theorem dX12_fillFew_70 : decode cX12_fillFew 70 = .ok (.goto (-47), 3) := by decide +kernel
theorem dX12_fillFew_73 : decode cX12_fillFew 73 = .ok (.aload_n 0, 1) := by decide +kernel
theorem dX12_fillFew_74 : decode cX12_fillFew 74 = .ok (.getfield 67, 3) := by decide +kernel
theorem dX12_fillFew_77 : decode cX12_fillFew 77 = .ok (.iload_n 2, 1) := by decide +kernel
theorem dX12_fillFew_78 : decode cX12_fillFew 78 = .ok (.iload_n 2, 1) := by decide +kernel
theorem dX12_fillFew_79 : decode cX12_fillFew 79 = .ok (.ifCond .ne 7, 3) := by decide +kernel
theorem dX12_fillFew_82 : decode cX12_fillFew 82 = .ok (.iconst 0, 1) := by decide +kernel
theorem dX12_fillFew_83 : decode cX12_fillFew 83 = .ok (.goto 5, 3) := by decide +kernel
theorem dX12_fillFew_86 : decode cX12_fillFew 86 = .ok (.bipush 9, 2) := by decide +kernel
theorem dX12_fillFew_88 : decode cX12_fillFew 88 = .ok (.iastore, 1) := by decide +kernel
theorem dX12_fillFew_89 : decode cX12_fillFew 89 = .ok (.iconst 1, 1) := by decide +kernel
theorem dX12_fillFew_90 : decode cX12_fillFew 90 = .ok (.istore_n 3, 1) := by decide +kernel
theorem dX12_fillFew_91 : decode cX12_fillFew 91 = .ok (.iload_n 3, 1) := by decide +kernel
theorem dX12_fillFew_92 : decode cX12_fillFew 92 = .ok (.iload_n 2, 1) := by decide +kernel
theorem dX12_fillFew_93 : decode cX12_fillFew 93 = .ok (.if_icmp .gt 62, 3) := by decide +kernel
theorem dX12_fillFew_96 : decode cX12_fillFew 96 = .ok (.iload_n 3, 1) := by decide +kernel
theorem dX12_fillFew_97 : decode cX12_fillFew 97 = .ok (.iload_n 2, 1) := by decide +kernel
theorem dX12_fillFew_98 : decode cX12_fillFew 98 = .ok (.iconst (-1), 1) := by decide +kernel
theorem dX12_fillFew_99 : decode cX12_fillFew 99 = .ok (.ixor, 1) := by decide +kernel
theorem dX12_fillFew_100 : decode cX12_fillFew 100 = .ok (.iand, 1) := by decide +kernel
theorem dX12_fillFew_101 : decode cX12_fillFew 101 = .ok (.ifCond .ne 48, 3) := by decide +kernel
theorem dX12_fillFew_104 : decode cX12_fillFew 104 = .ok (.aload_n 0, 1) := by decide +kernel
theorem dX12_fillFew_105 : decode cX12_fillFew 105 = .ok (.getfield 64, 3) := by decide +kernel
theorem dX12_fillFew_108 : decode cX12_fillFew 108 = .ok (.iload_n 3, 1) := by decide +kernel
theorem dX12_fillFew_109 : decode cX12_fillFew 109 = .ok (.iaload, 1) := by decide +kernel
theorem dX12_fillFew_110 : decode cX12_fillFew 110 = .ok (.aload_n 0, 1) := by decide +kernel
theorem dX12_fillFew_111 : decode cX12_fillFew 111 = .ok (.getfield 13, 3) := by decide +kernel
theorem dX12_fillFew_114 : decode cX12_fillFew 114 = .ok (.iconst 1, 1) := by decide +kernel
theorem dX12_fillFew_115 : decode cX12_fillFew 115 = .ok (.iaload, 1) := by decide +kernel
theorem dX12_fillFew_116 : decode cX12_fillFew 116 = .ok (.if_icmp .le 6, 3) := by decide +kernel
theorem dX12_fillFew_119 : decode cX12_fillFew 119 = .ok (.goto 30, 3) := by decide +kernel
theorem dX12_fillFew_122 : decode cX12_fillFew 122 = .ok (.aload_n 0, 1) := by decide +kernel
theorem dX12_fillFew_123 : decode cX12_fillFew 123 = .ok (.getfield 67, 3) := by decide +kernel
theorem dX12_fillFew_126 : decode cX12_fillFew 126 = .ok (.iload_n 2, 1) := by decide +kernel
theorem dX12_fillFew_127 : decode cX12_fillFew 127 = .ok (.aload_n 0, 1) := by decide +kernel
theorem dX12_fillFew_128 : decode cX12_fillFew 128 = .ok (.getfield 67, 3) := by decide +kernel
theorem dX12_fillFew_131 : decode cX12_fillFew 131 = .ok (.iload_n 2, 1) := by decide +kernel
theorem dX12_fillFew_132 : decode cX12_fillFew 132 = .ok (.iaload, 1) := by decide +kernel
theorem dX12_fillFew_133 : decode cX12_fillFew 133 = .ok (.iconst 1, 1) := by decide +kernel
theorem dX12_fillFew_134 : decode cX12_fillFew 134 = .ok (.aload_n 0, 1) := by decide +kernel
theorem dX12_fillFew_135 : decode cX12_fillFew 135 = .ok (.getfield 67, 3) := by decide +kernel
theorem dX12_fillFew_138 : decode cX12_fillFew 138 = .ok (.iload_n 2, 1) := by decide +kernel
theorem dX12_fillFew_139 : decode cX12_fillFew 139 = .ok (.iload_n 3, 1) := by decide +kernel
theorem dX12_fillFew_140 : decode cX12_fillFew 140 = .ok (.iconst (-1), 1) := by decide +kernel
theorem dX12_fillFew_141 : decode cX12_fillFew 141 = .ok (.ixor, 1) := by decide +kernel
theorem dX12_fillFew_142 : decode cX12_fillFew 142 = .ok (.iand, 1) := by decide +kernel
theorem dX12_fillFew_143 : decode cX12_fillFew 143 = .ok (.iaload, 1) := by decide +kernel
theorem dX12_fillFew_144 : decode cX12_fillFew 144 = .ok (.iadd, 1) := by decide +kernel
theorem dX12_fillFew_145 : decode cX12_fillFew 145 = .ok (.invokestatic 133, 3) := by decide +kernel
theorem dX12_fillFew_148 : decode cX12_fillFew 148 = .ok (.iastore, 1) := by decide +kernel
theorem dX12_fillFew_149 : decode cX12_fillFew 149 = .ok (.iinc 3 1, 3) := by decide +kernel
theorem dX12_fillFew_152 : decode cX12_fillFew 152 = .ok (.goto (-61), 3) := by decide +kernel
theorem dX12_fillFew_155 : decode cX12_fillFew 155 = .ok (.iinc 2 1, 3) := by decide +kernel
theorem dX12_fillFew_158 : decode cX12_fillFew 158 = .ok (.goto (-156), 3) := by decide +kernel
theorem dX12_fillFew_161 : decode cX12_fillFew 161 = .ok (.return_, 1) := by decide +kernel
set_option maxHeartbeats 4000000 in
set_option maxRecDepth 100000 in
theorem s_X12_fillFew (l : Launch) (dC : Nat → ClassId) (dI : Nat → Nat → Nat) (cI cZ cB cJ cM cG : ClassId) (a0 a1 a2 a3 a4 a5 a6 a7 a8 a9 a10 a11 a12 a13 a14 a15 a16 a17 a18 a19 a20 a21 a22 a23 a24 : Nat) (i0 i1 i2 i3 i4 i5 i6 i7 i8 i9 i10 i11 i12 i13 i14 i15 i16 : Int32) (j0 : Int64) (xF0 xF15 xF16 xF20 : Nat → Int32) (xG22 : Nat → Int64) (p0 : Int32) (cp : Int) (sz : Nat) (p_0 : (0 : Int) ≤ i1.toInt ∧ i1.toInt ≤ 1600) (p_1 : (0 : Int) ≤ i2.toInt ∧ i2.toInt ≤ 1600) (p_2 : (0 : Int) ≤ i3.toInt ∧ i3.toInt ≤ 1600) (p_3 : (0 : Int) ≤ i4.toInt ∧ i4.toInt ≤ 1600) (p_4 : (0 : Int) ≤ i5.toInt ∧ i5.toInt ≤ 6) (p_5 : (0 : Int) ≤ i7.toInt ∧ i7.toInt ≤ 3) (p_6 : (0 : Int) ≤ i11.toInt ∧ i11.toInt ≤ 59) (p_7 : WI cp xF0) (p_8 : rng xF20 4 (-1) 60) (p_9 : MI xF20) (p_10 : 1 ≤ (xF20 p0.toInt.toNat).toInt ∧ (xF20 p0.toInt.toNat).toInt ≤ 8) (p_11 : NB (wat xF0 1) xG22 p0.toInt (xF20 p0.toInt.toNat).toInt) (p_12 : (0 : Int) ≤ p0.toInt ∧ p0.toInt ≤ 3) (p_13 : 0 ≤ cp ∧ cp ≤ 2000000000) : Met l yX12_fillFew (kw yX12_fillFew cX12_fillFew 4 none) ({ frames := 1, cells := 0, slots := 0, locals := 24 } : Room) (va_Pc [.ref a0, .int p0] (kPre dC dI [(cI, .int), (cZ, .boolean), (cB, .byte), (cJ, .long), (cM, .object RX2), (cG, .array .int)] [(a0, .inr (12, [.int i0, .ref a1, .ref a2, .ref a3, .ref a4, .int i1, .ref a5, .int i2, .int i3, .int i4, .int i5, .int i6, .int i7, .int i8, .ref a6, .ref a7, .ref a8, .ref a9, .ref a10, .ref a11, .ref a12, .int i9, .ref a13, .int i10, .ref a14, .ref a15, .int i11, .ref a16, .ref a17, .ref a18, .ref a19, .int i12, .int i13, .int i14, .int i15, .int i16, .ref a20, .long j0, .ref a21, .ref a22, .ref a23, .ref a24])), (a1, .inl (cI, 544, .inl xF0)), (a16, .inl (cI, 256, .inl xF15)), (a17, .inl (cI, 256, .inl xF16)), (a21, .inl (cI, 4, .inl xF20)), (a23, .inl (cJ, 240, .inr (.inl xG22)))] sz)) (va_Qv (fun (u9 : (Nat → Int32) × (Nat → Nat → Int32) × (Nat → Nat → Int64)) => (FEW (u9.2.1 1) (xF20 p0.toNatClampNeg)) ∧ True) (fun u9 t => va_P (dC, dI) vwCl [(a0, .inr (12, [.int i0, .ref a1, .ref a2, .ref a3, .ref a4, .int i1, .ref a5, .int i2, .int i3, .int i4, .int i5, .int i6, .int i7, .int i8, .ref a6, .ref a7, .ref a8, .ref a9, .ref a10, .ref a11, .ref a12, .int i9, .ref a13, .int i10, .ref a14, .ref a15, .int i11, .ref a16, .ref a17, .ref a18, .ref a19, .int i12, .int i13, .int i14, .int i15, .int i16, .ref a20, .long j0, .ref a21, .ref a22, .ref a23, .ref a24])), (a1, .inl (cI, 544, .inl xF0)), (a16, .inl (cI, 256, .inl (u9.2.1 0))), (a17, .inl (cI, 256, .inl (u9.2.1 1))), (a21, .inl (cI, 4, .inl xF20)), (a23, .inl (cJ, 240, .inr (.inl xG22)))] t.heap ∧ va_D (va_A [(a0, .inr (12, [.int i0, .ref a1, .ref a2, .ref a3, .ref a4, .int i1, .ref a5, .int i2, .int i3, .int i4, .int i5, .int i6, .int i7, .int i8, .ref a6, .ref a7, .ref a8, .ref a9, .ref a10, .ref a11, .ref a12, .int i9, .ref a13, .int i10, .ref a14, .ref a15, .int i11, .ref a16, .ref a17, .ref a18, .ref a19, .int i12, .int i13, .int i14, .int i15, .int i16, .ref a20, .long j0, .ref a21, .ref a22, .ref a23, .ref a24])), (a1, .inl (cI, 544, .inl xF0)), (a16, .inl (cI, 256, .inl xF15)), (a17, .inl (cI, 256, .inl xF16)), (a21, .inl (cI, 4, .inl xF20)), (a23, .inl (cJ, 240, .inr (.inl xG22)))] sz) [(a0, .inr (12, [.int i0, .ref a1, .ref a2, .ref a3, .ref a4, .int i1, .ref a5, .int i2, .int i3, .int i4, .int i5, .int i6, .int i7, .int i8, .ref a6, .ref a7, .ref a8, .ref a9, .ref a10, .ref a11, .ref a12, .int i9, .ref a13, .int i10, .ref a14, .ref a15, .int i11, .ref a16, .ref a17, .ref a18, .ref a19, .int i12, .int i13, .int i14, .int i15, .int i16, .ref a20, .long j0, .ref a21, .ref a22, .ref a23, .ref a24])), (a1, .inl (cI, 544, .inl xF0)), (a16, .inl (cI, 256, .inl (u9.2.1 0))), (a17, .inl (cI, 256, .inl (u9.2.1 1))), (a21, .inl (cI, 4, .inl xF20)), (a23, .inl (cJ, 240, .inr (.inl xG22)))]) (va_A [(a0, .inr (12, [.int i0, .ref a1, .ref a2, .ref a3, .ref a4, .int i1, .ref a5, .int i2, .int i3, .int i4, .int i5, .int i6, .int i7, .int i8, .ref a6, .ref a7, .ref a8, .ref a9, .ref a10, .ref a11, .ref a12, .int i9, .ref a13, .int i10, .ref a14, .ref a15, .int i11, .ref a16, .ref a17, .ref a18, .ref a19, .int i12, .int i13, .int i14, .int i15, .int i16, .ref a20, .long j0, .ref a21, .ref a22, .ref a23, .ref a24])), (a1, .inl (cI, 544, .inl xF0)), (a16, .inl (cI, 256, .inl xF15)), (a17, .inl (cI, 256, .inl xF16)), (a21, .inl (cI, 4, .inl xF20)), (a23, .inl (cJ, 240, .inr (.inl xG22)))] sz)) 0 0 (va_A [(a0, .inr (12, [.int i0, .ref a1, .ref a2, .ref a3, .ref a4, .int i1, .ref a5, .int i2, .int i3, .int i4, .int i5, .int i6, .int i7, .int i8, .ref a6, .ref a7, .ref a8, .ref a9, .ref a10, .ref a11, .ref a12, .int i9, .ref a13, .int i10, .ref a14, .ref a15, .int i11, .ref a16, .ref a17, .ref a18, .ref a19, .int i12, .int i13, .int i14, .int i15, .int i16, .ref a20, .long j0, .ref a21, .ref a22, .ref a23, .ref a24])), (a1, .inl (cI, 544, .inl xF0)), (a16, .inl (cI, 256, .inl xF15)), (a17, .inl (cI, 256, .inl xF16)), (a21, .inl (cI, 4, .inl xF20)), (a23, .inl (cJ, 240, .inr (.inl xG22)))] sz) := by
  refine kEnter (by decide) (Nat.le_of_ble_eq_true rfl) ?_
  intro p e s m below meth c ls hx hb hr hml hown hlocks hin hwd hsz hP hK hD hl
  subst hsz
  generalize hAe : va_A [(a0, .inr (12, [.int i0, .ref a1, .ref a2, .ref a3, .ref a4, .int i1, .ref a5, .int i2, .int i3, .int i4, .int i5, .int i6, .int i7, .int i8, .ref a6, .ref a7, .ref a8, .ref a9, .ref a10, .ref a11, .ref a12, .int i9, .ref a13, .int i10, .ref a14, .ref a15, .int i11, .ref a16, .ref a17, .ref a18, .ref a19, .int i12, .int i13, .int i14, .int i15, .int i16, .ref a20, .long j0, .ref a21, .ref a22, .ref a23, .ref a24])), (a1, .inl (cI, 544, .inl xF0)), (a16, .inl (cI, 256, .inl xF15)), (a17, .inl (cI, 256, .inl xF16)), (a21, .inl (cI, 4, .inl xF20)), (a23, .inl (cJ, 240, .inr (.inl xG22)))] s.heap.size = A at hD ⊢
  have hA : ∀ q : Nat, s.heap.size ≤ q → A q := fun q h => by rw [← hAe]; exact Or.inr h
  have hS : va_S A s.heap s.heap [] := va_S.rf
  have hl : lv_has ls 4 [(0, .ref a0), (1, .int p0)] := hl
  obtain ⟨Q, hQ⟩ : ∃ Q, Q = MQ below (va_Qv (fun (u9 : (Nat → Int32) × (Nat → Nat → Int32) × (Nat → Nat → Int64)) => (FEW (u9.2.1 1) (xF20 p0.toNatClampNeg)) ∧ True) (fun u9 t => va_P (dC, dI) vwCl [(a0, .inr (12, [.int i0, .ref a1, .ref a2, .ref a3, .ref a4, .int i1, .ref a5, .int i2, .int i3, .int i4, .int i5, .int i6, .int i7, .int i8, .ref a6, .ref a7, .ref a8, .ref a9, .ref a10, .ref a11, .ref a12, .int i9, .ref a13, .int i10, .ref a14, .ref a15, .int i11, .ref a16, .ref a17, .ref a18, .ref a19, .int i12, .int i13, .int i14, .int i15, .int i16, .ref a20, .long j0, .ref a21, .ref a22, .ref a23, .ref a24])), (a1, .inl (cI, 544, .inl xF0)), (a16, .inl (cI, 256, .inl (u9.2.1 0))), (a17, .inl (cI, 256, .inl (u9.2.1 1))), (a21, .inl (cI, 4, .inl xF20)), (a23, .inl (cJ, 240, .inr (.inl xG22)))] t.heap ∧ va_D A [(a0, .inr (12, [.int i0, .ref a1, .ref a2, .ref a3, .ref a4, .int i1, .ref a5, .int i2, .int i3, .int i4, .int i5, .int i6, .int i7, .int i8, .ref a6, .ref a7, .ref a8, .ref a9, .ref a10, .ref a11, .ref a12, .int i9, .ref a13, .int i10, .ref a14, .ref a15, .int i11, .ref a16, .ref a17, .ref a18, .ref a19, .int i12, .int i13, .int i14, .int i15, .int i16, .ref a20, .long j0, .ref a21, .ref a22, .ref a23, .ref a24])), (a1, .inl (cI, 544, .inl xF0)), (a16, .inl (cI, 256, .inl (u9.2.1 0))), (a17, .inl (cI, 256, .inl (u9.2.1 1))), (a21, .inl (cI, 4, .inl xF20)), (a23, .inl (cJ, 240, .inr (.inl xG22)))]) A) ([.ref a0, .int p0] : List Value).toArray s 0 0 A := ⟨_, rfl⟩
  rw [← hQ]
  have km2 : ((-2) : Int32).toInt = -2 := by decide
  have k0 : (0 : Int32).toInt = 0 := by decide
  have k1 : (1 : Int32).toInt = 1 := by decide
  have k9 : (9 : Int32).toInt = 9 := by decide
  have k60 : (60 : Int32).toInt = 60 := by decide
  refine lv_iconst (v := 0) hx hb dX12_fillFew_0 (by decide) ?_
  refine lv_istore_n (lv' := [(2, .int 0), (0, .ref a0), (1, .int p0)]) hx hb dX12_fillFew_1 rfl hl (by decide) rfl (fun ls hl => ?_)
  have lp1 : ∀ (d : Nat), ∀ (H : Heap) (locs : List Loc) (ls : Array Slot) (w2_1 : Int32) (g1_1 : Nat → Int32) (g2_1 : Nat → Int32), ((0 : Int) ≤ w2_1.toInt ∧ w2_1.toInt ≤ 256) → (SP (wat xF0 1) g1_1 w2_1.toInt) → (FQ g2_1 w2_1.toInt) → (256 - w2_1.toInt).toNat < d → va_P (dC, dI) vwCl [(a0, .inr (12, [.int i0, .ref a1, .ref a2, .ref a3, .ref a4, .int i1, .ref a5, .int i2, .int i3, .int i4, .int i5, .int i6, .int i7, .int i8, .ref a6, .ref a7, .ref a8, .ref a9, .ref a10, .ref a11, .ref a12, .int i9, .ref a13, .int i10, .ref a14, .ref a15, .int i11, .ref a16, .ref a17, .ref a18, .ref a19, .int i12, .int i13, .int i14, .int i15, .int i16, .ref a20, .long j0, .ref a21, .ref a22, .ref a23, .ref a24])), (a1, .inl (cI, 544, .inl xF0)), (a16, .inl (cI, 256, .inl g1_1)), (a17, .inl (cI, 256, .inl g2_1)), (a21, .inl (cI, 4, .inl xF20)), (a23, .inl (cJ, 240, .inr (.inl xG22)))] H → va_D A [(a0, .inr (12, [.int i0, .ref a1, .ref a2, .ref a3, .ref a4, .int i1, .ref a5, .int i2, .int i3, .int i4, .int i5, .int i6, .int i7, .int i8, .ref a6, .ref a7, .ref a8, .ref a9, .ref a10, .ref a11, .ref a12, .int i9, .ref a13, .int i10, .ref a14, .ref a15, .int i11, .ref a16, .ref a17, .ref a18, .ref a19, .int i12, .int i13, .int i14, .int i15, .int i16, .ref a20, .long j0, .ref a21, .ref a22, .ref a23, .ref a24])), (a1, .inl (cI, 544, .inl xF0)), (a16, .inl (cI, 256, .inl g1_1)), (a17, .inl (cI, 256, .inl g2_1)), (a21, .inl (cI, 4, .inl xF20)), (a23, .inl (cJ, 240, .inr (.inl xG22)))] → va_S A s.heap H locs → lv_has ls 4 [(0, .ref a0), (1, .int p0), (2, .int w2_1)] → W p l e ({ frames := 1, cells := 0, slots := 0, locals := 24 } : Room) s m ([.ref a0, .int p0] : List Value).toArray below meth c H locs 0 0 Q (F0 m 2 ls []) := by
    intro d
    induction d with
    | zero =>
      intro H locs ls w2_1 g1_1 g2_1 hr_w2_1 hrl0_1 hrl1_1 hm hP hD hS hl
      omega
    | succ d ih1 =>
      intro H locs ls w2_1 g1_1 g2_1 hr_w2_1 hrl0_1 hrl1_1 hm hP hD hS hl
      refine lv_iload_n hx hb dX12_fillFew_2 rfl (lv_at hl 2 rfl) ?_
      refine lv_iconst (v := 1) hx hb dX12_fillFew_3 (by decide) ?_
      refine lv_aload_n hx hb dX12_fillFew_4 rfl (lv_at hl 0 rfl) ?_
      refine va_get (D := (dC, dI)) (ci := 12) (v := .ref a21) (C := RX12) (T := TX12) (N := 42) hx hb hwd inlX12 hown hK hP 0 rfl rfl 38 (by decide) (hwd _ kr8_0) (fun _ h9 => h9) rfl dX12_fillFew_5 ?_
      refine lv_iload_n hx hb dX12_fillFew_8 rfl (lv_at hl 1 rfl) ?_
      have h6168 : vp_in p0 4 := (vp_of (by omega) (by omega))
      refine va_iald hx hb hK hP 4 0 rfl rfl h6168 dX12_fillFew_9 ?_
      refine lv_topi (fun x6169 ex6169 => ?_)
      have ix6169 : x6169.toInt = (xF20 p0.toInt.toNat).toInt := by rw [ex6169]; rfl
      have tx6169 : (-1 : Int) ≤ x6169.toInt ∧ x6169.toInt ≤ 60 := by rw [ex6169]; exact p_8 _ (vp_nat h6168)
      refine lv_ishl hx hb dX12_fillFew_10 ?_
      refine lv_topi (fun x6170 ex6170 => ?_)
      have tx6170 := is_8 (b := x6169) (by omega) (by omega)
      rw [← ex6170] at tx6170
      refine lv_icmp_ge (tgt := 161) hx hb dX12_fillFew_11 (by decide) (fun c6171 => ?_) (fun c6171 => ?_)
      · rw [ki_le] at c6171
        have hP9 := hP.sub (ws' := [(a0, .inr (12, [.int i0, .ref a1, .ref a2, .ref a3, .ref a4, .int i1, .ref a5, .int i2, .int i3, .int i4, .int i5, .int i6, .int i7, .int i8, .ref a6, .ref a7, .ref a8, .ref a9, .ref a10, .ref a11, .ref a12, .int i9, .ref a13, .int i10, .ref a14, .ref a15, .int i11, .ref a16, .ref a17, .ref a18, .ref a19, .int i12, .int i13, .int i14, .int i15, .int i16, .ref a20, .long j0, .ref a21, .ref a22, .ref a23, .ref a24])), (a1, .inl (cI, 544, .inl xF0)), (a16, .inl (cI, 256, .inl g1_1)), (a17, .inl (cI, 256, .inl g2_1)), (a21, .inl (cI, 4, .inl xF20)), (a23, .inl (cJ, 240, .inr (.inl xG22)))]) [0, 1, 2, 3, 4, 5] rfl
        have hD9 := hD.sub (ws' := [(a0, .inr (12, [.int i0, .ref a1, .ref a2, .ref a3, .ref a4, .int i1, .ref a5, .int i2, .int i3, .int i4, .int i5, .int i6, .int i7, .int i8, .ref a6, .ref a7, .ref a8, .ref a9, .ref a10, .ref a11, .ref a12, .int i9, .ref a13, .int i10, .ref a14, .ref a15, .int i11, .ref a16, .ref a17, .ref a18, .ref a19, .int i12, .int i13, .int i14, .int i15, .int i16, .ref a20, .long j0, .ref a21, .ref a22, .ref a23, .ref a24])), (a1, .inl (cI, 544, .inl xF0)), (a16, .inl (cI, 256, .inl g1_1)), (a17, .inl (cI, 256, .inl g2_1)), (a21, .inl (cI, 4, .inl xF20)), (a23, .inl (cJ, 240, .inr (.inl xG22)))]) [0, 1, 2, 3, 4, 5] (by decide) rfl
        rw [hQ]
        exact W.vret hx hb hr (fun t ht hW => ⟨⟨(pickG 0 [], pickG (fun _ => 0) [g1_1, g2_1], pickG (fun _ => 0) []), rfl, ⟨(show FEW g2_1 (xF20 p0.toNatClampNeg) from by rw [← ex6169]; exact FEW_of hrl1_1 ex6170 (by omega)), trivial⟩, (by rw [ht]; exact hP9), hD9⟩, hS.F ht⟩) hS.2.2 dX12_fillFew_161
      · rw [ki_le] at c6171
        refine lv_aload_n hx hb dX12_fillFew_14 rfl (lv_at hl 0 rfl) ?_
        refine va_get (D := (dC, dI)) (ci := 12) (v := .ref a16) (C := RX12) (T := TX12) (N := 42) hx hb hwd inlX12 hown hK hP 0 rfl rfl 27 (by decide) (hwd _ kr7_19) (fun _ h9 => h9) rfl dX12_fillFew_15 ?_
        refine lv_iload_n hx hb dX12_fillFew_18 rfl (lv_at hl 2 rfl) ?_
        refine lv_iconst (v := 0) hx hb dX12_fillFew_19 (by decide) ?_
        refine va_iast hx hb hK hP hD hS 2 0 rfl rfl (vp_of (by omega) (by omega)) dX12_fillFew_20 (fun H locs hP hD hS => ?_)
        obtain ⟨f6172, ef6172⟩ : ∃ f, f = upd g1_1 w2_1.toNatClampNeg (0 : Int32) := ⟨_, rfl⟩
        have hP : va_P (dC, dI) vwCl [(a0, .inr (12, [.int i0, .ref a1, .ref a2, .ref a3, .ref a4, .int i1, .ref a5, .int i2, .int i3, .int i4, .int i5, .int i6, .int i7, .int i8, .ref a6, .ref a7, .ref a8, .ref a9, .ref a10, .ref a11, .ref a12, .int i9, .ref a13, .int i10, .ref a14, .ref a15, .int i11, .ref a16, .ref a17, .ref a18, .ref a19, .int i12, .int i13, .int i14, .int i15, .int i16, .ref a20, .long j0, .ref a21, .ref a22, .ref a23, .ref a24])), (a1, .inl (cI, 544, .inl xF0)), (a16, .inl (cI, 256, .inl f6172)), (a17, .inl (cI, 256, .inl g2_1)), (a21, .inl (cI, 4, .inl xF20)), (a23, .inl (cJ, 240, .inr (.inl xG22)))] H := by rw [ef6172]; exact hP
        have hD : va_D A [(a0, .inr (12, [.int i0, .ref a1, .ref a2, .ref a3, .ref a4, .int i1, .ref a5, .int i2, .int i3, .int i4, .int i5, .int i6, .int i7, .int i8, .ref a6, .ref a7, .ref a8, .ref a9, .ref a10, .ref a11, .ref a12, .int i9, .ref a13, .int i10, .ref a14, .ref a15, .int i11, .ref a16, .ref a17, .ref a18, .ref a19, .int i12, .int i13, .int i14, .int i15, .int i16, .ref a20, .long j0, .ref a21, .ref a22, .ref a23, .ref a24])), (a1, .inl (cI, 544, .inl xF0)), (a16, .inl (cI, 256, .inl f6172)), (a17, .inl (cI, 256, .inl g2_1)), (a21, .inl (cI, 4, .inl xF20)), (a23, .inl (cJ, 240, .inr (.inl xG22)))] := by rw [ef6172]; exact hD
        refine lv_iconst (v := 0) hx hb dX12_fillFew_21 (by decide) ?_
        refine lv_istore_n (lv' := [(3, .int 0), (0, .ref a0), (1, .int p0), (2, .int w2_1)]) hx hb dX12_fillFew_22 rfl hl (by decide) rfl (fun ls hl => ?_)
        have lp74 : ∀ (d : Nat), ∀ (H : Heap) (locs : List Loc) (ls : Array Slot) (w3_74 : Int32) (g1_74 : Nat → Int32), ((0 : Int) ≤ w3_74.toInt ∧ w3_74.toInt ≤ 8) → (SP (wat xF0 1) g1_74 w2_1.toInt) → (SB (wat xF0 1) g1_74 w2_1.toInt w3_74.toInt) → (8 - w3_74.toInt).toNat < d → va_P (dC, dI) vwCl [(a0, .inr (12, [.int i0, .ref a1, .ref a2, .ref a3, .ref a4, .int i1, .ref a5, .int i2, .int i3, .int i4, .int i5, .int i6, .int i7, .int i8, .ref a6, .ref a7, .ref a8, .ref a9, .ref a10, .ref a11, .ref a12, .int i9, .ref a13, .int i10, .ref a14, .ref a15, .int i11, .ref a16, .ref a17, .ref a18, .ref a19, .int i12, .int i13, .int i14, .int i15, .int i16, .ref a20, .long j0, .ref a21, .ref a22, .ref a23, .ref a24])), (a1, .inl (cI, 544, .inl xF0)), (a16, .inl (cI, 256, .inl g1_74)), (a17, .inl (cI, 256, .inl g2_1)), (a21, .inl (cI, 4, .inl xF20)), (a23, .inl (cJ, 240, .inr (.inl xG22)))] H → va_D A [(a0, .inr (12, [.int i0, .ref a1, .ref a2, .ref a3, .ref a4, .int i1, .ref a5, .int i2, .int i3, .int i4, .int i5, .int i6, .int i7, .int i8, .ref a6, .ref a7, .ref a8, .ref a9, .ref a10, .ref a11, .ref a12, .int i9, .ref a13, .int i10, .ref a14, .ref a15, .int i11, .ref a16, .ref a17, .ref a18, .ref a19, .int i12, .int i13, .int i14, .int i15, .int i16, .ref a20, .long j0, .ref a21, .ref a22, .ref a23, .ref a24])), (a1, .inl (cI, 544, .inl xF0)), (a16, .inl (cI, 256, .inl g1_74)), (a17, .inl (cI, 256, .inl g2_1)), (a21, .inl (cI, 4, .inl xF20)), (a23, .inl (cJ, 240, .inr (.inl xG22)))] → va_S A s.heap H locs → lv_has ls 4 [(0, .ref a0), (1, .int p0), (2, .int w2_1), (3, .int w3_74)] → W p l e ({ frames := 1, cells := 0, slots := 0, locals := 24 } : Room) s m ([.ref a0, .int p0] : List Value).toArray below meth c H locs 0 0 Q (F0 m 23 ls []) := by
          intro d
          induction d with
          | zero =>
            intro H locs ls w3_74 g1_74 hr_w3_74 hrl0_74 hrl1_74 hm hP hD hS hl
            omega
          | succ d ih74 =>
            intro H locs ls w3_74 g1_74 hr_w3_74 hrl0_74 hrl1_74 hm hP hD hS hl
            refine lv_iload_n hx hb dX12_fillFew_23 rfl (lv_at hl 3 rfl) ?_
            refine lv_aload_n hx hb dX12_fillFew_24 rfl (lv_at hl 0 rfl) ?_
            refine va_get (D := (dC, dI)) (ci := 12) (v := .ref a21) (C := RX12) (T := TX12) (N := 42) hx hb hwd inlX12 hown hK hP 0 rfl rfl 38 (by decide) (hwd _ kr8_0) (fun _ h9 => h9) rfl dX12_fillFew_25 ?_
            refine lv_iload_n hx hb dX12_fillFew_28 rfl (lv_at hl 1 rfl) ?_
            have h7035 : vp_in p0 4 := (vp_of (by omega) (by omega))
            refine va_iald hx hb hK hP 4 0 rfl rfl h7035 dX12_fillFew_29 ?_
            refine lv_topi (fun x7036 ex7036 => ?_)
            have ix7036 : x7036.toInt = (xF20 p0.toInt.toNat).toInt := by rw [ex7036]; rfl
            have tx7036 : (-1 : Int) ≤ x7036.toInt ∧ x7036.toInt ≤ 60 := by rw [ex7036]; exact p_8 _ (vp_nat h7035)
            refine lv_icmp_ge (tgt := 73) hx hb dX12_fillFew_30 (by decide) (fun c7037 => ?_) (fun c7037 => ?_)
            · rw [ki_le] at c7037
              have sp9 := SP_next (b := x6169) (s2 := w2_1.toInt + 1) hrl0_74 hrl1_74 (by omega) (by omega) (by omega) ex6170 (by omega) rfl
              refine lv_aload_n hx hb dX12_fillFew_73 rfl (lv_at hl 0 rfl) ?_
              refine va_get (D := (dC, dI)) (ci := 12) (v := .ref a17) (C := RX12) (T := TX12) (N := 42) hx hb hwd inlX12 hown hK hP 0 rfl rfl 28 (by decide) (hwd _ kr7_20) (fun _ h9 => h9) rfl dX12_fillFew_74 ?_
              refine lv_iload_n hx hb dX12_fillFew_77 rfl (lv_at hl 2 rfl) ?_
              refine lv_iload_n hx hb dX12_fillFew_78 rfl (lv_at hl 2 rfl) ?_
              refine lv_if_ne (tgt := 86) hx hb dX12_fillFew_79 (by decide) (fun c7038 => ?_) (fun c7038 => ?_)
              · rw [ki_eq] at c7038
                refine lv_bipush (v := 9) hx hb dX12_fillFew_86 (by decide) ?_
                refine va_iast hx hb hK hP hD hS 3 0 rfl rfl (vp_of (by omega) (by omega)) dX12_fillFew_88 (fun H locs hP hD hS => ?_)
                obtain ⟨f7039, ef7039⟩ : ∃ f, f = upd g2_1 w2_1.toNatClampNeg (9 : Int32) := ⟨_, rfl⟩
                have hP : va_P (dC, dI) vwCl [(a0, .inr (12, [.int i0, .ref a1, .ref a2, .ref a3, .ref a4, .int i1, .ref a5, .int i2, .int i3, .int i4, .int i5, .int i6, .int i7, .int i8, .ref a6, .ref a7, .ref a8, .ref a9, .ref a10, .ref a11, .ref a12, .int i9, .ref a13, .int i10, .ref a14, .ref a15, .int i11, .ref a16, .ref a17, .ref a18, .ref a19, .int i12, .int i13, .int i14, .int i15, .int i16, .ref a20, .long j0, .ref a21, .ref a22, .ref a23, .ref a24])), (a1, .inl (cI, 544, .inl xF0)), (a16, .inl (cI, 256, .inl g1_74)), (a17, .inl (cI, 256, .inl f7039)), (a21, .inl (cI, 4, .inl xF20)), (a23, .inl (cJ, 240, .inr (.inl xG22)))] H := by rw [ef7039]; exact hP
                have hD : va_D A [(a0, .inr (12, [.int i0, .ref a1, .ref a2, .ref a3, .ref a4, .int i1, .ref a5, .int i2, .int i3, .int i4, .int i5, .int i6, .int i7, .int i8, .ref a6, .ref a7, .ref a8, .ref a9, .ref a10, .ref a11, .ref a12, .int i9, .ref a13, .int i10, .ref a14, .ref a15, .int i11, .ref a16, .ref a17, .ref a18, .ref a19, .int i12, .int i13, .int i14, .int i15, .int i16, .ref a20, .long j0, .ref a21, .ref a22, .ref a23, .ref a24])), (a1, .inl (cI, 544, .inl xF0)), (a16, .inl (cI, 256, .inl g1_74)), (a17, .inl (cI, 256, .inl f7039)), (a21, .inl (cI, 4, .inl xF20)), (a23, .inl (cJ, 240, .inr (.inl xG22)))] := by rw [ef7039]; exact hD
                refine lv_iconst (v := 1) hx hb dX12_fillFew_89 (by decide) ?_
                refine lv_istore_n (lv' := [(3, .int 1), (0, .ref a0), (1, .int p0), (2, .int w2_1)]) hx hb dX12_fillFew_90 rfl hl (by decide) rfl (fun ls hl => ?_)
                have lp83 : ∀ (d : Nat), ∀ (H : Heap) (locs : List Loc) (ls : Array Slot) (w3_83 : Int32) (g1_83 : Nat → Int32), ((1 : Int) ≤ w3_83.toInt ∧ w3_83.toInt ≤ 256) → (FQ g1_83 w2_1.toInt) → (FC g1_83 w2_1.toInt w3_83.toInt) → (256 - w3_83.toInt).toNat < d → va_P (dC, dI) vwCl [(a0, .inr (12, [.int i0, .ref a1, .ref a2, .ref a3, .ref a4, .int i1, .ref a5, .int i2, .int i3, .int i4, .int i5, .int i6, .int i7, .int i8, .ref a6, .ref a7, .ref a8, .ref a9, .ref a10, .ref a11, .ref a12, .int i9, .ref a13, .int i10, .ref a14, .ref a15, .int i11, .ref a16, .ref a17, .ref a18, .ref a19, .int i12, .int i13, .int i14, .int i15, .int i16, .ref a20, .long j0, .ref a21, .ref a22, .ref a23, .ref a24])), (a1, .inl (cI, 544, .inl xF0)), (a16, .inl (cI, 256, .inl g1_74)), (a17, .inl (cI, 256, .inl g1_83)), (a21, .inl (cI, 4, .inl xF20)), (a23, .inl (cJ, 240, .inr (.inl xG22)))] H → va_D A [(a0, .inr (12, [.int i0, .ref a1, .ref a2, .ref a3, .ref a4, .int i1, .ref a5, .int i2, .int i3, .int i4, .int i5, .int i6, .int i7, .int i8, .ref a6, .ref a7, .ref a8, .ref a9, .ref a10, .ref a11, .ref a12, .int i9, .ref a13, .int i10, .ref a14, .ref a15, .int i11, .ref a16, .ref a17, .ref a18, .ref a19, .int i12, .int i13, .int i14, .int i15, .int i16, .ref a20, .long j0, .ref a21, .ref a22, .ref a23, .ref a24])), (a1, .inl (cI, 544, .inl xF0)), (a16, .inl (cI, 256, .inl g1_74)), (a17, .inl (cI, 256, .inl g1_83)), (a21, .inl (cI, 4, .inl xF20)), (a23, .inl (cJ, 240, .inr (.inl xG22)))] → va_S A s.heap H locs → lv_has ls 4 [(0, .ref a0), (1, .int p0), (2, .int w2_1), (3, .int w3_83)] → W p l e ({ frames := 1, cells := 0, slots := 0, locals := 24 } : Room) s m ([.ref a0, .int p0] : List Value).toArray below meth c H locs 0 0 Q (F0 m 91 ls []) := by
                  intro d
                  induction d with
                  | zero =>
                    intro H locs ls w3_83 g1_83 hr_w3_83 hrl0_83 hrl1_83 hm hP hD hS hl
                    omega
                  | succ d ih83 =>
                    intro H locs ls w3_83 g1_83 hr_w3_83 hrl0_83 hrl1_83 hm hP hD hS hl
                    refine lv_iload_n hx hb dX12_fillFew_91 rfl (lv_at hl 3 rfl) ?_
                    refine lv_iload_n hx hb dX12_fillFew_92 rfl (lv_at hl 2 rfl) ?_
                    refine lv_icmp_gt (tgt := 155) hx hb dX12_fillFew_93 (by decide) (fun c7196 => ?_) (fun c7196 => ?_)
                    · rw [ki_lt] at c7196
                      obtain ⟨x7197, ex7197⟩ : ∃ y : Int32, y = w2_1 + 1 := ⟨_, rfl⟩
                      refine lv_iinc (v := x7197) (lv' := [(2, .int x7197), (0, .ref a0), (1, .int p0), (3, .int w3_83)]) hx hb dX12_fillFew_155 hl (k := 2) rfl (by rw [ex7197]; rfl) (by decide) rfl (fun ls hl => ?_)
                      have tx7197 := ia_add (a := w2_1) (b := (1 : Int32)) (by omega) (by omega)
                      rw [← ex7197] at tx7197
                      refine lv_goto (tgt := 2) hx hb dX12_fillFew_158 (by decide) ?_
                      exact ih1 _ _ ls x7197 g1_74 g1_83 (show (0 : Int) ≤ x7197.toInt ∧ x7197.toInt ≤ 256 from ⟨by omega, by omega⟩) (show SP (wat xF0 1) g1_74 x7197.toInt from by rw [show x7197.toInt = w2_1.toInt + 1 by omega]; exact sp9) (show FQ g1_83 x7197.toInt from FQ_next hrl0_83 hrl1_83 (by omega) (by omega) (by omega) (by omega)) (by omega) (hP.sub (ws' := [(a0, .inr (12, [.int i0, .ref a1, .ref a2, .ref a3, .ref a4, .int i1, .ref a5, .int i2, .int i3, .int i4, .int i5, .int i6, .int i7, .int i8, .ref a6, .ref a7, .ref a8, .ref a9, .ref a10, .ref a11, .ref a12, .int i9, .ref a13, .int i10, .ref a14, .ref a15, .int i11, .ref a16, .ref a17, .ref a18, .ref a19, .int i12, .int i13, .int i14, .int i15, .int i16, .ref a20, .long j0, .ref a21, .ref a22, .ref a23, .ref a24])), (a1, .inl (cI, 544, .inl xF0)), (a16, .inl (cI, 256, .inl g1_74)), (a17, .inl (cI, 256, .inl g1_83)), (a21, .inl (cI, 4, .inl xF20)), (a23, .inl (cJ, 240, .inr (.inl xG22)))]) [0, 1, 2, 3, 4, 5] rfl) (hD.sub (ws' := [(a0, .inr (12, [.int i0, .ref a1, .ref a2, .ref a3, .ref a4, .int i1, .ref a5, .int i2, .int i3, .int i4, .int i5, .int i6, .int i7, .int i8, .ref a6, .ref a7, .ref a8, .ref a9, .ref a10, .ref a11, .ref a12, .int i9, .ref a13, .int i10, .ref a14, .ref a15, .int i11, .ref a16, .ref a17, .ref a18, .ref a19, .int i12, .int i13, .int i14, .int i15, .int i16, .ref a20, .long j0, .ref a21, .ref a22, .ref a23, .ref a24])), (a1, .inl (cI, 544, .inl xF0)), (a16, .inl (cI, 256, .inl g1_74)), (a17, .inl (cI, 256, .inl g1_83)), (a21, .inl (cI, 4, .inl xF20)), (a23, .inl (cJ, 240, .inr (.inl xG22)))]) [0, 1, 2, 3, 4, 5] (by decide) rfl) hS (lv_sub hl [1, 2, 0] rfl)
                    · rw [ki_lt] at c7196
                      refine lv_iload_n hx hb dX12_fillFew_96 rfl (lv_at hl 3 rfl) ?_
                      refine lv_iload_n hx hb dX12_fillFew_97 rfl (lv_at hl 2 rfl) ?_
                      refine lv_iconst (v := (-1)) hx hb dX12_fillFew_98 (by decide) ?_
                      refine lv_ixor hx hb dX12_fillFew_99 ?_
                      refine lv_topi (fun x7198 ex7198 => ?_)
                      refine lv_iand hx hb dX12_fillFew_100 ?_
                      refine lv_topi (fun x7199 ex7199 => ?_)
                      have tx7199 := ia_andl (a := w3_83) (m := x7198) (by omega)
                      rw [← ex7199] at tx7199
                      refine lv_if_ne (tgt := 149) hx hb dX12_fillFew_101 (by decide) (fun c7200 => ?_) (fun c7200 => ?_)
                      · rw [ki_eq] at c7200
                        obtain ⟨x7201, ex7201⟩ : ∃ y : Int32, y = w3_83 + 1 := ⟨_, rfl⟩
                        refine lv_iinc (v := x7201) (lv' := [(3, .int x7201), (0, .ref a0), (1, .int p0), (2, .int w2_1)]) hx hb dX12_fillFew_149 hl (k := 3) rfl (by rw [ex7201]; rfl) (by decide) rfl (fun ls hl => ?_)
                        have tx7201 := ia_add (a := w3_83) (b := (1 : Int32)) (by omega) (by omega)
                        rw [← ex7201] at tx7201
                        refine lv_goto (tgt := 91) hx hb dX12_fillFew_152 (by decide) ?_
                        exact ih83 _ _ ls x7201 g1_83 (show (1 : Int) ≤ x7201.toInt ∧ x7201.toInt ≤ 256 from ⟨by omega, by omega⟩) (show FQ g1_83 w2_1.toInt from hrl0_83) (show FC g1_83 w2_1.toInt x7201.toInt from FC_skip1 hrl1_83 rfl (by omega) (by omega) rfl ex7198 ex7199 (by omega) (by omega)) (by omega) (hP.sub (ws' := [(a0, .inr (12, [.int i0, .ref a1, .ref a2, .ref a3, .ref a4, .int i1, .ref a5, .int i2, .int i3, .int i4, .int i5, .int i6, .int i7, .int i8, .ref a6, .ref a7, .ref a8, .ref a9, .ref a10, .ref a11, .ref a12, .int i9, .ref a13, .int i10, .ref a14, .ref a15, .int i11, .ref a16, .ref a17, .ref a18, .ref a19, .int i12, .int i13, .int i14, .int i15, .int i16, .ref a20, .long j0, .ref a21, .ref a22, .ref a23, .ref a24])), (a1, .inl (cI, 544, .inl xF0)), (a16, .inl (cI, 256, .inl g1_74)), (a17, .inl (cI, 256, .inl g1_83)), (a21, .inl (cI, 4, .inl xF20)), (a23, .inl (cJ, 240, .inr (.inl xG22)))]) [0, 1, 2, 3, 4, 5] rfl) (hD.sub (ws' := [(a0, .inr (12, [.int i0, .ref a1, .ref a2, .ref a3, .ref a4, .int i1, .ref a5, .int i2, .int i3, .int i4, .int i5, .int i6, .int i7, .int i8, .ref a6, .ref a7, .ref a8, .ref a9, .ref a10, .ref a11, .ref a12, .int i9, .ref a13, .int i10, .ref a14, .ref a15, .int i11, .ref a16, .ref a17, .ref a18, .ref a19, .int i12, .int i13, .int i14, .int i15, .int i16, .ref a20, .long j0, .ref a21, .ref a22, .ref a23, .ref a24])), (a1, .inl (cI, 544, .inl xF0)), (a16, .inl (cI, 256, .inl g1_74)), (a17, .inl (cI, 256, .inl g1_83)), (a21, .inl (cI, 4, .inl xF20)), (a23, .inl (cJ, 240, .inr (.inl xG22)))]) [0, 1, 2, 3, 4, 5] (by decide) rfl) hS (lv_sub hl [1, 2, 3, 0] rfl)
                      · rw [ki_eq] at c7200
                        refine lv_aload_n hx hb dX12_fillFew_104 rfl (lv_at hl 0 rfl) ?_
                        refine va_get (D := (dC, dI)) (ci := 12) (v := .ref a16) (C := RX12) (T := TX12) (N := 42) hx hb hwd inlX12 hown hK hP 0 rfl rfl 27 (by decide) (hwd _ kr7_19) (fun _ h9 => h9) rfl dX12_fillFew_105 ?_
                        refine lv_iload_n hx hb dX12_fillFew_108 rfl (lv_at hl 3 rfl) ?_
                        have h7202 : vp_in w3_83 256 := (vp_of (by omega) (by omega))
                        refine va_iald hx hb hK hP 2 0 rfl rfl h7202 dX12_fillFew_109 ?_
                        refine lv_topi (fun x7203 ex7203 => ?_)
                        refine lv_aload_n hx hb dX12_fillFew_110 rfl (lv_at hl 0 rfl) ?_
                        refine va_get (D := (dC, dI)) (ci := 12) (v := .ref a1) (C := RX12) (T := TX12) (N := 42) hx hb hwd inlX12 hown hK hP 0 rfl rfl 1 (by decide) (hwd _ kr7_3) (fun _ h9 => h9) rfl dX12_fillFew_111 ?_
                        refine lv_iconst (v := 1) hx hb dX12_fillFew_114 (by decide) ?_
                        have h7204 : vp_in (1 : Int32) 544 := (vin (by decide))
                        refine va_iald hx hb hK hP 1 0 rfl rfl h7204 dX12_fillFew_115 ?_
                        refine lv_topi (fun x7205 ex7205 => ?_)
                        have ix7205 := wat_lit (k := 1) ex7205 (by decide)
                        have wh7206 : whd cp xF0 := p_7.1
                        unfold whd at wh7206
                        refine lv_icmp_le (tgt := 122) hx hb dX12_fillFew_116 (by decide) (fun c7207 => ?_) (fun c7207 => ?_)
                        · rw [ki_le] at c7207
                          refine lv_aload_n hx hb dX12_fillFew_122 rfl (lv_at hl 0 rfl) ?_
                          refine va_get (D := (dC, dI)) (ci := 12) (v := .ref a17) (C := RX12) (T := TX12) (N := 42) hx hb hwd inlX12 hown hK hP 0 rfl rfl 28 (by decide) (hwd _ kr7_20) (fun _ h9 => h9) rfl dX12_fillFew_123 ?_
                          refine lv_iload_n hx hb dX12_fillFew_126 rfl (lv_at hl 2 rfl) ?_
                          refine lv_aload_n hx hb dX12_fillFew_127 rfl (lv_at hl 0 rfl) ?_
                          refine va_get (D := (dC, dI)) (ci := 12) (v := .ref a17) (C := RX12) (T := TX12) (N := 42) hx hb hwd inlX12 hown hK hP 0 rfl rfl 28 (by decide) (hwd _ kr7_20) (fun _ h9 => h9) rfl dX12_fillFew_128 ?_
                          refine lv_iload_n hx hb dX12_fillFew_131 rfl (lv_at hl 2 rfl) ?_
                          have h7208 : vp_in w2_1 256 := (vp_of (by omega) (by omega))
                          refine va_iald hx hb hK hP 3 0 rfl rfl h7208 dX12_fillFew_132 ?_
                          refine lv_topi (fun x7209 ex7209 => ?_)
                          have qx7209 := FC_s hrl1_83 rfl ex7209
                          refine lv_iconst (v := 1) hx hb dX12_fillFew_133 (by decide) ?_
                          refine lv_aload_n hx hb dX12_fillFew_134 rfl (lv_at hl 0 rfl) ?_
                          refine va_get (D := (dC, dI)) (ci := 12) (v := .ref a17) (C := RX12) (T := TX12) (N := 42) hx hb hwd inlX12 hown hK hP 0 rfl rfl 28 (by decide) (hwd _ kr7_20) (fun _ h9 => h9) rfl dX12_fillFew_135 ?_
                          refine lv_iload_n hx hb dX12_fillFew_138 rfl (lv_at hl 2 rfl) ?_
                          refine lv_iload_n hx hb dX12_fillFew_139 rfl (lv_at hl 3 rfl) ?_
                          refine lv_iconst (v := (-1)) hx hb dX12_fillFew_140 (by decide) ?_
                          refine lv_ixor hx hb dX12_fillFew_141 ?_
                          refine lv_topi (fun x7210 ex7210 => ?_)
                          refine lv_iand hx hb dX12_fillFew_142 ?_
                          refine lv_topi (fun x7211 ex7211 => ?_)
                          have tx7211 := ia_andl (a := w2_1) (m := x7210) (by omega)
                          rw [← ex7211] at tx7211
                          have h7212 : vp_in x7211 256 := (vp_of (by omega) (by omega))
                          refine va_iald hx hb hK hP 3 0 rfl rfl h7212 dX12_fillFew_143 ?_
                          refine lv_topi (fun x7213 ex7213 => ?_)
                          have qx7213 := few_q hrl0_83 hrl1_83 (by omega) (by omega) ex7213
                          refine lv_iadd hx hb dX12_fillFew_144 ?_
                          refine lv_topi (fun x7214 ex7214 => ?_)
                          have tx7214 := ia_add (a := (1 : Int32)) (b := x7213) (by omega) (by omega)
                          rw [← ex7214] at tx7214
                          refine va_mmin hx hb (by rw [hml]; exact hl.1.symm) hown (hwd _ kr23_18) (hwd _ kr22_5) (hwd _ kr19_4) (hwd _ kr22_6) (Nat.le_of_ble_eq_true rfl) (Nat.le_of_ble_eq_true rfl) (Nat.le_of_ble_eq_true rfl) (Nat.le_of_ble_eq_true rfl) dX12_fillFew_145 ?_
                          refine lv_topi (fun x7215 ex7215 => ?_)
                          have tx7215 := mx_min x7209 x7214
                          rw [← ex7215] at tx7215
                          refine va_iast hx hb hK hP hD hS 3 0 rfl rfl (vp_of (by omega) (by omega)) dX12_fillFew_148 (fun H locs hP hD hS => ?_)
                          obtain ⟨f7216, ef7216⟩ : ∃ f, f = upd g1_83 w2_1.toNatClampNeg x7215 := ⟨_, rfl⟩
                          have hP : va_P (dC, dI) vwCl [(a0, .inr (12, [.int i0, .ref a1, .ref a2, .ref a3, .ref a4, .int i1, .ref a5, .int i2, .int i3, .int i4, .int i5, .int i6, .int i7, .int i8, .ref a6, .ref a7, .ref a8, .ref a9, .ref a10, .ref a11, .ref a12, .int i9, .ref a13, .int i10, .ref a14, .ref a15, .int i11, .ref a16, .ref a17, .ref a18, .ref a19, .int i12, .int i13, .int i14, .int i15, .int i16, .ref a20, .long j0, .ref a21, .ref a22, .ref a23, .ref a24])), (a1, .inl (cI, 544, .inl xF0)), (a16, .inl (cI, 256, .inl g1_74)), (a17, .inl (cI, 256, .inl f7216)), (a21, .inl (cI, 4, .inl xF20)), (a23, .inl (cJ, 240, .inr (.inl xG22)))] H := by rw [ef7216]; exact hP
                          have hD : va_D A [(a0, .inr (12, [.int i0, .ref a1, .ref a2, .ref a3, .ref a4, .int i1, .ref a5, .int i2, .int i3, .int i4, .int i5, .int i6, .int i7, .int i8, .ref a6, .ref a7, .ref a8, .ref a9, .ref a10, .ref a11, .ref a12, .int i9, .ref a13, .int i10, .ref a14, .ref a15, .int i11, .ref a16, .ref a17, .ref a18, .ref a19, .int i12, .int i13, .int i14, .int i15, .int i16, .ref a20, .long j0, .ref a21, .ref a22, .ref a23, .ref a24])), (a1, .inl (cI, 544, .inl xF0)), (a16, .inl (cI, 256, .inl g1_74)), (a17, .inl (cI, 256, .inl f7216)), (a21, .inl (cI, 4, .inl xF20)), (a23, .inl (cJ, 240, .inr (.inl xG22)))] := by rw [ef7216]; exact hD
                          obtain ⟨x7217, ex7217⟩ : ∃ y : Int32, y = w3_83 + 1 := ⟨_, rfl⟩
                          refine lv_iinc (v := x7217) (lv' := [(3, .int x7217), (0, .ref a0), (1, .int p0), (2, .int w2_1)]) hx hb dX12_fillFew_149 hl (k := 3) rfl (by rw [ex7217]; rfl) (by decide) rfl (fun ls hl => ?_)
                          have tx7217 := ia_add (a := w3_83) (b := (1 : Int32)) (by omega) (by omega)
                          rw [← ex7217] at tx7217
                          refine lv_goto (tgt := 91) hx hb dX12_fillFew_152 (by decide) ?_
                          exact ih83 _ _ ls x7217 f7216 (show (1 : Int) ≤ x7217.toInt ∧ x7217.toInt ≤ 256 from ⟨by omega, by omega⟩) (show FQ f7216 w2_1.toInt from by rw [ef7216]; exact FQ_upd hrl0_83 rfl) (show FC f7216 w2_1.toInt x7217.toInt from by rw [ef7216]; exact FC_set hrl0_83 hrl1_83 rfl (by omega) (by omega) rfl ex7210 ex7211 qx7209.1 ex7213 (by omega) (by omega) (by omega) (by omega) (by omega)) (by omega) (hP.sub (ws' := [(a0, .inr (12, [.int i0, .ref a1, .ref a2, .ref a3, .ref a4, .int i1, .ref a5, .int i2, .int i3, .int i4, .int i5, .int i6, .int i7, .int i8, .ref a6, .ref a7, .ref a8, .ref a9, .ref a10, .ref a11, .ref a12, .int i9, .ref a13, .int i10, .ref a14, .ref a15, .int i11, .ref a16, .ref a17, .ref a18, .ref a19, .int i12, .int i13, .int i14, .int i15, .int i16, .ref a20, .long j0, .ref a21, .ref a22, .ref a23, .ref a24])), (a1, .inl (cI, 544, .inl xF0)), (a16, .inl (cI, 256, .inl g1_74)), (a17, .inl (cI, 256, .inl f7216)), (a21, .inl (cI, 4, .inl xF20)), (a23, .inl (cJ, 240, .inr (.inl xG22)))]) [0, 1, 2, 3, 4, 5] rfl) (hD.sub (ws' := [(a0, .inr (12, [.int i0, .ref a1, .ref a2, .ref a3, .ref a4, .int i1, .ref a5, .int i2, .int i3, .int i4, .int i5, .int i6, .int i7, .int i8, .ref a6, .ref a7, .ref a8, .ref a9, .ref a10, .ref a11, .ref a12, .int i9, .ref a13, .int i10, .ref a14, .ref a15, .int i11, .ref a16, .ref a17, .ref a18, .ref a19, .int i12, .int i13, .int i14, .int i15, .int i16, .ref a20, .long j0, .ref a21, .ref a22, .ref a23, .ref a24])), (a1, .inl (cI, 544, .inl xF0)), (a16, .inl (cI, 256, .inl g1_74)), (a17, .inl (cI, 256, .inl f7216)), (a21, .inl (cI, 4, .inl xF20)), (a23, .inl (cJ, 240, .inr (.inl xG22)))]) [0, 1, 2, 3, 4, 5] (by decide) rfl) hS (lv_sub hl [1, 2, 3, 0] rfl)
                        · rw [ki_le] at c7207
                          refine lv_goto (tgt := 149) hx hb dX12_fillFew_119 (by decide) ?_
                          obtain ⟨x7218, ex7218⟩ : ∃ y : Int32, y = w3_83 + 1 := ⟨_, rfl⟩
                          refine lv_iinc (v := x7218) (lv' := [(3, .int x7218), (0, .ref a0), (1, .int p0), (2, .int w2_1)]) hx hb dX12_fillFew_149 hl (k := 3) rfl (by rw [ex7218]; rfl) (by decide) rfl (fun ls hl => ?_)
                          have tx7218 := ia_add (a := w3_83) (b := (1 : Int32)) (by omega) (by omega)
                          rw [← ex7218] at tx7218
                          refine lv_goto (tgt := 91) hx hb dX12_fillFew_152 (by decide) ?_
                          exact ih83 _ _ ls x7218 g1_83 (show (1 : Int) ≤ x7218.toInt ∧ x7218.toInt ≤ 256 from ⟨by omega, by omega⟩) (show FQ g1_83 w2_1.toInt from hrl0_83) (show FC g1_83 w2_1.toInt x7218.toInt from FC_skip2 hrl1_83 (by omega) (by omega) rfl sp9 ex7203 (by omega) (by omega)) (by omega) (hP.sub (ws' := [(a0, .inr (12, [.int i0, .ref a1, .ref a2, .ref a3, .ref a4, .int i1, .ref a5, .int i2, .int i3, .int i4, .int i5, .int i6, .int i7, .int i8, .ref a6, .ref a7, .ref a8, .ref a9, .ref a10, .ref a11, .ref a12, .int i9, .ref a13, .int i10, .ref a14, .ref a15, .int i11, .ref a16, .ref a17, .ref a18, .ref a19, .int i12, .int i13, .int i14, .int i15, .int i16, .ref a20, .long j0, .ref a21, .ref a22, .ref a23, .ref a24])), (a1, .inl (cI, 544, .inl xF0)), (a16, .inl (cI, 256, .inl g1_74)), (a17, .inl (cI, 256, .inl g1_83)), (a21, .inl (cI, 4, .inl xF20)), (a23, .inl (cJ, 240, .inr (.inl xG22)))]) [0, 1, 2, 3, 4, 5] rfl) (hD.sub (ws' := [(a0, .inr (12, [.int i0, .ref a1, .ref a2, .ref a3, .ref a4, .int i1, .ref a5, .int i2, .int i3, .int i4, .int i5, .int i6, .int i7, .int i8, .ref a6, .ref a7, .ref a8, .ref a9, .ref a10, .ref a11, .ref a12, .int i9, .ref a13, .int i10, .ref a14, .ref a15, .int i11, .ref a16, .ref a17, .ref a18, .ref a19, .int i12, .int i13, .int i14, .int i15, .int i16, .ref a20, .long j0, .ref a21, .ref a22, .ref a23, .ref a24])), (a1, .inl (cI, 544, .inl xF0)), (a16, .inl (cI, 256, .inl g1_74)), (a17, .inl (cI, 256, .inl g1_83)), (a21, .inl (cI, 4, .inl xF20)), (a23, .inl (cJ, 240, .inr (.inl xG22)))]) [0, 1, 2, 3, 4, 5] (by decide) rfl) hS (lv_sub hl [1, 2, 3, 0] rfl)
                exact lp83 _ _ _ ls (1) f7039 (show (1 : Int) ≤ (1 : Int32).toInt ∧ (1 : Int32).toInt ≤ 256 from ⟨by omega, by omega⟩) (show FQ f7039 w2_1.toInt from by rw [ef7039]; exact FQ_upd hrl1_1 rfl) (show FC f7039 w2_1.toInt (1 : Int32).toInt from by rw [ef7039]; exact FC_init rfl (by omega) (by omega) (by decide) (by omega)) (Nat.lt_succ_self _) (hP.sub (ws' := [(a0, .inr (12, [.int i0, .ref a1, .ref a2, .ref a3, .ref a4, .int i1, .ref a5, .int i2, .int i3, .int i4, .int i5, .int i6, .int i7, .int i8, .ref a6, .ref a7, .ref a8, .ref a9, .ref a10, .ref a11, .ref a12, .int i9, .ref a13, .int i10, .ref a14, .ref a15, .int i11, .ref a16, .ref a17, .ref a18, .ref a19, .int i12, .int i13, .int i14, .int i15, .int i16, .ref a20, .long j0, .ref a21, .ref a22, .ref a23, .ref a24])), (a1, .inl (cI, 544, .inl xF0)), (a16, .inl (cI, 256, .inl g1_74)), (a17, .inl (cI, 256, .inl f7039)), (a21, .inl (cI, 4, .inl xF20)), (a23, .inl (cJ, 240, .inr (.inl xG22)))]) [0, 1, 2, 3, 4, 5] rfl) (hD.sub (ws' := [(a0, .inr (12, [.int i0, .ref a1, .ref a2, .ref a3, .ref a4, .int i1, .ref a5, .int i2, .int i3, .int i4, .int i5, .int i6, .int i7, .int i8, .ref a6, .ref a7, .ref a8, .ref a9, .ref a10, .ref a11, .ref a12, .int i9, .ref a13, .int i10, .ref a14, .ref a15, .int i11, .ref a16, .ref a17, .ref a18, .ref a19, .int i12, .int i13, .int i14, .int i15, .int i16, .ref a20, .long j0, .ref a21, .ref a22, .ref a23, .ref a24])), (a1, .inl (cI, 544, .inl xF0)), (a16, .inl (cI, 256, .inl g1_74)), (a17, .inl (cI, 256, .inl f7039)), (a21, .inl (cI, 4, .inl xF20)), (a23, .inl (cJ, 240, .inr (.inl xG22)))]) [0, 1, 2, 3, 4, 5] (by decide) rfl) hS (lv_sub hl [1, 2, 3, 0] rfl)
              · rw [ki_eq] at c7038
                refine lv_iconst (v := 0) hx hb dX12_fillFew_82 (by decide) ?_
                refine lv_goto (tgt := 88) hx hb dX12_fillFew_83 (by decide) ?_
                refine va_iast hx hb hK hP hD hS 3 0 rfl rfl (vp_of (by omega) (by omega)) dX12_fillFew_88 (fun H locs hP hD hS => ?_)
                obtain ⟨f7219, ef7219⟩ : ∃ f, f = upd g2_1 w2_1.toNatClampNeg (0 : Int32) := ⟨_, rfl⟩
                have hP : va_P (dC, dI) vwCl [(a0, .inr (12, [.int i0, .ref a1, .ref a2, .ref a3, .ref a4, .int i1, .ref a5, .int i2, .int i3, .int i4, .int i5, .int i6, .int i7, .int i8, .ref a6, .ref a7, .ref a8, .ref a9, .ref a10, .ref a11, .ref a12, .int i9, .ref a13, .int i10, .ref a14, .ref a15, .int i11, .ref a16, .ref a17, .ref a18, .ref a19, .int i12, .int i13, .int i14, .int i15, .int i16, .ref a20, .long j0, .ref a21, .ref a22, .ref a23, .ref a24])), (a1, .inl (cI, 544, .inl xF0)), (a16, .inl (cI, 256, .inl g1_74)), (a17, .inl (cI, 256, .inl f7219)), (a21, .inl (cI, 4, .inl xF20)), (a23, .inl (cJ, 240, .inr (.inl xG22)))] H := by rw [ef7219]; exact hP
                have hD : va_D A [(a0, .inr (12, [.int i0, .ref a1, .ref a2, .ref a3, .ref a4, .int i1, .ref a5, .int i2, .int i3, .int i4, .int i5, .int i6, .int i7, .int i8, .ref a6, .ref a7, .ref a8, .ref a9, .ref a10, .ref a11, .ref a12, .int i9, .ref a13, .int i10, .ref a14, .ref a15, .int i11, .ref a16, .ref a17, .ref a18, .ref a19, .int i12, .int i13, .int i14, .int i15, .int i16, .ref a20, .long j0, .ref a21, .ref a22, .ref a23, .ref a24])), (a1, .inl (cI, 544, .inl xF0)), (a16, .inl (cI, 256, .inl g1_74)), (a17, .inl (cI, 256, .inl f7219)), (a21, .inl (cI, 4, .inl xF20)), (a23, .inl (cJ, 240, .inr (.inl xG22)))] := by rw [ef7219]; exact hD
                refine lv_iconst (v := 1) hx hb dX12_fillFew_89 (by decide) ?_
                refine lv_istore_n (lv' := [(3, .int 1), (0, .ref a0), (1, .int p0), (2, .int w2_1)]) hx hb dX12_fillFew_90 rfl hl (by decide) rfl (fun ls hl => ?_)
                have jp84 : ∀ (H : Heap) (locs : List Loc) (ls : Array Slot), (FQ f7219 w2_1.toInt) → (FC f7219 w2_1.toInt (1 : Int32).toInt) → va_P (dC, dI) vwCl [(a0, .inr (12, [.int i0, .ref a1, .ref a2, .ref a3, .ref a4, .int i1, .ref a5, .int i2, .int i3, .int i4, .int i5, .int i6, .int i7, .int i8, .ref a6, .ref a7, .ref a8, .ref a9, .ref a10, .ref a11, .ref a12, .int i9, .ref a13, .int i10, .ref a14, .ref a15, .int i11, .ref a16, .ref a17, .ref a18, .ref a19, .int i12, .int i13, .int i14, .int i15, .int i16, .ref a20, .long j0, .ref a21, .ref a22, .ref a23, .ref a24])), (a1, .inl (cI, 544, .inl xF0)), (a16, .inl (cI, 256, .inl g1_74)), (a17, .inl (cI, 256, .inl f7219)), (a21, .inl (cI, 4, .inl xF20)), (a23, .inl (cJ, 240, .inr (.inl xG22)))] H → va_D A [(a0, .inr (12, [.int i0, .ref a1, .ref a2, .ref a3, .ref a4, .int i1, .ref a5, .int i2, .int i3, .int i4, .int i5, .int i6, .int i7, .int i8, .ref a6, .ref a7, .ref a8, .ref a9, .ref a10, .ref a11, .ref a12, .int i9, .ref a13, .int i10, .ref a14, .ref a15, .int i11, .ref a16, .ref a17, .ref a18, .ref a19, .int i12, .int i13, .int i14, .int i15, .int i16, .ref a20, .long j0, .ref a21, .ref a22, .ref a23, .ref a24])), (a1, .inl (cI, 544, .inl xF0)), (a16, .inl (cI, 256, .inl g1_74)), (a17, .inl (cI, 256, .inl f7219)), (a21, .inl (cI, 4, .inl xF20)), (a23, .inl (cJ, 240, .inr (.inl xG22)))] → va_S A s.heap H locs → lv_has ls 4 [(0, .ref a0), (1, .int p0), (2, .int w2_1), (3, .int 1)] → W p l e ({ frames := 1, cells := 0, slots := 0, locals := 24 } : Room) s m ([.ref a0, .int p0] : List Value).toArray below meth c H locs 0 0 Q (F0 m 91 ls []) := by
                  intro H locs ls hrl0_84 hrl1_84 hP hD hS hl
                  refine lv_iload_n hx hb dX12_fillFew_91 rfl (lv_at hl 3 rfl) ?_
                  refine lv_iload_n hx hb dX12_fillFew_92 rfl (lv_at hl 2 rfl) ?_
                  refine lv_icmp_gt (tgt := 155) hx hb dX12_fillFew_93 (by decide) (fun c7226 => ?_) (fun c7226 => ?_)
                  · rw [ki_lt] at c7226
                    obtain ⟨x7227, ex7227⟩ : ∃ y : Int32, y = w2_1 + 1 := ⟨_, rfl⟩
                    refine lv_iinc (v := x7227) (lv' := [(2, .int x7227), (0, .ref a0), (1, .int p0), (3, .int 1)]) hx hb dX12_fillFew_155 hl (k := 2) rfl (by rw [ex7227]; rfl) (by decide) rfl (fun ls hl => ?_)
                    have tx7227 := ia_add (a := w2_1) (b := (1 : Int32)) (by omega) (by omega)
                    rw [← ex7227] at tx7227
                    refine lv_goto (tgt := 2) hx hb dX12_fillFew_158 (by decide) ?_
                    exact ih1 _ _ ls x7227 g1_74 f7219 (show (0 : Int) ≤ x7227.toInt ∧ x7227.toInt ≤ 256 from ⟨by omega, by omega⟩) (show SP (wat xF0 1) g1_74 x7227.toInt from by rw [show x7227.toInt = w2_1.toInt + 1 by omega]; exact sp9) (show FQ f7219 x7227.toInt from FQ_next hrl0_84 hrl1_84 (by omega) (by omega) (by omega) (by omega)) (by omega) (hP.sub (ws' := [(a0, .inr (12, [.int i0, .ref a1, .ref a2, .ref a3, .ref a4, .int i1, .ref a5, .int i2, .int i3, .int i4, .int i5, .int i6, .int i7, .int i8, .ref a6, .ref a7, .ref a8, .ref a9, .ref a10, .ref a11, .ref a12, .int i9, .ref a13, .int i10, .ref a14, .ref a15, .int i11, .ref a16, .ref a17, .ref a18, .ref a19, .int i12, .int i13, .int i14, .int i15, .int i16, .ref a20, .long j0, .ref a21, .ref a22, .ref a23, .ref a24])), (a1, .inl (cI, 544, .inl xF0)), (a16, .inl (cI, 256, .inl g1_74)), (a17, .inl (cI, 256, .inl f7219)), (a21, .inl (cI, 4, .inl xF20)), (a23, .inl (cJ, 240, .inr (.inl xG22)))]) [0, 1, 2, 3, 4, 5] rfl) (hD.sub (ws' := [(a0, .inr (12, [.int i0, .ref a1, .ref a2, .ref a3, .ref a4, .int i1, .ref a5, .int i2, .int i3, .int i4, .int i5, .int i6, .int i7, .int i8, .ref a6, .ref a7, .ref a8, .ref a9, .ref a10, .ref a11, .ref a12, .int i9, .ref a13, .int i10, .ref a14, .ref a15, .int i11, .ref a16, .ref a17, .ref a18, .ref a19, .int i12, .int i13, .int i14, .int i15, .int i16, .ref a20, .long j0, .ref a21, .ref a22, .ref a23, .ref a24])), (a1, .inl (cI, 544, .inl xF0)), (a16, .inl (cI, 256, .inl g1_74)), (a17, .inl (cI, 256, .inl f7219)), (a21, .inl (cI, 4, .inl xF20)), (a23, .inl (cJ, 240, .inr (.inl xG22)))]) [0, 1, 2, 3, 4, 5] (by decide) rfl) hS (lv_sub hl [1, 2, 0] rfl)
                  · rw [ki_lt] at c7226
                    exfalso
                    omega
                exact jp84 _ _ ls (show FQ f7219 w2_1.toInt from by rw [ef7219]; exact FQ_upd hrl1_1 rfl) (show FC f7219 w2_1.toInt (1 : Int32).toInt from by rw [ef7219]; exact FC_init rfl (by omega) (by omega) (by decide) (by omega)) (hP.sub (ws' := [(a0, .inr (12, [.int i0, .ref a1, .ref a2, .ref a3, .ref a4, .int i1, .ref a5, .int i2, .int i3, .int i4, .int i5, .int i6, .int i7, .int i8, .ref a6, .ref a7, .ref a8, .ref a9, .ref a10, .ref a11, .ref a12, .int i9, .ref a13, .int i10, .ref a14, .ref a15, .int i11, .ref a16, .ref a17, .ref a18, .ref a19, .int i12, .int i13, .int i14, .int i15, .int i16, .ref a20, .long j0, .ref a21, .ref a22, .ref a23, .ref a24])), (a1, .inl (cI, 544, .inl xF0)), (a16, .inl (cI, 256, .inl g1_74)), (a17, .inl (cI, 256, .inl f7219)), (a21, .inl (cI, 4, .inl xF20)), (a23, .inl (cJ, 240, .inr (.inl xG22)))]) [0, 1, 2, 3, 4, 5] rfl) (hD.sub (ws' := [(a0, .inr (12, [.int i0, .ref a1, .ref a2, .ref a3, .ref a4, .int i1, .ref a5, .int i2, .int i3, .int i4, .int i5, .int i6, .int i7, .int i8, .ref a6, .ref a7, .ref a8, .ref a9, .ref a10, .ref a11, .ref a12, .int i9, .ref a13, .int i10, .ref a14, .ref a15, .int i11, .ref a16, .ref a17, .ref a18, .ref a19, .int i12, .int i13, .int i14, .int i15, .int i16, .ref a20, .long j0, .ref a21, .ref a22, .ref a23, .ref a24])), (a1, .inl (cI, 544, .inl xF0)), (a16, .inl (cI, 256, .inl g1_74)), (a17, .inl (cI, 256, .inl f7219)), (a21, .inl (cI, 4, .inl xF20)), (a23, .inl (cJ, 240, .inr (.inl xG22)))]) [0, 1, 2, 3, 4, 5] (by decide) rfl) hS (lv_sub hl [1, 2, 3, 0] rfl)
            · rw [ki_le] at c7037
              refine lv_aload_n hx hb dX12_fillFew_33 rfl (lv_at hl 0 rfl) ?_
              refine va_get (D := (dC, dI)) (ci := 12) (v := .ref a16) (C := RX12) (T := TX12) (N := 42) hx hb hwd inlX12 hown hK hP 0 rfl rfl 27 (by decide) (hwd _ kr7_19) (fun _ h9 => h9) rfl dX12_fillFew_34 ?_
              refine lv_iload_n hx hb dX12_fillFew_37 rfl (lv_at hl 2 rfl) ?_
              refine lv_dup2_11 hx hb dX12_fillFew_38 rfl rfl ?_
              have h7228 : vp_in w2_1 256 := (vp_of (by omega) (by omega))
              refine va_iald hx hb hK hP 2 0 rfl rfl h7228 dX12_fillFew_39 ?_
              refine lv_topi (fun x7229 ex7229 => ?_)
              refine lv_iload_n hx hb dX12_fillFew_40 rfl (lv_at hl 2 rfl) ?_
              refine lv_iload_n hx hb dX12_fillFew_41 rfl (lv_at hl 3 rfl) ?_
              refine lv_ishr hx hb dX12_fillFew_42 ?_
              refine lv_topi (fun x7230 ex7230 => ?_)
              refine lv_iconst (v := 1) hx hb dX12_fillFew_43 (by decide) ?_
              refine lv_iand hx hb dX12_fillFew_44 ?_
              refine lv_topi (fun x7231 ex7231 => ?_)
              have tx7231 := ia_and (a := x7230) (m := (1 : Int32)) (by decide)
              rw [← ex7231] at tx7231
              refine lv_iconst (v := 1) hx hb dX12_fillFew_45 (by decide) ?_
              refine lv_icmp_ne (tgt := 64) hx hb dX12_fillFew_46 (by decide) (fun c7232 => ?_) (fun c7232 => ?_)
              · rw [ki_eq] at c7232
                refine lv_iconst (v := 0) hx hb dX12_fillFew_64 (by decide) ?_
                refine lv_iadd hx hb dX12_fillFew_65 ?_
                refine lv_topi (fun x7233 ex7233 => ?_)
                have b_b7234 := i32_b x7229
                have tx7233 := ia_add (a := x7229) (b := (0 : Int32)) (by omega) (by omega)
                rw [← ex7233] at tx7233
                refine va_iast hx hb hK hP hD hS 2 0 rfl rfl (vp_of (by omega) (by omega)) dX12_fillFew_66 (fun H locs hP hD hS => ?_)
                obtain ⟨f7235, ef7235⟩ : ∃ f, f = upd g1_74 w2_1.toNatClampNeg x7233 := ⟨_, rfl⟩
                have hP : va_P (dC, dI) vwCl [(a0, .inr (12, [.int i0, .ref a1, .ref a2, .ref a3, .ref a4, .int i1, .ref a5, .int i2, .int i3, .int i4, .int i5, .int i6, .int i7, .int i8, .ref a6, .ref a7, .ref a8, .ref a9, .ref a10, .ref a11, .ref a12, .int i9, .ref a13, .int i10, .ref a14, .ref a15, .int i11, .ref a16, .ref a17, .ref a18, .ref a19, .int i12, .int i13, .int i14, .int i15, .int i16, .ref a20, .long j0, .ref a21, .ref a22, .ref a23, .ref a24])), (a1, .inl (cI, 544, .inl xF0)), (a16, .inl (cI, 256, .inl f7235)), (a17, .inl (cI, 256, .inl g2_1)), (a21, .inl (cI, 4, .inl xF20)), (a23, .inl (cJ, 240, .inr (.inl xG22)))] H := by rw [ef7235]; exact hP
                have hD : va_D A [(a0, .inr (12, [.int i0, .ref a1, .ref a2, .ref a3, .ref a4, .int i1, .ref a5, .int i2, .int i3, .int i4, .int i5, .int i6, .int i7, .int i8, .ref a6, .ref a7, .ref a8, .ref a9, .ref a10, .ref a11, .ref a12, .int i9, .ref a13, .int i10, .ref a14, .ref a15, .int i11, .ref a16, .ref a17, .ref a18, .ref a19, .int i12, .int i13, .int i14, .int i15, .int i16, .ref a20, .long j0, .ref a21, .ref a22, .ref a23, .ref a24])), (a1, .inl (cI, 544, .inl xF0)), (a16, .inl (cI, 256, .inl f7235)), (a17, .inl (cI, 256, .inl g2_1)), (a21, .inl (cI, 4, .inl xF20)), (a23, .inl (cJ, 240, .inr (.inl xG22)))] := by rw [ef7235]; exact hD
                obtain ⟨x7236, ex7236⟩ : ∃ y : Int32, y = w3_74 + 1 := ⟨_, rfl⟩
                refine lv_iinc (v := x7236) (lv' := [(3, .int x7236), (0, .ref a0), (1, .int p0), (2, .int w2_1)]) hx hb dX12_fillFew_67 hl (k := 3) rfl (by rw [ex7236]; rfl) (by decide) rfl (fun ls hl => ?_)
                have tx7236 := ia_add (a := w3_74) (b := (1 : Int32)) (by omega) (by omega)
                rw [← ex7236] at tx7236
                refine lv_goto (tgt := 23) hx hb dX12_fillFew_70 (by decide) ?_
                exact ih74 _ _ ls x7236 f7235 (show (0 : Int) ≤ x7236.toInt ∧ x7236.toInt ≤ 8 from ⟨by omega, by omega⟩) (show SP (wat xF0 1) f7235 w2_1.toInt from by rw [ef7235]; exact SP_upd hrl0_74 rfl) (show SB (wat xF0 1) f7235 w2_1.toInt x7236.toInt from by rw [ef7235]; exact SB_zero hrl1_74 rfl ex7229 ex7233 (by omega) rfl (by omega) (by omega) ex7230 ex7231 (by omega) (by omega)) (by omega) (hP.sub (ws' := [(a0, .inr (12, [.int i0, .ref a1, .ref a2, .ref a3, .ref a4, .int i1, .ref a5, .int i2, .int i3, .int i4, .int i5, .int i6, .int i7, .int i8, .ref a6, .ref a7, .ref a8, .ref a9, .ref a10, .ref a11, .ref a12, .int i9, .ref a13, .int i10, .ref a14, .ref a15, .int i11, .ref a16, .ref a17, .ref a18, .ref a19, .int i12, .int i13, .int i14, .int i15, .int i16, .ref a20, .long j0, .ref a21, .ref a22, .ref a23, .ref a24])), (a1, .inl (cI, 544, .inl xF0)), (a16, .inl (cI, 256, .inl f7235)), (a17, .inl (cI, 256, .inl g2_1)), (a21, .inl (cI, 4, .inl xF20)), (a23, .inl (cJ, 240, .inr (.inl xG22)))]) [0, 1, 2, 3, 4, 5] rfl) (hD.sub (ws' := [(a0, .inr (12, [.int i0, .ref a1, .ref a2, .ref a3, .ref a4, .int i1, .ref a5, .int i2, .int i3, .int i4, .int i5, .int i6, .int i7, .int i8, .ref a6, .ref a7, .ref a8, .ref a9, .ref a10, .ref a11, .ref a12, .int i9, .ref a13, .int i10, .ref a14, .ref a15, .int i11, .ref a16, .ref a17, .ref a18, .ref a19, .int i12, .int i13, .int i14, .int i15, .int i16, .ref a20, .long j0, .ref a21, .ref a22, .ref a23, .ref a24])), (a1, .inl (cI, 544, .inl xF0)), (a16, .inl (cI, 256, .inl f7235)), (a17, .inl (cI, 256, .inl g2_1)), (a21, .inl (cI, 4, .inl xF20)), (a23, .inl (cJ, 240, .inr (.inl xG22)))]) [0, 1, 2, 3, 4, 5] (by decide) rfl) hS (lv_sub hl [1, 2, 3, 0] rfl)
              · rw [ki_eq] at c7232
                refine lv_aload_n hx hb dX12_fillFew_49 rfl (lv_at hl 0 rfl) ?_
                refine va_get (D := (dC, dI)) (ci := 12) (v := .ref a23) (C := RX12) (T := TX12) (N := 42) hx hb hwd inlX12 hown hK hP 0 rfl rfl 40 (by decide) (hwd _ kr8_2) (fun _ h9 => h9) rfl dX12_fillFew_50 ?_
                refine lv_bipush (v := 60) hx hb dX12_fillFew_53 (by decide) ?_
                refine lv_iload_n hx hb dX12_fillFew_55 rfl (lv_at hl 1 rfl) ?_
                refine lv_imul hx hb dX12_fillFew_56 ?_
                refine lv_topi (fun x7237 ex7237 => ?_)
                have tx7237 := ia_mull (a := (60 : Int32)) (b := p0) 60 (by decide) (by omega) (by omega)
                rw [← ex7237] at tx7237
                refine lv_iload_n hx hb dX12_fillFew_57 rfl (lv_at hl 3 rfl) ?_
                refine lv_iadd hx hb dX12_fillFew_58 ?_
                refine lv_topi (fun x7238 ex7238 => ?_)
                have tx7238 := ia_add (a := x7237) (b := w3_74) (by omega) (by omega)
                rw [← ex7238] at tx7238
                have h7239 : vp_in x7238 240 := (vp_of (by omega) (by omega))
                refine va_lald hx hb hK hP 5 3 rfl rfl h7239 dX12_fillFew_59 ?_
                refine lv_topl (fun x7240 ex7240 => ?_)
                refine lv_l2i hx hb dX12_fillFew_60 rfl ?_
                refine lv_topi (fun x7241 ex7241 => ?_)
                have wh7242 : whd cp xF0 := p_7.1
                unfold whd at wh7242
                have qx7241 := NB_get (i := w3_74.toInt) p_11 ex7240 (by omega) (by omega) (by omega) (by omega) ex7241 (by omega)
                refine lv_goto (tgt := 65) hx hb dX12_fillFew_61 (by decide) ?_
                refine lv_iadd hx hb dX12_fillFew_65 ?_
                refine lv_topi (fun x7243 ex7243 => ?_)
                refine va_iast hx hb hK hP hD hS 2 0 rfl rfl (vp_of (by omega) (by omega)) dX12_fillFew_66 (fun H locs hP hD hS => ?_)
                obtain ⟨f7244, ef7244⟩ : ∃ f, f = upd g1_74 w2_1.toNatClampNeg x7243 := ⟨_, rfl⟩
                have hP : va_P (dC, dI) vwCl [(a0, .inr (12, [.int i0, .ref a1, .ref a2, .ref a3, .ref a4, .int i1, .ref a5, .int i2, .int i3, .int i4, .int i5, .int i6, .int i7, .int i8, .ref a6, .ref a7, .ref a8, .ref a9, .ref a10, .ref a11, .ref a12, .int i9, .ref a13, .int i10, .ref a14, .ref a15, .int i11, .ref a16, .ref a17, .ref a18, .ref a19, .int i12, .int i13, .int i14, .int i15, .int i16, .ref a20, .long j0, .ref a21, .ref a22, .ref a23, .ref a24])), (a1, .inl (cI, 544, .inl xF0)), (a16, .inl (cI, 256, .inl f7244)), (a17, .inl (cI, 256, .inl g2_1)), (a21, .inl (cI, 4, .inl xF20)), (a23, .inl (cJ, 240, .inr (.inl xG22)))] H := by rw [ef7244]; exact hP
                have hD : va_D A [(a0, .inr (12, [.int i0, .ref a1, .ref a2, .ref a3, .ref a4, .int i1, .ref a5, .int i2, .int i3, .int i4, .int i5, .int i6, .int i7, .int i8, .ref a6, .ref a7, .ref a8, .ref a9, .ref a10, .ref a11, .ref a12, .int i9, .ref a13, .int i10, .ref a14, .ref a15, .int i11, .ref a16, .ref a17, .ref a18, .ref a19, .int i12, .int i13, .int i14, .int i15, .int i16, .ref a20, .long j0, .ref a21, .ref a22, .ref a23, .ref a24])), (a1, .inl (cI, 544, .inl xF0)), (a16, .inl (cI, 256, .inl f7244)), (a17, .inl (cI, 256, .inl g2_1)), (a21, .inl (cI, 4, .inl xF20)), (a23, .inl (cJ, 240, .inr (.inl xG22)))] := by rw [ef7244]; exact hD
                obtain ⟨x7245, ex7245⟩ : ∃ y : Int32, y = w3_74 + 1 := ⟨_, rfl⟩
                refine lv_iinc (v := x7245) (lv' := [(3, .int x7245), (0, .ref a0), (1, .int p0), (2, .int w2_1)]) hx hb dX12_fillFew_67 hl (k := 3) rfl (by rw [ex7245]; rfl) (by decide) rfl (fun ls hl => ?_)
                have tx7245 := ia_add (a := w3_74) (b := (1 : Int32)) (by omega) (by omega)
                rw [← ex7245] at tx7245
                refine lv_goto (tgt := 23) hx hb dX12_fillFew_70 (by decide) ?_
                exact ih74 _ _ ls x7245 f7244 (show (0 : Int) ≤ x7245.toInt ∧ x7245.toInt ≤ 8 from ⟨by omega, by omega⟩) (show SP (wat xF0 1) f7244 w2_1.toInt from by rw [ef7244]; exact SP_upd hrl0_74 rfl) (show SB (wat xF0 1) f7244 w2_1.toInt x7245.toInt from by rw [ef7244]; exact SB_one hrl1_74 rfl ex7229 ex7243 (by omega) rfl (by omega) (by omega) ex7230 ex7231 (by omega) (by omega)) (by omega) (hP.sub (ws' := [(a0, .inr (12, [.int i0, .ref a1, .ref a2, .ref a3, .ref a4, .int i1, .ref a5, .int i2, .int i3, .int i4, .int i5, .int i6, .int i7, .int i8, .ref a6, .ref a7, .ref a8, .ref a9, .ref a10, .ref a11, .ref a12, .int i9, .ref a13, .int i10, .ref a14, .ref a15, .int i11, .ref a16, .ref a17, .ref a18, .ref a19, .int i12, .int i13, .int i14, .int i15, .int i16, .ref a20, .long j0, .ref a21, .ref a22, .ref a23, .ref a24])), (a1, .inl (cI, 544, .inl xF0)), (a16, .inl (cI, 256, .inl f7244)), (a17, .inl (cI, 256, .inl g2_1)), (a21, .inl (cI, 4, .inl xF20)), (a23, .inl (cJ, 240, .inr (.inl xG22)))]) [0, 1, 2, 3, 4, 5] rfl) (hD.sub (ws' := [(a0, .inr (12, [.int i0, .ref a1, .ref a2, .ref a3, .ref a4, .int i1, .ref a5, .int i2, .int i3, .int i4, .int i5, .int i6, .int i7, .int i8, .ref a6, .ref a7, .ref a8, .ref a9, .ref a10, .ref a11, .ref a12, .int i9, .ref a13, .int i10, .ref a14, .ref a15, .int i11, .ref a16, .ref a17, .ref a18, .ref a19, .int i12, .int i13, .int i14, .int i15, .int i16, .ref a20, .long j0, .ref a21, .ref a22, .ref a23, .ref a24])), (a1, .inl (cI, 544, .inl xF0)), (a16, .inl (cI, 256, .inl f7244)), (a17, .inl (cI, 256, .inl g2_1)), (a21, .inl (cI, 4, .inl xF20)), (a23, .inl (cJ, 240, .inr (.inl xG22)))]) [0, 1, 2, 3, 4, 5] (by decide) rfl) hS (lv_sub hl [1, 2, 3, 0] rfl)
        exact lp74 _ _ _ ls (0) f6172 (show (0 : Int) ≤ (0 : Int32).toInt ∧ (0 : Int32).toInt ≤ 8 from ⟨by omega, by omega⟩) (show SP (wat xF0 1) f6172 w2_1.toInt from by rw [ef6172]; exact SP_upd hrl0_1 rfl) (show SB (wat xF0 1) f6172 w2_1.toInt (0 : Int32).toInt from by rw [ef6172]; exact SB_init rfl (by decide) (by decide)) (Nat.lt_succ_self _) (hP.sub (ws' := [(a0, .inr (12, [.int i0, .ref a1, .ref a2, .ref a3, .ref a4, .int i1, .ref a5, .int i2, .int i3, .int i4, .int i5, .int i6, .int i7, .int i8, .ref a6, .ref a7, .ref a8, .ref a9, .ref a10, .ref a11, .ref a12, .int i9, .ref a13, .int i10, .ref a14, .ref a15, .int i11, .ref a16, .ref a17, .ref a18, .ref a19, .int i12, .int i13, .int i14, .int i15, .int i16, .ref a20, .long j0, .ref a21, .ref a22, .ref a23, .ref a24])), (a1, .inl (cI, 544, .inl xF0)), (a16, .inl (cI, 256, .inl f6172)), (a17, .inl (cI, 256, .inl g2_1)), (a21, .inl (cI, 4, .inl xF20)), (a23, .inl (cJ, 240, .inr (.inl xG22)))]) [0, 1, 2, 3, 4, 5] rfl) (hD.sub (ws' := [(a0, .inr (12, [.int i0, .ref a1, .ref a2, .ref a3, .ref a4, .int i1, .ref a5, .int i2, .int i3, .int i4, .int i5, .int i6, .int i7, .int i8, .ref a6, .ref a7, .ref a8, .ref a9, .ref a10, .ref a11, .ref a12, .int i9, .ref a13, .int i10, .ref a14, .ref a15, .int i11, .ref a16, .ref a17, .ref a18, .ref a19, .int i12, .int i13, .int i14, .int i15, .int i16, .ref a20, .long j0, .ref a21, .ref a22, .ref a23, .ref a24])), (a1, .inl (cI, 544, .inl xF0)), (a16, .inl (cI, 256, .inl f6172)), (a17, .inl (cI, 256, .inl g2_1)), (a21, .inl (cI, 4, .inl xF20)), (a23, .inl (cJ, 240, .inr (.inl xG22)))]) [0, 1, 2, 3, 4, 5] (by decide) rfl) hS (lv_sub hl [1, 2, 3, 0] rfl)
  exact lp1 _ _ _ ls (0) xF15 xF16 (show (0 : Int) ≤ (0 : Int32).toInt ∧ (0 : Int32).toInt ≤ 256 from ⟨by omega, by omega⟩) (show SP (wat xF0 1) xF15 (0 : Int32).toInt from SP_0 (by decide)) (show FQ xF16 (0 : Int32).toInt from FQ_0 (by decide)) (Nat.lt_succ_self _) (hP.sub (ws' := [(a0, .inr (12, [.int i0, .ref a1, .ref a2, .ref a3, .ref a4, .int i1, .ref a5, .int i2, .int i3, .int i4, .int i5, .int i6, .int i7, .int i8, .ref a6, .ref a7, .ref a8, .ref a9, .ref a10, .ref a11, .ref a12, .int i9, .ref a13, .int i10, .ref a14, .ref a15, .int i11, .ref a16, .ref a17, .ref a18, .ref a19, .int i12, .int i13, .int i14, .int i15, .int i16, .ref a20, .long j0, .ref a21, .ref a22, .ref a23, .ref a24])), (a1, .inl (cI, 544, .inl xF0)), (a16, .inl (cI, 256, .inl xF15)), (a17, .inl (cI, 256, .inl xF16)), (a21, .inl (cI, 4, .inl xF20)), (a23, .inl (cJ, 240, .inr (.inl xG22)))]) [0, 1, 2, 3, 4, 5] rfl) (hD.sub (ws' := [(a0, .inr (12, [.int i0, .ref a1, .ref a2, .ref a3, .ref a4, .int i1, .ref a5, .int i2, .int i3, .int i4, .int i5, .int i6, .int i7, .int i8, .ref a6, .ref a7, .ref a8, .ref a9, .ref a10, .ref a11, .ref a12, .int i9, .ref a13, .int i10, .ref a14, .ref a15, .int i11, .ref a16, .ref a17, .ref a18, .ref a19, .int i12, .int i13, .int i14, .int i15, .int i16, .ref a20, .long j0, .ref a21, .ref a22, .ref a23, .ref a24])), (a1, .inl (cI, 544, .inl xF0)), (a16, .inl (cI, 256, .inl xF15)), (a17, .inl (cI, 256, .inl xF16)), (a21, .inl (cI, 4, .inl xF20)), (a23, .inl (cJ, 240, .inr (.inl xG22)))]) [0, 1, 2, 3, 4, 5] (by decide) rfl) hS (lv_sub hl [1, 2, 0] rfl)
theorem dX12_fewest_0 : decode cX12_fewest 0 = .ok (.aload_n 0, 1) := by decide +kernel
theorem dX12_fewest_1 : decode cX12_fewest 1 = .ok (.iload_n 1, 1) := by decide +kernel
theorem dX12_fewest_2 : decode cX12_fewest 2 = .ok (.invokevirtual 417, 3) := by decide +kernel
theorem dX12_fewest_5 : decode cX12_fewest 5 = .ok (.istore_n 2, 1) := by decide +kernel
theorem dX12_fewest_6 : decode cX12_fewest 6 = .ok (.iload_n 2, 1) := by decide +kernel
theorem dX12_fewest_7 : decode cX12_fewest 7 = .ok (.ifCond .ge 5, 3) := by decide +kernel
theorem dX12_fewest_10 : decode cX12_fewest 10 = .ok (.iload_n 2, 1) := by decide +kernel
theorem dX12_fewest_11 : decode cX12_fewest 11 = .ok (.ireturn, 1) := by decide +kernel
theorem dX12_fewest_12 : decode cX12_fewest 12 = .ok (.aload_n 0, 1) := by decide +kernel
theorem dX12_fewest_13 : decode cX12_fewest 13 = .ok (.iload_n 1, 1) := by decide +kernel
theorem dX12_fewest_14 : decode cX12_fewest 14 = .ok (.invokevirtual 420, 3) := by decide +kernel
theorem dX12_fewest_17 : decode cX12_fewest 17 = .ok (.aload_n 0, 1) := by decide +kernel
theorem dX12_fewest_18 : decode cX12_fewest 18 = .ok (.getfield 67, 3) := by decide +kernel
theorem dX12_fewest_21 : decode cX12_fewest 21 = .ok (.iconst 1, 1) := by decide +kernel
theorem dX12_fewest_22 : decode cX12_fewest 22 = .ok (.aload_n 0, 1) := by decide +kernel
theorem dX12_fewest_23 : decode cX12_fewest 23 = .ok (.getfield 79, 3) := by decide +kernel
theorem dX12_fewest_26 : decode cX12_fewest 26 = .ok (.iload_n 1, 1) := by decide +kernel
theorem dX12_fewest_27 : decode cX12_fewest 27 = .ok (.iaload, 1) := by decide +kernel
theorem dX12_fewest_28 : decode cX12_fewest 28 = .ok (.ishl, 1) := by decide +kernel
theorem dX12_fewest_29 : decode cX12_fewest 29 = .ok (.iconst 1, 1) := by decide +kernel
theorem dX12_fewest_30 : decode cX12_fewest 30 = .ok (.isub, 1) := by decide +kernel
theorem dX12_fewest_31 : decode cX12_fewest 31 = .ok (.iaload, 1) := by decide +kernel
theorem dX12_fewest_32 : decode cX12_fewest 32 = .ok (.ireturn, 1) := by decide +kernel
set_option maxHeartbeats 4000000 in
set_option maxRecDepth 100000 in
theorem s_X12_fewest (l : Launch) (dC : Nat → ClassId) (dI : Nat → Nat → Nat) (cI cZ cB cJ cM cG : ClassId) (a0 a1 a2 a3 a4 a5 a6 a7 a8 a9 a10 a11 a12 a13 a14 a15 a16 a17 a18 a19 a20 a21 a22 a23 a24 : Nat) (i0 i1 i2 i3 i4 i5 i6 i7 i8 i9 i10 i11 i12 i13 i14 i15 i16 : Int32) (j0 : Int64) (xF0 xF15 xF16 xF20 : Nat → Int32) (xG22 : Nat → Int64) (p0 : Int32) (cp : Int) (sz : Nat) (p_0 : (0 : Int) ≤ i1.toInt ∧ i1.toInt ≤ 1600) (p_1 : (0 : Int) ≤ i2.toInt ∧ i2.toInt ≤ 1600) (p_2 : (0 : Int) ≤ i3.toInt ∧ i3.toInt ≤ 1600) (p_3 : (0 : Int) ≤ i4.toInt ∧ i4.toInt ≤ 1600) (p_4 : (0 : Int) ≤ i5.toInt ∧ i5.toInt ≤ 6) (p_5 : (0 : Int) ≤ i7.toInt ∧ i7.toInt ≤ 3) (p_6 : (0 : Int) ≤ i11.toInt ∧ i11.toInt ≤ 59) (p_7 : WI cp xF0) (p_8 : rng xF20 4 (-1) 60) (p_9 : MI xF20) (p_10 : 0 ≤ cp ∧ cp ≤ 2000000000) : Met l yX12_fewest (kw yX12_fewest cX12_fewest 3 (some .int)) ({ frames := 3, cells := 0, slots := 0, locals := 67 } : Room) (va_Pc [.ref a0, .int p0] (kPre dC dI [(cI, .int), (cZ, .boolean), (cB, .byte), (cJ, .long), (cM, .object RX2), (cG, .array .int)] [(a0, .inr (12, [.int i0, .ref a1, .ref a2, .ref a3, .ref a4, .int i1, .ref a5, .int i2, .int i3, .int i4, .int i5, .int i6, .int i7, .int i8, .ref a6, .ref a7, .ref a8, .ref a9, .ref a10, .ref a11, .ref a12, .int i9, .ref a13, .int i10, .ref a14, .ref a15, .int i11, .ref a16, .ref a17, .ref a18, .ref a19, .int i12, .int i13, .int i14, .int i15, .int i16, .ref a20, .long j0, .ref a21, .ref a22, .ref a23, .ref a24])), (a1, .inl (cI, 544, .inl xF0)), (a16, .inl (cI, 256, .inl xF15)), (a17, .inl (cI, 256, .inl xF16)), (a21, .inl (cI, 4, .inl xF20)), (a23, .inl (cJ, 240, .inr (.inl xG22)))] sz)) (va_Qi (fun (r : Int32) (u9 : (Nat → Int32) × (Nat → Nat → Int32) × (Nat → Nat → Int64)) => True) (fun u9 t => va_P (dC, dI) vwCl [(a0, .inr (12, [.int i0, .ref a1, .ref a2, .ref a3, .ref a4, .int i1, .ref a5, .int i2, .int i3, .int i4, .int i5, .int i6, .int i7, .int i8, .ref a6, .ref a7, .ref a8, .ref a9, .ref a10, .ref a11, .ref a12, .int i9, .ref a13, .int i10, .ref a14, .ref a15, .int i11, .ref a16, .ref a17, .ref a18, .ref a19, .int i12, .int i13, .int i14, .int i15, .int i16, .ref a20, .long j0, .ref a21, .ref a22, .ref a23, .ref a24])), (a1, .inl (cI, 544, .inl xF0)), (a16, .inl (cI, 256, .inl (u9.2.1 0))), (a17, .inl (cI, 256, .inl (u9.2.1 1))), (a21, .inl (cI, 4, .inl xF20)), (a23, .inl (cJ, 240, .inr (.inl xG22)))] t.heap ∧ va_D (va_A [(a0, .inr (12, [.int i0, .ref a1, .ref a2, .ref a3, .ref a4, .int i1, .ref a5, .int i2, .int i3, .int i4, .int i5, .int i6, .int i7, .int i8, .ref a6, .ref a7, .ref a8, .ref a9, .ref a10, .ref a11, .ref a12, .int i9, .ref a13, .int i10, .ref a14, .ref a15, .int i11, .ref a16, .ref a17, .ref a18, .ref a19, .int i12, .int i13, .int i14, .int i15, .int i16, .ref a20, .long j0, .ref a21, .ref a22, .ref a23, .ref a24])), (a1, .inl (cI, 544, .inl xF0)), (a16, .inl (cI, 256, .inl xF15)), (a17, .inl (cI, 256, .inl xF16)), (a21, .inl (cI, 4, .inl xF20)), (a23, .inl (cJ, 240, .inr (.inl xG22)))] sz) [(a0, .inr (12, [.int i0, .ref a1, .ref a2, .ref a3, .ref a4, .int i1, .ref a5, .int i2, .int i3, .int i4, .int i5, .int i6, .int i7, .int i8, .ref a6, .ref a7, .ref a8, .ref a9, .ref a10, .ref a11, .ref a12, .int i9, .ref a13, .int i10, .ref a14, .ref a15, .int i11, .ref a16, .ref a17, .ref a18, .ref a19, .int i12, .int i13, .int i14, .int i15, .int i16, .ref a20, .long j0, .ref a21, .ref a22, .ref a23, .ref a24])), (a1, .inl (cI, 544, .inl xF0)), (a16, .inl (cI, 256, .inl (u9.2.1 0))), (a17, .inl (cI, 256, .inl (u9.2.1 1))), (a21, .inl (cI, 4, .inl xF20)), (a23, .inl (cJ, 240, .inr (.inl xG22)))]) (va_A [(a0, .inr (12, [.int i0, .ref a1, .ref a2, .ref a3, .ref a4, .int i1, .ref a5, .int i2, .int i3, .int i4, .int i5, .int i6, .int i7, .int i8, .ref a6, .ref a7, .ref a8, .ref a9, .ref a10, .ref a11, .ref a12, .int i9, .ref a13, .int i10, .ref a14, .ref a15, .int i11, .ref a16, .ref a17, .ref a18, .ref a19, .int i12, .int i13, .int i14, .int i15, .int i16, .ref a20, .long j0, .ref a21, .ref a22, .ref a23, .ref a24])), (a1, .inl (cI, 544, .inl xF0)), (a16, .inl (cI, 256, .inl xF15)), (a17, .inl (cI, 256, .inl xF16)), (a21, .inl (cI, 4, .inl xF20)), (a23, .inl (cJ, 240, .inr (.inl xG22)))] sz)) 0 0 (va_A [(a0, .inr (12, [.int i0, .ref a1, .ref a2, .ref a3, .ref a4, .int i1, .ref a5, .int i2, .int i3, .int i4, .int i5, .int i6, .int i7, .int i8, .ref a6, .ref a7, .ref a8, .ref a9, .ref a10, .ref a11, .ref a12, .int i9, .ref a13, .int i10, .ref a14, .ref a15, .int i11, .ref a16, .ref a17, .ref a18, .ref a19, .int i12, .int i13, .int i14, .int i15, .int i16, .ref a20, .long j0, .ref a21, .ref a22, .ref a23, .ref a24])), (a1, .inl (cI, 544, .inl xF0)), (a16, .inl (cI, 256, .inl xF15)), (a17, .inl (cI, 256, .inl xF16)), (a21, .inl (cI, 4, .inl xF20)), (a23, .inl (cJ, 240, .inr (.inl xG22)))] sz) := by
  refine kEnter (by decide) (Nat.le_of_ble_eq_true rfl) ?_
  intro p e s m below meth c ls hx hb hr hml hown hlocks hin hwd hsz hP hK hD hl
  subst hsz
  generalize hAe : va_A [(a0, .inr (12, [.int i0, .ref a1, .ref a2, .ref a3, .ref a4, .int i1, .ref a5, .int i2, .int i3, .int i4, .int i5, .int i6, .int i7, .int i8, .ref a6, .ref a7, .ref a8, .ref a9, .ref a10, .ref a11, .ref a12, .int i9, .ref a13, .int i10, .ref a14, .ref a15, .int i11, .ref a16, .ref a17, .ref a18, .ref a19, .int i12, .int i13, .int i14, .int i15, .int i16, .ref a20, .long j0, .ref a21, .ref a22, .ref a23, .ref a24])), (a1, .inl (cI, 544, .inl xF0)), (a16, .inl (cI, 256, .inl xF15)), (a17, .inl (cI, 256, .inl xF16)), (a21, .inl (cI, 4, .inl xF20)), (a23, .inl (cJ, 240, .inr (.inl xG22)))] s.heap.size = A at hD ⊢
  have hA : ∀ q : Nat, s.heap.size ≤ q → A q := fun q h => by rw [← hAe]; exact Or.inr h
  have hS : va_S A s.heap s.heap [] := va_S.rf
  have hl : lv_has ls 3 [(0, .ref a0), (1, .int p0)] := hl
  obtain ⟨Q, hQ⟩ : ∃ Q, Q = MQ below (va_Qi (fun (r : Int32) (u9 : (Nat → Int32) × (Nat → Nat → Int32) × (Nat → Nat → Int64)) => True) (fun u9 t => va_P (dC, dI) vwCl [(a0, .inr (12, [.int i0, .ref a1, .ref a2, .ref a3, .ref a4, .int i1, .ref a5, .int i2, .int i3, .int i4, .int i5, .int i6, .int i7, .int i8, .ref a6, .ref a7, .ref a8, .ref a9, .ref a10, .ref a11, .ref a12, .int i9, .ref a13, .int i10, .ref a14, .ref a15, .int i11, .ref a16, .ref a17, .ref a18, .ref a19, .int i12, .int i13, .int i14, .int i15, .int i16, .ref a20, .long j0, .ref a21, .ref a22, .ref a23, .ref a24])), (a1, .inl (cI, 544, .inl xF0)), (a16, .inl (cI, 256, .inl (u9.2.1 0))), (a17, .inl (cI, 256, .inl (u9.2.1 1))), (a21, .inl (cI, 4, .inl xF20)), (a23, .inl (cJ, 240, .inr (.inl xG22)))] t.heap ∧ va_D A [(a0, .inr (12, [.int i0, .ref a1, .ref a2, .ref a3, .ref a4, .int i1, .ref a5, .int i2, .int i3, .int i4, .int i5, .int i6, .int i7, .int i8, .ref a6, .ref a7, .ref a8, .ref a9, .ref a10, .ref a11, .ref a12, .int i9, .ref a13, .int i10, .ref a14, .ref a15, .int i11, .ref a16, .ref a17, .ref a18, .ref a19, .int i12, .int i13, .int i14, .int i15, .int i16, .ref a20, .long j0, .ref a21, .ref a22, .ref a23, .ref a24])), (a1, .inl (cI, 544, .inl xF0)), (a16, .inl (cI, 256, .inl (u9.2.1 0))), (a17, .inl (cI, 256, .inl (u9.2.1 1))), (a21, .inl (cI, 4, .inl xF20)), (a23, .inl (cJ, 240, .inr (.inl xG22)))]) A) ([.ref a0, .int p0] : List Value).toArray s 0 0 A := ⟨_, rfl⟩
  rw [← hQ]
  have k0 : (0 : Int32).toInt = 0 := by decide
  have k1 : (1 : Int32).toInt = 1 := by decide
  have k3 : (3 : Int32).toInt = 3 := by decide
  refine lv_aload_n hx hb dX12_fewest_0 rfl (lv_at hl 0 rfl) ?_
  refine lv_iload_n hx hb dX12_fewest_1 rfl (lv_at hl 1 rfl) ?_
  have hPc := hP.sub (ws' := [(a0, .inr (12, [.int i0, .ref a1, .ref a2, .ref a3, .ref a4, .int i1, .ref a5, .int i2, .int i3, .int i4, .int i5, .int i6, .int i7, .int i8, .ref a6, .ref a7, .ref a8, .ref a9, .ref a10, .ref a11, .ref a12, .int i9, .ref a13, .int i10, .ref a14, .ref a15, .int i11, .ref a16, .ref a17, .ref a18, .ref a19, .int i12, .int i13, .int i14, .int i15, .int i16, .ref a20, .long j0, .ref a21, .ref a22, .ref a23, .ref a24])), (a1, .inl (cI, 544, .inl xF0)), (a21, .inl (cI, 4, .inl xF20)), (a23, .inl (cJ, 240, .inr (.inl xG22)))]) [0, 1, 4, 5] rfl
  have hDc := hD.sub (ws' := [(a0, .inr (12, [.int i0, .ref a1, .ref a2, .ref a3, .ref a4, .int i1, .ref a5, .int i2, .int i3, .int i4, .int i5, .int i6, .int i7, .int i8, .ref a6, .ref a7, .ref a8, .ref a9, .ref a10, .ref a11, .ref a12, .int i9, .ref a13, .int i10, .ref a14, .ref a15, .int i11, .ref a16, .ref a17, .ref a18, .ref a19, .int i12, .int i13, .int i14, .int i15, .int i16, .ref a20, .long j0, .ref a21, .ref a22, .ref a23, .ref a24])), (a1, .inl (cI, 544, .inl xF0)), (a21, .inl (cI, 4, .inl xF20)), (a23, .inl (cJ, 240, .inr (.inl xG22)))]) [0, 1, 4, 5] (by decide) rfl
  have hFc := va_free (wc := [(a0, .inr (12, [.int i0, .ref a1, .ref a2, .ref a3, .ref a4, .int i1, .ref a5, .int i2, .int i3, .int i4, .int i5, .int i6, .int i7, .int i8, .ref a6, .ref a7, .ref a8, .ref a9, .ref a10, .ref a11, .ref a12, .int i9, .ref a13, .int i10, .ref a14, .ref a15, .int i11, .ref a16, .ref a17, .ref a18, .ref a19, .int i12, .int i13, .int i14, .int i15, .int i16, .ref a20, .long j0, .ref a21, .ref a22, .ref a23, .ref a24])), (a1, .inl (cI, 544, .inl xF0)), (a21, .inl (cI, 4, .inl xF20)), (a23, .inl (cJ, 240, .inr (.inl xG22)))]) hD hS hA [0, 1, 4, 5] rfl
  refine va_calli (va_runV (As := [.int p0]) (rest := []) ⟨hx, hb, hml, hown, hwd⟩ (s_X12_asksMotions l dC dI cI cZ cB cJ cM cG a0 a1 a2 a3 a4 a5 a6 a7 a8 a9 a10 a11 a12 a13 a14 a15 a16 a17 a18 a19 a20 a21 a22 a23 a24 i0 i1 i2 i3 i4 i5 i6 i7 i8 i9 i10 i11 i12 i13 i14 i15 i16 j0 xF0 xF20 xG22 p0 cp s.heap.size (show (0 : Int) ≤ i1.toInt ∧ i1.toInt ≤ 1600 from ⟨by omega, by omega⟩) (show (0 : Int) ≤ i2.toInt ∧ i2.toInt ≤ 1600 from ⟨by omega, by omega⟩) (show (0 : Int) ≤ i3.toInt ∧ i3.toInt ≤ 1600 from ⟨by omega, by omega⟩) (show (0 : Int) ≤ i4.toInt ∧ i4.toInt ≤ 1600 from ⟨by omega, by omega⟩) (show (0 : Int) ≤ i5.toInt ∧ i5.toInt ≤ 6 from ⟨by omega, by omega⟩) (show (0 : Int) ≤ i7.toInt ∧ i7.toInt ≤ 3 from ⟨by omega, by omega⟩) (show (0 : Int) ≤ i11.toInt ∧ i11.toInt ≤ 59 from ⟨by omega, by omega⟩) (show WI cp xF0 from p_7) (show rng xF20 4 (-1) 60 from p_8) (show MI xF20 from trivial) p_10) (cwV 1 hwd (gV kr55_8 kr55_9 kr55_10 kr1_5 kr55_11) rfl rfl rfl (by decide +kernel) ⟨Nat.le_of_ble_eq_true rfl, Nat.le_of_ble_eq_true rfl⟩) (kPreV hPc hK hDc (ci := 12) (q0 := 0) rfl rfl) rfl rfl hl.1 rfl (lv_room (Nat.le_of_ble_eq_true rfl)) dX12_fewest_2 ⟨Nat.le_of_ble_eq_true rfl, Nat.le_of_ble_eq_true rfl⟩) hS (fun q _ h => hFc q h) hFc (fun r1 u2 t H1 locs ht9 hvm hw hB hz1 hk1 hS => ?_)
  obtain ⟨hw3, hw4, -⟩ := hw
  have hw3 : (-6 : Int) ≤ r1.toInt ∧ r1.toInt ≤ 0 := hw3
  obtain ⟨hP1, hD1⟩ := hB
  rw [ht9] at hP1
  obtain ⟨hP, hD⟩ := va_join (wr := [(a16, .inl (cI, 256, .inl xF15)), (a17, .inl (cI, 256, .inl xF16))]) (w1 := [(a0, .inr (12, [.int i0, .ref a1, .ref a2, .ref a3, .ref a4, .int i1, .ref a5, .int i2, .int i3, .int i4, .int i5, .int i6, .int i7, .int i8, .ref a6, .ref a7, .ref a8, .ref a9, .ref a10, .ref a11, .ref a12, .int i9, .ref a13, .int i10, .ref a14, .ref a15, .int i11, .ref a16, .ref a17, .ref a18, .ref a19, .int i12, .int i13, .int i14, .int i15, .int i16, .ref a20, .long j0, .ref a21, .ref a22, .ref a23, .ref a24])), (a1, .inl (cI, 544, .inl xF0)), (a21, .inl (cI, 4, .inl xF20)), (a23, .inl (cJ, 240, .inr (.inl xG22)))]) hP hD [0, 1, 4, 5] [2, 3] rfl rfl (by decide) (by decide) hk1 hFc hP1 hD1
  generalize H1 = H at hP hS ⊢
  have hP : va_P (dC, dI) vwCl [(a16, .inl (cI, 256, .inl xF15)), (a17, .inl (cI, 256, .inl xF16)), (a0, .inr (12, [.int i0, .ref a1, .ref a2, .ref a3, .ref a4, .int i1, .ref a5, .int i2, .int i3, .int i4, .int i5, .int i6, .int i7, .int i8, .ref a6, .ref a7, .ref a8, .ref a9, .ref a10, .ref a11, .ref a12, .int i9, .ref a13, .int i10, .ref a14, .ref a15, .int i11, .ref a16, .ref a17, .ref a18, .ref a19, .int i12, .int i13, .int i14, .int i15, .int i16, .ref a20, .long j0, .ref a21, .ref a22, .ref a23, .ref a24])), (a1, .inl (cI, 544, .inl xF0)), (a21, .inl (cI, 4, .inl xF20)), (a23, .inl (cJ, 240, .inr (.inl xG22)))] H := hP
  have hD : va_D A [(a16, .inl (cI, 256, .inl xF15)), (a17, .inl (cI, 256, .inl xF16)), (a0, .inr (12, [.int i0, .ref a1, .ref a2, .ref a3, .ref a4, .int i1, .ref a5, .int i2, .int i3, .int i4, .int i5, .int i6, .int i7, .int i8, .ref a6, .ref a7, .ref a8, .ref a9, .ref a10, .ref a11, .ref a12, .int i9, .ref a13, .int i10, .ref a14, .ref a15, .int i11, .ref a16, .ref a17, .ref a18, .ref a19, .int i12, .int i13, .int i14, .int i15, .int i16, .ref a20, .long j0, .ref a21, .ref a22, .ref a23, .ref a24])), (a1, .inl (cI, 544, .inl xF0)), (a21, .inl (cI, 4, .inl xF20)), (a23, .inl (cJ, 240, .inr (.inl xG22)))] := hD
  refine lv_istore_n (lv' := [(2, .int r1), (0, .ref a0), (1, .int p0)]) hx hb dX12_fewest_5 rfl hl (by decide) rfl (fun ls hl => ?_)
  refine lv_iload_n hx hb dX12_fewest_6 rfl (lv_at hl 0 rfl) ?_
  refine lv_if_ge (tgt := 12) hx hb dX12_fewest_7 (by decide) (fun c5 => ?_) (fun c5 => ?_)
  · rw [ki_le] at c5
    have hw4q := hw4 (by omega)
    clear hw4
    refine lv_aload_n hx hb dX12_fewest_12 rfl (lv_at hl 1 rfl) ?_
    refine lv_iload_n hx hb dX12_fewest_13 rfl (lv_at hl 2 rfl) ?_
    have hPc := hP.sub (ws' := [(a0, .inr (12, [.int i0, .ref a1, .ref a2, .ref a3, .ref a4, .int i1, .ref a5, .int i2, .int i3, .int i4, .int i5, .int i6, .int i7, .int i8, .ref a6, .ref a7, .ref a8, .ref a9, .ref a10, .ref a11, .ref a12, .int i9, .ref a13, .int i10, .ref a14, .ref a15, .int i11, .ref a16, .ref a17, .ref a18, .ref a19, .int i12, .int i13, .int i14, .int i15, .int i16, .ref a20, .long j0, .ref a21, .ref a22, .ref a23, .ref a24])), (a1, .inl (cI, 544, .inl xF0)), (a16, .inl (cI, 256, .inl xF15)), (a17, .inl (cI, 256, .inl xF16)), (a21, .inl (cI, 4, .inl xF20)), (a23, .inl (cJ, 240, .inr (.inl xG22)))]) [2, 3, 0, 1, 4, 5] rfl
    have hDc := hD.sub (ws' := [(a0, .inr (12, [.int i0, .ref a1, .ref a2, .ref a3, .ref a4, .int i1, .ref a5, .int i2, .int i3, .int i4, .int i5, .int i6, .int i7, .int i8, .ref a6, .ref a7, .ref a8, .ref a9, .ref a10, .ref a11, .ref a12, .int i9, .ref a13, .int i10, .ref a14, .ref a15, .int i11, .ref a16, .ref a17, .ref a18, .ref a19, .int i12, .int i13, .int i14, .int i15, .int i16, .ref a20, .long j0, .ref a21, .ref a22, .ref a23, .ref a24])), (a1, .inl (cI, 544, .inl xF0)), (a16, .inl (cI, 256, .inl xF15)), (a17, .inl (cI, 256, .inl xF16)), (a21, .inl (cI, 4, .inl xF20)), (a23, .inl (cJ, 240, .inr (.inl xG22)))]) [2, 3, 0, 1, 4, 5] (by decide) rfl
    have hFc := va_free (wc := [(a0, .inr (12, [.int i0, .ref a1, .ref a2, .ref a3, .ref a4, .int i1, .ref a5, .int i2, .int i3, .int i4, .int i5, .int i6, .int i7, .int i8, .ref a6, .ref a7, .ref a8, .ref a9, .ref a10, .ref a11, .ref a12, .int i9, .ref a13, .int i10, .ref a14, .ref a15, .int i11, .ref a16, .ref a17, .ref a18, .ref a19, .int i12, .int i13, .int i14, .int i15, .int i16, .ref a20, .long j0, .ref a21, .ref a22, .ref a23, .ref a24])), (a1, .inl (cI, 544, .inl xF0)), (a16, .inl (cI, 256, .inl xF15)), (a17, .inl (cI, 256, .inl xF16)), (a21, .inl (cI, 4, .inl xF20)), (a23, .inl (cJ, 240, .inr (.inl xG22)))]) hD hS hA [2, 3, 0, 1, 4, 5] rfl
    refine va_callv (va_runV (As := [.int p0]) (rest := []) ⟨hx, hb, hml, hown, hwd⟩ (s_X12_fillFew l dC dI cI cZ cB cJ cM cG a0 a1 a2 a3 a4 a5 a6 a7 a8 a9 a10 a11 a12 a13 a14 a15 a16 a17 a18 a19 a20 a21 a22 a23 a24 i0 i1 i2 i3 i4 i5 i6 i7 i8 i9 i10 i11 i12 i13 i14 i15 i16 j0 xF0 xF15 xF16 xF20 xG22 p0 cp H.size (show (0 : Int) ≤ i1.toInt ∧ i1.toInt ≤ 1600 from ⟨by omega, by omega⟩) (show (0 : Int) ≤ i2.toInt ∧ i2.toInt ≤ 1600 from ⟨by omega, by omega⟩) (show (0 : Int) ≤ i3.toInt ∧ i3.toInt ≤ 1600 from ⟨by omega, by omega⟩) (show (0 : Int) ≤ i4.toInt ∧ i4.toInt ≤ 1600 from ⟨by omega, by omega⟩) (show (0 : Int) ≤ i5.toInt ∧ i5.toInt ≤ 6 from ⟨by omega, by omega⟩) (show (0 : Int) ≤ i7.toInt ∧ i7.toInt ≤ 3 from ⟨by omega, by omega⟩) (show (0 : Int) ≤ i11.toInt ∧ i11.toInt ≤ 59 from ⟨by omega, by omega⟩) (show WI cp xF0 from p_7) (show rng xF20 4 (-1) 60 from p_8) (show MI xF20 from trivial) (by omega) hw4q.2.2.2.2.2 (show (0 : Int) ≤ p0.toInt ∧ p0.toInt ≤ 3 from ⟨by omega, by omega⟩) p_10) (cwV 1 hwd (gV kr55_16 kr55_17 kr55_18 kr1_5 kr55_19) rfl rfl rfl (by decide +kernel) ⟨Nat.le_of_ble_eq_true rfl, Nat.le_of_ble_eq_true rfl⟩) (kPreV hPc hK hDc (ci := 12) (q0 := 0) rfl rfl) rfl rfl hl.1 rfl (lv_room (Nat.le_of_ble_eq_true rfl)) dX12_fewest_14 ⟨Nat.le_of_ble_eq_true rfl, Nat.le_of_ble_eq_true rfl⟩) hS (fun q _ h => hFc q h) hFc (fun u7 t H1 locs ht9 hvm hw hB hz1 hk1 hS => ?_)
    obtain ⟨u8, U8, V8⟩ := u7
    obtain ⟨hw9, -⟩ := hw
    have hw9 : FEW (U8 1) (xF20 p0.toNatClampNeg) := hw9
    obtain ⟨hP1, hD1⟩ := hB
    rw [ht9] at hP1
    obtain ⟨hP, hD⟩ := va_join (wr := []) (w1 := [(a0, .inr (12, [.int i0, .ref a1, .ref a2, .ref a3, .ref a4, .int i1, .ref a5, .int i2, .int i3, .int i4, .int i5, .int i6, .int i7, .int i8, .ref a6, .ref a7, .ref a8, .ref a9, .ref a10, .ref a11, .ref a12, .int i9, .ref a13, .int i10, .ref a14, .ref a15, .int i11, .ref a16, .ref a17, .ref a18, .ref a19, .int i12, .int i13, .int i14, .int i15, .int i16, .ref a20, .long j0, .ref a21, .ref a22, .ref a23, .ref a24])), (a1, .inl (cI, 544, .inl xF0)), (a16, .inl (cI, 256, .inl (U8 0))), (a17, .inl (cI, 256, .inl (U8 1))), (a21, .inl (cI, 4, .inl xF20)), (a23, .inl (cJ, 240, .inr (.inl xG22)))]) hP hD [2, 3, 0, 1, 4, 5] [] rfl rfl (by decide) (by decide) hk1 hFc hP1 hD1
    generalize H1 = H at hP hS ⊢
    have hP : va_P (dC, dI) vwCl [(a0, .inr (12, [.int i0, .ref a1, .ref a2, .ref a3, .ref a4, .int i1, .ref a5, .int i2, .int i3, .int i4, .int i5, .int i6, .int i7, .int i8, .ref a6, .ref a7, .ref a8, .ref a9, .ref a10, .ref a11, .ref a12, .int i9, .ref a13, .int i10, .ref a14, .ref a15, .int i11, .ref a16, .ref a17, .ref a18, .ref a19, .int i12, .int i13, .int i14, .int i15, .int i16, .ref a20, .long j0, .ref a21, .ref a22, .ref a23, .ref a24])), (a1, .inl (cI, 544, .inl xF0)), (a16, .inl (cI, 256, .inl (U8 0))), (a17, .inl (cI, 256, .inl (U8 1))), (a21, .inl (cI, 4, .inl xF20)), (a23, .inl (cJ, 240, .inr (.inl xG22)))] H := hP
    have hD : va_D A [(a0, .inr (12, [.int i0, .ref a1, .ref a2, .ref a3, .ref a4, .int i1, .ref a5, .int i2, .int i3, .int i4, .int i5, .int i6, .int i7, .int i8, .ref a6, .ref a7, .ref a8, .ref a9, .ref a10, .ref a11, .ref a12, .int i9, .ref a13, .int i10, .ref a14, .ref a15, .int i11, .ref a16, .ref a17, .ref a18, .ref a19, .int i12, .int i13, .int i14, .int i15, .int i16, .ref a20, .long j0, .ref a21, .ref a22, .ref a23, .ref a24])), (a1, .inl (cI, 544, .inl xF0)), (a16, .inl (cI, 256, .inl (U8 0))), (a17, .inl (cI, 256, .inl (U8 1))), (a21, .inl (cI, 4, .inl xF20)), (a23, .inl (cJ, 240, .inr (.inl xG22)))] := hD
    refine lv_aload_n hx hb dX12_fewest_17 rfl (lv_at hl 1 rfl) ?_
    refine va_get (D := (dC, dI)) (ci := 12) (v := .ref a17) (C := RX12) (T := TX12) (N := 42) hx hb hwd inlX12 hown hK hP 0 rfl rfl 28 (by decide) (hwd _ kr7_20) (fun _ h9 => h9) rfl dX12_fewest_18 ?_
    refine lv_iconst (v := 1) hx hb dX12_fewest_21 (by decide) ?_
    refine lv_aload_n hx hb dX12_fewest_22 rfl (lv_at hl 1 rfl) ?_
    refine va_get (D := (dC, dI)) (ci := 12) (v := .ref a21) (C := RX12) (T := TX12) (N := 42) hx hb hwd inlX12 hown hK hP 0 rfl rfl 38 (by decide) (hwd _ kr8_0) (fun _ h9 => h9) rfl dX12_fewest_23 ?_
    refine lv_iload_n hx hb dX12_fewest_26 rfl (lv_at hl 2 rfl) ?_
    have h10 : vp_in p0 4 := (vp_of (by omega) (by omega))
    refine va_iald hx hb hK hP 4 0 rfl rfl h10 dX12_fewest_27 ?_
    refine lv_topi (fun x11 ex11 => ?_)
    have ix11 : x11.toInt = (xF20 p0.toInt.toNat).toInt := by rw [ex11]; rfl
    have tx11 : (-1 : Int) ≤ x11.toInt ∧ x11.toInt ≤ 60 := by rw [ex11]; exact p_8 _ (vp_nat h10)
    refine lv_ishl hx hb dX12_fewest_28 ?_
    refine lv_topi (fun x12 ex12 => ?_)
    have tx12 := is_8 (b := x11) (by omega) (by omega)
    rw [← ex12] at tx12
    refine lv_iconst (v := 1) hx hb dX12_fewest_29 (by decide) ?_
    refine lv_isub hx hb dX12_fewest_30 ?_
    refine lv_topi (fun x13 ex13 => ?_)
    have tx13 := ia_sub (a := x12) (b := (1 : Int32)) (by omega) (by omega)
    rw [← ex13] at tx13
    have h14 : vp_in x13 256 := (vp_of (by omega) (by omega))
    refine va_iald hx hb hK hP 3 0 rfl rfl h14 dX12_fewest_31 ?_
    refine lv_topi (fun x15 ex15 => ?_)
    have hP9 := hP.sub (ws' := [(a0, .inr (12, [.int i0, .ref a1, .ref a2, .ref a3, .ref a4, .int i1, .ref a5, .int i2, .int i3, .int i4, .int i5, .int i6, .int i7, .int i8, .ref a6, .ref a7, .ref a8, .ref a9, .ref a10, .ref a11, .ref a12, .int i9, .ref a13, .int i10, .ref a14, .ref a15, .int i11, .ref a16, .ref a17, .ref a18, .ref a19, .int i12, .int i13, .int i14, .int i15, .int i16, .ref a20, .long j0, .ref a21, .ref a22, .ref a23, .ref a24])), (a1, .inl (cI, 544, .inl xF0)), (a16, .inl (cI, 256, .inl (U8 0))), (a17, .inl (cI, 256, .inl (U8 1))), (a21, .inl (cI, 4, .inl xF20)), (a23, .inl (cJ, 240, .inr (.inl xG22)))]) [0, 1, 2, 3, 4, 5] rfl
    have hD9 := hD.sub (ws' := [(a0, .inr (12, [.int i0, .ref a1, .ref a2, .ref a3, .ref a4, .int i1, .ref a5, .int i2, .int i3, .int i4, .int i5, .int i6, .int i7, .int i8, .ref a6, .ref a7, .ref a8, .ref a9, .ref a10, .ref a11, .ref a12, .int i9, .ref a13, .int i10, .ref a14, .ref a15, .int i11, .ref a16, .ref a17, .ref a18, .ref a19, .int i12, .int i13, .int i14, .int i15, .int i16, .ref a20, .long j0, .ref a21, .ref a22, .ref a23, .ref a24])), (a1, .inl (cI, 544, .inl xF0)), (a16, .inl (cI, 256, .inl (U8 0))), (a17, .inl (cI, 256, .inl (U8 1))), (a21, .inl (cI, 4, .inl xF20)), (a23, .inl (cJ, 240, .inr (.inl xG22)))]) [0, 1, 2, 3, 4, 5] (by decide) rfl
    rw [hQ]
    exact W.iret (v := x15) hx hb hr (fun t ht hW => ⟨⟨x15, (pickG 0 [], pickG (fun _ => 0) [(U8 0), (U8 1)], pickG (fun _ => 0) []), rfl, trivial, (by rw [ht]; exact hP9), hD9⟩, hS.F ht⟩) hS.2.2 dX12_fewest_32
  · rw [ki_le] at c5
    refine lv_iload_n hx hb dX12_fewest_10 rfl (lv_at hl 0 rfl) ?_
    have hP9 := hP.sub (ws' := [(a0, .inr (12, [.int i0, .ref a1, .ref a2, .ref a3, .ref a4, .int i1, .ref a5, .int i2, .int i3, .int i4, .int i5, .int i6, .int i7, .int i8, .ref a6, .ref a7, .ref a8, .ref a9, .ref a10, .ref a11, .ref a12, .int i9, .ref a13, .int i10, .ref a14, .ref a15, .int i11, .ref a16, .ref a17, .ref a18, .ref a19, .int i12, .int i13, .int i14, .int i15, .int i16, .ref a20, .long j0, .ref a21, .ref a22, .ref a23, .ref a24])), (a1, .inl (cI, 544, .inl xF0)), (a16, .inl (cI, 256, .inl xF15)), (a17, .inl (cI, 256, .inl xF16)), (a21, .inl (cI, 4, .inl xF20)), (a23, .inl (cJ, 240, .inr (.inl xG22)))]) [2, 3, 0, 1, 4, 5] rfl
    have hD9 := hD.sub (ws' := [(a0, .inr (12, [.int i0, .ref a1, .ref a2, .ref a3, .ref a4, .int i1, .ref a5, .int i2, .int i3, .int i4, .int i5, .int i6, .int i7, .int i8, .ref a6, .ref a7, .ref a8, .ref a9, .ref a10, .ref a11, .ref a12, .int i9, .ref a13, .int i10, .ref a14, .ref a15, .int i11, .ref a16, .ref a17, .ref a18, .ref a19, .int i12, .int i13, .int i14, .int i15, .int i16, .ref a20, .long j0, .ref a21, .ref a22, .ref a23, .ref a24])), (a1, .inl (cI, 544, .inl xF0)), (a16, .inl (cI, 256, .inl xF15)), (a17, .inl (cI, 256, .inl xF16)), (a21, .inl (cI, 4, .inl xF20)), (a23, .inl (cJ, 240, .inr (.inl xG22)))]) [2, 3, 0, 1, 4, 5] (by decide) rfl
    rw [hQ]
    exact W.iret (v := r1) hx hb hr (fun t ht hW => ⟨⟨r1, (pickG 0 [], pickG (fun _ => 0) [xF15, xF16], pickG (fun _ => 0) []), rfl, trivial, (by rw [ht]; exact hP9), hD9⟩, hS.F ht⟩) hS.2.2 dX12_fewest_11
