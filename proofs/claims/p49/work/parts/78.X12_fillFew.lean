theorem dX12_fillFew_0 : decode cX12_fillFew 0 = .ok (.iconst 0, 1) := by decide +kernel
theorem dX12_fillFew_1 : decode cX12_fillFew 1 = .ok (.istore_n 2, 1) := by decide +kernel
theorem dX12_fillFew_2 : decode cX12_fillFew 2 = .ok (.iload_n 2, 1) := by decide +kernel
theorem dX12_fillFew_3 : decode cX12_fillFew 3 = .ok (.iconst 1, 1) := by decide +kernel
theorem dX12_fillFew_4 : decode cX12_fillFew 4 = .ok (.aload_n 0, 1) := by decide +kernel
theorem dX12_fillFew_5 : decode cX12_fillFew 5 = .ok (.getfield 79, 3) := by decide +kernel
theorem dX12_fillFew_8 : decode cX12_fillFew 8 = .ok (.iload_n 1, 1) := by decide +kernel
theorem dX12_fillFew_9 : decode cX12_fillFew 9 = .ok (.iaload, 1) := by decide +kernel
theorem dX12_fillFew_10 : decode cX12_fillFew 10 = .ok (.ishl, 1) := by decide +kernel
theorem dX12_fillFew_11 : decode cX12_fillFew 11 = .ok (.if_icmp .ge 150, 3) := by decide +kernel
theorem dX12_fillFew_14 : decode cX12_fillFew 14 = .ok (.aload_n 0, 1) := by decide +kernel
theorem dX12_fillFew_15 : decode cX12_fillFew 15 = .ok (.getfield 64, 3) := by decide +kernel
theorem dX12_fillFew_18 : decode cX12_fillFew 18 = .ok (.iload_n 2, 1) := by decide +kernel
theorem dX12_fillFew_19 : decode cX12_fillFew 19 = .ok (.iconst 0, 1) := by decide +kernel
theorem dX12_fillFew_20 : decode cX12_fillFew 20 = .ok (.iastore, 1) := by decide +kernel
theorem dX12_fillFew_21 : decode cX12_fillFew 21 = .ok (.iconst 0, 1) := by decide +kernel
theorem dX12_fillFew_22 : decode cX12_fillFew 22 = .ok (.istore_n 3, 1) := by decide +kernel
theorem dX12_fillFew_23 : decode cX12_fillFew 23 = .ok (.iload_n 3, 1) := by decide +kernel
theorem dX12_fillFew_24 : decode cX12_fillFew 24 = .ok (.aload_n 0, 1) := by decide +kernel
theorem dX12_fillFew_25 : decode cX12_fillFew 25 = .ok (.getfield 79, 3) := by decide +kernel
theorem dX12_fillFew_28 : decode cX12_fillFew 28 = .ok (.iload_n 1, 1) := by decide +kernel
theorem dX12_fillFew_29 : decode cX12_fillFew 29 = .ok (.iaload, 1) := by decide +kernel
theorem dX12_fillFew_30 : decode cX12_fillFew 30 = .ok (.if_icmp .ge 43, 3) := by decide +kernel
theorem dX12_fillFew_33 : decode cX12_fillFew 33 = .ok (.aload_n 0, 1) := by decide +kernel
theorem dX12_fillFew_34 : decode cX12_fillFew 34 = .ok (.getfield 64, 3) := by decide +kernel
theorem dX12_fillFew_37 : decode cX12_fillFew 37 = .ok (.iload_n 2, 1) := by decide +kernel
theorem dX12_fillFew_38 : decode cX12_fillFew 38 = .ok (.dup2, 1) := by decide +kernel
theorem dX12_fillFew_39 : decode cX12_fillFew 39 = .ok (.iaload, 1) := by decide +kernel
theorem dX12_fillFew_40 : decode cX12_fillFew 40 = .ok (.iload_n 2, 1) := by decide +kernel
theorem dX12_fillFew_41 : decode cX12_fillFew 41 = .ok (.iload_n 3, 1) := by decide +kernel
theorem dX12_fillFew_42 : decode cX12_fillFew 42 = .ok (.ishr, 1) := by decide +kernel
theorem dX12_fillFew_43 : decode cX12_fillFew 43 = .ok (.iconst 1, 1) := by decide +kernel
theorem dX12_fillFew_44 : decode cX12_fillFew 44 = .ok (.iand, 1) := by decide +kernel
theorem dX12_fillFew_45 : decode cX12_fillFew 45 = .ok (.iconst 1, 1) := by decide +kernel
theorem dX12_fillFew_46 : decode cX12_fillFew 46 = .ok (.if_icmp .ne 18, 3) := by decide +kernel
theorem dX12_fillFew_49 : decode cX12_fillFew 49 = .ok (.aload_n 0, 1) := by decide +kernel
theorem dX12_fillFew_50 : decode cX12_fillFew 50 = .ok (.getfield 85, 3) := by decide +kernel
theorem dX12_fillFew_53 : decode cX12_fillFew 53 = .ok (.bipush 60, 2) := by decide +kernel
theorem dX12_fillFew_55 : decode cX12_fillFew 55 = .ok (.iload_n 1, 1) := by decide +kernel
theorem dX12_fillFew_56 : decode cX12_fillFew 56 = .ok (.imul, 1) := by decide +kernel
theorem dX12_fillFew_57 : decode cX12_fillFew 57 = .ok (.iload_n 3, 1) := by decide +kernel
theorem dX12_fillFew_58 : decode cX12_fillFew 58 = .ok (.iadd, 1) := by decide +kernel
theorem dX12_fillFew_59 : decode cX12_fillFew 59 = .ok (.laload, 1) := by decide +kernel
theorem dX12_fillFew_60 : decode cX12_fillFew 60 = .ok (.l2i, 1) := by decide +kernel
theorem dX12_fillFew_61 : decode cX12_fillFew 61 = .ok (.goto 4, 3) := by decide +kernel
theorem dX12_fillFew_64 : decode cX12_fillFew 64 = .ok (.iconst 0, 1) := by decide +kernel
theorem dX12_fillFew_65 : decode cX12_fillFew 65 = .ok (.iadd, 1) := by decide +kernel
theorem dX12_fillFew_66 : decode cX12_fillFew 66 = .ok (.iastore, 1) := by decide +kernel
theorem dX12_fillFew_67 : decode cX12_fillFew 67 = .ok (.iinc 3 1, 3) := by decide +kernel
theorem dX12_fillFew_70 : decode cX12_fillFew 70 = .ok (.goto (-47), 3) := by decide +kernel
theorem dX12_fillFew_73 : decode cX12_fillFew 73 = .ok (.aload_n 0, 1) := by decide +kernel
theorem dX12_fillFew_74 : decode cX12_fillFew 74 = .ok (.getfield 67, 3) := by decide +kernel
theorem dX12_fillFew_77 : decode cX12_fillFew 77 = .ok (.iload_n 2, 1) := by decide +kernel
theorem dX12_fillFew_78 : decode cX12_fillFew 78 = .ok (.iload_n 2, 1) := by decide +kernel
theorem dX12_fillFew_79 : decode cX12_fillFew 79 = .ok (.ifCond .ne 7, 3) := by decide +kernel
theorem dX12_fillFew_82 : decode cX12_fillFew 82 = .ok (.iconst 0, 1) := by decide +kernel
theorem dX12_fillFew_83 : decode cX12_fillFew 83 = .ok (.goto 5, 3) := by decide +kernel
theorem dX12_fillFew_86 : decode cX12_fillFew 86 = .ok (.bipush 9, 2) := by decide +kernel
theorem dX12_fillFew_88 : decode cX12_fillFew 88 = .ok (.iastore, 1) := by decide +kernel
theorem dX12_fillFew_89 : decode cX12_fillFew 89 = .ok (.iconst 1, 1) := by decide +kernel
theorem dX12_fillFew_90 : decode cX12_fillFew 90 = .ok (.istore_n 3, 1) := by decide +kernel
theorem dX12_fillFew_91 : decode cX12_fillFew 91 = .ok (.iload_n 3, 1) := by decide +kernel
theorem dX12_fillFew_92 : decode cX12_fillFew 92 = .ok (.iload_n 2, 1) := by decide +kernel
theorem dX12_fillFew_93 : decode cX12_fillFew 93 = .ok (.if_icmp .gt 62, 3) := by decide +kernel
theorem dX12_fillFew_96 : decode cX12_fillFew 96 = .ok (.iload_n 3, 1) := by decide +kernel
theorem dX12_fillFew_97 : decode cX12_fillFew 97 = .ok (.iload_n 2, 1) := by decide +kernel
theorem dX12_fillFew_98 : decode cX12_fillFew 98 = .ok (.iconst (-1), 1) := by decide +kernel
theorem dX12_fillFew_99 : decode cX12_fillFew 99 = .ok (.ixor, 1) := by decide +kernel
theorem dX12_fillFew_100 : decode cX12_fillFew 100 = .ok (.iand, 1) := by decide +kernel
theorem dX12_fillFew_101 : decode cX12_fillFew 101 = .ok (.ifCond .ne 48, 3) := by decide +kernel
theorem dX12_fillFew_104 : decode cX12_fillFew 104 = .ok (.aload_n 0, 1) := by decide +kernel
theorem dX12_fillFew_105 : decode cX12_fillFew 105 = .ok (.getfield 64, 3) := by decide +kernel
theorem dX12_fillFew_108 : decode cX12_fillFew 108 = .ok (.iload_n 3, 1) := by decide +kernel
theorem dX12_fillFew_109 : decode cX12_fillFew 109 = .ok (.iaload, 1) := by decide +kernel
theorem dX12_fillFew_110 : decode cX12_fillFew 110 = .ok (.aload_n 0, 1) := by decide +kernel
theorem dX12_fillFew_111 : decode cX12_fillFew 111 = .ok (.getfield 13, 3) := by decide +kernel
theorem dX12_fillFew_114 : decode cX12_fillFew 114 = .ok (.iconst 1, 1) := by decide +kernel
theorem dX12_fillFew_115 : decode cX12_fillFew 115 = .ok (.iaload, 1) := by decide +kernel
theorem dX12_fillFew_116 : decode cX12_fillFew 116 = .ok (.if_icmp .le 6, 3) := by decide +kernel
theorem dX12_fillFew_119 : decode cX12_fillFew 119 = .ok (.goto 30, 3) := by decide +kernel
theorem dX12_fillFew_122 : decode cX12_fillFew 122 = .ok (.aload_n 0, 1) := by decide +kernel
theorem dX12_fillFew_123 : decode cX12_fillFew 123 = .ok (.getfield 67, 3) := by decide +kernel
theorem dX12_fillFew_126 : decode cX12_fillFew 126 = .ok (.iload_n 2, 1) := by decide +kernel
theorem dX12_fillFew_127 : decode cX12_fillFew 127 = .ok (.aload_n 0, 1) := by decide +kernel
theorem dX12_fillFew_128 : decode cX12_fillFew 128 = .ok (.getfield 67, 3) := by decide +kernel
theorem dX12_fillFew_131 : decode cX12_fillFew 131 = .ok (.iload_n 2, 1) := by decide +kernel
theorem dX12_fillFew_132 : decode cX12_fillFew 132 = .ok (.iaload, 1) := by decide +kernel
theorem dX12_fillFew_133 : decode cX12_fillFew 133 = .ok (.iconst 1, 1) := by decide +kernel
theorem dX12_fillFew_134 : decode cX12_fillFew 134 = .ok (.aload_n 0, 1) := by decide +kernel
theorem dX12_fillFew_135 : decode cX12_fillFew 135 = .ok (.getfield 67, 3) := by decide +kernel
theorem dX12_fillFew_138 : decode cX12_fillFew 138 = .ok (.iload_n 2, 1) := by decide +kernel
theorem dX12_fillFew_139 : decode cX12_fillFew 139 = .ok (.iload_n 3, 1) := by decide +kernel
theorem dX12_fillFew_140 : decode cX12_fillFew 140 = .ok (.iconst (-1), 1) := by decide +kernel
theorem dX12_fillFew_141 : decode cX12_fillFew 141 = .ok (.ixor, 1) := by decide +kernel
theorem dX12_fillFew_142 : decode cX12_fillFew 142 = .ok (.iand, 1) := by decide +kernel
theorem dX12_fillFew_143 : decode cX12_fillFew 143 = .ok (.iaload, 1) := by decide +kernel
theorem dX12_fillFew_144 : decode cX12_fillFew 144 = .ok (.iadd, 1) := by decide +kernel
theorem dX12_fillFew_145 : decode cX12_fillFew 145 = .ok (.invokestatic 133, 3) := by decide +kernel
theorem dX12_fillFew_148 : decode cX12_fillFew 148 = .ok (.iastore, 1) := by decide +kernel
theorem dX12_fillFew_149 : decode cX12_fillFew 149 = .ok (.iinc 3 1, 3) := by decide +kernel
theorem dX12_fillFew_152 : decode cX12_fillFew 152 = .ok (.goto (-61), 3) := by decide +kernel
theorem dX12_fillFew_155 : decode cX12_fillFew 155 = .ok (.iinc 2 1, 3) := by decide +kernel
theorem dX12_fillFew_158 : decode cX12_fillFew 158 = .ok (.goto (-156), 3) := by decide +kernel
theorem dX12_fillFew_161 : decode cX12_fillFew 161 = .ok (.return_, 1) := by decide +kernel
set_option maxHeartbeats 4000000 in
set_option maxRecDepth 100000 in
theorem s_X12_fillFew (l : Launch) (dC : Nat → ClassId) (dI : Nat → Nat → Nat) (cI cZ cB cJ cM cG : ClassId) (a0 a1 a2 a3 a4 a5 a6 a7 a8 a9 a10 a11 a12 a13 a14 a15 a16 a17 a18 a19 a20 a21 a22 a23 a24 : Nat) (i0 i1 i2 i3 i4 i5 i6 i7 i8 i9 i10 i11 i12 i13 i14 i15 i16 : Int32) (j0 : Int64) (xF0 xF15 xF16 xF20 : Nat → Int32) (xG22 : Nat → Int64) (p0 : Int32) (cp : Int) (sz : Nat) (p_0 : (0 : Int) ≤ i1.toInt ∧ i1.toInt ≤ 1600) (p_1 : (0 : Int) ≤ i2.toInt ∧ i2.toInt ≤ 1600) (p_2 : (0 : Int) ≤ i3.toInt ∧ i3.toInt ≤ 1600) (p_3 : (0 : Int) ≤ i4.toInt ∧ i4.toInt ≤ 1600) (p_4 : (0 : Int) ≤ i5.toInt ∧ i5.toInt ≤ 6) (p_5 : (0 : Int) ≤ i7.toInt ∧ i7.toInt ≤ 3) (p_6 : (0 : Int) ≤ i11.toInt ∧ i11.toInt ≤ 59) (p_7 : WI cp xF0) (p_8 : rng xF20 4 (-1) 60) (p_9 : MI xF20) (p_10 : 1 ≤ (xF20 p0.toInt.toNat).toInt ∧ (xF20 p0.toInt.toNat).toInt ≤ 8) (p_11 : NB (wat xF0 1) xG22 p0.toInt (xF20 p0.toInt.toNat).toInt) (p_12 : (0 : Int) ≤ p0.toInt ∧ p0.toInt ≤ 3) (p_13 : 0 ≤ cp ∧ cp ≤ 2000000000) : Met l yX12_fillFew (kw yX12_fillFew cX12_fillFew 4 none) ({ frames := 1, cells := 0, slots := 0, locals := 24 } : Room) (va_Pc [.ref a0, .int p0] (kPre dC dI [(cI, .int), (cZ, .boolean), (cB, .byte), (cJ, .long), (cM, .object RX2), (cG, .array .int)] [(a0, .inr (12, [.int i0, .ref a1, .ref a2, .ref a3, .ref a4, .int i1, .ref a5, .int i2, .int i3, .int i4, .int i5, .int i6, .int i7, .int i8, .ref a6, .ref a7, .ref a8, .ref a9, .ref a10, .ref a11, .ref a12, .int i9, .ref a13, .int i10, .ref a14, .ref a15, .int i11, .ref a16, .ref a17, .ref a18, .ref a19, .int i12, .int i13, .int i14, .int i15, .int i16, .ref a20, .long j0, .ref a21, .ref a22, .ref a23, .ref a24])), (a1, .inl (cI, 544, .inl xF0)), (a16, .inl (cI, 256, .inl xF15)), (a17, .inl (cI, 256, .inl xF16)), (a21, .inl (cI, 4, .inl xF20)), (a23, .inl (cJ, 240, .inr (.inl xG22)))] sz)) (va_Qv (fun (u9 : (Nat → Int32) × (Nat → Nat → Int32) × (Nat → Nat → Int64)) => (FEW (u9.2.1 1) (xF20 p0.toNatClampNeg)) ∧ True) (fun u9 t => va_P (dC, dI) vwCl [(a0, .inr (12, [.int i0, .ref a1, .ref a2, .ref a3, .ref a4, .int i1, .ref a5, .int i2, .int i3, .int i4, .int i5, .int i6, .int i7, .int i8, .ref a6, .ref a7, .ref a8, .ref a9, .ref a10, .ref a11, .ref a12, .int i9, .ref a13, .int i10, .ref a14, .ref a15, .int i11, .ref a16, .ref a17, .ref a18, .ref a19, .int i12, .int i13, .int i14, .int i15, .int i16, .ref a20, .long j0, .ref a21, .ref a22, .ref a23, .ref a24])), (a1, .inl (cI, 544, .inl xF0)), (a16, .inl (cI, 256, .inl (u9.2.1 0))), (a17, .inl (cI, 256, .inl (u9.2.1 1))), (a21, .inl (cI, 4, .inl xF20)), (a23, .inl (cJ, 240, .inr (.inl xG22)))] t.heap ∧ va_D (va_A [(a0, .inr (12, [.int i0, .ref a1, .ref a2, .ref a3, .ref a4, .int i1, .ref a5, .int i2, .int i3, .int i4, .int i5, .int i6, .int i7, .int i8, .ref a6, .ref a7, .ref a8, .ref a9, .ref a10, .ref a11, .ref a12, .int i9, .ref a13, .int i10, .ref a14, .ref a15, .int i11, .ref a16, .ref a17, .ref a18, .ref a19, .int i12, .int i13, .int i14, .int i15, .int i16, .ref a20, .long j0, .ref a21, .ref a22, .ref a23, .ref a24])), (a1, .inl (cI, 544, .inl xF0)), (a16, .inl (cI, 256, .inl xF15)), (a17, .inl (cI, 256, .inl xF16)), (a21, .inl (cI, 4, .inl xF20)), (a23, .inl (cJ, 240, .inr (.inl xG22)))] sz) [(a0, .inr (12, [.int i0, .ref a1, .ref a2, .ref a3, .ref a4, .int i1, .ref a5, .int i2, .int i3, .int i4, .int i5, .int i6, .int i7, .int i8, .ref a6, .ref a7, .ref a8, .ref a9, .ref a10, .ref a11, .ref a12, .int i9, .ref a13, .int i10, .ref a14, .ref a15, .int i11, .ref a16, .ref a17, .ref a18, .ref a19, .int i12, .int i13, .int i14, .int i15, .int i16, .ref a20, .long j0, .ref a21, .ref a22, .ref a23, .ref a24])), (a1, .inl (cI, 544, .inl xF0)), (a16, .inl (cI, 256, .inl (u9.2.1 0))), (a17, .inl (cI, 256, .inl (u9.2.1 1))), (a21, .inl (cI, 4, .inl xF20)), (a23, .inl (cJ, 240, .inr (.inl xG22)))]) (va_A [(a0, .inr (12, [.int i0, .ref a1, .ref a2, .ref a3, .ref a4, .int i1, .ref a5, .int i2, .int i3, .int i4, .int i5, .int i6, .int i7, .int i8, .ref a6, .ref a7, .ref a8, .ref a9, .ref a10, .ref a11, .ref a12, .int i9, .ref a13, .int i10, .ref a14, .ref a15, .int i11, .ref a16, .ref a17, .ref a18, .ref a19, .int i12, .int i13, .int i14, .int i15, .int i16, .ref a20, .long j0, .ref a21, .ref a22, .ref a23, .ref a24])), (a1, .inl (cI, 544, .inl xF0)), (a16, .inl (cI, 256, .inl xF15)), (a17, .inl (cI, 256, .inl xF16)), (a21, .inl (cI, 4, .inl xF20)), (a23, .inl (cJ, 240, .inr (.inl xG22)))] sz)) 0 0 (va_A [(a0, .inr (12, [.int i0, .ref a1, .ref a2, .ref a3, .ref a4, .int i1, .ref a5, .int i2, .int i3, .int i4, .int i5, .int i6, .int i7, .int i8, .ref a6, .ref a7, .ref a8, .ref a9, .ref a10, .ref a11, .ref a12, .int i9, .ref a13, .int i10, .ref a14, .ref a15, .int i11, .ref a16, .ref a17, .ref a18, .ref a19, .int i12, .int i13, .int i14, .int i15, .int i16, .ref a20, .long j0, .ref a21, .ref a22, .ref a23, .ref a24])), (a1, .inl (cI, 544, .inl xF0)), (a16, .inl (cI, 256, .inl xF15)), (a17, .inl (cI, 256, .inl xF16)), (a21, .inl (cI, 4, .inl xF20)), (a23, .inl (cJ, 240, .inr (.inl xG22)))] sz) := by
  refine kEnter (by decide) (Nat.le_of_ble_eq_true rfl) ?_
  intro p e s m below meth c ls hx hb hr hml hown hlocks hin hwd hsz hP hK hD hl
  subst hsz
  generalize hAe : va_A [(a0, .inr (12, [.int i0, .ref a1, .ref a2, .ref a3, .ref a4, .int i1, .ref a5, .int i2, .int i3, .int i4, .int i5, .int i6, .int i7, .int i8, .ref a6, .ref a7, .ref a8, .ref a9, .ref a10, .ref a11, .ref a12, .int i9, .ref a13, .int i10, .ref a14, .ref a15, .int i11, .ref a16, .ref a17, .ref a18, .ref a19, .int i12, .int i13, .int i14, .int i15, .int i16, .ref a20, .long j0, .ref a21, .ref a22, .ref a23, .ref a24])), (a1, .inl (cI, 544, .inl xF0)), (a16, .inl (cI, 256, .inl xF15)), (a17, .inl (cI, 256, .inl xF16)), (a21, .inl (cI, 4, .inl xF20)), (a23, .inl (cJ, 240, .inr (.inl xG22)))] s.heap.size = A at hD ⊢
  have hA : ∀ q : Nat, s.heap.size ≤ q → A q := fun q h => by rw [← hAe]; exact Or.inr h
  have hS : va_S A s.heap s.heap [] := va_S.rf
  have hl : lv_has ls 4 [(0, .ref a0), (1, .int p0)] := hl
  obtain ⟨Q, hQ⟩ : ∃ Q, Q = MQ below (va_Qv (fun (u9 : (Nat → Int32) × (Nat → Nat → Int32) × (Nat → Nat → Int64)) => (FEW (u9.2.1 1) (xF20 p0.toNatClampNeg)) ∧ True) (fun u9 t => va_P (dC, dI) vwCl [(a0, .inr (12, [.int i0, .ref a1, .ref a2, .ref a3, .ref a4, .int i1, .ref a5, .int i2, .int i3, .int i4, .int i5, .int i6, .int i7, .int i8, .ref a6, .ref a7, .ref a8, .ref a9, .ref a10, .ref a11, .ref a12, .int i9, .ref a13, .int i10, .ref a14, .ref a15, .int i11, .ref a16, .ref a17, .ref a18, .ref a19, .int i12, .int i13, .int i14, .int i15, .int i16, .ref a20, .long j0, .ref a21, .ref a22, .ref a23, .ref a24])), (a1, .inl (cI, 544, .inl xF0)), (a16, .inl (cI, 256, .inl (u9.2.1 0))), (a17, .inl (cI, 256, .inl (u9.2.1 1))), (a21, .inl (cI, 4, .inl xF20)), (a23, .inl (cJ, 240, .inr (.inl xG22)))] t.heap ∧ va_D A [(a0, .inr (12, [.int i0, .ref a1, .ref a2, .ref a3, .ref a4, .int i1, .ref a5, .int i2, .int i3, .int i4, .int i5, .int i6, .int i7, .int i8, .ref a6, .ref a7, .ref a8, .ref a9, .ref a10, .ref a11, .ref a12, .int i9, .ref a13, .int i10, .ref a14, .ref a15, .int i11, .ref a16, .ref a17, .ref a18, .ref a19, .int i12, .int i13, .int i14, .int i15, .int i16, .ref a20, .long j0, .ref a21, .ref a22, .ref a23, .ref a24])), (a1, .inl (cI, 544, .inl xF0)), (a16, .inl (cI, 256, .inl (u9.2.1 0))), (a17, .inl (cI, 256, .inl (u9.2.1 1))), (a21, .inl (cI, 4, .inl xF20)), (a23, .inl (cJ, 240, .inr (.inl xG22)))]) A) ([.ref a0, .int p0] : List Value).toArray s 0 0 A := ⟨_, rfl⟩
  rw [← hQ]
  have km2 : ((-2) : Int32).toInt = -2 := by decide
  have k0 : (0 : Int32).toInt = 0 := by decide
  have k1 : (1 : Int32).toInt = 1 := by decide
  have k9 : (9 : Int32).toInt = 9 := by decide
  have k60 : (60 : Int32).toInt = 60 := by decide
  refine lv_iconst (v := 0) hx hb dX12_fillFew_0 (by decide) ?_
  refine lv_istore_n (lv' := [(2, .int 0), (0, .ref a0), (1, .int p0)]) hx hb dX12_fillFew_1 rfl hl (by decide) rfl (fun ls hl => ?_)
  have lp1 : ∀ (d : Nat), ∀ (H : Heap) (locs : List Loc) (ls : Array Slot) (w2_1 : Int32) (g1_1 : Nat → Int32) (g2_1 : Nat → Int32), ((0 : Int) ≤ w2_1.toInt ∧ w2_1.toInt ≤ 256) → (SP (wat xF0 1) g1_1 w2_1.toInt) → (FQ g2_1 w2_1.toInt) → (256 - w2_1.toInt).toNat < d → va_P (dC, dI) vwCl [(a0, .inr (12, [.int i0, .ref a1, .ref a2, .ref a3, .ref a4, .int i1, .ref a5, .int i2, .int i3, .int i4, .int i5, .int i6, .int i7, .int i8, .ref a6, .ref a7, .ref a8, .ref a9, .ref a10, .ref a11, .ref a12, .int i9, .ref a13, .int i10, .ref a14, .ref a15, .int i11, .ref a16, .ref a17, .ref a18, .ref a19, .int i12, .int i13, .int i14, .int i15, .int i16, .ref a20, .long j0, .ref a21, .ref a22, .ref a23, .ref a24])), (a1, .inl (cI, 544, .inl xF0)), (a16, .inl (cI, 256, .inl g1_1)), (a17, .inl (cI, 256, .inl g2_1)), (a21, .inl (cI, 4, .inl xF20)), (a23, .inl (cJ, 240, .inr (.inl xG22)))] H → va_D A [(a0, .inr (12, [.int i0, .ref a1, .ref a2, .ref a3, .ref a4, .int i1, .ref a5, .int i2, .int i3, .int i4, .int i5, .int i6, .int i7, .int i8, .ref a6, .ref a7, .ref a8, .ref a9, .ref a10, .ref a11, .ref a12, .int i9, .ref a13, .int i10, .ref a14, .ref a15, .int i11, .ref a16, .ref a17, .ref a18, .ref a19, .int i12, .int i13, .int i14, .int i15, .int i16, .ref a20, .long j0, .ref a21, .ref a22, .ref a23, .ref a24])), (a1, .inl (cI, 544, .inl xF0)), (a16, .inl (cI, 256, .inl g1_1)), (a17, .inl (cI, 256, .inl g2_1)), (a21, .inl (cI, 4, .inl xF20)), (a23, .inl (cJ, 240, .inr (.inl xG22)))] → va_S A s.heap H locs → lv_has ls 4 [(0, .ref a0), (1, .int p0), (2, .int w2_1)] → W p l e ({ frames := 1, cells := 0, slots := 0, locals := 24 } : Room) s m ([.ref a0, .int p0] : List Value).toArray below meth c H locs 0 0 Q (F0 m 2 ls []) := by
    intro d
    induction d with
    | zero =>
      intro H locs ls w2_1 g1_1 g2_1 hr_w2_1 hrl0_1 hrl1_1 hm hP hD hS hl
      omega
    | succ d ih1 =>
      intro H locs ls w2_1 g1_1 g2_1 hr_w2_1 hrl0_1 hrl1_1 hm hP hD hS hl
      refine lv_iload_n hx hb dX12_fillFew_2 rfl (lv_at hl 2 rfl) ?_
      refine lv_iconst (v := 1) hx hb dX12_fillFew_3 (by decide) ?_
      refine lv_aload_n hx hb dX12_fillFew_4 rfl (lv_at hl 0 rfl) ?_
      refine va_get (D := (dC, dI)) (ci := 12) (v := .ref a21) (C := RX12) (T := TX12) (N := 42) hx hb hwd inlX12 hown hK hP 0 rfl rfl 38 (by decide) (hwd _ kr50_15) (fun _ h9 => h9) rfl dX12_fillFew_5 ?_
      refine lv_iload_n hx hb dX12_fillFew_8 rfl (lv_at hl 1 rfl) ?_
      have h6168 : vp_in p0 4 := (vp_of (by omega) (by omega))
      refine va_iald hx hb hK hP 4 0 rfl rfl h6168 dX12_fillFew_9 ?_
      refine lv_topi (fun x6169 ex6169 => ?_)
      have ix6169 : x6169.toInt = (xF20 p0.toInt.toNat).toInt := by rw [ex6169]; rfl
      have tx6169 : (-1 : Int) ≤ x6169.toInt ∧ x6169.toInt ≤ 60 := by rw [ex6169]; exact p_8 _ (vp_nat h6168)
      refine lv_ishl hx hb dX12_fillFew_10 ?_
      refine lv_topi (fun x6170 ex6170 => ?_)
      have tx6170 := is_8 (b := x6169) (by omega) (by omega)
      rw [← ex6170] at tx6170
      refine lv_icmp_ge (tgt := 161) hx hb dX12_fillFew_11 (by decide) (fun c6171 => ?_) (fun c6171 => ?_)
      · rw [ki_le] at c6171
        have hP9 := hP.sub (ws' := [(a0, .inr (12, [.int i0, .ref a1, .ref a2, .ref a3, .ref a4, .int i1, .ref a5, .int i2, .int i3, .int i4, .int i5, .int i6, .int i7, .int i8, .ref a6, .ref a7, .ref a8, .ref a9, .ref a10, .ref a11, .ref a12, .int i9, .ref a13, .int i10, .ref a14, .ref a15, .int i11, .ref a16, .ref a17, .ref a18, .ref a19, .int i12, .int i13, .int i14, .int i15, .int i16, .ref a20, .long j0, .ref a21, .ref a22, .ref a23, .ref a24])), (a1, .inl (cI, 544, .inl xF0)), (a16, .inl (cI, 256, .inl g1_1)), (a17, .inl (cI, 256, .inl g2_1)), (a21, .inl (cI, 4, .inl xF20)), (a23, .inl (cJ, 240, .inr (.inl xG22)))]) [0, 1, 2, 3, 4, 5] rfl
        have hD9 := hD.sub (ws' := [(a0, .inr (12, [.int i0, .ref a1, .ref a2, .ref a3, .ref a4, .int i1, .ref a5, .int i2, .int i3, .int i4, .int i5, .int i6, .int i7, .int i8, .ref a6, .ref a7, .ref a8, .ref a9, .ref a10, .ref a11, .ref a12, .int i9, .ref a13, .int i10, .ref a14, .ref a15, .int i11, .ref a16, .ref a17, .ref a18, .ref a19, .int i12, .int i13, .int i14, .int i15, .int i16, .ref a20, .long j0, .ref a21, .ref a22, .ref a23, .ref a24])), (a1, .inl (cI, 544, .inl xF0)), (a16, .inl (cI, 256, .inl g1_1)), (a17, .inl (cI, 256, .inl g2_1)), (a21, .inl (cI, 4, .inl xF20)), (a23, .inl (cJ, 240, .inr (.inl xG22)))]) [0, 1, 2, 3, 4, 5] (by decide) rfl
        rw [hQ]
        exact W.vret hx hb hr (fun t ht hW => ⟨⟨(pickG 0 [], pickG (fun _ => 0) [g1_1, g2_1], pickG (fun _ => 0) []), rfl, ⟨(show FEW g2_1 (xF20 p0.toNatClampNeg) from by rw [← ex6169]; exact FEW_of hrl1_1 ex6170 (by omega)), trivial⟩, (by rw [ht]; exact hP9), hD9⟩, hS.F ht⟩) hS.2.2 dX12_fillFew_161
      · rw [ki_le] at c6171
        refine lv_aload_n hx hb dX12_fillFew_14 rfl (lv_at hl 0 rfl) ?_
        refine va_get (D := (dC, dI)) (ci := 12) (v := .ref a16) (C := RX12) (T := TX12) (N := 42) hx hb hwd inlX12 hown hK hP 0 rfl rfl 27 (by decide) (hwd _ kr50_4) (fun _ h9 => h9) rfl dX12_fillFew_15 ?_
        refine lv_iload_n hx hb dX12_fillFew_18 rfl (lv_at hl 2 rfl) ?_
        refine lv_iconst (v := 0) hx hb dX12_fillFew_19 (by decide) ?_
        refine va_iast hx hb hK hP hD hS 2 0 rfl rfl (vp_of (by omega) (by omega)) dX12_fillFew_20 (fun H locs hP hD hS => ?_)
        obtain ⟨f6172, ef6172⟩ : ∃ f, f = upd g1_1 w2_1.toNatClampNeg (0 : Int32) := ⟨_, rfl⟩
        replace hP : va_P (dC, dI) vwCl [(a0, .inr (12, [.int i0, .ref a1, .ref a2, .ref a3, .ref a4, .int i1, .ref a5, .int i2, .int i3, .int i4, .int i5, .int i6, .int i7, .int i8, .ref a6, .ref a7, .ref a8, .ref a9, .ref a10, .ref a11, .ref a12, .int i9, .ref a13, .int i10, .ref a14, .ref a15, .int i11, .ref a16, .ref a17, .ref a18, .ref a19, .int i12, .int i13, .int i14, .int i15, .int i16, .ref a20, .long j0, .ref a21, .ref a22, .ref a23, .ref a24])), (a1, .inl (cI, 544, .inl xF0)), (a16, .inl (cI, 256, .inl f6172)), (a17, .inl (cI, 256, .inl g2_1)), (a21, .inl (cI, 4, .inl xF20)), (a23, .inl (cJ, 240, .inr (.inl xG22)))] H := by rw [ef6172]; exact hP
        replace hD : va_D A [(a0, .inr (12, [.int i0, .ref a1, .ref a2, .ref a3, .ref a4, .int i1, .ref a5, .int i2, .int i3, .int i4, .int i5, .int i6, .int i7, .int i8, .ref a6, .ref a7, .ref a8, .ref a9, .ref a10, .ref a11, .ref a12, .int i9, .ref a13, .int i10, .ref a14, .ref a15, .int i11, .ref a16, .ref a17, .ref a18, .ref a19, .int i12, .int i13, .int i14, .int i15, .int i16, .ref a20, .long j0, .ref a21, .ref a22, .ref a23, .ref a24])), (a1, .inl (cI, 544, .inl xF0)), (a16, .inl (cI, 256, .inl f6172)), (a17, .inl (cI, 256, .inl g2_1)), (a21, .inl (cI, 4, .inl xF20)), (a23, .inl (cJ, 240, .inr (.inl xG22)))] := by rw [ef6172]; exact hD
        refine lv_iconst (v := 0) hx hb dX12_fillFew_21 (by decide) ?_
        refine lv_istore_n (lv' := [(3, .int 0), (0, .ref a0), (1, .int p0), (2, .int w2_1)]) hx hb dX12_fillFew_22 rfl hl (by decide) rfl (fun ls hl => ?_)
        have lp74 : ∀ (d : Nat), ∀ (H : Heap) (locs : List Loc) (ls : Array Slot) (w3_74 : Int32) (g1_74 : Nat → Int32), ((0 : Int) ≤ w3_74.toInt ∧ w3_74.toInt ≤ 8) → (SP (wat xF0 1) g1_74 w2_1.toInt) → (SB (wat xF0 1) g1_74 w2_1.toInt w3_74.toInt) → (8 - w3_74.toInt).toNat < d → va_P (dC, dI) vwCl [(a0, .inr (12, [.int i0, .ref a1, .ref a2, .ref a3, .ref a4, .int i1, .ref a5, .int i2, .int i3, .int i4, .int i5, .int i6, .int i7, .int i8, .ref a6, .ref a7, .ref a8, .ref a9, .ref a10, .ref a11, .ref a12, .int i9, .ref a13, .int i10, .ref a14, .ref a15, .int i11, .ref a16, .ref a17, .ref a18, .ref a19, .int i12, .int i13, .int i14, .int i15, .int i16, .ref a20, .long j0, .ref a21, .ref a22, .ref a23, .ref a24])), (a1, .inl (cI, 544, .inl xF0)), (a16, .inl (cI, 256, .inl g1_74)), (a17, .inl (cI, 256, .inl g2_1)), (a21, .inl (cI, 4, .inl xF20)), (a23, .inl (cJ, 240, .inr (.inl xG22)))] H → va_D A [(a0, .inr (12, [.int i0, .ref a1, .ref a2, .ref a3, .ref a4, .int i1, .ref a5, .int i2, .int i3, .int i4, .int i5, .int i6, .int i7, .int i8, .ref a6, .ref a7, .ref a8, .ref a9, .ref a10, .ref a11, .ref a12, .int i9, .ref a13, .int i10, .ref a14, .ref a15, .int i11, .ref a16, .ref a17, .ref a18, .ref a19, .int i12, .int i13, .int i14, .int i15, .int i16, .ref a20, .long j0, .ref a21, .ref a22, .ref a23, .ref a24])), (a1, .inl (cI, 544, .inl xF0)), (a16, .inl (cI, 256, .inl g1_74)), (a17, .inl (cI, 256, .inl g2_1)), (a21, .inl (cI, 4, .inl xF20)), (a23, .inl (cJ, 240, .inr (.inl xG22)))] → va_S A s.heap H locs → lv_has ls 4 [(0, .ref a0), (1, .int p0), (2, .int w2_1), (3, .int w3_74)] → W p l e ({ frames := 1, cells := 0, slots := 0, locals := 24 } : Room) s m ([.ref a0, .int p0] : List Value).toArray below meth c H locs 0 0 Q (F0 m 23 ls []) := by
          intro d
          induction d with
          | zero =>
            intro H locs ls w3_74 g1_74 hr_w3_74 hrl0_74 hrl1_74 hm hP hD hS hl
            omega
          | succ d ih74 =>
            intro H locs ls w3_74 g1_74 hr_w3_74 hrl0_74 hrl1_74 hm hP hD hS hl
            refine lv_iload_n hx hb dX12_fillFew_23 rfl (lv_at hl 3 rfl) ?_
            refine lv_aload_n hx hb dX12_fillFew_24 rfl (lv_at hl 0 rfl) ?_
            refine va_get (D := (dC, dI)) (ci := 12) (v := .ref a21) (C := RX12) (T := TX12) (N := 42) hx hb hwd inlX12 hown hK hP 0 rfl rfl 38 (by decide) (hwd _ kr50_15) (fun _ h9 => h9) rfl dX12_fillFew_25 ?_
            refine lv_iload_n hx hb dX12_fillFew_28 rfl (lv_at hl 1 rfl) ?_
            have h7035 : vp_in p0 4 := (vp_of (by omega) (by omega))
            refine va_iald hx hb hK hP 4 0 rfl rfl h7035 dX12_fillFew_29 ?_
            refine lv_topi (fun x7036 ex7036 => ?_)
            have ix7036 : x7036.toInt = (xF20 p0.toInt.toNat).toInt := by rw [ex7036]; rfl
            have tx7036 : (-1 : Int) ≤ x7036.toInt ∧ x7036.toInt ≤ 60 := by rw [ex7036]; exact p_8 _ (vp_nat h7035)
            refine lv_icmp_ge (tgt := 73) hx hb dX12_fillFew_30 (by decide) (fun c7037 => ?_) (fun c7037 => ?_)
            · rw [ki_le] at c7037
              have sp9 := SP_next (b := x6169) (s2 := w2_1.toInt + 1) hrl0_74 hrl1_74 (by omega) (by omega) (by omega) ex6170 (by omega) rfl
              refine lv_aload_n hx hb dX12_fillFew_73 rfl (lv_at hl 0 rfl) ?_
              refine va_get (D := (dC, dI)) (ci := 12) (v := .ref a17) (C := RX12) (T := TX12) (N := 42) hx hb hwd inlX12 hown hK hP 0 rfl rfl 28 (by decide) (hwd _ kr50_5) (fun _ h9 => h9) rfl dX12_fillFew_74 ?_
              refine lv_iload_n hx hb dX12_fillFew_77 rfl (lv_at hl 2 rfl) ?_
              refine lv_iload_n hx hb dX12_fillFew_78 rfl (lv_at hl 2 rfl) ?_
              refine lv_if_ne (tgt := 86) hx hb dX12_fillFew_79 (by decide) (fun c7038 => ?_) (fun c7038 => ?_)
              · rw [ki_eq] at c7038
                refine lv_bipush (v := 9) hx hb dX12_fillFew_86 (by decide) ?_
                refine va_iast hx hb hK hP hD hS 3 0 rfl rfl (vp_of (by omega) (by omega)) dX12_fillFew_88 (fun H locs hP hD hS => ?_)
                obtain ⟨f7039, ef7039⟩ : ∃ f, f = upd g2_1 w2_1.toNatClampNeg (9 : Int32) := ⟨_, rfl⟩
                replace hP : va_P (dC, dI) vwCl [(a0, .inr (12, [.int i0, .ref a1, .ref a2, .ref a3, .ref a4, .int i1, .ref a5, .int i2, .int i3, .int i4, .int i5, .int i6, .int i7, .int i8, .ref a6, .ref a7, .ref a8, .ref a9, .ref a10, .ref a11, .ref a12, .int i9, .ref a13, .int i10, .ref a14, .ref a15, .int i11, .ref a16, .ref a17, .ref a18, .ref a19, .int i12, .int i13, .int i14, .int i15, .int i16, .ref a20, .long j0, .ref a21, .ref a22, .ref a23, .ref a24])), (a1, .inl (cI, 544, .inl xF0)), (a16, .inl (cI, 256, .inl g1_74)), (a17, .inl (cI, 256, .inl f7039)), (a21, .inl (cI, 4, .inl xF20)), (a23, .inl (cJ, 240, .inr (.inl xG22)))] H := by rw [ef7039]; exact hP
                replace hD : va_D A [(a0, .inr (12, [.int i0, .ref a1, .ref a2, .ref a3, .ref a4, .int i1, .ref a5, .int i2, .int i3, .int i4, .int i5, .int i6, .int i7, .int i8, .ref a6, .ref a7, .ref a8, .ref a9, .ref a10, .ref a11, .ref a12, .int i9, .ref a13, .int i10, .ref a14, .ref a15, .int i11, .ref a16, .ref a17, .ref a18, .ref a19, .int i12, .int i13, .int i14, .int i15, .int i16, .ref a20, .long j0, .ref a21, .ref a22, .ref a23, .ref a24])), (a1, .inl (cI, 544, .inl xF0)), (a16, .inl (cI, 256, .inl g1_74)), (a17, .inl (cI, 256, .inl f7039)), (a21, .inl (cI, 4, .inl xF20)), (a23, .inl (cJ, 240, .inr (.inl xG22)))] := by rw [ef7039]; exact hD
                refine lv_iconst (v := 1) hx hb dX12_fillFew_89 (by decide) ?_
                refine lv_istore_n (lv' := [(3, .int 1), (0, .ref a0), (1, .int p0), (2, .int w2_1)]) hx hb dX12_fillFew_90 rfl hl (by decide) rfl (fun ls hl => ?_)
                have lp83 : ∀ (d : Nat), ∀ (H : Heap) (locs : List Loc) (ls : Array Slot) (w3_83 : Int32) (g1_83 : Nat → Int32), ((1 : Int) ≤ w3_83.toInt ∧ w3_83.toInt ≤ 256) → (FQ g1_83 w2_1.toInt) → (FC g1_83 w2_1.toInt w3_83.toInt) → (256 - w3_83.toInt).toNat < d → va_P (dC, dI) vwCl [(a0, .inr (12, [.int i0, .ref a1, .ref a2, .ref a3, .ref a4, .int i1, .ref a5, .int i2, .int i3, .int i4, .int i5, .int i6, .int i7, .int i8, .ref a6, .ref a7, .ref a8, .ref a9, .ref a10, .ref a11, .ref a12, .int i9, .ref a13, .int i10, .ref a14, .ref a15, .int i11, .ref a16, .ref a17, .ref a18, .ref a19, .int i12, .int i13, .int i14, .int i15, .int i16, .ref a20, .long j0, .ref a21, .ref a22, .ref a23, .ref a24])), (a1, .inl (cI, 544, .inl xF0)), (a16, .inl (cI, 256, .inl g1_74)), (a17, .inl (cI, 256, .inl g1_83)), (a21, .inl (cI, 4, .inl xF20)), (a23, .inl (cJ, 240, .inr (.inl xG22)))] H → va_D A [(a0, .inr (12, [.int i0, .ref a1, .ref a2, .ref a3, .ref a4, .int i1, .ref a5, .int i2, .int i3, .int i4, .int i5, .int i6, .int i7, .int i8, .ref a6, .ref a7, .ref a8, .ref a9, .ref a10, .ref a11, .ref a12, .int i9, .ref a13, .int i10, .ref a14, .ref a15, .int i11, .ref a16, .ref a17, .ref a18, .ref a19, .int i12, .int i13, .int i14, .int i15, .int i16, .ref a20, .long j0, .ref a21, .ref a22, .ref a23, .ref a24])), (a1, .inl (cI, 544, .inl xF0)), (a16, .inl (cI, 256, .inl g1_74)), (a17, .inl (cI, 256, .inl g1_83)), (a21, .inl (cI, 4, .inl xF20)), (a23, .inl (cJ, 240, .inr (.inl xG22)))] → va_S A s.heap H locs → lv_has ls 4 [(0, .ref a0), (1, .int p0), (2, .int w2_1), (3, .int w3_83)] → W p l e ({ frames := 1, cells := 0, slots := 0, locals := 24 } : Room) s m ([.ref a0, .int p0] : List Value).toArray below meth c H locs 0 0 Q (F0 m 91 ls []) := by
                  intro d
                  induction d with
                  | zero =>
                    intro H locs ls w3_83 g1_83 hr_w3_83 hrl0_83 hrl1_83 hm hP hD hS hl
                    omega
                  | succ d ih83 =>
                    intro H locs ls w3_83 g1_83 hr_w3_83 hrl0_83 hrl1_83 hm hP hD hS hl
                    refine lv_iload_n hx hb dX12_fillFew_91 rfl (lv_at hl 3 rfl) ?_
                    refine lv_iload_n hx hb dX12_fillFew_92 rfl (lv_at hl 2 rfl) ?_
                    refine lv_icmp_gt (tgt := 155) hx hb dX12_fillFew_93 (by decide) (fun c7196 => ?_) (fun c7196 => ?_)
                    · rw [ki_lt] at c7196
                      obtain ⟨x7197, ex7197⟩ : ∃ y : Int32, y = w2_1 + 1 := ⟨_, rfl⟩
                      refine lv_iinc (v := x7197) (lv' := [(2, .int x7197), (0, .ref a0), (1, .int p0), (3, .int w3_83)]) hx hb dX12_fillFew_155 hl (k := 2) rfl (by rw [ex7197]; rfl) (by decide) rfl (fun ls hl => ?_)
                      have tx7197 := ia_add (a := w2_1) (b := (1 : Int32)) (by omega) (by omega)
                      rw [← ex7197] at tx7197
                      refine lv_goto (tgt := 2) hx hb dX12_fillFew_158 (by decide) ?_
                      exact ih1 _ _ ls x7197 g1_74 g1_83 (show (0 : Int) ≤ x7197.toInt ∧ x7197.toInt ≤ 256 from ⟨by omega, by omega⟩) (show SP (wat xF0 1) g1_74 x7197.toInt from by rw [show x7197.toInt = w2_1.toInt + 1 by omega]; exact sp9) (show FQ g1_83 x7197.toInt from FQ_next hrl0_83 hrl1_83 (by omega) (by omega) (by omega) (by omega)) (by omega) (hP.sub (ws' := [(a0, .inr (12, [.int i0, .ref a1, .ref a2, .ref a3, .ref a4, .int i1, .ref a5, .int i2, .int i3, .int i4, .int i5, .int i6, .int i7, .int i8, .ref a6, .ref a7, .ref a8, .ref a9, .ref a10, .ref a11, .ref a12, .int i9, .ref a13, .int i10, .ref a14, .ref a15, .int i11, .ref a16, .ref a17, .ref a18, .ref a19, .int i12, .int i13, .int i14, .int i15, .int i16, .ref a20, .long j0, .ref a21, .ref a22, .ref a23, .ref a24])), (a1, .inl (cI, 544, .inl xF0)), (a16, .inl (cI, 256, .inl g1_74)), (a17, .inl (cI, 256, .inl g1_83)), (a21, .inl (cI, 4, .inl xF20)), (a23, .inl (cJ, 240, .inr (.inl xG22)))]) [0, 1, 2, 3, 4, 5] rfl) (hD.sub (ws' := [(a0, .inr (12, [.int i0, .ref a1, .ref a2, .ref a3, .ref a4, .int i1, .ref a5, .int i2, .int i3, .int i4, .int i5, .int i6, .int i7, .int i8, .ref a6, .ref a7, .ref a8, .ref a9, .ref a10, .ref a11, .ref a12, .int i9, .ref a13, .int i10, .ref a14, .ref a15, .int i11, .ref a16, .ref a17, .ref a18, .ref a19, .int i12, .int i13, .int i14, .int i15, .int i16, .ref a20, .long j0, .ref a21, .ref a22, .ref a23, .ref a24])), (a1, .inl (cI, 544, .inl xF0)), (a16, .inl (cI, 256, .inl g1_74)), (a17, .inl (cI, 256, .inl g1_83)), (a21, .inl (cI, 4, .inl xF20)), (a23, .inl (cJ, 240, .inr (.inl xG22)))]) [0, 1, 2, 3, 4, 5] (by decide) rfl) hS (lv_sub hl [1, 2, 0] rfl)
                    · rw [ki_lt] at c7196
                      refine lv_iload_n hx hb dX12_fillFew_96 rfl (lv_at hl 3 rfl) ?_
                      refine lv_iload_n hx hb dX12_fillFew_97 rfl (lv_at hl 2 rfl) ?_
                      refine lv_iconst (v := (-1)) hx hb dX12_fillFew_98 (by decide) ?_
                      refine lv_ixor hx hb dX12_fillFew_99 ?_
                      refine lv_topi (fun x7198 ex7198 => ?_)
                      refine lv_iand hx hb dX12_fillFew_100 ?_
                      refine lv_topi (fun x7199 ex7199 => ?_)
                      have tx7199 := ia_andl (a := w3_83) (m := x7198) (by omega)
                      rw [← ex7199] at tx7199
                      refine lv_if_ne (tgt := 149) hx hb dX12_fillFew_101 (by decide) (fun c7200 => ?_) (fun c7200 => ?_)
                      · rw [ki_eq] at c7200
                        obtain ⟨x7201, ex7201⟩ : ∃ y : Int32, y = w3_83 + 1 := ⟨_, rfl⟩
                        refine lv_iinc (v := x7201) (lv' := [(3, .int x7201), (0, .ref a0), (1, .int p0), (2, .int w2_1)]) hx hb dX12_fillFew_149 hl (k := 3) rfl (by rw [ex7201]; rfl) (by decide) rfl (fun ls hl => ?_)
                        have tx7201 := ia_add (a := w3_83) (b := (1 : Int32)) (by omega) (by omega)
                        rw [← ex7201] at tx7201
                        refine lv_goto (tgt := 91) hx hb dX12_fillFew_152 (by decide) ?_
                        exact ih83 _ _ ls x7201 g1_83 (show (1 : Int) ≤ x7201.toInt ∧ x7201.toInt ≤ 256 from ⟨by omega, by omega⟩) (show FQ g1_83 w2_1.toInt from hrl0_83) (show FC g1_83 w2_1.toInt x7201.toInt from FC_skip1 hrl1_83 rfl (by omega) (by omega) rfl ex7198 ex7199 (by omega) (by omega)) (by omega) (hP.sub (ws' := [(a0, .inr (12, [.int i0, .ref a1, .ref a2, .ref a3, .ref a4, .int i1, .ref a5, .int i2, .int i3, .int i4, .int i5, .int i6, .int i7, .int i8, .ref a6, .ref a7, .ref a8, .ref a9, .ref a10, .ref a11, .ref a12, .int i9, .ref a13, .int i10, .ref a14, .ref a15, .int i11, .ref a16, .ref a17, .ref a18, .ref a19, .int i12, .int i13, .int i14, .int i15, .int i16, .ref a20, .long j0, .ref a21, .ref a22, .ref a23, .ref a24])), (a1, .inl (cI, 544, .inl xF0)), (a16, .inl (cI, 256, .inl g1_74)), (a17, .inl (cI, 256, .inl g1_83)), (a21, .inl (cI, 4, .inl xF20)), (a23, .inl (cJ, 240, .inr (.inl xG22)))]) [0, 1, 2, 3, 4, 5] rfl) (hD.sub (ws' := [(a0, .inr (12, [.int i0, .ref a1, .ref a2, .ref a3, .ref a4, .int i1, .ref a5, .int i2, .int i3, .int i4, .int i5, .int i6, .int i7, .int i8, .ref a6, .ref a7, .ref a8, .ref a9, .ref a10, .ref a11, .ref a12, .int i9, .ref a13, .int i10, .ref a14, .ref a15, .int i11, .ref a16, .ref a17, .ref a18, .ref a19, .int i12, .int i13, .int i14, .int i15, .int i16, .ref a20, .long j0, .ref a21, .ref a22, .ref a23, .ref a24])), (a1, .inl (cI, 544, .inl xF0)), (a16, .inl (cI, 256, .inl g1_74)), (a17, .inl (cI, 256, .inl g1_83)), (a21, .inl (cI, 4, .inl xF20)), (a23, .inl (cJ, 240, .inr (.inl xG22)))]) [0, 1, 2, 3, 4, 5] (by decide) rfl) hS (lv_sub hl [1, 2, 3, 0] rfl)
                      · rw [ki_eq] at c7200
                        refine lv_aload_n hx hb dX12_fillFew_104 rfl (lv_at hl 0 rfl) ?_
                        refine va_get (D := (dC, dI)) (ci := 12) (v := .ref a16) (C := RX12) (T := TX12) (N := 42) hx hb hwd inlX12 hown hK hP 0 rfl rfl 27 (by decide) (hwd _ kr50_4) (fun _ h9 => h9) rfl dX12_fillFew_105 ?_
                        refine lv_iload_n hx hb dX12_fillFew_108 rfl (lv_at hl 3 rfl) ?_
                        have h7202 : vp_in w3_83 256 := (vp_of (by omega) (by omega))
                        refine va_iald hx hb hK hP 2 0 rfl rfl h7202 dX12_fillFew_109 ?_
                        refine lv_topi (fun x7203 ex7203 => ?_)
                        refine lv_aload_n hx hb dX12_fillFew_110 rfl (lv_at hl 0 rfl) ?_
                        refine va_get (D := (dC, dI)) (ci := 12) (v := .ref a1) (C := RX12) (T := TX12) (N := 42) hx hb hwd inlX12 hown hK hP 0 rfl rfl 1 (by decide) (hwd _ kr49_2) (fun _ h9 => h9) rfl dX12_fillFew_111 ?_
                        refine lv_iconst (v := 1) hx hb dX12_fillFew_114 (by decide) ?_
                        have h7204 : vp_in (1 : Int32) 544 := (vin (by decide))
                        refine va_iald hx hb hK hP 1 0 rfl rfl h7204 dX12_fillFew_115 ?_
                        refine lv_topi (fun x7205 ex7205 => ?_)
                        have ix7205 := wat_lit (k := 1) ex7205 (by decide)
                        have wh7206 : whd cp xF0 := p_7.1
                        unfold whd at wh7206
                        refine lv_icmp_le (tgt := 122) hx hb dX12_fillFew_116 (by decide) (fun c7207 => ?_) (fun c7207 => ?_)
                        · rw [ki_le] at c7207
                          refine lv_aload_n hx hb dX12_fillFew_122 rfl (lv_at hl 0 rfl) ?_
                          refine va_get (D := (dC, dI)) (ci := 12) (v := .ref a17) (C := RX12) (T := TX12) (N := 42) hx hb hwd inlX12 hown hK hP 0 rfl rfl 28 (by decide) (hwd _ kr50_5) (fun _ h9 => h9) rfl dX12_fillFew_123 ?_
                          refine lv_iload_n hx hb dX12_fillFew_126 rfl (lv_at hl 2 rfl) ?_
                          refine lv_aload_n hx hb dX12_fillFew_127 rfl (lv_at hl 0 rfl) ?_
                          refine va_get (D := (dC, dI)) (ci := 12) (v := .ref a17) (C := RX12) (T := TX12) (N := 42) hx hb hwd inlX12 hown hK hP 0 rfl rfl 28 (by decide) (hwd _ kr50_5) (fun _ h9 => h9) rfl dX12_fillFew_128 ?_
                          refine lv_iload_n hx hb dX12_fillFew_131 rfl (lv_at hl 2 rfl) ?_
                          have h7208 : vp_in w2_1 256 := (vp_of (by omega) (by omega))
                          refine va_iald hx hb hK hP 3 0 rfl rfl h7208 dX12_fillFew_132 ?_
                          refine lv_topi (fun x7209 ex7209 => ?_)
                          have qx7209 := FC_s hrl1_83 rfl ex7209
                          refine lv_iconst (v := 1) hx hb dX12_fillFew_133 (by decide) ?_
                          refine lv_aload_n hx hb dX12_fillFew_134 rfl (lv_at hl 0 rfl) ?_
                          refine va_get (D := (dC, dI)) (ci := 12) (v := .ref a17) (C := RX12) (T := TX12) (N := 42) hx hb hwd inlX12 hown hK hP 0 rfl rfl 28 (by decide) (hwd _ kr50_5) (fun _ h9 => h9) rfl dX12_fillFew_135 ?_
                          refine lv_iload_n hx hb dX12_fillFew_138 rfl (lv_at hl 2 rfl) ?_
                          refine lv_iload_n hx hb dX12_fillFew_139 rfl (lv_at hl 3 rfl) ?_
                          refine lv_iconst (v := (-1)) hx hb dX12_fillFew_140 (by decide) ?_
                          refine lv_ixor hx hb dX12_fillFew_141 ?_
                          refine lv_topi (fun x7210 ex7210 => ?_)
                          refine lv_iand hx hb dX12_fillFew_142 ?_
                          refine lv_topi (fun x7211 ex7211 => ?_)
                          have tx7211 := ia_andl (a := w2_1) (m := x7210) (by omega)
                          rw [← ex7211] at tx7211
                          have h7212 : vp_in x7211 256 := (vp_of (by omega) (by omega))
                          refine va_iald hx hb hK hP 3 0 rfl rfl h7212 dX12_fillFew_143 ?_
                          refine lv_topi (fun x7213 ex7213 => ?_)
                          have qx7213 := few_q hrl0_83 hrl1_83 (by omega) (by omega) ex7213
                          refine lv_iadd hx hb dX12_fillFew_144 ?_
                          refine lv_topi (fun x7214 ex7214 => ?_)
                          have tx7214 := ia_add (a := (1 : Int32)) (b := x7213) (by omega) (by omega)
                          rw [← ex7214] at tx7214
                          refine va_mmin hx hb (by rw [hml]; exact hl.1.symm) hown (hwd _ kr52_13) (hwd _ kr27_2) (hwd _ kr6_4) (hwd _ kr27_3) (Nat.le_of_ble_eq_true rfl) (Nat.le_of_ble_eq_true rfl) (Nat.le_of_ble_eq_true rfl) (Nat.le_of_ble_eq_true rfl) dX12_fillFew_145 ?_
                          refine lv_topi (fun x7215 ex7215 => ?_)
                          have tx7215 := mx_min x7209 x7214
                          rw [← ex7215] at tx7215
                          refine va_iast hx hb hK hP hD hS 3 0 rfl rfl (vp_of (by omega) (by omega)) dX12_fillFew_148 (fun H locs hP hD hS => ?_)
                          obtain ⟨f7216, ef7216⟩ : ∃ f, f = upd g1_83 w2_1.toNatClampNeg x7215 := ⟨_, rfl⟩
                          replace hP : va_P (dC, dI) vwCl [(a0, .inr (12, [.int i0, .ref a1, .ref a2, .ref a3, .ref a4, .int i1, .ref a5, .int i2, .int i3, .int i4, .int i5, .int i6, .int i7, .int i8, .ref a6, .ref a7, .ref a8, .ref a9, .ref a10, .ref a11, .ref a12, .int i9, .ref a13, .int i10, .ref a14, .ref a15, .int i11, .ref a16, .ref a17, .ref a18, .ref a19, .int i12, .int i13, .int i14, .int i15, .int i16, .ref a20, .long j0, .ref a21, .ref a22, .ref a23, .ref a24])), (a1, .inl (cI, 544, .inl xF0)), (a16, .inl (cI, 256, .inl g1_74)), (a17, .inl (cI, 256, .inl f7216)), (a21, .inl (cI, 4, .inl xF20)), (a23, .inl (cJ, 240, .inr (.inl xG22)))] H := by rw [ef7216]; exact hP
                          replace hD : va_D A [(a0, .inr (12, [.int i0, .ref a1, .ref a2, .ref a3, .ref a4, .int i1, .ref a5, .int i2, .int i3, .int i4, .int i5, .int i6, .int i7, .int i8, .ref a6, .ref a7, .ref a8, .ref a9, .ref a10, .ref a11, .ref a12, .int i9, .ref a13, .int i10, .ref a14, .ref a15, .int i11, .ref a16, .ref a17, .ref a18, .ref a19, .int i12, .int i13, .int i14, .int i15, .int i16, .ref a20, .long j0, .ref a21, .ref a22, .ref a23, .ref a24])), (a1, .inl (cI, 544, .inl xF0)), (a16, .inl (cI, 256, .inl g1_74)), (a17, .inl (cI, 256, .inl f7216)), (a21, .inl (cI, 4, .inl xF20)), (a23, .inl (cJ, 240, .inr (.inl xG22)))] := by rw [ef7216]; exact hD
                          obtain ⟨x7217, ex7217⟩ : ∃ y : Int32, y = w3_83 + 1 := ⟨_, rfl⟩
                          refine lv_iinc (v := x7217) (lv' := [(3, .int x7217), (0, .ref a0), (1, .int p0), (2, .int w2_1)]) hx hb dX12_fillFew_149 hl (k := 3) rfl (by rw [ex7217]; rfl) (by decide) rfl (fun ls hl => ?_)
                          have tx7217 := ia_add (a := w3_83) (b := (1 : Int32)) (by omega) (by omega)
                          rw [← ex7217] at tx7217
                          refine lv_goto (tgt := 91) hx hb dX12_fillFew_152 (by decide) ?_
                          exact ih83 _ _ ls x7217 f7216 (show (1 : Int) ≤ x7217.toInt ∧ x7217.toInt ≤ 256 from ⟨by omega, by omega⟩) (show FQ f7216 w2_1.toInt from by rw [ef7216]; exact FQ_upd hrl0_83 rfl) (show FC f7216 w2_1.toInt x7217.toInt from by rw [ef7216]; exact FC_set hrl0_83 hrl1_83 rfl (by omega) (by omega) rfl ex7210 ex7211 qx7209.1 ex7213 (by omega) (by omega) (by omega) (by omega) (by omega)) (by omega) (hP.sub (ws' := [(a0, .inr (12, [.int i0, .ref a1, .ref a2, .ref a3, .ref a4, .int i1, .ref a5, .int i2, .int i3, .int i4, .int i5, .int i6, .int i7, .int i8, .ref a6, .ref a7, .ref a8, .ref a9, .ref a10, .ref a11, .ref a12, .int i9, .ref a13, .int i10, .ref a14, .ref a15, .int i11, .ref a16, .ref a17, .ref a18, .ref a19, .int i12, .int i13, .int i14, .int i15, .int i16, .ref a20, .long j0, .ref a21, .ref a22, .ref a23, .ref a24])), (a1, .inl (cI, 544, .inl xF0)), (a16, .inl (cI, 256, .inl g1_74)), (a17, .inl (cI, 256, .inl f7216)), (a21, .inl (cI, 4, .inl xF20)), (a23, .inl (cJ, 240, .inr (.inl xG22)))]) [0, 1, 2, 3, 4, 5] rfl) (hD.sub (ws' := [(a0, .inr (12, [.int i0, .ref a1, .ref a2, .ref a3, .ref a4, .int i1, .ref a5, .int i2, .int i3, .int i4, .int i5, .int i6, .int i7, .int i8, .ref a6, .ref a7, .ref a8, .ref a9, .ref a10, .ref a11, .ref a12, .int i9, .ref a13, .int i10, .ref a14, .ref a15, .int i11, .ref a16, .ref a17, .ref a18, .ref a19, .int i12, .int i13, .int i14, .int i15, .int i16, .ref a20, .long j0, .ref a21, .ref a22, .ref a23, .ref a24])), (a1, .inl (cI, 544, .inl xF0)), (a16, .inl (cI, 256, .inl g1_74)), (a17, .inl (cI, 256, .inl f7216)), (a21, .inl (cI, 4, .inl xF20)), (a23, .inl (cJ, 240, .inr (.inl xG22)))]) [0, 1, 2, 3, 4, 5] (by decide) rfl) hS (lv_sub hl [1, 2, 3, 0] rfl)
                        · rw [ki_le] at c7207
                          refine lv_goto (tgt := 149) hx hb dX12_fillFew_119 (by decide) ?_
                          obtain ⟨x7218, ex7218⟩ : ∃ y : Int32, y = w3_83 + 1 := ⟨_, rfl⟩
                          refine lv_iinc (v := x7218) (lv' := [(3, .int x7218), (0, .ref a0), (1, .int p0), (2, .int w2_1)]) hx hb dX12_fillFew_149 hl (k := 3) rfl (by rw [ex7218]; rfl) (by decide) rfl (fun ls hl => ?_)
                          have tx7218 := ia_add (a := w3_83) (b := (1 : Int32)) (by omega) (by omega)
                          rw [← ex7218] at tx7218
                          refine lv_goto (tgt := 91) hx hb dX12_fillFew_152 (by decide) ?_
                          exact ih83 _ _ ls x7218 g1_83 (show (1 : Int) ≤ x7218.toInt ∧ x7218.toInt ≤ 256 from ⟨by omega, by omega⟩) (show FQ g1_83 w2_1.toInt from hrl0_83) (show FC g1_83 w2_1.toInt x7218.toInt from FC_skip2 hrl1_83 (by omega) (by omega) rfl sp9 ex7203 (by omega) (by omega)) (by omega) (hP.sub (ws' := [(a0, .inr (12, [.int i0, .ref a1, .ref a2, .ref a3, .ref a4, .int i1, .ref a5, .int i2, .int i3, .int i4, .int i5, .int i6, .int i7, .int i8, .ref a6, .ref a7, .ref a8, .ref a9, .ref a10, .ref a11, .ref a12, .int i9, .ref a13, .int i10, .ref a14, .ref a15, .int i11, .ref a16, .ref a17, .ref a18, .ref a19, .int i12, .int i13, .int i14, .int i15, .int i16, .ref a20, .long j0, .ref a21, .ref a22, .ref a23, .ref a24])), (a1, .inl (cI, 544, .inl xF0)), (a16, .inl (cI, 256, .inl g1_74)), (a17, .inl (cI, 256, .inl g1_83)), (a21, .inl (cI, 4, .inl xF20)), (a23, .inl (cJ, 240, .inr (.inl xG22)))]) [0, 1, 2, 3, 4, 5] rfl) (hD.sub (ws' := [(a0, .inr (12, [.int i0, .ref a1, .ref a2, .ref a3, .ref a4, .int i1, .ref a5, .int i2, .int i3, .int i4, .int i5, .int i6, .int i7, .int i8, .ref a6, .ref a7, .ref a8, .ref a9, .ref a10, .ref a11, .ref a12, .int i9, .ref a13, .int i10, .ref a14, .ref a15, .int i11, .ref a16, .ref a17, .ref a18, .ref a19, .int i12, .int i13, .int i14, .int i15, .int i16, .ref a20, .long j0, .ref a21, .ref a22, .ref a23, .ref a24])), (a1, .inl (cI, 544, .inl xF0)), (a16, .inl (cI, 256, .inl g1_74)), (a17, .inl (cI, 256, .inl g1_83)), (a21, .inl (cI, 4, .inl xF20)), (a23, .inl (cJ, 240, .inr (.inl xG22)))]) [0, 1, 2, 3, 4, 5] (by decide) rfl) hS (lv_sub hl [1, 2, 3, 0] rfl)
                exact lp83 _ _ _ ls (1) f7039 (show (1 : Int) ≤ (1 : Int32).toInt ∧ (1 : Int32).toInt ≤ 256 from ⟨by omega, by omega⟩) (show FQ f7039 w2_1.toInt from by rw [ef7039]; exact FQ_upd hrl1_1 rfl) (show FC f7039 w2_1.toInt (1 : Int32).toInt from by rw [ef7039]; exact FC_init rfl (by omega) (by omega) (by decide) (by omega)) (Nat.lt_succ_self _) (hP.sub (ws' := [(a0, .inr (12, [.int i0, .ref a1, .ref a2, .ref a3, .ref a4, .int i1, .ref a5, .int i2, .int i3, .int i4, .int i5, .int i6, .int i7, .int i8, .ref a6, .ref a7, .ref a8, .ref a9, .ref a10, .ref a11, .ref a12, .int i9, .ref a13, .int i10, .ref a14, .ref a15, .int i11, .ref a16, .ref a17, .ref a18, .ref a19, .int i12, .int i13, .int i14, .int i15, .int i16, .ref a20, .long j0, .ref a21, .ref a22, .ref a23, .ref a24])), (a1, .inl (cI, 544, .inl xF0)), (a16, .inl (cI, 256, .inl g1_74)), (a17, .inl (cI, 256, .inl f7039)), (a21, .inl (cI, 4, .inl xF20)), (a23, .inl (cJ, 240, .inr (.inl xG22)))]) [0, 1, 2, 3, 4, 5] rfl) (hD.sub (ws' := [(a0, .inr (12, [.int i0, .ref a1, .ref a2, .ref a3, .ref a4, .int i1, .ref a5, .int i2, .int i3, .int i4, .int i5, .int i6, .int i7, .int i8, .ref a6, .ref a7, .ref a8, .ref a9, .ref a10, .ref a11, .ref a12, .int i9, .ref a13, .int i10, .ref a14, .ref a15, .int i11, .ref a16, .ref a17, .ref a18, .ref a19, .int i12, .int i13, .int i14, .int i15, .int i16, .ref a20, .long j0, .ref a21, .ref a22, .ref a23, .ref a24])), (a1, .inl (cI, 544, .inl xF0)), (a16, .inl (cI, 256, .inl g1_74)), (a17, .inl (cI, 256, .inl f7039)), (a21, .inl (cI, 4, .inl xF20)), (a23, .inl (cJ, 240, .inr (.inl xG22)))]) [0, 1, 2, 3, 4, 5] (by decide) rfl) hS (lv_sub hl [1, 2, 3, 0] rfl)
              · rw [ki_eq] at c7038
                refine lv_iconst (v := 0) hx hb dX12_fillFew_82 (by decide) ?_
                refine lv_goto (tgt := 88) hx hb dX12_fillFew_83 (by decide) ?_
                refine va_iast hx hb hK hP hD hS 3 0 rfl rfl (vp_of (by omega) (by omega)) dX12_fillFew_88 (fun H locs hP hD hS => ?_)
                obtain ⟨f7219, ef7219⟩ : ∃ f, f = upd g2_1 w2_1.toNatClampNeg (0 : Int32) := ⟨_, rfl⟩
                replace hP : va_P (dC, dI) vwCl [(a0, .inr (12, [.int i0, .ref a1, .ref a2, .ref a3, .ref a4, .int i1, .ref a5, .int i2, .int i3, .int i4, .int i5, .int i6, .int i7, .int i8, .ref a6, .ref a7, .ref a8, .ref a9, .ref a10, .ref a11, .ref a12, .int i9, .ref a13, .int i10, .ref a14, .ref a15, .int i11, .ref a16, .ref a17, .ref a18, .ref a19, .int i12, .int i13, .int i14, .int i15, .int i16, .ref a20, .long j0, .ref a21, .ref a22, .ref a23, .ref a24])), (a1, .inl (cI, 544, .inl xF0)), (a16, .inl (cI, 256, .inl g1_74)), (a17, .inl (cI, 256, .inl f7219)), (a21, .inl (cI, 4, .inl xF20)), (a23, .inl (cJ, 240, .inr (.inl xG22)))] H := by rw [ef7219]; exact hP
                replace hD : va_D A [(a0, .inr (12, [.int i0, .ref a1, .ref a2, .ref a3, .ref a4, .int i1, .ref a5, .int i2, .int i3, .int i4, .int i5, .int i6, .int i7, .int i8, .ref a6, .ref a7, .ref a8, .ref a9, .ref a10, .ref a11, .ref a12, .int i9, .ref a13, .int i10, .ref a14, .ref a15, .int i11, .ref a16, .ref a17, .ref a18, .ref a19, .int i12, .int i13, .int i14, .int i15, .int i16, .ref a20, .long j0, .ref a21, .ref a22, .ref a23, .ref a24])), (a1, .inl (cI, 544, .inl xF0)), (a16, .inl (cI, 256, .inl g1_74)), (a17, .inl (cI, 256, .inl f7219)), (a21, .inl (cI, 4, .inl xF20)), (a23, .inl (cJ, 240, .inr (.inl xG22)))] := by rw [ef7219]; exact hD
                refine lv_iconst (v := 1) hx hb dX12_fillFew_89 (by decide) ?_
                refine lv_istore_n (lv' := [(3, .int 1), (0, .ref a0), (1, .int p0), (2, .int w2_1)]) hx hb dX12_fillFew_90 rfl hl (by decide) rfl (fun ls hl => ?_)
                have jp84 : ∀ (H : Heap) (locs : List Loc) (ls : Array Slot), (FQ f7219 w2_1.toInt) → (FC f7219 w2_1.toInt (1 : Int32).toInt) → va_P (dC, dI) vwCl [(a0, .inr (12, [.int i0, .ref a1, .ref a2, .ref a3, .ref a4, .int i1, .ref a5, .int i2, .int i3, .int i4, .int i5, .int i6, .int i7, .int i8, .ref a6, .ref a7, .ref a8, .ref a9, .ref a10, .ref a11, .ref a12, .int i9, .ref a13, .int i10, .ref a14, .ref a15, .int i11, .ref a16, .ref a17, .ref a18, .ref a19, .int i12, .int i13, .int i14, .int i15, .int i16, .ref a20, .long j0, .ref a21, .ref a22, .ref a23, .ref a24])), (a1, .inl (cI, 544, .inl xF0)), (a16, .inl (cI, 256, .inl g1_74)), (a17, .inl (cI, 256, .inl f7219)), (a21, .inl (cI, 4, .inl xF20)), (a23, .inl (cJ, 240, .inr (.inl xG22)))] H → va_D A [(a0, .inr (12, [.int i0, .ref a1, .ref a2, .ref a3, .ref a4, .int i1, .ref a5, .int i2, .int i3, .int i4, .int i5, .int i6, .int i7, .int i8, .ref a6, .ref a7, .ref a8, .ref a9, .ref a10, .ref a11, .ref a12, .int i9, .ref a13, .int i10, .ref a14, .ref a15, .int i11, .ref a16, .ref a17, .ref a18, .ref a19, .int i12, .int i13, .int i14, .int i15, .int i16, .ref a20, .long j0, .ref a21, .ref a22, .ref a23, .ref a24])), (a1, .inl (cI, 544, .inl xF0)), (a16, .inl (cI, 256, .inl g1_74)), (a17, .inl (cI, 256, .inl f7219)), (a21, .inl (cI, 4, .inl xF20)), (a23, .inl (cJ, 240, .inr (.inl xG22)))] → va_S A s.heap H locs → lv_has ls 4 [(0, .ref a0), (1, .int p0), (2, .int w2_1), (3, .int 1)] → W p l e ({ frames := 1, cells := 0, slots := 0, locals := 24 } : Room) s m ([.ref a0, .int p0] : List Value).toArray below meth c H locs 0 0 Q (F0 m 91 ls []) := by
                  intro H locs ls hrl0_84 hrl1_84 hP hD hS hl
                  refine lv_iload_n hx hb dX12_fillFew_91 rfl (lv_at hl 3 rfl) ?_
                  refine lv_iload_n hx hb dX12_fillFew_92 rfl (lv_at hl 2 rfl) ?_
                  refine lv_icmp_gt (tgt := 155) hx hb dX12_fillFew_93 (by decide) (fun c7226 => ?_) (fun c7226 => ?_)
                  · rw [ki_lt] at c7226
                    obtain ⟨x7227, ex7227⟩ : ∃ y : Int32, y = w2_1 + 1 := ⟨_, rfl⟩
                    refine lv_iinc (v := x7227) (lv' := [(2, .int x7227), (0, .ref a0), (1, .int p0), (3, .int 1)]) hx hb dX12_fillFew_155 hl (k := 2) rfl (by rw [ex7227]; rfl) (by decide) rfl (fun ls hl => ?_)
                    have tx7227 := ia_add (a := w2_1) (b := (1 : Int32)) (by omega) (by omega)
                    rw [← ex7227] at tx7227
                    refine lv_goto (tgt := 2) hx hb dX12_fillFew_158 (by decide) ?_
                    exact ih1 _ _ ls x7227 g1_74 f7219 (show (0 : Int) ≤ x7227.toInt ∧ x7227.toInt ≤ 256 from ⟨by omega, by omega⟩) (show SP (wat xF0 1) g1_74 x7227.toInt from by rw [show x7227.toInt = w2_1.toInt + 1 by omega]; exact sp9) (show FQ f7219 x7227.toInt from FQ_next hrl0_84 hrl1_84 (by omega) (by omega) (by omega) (by omega)) (by omega) (hP.sub (ws' := [(a0, .inr (12, [.int i0, .ref a1, .ref a2, .ref a3, .ref a4, .int i1, .ref a5, .int i2, .int i3, .int i4, .int i5, .int i6, .int i7, .int i8, .ref a6, .ref a7, .ref a8, .ref a9, .ref a10, .ref a11, .ref a12, .int i9, .ref a13, .int i10, .ref a14, .ref a15, .int i11, .ref a16, .ref a17, .ref a18, .ref a19, .int i12, .int i13, .int i14, .int i15, .int i16, .ref a20, .long j0, .ref a21, .ref a22, .ref a23, .ref a24])), (a1, .inl (cI, 544, .inl xF0)), (a16, .inl (cI, 256, .inl g1_74)), (a17, .inl (cI, 256, .inl f7219)), (a21, .inl (cI, 4, .inl xF20)), (a23, .inl (cJ, 240, .inr (.inl xG22)))]) [0, 1, 2, 3, 4, 5] rfl) (hD.sub (ws' := [(a0, .inr (12, [.int i0, .ref a1, .ref a2, .ref a3, .ref a4, .int i1, .ref a5, .int i2, .int i3, .int i4, .int i5, .int i6, .int i7, .int i8, .ref a6, .ref a7, .ref a8, .ref a9, .ref a10, .ref a11, .ref a12, .int i9, .ref a13, .int i10, .ref a14, .ref a15, .int i11, .ref a16, .ref a17, .ref a18, .ref a19, .int i12, .int i13, .int i14, .int i15, .int i16, .ref a20, .long j0, .ref a21, .ref a22, .ref a23, .ref a24])), (a1, .inl (cI, 544, .inl xF0)), (a16, .inl (cI, 256, .inl g1_74)), (a17, .inl (cI, 256, .inl f7219)), (a21, .inl (cI, 4, .inl xF20)), (a23, .inl (cJ, 240, .inr (.inl xG22)))]) [0, 1, 2, 3, 4, 5] (by decide) rfl) hS (lv_sub hl [1, 2, 0] rfl)
                  · rw [ki_lt] at c7226
                    exfalso
                    omega
                exact jp84 _ _ ls (show FQ f7219 w2_1.toInt from by rw [ef7219]; exact FQ_upd hrl1_1 rfl) (show FC f7219 w2_1.toInt (1 : Int32).toInt from by rw [ef7219]; exact FC_init rfl (by omega) (by omega) (by decide) (by omega)) (hP.sub (ws' := [(a0, .inr (12, [.int i0, .ref a1, .ref a2, .ref a3, .ref a4, .int i1, .ref a5, .int i2, .int i3, .int i4, .int i5, .int i6, .int i7, .int i8, .ref a6, .ref a7, .ref a8, .ref a9, .ref a10, .ref a11, .ref a12, .int i9, .ref a13, .int i10, .ref a14, .ref a15, .int i11, .ref a16, .ref a17, .ref a18, .ref a19, .int i12, .int i13, .int i14, .int i15, .int i16, .ref a20, .long j0, .ref a21, .ref a22, .ref a23, .ref a24])), (a1, .inl (cI, 544, .inl xF0)), (a16, .inl (cI, 256, .inl g1_74)), (a17, .inl (cI, 256, .inl f7219)), (a21, .inl (cI, 4, .inl xF20)), (a23, .inl (cJ, 240, .inr (.inl xG22)))]) [0, 1, 2, 3, 4, 5] rfl) (hD.sub (ws' := [(a0, .inr (12, [.int i0, .ref a1, .ref a2, .ref a3, .ref a4, .int i1, .ref a5, .int i2, .int i3, .int i4, .int i5, .int i6, .int i7, .int i8, .ref a6, .ref a7, .ref a8, .ref a9, .ref a10, .ref a11, .ref a12, .int i9, .ref a13, .int i10, .ref a14, .ref a15, .int i11, .ref a16, .ref a17, .ref a18, .ref a19, .int i12, .int i13, .int i14, .int i15, .int i16, .ref a20, .long j0, .ref a21, .ref a22, .ref a23, .ref a24])), (a1, .inl (cI, 544, .inl xF0)), (a16, .inl (cI, 256, .inl g1_74)), (a17, .inl (cI, 256, .inl f7219)), (a21, .inl (cI, 4, .inl xF20)), (a23, .inl (cJ, 240, .inr (.inl xG22)))]) [0, 1, 2, 3, 4, 5] (by decide) rfl) hS (lv_sub hl [1, 2, 3, 0] rfl)
            · rw [ki_le] at c7037
              refine lv_aload_n hx hb dX12_fillFew_33 rfl (lv_at hl 0 rfl) ?_
              refine va_get (D := (dC, dI)) (ci := 12) (v := .ref a16) (C := RX12) (T := TX12) (N := 42) hx hb hwd inlX12 hown hK hP 0 rfl rfl 27 (by decide) (hwd _ kr50_4) (fun _ h9 => h9) rfl dX12_fillFew_34 ?_
              refine lv_iload_n hx hb dX12_fillFew_37 rfl (lv_at hl 2 rfl) ?_
              refine lv_dup2_11 hx hb dX12_fillFew_38 rfl rfl ?_
              have h7228 : vp_in w2_1 256 := (vp_of (by omega) (by omega))
              refine va_iald hx hb hK hP 2 0 rfl rfl h7228 dX12_fillFew_39 ?_
              refine lv_topi (fun x7229 ex7229 => ?_)
              refine lv_iload_n hx hb dX12_fillFew_40 rfl (lv_at hl 2 rfl) ?_
              refine lv_iload_n hx hb dX12_fillFew_41 rfl (lv_at hl 3 rfl) ?_
              refine lv_ishr hx hb dX12_fillFew_42 ?_
              refine lv_topi (fun x7230 ex7230 => ?_)
              refine lv_iconst (v := 1) hx hb dX12_fillFew_43 (by decide) ?_
              refine lv_iand hx hb dX12_fillFew_44 ?_
              refine lv_topi (fun x7231 ex7231 => ?_)
              have tx7231 := ia_and (a := x7230) (m := (1 : Int32)) (by decide)
              rw [← ex7231] at tx7231
              refine lv_iconst (v := 1) hx hb dX12_fillFew_45 (by decide) ?_
              refine lv_icmp_ne (tgt := 64) hx hb dX12_fillFew_46 (by decide) (fun c7232 => ?_) (fun c7232 => ?_)
              · rw [ki_eq] at c7232
                refine lv_iconst (v := 0) hx hb dX12_fillFew_64 (by decide) ?_
                refine lv_iadd hx hb dX12_fillFew_65 ?_
                refine lv_topi (fun x7233 ex7233 => ?_)
                have b_b7234 := i32_b x7229
                have tx7233 := ia_add (a := x7229) (b := (0 : Int32)) (by omega) (by omega)
                rw [← ex7233] at tx7233
                refine va_iast hx hb hK hP hD hS 2 0 rfl rfl (vp_of (by omega) (by omega)) dX12_fillFew_66 (fun H locs hP hD hS => ?_)
                obtain ⟨f7235, ef7235⟩ : ∃ f, f = upd g1_74 w2_1.toNatClampNeg x7233 := ⟨_, rfl⟩
                replace hP : va_P (dC, dI) vwCl [(a0, .inr (12, [.int i0, .ref a1, .ref a2, .ref a3, .ref a4, .int i1, .ref a5, .int i2, .int i3, .int i4, .int i5, .int i6, .int i7, .int i8, .ref a6, .ref a7, .ref a8, .ref a9, .ref a10, .ref a11, .ref a12, .int i9, .ref a13, .int i10, .ref a14, .ref a15, .int i11, .ref a16, .ref a17, .ref a18, .ref a19, .int i12, .int i13, .int i14, .int i15, .int i16, .ref a20, .long j0, .ref a21, .ref a22, .ref a23, .ref a24])), (a1, .inl (cI, 544, .inl xF0)), (a16, .inl (cI, 256, .inl f7235)), (a17, .inl (cI, 256, .inl g2_1)), (a21, .inl (cI, 4, .inl xF20)), (a23, .inl (cJ, 240, .inr (.inl xG22)))] H := by rw [ef7235]; exact hP
                replace hD : va_D A [(a0, .inr (12, [.int i0, .ref a1, .ref a2, .ref a3, .ref a4, .int i1, .ref a5, .int i2, .int i3, .int i4, .int i5, .int i6, .int i7, .int i8, .ref a6, .ref a7, .ref a8, .ref a9, .ref a10, .ref a11, .ref a12, .int i9, .ref a13, .int i10, .ref a14, .ref a15, .int i11, .ref a16, .ref a17, .ref a18, .ref a19, .int i12, .int i13, .int i14, .int i15, .int i16, .ref a20, .long j0, .ref a21, .ref a22, .ref a23, .ref a24])), (a1, .inl (cI, 544, .inl xF0)), (a16, .inl (cI, 256, .inl f7235)), (a17, .inl (cI, 256, .inl g2_1)), (a21, .inl (cI, 4, .inl xF20)), (a23, .inl (cJ, 240, .inr (.inl xG22)))] := by rw [ef7235]; exact hD
                obtain ⟨x7236, ex7236⟩ : ∃ y : Int32, y = w3_74 + 1 := ⟨_, rfl⟩
                refine lv_iinc (v := x7236) (lv' := [(3, .int x7236), (0, .ref a0), (1, .int p0), (2, .int w2_1)]) hx hb dX12_fillFew_67 hl (k := 3) rfl (by rw [ex7236]; rfl) (by decide) rfl (fun ls hl => ?_)
                have tx7236 := ia_add (a := w3_74) (b := (1 : Int32)) (by omega) (by omega)
                rw [← ex7236] at tx7236
                refine lv_goto (tgt := 23) hx hb dX12_fillFew_70 (by decide) ?_
                exact ih74 _ _ ls x7236 f7235 (show (0 : Int) ≤ x7236.toInt ∧ x7236.toInt ≤ 8 from ⟨by omega, by omega⟩) (show SP (wat xF0 1) f7235 w2_1.toInt from by rw [ef7235]; exact SP_upd hrl0_74 rfl) (show SB (wat xF0 1) f7235 w2_1.toInt x7236.toInt from by rw [ef7235]; exact SB_zero hrl1_74 rfl ex7229 ex7233 (by omega) rfl (by omega) (by omega) ex7230 ex7231 (by omega) (by omega)) (by omega) (hP.sub (ws' := [(a0, .inr (12, [.int i0, .ref a1, .ref a2, .ref a3, .ref a4, .int i1, .ref a5, .int i2, .int i3, .int i4, .int i5, .int i6, .int i7, .int i8, .ref a6, .ref a7, .ref a8, .ref a9, .ref a10, .ref a11, .ref a12, .int i9, .ref a13, .int i10, .ref a14, .ref a15, .int i11, .ref a16, .ref a17, .ref a18, .ref a19, .int i12, .int i13, .int i14, .int i15, .int i16, .ref a20, .long j0, .ref a21, .ref a22, .ref a23, .ref a24])), (a1, .inl (cI, 544, .inl xF0)), (a16, .inl (cI, 256, .inl f7235)), (a17, .inl (cI, 256, .inl g2_1)), (a21, .inl (cI, 4, .inl xF20)), (a23, .inl (cJ, 240, .inr (.inl xG22)))]) [0, 1, 2, 3, 4, 5] rfl) (hD.sub (ws' := [(a0, .inr (12, [.int i0, .ref a1, .ref a2, .ref a3, .ref a4, .int i1, .ref a5, .int i2, .int i3, .int i4, .int i5, .int i6, .int i7, .int i8, .ref a6, .ref a7, .ref a8, .ref a9, .ref a10, .ref a11, .ref a12, .int i9, .ref a13, .int i10, .ref a14, .ref a15, .int i11, .ref a16, .ref a17, .ref a18, .ref a19, .int i12, .int i13, .int i14, .int i15, .int i16, .ref a20, .long j0, .ref a21, .ref a22, .ref a23, .ref a24])), (a1, .inl (cI, 544, .inl xF0)), (a16, .inl (cI, 256, .inl f7235)), (a17, .inl (cI, 256, .inl g2_1)), (a21, .inl (cI, 4, .inl xF20)), (a23, .inl (cJ, 240, .inr (.inl xG22)))]) [0, 1, 2, 3, 4, 5] (by decide) rfl) hS (lv_sub hl [1, 2, 3, 0] rfl)
              · rw [ki_eq] at c7232
                refine lv_aload_n hx hb dX12_fillFew_49 rfl (lv_at hl 0 rfl) ?_
                refine va_get (D := (dC, dI)) (ci := 12) (v := .ref a23) (C := RX12) (T := TX12) (N := 42) hx hb hwd inlX12 hown hK hP 0 rfl rfl 40 (by decide) (hwd _ kr50_17) (fun _ h9 => h9) rfl dX12_fillFew_50 ?_
                refine lv_bipush (v := 60) hx hb dX12_fillFew_53 (by decide) ?_
                refine lv_iload_n hx hb dX12_fillFew_55 rfl (lv_at hl 1 rfl) ?_
                refine lv_imul hx hb dX12_fillFew_56 ?_
                refine lv_topi (fun x7237 ex7237 => ?_)
                have tx7237 := ia_mull (a := (60 : Int32)) (b := p0) 60 (by decide) (by omega) (by omega)
                rw [← ex7237] at tx7237
                refine lv_iload_n hx hb dX12_fillFew_57 rfl (lv_at hl 3 rfl) ?_
                refine lv_iadd hx hb dX12_fillFew_58 ?_
                refine lv_topi (fun x7238 ex7238 => ?_)
                have tx7238 := ia_add (a := x7237) (b := w3_74) (by omega) (by omega)
                rw [← ex7238] at tx7238
                have h7239 : vp_in x7238 240 := (vp_of (by omega) (by omega))
                refine va_lald hx hb hK hP 5 3 rfl rfl h7239 dX12_fillFew_59 ?_
                refine lv_topl (fun x7240 ex7240 => ?_)
                refine lv_l2i hx hb dX12_fillFew_60 rfl ?_
                refine lv_topi (fun x7241 ex7241 => ?_)
                have wh7242 : whd cp xF0 := p_7.1
                unfold whd at wh7242
                have qx7241 := NB_get (i := w3_74.toInt) p_11 ex7240 (by omega) (by omega) (by omega) (by omega) ex7241 (by omega)
                refine lv_goto (tgt := 65) hx hb dX12_fillFew_61 (by decide) ?_
                refine lv_iadd hx hb dX12_fillFew_65 ?_
                refine lv_topi (fun x7243 ex7243 => ?_)
                refine va_iast hx hb hK hP hD hS 2 0 rfl rfl (vp_of (by omega) (by omega)) dX12_fillFew_66 (fun H locs hP hD hS => ?_)
                obtain ⟨f7244, ef7244⟩ : ∃ f, f = upd g1_74 w2_1.toNatClampNeg x7243 := ⟨_, rfl⟩
                replace hP : va_P (dC, dI) vwCl [(a0, .inr (12, [.int i0, .ref a1, .ref a2, .ref a3, .ref a4, .int i1, .ref a5, .int i2, .int i3, .int i4, .int i5, .int i6, .int i7, .int i8, .ref a6, .ref a7, .ref a8, .ref a9, .ref a10, .ref a11, .ref a12, .int i9, .ref a13, .int i10, .ref a14, .ref a15, .int i11, .ref a16, .ref a17, .ref a18, .ref a19, .int i12, .int i13, .int i14, .int i15, .int i16, .ref a20, .long j0, .ref a21, .ref a22, .ref a23, .ref a24])), (a1, .inl (cI, 544, .inl xF0)), (a16, .inl (cI, 256, .inl f7244)), (a17, .inl (cI, 256, .inl g2_1)), (a21, .inl (cI, 4, .inl xF20)), (a23, .inl (cJ, 240, .inr (.inl xG22)))] H := by rw [ef7244]; exact hP
                replace hD : va_D A [(a0, .inr (12, [.int i0, .ref a1, .ref a2, .ref a3, .ref a4, .int i1, .ref a5, .int i2, .int i3, .int i4, .int i5, .int i6, .int i7, .int i8, .ref a6, .ref a7, .ref a8, .ref a9, .ref a10, .ref a11, .ref a12, .int i9, .ref a13, .int i10, .ref a14, .ref a15, .int i11, .ref a16, .ref a17, .ref a18, .ref a19, .int i12, .int i13, .int i14, .int i15, .int i16, .ref a20, .long j0, .ref a21, .ref a22, .ref a23, .ref a24])), (a1, .inl (cI, 544, .inl xF0)), (a16, .inl (cI, 256, .inl f7244)), (a17, .inl (cI, 256, .inl g2_1)), (a21, .inl (cI, 4, .inl xF20)), (a23, .inl (cJ, 240, .inr (.inl xG22)))] := by rw [ef7244]; exact hD
                obtain ⟨x7245, ex7245⟩ : ∃ y : Int32, y = w3_74 + 1 := ⟨_, rfl⟩
                refine lv_iinc (v := x7245) (lv' := [(3, .int x7245), (0, .ref a0), (1, .int p0), (2, .int w2_1)]) hx hb dX12_fillFew_67 hl (k := 3) rfl (by rw [ex7245]; rfl) (by decide) rfl (fun ls hl => ?_)
                have tx7245 := ia_add (a := w3_74) (b := (1 : Int32)) (by omega) (by omega)
                rw [← ex7245] at tx7245
                refine lv_goto (tgt := 23) hx hb dX12_fillFew_70 (by decide) ?_
                exact ih74 _ _ ls x7245 f7244 (show (0 : Int) ≤ x7245.toInt ∧ x7245.toInt ≤ 8 from ⟨by omega, by omega⟩) (show SP (wat xF0 1) f7244 w2_1.toInt from by rw [ef7244]; exact SP_upd hrl0_74 rfl) (show SB (wat xF0 1) f7244 w2_1.toInt x7245.toInt from by rw [ef7244]; exact SB_one hrl1_74 rfl ex7229 ex7243 (by omega) rfl (by omega) (by omega) ex7230 ex7231 (by omega) (by omega)) (by omega) (hP.sub (ws' := [(a0, .inr (12, [.int i0, .ref a1, .ref a2, .ref a3, .ref a4, .int i1, .ref a5, .int i2, .int i3, .int i4, .int i5, .int i6, .int i7, .int i8, .ref a6, .ref a7, .ref a8, .ref a9, .ref a10, .ref a11, .ref a12, .int i9, .ref a13, .int i10, .ref a14, .ref a15, .int i11, .ref a16, .ref a17, .ref a18, .ref a19, .int i12, .int i13, .int i14, .int i15, .int i16, .ref a20, .long j0, .ref a21, .ref a22, .ref a23, .ref a24])), (a1, .inl (cI, 544, .inl xF0)), (a16, .inl (cI, 256, .inl f7244)), (a17, .inl (cI, 256, .inl g2_1)), (a21, .inl (cI, 4, .inl xF20)), (a23, .inl (cJ, 240, .inr (.inl xG22)))]) [0, 1, 2, 3, 4, 5] rfl) (hD.sub (ws' := [(a0, .inr (12, [.int i0, .ref a1, .ref a2, .ref a3, .ref a4, .int i1, .ref a5, .int i2, .int i3, .int i4, .int i5, .int i6, .int i7, .int i8, .ref a6, .ref a7, .ref a8, .ref a9, .ref a10, .ref a11, .ref a12, .int i9, .ref a13, .int i10, .ref a14, .ref a15, .int i11, .ref a16, .ref a17, .ref a18, .ref a19, .int i12, .int i13, .int i14, .int i15, .int i16, .ref a20, .long j0, .ref a21, .ref a22, .ref a23, .ref a24])), (a1, .inl (cI, 544, .inl xF0)), (a16, .inl (cI, 256, .inl f7244)), (a17, .inl (cI, 256, .inl g2_1)), (a21, .inl (cI, 4, .inl xF20)), (a23, .inl (cJ, 240, .inr (.inl xG22)))]) [0, 1, 2, 3, 4, 5] (by decide) rfl) hS (lv_sub hl [1, 2, 3, 0] rfl)
        exact lp74 _ _ _ ls (0) f6172 (show (0 : Int) ≤ (0 : Int32).toInt ∧ (0 : Int32).toInt ≤ 8 from ⟨by omega, by omega⟩) (show SP (wat xF0 1) f6172 w2_1.toInt from by rw [ef6172]; exact SP_upd hrl0_1 rfl) (show SB (wat xF0 1) f6172 w2_1.toInt (0 : Int32).toInt from by rw [ef6172]; exact SB_init rfl (by decide) (by decide)) (Nat.lt_succ_self _) (hP.sub (ws' := [(a0, .inr (12, [.int i0, .ref a1, .ref a2, .ref a3, .ref a4, .int i1, .ref a5, .int i2, .int i3, .int i4, .int i5, .int i6, .int i7, .int i8, .ref a6, .ref a7, .ref a8, .ref a9, .ref a10, .ref a11, .ref a12, .int i9, .ref a13, .int i10, .ref a14, .ref a15, .int i11, .ref a16, .ref a17, .ref a18, .ref a19, .int i12, .int i13, .int i14, .int i15, .int i16, .ref a20, .long j0, .ref a21, .ref a22, .ref a23, .ref a24])), (a1, .inl (cI, 544, .inl xF0)), (a16, .inl (cI, 256, .inl f6172)), (a17, .inl (cI, 256, .inl g2_1)), (a21, .inl (cI, 4, .inl xF20)), (a23, .inl (cJ, 240, .inr (.inl xG22)))]) [0, 1, 2, 3, 4, 5] rfl) (hD.sub (ws' := [(a0, .inr (12, [.int i0, .ref a1, .ref a2, .ref a3, .ref a4, .int i1, .ref a5, .int i2, .int i3, .int i4, .int i5, .int i6, .int i7, .int i8, .ref a6, .ref a7, .ref a8, .ref a9, .ref a10, .ref a11, .ref a12, .int i9, .ref a13, .int i10, .ref a14, .ref a15, .int i11, .ref a16, .ref a17, .ref a18, .ref a19, .int i12, .int i13, .int i14, .int i15, .int i16, .ref a20, .long j0, .ref a21, .ref a22, .ref a23, .ref a24])), (a1, .inl (cI, 544, .inl xF0)), (a16, .inl (cI, 256, .inl f6172)), (a17, .inl (cI, 256, .inl g2_1)), (a21, .inl (cI, 4, .inl xF20)), (a23, .inl (cJ, 240, .inr (.inl xG22)))]) [0, 1, 2, 3, 4, 5] (by decide) rfl) hS (lv_sub hl [1, 2, 3, 0] rfl)
  exact lp1 _ _ _ ls (0) xF15 xF16 (show (0 : Int) ≤ (0 : Int32).toInt ∧ (0 : Int32).toInt ≤ 256 from ⟨by omega, by omega⟩) (show SP (wat xF0 1) xF15 (0 : Int32).toInt from SP_0 (by decide)) (show FQ xF16 (0 : Int32).toInt from FQ_0 (by decide)) (Nat.lt_succ_self _) (hP.sub (ws' := [(a0, .inr (12, [.int i0, .ref a1, .ref a2, .ref a3, .ref a4, .int i1, .ref a5, .int i2, .int i3, .int i4, .int i5, .int i6, .int i7, .int i8, .ref a6, .ref a7, .ref a8, .ref a9, .ref a10, .ref a11, .ref a12, .int i9, .ref a13, .int i10, .ref a14, .ref a15, .int i11, .ref a16, .ref a17, .ref a18, .ref a19, .int i12, .int i13, .int i14, .int i15, .int i16, .ref a20, .long j0, .ref a21, .ref a22, .ref a23, .ref a24])), (a1, .inl (cI, 544, .inl xF0)), (a16, .inl (cI, 256, .inl xF15)), (a17, .inl (cI, 256, .inl xF16)), (a21, .inl (cI, 4, .inl xF20)), (a23, .inl (cJ, 240, .inr (.inl xG22)))]) [0, 1, 2, 3, 4, 5] rfl) (hD.sub (ws' := [(a0, .inr (12, [.int i0, .ref a1, .ref a2, .ref a3, .ref a4, .int i1, .ref a5, .int i2, .int i3, .int i4, .int i5, .int i6, .int i7, .int i8, .ref a6, .ref a7, .ref a8, .ref a9, .ref a10, .ref a11, .ref a12, .int i9, .ref a13, .int i10, .ref a14, .ref a15, .int i11, .ref a16, .ref a17, .ref a18, .ref a19, .int i12, .int i13, .int i14, .int i15, .int i16, .ref a20, .long j0, .ref a21, .ref a22, .ref a23, .ref a24])), (a1, .inl (cI, 544, .inl xF0)), (a16, .inl (cI, 256, .inl xF15)), (a17, .inl (cI, 256, .inl xF16)), (a21, .inl (cI, 4, .inl xF20)), (a23, .inl (cJ, 240, .inr (.inl xG22)))]) [0, 1, 2, 3, 4, 5] (by decide) rfl) hS (lv_sub hl [1, 2, 0] rfl)
theorem dX12_fewest_0 : decode cX12_fewest 0 = .ok (.aload_n 0, 1) := by decide +kernel
theorem dX12_fewest_1 : decode cX12_fewest 1 = .ok (.iload_n 1, 1) := by decide +kernel
theorem dX12_fewest_2 : decode cX12_fewest 2 = .ok (.invokevirtual 417, 3) := by decide +kernel
theorem dX12_fewest_5 : decode cX12_fewest 5 = .ok (.istore_n 2, 1) := by decide +kernel
theorem dX12_fewest_6 : decode cX12_fewest 6 = .ok (.iload_n 2, 1) := by decide +kernel
theorem dX12_fewest_7 : decode cX12_fewest 7 = .ok (.ifCond .ge 5, 3) := by decide +kernel
theorem dX12_fewest_10 : decode cX12_fewest 10 = .ok (.iload_n 2, 1) := by decide +kernel
theorem dX12_fewest_11 : decode cX12_fewest 11 = .ok (.ireturn, 1) := by decide +kernel
theorem dX12_fewest_12 : decode cX12_fewest 12 = .ok (.aload_n 0, 1) := by decide +kernel
theorem dX12_fewest_13 : decode cX12_fewest 13 = .ok (.iload_n 1, 1) := by decide +kernel
theorem dX12_fewest_14 : decode cX12_fewest 14 = .ok (.invokevirtual 420, 3) := by decide +kernel
theorem dX12_fewest_17 : decode cX12_fewest 17 = .ok (.aload_n 0, 1) := by decide +kernel
theorem dX12_fewest_18 : decode cX12_fewest 18 = .ok (.getfield 67, 3) := by decide +kernel
theorem dX12_fewest_21 : decode cX12_fewest 21 = .ok (.iconst 1, 1) := by decide +kernel
theorem dX12_fewest_22 : decode cX12_fewest 22 = .ok (.aload_n 0, 1) := by decide +kernel
theorem dX12_fewest_23 : decode cX12_fewest 23 = .ok (.getfield 79, 3) := by decide +kernel
theorem dX12_fewest_26 : decode cX12_fewest 26 = .ok (.iload_n 1, 1) := by decide +kernel
theorem dX12_fewest_27 : decode cX12_fewest 27 = .ok (.iaload, 1) := by decide +kernel
theorem dX12_fewest_28 : decode cX12_fewest 28 = .ok (.ishl, 1) := by decide +kernel
theorem dX12_fewest_29 : decode cX12_fewest 29 = .ok (.iconst 1, 1) := by decide +kernel
theorem dX12_fewest_30 : decode cX12_fewest 30 = .ok (.isub, 1) := by decide +kernel
theorem dX12_fewest_31 : decode cX12_fewest 31 = .ok (.iaload, 1) := by decide +kernel
theorem dX12_fewest_32 : decode cX12_fewest 32 = .ok (.ireturn, 1) := by decide +kernel
set_option maxHeartbeats 4000000 in
set_option maxRecDepth 100000 in
theorem s_X12_fewest (l : Launch) (dC : Nat → ClassId) (dI : Nat → Nat → Nat) (cI cZ cB cJ cM cG : ClassId) (a0 a1 a2 a3 a4 a5 a6 a7 a8 a9 a10 a11 a12 a13 a14 a15 a16 a17 a18 a19 a20 a21 a22 a23 a24 : Nat) (i0 i1 i2 i3 i4 i5 i6 i7 i8 i9 i10 i11 i12 i13 i14 i15 i16 : Int32) (j0 : Int64) (xF0 xF15 xF16 xF20 : Nat → Int32) (xG22 : Nat → Int64) (p0 : Int32) (cp : Int) (sz : Nat) (p_0 : (0 : Int) ≤ i1.toInt ∧ i1.toInt ≤ 1600) (p_1 : (0 : Int) ≤ i2.toInt ∧ i2.toInt ≤ 1600) (p_2 : (0 : Int) ≤ i3.toInt ∧ i3.toInt ≤ 1600) (p_3 : (0 : Int) ≤ i4.toInt ∧ i4.toInt ≤ 1600) (p_4 : (0 : Int) ≤ i5.toInt ∧ i5.toInt ≤ 6) (p_5 : (0 : Int) ≤ i7.toInt ∧ i7.toInt ≤ 3) (p_6 : (0 : Int) ≤ i11.toInt ∧ i11.toInt ≤ 59) (p_7 : WI cp xF0) (p_8 : rng xF20 4 (-1) 60) (p_9 : MI xF20) (p_10 : 0 ≤ cp ∧ cp ≤ 2000000000) : Met l yX12_fewest (kw yX12_fewest cX12_fewest 3 (some .int)) ({ frames := 3, cells := 0, slots := 0, locals := 67 } : Room) (va_Pc [.ref a0, .int p0] (kPre dC dI [(cI, .int), (cZ, .boolean), (cB, .byte), (cJ, .long), (cM, .object RX2), (cG, .array .int)] [(a0, .inr (12, [.int i0, .ref a1, .ref a2, .ref a3, .ref a4, .int i1, .ref a5, .int i2, .int i3, .int i4, .int i5, .int i6, .int i7, .int i8, .ref a6, .ref a7, .ref a8, .ref a9, .ref a10, .ref a11, .ref a12, .int i9, .ref a13, .int i10, .ref a14, .ref a15, .int i11, .ref a16, .ref a17, .ref a18, .ref a19, .int i12, .int i13, .int i14, .int i15, .int i16, .ref a20, .long j0, .ref a21, .ref a22, .ref a23, .ref a24])), (a1, .inl (cI, 544, .inl xF0)), (a16, .inl (cI, 256, .inl xF15)), (a17, .inl (cI, 256, .inl xF16)), (a21, .inl (cI, 4, .inl xF20)), (a23, .inl (cJ, 240, .inr (.inl xG22)))] sz)) (va_Qi (fun (r : Int32) (u9 : (Nat → Int32) × (Nat → Nat → Int32) × (Nat → Nat → Int64)) => True) (fun u9 t => va_P (dC, dI) vwCl [(a0, .inr (12, [.int i0, .ref a1, .ref a2, .ref a3, .ref a4, .int i1, .ref a5, .int i2, .int i3, .int i4, .int i5, .int i6, .int i7, .int i8, .ref a6, .ref a7, .ref a8, .ref a9, .ref a10, .ref a11, .ref a12, .int i9, .ref a13, .int i10, .ref a14, .ref a15, .int i11, .ref a16, .ref a17, .ref a18, .ref a19, .int i12, .int i13, .int i14, .int i15, .int i16, .ref a20, .long j0, .ref a21, .ref a22, .ref a23, .ref a24])), (a1, .inl (cI, 544, .inl xF0)), (a16, .inl (cI, 256, .inl (u9.2.1 0))), (a17, .inl (cI, 256, .inl (u9.2.1 1))), (a21, .inl (cI, 4, .inl xF20)), (a23, .inl (cJ, 240, .inr (.inl xG22)))] t.heap ∧ va_D (va_A [(a0, .inr (12, [.int i0, .ref a1, .ref a2, .ref a3, .ref a4, .int i1, .ref a5, .int i2, .int i3, .int i4, .int i5, .int i6, .int i7, .int i8, .ref a6, .ref a7, .ref a8, .ref a9, .ref a10, .ref a11, .ref a12, .int i9, .ref a13, .int i10, .ref a14, .ref a15, .int i11, .ref a16, .ref a17, .ref a18, .ref a19, .int i12, .int i13, .int i14, .int i15, .int i16, .ref a20, .long j0, .ref a21, .ref a22, .ref a23, .ref a24])), (a1, .inl (cI, 544, .inl xF0)), (a16, .inl (cI, 256, .inl xF15)), (a17, .inl (cI, 256, .inl xF16)), (a21, .inl (cI, 4, .inl xF20)), (a23, .inl (cJ, 240, .inr (.inl xG22)))] sz) [(a0, .inr (12, [.int i0, .ref a1, .ref a2, .ref a3, .ref a4, .int i1, .ref a5, .int i2, .int i3, .int i4, .int i5, .int i6, .int i7, .int i8, .ref a6, .ref a7, .ref a8, .ref a9, .ref a10, .ref a11, .ref a12, .int i9, .ref a13, .int i10, .ref a14, .ref a15, .int i11, .ref a16, .ref a17, .ref a18, .ref a19, .int i12, .int i13, .int i14, .int i15, .int i16, .ref a20, .long j0, .ref a21, .ref a22, .ref a23, .ref a24])), (a1, .inl (cI, 544, .inl xF0)), (a16, .inl (cI, 256, .inl (u9.2.1 0))), (a17, .inl (cI, 256, .inl (u9.2.1 1))), (a21, .inl (cI, 4, .inl xF20)), (a23, .inl (cJ, 240, .inr (.inl xG22)))]) (va_A [(a0, .inr (12, [.int i0, .ref a1, .ref a2, .ref a3, .ref a4, .int i1, .ref a5, .int i2, .int i3, .int i4, .int i5, .int i6, .int i7, .int i8, .ref a6, .ref a7, .ref a8, .ref a9, .ref a10, .ref a11, .ref a12, .int i9, .ref a13, .int i10, .ref a14, .ref a15, .int i11, .ref a16, .ref a17, .ref a18, .ref a19, .int i12, .int i13, .int i14, .int i15, .int i16, .ref a20, .long j0, .ref a21, .ref a22, .ref a23, .ref a24])), (a1, .inl (cI, 544, .inl xF0)), (a16, .inl (cI, 256, .inl xF15)), (a17, .inl (cI, 256, .inl xF16)), (a21, .inl (cI, 4, .inl xF20)), (a23, .inl (cJ, 240, .inr (.inl xG22)))] sz)) 0 0 (va_A [(a0, .inr (12, [.int i0, .ref a1, .ref a2, .ref a3, .ref a4, .int i1, .ref a5, .int i2, .int i3, .int i4, .int i5, .int i6, .int i7, .int i8, .ref a6, .ref a7, .ref a8, .ref a9, .ref a10, .ref a11, .ref a12, .int i9, .ref a13, .int i10, .ref a14, .ref a15, .int i11, .ref a16, .ref a17, .ref a18, .ref a19, .int i12, .int i13, .int i14, .int i15, .int i16, .ref a20, .long j0, .ref a21, .ref a22, .ref a23, .ref a24])), (a1, .inl (cI, 544, .inl xF0)), (a16, .inl (cI, 256, .inl xF15)), (a17, .inl (cI, 256, .inl xF16)), (a21, .inl (cI, 4, .inl xF20)), (a23, .inl (cJ, 240, .inr (.inl xG22)))] sz) := by
  refine kEnter (by decide) (Nat.le_of_ble_eq_true rfl) ?_
  intro p e s m below meth c ls hx hb hr hml hown hlocks hin hwd hsz hP hK hD hl
  subst hsz
  generalize hAe : va_A [(a0, .inr (12, [.int i0, .ref a1, .ref a2, .ref a3, .ref a4, .int i1, .ref a5, .int i2, .int i3, .int i4, .int i5, .int i6, .int i7, .int i8, .ref a6, .ref a7, .ref a8, .ref a9, .ref a10, .ref a11, .ref a12, .int i9, .ref a13, .int i10, .ref a14, .ref a15, .int i11, .ref a16, .ref a17, .ref a18, .ref a19, .int i12, .int i13, .int i14, .int i15, .int i16, .ref a20, .long j0, .ref a21, .ref a22, .ref a23, .ref a24])), (a1, .inl (cI, 544, .inl xF0)), (a16, .inl (cI, 256, .inl xF15)), (a17, .inl (cI, 256, .inl xF16)), (a21, .inl (cI, 4, .inl xF20)), (a23, .inl (cJ, 240, .inr (.inl xG22)))] s.heap.size = A at hD ⊢
  have hA : ∀ q : Nat, s.heap.size ≤ q → A q := fun q h => by rw [← hAe]; exact Or.inr h
  have hS : va_S A s.heap s.heap [] := va_S.rf
  have hl : lv_has ls 3 [(0, .ref a0), (1, .int p0)] := hl
  obtain ⟨Q, hQ⟩ : ∃ Q, Q = MQ below (va_Qi (fun (r : Int32) (u9 : (Nat → Int32) × (Nat → Nat → Int32) × (Nat → Nat → Int64)) => True) (fun u9 t => va_P (dC, dI) vwCl [(a0, .inr (12, [.int i0, .ref a1, .ref a2, .ref a3, .ref a4, .int i1, .ref a5, .int i2, .int i3, .int i4, .int i5, .int i6, .int i7, .int i8, .ref a6, .ref a7, .ref a8, .ref a9, .ref a10, .ref a11, .ref a12, .int i9, .ref a13, .int i10, .ref a14, .ref a15, .int i11, .ref a16, .ref a17, .ref a18, .ref a19, .int i12, .int i13, .int i14, .int i15, .int i16, .ref a20, .long j0, .ref a21, .ref a22, .ref a23, .ref a24])), (a1, .inl (cI, 544, .inl xF0)), (a16, .inl (cI, 256, .inl (u9.2.1 0))), (a17, .inl (cI, 256, .inl (u9.2.1 1))), (a21, .inl (cI, 4, .inl xF20)), (a23, .inl (cJ, 240, .inr (.inl xG22)))] t.heap ∧ va_D A [(a0, .inr (12, [.int i0, .ref a1, .ref a2, .ref a3, .ref a4, .int i1, .ref a5, .int i2, .int i3, .int i4, .int i5, .int i6, .int i7, .int i8, .ref a6, .ref a7, .ref a8, .ref a9, .ref a10, .ref a11, .ref a12, .int i9, .ref a13, .int i10, .ref a14, .ref a15, .int i11, .ref a16, .ref a17, .ref a18, .ref a19, .int i12, .int i13, .int i14, .int i15, .int i16, .ref a20, .long j0, .ref a21, .ref a22, .ref a23, .ref a24])), (a1, .inl (cI, 544, .inl xF0)), (a16, .inl (cI, 256, .inl (u9.2.1 0))), (a17, .inl (cI, 256, .inl (u9.2.1 1))), (a21, .inl (cI, 4, .inl xF20)), (a23, .inl (cJ, 240, .inr (.inl xG22)))]) A) ([.ref a0, .int p0] : List Value).toArray s 0 0 A := ⟨_, rfl⟩
  rw [← hQ]
  have k0 : (0 : Int32).toInt = 0 := by decide
  have k1 : (1 : Int32).toInt = 1 := by decide
  have k3 : (3 : Int32).toInt = 3 := by decide
  refine lv_aload_n hx hb dX12_fewest_0 rfl (lv_at hl 0 rfl) ?_
  refine lv_iload_n hx hb dX12_fewest_1 rfl (lv_at hl 1 rfl) ?_
  have hPc := hP.sub (ws' := [(a0, .inr (12, [.int i0, .ref a1, .ref a2, .ref a3, .ref a4, .int i1, .ref a5, .int i2, .int i3, .int i4, .int i5, .int i6, .int i7, .int i8, .ref a6, .ref a7, .ref a8, .ref a9, .ref a10, .ref a11, .ref a12, .int i9, .ref a13, .int i10, .ref a14, .ref a15, .int i11, .ref a16, .ref a17, .ref a18, .ref a19, .int i12, .int i13, .int i14, .int i15, .int i16, .ref a20, .long j0, .ref a21, .ref a22, .ref a23, .ref a24])), (a1, .inl (cI, 544, .inl xF0)), (a21, .inl (cI, 4, .inl xF20)), (a23, .inl (cJ, 240, .inr (.inl xG22)))]) [0, 1, 4, 5] rfl
  have hDc := hD.sub (ws' := [(a0, .inr (12, [.int i0, .ref a1, .ref a2, .ref a3, .ref a4, .int i1, .ref a5, .int i2, .int i3, .int i4, .int i5, .int i6, .int i7, .int i8, .ref a6, .ref a7, .ref a8, .ref a9, .ref a10, .ref a11, .ref a12, .int i9, .ref a13, .int i10, .ref a14, .ref a15, .int i11, .ref a16, .ref a17, .ref a18, .ref a19, .int i12, .int i13, .int i14, .int i15, .int i16, .ref a20, .long j0, .ref a21, .ref a22, .ref a23, .ref a24])), (a1, .inl (cI, 544, .inl xF0)), (a21, .inl (cI, 4, .inl xF20)), (a23, .inl (cJ, 240, .inr (.inl xG22)))]) [0, 1, 4, 5] (by decide) rfl
  have hFc := va_free (wc := [(a0, .inr (12, [.int i0, .ref a1, .ref a2, .ref a3, .ref a4, .int i1, .ref a5, .int i2, .int i3, .int i4, .int i5, .int i6, .int i7, .int i8, .ref a6, .ref a7, .ref a8, .ref a9, .ref a10, .ref a11, .ref a12, .int i9, .ref a13, .int i10, .ref a14, .ref a15, .int i11, .ref a16, .ref a17, .ref a18, .ref a19, .int i12, .int i13, .int i14, .int i15, .int i16, .ref a20, .long j0, .ref a21, .ref a22, .ref a23, .ref a24])), (a1, .inl (cI, 544, .inl xF0)), (a21, .inl (cI, 4, .inl xF20)), (a23, .inl (cJ, 240, .inr (.inl xG22)))]) hD hS hA [0, 1, 4, 5] rfl
  refine va_calli (va_runV (As := [.int p0]) (rest := []) ⟨hx, hb, hml, hown, hwd⟩ (s_X12_asksMotions l dC dI cI cZ cB cJ cM cG a0 a1 a2 a3 a4 a5 a6 a7 a8 a9 a10 a11 a12 a13 a14 a15 a16 a17 a18 a19 a20 a21 a22 a23 a24 i0 i1 i2 i3 i4 i5 i6 i7 i8 i9 i10 i11 i12 i13 i14 i15 i16 j0 xF0 xF20 xG22 p0 cp s.heap.size (show (0 : Int) ≤ i1.toInt ∧ i1.toInt ≤ 1600 from p_0) (show (0 : Int) ≤ i2.toInt ∧ i2.toInt ≤ 1600 from p_1) (show (0 : Int) ≤ i3.toInt ∧ i3.toInt ≤ 1600 from p_2) (show (0 : Int) ≤ i4.toInt ∧ i4.toInt ≤ 1600 from p_3) (show (0 : Int) ≤ i5.toInt ∧ i5.toInt ≤ 6 from p_4) (show (0 : Int) ≤ i7.toInt ∧ i7.toInt ≤ 3 from p_5) (show (0 : Int) ≤ i11.toInt ∧ i11.toInt ≤ 59 from p_6) (show WI cp xF0 from p_7) (show rng xF20 4 (-1) 60 from p_8) (show MI xF20 from trivial) p_10) (cwV 1 hwd (gV kr64_21 kr64_22 kr5_0 kr5_23 kr64_23) rfl rfl rfl (by decide +kernel) ⟨Nat.le_of_ble_eq_true rfl, Nat.le_of_ble_eq_true rfl⟩) (kPreV hPc hK hDc (ci := 12) (q0 := 0) rfl rfl) rfl rfl hl.1 rfl (lv_room (Nat.le_of_ble_eq_true rfl)) dX12_fewest_2 ⟨Nat.le_of_ble_eq_true rfl, Nat.le_of_ble_eq_true rfl⟩) hS (fun q _ h => hFc q h) hFc (fun r1 u2 t H1 locs ht9 hvm hw hB hz1 hk1 hS => ?_)
  obtain ⟨hw3, hw4, -⟩ := hw
  replace hw3 : (-6 : Int) ≤ r1.toInt ∧ r1.toInt ≤ 0 := hw3
  obtain ⟨hP1, hD1⟩ := hB
  rw [ht9] at hP1
  obtain ⟨hP, hD⟩ := va_join (wr := [(a16, .inl (cI, 256, .inl xF15)), (a17, .inl (cI, 256, .inl xF16))]) (w1 := [(a0, .inr (12, [.int i0, .ref a1, .ref a2, .ref a3, .ref a4, .int i1, .ref a5, .int i2, .int i3, .int i4, .int i5, .int i6, .int i7, .int i8, .ref a6, .ref a7, .ref a8, .ref a9, .ref a10, .ref a11, .ref a12, .int i9, .ref a13, .int i10, .ref a14, .ref a15, .int i11, .ref a16, .ref a17, .ref a18, .ref a19, .int i12, .int i13, .int i14, .int i15, .int i16, .ref a20, .long j0, .ref a21, .ref a22, .ref a23, .ref a24])), (a1, .inl (cI, 544, .inl xF0)), (a21, .inl (cI, 4, .inl xF20)), (a23, .inl (cJ, 240, .inr (.inl xG22)))]) hP hD [0, 1, 4, 5] [2, 3] rfl rfl (by decide) (by decide) hk1 hFc hP1 hD1
  generalize H1 = H at hP hS ⊢
  replace hP : va_P (dC, dI) vwCl [(a16, .inl (cI, 256, .inl xF15)), (a17, .inl (cI, 256, .inl xF16)), (a0, .inr (12, [.int i0, .ref a1, .ref a2, .ref a3, .ref a4, .int i1, .ref a5, .int i2, .int i3, .int i4, .int i5, .int i6, .int i7, .int i8, .ref a6, .ref a7, .ref a8, .ref a9, .ref a10, .ref a11, .ref a12, .int i9, .ref a13, .int i10, .ref a14, .ref a15, .int i11, .ref a16, .ref a17, .ref a18, .ref a19, .int i12, .int i13, .int i14, .int i15, .int i16, .ref a20, .long j0, .ref a21, .ref a22, .ref a23, .ref a24])), (a1, .inl (cI, 544, .inl xF0)), (a21, .inl (cI, 4, .inl xF20)), (a23, .inl (cJ, 240, .inr (.inl xG22)))] H := hP
  replace hD : va_D A [(a16, .inl (cI, 256, .inl xF15)), (a17, .inl (cI, 256, .inl xF16)), (a0, .inr (12, [.int i0, .ref a1, .ref a2, .ref a3, .ref a4, .int i1, .ref a5, .int i2, .int i3, .int i4, .int i5, .int i6, .int i7, .int i8, .ref a6, .ref a7, .ref a8, .ref a9, .ref a10, .ref a11, .ref a12, .int i9, .ref a13, .int i10, .ref a14, .ref a15, .int i11, .ref a16, .ref a17, .ref a18, .ref a19, .int i12, .int i13, .int i14, .int i15, .int i16, .ref a20, .long j0, .ref a21, .ref a22, .ref a23, .ref a24])), (a1, .inl (cI, 544, .inl xF0)), (a21, .inl (cI, 4, .inl xF20)), (a23, .inl (cJ, 240, .inr (.inl xG22)))] := hD
  refine lv_istore_n (lv' := [(2, .int r1), (0, .ref a0), (1, .int p0)]) hx hb dX12_fewest_5 rfl hl (by decide) rfl (fun ls hl => ?_)
  refine lv_iload_n hx hb dX12_fewest_6 rfl (lv_at hl 0 rfl) ?_
  refine lv_if_ge (tgt := 12) hx hb dX12_fewest_7 (by decide) (fun c5 => ?_) (fun c5 => ?_)
  · rw [ki_le] at c5
    have hw4q := hw4 (by omega)
    clear hw4
    refine lv_aload_n hx hb dX12_fewest_12 rfl (lv_at hl 1 rfl) ?_
    refine lv_iload_n hx hb dX12_fewest_13 rfl (lv_at hl 2 rfl) ?_
    have hPc := hP.sub (ws' := [(a0, .inr (12, [.int i0, .ref a1, .ref a2, .ref a3, .ref a4, .int i1, .ref a5, .int i2, .int i3, .int i4, .int i5, .int i6, .int i7, .int i8, .ref a6, .ref a7, .ref a8, .ref a9, .ref a10, .ref a11, .ref a12, .int i9, .ref a13, .int i10, .ref a14, .ref a15, .int i11, .ref a16, .ref a17, .ref a18, .ref a19, .int i12, .int i13, .int i14, .int i15, .int i16, .ref a20, .long j0, .ref a21, .ref a22, .ref a23, .ref a24])), (a1, .inl (cI, 544, .inl xF0)), (a16, .inl (cI, 256, .inl xF15)), (a17, .inl (cI, 256, .inl xF16)), (a21, .inl (cI, 4, .inl xF20)), (a23, .inl (cJ, 240, .inr (.inl xG22)))]) [2, 3, 0, 1, 4, 5] rfl
    have hDc := hD.sub (ws' := [(a0, .inr (12, [.int i0, .ref a1, .ref a2, .ref a3, .ref a4, .int i1, .ref a5, .int i2, .int i3, .int i4, .int i5, .int i6, .int i7, .int i8, .ref a6, .ref a7, .ref a8, .ref a9, .ref a10, .ref a11, .ref a12, .int i9, .ref a13, .int i10, .ref a14, .ref a15, .int i11, .ref a16, .ref a17, .ref a18, .ref a19, .int i12, .int i13, .int i14, .int i15, .int i16, .ref a20, .long j0, .ref a21, .ref a22, .ref a23, .ref a24])), (a1, .inl (cI, 544, .inl xF0)), (a16, .inl (cI, 256, .inl xF15)), (a17, .inl (cI, 256, .inl xF16)), (a21, .inl (cI, 4, .inl xF20)), (a23, .inl (cJ, 240, .inr (.inl xG22)))]) [2, 3, 0, 1, 4, 5] (by decide) rfl
    have hFc := va_free (wc := [(a0, .inr (12, [.int i0, .ref a1, .ref a2, .ref a3, .ref a4, .int i1, .ref a5, .int i2, .int i3, .int i4, .int i5, .int i6, .int i7, .int i8, .ref a6, .ref a7, .ref a8, .ref a9, .ref a10, .ref a11, .ref a12, .int i9, .ref a13, .int i10, .ref a14, .ref a15, .int i11, .ref a16, .ref a17, .ref a18, .ref a19, .int i12, .int i13, .int i14, .int i15, .int i16, .ref a20, .long j0, .ref a21, .ref a22, .ref a23, .ref a24])), (a1, .inl (cI, 544, .inl xF0)), (a16, .inl (cI, 256, .inl xF15)), (a17, .inl (cI, 256, .inl xF16)), (a21, .inl (cI, 4, .inl xF20)), (a23, .inl (cJ, 240, .inr (.inl xG22)))]) hD hS hA [2, 3, 0, 1, 4, 5] rfl
    refine va_callv (va_runV (As := [.int p0]) (rest := []) ⟨hx, hb, hml, hown, hwd⟩ (s_X12_fillFew l dC dI cI cZ cB cJ cM cG a0 a1 a2 a3 a4 a5 a6 a7 a8 a9 a10 a11 a12 a13 a14 a15 a16 a17 a18 a19 a20 a21 a22 a23 a24 i0 i1 i2 i3 i4 i5 i6 i7 i8 i9 i10 i11 i12 i13 i14 i15 i16 j0 xF0 xF15 xF16 xF20 xG22 p0 cp H.size (show (0 : Int) ≤ i1.toInt ∧ i1.toInt ≤ 1600 from p_0) (show (0 : Int) ≤ i2.toInt ∧ i2.toInt ≤ 1600 from p_1) (show (0 : Int) ≤ i3.toInt ∧ i3.toInt ≤ 1600 from p_2) (show (0 : Int) ≤ i4.toInt ∧ i4.toInt ≤ 1600 from p_3) (show (0 : Int) ≤ i5.toInt ∧ i5.toInt ≤ 6 from p_4) (show (0 : Int) ≤ i7.toInt ∧ i7.toInt ≤ 3 from p_5) (show (0 : Int) ≤ i11.toInt ∧ i11.toInt ≤ 59 from p_6) (show WI cp xF0 from p_7) (show rng xF20 4 (-1) 60 from p_8) (show MI xF20 from trivial) (by omega) hw4q.2.2.2.2.2 (show (0 : Int) ≤ p0.toInt ∧ p0.toInt ≤ 3 from ⟨by omega, by omega⟩) p_10) (cwV 1 hwd (gV kr65_4 kr65_5 kr5_1 kr5_23 kr65_6) rfl rfl rfl (by decide +kernel) ⟨Nat.le_of_ble_eq_true rfl, Nat.le_of_ble_eq_true rfl⟩) (kPreV hPc hK hDc (ci := 12) (q0 := 0) rfl rfl) rfl rfl hl.1 rfl (lv_room (Nat.le_of_ble_eq_true rfl)) dX12_fewest_14 ⟨Nat.le_of_ble_eq_true rfl, Nat.le_of_ble_eq_true rfl⟩) hS (fun q _ h => hFc q h) hFc (fun u7 t H1 locs ht9 hvm hw hB hz1 hk1 hS => ?_)
    obtain ⟨u8, U8, V8⟩ := u7
    obtain ⟨hw9, -⟩ := hw
    replace hw9 : FEW (U8 1) (xF20 p0.toNatClampNeg) := hw9
    obtain ⟨hP1, hD1⟩ := hB
    rw [ht9] at hP1
    obtain ⟨hP, hD⟩ := va_join (wr := []) (w1 := [(a0, .inr (12, [.int i0, .ref a1, .ref a2, .ref a3, .ref a4, .int i1, .ref a5, .int i2, .int i3, .int i4, .int i5, .int i6, .int i7, .int i8, .ref a6, .ref a7, .ref a8, .ref a9, .ref a10, .ref a11, .ref a12, .int i9, .ref a13, .int i10, .ref a14, .ref a15, .int i11, .ref a16, .ref a17, .ref a18, .ref a19, .int i12, .int i13, .int i14, .int i15, .int i16, .ref a20, .long j0, .ref a21, .ref a22, .ref a23, .ref a24])), (a1, .inl (cI, 544, .inl xF0)), (a16, .inl (cI, 256, .inl (U8 0))), (a17, .inl (cI, 256, .inl (U8 1))), (a21, .inl (cI, 4, .inl xF20)), (a23, .inl (cJ, 240, .inr (.inl xG22)))]) hP hD [2, 3, 0, 1, 4, 5] [] rfl rfl (by decide) (by decide) hk1 hFc hP1 hD1
    generalize H1 = H at hP hS ⊢
    replace hP : va_P (dC, dI) vwCl [(a0, .inr (12, [.int i0, .ref a1, .ref a2, .ref a3, .ref a4, .int i1, .ref a5, .int i2, .int i3, .int i4, .int i5, .int i6, .int i7, .int i8, .ref a6, .ref a7, .ref a8, .ref a9, .ref a10, .ref a11, .ref a12, .int i9, .ref a13, .int i10, .ref a14, .ref a15, .int i11, .ref a16, .ref a17, .ref a18, .ref a19, .int i12, .int i13, .int i14, .int i15, .int i16, .ref a20, .long j0, .ref a21, .ref a22, .ref a23, .ref a24])), (a1, .inl (cI, 544, .inl xF0)), (a16, .inl (cI, 256, .inl (U8 0))), (a17, .inl (cI, 256, .inl (U8 1))), (a21, .inl (cI, 4, .inl xF20)), (a23, .inl (cJ, 240, .inr (.inl xG22)))] H := hP
    replace hD : va_D A [(a0, .inr (12, [.int i0, .ref a1, .ref a2, .ref a3, .ref a4, .int i1, .ref a5, .int i2, .int i3, .int i4, .int i5, .int i6, .int i7, .int i8, .ref a6, .ref a7, .ref a8, .ref a9, .ref a10, .ref a11, .ref a12, .int i9, .ref a13, .int i10, .ref a14, .ref a15, .int i11, .ref a16, .ref a17, .ref a18, .ref a19, .int i12, .int i13, .int i14, .int i15, .int i16, .ref a20, .long j0, .ref a21, .ref a22, .ref a23, .ref a24])), (a1, .inl (cI, 544, .inl xF0)), (a16, .inl (cI, 256, .inl (U8 0))), (a17, .inl (cI, 256, .inl (U8 1))), (a21, .inl (cI, 4, .inl xF20)), (a23, .inl (cJ, 240, .inr (.inl xG22)))] := hD
    refine lv_aload_n hx hb dX12_fewest_17 rfl (lv_at hl 1 rfl) ?_
    refine va_get (D := (dC, dI)) (ci := 12) (v := .ref a17) (C := RX12) (T := TX12) (N := 42) hx hb hwd inlX12 hown hK hP 0 rfl rfl 28 (by decide) (hwd _ kr50_5) (fun _ h9 => h9) rfl dX12_fewest_18 ?_
    refine lv_iconst (v := 1) hx hb dX12_fewest_21 (by decide) ?_
    refine lv_aload_n hx hb dX12_fewest_22 rfl (lv_at hl 1 rfl) ?_
    refine va_get (D := (dC, dI)) (ci := 12) (v := .ref a21) (C := RX12) (T := TX12) (N := 42) hx hb hwd inlX12 hown hK hP 0 rfl rfl 38 (by decide) (hwd _ kr50_15) (fun _ h9 => h9) rfl dX12_fewest_23 ?_
    refine lv_iload_n hx hb dX12_fewest_26 rfl (lv_at hl 2 rfl) ?_
    have h10 : vp_in p0 4 := (vp_of (by omega) (by omega))
    refine va_iald hx hb hK hP 4 0 rfl rfl h10 dX12_fewest_27 ?_
    refine lv_topi (fun x11 ex11 => ?_)
    have ix11 : x11.toInt = (xF20 p0.toInt.toNat).toInt := by rw [ex11]; rfl
    have tx11 : (-1 : Int) ≤ x11.toInt ∧ x11.toInt ≤ 60 := by rw [ex11]; exact p_8 _ (vp_nat h10)
    refine lv_ishl hx hb dX12_fewest_28 ?_
    refine lv_topi (fun x12 ex12 => ?_)
    have tx12 := is_8 (b := x11) (by omega) (by omega)
    rw [← ex12] at tx12
    refine lv_iconst (v := 1) hx hb dX12_fewest_29 (by decide) ?_
    refine lv_isub hx hb dX12_fewest_30 ?_
    refine lv_topi (fun x13 ex13 => ?_)
    have tx13 := ia_sub (a := x12) (b := (1 : Int32)) (by omega) (by omega)
    rw [← ex13] at tx13
    have h14 : vp_in x13 256 := (vp_of (by omega) (by omega))
    refine va_iald hx hb hK hP 3 0 rfl rfl h14 dX12_fewest_31 ?_
    refine lv_topi (fun x15 ex15 => ?_)
    have hP9 := hP.sub (ws' := [(a0, .inr (12, [.int i0, .ref a1, .ref a2, .ref a3, .ref a4, .int i1, .ref a5, .int i2, .int i3, .int i4, .int i5, .int i6, .int i7, .int i8, .ref a6, .ref a7, .ref a8, .ref a9, .ref a10, .ref a11, .ref a12, .int i9, .ref a13, .int i10, .ref a14, .ref a15, .int i11, .ref a16, .ref a17, .ref a18, .ref a19, .int i12, .int i13, .int i14, .int i15, .int i16, .ref a20, .long j0, .ref a21, .ref a22, .ref a23, .ref a24])), (a1, .inl (cI, 544, .inl xF0)), (a16, .inl (cI, 256, .inl (U8 0))), (a17, .inl (cI, 256, .inl (U8 1))), (a21, .inl (cI, 4, .inl xF20)), (a23, .inl (cJ, 240, .inr (.inl xG22)))]) [0, 1, 2, 3, 4, 5] rfl
    have hD9 := hD.sub (ws' := [(a0, .inr (12, [.int i0, .ref a1, .ref a2, .ref a3, .ref a4, .int i1, .ref a5, .int i2, .int i3, .int i4, .int i5, .int i6, .int i7, .int i8, .ref a6, .ref a7, .ref a8, .ref a9, .ref a10, .ref a11, .ref a12, .int i9, .ref a13, .int i10, .ref a14, .ref a15, .int i11, .ref a16, .ref a17, .ref a18, .ref a19, .int i12, .int i13, .int i14, .int i15, .int i16, .ref a20, .long j0, .ref a21, .ref a22, .ref a23, .ref a24])), (a1, .inl (cI, 544, .inl xF0)), (a16, .inl (cI, 256, .inl (U8 0))), (a17, .inl (cI, 256, .inl (U8 1))), (a21, .inl (cI, 4, .inl xF20)), (a23, .inl (cJ, 240, .inr (.inl xG22)))]) [0, 1, 2, 3, 4, 5] (by decide) rfl
    rw [hQ]
    exact W.iret (v := x15) hx hb hr (fun t ht hW => ⟨⟨x15, (pickG 0 [], pickG (fun _ => 0) [(U8 0), (U8 1)], pickG (fun _ => 0) []), rfl, trivial, (by rw [ht]; exact hP9), hD9⟩, hS.F ht⟩) hS.2.2 dX12_fewest_32
  · rw [ki_le] at c5
    refine lv_iload_n hx hb dX12_fewest_10 rfl (lv_at hl 0 rfl) ?_
    have hP9 := hP.sub (ws' := [(a0, .inr (12, [.int i0, .ref a1, .ref a2, .ref a3, .ref a4, .int i1, .ref a5, .int i2, .int i3, .int i4, .int i5, .int i6, .int i7, .int i8, .ref a6, .ref a7, .ref a8, .ref a9, .ref a10, .ref a11, .ref a12, .int i9, .ref a13, .int i10, .ref a14, .ref a15, .int i11, .ref a16, .ref a17, .ref a18, .ref a19, .int i12, .int i13, .int i14, .int i15, .int i16, .ref a20, .long j0, .ref a21, .ref a22, .ref a23, .ref a24])), (a1, .inl (cI, 544, .inl xF0)), (a16, .inl (cI, 256, .inl xF15)), (a17, .inl (cI, 256, .inl xF16)), (a21, .inl (cI, 4, .inl xF20)), (a23, .inl (cJ, 240, .inr (.inl xG22)))]) [2, 3, 0, 1, 4, 5] rfl
    have hD9 := hD.sub (ws' := [(a0, .inr (12, [.int i0, .ref a1, .ref a2, .ref a3, .ref a4, .int i1, .ref a5, .int i2, .int i3, .int i4, .int i5, .int i6, .int i7, .int i8, .ref a6, .ref a7, .ref a8, .ref a9, .ref a10, .ref a11, .ref a12, .int i9, .ref a13, .int i10, .ref a14, .ref a15, .int i11, .ref a16, .ref a17, .ref a18, .ref a19, .int i12, .int i13, .int i14, .int i15, .int i16, .ref a20, .long j0, .ref a21, .ref a22, .ref a23, .ref a24])), (a1, .inl (cI, 544, .inl xF0)), (a16, .inl (cI, 256, .inl xF15)), (a17, .inl (cI, 256, .inl xF16)), (a21, .inl (cI, 4, .inl xF20)), (a23, .inl (cJ, 240, .inr (.inl xG22)))]) [2, 3, 0, 1, 4, 5] (by decide) rfl
    rw [hQ]
    exact W.iret (v := r1) hx hb hr (fun t ht hW => ⟨⟨r1, (pickG 0 [], pickG (fun _ => 0) [xF15, xF16], pickG (fun _ => 0) []), rfl, trivial, (by rw [ht]; exact hP9), hD9⟩, hS.F ht⟩) hS.2.2 dX12_fewest_11
theorem dX12_canRest_0 : decode cX12_canRest 0 = .ok (.iload_n 2, 1) := by decide +kernel
theorem dX12_canRest_1 : decode cX12_canRest 1 = .ok (.iload_n 1, 1) := by decide +kernel
theorem dX12_canRest_2 : decode cX12_canRest 2 = .ok (.ishr, 1) := by decide +kernel
theorem dX12_canRest_3 : decode cX12_canRest 3 = .ok (.iload_n 1, 1) := by decide +kernel
theorem dX12_canRest_4 : decode cX12_canRest 4 = .ok (.ishl, 1) := by decide +kernel
theorem dX12_canRest_5 : decode cX12_canRest 5 = .ok (.istore 4, 2) := by decide +kernel
theorem dX12_canRest_7 : decode cX12_canRest 7 = .ok (.iconst 1, 1) := by decide +kernel
theorem dX12_canRest_8 : decode cX12_canRest 8 = .ok (.istore 5, 2) := by decide +kernel
theorem dX12_canRest_10 : decode cX12_canRest 10 = .ok (.iload_n 1, 1) := by decide +kernel
theorem dX12_canRest_11 : decode cX12_canRest 11 = .ok (.istore 6, 2) := by decide +kernel
theorem dX12_canRest_13 : decode cX12_canRest 13 = .ok (.iload 6, 2) := by decide +kernel
theorem dX12_canRest_15 : decode cX12_canRest 15 = .ok (.bipush 8, 2) := by decide +kernel
theorem dX12_canRest_17 : decode cX12_canRest 17 = .ok (.if_icmp .ge 22, 3) := by decide +kernel
theorem dX12_canRest_20 : decode cX12_canRest 20 = .ok (.iload_n 2, 1) := by decide +kernel
theorem dX12_canRest_21 : decode cX12_canRest 21 = .ok (.iload 6, 2) := by decide +kernel
theorem dX12_canRest_23 : decode cX12_canRest 23 = .ok (.ishr, 1) := by decide +kernel
theorem dX12_canRest_24 : decode cX12_canRest 24 = .ok (.ifCond .eq 15, 3) := by decide +kernel
theorem dX12_canRest_27 : decode cX12_canRest 27 = .ok (.iload 5, 2) := by decide +kernel
theorem dX12_canRest_29 : decode cX12_canRest 29 = .ok (.iload_n 3, 1) := by decide +kernel
theorem dX12_canRest_30 : decode cX12_canRest 30 = .ok (.imul, 1) := by decide +kernel
theorem dX12_canRest_31 : decode cX12_canRest 31 = .ok (.istore 5, 2) := by decide +kernel
theorem dX12_canRest_33 : decode cX12_canRest 33 = .ok (.iinc 6 1, 3) := by decide +kernel
theorem dX12_canRest_36 : decode cX12_canRest 36 = .ok (.goto (-23), 3) := by decide +kernel
theorem dX12_canRest_39 : decode cX12_canRest 39 = .ok (.iconst 0, 1) := by decide +kernel
theorem dX12_canRest_40 : decode cX12_canRest 40 = .ok (.istore 6, 2) := by decide +kernel
theorem dX12_canRest_42 : decode cX12_canRest 42 = .ok (.iload 6, 2) := by decide +kernel
theorem dX12_canRest_44 : decode cX12_canRest 44 = .ok (.iload 5, 2) := by decide +kernel
theorem dX12_canRest_46 : decode cX12_canRest 46 = .ok (.if_icmp .ge 138, 3) := by decide +kernel
theorem dX12_canRest_49 : decode cX12_canRest 49 = .ok (.iload 6, 2) := by decide +kernel
theorem dX12_canRest_51 : decode cX12_canRest 51 = .ok (.istore 7, 2) := by decide +kernel
theorem dX12_canRest_53 : decode cX12_canRest 53 = .ok (.iconst 1, 1) := by decide +kernel
theorem dX12_canRest_54 : decode cX12_canRest 54 = .ok (.istore 8, 2) := by decide +kernel
theorem dX12_canRest_56 : decode cX12_canRest 56 = .ok (.iconst 0, 1) := by decide +kernel
theorem dX12_canRest_57 : decode cX12_canRest 57 = .ok (.istore 9, 2) := by decide +kernel
theorem dX12_canRest_59 : decode cX12_canRest 59 = .ok (.iload 9, 2) := by decide +kernel
theorem dX12_canRest_61 : decode cX12_canRest 61 = .ok (.iload_n 3, 1) := by decide +kernel
theorem dX12_canRest_62 : decode cX12_canRest 62 = .ok (.if_icmp .ge 28, 3) := by decide +kernel
theorem dX12_canRest_65 : decode cX12_canRest 65 = .ok (.aload_n 0, 1) := by decide +kernel
theorem dX12_canRest_66 : decode cX12_canRest 66 = .ok (.getfield 73, 3) := by decide +kernel
theorem dX12_canRest_69 : decode cX12_canRest 69 = .ok (.iload 9, 2) := by decide +kernel
theorem dX12_canRest_71 : decode cX12_canRest 71 = .ok (.aload_n 0, 1) := by decide +kernel
theorem dX12_canRest_72 : decode cX12_canRest 72 = .ok (.getfield 64, 3) := by decide +kernel
theorem dX12_canRest_75 : decode cX12_canRest 75 = .ok (.aload_n 0, 1) := by decide +kernel
theorem dX12_canRest_76 : decode cX12_canRest 76 = .ok (.getfield 70, 3) := by decide +kernel
theorem dX12_canRest_79 : decode cX12_canRest 79 = .ok (.iload 9, 2) := by decide +kernel
theorem dX12_canRest_81 : decode cX12_canRest 81 = .ok (.iaload, 1) := by decide +kernel
theorem dX12_canRest_82 : decode cX12_canRest 82 = .ok (.iaload, 1) := by decide +kernel
theorem dX12_canRest_83 : decode cX12_canRest 83 = .ok (.iastore, 1) := by decide +kernel
theorem dX12_canRest_84 : decode cX12_canRest 84 = .ok (.iinc 9 1, 3) := by decide +kernel
theorem dX12_canRest_87 : decode cX12_canRest 87 = .ok (.goto (-28), 3) := by decide +kernel
theorem dX12_canRest_90 : decode cX12_canRest 90 = .ok (.iload_n 1, 1) := by decide +kernel
theorem dX12_canRest_91 : decode cX12_canRest 91 = .ok (.istore 9, 2) := by decide +kernel
theorem dX12_canRest_93 : decode cX12_canRest 93 = .ok (.iload 9, 2) := by decide +kernel
theorem dX12_canRest_95 : decode cX12_canRest 95 = .ok (.bipush 8, 2) := by decide +kernel
theorem dX12_canRest_97 : decode cX12_canRest 97 = .ok (.if_icmp .ge 74, 3) := by decide +kernel
theorem dX12_canRest_100 : decode cX12_canRest 100 = .ok (.iload 4, 2) := by decide +kernel
theorem dX12_canRest_102 : decode cX12_canRest 102 = .ok (.iload 9, 2) := by decide +kernel
theorem dX12_canRest_104 : decode cX12_canRest 104 = .ok (.ishr, 1) := by decide +kernel
theorem dX12_canRest_105 : decode cX12_canRest 105 = .ok (.ifCond .eq 66, 3) := by decide +kernel
theorem dX12_canRest_108 : decode cX12_canRest 108 = .ok (.iload 8, 2) := by decide +kernel
theorem dX12_canRest_110 : decode cX12_canRest 110 = .ok (.ifCond .eq 61, 3) := by decide +kernel
theorem dX12_canRest_113 : decode cX12_canRest 113 = .ok (.aload_n 0, 1) := by decide +kernel
theorem dX12_canRest_114 : decode cX12_canRest 114 = .ok (.getfield 73, 3) := by decide +kernel
theorem dX12_canRest_117 : decode cX12_canRest 117 = .ok (.iload 7, 2) := by decide +kernel
theorem dX12_canRest_119 : decode cX12_canRest 119 = .ok (.iload_n 3, 1) := by decide +kernel
theorem dX12_canRest_120 : decode cX12_canRest 120 = .ok (.irem, 1) := by decide +kernel
theorem dX12_canRest_121 : decode cX12_canRest 121 = .ok (.dup2, 1) := by decide +kernel
theorem dX12_canRest_122 : decode cX12_canRest 122 = .ok (.iaload, 1) := by decide +kernel
theorem dX12_canRest_123 : decode cX12_canRest 123 = .ok (.aload_n 0, 1) := by decide +kernel
theorem dX12_canRest_124 : decode cX12_canRest 124 = .ok (.getfield 64, 3) := by decide +kernel
theorem dX12_canRest_127 : decode cX12_canRest 127 = .ok (.iconst 1, 1) := by decide +kernel
theorem dX12_canRest_128 : decode cX12_canRest 128 = .ok (.iload 9, 2) := by decide +kernel
theorem dX12_canRest_130 : decode cX12_canRest 130 = .ok (.ishl, 1) := by decide +kernel
theorem dX12_canRest_131 : decode cX12_canRest 131 = .ok (.iaload, 1) := by decide +kernel
theorem dX12_canRest_132 : decode cX12_canRest 132 = .ok (.iadd, 1) := by decide +kernel
theorem dX12_canRest_133 : decode cX12_canRest 133 = .ok (.iastore, 1) := by decide +kernel
theorem dX12_canRest_134 : decode cX12_canRest 134 = .ok (.aload_n 0, 1) := by decide +kernel
theorem dX12_canRest_135 : decode cX12_canRest 135 = .ok (.getfield 73, 3) := by decide +kernel
theorem dX12_canRest_138 : decode cX12_canRest 138 = .ok (.iload 7, 2) := by decide +kernel
theorem dX12_canRest_140 : decode cX12_canRest 140 = .ok (.iload_n 3, 1) := by decide +kernel
theorem dX12_canRest_141 : decode cX12_canRest 141 = .ok (.irem, 1) := by decide +kernel
theorem dX12_canRest_142 : decode cX12_canRest 142 = .ok (.iaload, 1) := by decide +kernel
theorem dX12_canRest_143 : decode cX12_canRest 143 = .ok (.aload_n 0, 1) := by decide +kernel
theorem dX12_canRest_144 : decode cX12_canRest 144 = .ok (.getfield 13, 3) := by decide +kernel
theorem dX12_canRest_147 : decode cX12_canRest 147 = .ok (.iconst 1, 1) := by decide +kernel
theorem dX12_canRest_148 : decode cX12_canRest 148 = .ok (.iaload, 1) := by decide +kernel
theorem dX12_canRest_149 : decode cX12_canRest 149 = .ok (.if_icmp .gt 7, 3) := by decide +kernel
theorem dX12_canRest_152 : decode cX12_canRest 152 = .ok (.iconst 1, 1) := by decide +kernel
theorem dX12_canRest_153 : decode cX12_canRest 153 = .ok (.goto 4, 3) := by decide +kernel
theorem dX12_canRest_156 : decode cX12_canRest 156 = .ok (.iconst 0, 1) := by decide +kernel
theorem dX12_canRest_157 : decode cX12_canRest 157 = .ok (.istore 8, 2) := by decide +kernel
theorem dX12_canRest_159 : decode cX12_canRest 159 = .ok (.iload 7, 2) := by decide +kernel
theorem dX12_canRest_161 : decode cX12_canRest 161 = .ok (.iload_n 3, 1) := by decide +kernel
theorem dX12_canRest_162 : decode cX12_canRest 162 = .ok (.idiv, 1) := by decide +kernel
theorem dX12_canRest_163 : decode cX12_canRest 163 = .ok (.istore 7, 2) := by decide +kernel
theorem dX12_canRest_165 : decode cX12_canRest 165 = .ok (.iinc 9 1, 3) := by decide +kernel
theorem dX12_canRest_168 : decode cX12_canRest 168 = .ok (.goto (-75), 3) := by decide +kernel
theorem dX12_canRest_171 : decode cX12_canRest 171 = .ok (.iload 8, 2) := by decide +kernel
theorem dX12_canRest_173 : decode cX12_canRest 173 = .ok (.ifCond .eq 5, 3) := by decide +kernel
theorem dX12_canRest_176 : decode cX12_canRest 176 = .ok (.iconst 1, 1) := by decide +kernel
theorem dX12_canRest_177 : decode cX12_canRest 177 = .ok (.ireturn, 1) := by decide +kernel
theorem dX12_canRest_178 : decode cX12_canRest 178 = .ok (.iinc 6 1, 3) := by decide +kernel
theorem dX12_canRest_181 : decode cX12_canRest 181 = .ok (.goto (-139), 3) := by decide +kernel
theorem dX12_canRest_184 : decode cX12_canRest 184 = .ok (.iconst 0, 1) := by decide +kernel
theorem dX12_canRest_185 : decode cX12_canRest 185 = .ok (.ireturn, 1) := by decide +kernel
set_option maxHeartbeats 4000000 in
set_option maxRecDepth 100000 in
theorem s_X12_canRest (l : Launch) (dC : Nat → ClassId) (dI : Nat → Nat → Nat) (cI cZ cB cJ cM cG : ClassId) (a0 a1 a2 a3 a4 a5 a6 a7 a8 a9 a10 a11 a12 a13 a14 a15 a16 a17 a18 a19 a20 a21 a22 a23 a24 : Nat) (i0 i1 i2 i3 i4 i5 i6 i7 i8 i9 i10 i11 i12 i13 i14 i15 i16 : Int32) (j0 : Int64) (xF0 xF15 xF17 xF18 : Nat → Int32) (p0 p1 p2 : Int32) (cp : Int) (sz : Nat) (p_0 : (0 : Int) ≤ i1.toInt ∧ i1.toInt ≤ 1600) (p_1 : (0 : Int) ≤ i2.toInt ∧ i2.toInt ≤ 1600) (p_2 : (0 : Int) ≤ i3.toInt ∧ i3.toInt ≤ 1600) (p_3 : (0 : Int) ≤ i4.toInt ∧ i4.toInt ≤ 1600) (p_4 : (0 : Int) ≤ i5.toInt ∧ i5.toInt ≤ 6) (p_5 : (0 : Int) ≤ i7.toInt ∧ i7.toInt ≤ 3) (p_6 : (0 : Int) ≤ i11.toInt ∧ i11.toInt ≤ 59) (p_7 : WI cp xF0) (p_8 : rng xF17 8 0 255) (p_9 : (1 : Int) ≤ p0.toInt ∧ p0.toInt ≤ 8) (p_10 : (1 : Int) ≤ p2.toInt ∧ p2.toInt ≤ 8) (p_11 : 0 ≤ cp ∧ cp ≤ 2000000000) : Met l yX12_canRest (kw yX12_canRest cX12_canRest 10 (some .boolean)) ({ frames := 0, cells := 0, slots := 0, locals := 0 } : Room) (va_Pc [.ref a0, .int p0, .int p1, .int p2] (kPre dC dI [(cI, .int), (cZ, .boolean), (cB, .byte), (cJ, .long), (cM, .object RX2), (cG, .array .int)] [(a0, .inr (12, [.int i0, .ref a1, .ref a2, .ref a3, .ref a4, .int i1, .ref a5, .int i2, .int i3, .int i4, .int i5, .int i6, .int i7, .int i8, .ref a6, .ref a7, .ref a8, .ref a9, .ref a10, .ref a11, .ref a12, .int i9, .ref a13, .int i10, .ref a14, .ref a15, .int i11, .ref a16, .ref a17, .ref a18, .ref a19, .int i12, .int i13, .int i14, .int i15, .int i16, .ref a20, .long j0, .ref a21, .ref a22, .ref a23, .ref a24])), (a1, .inl (cI, 544, .inl xF0)), (a16, .inl (cI, 256, .inl xF15)), (a18, .inl (cI, 8, .inl xF17)), (a19, .inl (cI, 8, .inl xF18))] sz)) (va_Qi (fun (r : Int32) (u9 : (Nat → Int32) × (Nat → Nat → Int32) × (Nat → Nat → Int64)) => ((0 : Int) ≤ r.toInt ∧ r.toInt ≤ 1) ∧ True) (fun u9 t => va_P (dC, dI) vwCl [(a0, .inr (12, [.int i0, .ref a1, .ref a2, .ref a3, .ref a4, .int i1, .ref a5, .int i2, .int i3, .int i4, .int i5, .int i6, .int i7, .int i8, .ref a6, .ref a7, .ref a8, .ref a9, .ref a10, .ref a11, .ref a12, .int i9, .ref a13, .int i10, .ref a14, .ref a15, .int i11, .ref a16, .ref a17, .ref a18, .ref a19, .int i12, .int i13, .int i14, .int i15, .int i16, .ref a20, .long j0, .ref a21, .ref a22, .ref a23, .ref a24])), (a1, .inl (cI, 544, .inl xF0)), (a16, .inl (cI, 256, .inl xF15)), (a18, .inl (cI, 8, .inl xF17)), (a19, .inl (cI, 8, .inl (u9.2.1 0)))] t.heap ∧ va_D (va_A [(a0, .inr (12, [.int i0, .ref a1, .ref a2, .ref a3, .ref a4, .int i1, .ref a5, .int i2, .int i3, .int i4, .int i5, .int i6, .int i7, .int i8, .ref a6, .ref a7, .ref a8, .ref a9, .ref a10, .ref a11, .ref a12, .int i9, .ref a13, .int i10, .ref a14, .ref a15, .int i11, .ref a16, .ref a17, .ref a18, .ref a19, .int i12, .int i13, .int i14, .int i15, .int i16, .ref a20, .long j0, .ref a21, .ref a22, .ref a23, .ref a24])), (a1, .inl (cI, 544, .inl xF0)), (a16, .inl (cI, 256, .inl xF15)), (a18, .inl (cI, 8, .inl xF17)), (a19, .inl (cI, 8, .inl xF18))] sz) [(a0, .inr (12, [.int i0, .ref a1, .ref a2, .ref a3, .ref a4, .int i1, .ref a5, .int i2, .int i3, .int i4, .int i5, .int i6, .int i7, .int i8, .ref a6, .ref a7, .ref a8, .ref a9, .ref a10, .ref a11, .ref a12, .int i9, .ref a13, .int i10, .ref a14, .ref a15, .int i11, .ref a16, .ref a17, .ref a18, .ref a19, .int i12, .int i13, .int i14, .int i15, .int i16, .ref a20, .long j0, .ref a21, .ref a22, .ref a23, .ref a24])), (a1, .inl (cI, 544, .inl xF0)), (a16, .inl (cI, 256, .inl xF15)), (a18, .inl (cI, 8, .inl xF17)), (a19, .inl (cI, 8, .inl (u9.2.1 0)))]) (va_A [(a0, .inr (12, [.int i0, .ref a1, .ref a2, .ref a3, .ref a4, .int i1, .ref a5, .int i2, .int i3, .int i4, .int i5, .int i6, .int i7, .int i8, .ref a6, .ref a7, .ref a8, .ref a9, .ref a10, .ref a11, .ref a12, .int i9, .ref a13, .int i10, .ref a14, .ref a15, .int i11, .ref a16, .ref a17, .ref a18, .ref a19, .int i12, .int i13, .int i14, .int i15, .int i16, .ref a20, .long j0, .ref a21, .ref a22, .ref a23, .ref a24])), (a1, .inl (cI, 544, .inl xF0)), (a16, .inl (cI, 256, .inl xF15)), (a18, .inl (cI, 8, .inl xF17)), (a19, .inl (cI, 8, .inl xF18))] sz)) 0 0 (va_A [(a0, .inr (12, [.int i0, .ref a1, .ref a2, .ref a3, .ref a4, .int i1, .ref a5, .int i2, .int i3, .int i4, .int i5, .int i6, .int i7, .int i8, .ref a6, .ref a7, .ref a8, .ref a9, .ref a10, .ref a11, .ref a12, .int i9, .ref a13, .int i10, .ref a14, .ref a15, .int i11, .ref a16, .ref a17, .ref a18, .ref a19, .int i12, .int i13, .int i14, .int i15, .int i16, .ref a20, .long j0, .ref a21, .ref a22, .ref a23, .ref a24])), (a1, .inl (cI, 544, .inl xF0)), (a16, .inl (cI, 256, .inl xF15)), (a18, .inl (cI, 8, .inl xF17)), (a19, .inl (cI, 8, .inl xF18))] sz) := by
  refine kEnter (by decide) (Nat.le_of_ble_eq_true rfl) ?_
  intro p e s m below meth c ls hx hb hr hml hown hlocks hin hwd hsz hP hK hD hl
  subst hsz
  generalize hAe : va_A [(a0, .inr (12, [.int i0, .ref a1, .ref a2, .ref a3, .ref a4, .int i1, .ref a5, .int i2, .int i3, .int i4, .int i5, .int i6, .int i7, .int i8, .ref a6, .ref a7, .ref a8, .ref a9, .ref a10, .ref a11, .ref a12, .int i9, .ref a13, .int i10, .ref a14, .ref a15, .int i11, .ref a16, .ref a17, .ref a18, .ref a19, .int i12, .int i13, .int i14, .int i15, .int i16, .ref a20, .long j0, .ref a21, .ref a22, .ref a23, .ref a24])), (a1, .inl (cI, 544, .inl xF0)), (a16, .inl (cI, 256, .inl xF15)), (a18, .inl (cI, 8, .inl xF17)), (a19, .inl (cI, 8, .inl xF18))] s.heap.size = A at hD ⊢
  have hA : ∀ q : Nat, s.heap.size ≤ q → A q := fun q h => by rw [← hAe]; exact Or.inr h
  have hS : va_S A s.heap s.heap [] := va_S.rf
  have hl : lv_has ls 10 [(0, .ref a0), (1, .int p0), (2, .int p1), (3, .int p2)] := hl
  obtain ⟨Q, hQ⟩ : ∃ Q, Q = MQ below (va_Qi (fun (r : Int32) (u9 : (Nat → Int32) × (Nat → Nat → Int32) × (Nat → Nat → Int64)) => ((0 : Int) ≤ r.toInt ∧ r.toInt ≤ 1) ∧ True) (fun u9 t => va_P (dC, dI) vwCl [(a0, .inr (12, [.int i0, .ref a1, .ref a2, .ref a3, .ref a4, .int i1, .ref a5, .int i2, .int i3, .int i4, .int i5, .int i6, .int i7, .int i8, .ref a6, .ref a7, .ref a8, .ref a9, .ref a10, .ref a11, .ref a12, .int i9, .ref a13, .int i10, .ref a14, .ref a15, .int i11, .ref a16, .ref a17, .ref a18, .ref a19, .int i12, .int i13, .int i14, .int i15, .int i16, .ref a20, .long j0, .ref a21, .ref a22, .ref a23, .ref a24])), (a1, .inl (cI, 544, .inl xF0)), (a16, .inl (cI, 256, .inl xF15)), (a18, .inl (cI, 8, .inl xF17)), (a19, .inl (cI, 8, .inl (u9.2.1 0)))] t.heap ∧ va_D A [(a0, .inr (12, [.int i0, .ref a1, .ref a2, .ref a3, .ref a4, .int i1, .ref a5, .int i2, .int i3, .int i4, .int i5, .int i6, .int i7, .int i8, .ref a6, .ref a7, .ref a8, .ref a9, .ref a10, .ref a11, .ref a12, .int i9, .ref a13, .int i10, .ref a14, .ref a15, .int i11, .ref a16, .ref a17, .ref a18, .ref a19, .int i12, .int i13, .int i14, .int i15, .int i16, .ref a20, .long j0, .ref a21, .ref a22, .ref a23, .ref a24])), (a1, .inl (cI, 544, .inl xF0)), (a16, .inl (cI, 256, .inl xF15)), (a18, .inl (cI, 8, .inl xF17)), (a19, .inl (cI, 8, .inl (u9.2.1 0)))]) A) ([.ref a0, .int p0, .int p1, .int p2] : List Value).toArray s 0 0 A := ⟨_, rfl⟩
  rw [← hQ]
  have k0 : (0 : Int32).toInt = 0 := by decide
  have k1 : (1 : Int32).toInt = 1 := by decide
  have k8 : (8 : Int32).toInt = 8 := by decide
  refine lv_iload_n hx hb dX12_canRest_0 rfl (lv_at hl 2 rfl) ?_
  refine lv_iload_n hx hb dX12_canRest_1 rfl (lv_at hl 1 rfl) ?_
  refine lv_ishr hx hb dX12_canRest_2 ?_
  refine lv_topi (fun x1 ex1 => ?_)
  refine lv_iload_n hx hb dX12_canRest_3 rfl (lv_at hl 1 rfl) ?_
  refine lv_ishl hx hb dX12_canRest_4 ?_
  refine lv_topi (fun x2 ex2 => ?_)
  refine lv_istore (lv' := [(4, .int x2), (0, .ref a0), (1, .int p0), (2, .int p1), (3, .int p2)]) hx hb dX12_canRest_5 hl (by decide) rfl (fun ls hl => ?_)
  refine lv_iconst (v := 1) hx hb dX12_canRest_7 (by decide) ?_
  refine lv_istore (lv' := [(5, .int 1), (4, .int x2), (0, .ref a0), (1, .int p0), (2, .int p1), (3, .int p2)]) hx hb dX12_canRest_8 hl (by decide) rfl (fun ls hl => ?_)
  refine lv_iload_n hx hb dX12_canRest_10 rfl (lv_at hl 3 rfl) ?_
  refine lv_istore (lv' := [(6, .int p0), (5, .int 1), (4, .int x2), (0, .ref a0), (1, .int p0), (2, .int p1), (3, .int p2)]) hx hb dX12_canRest_11 hl (by decide) rfl (fun ls hl => ?_)
  have lp1 : ∀ (d : Nat), ∀ (H : Heap) (locs : List Loc) (ls : Array Slot) (w5_1 : Int32) (w6_1 : Int32), ((1 : Int) ≤ w6_1.toInt ∧ w6_1.toInt ≤ 8) → (8 - w6_1.toInt).toNat < d → va_P (dC, dI) vwCl [(a0, .inr (12, [.int i0, .ref a1, .ref a2, .ref a3, .ref a4, .int i1, .ref a5, .int i2, .int i3, .int i4, .int i5, .int i6, .int i7, .int i8, .ref a6, .ref a7, .ref a8, .ref a9, .ref a10, .ref a11, .ref a12, .int i9, .ref a13, .int i10, .ref a14, .ref a15, .int i11, .ref a16, .ref a17, .ref a18, .ref a19, .int i12, .int i13, .int i14, .int i15, .int i16, .ref a20, .long j0, .ref a21, .ref a22, .ref a23, .ref a24])), (a1, .inl (cI, 544, .inl xF0)), (a16, .inl (cI, 256, .inl xF15)), (a18, .inl (cI, 8, .inl xF17)), (a19, .inl (cI, 8, .inl xF18))] H → va_D A [(a0, .inr (12, [.int i0, .ref a1, .ref a2, .ref a3, .ref a4, .int i1, .ref a5, .int i2, .int i3, .int i4, .int i5, .int i6, .int i7, .int i8, .ref a6, .ref a7, .ref a8, .ref a9, .ref a10, .ref a11, .ref a12, .int i9, .ref a13, .int i10, .ref a14, .ref a15, .int i11, .ref a16, .ref a17, .ref a18, .ref a19, .int i12, .int i13, .int i14, .int i15, .int i16, .ref a20, .long j0, .ref a21, .ref a22, .ref a23, .ref a24])), (a1, .inl (cI, 544, .inl xF0)), (a16, .inl (cI, 256, .inl xF15)), (a18, .inl (cI, 8, .inl xF17)), (a19, .inl (cI, 8, .inl xF18))] → va_S A s.heap H locs → lv_has ls 10 [(0, .ref a0), (1, .int p0), (2, .int p1), (3, .int p2), (4, .int x2), (5, .int w5_1), (6, .int w6_1)] → W p l e ({ frames := 0, cells := 0, slots := 0, locals := 0 } : Room) s m ([.ref a0, .int p0, .int p1, .int p2] : List Value).toArray below meth c H locs 0 0 Q (F0 m 13 ls []) := by
    intro d
    induction d with
    | zero =>
      intro H locs ls w5_1 w6_1 hr_w6_1 hm hP hD hS hl
      omega
    | succ d ih1 =>
      intro H locs ls w5_1 w6_1 hr_w6_1 hm hP hD hS hl
      refine lv_iload hx hb dX12_canRest_13 (lv_at hl 6 rfl) ?_
      refine lv_bipush (v := 8) hx hb dX12_canRest_15 (by decide) ?_
      refine lv_icmp_ge (tgt := 39) hx hb dX12_canRest_17 (by decide) (fun c28 => ?_) (fun c28 => ?_)
      · rw [ki_le] at c28
        refine lv_iconst (v := 0) hx hb dX12_canRest_39 (by decide) ?_
        refine lv_istore (lv' := [(6, .int 0), (0, .ref a0), (1, .int p0), (2, .int p1), (3, .int p2), (4, .int x2), (5, .int w5_1)]) hx hb dX12_canRest_40 hl (by decide) rfl (fun ls hl => ?_)
        have lp2 : ∀ (d : Nat), ∀ (H : Heap) (locs : List Loc) (ls : Array Slot) (w6_2 : Int32) (g1_2 : Nat → Int32), ((0 : Int) ≤ w6_2.toInt ∧ w6_2.toInt ≤ 2147483647) → (2147483647 - w6_2.toInt).toNat < d → va_P (dC, dI) vwCl [(a0, .inr (12, [.int i0, .ref a1, .ref a2, .ref a3, .ref a4, .int i1, .ref a5, .int i2, .int i3, .int i4, .int i5, .int i6, .int i7, .int i8, .ref a6, .ref a7, .ref a8, .ref a9, .ref a10, .ref a11, .ref a12, .int i9, .ref a13, .int i10, .ref a14, .ref a15, .int i11, .ref a16, .ref a17, .ref a18, .ref a19, .int i12, .int i13, .int i14, .int i15, .int i16, .ref a20, .long j0, .ref a21, .ref a22, .ref a23, .ref a24])), (a1, .inl (cI, 544, .inl xF0)), (a16, .inl (cI, 256, .inl xF15)), (a18, .inl (cI, 8, .inl xF17)), (a19, .inl (cI, 8, .inl g1_2))] H → va_D A [(a0, .inr (12, [.int i0, .ref a1, .ref a2, .ref a3, .ref a4, .int i1, .ref a5, .int i2, .int i3, .int i4, .int i5, .int i6, .int i7, .int i8, .ref a6, .ref a7, .ref a8, .ref a9, .ref a10, .ref a11, .ref a12, .int i9, .ref a13, .int i10, .ref a14, .ref a15, .int i11, .ref a16, .ref a17, .ref a18, .ref a19, .int i12, .int i13, .int i14, .int i15, .int i16, .ref a20, .long j0, .ref a21, .ref a22, .ref a23, .ref a24])), (a1, .inl (cI, 544, .inl xF0)), (a16, .inl (cI, 256, .inl xF15)), (a18, .inl (cI, 8, .inl xF17)), (a19, .inl (cI, 8, .inl g1_2))] → va_S A s.heap H locs → lv_has ls 10 [(0, .ref a0), (1, .int p0), (2, .int p1), (3, .int p2), (4, .int x2), (5, .int w5_1), (6, .int w6_2)] → W p l e ({ frames := 0, cells := 0, slots := 0, locals := 0 } : Room) s m ([.ref a0, .int p0, .int p1, .int p2] : List Value).toArray below meth c H locs 0 0 Q (F0 m 42 ls []) := by
          intro d
          induction d with
          | zero =>
            intro H locs ls w6_2 g1_2 hr_w6_2 hm hP hD hS hl
            omega
          | succ d ih2 =>
            intro H locs ls w6_2 g1_2 hr_w6_2 hm hP hD hS hl
            refine lv_iload hx hb dX12_canRest_42 (lv_at hl 6 rfl) ?_
            refine lv_iload hx hb dX12_canRest_44 (lv_at hl 5 rfl) ?_
            refine lv_icmp_ge (tgt := 184) hx hb dX12_canRest_46 (by decide) (fun c6125 => ?_) (fun c6125 => ?_)
            · rw [ki_le] at c6125
              refine lv_iconst (v := 0) hx hb dX12_canRest_184 (by decide) ?_
              have hP9 := hP.sub (ws' := [(a0, .inr (12, [.int i0, .ref a1, .ref a2, .ref a3, .ref a4, .int i1, .ref a5, .int i2, .int i3, .int i4, .int i5, .int i6, .int i7, .int i8, .ref a6, .ref a7, .ref a8, .ref a9, .ref a10, .ref a11, .ref a12, .int i9, .ref a13, .int i10, .ref a14, .ref a15, .int i11, .ref a16, .ref a17, .ref a18, .ref a19, .int i12, .int i13, .int i14, .int i15, .int i16, .ref a20, .long j0, .ref a21, .ref a22, .ref a23, .ref a24])), (a1, .inl (cI, 544, .inl xF0)), (a16, .inl (cI, 256, .inl xF15)), (a18, .inl (cI, 8, .inl xF17)), (a19, .inl (cI, 8, .inl g1_2))]) [0, 1, 2, 3, 4] rfl
              have hD9 := hD.sub (ws' := [(a0, .inr (12, [.int i0, .ref a1, .ref a2, .ref a3, .ref a4, .int i1, .ref a5, .int i2, .int i3, .int i4, .int i5, .int i6, .int i7, .int i8, .ref a6, .ref a7, .ref a8, .ref a9, .ref a10, .ref a11, .ref a12, .int i9, .ref a13, .int i10, .ref a14, .ref a15, .int i11, .ref a16, .ref a17, .ref a18, .ref a19, .int i12, .int i13, .int i14, .int i15, .int i16, .ref a20, .long j0, .ref a21, .ref a22, .ref a23, .ref a24])), (a1, .inl (cI, 544, .inl xF0)), (a16, .inl (cI, 256, .inl xF15)), (a18, .inl (cI, 8, .inl xF17)), (a19, .inl (cI, 8, .inl g1_2))]) [0, 1, 2, 3, 4] (by decide) rfl
              rw [hQ]
              exact W.zret (v := 0) hx hb hr (by decide) (fun t ht hW => ⟨⟨0, (pickG 0 [], pickG (fun _ => 0) [g1_2], pickG (fun _ => 0) []), rfl, ⟨(show (0 : Int) ≤ (0 : Int32).toInt ∧ (0 : Int32).toInt ≤ 1 from ⟨by omega, by omega⟩), trivial⟩, (by rw [ht]; exact hP9), hD9⟩, hS.F ht⟩) hS.2.2 dX12_canRest_185
            · rw [ki_le] at c6125
              have b5 := i32_b w5_1
              refine lv_iload hx hb dX12_canRest_49 (lv_at hl 6 rfl) ?_
              refine lv_istore (lv' := [(7, .int w6_2), (0, .ref a0), (1, .int p0), (2, .int p1), (3, .int p2), (4, .int x2), (5, .int w5_1), (6, .int w6_2)]) hx hb dX12_canRest_51 hl (by decide) rfl (fun ls hl => ?_)
              refine lv_iconst (v := 1) hx hb dX12_canRest_53 (by decide) ?_
              refine lv_istore (lv' := [(8, .int 1), (7, .int w6_2), (0, .ref a0), (1, .int p0), (2, .int p1), (3, .int p2), (4, .int x2), (5, .int w5_1), (6, .int w6_2)]) hx hb dX12_canRest_54 hl (by decide) rfl (fun ls hl => ?_)
              refine lv_iconst (v := 0) hx hb dX12_canRest_56 (by decide) ?_
              refine lv_istore (lv' := [(9, .int 0), (8, .int 1), (7, .int w6_2), (0, .ref a0), (1, .int p0), (2, .int p1), (3, .int p2), (4, .int x2), (5, .int w5_1), (6, .int w6_2)]) hx hb dX12_canRest_57 hl (by decide) rfl (fun ls hl => ?_)
              have lp251 : ∀ (d : Nat), ∀ (H : Heap) (locs : List Loc) (ls : Array Slot) (w9_251 : Int32) (g1_251 : Nat → Int32), ((0 : Int) ≤ w9_251.toInt ∧ w9_251.toInt ≤ 8) → (8 - w9_251.toInt).toNat < d → va_P (dC, dI) vwCl [(a0, .inr (12, [.int i0, .ref a1, .ref a2, .ref a3, .ref a4, .int i1, .ref a5, .int i2, .int i3, .int i4, .int i5, .int i6, .int i7, .int i8, .ref a6, .ref a7, .ref a8, .ref a9, .ref a10, .ref a11, .ref a12, .int i9, .ref a13, .int i10, .ref a14, .ref a15, .int i11, .ref a16, .ref a17, .ref a18, .ref a19, .int i12, .int i13, .int i14, .int i15, .int i16, .ref a20, .long j0, .ref a21, .ref a22, .ref a23, .ref a24])), (a1, .inl (cI, 544, .inl xF0)), (a16, .inl (cI, 256, .inl xF15)), (a18, .inl (cI, 8, .inl xF17)), (a19, .inl (cI, 8, .inl g1_251))] H → va_D A [(a0, .inr (12, [.int i0, .ref a1, .ref a2, .ref a3, .ref a4, .int i1, .ref a5, .int i2, .int i3, .int i4, .int i5, .int i6, .int i7, .int i8, .ref a6, .ref a7, .ref a8, .ref a9, .ref a10, .ref a11, .ref a12, .int i9, .ref a13, .int i10, .ref a14, .ref a15, .int i11, .ref a16, .ref a17, .ref a18, .ref a19, .int i12, .int i13, .int i14, .int i15, .int i16, .ref a20, .long j0, .ref a21, .ref a22, .ref a23, .ref a24])), (a1, .inl (cI, 544, .inl xF0)), (a16, .inl (cI, 256, .inl xF15)), (a18, .inl (cI, 8, .inl xF17)), (a19, .inl (cI, 8, .inl g1_251))] → va_S A s.heap H locs → lv_has ls 10 [(0, .ref a0), (1, .int p0), (2, .int p1), (3, .int p2), (4, .int x2), (5, .int w5_1), (6, .int w6_2), (7, .int w6_2), (8, .int 1), (9, .int w9_251)] → W p l e ({ frames := 0, cells := 0, slots := 0, locals := 0 } : Room) s m ([.ref a0, .int p0, .int p1, .int p2] : List Value).toArray below meth c H locs 0 0 Q (F0 m 59 ls []) := by
                intro d
                induction d with
                | zero =>
                  intro H locs ls w9_251 g1_251 hr_w9_251 hm hP hD hS hl
                  omega
                | succ d ih251 =>
                  intro H locs ls w9_251 g1_251 hr_w9_251 hm hP hD hS hl
                  refine lv_iload hx hb dX12_canRest_59 (lv_at hl 9 rfl) ?_
                  refine lv_iload_n hx hb dX12_canRest_61 rfl (lv_at hl 3 rfl) ?_
                  refine lv_icmp_ge (tgt := 90) hx hb dX12_canRest_62 (by decide) (fun c6772 => ?_) (fun c6772 => ?_)
                  · rw [ki_le] at c6772
                    refine lv_iload_n hx hb dX12_canRest_90 rfl (lv_at hl 1 rfl) ?_
                    refine lv_istore (lv' := [(9, .int p0), (0, .ref a0), (1, .int p0), (2, .int p1), (3, .int p2), (4, .int x2), (5, .int w5_1), (6, .int w6_2), (7, .int w6_2), (8, .int 1)]) hx hb dX12_canRest_91 hl (by decide) rfl (fun ls hl => ?_)
                    have lp276 : ∀ (d : Nat), ∀ (H : Heap) (locs : List Loc) (ls : Array Slot) (w7_276 : Int32) (w8_276 : Int32) (w9_276 : Int32) (g3_276 : Nat → Int32), ((0 : Int) ≤ w7_276.toInt ∧ w7_276.toInt ≤ 2147483647) → ((0 : Int) ≤ w8_276.toInt ∧ w8_276.toInt ≤ 1) → ((1 : Int) ≤ w9_276.toInt ∧ w9_276.toInt ≤ 8) → (8 - w9_276.toInt).toNat < d → va_P (dC, dI) vwCl [(a0, .inr (12, [.int i0, .ref a1, .ref a2, .ref a3, .ref a4, .int i1, .ref a5, .int i2, .int i3, .int i4, .int i5, .int i6, .int i7, .int i8, .ref a6, .ref a7, .ref a8, .ref a9, .ref a10, .ref a11, .ref a12, .int i9, .ref a13, .int i10, .ref a14, .ref a15, .int i11, .ref a16, .ref a17, .ref a18, .ref a19, .int i12, .int i13, .int i14, .int i15, .int i16, .ref a20, .long j0, .ref a21, .ref a22, .ref a23, .ref a24])), (a1, .inl (cI, 544, .inl xF0)), (a16, .inl (cI, 256, .inl xF15)), (a18, .inl (cI, 8, .inl xF17)), (a19, .inl (cI, 8, .inl g3_276))] H → va_D A [(a0, .inr (12, [.int i0, .ref a1, .ref a2, .ref a3, .ref a4, .int i1, .ref a5, .int i2, .int i3, .int i4, .int i5, .int i6, .int i7, .int i8, .ref a6, .ref a7, .ref a8, .ref a9, .ref a10, .ref a11, .ref a12, .int i9, .ref a13, .int i10, .ref a14, .ref a15, .int i11, .ref a16, .ref a17, .ref a18, .ref a19, .int i12, .int i13, .int i14, .int i15, .int i16, .ref a20, .long j0, .ref a21, .ref a22, .ref a23, .ref a24])), (a1, .inl (cI, 544, .inl xF0)), (a16, .inl (cI, 256, .inl xF15)), (a18, .inl (cI, 8, .inl xF17)), (a19, .inl (cI, 8, .inl g3_276))] → va_S A s.heap H locs → lv_has ls 10 [(0, .ref a0), (1, .int p0), (2, .int p1), (3, .int p2), (4, .int x2), (5, .int w5_1), (6, .int w6_2), (7, .int w7_276), (8, .int w8_276), (9, .int w9_276)] → W p l e ({ frames := 0, cells := 0, slots := 0, locals := 0 } : Room) s m ([.ref a0, .int p0, .int p1, .int p2] : List Value).toArray below meth c H locs 0 0 Q (F0 m 93 ls []) := by
                      intro d
                      induction d with
                      | zero =>
                        intro H locs ls w7_276 w8_276 w9_276 g3_276 hr_w7_276 hr_w8_276 hr_w9_276 hm hP hD hS hl
                        omega
                      | succ d ih276 =>
                        intro H locs ls w7_276 w8_276 w9_276 g3_276 hr_w7_276 hr_w8_276 hr_w9_276 hm hP hD hS hl
                        refine lv_iload hx hb dX12_canRest_93 (lv_at hl 9 rfl) ?_
                        refine lv_bipush (v := 8) hx hb dX12_canRest_95 (by decide) ?_
                        refine lv_icmp_ge (tgt := 171) hx hb dX12_canRest_97 (by decide) (fun c6894 => ?_) (fun c6894 => ?_)
                        · rw [ki_le] at c6894
                          refine lv_iload hx hb dX12_canRest_171 (lv_at hl 8 rfl) ?_
                          refine lv_if_eq (tgt := 178) hx hb dX12_canRest_173 (by decide) (fun c6895 => ?_) (fun c6895 => ?_)
                          · rw [ki_eq] at c6895
                            obtain ⟨x6896, ex6896⟩ : ∃ y : Int32, y = w6_2 + 1 := ⟨_, rfl⟩
                            refine lv_iinc (v := x6896) (lv' := [(6, .int x6896), (0, .ref a0), (1, .int p0), (2, .int p1), (3, .int p2), (4, .int x2), (5, .int w5_1), (7, .int w7_276), (8, .int w8_276), (9, .int w9_276)]) hx hb dX12_canRest_178 hl (k := 6) rfl (by rw [ex6896]; rfl) (by decide) rfl (fun ls hl => ?_)
                            have b_b6897 := i32_b w6_2
                            have tx6896 := ia_add (a := w6_2) (b := (1 : Int32)) (by omega) (by omega)
                            rw [← ex6896] at tx6896
                            refine lv_goto (tgt := 42) hx hb dX12_canRest_181 (by decide) ?_
                            exact ih2 _ _ ls x6896 g3_276 (show (0 : Int) ≤ x6896.toInt ∧ x6896.toInt ≤ 2147483647 from ⟨by omega, i32_hi⟩) (by omega) (hP.sub (ws' := [(a0, .inr (12, [.int i0, .ref a1, .ref a2, .ref a3, .ref a4, .int i1, .ref a5, .int i2, .int i3, .int i4, .int i5, .int i6, .int i7, .int i8, .ref a6, .ref a7, .ref a8, .ref a9, .ref a10, .ref a11, .ref a12, .int i9, .ref a13, .int i10, .ref a14, .ref a15, .int i11, .ref a16, .ref a17, .ref a18, .ref a19, .int i12, .int i13, .int i14, .int i15, .int i16, .ref a20, .long j0, .ref a21, .ref a22, .ref a23, .ref a24])), (a1, .inl (cI, 544, .inl xF0)), (a16, .inl (cI, 256, .inl xF15)), (a18, .inl (cI, 8, .inl xF17)), (a19, .inl (cI, 8, .inl g3_276))]) [0, 1, 2, 3, 4] rfl) (hD.sub (ws' := [(a0, .inr (12, [.int i0, .ref a1, .ref a2, .ref a3, .ref a4, .int i1, .ref a5, .int i2, .int i3, .int i4, .int i5, .int i6, .int i7, .int i8, .ref a6, .ref a7, .ref a8, .ref a9, .ref a10, .ref a11, .ref a12, .int i9, .ref a13, .int i10, .ref a14, .ref a15, .int i11, .ref a16, .ref a17, .ref a18, .ref a19, .int i12, .int i13, .int i14, .int i15, .int i16, .ref a20, .long j0, .ref a21, .ref a22, .ref a23, .ref a24])), (a1, .inl (cI, 544, .inl xF0)), (a16, .inl (cI, 256, .inl xF15)), (a18, .inl (cI, 8, .inl xF17)), (a19, .inl (cI, 8, .inl g3_276))]) [0, 1, 2, 3, 4] (by decide) rfl) hS (lv_sub hl [1, 2, 3, 4, 5, 6, 0] rfl)
                          · rw [ki_eq] at c6895
                            refine lv_iconst (v := 1) hx hb dX12_canRest_176 (by decide) ?_
                            have hP9 := hP.sub (ws' := [(a0, .inr (12, [.int i0, .ref a1, .ref a2, .ref a3, .ref a4, .int i1, .ref a5, .int i2, .int i3, .int i4, .int i5, .int i6, .int i7, .int i8, .ref a6, .ref a7, .ref a8, .ref a9, .ref a10, .ref a11, .ref a12, .int i9, .ref a13, .int i10, .ref a14, .ref a15, .int i11, .ref a16, .ref a17, .ref a18, .ref a19, .int i12, .int i13, .int i14, .int i15, .int i16, .ref a20, .long j0, .ref a21, .ref a22, .ref a23, .ref a24])), (a1, .inl (cI, 544, .inl xF0)), (a16, .inl (cI, 256, .inl xF15)), (a18, .inl (cI, 8, .inl xF17)), (a19, .inl (cI, 8, .inl g3_276))]) [0, 1, 2, 3, 4] rfl
                            have hD9 := hD.sub (ws' := [(a0, .inr (12, [.int i0, .ref a1, .ref a2, .ref a3, .ref a4, .int i1, .ref a5, .int i2, .int i3, .int i4, .int i5, .int i6, .int i7, .int i8, .ref a6, .ref a7, .ref a8, .ref a9, .ref a10, .ref a11, .ref a12, .int i9, .ref a13, .int i10, .ref a14, .ref a15, .int i11, .ref a16, .ref a17, .ref a18, .ref a19, .int i12, .int i13, .int i14, .int i15, .int i16, .ref a20, .long j0, .ref a21, .ref a22, .ref a23, .ref a24])), (a1, .inl (cI, 544, .inl xF0)), (a16, .inl (cI, 256, .inl xF15)), (a18, .inl (cI, 8, .inl xF17)), (a19, .inl (cI, 8, .inl g3_276))]) [0, 1, 2, 3, 4] (by decide) rfl
                            rw [hQ]
                            exact W.zret (v := 1) hx hb hr (by decide) (fun t ht hW => ⟨⟨1, (pickG 0 [], pickG (fun _ => 0) [g3_276], pickG (fun _ => 0) []), rfl, ⟨(show (0 : Int) ≤ (1 : Int32).toInt ∧ (1 : Int32).toInt ≤ 1 from ⟨by omega, by omega⟩), trivial⟩, (by rw [ht]; exact hP9), hD9⟩, hS.F ht⟩) hS.2.2 dX12_canRest_177
                        · rw [ki_le] at c6894
                          refine lv_iload hx hb dX12_canRest_100 (lv_at hl 4 rfl) ?_
                          refine lv_iload hx hb dX12_canRest_102 (lv_at hl 9 rfl) ?_
                          refine lv_ishr hx hb dX12_canRest_104 ?_
                          refine lv_topi (fun x6898 ex6898 => ?_)
                          refine lv_if_eq (tgt := 171) hx hb dX12_canRest_105 (by decide) (fun c6899 => ?_) (fun c6899 => ?_)
                          · rw [ki_eq] at c6899
                            refine lv_iload hx hb dX12_canRest_171 (lv_at hl 8 rfl) ?_
                            refine lv_if_eq (tgt := 178) hx hb dX12_canRest_173 (by decide) (fun c6900 => ?_) (fun c6900 => ?_)
                            · rw [ki_eq] at c6900
                              obtain ⟨x6901, ex6901⟩ : ∃ y : Int32, y = w6_2 + 1 := ⟨_, rfl⟩
                              refine lv_iinc (v := x6901) (lv' := [(6, .int x6901), (0, .ref a0), (1, .int p0), (2, .int p1), (3, .int p2), (4, .int x2), (5, .int w5_1), (7, .int w7_276), (8, .int w8_276), (9, .int w9_276)]) hx hb dX12_canRest_178 hl (k := 6) rfl (by rw [ex6901]; rfl) (by decide) rfl (fun ls hl => ?_)
                              have b_b6902 := i32_b w6_2
                              have tx6901 := ia_add (a := w6_2) (b := (1 : Int32)) (by omega) (by omega)
                              rw [← ex6901] at tx6901
                              refine lv_goto (tgt := 42) hx hb dX12_canRest_181 (by decide) ?_
                              exact ih2 _ _ ls x6901 g3_276 (show (0 : Int) ≤ x6901.toInt ∧ x6901.toInt ≤ 2147483647 from ⟨by omega, i32_hi⟩) (by omega) (hP.sub (ws' := [(a0, .inr (12, [.int i0, .ref a1, .ref a2, .ref a3, .ref a4, .int i1, .ref a5, .int i2, .int i3, .int i4, .int i5, .int i6, .int i7, .int i8, .ref a6, .ref a7, .ref a8, .ref a9, .ref a10, .ref a11, .ref a12, .int i9, .ref a13, .int i10, .ref a14, .ref a15, .int i11, .ref a16, .ref a17, .ref a18, .ref a19, .int i12, .int i13, .int i14, .int i15, .int i16, .ref a20, .long j0, .ref a21, .ref a22, .ref a23, .ref a24])), (a1, .inl (cI, 544, .inl xF0)), (a16, .inl (cI, 256, .inl xF15)), (a18, .inl (cI, 8, .inl xF17)), (a19, .inl (cI, 8, .inl g3_276))]) [0, 1, 2, 3, 4] rfl) (hD.sub (ws' := [(a0, .inr (12, [.int i0, .ref a1, .ref a2, .ref a3, .ref a4, .int i1, .ref a5, .int i2, .int i3, .int i4, .int i5, .int i6, .int i7, .int i8, .ref a6, .ref a7, .ref a8, .ref a9, .ref a10, .ref a11, .ref a12, .int i9, .ref a13, .int i10, .ref a14, .ref a15, .int i11, .ref a16, .ref a17, .ref a18, .ref a19, .int i12, .int i13, .int i14, .int i15, .int i16, .ref a20, .long j0, .ref a21, .ref a22, .ref a23, .ref a24])), (a1, .inl (cI, 544, .inl xF0)), (a16, .inl (cI, 256, .inl xF15)), (a18, .inl (cI, 8, .inl xF17)), (a19, .inl (cI, 8, .inl g3_276))]) [0, 1, 2, 3, 4] (by decide) rfl) hS (lv_sub hl [1, 2, 3, 4, 5, 6, 0] rfl)
                            · rw [ki_eq] at c6900
                              refine lv_iconst (v := 1) hx hb dX12_canRest_176 (by decide) ?_
                              have hP9 := hP.sub (ws' := [(a0, .inr (12, [.int i0, .ref a1, .ref a2, .ref a3, .ref a4, .int i1, .ref a5, .int i2, .int i3, .int i4, .int i5, .int i6, .int i7, .int i8, .ref a6, .ref a7, .ref a8, .ref a9, .ref a10, .ref a11, .ref a12, .int i9, .ref a13, .int i10, .ref a14, .ref a15, .int i11, .ref a16, .ref a17, .ref a18, .ref a19, .int i12, .int i13, .int i14, .int i15, .int i16, .ref a20, .long j0, .ref a21, .ref a22, .ref a23, .ref a24])), (a1, .inl (cI, 544, .inl xF0)), (a16, .inl (cI, 256, .inl xF15)), (a18, .inl (cI, 8, .inl xF17)), (a19, .inl (cI, 8, .inl g3_276))]) [0, 1, 2, 3, 4] rfl
                              have hD9 := hD.sub (ws' := [(a0, .inr (12, [.int i0, .ref a1, .ref a2, .ref a3, .ref a4, .int i1, .ref a5, .int i2, .int i3, .int i4, .int i5, .int i6, .int i7, .int i8, .ref a6, .ref a7, .ref a8, .ref a9, .ref a10, .ref a11, .ref a12, .int i9, .ref a13, .int i10, .ref a14, .ref a15, .int i11, .ref a16, .ref a17, .ref a18, .ref a19, .int i12, .int i13, .int i14, .int i15, .int i16, .ref a20, .long j0, .ref a21, .ref a22, .ref a23, .ref a24])), (a1, .inl (cI, 544, .inl xF0)), (a16, .inl (cI, 256, .inl xF15)), (a18, .inl (cI, 8, .inl xF17)), (a19, .inl (cI, 8, .inl g3_276))]) [0, 1, 2, 3, 4] (by decide) rfl
                              rw [hQ]
                              exact W.zret (v := 1) hx hb hr (by decide) (fun t ht hW => ⟨⟨1, (pickG 0 [], pickG (fun _ => 0) [g3_276], pickG (fun _ => 0) []), rfl, ⟨(show (0 : Int) ≤ (1 : Int32).toInt ∧ (1 : Int32).toInt ≤ 1 from ⟨by omega, by omega⟩), trivial⟩, (by rw [ht]; exact hP9), hD9⟩, hS.F ht⟩) hS.2.2 dX12_canRest_177
                          · rw [ki_eq] at c6899
                            refine lv_iload hx hb dX12_canRest_108 (lv_at hl 8 rfl) ?_
                            refine lv_if_eq (tgt := 171) hx hb dX12_canRest_110 (by decide) (fun c6903 => ?_) (fun c6903 => ?_)
                            · rw [ki_eq] at c6903
                              refine lv_iload hx hb dX12_canRest_171 (lv_at hl 8 rfl) ?_
                              refine lv_if_eq (tgt := 178) hx hb dX12_canRest_173 (by decide) (fun c6904 => ?_) (fun c6904 => ?_)
                              · rw [ki_eq] at c6904
                                obtain ⟨x6905, ex6905⟩ : ∃ y : Int32, y = w6_2 + 1 := ⟨_, rfl⟩
                                refine lv_iinc (v := x6905) (lv' := [(6, .int x6905), (0, .ref a0), (1, .int p0), (2, .int p1), (3, .int p2), (4, .int x2), (5, .int w5_1), (7, .int w7_276), (8, .int w8_276), (9, .int w9_276)]) hx hb dX12_canRest_178 hl (k := 6) rfl (by rw [ex6905]; rfl) (by decide) rfl (fun ls hl => ?_)
                                have b_b6906 := i32_b w6_2
                                have tx6905 := ia_add (a := w6_2) (b := (1 : Int32)) (by omega) (by omega)
                                rw [← ex6905] at tx6905
                                refine lv_goto (tgt := 42) hx hb dX12_canRest_181 (by decide) ?_
                                exact ih2 _ _ ls x6905 g3_276 (show (0 : Int) ≤ x6905.toInt ∧ x6905.toInt ≤ 2147483647 from ⟨by omega, i32_hi⟩) (by omega) (hP.sub (ws' := [(a0, .inr (12, [.int i0, .ref a1, .ref a2, .ref a3, .ref a4, .int i1, .ref a5, .int i2, .int i3, .int i4, .int i5, .int i6, .int i7, .int i8, .ref a6, .ref a7, .ref a8, .ref a9, .ref a10, .ref a11, .ref a12, .int i9, .ref a13, .int i10, .ref a14, .ref a15, .int i11, .ref a16, .ref a17, .ref a18, .ref a19, .int i12, .int i13, .int i14, .int i15, .int i16, .ref a20, .long j0, .ref a21, .ref a22, .ref a23, .ref a24])), (a1, .inl (cI, 544, .inl xF0)), (a16, .inl (cI, 256, .inl xF15)), (a18, .inl (cI, 8, .inl xF17)), (a19, .inl (cI, 8, .inl g3_276))]) [0, 1, 2, 3, 4] rfl) (hD.sub (ws' := [(a0, .inr (12, [.int i0, .ref a1, .ref a2, .ref a3, .ref a4, .int i1, .ref a5, .int i2, .int i3, .int i4, .int i5, .int i6, .int i7, .int i8, .ref a6, .ref a7, .ref a8, .ref a9, .ref a10, .ref a11, .ref a12, .int i9, .ref a13, .int i10, .ref a14, .ref a15, .int i11, .ref a16, .ref a17, .ref a18, .ref a19, .int i12, .int i13, .int i14, .int i15, .int i16, .ref a20, .long j0, .ref a21, .ref a22, .ref a23, .ref a24])), (a1, .inl (cI, 544, .inl xF0)), (a16, .inl (cI, 256, .inl xF15)), (a18, .inl (cI, 8, .inl xF17)), (a19, .inl (cI, 8, .inl g3_276))]) [0, 1, 2, 3, 4] (by decide) rfl) hS (lv_sub hl [1, 2, 3, 4, 5, 6, 0] rfl)
                              · rw [ki_eq] at c6904
                                exfalso
                                omega
                            · rw [ki_eq] at c6903
                              refine lv_aload_n hx hb dX12_canRest_113 rfl (lv_at hl 0 rfl) ?_
                              refine va_get (D := (dC, dI)) (ci := 12) (v := .ref a19) (C := RX12) (T := TX12) (N := 42) hx hb hwd inlX12 hown hK hP 0 rfl rfl 30 (by decide) (hwd _ kr50_7) (fun _ h9 => h9) rfl dX12_canRest_114 ?_
                              refine lv_iload hx hb dX12_canRest_117 (lv_at hl 7 rfl) ?_
                              refine lv_iload_n hx hb dX12_canRest_119 rfl (lv_at hl 3 rfl) ?_
                              refine lv_irem hx hb dX12_canRest_120 (fun h9 => by rw [ki_eq] at h9; omega) ?_
                              refine lv_topi (fun x6907 ex6907 => ?_)
                              have tx6907 := ir_pos (a := w7_276) (b := p2) (by omega) (by omega)
                              rw [← ex6907] at tx6907
                              refine lv_dup2_11 hx hb dX12_canRest_121 rfl rfl ?_
                              have h6908 : vp_in x6907 8 := (vp_of (by omega) (by omega))
                              refine va_iald hx hb hK hP 4 0 rfl rfl h6908 dX12_canRest_122 ?_
                              refine lv_topi (fun x6909 ex6909 => ?_)
                              refine lv_aload_n hx hb dX12_canRest_123 rfl (lv_at hl 0 rfl) ?_
                              refine va_get (D := (dC, dI)) (ci := 12) (v := .ref a16) (C := RX12) (T := TX12) (N := 42) hx hb hwd inlX12 hown hK hP 0 rfl rfl 27 (by decide) (hwd _ kr50_4) (fun _ h9 => h9) rfl dX12_canRest_124 ?_
                              refine lv_iconst (v := 1) hx hb dX12_canRest_127 (by decide) ?_
                              refine lv_iload hx hb dX12_canRest_128 (lv_at hl 9 rfl) ?_
                              refine lv_ishl hx hb dX12_canRest_130 ?_
                              refine lv_topi (fun x6910 ex6910 => ?_)
                              have tx6910 := is_7 (b := w9_276) (by omega) (by omega)
                              rw [← ex6910] at tx6910
                              have h6911 : vp_in x6910 256 := (vp_of (by omega) (by omega))
                              refine va_iald hx hb hK hP 2 0 rfl rfl h6911 dX12_canRest_131 ?_
                              refine lv_topi (fun x6912 ex6912 => ?_)
                              refine lv_iadd hx hb dX12_canRest_132 ?_
                              refine lv_topi (fun x6913 ex6913 => ?_)
                              refine va_iast hx hb hK hP hD hS 4 0 rfl rfl (vp_of (by omega) (by omega)) dX12_canRest_133 (fun H locs hP hD hS => ?_)
                              obtain ⟨f6914, ef6914⟩ : ∃ f, f = upd g3_276 x6907.toNatClampNeg x6913 := ⟨_, rfl⟩
                              replace hP : va_P (dC, dI) vwCl [(a0, .inr (12, [.int i0, .ref a1, .ref a2, .ref a3, .ref a4, .int i1, .ref a5, .int i2, .int i3, .int i4, .int i5, .int i6, .int i7, .int i8, .ref a6, .ref a7, .ref a8, .ref a9, .ref a10, .ref a11, .ref a12, .int i9, .ref a13, .int i10, .ref a14, .ref a15, .int i11, .ref a16, .ref a17, .ref a18, .ref a19, .int i12, .int i13, .int i14, .int i15, .int i16, .ref a20, .long j0, .ref a21, .ref a22, .ref a23, .ref a24])), (a1, .inl (cI, 544, .inl xF0)), (a16, .inl (cI, 256, .inl xF15)), (a18, .inl (cI, 8, .inl xF17)), (a19, .inl (cI, 8, .inl f6914))] H := by rw [ef6914]; exact hP
                              replace hD : va_D A [(a0, .inr (12, [.int i0, .ref a1, .ref a2, .ref a3, .ref a4, .int i1, .ref a5, .int i2, .int i3, .int i4, .int i5, .int i6, .int i7, .int i8, .ref a6, .ref a7, .ref a8, .ref a9, .ref a10, .ref a11, .ref a12, .int i9, .ref a13, .int i10, .ref a14, .ref a15, .int i11, .ref a16, .ref a17, .ref a18, .ref a19, .int i12, .int i13, .int i14, .int i15, .int i16, .ref a20, .long j0, .ref a21, .ref a22, .ref a23, .ref a24])), (a1, .inl (cI, 544, .inl xF0)), (a16, .inl (cI, 256, .inl xF15)), (a18, .inl (cI, 8, .inl xF17)), (a19, .inl (cI, 8, .inl f6914))] := by rw [ef6914]; exact hD
                              refine lv_aload_n hx hb dX12_canRest_134 rfl (lv_at hl 0 rfl) ?_
                              refine va_get (D := (dC, dI)) (ci := 12) (v := .ref a19) (C := RX12) (T := TX12) (N := 42) hx hb hwd inlX12 hown hK hP 0 rfl rfl 30 (by decide) (hwd _ kr50_7) (fun _ h9 => h9) rfl dX12_canRest_135 ?_
                              refine lv_iload hx hb dX12_canRest_138 (lv_at hl 7 rfl) ?_
                              refine lv_iload_n hx hb dX12_canRest_140 rfl (lv_at hl 3 rfl) ?_
                              refine lv_irem hx hb dX12_canRest_141 (fun h9 => by rw [ki_eq] at h9; omega) ?_
                              refine lv_topi (fun x6915 ex6915 => ?_)
                              have tx6915 := ir_pos (a := w7_276) (b := p2) (by omega) (by omega)
                              rw [← ex6915] at tx6915
                              have h6916 : vp_in x6915 8 := (vp_of (by omega) (by omega))
                              refine va_iald hx hb hK hP 4 0 rfl rfl h6916 dX12_canRest_142 ?_
                              refine lv_topi (fun x6917 ex6917 => ?_)
                              refine lv_aload_n hx hb dX12_canRest_143 rfl (lv_at hl 0 rfl) ?_
                              refine va_get (D := (dC, dI)) (ci := 12) (v := .ref a1) (C := RX12) (T := TX12) (N := 42) hx hb hwd inlX12 hown hK hP 0 rfl rfl 1 (by decide) (hwd _ kr49_2) (fun _ h9 => h9) rfl dX12_canRest_144 ?_
                              refine lv_iconst (v := 1) hx hb dX12_canRest_147 (by decide) ?_
                              have h6918 : vp_in (1 : Int32) 544 := (vin (by decide))
                              refine va_iald hx hb hK hP 1 0 rfl rfl h6918 dX12_canRest_148 ?_
                              refine lv_topi (fun x6919 ex6919 => ?_)
                              have ix6919 := wat_lit (k := 1) ex6919 (by decide)
                              have wh6920 : whd cp xF0 := p_7.1
                              unfold whd at wh6920
                              have jp281 : ∀ (H : Heap) (locs : List Loc) (ls : Array Slot) (z0_281 : Int32), ((0 : Int) ≤ z0_281.toInt ∧ z0_281.toInt ≤ 1) → va_P (dC, dI) vwCl [(a0, .inr (12, [.int i0, .ref a1, .ref a2, .ref a3, .ref a4, .int i1, .ref a5, .int i2, .int i3, .int i4, .int i5, .int i6, .int i7, .int i8, .ref a6, .ref a7, .ref a8, .ref a9, .ref a10, .ref a11, .ref a12, .int i9, .ref a13, .int i10, .ref a14, .ref a15, .int i11, .ref a16, .ref a17, .ref a18, .ref a19, .int i12, .int i13, .int i14, .int i15, .int i16, .ref a20, .long j0, .ref a21, .ref a22, .ref a23, .ref a24])), (a1, .inl (cI, 544, .inl xF0)), (a16, .inl (cI, 256, .inl xF15)), (a18, .inl (cI, 8, .inl xF17)), (a19, .inl (cI, 8, .inl f6914))] H → va_D A [(a0, .inr (12, [.int i0, .ref a1, .ref a2, .ref a3, .ref a4, .int i1, .ref a5, .int i2, .int i3, .int i4, .int i5, .int i6, .int i7, .int i8, .ref a6, .ref a7, .ref a8, .ref a9, .ref a10, .ref a11, .ref a12, .int i9, .ref a13, .int i10, .ref a14, .ref a15, .int i11, .ref a16, .ref a17, .ref a18, .ref a19, .int i12, .int i13, .int i14, .int i15, .int i16, .ref a20, .long j0, .ref a21, .ref a22, .ref a23, .ref a24])), (a1, .inl (cI, 544, .inl xF0)), (a16, .inl (cI, 256, .inl xF15)), (a18, .inl (cI, 8, .inl xF17)), (a19, .inl (cI, 8, .inl f6914))] → va_S A s.heap H locs → lv_has ls 10 [(0, .ref a0), (1, .int p0), (2, .int p1), (3, .int p2), (4, .int x2), (5, .int w5_1), (6, .int w6_2), (7, .int w7_276), (8, .int w8_276), (9, .int w9_276)] → W p l e ({ frames := 0, cells := 0, slots := 0, locals := 0 } : Room) s m ([.ref a0, .int p0, .int p1, .int p2] : List Value).toArray below meth c H locs 0 0 Q (F0 m 157 ls [.int z0_281]) := by
                                intro H locs ls z0_281 hr_z0_281 hP hD hS hl
                                refine lv_istore (lv' := [(8, .int z0_281), (0, .ref a0), (1, .int p0), (2, .int p1), (3, .int p2), (4, .int x2), (5, .int w5_1), (6, .int w6_2), (7, .int w7_276), (9, .int w9_276)]) hx hb dX12_canRest_157 hl (by decide) rfl (fun ls hl => ?_)
                                refine lv_iload hx hb dX12_canRest_159 (lv_at hl 8 rfl) ?_
                                refine lv_iload_n hx hb dX12_canRest_161 rfl (lv_at hl 4 rfl) ?_
                                refine lv_idiv hx hb dX12_canRest_162 (fun h9 => by rw [ki_eq] at h9; omega) ?_
                                refine lv_topi (fun x6924 ex6924 => ?_)
                                have tx6924 := id_pos (a := w7_276) (b := p2) (by omega) (by omega)
                                rw [← ex6924] at tx6924
                                refine lv_istore (lv' := [(7, .int x6924), (8, .int z0_281), (0, .ref a0), (1, .int p0), (2, .int p1), (3, .int p2), (4, .int x2), (5, .int w5_1), (6, .int w6_2), (9, .int w9_276)]) hx hb dX12_canRest_163 hl (by decide) rfl (fun ls hl => ?_)
                                obtain ⟨x6925, ex6925⟩ : ∃ y : Int32, y = w9_276 + 1 := ⟨_, rfl⟩
                                refine lv_iinc (v := x6925) (lv' := [(9, .int x6925), (7, .int x6924), (8, .int z0_281), (0, .ref a0), (1, .int p0), (2, .int p1), (3, .int p2), (4, .int x2), (5, .int w5_1), (6, .int w6_2)]) hx hb dX12_canRest_165 hl (k := 9) rfl (by rw [ex6925]; rfl) (by decide) rfl (fun ls hl => ?_)
                                have tx6925 := ia_add (a := w9_276) (b := (1 : Int32)) (by omega) (by omega)
                                rw [← ex6925] at tx6925
                                refine lv_goto (tgt := 93) hx hb dX12_canRest_168 (by decide) ?_
                                exact ih276 _ _ ls x6924 z0_281 x6925 f6914 (show (0 : Int) ≤ x6924.toInt ∧ x6924.toInt ≤ 2147483647 from ⟨by omega, i32_hi⟩) (show (0 : Int) ≤ z0_281.toInt ∧ z0_281.toInt ≤ 1 from ⟨by omega, by omega⟩) (show (1 : Int) ≤ x6925.toInt ∧ x6925.toInt ≤ 8 from ⟨by omega, by omega⟩) (by omega) (hP.sub (ws' := [(a0, .inr (12, [.int i0, .ref a1, .ref a2, .ref a3, .ref a4, .int i1, .ref a5, .int i2, .int i3, .int i4, .int i5, .int i6, .int i7, .int i8, .ref a6, .ref a7, .ref a8, .ref a9, .ref a10, .ref a11, .ref a12, .int i9, .ref a13, .int i10, .ref a14, .ref a15, .int i11, .ref a16, .ref a17, .ref a18, .ref a19, .int i12, .int i13, .int i14, .int i15, .int i16, .ref a20, .long j0, .ref a21, .ref a22, .ref a23, .ref a24])), (a1, .inl (cI, 544, .inl xF0)), (a16, .inl (cI, 256, .inl xF15)), (a18, .inl (cI, 8, .inl xF17)), (a19, .inl (cI, 8, .inl f6914))]) [0, 1, 2, 3, 4] rfl) (hD.sub (ws' := [(a0, .inr (12, [.int i0, .ref a1, .ref a2, .ref a3, .ref a4, .int i1, .ref a5, .int i2, .int i3, .int i4, .int i5, .int i6, .int i7, .int i8, .ref a6, .ref a7, .ref a8, .ref a9, .ref a10, .ref a11, .ref a12, .int i9, .ref a13, .int i10, .ref a14, .ref a15, .int i11, .ref a16, .ref a17, .ref a18, .ref a19, .int i12, .int i13, .int i14, .int i15, .int i16, .ref a20, .long j0, .ref a21, .ref a22, .ref a23, .ref a24])), (a1, .inl (cI, 544, .inl xF0)), (a16, .inl (cI, 256, .inl xF15)), (a18, .inl (cI, 8, .inl xF17)), (a19, .inl (cI, 8, .inl f6914))]) [0, 1, 2, 3, 4] (by decide) rfl) hS (lv_sub hl [3, 4, 5, 6, 7, 8, 9, 1, 2, 0] rfl)
                              refine lv_icmp_gt (tgt := 156) hx hb dX12_canRest_149 (by decide) (fun c6926 => ?_) (fun c6926 => ?_)
                              · rw [ki_lt] at c6926
                                refine lv_iconst (v := 0) hx hb dX12_canRest_156 (by decide) ?_
                                exact jp281 _ _ ls (0) (show (0 : Int) ≤ (0 : Int32).toInt ∧ (0 : Int32).toInt ≤ 1 from ⟨by omega, by omega⟩) (hP.sub (ws' := [(a0, .inr (12, [.int i0, .ref a1, .ref a2, .ref a3, .ref a4, .int i1, .ref a5, .int i2, .int i3, .int i4, .int i5, .int i6, .int i7, .int i8, .ref a6, .ref a7, .ref a8, .ref a9, .ref a10, .ref a11, .ref a12, .int i9, .ref a13, .int i10, .ref a14, .ref a15, .int i11, .ref a16, .ref a17, .ref a18, .ref a19, .int i12, .int i13, .int i14, .int i15, .int i16, .ref a20, .long j0, .ref a21, .ref a22, .ref a23, .ref a24])), (a1, .inl (cI, 544, .inl xF0)), (a16, .inl (cI, 256, .inl xF15)), (a18, .inl (cI, 8, .inl xF17)), (a19, .inl (cI, 8, .inl f6914))]) [0, 1, 2, 3, 4] rfl) (hD.sub (ws' := [(a0, .inr (12, [.int i0, .ref a1, .ref a2, .ref a3, .ref a4, .int i1, .ref a5, .int i2, .int i3, .int i4, .int i5, .int i6, .int i7, .int i8, .ref a6, .ref a7, .ref a8, .ref a9, .ref a10, .ref a11, .ref a12, .int i9, .ref a13, .int i10, .ref a14, .ref a15, .int i11, .ref a16, .ref a17, .ref a18, .ref a19, .int i12, .int i13, .int i14, .int i15, .int i16, .ref a20, .long j0, .ref a21, .ref a22, .ref a23, .ref a24])), (a1, .inl (cI, 544, .inl xF0)), (a16, .inl (cI, 256, .inl xF15)), (a18, .inl (cI, 8, .inl xF17)), (a19, .inl (cI, 8, .inl f6914))]) [0, 1, 2, 3, 4] (by decide) rfl) hS (lv_sub hl [0, 1, 2, 3, 4, 5, 6, 7, 8, 9] rfl)
                              · rw [ki_lt] at c6926
                                refine lv_iconst (v := 1) hx hb dX12_canRest_152 (by decide) ?_
                                refine lv_goto (tgt := 157) hx hb dX12_canRest_153 (by decide) ?_
                                exact jp281 _ _ ls (1) (show (0 : Int) ≤ (1 : Int32).toInt ∧ (1 : Int32).toInt ≤ 1 from ⟨by omega, by omega⟩) (hP.sub (ws' := [(a0, .inr (12, [.int i0, .ref a1, .ref a2, .ref a3, .ref a4, .int i1, .ref a5, .int i2, .int i3, .int i4, .int i5, .int i6, .int i7, .int i8, .ref a6, .ref a7, .ref a8, .ref a9, .ref a10, .ref a11, .ref a12, .int i9, .ref a13, .int i10, .ref a14, .ref a15, .int i11, .ref a16, .ref a17, .ref a18, .ref a19, .int i12, .int i13, .int i14, .int i15, .int i16, .ref a20, .long j0, .ref a21, .ref a22, .ref a23, .ref a24])), (a1, .inl (cI, 544, .inl xF0)), (a16, .inl (cI, 256, .inl xF15)), (a18, .inl (cI, 8, .inl xF17)), (a19, .inl (cI, 8, .inl f6914))]) [0, 1, 2, 3, 4] rfl) (hD.sub (ws' := [(a0, .inr (12, [.int i0, .ref a1, .ref a2, .ref a3, .ref a4, .int i1, .ref a5, .int i2, .int i3, .int i4, .int i5, .int i6, .int i7, .int i8, .ref a6, .ref a7, .ref a8, .ref a9, .ref a10, .ref a11, .ref a12, .int i9, .ref a13, .int i10, .ref a14, .ref a15, .int i11, .ref a16, .ref a17, .ref a18, .ref a19, .int i12, .int i13, .int i14, .int i15, .int i16, .ref a20, .long j0, .ref a21, .ref a22, .ref a23, .ref a24])), (a1, .inl (cI, 544, .inl xF0)), (a16, .inl (cI, 256, .inl xF15)), (a18, .inl (cI, 8, .inl xF17)), (a19, .inl (cI, 8, .inl f6914))]) [0, 1, 2, 3, 4] (by decide) rfl) hS (lv_sub hl [0, 1, 2, 3, 4, 5, 6, 7, 8, 9] rfl)
                    exact lp276 _ _ _ ls w6_2 (1) p0 g1_251 (show (0 : Int) ≤ w6_2.toInt ∧ w6_2.toInt ≤ 2147483647 from ⟨by omega, i32_hi⟩) (show (0 : Int) ≤ (1 : Int32).toInt ∧ (1 : Int32).toInt ≤ 1 from ⟨by omega, by omega⟩) (show (1 : Int) ≤ p0.toInt ∧ p0.toInt ≤ 8 from p_9) (Nat.lt_succ_self _) (hP.sub (ws' := [(a0, .inr (12, [.int i0, .ref a1, .ref a2, .ref a3, .ref a4, .int i1, .ref a5, .int i2, .int i3, .int i4, .int i5, .int i6, .int i7, .int i8, .ref a6, .ref a7, .ref a8, .ref a9, .ref a10, .ref a11, .ref a12, .int i9, .ref a13, .int i10, .ref a14, .ref a15, .int i11, .ref a16, .ref a17, .ref a18, .ref a19, .int i12, .int i13, .int i14, .int i15, .int i16, .ref a20, .long j0, .ref a21, .ref a22, .ref a23, .ref a24])), (a1, .inl (cI, 544, .inl xF0)), (a16, .inl (cI, 256, .inl xF15)), (a18, .inl (cI, 8, .inl xF17)), (a19, .inl (cI, 8, .inl g1_251))]) [0, 1, 2, 3, 4] rfl) (hD.sub (ws' := [(a0, .inr (12, [.int i0, .ref a1, .ref a2, .ref a3, .ref a4, .int i1, .ref a5, .int i2, .int i3, .int i4, .int i5, .int i6, .int i7, .int i8, .ref a6, .ref a7, .ref a8, .ref a9, .ref a10, .ref a11, .ref a12, .int i9, .ref a13, .int i10, .ref a14, .ref a15, .int i11, .ref a16, .ref a17, .ref a18, .ref a19, .int i12, .int i13, .int i14, .int i15, .int i16, .ref a20, .long j0, .ref a21, .ref a22, .ref a23, .ref a24])), (a1, .inl (cI, 544, .inl xF0)), (a16, .inl (cI, 256, .inl xF15)), (a18, .inl (cI, 8, .inl xF17)), (a19, .inl (cI, 8, .inl g1_251))]) [0, 1, 2, 3, 4] (by decide) rfl) hS (lv_sub hl [1, 2, 3, 4, 5, 6, 7, 8, 9, 0] rfl)
                  · rw [ki_le] at c6772
                    refine lv_aload_n hx hb dX12_canRest_65 rfl (lv_at hl 0 rfl) ?_
                    refine va_get (D := (dC, dI)) (ci := 12) (v := .ref a19) (C := RX12) (T := TX12) (N := 42) hx hb hwd inlX12 hown hK hP 0 rfl rfl 30 (by decide) (hwd _ kr50_7) (fun _ h9 => h9) rfl dX12_canRest_66 ?_
                    refine lv_iload hx hb dX12_canRest_69 (lv_at hl 9 rfl) ?_
                    refine lv_aload_n hx hb dX12_canRest_71 rfl (lv_at hl 0 rfl) ?_
                    refine va_get (D := (dC, dI)) (ci := 12) (v := .ref a16) (C := RX12) (T := TX12) (N := 42) hx hb hwd inlX12 hown hK hP 0 rfl rfl 27 (by decide) (hwd _ kr50_4) (fun _ h9 => h9) rfl dX12_canRest_72 ?_
                    refine lv_aload_n hx hb dX12_canRest_75 rfl (lv_at hl 0 rfl) ?_
                    refine va_get (D := (dC, dI)) (ci := 12) (v := .ref a18) (C := RX12) (T := TX12) (N := 42) hx hb hwd inlX12 hown hK hP 0 rfl rfl 29 (by decide) (hwd _ kr50_6) (fun _ h9 => h9) rfl dX12_canRest_76 ?_
                    refine lv_iload hx hb dX12_canRest_79 (lv_at hl 9 rfl) ?_
                    have h6927 : vp_in w9_251 8 := (vp_of (by omega) (by omega))
                    refine va_iald hx hb hK hP 3 0 rfl rfl h6927 dX12_canRest_81 ?_
                    refine lv_topi (fun x6928 ex6928 => ?_)
                    have tx6928 : (0 : Int) ≤ x6928.toInt ∧ x6928.toInt ≤ 255 := by rw [ex6928]; exact p_8 _ (vp_nat h6927)
                    have h6929 : vp_in x6928 256 := (vp_of (by omega) (by omega))
                    refine va_iald hx hb hK hP 2 0 rfl rfl h6929 dX12_canRest_82 ?_
                    refine lv_topi (fun x6930 ex6930 => ?_)
                    refine va_iast hx hb hK hP hD hS 4 0 rfl rfl (vp_of (by omega) (by omega)) dX12_canRest_83 (fun H locs hP hD hS => ?_)
                    obtain ⟨f6931, ef6931⟩ : ∃ f, f = upd g1_251 w9_251.toNatClampNeg x6930 := ⟨_, rfl⟩
                    replace hP : va_P (dC, dI) vwCl [(a0, .inr (12, [.int i0, .ref a1, .ref a2, .ref a3, .ref a4, .int i1, .ref a5, .int i2, .int i3, .int i4, .int i5, .int i6, .int i7, .int i8, .ref a6, .ref a7, .ref a8, .ref a9, .ref a10, .ref a11, .ref a12, .int i9, .ref a13, .int i10, .ref a14, .ref a15, .int i11, .ref a16, .ref a17, .ref a18, .ref a19, .int i12, .int i13, .int i14, .int i15, .int i16, .ref a20, .long j0, .ref a21, .ref a22, .ref a23, .ref a24])), (a1, .inl (cI, 544, .inl xF0)), (a16, .inl (cI, 256, .inl xF15)), (a18, .inl (cI, 8, .inl xF17)), (a19, .inl (cI, 8, .inl f6931))] H := by rw [ef6931]; exact hP
                    replace hD : va_D A [(a0, .inr (12, [.int i0, .ref a1, .ref a2, .ref a3, .ref a4, .int i1, .ref a5, .int i2, .int i3, .int i4, .int i5, .int i6, .int i7, .int i8, .ref a6, .ref a7, .ref a8, .ref a9, .ref a10, .ref a11, .ref a12, .int i9, .ref a13, .int i10, .ref a14, .ref a15, .int i11, .ref a16, .ref a17, .ref a18, .ref a19, .int i12, .int i13, .int i14, .int i15, .int i16, .ref a20, .long j0, .ref a21, .ref a22, .ref a23, .ref a24])), (a1, .inl (cI, 544, .inl xF0)), (a16, .inl (cI, 256, .inl xF15)), (a18, .inl (cI, 8, .inl xF17)), (a19, .inl (cI, 8, .inl f6931))] := by rw [ef6931]; exact hD
                    obtain ⟨x6932, ex6932⟩ : ∃ y : Int32, y = w9_251 + 1 := ⟨_, rfl⟩
                    refine lv_iinc (v := x6932) (lv' := [(9, .int x6932), (0, .ref a0), (1, .int p0), (2, .int p1), (3, .int p2), (4, .int x2), (5, .int w5_1), (6, .int w6_2), (7, .int w6_2), (8, .int 1)]) hx hb dX12_canRest_84 hl (k := 9) rfl (by rw [ex6932]; rfl) (by decide) rfl (fun ls hl => ?_)
                    have tx6932 := ia_add (a := w9_251) (b := (1 : Int32)) (by omega) (by omega)
                    rw [← ex6932] at tx6932
                    refine lv_goto (tgt := 59) hx hb dX12_canRest_87 (by decide) ?_
                    exact ih251 _ _ ls x6932 f6931 (show (0 : Int) ≤ x6932.toInt ∧ x6932.toInt ≤ 8 from ⟨by omega, by omega⟩) (by omega) (hP.sub (ws' := [(a0, .inr (12, [.int i0, .ref a1, .ref a2, .ref a3, .ref a4, .int i1, .ref a5, .int i2, .int i3, .int i4, .int i5, .int i6, .int i7, .int i8, .ref a6, .ref a7, .ref a8, .ref a9, .ref a10, .ref a11, .ref a12, .int i9, .ref a13, .int i10, .ref a14, .ref a15, .int i11, .ref a16, .ref a17, .ref a18, .ref a19, .int i12, .int i13, .int i14, .int i15, .int i16, .ref a20, .long j0, .ref a21, .ref a22, .ref a23, .ref a24])), (a1, .inl (cI, 544, .inl xF0)), (a16, .inl (cI, 256, .inl xF15)), (a18, .inl (cI, 8, .inl xF17)), (a19, .inl (cI, 8, .inl f6931))]) [0, 1, 2, 3, 4] rfl) (hD.sub (ws' := [(a0, .inr (12, [.int i0, .ref a1, .ref a2, .ref a3, .ref a4, .int i1, .ref a5, .int i2, .int i3, .int i4, .int i5, .int i6, .int i7, .int i8, .ref a6, .ref a7, .ref a8, .ref a9, .ref a10, .ref a11, .ref a12, .int i9, .ref a13, .int i10, .ref a14, .ref a15, .int i11, .ref a16, .ref a17, .ref a18, .ref a19, .int i12, .int i13, .int i14, .int i15, .int i16, .ref a20, .long j0, .ref a21, .ref a22, .ref a23, .ref a24])), (a1, .inl (cI, 544, .inl xF0)), (a16, .inl (cI, 256, .inl xF15)), (a18, .inl (cI, 8, .inl xF17)), (a19, .inl (cI, 8, .inl f6931))]) [0, 1, 2, 3, 4] (by decide) rfl) hS (lv_sub hl [1, 2, 3, 4, 5, 6, 7, 8, 9, 0] rfl)
              exact lp251 _ _ _ ls (0) g1_2 (show (0 : Int) ≤ (0 : Int32).toInt ∧ (0 : Int32).toInt ≤ 8 from ⟨by omega, by omega⟩) (Nat.lt_succ_self _) (hP.sub (ws' := [(a0, .inr (12, [.int i0, .ref a1, .ref a2, .ref a3, .ref a4, .int i1, .ref a5, .int i2, .int i3, .int i4, .int i5, .int i6, .int i7, .int i8, .ref a6, .ref a7, .ref a8, .ref a9, .ref a10, .ref a11, .ref a12, .int i9, .ref a13, .int i10, .ref a14, .ref a15, .int i11, .ref a16, .ref a17, .ref a18, .ref a19, .int i12, .int i13, .int i14, .int i15, .int i16, .ref a20, .long j0, .ref a21, .ref a22, .ref a23, .ref a24])), (a1, .inl (cI, 544, .inl xF0)), (a16, .inl (cI, 256, .inl xF15)), (a18, .inl (cI, 8, .inl xF17)), (a19, .inl (cI, 8, .inl g1_2))]) [0, 1, 2, 3, 4] rfl) (hD.sub (ws' := [(a0, .inr (12, [.int i0, .ref a1, .ref a2, .ref a3, .ref a4, .int i1, .ref a5, .int i2, .int i3, .int i4, .int i5, .int i6, .int i7, .int i8, .ref a6, .ref a7, .ref a8, .ref a9, .ref a10, .ref a11, .ref a12, .int i9, .ref a13, .int i10, .ref a14, .ref a15, .int i11, .ref a16, .ref a17, .ref a18, .ref a19, .int i12, .int i13, .int i14, .int i15, .int i16, .ref a20, .long j0, .ref a21, .ref a22, .ref a23, .ref a24])), (a1, .inl (cI, 544, .inl xF0)), (a16, .inl (cI, 256, .inl xF15)), (a18, .inl (cI, 8, .inl xF17)), (a19, .inl (cI, 8, .inl g1_2))]) [0, 1, 2, 3, 4] (by decide) rfl) hS (lv_sub hl [3, 4, 5, 6, 7, 8, 9, 2, 1, 0] rfl)
        exact lp2 _ _ _ ls (0) xF18 (show (0 : Int) ≤ (0 : Int32).toInt ∧ (0 : Int32).toInt ≤ 2147483647 from ⟨by omega, i32_hi⟩) (Nat.lt_succ_self _) (hP.sub (ws' := [(a0, .inr (12, [.int i0, .ref a1, .ref a2, .ref a3, .ref a4, .int i1, .ref a5, .int i2, .int i3, .int i4, .int i5, .int i6, .int i7, .int i8, .ref a6, .ref a7, .ref a8, .ref a9, .ref a10, .ref a11, .ref a12, .int i9, .ref a13, .int i10, .ref a14, .ref a15, .int i11, .ref a16, .ref a17, .ref a18, .ref a19, .int i12, .int i13, .int i14, .int i15, .int i16, .ref a20, .long j0, .ref a21, .ref a22, .ref a23, .ref a24])), (a1, .inl (cI, 544, .inl xF0)), (a16, .inl (cI, 256, .inl xF15)), (a18, .inl (cI, 8, .inl xF17)), (a19, .inl (cI, 8, .inl xF18))]) [0, 1, 2, 3, 4] rfl) (hD.sub (ws' := [(a0, .inr (12, [.int i0, .ref a1, .ref a2, .ref a3, .ref a4, .int i1, .ref a5, .int i2, .int i3, .int i4, .int i5, .int i6, .int i7, .int i8, .ref a6, .ref a7, .ref a8, .ref a9, .ref a10, .ref a11, .ref a12, .int i9, .ref a13, .int i10, .ref a14, .ref a15, .int i11, .ref a16, .ref a17, .ref a18, .ref a19, .int i12, .int i13, .int i14, .int i15, .int i16, .ref a20, .long j0, .ref a21, .ref a22, .ref a23, .ref a24])), (a1, .inl (cI, 544, .inl xF0)), (a16, .inl (cI, 256, .inl xF15)), (a18, .inl (cI, 8, .inl xF17)), (a19, .inl (cI, 8, .inl xF18))]) [0, 1, 2, 3, 4] (by decide) rfl) hS (lv_sub hl [1, 2, 3, 4, 5, 6, 0] rfl)
      · rw [ki_le] at c28
        refine lv_iload_n hx hb dX12_canRest_20 rfl (lv_at hl 2 rfl) ?_
        refine lv_iload hx hb dX12_canRest_21 (lv_at hl 6 rfl) ?_
        refine lv_ishr hx hb dX12_canRest_23 ?_
        refine lv_topi (fun x6933 ex6933 => ?_)
        refine lv_if_eq (tgt := 39) hx hb dX12_canRest_24 (by decide) (fun c6934 => ?_) (fun c6934 => ?_)
        · rw [ki_eq] at c6934
          refine lv_iconst (v := 0) hx hb dX12_canRest_39 (by decide) ?_
          refine lv_istore (lv' := [(6, .int 0), (0, .ref a0), (1, .int p0), (2, .int p1), (3, .int p2), (4, .int x2), (5, .int w5_1)]) hx hb dX12_canRest_40 hl (by decide) rfl (fun ls hl => ?_)
          have lp282 : ∀ (d : Nat), ∀ (H : Heap) (locs : List Loc) (ls : Array Slot) (w6_282 : Int32) (g1_282 : Nat → Int32), ((0 : Int) ≤ w6_282.toInt ∧ w6_282.toInt ≤ 2147483647) → (2147483647 - w6_282.toInt).toNat < d → va_P (dC, dI) vwCl [(a0, .inr (12, [.int i0, .ref a1, .ref a2, .ref a3, .ref a4, .int i1, .ref a5, .int i2, .int i3, .int i4, .int i5, .int i6, .int i7, .int i8, .ref a6, .ref a7, .ref a8, .ref a9, .ref a10, .ref a11, .ref a12, .int i9, .ref a13, .int i10, .ref a14, .ref a15, .int i11, .ref a16, .ref a17, .ref a18, .ref a19, .int i12, .int i13, .int i14, .int i15, .int i16, .ref a20, .long j0, .ref a21, .ref a22, .ref a23, .ref a24])), (a1, .inl (cI, 544, .inl xF0)), (a16, .inl (cI, 256, .inl xF15)), (a18, .inl (cI, 8, .inl xF17)), (a19, .inl (cI, 8, .inl g1_282))] H → va_D A [(a0, .inr (12, [.int i0, .ref a1, .ref a2, .ref a3, .ref a4, .int i1, .ref a5, .int i2, .int i3, .int i4, .int i5, .int i6, .int i7, .int i8, .ref a6, .ref a7, .ref a8, .ref a9, .ref a10, .ref a11, .ref a12, .int i9, .ref a13, .int i10, .ref a14, .ref a15, .int i11, .ref a16, .ref a17, .ref a18, .ref a19, .int i12, .int i13, .int i14, .int i15, .int i16, .ref a20, .long j0, .ref a21, .ref a22, .ref a23, .ref a24])), (a1, .inl (cI, 544, .inl xF0)), (a16, .inl (cI, 256, .inl xF15)), (a18, .inl (cI, 8, .inl xF17)), (a19, .inl (cI, 8, .inl g1_282))] → va_S A s.heap H locs → lv_has ls 10 [(0, .ref a0), (1, .int p0), (2, .int p1), (3, .int p2), (4, .int x2), (5, .int w5_1), (6, .int w6_282)] → W p l e ({ frames := 0, cells := 0, slots := 0, locals := 0 } : Room) s m ([.ref a0, .int p0, .int p1, .int p2] : List Value).toArray below meth c H locs 0 0 Q (F0 m 42 ls []) := by
            intro d
            induction d with
            | zero =>
              intro H locs ls w6_282 g1_282 hr_w6_282 hm hP hD hS hl
              omega
            | succ d ih282 =>
              intro H locs ls w6_282 g1_282 hr_w6_282 hm hP hD hS hl
              refine lv_iload hx hb dX12_canRest_42 (lv_at hl 6 rfl) ?_
              refine lv_iload hx hb dX12_canRest_44 (lv_at hl 5 rfl) ?_
              refine lv_icmp_ge (tgt := 184) hx hb dX12_canRest_46 (by decide) (fun c13031 => ?_) (fun c13031 => ?_)
              · rw [ki_le] at c13031
                refine lv_iconst (v := 0) hx hb dX12_canRest_184 (by decide) ?_
                have hP9 := hP.sub (ws' := [(a0, .inr (12, [.int i0, .ref a1, .ref a2, .ref a3, .ref a4, .int i1, .ref a5, .int i2, .int i3, .int i4, .int i5, .int i6, .int i7, .int i8, .ref a6, .ref a7, .ref a8, .ref a9, .ref a10, .ref a11, .ref a12, .int i9, .ref a13, .int i10, .ref a14, .ref a15, .int i11, .ref a16, .ref a17, .ref a18, .ref a19, .int i12, .int i13, .int i14, .int i15, .int i16, .ref a20, .long j0, .ref a21, .ref a22, .ref a23, .ref a24])), (a1, .inl (cI, 544, .inl xF0)), (a16, .inl (cI, 256, .inl xF15)), (a18, .inl (cI, 8, .inl xF17)), (a19, .inl (cI, 8, .inl g1_282))]) [0, 1, 2, 3, 4] rfl
                have hD9 := hD.sub (ws' := [(a0, .inr (12, [.int i0, .ref a1, .ref a2, .ref a3, .ref a4, .int i1, .ref a5, .int i2, .int i3, .int i4, .int i5, .int i6, .int i7, .int i8, .ref a6, .ref a7, .ref a8, .ref a9, .ref a10, .ref a11, .ref a12, .int i9, .ref a13, .int i10, .ref a14, .ref a15, .int i11, .ref a16, .ref a17, .ref a18, .ref a19, .int i12, .int i13, .int i14, .int i15, .int i16, .ref a20, .long j0, .ref a21, .ref a22, .ref a23, .ref a24])), (a1, .inl (cI, 544, .inl xF0)), (a16, .inl (cI, 256, .inl xF15)), (a18, .inl (cI, 8, .inl xF17)), (a19, .inl (cI, 8, .inl g1_282))]) [0, 1, 2, 3, 4] (by decide) rfl
                rw [hQ]
                exact W.zret (v := 0) hx hb hr (by decide) (fun t ht hW => ⟨⟨0, (pickG 0 [], pickG (fun _ => 0) [g1_282], pickG (fun _ => 0) []), rfl, ⟨(show (0 : Int) ≤ (0 : Int32).toInt ∧ (0 : Int32).toInt ≤ 1 from ⟨by omega, by omega⟩), trivial⟩, (by rw [ht]; exact hP9), hD9⟩, hS.F ht⟩) hS.2.2 dX12_canRest_185
              · rw [ki_le] at c13031
                have b5 := i32_b w5_1
                refine lv_iload hx hb dX12_canRest_49 (lv_at hl 6 rfl) ?_
                refine lv_istore (lv' := [(7, .int w6_282), (0, .ref a0), (1, .int p0), (2, .int p1), (3, .int p2), (4, .int x2), (5, .int w5_1), (6, .int w6_282)]) hx hb dX12_canRest_51 hl (by decide) rfl (fun ls hl => ?_)
                refine lv_iconst (v := 1) hx hb dX12_canRest_53 (by decide) ?_
                refine lv_istore (lv' := [(8, .int 1), (7, .int w6_282), (0, .ref a0), (1, .int p0), (2, .int p1), (3, .int p2), (4, .int x2), (5, .int w5_1), (6, .int w6_282)]) hx hb dX12_canRest_54 hl (by decide) rfl (fun ls hl => ?_)
                refine lv_iconst (v := 0) hx hb dX12_canRest_56 (by decide) ?_
                refine lv_istore (lv' := [(9, .int 0), (8, .int 1), (7, .int w6_282), (0, .ref a0), (1, .int p0), (2, .int p1), (3, .int p2), (4, .int x2), (5, .int w5_1), (6, .int w6_282)]) hx hb dX12_canRest_57 hl (by decide) rfl (fun ls hl => ?_)
                have lp531 : ∀ (d : Nat), ∀ (H : Heap) (locs : List Loc) (ls : Array Slot) (w9_531 : Int32) (g1_531 : Nat → Int32), ((0 : Int) ≤ w9_531.toInt ∧ w9_531.toInt ≤ 8) → (8 - w9_531.toInt).toNat < d → va_P (dC, dI) vwCl [(a0, .inr (12, [.int i0, .ref a1, .ref a2, .ref a3, .ref a4, .int i1, .ref a5, .int i2, .int i3, .int i4, .int i5, .int i6, .int i7, .int i8, .ref a6, .ref a7, .ref a8, .ref a9, .ref a10, .ref a11, .ref a12, .int i9, .ref a13, .int i10, .ref a14, .ref a15, .int i11, .ref a16, .ref a17, .ref a18, .ref a19, .int i12, .int i13, .int i14, .int i15, .int i16, .ref a20, .long j0, .ref a21, .ref a22, .ref a23, .ref a24])), (a1, .inl (cI, 544, .inl xF0)), (a16, .inl (cI, 256, .inl xF15)), (a18, .inl (cI, 8, .inl xF17)), (a19, .inl (cI, 8, .inl g1_531))] H → va_D A [(a0, .inr (12, [.int i0, .ref a1, .ref a2, .ref a3, .ref a4, .int i1, .ref a5, .int i2, .int i3, .int i4, .int i5, .int i6, .int i7, .int i8, .ref a6, .ref a7, .ref a8, .ref a9, .ref a10, .ref a11, .ref a12, .int i9, .ref a13, .int i10, .ref a14, .ref a15, .int i11, .ref a16, .ref a17, .ref a18, .ref a19, .int i12, .int i13, .int i14, .int i15, .int i16, .ref a20, .long j0, .ref a21, .ref a22, .ref a23, .ref a24])), (a1, .inl (cI, 544, .inl xF0)), (a16, .inl (cI, 256, .inl xF15)), (a18, .inl (cI, 8, .inl xF17)), (a19, .inl (cI, 8, .inl g1_531))] → va_S A s.heap H locs → lv_has ls 10 [(0, .ref a0), (1, .int p0), (2, .int p1), (3, .int p2), (4, .int x2), (5, .int w5_1), (6, .int w6_282), (7, .int w6_282), (8, .int 1), (9, .int w9_531)] → W p l e ({ frames := 0, cells := 0, slots := 0, locals := 0 } : Room) s m ([.ref a0, .int p0, .int p1, .int p2] : List Value).toArray below meth c H locs 0 0 Q (F0 m 59 ls []) := by
                  intro d
                  induction d with
                  | zero =>
                    intro H locs ls w9_531 g1_531 hr_w9_531 hm hP hD hS hl
                    omega
                  | succ d ih531 =>
                    intro H locs ls w9_531 g1_531 hr_w9_531 hm hP hD hS hl
                    refine lv_iload hx hb dX12_canRest_59 (lv_at hl 9 rfl) ?_
                    refine lv_iload_n hx hb dX12_canRest_61 rfl (lv_at hl 3 rfl) ?_
                    refine lv_icmp_ge (tgt := 90) hx hb dX12_canRest_62 (by decide) (fun c13678 => ?_) (fun c13678 => ?_)
                    · rw [ki_le] at c13678
                      refine lv_iload_n hx hb dX12_canRest_90 rfl (lv_at hl 1 rfl) ?_
                      refine lv_istore (lv' := [(9, .int p0), (0, .ref a0), (1, .int p0), (2, .int p1), (3, .int p2), (4, .int x2), (5, .int w5_1), (6, .int w6_282), (7, .int w6_282), (8, .int 1)]) hx hb dX12_canRest_91 hl (by decide) rfl (fun ls hl => ?_)
                      have lp556 : ∀ (d : Nat), ∀ (H : Heap) (locs : List Loc) (ls : Array Slot) (w7_556 : Int32) (w8_556 : Int32) (w9_556 : Int32) (g3_556 : Nat → Int32), ((0 : Int) ≤ w7_556.toInt ∧ w7_556.toInt ≤ 2147483647) → ((0 : Int) ≤ w8_556.toInt ∧ w8_556.toInt ≤ 1) → ((1 : Int) ≤ w9_556.toInt ∧ w9_556.toInt ≤ 8) → (8 - w9_556.toInt).toNat < d → va_P (dC, dI) vwCl [(a0, .inr (12, [.int i0, .ref a1, .ref a2, .ref a3, .ref a4, .int i1, .ref a5, .int i2, .int i3, .int i4, .int i5, .int i6, .int i7, .int i8, .ref a6, .ref a7, .ref a8, .ref a9, .ref a10, .ref a11, .ref a12, .int i9, .ref a13, .int i10, .ref a14, .ref a15, .int i11, .ref a16, .ref a17, .ref a18, .ref a19, .int i12, .int i13, .int i14, .int i15, .int i16, .ref a20, .long j0, .ref a21, .ref a22, .ref a23, .ref a24])), (a1, .inl (cI, 544, .inl xF0)), (a16, .inl (cI, 256, .inl xF15)), (a18, .inl (cI, 8, .inl xF17)), (a19, .inl (cI, 8, .inl g3_556))] H → va_D A [(a0, .inr (12, [.int i0, .ref a1, .ref a2, .ref a3, .ref a4, .int i1, .ref a5, .int i2, .int i3, .int i4, .int i5, .int i6, .int i7, .int i8, .ref a6, .ref a7, .ref a8, .ref a9, .ref a10, .ref a11, .ref a12, .int i9, .ref a13, .int i10, .ref a14, .ref a15, .int i11, .ref a16, .ref a17, .ref a18, .ref a19, .int i12, .int i13, .int i14, .int i15, .int i16, .ref a20, .long j0, .ref a21, .ref a22, .ref a23, .ref a24])), (a1, .inl (cI, 544, .inl xF0)), (a16, .inl (cI, 256, .inl xF15)), (a18, .inl (cI, 8, .inl xF17)), (a19, .inl (cI, 8, .inl g3_556))] → va_S A s.heap H locs → lv_has ls 10 [(0, .ref a0), (1, .int p0), (2, .int p1), (3, .int p2), (4, .int x2), (5, .int w5_1), (6, .int w6_282), (7, .int w7_556), (8, .int w8_556), (9, .int w9_556)] → W p l e ({ frames := 0, cells := 0, slots := 0, locals := 0 } : Room) s m ([.ref a0, .int p0, .int p1, .int p2] : List Value).toArray below meth c H locs 0 0 Q (F0 m 93 ls []) := by
                        intro d
                        induction d with
                        | zero =>
                          intro H locs ls w7_556 w8_556 w9_556 g3_556 hr_w7_556 hr_w8_556 hr_w9_556 hm hP hD hS hl
                          omega
                        | succ d ih556 =>
                          intro H locs ls w7_556 w8_556 w9_556 g3_556 hr_w7_556 hr_w8_556 hr_w9_556 hm hP hD hS hl
                          refine lv_iload hx hb dX12_canRest_93 (lv_at hl 9 rfl) ?_
                          refine lv_bipush (v := 8) hx hb dX12_canRest_95 (by decide) ?_
                          refine lv_icmp_ge (tgt := 171) hx hb dX12_canRest_97 (by decide) (fun c13800 => ?_) (fun c13800 => ?_)
                          · rw [ki_le] at c13800
                            refine lv_iload hx hb dX12_canRest_171 (lv_at hl 8 rfl) ?_
                            refine lv_if_eq (tgt := 178) hx hb dX12_canRest_173 (by decide) (fun c13801 => ?_) (fun c13801 => ?_)
                            · rw [ki_eq] at c13801
                              obtain ⟨x13802, ex13802⟩ : ∃ y : Int32, y = w6_282 + 1 := ⟨_, rfl⟩
                              refine lv_iinc (v := x13802) (lv' := [(6, .int x13802), (0, .ref a0), (1, .int p0), (2, .int p1), (3, .int p2), (4, .int x2), (5, .int w5_1), (7, .int w7_556), (8, .int w8_556), (9, .int w9_556)]) hx hb dX12_canRest_178 hl (k := 6) rfl (by rw [ex13802]; rfl) (by decide) rfl (fun ls hl => ?_)
                              have b_b13803 := i32_b w6_282
                              have tx13802 := ia_add (a := w6_282) (b := (1 : Int32)) (by omega) (by omega)
                              rw [← ex13802] at tx13802
                              refine lv_goto (tgt := 42) hx hb dX12_canRest_181 (by decide) ?_
                              exact ih282 _ _ ls x13802 g3_556 (show (0 : Int) ≤ x13802.toInt ∧ x13802.toInt ≤ 2147483647 from ⟨by omega, i32_hi⟩) (by omega) (hP.sub (ws' := [(a0, .inr (12, [.int i0, .ref a1, .ref a2, .ref a3, .ref a4, .int i1, .ref a5, .int i2, .int i3, .int i4, .int i5, .int i6, .int i7, .int i8, .ref a6, .ref a7, .ref a8, .ref a9, .ref a10, .ref a11, .ref a12, .int i9, .ref a13, .int i10, .ref a14, .ref a15, .int i11, .ref a16, .ref a17, .ref a18, .ref a19, .int i12, .int i13, .int i14, .int i15, .int i16, .ref a20, .long j0, .ref a21, .ref a22, .ref a23, .ref a24])), (a1, .inl (cI, 544, .inl xF0)), (a16, .inl (cI, 256, .inl xF15)), (a18, .inl (cI, 8, .inl xF17)), (a19, .inl (cI, 8, .inl g3_556))]) [0, 1, 2, 3, 4] rfl) (hD.sub (ws' := [(a0, .inr (12, [.int i0, .ref a1, .ref a2, .ref a3, .ref a4, .int i1, .ref a5, .int i2, .int i3, .int i4, .int i5, .int i6, .int i7, .int i8, .ref a6, .ref a7, .ref a8, .ref a9, .ref a10, .ref a11, .ref a12, .int i9, .ref a13, .int i10, .ref a14, .ref a15, .int i11, .ref a16, .ref a17, .ref a18, .ref a19, .int i12, .int i13, .int i14, .int i15, .int i16, .ref a20, .long j0, .ref a21, .ref a22, .ref a23, .ref a24])), (a1, .inl (cI, 544, .inl xF0)), (a16, .inl (cI, 256, .inl xF15)), (a18, .inl (cI, 8, .inl xF17)), (a19, .inl (cI, 8, .inl g3_556))]) [0, 1, 2, 3, 4] (by decide) rfl) hS (lv_sub hl [1, 2, 3, 4, 5, 6, 0] rfl)
                            · rw [ki_eq] at c13801
                              refine lv_iconst (v := 1) hx hb dX12_canRest_176 (by decide) ?_
                              have hP9 := hP.sub (ws' := [(a0, .inr (12, [.int i0, .ref a1, .ref a2, .ref a3, .ref a4, .int i1, .ref a5, .int i2, .int i3, .int i4, .int i5, .int i6, .int i7, .int i8, .ref a6, .ref a7, .ref a8, .ref a9, .ref a10, .ref a11, .ref a12, .int i9, .ref a13, .int i10, .ref a14, .ref a15, .int i11, .ref a16, .ref a17, .ref a18, .ref a19, .int i12, .int i13, .int i14, .int i15, .int i16, .ref a20, .long j0, .ref a21, .ref a22, .ref a23, .ref a24])), (a1, .inl (cI, 544, .inl xF0)), (a16, .inl (cI, 256, .inl xF15)), (a18, .inl (cI, 8, .inl xF17)), (a19, .inl (cI, 8, .inl g3_556))]) [0, 1, 2, 3, 4] rfl
                              have hD9 := hD.sub (ws' := [(a0, .inr (12, [.int i0, .ref a1, .ref a2, .ref a3, .ref a4, .int i1, .ref a5, .int i2, .int i3, .int i4, .int i5, .int i6, .int i7, .int i8, .ref a6, .ref a7, .ref a8, .ref a9, .ref a10, .ref a11, .ref a12, .int i9, .ref a13, .int i10, .ref a14, .ref a15, .int i11, .ref a16, .ref a17, .ref a18, .ref a19, .int i12, .int i13, .int i14, .int i15, .int i16, .ref a20, .long j0, .ref a21, .ref a22, .ref a23, .ref a24])), (a1, .inl (cI, 544, .inl xF0)), (a16, .inl (cI, 256, .inl xF15)), (a18, .inl (cI, 8, .inl xF17)), (a19, .inl (cI, 8, .inl g3_556))]) [0, 1, 2, 3, 4] (by decide) rfl
                              rw [hQ]
                              exact W.zret (v := 1) hx hb hr (by decide) (fun t ht hW => ⟨⟨1, (pickG 0 [], pickG (fun _ => 0) [g3_556], pickG (fun _ => 0) []), rfl, ⟨(show (0 : Int) ≤ (1 : Int32).toInt ∧ (1 : Int32).toInt ≤ 1 from ⟨by omega, by omega⟩), trivial⟩, (by rw [ht]; exact hP9), hD9⟩, hS.F ht⟩) hS.2.2 dX12_canRest_177
                          · rw [ki_le] at c13800
                            refine lv_iload hx hb dX12_canRest_100 (lv_at hl 4 rfl) ?_
                            refine lv_iload hx hb dX12_canRest_102 (lv_at hl 9 rfl) ?_
                            refine lv_ishr hx hb dX12_canRest_104 ?_
                            refine lv_topi (fun x13804 ex13804 => ?_)
                            refine lv_if_eq (tgt := 171) hx hb dX12_canRest_105 (by decide) (fun c13805 => ?_) (fun c13805 => ?_)
                            · rw [ki_eq] at c13805
                              refine lv_iload hx hb dX12_canRest_171 (lv_at hl 8 rfl) ?_
                              refine lv_if_eq (tgt := 178) hx hb dX12_canRest_173 (by decide) (fun c13806 => ?_) (fun c13806 => ?_)
                              · rw [ki_eq] at c13806
                                obtain ⟨x13807, ex13807⟩ : ∃ y : Int32, y = w6_282 + 1 := ⟨_, rfl⟩
                                refine lv_iinc (v := x13807) (lv' := [(6, .int x13807), (0, .ref a0), (1, .int p0), (2, .int p1), (3, .int p2), (4, .int x2), (5, .int w5_1), (7, .int w7_556), (8, .int w8_556), (9, .int w9_556)]) hx hb dX12_canRest_178 hl (k := 6) rfl (by rw [ex13807]; rfl) (by decide) rfl (fun ls hl => ?_)
                                have b_b13808 := i32_b w6_282
                                have tx13807 := ia_add (a := w6_282) (b := (1 : Int32)) (by omega) (by omega)
                                rw [← ex13807] at tx13807
                                refine lv_goto (tgt := 42) hx hb dX12_canRest_181 (by decide) ?_
                                exact ih282 _ _ ls x13807 g3_556 (show (0 : Int) ≤ x13807.toInt ∧ x13807.toInt ≤ 2147483647 from ⟨by omega, i32_hi⟩) (by omega) (hP.sub (ws' := [(a0, .inr (12, [.int i0, .ref a1, .ref a2, .ref a3, .ref a4, .int i1, .ref a5, .int i2, .int i3, .int i4, .int i5, .int i6, .int i7, .int i8, .ref a6, .ref a7, .ref a8, .ref a9, .ref a10, .ref a11, .ref a12, .int i9, .ref a13, .int i10, .ref a14, .ref a15, .int i11, .ref a16, .ref a17, .ref a18, .ref a19, .int i12, .int i13, .int i14, .int i15, .int i16, .ref a20, .long j0, .ref a21, .ref a22, .ref a23, .ref a24])), (a1, .inl (cI, 544, .inl xF0)), (a16, .inl (cI, 256, .inl xF15)), (a18, .inl (cI, 8, .inl xF17)), (a19, .inl (cI, 8, .inl g3_556))]) [0, 1, 2, 3, 4] rfl) (hD.sub (ws' := [(a0, .inr (12, [.int i0, .ref a1, .ref a2, .ref a3, .ref a4, .int i1, .ref a5, .int i2, .int i3, .int i4, .int i5, .int i6, .int i7, .int i8, .ref a6, .ref a7, .ref a8, .ref a9, .ref a10, .ref a11, .ref a12, .int i9, .ref a13, .int i10, .ref a14, .ref a15, .int i11, .ref a16, .ref a17, .ref a18, .ref a19, .int i12, .int i13, .int i14, .int i15, .int i16, .ref a20, .long j0, .ref a21, .ref a22, .ref a23, .ref a24])), (a1, .inl (cI, 544, .inl xF0)), (a16, .inl (cI, 256, .inl xF15)), (a18, .inl (cI, 8, .inl xF17)), (a19, .inl (cI, 8, .inl g3_556))]) [0, 1, 2, 3, 4] (by decide) rfl) hS (lv_sub hl [1, 2, 3, 4, 5, 6, 0] rfl)
                              · rw [ki_eq] at c13806
                                refine lv_iconst (v := 1) hx hb dX12_canRest_176 (by decide) ?_
                                have hP9 := hP.sub (ws' := [(a0, .inr (12, [.int i0, .ref a1, .ref a2, .ref a3, .ref a4, .int i1, .ref a5, .int i2, .int i3, .int i4, .int i5, .int i6, .int i7, .int i8, .ref a6, .ref a7, .ref a8, .ref a9, .ref a10, .ref a11, .ref a12, .int i9, .ref a13, .int i10, .ref a14, .ref a15, .int i11, .ref a16, .ref a17, .ref a18, .ref a19, .int i12, .int i13, .int i14, .int i15, .int i16, .ref a20, .long j0, .ref a21, .ref a22, .ref a23, .ref a24])), (a1, .inl (cI, 544, .inl xF0)), (a16, .inl (cI, 256, .inl xF15)), (a18, .inl (cI, 8, .inl xF17)), (a19, .inl (cI, 8, .inl g3_556))]) [0, 1, 2, 3, 4] rfl
                                have hD9 := hD.sub (ws' := [(a0, .inr (12, [.int i0, .ref a1, .ref a2, .ref a3, .ref a4, .int i1, .ref a5, .int i2, .int i3, .int i4, .int i5, .int i6, .int i7, .int i8, .ref a6, .ref a7, .ref a8, .ref a9, .ref a10, .ref a11, .ref a12, .int i9, .ref a13, .int i10, .ref a14, .ref a15, .int i11, .ref a16, .ref a17, .ref a18, .ref a19, .int i12, .int i13, .int i14, .int i15, .int i16, .ref a20, .long j0, .ref a21, .ref a22, .ref a23, .ref a24])), (a1, .inl (cI, 544, .inl xF0)), (a16, .inl (cI, 256, .inl xF15)), (a18, .inl (cI, 8, .inl xF17)), (a19, .inl (cI, 8, .inl g3_556))]) [0, 1, 2, 3, 4] (by decide) rfl
                                rw [hQ]
                                exact W.zret (v := 1) hx hb hr (by decide) (fun t ht hW => ⟨⟨1, (pickG 0 [], pickG (fun _ => 0) [g3_556], pickG (fun _ => 0) []), rfl, ⟨(show (0 : Int) ≤ (1 : Int32).toInt ∧ (1 : Int32).toInt ≤ 1 from ⟨by omega, by omega⟩), trivial⟩, (by rw [ht]; exact hP9), hD9⟩, hS.F ht⟩) hS.2.2 dX12_canRest_177
                            · rw [ki_eq] at c13805
                              refine lv_iload hx hb dX12_canRest_108 (lv_at hl 8 rfl) ?_
                              refine lv_if_eq (tgt := 171) hx hb dX12_canRest_110 (by decide) (fun c13809 => ?_) (fun c13809 => ?_)
                              · rw [ki_eq] at c13809
                                refine lv_iload hx hb dX12_canRest_171 (lv_at hl 8 rfl) ?_
                                refine lv_if_eq (tgt := 178) hx hb dX12_canRest_173 (by decide) (fun c13810 => ?_) (fun c13810 => ?_)
                                · rw [ki_eq] at c13810
                                  obtain ⟨x13811, ex13811⟩ : ∃ y : Int32, y = w6_282 + 1 := ⟨_, rfl⟩
                                  refine lv_iinc (v := x13811) (lv' := [(6, .int x13811), (0, .ref a0), (1, .int p0), (2, .int p1), (3, .int p2), (4, .int x2), (5, .int w5_1), (7, .int w7_556), (8, .int w8_556), (9, .int w9_556)]) hx hb dX12_canRest_178 hl (k := 6) rfl (by rw [ex13811]; rfl) (by decide) rfl (fun ls hl => ?_)
                                  have b_b13812 := i32_b w6_282
                                  have tx13811 := ia_add (a := w6_282) (b := (1 : Int32)) (by omega) (by omega)
                                  rw [← ex13811] at tx13811
                                  refine lv_goto (tgt := 42) hx hb dX12_canRest_181 (by decide) ?_
                                  exact ih282 _ _ ls x13811 g3_556 (show (0 : Int) ≤ x13811.toInt ∧ x13811.toInt ≤ 2147483647 from ⟨by omega, i32_hi⟩) (by omega) (hP.sub (ws' := [(a0, .inr (12, [.int i0, .ref a1, .ref a2, .ref a3, .ref a4, .int i1, .ref a5, .int i2, .int i3, .int i4, .int i5, .int i6, .int i7, .int i8, .ref a6, .ref a7, .ref a8, .ref a9, .ref a10, .ref a11, .ref a12, .int i9, .ref a13, .int i10, .ref a14, .ref a15, .int i11, .ref a16, .ref a17, .ref a18, .ref a19, .int i12, .int i13, .int i14, .int i15, .int i16, .ref a20, .long j0, .ref a21, .ref a22, .ref a23, .ref a24])), (a1, .inl (cI, 544, .inl xF0)), (a16, .inl (cI, 256, .inl xF15)), (a18, .inl (cI, 8, .inl xF17)), (a19, .inl (cI, 8, .inl g3_556))]) [0, 1, 2, 3, 4] rfl) (hD.sub (ws' := [(a0, .inr (12, [.int i0, .ref a1, .ref a2, .ref a3, .ref a4, .int i1, .ref a5, .int i2, .int i3, .int i4, .int i5, .int i6, .int i7, .int i8, .ref a6, .ref a7, .ref a8, .ref a9, .ref a10, .ref a11, .ref a12, .int i9, .ref a13, .int i10, .ref a14, .ref a15, .int i11, .ref a16, .ref a17, .ref a18, .ref a19, .int i12, .int i13, .int i14, .int i15, .int i16, .ref a20, .long j0, .ref a21, .ref a22, .ref a23, .ref a24])), (a1, .inl (cI, 544, .inl xF0)), (a16, .inl (cI, 256, .inl xF15)), (a18, .inl (cI, 8, .inl xF17)), (a19, .inl (cI, 8, .inl g3_556))]) [0, 1, 2, 3, 4] (by decide) rfl) hS (lv_sub hl [1, 2, 3, 4, 5, 6, 0] rfl)
                                · rw [ki_eq] at c13810
                                  exfalso
                                  omega
                              · rw [ki_eq] at c13809
                                refine lv_aload_n hx hb dX12_canRest_113 rfl (lv_at hl 0 rfl) ?_
                                refine va_get (D := (dC, dI)) (ci := 12) (v := .ref a19) (C := RX12) (T := TX12) (N := 42) hx hb hwd inlX12 hown hK hP 0 rfl rfl 30 (by decide) (hwd _ kr50_7) (fun _ h9 => h9) rfl dX12_canRest_114 ?_
                                refine lv_iload hx hb dX12_canRest_117 (lv_at hl 7 rfl) ?_
                                refine lv_iload_n hx hb dX12_canRest_119 rfl (lv_at hl 3 rfl) ?_
                                refine lv_irem hx hb dX12_canRest_120 (fun h9 => by rw [ki_eq] at h9; omega) ?_
                                refine lv_topi (fun x13813 ex13813 => ?_)
                                have tx13813 := ir_pos (a := w7_556) (b := p2) (by omega) (by omega)
                                rw [← ex13813] at tx13813
                                refine lv_dup2_11 hx hb dX12_canRest_121 rfl rfl ?_
                                have h13814 : vp_in x13813 8 := (vp_of (by omega) (by omega))
                                refine va_iald hx hb hK hP 4 0 rfl rfl h13814 dX12_canRest_122 ?_
                                refine lv_topi (fun x13815 ex13815 => ?_)
                                refine lv_aload_n hx hb dX12_canRest_123 rfl (lv_at hl 0 rfl) ?_
                                refine va_get (D := (dC, dI)) (ci := 12) (v := .ref a16) (C := RX12) (T := TX12) (N := 42) hx hb hwd inlX12 hown hK hP 0 rfl rfl 27 (by decide) (hwd _ kr50_4) (fun _ h9 => h9) rfl dX12_canRest_124 ?_
                                refine lv_iconst (v := 1) hx hb dX12_canRest_127 (by decide) ?_
                                refine lv_iload hx hb dX12_canRest_128 (lv_at hl 9 rfl) ?_
                                refine lv_ishl hx hb dX12_canRest_130 ?_
                                refine lv_topi (fun x13816 ex13816 => ?_)
                                have tx13816 := is_7 (b := w9_556) (by omega) (by omega)
                                rw [← ex13816] at tx13816
                                have h13817 : vp_in x13816 256 := (vp_of (by omega) (by omega))
                                refine va_iald hx hb hK hP 2 0 rfl rfl h13817 dX12_canRest_131 ?_
                                refine lv_topi (fun x13818 ex13818 => ?_)
                                refine lv_iadd hx hb dX12_canRest_132 ?_
                                refine lv_topi (fun x13819 ex13819 => ?_)
                                refine va_iast hx hb hK hP hD hS 4 0 rfl rfl (vp_of (by omega) (by omega)) dX12_canRest_133 (fun H locs hP hD hS => ?_)
                                obtain ⟨f13820, ef13820⟩ : ∃ f, f = upd g3_556 x13813.toNatClampNeg x13819 := ⟨_, rfl⟩
                                replace hP : va_P (dC, dI) vwCl [(a0, .inr (12, [.int i0, .ref a1, .ref a2, .ref a3, .ref a4, .int i1, .ref a5, .int i2, .int i3, .int i4, .int i5, .int i6, .int i7, .int i8, .ref a6, .ref a7, .ref a8, .ref a9, .ref a10, .ref a11, .ref a12, .int i9, .ref a13, .int i10, .ref a14, .ref a15, .int i11, .ref a16, .ref a17, .ref a18, .ref a19, .int i12, .int i13, .int i14, .int i15, .int i16, .ref a20, .long j0, .ref a21, .ref a22, .ref a23, .ref a24])), (a1, .inl (cI, 544, .inl xF0)), (a16, .inl (cI, 256, .inl xF15)), (a18, .inl (cI, 8, .inl xF17)), (a19, .inl (cI, 8, .inl f13820))] H := by rw [ef13820]; exact hP
                                replace hD : va_D A [(a0, .inr (12, [.int i0, .ref a1, .ref a2, .ref a3, .ref a4, .int i1, .ref a5, .int i2, .int i3, .int i4, .int i5, .int i6, .int i7, .int i8, .ref a6, .ref a7, .ref a8, .ref a9, .ref a10, .ref a11, .ref a12, .int i9, .ref a13, .int i10, .ref a14, .ref a15, .int i11, .ref a16, .ref a17, .ref a18, .ref a19, .int i12, .int i13, .int i14, .int i15, .int i16, .ref a20, .long j0, .ref a21, .ref a22, .ref a23, .ref a24])), (a1, .inl (cI, 544, .inl xF0)), (a16, .inl (cI, 256, .inl xF15)), (a18, .inl (cI, 8, .inl xF17)), (a19, .inl (cI, 8, .inl f13820))] := by rw [ef13820]; exact hD
                                refine lv_aload_n hx hb dX12_canRest_134 rfl (lv_at hl 0 rfl) ?_
                                refine va_get (D := (dC, dI)) (ci := 12) (v := .ref a19) (C := RX12) (T := TX12) (N := 42) hx hb hwd inlX12 hown hK hP 0 rfl rfl 30 (by decide) (hwd _ kr50_7) (fun _ h9 => h9) rfl dX12_canRest_135 ?_
                                refine lv_iload hx hb dX12_canRest_138 (lv_at hl 7 rfl) ?_
                                refine lv_iload_n hx hb dX12_canRest_140 rfl (lv_at hl 3 rfl) ?_
                                refine lv_irem hx hb dX12_canRest_141 (fun h9 => by rw [ki_eq] at h9; omega) ?_
                                refine lv_topi (fun x13821 ex13821 => ?_)
                                have tx13821 := ir_pos (a := w7_556) (b := p2) (by omega) (by omega)
                                rw [← ex13821] at tx13821
                                have h13822 : vp_in x13821 8 := (vp_of (by omega) (by omega))
                                refine va_iald hx hb hK hP 4 0 rfl rfl h13822 dX12_canRest_142 ?_
                                refine lv_topi (fun x13823 ex13823 => ?_)
                                refine lv_aload_n hx hb dX12_canRest_143 rfl (lv_at hl 0 rfl) ?_
                                refine va_get (D := (dC, dI)) (ci := 12) (v := .ref a1) (C := RX12) (T := TX12) (N := 42) hx hb hwd inlX12 hown hK hP 0 rfl rfl 1 (by decide) (hwd _ kr49_2) (fun _ h9 => h9) rfl dX12_canRest_144 ?_
                                refine lv_iconst (v := 1) hx hb dX12_canRest_147 (by decide) ?_
                                have h13824 : vp_in (1 : Int32) 544 := (vin (by decide))
                                refine va_iald hx hb hK hP 1 0 rfl rfl h13824 dX12_canRest_148 ?_
                                refine lv_topi (fun x13825 ex13825 => ?_)
                                have ix13825 := wat_lit (k := 1) ex13825 (by decide)
                                have wh13826 : whd cp xF0 := p_7.1
                                unfold whd at wh13826
                                have jp561 : ∀ (H : Heap) (locs : List Loc) (ls : Array Slot) (z0_561 : Int32), ((0 : Int) ≤ z0_561.toInt ∧ z0_561.toInt ≤ 1) → va_P (dC, dI) vwCl [(a0, .inr (12, [.int i0, .ref a1, .ref a2, .ref a3, .ref a4, .int i1, .ref a5, .int i2, .int i3, .int i4, .int i5, .int i6, .int i7, .int i8, .ref a6, .ref a7, .ref a8, .ref a9, .ref a10, .ref a11, .ref a12, .int i9, .ref a13, .int i10, .ref a14, .ref a15, .int i11, .ref a16, .ref a17, .ref a18, .ref a19, .int i12, .int i13, .int i14, .int i15, .int i16, .ref a20, .long j0, .ref a21, .ref a22, .ref a23, .ref a24])), (a1, .inl (cI, 544, .inl xF0)), (a16, .inl (cI, 256, .inl xF15)), (a18, .inl (cI, 8, .inl xF17)), (a19, .inl (cI, 8, .inl f13820))] H → va_D A [(a0, .inr (12, [.int i0, .ref a1, .ref a2, .ref a3, .ref a4, .int i1, .ref a5, .int i2, .int i3, .int i4, .int i5, .int i6, .int i7, .int i8, .ref a6, .ref a7, .ref a8, .ref a9, .ref a10, .ref a11, .ref a12, .int i9, .ref a13, .int i10, .ref a14, .ref a15, .int i11, .ref a16, .ref a17, .ref a18, .ref a19, .int i12, .int i13, .int i14, .int i15, .int i16, .ref a20, .long j0, .ref a21, .ref a22, .ref a23, .ref a24])), (a1, .inl (cI, 544, .inl xF0)), (a16, .inl (cI, 256, .inl xF15)), (a18, .inl (cI, 8, .inl xF17)), (a19, .inl (cI, 8, .inl f13820))] → va_S A s.heap H locs → lv_has ls 10 [(0, .ref a0), (1, .int p0), (2, .int p1), (3, .int p2), (4, .int x2), (5, .int w5_1), (6, .int w6_282), (7, .int w7_556), (8, .int w8_556), (9, .int w9_556)] → W p l e ({ frames := 0, cells := 0, slots := 0, locals := 0 } : Room) s m ([.ref a0, .int p0, .int p1, .int p2] : List Value).toArray below meth c H locs 0 0 Q (F0 m 157 ls [.int z0_561]) := by
                                  intro H locs ls z0_561 hr_z0_561 hP hD hS hl
                                  refine lv_istore (lv' := [(8, .int z0_561), (0, .ref a0), (1, .int p0), (2, .int p1), (3, .int p2), (4, .int x2), (5, .int w5_1), (6, .int w6_282), (7, .int w7_556), (9, .int w9_556)]) hx hb dX12_canRest_157 hl (by decide) rfl (fun ls hl => ?_)
                                  refine lv_iload hx hb dX12_canRest_159 (lv_at hl 8 rfl) ?_
                                  refine lv_iload_n hx hb dX12_canRest_161 rfl (lv_at hl 4 rfl) ?_
                                  refine lv_idiv hx hb dX12_canRest_162 (fun h9 => by rw [ki_eq] at h9; omega) ?_
                                  refine lv_topi (fun x13830 ex13830 => ?_)
                                  have tx13830 := id_pos (a := w7_556) (b := p2) (by omega) (by omega)
                                  rw [← ex13830] at tx13830
                                  refine lv_istore (lv' := [(7, .int x13830), (8, .int z0_561), (0, .ref a0), (1, .int p0), (2, .int p1), (3, .int p2), (4, .int x2), (5, .int w5_1), (6, .int w6_282), (9, .int w9_556)]) hx hb dX12_canRest_163 hl (by decide) rfl (fun ls hl => ?_)
                                  obtain ⟨x13831, ex13831⟩ : ∃ y : Int32, y = w9_556 + 1 := ⟨_, rfl⟩
                                  refine lv_iinc (v := x13831) (lv' := [(9, .int x13831), (7, .int x13830), (8, .int z0_561), (0, .ref a0), (1, .int p0), (2, .int p1), (3, .int p2), (4, .int x2), (5, .int w5_1), (6, .int w6_282)]) hx hb dX12_canRest_165 hl (k := 9) rfl (by rw [ex13831]; rfl) (by decide) rfl (fun ls hl => ?_)
                                  have tx13831 := ia_add (a := w9_556) (b := (1 : Int32)) (by omega) (by omega)
                                  rw [← ex13831] at tx13831
                                  refine lv_goto (tgt := 93) hx hb dX12_canRest_168 (by decide) ?_
                                  exact ih556 _ _ ls x13830 z0_561 x13831 f13820 (show (0 : Int) ≤ x13830.toInt ∧ x13830.toInt ≤ 2147483647 from ⟨by omega, i32_hi⟩) (show (0 : Int) ≤ z0_561.toInt ∧ z0_561.toInt ≤ 1 from ⟨by omega, by omega⟩) (show (1 : Int) ≤ x13831.toInt ∧ x13831.toInt ≤ 8 from ⟨by omega, by omega⟩) (by omega) (hP.sub (ws' := [(a0, .inr (12, [.int i0, .ref a1, .ref a2, .ref a3, .ref a4, .int i1, .ref a5, .int i2, .int i3, .int i4, .int i5, .int i6, .int i7, .int i8, .ref a6, .ref a7, .ref a8, .ref a9, .ref a10, .ref a11, .ref a12, .int i9, .ref a13, .int i10, .ref a14, .ref a15, .int i11, .ref a16, .ref a17, .ref a18, .ref a19, .int i12, .int i13, .int i14, .int i15, .int i16, .ref a20, .long j0, .ref a21, .ref a22, .ref a23, .ref a24])), (a1, .inl (cI, 544, .inl xF0)), (a16, .inl (cI, 256, .inl xF15)), (a18, .inl (cI, 8, .inl xF17)), (a19, .inl (cI, 8, .inl f13820))]) [0, 1, 2, 3, 4] rfl) (hD.sub (ws' := [(a0, .inr (12, [.int i0, .ref a1, .ref a2, .ref a3, .ref a4, .int i1, .ref a5, .int i2, .int i3, .int i4, .int i5, .int i6, .int i7, .int i8, .ref a6, .ref a7, .ref a8, .ref a9, .ref a10, .ref a11, .ref a12, .int i9, .ref a13, .int i10, .ref a14, .ref a15, .int i11, .ref a16, .ref a17, .ref a18, .ref a19, .int i12, .int i13, .int i14, .int i15, .int i16, .ref a20, .long j0, .ref a21, .ref a22, .ref a23, .ref a24])), (a1, .inl (cI, 544, .inl xF0)), (a16, .inl (cI, 256, .inl xF15)), (a18, .inl (cI, 8, .inl xF17)), (a19, .inl (cI, 8, .inl f13820))]) [0, 1, 2, 3, 4] (by decide) rfl) hS (lv_sub hl [3, 4, 5, 6, 7, 8, 9, 1, 2, 0] rfl)
                                refine lv_icmp_gt (tgt := 156) hx hb dX12_canRest_149 (by decide) (fun c13832 => ?_) (fun c13832 => ?_)
                                · rw [ki_lt] at c13832
                                  refine lv_iconst (v := 0) hx hb dX12_canRest_156 (by decide) ?_
                                  exact jp561 _ _ ls (0) (show (0 : Int) ≤ (0 : Int32).toInt ∧ (0 : Int32).toInt ≤ 1 from ⟨by omega, by omega⟩) (hP.sub (ws' := [(a0, .inr (12, [.int i0, .ref a1, .ref a2, .ref a3, .ref a4, .int i1, .ref a5, .int i2, .int i3, .int i4, .int i5, .int i6, .int i7, .int i8, .ref a6, .ref a7, .ref a8, .ref a9, .ref a10, .ref a11, .ref a12, .int i9, .ref a13, .int i10, .ref a14, .ref a15, .int i11, .ref a16, .ref a17, .ref a18, .ref a19, .int i12, .int i13, .int i14, .int i15, .int i16, .ref a20, .long j0, .ref a21, .ref a22, .ref a23, .ref a24])), (a1, .inl (cI, 544, .inl xF0)), (a16, .inl (cI, 256, .inl xF15)), (a18, .inl (cI, 8, .inl xF17)), (a19, .inl (cI, 8, .inl f13820))]) [0, 1, 2, 3, 4] rfl) (hD.sub (ws' := [(a0, .inr (12, [.int i0, .ref a1, .ref a2, .ref a3, .ref a4, .int i1, .ref a5, .int i2, .int i3, .int i4, .int i5, .int i6, .int i7, .int i8, .ref a6, .ref a7, .ref a8, .ref a9, .ref a10, .ref a11, .ref a12, .int i9, .ref a13, .int i10, .ref a14, .ref a15, .int i11, .ref a16, .ref a17, .ref a18, .ref a19, .int i12, .int i13, .int i14, .int i15, .int i16, .ref a20, .long j0, .ref a21, .ref a22, .ref a23, .ref a24])), (a1, .inl (cI, 544, .inl xF0)), (a16, .inl (cI, 256, .inl xF15)), (a18, .inl (cI, 8, .inl xF17)), (a19, .inl (cI, 8, .inl f13820))]) [0, 1, 2, 3, 4] (by decide) rfl) hS (lv_sub hl [0, 1, 2, 3, 4, 5, 6, 7, 8, 9] rfl)
                                · rw [ki_lt] at c13832
                                  refine lv_iconst (v := 1) hx hb dX12_canRest_152 (by decide) ?_
                                  refine lv_goto (tgt := 157) hx hb dX12_canRest_153 (by decide) ?_
                                  exact jp561 _ _ ls (1) (show (0 : Int) ≤ (1 : Int32).toInt ∧ (1 : Int32).toInt ≤ 1 from ⟨by omega, by omega⟩) (hP.sub (ws' := [(a0, .inr (12, [.int i0, .ref a1, .ref a2, .ref a3, .ref a4, .int i1, .ref a5, .int i2, .int i3, .int i4, .int i5, .int i6, .int i7, .int i8, .ref a6, .ref a7, .ref a8, .ref a9, .ref a10, .ref a11, .ref a12, .int i9, .ref a13, .int i10, .ref a14, .ref a15, .int i11, .ref a16, .ref a17, .ref a18, .ref a19, .int i12, .int i13, .int i14, .int i15, .int i16, .ref a20, .long j0, .ref a21, .ref a22, .ref a23, .ref a24])), (a1, .inl (cI, 544, .inl xF0)), (a16, .inl (cI, 256, .inl xF15)), (a18, .inl (cI, 8, .inl xF17)), (a19, .inl (cI, 8, .inl f13820))]) [0, 1, 2, 3, 4] rfl) (hD.sub (ws' := [(a0, .inr (12, [.int i0, .ref a1, .ref a2, .ref a3, .ref a4, .int i1, .ref a5, .int i2, .int i3, .int i4, .int i5, .int i6, .int i7, .int i8, .ref a6, .ref a7, .ref a8, .ref a9, .ref a10, .ref a11, .ref a12, .int i9, .ref a13, .int i10, .ref a14, .ref a15, .int i11, .ref a16, .ref a17, .ref a18, .ref a19, .int i12, .int i13, .int i14, .int i15, .int i16, .ref a20, .long j0, .ref a21, .ref a22, .ref a23, .ref a24])), (a1, .inl (cI, 544, .inl xF0)), (a16, .inl (cI, 256, .inl xF15)), (a18, .inl (cI, 8, .inl xF17)), (a19, .inl (cI, 8, .inl f13820))]) [0, 1, 2, 3, 4] (by decide) rfl) hS (lv_sub hl [0, 1, 2, 3, 4, 5, 6, 7, 8, 9] rfl)
                      exact lp556 _ _ _ ls w6_282 (1) p0 g1_531 (show (0 : Int) ≤ w6_282.toInt ∧ w6_282.toInt ≤ 2147483647 from ⟨by omega, i32_hi⟩) (show (0 : Int) ≤ (1 : Int32).toInt ∧ (1 : Int32).toInt ≤ 1 from ⟨by omega, by omega⟩) (show (1 : Int) ≤ p0.toInt ∧ p0.toInt ≤ 8 from p_9) (Nat.lt_succ_self _) (hP.sub (ws' := [(a0, .inr (12, [.int i0, .ref a1, .ref a2, .ref a3, .ref a4, .int i1, .ref a5, .int i2, .int i3, .int i4, .int i5, .int i6, .int i7, .int i8, .ref a6, .ref a7, .ref a8, .ref a9, .ref a10, .ref a11, .ref a12, .int i9, .ref a13, .int i10, .ref a14, .ref a15, .int i11, .ref a16, .ref a17, .ref a18, .ref a19, .int i12, .int i13, .int i14, .int i15, .int i16, .ref a20, .long j0, .ref a21, .ref a22, .ref a23, .ref a24])), (a1, .inl (cI, 544, .inl xF0)), (a16, .inl (cI, 256, .inl xF15)), (a18, .inl (cI, 8, .inl xF17)), (a19, .inl (cI, 8, .inl g1_531))]) [0, 1, 2, 3, 4] rfl) (hD.sub (ws' := [(a0, .inr (12, [.int i0, .ref a1, .ref a2, .ref a3, .ref a4, .int i1, .ref a5, .int i2, .int i3, .int i4, .int i5, .int i6, .int i7, .int i8, .ref a6, .ref a7, .ref a8, .ref a9, .ref a10, .ref a11, .ref a12, .int i9, .ref a13, .int i10, .ref a14, .ref a15, .int i11, .ref a16, .ref a17, .ref a18, .ref a19, .int i12, .int i13, .int i14, .int i15, .int i16, .ref a20, .long j0, .ref a21, .ref a22, .ref a23, .ref a24])), (a1, .inl (cI, 544, .inl xF0)), (a16, .inl (cI, 256, .inl xF15)), (a18, .inl (cI, 8, .inl xF17)), (a19, .inl (cI, 8, .inl g1_531))]) [0, 1, 2, 3, 4] (by decide) rfl) hS (lv_sub hl [1, 2, 3, 4, 5, 6, 7, 8, 9, 0] rfl)
                    · rw [ki_le] at c13678
                      refine lv_aload_n hx hb dX12_canRest_65 rfl (lv_at hl 0 rfl) ?_
                      refine va_get (D := (dC, dI)) (ci := 12) (v := .ref a19) (C := RX12) (T := TX12) (N := 42) hx hb hwd inlX12 hown hK hP 0 rfl rfl 30 (by decide) (hwd _ kr50_7) (fun _ h9 => h9) rfl dX12_canRest_66 ?_
                      refine lv_iload hx hb dX12_canRest_69 (lv_at hl 9 rfl) ?_
                      refine lv_aload_n hx hb dX12_canRest_71 rfl (lv_at hl 0 rfl) ?_
                      refine va_get (D := (dC, dI)) (ci := 12) (v := .ref a16) (C := RX12) (T := TX12) (N := 42) hx hb hwd inlX12 hown hK hP 0 rfl rfl 27 (by decide) (hwd _ kr50_4) (fun _ h9 => h9) rfl dX12_canRest_72 ?_
                      refine lv_aload_n hx hb dX12_canRest_75 rfl (lv_at hl 0 rfl) ?_
                      refine va_get (D := (dC, dI)) (ci := 12) (v := .ref a18) (C := RX12) (T := TX12) (N := 42) hx hb hwd inlX12 hown hK hP 0 rfl rfl 29 (by decide) (hwd _ kr50_6) (fun _ h9 => h9) rfl dX12_canRest_76 ?_
                      refine lv_iload hx hb dX12_canRest_79 (lv_at hl 9 rfl) ?_
                      have h13833 : vp_in w9_531 8 := (vp_of (by omega) (by omega))
                      refine va_iald hx hb hK hP 3 0 rfl rfl h13833 dX12_canRest_81 ?_
                      refine lv_topi (fun x13834 ex13834 => ?_)
                      have tx13834 : (0 : Int) ≤ x13834.toInt ∧ x13834.toInt ≤ 255 := by rw [ex13834]; exact p_8 _ (vp_nat h13833)
                      have h13835 : vp_in x13834 256 := (vp_of (by omega) (by omega))
                      refine va_iald hx hb hK hP 2 0 rfl rfl h13835 dX12_canRest_82 ?_
                      refine lv_topi (fun x13836 ex13836 => ?_)
                      refine va_iast hx hb hK hP hD hS 4 0 rfl rfl (vp_of (by omega) (by omega)) dX12_canRest_83 (fun H locs hP hD hS => ?_)
                      obtain ⟨f13837, ef13837⟩ : ∃ f, f = upd g1_531 w9_531.toNatClampNeg x13836 := ⟨_, rfl⟩
                      replace hP : va_P (dC, dI) vwCl [(a0, .inr (12, [.int i0, .ref a1, .ref a2, .ref a3, .ref a4, .int i1, .ref a5, .int i2, .int i3, .int i4, .int i5, .int i6, .int i7, .int i8, .ref a6, .ref a7, .ref a8, .ref a9, .ref a10, .ref a11, .ref a12, .int i9, .ref a13, .int i10, .ref a14, .ref a15, .int i11, .ref a16, .ref a17, .ref a18, .ref a19, .int i12, .int i13, .int i14, .int i15, .int i16, .ref a20, .long j0, .ref a21, .ref a22, .ref a23, .ref a24])), (a1, .inl (cI, 544, .inl xF0)), (a16, .inl (cI, 256, .inl xF15)), (a18, .inl (cI, 8, .inl xF17)), (a19, .inl (cI, 8, .inl f13837))] H := by rw [ef13837]; exact hP
                      replace hD : va_D A [(a0, .inr (12, [.int i0, .ref a1, .ref a2, .ref a3, .ref a4, .int i1, .ref a5, .int i2, .int i3, .int i4, .int i5, .int i6, .int i7, .int i8, .ref a6, .ref a7, .ref a8, .ref a9, .ref a10, .ref a11, .ref a12, .int i9, .ref a13, .int i10, .ref a14, .ref a15, .int i11, .ref a16, .ref a17, .ref a18, .ref a19, .int i12, .int i13, .int i14, .int i15, .int i16, .ref a20, .long j0, .ref a21, .ref a22, .ref a23, .ref a24])), (a1, .inl (cI, 544, .inl xF0)), (a16, .inl (cI, 256, .inl xF15)), (a18, .inl (cI, 8, .inl xF17)), (a19, .inl (cI, 8, .inl f13837))] := by rw [ef13837]; exact hD
                      obtain ⟨x13838, ex13838⟩ : ∃ y : Int32, y = w9_531 + 1 := ⟨_, rfl⟩
                      refine lv_iinc (v := x13838) (lv' := [(9, .int x13838), (0, .ref a0), (1, .int p0), (2, .int p1), (3, .int p2), (4, .int x2), (5, .int w5_1), (6, .int w6_282), (7, .int w6_282), (8, .int 1)]) hx hb dX12_canRest_84 hl (k := 9) rfl (by rw [ex13838]; rfl) (by decide) rfl (fun ls hl => ?_)
                      have tx13838 := ia_add (a := w9_531) (b := (1 : Int32)) (by omega) (by omega)
                      rw [← ex13838] at tx13838
                      refine lv_goto (tgt := 59) hx hb dX12_canRest_87 (by decide) ?_
                      exact ih531 _ _ ls x13838 f13837 (show (0 : Int) ≤ x13838.toInt ∧ x13838.toInt ≤ 8 from ⟨by omega, by omega⟩) (by omega) (hP.sub (ws' := [(a0, .inr (12, [.int i0, .ref a1, .ref a2, .ref a3, .ref a4, .int i1, .ref a5, .int i2, .int i3, .int i4, .int i5, .int i6, .int i7, .int i8, .ref a6, .ref a7, .ref a8, .ref a9, .ref a10, .ref a11, .ref a12, .int i9, .ref a13, .int i10, .ref a14, .ref a15, .int i11, .ref a16, .ref a17, .ref a18, .ref a19, .int i12, .int i13, .int i14, .int i15, .int i16, .ref a20, .long j0, .ref a21, .ref a22, .ref a23, .ref a24])), (a1, .inl (cI, 544, .inl xF0)), (a16, .inl (cI, 256, .inl xF15)), (a18, .inl (cI, 8, .inl xF17)), (a19, .inl (cI, 8, .inl f13837))]) [0, 1, 2, 3, 4] rfl) (hD.sub (ws' := [(a0, .inr (12, [.int i0, .ref a1, .ref a2, .ref a3, .ref a4, .int i1, .ref a5, .int i2, .int i3, .int i4, .int i5, .int i6, .int i7, .int i8, .ref a6, .ref a7, .ref a8, .ref a9, .ref a10, .ref a11, .ref a12, .int i9, .ref a13, .int i10, .ref a14, .ref a15, .int i11, .ref a16, .ref a17, .ref a18, .ref a19, .int i12, .int i13, .int i14, .int i15, .int i16, .ref a20, .long j0, .ref a21, .ref a22, .ref a23, .ref a24])), (a1, .inl (cI, 544, .inl xF0)), (a16, .inl (cI, 256, .inl xF15)), (a18, .inl (cI, 8, .inl xF17)), (a19, .inl (cI, 8, .inl f13837))]) [0, 1, 2, 3, 4] (by decide) rfl) hS (lv_sub hl [1, 2, 3, 4, 5, 6, 7, 8, 9, 0] rfl)
                exact lp531 _ _ _ ls (0) g1_282 (show (0 : Int) ≤ (0 : Int32).toInt ∧ (0 : Int32).toInt ≤ 8 from ⟨by omega, by omega⟩) (Nat.lt_succ_self _) (hP.sub (ws' := [(a0, .inr (12, [.int i0, .ref a1, .ref a2, .ref a3, .ref a4, .int i1, .ref a5, .int i2, .int i3, .int i4, .int i5, .int i6, .int i7, .int i8, .ref a6, .ref a7, .ref a8, .ref a9, .ref a10, .ref a11, .ref a12, .int i9, .ref a13, .int i10, .ref a14, .ref a15, .int i11, .ref a16, .ref a17, .ref a18, .ref a19, .int i12, .int i13, .int i14, .int i15, .int i16, .ref a20, .long j0, .ref a21, .ref a22, .ref a23, .ref a24])), (a1, .inl (cI, 544, .inl xF0)), (a16, .inl (cI, 256, .inl xF15)), (a18, .inl (cI, 8, .inl xF17)), (a19, .inl (cI, 8, .inl g1_282))]) [0, 1, 2, 3, 4] rfl) (hD.sub (ws' := [(a0, .inr (12, [.int i0, .ref a1, .ref a2, .ref a3, .ref a4, .int i1, .ref a5, .int i2, .int i3, .int i4, .int i5, .int i6, .int i7, .int i8, .ref a6, .ref a7, .ref a8, .ref a9, .ref a10, .ref a11, .ref a12, .int i9, .ref a13, .int i10, .ref a14, .ref a15, .int i11, .ref a16, .ref a17, .ref a18, .ref a19, .int i12, .int i13, .int i14, .int i15, .int i16, .ref a20, .long j0, .ref a21, .ref a22, .ref a23, .ref a24])), (a1, .inl (cI, 544, .inl xF0)), (a16, .inl (cI, 256, .inl xF15)), (a18, .inl (cI, 8, .inl xF17)), (a19, .inl (cI, 8, .inl g1_282))]) [0, 1, 2, 3, 4] (by decide) rfl) hS (lv_sub hl [3, 4, 5, 6, 7, 8, 9, 2, 1, 0] rfl)
          exact lp282 _ _ _ ls (0) xF18 (show (0 : Int) ≤ (0 : Int32).toInt ∧ (0 : Int32).toInt ≤ 2147483647 from ⟨by omega, i32_hi⟩) (Nat.lt_succ_self _) (hP.sub (ws' := [(a0, .inr (12, [.int i0, .ref a1, .ref a2, .ref a3, .ref a4, .int i1, .ref a5, .int i2, .int i3, .int i4, .int i5, .int i6, .int i7, .int i8, .ref a6, .ref a7, .ref a8, .ref a9, .ref a10, .ref a11, .ref a12, .int i9, .ref a13, .int i10, .ref a14, .ref a15, .int i11, .ref a16, .ref a17, .ref a18, .ref a19, .int i12, .int i13, .int i14, .int i15, .int i16, .ref a20, .long j0, .ref a21, .ref a22, .ref a23, .ref a24])), (a1, .inl (cI, 544, .inl xF0)), (a16, .inl (cI, 256, .inl xF15)), (a18, .inl (cI, 8, .inl xF17)), (a19, .inl (cI, 8, .inl xF18))]) [0, 1, 2, 3, 4] rfl) (hD.sub (ws' := [(a0, .inr (12, [.int i0, .ref a1, .ref a2, .ref a3, .ref a4, .int i1, .ref a5, .int i2, .int i3, .int i4, .int i5, .int i6, .int i7, .int i8, .ref a6, .ref a7, .ref a8, .ref a9, .ref a10, .ref a11, .ref a12, .int i9, .ref a13, .int i10, .ref a14, .ref a15, .int i11, .ref a16, .ref a17, .ref a18, .ref a19, .int i12, .int i13, .int i14, .int i15, .int i16, .ref a20, .long j0, .ref a21, .ref a22, .ref a23, .ref a24])), (a1, .inl (cI, 544, .inl xF0)), (a16, .inl (cI, 256, .inl xF15)), (a18, .inl (cI, 8, .inl xF17)), (a19, .inl (cI, 8, .inl xF18))]) [0, 1, 2, 3, 4] (by decide) rfl) hS (lv_sub hl [1, 2, 3, 4, 5, 6, 0] rfl)
        · rw [ki_eq] at c6934
          refine lv_iload hx hb dX12_canRest_27 (lv_at hl 5 rfl) ?_
          refine lv_iload_n hx hb dX12_canRest_29 rfl (lv_at hl 3 rfl) ?_
          refine lv_imul hx hb dX12_canRest_30 ?_
          refine lv_topi (fun x13839 ex13839 => ?_)
          refine lv_istore (lv' := [(5, .int x13839), (0, .ref a0), (1, .int p0), (2, .int p1), (3, .int p2), (4, .int x2), (6, .int w6_1)]) hx hb dX12_canRest_31 hl (by decide) rfl (fun ls hl => ?_)
          obtain ⟨x13840, ex13840⟩ : ∃ y : Int32, y = w6_1 + 1 := ⟨_, rfl⟩
          refine lv_iinc (v := x13840) (lv' := [(6, .int x13840), (5, .int x13839), (0, .ref a0), (1, .int p0), (2, .int p1), (3, .int p2), (4, .int x2)]) hx hb dX12_canRest_33 hl (k := 6) rfl (by rw [ex13840]; rfl) (by decide) rfl (fun ls hl => ?_)
          have tx13840 := ia_add (a := w6_1) (b := (1 : Int32)) (by omega) (by omega)
          rw [← ex13840] at tx13840
          refine lv_goto (tgt := 13) hx hb dX12_canRest_36 (by decide) ?_
          exact ih1 _ _ ls x13839 x13840 (show (1 : Int) ≤ x13840.toInt ∧ x13840.toInt ≤ 8 from ⟨by omega, by omega⟩) (by omega) (hP.sub (ws' := [(a0, .inr (12, [.int i0, .ref a1, .ref a2, .ref a3, .ref a4, .int i1, .ref a5, .int i2, .int i3, .int i4, .int i5, .int i6, .int i7, .int i8, .ref a6, .ref a7, .ref a8, .ref a9, .ref a10, .ref a11, .ref a12, .int i9, .ref a13, .int i10, .ref a14, .ref a15, .int i11, .ref a16, .ref a17, .ref a18, .ref a19, .int i12, .int i13, .int i14, .int i15, .int i16, .ref a20, .long j0, .ref a21, .ref a22, .ref a23, .ref a24])), (a1, .inl (cI, 544, .inl xF0)), (a16, .inl (cI, 256, .inl xF15)), (a18, .inl (cI, 8, .inl xF17)), (a19, .inl (cI, 8, .inl xF18))]) [0, 1, 2, 3, 4] rfl) (hD.sub (ws' := [(a0, .inr (12, [.int i0, .ref a1, .ref a2, .ref a3, .ref a4, .int i1, .ref a5, .int i2, .int i3, .int i4, .int i5, .int i6, .int i7, .int i8, .ref a6, .ref a7, .ref a8, .ref a9, .ref a10, .ref a11, .ref a12, .int i9, .ref a13, .int i10, .ref a14, .ref a15, .int i11, .ref a16, .ref a17, .ref a18, .ref a19, .int i12, .int i13, .int i14, .int i15, .int i16, .ref a20, .long j0, .ref a21, .ref a22, .ref a23, .ref a24])), (a1, .inl (cI, 544, .inl xF0)), (a16, .inl (cI, 256, .inl xF15)), (a18, .inl (cI, 8, .inl xF17)), (a19, .inl (cI, 8, .inl xF18))]) [0, 1, 2, 3, 4] (by decide) rfl) hS (lv_sub hl [2, 3, 4, 5, 6, 1, 0] rfl)
  exact lp1 _ _ _ ls (1) p0 (show (1 : Int) ≤ p0.toInt ∧ p0.toInt ≤ 8 from p_9) (Nat.lt_succ_self _) (hP.sub (ws' := [(a0, .inr (12, [.int i0, .ref a1, .ref a2, .ref a3, .ref a4, .int i1, .ref a5, .int i2, .int i3, .int i4, .int i5, .int i6, .int i7, .int i8, .ref a6, .ref a7, .ref a8, .ref a9, .ref a10, .ref a11, .ref a12, .int i9, .ref a13, .int i10, .ref a14, .ref a15, .int i11, .ref a16, .ref a17, .ref a18, .ref a19, .int i12, .int i13, .int i14, .int i15, .int i16, .ref a20, .long j0, .ref a21, .ref a22, .ref a23, .ref a24])), (a1, .inl (cI, 544, .inl xF0)), (a16, .inl (cI, 256, .inl xF15)), (a18, .inl (cI, 8, .inl xF17)), (a19, .inl (cI, 8, .inl xF18))]) [0, 1, 2, 3, 4] rfl) (hD.sub (ws' := [(a0, .inr (12, [.int i0, .ref a1, .ref a2, .ref a3, .ref a4, .int i1, .ref a5, .int i2, .int i3, .int i4, .int i5, .int i6, .int i7, .int i8, .ref a6, .ref a7, .ref a8, .ref a9, .ref a10, .ref a11, .ref a12, .int i9, .ref a13, .int i10, .ref a14, .ref a15, .int i11, .ref a16, .ref a17, .ref a18, .ref a19, .int i12, .int i13, .int i14, .int i15, .int i16, .ref a20, .long j0, .ref a21, .ref a22, .ref a23, .ref a24])), (a1, .inl (cI, 544, .inl xF0)), (a16, .inl (cI, 256, .inl xF15)), (a18, .inl (cI, 8, .inl xF17)), (a19, .inl (cI, 8, .inl xF18))]) [0, 1, 2, 3, 4] (by decide) rfl) hS (lv_sub hl [3, 4, 5, 6, 2, 1, 0] rfl)
theorem dX12_place_0 : decode cX12_place 0 = .ok (.aload_n 0, 1) := by decide +kernel
theorem dX12_place_1 : decode cX12_place 1 = .ok (.iload_n 1, 1) := by decide +kernel
theorem dX12_place_2 : decode cX12_place 2 = .ok (.invokevirtual 417, 3) := by decide +kernel
theorem dX12_place_5 : decode cX12_place 5 = .ok (.istore_n 3, 1) := by decide +kernel
theorem dX12_place_6 : decode cX12_place 6 = .ok (.iload_n 3, 1) := by decide +kernel
theorem dX12_place_7 : decode cX12_place 7 = .ok (.ifCond .ge 5, 3) := by decide +kernel
theorem dX12_place_10 : decode cX12_place 10 = .ok (.iload_n 3, 1) := by decide +kernel
theorem dX12_place_11 : decode cX12_place 11 = .ok (.ireturn, 1) := by decide +kernel
theorem dX12_place_12 : decode cX12_place 12 = .ok (.iload_n 2, 1) := by decide +kernel
theorem dX12_place_13 : decode cX12_place 13 = .ok (.i2l, 1) := by decide +kernel
theorem dX12_place_14 : decode cX12_place 14 = .ok (.lconst 0, 1) := by decide +kernel
theorem dX12_place_15 : decode cX12_place 15 = .ok (.aload_n 0, 1) := by decide +kernel
theorem dX12_place_16 : decode cX12_place 16 = .ok (.getfield 79, 3) := by decide +kernel
theorem dX12_place_19 : decode cX12_place 19 = .ok (.iload_n 1, 1) := by decide +kernel
theorem dX12_place_20 : decode cX12_place 20 = .ok (.iaload, 1) := by decide +kernel
theorem dX12_place_21 : decode cX12_place 21 = .ok (.iconst 1, 1) := by decide +kernel
theorem dX12_place_22 : decode cX12_place 22 = .ok (.isub, 1) := by decide +kernel
theorem dX12_place_23 : decode cX12_place 23 = .ok (.i2l, 1) := by decide +kernel
theorem dX12_place_24 : decode cX12_place 24 = .ok (.invokestatic 98, 3) := by decide +kernel
theorem dX12_place_27 : decode cX12_place 27 = .ok (.ifCond .ne 6, 3) := by decide +kernel
theorem dX12_place_30 : decode cX12_place 30 = .ok (.bipush (-2), 2) := by decide +kernel
theorem dX12_place_32 : decode cX12_place 32 = .ok (.ireturn, 1) := by decide +kernel
theorem dX12_place_33 : decode cX12_place 33 = .ok (.aload_n 0, 1) := by decide +kernel
theorem dX12_place_34 : decode cX12_place 34 = .ok (.iload_n 1, 1) := by decide +kernel
theorem dX12_place_35 : decode cX12_place 35 = .ok (.invokevirtual 420, 3) := by decide +kernel
theorem dX12_place_38 : decode cX12_place 38 = .ok (.iconst 1, 1) := by decide +kernel
theorem dX12_place_39 : decode cX12_place 39 = .ok (.aload_n 0, 1) := by decide +kernel
theorem dX12_place_40 : decode cX12_place 40 = .ok (.getfield 79, 3) := by decide +kernel
theorem dX12_place_43 : decode cX12_place 43 = .ok (.iload_n 1, 1) := by decide +kernel
theorem dX12_place_44 : decode cX12_place 44 = .ok (.iaload, 1) := by decide +kernel
theorem dX12_place_45 : decode cX12_place 45 = .ok (.ishl, 1) := by decide +kernel
theorem dX12_place_46 : decode cX12_place 46 = .ok (.iconst 1, 1) := by decide +kernel
theorem dX12_place_47 : decode cX12_place 47 = .ok (.isub, 1) := by decide +kernel
theorem dX12_place_48 : decode cX12_place 48 = .ok (.istore 4, 2) := by decide +kernel
theorem dX12_place_50 : decode cX12_place 50 = .ok (.aload_n 0, 1) := by decide +kernel
theorem dX12_place_51 : decode cX12_place 51 = .ok (.getfield 67, 3) := by decide +kernel
theorem dX12_place_54 : decode cX12_place 54 = .ok (.iload 4, 2) := by decide +kernel
theorem dX12_place_56 : decode cX12_place 56 = .ok (.iaload, 1) := by decide +kernel
theorem dX12_place_57 : decode cX12_place 57 = .ok (.istore 5, 2) := by decide +kernel
theorem dX12_place_59 : decode cX12_place 59 = .ok (.iconst 0, 1) := by decide +kernel
theorem dX12_place_60 : decode cX12_place 60 = .ok (.istore 6, 2) := by decide +kernel
theorem dX12_place_62 : decode cX12_place 62 = .ok (.iload 6, 2) := by decide +kernel
theorem dX12_place_64 : decode cX12_place 64 = .ok (.bipush 8, 2) := by decide +kernel
theorem dX12_place_66 : decode cX12_place 66 = .ok (.if_icmp .ge 17, 3) := by decide +kernel
theorem dX12_place_69 : decode cX12_place 69 = .ok (.aload_n 0, 1) := by decide +kernel
theorem dX12_place_70 : decode cX12_place 70 = .ok (.getfield 70, 3) := by decide +kernel
theorem dX12_place_73 : decode cX12_place 73 = .ok (.iload 6, 2) := by decide +kernel
theorem dX12_place_75 : decode cX12_place 75 = .ok (.iconst 0, 1) := by decide +kernel
theorem dX12_place_76 : decode cX12_place 76 = .ok (.iastore, 1) := by decide +kernel
theorem dX12_place_77 : decode cX12_place 77 = .ok (.iinc 6 1, 3) := by decide +kernel
theorem dX12_place_80 : decode cX12_place 80 = .ok (.goto (-18), 3) := by decide +kernel
theorem dX12_place_83 : decode cX12_place 83 = .ok (.iconst (-1), 1) := by decide +kernel
theorem dX12_place_84 : decode cX12_place 84 = .ok (.istore 6, 2) := by decide +kernel
theorem dX12_place_86 : decode cX12_place 86 = .ok (.iconst 0, 1) := by decide +kernel
theorem dX12_place_87 : decode cX12_place 87 = .ok (.istore 7, 2) := by decide +kernel
theorem dX12_place_89 : decode cX12_place 89 = .ok (.iload 7, 2) := by decide +kernel
theorem dX12_place_91 : decode cX12_place 91 = .ok (.iload_n 2, 1) := by decide +kernel
theorem dX12_place_92 : decode cX12_place 92 = .ok (.if_icmp .gt 129, 3) := by decide +kernel
theorem dX12_place_95 : decode cX12_place 95 = .ok (.iconst (-1), 1) := by decide +kernel
theorem dX12_place_96 : decode cX12_place 96 = .ok (.istore 6, 2) := by decide +kernel
theorem dX12_place_98 : decode cX12_place 98 = .ok (.iconst 0, 1) := by decide +kernel
theorem dX12_place_99 : decode cX12_place 99 = .ok (.istore 8, 2) := by decide +kernel
theorem dX12_place_101 : decode cX12_place 101 = .ok (.iload 8, 2) := by decide +kernel
theorem dX12_place_103 : decode cX12_place 103 = .ok (.iload 5, 2) := by decide +kernel
theorem dX12_place_105 : decode cX12_place 105 = .ok (.if_icmp .ge 110, 3) := by decide +kernel
theorem dX12_place_108 : decode cX12_place 108 = .ok (.iload 6, 2) := by decide +kernel
theorem dX12_place_110 : decode cX12_place 110 = .ok (.iconst (-1), 1) := by decide +kernel
theorem dX12_place_111 : decode cX12_place 111 = .ok (.if_icmp .ne 104, 3) := by decide +kernel
theorem dX12_place_114 : decode cX12_place 114 = .ok (.aload_n 0, 1) := by decide +kernel
theorem dX12_place_115 : decode cX12_place 115 = .ok (.getfield 70, 3) := by decide +kernel
theorem dX12_place_118 : decode cX12_place 118 = .ok (.iload 8, 2) := by decide +kernel
theorem dX12_place_120 : decode cX12_place 120 = .ok (.dup2, 1) := by decide +kernel
theorem dX12_place_121 : decode cX12_place 121 = .ok (.iaload, 1) := by decide +kernel
theorem dX12_place_122 : decode cX12_place 122 = .ok (.iconst 1, 1) := by decide +kernel
theorem dX12_place_123 : decode cX12_place 123 = .ok (.iload 7, 2) := by decide +kernel
theorem dX12_place_125 : decode cX12_place 125 = .ok (.ishl, 1) := by decide +kernel
theorem dX12_place_126 : decode cX12_place 126 = .ok (.ior, 1) := by decide +kernel
theorem dX12_place_127 : decode cX12_place 127 = .ok (.iastore, 1) := by decide +kernel
theorem dX12_place_128 : decode cX12_place 128 = .ok (.aload_n 0, 1) := by decide +kernel
theorem dX12_place_129 : decode cX12_place 129 = .ok (.getfield 64, 3) := by decide +kernel
theorem dX12_place_132 : decode cX12_place 132 = .ok (.aload_n 0, 1) := by decide +kernel
theorem dX12_place_133 : decode cX12_place 133 = .ok (.getfield 70, 3) := by decide +kernel
theorem dX12_place_136 : decode cX12_place 136 = .ok (.iload 8, 2) := by decide +kernel
theorem dX12_place_138 : decode cX12_place 138 = .ok (.iaload, 1) := by decide +kernel
theorem dX12_place_139 : decode cX12_place 139 = .ok (.iaload, 1) := by decide +kernel
theorem dX12_place_140 : decode cX12_place 140 = .ok (.aload_n 0, 1) := by decide +kernel
theorem dX12_place_141 : decode cX12_place 141 = .ok (.getfield 13, 3) := by decide +kernel
theorem dX12_place_144 : decode cX12_place 144 = .ok (.iconst 1, 1) := by decide +kernel
theorem dX12_place_145 : decode cX12_place 145 = .ok (.iaload, 1) := by decide +kernel
theorem dX12_place_146 : decode cX12_place 146 = .ok (.if_icmp .gt 22, 3) := by decide +kernel
theorem dX12_place_149 : decode cX12_place 149 = .ok (.aload_n 0, 1) := by decide +kernel
theorem dX12_place_150 : decode cX12_place 150 = .ok (.iload 7, 2) := by decide +kernel
theorem dX12_place_152 : decode cX12_place 152 = .ok (.iconst 1, 1) := by decide +kernel
theorem dX12_place_153 : decode cX12_place 153 = .ok (.iadd, 1) := by decide +kernel
theorem dX12_place_154 : decode cX12_place 154 = .ok (.iload 4, 2) := by decide +kernel
theorem dX12_place_156 : decode cX12_place 156 = .ok (.iload 5, 2) := by decide +kernel
theorem dX12_place_158 : decode cX12_place 158 = .ok (.invokevirtual 423, 3) := by decide +kernel
theorem dX12_place_161 : decode cX12_place 161 = .ok (.ifCond .eq 7, 3) := by decide +kernel
theorem dX12_place_164 : decode cX12_place 164 = .ok (.iconst 1, 1) := by decide +kernel
theorem dX12_place_165 : decode cX12_place 165 = .ok (.goto 4, 3) := by decide +kernel
theorem dX12_place_168 : decode cX12_place 168 = .ok (.iconst 0, 1) := by decide +kernel
theorem dX12_place_169 : decode cX12_place 169 = .ok (.istore 9, 2) := by decide +kernel
theorem dX12_place_171 : decode cX12_place 171 = .ok (.aload_n 0, 1) := by decide +kernel
theorem dX12_place_172 : decode cX12_place 172 = .ok (.getfield 70, 3) := by decide +kernel
theorem dX12_place_175 : decode cX12_place 175 = .ok (.iload 8, 2) := by decide +kernel
theorem dX12_place_177 : decode cX12_place 177 = .ok (.dup2, 1) := by decide +kernel
theorem dX12_place_178 : decode cX12_place 178 = .ok (.iaload, 1) := by decide +kernel
theorem dX12_place_179 : decode cX12_place 179 = .ok (.iload 9, 2) := by decide +kernel
theorem dX12_place_181 : decode cX12_place 181 = .ok (.ifCond .eq 7, 3) := by decide +kernel
theorem dX12_place_184 : decode cX12_place 184 = .ok (.iconst (-1), 1) := by decide +kernel
theorem dX12_place_185 : decode cX12_place 185 = .ok (.goto 9, 3) := by decide +kernel
theorem dX12_place_188 : decode cX12_place 188 = .ok (.iconst 1, 1) := by decide +kernel
theorem dX12_place_189 : decode cX12_place 189 = .ok (.iload 7, 2) := by decide +kernel
theorem dX12_place_191 : decode cX12_place 191 = .ok (.ishl, 1) := by decide +kernel
theorem dX12_place_192 : decode cX12_place 192 = .ok (.iconst (-1), 1) := by decide +kernel
theorem dX12_place_193 : decode cX12_place 193 = .ok (.ixor, 1) := by decide +kernel
theorem dX12_place_194 : decode cX12_place 194 = .ok (.iand, 1) := by decide +kernel
theorem dX12_place_195 : decode cX12_place 195 = .ok (.iastore, 1) := by decide +kernel
theorem dX12_place_196 : decode cX12_place 196 = .ok (.iload 9, 2) := by decide +kernel
theorem dX12_place_198 : decode cX12_place 198 = .ok (.ifCond .eq 8, 3) := by decide +kernel
theorem dX12_place_201 : decode cX12_place 201 = .ok (.iload 8, 2) := by decide +kernel
theorem dX12_place_203 : decode cX12_place 203 = .ok (.goto 4, 3) := by decide +kernel
theorem dX12_place_206 : decode cX12_place 206 = .ok (.iconst (-1), 1) := by decide +kernel
theorem dX12_place_207 : decode cX12_place 207 = .ok (.istore 6, 2) := by decide +kernel
theorem dX12_place_209 : decode cX12_place 209 = .ok (.iinc 8 1, 3) := by decide +kernel
theorem dX12_place_212 : decode cX12_place 212 = .ok (.goto (-111), 3) := by decide +kernel
theorem dX12_place_215 : decode cX12_place 215 = .ok (.iinc 7 1, 3) := by decide +kernel
theorem dX12_place_218 : decode cX12_place 218 = .ok (.goto (-129), 3) := by decide +kernel
theorem dX12_place_221 : decode cX12_place 221 = .ok (.iload 6, 2) := by decide +kernel
theorem dX12_place_223 : decode cX12_place 223 = .ok (.ireturn, 1) := by decide +kernel
set_option maxHeartbeats 4000000 in
set_option maxRecDepth 100000 in
theorem s_X12_place (l : Launch) (dC : Nat → ClassId) (dI : Nat → Nat → Nat) (cI cZ cB cJ cM cG : ClassId) (a0 a1 a2 a3 a4 a5 a6 a7 a8 a9 a10 a11 a12 a13 a14 a15 a16 a17 a18 a19 a20 a21 a22 a23 a24 : Nat) (i0 i1 i2 i3 i4 i5 i6 i7 i8 i9 i10 i11 i12 i13 i14 i15 i16 : Int32) (j0 : Int64) (xF0 xF15 xF16 xF17 xF18 xF20 : Nat → Int32) (xG22 : Nat → Int64) (p0 p1 : Int32) (cp : Int) (sz : Nat) (p_0 : (0 : Int) ≤ i1.toInt ∧ i1.toInt ≤ 1600) (p_1 : (0 : Int) ≤ i2.toInt ∧ i2.toInt ≤ 1600) (p_2 : (0 : Int) ≤ i3.toInt ∧ i3.toInt ≤ 1600) (p_3 : (0 : Int) ≤ i4.toInt ∧ i4.toInt ≤ 1600) (p_4 : (0 : Int) ≤ i5.toInt ∧ i5.toInt ≤ 6) (p_5 : (0 : Int) ≤ i7.toInt ∧ i7.toInt ≤ 3) (p_6 : (0 : Int) ≤ i11.toInt ∧ i11.toInt ≤ 59) (p_7 : WI cp xF0) (p_8 : rng xF17 8 0 255) (p_9 : rng xF20 4 (-1) 60) (p_10 : MI xF20) (p_11 : 0 ≤ cp ∧ cp ≤ 2000000000) : Met l yX12_place (kw yX12_place cX12_place 10 (some .int)) ({ frames := 3, cells := 0, slots := 0, locals := 67 } : Room) (va_Pc [.ref a0, .int p0, .int p1] (kPre dC dI [(cI, .int), (cZ, .boolean), (cB, .byte), (cJ, .long), (cM, .object RX2), (cG, .array .int)] [(a0, .inr (12, [.int i0, .ref a1, .ref a2, .ref a3, .ref a4, .int i1, .ref a5, .int i2, .int i3, .int i4, .int i5, .int i6, .int i7, .int i8, .ref a6, .ref a7, .ref a8, .ref a9, .ref a10, .ref a11, .ref a12, .int i9, .ref a13, .int i10, .ref a14, .ref a15, .int i11, .ref a16, .ref a17, .ref a18, .ref a19, .int i12, .int i13, .int i14, .int i15, .int i16, .ref a20, .long j0, .ref a21, .ref a22, .ref a23, .ref a24])), (a1, .inl (cI, 544, .inl xF0)), (a16, .inl (cI, 256, .inl xF15)), (a17, .inl (cI, 256, .inl xF16)), (a18, .inl (cI, 8, .inl xF17)), (a19, .inl (cI, 8, .inl xF18)), (a21, .inl (cI, 4, .inl xF20)), (a23, .inl (cJ, 240, .inr (.inl xG22)))] sz)) (va_Qi (fun (r : Int32) (u9 : (Nat → Int32) × (Nat → Nat → Int32) × (Nat → Nat → Int64)) => ((-6 : Int) ≤ r.toInt ∧ r.toInt ≤ 10) ∧ (rng (u9.2.1 2) 8 0 255) ∧ True) (fun u9 t => va_P (dC, dI) vwCl [(a0, .inr (12, [.int i0, .ref a1, .ref a2, .ref a3, .ref a4, .int i1, .ref a5, .int i2, .int i3, .int i4, .int i5, .int i6, .int i7, .int i8, .ref a6, .ref a7, .ref a8, .ref a9, .ref a10, .ref a11, .ref a12, .int i9, .ref a13, .int i10, .ref a14, .ref a15, .int i11, .ref a16, .ref a17, .ref a18, .ref a19, .int i12, .int i13, .int i14, .int i15, .int i16, .ref a20, .long j0, .ref a21, .ref a22, .ref a23, .ref a24])), (a1, .inl (cI, 544, .inl xF0)), (a16, .inl (cI, 256, .inl (u9.2.1 0))), (a17, .inl (cI, 256, .inl (u9.2.1 1))), (a18, .inl (cI, 8, .inl (u9.2.1 2))), (a19, .inl (cI, 8, .inl (u9.2.1 3))), (a21, .inl (cI, 4, .inl xF20)), (a23, .inl (cJ, 240, .inr (.inl xG22)))] t.heap ∧ va_D (va_A [(a0, .inr (12, [.int i0, .ref a1, .ref a2, .ref a3, .ref a4, .int i1, .ref a5, .int i2, .int i3, .int i4, .int i5, .int i6, .int i7, .int i8, .ref a6, .ref a7, .ref a8, .ref a9, .ref a10, .ref a11, .ref a12, .int i9, .ref a13, .int i10, .ref a14, .ref a15, .int i11, .ref a16, .ref a17, .ref a18, .ref a19, .int i12, .int i13, .int i14, .int i15, .int i16, .ref a20, .long j0, .ref a21, .ref a22, .ref a23, .ref a24])), (a1, .inl (cI, 544, .inl xF0)), (a16, .inl (cI, 256, .inl xF15)), (a17, .inl (cI, 256, .inl xF16)), (a18, .inl (cI, 8, .inl xF17)), (a19, .inl (cI, 8, .inl xF18)), (a21, .inl (cI, 4, .inl xF20)), (a23, .inl (cJ, 240, .inr (.inl xG22)))] sz) [(a0, .inr (12, [.int i0, .ref a1, .ref a2, .ref a3, .ref a4, .int i1, .ref a5, .int i2, .int i3, .int i4, .int i5, .int i6, .int i7, .int i8, .ref a6, .ref a7, .ref a8, .ref a9, .ref a10, .ref a11, .ref a12, .int i9, .ref a13, .int i10, .ref a14, .ref a15, .int i11, .ref a16, .ref a17, .ref a18, .ref a19, .int i12, .int i13, .int i14, .int i15, .int i16, .ref a20, .long j0, .ref a21, .ref a22, .ref a23, .ref a24])), (a1, .inl (cI, 544, .inl xF0)), (a16, .inl (cI, 256, .inl (u9.2.1 0))), (a17, .inl (cI, 256, .inl (u9.2.1 1))), (a18, .inl (cI, 8, .inl (u9.2.1 2))), (a19, .inl (cI, 8, .inl (u9.2.1 3))), (a21, .inl (cI, 4, .inl xF20)), (a23, .inl (cJ, 240, .inr (.inl xG22)))]) (va_A [(a0, .inr (12, [.int i0, .ref a1, .ref a2, .ref a3, .ref a4, .int i1, .ref a5, .int i2, .int i3, .int i4, .int i5, .int i6, .int i7, .int i8, .ref a6, .ref a7, .ref a8, .ref a9, .ref a10, .ref a11, .ref a12, .int i9, .ref a13, .int i10, .ref a14, .ref a15, .int i11, .ref a16, .ref a17, .ref a18, .ref a19, .int i12, .int i13, .int i14, .int i15, .int i16, .ref a20, .long j0, .ref a21, .ref a22, .ref a23, .ref a24])), (a1, .inl (cI, 544, .inl xF0)), (a16, .inl (cI, 256, .inl xF15)), (a17, .inl (cI, 256, .inl xF16)), (a18, .inl (cI, 8, .inl xF17)), (a19, .inl (cI, 8, .inl xF18)), (a21, .inl (cI, 4, .inl xF20)), (a23, .inl (cJ, 240, .inr (.inl xG22)))] sz)) 0 0 (va_A [(a0, .inr (12, [.int i0, .ref a1, .ref a2, .ref a3, .ref a4, .int i1, .ref a5, .int i2, .int i3, .int i4, .int i5, .int i6, .int i7, .int i8, .ref a6, .ref a7, .ref a8, .ref a9, .ref a10, .ref a11, .ref a12, .int i9, .ref a13, .int i10, .ref a14, .ref a15, .int i11, .ref a16, .ref a17, .ref a18, .ref a19, .int i12, .int i13, .int i14, .int i15, .int i16, .ref a20, .long j0, .ref a21, .ref a22, .ref a23, .ref a24])), (a1, .inl (cI, 544, .inl xF0)), (a16, .inl (cI, 256, .inl xF15)), (a17, .inl (cI, 256, .inl xF16)), (a18, .inl (cI, 8, .inl xF17)), (a19, .inl (cI, 8, .inl xF18)), (a21, .inl (cI, 4, .inl xF20)), (a23, .inl (cJ, 240, .inr (.inl xG22)))] sz) := by
  refine kEnter (by decide) (Nat.le_of_ble_eq_true rfl) ?_
  intro p e s m below meth c ls hx hb hr hml hown hlocks hin hwd hsz hP hK hD hl
  subst hsz
  generalize hAe : va_A [(a0, .inr (12, [.int i0, .ref a1, .ref a2, .ref a3, .ref a4, .int i1, .ref a5, .int i2, .int i3, .int i4, .int i5, .int i6, .int i7, .int i8, .ref a6, .ref a7, .ref a8, .ref a9, .ref a10, .ref a11, .ref a12, .int i9, .ref a13, .int i10, .ref a14, .ref a15, .int i11, .ref a16, .ref a17, .ref a18, .ref a19, .int i12, .int i13, .int i14, .int i15, .int i16, .ref a20, .long j0, .ref a21, .ref a22, .ref a23, .ref a24])), (a1, .inl (cI, 544, .inl xF0)), (a16, .inl (cI, 256, .inl xF15)), (a17, .inl (cI, 256, .inl xF16)), (a18, .inl (cI, 8, .inl xF17)), (a19, .inl (cI, 8, .inl xF18)), (a21, .inl (cI, 4, .inl xF20)), (a23, .inl (cJ, 240, .inr (.inl xG22)))] s.heap.size = A at hD ⊢
  have hA : ∀ q : Nat, s.heap.size ≤ q → A q := fun q h => by rw [← hAe]; exact Or.inr h
  have hS : va_S A s.heap s.heap [] := va_S.rf
  have hl : lv_has ls 10 [(0, .ref a0), (1, .int p0), (2, .int p1)] := hl
  obtain ⟨Q, hQ⟩ : ∃ Q, Q = MQ below (va_Qi (fun (r : Int32) (u9 : (Nat → Int32) × (Nat → Nat → Int32) × (Nat → Nat → Int64)) => ((-6 : Int) ≤ r.toInt ∧ r.toInt ≤ 10) ∧ (rng (u9.2.1 2) 8 0 255) ∧ True) (fun u9 t => va_P (dC, dI) vwCl [(a0, .inr (12, [.int i0, .ref a1, .ref a2, .ref a3, .ref a4, .int i1, .ref a5, .int i2, .int i3, .int i4, .int i5, .int i6, .int i7, .int i8, .ref a6, .ref a7, .ref a8, .ref a9, .ref a10, .ref a11, .ref a12, .int i9, .ref a13, .int i10, .ref a14, .ref a15, .int i11, .ref a16, .ref a17, .ref a18, .ref a19, .int i12, .int i13, .int i14, .int i15, .int i16, .ref a20, .long j0, .ref a21, .ref a22, .ref a23, .ref a24])), (a1, .inl (cI, 544, .inl xF0)), (a16, .inl (cI, 256, .inl (u9.2.1 0))), (a17, .inl (cI, 256, .inl (u9.2.1 1))), (a18, .inl (cI, 8, .inl (u9.2.1 2))), (a19, .inl (cI, 8, .inl (u9.2.1 3))), (a21, .inl (cI, 4, .inl xF20)), (a23, .inl (cJ, 240, .inr (.inl xG22)))] t.heap ∧ va_D A [(a0, .inr (12, [.int i0, .ref a1, .ref a2, .ref a3, .ref a4, .int i1, .ref a5, .int i2, .int i3, .int i4, .int i5, .int i6, .int i7, .int i8, .ref a6, .ref a7, .ref a8, .ref a9, .ref a10, .ref a11, .ref a12, .int i9, .ref a13, .int i10, .ref a14, .ref a15, .int i11, .ref a16, .ref a17, .ref a18, .ref a19, .int i12, .int i13, .int i14, .int i15, .int i16, .ref a20, .long j0, .ref a21, .ref a22, .ref a23, .ref a24])), (a1, .inl (cI, 544, .inl xF0)), (a16, .inl (cI, 256, .inl (u9.2.1 0))), (a17, .inl (cI, 256, .inl (u9.2.1 1))), (a18, .inl (cI, 8, .inl (u9.2.1 2))), (a19, .inl (cI, 8, .inl (u9.2.1 3))), (a21, .inl (cI, 4, .inl xF20)), (a23, .inl (cJ, 240, .inr (.inl xG22)))]) A) ([.ref a0, .int p0, .int p1] : List Value).toArray s 0 0 A := ⟨_, rfl⟩
  rw [← hQ]
  have km2 : ((-2) : Int32).toInt = -2 := by decide
  have km1 : ((-1) : Int32).toInt = -1 := by decide
  have k0 : (0 : Int32).toInt = 0 := by decide
  have k1 : (1 : Int32).toInt = 1 := by decide
  have k3 : (3 : Int32).toInt = 3 := by decide
  have k8 : (8 : Int32).toInt = 8 := by decide
  refine lv_aload_n hx hb dX12_place_0 rfl (lv_at hl 0 rfl) ?_
  refine lv_iload_n hx hb dX12_place_1 rfl (lv_at hl 1 rfl) ?_
  have hPc := hP.sub (ws' := [(a0, .inr (12, [.int i0, .ref a1, .ref a2, .ref a3, .ref a4, .int i1, .ref a5, .int i2, .int i3, .int i4, .int i5, .int i6, .int i7, .int i8, .ref a6, .ref a7, .ref a8, .ref a9, .ref a10, .ref a11, .ref a12, .int i9, .ref a13, .int i10, .ref a14, .ref a15, .int i11, .ref a16, .ref a17, .ref a18, .ref a19, .int i12, .int i13, .int i14, .int i15, .int i16, .ref a20, .long j0, .ref a21, .ref a22, .ref a23, .ref a24])), (a1, .inl (cI, 544, .inl xF0)), (a21, .inl (cI, 4, .inl xF20)), (a23, .inl (cJ, 240, .inr (.inl xG22)))]) [0, 1, 6, 7] rfl
  have hDc := hD.sub (ws' := [(a0, .inr (12, [.int i0, .ref a1, .ref a2, .ref a3, .ref a4, .int i1, .ref a5, .int i2, .int i3, .int i4, .int i5, .int i6, .int i7, .int i8, .ref a6, .ref a7, .ref a8, .ref a9, .ref a10, .ref a11, .ref a12, .int i9, .ref a13, .int i10, .ref a14, .ref a15, .int i11, .ref a16, .ref a17, .ref a18, .ref a19, .int i12, .int i13, .int i14, .int i15, .int i16, .ref a20, .long j0, .ref a21, .ref a22, .ref a23, .ref a24])), (a1, .inl (cI, 544, .inl xF0)), (a21, .inl (cI, 4, .inl xF20)), (a23, .inl (cJ, 240, .inr (.inl xG22)))]) [0, 1, 6, 7] (by decide) rfl
  have hFc := va_free (wc := [(a0, .inr (12, [.int i0, .ref a1, .ref a2, .ref a3, .ref a4, .int i1, .ref a5, .int i2, .int i3, .int i4, .int i5, .int i6, .int i7, .int i8, .ref a6, .ref a7, .ref a8, .ref a9, .ref a10, .ref a11, .ref a12, .int i9, .ref a13, .int i10, .ref a14, .ref a15, .int i11, .ref a16, .ref a17, .ref a18, .ref a19, .int i12, .int i13, .int i14, .int i15, .int i16, .ref a20, .long j0, .ref a21, .ref a22, .ref a23, .ref a24])), (a1, .inl (cI, 544, .inl xF0)), (a21, .inl (cI, 4, .inl xF20)), (a23, .inl (cJ, 240, .inr (.inl xG22)))]) hD hS hA [0, 1, 6, 7] rfl
  refine va_calli (va_runV (As := [.int p0]) (rest := []) ⟨hx, hb, hml, hown, hwd⟩ (s_X12_asksMotions l dC dI cI cZ cB cJ cM cG a0 a1 a2 a3 a4 a5 a6 a7 a8 a9 a10 a11 a12 a13 a14 a15 a16 a17 a18 a19 a20 a21 a22 a23 a24 i0 i1 i2 i3 i4 i5 i6 i7 i8 i9 i10 i11 i12 i13 i14 i15 i16 j0 xF0 xF20 xG22 p0 cp s.heap.size (show (0 : Int) ≤ i1.toInt ∧ i1.toInt ≤ 1600 from p_0) (show (0 : Int) ≤ i2.toInt ∧ i2.toInt ≤ 1600 from p_1) (show (0 : Int) ≤ i3.toInt ∧ i3.toInt ≤ 1600 from p_2) (show (0 : Int) ≤ i4.toInt ∧ i4.toInt ≤ 1600 from p_3) (show (0 : Int) ≤ i5.toInt ∧ i5.toInt ≤ 6 from p_4) (show (0 : Int) ≤ i7.toInt ∧ i7.toInt ≤ 3 from p_5) (show (0 : Int) ≤ i11.toInt ∧ i11.toInt ≤ 59 from p_6) (show WI cp xF0 from p_7) (show rng xF20 4 (-1) 60 from p_9) (show MI xF20 from trivial) p_11) (cwV 1 hwd (gV kr64_21 kr64_22 kr5_0 kr5_23 kr64_23) rfl rfl rfl (by decide +kernel) ⟨Nat.le_of_ble_eq_true rfl, Nat.le_of_ble_eq_true rfl⟩) (kPreV hPc hK hDc (ci := 12) (q0 := 0) rfl rfl) rfl rfl hl.1 rfl (lv_room (Nat.le_of_ble_eq_true rfl)) dX12_place_2 ⟨Nat.le_of_ble_eq_true rfl, Nat.le_of_ble_eq_true rfl⟩) hS (fun q _ h => hFc q h) hFc (fun r1 u2 t H1 locs ht9 hvm hw hB hz1 hk1 hS => ?_)
  obtain ⟨hw3, hw4, -⟩ := hw
  replace hw3 : (-6 : Int) ≤ r1.toInt ∧ r1.toInt ≤ 0 := hw3
  obtain ⟨hP1, hD1⟩ := hB
  rw [ht9] at hP1
  obtain ⟨hP, hD⟩ := va_join (wr := [(a16, .inl (cI, 256, .inl xF15)), (a17, .inl (cI, 256, .inl xF16)), (a18, .inl (cI, 8, .inl xF17)), (a19, .inl (cI, 8, .inl xF18))]) (w1 := [(a0, .inr (12, [.int i0, .ref a1, .ref a2, .ref a3, .ref a4, .int i1, .ref a5, .int i2, .int i3, .int i4, .int i5, .int i6, .int i7, .int i8, .ref a6, .ref a7, .ref a8, .ref a9, .ref a10, .ref a11, .ref a12, .int i9, .ref a13, .int i10, .ref a14, .ref a15, .int i11, .ref a16, .ref a17, .ref a18, .ref a19, .int i12, .int i13, .int i14, .int i15, .int i16, .ref a20, .long j0, .ref a21, .ref a22, .ref a23, .ref a24])), (a1, .inl (cI, 544, .inl xF0)), (a21, .inl (cI, 4, .inl xF20)), (a23, .inl (cJ, 240, .inr (.inl xG22)))]) hP hD [0, 1, 6, 7] [2, 3, 4, 5] rfl rfl (by decide) (by decide) hk1 hFc hP1 hD1
  generalize H1 = H at hP hS ⊢
  replace hP : va_P (dC, dI) vwCl [(a16, .inl (cI, 256, .inl xF15)), (a17, .inl (cI, 256, .inl xF16)), (a18, .inl (cI, 8, .inl xF17)), (a19, .inl (cI, 8, .inl xF18)), (a0, .inr (12, [.int i0, .ref a1, .ref a2, .ref a3, .ref a4, .int i1, .ref a5, .int i2, .int i3, .int i4, .int i5, .int i6, .int i7, .int i8, .ref a6, .ref a7, .ref a8, .ref a9, .ref a10, .ref a11, .ref a12, .int i9, .ref a13, .int i10, .ref a14, .ref a15, .int i11, .ref a16, .ref a17, .ref a18, .ref a19, .int i12, .int i13, .int i14, .int i15, .int i16, .ref a20, .long j0, .ref a21, .ref a22, .ref a23, .ref a24])), (a1, .inl (cI, 544, .inl xF0)), (a21, .inl (cI, 4, .inl xF20)), (a23, .inl (cJ, 240, .inr (.inl xG22)))] H := hP
  replace hD : va_D A [(a16, .inl (cI, 256, .inl xF15)), (a17, .inl (cI, 256, .inl xF16)), (a18, .inl (cI, 8, .inl xF17)), (a19, .inl (cI, 8, .inl xF18)), (a0, .inr (12, [.int i0, .ref a1, .ref a2, .ref a3, .ref a4, .int i1, .ref a5, .int i2, .int i3, .int i4, .int i5, .int i6, .int i7, .int i8, .ref a6, .ref a7, .ref a8, .ref a9, .ref a10, .ref a11, .ref a12, .int i9, .ref a13, .int i10, .ref a14, .ref a15, .int i11, .ref a16, .ref a17, .ref a18, .ref a19, .int i12, .int i13, .int i14, .int i15, .int i16, .ref a20, .long j0, .ref a21, .ref a22, .ref a23, .ref a24])), (a1, .inl (cI, 544, .inl xF0)), (a21, .inl (cI, 4, .inl xF20)), (a23, .inl (cJ, 240, .inr (.inl xG22)))] := hD
  refine lv_istore_n (lv' := [(3, .int r1), (0, .ref a0), (1, .int p0), (2, .int p1)]) hx hb dX12_place_5 rfl hl (by decide) rfl (fun ls hl => ?_)
  refine lv_iload_n hx hb dX12_place_6 rfl (lv_at hl 0 rfl) ?_
  refine lv_if_ge (tgt := 12) hx hb dX12_place_7 (by decide) (fun c5 => ?_) (fun c5 => ?_)
  · rw [ki_le] at c5
    have hw4q := hw4 (by omega)
    clear hw4
    refine lv_iload_n hx hb dX12_place_12 rfl (lv_at hl 3 rfl) ?_
    refine lv_i2l hx hb dX12_place_13 rfl ?_
    refine lv_lconst (v := 0) hx hb dX12_place_14 (by decide) ?_
    refine lv_aload_n hx hb dX12_place_15 rfl (lv_at hl 1 rfl) ?_
    refine va_get (D := (dC, dI)) (ci := 12) (v := .ref a21) (C := RX12) (T := TX12) (N := 42) hx hb hwd inlX12 hown hK hP 4 rfl rfl 38 (by decide) (hwd _ kr50_15) (fun _ h9 => h9) rfl dX12_place_16 ?_
    refine lv_iload_n hx hb dX12_place_19 rfl (lv_at hl 2 rfl) ?_
    have h6 : vp_in p0 4 := (vp_of (by omega) (by omega))
    refine va_iald hx hb hK hP 6 0 rfl rfl h6 dX12_place_20 ?_
    refine lv_topi (fun x7 ex7 => ?_)
    have ix7 : x7.toInt = (xF20 p0.toInt.toNat).toInt := by rw [ex7]; rfl
    have tx7 : (-1 : Int) ≤ x7.toInt ∧ x7.toInt ≤ 60 := by rw [ex7]; exact p_9 _ (vp_nat h6)
    refine lv_iconst (v := 1) hx hb dX12_place_21 (by decide) ?_
    refine lv_isub hx hb dX12_place_22 ?_
    refine lv_topi (fun x8 ex8 => ?_)
    have tx8 := ia_sub (a := x7) (b := (1 : Int32)) (by omega) (by omega)
    rw [← ex8] at tx8
    refine lv_i2l hx hb dX12_place_23 rfl ?_
    have hPc := hP.sub (ws' := []) [] rfl
    have hDc := hD.sub (ws' := []) [] (by decide) rfl
    have hFc := va_free (wc := []) hD hS hA [] rfl
    refine va_calli (va_runS (As := [.long p1.toInt64, .long 0, .long x8.toInt64]) (rest := []) ⟨hx, hb, hml, hown, hwd⟩ (s_X12_in l dC dI cI cZ cB cJ cM cG p1.toInt64 0 x8.toInt64 H.size) (cwS 3 hwd (gS kr51_0 kr51_1 kr5_23 kr51_2) rfl rfl rfl (by decide +kernel) ⟨Nat.le_of_ble_eq_true rfl, Nat.le_of_ble_eq_true rfl⟩) (kPreS hPc hK hDc) rfl rfl hl.1 rfl (lv_room (Nat.le_of_ble_eq_true rfl)) dX12_place_24 ⟨Nat.le_of_ble_eq_true rfl, Nat.le_of_ble_eq_true rfl⟩) hS (fun q _ h => hFc q h) hFc (fun r9 u10 t H1 locs ht9 hvm hw hB hz1 hk1 hS => ?_)
    obtain ⟨hw11, hw12, hw13, -⟩ := hw
    replace hw11 : (0 : Int) ≤ r9.toInt ∧ r9.toInt ≤ 1 := hw11
    have hw12 : r9.toInt ≠ 0 → (0 : Int) ≤ p1.toInt ∧ p1.toInt ≤ x8.toInt := in_int (Int32.toInt_toInt64 _) (by decide) (Int32.toInt_toInt64 _) hw12
    have hw13 : r9.toInt ≠ 1 → p1.toInt < (0 : Int) ∨ x8.toInt < p1.toInt := in_int2 (Int32.toInt_toInt64 _) (by decide) (Int32.toInt_toInt64 _) hw13
    obtain ⟨hP1, hD1⟩ := hB
    rw [ht9] at hP1
    obtain ⟨hP, hD⟩ := va_join (wr := [(a16, .inl (cI, 256, .inl xF15)), (a17, .inl (cI, 256, .inl xF16)), (a18, .inl (cI, 8, .inl xF17)), (a19, .inl (cI, 8, .inl xF18)), (a0, .inr (12, [.int i0, .ref a1, .ref a2, .ref a3, .ref a4, .int i1, .ref a5, .int i2, .int i3, .int i4, .int i5, .int i6, .int i7, .int i8, .ref a6, .ref a7, .ref a8, .ref a9, .ref a10, .ref a11, .ref a12, .int i9, .ref a13, .int i10, .ref a14, .ref a15, .int i11, .ref a16, .ref a17, .ref a18, .ref a19, .int i12, .int i13, .int i14, .int i15, .int i16, .ref a20, .long j0, .ref a21, .ref a22, .ref a23, .ref a24])), (a1, .inl (cI, 544, .inl xF0)), (a21, .inl (cI, 4, .inl xF20)), (a23, .inl (cJ, 240, .inr (.inl xG22)))]) (w1 := []) hP hD [] [0, 1, 2, 3, 4, 5, 6, 7] rfl rfl (by decide) (by decide) hk1 hFc hP1 hD1
    generalize H1 = H at hP hS ⊢
    replace hP : va_P (dC, dI) vwCl [(a16, .inl (cI, 256, .inl xF15)), (a17, .inl (cI, 256, .inl xF16)), (a18, .inl (cI, 8, .inl xF17)), (a19, .inl (cI, 8, .inl xF18)), (a0, .inr (12, [.int i0, .ref a1, .ref a2, .ref a3, .ref a4, .int i1, .ref a5, .int i2, .int i3, .int i4, .int i5, .int i6, .int i7, .int i8, .ref a6, .ref a7, .ref a8, .ref a9, .ref a10, .ref a11, .ref a12, .int i9, .ref a13, .int i10, .ref a14, .ref a15, .int i11, .ref a16, .ref a17, .ref a18, .ref a19, .int i12, .int i13, .int i14, .int i15, .int i16, .ref a20, .long j0, .ref a21, .ref a22, .ref a23, .ref a24])), (a1, .inl (cI, 544, .inl xF0)), (a21, .inl (cI, 4, .inl xF20)), (a23, .inl (cJ, 240, .inr (.inl xG22)))] H := hP
    replace hD : va_D A [(a16, .inl (cI, 256, .inl xF15)), (a17, .inl (cI, 256, .inl xF16)), (a18, .inl (cI, 8, .inl xF17)), (a19, .inl (cI, 8, .inl xF18)), (a0, .inr (12, [.int i0, .ref a1, .ref a2, .ref a3, .ref a4, .int i1, .ref a5, .int i2, .int i3, .int i4, .int i5, .int i6, .int i7, .int i8, .ref a6, .ref a7, .ref a8, .ref a9, .ref a10, .ref a11, .ref a12, .int i9, .ref a13, .int i10, .ref a14, .ref a15, .int i11, .ref a16, .ref a17, .ref a18, .ref a19, .int i12, .int i13, .int i14, .int i15, .int i16, .ref a20, .long j0, .ref a21, .ref a22, .ref a23, .ref a24])), (a1, .inl (cI, 544, .inl xF0)), (a21, .inl (cI, 4, .inl xF20)), (a23, .inl (cJ, 240, .inr (.inl xG22)))] := hD
    refine lv_if_ne (tgt := 33) hx hb dX12_place_27 (by decide) (fun c14 => ?_) (fun c14 => ?_)
    · rw [ki_eq] at c14
      have hw12q := hw12 (by omega)
      clear hw12
      refine lv_aload_n hx hb dX12_place_33 rfl (lv_at hl 1 rfl) ?_
      refine lv_iload_n hx hb dX12_place_34 rfl (lv_at hl 2 rfl) ?_
      have hPc := hP.sub (ws' := [(a0, .inr (12, [.int i0, .ref a1, .ref a2, .ref a3, .ref a4, .int i1, .ref a5, .int i2, .int i3, .int i4, .int i5, .int i6, .int i7, .int i8, .ref a6, .ref a7, .ref a8, .ref a9, .ref a10, .ref a11, .ref a12, .int i9, .ref a13, .int i10, .ref a14, .ref a15, .int i11, .ref a16, .ref a17, .ref a18, .ref a19, .int i12, .int i13, .int i14, .int i15, .int i16, .ref a20, .long j0, .ref a21, .ref a22, .ref a23, .ref a24])), (a1, .inl (cI, 544, .inl xF0)), (a16, .inl (cI, 256, .inl xF15)), (a17, .inl (cI, 256, .inl xF16)), (a21, .inl (cI, 4, .inl xF20)), (a23, .inl (cJ, 240, .inr (.inl xG22)))]) [4, 5, 0, 1, 6, 7] rfl
      have hDc := hD.sub (ws' := [(a0, .inr (12, [.int i0, .ref a1, .ref a2, .ref a3, .ref a4, .int i1, .ref a5, .int i2, .int i3, .int i4, .int i5, .int i6, .int i7, .int i8, .ref a6, .ref a7, .ref a8, .ref a9, .ref a10, .ref a11, .ref a12, .int i9, .ref a13, .int i10, .ref a14, .ref a15, .int i11, .ref a16, .ref a17, .ref a18, .ref a19, .int i12, .int i13, .int i14, .int i15, .int i16, .ref a20, .long j0, .ref a21, .ref a22, .ref a23, .ref a24])), (a1, .inl (cI, 544, .inl xF0)), (a16, .inl (cI, 256, .inl xF15)), (a17, .inl (cI, 256, .inl xF16)), (a21, .inl (cI, 4, .inl xF20)), (a23, .inl (cJ, 240, .inr (.inl xG22)))]) [4, 5, 0, 1, 6, 7] (by decide) rfl
      have hFc := va_free (wc := [(a0, .inr (12, [.int i0, .ref a1, .ref a2, .ref a3, .ref a4, .int i1, .ref a5, .int i2, .int i3, .int i4, .int i5, .int i6, .int i7, .int i8, .ref a6, .ref a7, .ref a8, .ref a9, .ref a10, .ref a11, .ref a12, .int i9, .ref a13, .int i10, .ref a14, .ref a15, .int i11, .ref a16, .ref a17, .ref a18, .ref a19, .int i12, .int i13, .int i14, .int i15, .int i16, .ref a20, .long j0, .ref a21, .ref a22, .ref a23, .ref a24])), (a1, .inl (cI, 544, .inl xF0)), (a16, .inl (cI, 256, .inl xF15)), (a17, .inl (cI, 256, .inl xF16)), (a21, .inl (cI, 4, .inl xF20)), (a23, .inl (cJ, 240, .inr (.inl xG22)))]) hD hS hA [4, 5, 0, 1, 6, 7] rfl
      refine va_callv (va_runV (As := [.int p0]) (rest := []) ⟨hx, hb, hml, hown, hwd⟩ (s_X12_fillFew l dC dI cI cZ cB cJ cM cG a0 a1 a2 a3 a4 a5 a6 a7 a8 a9 a10 a11 a12 a13 a14 a15 a16 a17 a18 a19 a20 a21 a22 a23 a24 i0 i1 i2 i3 i4 i5 i6 i7 i8 i9 i10 i11 i12 i13 i14 i15 i16 j0 xF0 xF15 xF16 xF20 xG22 p0 cp H.size (show (0 : Int) ≤ i1.toInt ∧ i1.toInt ≤ 1600 from p_0) (show (0 : Int) ≤ i2.toInt ∧ i2.toInt ≤ 1600 from p_1) (show (0 : Int) ≤ i3.toInt ∧ i3.toInt ≤ 1600 from p_2) (show (0 : Int) ≤ i4.toInt ∧ i4.toInt ≤ 1600 from p_3) (show (0 : Int) ≤ i5.toInt ∧ i5.toInt ≤ 6 from p_4) (show (0 : Int) ≤ i7.toInt ∧ i7.toInt ≤ 3 from p_5) (show (0 : Int) ≤ i11.toInt ∧ i11.toInt ≤ 59 from p_6) (show WI cp xF0 from p_7) (show rng xF20 4 (-1) 60 from p_9) (show MI xF20 from trivial) (by omega) hw4q.2.2.2.2.2 (show (0 : Int) ≤ p0.toInt ∧ p0.toInt ≤ 3 from ⟨by omega, by omega⟩) p_11) (cwV 1 hwd (gV kr65_4 kr65_5 kr5_1 kr5_23 kr65_6) rfl rfl rfl (by decide +kernel) ⟨Nat.le_of_ble_eq_true rfl, Nat.le_of_ble_eq_true rfl⟩) (kPreV hPc hK hDc (ci := 12) (q0 := 0) rfl rfl) rfl rfl hl.1 rfl (lv_room (Nat.le_of_ble_eq_true rfl)) dX12_place_35 ⟨Nat.le_of_ble_eq_true rfl, Nat.le_of_ble_eq_true rfl⟩) hS (fun q _ h => hFc q h) hFc (fun u16 t H1 locs ht9 hvm hw hB hz1 hk1 hS => ?_)
      obtain ⟨u17, U17, V17⟩ := u16
      obtain ⟨hw18, -⟩ := hw
      replace hw18 : FEW (U17 1) (xF20 p0.toNatClampNeg) := hw18
      obtain ⟨hP1, hD1⟩ := hB
      rw [ht9] at hP1
      obtain ⟨hP, hD⟩ := va_join (wr := [(a18, .inl (cI, 8, .inl xF17)), (a19, .inl (cI, 8, .inl xF18))]) (w1 := [(a0, .inr (12, [.int i0, .ref a1, .ref a2, .ref a3, .ref a4, .int i1, .ref a5, .int i2, .int i3, .int i4, .int i5, .int i6, .int i7, .int i8, .ref a6, .ref a7, .ref a8, .ref a9, .ref a10, .ref a11, .ref a12, .int i9, .ref a13, .int i10, .ref a14, .ref a15, .int i11, .ref a16, .ref a17, .ref a18, .ref a19, .int i12, .int i13, .int i14, .int i15, .int i16, .ref a20, .long j0, .ref a21, .ref a22, .ref a23, .ref a24])), (a1, .inl (cI, 544, .inl xF0)), (a16, .inl (cI, 256, .inl (U17 0))), (a17, .inl (cI, 256, .inl (U17 1))), (a21, .inl (cI, 4, .inl xF20)), (a23, .inl (cJ, 240, .inr (.inl xG22)))]) hP hD [4, 5, 0, 1, 6, 7] [2, 3] rfl rfl (by decide) (by decide) hk1 hFc hP1 hD1
      generalize H1 = H at hP hS ⊢
      replace hP : va_P (dC, dI) vwCl [(a18, .inl (cI, 8, .inl xF17)), (a19, .inl (cI, 8, .inl xF18)), (a0, .inr (12, [.int i0, .ref a1, .ref a2, .ref a3, .ref a4, .int i1, .ref a5, .int i2, .int i3, .int i4, .int i5, .int i6, .int i7, .int i8, .ref a6, .ref a7, .ref a8, .ref a9, .ref a10, .ref a11, .ref a12, .int i9, .ref a13, .int i10, .ref a14, .ref a15, .int i11, .ref a16, .ref a17, .ref a18, .ref a19, .int i12, .int i13, .int i14, .int i15, .int i16, .ref a20, .long j0, .ref a21, .ref a22, .ref a23, .ref a24])), (a1, .inl (cI, 544, .inl xF0)), (a16, .inl (cI, 256, .inl (U17 0))), (a17, .inl (cI, 256, .inl (U17 1))), (a21, .inl (cI, 4, .inl xF20)), (a23, .inl (cJ, 240, .inr (.inl xG22)))] H := hP
      replace hD : va_D A [(a18, .inl (cI, 8, .inl xF17)), (a19, .inl (cI, 8, .inl xF18)), (a0, .inr (12, [.int i0, .ref a1, .ref a2, .ref a3, .ref a4, .int i1, .ref a5, .int i2, .int i3, .int i4, .int i5, .int i6, .int i7, .int i8, .ref a6, .ref a7, .ref a8, .ref a9, .ref a10, .ref a11, .ref a12, .int i9, .ref a13, .int i10, .ref a14, .ref a15, .int i11, .ref a16, .ref a17, .ref a18, .ref a19, .int i12, .int i13, .int i14, .int i15, .int i16, .ref a20, .long j0, .ref a21, .ref a22, .ref a23, .ref a24])), (a1, .inl (cI, 544, .inl xF0)), (a16, .inl (cI, 256, .inl (U17 0))), (a17, .inl (cI, 256, .inl (U17 1))), (a21, .inl (cI, 4, .inl xF20)), (a23, .inl (cJ, 240, .inr (.inl xG22)))] := hD
      refine lv_iconst (v := 1) hx hb dX12_place_38 (by decide) ?_
      refine lv_aload_n hx hb dX12_place_39 rfl (lv_at hl 1 rfl) ?_
      refine va_get (D := (dC, dI)) (ci := 12) (v := .ref a21) (C := RX12) (T := TX12) (N := 42) hx hb hwd inlX12 hown hK hP 2 rfl rfl 38 (by decide) (hwd _ kr50_15) (fun _ h9 => h9) rfl dX12_place_40 ?_
      refine lv_iload_n hx hb dX12_place_43 rfl (lv_at hl 2 rfl) ?_
      have h19 : vp_in p0 4 := (vp_of (by omega) (by omega))
      refine va_iald hx hb hK hP 6 0 rfl rfl h19 dX12_place_44 ?_
      refine lv_topi (fun x20 ex20 => ?_)
      have ix20 : x20.toInt = (xF20 p0.toInt.toNat).toInt := by rw [ex20]; rfl
      have tx20 : (-1 : Int) ≤ x20.toInt ∧ x20.toInt ≤ 60 := by rw [ex20]; exact p_9 _ (vp_nat h19)
      refine lv_ishl hx hb dX12_place_45 ?_
      refine lv_topi (fun x21 ex21 => ?_)
      have tx21 := is_8 (b := x20) (by omega) (by omega)
      rw [← ex21] at tx21
      refine lv_iconst (v := 1) hx hb dX12_place_46 (by decide) ?_
      refine lv_isub hx hb dX12_place_47 ?_
      refine lv_topi (fun x22 ex22 => ?_)
      have tx22 := ia_sub (a := x21) (b := (1 : Int32)) (by omega) (by omega)
      rw [← ex22] at tx22
      refine lv_istore (lv' := [(4, .int x22), (3, .int r1), (0, .ref a0), (1, .int p0), (2, .int p1)]) hx hb dX12_place_48 hl (by decide) rfl (fun ls hl => ?_)
      refine lv_aload_n hx hb dX12_place_50 rfl (lv_at hl 2 rfl) ?_
      refine va_get (D := (dC, dI)) (ci := 12) (v := .ref a17) (C := RX12) (T := TX12) (N := 42) hx hb hwd inlX12 hown hK hP 2 rfl rfl 28 (by decide) (hwd _ kr50_5) (fun _ h9 => h9) rfl dX12_place_51 ?_
      refine lv_iload hx hb dX12_place_54 (lv_at hl 0 rfl) ?_
      have h23 : vp_in x22 256 := (vp_of (by omega) (by omega))
      refine va_iald hx hb hK hP 5 0 rfl rfl h23 dX12_place_56 ?_
      refine lv_topi (fun x24 ex24 => ?_)
      have qx24 := FEW_get (b := x20) (by rw [ex20]; exact hw18) (by omega) (by omega) ex21 (by omega) ex24
      refine lv_istore (lv' := [(5, .int x24), (4, .int x22), (3, .int r1), (0, .ref a0), (1, .int p0), (2, .int p1)]) hx hb dX12_place_57 hl (by decide) rfl (fun ls hl => ?_)
      refine lv_iconst (v := 0) hx hb dX12_place_59 (by decide) ?_
      refine lv_istore (lv' := [(6, .int 0), (5, .int x24), (4, .int x22), (3, .int r1), (0, .ref a0), (1, .int p0), (2, .int p1)]) hx hb dX12_place_60 hl (by decide) rfl (fun ls hl => ?_)
      have lp1 : ∀ (d : Nat), ∀ (H : Heap) (locs : List Loc) (ls : Array Slot) (w6_1 : Int32) (g1_1 : Nat → Int32), ((0 : Int) ≤ w6_1.toInt ∧ w6_1.toInt ≤ 8) → (rng g1_1 8 0 255) → (8 - w6_1.toInt).toNat < d → va_P (dC, dI) vwCl [(a18, .inl (cI, 8, .inl g1_1)), (a19, .inl (cI, 8, .inl xF18)), (a0, .inr (12, [.int i0, .ref a1, .ref a2, .ref a3, .ref a4, .int i1, .ref a5, .int i2, .int i3, .int i4, .int i5, .int i6, .int i7, .int i8, .ref a6, .ref a7, .ref a8, .ref a9, .ref a10, .ref a11, .ref a12, .int i9, .ref a13, .int i10, .ref a14, .ref a15, .int i11, .ref a16, .ref a17, .ref a18, .ref a19, .int i12, .int i13, .int i14, .int i15, .int i16, .ref a20, .long j0, .ref a21, .ref a22, .ref a23, .ref a24])), (a1, .inl (cI, 544, .inl xF0)), (a16, .inl (cI, 256, .inl (U17 0))), (a17, .inl (cI, 256, .inl (U17 1))), (a21, .inl (cI, 4, .inl xF20)), (a23, .inl (cJ, 240, .inr (.inl xG22)))] H → va_D A [(a18, .inl (cI, 8, .inl g1_1)), (a19, .inl (cI, 8, .inl xF18)), (a0, .inr (12, [.int i0, .ref a1, .ref a2, .ref a3, .ref a4, .int i1, .ref a5, .int i2, .int i3, .int i4, .int i5, .int i6, .int i7, .int i8, .ref a6, .ref a7, .ref a8, .ref a9, .ref a10, .ref a11, .ref a12, .int i9, .ref a13, .int i10, .ref a14, .ref a15, .int i11, .ref a16, .ref a17, .ref a18, .ref a19, .int i12, .int i13, .int i14, .int i15, .int i16, .ref a20, .long j0, .ref a21, .ref a22, .ref a23, .ref a24])), (a1, .inl (cI, 544, .inl xF0)), (a16, .inl (cI, 256, .inl (U17 0))), (a17, .inl (cI, 256, .inl (U17 1))), (a21, .inl (cI, 4, .inl xF20)), (a23, .inl (cJ, 240, .inr (.inl xG22)))] → va_S A s.heap H locs → lv_has ls 10 [(0, .ref a0), (1, .int p0), (2, .int p1), (3, .int r1), (4, .int x22), (5, .int x24), (6, .int w6_1)] → W p l e ({ frames := 3, cells := 0, slots := 0, locals := 67 } : Room) s m ([.ref a0, .int p0, .int p1] : List Value).toArray below meth c H locs 0 0 Q (F0 m 62 ls []) := by
        intro d
        induction d with
        | zero =>
          intro H locs ls w6_1 g1_1 hr_w6_1 hr_g1_1 hm hP hD hS hl
          omega
        | succ d ih1 =>
          intro H locs ls w6_1 g1_1 hr_w6_1 hr_g1_1 hm hP hD hS hl
          refine lv_iload hx hb dX12_place_62 (lv_at hl 6 rfl) ?_
          refine lv_bipush (v := 8) hx hb dX12_place_64 (by decide) ?_
          refine lv_icmp_ge (tgt := 83) hx hb dX12_place_66 (by decide) (fun c39 => ?_) (fun c39 => ?_)
          · rw [ki_le] at c39
            refine lv_iconst (v := (-1)) hx hb dX12_place_83 (by decide) ?_
            refine lv_istore (lv' := [(6, .int (-1)), (0, .ref a0), (1, .int p0), (2, .int p1), (3, .int r1), (4, .int x22), (5, .int x24)]) hx hb dX12_place_84 hl (by decide) rfl (fun ls hl => ?_)
            refine lv_iconst (v := 0) hx hb dX12_place_86 (by decide) ?_
            refine lv_istore (lv' := [(7, .int 0), (6, .int (-1)), (0, .ref a0), (1, .int p0), (2, .int p1), (3, .int r1), (4, .int x22), (5, .int x24)]) hx hb dX12_place_87 hl (by decide) rfl (fun ls hl => ?_)
            have lp2 : ∀ (d : Nat), ∀ (H : Heap) (locs : List Loc) (ls : Array Slot) (w6_2 : Int32) (w7_2 : Int32) (g2_2 : Nat → Int32) (g3_2 : Nat → Int32), ((-1 : Int) ≤ w6_2.toInt ∧ w6_2.toInt ≤ 10) → ((0 : Int) ≤ w7_2.toInt ∧ w7_2.toInt ≤ 8) → (rng g2_2 8 0 255) → (8 - w7_2.toInt).toNat < d → va_P (dC, dI) vwCl [(a18, .inl (cI, 8, .inl g2_2)), (a19, .inl (cI, 8, .inl g3_2)), (a0, .inr (12, [.int i0, .ref a1, .ref a2, .ref a3, .ref a4, .int i1, .ref a5, .int i2, .int i3, .int i4, .int i5, .int i6, .int i7, .int i8, .ref a6, .ref a7, .ref a8, .ref a9, .ref a10, .ref a11, .ref a12, .int i9, .ref a13, .int i10, .ref a14, .ref a15, .int i11, .ref a16, .ref a17, .ref a18, .ref a19, .int i12, .int i13, .int i14, .int i15, .int i16, .ref a20, .long j0, .ref a21, .ref a22, .ref a23, .ref a24])), (a1, .inl (cI, 544, .inl xF0)), (a16, .inl (cI, 256, .inl (U17 0))), (a17, .inl (cI, 256, .inl (U17 1))), (a21, .inl (cI, 4, .inl xF20)), (a23, .inl (cJ, 240, .inr (.inl xG22)))] H → va_D A [(a18, .inl (cI, 8, .inl g2_2)), (a19, .inl (cI, 8, .inl g3_2)), (a0, .inr (12, [.int i0, .ref a1, .ref a2, .ref a3, .ref a4, .int i1, .ref a5, .int i2, .int i3, .int i4, .int i5, .int i6, .int i7, .int i8, .ref a6, .ref a7, .ref a8, .ref a9, .ref a10, .ref a11, .ref a12, .int i9, .ref a13, .int i10, .ref a14, .ref a15, .int i11, .ref a16, .ref a17, .ref a18, .ref a19, .int i12, .int i13, .int i14, .int i15, .int i16, .ref a20, .long j0, .ref a21, .ref a22, .ref a23, .ref a24])), (a1, .inl (cI, 544, .inl xF0)), (a16, .inl (cI, 256, .inl (U17 0))), (a17, .inl (cI, 256, .inl (U17 1))), (a21, .inl (cI, 4, .inl xF20)), (a23, .inl (cJ, 240, .inr (.inl xG22)))] → va_S A s.heap H locs → lv_has ls 10 [(0, .ref a0), (1, .int p0), (2, .int p1), (3, .int r1), (4, .int x22), (5, .int x24), (6, .int w6_2), (7, .int w7_2)] → W p l e ({ frames := 3, cells := 0, slots := 0, locals := 67 } : Room) s m ([.ref a0, .int p0, .int p1] : List Value).toArray below meth c H locs 0 0 Q (F0 m 89 ls []) := by
              intro d
              induction d with
              | zero =>
                intro H locs ls w6_2 w7_2 g2_2 g3_2 hr_w6_2 hr_w7_2 hr_g2_2 hm hP hD hS hl
                omega
              | succ d ih2 =>
                intro H locs ls w6_2 w7_2 g2_2 g3_2 hr_w6_2 hr_w7_2 hr_g2_2 hm hP hD hS hl
                refine lv_iload hx hb dX12_place_89 (lv_at hl 7 rfl) ?_
                refine lv_iload_n hx hb dX12_place_91 rfl (lv_at hl 2 rfl) ?_
                refine lv_icmp_gt (tgt := 221) hx hb dX12_place_92 (by decide) (fun c1105 => ?_) (fun c1105 => ?_)
                · rw [ki_lt] at c1105
                  refine lv_iload hx hb dX12_place_221 (lv_at hl 6 rfl) ?_
                  have hP9 := hP.sub (ws' := [(a0, .inr (12, [.int i0, .ref a1, .ref a2, .ref a3, .ref a4, .int i1, .ref a5, .int i2, .int i3, .int i4, .int i5, .int i6, .int i7, .int i8, .ref a6, .ref a7, .ref a8, .ref a9, .ref a10, .ref a11, .ref a12, .int i9, .ref a13, .int i10, .ref a14, .ref a15, .int i11, .ref a16, .ref a17, .ref a18, .ref a19, .int i12, .int i13, .int i14, .int i15, .int i16, .ref a20, .long j0, .ref a21, .ref a22, .ref a23, .ref a24])), (a1, .inl (cI, 544, .inl xF0)), (a16, .inl (cI, 256, .inl (U17 0))), (a17, .inl (cI, 256, .inl (U17 1))), (a18, .inl (cI, 8, .inl g2_2)), (a19, .inl (cI, 8, .inl g3_2)), (a21, .inl (cI, 4, .inl xF20)), (a23, .inl (cJ, 240, .inr (.inl xG22)))]) [2, 3, 4, 5, 0, 1, 6, 7] rfl
                  have hD9 := hD.sub (ws' := [(a0, .inr (12, [.int i0, .ref a1, .ref a2, .ref a3, .ref a4, .int i1, .ref a5, .int i2, .int i3, .int i4, .int i5, .int i6, .int i7, .int i8, .ref a6, .ref a7, .ref a8, .ref a9, .ref a10, .ref a11, .ref a12, .int i9, .ref a13, .int i10, .ref a14, .ref a15, .int i11, .ref a16, .ref a17, .ref a18, .ref a19, .int i12, .int i13, .int i14, .int i15, .int i16, .ref a20, .long j0, .ref a21, .ref a22, .ref a23, .ref a24])), (a1, .inl (cI, 544, .inl xF0)), (a16, .inl (cI, 256, .inl (U17 0))), (a17, .inl (cI, 256, .inl (U17 1))), (a18, .inl (cI, 8, .inl g2_2)), (a19, .inl (cI, 8, .inl g3_2)), (a21, .inl (cI, 4, .inl xF20)), (a23, .inl (cJ, 240, .inr (.inl xG22)))]) [2, 3, 4, 5, 0, 1, 6, 7] (by decide) rfl
                  rw [hQ]
                  exact W.iret (v := w6_2) hx hb hr (fun t ht hW => ⟨⟨w6_2, (pickG 0 [], pickG (fun _ => 0) [(U17 0), (U17 1), g2_2, g3_2], pickG (fun _ => 0) []), rfl, ⟨(show (-6 : Int) ≤ w6_2.toInt ∧ w6_2.toInt ≤ 10 from ⟨by omega, by omega⟩), (show rng g2_2 8 0 255 from hr_g2_2), trivial⟩, (by rw [ht]; exact hP9), hD9⟩, hS.F ht⟩) hS.2.2 dX12_place_223
                · rw [ki_lt] at c1105
                  refine lv_iconst (v := (-1)) hx hb dX12_place_95 (by decide) ?_
                  refine lv_istore (lv' := [(6, .int (-1)), (0, .ref a0), (1, .int p0), (2, .int p1), (3, .int r1), (4, .int x22), (5, .int x24), (7, .int w7_2)]) hx hb dX12_place_96 hl (by decide) rfl (fun ls hl => ?_)
                  refine lv_iconst (v := 0) hx hb dX12_place_98 (by decide) ?_
                  refine lv_istore (lv' := [(8, .int 0), (6, .int (-1)), (0, .ref a0), (1, .int p0), (2, .int p1), (3, .int r1), (4, .int x22), (5, .int x24), (7, .int w7_2)]) hx hb dX12_place_99 hl (by decide) rfl (fun ls hl => ?_)
                  have lp78 : ∀ (d : Nat), ∀ (H : Heap) (locs : List Loc) (ls : Array Slot) (w6_78 : Int32) (w8_78 : Int32) (g2_78 : Nat → Int32) (g3_78 : Nat → Int32), ((-1 : Int) ≤ w6_78.toInt ∧ w6_78.toInt ≤ 7) → ((0 : Int) ≤ w8_78.toInt ∧ w8_78.toInt ≤ 8) → (rng g2_78 8 0 255) → (8 - w8_78.toInt).toNat < d → va_P (dC, dI) vwCl [(a18, .inl (cI, 8, .inl g2_78)), (a19, .inl (cI, 8, .inl g3_78)), (a0, .inr (12, [.int i0, .ref a1, .ref a2, .ref a3, .ref a4, .int i1, .ref a5, .int i2, .int i3, .int i4, .int i5, .int i6, .int i7, .int i8, .ref a6, .ref a7, .ref a8, .ref a9, .ref a10, .ref a11, .ref a12, .int i9, .ref a13, .int i10, .ref a14, .ref a15, .int i11, .ref a16, .ref a17, .ref a18, .ref a19, .int i12, .int i13, .int i14, .int i15, .int i16, .ref a20, .long j0, .ref a21, .ref a22, .ref a23, .ref a24])), (a1, .inl (cI, 544, .inl xF0)), (a16, .inl (cI, 256, .inl (U17 0))), (a17, .inl (cI, 256, .inl (U17 1))), (a21, .inl (cI, 4, .inl xF20)), (a23, .inl (cJ, 240, .inr (.inl xG22)))] H → va_D A [(a18, .inl (cI, 8, .inl g2_78)), (a19, .inl (cI, 8, .inl g3_78)), (a0, .inr (12, [.int i0, .ref a1, .ref a2, .ref a3, .ref a4, .int i1, .ref a5, .int i2, .int i3, .int i4, .int i5, .int i6, .int i7, .int i8, .ref a6, .ref a7, .ref a8, .ref a9, .ref a10, .ref a11, .ref a12, .int i9, .ref a13, .int i10, .ref a14, .ref a15, .int i11, .ref a16, .ref a17, .ref a18, .ref a19, .int i12, .int i13, .int i14, .int i15, .int i16, .ref a20, .long j0, .ref a21, .ref a22, .ref a23, .ref a24])), (a1, .inl (cI, 544, .inl xF0)), (a16, .inl (cI, 256, .inl (U17 0))), (a17, .inl (cI, 256, .inl (U17 1))), (a21, .inl (cI, 4, .inl xF20)), (a23, .inl (cJ, 240, .inr (.inl xG22)))] → va_S A s.heap H locs → lv_has ls 10 [(0, .ref a0), (1, .int p0), (2, .int p1), (3, .int r1), (4, .int x22), (5, .int x24), (6, .int w6_78), (7, .int w7_2), (8, .int w8_78)] → W p l e ({ frames := 3, cells := 0, slots := 0, locals := 67 } : Room) s m ([.ref a0, .int p0, .int p1] : List Value).toArray below meth c H locs 0 0 Q (F0 m 101 ls []) := by
                    intro d
                    induction d with
                    | zero =>
                      intro H locs ls w6_78 w8_78 g2_78 g3_78 hr_w6_78 hr_w8_78 hr_g2_78 hm hP hD hS hl
                      omega
                    | succ d ih78 =>
                      intro H locs ls w6_78 w8_78 g2_78 g3_78 hr_w6_78 hr_w8_78 hr_g2_78 hm hP hD hS hl
                      refine lv_iload hx hb dX12_place_101 (lv_at hl 8 rfl) ?_
                      refine lv_iload hx hb dX12_place_103 (lv_at hl 5 rfl) ?_
                      refine lv_icmp_ge (tgt := 215) hx hb dX12_place_105 (by decide) (fun c1294 => ?_) (fun c1294 => ?_)
                      · rw [ki_le] at c1294
                        obtain ⟨x1295, ex1295⟩ : ∃ y : Int32, y = w7_2 + 1 := ⟨_, rfl⟩
                        refine lv_iinc (v := x1295) (lv' := [(7, .int x1295), (0, .ref a0), (1, .int p0), (2, .int p1), (3, .int r1), (4, .int x22), (5, .int x24), (6, .int w6_78), (8, .int w8_78)]) hx hb dX12_place_215 hl (k := 7) rfl (by rw [ex1295]; rfl) (by decide) rfl (fun ls hl => ?_)
                        have tx1295 := ia_add (a := w7_2) (b := (1 : Int32)) (by omega) (by omega)
                        rw [← ex1295] at tx1295
                        refine lv_goto (tgt := 89) hx hb dX12_place_218 (by decide) ?_
                        exact ih2 _ _ ls w6_78 x1295 g2_78 g3_78 (show (-1 : Int) ≤ w6_78.toInt ∧ w6_78.toInt ≤ 10 from ⟨by omega, by omega⟩) (show (0 : Int) ≤ x1295.toInt ∧ x1295.toInt ≤ 8 from ⟨by omega, by omega⟩) (show rng g2_78 8 0 255 from hr_g2_78) (by omega) (hP.sub (ws' := [(a18, .inl (cI, 8, .inl g2_78)), (a19, .inl (cI, 8, .inl g3_78)), (a0, .inr (12, [.int i0, .ref a1, .ref a2, .ref a3, .ref a4, .int i1, .ref a5, .int i2, .int i3, .int i4, .int i5, .int i6, .int i7, .int i8, .ref a6, .ref a7, .ref a8, .ref a9, .ref a10, .ref a11, .ref a12, .int i9, .ref a13, .int i10, .ref a14, .ref a15, .int i11, .ref a16, .ref a17, .ref a18, .ref a19, .int i12, .int i13, .int i14, .int i15, .int i16, .ref a20, .long j0, .ref a21, .ref a22, .ref a23, .ref a24])), (a1, .inl (cI, 544, .inl xF0)), (a16, .inl (cI, 256, .inl (U17 0))), (a17, .inl (cI, 256, .inl (U17 1))), (a21, .inl (cI, 4, .inl xF20)), (a23, .inl (cJ, 240, .inr (.inl xG22)))]) [0, 1, 2, 3, 4, 5, 6, 7] rfl) (hD.sub (ws' := [(a18, .inl (cI, 8, .inl g2_78)), (a19, .inl (cI, 8, .inl g3_78)), (a0, .inr (12, [.int i0, .ref a1, .ref a2, .ref a3, .ref a4, .int i1, .ref a5, .int i2, .int i3, .int i4, .int i5, .int i6, .int i7, .int i8, .ref a6, .ref a7, .ref a8, .ref a9, .ref a10, .ref a11, .ref a12, .int i9, .ref a13, .int i10, .ref a14, .ref a15, .int i11, .ref a16, .ref a17, .ref a18, .ref a19, .int i12, .int i13, .int i14, .int i15, .int i16, .ref a20, .long j0, .ref a21, .ref a22, .ref a23, .ref a24])), (a1, .inl (cI, 544, .inl xF0)), (a16, .inl (cI, 256, .inl (U17 0))), (a17, .inl (cI, 256, .inl (U17 1))), (a21, .inl (cI, 4, .inl xF20)), (a23, .inl (cJ, 240, .inr (.inl xG22)))]) [0, 1, 2, 3, 4, 5, 6, 7] (by decide) rfl) hS (lv_sub hl [1, 2, 3, 4, 5, 6, 7, 0] rfl)
                      · rw [ki_le] at c1294
                        refine lv_iload hx hb dX12_place_108 (lv_at hl 6 rfl) ?_
                        refine lv_iconst (v := (-1)) hx hb dX12_place_110 (by decide) ?_
                        refine lv_icmp_ne (tgt := 215) hx hb dX12_place_111 (by decide) (fun c1296 => ?_) (fun c1296 => ?_)
                        · rw [ki_eq] at c1296
                          obtain ⟨x1297, ex1297⟩ : ∃ y : Int32, y = w7_2 + 1 := ⟨_, rfl⟩
                          refine lv_iinc (v := x1297) (lv' := [(7, .int x1297), (0, .ref a0), (1, .int p0), (2, .int p1), (3, .int r1), (4, .int x22), (5, .int x24), (6, .int w6_78), (8, .int w8_78)]) hx hb dX12_place_215 hl (k := 7) rfl (by rw [ex1297]; rfl) (by decide) rfl (fun ls hl => ?_)
                          have tx1297 := ia_add (a := w7_2) (b := (1 : Int32)) (by omega) (by omega)
                          rw [← ex1297] at tx1297
                          refine lv_goto (tgt := 89) hx hb dX12_place_218 (by decide) ?_
                          exact ih2 _ _ ls w6_78 x1297 g2_78 g3_78 (show (-1 : Int) ≤ w6_78.toInt ∧ w6_78.toInt ≤ 10 from ⟨by omega, by omega⟩) (show (0 : Int) ≤ x1297.toInt ∧ x1297.toInt ≤ 8 from ⟨by omega, by omega⟩) (show rng g2_78 8 0 255 from hr_g2_78) (by omega) (hP.sub (ws' := [(a18, .inl (cI, 8, .inl g2_78)), (a19, .inl (cI, 8, .inl g3_78)), (a0, .inr (12, [.int i0, .ref a1, .ref a2, .ref a3, .ref a4, .int i1, .ref a5, .int i2, .int i3, .int i4, .int i5, .int i6, .int i7, .int i8, .ref a6, .ref a7, .ref a8, .ref a9, .ref a10, .ref a11, .ref a12, .int i9, .ref a13, .int i10, .ref a14, .ref a15, .int i11, .ref a16, .ref a17, .ref a18, .ref a19, .int i12, .int i13, .int i14, .int i15, .int i16, .ref a20, .long j0, .ref a21, .ref a22, .ref a23, .ref a24])), (a1, .inl (cI, 544, .inl xF0)), (a16, .inl (cI, 256, .inl (U17 0))), (a17, .inl (cI, 256, .inl (U17 1))), (a21, .inl (cI, 4, .inl xF20)), (a23, .inl (cJ, 240, .inr (.inl xG22)))]) [0, 1, 2, 3, 4, 5, 6, 7] rfl) (hD.sub (ws' := [(a18, .inl (cI, 8, .inl g2_78)), (a19, .inl (cI, 8, .inl g3_78)), (a0, .inr (12, [.int i0, .ref a1, .ref a2, .ref a3, .ref a4, .int i1, .ref a5, .int i2, .int i3, .int i4, .int i5, .int i6, .int i7, .int i8, .ref a6, .ref a7, .ref a8, .ref a9, .ref a10, .ref a11, .ref a12, .int i9, .ref a13, .int i10, .ref a14, .ref a15, .int i11, .ref a16, .ref a17, .ref a18, .ref a19, .int i12, .int i13, .int i14, .int i15, .int i16, .ref a20, .long j0, .ref a21, .ref a22, .ref a23, .ref a24])), (a1, .inl (cI, 544, .inl xF0)), (a16, .inl (cI, 256, .inl (U17 0))), (a17, .inl (cI, 256, .inl (U17 1))), (a21, .inl (cI, 4, .inl xF20)), (a23, .inl (cJ, 240, .inr (.inl xG22)))]) [0, 1, 2, 3, 4, 5, 6, 7] (by decide) rfl) hS (lv_sub hl [1, 2, 3, 4, 5, 6, 7, 0] rfl)
                        · rw [ki_eq] at c1296
                          refine lv_aload_n hx hb dX12_place_114 rfl (lv_at hl 0 rfl) ?_
                          refine va_get (D := (dC, dI)) (ci := 12) (v := .ref a18) (C := RX12) (T := TX12) (N := 42) hx hb hwd inlX12 hown hK hP 2 rfl rfl 29 (by decide) (hwd _ kr50_6) (fun _ h9 => h9) rfl dX12_place_115 ?_
                          refine lv_iload hx hb dX12_place_118 (lv_at hl 8 rfl) ?_
                          refine lv_dup2_11 hx hb dX12_place_120 rfl rfl ?_
                          have h1298 : vp_in w8_78 8 := (vp_of (by omega) (by omega))
                          refine va_iald hx hb hK hP 0 0 rfl rfl h1298 dX12_place_121 ?_
                          refine lv_topi (fun x1299 ex1299 => ?_)
                          have tx1299 : (0 : Int) ≤ x1299.toInt ∧ x1299.toInt ≤ 255 := by rw [ex1299]; exact hr_g2_78 _ (vp_nat h1298)
                          refine lv_iconst (v := 1) hx hb dX12_place_122 (by decide) ?_
                          refine lv_iload hx hb dX12_place_123 (lv_at hl 7 rfl) ?_
                          refine lv_ishl hx hb dX12_place_125 ?_
                          refine lv_topi (fun x1300 ex1300 => ?_)
                          have tx1300 := is_7 (b := w7_2) (by omega) (by omega)
                          rw [← ex1300] at tx1300
                          refine lv_ior hx hb dX12_place_126 ?_
                          refine lv_topi (fun x1301 ex1301 => ?_)
                          have tx1301 := io_255 (a := x1299) (b := x1300) (by omega) (by omega) (by omega) (by omega)
                          rw [← ex1301] at tx1301
                          refine va_iast hx hb hK hP hD hS 0 0 rfl rfl (vp_of (by omega) (by omega)) dX12_place_127 (fun H locs hP hD hS => ?_)
                          obtain ⟨f1302, ef1302⟩ : ∃ f, f = upd g2_78 w8_78.toNatClampNeg x1301 := ⟨_, rfl⟩
                          have rf1302 : rng f1302 8 0 255 := by rw [ef1302]; exact rng_upd (rng_mono hr_g2_78 (by omega) (by omega)) (by omega) (by omega)
                          replace hP : va_P (dC, dI) vwCl [(a18, .inl (cI, 8, .inl f1302)), (a19, .inl (cI, 8, .inl g3_78)), (a0, .inr (12, [.int i0, .ref a1, .ref a2, .ref a3, .ref a4, .int i1, .ref a5, .int i2, .int i3, .int i4, .int i5, .int i6, .int i7, .int i8, .ref a6, .ref a7, .ref a8, .ref a9, .ref a10, .ref a11, .ref a12, .int i9, .ref a13, .int i10, .ref a14, .ref a15, .int i11, .ref a16, .ref a17, .ref a18, .ref a19, .int i12, .int i13, .int i14, .int i15, .int i16, .ref a20, .long j0, .ref a21, .ref a22, .ref a23, .ref a24])), (a1, .inl (cI, 544, .inl xF0)), (a16, .inl (cI, 256, .inl (U17 0))), (a17, .inl (cI, 256, .inl (U17 1))), (a21, .inl (cI, 4, .inl xF20)), (a23, .inl (cJ, 240, .inr (.inl xG22)))] H := by rw [ef1302]; exact hP
                          replace hD : va_D A [(a18, .inl (cI, 8, .inl f1302)), (a19, .inl (cI, 8, .inl g3_78)), (a0, .inr (12, [.int i0, .ref a1, .ref a2, .ref a3, .ref a4, .int i1, .ref a5, .int i2, .int i3, .int i4, .int i5, .int i6, .int i7, .int i8, .ref a6, .ref a7, .ref a8, .ref a9, .ref a10, .ref a11, .ref a12, .int i9, .ref a13, .int i10, .ref a14, .ref a15, .int i11, .ref a16, .ref a17, .ref a18, .ref a19, .int i12, .int i13, .int i14, .int i15, .int i16, .ref a20, .long j0, .ref a21, .ref a22, .ref a23, .ref a24])), (a1, .inl (cI, 544, .inl xF0)), (a16, .inl (cI, 256, .inl (U17 0))), (a17, .inl (cI, 256, .inl (U17 1))), (a21, .inl (cI, 4, .inl xF20)), (a23, .inl (cJ, 240, .inr (.inl xG22)))] := by rw [ef1302]; exact hD
                          refine lv_aload_n hx hb dX12_place_128 rfl (lv_at hl 0 rfl) ?_
                          refine va_get (D := (dC, dI)) (ci := 12) (v := .ref a16) (C := RX12) (T := TX12) (N := 42) hx hb hwd inlX12 hown hK hP 2 rfl rfl 27 (by decide) (hwd _ kr50_4) (fun _ h9 => h9) rfl dX12_place_129 ?_
                          refine lv_aload_n hx hb dX12_place_132 rfl (lv_at hl 0 rfl) ?_
                          refine va_get (D := (dC, dI)) (ci := 12) (v := .ref a18) (C := RX12) (T := TX12) (N := 42) hx hb hwd inlX12 hown hK hP 2 rfl rfl 29 (by decide) (hwd _ kr50_6) (fun _ h9 => h9) rfl dX12_place_133 ?_
                          refine lv_iload hx hb dX12_place_136 (lv_at hl 8 rfl) ?_
                          have h1303 : vp_in w8_78 8 := (vp_of (by omega) (by omega))
                          refine va_iald hx hb hK hP 0 0 rfl rfl h1303 dX12_place_138 ?_
                          refine lv_topi (fun x1304 ex1304 => ?_)
                          have tx1304 : (0 : Int) ≤ x1304.toInt ∧ x1304.toInt ≤ 255 := by rw [ex1304]; exact rf1302 _ (vp_nat h1303)
                          have h1305 : vp_in x1304 256 := (vp_of (by omega) (by omega))
                          refine va_iald hx hb hK hP 4 0 rfl rfl h1305 dX12_place_139 ?_
                          refine lv_topi (fun x1306 ex1306 => ?_)
                          refine lv_aload_n hx hb dX12_place_140 rfl (lv_at hl 0 rfl) ?_
                          refine va_get (D := (dC, dI)) (ci := 12) (v := .ref a1) (C := RX12) (T := TX12) (N := 42) hx hb hwd inlX12 hown hK hP 2 rfl rfl 1 (by decide) (hwd _ kr49_2) (fun _ h9 => h9) rfl dX12_place_141 ?_
                          refine lv_iconst (v := 1) hx hb dX12_place_144 (by decide) ?_
                          have h1307 : vp_in (1 : Int32) 544 := (vin (by decide))
                          refine va_iald hx hb hK hP 3 0 rfl rfl h1307 dX12_place_145 ?_
                          refine lv_topi (fun x1308 ex1308 => ?_)
                          have ix1308 := wat_lit (k := 1) ex1308 (by decide)
                          have wh1309 : whd cp xF0 := p_7.1
                          unfold whd at wh1309
                          have jp91 : ∀ (H : Heap) (locs : List Loc) (ls : Array Slot) (z0_91 : Int32) (g1_91 : Nat → Int32), ((0 : Int) ≤ z0_91.toInt ∧ z0_91.toInt ≤ 1) → va_P (dC, dI) vwCl [(a18, .inl (cI, 8, .inl f1302)), (a19, .inl (cI, 8, .inl g1_91)), (a0, .inr (12, [.int i0, .ref a1, .ref a2, .ref a3, .ref a4, .int i1, .ref a5, .int i2, .int i3, .int i4, .int i5, .int i6, .int i7, .int i8, .ref a6, .ref a7, .ref a8, .ref a9, .ref a10, .ref a11, .ref a12, .int i9, .ref a13, .int i10, .ref a14, .ref a15, .int i11, .ref a16, .ref a17, .ref a18, .ref a19, .int i12, .int i13, .int i14, .int i15, .int i16, .ref a20, .long j0, .ref a21, .ref a22, .ref a23, .ref a24])), (a1, .inl (cI, 544, .inl xF0)), (a16, .inl (cI, 256, .inl (U17 0))), (a17, .inl (cI, 256, .inl (U17 1))), (a21, .inl (cI, 4, .inl xF20)), (a23, .inl (cJ, 240, .inr (.inl xG22)))] H → va_D A [(a18, .inl (cI, 8, .inl f1302)), (a19, .inl (cI, 8, .inl g1_91)), (a0, .inr (12, [.int i0, .ref a1, .ref a2, .ref a3, .ref a4, .int i1, .ref a5, .int i2, .int i3, .int i4, .int i5, .int i6, .int i7, .int i8, .ref a6, .ref a7, .ref a8, .ref a9, .ref a10, .ref a11, .ref a12, .int i9, .ref a13, .int i10, .ref a14, .ref a15, .int i11, .ref a16, .ref a17, .ref a18, .ref a19, .int i12, .int i13, .int i14, .int i15, .int i16, .ref a20, .long j0, .ref a21, .ref a22, .ref a23, .ref a24])), (a1, .inl (cI, 544, .inl xF0)), (a16, .inl (cI, 256, .inl (U17 0))), (a17, .inl (cI, 256, .inl (U17 1))), (a21, .inl (cI, 4, .inl xF20)), (a23, .inl (cJ, 240, .inr (.inl xG22)))] → va_S A s.heap H locs → lv_has ls 10 [(0, .ref a0), (1, .int p0), (2, .int p1), (3, .int r1), (4, .int x22), (5, .int x24), (6, .int w6_78), (7, .int w7_2), (8, .int w8_78)] → W p l e ({ frames := 3, cells := 0, slots := 0, locals := 67 } : Room) s m ([.ref a0, .int p0, .int p1] : List Value).toArray below meth c H locs 0 0 Q (F0 m 169 ls [.int z0_91]) := by
                            intro H locs ls z0_91 g1_91 hr_z0_91 hP hD hS hl
                            refine lv_istore (lv' := [(9, .int z0_91), (0, .ref a0), (1, .int p0), (2, .int p1), (3, .int r1), (4, .int x22), (5, .int x24), (6, .int w6_78), (7, .int w7_2), (8, .int w8_78)]) hx hb dX12_place_169 hl (by decide) rfl (fun ls hl => ?_)
                            refine lv_aload_n hx hb dX12_place_171 rfl (lv_at hl 1 rfl) ?_
                            refine va_get (D := (dC, dI)) (ci := 12) (v := .ref a18) (C := RX12) (T := TX12) (N := 42) hx hb hwd inlX12 hown hK hP 2 rfl rfl 29 (by decide) (hwd _ kr50_6) (fun _ h9 => h9) rfl dX12_place_172 ?_
                            refine lv_iload hx hb dX12_place_175 (lv_at hl 9 rfl) ?_
                            refine lv_dup2_11 hx hb dX12_place_177 rfl rfl ?_
                            have h1326 : vp_in w8_78 8 := (vp_of (by omega) (by omega))
                            refine va_iald hx hb hK hP 0 0 rfl rfl h1326 dX12_place_178 ?_
                            refine lv_topi (nm_r (e' := x1304) ex1304.symm ?_)
                            refine lv_iload hx hb dX12_place_179 (lv_at hl 0 rfl) ?_
                            have jp93 : ∀ (H : Heap) (locs : List Loc) (ls : Array Slot) (z3_93 : Int32), va_P (dC, dI) vwCl [(a18, .inl (cI, 8, .inl f1302)), (a19, .inl (cI, 8, .inl g1_91)), (a0, .inr (12, [.int i0, .ref a1, .ref a2, .ref a3, .ref a4, .int i1, .ref a5, .int i2, .int i3, .int i4, .int i5, .int i6, .int i7, .int i8, .ref a6, .ref a7, .ref a8, .ref a9, .ref a10, .ref a11, .ref a12, .int i9, .ref a13, .int i10, .ref a14, .ref a15, .int i11, .ref a16, .ref a17, .ref a18, .ref a19, .int i12, .int i13, .int i14, .int i15, .int i16, .ref a20, .long j0, .ref a21, .ref a22, .ref a23, .ref a24])), (a1, .inl (cI, 544, .inl xF0)), (a16, .inl (cI, 256, .inl (U17 0))), (a17, .inl (cI, 256, .inl (U17 1))), (a21, .inl (cI, 4, .inl xF20)), (a23, .inl (cJ, 240, .inr (.inl xG22)))] H → va_D A [(a18, .inl (cI, 8, .inl f1302)), (a19, .inl (cI, 8, .inl g1_91)), (a0, .inr (12, [.int i0, .ref a1, .ref a2, .ref a3, .ref a4, .int i1, .ref a5, .int i2, .int i3, .int i4, .int i5, .int i6, .int i7, .int i8, .ref a6, .ref a7, .ref a8, .ref a9, .ref a10, .ref a11, .ref a12, .int i9, .ref a13, .int i10, .ref a14, .ref a15, .int i11, .ref a16, .ref a17, .ref a18, .ref a19, .int i12, .int i13, .int i14, .int i15, .int i16, .ref a20, .long j0, .ref a21, .ref a22, .ref a23, .ref a24])), (a1, .inl (cI, 544, .inl xF0)), (a16, .inl (cI, 256, .inl (U17 0))), (a17, .inl (cI, 256, .inl (U17 1))), (a21, .inl (cI, 4, .inl xF20)), (a23, .inl (cJ, 240, .inr (.inl xG22)))] → va_S A s.heap H locs → lv_has ls 10 [(0, .ref a0), (1, .int p0), (2, .int p1), (3, .int r1), (4, .int x22), (5, .int x24), (6, .int w6_78), (7, .int w7_2), (8, .int w8_78), (9, .int z0_91)] → W p l e ({ frames := 3, cells := 0, slots := 0, locals := 67 } : Room) s m ([.ref a0, .int p0, .int p1] : List Value).toArray below meth c H locs 0 0 Q (F0 m 194 ls [.int z3_93, .int x1304, .int w8_78, .ref a18]) := by
                              intro H locs ls z3_93 hP hD hS hl
                              refine lv_iand hx hb dX12_place_194 ?_
                              refine lv_topi (fun x1335 ex1335 => ?_)
                              have tx1335 := ia_andl (a := x1304) (m := z3_93) (by omega)
                              rw [← ex1335] at tx1335
                              refine va_iast hx hb hK hP hD hS 0 0 rfl rfl (vp_of (by omega) (by omega)) dX12_place_195 (fun H locs hP hD hS => ?_)
                              obtain ⟨f1336, ef1336⟩ : ∃ f, f = upd f1302 w8_78.toNatClampNeg x1335 := ⟨_, rfl⟩
                              have rf1336 : rng f1336 8 0 255 := by rw [ef1336]; exact rng_upd (rng_mono rf1302 (by omega) (by omega)) (by omega) (by omega)
                              replace hP : va_P (dC, dI) vwCl [(a18, .inl (cI, 8, .inl f1336)), (a19, .inl (cI, 8, .inl g1_91)), (a0, .inr (12, [.int i0, .ref a1, .ref a2, .ref a3, .ref a4, .int i1, .ref a5, .int i2, .int i3, .int i4, .int i5, .int i6, .int i7, .int i8, .ref a6, .ref a7, .ref a8, .ref a9, .ref a10, .ref a11, .ref a12, .int i9, .ref a13, .int i10, .ref a14, .ref a15, .int i11, .ref a16, .ref a17, .ref a18, .ref a19, .int i12, .int i13, .int i14, .int i15, .int i16, .ref a20, .long j0, .ref a21, .ref a22, .ref a23, .ref a24])), (a1, .inl (cI, 544, .inl xF0)), (a16, .inl (cI, 256, .inl (U17 0))), (a17, .inl (cI, 256, .inl (U17 1))), (a21, .inl (cI, 4, .inl xF20)), (a23, .inl (cJ, 240, .inr (.inl xG22)))] H := by rw [ef1336]; exact hP
                              replace hD : va_D A [(a18, .inl (cI, 8, .inl f1336)), (a19, .inl (cI, 8, .inl g1_91)), (a0, .inr (12, [.int i0, .ref a1, .ref a2, .ref a3, .ref a4, .int i1, .ref a5, .int i2, .int i3, .int i4, .int i5, .int i6, .int i7, .int i8, .ref a6, .ref a7, .ref a8, .ref a9, .ref a10, .ref a11, .ref a12, .int i9, .ref a13, .int i10, .ref a14, .ref a15, .int i11, .ref a16, .ref a17, .ref a18, .ref a19, .int i12, .int i13, .int i14, .int i15, .int i16, .ref a20, .long j0, .ref a21, .ref a22, .ref a23, .ref a24])), (a1, .inl (cI, 544, .inl xF0)), (a16, .inl (cI, 256, .inl (U17 0))), (a17, .inl (cI, 256, .inl (U17 1))), (a21, .inl (cI, 4, .inl xF20)), (a23, .inl (cJ, 240, .inr (.inl xG22)))] := by rw [ef1336]; exact hD
                              refine lv_iload hx hb dX12_place_196 (lv_at hl 9 rfl) ?_
                              refine lv_if_eq (tgt := 206) hx hb dX12_place_198 (by decide) (fun c1337 => ?_) (fun c1337 => ?_)
                              · rw [ki_eq] at c1337
                                refine lv_iconst (v := (-1)) hx hb dX12_place_206 (by decide) ?_
                                refine lv_istore (lv' := [(6, .int (-1)), (0, .ref a0), (1, .int p0), (2, .int p1), (3, .int r1), (4, .int x22), (5, .int x24), (7, .int w7_2), (8, .int w8_78), (9, .int z0_91)]) hx hb dX12_place_207 hl (by decide) rfl (fun ls hl => ?_)
                                obtain ⟨x1338, ex1338⟩ : ∃ y : Int32, y = w8_78 + 1 := ⟨_, rfl⟩
                                refine lv_iinc (v := x1338) (lv' := [(8, .int x1338), (6, .int (-1)), (0, .ref a0), (1, .int p0), (2, .int p1), (3, .int r1), (4, .int x22), (5, .int x24), (7, .int w7_2), (9, .int z0_91)]) hx hb dX12_place_209 hl (k := 8) rfl (by rw [ex1338]; rfl) (by decide) rfl (fun ls hl => ?_)
                                have tx1338 := ia_add (a := w8_78) (b := (1 : Int32)) (by omega) (by omega)
                                rw [← ex1338] at tx1338
                                refine lv_goto (tgt := 101) hx hb dX12_place_212 (by decide) ?_
                                exact ih78 _ _ ls ((-1)) x1338 f1336 g1_91 (show (-1 : Int) ≤ ((-1) : Int32).toInt ∧ ((-1) : Int32).toInt ≤ 7 from ⟨by omega, by omega⟩) (show (0 : Int) ≤ x1338.toInt ∧ x1338.toInt ≤ 8 from ⟨by omega, by omega⟩) (show rng f1336 8 0 255 from rf1336) (by omega) (hP.sub (ws' := [(a18, .inl (cI, 8, .inl f1336)), (a19, .inl (cI, 8, .inl g1_91)), (a0, .inr (12, [.int i0, .ref a1, .ref a2, .ref a3, .ref a4, .int i1, .ref a5, .int i2, .int i3, .int i4, .int i5, .int i6, .int i7, .int i8, .ref a6, .ref a7, .ref a8, .ref a9, .ref a10, .ref a11, .ref a12, .int i9, .ref a13, .int i10, .ref a14, .ref a15, .int i11, .ref a16, .ref a17, .ref a18, .ref a19, .int i12, .int i13, .int i14, .int i15, .int i16, .ref a20, .long j0, .ref a21, .ref a22, .ref a23, .ref a24])), (a1, .inl (cI, 544, .inl xF0)), (a16, .inl (cI, 256, .inl (U17 0))), (a17, .inl (cI, 256, .inl (U17 1))), (a21, .inl (cI, 4, .inl xF20)), (a23, .inl (cJ, 240, .inr (.inl xG22)))]) [0, 1, 2, 3, 4, 5, 6, 7] rfl) (hD.sub (ws' := [(a18, .inl (cI, 8, .inl f1336)), (a19, .inl (cI, 8, .inl g1_91)), (a0, .inr (12, [.int i0, .ref a1, .ref a2, .ref a3, .ref a4, .int i1, .ref a5, .int i2, .int i3, .int i4, .int i5, .int i6, .int i7, .int i8, .ref a6, .ref a7, .ref a8, .ref a9, .ref a10, .ref a11, .ref a12, .int i9, .ref a13, .int i10, .ref a14, .ref a15, .int i11, .ref a16, .ref a17, .ref a18, .ref a19, .int i12, .int i13, .int i14, .int i15, .int i16, .ref a20, .long j0, .ref a21, .ref a22, .ref a23, .ref a24])), (a1, .inl (cI, 544, .inl xF0)), (a16, .inl (cI, 256, .inl (U17 0))), (a17, .inl (cI, 256, .inl (U17 1))), (a21, .inl (cI, 4, .inl xF20)), (a23, .inl (cJ, 240, .inr (.inl xG22)))]) [0, 1, 2, 3, 4, 5, 6, 7] (by decide) rfl) hS (lv_sub hl [2, 3, 4, 5, 6, 7, 1, 8, 0] rfl)
                              · rw [ki_eq] at c1337
                                refine lv_iload hx hb dX12_place_201 (lv_at hl 8 rfl) ?_
                                refine lv_goto (tgt := 207) hx hb dX12_place_203 (by decide) ?_
                                refine lv_istore (lv' := [(6, .int w8_78), (0, .ref a0), (1, .int p0), (2, .int p1), (3, .int r1), (4, .int x22), (5, .int x24), (7, .int w7_2), (8, .int w8_78), (9, .int z0_91)]) hx hb dX12_place_207 hl (by decide) rfl (fun ls hl => ?_)
                                obtain ⟨x1339, ex1339⟩ : ∃ y : Int32, y = w8_78 + 1 := ⟨_, rfl⟩
                                refine lv_iinc (v := x1339) (lv' := [(8, .int x1339), (6, .int w8_78), (0, .ref a0), (1, .int p0), (2, .int p1), (3, .int r1), (4, .int x22), (5, .int x24), (7, .int w7_2), (9, .int z0_91)]) hx hb dX12_place_209 hl (k := 8) rfl (by rw [ex1339]; rfl) (by decide) rfl (fun ls hl => ?_)
                                have tx1339 := ia_add (a := w8_78) (b := (1 : Int32)) (by omega) (by omega)
                                rw [← ex1339] at tx1339
                                refine lv_goto (tgt := 101) hx hb dX12_place_212 (by decide) ?_
                                exact ih78 _ _ ls w8_78 x1339 f1336 g1_91 (show (-1 : Int) ≤ w8_78.toInt ∧ w8_78.toInt ≤ 7 from ⟨by omega, by omega⟩) (show (0 : Int) ≤ x1339.toInt ∧ x1339.toInt ≤ 8 from ⟨by omega, by omega⟩) (show rng f1336 8 0 255 from rf1336) (by omega) (hP.sub (ws' := [(a18, .inl (cI, 8, .inl f1336)), (a19, .inl (cI, 8, .inl g1_91)), (a0, .inr (12, [.int i0, .ref a1, .ref a2, .ref a3, .ref a4, .int i1, .ref a5, .int i2, .int i3, .int i4, .int i5, .int i6, .int i7, .int i8, .ref a6, .ref a7, .ref a8, .ref a9, .ref a10, .ref a11, .ref a12, .int i9, .ref a13, .int i10, .ref a14, .ref a15, .int i11, .ref a16, .ref a17, .ref a18, .ref a19, .int i12, .int i13, .int i14, .int i15, .int i16, .ref a20, .long j0, .ref a21, .ref a22, .ref a23, .ref a24])), (a1, .inl (cI, 544, .inl xF0)), (a16, .inl (cI, 256, .inl (U17 0))), (a17, .inl (cI, 256, .inl (U17 1))), (a21, .inl (cI, 4, .inl xF20)), (a23, .inl (cJ, 240, .inr (.inl xG22)))]) [0, 1, 2, 3, 4, 5, 6, 7] rfl) (hD.sub (ws' := [(a18, .inl (cI, 8, .inl f1336)), (a19, .inl (cI, 8, .inl g1_91)), (a0, .inr (12, [.int i0, .ref a1, .ref a2, .ref a3, .ref a4, .int i1, .ref a5, .int i2, .int i3, .int i4, .int i5, .int i6, .int i7, .int i8, .ref a6, .ref a7, .ref a8, .ref a9, .ref a10, .ref a11, .ref a12, .int i9, .ref a13, .int i10, .ref a14, .ref a15, .int i11, .ref a16, .ref a17, .ref a18, .ref a19, .int i12, .int i13, .int i14, .int i15, .int i16, .ref a20, .long j0, .ref a21, .ref a22, .ref a23, .ref a24])), (a1, .inl (cI, 544, .inl xF0)), (a16, .inl (cI, 256, .inl (U17 0))), (a17, .inl (cI, 256, .inl (U17 1))), (a21, .inl (cI, 4, .inl xF20)), (a23, .inl (cJ, 240, .inr (.inl xG22)))]) [0, 1, 2, 3, 4, 5, 6, 7] (by decide) rfl) hS (lv_sub hl [2, 3, 4, 5, 6, 7, 1, 8, 0] rfl)
                            refine lv_if_eq (tgt := 188) hx hb dX12_place_181 (by decide) (fun c1340 => ?_) (fun c1340 => ?_)
                            · rw [ki_eq] at c1340
                              refine lv_iconst (v := 1) hx hb dX12_place_188 (by decide) ?_
                              refine lv_iload hx hb dX12_place_189 (lv_at hl 8 rfl) ?_
                              refine lv_ishl hx hb dX12_place_191 ?_
                              refine lv_topi (fun x1341 ex1341 => ?_)
                              have tx1341 := is_7 (b := w7_2) (by omega) (by omega)
                              rw [← ex1341] at tx1341
                              refine lv_iconst (v := (-1)) hx hb dX12_place_192 (by decide) ?_
                              refine lv_ixor hx hb dX12_place_193 ?_
                              refine lv_topi (fun x1342 ex1342 => ?_)
                              exact jp93 _ _ ls x1342 (hP.sub (ws' := [(a18, .inl (cI, 8, .inl f1302)), (a19, .inl (cI, 8, .inl g1_91)), (a0, .inr (12, [.int i0, .ref a1, .ref a2, .ref a3, .ref a4, .int i1, .ref a5, .int i2, .int i3, .int i4, .int i5, .int i6, .int i7, .int i8, .ref a6, .ref a7, .ref a8, .ref a9, .ref a10, .ref a11, .ref a12, .int i9, .ref a13, .int i10, .ref a14, .ref a15, .int i11, .ref a16, .ref a17, .ref a18, .ref a19, .int i12, .int i13, .int i14, .int i15, .int i16, .ref a20, .long j0, .ref a21, .ref a22, .ref a23, .ref a24])), (a1, .inl (cI, 544, .inl xF0)), (a16, .inl (cI, 256, .inl (U17 0))), (a17, .inl (cI, 256, .inl (U17 1))), (a21, .inl (cI, 4, .inl xF20)), (a23, .inl (cJ, 240, .inr (.inl xG22)))]) [0, 1, 2, 3, 4, 5, 6, 7] rfl) (hD.sub (ws' := [(a18, .inl (cI, 8, .inl f1302)), (a19, .inl (cI, 8, .inl g1_91)), (a0, .inr (12, [.int i0, .ref a1, .ref a2, .ref a3, .ref a4, .int i1, .ref a5, .int i2, .int i3, .int i4, .int i5, .int i6, .int i7, .int i8, .ref a6, .ref a7, .ref a8, .ref a9, .ref a10, .ref a11, .ref a12, .int i9, .ref a13, .int i10, .ref a14, .ref a15, .int i11, .ref a16, .ref a17, .ref a18, .ref a19, .int i12, .int i13, .int i14, .int i15, .int i16, .ref a20, .long j0, .ref a21, .ref a22, .ref a23, .ref a24])), (a1, .inl (cI, 544, .inl xF0)), (a16, .inl (cI, 256, .inl (U17 0))), (a17, .inl (cI, 256, .inl (U17 1))), (a21, .inl (cI, 4, .inl xF20)), (a23, .inl (cJ, 240, .inr (.inl xG22)))]) [0, 1, 2, 3, 4, 5, 6, 7] (by decide) rfl) hS (lv_sub hl [1, 2, 3, 4, 5, 6, 7, 8, 9, 0] rfl)
                            · rw [ki_eq] at c1340
                              refine lv_iconst (v := (-1)) hx hb dX12_place_184 (by decide) ?_
                              refine lv_goto (tgt := 194) hx hb dX12_place_185 (by decide) ?_
                              exact jp93 _ _ ls ((-1)) (hP.sub (ws' := [(a18, .inl (cI, 8, .inl f1302)), (a19, .inl (cI, 8, .inl g1_91)), (a0, .inr (12, [.int i0, .ref a1, .ref a2, .ref a3, .ref a4, .int i1, .ref a5, .int i2, .int i3, .int i4, .int i5, .int i6, .int i7, .int i8, .ref a6, .ref a7, .ref a8, .ref a9, .ref a10, .ref a11, .ref a12, .int i9, .ref a13, .int i10, .ref a14, .ref a15, .int i11, .ref a16, .ref a17, .ref a18, .ref a19, .int i12, .int i13, .int i14, .int i15, .int i16, .ref a20, .long j0, .ref a21, .ref a22, .ref a23, .ref a24])), (a1, .inl (cI, 544, .inl xF0)), (a16, .inl (cI, 256, .inl (U17 0))), (a17, .inl (cI, 256, .inl (U17 1))), (a21, .inl (cI, 4, .inl xF20)), (a23, .inl (cJ, 240, .inr (.inl xG22)))]) [0, 1, 2, 3, 4, 5, 6, 7] rfl) (hD.sub (ws' := [(a18, .inl (cI, 8, .inl f1302)), (a19, .inl (cI, 8, .inl g1_91)), (a0, .inr (12, [.int i0, .ref a1, .ref a2, .ref a3, .ref a4, .int i1, .ref a5, .int i2, .int i3, .int i4, .int i5, .int i6, .int i7, .int i8, .ref a6, .ref a7, .ref a8, .ref a9, .ref a10, .ref a11, .ref a12, .int i9, .ref a13, .int i10, .ref a14, .ref a15, .int i11, .ref a16, .ref a17, .ref a18, .ref a19, .int i12, .int i13, .int i14, .int i15, .int i16, .ref a20, .long j0, .ref a21, .ref a22, .ref a23, .ref a24])), (a1, .inl (cI, 544, .inl xF0)), (a16, .inl (cI, 256, .inl (U17 0))), (a17, .inl (cI, 256, .inl (U17 1))), (a21, .inl (cI, 4, .inl xF20)), (a23, .inl (cJ, 240, .inr (.inl xG22)))]) [0, 1, 2, 3, 4, 5, 6, 7] (by decide) rfl) hS (lv_sub hl [1, 2, 3, 4, 5, 6, 7, 8, 9, 0] rfl)
                          refine lv_icmp_gt (tgt := 168) hx hb dX12_place_146 (by decide) (fun c1343 => ?_) (fun c1343 => ?_)
                          · rw [ki_lt] at c1343
                            refine lv_iconst (v := 0) hx hb dX12_place_168 (by decide) ?_
                            exact jp91 _ _ ls (0) g3_78 (show (0 : Int) ≤ (0 : Int32).toInt ∧ (0 : Int32).toInt ≤ 1 from ⟨by omega, by omega⟩) (hP.sub (ws' := [(a18, .inl (cI, 8, .inl f1302)), (a19, .inl (cI, 8, .inl g3_78)), (a0, .inr (12, [.int i0, .ref a1, .ref a2, .ref a3, .ref a4, .int i1, .ref a5, .int i2, .int i3, .int i4, .int i5, .int i6, .int i7, .int i8, .ref a6, .ref a7, .ref a8, .ref a9, .ref a10, .ref a11, .ref a12, .int i9, .ref a13, .int i10, .ref a14, .ref a15, .int i11, .ref a16, .ref a17, .ref a18, .ref a19, .int i12, .int i13, .int i14, .int i15, .int i16, .ref a20, .long j0, .ref a21, .ref a22, .ref a23, .ref a24])), (a1, .inl (cI, 544, .inl xF0)), (a16, .inl (cI, 256, .inl (U17 0))), (a17, .inl (cI, 256, .inl (U17 1))), (a21, .inl (cI, 4, .inl xF20)), (a23, .inl (cJ, 240, .inr (.inl xG22)))]) [0, 1, 2, 3, 4, 5, 6, 7] rfl) (hD.sub (ws' := [(a18, .inl (cI, 8, .inl f1302)), (a19, .inl (cI, 8, .inl g3_78)), (a0, .inr (12, [.int i0, .ref a1, .ref a2, .ref a3, .ref a4, .int i1, .ref a5, .int i2, .int i3, .int i4, .int i5, .int i6, .int i7, .int i8, .ref a6, .ref a7, .ref a8, .ref a9, .ref a10, .ref a11, .ref a12, .int i9, .ref a13, .int i10, .ref a14, .ref a15, .int i11, .ref a16, .ref a17, .ref a18, .ref a19, .int i12, .int i13, .int i14, .int i15, .int i16, .ref a20, .long j0, .ref a21, .ref a22, .ref a23, .ref a24])), (a1, .inl (cI, 544, .inl xF0)), (a16, .inl (cI, 256, .inl (U17 0))), (a17, .inl (cI, 256, .inl (U17 1))), (a21, .inl (cI, 4, .inl xF20)), (a23, .inl (cJ, 240, .inr (.inl xG22)))]) [0, 1, 2, 3, 4, 5, 6, 7] (by decide) rfl) hS (lv_sub hl [0, 1, 2, 3, 4, 5, 6, 7, 8] rfl)
                          · rw [ki_lt] at c1343
                            refine lv_aload_n hx hb dX12_place_149 rfl (lv_at hl 0 rfl) ?_
                            refine lv_iload hx hb dX12_place_150 (lv_at hl 7 rfl) ?_
                            refine lv_iconst (v := 1) hx hb dX12_place_152 (by decide) ?_
                            refine lv_iadd hx hb dX12_place_153 ?_
                            refine lv_topi (fun x1344 ex1344 => ?_)
                            have tx1344 := ia_add (a := w7_2) (b := (1 : Int32)) (by omega) (by omega)
                            rw [← ex1344] at tx1344
                            refine lv_iload hx hb dX12_place_154 (lv_at hl 4 rfl) ?_
                            refine lv_iload hx hb dX12_place_156 (lv_at hl 5 rfl) ?_
                            have hPc := hP.sub (ws' := [(a0, .inr (12, [.int i0, .ref a1, .ref a2, .ref a3, .ref a4, .int i1, .ref a5, .int i2, .int i3, .int i4, .int i5, .int i6, .int i7, .int i8, .ref a6, .ref a7, .ref a8, .ref a9, .ref a10, .ref a11, .ref a12, .int i9, .ref a13, .int i10, .ref a14, .ref a15, .int i11, .ref a16, .ref a17, .ref a18, .ref a19, .int i12, .int i13, .int i14, .int i15, .int i16, .ref a20, .long j0, .ref a21, .ref a22, .ref a23, .ref a24])), (a1, .inl (cI, 544, .inl xF0)), (a16, .inl (cI, 256, .inl (U17 0))), (a18, .inl (cI, 8, .inl f1302)), (a19, .inl (cI, 8, .inl g3_78))]) [2, 3, 4, 0, 1] rfl
                            have hDc := hD.sub (ws' := [(a0, .inr (12, [.int i0, .ref a1, .ref a2, .ref a3, .ref a4, .int i1, .ref a5, .int i2, .int i3, .int i4, .int i5, .int i6, .int i7, .int i8, .ref a6, .ref a7, .ref a8, .ref a9, .ref a10, .ref a11, .ref a12, .int i9, .ref a13, .int i10, .ref a14, .ref a15, .int i11, .ref a16, .ref a17, .ref a18, .ref a19, .int i12, .int i13, .int i14, .int i15, .int i16, .ref a20, .long j0, .ref a21, .ref a22, .ref a23, .ref a24])), (a1, .inl (cI, 544, .inl xF0)), (a16, .inl (cI, 256, .inl (U17 0))), (a18, .inl (cI, 8, .inl f1302)), (a19, .inl (cI, 8, .inl g3_78))]) [2, 3, 4, 0, 1] (by decide) rfl
                            have hFc := va_free (wc := [(a0, .inr (12, [.int i0, .ref a1, .ref a2, .ref a3, .ref a4, .int i1, .ref a5, .int i2, .int i3, .int i4, .int i5, .int i6, .int i7, .int i8, .ref a6, .ref a7, .ref a8, .ref a9, .ref a10, .ref a11, .ref a12, .int i9, .ref a13, .int i10, .ref a14, .ref a15, .int i11, .ref a16, .ref a17, .ref a18, .ref a19, .int i12, .int i13, .int i14, .int i15, .int i16, .ref a20, .long j0, .ref a21, .ref a22, .ref a23, .ref a24])), (a1, .inl (cI, 544, .inl xF0)), (a16, .inl (cI, 256, .inl (U17 0))), (a18, .inl (cI, 8, .inl f1302)), (a19, .inl (cI, 8, .inl g3_78))]) hD hS hA [2, 3, 4, 0, 1] rfl
                            refine va_calli (va_runV (As := [.int x1344, .int x22, .int x24]) (rest := []) ⟨hx, hb, hml, hown, hwd⟩ (s_X12_canRest l dC dI cI cZ cB cJ cM cG a0 a1 a2 a3 a4 a5 a6 a7 a8 a9 a10 a11 a12 a13 a14 a15 a16 a17 a18 a19 a20 a21 a22 a23 a24 i0 i1 i2 i3 i4 i5 i6 i7 i8 i9 i10 i11 i12 i13 i14 i15 i16 j0 xF0 (U17 0) f1302 g3_78 x1344 x22 x24 cp H.size (show (0 : Int) ≤ i1.toInt ∧ i1.toInt ≤ 1600 from p_0) (show (0 : Int) ≤ i2.toInt ∧ i2.toInt ≤ 1600 from p_1) (show (0 : Int) ≤ i3.toInt ∧ i3.toInt ≤ 1600 from p_2) (show (0 : Int) ≤ i4.toInt ∧ i4.toInt ≤ 1600 from p_3) (show (0 : Int) ≤ i5.toInt ∧ i5.toInt ≤ 6 from p_4) (show (0 : Int) ≤ i7.toInt ∧ i7.toInt ≤ 3 from p_5) (show (0 : Int) ≤ i11.toInt ∧ i11.toInt ≤ 59 from p_6) (show WI cp xF0 from p_7) (show rng f1302 8 0 255 from rf1302) (show (1 : Int) ≤ x1344.toInt ∧ x1344.toInt ≤ 8 from ⟨by omega, by omega⟩) (show (1 : Int) ≤ x24.toInt ∧ x24.toInt ≤ 8 from ⟨by omega, by omega⟩) p_11) (cwV 3 hwd (gV kr65_11 kr65_12 kr5_2 kr5_23 kr65_13) rfl rfl rfl (by decide +kernel) ⟨Nat.le_of_ble_eq_true rfl, Nat.le_of_ble_eq_true rfl⟩) (kPreV hPc hK hDc (ci := 12) (q0 := 0) rfl rfl) rfl rfl hl.1 rfl (lv_room (Nat.le_of_ble_eq_true rfl)) dX12_place_158 ⟨Nat.le_of_ble_eq_true rfl, Nat.le_of_ble_eq_true rfl⟩) hS (fun q _ h => hFc q h) hFc (fun r1345 u1346 t H1 locs ht9 hvm hw hB hz1 hk1 hS => ?_)
                            obtain ⟨u1347, U1347, V1347⟩ := u1346
                            obtain ⟨hw1348, -⟩ := hw
                            replace hw1348 : (0 : Int) ≤ r1345.toInt ∧ r1345.toInt ≤ 1 := hw1348
                            obtain ⟨hP1, hD1⟩ := hB
                            rw [ht9] at hP1
                            obtain ⟨hP, hD⟩ := va_join (wr := [(a17, .inl (cI, 256, .inl (U17 1))), (a21, .inl (cI, 4, .inl xF20)), (a23, .inl (cJ, 240, .inr (.inl xG22)))]) (w1 := [(a0, .inr (12, [.int i0, .ref a1, .ref a2, .ref a3, .ref a4, .int i1, .ref a5, .int i2, .int i3, .int i4, .int i5, .int i6, .int i7, .int i8, .ref a6, .ref a7, .ref a8, .ref a9, .ref a10, .ref a11, .ref a12, .int i9, .ref a13, .int i10, .ref a14, .ref a15, .int i11, .ref a16, .ref a17, .ref a18, .ref a19, .int i12, .int i13, .int i14, .int i15, .int i16, .ref a20, .long j0, .ref a21, .ref a22, .ref a23, .ref a24])), (a1, .inl (cI, 544, .inl xF0)), (a16, .inl (cI, 256, .inl (U17 0))), (a18, .inl (cI, 8, .inl f1302)), (a19, .inl (cI, 8, .inl (U1347 0)))]) hP hD [2, 3, 4, 0, 1] [5, 6, 7] rfl rfl (by decide) (by decide) hk1 hFc hP1 hD1
                            generalize H1 = H at hP hS ⊢
                            replace hP : va_P (dC, dI) vwCl [(a17, .inl (cI, 256, .inl (U17 1))), (a21, .inl (cI, 4, .inl xF20)), (a23, .inl (cJ, 240, .inr (.inl xG22))), (a0, .inr (12, [.int i0, .ref a1, .ref a2, .ref a3, .ref a4, .int i1, .ref a5, .int i2, .int i3, .int i4, .int i5, .int i6, .int i7, .int i8, .ref a6, .ref a7, .ref a8, .ref a9, .ref a10, .ref a11, .ref a12, .int i9, .ref a13, .int i10, .ref a14, .ref a15, .int i11, .ref a16, .ref a17, .ref a18, .ref a19, .int i12, .int i13, .int i14, .int i15, .int i16, .ref a20, .long j0, .ref a21, .ref a22, .ref a23, .ref a24])), (a1, .inl (cI, 544, .inl xF0)), (a16, .inl (cI, 256, .inl (U17 0))), (a18, .inl (cI, 8, .inl f1302)), (a19, .inl (cI, 8, .inl (U1347 0)))] H := hP
                            replace hD : va_D A [(a17, .inl (cI, 256, .inl (U17 1))), (a21, .inl (cI, 4, .inl xF20)), (a23, .inl (cJ, 240, .inr (.inl xG22))), (a0, .inr (12, [.int i0, .ref a1, .ref a2, .ref a3, .ref a4, .int i1, .ref a5, .int i2, .int i3, .int i4, .int i5, .int i6, .int i7, .int i8, .ref a6, .ref a7, .ref a8, .ref a9, .ref a10, .ref a11, .ref a12, .int i9, .ref a13, .int i10, .ref a14, .ref a15, .int i11, .ref a16, .ref a17, .ref a18, .ref a19, .int i12, .int i13, .int i14, .int i15, .int i16, .ref a20, .long j0, .ref a21, .ref a22, .ref a23, .ref a24])), (a1, .inl (cI, 544, .inl xF0)), (a16, .inl (cI, 256, .inl (U17 0))), (a18, .inl (cI, 8, .inl f1302)), (a19, .inl (cI, 8, .inl (U1347 0)))] := hD
                            refine lv_if_eq (tgt := 168) hx hb dX12_place_161 (by decide) (fun c1349 => ?_) (fun c1349 => ?_)
                            · rw [ki_eq] at c1349
                              refine lv_iconst (v := 0) hx hb dX12_place_168 (by decide) ?_
                              exact jp91 _ _ ls (0) (U1347 0) (show (0 : Int) ≤ (0 : Int32).toInt ∧ (0 : Int32).toInt ≤ 1 from ⟨by omega, by omega⟩) (hP.sub (ws' := [(a18, .inl (cI, 8, .inl f1302)), (a19, .inl (cI, 8, .inl (U1347 0))), (a0, .inr (12, [.int i0, .ref a1, .ref a2, .ref a3, .ref a4, .int i1, .ref a5, .int i2, .int i3, .int i4, .int i5, .int i6, .int i7, .int i8, .ref a6, .ref a7, .ref a8, .ref a9, .ref a10, .ref a11, .ref a12, .int i9, .ref a13, .int i10, .ref a14, .ref a15, .int i11, .ref a16, .ref a17, .ref a18, .ref a19, .int i12, .int i13, .int i14, .int i15, .int i16, .ref a20, .long j0, .ref a21, .ref a22, .ref a23, .ref a24])), (a1, .inl (cI, 544, .inl xF0)), (a16, .inl (cI, 256, .inl (U17 0))), (a17, .inl (cI, 256, .inl (U17 1))), (a21, .inl (cI, 4, .inl xF20)), (a23, .inl (cJ, 240, .inr (.inl xG22)))]) [6, 7, 3, 4, 5, 0, 1, 2] rfl) (hD.sub (ws' := [(a18, .inl (cI, 8, .inl f1302)), (a19, .inl (cI, 8, .inl (U1347 0))), (a0, .inr (12, [.int i0, .ref a1, .ref a2, .ref a3, .ref a4, .int i1, .ref a5, .int i2, .int i3, .int i4, .int i5, .int i6, .int i7, .int i8, .ref a6, .ref a7, .ref a8, .ref a9, .ref a10, .ref a11, .ref a12, .int i9, .ref a13, .int i10, .ref a14, .ref a15, .int i11, .ref a16, .ref a17, .ref a18, .ref a19, .int i12, .int i13, .int i14, .int i15, .int i16, .ref a20, .long j0, .ref a21, .ref a22, .ref a23, .ref a24])), (a1, .inl (cI, 544, .inl xF0)), (a16, .inl (cI, 256, .inl (U17 0))), (a17, .inl (cI, 256, .inl (U17 1))), (a21, .inl (cI, 4, .inl xF20)), (a23, .inl (cJ, 240, .inr (.inl xG22)))]) [6, 7, 3, 4, 5, 0, 1, 2] (by decide) rfl) hS (lv_sub hl [0, 1, 2, 3, 4, 5, 6, 7, 8] rfl)
                            · rw [ki_eq] at c1349
                              refine lv_iconst (v := 1) hx hb dX12_place_164 (by decide) ?_
                              refine lv_goto (tgt := 169) hx hb dX12_place_165 (by decide) ?_
                              exact jp91 _ _ ls (1) (U1347 0) (show (0 : Int) ≤ (1 : Int32).toInt ∧ (1 : Int32).toInt ≤ 1 from ⟨by omega, by omega⟩) (hP.sub (ws' := [(a18, .inl (cI, 8, .inl f1302)), (a19, .inl (cI, 8, .inl (U1347 0))), (a0, .inr (12, [.int i0, .ref a1, .ref a2, .ref a3, .ref a4, .int i1, .ref a5, .int i2, .int i3, .int i4, .int i5, .int i6, .int i7, .int i8, .ref a6, .ref a7, .ref a8, .ref a9, .ref a10, .ref a11, .ref a12, .int i9, .ref a13, .int i10, .ref a14, .ref a15, .int i11, .ref a16, .ref a17, .ref a18, .ref a19, .int i12, .int i13, .int i14, .int i15, .int i16, .ref a20, .long j0, .ref a21, .ref a22, .ref a23, .ref a24])), (a1, .inl (cI, 544, .inl xF0)), (a16, .inl (cI, 256, .inl (U17 0))), (a17, .inl (cI, 256, .inl (U17 1))), (a21, .inl (cI, 4, .inl xF20)), (a23, .inl (cJ, 240, .inr (.inl xG22)))]) [6, 7, 3, 4, 5, 0, 1, 2] rfl) (hD.sub (ws' := [(a18, .inl (cI, 8, .inl f1302)), (a19, .inl (cI, 8, .inl (U1347 0))), (a0, .inr (12, [.int i0, .ref a1, .ref a2, .ref a3, .ref a4, .int i1, .ref a5, .int i2, .int i3, .int i4, .int i5, .int i6, .int i7, .int i8, .ref a6, .ref a7, .ref a8, .ref a9, .ref a10, .ref a11, .ref a12, .int i9, .ref a13, .int i10, .ref a14, .ref a15, .int i11, .ref a16, .ref a17, .ref a18, .ref a19, .int i12, .int i13, .int i14, .int i15, .int i16, .ref a20, .long j0, .ref a21, .ref a22, .ref a23, .ref a24])), (a1, .inl (cI, 544, .inl xF0)), (a16, .inl (cI, 256, .inl (U17 0))), (a17, .inl (cI, 256, .inl (U17 1))), (a21, .inl (cI, 4, .inl xF20)), (a23, .inl (cJ, 240, .inr (.inl xG22)))]) [6, 7, 3, 4, 5, 0, 1, 2] (by decide) rfl) hS (lv_sub hl [0, 1, 2, 3, 4, 5, 6, 7, 8] rfl)
                  exact lp78 _ _ _ ls ((-1)) (0) g2_2 g3_2 (show (-1 : Int) ≤ ((-1) : Int32).toInt ∧ ((-1) : Int32).toInt ≤ 7 from ⟨by omega, by omega⟩) (show (0 : Int) ≤ (0 : Int32).toInt ∧ (0 : Int32).toInt ≤ 8 from ⟨by omega, by omega⟩) (show rng g2_2 8 0 255 from hr_g2_2) (Nat.lt_succ_self _) (hP.sub (ws' := [(a18, .inl (cI, 8, .inl g2_2)), (a19, .inl (cI, 8, .inl g3_2)), (a0, .inr (12, [.int i0, .ref a1, .ref a2, .ref a3, .ref a4, .int i1, .ref a5, .int i2, .int i3, .int i4, .int i5, .int i6, .int i7, .int i8, .ref a6, .ref a7, .ref a8, .ref a9, .ref a10, .ref a11, .ref a12, .int i9, .ref a13, .int i10, .ref a14, .ref a15, .int i11, .ref a16, .ref a17, .ref a18, .ref a19, .int i12, .int i13, .int i14, .int i15, .int i16, .ref a20, .long j0, .ref a21, .ref a22, .ref a23, .ref a24])), (a1, .inl (cI, 544, .inl xF0)), (a16, .inl (cI, 256, .inl (U17 0))), (a17, .inl (cI, 256, .inl (U17 1))), (a21, .inl (cI, 4, .inl xF20)), (a23, .inl (cJ, 240, .inr (.inl xG22)))]) [0, 1, 2, 3, 4, 5, 6, 7] rfl) (hD.sub (ws' := [(a18, .inl (cI, 8, .inl g2_2)), (a19, .inl (cI, 8, .inl g3_2)), (a0, .inr (12, [.int i0, .ref a1, .ref a2, .ref a3, .ref a4, .int i1, .ref a5, .int i2, .int i3, .int i4, .int i5, .int i6, .int i7, .int i8, .ref a6, .ref a7, .ref a8, .ref a9, .ref a10, .ref a11, .ref a12, .int i9, .ref a13, .int i10, .ref a14, .ref a15, .int i11, .ref a16, .ref a17, .ref a18, .ref a19, .int i12, .int i13, .int i14, .int i15, .int i16, .ref a20, .long j0, .ref a21, .ref a22, .ref a23, .ref a24])), (a1, .inl (cI, 544, .inl xF0)), (a16, .inl (cI, 256, .inl (U17 0))), (a17, .inl (cI, 256, .inl (U17 1))), (a21, .inl (cI, 4, .inl xF20)), (a23, .inl (cJ, 240, .inr (.inl xG22)))]) [0, 1, 2, 3, 4, 5, 6, 7] (by decide) rfl) hS (lv_sub hl [2, 3, 4, 5, 6, 7, 1, 8, 0] rfl)
            exact lp2 _ _ _ ls ((-1)) (0) g1_1 xF18 (show (-1 : Int) ≤ ((-1) : Int32).toInt ∧ ((-1) : Int32).toInt ≤ 10 from ⟨by omega, by omega⟩) (show (0 : Int) ≤ (0 : Int32).toInt ∧ (0 : Int32).toInt ≤ 8 from ⟨by omega, by omega⟩) (show rng g1_1 8 0 255 from hr_g1_1) (Nat.lt_succ_self _) (hP.sub (ws' := [(a18, .inl (cI, 8, .inl g1_1)), (a19, .inl (cI, 8, .inl xF18)), (a0, .inr (12, [.int i0, .ref a1, .ref a2, .ref a3, .ref a4, .int i1, .ref a5, .int i2, .int i3, .int i4, .int i5, .int i6, .int i7, .int i8, .ref a6, .ref a7, .ref a8, .ref a9, .ref a10, .ref a11, .ref a12, .int i9, .ref a13, .int i10, .ref a14, .ref a15, .int i11, .ref a16, .ref a17, .ref a18, .ref a19, .int i12, .int i13, .int i14, .int i15, .int i16, .ref a20, .long j0, .ref a21, .ref a22, .ref a23, .ref a24])), (a1, .inl (cI, 544, .inl xF0)), (a16, .inl (cI, 256, .inl (U17 0))), (a17, .inl (cI, 256, .inl (U17 1))), (a21, .inl (cI, 4, .inl xF20)), (a23, .inl (cJ, 240, .inr (.inl xG22)))]) [0, 1, 2, 3, 4, 5, 6, 7] rfl) (hD.sub (ws' := [(a18, .inl (cI, 8, .inl g1_1)), (a19, .inl (cI, 8, .inl xF18)), (a0, .inr (12, [.int i0, .ref a1, .ref a2, .ref a3, .ref a4, .int i1, .ref a5, .int i2, .int i3, .int i4, .int i5, .int i6, .int i7, .int i8, .ref a6, .ref a7, .ref a8, .ref a9, .ref a10, .ref a11, .ref a12, .int i9, .ref a13, .int i10, .ref a14, .ref a15, .int i11, .ref a16, .ref a17, .ref a18, .ref a19, .int i12, .int i13, .int i14, .int i15, .int i16, .ref a20, .long j0, .ref a21, .ref a22, .ref a23, .ref a24])), (a1, .inl (cI, 544, .inl xF0)), (a16, .inl (cI, 256, .inl (U17 0))), (a17, .inl (cI, 256, .inl (U17 1))), (a21, .inl (cI, 4, .inl xF20)), (a23, .inl (cJ, 240, .inr (.inl xG22)))]) [0, 1, 2, 3, 4, 5, 6, 7] (by decide) rfl) hS (lv_sub hl [2, 3, 4, 5, 6, 7, 1, 0] rfl)
          · rw [ki_le] at c39
            refine lv_aload_n hx hb dX12_place_69 rfl (lv_at hl 0 rfl) ?_
            refine va_get (D := (dC, dI)) (ci := 12) (v := .ref a18) (C := RX12) (T := TX12) (N := 42) hx hb hwd inlX12 hown hK hP 2 rfl rfl 29 (by decide) (hwd _ kr50_6) (fun _ h9 => h9) rfl dX12_place_70 ?_
            refine lv_iload hx hb dX12_place_73 (lv_at hl 6 rfl) ?_
            refine lv_iconst (v := 0) hx hb dX12_place_75 (by decide) ?_
            refine va_iast hx hb hK hP hD hS 0 0 rfl rfl (vp_of (by omega) (by omega)) dX12_place_76 (fun H locs hP hD hS => ?_)
            obtain ⟨f1350, ef1350⟩ : ∃ f, f = upd g1_1 w6_1.toNatClampNeg (0 : Int32) := ⟨_, rfl⟩
            have rf1350 : rng f1350 8 0 255 := by rw [ef1350]; exact rng_upd (rng_mono hr_g1_1 (by omega) (by omega)) (by omega) (by omega)
            replace hP : va_P (dC, dI) vwCl [(a18, .inl (cI, 8, .inl f1350)), (a19, .inl (cI, 8, .inl xF18)), (a0, .inr (12, [.int i0, .ref a1, .ref a2, .ref a3, .ref a4, .int i1, .ref a5, .int i2, .int i3, .int i4, .int i5, .int i6, .int i7, .int i8, .ref a6, .ref a7, .ref a8, .ref a9, .ref a10, .ref a11, .ref a12, .int i9, .ref a13, .int i10, .ref a14, .ref a15, .int i11, .ref a16, .ref a17, .ref a18, .ref a19, .int i12, .int i13, .int i14, .int i15, .int i16, .ref a20, .long j0, .ref a21, .ref a22, .ref a23, .ref a24])), (a1, .inl (cI, 544, .inl xF0)), (a16, .inl (cI, 256, .inl (U17 0))), (a17, .inl (cI, 256, .inl (U17 1))), (a21, .inl (cI, 4, .inl xF20)), (a23, .inl (cJ, 240, .inr (.inl xG22)))] H := by rw [ef1350]; exact hP
            replace hD : va_D A [(a18, .inl (cI, 8, .inl f1350)), (a19, .inl (cI, 8, .inl xF18)), (a0, .inr (12, [.int i0, .ref a1, .ref a2, .ref a3, .ref a4, .int i1, .ref a5, .int i2, .int i3, .int i4, .int i5, .int i6, .int i7, .int i8, .ref a6, .ref a7, .ref a8, .ref a9, .ref a10, .ref a11, .ref a12, .int i9, .ref a13, .int i10, .ref a14, .ref a15, .int i11, .ref a16, .ref a17, .ref a18, .ref a19, .int i12, .int i13, .int i14, .int i15, .int i16, .ref a20, .long j0, .ref a21, .ref a22, .ref a23, .ref a24])), (a1, .inl (cI, 544, .inl xF0)), (a16, .inl (cI, 256, .inl (U17 0))), (a17, .inl (cI, 256, .inl (U17 1))), (a21, .inl (cI, 4, .inl xF20)), (a23, .inl (cJ, 240, .inr (.inl xG22)))] := by rw [ef1350]; exact hD
            obtain ⟨x1351, ex1351⟩ : ∃ y : Int32, y = w6_1 + 1 := ⟨_, rfl⟩
            refine lv_iinc (v := x1351) (lv' := [(6, .int x1351), (0, .ref a0), (1, .int p0), (2, .int p1), (3, .int r1), (4, .int x22), (5, .int x24)]) hx hb dX12_place_77 hl (k := 6) rfl (by rw [ex1351]; rfl) (by decide) rfl (fun ls hl => ?_)
            have tx1351 := ia_add (a := w6_1) (b := (1 : Int32)) (by omega) (by omega)
            rw [← ex1351] at tx1351
            refine lv_goto (tgt := 62) hx hb dX12_place_80 (by decide) ?_
            exact ih1 _ _ ls x1351 f1350 (show (0 : Int) ≤ x1351.toInt ∧ x1351.toInt ≤ 8 from ⟨by omega, by omega⟩) (show rng f1350 8 0 255 from rf1350) (by omega) (hP.sub (ws' := [(a18, .inl (cI, 8, .inl f1350)), (a19, .inl (cI, 8, .inl xF18)), (a0, .inr (12, [.int i0, .ref a1, .ref a2, .ref a3, .ref a4, .int i1, .ref a5, .int i2, .int i3, .int i4, .int i5, .int i6, .int i7, .int i8, .ref a6, .ref a7, .ref a8, .ref a9, .ref a10, .ref a11, .ref a12, .int i9, .ref a13, .int i10, .ref a14, .ref a15, .int i11, .ref a16, .ref a17, .ref a18, .ref a19, .int i12, .int i13, .int i14, .int i15, .int i16, .ref a20, .long j0, .ref a21, .ref a22, .ref a23, .ref a24])), (a1, .inl (cI, 544, .inl xF0)), (a16, .inl (cI, 256, .inl (U17 0))), (a17, .inl (cI, 256, .inl (U17 1))), (a21, .inl (cI, 4, .inl xF20)), (a23, .inl (cJ, 240, .inr (.inl xG22)))]) [0, 1, 2, 3, 4, 5, 6, 7] rfl) (hD.sub (ws' := [(a18, .inl (cI, 8, .inl f1350)), (a19, .inl (cI, 8, .inl xF18)), (a0, .inr (12, [.int i0, .ref a1, .ref a2, .ref a3, .ref a4, .int i1, .ref a5, .int i2, .int i3, .int i4, .int i5, .int i6, .int i7, .int i8, .ref a6, .ref a7, .ref a8, .ref a9, .ref a10, .ref a11, .ref a12, .int i9, .ref a13, .int i10, .ref a14, .ref a15, .int i11, .ref a16, .ref a17, .ref a18, .ref a19, .int i12, .int i13, .int i14, .int i15, .int i16, .ref a20, .long j0, .ref a21, .ref a22, .ref a23, .ref a24])), (a1, .inl (cI, 544, .inl xF0)), (a16, .inl (cI, 256, .inl (U17 0))), (a17, .inl (cI, 256, .inl (U17 1))), (a21, .inl (cI, 4, .inl xF20)), (a23, .inl (cJ, 240, .inr (.inl xG22)))]) [0, 1, 2, 3, 4, 5, 6, 7] (by decide) rfl) hS (lv_sub hl [1, 2, 3, 4, 5, 6, 0] rfl)
      exact lp1 _ _ _ ls (0) xF17 (show (0 : Int) ≤ (0 : Int32).toInt ∧ (0 : Int32).toInt ≤ 8 from ⟨by omega, by omega⟩) (show rng xF17 8 0 255 from p_8) (Nat.lt_succ_self _) (hP.sub (ws' := [(a18, .inl (cI, 8, .inl xF17)), (a19, .inl (cI, 8, .inl xF18)), (a0, .inr (12, [.int i0, .ref a1, .ref a2, .ref a3, .ref a4, .int i1, .ref a5, .int i2, .int i3, .int i4, .int i5, .int i6, .int i7, .int i8, .ref a6, .ref a7, .ref a8, .ref a9, .ref a10, .ref a11, .ref a12, .int i9, .ref a13, .int i10, .ref a14, .ref a15, .int i11, .ref a16, .ref a17, .ref a18, .ref a19, .int i12, .int i13, .int i14, .int i15, .int i16, .ref a20, .long j0, .ref a21, .ref a22, .ref a23, .ref a24])), (a1, .inl (cI, 544, .inl xF0)), (a16, .inl (cI, 256, .inl (U17 0))), (a17, .inl (cI, 256, .inl (U17 1))), (a21, .inl (cI, 4, .inl xF20)), (a23, .inl (cJ, 240, .inr (.inl xG22)))]) [0, 1, 2, 3, 4, 5, 6, 7] rfl) (hD.sub (ws' := [(a18, .inl (cI, 8, .inl xF17)), (a19, .inl (cI, 8, .inl xF18)), (a0, .inr (12, [.int i0, .ref a1, .ref a2, .ref a3, .ref a4, .int i1, .ref a5, .int i2, .int i3, .int i4, .int i5, .int i6, .int i7, .int i8, .ref a6, .ref a7, .ref a8, .ref a9, .ref a10, .ref a11, .ref a12, .int i9, .ref a13, .int i10, .ref a14, .ref a15, .int i11, .ref a16, .ref a17, .ref a18, .ref a19, .int i12, .int i13, .int i14, .int i15, .int i16, .ref a20, .long j0, .ref a21, .ref a22, .ref a23, .ref a24])), (a1, .inl (cI, 544, .inl xF0)), (a16, .inl (cI, 256, .inl (U17 0))), (a17, .inl (cI, 256, .inl (U17 1))), (a21, .inl (cI, 4, .inl xF20)), (a23, .inl (cJ, 240, .inr (.inl xG22)))]) [0, 1, 2, 3, 4, 5, 6, 7] (by decide) rfl) hS (lv_sub hl [4, 5, 6, 3, 2, 1, 0] rfl)
    · rw [ki_eq] at c14
      have hw13q := hw13 (by omega)
      clear hw13
      refine lv_bipush (v := (-2)) hx hb dX12_place_30 (by decide) ?_
      have hP9 := hP.sub (ws' := [(a0, .inr (12, [.int i0, .ref a1, .ref a2, .ref a3, .ref a4, .int i1, .ref a5, .int i2, .int i3, .int i4, .int i5, .int i6, .int i7, .int i8, .ref a6, .ref a7, .ref a8, .ref a9, .ref a10, .ref a11, .ref a12, .int i9, .ref a13, .int i10, .ref a14, .ref a15, .int i11, .ref a16, .ref a17, .ref a18, .ref a19, .int i12, .int i13, .int i14, .int i15, .int i16, .ref a20, .long j0, .ref a21, .ref a22, .ref a23, .ref a24])), (a1, .inl (cI, 544, .inl xF0)), (a16, .inl (cI, 256, .inl xF15)), (a17, .inl (cI, 256, .inl xF16)), (a18, .inl (cI, 8, .inl xF17)), (a19, .inl (cI, 8, .inl xF18)), (a21, .inl (cI, 4, .inl xF20)), (a23, .inl (cJ, 240, .inr (.inl xG22)))]) [4, 5, 0, 1, 2, 3, 6, 7] rfl
      have hD9 := hD.sub (ws' := [(a0, .inr (12, [.int i0, .ref a1, .ref a2, .ref a3, .ref a4, .int i1, .ref a5, .int i2, .int i3, .int i4, .int i5, .int i6, .int i7, .int i8, .ref a6, .ref a7, .ref a8, .ref a9, .ref a10, .ref a11, .ref a12, .int i9, .ref a13, .int i10, .ref a14, .ref a15, .int i11, .ref a16, .ref a17, .ref a18, .ref a19, .int i12, .int i13, .int i14, .int i15, .int i16, .ref a20, .long j0, .ref a21, .ref a22, .ref a23, .ref a24])), (a1, .inl (cI, 544, .inl xF0)), (a16, .inl (cI, 256, .inl xF15)), (a17, .inl (cI, 256, .inl xF16)), (a18, .inl (cI, 8, .inl xF17)), (a19, .inl (cI, 8, .inl xF18)), (a21, .inl (cI, 4, .inl xF20)), (a23, .inl (cJ, 240, .inr (.inl xG22)))]) [4, 5, 0, 1, 2, 3, 6, 7] (by decide) rfl
      rw [hQ]
      exact W.iret (v := (-2)) hx hb hr (fun t ht hW => ⟨⟨(-2), (pickG 0 [], pickG (fun _ => 0) [xF15, xF16, xF17, xF18], pickG (fun _ => 0) []), rfl, ⟨(show (-6 : Int) ≤ ((-2) : Int32).toInt ∧ ((-2) : Int32).toInt ≤ 10 from ⟨by omega, by omega⟩), (show rng xF17 8 0 255 from p_8), trivial⟩, (by rw [ht]; exact hP9), hD9⟩, hS.F ht⟩) hS.2.2 dX12_place_32
  · rw [ki_le] at c5
    refine lv_iload_n hx hb dX12_place_10 rfl (lv_at hl 0 rfl) ?_
    have hP9 := hP.sub (ws' := [(a0, .inr (12, [.int i0, .ref a1, .ref a2, .ref a3, .ref a4, .int i1, .ref a5, .int i2, .int i3, .int i4, .int i5, .int i6, .int i7, .int i8, .ref a6, .ref a7, .ref a8, .ref a9, .ref a10, .ref a11, .ref a12, .int i9, .ref a13, .int i10, .ref a14, .ref a15, .int i11, .ref a16, .ref a17, .ref a18, .ref a19, .int i12, .int i13, .int i14, .int i15, .int i16, .ref a20, .long j0, .ref a21, .ref a22, .ref a23, .ref a24])), (a1, .inl (cI, 544, .inl xF0)), (a16, .inl (cI, 256, .inl xF15)), (a17, .inl (cI, 256, .inl xF16)), (a18, .inl (cI, 8, .inl xF17)), (a19, .inl (cI, 8, .inl xF18)), (a21, .inl (cI, 4, .inl xF20)), (a23, .inl (cJ, 240, .inr (.inl xG22)))]) [4, 5, 0, 1, 2, 3, 6, 7] rfl
    have hD9 := hD.sub (ws' := [(a0, .inr (12, [.int i0, .ref a1, .ref a2, .ref a3, .ref a4, .int i1, .ref a5, .int i2, .int i3, .int i4, .int i5, .int i6, .int i7, .int i8, .ref a6, .ref a7, .ref a8, .ref a9, .ref a10, .ref a11, .ref a12, .int i9, .ref a13, .int i10, .ref a14, .ref a15, .int i11, .ref a16, .ref a17, .ref a18, .ref a19, .int i12, .int i13, .int i14, .int i15, .int i16, .ref a20, .long j0, .ref a21, .ref a22, .ref a23, .ref a24])), (a1, .inl (cI, 544, .inl xF0)), (a16, .inl (cI, 256, .inl xF15)), (a17, .inl (cI, 256, .inl xF16)), (a18, .inl (cI, 8, .inl xF17)), (a19, .inl (cI, 8, .inl xF18)), (a21, .inl (cI, 4, .inl xF20)), (a23, .inl (cJ, 240, .inr (.inl xG22)))]) [4, 5, 0, 1, 2, 3, 6, 7] (by decide) rfl
    rw [hQ]
    exact W.iret (v := r1) hx hb hr (fun t ht hW => ⟨⟨r1, (pickG 0 [], pickG (fun _ => 0) [xF15, xF16, xF17, xF18], pickG (fun _ => 0) []), rfl, ⟨(show (-6 : Int) ≤ r1.toInt ∧ r1.toInt ≤ 10 from ⟨by omega, by omega⟩), (show rng xF17 8 0 255 from p_8), trivial⟩, (by rw [ht]; exact hP9), hD9⟩, hS.F ht⟩) hS.2.2 dX12_place_11
set_option maxHeartbeats 4000000 in
set_option maxRecDepth 100000 in
theorem s_X11_isSlotR (l : Launch) (dC : Nat → ClassId) (dI : Nat → Nat → Nat) (cI cZ cB cJ cM cG : ClassId) (p0 : Int32) (sz : Nat) : Met l yX11_isSlot (kw yX11_isSlot cX11_isSlot 1 (some .boolean)) ({ frames := 0, cells := 0, slots := 0, locals := 0 } : Room) (va_Pc [.int p0] (kPre dC dI [(cI, .int), (cZ, .boolean), (cB, .byte), (cJ, .long), (cM, .object RX2), (cG, .array .int)] [] sz)) (va_Qi (fun (r : Int32) (u9 : Unit) => ((0 : Int) ≤ r.toInt ∧ r.toInt ≤ 1) ∧ ((r.toInt ≠ 0 → p0.toInt ≥ 0 ∧ p0.toInt ≤ 3)) ∧ ((r.toInt ≠ 1 → p0.toInt < 0 ∨ 3 < p0.toInt)) ∧ True) (fun u9 t => va_P (dC, dI) vwCl [] t.heap ∧ va_D (va_A [] sz) []) (va_A [] sz)) 0 0 (va_A [] sz) := by
  refine kEnter (by decide) (Nat.le_of_ble_eq_true rfl) ?_
  intro p e s m below meth c ls hx hb hr hml hown hlocks hin hwd hsz hP hK hD hl
  subst hsz
  generalize hAe : va_A [] s.heap.size = A at hD ⊢
  have hA : ∀ q : Nat, s.heap.size ≤ q → A q := fun q h => by rw [← hAe]; exact Or.inr h
  have hS : va_S A s.heap s.heap [] := va_S.rf
  have hl : lv_has ls 1 [(0, .int p0)] := hl
  obtain ⟨Q, hQ⟩ : ∃ Q, Q = MQ below (va_Qi (fun (r : Int32) (u9 : Unit) => ((0 : Int) ≤ r.toInt ∧ r.toInt ≤ 1) ∧ ((r.toInt ≠ 0 → p0.toInt ≥ 0 ∧ p0.toInt ≤ 3)) ∧ ((r.toInt ≠ 1 → p0.toInt < 0 ∨ 3 < p0.toInt)) ∧ True) (fun u9 t => va_P (dC, dI) vwCl [] t.heap ∧ va_D A []) A) ([.int p0] : List Value).toArray s 0 0 A := ⟨_, rfl⟩
  rw [← hQ]
  have k0 : (0 : Int32).toInt = 0 := by decide
  have k1 : (1 : Int32).toInt = 1 := by decide
  have k4 : (4 : Int32).toInt = 4 := by decide
  refine lv_iload_n hx hb dX11_isSlot_0 rfl (lv_at hl 0 rfl) ?_
  refine lv_if_lt (tgt := 13) hx hb dX11_isSlot_1 (by decide) (fun c1 => ?_) (fun c1 => ?_)
  · rw [ki_lt] at c1
    refine lv_iconst (v := 0) hx hb dX11_isSlot_13 (by decide) ?_
    have hP9 := hP.sub (ws' := []) [] rfl
    have hD9 := hD.sub (ws' := []) [] (by decide) rfl
    rw [hQ]
    exact W.zret (v := 0) hx hb hr (by decide) (fun t ht hW => ⟨⟨0, (), rfl, ⟨(show (0 : Int) ≤ (0 : Int32).toInt ∧ (0 : Int32).toInt ≤ 1 from ⟨by omega, by omega⟩), (show ((0 : Int32).toInt ≠ 0 → p0.toInt ≥ 0 ∧ p0.toInt ≤ 3) from by omega), (show ((0 : Int32).toInt ≠ 1 → p0.toInt < 0 ∨ 3 < p0.toInt) from by omega), trivial⟩, (by rw [ht]; exact hP9), hD9⟩, hS.F ht⟩) hS.2.2 dX11_isSlot_14
  · rw [ki_lt] at c1
    refine lv_iload_n hx hb dX11_isSlot_4 rfl (lv_at hl 0 rfl) ?_
    refine lv_iconst (v := 4) hx hb dX11_isSlot_5 (by decide) ?_
    refine lv_icmp_ge (tgt := 13) hx hb dX11_isSlot_6 (by decide) (fun c2 => ?_) (fun c2 => ?_)
    · rw [ki_le] at c2
      refine lv_iconst (v := 0) hx hb dX11_isSlot_13 (by decide) ?_
      have hP9 := hP.sub (ws' := []) [] rfl
      have hD9 := hD.sub (ws' := []) [] (by decide) rfl
      rw [hQ]
      exact W.zret (v := 0) hx hb hr (by decide) (fun t ht hW => ⟨⟨0, (), rfl, ⟨(show (0 : Int) ≤ (0 : Int32).toInt ∧ (0 : Int32).toInt ≤ 1 from ⟨by omega, by omega⟩), (show ((0 : Int32).toInt ≠ 0 → p0.toInt ≥ 0 ∧ p0.toInt ≤ 3) from by omega), (show ((0 : Int32).toInt ≠ 1 → p0.toInt < 0 ∨ 3 < p0.toInt) from by omega), trivial⟩, (by rw [ht]; exact hP9), hD9⟩, hS.F ht⟩) hS.2.2 dX11_isSlot_14
    · rw [ki_le] at c2
      refine lv_iconst (v := 1) hx hb dX11_isSlot_9 (by decide) ?_
      refine lv_goto (tgt := 14) hx hb dX11_isSlot_10 (by decide) ?_
      have hP9 := hP.sub (ws' := []) [] rfl
      have hD9 := hD.sub (ws' := []) [] (by decide) rfl
      rw [hQ]
      exact W.zret (v := 1) hx hb hr (by decide) (fun t ht hW => ⟨⟨1, (), rfl, ⟨(show (0 : Int) ≤ (1 : Int32).toInt ∧ (1 : Int32).toInt ≤ 1 from ⟨by omega, by omega⟩), (show ((1 : Int32).toInt ≠ 0 → p0.toInt ≥ 0 ∧ p0.toInt ≤ 3) from by omega), (show ((1 : Int32).toInt ≠ 1 → p0.toInt < 0 ∨ 3 < p0.toInt) from by omega), trivial⟩, (by rw [ht]; exact hP9), hD9⟩, hS.F ht⟩) hS.2.2 dX11_isSlot_14
set_option maxHeartbeats 4000000 in
set_option maxRecDepth 100000 in
theorem s_X12_isSlotR (l : Launch) (dC : Nat → ClassId) (dI : Nat → Nat → Nat) (cI cZ cB cJ cM cG : ClassId) (p0 : Int32) (sz : Nat) : Met l yX12_isSlot (kw yX12_isSlot cX12_isSlot 1 (some .boolean)) ({ frames := 1, cells := 0, slots := 0, locals := 25 } : Room) (va_Pc [.int p0] (kPre dC dI [(cI, .int), (cZ, .boolean), (cB, .byte), (cJ, .long), (cM, .object RX2), (cG, .array .int)] [] sz)) (va_Qi (fun (r : Int32) (u9 : Unit) => ((0 : Int) ≤ r.toInt ∧ r.toInt ≤ 1) ∧ ((r.toInt ≠ 0 → p0.toInt ≥ 0 ∧ p0.toInt ≤ 3)) ∧ ((r.toInt ≠ 1 → p0.toInt < 0 ∨ 3 < p0.toInt)) ∧ True) (fun u9 t => va_P (dC, dI) vwCl [] t.heap ∧ va_D (va_A [] sz) []) (va_A [] sz)) 0 0 (va_A [] sz) := by
  refine kEnter (by decide) (Nat.le_of_ble_eq_true rfl) ?_
  intro p e s m below meth c ls hx hb hr hml hown hlocks hin hwd hsz hP hK hD hl
  subst hsz
  generalize hAe : va_A [] s.heap.size = A at hD ⊢
  have hA : ∀ q : Nat, s.heap.size ≤ q → A q := fun q h => by rw [← hAe]; exact Or.inr h
  have hS : va_S A s.heap s.heap [] := va_S.rf
  have hl : lv_has ls 1 [(0, .int p0)] := hl
  obtain ⟨Q, hQ⟩ : ∃ Q, Q = MQ below (va_Qi (fun (r : Int32) (u9 : Unit) => ((0 : Int) ≤ r.toInt ∧ r.toInt ≤ 1) ∧ ((r.toInt ≠ 0 → p0.toInt ≥ 0 ∧ p0.toInt ≤ 3)) ∧ ((r.toInt ≠ 1 → p0.toInt < 0 ∨ 3 < p0.toInt)) ∧ True) (fun u9 t => va_P (dC, dI) vwCl [] t.heap ∧ va_D A []) A) ([.int p0] : List Value).toArray s 0 0 A := ⟨_, rfl⟩
  rw [← hQ]
  have k0 : (0 : Int32).toInt = 0 := by decide
  have k3 : (3 : Int32).toInt = 3 := by decide
  refine lv_iload_n hx hb dX12_isSlot_0 rfl (lv_at hl 0 rfl) ?_
  refine lv_i2l hx hb dX12_isSlot_1 rfl ?_
  refine lv_lconst (v := 0) hx hb dX12_isSlot_2 (by decide) ?_
  refine lv_ldc2 (v := 3) hx hb hown (hwd _ kr65_3) dX12_isSlot_3 ?_
  have hPc := hP.sub (ws' := []) [] rfl
  have hDc := hD.sub (ws' := []) [] (by decide) rfl
  have hFc := va_free (wc := []) hD hS hA [] rfl
  refine va_calli (va_runS (As := [.long p0.toInt64, .long 0, .long 3]) (rest := []) ⟨hx, hb, hml, hown, hwd⟩ (s_X12_in l dC dI cI cZ cB cJ cM cG p0.toInt64 0 3 s.heap.size) (cwS 3 hwd (gS kr51_0 kr51_1 kr5_23 kr51_2) rfl rfl rfl (by decide +kernel) ⟨Nat.le_of_ble_eq_true rfl, Nat.le_of_ble_eq_true rfl⟩) (kPreS hPc hK hDc) rfl rfl hl.1 rfl (lv_room (Nat.le_of_ble_eq_true rfl)) dX12_isSlot_6 ⟨Nat.le_of_ble_eq_true rfl, Nat.le_of_ble_eq_true rfl⟩) hS (fun q _ h => hFc q h) hFc (fun r1 u2 t H1 locs ht9 hvm hw hB hz1 hk1 hS => ?_)
  obtain ⟨hw3, hw4, hw5, -⟩ := hw
  replace hw3 : (0 : Int) ≤ r1.toInt ∧ r1.toInt ≤ 1 := hw3
  have hw4 : r1.toInt ≠ 0 → (0 : Int) ≤ p0.toInt ∧ p0.toInt ≤ (3 : Int) := in_int (Int32.toInt_toInt64 _) (by decide) (by decide) hw4
  have hw5 : r1.toInt ≠ 1 → p0.toInt < (0 : Int) ∨ (3 : Int) < p0.toInt := in_int2 (Int32.toInt_toInt64 _) (by decide) (by decide) hw5
  obtain ⟨hP1, hD1⟩ := hB
  rw [ht9] at hP1
  obtain ⟨hP, hD⟩ := va_join (wr := []) (w1 := []) hP hD [] [] rfl rfl (by decide) (by decide) hk1 hFc hP1 hD1
  generalize H1 = H at hP hS ⊢
  replace hP : va_P (dC, dI) vwCl [] H := hP
  replace hD : va_D A [] := hD
  have hP9 := hP.sub (ws' := []) [] rfl
  have hD9 := hD.sub (ws' := []) [] (by decide) rfl
  rw [hQ]
  exact W.zret (v := r1) hx hb hr (nar_01 (by omega)) (fun t ht hW => ⟨⟨r1, (), rfl, ⟨(show (0 : Int) ≤ r1.toInt ∧ r1.toInt ≤ 1 from hw3), (show (r1.toInt ≠ 0 → p0.toInt ≥ 0 ∧ p0.toInt ≤ 3) from by omega), (show (r1.toInt ≠ 1 → p0.toInt < 0 ∨ 3 < p0.toInt) from by omega), trivial⟩, (by rw [ht]; exact hP9), hD9⟩, hS.F ht⟩) hS.2.2 dX12_isSlot_9
def SLOK (p a n : Int32) : Prop := 0 ≤ p.toInt ∧ p.toInt ≤ 3 ∧ 0 ≤ a.toInt ∧ a.toInt ≤ 3 ∧ 0 ≤ n.toInt ∧ n.toInt ≤ 60
def PUT (ok : Prop) (f f1 : Nat → Int32) (p v : Int32) : Prop := ∀ k : Nat, k < 4 → ((ok ∧ (k : Int) = p.toInt) → f1 k = v) ∧ (¬ (ok ∧ (k : Int) = p.toInt) → f1 k = f k)
theorem PUT_out {ok : Prop} {f : Nat → Int32} {p v : Int32} (h : ¬ ok) : PUT ok f f p v := fun k hk => ⟨fun c => absurd c.1 h, fun _ => rfl⟩
theorem PUT_in {f : Nat → Int32} {p v : Int32} (h : 0 ≤ p.toInt) : PUT True f (upd f p.toNatClampNeg v) p v := fun k hk => by
  have e : p.toNatClampNeg = p.toInt.toNat := rfl
  refine ⟨fun c => ?_, fun c => ?_⟩
  · show (if k = p.toNatClampNeg then _ else _) = _
    have c2 := c.2
    rw [if_pos (by rw [e]; omega)]
  · show (if k = p.toNatClampNeg then _ else _) = _
    have c2 : (k : Int) ≠ p.toInt := fun h9 => c ⟨trivial, h9⟩
    rw [if_neg (by rw [e]; omega)]
theorem PUT_of {ok : Prop} {f f1 : Nat → Int32} {p v : Int32} (h : PUT True f f1 p v) (c : ok) : PUT ok f f1 p v := fun k hk => ⟨fun d => (h k hk).1 ⟨trivial, d.2⟩, fun d => (h k hk).2 (fun d2 => d ⟨c, d2.2⟩)⟩
def REL4 (m l w n v : Nat → Int32) : Prop := ∀ k : Nat, k < 4 → (((m k).toInt = 0 ∧ (n k).toInt = -1) ∨ ((m k).toInt ≠ 0 ∧ (n k).toInt = (l k).toInt ∧ 0 ≤ (l k).toInt)) ∧ w k = v k
theorem REL4_row {m l w n v m1 l1 w1 n1 v1 : Nat → Int32} {p a z p2 a2 z2 : Int32} (h : REL4 m l w n v) (e1 : p = p2) (e2 : a = a2) (e3 : z = z2) (hm : PUT (SLOK p a z) m m1 p (vp_nar .boolean (1 : Int32))) (hl : PUT (SLOK p a z) l l1 p z) (hw : PUT (SLOK p a z) w w1 p a) (hn : PUT (SLOK p2 a2 z2) n n1 p2 z2) (hv : PUT (SLOK p2 a2 z2) v v1 p2 a2) : REL4 m1 l1 w1 n1 v1 := by
  subst e1 e2 e3
  intro k hk
  by_cases c : SLOK p a z ∧ (k : Int) = p.toInt
  · rw [(hm k hk).1 c, (hl k hk).1 c, (hw k hk).1 c, (hn k hk).1 c, (hv k hk).1 c]
    exact ⟨Or.inr ⟨by decide, rfl, c.1.2.2.2.2.1⟩, rfl⟩
  · rw [(hm k hk).2 c, (hl k hk).2 c, (hw k hk).2 c, (hn k hk).2 c, (hv k hk).2 c]
    exact h k hk
def WRA (m l : Nat → Int32) (p i r : Int32) : Prop := ((p.toInt < 0 ∨ 3 < p.toInt) ∧ r.toInt = -2) ∨ (0 ≤ p.toInt ∧ p.toInt ≤ 3 ∧ (m p.toNatClampNeg).toInt = 0 ∧ r.toInt = -6) ∨ (0 ≤ p.toInt ∧ p.toInt ≤ 3 ∧ (m p.toNatClampNeg).toInt ≠ 0 ∧ (i.toInt < 0 ∨ (l p.toNatClampNeg).toInt ≤ i.toInt) ∧ r.toInt = -7) ∨ (0 ≤ p.toInt ∧ p.toInt ≤ 3 ∧ (m p.toNatClampNeg).toInt ≠ 0 ∧ 0 ≤ i.toInt ∧ i.toInt < (l p.toNatClampNeg).toInt ∧ r.toInt = 0)
def WRB (n : Nat → Int32) (p i r : Int32) : Prop := ((p.toInt < 0 ∨ 3 < p.toInt) ∧ r.toInt = -2) ∨ (0 ≤ p.toInt ∧ p.toInt ≤ 3 ∧ (n p.toNatClampNeg).toInt = -1 ∧ r.toInt = -6) ∨ (0 ≤ p.toInt ∧ p.toInt ≤ 3 ∧ (n p.toNatClampNeg).toInt ≠ -1 ∧ (i.toInt < 0 ∨ (n p.toNatClampNeg).toInt ≤ i.toInt) ∧ r.toInt = -7) ∨ (0 ≤ p.toInt ∧ p.toInt ≤ 3 ∧ (n p.toNatClampNeg).toInt ≠ -1 ∧ 0 ≤ i.toInt ∧ i.toInt < (n p.toNatClampNeg).toInt ∧ r.toInt = 0)
theorem WR_eq {m l w n v : Nat → Int32} {p i r p2 i2 t : Int32} (h : REL4 m l w n v) (e1 : p = p2) (e2 : i = i2) (h1 : WRA m l p i r) (h2 : WRB n p2 i2 t) : r.toInt = t.toInt := by
  subst e1 e2
  have e9 : p.toNatClampNeg = p.toInt.toNat := rfl
  unfold WRA at h1
  unfold WRB at h2
  by_cases c : p.toInt < 0 ∨ 3 < p.toInt
  · omega
  · have q := (h p.toNatClampNeg (by rw [e9]; omega)).1
    generalize m p.toNatClampNeg = x at h1 q
    generalize l p.toNatClampNeg = y at h1 q
    generalize n p.toNatClampNeg = z at h2 q
    omega
def PSA (m l w : Nat → Int32) (p i q k n r : Int32) : Prop := ((p.toInt < 0 ∨ 3 < p.toInt ∨ q.toInt < 0 ∨ 3 < q.toInt) ∧ r.toInt = -2) ∨ ((0 ≤ p.toInt ∧ p.toInt ≤ 3 ∧ 0 ≤ q.toInt ∧ q.toInt ≤ 3) ∧ ((((m p.toNatClampNeg).toInt = 0 ∨ (m q.toNatClampNeg).toInt = 0) ∧ r.toInt = -6) ∨ (((m p.toNatClampNeg).toInt ≠ 0 ∧ (m q.toNatClampNeg).toInt ≠ 0) ∧ (((w p.toNatClampNeg).toInt ≠ (w q.toNatClampNeg).toInt ∧ r.toInt = -8) ∨ ((w p.toNatClampNeg).toInt = (w q.toNatClampNeg).toInt ∧ (((i.toInt < 0 ∨ n.toInt < 0 ∨ k.toInt < 0 ∨ (l p.toNatClampNeg).toInt < i.toInt + n.toInt ∨ (l q.toNatClampNeg).toInt < k.toInt + n.toInt) ∧ r.toInt = -7) ∨ ((0 ≤ i.toInt ∧ 0 ≤ n.toInt ∧ 0 ≤ k.toInt ∧ i.toInt + n.toInt ≤ (l p.toNatClampNeg).toInt ∧ k.toInt + n.toInt ≤ (l q.toNatClampNeg).toInt) ∧ r.toInt = 0)))))))
def PSB (c v : Nat → Int32) (p i q k n r : Int32) : Prop := ((p.toInt < 0 ∨ 3 < p.toInt ∨ q.toInt < 0 ∨ 3 < q.toInt) ∧ r.toInt = -2) ∨ ((0 ≤ p.toInt ∧ p.toInt ≤ 3 ∧ 0 ≤ q.toInt ∧ q.toInt ≤ 3) ∧ ((((c p.toNatClampNeg).toInt = -1 ∨ (c q.toNatClampNeg).toInt = -1) ∧ r.toInt = -6) ∨ (((c p.toNatClampNeg).toInt ≠ -1 ∧ (c q.toNatClampNeg).toInt ≠ -1) ∧ (((v p.toNatClampNeg).toInt ≠ (v q.toNatClampNeg).toInt ∧ r.toInt = -8) ∨ ((v p.toNatClampNeg).toInt = (v q.toNatClampNeg).toInt ∧ (((i.toInt < 0 ∨ n.toInt < 0 ∨ k.toInt < 0 ∨ (c p.toNatClampNeg).toInt < i.toInt + n.toInt ∨ (c q.toNatClampNeg).toInt < k.toInt + n.toInt) ∧ r.toInt = -7) ∨ ((0 ≤ i.toInt ∧ 0 ≤ n.toInt ∧ 0 ≤ k.toInt ∧ i.toInt + n.toInt ≤ (c p.toNatClampNeg).toInt ∧ k.toInt + n.toInt ≤ (c q.toNatClampNeg).toInt) ∧ r.toInt = 0)))))))
theorem PS_eq {m l w n v : Nat → Int32} {p i q k z r p2 i2 q2 k2 z2 t : Int32} (h : REL4 m l w n v) (e1 : p = p2) (e2 : i = i2) (e3 : q = q2) (e4 : k = k2) (e5 : z = z2) (h1 : PSA m l w p i q k z r) (h2 : PSB n v p2 i2 q2 k2 z2 t) : r.toInt = t.toInt := by
  subst e1 e2 e3 e4 e5
  have e8 : p.toNatClampNeg = p.toInt.toNat := rfl
  have e9 : q.toNatClampNeg = q.toInt.toNat := rfl
  unfold PSA at h1
  unfold PSB at h2
  by_cases c : p.toInt < 0 ∨ 3 < p.toInt ∨ q.toInt < 0 ∨ 3 < q.toInt
  · rcases h1 with h1 | ⟨h1, -⟩
    · rcases h2 with h2 | ⟨h2, -⟩
      · omega
      · omega
    · omega
  · obtain ⟨q1, q2⟩ := h p.toNatClampNeg (by rw [e8]; omega)
    obtain ⟨q3, q4⟩ := h q.toNatClampNeg (by rw [e9]; omega)
    rcases h1 with h1 | ⟨-, h1⟩
    · exfalso
      omega
    · rcases h2 with h2 | ⟨-, h2⟩
      · exfalso
        omega
      · rw [q2, q4] at h1
        clear q2 q4 h c
        generalize m p.toNatClampNeg = x1 at h1 q1
        generalize m q.toNatClampNeg = x2 at h1 q3
        generalize l p.toNatClampNeg = x3 at h1 q1
        generalize l q.toNatClampNeg = x4 at h1 q3
        generalize n p.toNatClampNeg = x5 at h2 q1
        generalize n q.toNatClampNeg = x6 at h2 q3
        rcases q1 with ⟨a1, a2⟩ | ⟨a1, a2, a3⟩
        · rcases h1 with ⟨-, h1⟩ | ⟨⟨h1, -⟩, -⟩
          · rcases h2 with ⟨-, h2⟩ | ⟨⟨h2, -⟩, -⟩
            · omega
            · exact absurd a2 h2
          · exact absurd a1 h1
        · rcases q3 with ⟨b1, b2⟩ | ⟨b1, b2, b3⟩
          · rcases h1 with ⟨-, h1⟩ | ⟨⟨-, h1⟩, -⟩
            · rcases h2 with ⟨-, h2⟩ | ⟨⟨-, h2⟩, -⟩
              · omega
              · exact absurd b2 h2
            · exact absurd b1 h1
          · rcases h1 with ⟨h1, -⟩ | ⟨-, h1⟩
            · exfalso
              omega
            · rcases h2 with ⟨h2, -⟩ | ⟨-, h2⟩
              · exfalso
                omega
              · rw [a2, b2] at h2
                clear a1 a2 a3 b1 b2 b3 e8 e9
                rcases h1 with ⟨g1, g2⟩ | ⟨g1, g2⟩
                · rcases h2 with ⟨f1, f2⟩ | ⟨f1, f2⟩
                  · omega
                  · exact absurd f1 g1
                · rcases h2 with ⟨f1, f2⟩ | ⟨f1, f2⟩
                  · exact absurd g1 f1
                  · clear g1 f1
                    omega

set_option maxHeartbeats 4000000 in
set_option maxRecDepth 100000 in
theorem s_X8_makeRowR (l : Launch) (dC : Nat → ClassId) (dI : Nat → Nat → Nat) (cI cZ cB cJ cM cG : ClassId) (a0 a1 a2 a3 a4 : Nat) (xF0 xF1 xF2 : Nat → Int32) (xG3 : Nat → Int64) (p0 p1 p2 : Int32) (sz : Nat) (p_0 : rng xF1 4 0 60) (p_1 : rng xF2 4 0 1) (p_2 : (0 : Int) ≤ p0.toInt ∧ p0.toInt ≤ 3) (p_3 : (0 : Int) ≤ p2.toInt ∧ p2.toInt ≤ 60) : Met l yX8_makeRow (kw yX8_makeRow cX8_makeRow 5 none) ({ frames := 0, cells := 0, slots := 0, locals := 0 } : Room) (va_Pc [.ref a0, .int p0, .int p1, .int p2] (kPre dC dI [(cI, .int), (cZ, .boolean), (cB, .byte), (cJ, .long), (cM, .object RX2), (cG, .array .int)] [(a0, .inr (8, [.ref a1, .ref a2, .ref a3, .ref a4])), (a1, .inl (cI, 4, .inl xF0)), (a2, .inl (cI, 4, .inl xF1)), (a3, .inl (cZ, 4, .inl xF2)), (a4, .inl (cJ, 240, .inr (.inl xG3)))] sz)) (va_Qv (fun (u9 : (Nat → Int32) × (Nat → Nat → Int32) × (Nat → Nat → Int64)) => (rng (u9.2.1 1) 4 0 60) ∧ (rng (u9.2.1 2) 4 0 1) ∧ (PUT True xF2 (u9.2.1 2) p0 (vp_nar .boolean (1 : Int32))) ∧ (PUT True xF1 (u9.2.1 1) p0 p2) ∧ (PUT True xF0 (u9.2.1 0) p0 p1) ∧ True) (fun u9 t => va_P (dC, dI) vwCl [(a0, .inr (8, [.ref a1, .ref a2, .ref a3, .ref a4])), (a1, .inl (cI, 4, .inl (u9.2.1 0))), (a2, .inl (cI, 4, .inl (u9.2.1 1))), (a3, .inl (cZ, 4, .inl (u9.2.1 2))), (a4, .inl (cJ, 240, .inr (.inl (u9.2.2 0))))] t.heap ∧ va_D (va_A [(a0, .inr (8, [.ref a1, .ref a2, .ref a3, .ref a4])), (a1, .inl (cI, 4, .inl xF0)), (a2, .inl (cI, 4, .inl xF1)), (a3, .inl (cZ, 4, .inl xF2)), (a4, .inl (cJ, 240, .inr (.inl xG3)))] sz) [(a0, .inr (8, [.ref a1, .ref a2, .ref a3, .ref a4])), (a1, .inl (cI, 4, .inl (u9.2.1 0))), (a2, .inl (cI, 4, .inl (u9.2.1 1))), (a3, .inl (cZ, 4, .inl (u9.2.1 2))), (a4, .inl (cJ, 240, .inr (.inl (u9.2.2 0))))]) (va_A [(a0, .inr (8, [.ref a1, .ref a2, .ref a3, .ref a4])), (a1, .inl (cI, 4, .inl xF0)), (a2, .inl (cI, 4, .inl xF1)), (a3, .inl (cZ, 4, .inl xF2)), (a4, .inl (cJ, 240, .inr (.inl xG3)))] sz)) 0 0 (va_A [(a0, .inr (8, [.ref a1, .ref a2, .ref a3, .ref a4])), (a1, .inl (cI, 4, .inl xF0)), (a2, .inl (cI, 4, .inl xF1)), (a3, .inl (cZ, 4, .inl xF2)), (a4, .inl (cJ, 240, .inr (.inl xG3)))] sz) := by
  refine kEnter (by decide) (Nat.le_of_ble_eq_true rfl) ?_
  intro p e s m below meth c ls hx hb hr hml hown hlocks hin hwd hsz hP hK hD hl
  subst hsz
  generalize hAe : va_A [(a0, .inr (8, [.ref a1, .ref a2, .ref a3, .ref a4])), (a1, .inl (cI, 4, .inl xF0)), (a2, .inl (cI, 4, .inl xF1)), (a3, .inl (cZ, 4, .inl xF2)), (a4, .inl (cJ, 240, .inr (.inl xG3)))] s.heap.size = A at hD ⊢
  have hA : ∀ q : Nat, s.heap.size ≤ q → A q := fun q h => by rw [← hAe]; exact Or.inr h
  have hS : va_S A s.heap s.heap [] := va_S.rf
  have hl : lv_has ls 5 [(0, .ref a0), (1, .int p0), (2, .int p1), (3, .int p2)] := hl
  obtain ⟨Q, hQ⟩ : ∃ Q, Q = MQ below (va_Qv (fun (u9 : (Nat → Int32) × (Nat → Nat → Int32) × (Nat → Nat → Int64)) => (rng (u9.2.1 1) 4 0 60) ∧ (rng (u9.2.1 2) 4 0 1) ∧ (PUT True xF2 (u9.2.1 2) p0 (vp_nar .boolean (1 : Int32))) ∧ (PUT True xF1 (u9.2.1 1) p0 p2) ∧ (PUT True xF0 (u9.2.1 0) p0 p1) ∧ True) (fun u9 t => va_P (dC, dI) vwCl [(a0, .inr (8, [.ref a1, .ref a2, .ref a3, .ref a4])), (a1, .inl (cI, 4, .inl (u9.2.1 0))), (a2, .inl (cI, 4, .inl (u9.2.1 1))), (a3, .inl (cZ, 4, .inl (u9.2.1 2))), (a4, .inl (cJ, 240, .inr (.inl (u9.2.2 0))))] t.heap ∧ va_D A [(a0, .inr (8, [.ref a1, .ref a2, .ref a3, .ref a4])), (a1, .inl (cI, 4, .inl (u9.2.1 0))), (a2, .inl (cI, 4, .inl (u9.2.1 1))), (a3, .inl (cZ, 4, .inl (u9.2.1 2))), (a4, .inl (cJ, 240, .inr (.inl (u9.2.2 0))))]) A) ([.ref a0, .int p0, .int p1, .int p2] : List Value).toArray s 0 0 A := ⟨_, rfl⟩
  rw [← hQ]
  have k0 : (0 : Int32).toInt = 0 := by decide
  have k1 : (1 : Int32).toInt = 1 := by decide
  have k60 : (60 : Int32).toInt = 60 := by decide
  refine lv_aload_n hx hb dX8_makeRow_0 rfl (lv_at hl 0 rfl) ?_
  refine va_get (D := (dC, dI)) (ci := 8) (v := .ref a3) (C := RX8) (T := TX8) (N := 4) hx hb hwd inlX8 hown hK hP 0 rfl rfl 2 (by decide) (hwd _ kr9_23) (fun _ h9 => h9) rfl dX8_makeRow_1 ?_
  refine lv_iload_n hx hb dX8_makeRow_4 rfl (lv_at hl 1 rfl) ?_
  refine lv_iconst (v := 1) hx hb dX8_makeRow_5 (by decide) ?_
  refine va_zast hx hb hK hP hD hS 3 1 rfl rfl (vp_of (by omega) (by omega)) dX8_makeRow_6 (fun H locs hP hD hS => ?_)
  obtain ⟨f1, ef1⟩ : ∃ f, f = upd xF2 p0.toNatClampNeg (vp_nar .boolean (1 : Int32)) := ⟨_, rfl⟩
  have rf1 : rng f1 4 0 1 := by rw [ef1]; exact rng_upd (rng_mono p_1 (by omega) (by omega)) (nar_z _).1 (nar_z _).2
  replace hP : va_P (dC, dI) vwCl [(a0, .inr (8, [.ref a1, .ref a2, .ref a3, .ref a4])), (a1, .inl (cI, 4, .inl xF0)), (a2, .inl (cI, 4, .inl xF1)), (a3, .inl (cZ, 4, .inl f1)), (a4, .inl (cJ, 240, .inr (.inl xG3)))] H := by rw [ef1]; exact hP
  replace hD : va_D A [(a0, .inr (8, [.ref a1, .ref a2, .ref a3, .ref a4])), (a1, .inl (cI, 4, .inl xF0)), (a2, .inl (cI, 4, .inl xF1)), (a3, .inl (cZ, 4, .inl f1)), (a4, .inl (cJ, 240, .inr (.inl xG3)))] := by rw [ef1]; exact hD
  refine lv_aload_n hx hb dX8_makeRow_7 rfl (lv_at hl 0 rfl) ?_
  refine va_get (D := (dC, dI)) (ci := 8) (v := .ref a1) (C := RX8) (T := TX8) (N := 4) hx hb hwd inlX8 hown hK hP 0 rfl rfl 0 (by decide) (hwd _ kr9_19) (fun _ h9 => h9) rfl dX8_makeRow_8 ?_
  refine lv_iload_n hx hb dX8_makeRow_11 rfl (lv_at hl 1 rfl) ?_
  refine lv_iload_n hx hb dX8_makeRow_12 rfl (lv_at hl 2 rfl) ?_
  refine va_iast hx hb hK hP hD hS 1 0 rfl rfl (vp_of (by omega) (by omega)) dX8_makeRow_13 (fun H locs hP hD hS => ?_)
  obtain ⟨f2, ef2⟩ : ∃ f, f = upd xF0 p0.toNatClampNeg p1 := ⟨_, rfl⟩
  replace hP : va_P (dC, dI) vwCl [(a0, .inr (8, [.ref a1, .ref a2, .ref a3, .ref a4])), (a1, .inl (cI, 4, .inl f2)), (a2, .inl (cI, 4, .inl xF1)), (a3, .inl (cZ, 4, .inl f1)), (a4, .inl (cJ, 240, .inr (.inl xG3)))] H := by rw [ef2]; exact hP
  replace hD : va_D A [(a0, .inr (8, [.ref a1, .ref a2, .ref a3, .ref a4])), (a1, .inl (cI, 4, .inl f2)), (a2, .inl (cI, 4, .inl xF1)), (a3, .inl (cZ, 4, .inl f1)), (a4, .inl (cJ, 240, .inr (.inl xG3)))] := by rw [ef2]; exact hD
  refine lv_aload_n hx hb dX8_makeRow_14 rfl (lv_at hl 0 rfl) ?_
  refine va_get (D := (dC, dI)) (ci := 8) (v := .ref a2) (C := RX8) (T := TX8) (N := 4) hx hb hwd inlX8 hown hK hP 0 rfl rfl 1 (by decide) (hwd _ kr9_21) (fun _ h9 => h9) rfl dX8_makeRow_15 ?_
  refine lv_iload_n hx hb dX8_makeRow_18 rfl (lv_at hl 1 rfl) ?_
  refine lv_iload_n hx hb dX8_makeRow_19 rfl (lv_at hl 3 rfl) ?_
  refine va_iast hx hb hK hP hD hS 2 0 rfl rfl (vp_of (by omega) (by omega)) dX8_makeRow_20 (fun H locs hP hD hS => ?_)
  obtain ⟨f3, ef3⟩ : ∃ f, f = upd xF1 p0.toNatClampNeg p2 := ⟨_, rfl⟩
  have rf3 : rng f3 4 0 60 := by rw [ef3]; exact rng_upd (rng_mono p_0 (by omega) (by omega)) (by omega) (by omega)
  replace hP : va_P (dC, dI) vwCl [(a0, .inr (8, [.ref a1, .ref a2, .ref a3, .ref a4])), (a1, .inl (cI, 4, .inl f2)), (a2, .inl (cI, 4, .inl f3)), (a3, .inl (cZ, 4, .inl f1)), (a4, .inl (cJ, 240, .inr (.inl xG3)))] H := by rw [ef3]; exact hP
  replace hD : va_D A [(a0, .inr (8, [.ref a1, .ref a2, .ref a3, .ref a4])), (a1, .inl (cI, 4, .inl f2)), (a2, .inl (cI, 4, .inl f3)), (a3, .inl (cZ, 4, .inl f1)), (a4, .inl (cJ, 240, .inr (.inl xG3)))] := by rw [ef3]; exact hD
  refine lv_iconst (v := 0) hx hb dX8_makeRow_21 (by decide) ?_
  refine lv_istore (lv' := [(4, .int 0), (0, .ref a0), (1, .int p0), (2, .int p1), (3, .int p2)]) hx hb dX8_makeRow_22 hl (by decide) rfl (fun ls hl => ?_)
  have lp1 : ∀ (d : Nat), ∀ (H : Heap) (locs : List Loc) (ls : Array Slot) (w4_1 : Int32) (g1_1 : Nat → Int64), ((0 : Int) ≤ w4_1.toInt ∧ w4_1.toInt ≤ 60) → (60 - w4_1.toInt).toNat < d → va_P (dC, dI) vwCl [(a0, .inr (8, [.ref a1, .ref a2, .ref a3, .ref a4])), (a1, .inl (cI, 4, .inl f2)), (a2, .inl (cI, 4, .inl f3)), (a3, .inl (cZ, 4, .inl f1)), (a4, .inl (cJ, 240, .inr (.inl g1_1)))] H → va_D A [(a0, .inr (8, [.ref a1, .ref a2, .ref a3, .ref a4])), (a1, .inl (cI, 4, .inl f2)), (a2, .inl (cI, 4, .inl f3)), (a3, .inl (cZ, 4, .inl f1)), (a4, .inl (cJ, 240, .inr (.inl g1_1)))] → va_S A s.heap H locs → lv_has ls 5 [(0, .ref a0), (1, .int p0), (2, .int p1), (3, .int p2), (4, .int w4_1)] → W p l e ({ frames := 0, cells := 0, slots := 0, locals := 0 } : Room) s m ([.ref a0, .int p0, .int p1, .int p2] : List Value).toArray below meth c H locs 0 0 Q (F0 m 24 ls []) := by
    intro d
    induction d with
    | zero =>
      intro H locs ls w4_1 g1_1 hr_w4_1 hm hP hD hS hl
      omega
    | succ d ih1 =>
      intro H locs ls w4_1 g1_1 hr_w4_1 hm hP hD hS hl
      refine lv_iload hx hb dX8_makeRow_24 (lv_at hl 4 rfl) ?_
      refine lv_bipush (v := 60) hx hb dX8_makeRow_26 (by decide) ?_
      refine lv_icmp_ge (tgt := 50) hx hb dX8_makeRow_28 (by decide) (fun c33 => ?_) (fun c33 => ?_)
      · rw [ki_le] at c33
        have hP9 := hP.sub (ws' := [(a0, .inr (8, [.ref a1, .ref a2, .ref a3, .ref a4])), (a1, .inl (cI, 4, .inl f2)), (a2, .inl (cI, 4, .inl f3)), (a3, .inl (cZ, 4, .inl f1)), (a4, .inl (cJ, 240, .inr (.inl g1_1)))]) [0, 1, 2, 3, 4] rfl
        have hD9 := hD.sub (ws' := [(a0, .inr (8, [.ref a1, .ref a2, .ref a3, .ref a4])), (a1, .inl (cI, 4, .inl f2)), (a2, .inl (cI, 4, .inl f3)), (a3, .inl (cZ, 4, .inl f1)), (a4, .inl (cJ, 240, .inr (.inl g1_1)))]) [0, 1, 2, 3, 4] (by decide) rfl
        rw [hQ]
        exact W.vret hx hb hr (fun t ht hW => ⟨⟨(pickG 0 [], pickG (fun _ => 0) [f2, f3, f1], pickG (fun _ => 0) [g1_1]), rfl, ⟨(show rng f3 4 0 60 from rf3), (show rng f1 4 0 1 from rf1), (show PUT True xF2 f1 p0 (vp_nar .boolean (1 : Int32)) from by rw [ef1]; exact PUT_in (by omega)), (show PUT True xF1 f3 p0 p2 from by rw [ef3]; exact PUT_in (by omega)), (show PUT True xF0 f2 p0 p1 from by rw [ef2]; exact PUT_in (by omega)), trivial⟩, (by rw [ht]; exact hP9), hD9⟩, hS.F ht⟩) hS.2.2 dX8_makeRow_50
      · rw [ki_le] at c33
        refine lv_aload_n hx hb dX8_makeRow_31 rfl (lv_at hl 0 rfl) ?_
        refine va_get (D := (dC, dI)) (ci := 8) (v := .ref a4) (C := RX8) (T := TX8) (N := 4) hx hb hwd inlX8 hown hK hP 0 rfl rfl 3 (by decide) (hwd _ kr10_0) (fun _ h9 => h9) rfl dX8_makeRow_32 ?_
        refine lv_iload_n hx hb dX8_makeRow_35 rfl (lv_at hl 1 rfl) ?_
        refine lv_bipush (v := 60) hx hb dX8_makeRow_36 (by decide) ?_
        refine lv_imul hx hb dX8_makeRow_38 ?_
        refine lv_topi (fun x34 ex34 => ?_)
        have tx34 := ia_mulr (a := p0) (b := (60 : Int32)) 60 (by decide) (by omega) (by omega)
        rw [← ex34] at tx34
        refine lv_iload hx hb dX8_makeRow_39 (lv_at hl 4 rfl) ?_
        refine lv_iadd hx hb dX8_makeRow_41 ?_
        refine lv_topi (fun x35 ex35 => ?_)
        have tx35 := ia_add (a := x34) (b := w4_1) (by omega) (by omega)
        rw [← ex35] at tx35
        refine lv_lconst (v := 0) hx hb dX8_makeRow_42 (by decide) ?_
        refine va_last hx hb hK hP hD hS 4 3 rfl rfl (vp_of (by omega) (by omega)) dX8_makeRow_43 (fun H locs hP hD hS => ?_)
        obtain ⟨f36, ef36⟩ : ∃ f, f = vp_updL g1_1 x35.toNatClampNeg 0 := ⟨_, rfl⟩
        replace hP : va_P (dC, dI) vwCl [(a0, .inr (8, [.ref a1, .ref a2, .ref a3, .ref a4])), (a1, .inl (cI, 4, .inl f2)), (a2, .inl (cI, 4, .inl f3)), (a3, .inl (cZ, 4, .inl f1)), (a4, .inl (cJ, 240, .inr (.inl f36)))] H := by rw [ef36]; exact hP
        replace hD : va_D A [(a0, .inr (8, [.ref a1, .ref a2, .ref a3, .ref a4])), (a1, .inl (cI, 4, .inl f2)), (a2, .inl (cI, 4, .inl f3)), (a3, .inl (cZ, 4, .inl f1)), (a4, .inl (cJ, 240, .inr (.inl f36)))] := by rw [ef36]; exact hD
        obtain ⟨x37, ex37⟩ : ∃ y : Int32, y = w4_1 + 1 := ⟨_, rfl⟩
        refine lv_iinc (v := x37) (lv' := [(4, .int x37), (0, .ref a0), (1, .int p0), (2, .int p1), (3, .int p2)]) hx hb dX8_makeRow_44 hl (k := 4) rfl (by rw [ex37]; rfl) (by decide) rfl (fun ls hl => ?_)
        have tx37 := ia_add (a := w4_1) (b := (1 : Int32)) (by omega) (by omega)
        rw [← ex37] at tx37
        refine lv_goto (tgt := 24) hx hb dX8_makeRow_47 (by decide) ?_
        exact ih1 _ _ ls x37 f36 (show (0 : Int) ≤ x37.toInt ∧ x37.toInt ≤ 60 from ⟨by omega, by omega⟩) (by omega) (hP.sub (ws' := [(a0, .inr (8, [.ref a1, .ref a2, .ref a3, .ref a4])), (a1, .inl (cI, 4, .inl f2)), (a2, .inl (cI, 4, .inl f3)), (a3, .inl (cZ, 4, .inl f1)), (a4, .inl (cJ, 240, .inr (.inl f36)))]) [0, 1, 2, 3, 4] rfl) (hD.sub (ws' := [(a0, .inr (8, [.ref a1, .ref a2, .ref a3, .ref a4])), (a1, .inl (cI, 4, .inl f2)), (a2, .inl (cI, 4, .inl f3)), (a3, .inl (cZ, 4, .inl f1)), (a4, .inl (cJ, 240, .inr (.inl f36)))]) [0, 1, 2, 3, 4] (by decide) rfl) hS (lv_sub hl [1, 2, 3, 4, 0] rfl)
  exact lp1 _ _ _ ls (0) xG3 (show (0 : Int) ≤ (0 : Int32).toInt ∧ (0 : Int32).toInt ≤ 60 from ⟨by omega, by omega⟩) (Nat.lt_succ_self _) (hP.sub (ws' := [(a0, .inr (8, [.ref a1, .ref a2, .ref a3, .ref a4])), (a1, .inl (cI, 4, .inl f2)), (a2, .inl (cI, 4, .inl f3)), (a3, .inl (cZ, 4, .inl f1)), (a4, .inl (cJ, 240, .inr (.inl xG3)))]) [0, 1, 2, 3, 4] rfl) (hD.sub (ws' := [(a0, .inr (8, [.ref a1, .ref a2, .ref a3, .ref a4])), (a1, .inl (cI, 4, .inl f2)), (a2, .inl (cI, 4, .inl f3)), (a3, .inl (cZ, 4, .inl f1)), (a4, .inl (cJ, 240, .inr (.inl xG3)))]) [0, 1, 2, 3, 4] (by decide) rfl) hS (lv_sub hl [1, 2, 3, 4, 0] rfl)
set_option maxHeartbeats 4000000 in
set_option maxRecDepth 100000 in
theorem s_X11_rowP (l : Launch) (dC : Nat → ClassId) (dI : Nat → Nat → Nat) (cI cZ cB cJ cM cG : ClassId) (a0 a1 a2 a3 a4 a5 a6 a7 a8 a9 a10 a36 a37 a38 a39 : Nat) (xF24 xF25 xF26 : Nat → Int32) (xG27 : Nat → Int64) (p0 p1 p2 : Int32) (sz : Nat) (p_0 : rng xF25 4 0 60) (p_1 : rng xF26 4 0 1) : Met l yX11_row (kw yX11_row cX11_row 4 (some .int)) ({ frames := 1, cells := 0, slots := 0, locals := 24 } : Room) (va_Pc [.ref a0, .int p0, .int p1, .int p2] (kPre dC dI [(cI, .int), (cZ, .boolean), (cB, .byte), (cJ, .long), (cM, .object RX2), (cG, .array .int)] [(a0, .inr (11, [.ref a1, .ref a2, .ref a3, .ref a4, .ref a5, .ref a6, .ref a7, .ref a8, .ref a9, .ref a10])), (a5, .inr (8, [.ref a36, .ref a37, .ref a38, .ref a39])), (a36, .inl (cI, 4, .inl xF24)), (a37, .inl (cI, 4, .inl xF25)), (a38, .inl (cZ, 4, .inl xF26)), (a39, .inl (cJ, 240, .inr (.inl xG27)))] sz)) (va_Qi (fun (r : Int32) (u9 : (Nat → Int32) × (Nat → Nat → Int32) × (Nat → Nat → Int64)) => ((-3 : Int) ≤ r.toInt ∧ r.toInt ≤ 0) ∧ (rng (u9.2.1 1) 4 0 60) ∧ (rng (u9.2.1 2) 4 0 1) ∧ (PUT (SLOK p0 p1 p2) xF26 (u9.2.1 2) p0 (vp_nar .boolean (1 : Int32))) ∧ (PUT (SLOK p0 p1 p2) xF25 (u9.2.1 1) p0 p2) ∧ (PUT (SLOK p0 p1 p2) xF24 (u9.2.1 0) p0 p1) ∧ True) (fun u9 t => va_P (dC, dI) vwCl [(a0, .inr (11, [.ref a1, .ref a2, .ref a3, .ref a4, .ref a5, .ref a6, .ref a7, .ref a8, .ref a9, .ref a10])), (a5, .inr (8, [.ref a36, .ref a37, .ref a38, .ref a39])), (a36, .inl (cI, 4, .inl (u9.2.1 0))), (a37, .inl (cI, 4, .inl (u9.2.1 1))), (a38, .inl (cZ, 4, .inl (u9.2.1 2))), (a39, .inl (cJ, 240, .inr (.inl (u9.2.2 0))))] t.heap ∧ va_D (va_A [(a0, .inr (11, [.ref a1, .ref a2, .ref a3, .ref a4, .ref a5, .ref a6, .ref a7, .ref a8, .ref a9, .ref a10])), (a5, .inr (8, [.ref a36, .ref a37, .ref a38, .ref a39])), (a36, .inl (cI, 4, .inl xF24)), (a37, .inl (cI, 4, .inl xF25)), (a38, .inl (cZ, 4, .inl xF26)), (a39, .inl (cJ, 240, .inr (.inl xG27)))] sz) [(a0, .inr (11, [.ref a1, .ref a2, .ref a3, .ref a4, .ref a5, .ref a6, .ref a7, .ref a8, .ref a9, .ref a10])), (a5, .inr (8, [.ref a36, .ref a37, .ref a38, .ref a39])), (a36, .inl (cI, 4, .inl (u9.2.1 0))), (a37, .inl (cI, 4, .inl (u9.2.1 1))), (a38, .inl (cZ, 4, .inl (u9.2.1 2))), (a39, .inl (cJ, 240, .inr (.inl (u9.2.2 0))))]) (va_A [(a0, .inr (11, [.ref a1, .ref a2, .ref a3, .ref a4, .ref a5, .ref a6, .ref a7, .ref a8, .ref a9, .ref a10])), (a5, .inr (8, [.ref a36, .ref a37, .ref a38, .ref a39])), (a36, .inl (cI, 4, .inl xF24)), (a37, .inl (cI, 4, .inl xF25)), (a38, .inl (cZ, 4, .inl xF26)), (a39, .inl (cJ, 240, .inr (.inl xG27)))] sz)) 0 0 (va_A [(a0, .inr (11, [.ref a1, .ref a2, .ref a3, .ref a4, .ref a5, .ref a6, .ref a7, .ref a8, .ref a9, .ref a10])), (a5, .inr (8, [.ref a36, .ref a37, .ref a38, .ref a39])), (a36, .inl (cI, 4, .inl xF24)), (a37, .inl (cI, 4, .inl xF25)), (a38, .inl (cZ, 4, .inl xF26)), (a39, .inl (cJ, 240, .inr (.inl xG27)))] sz) := by
  refine kEnter (by decide) (Nat.le_of_ble_eq_true rfl) ?_
  intro p e s m below meth c ls hx hb hr hml hown hlocks hin hwd hsz hP hK hD hl
  subst hsz
  generalize hAe : va_A [(a0, .inr (11, [.ref a1, .ref a2, .ref a3, .ref a4, .ref a5, .ref a6, .ref a7, .ref a8, .ref a9, .ref a10])), (a5, .inr (8, [.ref a36, .ref a37, .ref a38, .ref a39])), (a36, .inl (cI, 4, .inl xF24)), (a37, .inl (cI, 4, .inl xF25)), (a38, .inl (cZ, 4, .inl xF26)), (a39, .inl (cJ, 240, .inr (.inl xG27)))] s.heap.size = A at hD ⊢
  have hA : ∀ q : Nat, s.heap.size ≤ q → A q := fun q h => by rw [← hAe]; exact Or.inr h
  have hS : va_S A s.heap s.heap [] := va_S.rf
  have hl : lv_has ls 4 [(0, .ref a0), (1, .int p0), (2, .int p1), (3, .int p2)] := hl
  obtain ⟨Q, hQ⟩ : ∃ Q, Q = MQ below (va_Qi (fun (r : Int32) (u9 : (Nat → Int32) × (Nat → Nat → Int32) × (Nat → Nat → Int64)) => ((-3 : Int) ≤ r.toInt ∧ r.toInt ≤ 0) ∧ (rng (u9.2.1 1) 4 0 60) ∧ (rng (u9.2.1 2) 4 0 1) ∧ (PUT (SLOK p0 p1 p2) xF26 (u9.2.1 2) p0 (vp_nar .boolean (1 : Int32))) ∧ (PUT (SLOK p0 p1 p2) xF25 (u9.2.1 1) p0 p2) ∧ (PUT (SLOK p0 p1 p2) xF24 (u9.2.1 0) p0 p1) ∧ True) (fun u9 t => va_P (dC, dI) vwCl [(a0, .inr (11, [.ref a1, .ref a2, .ref a3, .ref a4, .ref a5, .ref a6, .ref a7, .ref a8, .ref a9, .ref a10])), (a5, .inr (8, [.ref a36, .ref a37, .ref a38, .ref a39])), (a36, .inl (cI, 4, .inl (u9.2.1 0))), (a37, .inl (cI, 4, .inl (u9.2.1 1))), (a38, .inl (cZ, 4, .inl (u9.2.1 2))), (a39, .inl (cJ, 240, .inr (.inl (u9.2.2 0))))] t.heap ∧ va_D A [(a0, .inr (11, [.ref a1, .ref a2, .ref a3, .ref a4, .ref a5, .ref a6, .ref a7, .ref a8, .ref a9, .ref a10])), (a5, .inr (8, [.ref a36, .ref a37, .ref a38, .ref a39])), (a36, .inl (cI, 4, .inl (u9.2.1 0))), (a37, .inl (cI, 4, .inl (u9.2.1 1))), (a38, .inl (cZ, 4, .inl (u9.2.1 2))), (a39, .inl (cJ, 240, .inr (.inl (u9.2.2 0))))]) A) ([.ref a0, .int p0, .int p1, .int p2] : List Value).toArray s 0 0 A := ⟨_, rfl⟩
  rw [← hQ]
  have km3 : ((-3) : Int32).toInt = -3 := by decide
  have km2 : ((-2) : Int32).toInt = -2 := by decide
  have k0 : (0 : Int32).toInt = 0 := by decide
  have k3 : (3 : Int32).toInt = 3 := by decide
  have k60 : (60 : Int32).toInt = 60 := by decide
  refine lv_iload_n hx hb dX11_row_0 rfl (lv_at hl 1 rfl) ?_
  have hPc := hP.sub (ws' := []) [] rfl
  have hDc := hD.sub (ws' := []) [] (by decide) rfl
  have hFc := va_free (wc := []) hD hS hA [] rfl
  refine va_calli (va_runS (As := [.int p0]) (rest := []) ⟨hx, hb, hml, hown, hwd⟩ (s_X11_isSlotR l dC dI cI cZ cB cJ cM cG p0 s.heap.size) (cwS 1 hwd (gS kr40_12 kr40_13 kr5_11 kr40_14) rfl rfl rfl (by decide +kernel) ⟨Nat.le_of_ble_eq_true rfl, Nat.le_of_ble_eq_true rfl⟩) (kPreS hPc hK hDc) rfl rfl hl.1 rfl (lv_room (Nat.le_of_ble_eq_true rfl)) dX11_row_1 ⟨Nat.le_of_ble_eq_true rfl, Nat.le_of_ble_eq_true rfl⟩) hS (fun q _ h => hFc q h) hFc (fun r1 u2 t H1 locs ht9 hvm hw hB hz1 hk1 hS => ?_)
  obtain ⟨hw3, hw4, hw5, -⟩ := hw
  replace hw3 : (0 : Int) ≤ r1.toInt ∧ r1.toInt ≤ 1 := hw3
  obtain ⟨hP1, hD1⟩ := hB
  rw [ht9] at hP1
  obtain ⟨hP, hD⟩ := va_join (wr := [(a0, .inr (11, [.ref a1, .ref a2, .ref a3, .ref a4, .ref a5, .ref a6, .ref a7, .ref a8, .ref a9, .ref a10])), (a5, .inr (8, [.ref a36, .ref a37, .ref a38, .ref a39])), (a36, .inl (cI, 4, .inl xF24)), (a37, .inl (cI, 4, .inl xF25)), (a38, .inl (cZ, 4, .inl xF26)), (a39, .inl (cJ, 240, .inr (.inl xG27)))]) (w1 := []) hP hD [] [0, 1, 2, 3, 4, 5] rfl rfl (by decide) (by decide) hk1 hFc hP1 hD1
  generalize H1 = H at hP hS ⊢
  replace hP : va_P (dC, dI) vwCl [(a0, .inr (11, [.ref a1, .ref a2, .ref a3, .ref a4, .ref a5, .ref a6, .ref a7, .ref a8, .ref a9, .ref a10])), (a5, .inr (8, [.ref a36, .ref a37, .ref a38, .ref a39])), (a36, .inl (cI, 4, .inl xF24)), (a37, .inl (cI, 4, .inl xF25)), (a38, .inl (cZ, 4, .inl xF26)), (a39, .inl (cJ, 240, .inr (.inl xG27)))] H := hP
  replace hD : va_D A [(a0, .inr (11, [.ref a1, .ref a2, .ref a3, .ref a4, .ref a5, .ref a6, .ref a7, .ref a8, .ref a9, .ref a10])), (a5, .inr (8, [.ref a36, .ref a37, .ref a38, .ref a39])), (a36, .inl (cI, 4, .inl xF24)), (a37, .inl (cI, 4, .inl xF25)), (a38, .inl (cZ, 4, .inl xF26)), (a39, .inl (cJ, 240, .inr (.inl xG27)))] := hD
  refine lv_if_eq (tgt := 22) hx hb dX11_row_4 (by decide) (fun c6 => ?_) (fun c6 => ?_)
  · rw [ki_eq] at c6
    have hw5q := hw5 (by omega)
    clear hw5
    refine lv_bipush (v := (-2)) hx hb dX11_row_22 (by decide) ?_
    have hP9 := hP.sub (ws' := [(a0, .inr (11, [.ref a1, .ref a2, .ref a3, .ref a4, .ref a5, .ref a6, .ref a7, .ref a8, .ref a9, .ref a10])), (a5, .inr (8, [.ref a36, .ref a37, .ref a38, .ref a39])), (a36, .inl (cI, 4, .inl xF24)), (a37, .inl (cI, 4, .inl xF25)), (a38, .inl (cZ, 4, .inl xF26)), (a39, .inl (cJ, 240, .inr (.inl xG27)))]) [0, 1, 2, 3, 4, 5] rfl
    have hD9 := hD.sub (ws' := [(a0, .inr (11, [.ref a1, .ref a2, .ref a3, .ref a4, .ref a5, .ref a6, .ref a7, .ref a8, .ref a9, .ref a10])), (a5, .inr (8, [.ref a36, .ref a37, .ref a38, .ref a39])), (a36, .inl (cI, 4, .inl xF24)), (a37, .inl (cI, 4, .inl xF25)), (a38, .inl (cZ, 4, .inl xF26)), (a39, .inl (cJ, 240, .inr (.inl xG27)))]) [0, 1, 2, 3, 4, 5] (by decide) rfl
    rw [hQ]
    exact W.iret (v := (-2)) hx hb hr (fun t ht hW => ⟨⟨(-2), (pickG 0 [], pickG (fun _ => 0) [xF24, xF25, xF26], pickG (fun _ => 0) [xG27]), rfl, ⟨(show (-3 : Int) ≤ ((-2) : Int32).toInt ∧ ((-2) : Int32).toInt ≤ 0 from ⟨by omega, by omega⟩), (show rng xF25 4 0 60 from p_0), (show rng xF26 4 0 1 from p_1), (show PUT (SLOK p0 p1 p2) xF26 xF26 p0 (vp_nar .boolean (1 : Int32)) from PUT_out (by unfold SLOK; omega)), (show PUT (SLOK p0 p1 p2) xF25 xF25 p0 p2 from PUT_out (by unfold SLOK; omega)), (show PUT (SLOK p0 p1 p2) xF24 xF24 p0 p1 from PUT_out (by unfold SLOK; omega)), trivial⟩, (by rw [ht]; exact hP9), hD9⟩, hS.F ht⟩) hS.2.2 dX11_row_24
  · rw [ki_eq] at c6
    have hw4q := hw4 (by omega)
    clear hw4
    refine lv_iload_n hx hb dX11_row_7 rfl (lv_at hl 2 rfl) ?_
    refine lv_if_lt (tgt := 22) hx hb dX11_row_8 (by decide) (fun c7 => ?_) (fun c7 => ?_)
    · rw [ki_lt] at c7
      refine lv_bipush (v := (-2)) hx hb dX11_row_22 (by decide) ?_
      have hP9 := hP.sub (ws' := [(a0, .inr (11, [.ref a1, .ref a2, .ref a3, .ref a4, .ref a5, .ref a6, .ref a7, .ref a8, .ref a9, .ref a10])), (a5, .inr (8, [.ref a36, .ref a37, .ref a38, .ref a39])), (a36, .inl (cI, 4, .inl xF24)), (a37, .inl (cI, 4, .inl xF25)), (a38, .inl (cZ, 4, .inl xF26)), (a39, .inl (cJ, 240, .inr (.inl xG27)))]) [0, 1, 2, 3, 4, 5] rfl
      have hD9 := hD.sub (ws' := [(a0, .inr (11, [.ref a1, .ref a2, .ref a3, .ref a4, .ref a5, .ref a6, .ref a7, .ref a8, .ref a9, .ref a10])), (a5, .inr (8, [.ref a36, .ref a37, .ref a38, .ref a39])), (a36, .inl (cI, 4, .inl xF24)), (a37, .inl (cI, 4, .inl xF25)), (a38, .inl (cZ, 4, .inl xF26)), (a39, .inl (cJ, 240, .inr (.inl xG27)))]) [0, 1, 2, 3, 4, 5] (by decide) rfl
      rw [hQ]
      exact W.iret (v := (-2)) hx hb hr (fun t ht hW => ⟨⟨(-2), (pickG 0 [], pickG (fun _ => 0) [xF24, xF25, xF26], pickG (fun _ => 0) [xG27]), rfl, ⟨(show (-3 : Int) ≤ ((-2) : Int32).toInt ∧ ((-2) : Int32).toInt ≤ 0 from ⟨by omega, by omega⟩), (show rng xF25 4 0 60 from p_0), (show rng xF26 4 0 1 from p_1), (show PUT (SLOK p0 p1 p2) xF26 xF26 p0 (vp_nar .boolean (1 : Int32)) from PUT_out (by unfold SLOK; omega)), (show PUT (SLOK p0 p1 p2) xF25 xF25 p0 p2 from PUT_out (by unfold SLOK; omega)), (show PUT (SLOK p0 p1 p2) xF24 xF24 p0 p1 from PUT_out (by unfold SLOK; omega)), trivial⟩, (by rw [ht]; exact hP9), hD9⟩, hS.F ht⟩) hS.2.2 dX11_row_24
    · rw [ki_lt] at c7
      refine lv_iload_n hx hb dX11_row_11 rfl (lv_at hl 2 rfl) ?_
      refine lv_iconst (v := 3) hx hb dX11_row_12 (by decide) ?_
      refine lv_icmp_gt (tgt := 22) hx hb dX11_row_13 (by decide) (fun c8 => ?_) (fun c8 => ?_)
      · rw [ki_lt] at c8
        refine lv_bipush (v := (-2)) hx hb dX11_row_22 (by decide) ?_
        have hP9 := hP.sub (ws' := [(a0, .inr (11, [.ref a1, .ref a2, .ref a3, .ref a4, .ref a5, .ref a6, .ref a7, .ref a8, .ref a9, .ref a10])), (a5, .inr (8, [.ref a36, .ref a37, .ref a38, .ref a39])), (a36, .inl (cI, 4, .inl xF24)), (a37, .inl (cI, 4, .inl xF25)), (a38, .inl (cZ, 4, .inl xF26)), (a39, .inl (cJ, 240, .inr (.inl xG27)))]) [0, 1, 2, 3, 4, 5] rfl
        have hD9 := hD.sub (ws' := [(a0, .inr (11, [.ref a1, .ref a2, .ref a3, .ref a4, .ref a5, .ref a6, .ref a7, .ref a8, .ref a9, .ref a10])), (a5, .inr (8, [.ref a36, .ref a37, .ref a38, .ref a39])), (a36, .inl (cI, 4, .inl xF24)), (a37, .inl (cI, 4, .inl xF25)), (a38, .inl (cZ, 4, .inl xF26)), (a39, .inl (cJ, 240, .inr (.inl xG27)))]) [0, 1, 2, 3, 4, 5] (by decide) rfl
        rw [hQ]
        exact W.iret (v := (-2)) hx hb hr (fun t ht hW => ⟨⟨(-2), (pickG 0 [], pickG (fun _ => 0) [xF24, xF25, xF26], pickG (fun _ => 0) [xG27]), rfl, ⟨(show (-3 : Int) ≤ ((-2) : Int32).toInt ∧ ((-2) : Int32).toInt ≤ 0 from ⟨by omega, by omega⟩), (show rng xF25 4 0 60 from p_0), (show rng xF26 4 0 1 from p_1), (show PUT (SLOK p0 p1 p2) xF26 xF26 p0 (vp_nar .boolean (1 : Int32)) from PUT_out (by unfold SLOK; omega)), (show PUT (SLOK p0 p1 p2) xF25 xF25 p0 p2 from PUT_out (by unfold SLOK; omega)), (show PUT (SLOK p0 p1 p2) xF24 xF24 p0 p1 from PUT_out (by unfold SLOK; omega)), trivial⟩, (by rw [ht]; exact hP9), hD9⟩, hS.F ht⟩) hS.2.2 dX11_row_24
      · rw [ki_lt] at c8
        refine lv_iload_n hx hb dX11_row_16 rfl (lv_at hl 3 rfl) ?_
        refine lv_bipush (v := 60) hx hb dX11_row_17 (by decide) ?_
        refine lv_icmp_le (tgt := 25) hx hb dX11_row_19 (by decide) (fun c9 => ?_) (fun c9 => ?_)
        · rw [ki_le] at c9
          refine lv_iload_n hx hb dX11_row_25 rfl (lv_at hl 3 rfl) ?_
          refine lv_if_ge (tgt := 32) hx hb dX11_row_26 (by decide) (fun c10 => ?_) (fun c10 => ?_)
          · rw [ki_le] at c10
            refine lv_aload_n hx hb dX11_row_32 rfl (lv_at hl 0 rfl) ?_
            refine va_get (D := (dC, dI)) (ci := 11) (v := .ref a5) (C := RX11) (T := TX11) (N := 10) hx hb hwd inlX11 hown hK hP 0 rfl rfl 4 (by decide) (hwd _ kr16_11) (fun _ h9 => h9) rfl dX11_row_33 ?_
            refine lv_iload_n hx hb dX11_row_36 rfl (lv_at hl 1 rfl) ?_
            refine lv_iload_n hx hb dX11_row_37 rfl (lv_at hl 2 rfl) ?_
            refine lv_iload_n hx hb dX11_row_38 rfl (lv_at hl 3 rfl) ?_
            have hPc := hP.sub (ws' := [(a5, .inr (8, [.ref a36, .ref a37, .ref a38, .ref a39])), (a36, .inl (cI, 4, .inl xF24)), (a37, .inl (cI, 4, .inl xF25)), (a38, .inl (cZ, 4, .inl xF26)), (a39, .inl (cJ, 240, .inr (.inl xG27)))]) [1, 2, 3, 4, 5] rfl
            have hDc := hD.sub (ws' := [(a5, .inr (8, [.ref a36, .ref a37, .ref a38, .ref a39])), (a36, .inl (cI, 4, .inl xF24)), (a37, .inl (cI, 4, .inl xF25)), (a38, .inl (cZ, 4, .inl xF26)), (a39, .inl (cJ, 240, .inr (.inl xG27)))]) [1, 2, 3, 4, 5] (by decide) rfl
            have hFc := va_free (wc := [(a5, .inr (8, [.ref a36, .ref a37, .ref a38, .ref a39])), (a36, .inl (cI, 4, .inl xF24)), (a37, .inl (cI, 4, .inl xF25)), (a38, .inl (cZ, 4, .inl xF26)), (a39, .inl (cJ, 240, .inr (.inl xG27)))]) hD hS hA [1, 2, 3, 4, 5] rfl
            refine va_callv (va_runV (As := [.int p0, .int p1, .int p2]) (rest := []) ⟨hx, hb, hml, hown, hwd⟩ (s_X8_makeRowR l dC dI cI cZ cB cJ cM cG a5 a36 a37 a38 a39 xF24 xF25 xF26 xG27 p0 p1 p2 H.size (show rng xF25 4 0 60 from p_0) (show rng xF26 4 0 1 from p_1) (show (0 : Int) ≤ p0.toInt ∧ p0.toInt ≤ 3 from ⟨by omega, by omega⟩) (show (0 : Int) ≤ p2.toInt ∧ p2.toInt ≤ 60 from ⟨by omega, by omega⟩)) (cwV 3 hwd (gV kr47_13 kr47_14 kr47_15 kr5_16 kr47_16) rfl rfl rfl (by decide +kernel) ⟨Nat.le_of_ble_eq_true rfl, Nat.le_of_ble_eq_true rfl⟩) (kPreV hPc hK hDc (ci := 8) (q0 := 0) rfl rfl) rfl rfl hl.1 rfl (lv_room (Nat.le_of_ble_eq_true rfl)) dX11_row_39 ⟨Nat.le_of_ble_eq_true rfl, Nat.le_of_ble_eq_true rfl⟩) hS (fun q _ h => hFc q h) hFc (fun u12 t H1 locs ht9 hvm hw hB hz1 hk1 hS => ?_)
            obtain ⟨u13, U13, V13⟩ := u12
            obtain ⟨hw14, hw15, hw16, hw17, hw18, -⟩ := hw
            replace hw14 : rng (U13 1) 4 0 60 := hw14
            replace hw15 : rng (U13 2) 4 0 1 := hw15
            replace hw16 : PUT True xF26 (U13 2) p0 (vp_nar .boolean (1 : Int32)) := hw16
            replace hw17 : PUT True xF25 (U13 1) p0 p2 := hw17
            replace hw18 : PUT True xF24 (U13 0) p0 p1 := hw18
            obtain ⟨hP1, hD1⟩ := hB
            rw [ht9] at hP1
            obtain ⟨hP, hD⟩ := va_join (wr := [(a0, .inr (11, [.ref a1, .ref a2, .ref a3, .ref a4, .ref a5, .ref a6, .ref a7, .ref a8, .ref a9, .ref a10]))]) (w1 := [(a5, .inr (8, [.ref a36, .ref a37, .ref a38, .ref a39])), (a36, .inl (cI, 4, .inl (U13 0))), (a37, .inl (cI, 4, .inl (U13 1))), (a38, .inl (cZ, 4, .inl (U13 2))), (a39, .inl (cJ, 240, .inr (.inl (V13 0))))]) hP hD [1, 2, 3, 4, 5] [0] rfl rfl (by decide) (by decide) hk1 hFc hP1 hD1
            generalize H1 = H at hP hS ⊢
            replace hP : va_P (dC, dI) vwCl [(a0, .inr (11, [.ref a1, .ref a2, .ref a3, .ref a4, .ref a5, .ref a6, .ref a7, .ref a8, .ref a9, .ref a10])), (a5, .inr (8, [.ref a36, .ref a37, .ref a38, .ref a39])), (a36, .inl (cI, 4, .inl (U13 0))), (a37, .inl (cI, 4, .inl (U13 1))), (a38, .inl (cZ, 4, .inl (U13 2))), (a39, .inl (cJ, 240, .inr (.inl (V13 0))))] H := hP
            replace hD : va_D A [(a0, .inr (11, [.ref a1, .ref a2, .ref a3, .ref a4, .ref a5, .ref a6, .ref a7, .ref a8, .ref a9, .ref a10])), (a5, .inr (8, [.ref a36, .ref a37, .ref a38, .ref a39])), (a36, .inl (cI, 4, .inl (U13 0))), (a37, .inl (cI, 4, .inl (U13 1))), (a38, .inl (cZ, 4, .inl (U13 2))), (a39, .inl (cJ, 240, .inr (.inl (V13 0))))] := hD
            refine lv_iconst (v := 0) hx hb dX11_row_42 (by decide) ?_
            have hP9 := hP.sub (ws' := [(a0, .inr (11, [.ref a1, .ref a2, .ref a3, .ref a4, .ref a5, .ref a6, .ref a7, .ref a8, .ref a9, .ref a10])), (a5, .inr (8, [.ref a36, .ref a37, .ref a38, .ref a39])), (a36, .inl (cI, 4, .inl (U13 0))), (a37, .inl (cI, 4, .inl (U13 1))), (a38, .inl (cZ, 4, .inl (U13 2))), (a39, .inl (cJ, 240, .inr (.inl (V13 0))))]) [0, 1, 2, 3, 4, 5] rfl
            have hD9 := hD.sub (ws' := [(a0, .inr (11, [.ref a1, .ref a2, .ref a3, .ref a4, .ref a5, .ref a6, .ref a7, .ref a8, .ref a9, .ref a10])), (a5, .inr (8, [.ref a36, .ref a37, .ref a38, .ref a39])), (a36, .inl (cI, 4, .inl (U13 0))), (a37, .inl (cI, 4, .inl (U13 1))), (a38, .inl (cZ, 4, .inl (U13 2))), (a39, .inl (cJ, 240, .inr (.inl (V13 0))))]) [0, 1, 2, 3, 4, 5] (by decide) rfl
            rw [hQ]
            exact W.iret (v := 0) hx hb hr (fun t ht hW => ⟨⟨0, (pickG 0 [], pickG (fun _ => 0) [(U13 0), (U13 1), (U13 2)], pickG (fun _ => 0) [(V13 0)]), rfl, ⟨(show (-3 : Int) ≤ (0 : Int32).toInt ∧ (0 : Int32).toInt ≤ 0 from ⟨by omega, by omega⟩), (show rng (U13 1) 4 0 60 from hw14), (show rng (U13 2) 4 0 1 from hw15), (show PUT (SLOK p0 p1 p2) xF26 (U13 2) p0 (vp_nar .boolean (1 : Int32)) from PUT_of hw16 (by unfold SLOK; omega)), (show PUT (SLOK p0 p1 p2) xF25 (U13 1) p0 p2 from PUT_of hw17 (by unfold SLOK; omega)), (show PUT (SLOK p0 p1 p2) xF24 (U13 0) p0 p1 from PUT_of hw18 (by unfold SLOK; omega)), trivial⟩, (by rw [ht]; exact hP9), hD9⟩, hS.F ht⟩) hS.2.2 dX11_row_43
          · rw [ki_le] at c10
            refine lv_bipush (v := (-3)) hx hb dX11_row_29 (by decide) ?_
            have hP9 := hP.sub (ws' := [(a0, .inr (11, [.ref a1, .ref a2, .ref a3, .ref a4, .ref a5, .ref a6, .ref a7, .ref a8, .ref a9, .ref a10])), (a5, .inr (8, [.ref a36, .ref a37, .ref a38, .ref a39])), (a36, .inl (cI, 4, .inl xF24)), (a37, .inl (cI, 4, .inl xF25)), (a38, .inl (cZ, 4, .inl xF26)), (a39, .inl (cJ, 240, .inr (.inl xG27)))]) [0, 1, 2, 3, 4, 5] rfl
            have hD9 := hD.sub (ws' := [(a0, .inr (11, [.ref a1, .ref a2, .ref a3, .ref a4, .ref a5, .ref a6, .ref a7, .ref a8, .ref a9, .ref a10])), (a5, .inr (8, [.ref a36, .ref a37, .ref a38, .ref a39])), (a36, .inl (cI, 4, .inl xF24)), (a37, .inl (cI, 4, .inl xF25)), (a38, .inl (cZ, 4, .inl xF26)), (a39, .inl (cJ, 240, .inr (.inl xG27)))]) [0, 1, 2, 3, 4, 5] (by decide) rfl
            rw [hQ]
            exact W.iret (v := (-3)) hx hb hr (fun t ht hW => ⟨⟨(-3), (pickG 0 [], pickG (fun _ => 0) [xF24, xF25, xF26], pickG (fun _ => 0) [xG27]), rfl, ⟨(show (-3 : Int) ≤ ((-3) : Int32).toInt ∧ ((-3) : Int32).toInt ≤ 0 from ⟨by omega, by omega⟩), (show rng xF25 4 0 60 from p_0), (show rng xF26 4 0 1 from p_1), (show PUT (SLOK p0 p1 p2) xF26 xF26 p0 (vp_nar .boolean (1 : Int32)) from PUT_out (by unfold SLOK; omega)), (show PUT (SLOK p0 p1 p2) xF25 xF25 p0 p2 from PUT_out (by unfold SLOK; omega)), (show PUT (SLOK p0 p1 p2) xF24 xF24 p0 p1 from PUT_out (by unfold SLOK; omega)), trivial⟩, (by rw [ht]; exact hP9), hD9⟩, hS.F ht⟩) hS.2.2 dX11_row_31
        · rw [ki_le] at c9
          refine lv_bipush (v := (-2)) hx hb dX11_row_22 (by decide) ?_
          have hP9 := hP.sub (ws' := [(a0, .inr (11, [.ref a1, .ref a2, .ref a3, .ref a4, .ref a5, .ref a6, .ref a7, .ref a8, .ref a9, .ref a10])), (a5, .inr (8, [.ref a36, .ref a37, .ref a38, .ref a39])), (a36, .inl (cI, 4, .inl xF24)), (a37, .inl (cI, 4, .inl xF25)), (a38, .inl (cZ, 4, .inl xF26)), (a39, .inl (cJ, 240, .inr (.inl xG27)))]) [0, 1, 2, 3, 4, 5] rfl
          have hD9 := hD.sub (ws' := [(a0, .inr (11, [.ref a1, .ref a2, .ref a3, .ref a4, .ref a5, .ref a6, .ref a7, .ref a8, .ref a9, .ref a10])), (a5, .inr (8, [.ref a36, .ref a37, .ref a38, .ref a39])), (a36, .inl (cI, 4, .inl xF24)), (a37, .inl (cI, 4, .inl xF25)), (a38, .inl (cZ, 4, .inl xF26)), (a39, .inl (cJ, 240, .inr (.inl xG27)))]) [0, 1, 2, 3, 4, 5] (by decide) rfl
          rw [hQ]
          exact W.iret (v := (-2)) hx hb hr (fun t ht hW => ⟨⟨(-2), (pickG 0 [], pickG (fun _ => 0) [xF24, xF25, xF26], pickG (fun _ => 0) [xG27]), rfl, ⟨(show (-3 : Int) ≤ ((-2) : Int32).toInt ∧ ((-2) : Int32).toInt ≤ 0 from ⟨by omega, by omega⟩), (show rng xF25 4 0 60 from p_0), (show rng xF26 4 0 1 from p_1), (show PUT (SLOK p0 p1 p2) xF26 xF26 p0 (vp_nar .boolean (1 : Int32)) from PUT_out (by unfold SLOK; omega)), (show PUT (SLOK p0 p1 p2) xF25 xF25 p0 p2 from PUT_out (by unfold SLOK; omega)), (show PUT (SLOK p0 p1 p2) xF24 xF24 p0 p1 from PUT_out (by unfold SLOK; omega)), trivial⟩, (by rw [ht]; exact hP9), hD9⟩, hS.F ht⟩) hS.2.2 dX11_row_24
