theorem dX12_clash_0 : decode cX12_clash 0 = .ok (.aload_n 0, 1) := by decide +kernel
theorem dX12_clash_1 : decode cX12_clash 1 = .ok (.iload_n 1, 1) := by decide +kernel
theorem dX12_clash_2 : decode cX12_clash 2 = .ok (.invokevirtual 417, 3) := by decide +kernel
theorem dX12_clash_5 : decode cX12_clash 5 = .ok (.istore_n 2, 1) := by decide +kernel
theorem dX12_clash_6 : decode cX12_clash 6 = .ok (.iload_n 2, 1) := by decide +kernel
theorem dX12_clash_7 : decode cX12_clash 7 = .ok (.ifCond .ge 5, 3) := by decide +kernel
theorem dX12_clash_10 : decode cX12_clash 10 = .ok (.iload_n 2, 1) := by decide +kernel
theorem dX12_clash_11 : decode cX12_clash 11 = .ok (.ireturn, 1) := by decide +kernel
theorem dX12_clash_12 : decode cX12_clash 12 = .ok (.iconst 0, 1) := by decide +kernel
theorem dX12_clash_13 : decode cX12_clash 13 = .ok (.istore_n 3, 1) := by decide +kernel
theorem dX12_clash_14 : decode cX12_clash 14 = .ok (.iconst 1, 1) := by decide +kernel
theorem dX12_clash_15 : decode cX12_clash 15 = .ok (.istore 4, 2) := by decide +kernel
theorem dX12_clash_17 : decode cX12_clash 17 = .ok (.iload 4, 2) := by decide +kernel
theorem dX12_clash_19 : decode cX12_clash 19 = .ok (.iconst 1, 1) := by decide +kernel
theorem dX12_clash_20 : decode cX12_clash 20 = .ok (.aload_n 0, 1) := by decide +kernel
theorem dX12_clash_21 : decode cX12_clash 21 = .ok (.getfield 79, 3) := by decide +kernel
theorem dX12_clash_24 : decode cX12_clash 24 = .ok (.iload_n 1, 1) := by decide +kernel
theorem dX12_clash_25 : decode cX12_clash 25 = .ok (.iaload, 1) := by decide +kernel
theorem dX12_clash_26 : decode cX12_clash 26 = .ok (.ishl, 1) := by decide +kernel
theorem dX12_clash_27 : decode cX12_clash 27 = .ok (.if_icmp .ge 143, 3) := by decide +kernel
theorem dX12_clash_30 : decode cX12_clash 30 = .ok (.iconst 0, 1) := by decide +kernel
theorem dX12_clash_31 : decode cX12_clash 31 = .ok (.istore 5, 2) := by decide +kernel
theorem dX12_clash_33 : decode cX12_clash 33 = .ok (.iconst 1, 1) := by decide +kernel
theorem dX12_clash_34 : decode cX12_clash 34 = .ok (.istore 6, 2) := by decide +kernel
theorem dX12_clash_36 : decode cX12_clash 36 = .ok (.iconst 0, 1) := by decide +kernel
theorem dX12_clash_37 : decode cX12_clash 37 = .ok (.istore 7, 2) := by decide +kernel
theorem dX12_clash_39 : decode cX12_clash 39 = .ok (.iload 7, 2) := by decide +kernel
theorem dX12_clash_41 : decode cX12_clash 41 = .ok (.aload_n 0, 1) := by decide +kernel
theorem dX12_clash_42 : decode cX12_clash 42 = .ok (.getfield 79, 3) := by decide +kernel
theorem dX12_clash_45 : decode cX12_clash 45 = .ok (.iload_n 1, 1) := by decide +kernel
theorem dX12_clash_46 : decode cX12_clash 46 = .ok (.iaload, 1) := by decide +kernel
theorem dX12_clash_47 : decode cX12_clash 47 = .ok (.if_icmp .ge 101, 3) := by decide +kernel
theorem dX12_clash_50 : decode cX12_clash 50 = .ok (.iload 5, 2) := by decide +kernel
theorem dX12_clash_52 : decode cX12_clash 52 = .ok (.iload 4, 2) := by decide +kernel
theorem dX12_clash_54 : decode cX12_clash 54 = .ok (.iload 7, 2) := by decide +kernel
theorem dX12_clash_56 : decode cX12_clash 56 = .ok (.ishr, 1) := by decide +kernel
theorem dX12_clash_57 : decode cX12_clash 57 = .ok (.iconst 1, 1) := by decide +kernel
theorem dX12_clash_58 : decode cX12_clash 58 = .ok (.iand, 1) := by decide +kernel
theorem dX12_clash_59 : decode cX12_clash 59 = .ok (.iadd, 1) := by decide +kernel
theorem dX12_clash_60 : decode cX12_clash 60 = .ok (.istore 5, 2) := by decide +kernel
theorem dX12_clash_62 : decode cX12_clash 62 = .ok (.iconst 0, 1) := by decide +kernel
theorem dX12_clash_63 : decode cX12_clash 63 = .ok (.istore 8, 2) := by decide +kernel
theorem dX12_clash_65 : decode cX12_clash 65 = .ok (.iload 8, 2) := by decide +kernel
theorem dX12_clash_67 : decode cX12_clash 67 = .ok (.iload 7, 2) := by decide +kernel
theorem dX12_clash_69 : decode cX12_clash 69 = .ok (.if_icmp .ge 73, 3) := by decide +kernel
theorem dX12_clash_72 : decode cX12_clash 72 = .ok (.iload 6, 2) := by decide +kernel
theorem dX12_clash_74 : decode cX12_clash 74 = .ok (.ifCond .eq 59, 3) := by decide +kernel
theorem dX12_clash_77 : decode cX12_clash 77 = .ok (.iload 4, 2) := by decide +kernel
theorem dX12_clash_79 : decode cX12_clash 79 = .ok (.iload 7, 2) := by decide +kernel
theorem dX12_clash_81 : decode cX12_clash 81 = .ok (.ishr, 1) := by decide +kernel
theorem dX12_clash_82 : decode cX12_clash 82 = .ok (.iload 4, 2) := by decide +kernel
theorem dX12_clash_84 : decode cX12_clash 84 = .ok (.iload 8, 2) := by decide +kernel
theorem dX12_clash_86 : decode cX12_clash 86 = .ok (.ishr, 1) := by decide +kernel
theorem dX12_clash_87 : decode cX12_clash 87 = .ok (.iand, 1) := by decide +kernel
theorem dX12_clash_88 : decode cX12_clash 88 = .ok (.iconst 1, 1) := by decide +kernel
theorem dX12_clash_89 : decode cX12_clash 89 = .ok (.iand, 1) := by decide +kernel
theorem dX12_clash_90 : decode cX12_clash 90 = .ok (.ifCond .eq 39, 3) := by decide +kernel
theorem dX12_clash_93 : decode cX12_clash 93 = .ok (.aload_n 0, 1) := by decide +kernel
theorem dX12_clash_94 : decode cX12_clash 94 = .ok (.getfield 85, 3) := by decide +kernel
theorem dX12_clash_97 : decode cX12_clash 97 = .ok (.bipush 60, 2) := by decide +kernel
theorem dX12_clash_99 : decode cX12_clash 99 = .ok (.iload_n 1, 1) := by decide +kernel
theorem dX12_clash_100 : decode cX12_clash 100 = .ok (.imul, 1) := by decide +kernel
theorem dX12_clash_101 : decode cX12_clash 101 = .ok (.iload 7, 2) := by decide +kernel
theorem dX12_clash_103 : decode cX12_clash 103 = .ok (.iadd, 1) := by decide +kernel
theorem dX12_clash_104 : decode cX12_clash 104 = .ok (.laload, 1) := by decide +kernel
theorem dX12_clash_105 : decode cX12_clash 105 = .ok (.aload_n 0, 1) := by decide +kernel
theorem dX12_clash_106 : decode cX12_clash 106 = .ok (.getfield 85, 3) := by decide +kernel
theorem dX12_clash_109 : decode cX12_clash 109 = .ok (.bipush 60, 2) := by decide +kernel
theorem dX12_clash_111 : decode cX12_clash 111 = .ok (.iload_n 1, 1) := by decide +kernel
theorem dX12_clash_112 : decode cX12_clash 112 = .ok (.imul, 1) := by decide +kernel
theorem dX12_clash_113 : decode cX12_clash 113 = .ok (.iload 8, 2) := by decide +kernel
theorem dX12_clash_115 : decode cX12_clash 115 = .ok (.iadd, 1) := by decide +kernel
theorem dX12_clash_116 : decode cX12_clash 116 = .ok (.laload, 1) := by decide +kernel
theorem dX12_clash_117 : decode cX12_clash 117 = .ok (.ladd, 1) := by decide +kernel
theorem dX12_clash_118 : decode cX12_clash 118 = .ok (.aload_n 0, 1) := by decide +kernel
theorem dX12_clash_119 : decode cX12_clash 119 = .ok (.getfield 13, 3) := by decide +kernel
theorem dX12_clash_122 : decode cX12_clash 122 = .ok (.iconst 1, 1) := by decide +kernel
theorem dX12_clash_123 : decode cX12_clash 123 = .ok (.iaload, 1) := by decide +kernel
theorem dX12_clash_124 : decode cX12_clash 124 = .ok (.i2l, 1) := by decide +kernel
theorem dX12_clash_125 : decode cX12_clash 125 = .ok (.lcmp, 1) := by decide +kernel
theorem dX12_clash_126 : decode cX12_clash 126 = .ok (.ifCond .le 7, 3) := by decide +kernel
theorem dX12_clash_129 : decode cX12_clash 129 = .ok (.iconst 1, 1) := by decide +kernel
theorem dX12_clash_130 : decode cX12_clash 130 = .ok (.goto 4, 3) := by decide +kernel
theorem dX12_clash_133 : decode cX12_clash 133 = .ok (.iconst 0, 1) := by decide +kernel
theorem dX12_clash_134 : decode cX12_clash 134 = .ok (.istore 6, 2) := by decide +kernel
theorem dX12_clash_136 : decode cX12_clash 136 = .ok (.iinc 8 1, 3) := by decide +kernel
theorem dX12_clash_139 : decode cX12_clash 139 = .ok (.goto (-74), 3) := by decide +kernel
theorem dX12_clash_142 : decode cX12_clash 142 = .ok (.iinc 7 1, 3) := by decide +kernel
theorem dX12_clash_145 : decode cX12_clash 145 = .ok (.goto (-106), 3) := by decide +kernel
theorem dX12_clash_148 : decode cX12_clash 148 = .ok (.iload 6, 2) := by decide +kernel
theorem dX12_clash_150 : decode cX12_clash 150 = .ok (.ifCond .eq 12, 3) := by decide +kernel
theorem dX12_clash_153 : decode cX12_clash 153 = .ok (.iload_n 3, 1) := by decide +kernel
theorem dX12_clash_154 : decode cX12_clash 154 = .ok (.iload 5, 2) := by decide +kernel
theorem dX12_clash_156 : decode cX12_clash 156 = .ok (.invokestatic 257, 3) := by decide +kernel
theorem dX12_clash_159 : decode cX12_clash 159 = .ok (.goto 4, 3) := by decide +kernel
theorem dX12_clash_162 : decode cX12_clash 162 = .ok (.iload_n 3, 1) := by decide +kernel
theorem dX12_clash_163 : decode cX12_clash 163 = .ok (.istore_n 3, 1) := by decide +kernel
theorem dX12_clash_164 : decode cX12_clash 164 = .ok (.iinc 4 1, 3) := by decide +kernel
theorem dX12_clash_167 : decode cX12_clash 167 = .ok (.goto (-150), 3) := by decide +kernel
theorem dX12_clash_170 : decode cX12_clash 170 = .ok (.iload_n 3, 1) := by decide +kernel
theorem dX12_clash_171 : decode cX12_clash 171 = .ok (.ireturn, 1) := by decide +kernel
set_option maxHeartbeats 4000000 in
set_option maxRecDepth 100000 in
theorem s_X12_clash (l : Launch) (dC : Nat → ClassId) (dI : Nat → Nat → Nat) (cI cZ cB cJ cM cG : ClassId) (a0 a1 a2 a3 a4 a5 a6 a7 a8 a9 a10 a11 a12 a13 a14 a15 a16 a17 a18 a19 a20 a21 a22 a23 a24 : Nat) (i0 i1 i2 i3 i4 i5 i6 i7 i8 i9 i10 i11 i12 i13 i14 i15 i16 : Int32) (j0 : Int64) (xF0 xF20 : Nat → Int32) (xG22 : Nat → Int64) (p0 : Int32) (cp : Int) (sz : Nat) (p_0 : (0 : Int) ≤ i1.toInt ∧ i1.toInt ≤ 1600) (p_1 : (0 : Int) ≤ i2.toInt ∧ i2.toInt ≤ 1600) (p_2 : (0 : Int) ≤ i3.toInt ∧ i3.toInt ≤ 1600) (p_3 : (0 : Int) ≤ i4.toInt ∧ i4.toInt ≤ 1600) (p_4 : (0 : Int) ≤ i5.toInt ∧ i5.toInt ≤ 6) (p_5 : (0 : Int) ≤ i7.toInt ∧ i7.toInt ≤ 3) (p_6 : (0 : Int) ≤ i11.toInt ∧ i11.toInt ≤ 59) (p_7 : WI cp xF0) (p_8 : rng xF20 4 (-1) 60) (p_9 : MI xF20) (p_10 : 0 ≤ cp ∧ cp ≤ 2000000000) : Met l yX12_clash (kw yX12_clash cX12_clash 9 (some .int)) ({ frames := 3, cells := 0, slots := 0, locals := 67 } : Room) (va_Pc [.ref a0, .int p0] (kPre dC dI [(cI, .int), (cZ, .boolean), (cB, .byte), (cJ, .long), (cM, .object RX2), (cG, .array .int)] [(a0, .inr (12, [.int i0, .ref a1, .ref a2, .ref a3, .ref a4, .int i1, .ref a5, .int i2, .int i3, .int i4, .int i5, .int i6, .int i7, .int i8, .ref a6, .ref a7, .ref a8, .ref a9, .ref a10, .ref a11, .ref a12, .int i9, .ref a13, .int i10, .ref a14, .ref a15, .int i11, .ref a16, .ref a17, .ref a18, .ref a19, .int i12, .int i13, .int i14, .int i15, .int i16, .ref a20, .long j0, .ref a21, .ref a22, .ref a23, .ref a24])), (a1, .inl (cI, 544, .inl xF0)), (a21, .inl (cI, 4, .inl xF20)), (a23, .inl (cJ, 240, .inr (.inl xG22)))] sz)) (va_Qi (fun (r : Int32) (u9 : Unit) => ((-6 : Int) ≤ r.toInt ∧ r.toInt ≤ 2147483647) ∧ True) (fun u9 t => va_P (dC, dI) vwCl [(a0, .inr (12, [.int i0, .ref a1, .ref a2, .ref a3, .ref a4, .int i1, .ref a5, .int i2, .int i3, .int i4, .int i5, .int i6, .int i7, .int i8, .ref a6, .ref a7, .ref a8, .ref a9, .ref a10, .ref a11, .ref a12, .int i9, .ref a13, .int i10, .ref a14, .ref a15, .int i11, .ref a16, .ref a17, .ref a18, .ref a19, .int i12, .int i13, .int i14, .int i15, .int i16, .ref a20, .long j0, .ref a21, .ref a22, .ref a23, .ref a24])), (a1, .inl (cI, 544, .inl xF0)), (a21, .inl (cI, 4, .inl xF20)), (a23, .inl (cJ, 240, .inr (.inl xG22)))] t.heap ∧ va_D (va_A [(a0, .inr (12, [.int i0, .ref a1, .ref a2, .ref a3, .ref a4, .int i1, .ref a5, .int i2, .int i3, .int i4, .int i5, .int i6, .int i7, .int i8, .ref a6, .ref a7, .ref a8, .ref a9, .ref a10, .ref a11, .ref a12, .int i9, .ref a13, .int i10, .ref a14, .ref a15, .int i11, .ref a16, .ref a17, .ref a18, .ref a19, .int i12, .int i13, .int i14, .int i15, .int i16, .ref a20, .long j0, .ref a21, .ref a22, .ref a23, .ref a24])), (a1, .inl (cI, 544, .inl xF0)), (a21, .inl (cI, 4, .inl xF20)), (a23, .inl (cJ, 240, .inr (.inl xG22)))] sz) [(a0, .inr (12, [.int i0, .ref a1, .ref a2, .ref a3, .ref a4, .int i1, .ref a5, .int i2, .int i3, .int i4, .int i5, .int i6, .int i7, .int i8, .ref a6, .ref a7, .ref a8, .ref a9, .ref a10, .ref a11, .ref a12, .int i9, .ref a13, .int i10, .ref a14, .ref a15, .int i11, .ref a16, .ref a17, .ref a18, .ref a19, .int i12, .int i13, .int i14, .int i15, .int i16, .ref a20, .long j0, .ref a21, .ref a22, .ref a23, .ref a24])), (a1, .inl (cI, 544, .inl xF0)), (a21, .inl (cI, 4, .inl xF20)), (a23, .inl (cJ, 240, .inr (.inl xG22)))]) (va_A [(a0, .inr (12, [.int i0, .ref a1, .ref a2, .ref a3, .ref a4, .int i1, .ref a5, .int i2, .int i3, .int i4, .int i5, .int i6, .int i7, .int i8, .ref a6, .ref a7, .ref a8, .ref a9, .ref a10, .ref a11, .ref a12, .int i9, .ref a13, .int i10, .ref a14, .ref a15, .int i11, .ref a16, .ref a17, .ref a18, .ref a19, .int i12, .int i13, .int i14, .int i15, .int i16, .ref a20, .long j0, .ref a21, .ref a22, .ref a23, .ref a24])), (a1, .inl (cI, 544, .inl xF0)), (a21, .inl (cI, 4, .inl xF20)), (a23, .inl (cJ, 240, .inr (.inl xG22)))] sz)) 0 0 (va_A [(a0, .inr (12, [.int i0, .ref a1, .ref a2, .ref a3, .ref a4, .int i1, .ref a5, .int i2, .int i3, .int i4, .int i5, .int i6, .int i7, .int i8, .ref a6, .ref a7, .ref a8, .ref a9, .ref a10, .ref a11, .ref a12, .int i9, .ref a13, .int i10, .ref a14, .ref a15, .int i11, .ref a16, .ref a17, .ref a18, .ref a19, .int i12, .int i13, .int i14, .int i15, .int i16, .ref a20, .long j0, .ref a21, .ref a22, .ref a23, .ref a24])), (a1, .inl (cI, 544, .inl xF0)), (a21, .inl (cI, 4, .inl xF20)), (a23, .inl (cJ, 240, .inr (.inl xG22)))] sz) := by
  refine kEnter (by decide) (Nat.le_of_ble_eq_true rfl) ?_
  intro p e s m below meth c ls hx hb hr hml hown hlocks hin hwd hsz hP hK hD hl
  subst hsz
  generalize hAe : va_A [(a0, .inr (12, [.int i0, .ref a1, .ref a2, .ref a3, .ref a4, .int i1, .ref a5, .int i2, .int i3, .int i4, .int i5, .int i6, .int i7, .int i8, .ref a6, .ref a7, .ref a8, .ref a9, .ref a10, .ref a11, .ref a12, .int i9, .ref a13, .int i10, .ref a14, .ref a15, .int i11, .ref a16, .ref a17, .ref a18, .ref a19, .int i12, .int i13, .int i14, .int i15, .int i16, .ref a20, .long j0, .ref a21, .ref a22, .ref a23, .ref a24])), (a1, .inl (cI, 544, .inl xF0)), (a21, .inl (cI, 4, .inl xF20)), (a23, .inl (cJ, 240, .inr (.inl xG22)))] s.heap.size = A at hD ⊢
  have hA : ∀ q : Nat, s.heap.size ≤ q → A q := fun q h => by rw [← hAe]; exact Or.inr h
  have hS : va_S A s.heap s.heap [] := va_S.rf
  have hl : lv_has ls 9 [(0, .ref a0), (1, .int p0)] := hl
  obtain ⟨Q, hQ⟩ : ∃ Q, Q = MQ below (va_Qi (fun (r : Int32) (u9 : Unit) => ((-6 : Int) ≤ r.toInt ∧ r.toInt ≤ 2147483647) ∧ True) (fun u9 t => va_P (dC, dI) vwCl [(a0, .inr (12, [.int i0, .ref a1, .ref a2, .ref a3, .ref a4, .int i1, .ref a5, .int i2, .int i3, .int i4, .int i5, .int i6, .int i7, .int i8, .ref a6, .ref a7, .ref a8, .ref a9, .ref a10, .ref a11, .ref a12, .int i9, .ref a13, .int i10, .ref a14, .ref a15, .int i11, .ref a16, .ref a17, .ref a18, .ref a19, .int i12, .int i13, .int i14, .int i15, .int i16, .ref a20, .long j0, .ref a21, .ref a22, .ref a23, .ref a24])), (a1, .inl (cI, 544, .inl xF0)), (a21, .inl (cI, 4, .inl xF20)), (a23, .inl (cJ, 240, .inr (.inl xG22)))] t.heap ∧ va_D A [(a0, .inr (12, [.int i0, .ref a1, .ref a2, .ref a3, .ref a4, .int i1, .ref a5, .int i2, .int i3, .int i4, .int i5, .int i6, .int i7, .int i8, .ref a6, .ref a7, .ref a8, .ref a9, .ref a10, .ref a11, .ref a12, .int i9, .ref a13, .int i10, .ref a14, .ref a15, .int i11, .ref a16, .ref a17, .ref a18, .ref a19, .int i12, .int i13, .int i14, .int i15, .int i16, .ref a20, .long j0, .ref a21, .ref a22, .ref a23, .ref a24])), (a1, .inl (cI, 544, .inl xF0)), (a21, .inl (cI, 4, .inl xF20)), (a23, .inl (cJ, 240, .inr (.inl xG22)))]) A) ([.ref a0, .int p0] : List Value).toArray s 0 0 A := ⟨_, rfl⟩
  rw [← hQ]
  have k0 : (0 : Int32).toInt = 0 := by decide
  have k1 : (1 : Int32).toInt = 1 := by decide
  have k3 : (3 : Int32).toInt = 3 := by decide
  have k60 : (60 : Int32).toInt = 60 := by decide
  refine lv_aload_n hx hb dX12_clash_0 rfl (lv_at hl 0 rfl) ?_
  refine lv_iload_n hx hb dX12_clash_1 rfl (lv_at hl 1 rfl) ?_
  have hPc := hP.sub (ws' := [(a0, .inr (12, [.int i0, .ref a1, .ref a2, .ref a3, .ref a4, .int i1, .ref a5, .int i2, .int i3, .int i4, .int i5, .int i6, .int i7, .int i8, .ref a6, .ref a7, .ref a8, .ref a9, .ref a10, .ref a11, .ref a12, .int i9, .ref a13, .int i10, .ref a14, .ref a15, .int i11, .ref a16, .ref a17, .ref a18, .ref a19, .int i12, .int i13, .int i14, .int i15, .int i16, .ref a20, .long j0, .ref a21, .ref a22, .ref a23, .ref a24])), (a1, .inl (cI, 544, .inl xF0)), (a21, .inl (cI, 4, .inl xF20)), (a23, .inl (cJ, 240, .inr (.inl xG22)))]) [0, 1, 2, 3] rfl
  have hDc := hD.sub (ws' := [(a0, .inr (12, [.int i0, .ref a1, .ref a2, .ref a3, .ref a4, .int i1, .ref a5, .int i2, .int i3, .int i4, .int i5, .int i6, .int i7, .int i8, .ref a6, .ref a7, .ref a8, .ref a9, .ref a10, .ref a11, .ref a12, .int i9, .ref a13, .int i10, .ref a14, .ref a15, .int i11, .ref a16, .ref a17, .ref a18, .ref a19, .int i12, .int i13, .int i14, .int i15, .int i16, .ref a20, .long j0, .ref a21, .ref a22, .ref a23, .ref a24])), (a1, .inl (cI, 544, .inl xF0)), (a21, .inl (cI, 4, .inl xF20)), (a23, .inl (cJ, 240, .inr (.inl xG22)))]) [0, 1, 2, 3] (by decide) rfl
  have hFc := va_free (wc := [(a0, .inr (12, [.int i0, .ref a1, .ref a2, .ref a3, .ref a4, .int i1, .ref a5, .int i2, .int i3, .int i4, .int i5, .int i6, .int i7, .int i8, .ref a6, .ref a7, .ref a8, .ref a9, .ref a10, .ref a11, .ref a12, .int i9, .ref a13, .int i10, .ref a14, .ref a15, .int i11, .ref a16, .ref a17, .ref a18, .ref a19, .int i12, .int i13, .int i14, .int i15, .int i16, .ref a20, .long j0, .ref a21, .ref a22, .ref a23, .ref a24])), (a1, .inl (cI, 544, .inl xF0)), (a21, .inl (cI, 4, .inl xF20)), (a23, .inl (cJ, 240, .inr (.inl xG22)))]) hD hS hA [0, 1, 2, 3] rfl
  refine va_calli (va_runV (As := [.int p0]) (rest := []) ⟨hx, hb, hml, hown, hwd⟩ (s_X12_asksMotions l dC dI cI cZ cB cJ cM cG a0 a1 a2 a3 a4 a5 a6 a7 a8 a9 a10 a11 a12 a13 a14 a15 a16 a17 a18 a19 a20 a21 a22 a23 a24 i0 i1 i2 i3 i4 i5 i6 i7 i8 i9 i10 i11 i12 i13 i14 i15 i16 j0 xF0 xF20 xG22 p0 cp s.heap.size (show (0 : Int) ≤ i1.toInt ∧ i1.toInt ≤ 1600 from p_0) (show (0 : Int) ≤ i2.toInt ∧ i2.toInt ≤ 1600 from p_1) (show (0 : Int) ≤ i3.toInt ∧ i3.toInt ≤ 1600 from p_2) (show (0 : Int) ≤ i4.toInt ∧ i4.toInt ≤ 1600 from p_3) (show (0 : Int) ≤ i5.toInt ∧ i5.toInt ≤ 6 from p_4) (show (0 : Int) ≤ i7.toInt ∧ i7.toInt ≤ 3 from p_5) (show (0 : Int) ≤ i11.toInt ∧ i11.toInt ≤ 59 from p_6) (show WI cp xF0 from p_7) (show rng xF20 4 (-1) 60 from p_8) (show MI xF20 from trivial) p_10) (cwV 1 hwd (gV kr64_21 kr64_22 kr5_0 kr5_23 kr64_23) rfl rfl rfl (by decide +kernel) ⟨Nat.le_of_ble_eq_true rfl, Nat.le_of_ble_eq_true rfl⟩) (kPreV hPc hK hDc (ci := 12) (q0 := 0) rfl rfl) rfl rfl hl.1 rfl (lv_room (Nat.le_of_ble_eq_true rfl)) dX12_clash_2 ⟨Nat.le_of_ble_eq_true rfl, Nat.le_of_ble_eq_true rfl⟩) hS (fun q _ h => hFc q h) hFc (fun r1 u2 t H1 locs ht9 hvm hw hB hz1 hk1 hS => ?_)
  obtain ⟨hw3, hw4, -⟩ := hw
  replace hw3 : (-6 : Int) ≤ r1.toInt ∧ r1.toInt ≤ 0 := hw3
  obtain ⟨hP1, hD1⟩ := hB
  rw [ht9] at hP1
  obtain ⟨hP, hD⟩ := va_join (wr := []) (w1 := [(a0, .inr (12, [.int i0, .ref a1, .ref a2, .ref a3, .ref a4, .int i1, .ref a5, .int i2, .int i3, .int i4, .int i5, .int i6, .int i7, .int i8, .ref a6, .ref a7, .ref a8, .ref a9, .ref a10, .ref a11, .ref a12, .int i9, .ref a13, .int i10, .ref a14, .ref a15, .int i11, .ref a16, .ref a17, .ref a18, .ref a19, .int i12, .int i13, .int i14, .int i15, .int i16, .ref a20, .long j0, .ref a21, .ref a22, .ref a23, .ref a24])), (a1, .inl (cI, 544, .inl xF0)), (a21, .inl (cI, 4, .inl xF20)), (a23, .inl (cJ, 240, .inr (.inl xG22)))]) hP hD [0, 1, 2, 3] [] rfl rfl (by decide) (by decide) hk1 hFc hP1 hD1
  generalize H1 = H at hP hS ⊢
  replace hP : va_P (dC, dI) vwCl [(a0, .inr (12, [.int i0, .ref a1, .ref a2, .ref a3, .ref a4, .int i1, .ref a5, .int i2, .int i3, .int i4, .int i5, .int i6, .int i7, .int i8, .ref a6, .ref a7, .ref a8, .ref a9, .ref a10, .ref a11, .ref a12, .int i9, .ref a13, .int i10, .ref a14, .ref a15, .int i11, .ref a16, .ref a17, .ref a18, .ref a19, .int i12, .int i13, .int i14, .int i15, .int i16, .ref a20, .long j0, .ref a21, .ref a22, .ref a23, .ref a24])), (a1, .inl (cI, 544, .inl xF0)), (a21, .inl (cI, 4, .inl xF20)), (a23, .inl (cJ, 240, .inr (.inl xG22)))] H := hP
  replace hD : va_D A [(a0, .inr (12, [.int i0, .ref a1, .ref a2, .ref a3, .ref a4, .int i1, .ref a5, .int i2, .int i3, .int i4, .int i5, .int i6, .int i7, .int i8, .ref a6, .ref a7, .ref a8, .ref a9, .ref a10, .ref a11, .ref a12, .int i9, .ref a13, .int i10, .ref a14, .ref a15, .int i11, .ref a16, .ref a17, .ref a18, .ref a19, .int i12, .int i13, .int i14, .int i15, .int i16, .ref a20, .long j0, .ref a21, .ref a22, .ref a23, .ref a24])), (a1, .inl (cI, 544, .inl xF0)), (a21, .inl (cI, 4, .inl xF20)), (a23, .inl (cJ, 240, .inr (.inl xG22)))] := hD
  refine lv_istore_n (lv' := [(2, .int r1), (0, .ref a0), (1, .int p0)]) hx hb dX12_clash_5 rfl hl (by decide) rfl (fun ls hl => ?_)
  refine lv_iload_n hx hb dX12_clash_6 rfl (lv_at hl 0 rfl) ?_
  refine lv_if_ge (tgt := 12) hx hb dX12_clash_7 (by decide) (fun c5 => ?_) (fun c5 => ?_)
  · rw [ki_le] at c5
    have hw4q := hw4 (by omega)
    clear hw4
    refine lv_iconst (v := 0) hx hb dX12_clash_12 (by decide) ?_
    refine lv_istore_n (lv' := [(3, .int 0), (2, .int r1), (0, .ref a0), (1, .int p0)]) hx hb dX12_clash_13 rfl hl (by decide) rfl (fun ls hl => ?_)
    refine lv_iconst (v := 1) hx hb dX12_clash_14 (by decide) ?_
    refine lv_istore (lv' := [(4, .int 1), (3, .int 0), (2, .int r1), (0, .ref a0), (1, .int p0)]) hx hb dX12_clash_15 hl (by decide) rfl (fun ls hl => ?_)
    have lp1 : ∀ (d : Nat), ∀ (H : Heap) (locs : List Loc) (ls : Array Slot) (w3_1 : Int32) (w4_1 : Int32), ((0 : Int) ≤ w3_1.toInt ∧ w3_1.toInt ≤ 2147483647) → ((1 : Int) ≤ w4_1.toInt ∧ w4_1.toInt ≤ 256) → (256 - w4_1.toInt).toNat < d → va_P (dC, dI) vwCl [(a0, .inr (12, [.int i0, .ref a1, .ref a2, .ref a3, .ref a4, .int i1, .ref a5, .int i2, .int i3, .int i4, .int i5, .int i6, .int i7, .int i8, .ref a6, .ref a7, .ref a8, .ref a9, .ref a10, .ref a11, .ref a12, .int i9, .ref a13, .int i10, .ref a14, .ref a15, .int i11, .ref a16, .ref a17, .ref a18, .ref a19, .int i12, .int i13, .int i14, .int i15, .int i16, .ref a20, .long j0, .ref a21, .ref a22, .ref a23, .ref a24])), (a1, .inl (cI, 544, .inl xF0)), (a21, .inl (cI, 4, .inl xF20)), (a23, .inl (cJ, 240, .inr (.inl xG22)))] H → va_D A [(a0, .inr (12, [.int i0, .ref a1, .ref a2, .ref a3, .ref a4, .int i1, .ref a5, .int i2, .int i3, .int i4, .int i5, .int i6, .int i7, .int i8, .ref a6, .ref a7, .ref a8, .ref a9, .ref a10, .ref a11, .ref a12, .int i9, .ref a13, .int i10, .ref a14, .ref a15, .int i11, .ref a16, .ref a17, .ref a18, .ref a19, .int i12, .int i13, .int i14, .int i15, .int i16, .ref a20, .long j0, .ref a21, .ref a22, .ref a23, .ref a24])), (a1, .inl (cI, 544, .inl xF0)), (a21, .inl (cI, 4, .inl xF20)), (a23, .inl (cJ, 240, .inr (.inl xG22)))] → va_S A s.heap H locs → lv_has ls 9 [(0, .ref a0), (1, .int p0), (2, .int r1), (3, .int w3_1), (4, .int w4_1)] → W p l e ({ frames := 3, cells := 0, slots := 0, locals := 67 } : Room) s m ([.ref a0, .int p0] : List Value).toArray below meth c H locs 0 0 Q (F0 m 17 ls []) := by
      intro d
      induction d with
      | zero =>
        intro H locs ls w3_1 w4_1 hr_w3_1 hr_w4_1 hm hP hD hS hl
        omega
      | succ d ih1 =>
        intro H locs ls w3_1 w4_1 hr_w3_1 hr_w4_1 hm hP hD hS hl
        refine lv_iload hx hb dX12_clash_17 (lv_at hl 4 rfl) ?_
        refine lv_iconst (v := 1) hx hb dX12_clash_19 (by decide) ?_
        refine lv_aload_n hx hb dX12_clash_20 rfl (lv_at hl 0 rfl) ?_
        refine va_get (D := (dC, dI)) (ci := 12) (v := .ref a21) (C := RX12) (T := TX12) (N := 42) hx hb hwd inlX12 hown hK hP 0 rfl rfl 38 (by decide) (hwd _ kr50_15) (fun _ h9 => h9) rfl dX12_clash_21 ?_
        refine lv_iload_n hx hb dX12_clash_24 rfl (lv_at hl 1 rfl) ?_
        have h10918 : vp_in p0 4 := (vp_of (by omega) (by omega))
        refine va_iald hx hb hK hP 2 0 rfl rfl h10918 dX12_clash_25 ?_
        refine lv_topi (fun x10919 ex10919 => ?_)
        have ix10919 : x10919.toInt = (xF20 p0.toInt.toNat).toInt := by rw [ex10919]; rfl
        have tx10919 : (-1 : Int) ≤ x10919.toInt ∧ x10919.toInt ≤ 60 := by rw [ex10919]; exact p_8 _ (vp_nat h10918)
        refine lv_ishl hx hb dX12_clash_26 ?_
        refine lv_topi (fun x10920 ex10920 => ?_)
        have tx10920 := is_8 (b := x10919) (by omega) (by omega)
        rw [← ex10920] at tx10920
        refine lv_icmp_ge (tgt := 170) hx hb dX12_clash_27 (by decide) (fun c10921 => ?_) (fun c10921 => ?_)
        · rw [ki_le] at c10921
          refine lv_iload_n hx hb dX12_clash_170 rfl (lv_at hl 3 rfl) ?_
          have hP9 := hP.sub (ws' := [(a0, .inr (12, [.int i0, .ref a1, .ref a2, .ref a3, .ref a4, .int i1, .ref a5, .int i2, .int i3, .int i4, .int i5, .int i6, .int i7, .int i8, .ref a6, .ref a7, .ref a8, .ref a9, .ref a10, .ref a11, .ref a12, .int i9, .ref a13, .int i10, .ref a14, .ref a15, .int i11, .ref a16, .ref a17, .ref a18, .ref a19, .int i12, .int i13, .int i14, .int i15, .int i16, .ref a20, .long j0, .ref a21, .ref a22, .ref a23, .ref a24])), (a1, .inl (cI, 544, .inl xF0)), (a21, .inl (cI, 4, .inl xF20)), (a23, .inl (cJ, 240, .inr (.inl xG22)))]) [0, 1, 2, 3] rfl
          have hD9 := hD.sub (ws' := [(a0, .inr (12, [.int i0, .ref a1, .ref a2, .ref a3, .ref a4, .int i1, .ref a5, .int i2, .int i3, .int i4, .int i5, .int i6, .int i7, .int i8, .ref a6, .ref a7, .ref a8, .ref a9, .ref a10, .ref a11, .ref a12, .int i9, .ref a13, .int i10, .ref a14, .ref a15, .int i11, .ref a16, .ref a17, .ref a18, .ref a19, .int i12, .int i13, .int i14, .int i15, .int i16, .ref a20, .long j0, .ref a21, .ref a22, .ref a23, .ref a24])), (a1, .inl (cI, 544, .inl xF0)), (a21, .inl (cI, 4, .inl xF20)), (a23, .inl (cJ, 240, .inr (.inl xG22)))]) [0, 1, 2, 3] (by decide) rfl
          rw [hQ]
          exact W.iret (v := w3_1) hx hb hr (fun t ht hW => ⟨⟨w3_1, (), rfl, ⟨(show (-6 : Int) ≤ w3_1.toInt ∧ w3_1.toInt ≤ 2147483647 from ⟨by omega, i32_hi⟩), trivial⟩, (by rw [ht]; exact hP9), hD9⟩, hS.F ht⟩) hS.2.2 dX12_clash_171
        · rw [ki_le] at c10921
          refine lv_iconst (v := 0) hx hb dX12_clash_30 (by decide) ?_
          refine lv_istore (lv' := [(5, .int 0), (0, .ref a0), (1, .int p0), (2, .int r1), (3, .int w3_1), (4, .int w4_1)]) hx hb dX12_clash_31 hl (by decide) rfl (fun ls hl => ?_)
          refine lv_iconst (v := 1) hx hb dX12_clash_33 (by decide) ?_
          refine lv_istore (lv' := [(6, .int 1), (5, .int 0), (0, .ref a0), (1, .int p0), (2, .int r1), (3, .int w3_1), (4, .int w4_1)]) hx hb dX12_clash_34 hl (by decide) rfl (fun ls hl => ?_)
          refine lv_iconst (v := 0) hx hb dX12_clash_36 (by decide) ?_
          refine lv_istore (lv' := [(7, .int 0), (6, .int 1), (5, .int 0), (0, .ref a0), (1, .int p0), (2, .int r1), (3, .int w3_1), (4, .int w4_1)]) hx hb dX12_clash_37 hl (by decide) rfl (fun ls hl => ?_)
          have lp79 : ∀ (d : Nat), ∀ (H : Heap) (locs : List Loc) (ls : Array Slot) (w5_79 : Int32) (w6_79 : Int32) (w7_79 : Int32), ((0 : Int) ≤ w6_79.toInt ∧ w6_79.toInt ≤ 1) → ((0 : Int) ≤ w7_79.toInt ∧ w7_79.toInt ≤ 60) → (60 - w7_79.toInt).toNat < d → va_P (dC, dI) vwCl [(a0, .inr (12, [.int i0, .ref a1, .ref a2, .ref a3, .ref a4, .int i1, .ref a5, .int i2, .int i3, .int i4, .int i5, .int i6, .int i7, .int i8, .ref a6, .ref a7, .ref a8, .ref a9, .ref a10, .ref a11, .ref a12, .int i9, .ref a13, .int i10, .ref a14, .ref a15, .int i11, .ref a16, .ref a17, .ref a18, .ref a19, .int i12, .int i13, .int i14, .int i15, .int i16, .ref a20, .long j0, .ref a21, .ref a22, .ref a23, .ref a24])), (a1, .inl (cI, 544, .inl xF0)), (a21, .inl (cI, 4, .inl xF20)), (a23, .inl (cJ, 240, .inr (.inl xG22)))] H → va_D A [(a0, .inr (12, [.int i0, .ref a1, .ref a2, .ref a3, .ref a4, .int i1, .ref a5, .int i2, .int i3, .int i4, .int i5, .int i6, .int i7, .int i8, .ref a6, .ref a7, .ref a8, .ref a9, .ref a10, .ref a11, .ref a12, .int i9, .ref a13, .int i10, .ref a14, .ref a15, .int i11, .ref a16, .ref a17, .ref a18, .ref a19, .int i12, .int i13, .int i14, .int i15, .int i16, .ref a20, .long j0, .ref a21, .ref a22, .ref a23, .ref a24])), (a1, .inl (cI, 544, .inl xF0)), (a21, .inl (cI, 4, .inl xF20)), (a23, .inl (cJ, 240, .inr (.inl xG22)))] → va_S A s.heap H locs → lv_has ls 9 [(0, .ref a0), (1, .int p0), (2, .int r1), (3, .int w3_1), (4, .int w4_1), (5, .int w5_79), (6, .int w6_79), (7, .int w7_79)] → W p l e ({ frames := 3, cells := 0, slots := 0, locals := 67 } : Room) s m ([.ref a0, .int p0] : List Value).toArray below meth c H locs 0 0 Q (F0 m 39 ls []) := by
            intro d
            induction d with
            | zero =>
              intro H locs ls w5_79 w6_79 w7_79 hr_w6_79 hr_w7_79 hm hP hD hS hl
              omega
            | succ d ih79 =>
              intro H locs ls w5_79 w6_79 w7_79 hr_w6_79 hr_w7_79 hm hP hD hS hl
              refine lv_iload hx hb dX12_clash_39 (lv_at hl 7 rfl) ?_
              refine lv_aload_n hx hb dX12_clash_41 rfl (lv_at hl 0 rfl) ?_
              refine va_get (D := (dC, dI)) (ci := 12) (v := .ref a21) (C := RX12) (T := TX12) (N := 42) hx hb hwd inlX12 hown hK hP 0 rfl rfl 38 (by decide) (hwd _ kr50_15) (fun _ h9 => h9) rfl dX12_clash_42 ?_
              refine lv_iload_n hx hb dX12_clash_45 rfl (lv_at hl 1 rfl) ?_
              have h12298 : vp_in p0 4 := (vp_of (by omega) (by omega))
              refine va_iald hx hb hK hP 2 0 rfl rfl h12298 dX12_clash_46 ?_
              refine lv_topi (fun x12299 ex12299 => ?_)
              have ix12299 : x12299.toInt = (xF20 p0.toInt.toNat).toInt := by rw [ex12299]; rfl
              have tx12299 : (-1 : Int) ≤ x12299.toInt ∧ x12299.toInt ≤ 60 := by rw [ex12299]; exact p_8 _ (vp_nat h12298)
              refine lv_icmp_ge (tgt := 148) hx hb dX12_clash_47 (by decide) (fun c12300 => ?_) (fun c12300 => ?_)
              · rw [ki_le] at c12300
                refine lv_iload hx hb dX12_clash_148 (lv_at hl 6 rfl) ?_
                refine lv_if_eq (tgt := 162) hx hb dX12_clash_150 (by decide) (fun c12301 => ?_) (fun c12301 => ?_)
                · rw [ki_eq] at c12301
                  refine lv_iload_n hx hb dX12_clash_162 rfl (lv_at hl 3 rfl) ?_
                  refine lv_istore_n (lv' := [(3, .int w3_1), (0, .ref a0), (1, .int p0), (2, .int r1), (4, .int w4_1), (5, .int w5_79), (6, .int w6_79), (7, .int w7_79)]) hx hb dX12_clash_163 rfl hl (by decide) rfl (fun ls hl => ?_)
                  obtain ⟨x12302, ex12302⟩ : ∃ y : Int32, y = w4_1 + 1 := ⟨_, rfl⟩
                  refine lv_iinc (v := x12302) (lv' := [(4, .int x12302), (3, .int w3_1), (0, .ref a0), (1, .int p0), (2, .int r1), (5, .int w5_79), (6, .int w6_79), (7, .int w7_79)]) hx hb dX12_clash_164 hl (k := 4) rfl (by rw [ex12302]; rfl) (by decide) rfl (fun ls hl => ?_)
                  have tx12302 := ia_add (a := w4_1) (b := (1 : Int32)) (by omega) (by omega)
                  rw [← ex12302] at tx12302
                  refine lv_goto (tgt := 17) hx hb dX12_clash_167 (by decide) ?_
                  exact ih1 _ _ ls w3_1 x12302 (show (0 : Int) ≤ w3_1.toInt ∧ w3_1.toInt ≤ 2147483647 from ⟨by omega, i32_hi⟩) (show (1 : Int) ≤ x12302.toInt ∧ x12302.toInt ≤ 256 from ⟨by omega, by omega⟩) (by omega) (hP.sub (ws' := [(a0, .inr (12, [.int i0, .ref a1, .ref a2, .ref a3, .ref a4, .int i1, .ref a5, .int i2, .int i3, .int i4, .int i5, .int i6, .int i7, .int i8, .ref a6, .ref a7, .ref a8, .ref a9, .ref a10, .ref a11, .ref a12, .int i9, .ref a13, .int i10, .ref a14, .ref a15, .int i11, .ref a16, .ref a17, .ref a18, .ref a19, .int i12, .int i13, .int i14, .int i15, .int i16, .ref a20, .long j0, .ref a21, .ref a22, .ref a23, .ref a24])), (a1, .inl (cI, 544, .inl xF0)), (a21, .inl (cI, 4, .inl xF20)), (a23, .inl (cJ, 240, .inr (.inl xG22)))]) [0, 1, 2, 3] rfl) (hD.sub (ws' := [(a0, .inr (12, [.int i0, .ref a1, .ref a2, .ref a3, .ref a4, .int i1, .ref a5, .int i2, .int i3, .int i4, .int i5, .int i6, .int i7, .int i8, .ref a6, .ref a7, .ref a8, .ref a9, .ref a10, .ref a11, .ref a12, .int i9, .ref a13, .int i10, .ref a14, .ref a15, .int i11, .ref a16, .ref a17, .ref a18, .ref a19, .int i12, .int i13, .int i14, .int i15, .int i16, .ref a20, .long j0, .ref a21, .ref a22, .ref a23, .ref a24])), (a1, .inl (cI, 544, .inl xF0)), (a21, .inl (cI, 4, .inl xF20)), (a23, .inl (cJ, 240, .inr (.inl xG22)))]) [0, 1, 2, 3] (by decide) rfl) hS (lv_sub hl [2, 3, 4, 1, 0] rfl)
                · rw [ki_eq] at c12301
                  refine lv_iload_n hx hb dX12_clash_153 rfl (lv_at hl 3 rfl) ?_
                  refine lv_iload hx hb dX12_clash_154 (lv_at hl 5 rfl) ?_
                  refine va_mmax hx hb (by rw [hml]; exact hl.1.symm) hown (hwd _ kr55_7) (hwd _ kr24_17) (hwd _ kr6_4) (hwd _ kr24_18) (Nat.le_of_ble_eq_true rfl) (Nat.le_of_ble_eq_true rfl) (Nat.le_of_ble_eq_true rfl) (Nat.le_of_ble_eq_true rfl) dX12_clash_156 ?_
                  refine lv_topi (fun x12303 ex12303 => ?_)
                  have tx12303 := mx_max w3_1 w5_79
                  rw [← ex12303] at tx12303
                  refine lv_goto (tgt := 163) hx hb dX12_clash_159 (by decide) ?_
                  refine lv_istore_n (lv' := [(3, .int x12303), (0, .ref a0), (1, .int p0), (2, .int r1), (4, .int w4_1), (5, .int w5_79), (6, .int w6_79), (7, .int w7_79)]) hx hb dX12_clash_163 rfl hl (by decide) rfl (fun ls hl => ?_)
                  obtain ⟨x12304, ex12304⟩ : ∃ y : Int32, y = w4_1 + 1 := ⟨_, rfl⟩
                  refine lv_iinc (v := x12304) (lv' := [(4, .int x12304), (3, .int x12303), (0, .ref a0), (1, .int p0), (2, .int r1), (5, .int w5_79), (6, .int w6_79), (7, .int w7_79)]) hx hb dX12_clash_164 hl (k := 4) rfl (by rw [ex12304]; rfl) (by decide) rfl (fun ls hl => ?_)
                  have tx12304 := ia_add (a := w4_1) (b := (1 : Int32)) (by omega) (by omega)
                  rw [← ex12304] at tx12304
                  refine lv_goto (tgt := 17) hx hb dX12_clash_167 (by decide) ?_
                  exact ih1 _ _ ls x12303 x12304 (show (0 : Int) ≤ x12303.toInt ∧ x12303.toInt ≤ 2147483647 from ⟨by omega, i32_hi⟩) (show (1 : Int) ≤ x12304.toInt ∧ x12304.toInt ≤ 256 from ⟨by omega, by omega⟩) (by omega) (hP.sub (ws' := [(a0, .inr (12, [.int i0, .ref a1, .ref a2, .ref a3, .ref a4, .int i1, .ref a5, .int i2, .int i3, .int i4, .int i5, .int i6, .int i7, .int i8, .ref a6, .ref a7, .ref a8, .ref a9, .ref a10, .ref a11, .ref a12, .int i9, .ref a13, .int i10, .ref a14, .ref a15, .int i11, .ref a16, .ref a17, .ref a18, .ref a19, .int i12, .int i13, .int i14, .int i15, .int i16, .ref a20, .long j0, .ref a21, .ref a22, .ref a23, .ref a24])), (a1, .inl (cI, 544, .inl xF0)), (a21, .inl (cI, 4, .inl xF20)), (a23, .inl (cJ, 240, .inr (.inl xG22)))]) [0, 1, 2, 3] rfl) (hD.sub (ws' := [(a0, .inr (12, [.int i0, .ref a1, .ref a2, .ref a3, .ref a4, .int i1, .ref a5, .int i2, .int i3, .int i4, .int i5, .int i6, .int i7, .int i8, .ref a6, .ref a7, .ref a8, .ref a9, .ref a10, .ref a11, .ref a12, .int i9, .ref a13, .int i10, .ref a14, .ref a15, .int i11, .ref a16, .ref a17, .ref a18, .ref a19, .int i12, .int i13, .int i14, .int i15, .int i16, .ref a20, .long j0, .ref a21, .ref a22, .ref a23, .ref a24])), (a1, .inl (cI, 544, .inl xF0)), (a21, .inl (cI, 4, .inl xF20)), (a23, .inl (cJ, 240, .inr (.inl xG22)))]) [0, 1, 2, 3] (by decide) rfl) hS (lv_sub hl [2, 3, 4, 1, 0] rfl)
              · rw [ki_le] at c12300
                refine lv_iload hx hb dX12_clash_50 (lv_at hl 5 rfl) ?_
                refine lv_iload hx hb dX12_clash_52 (lv_at hl 4 rfl) ?_
                refine lv_iload hx hb dX12_clash_54 (lv_at hl 7 rfl) ?_
                refine lv_ishr hx hb dX12_clash_56 ?_
                refine lv_topi (fun x12305 ex12305 => ?_)
                refine lv_iconst (v := 1) hx hb dX12_clash_57 (by decide) ?_
                refine lv_iand hx hb dX12_clash_58 ?_
                refine lv_topi (fun x12306 ex12306 => ?_)
                have tx12306 := ia_and (a := x12305) (m := (1 : Int32)) (by decide)
                rw [← ex12306] at tx12306
                refine lv_iadd hx hb dX12_clash_59 ?_
                refine lv_topi (fun x12307 ex12307 => ?_)
                refine lv_istore (lv' := [(5, .int x12307), (0, .ref a0), (1, .int p0), (2, .int r1), (3, .int w3_1), (4, .int w4_1), (6, .int w6_79), (7, .int w7_79)]) hx hb dX12_clash_60 hl (by decide) rfl (fun ls hl => ?_)
                refine lv_iconst (v := 0) hx hb dX12_clash_62 (by decide) ?_
                refine lv_istore (lv' := [(8, .int 0), (5, .int x12307), (0, .ref a0), (1, .int p0), (2, .int r1), (3, .int w3_1), (4, .int w4_1), (6, .int w6_79), (7, .int w7_79)]) hx hb dX12_clash_63 hl (by decide) rfl (fun ls hl => ?_)
                have lp89 : ∀ (d : Nat), ∀ (H : Heap) (locs : List Loc) (ls : Array Slot) (w6_89 : Int32) (w8_89 : Int32), ((0 : Int) ≤ w6_89.toInt ∧ w6_89.toInt ≤ 1) → ((0 : Int) ≤ w8_89.toInt ∧ w8_89.toInt ≤ 59) → (59 - w8_89.toInt).toNat < d → va_P (dC, dI) vwCl [(a0, .inr (12, [.int i0, .ref a1, .ref a2, .ref a3, .ref a4, .int i1, .ref a5, .int i2, .int i3, .int i4, .int i5, .int i6, .int i7, .int i8, .ref a6, .ref a7, .ref a8, .ref a9, .ref a10, .ref a11, .ref a12, .int i9, .ref a13, .int i10, .ref a14, .ref a15, .int i11, .ref a16, .ref a17, .ref a18, .ref a19, .int i12, .int i13, .int i14, .int i15, .int i16, .ref a20, .long j0, .ref a21, .ref a22, .ref a23, .ref a24])), (a1, .inl (cI, 544, .inl xF0)), (a21, .inl (cI, 4, .inl xF20)), (a23, .inl (cJ, 240, .inr (.inl xG22)))] H → va_D A [(a0, .inr (12, [.int i0, .ref a1, .ref a2, .ref a3, .ref a4, .int i1, .ref a5, .int i2, .int i3, .int i4, .int i5, .int i6, .int i7, .int i8, .ref a6, .ref a7, .ref a8, .ref a9, .ref a10, .ref a11, .ref a12, .int i9, .ref a13, .int i10, .ref a14, .ref a15, .int i11, .ref a16, .ref a17, .ref a18, .ref a19, .int i12, .int i13, .int i14, .int i15, .int i16, .ref a20, .long j0, .ref a21, .ref a22, .ref a23, .ref a24])), (a1, .inl (cI, 544, .inl xF0)), (a21, .inl (cI, 4, .inl xF20)), (a23, .inl (cJ, 240, .inr (.inl xG22)))] → va_S A s.heap H locs → lv_has ls 9 [(0, .ref a0), (1, .int p0), (2, .int r1), (3, .int w3_1), (4, .int w4_1), (5, .int x12307), (6, .int w6_89), (7, .int w7_79), (8, .int w8_89)] → W p l e ({ frames := 3, cells := 0, slots := 0, locals := 67 } : Room) s m ([.ref a0, .int p0] : List Value).toArray below meth c H locs 0 0 Q (F0 m 65 ls []) := by
                  intro d
                  induction d with
                  | zero =>
                    intro H locs ls w6_89 w8_89 hr_w6_89 hr_w8_89 hm hP hD hS hl
                    omega
                  | succ d ih89 =>
                    intro H locs ls w6_89 w8_89 hr_w6_89 hr_w8_89 hm hP hD hS hl
                    refine lv_iload hx hb dX12_clash_65 (lv_at hl 8 rfl) ?_
                    refine lv_iload hx hb dX12_clash_67 (lv_at hl 7 rfl) ?_
                    refine lv_icmp_ge (tgt := 142) hx hb dX12_clash_69 (by decide) (fun c12453 => ?_) (fun c12453 => ?_)
                    · rw [ki_le] at c12453
                      obtain ⟨x12454, ex12454⟩ : ∃ y : Int32, y = w7_79 + 1 := ⟨_, rfl⟩
                      refine lv_iinc (v := x12454) (lv' := [(7, .int x12454), (0, .ref a0), (1, .int p0), (2, .int r1), (3, .int w3_1), (4, .int w4_1), (5, .int x12307), (6, .int w6_89), (8, .int w8_89)]) hx hb dX12_clash_142 hl (k := 7) rfl (by rw [ex12454]; rfl) (by decide) rfl (fun ls hl => ?_)
                      have tx12454 := ia_add (a := w7_79) (b := (1 : Int32)) (by omega) (by omega)
                      rw [← ex12454] at tx12454
                      refine lv_goto (tgt := 39) hx hb dX12_clash_145 (by decide) ?_
                      exact ih79 _ _ ls x12307 w6_89 x12454 (show (0 : Int) ≤ w6_89.toInt ∧ w6_89.toInt ≤ 1 from ⟨by omega, by omega⟩) (show (0 : Int) ≤ x12454.toInt ∧ x12454.toInt ≤ 60 from ⟨by omega, by omega⟩) (by omega) (hP.sub (ws' := [(a0, .inr (12, [.int i0, .ref a1, .ref a2, .ref a3, .ref a4, .int i1, .ref a5, .int i2, .int i3, .int i4, .int i5, .int i6, .int i7, .int i8, .ref a6, .ref a7, .ref a8, .ref a9, .ref a10, .ref a11, .ref a12, .int i9, .ref a13, .int i10, .ref a14, .ref a15, .int i11, .ref a16, .ref a17, .ref a18, .ref a19, .int i12, .int i13, .int i14, .int i15, .int i16, .ref a20, .long j0, .ref a21, .ref a22, .ref a23, .ref a24])), (a1, .inl (cI, 544, .inl xF0)), (a21, .inl (cI, 4, .inl xF20)), (a23, .inl (cJ, 240, .inr (.inl xG22)))]) [0, 1, 2, 3] rfl) (hD.sub (ws' := [(a0, .inr (12, [.int i0, .ref a1, .ref a2, .ref a3, .ref a4, .int i1, .ref a5, .int i2, .int i3, .int i4, .int i5, .int i6, .int i7, .int i8, .ref a6, .ref a7, .ref a8, .ref a9, .ref a10, .ref a11, .ref a12, .int i9, .ref a13, .int i10, .ref a14, .ref a15, .int i11, .ref a16, .ref a17, .ref a18, .ref a19, .int i12, .int i13, .int i14, .int i15, .int i16, .ref a20, .long j0, .ref a21, .ref a22, .ref a23, .ref a24])), (a1, .inl (cI, 544, .inl xF0)), (a21, .inl (cI, 4, .inl xF20)), (a23, .inl (cJ, 240, .inr (.inl xG22)))]) [0, 1, 2, 3] (by decide) rfl) hS (lv_sub hl [1, 2, 3, 4, 5, 6, 7, 0] rfl)
                    · rw [ki_le] at c12453
                      refine lv_iload hx hb dX12_clash_72 (lv_at hl 6 rfl) ?_
                      refine lv_if_eq (tgt := 133) hx hb dX12_clash_74 (by decide) (fun c12455 => ?_) (fun c12455 => ?_)
                      · rw [ki_eq] at c12455
                        refine lv_iconst (v := 0) hx hb dX12_clash_133 (by decide) ?_
                        refine lv_istore (lv' := [(6, .int 0), (0, .ref a0), (1, .int p0), (2, .int r1), (3, .int w3_1), (4, .int w4_1), (5, .int x12307), (7, .int w7_79), (8, .int w8_89)]) hx hb dX12_clash_134 hl (by decide) rfl (fun ls hl => ?_)
                        obtain ⟨x12456, ex12456⟩ : ∃ y : Int32, y = w8_89 + 1 := ⟨_, rfl⟩
                        refine lv_iinc (v := x12456) (lv' := [(8, .int x12456), (6, .int 0), (0, .ref a0), (1, .int p0), (2, .int r1), (3, .int w3_1), (4, .int w4_1), (5, .int x12307), (7, .int w7_79)]) hx hb dX12_clash_136 hl (k := 8) rfl (by rw [ex12456]; rfl) (by decide) rfl (fun ls hl => ?_)
                        have tx12456 := ia_add (a := w8_89) (b := (1 : Int32)) (by omega) (by omega)
                        rw [← ex12456] at tx12456
                        refine lv_goto (tgt := 65) hx hb dX12_clash_139 (by decide) ?_
                        exact ih89 _ _ ls (0) x12456 (show (0 : Int) ≤ (0 : Int32).toInt ∧ (0 : Int32).toInt ≤ 1 from ⟨by omega, by omega⟩) (show (0 : Int) ≤ x12456.toInt ∧ x12456.toInt ≤ 59 from ⟨by omega, by omega⟩) (by omega) (hP.sub (ws' := [(a0, .inr (12, [.int i0, .ref a1, .ref a2, .ref a3, .ref a4, .int i1, .ref a5, .int i2, .int i3, .int i4, .int i5, .int i6, .int i7, .int i8, .ref a6, .ref a7, .ref a8, .ref a9, .ref a10, .ref a11, .ref a12, .int i9, .ref a13, .int i10, .ref a14, .ref a15, .int i11, .ref a16, .ref a17, .ref a18, .ref a19, .int i12, .int i13, .int i14, .int i15, .int i16, .ref a20, .long j0, .ref a21, .ref a22, .ref a23, .ref a24])), (a1, .inl (cI, 544, .inl xF0)), (a21, .inl (cI, 4, .inl xF20)), (a23, .inl (cJ, 240, .inr (.inl xG22)))]) [0, 1, 2, 3] rfl) (hD.sub (ws' := [(a0, .inr (12, [.int i0, .ref a1, .ref a2, .ref a3, .ref a4, .int i1, .ref a5, .int i2, .int i3, .int i4, .int i5, .int i6, .int i7, .int i8, .ref a6, .ref a7, .ref a8, .ref a9, .ref a10, .ref a11, .ref a12, .int i9, .ref a13, .int i10, .ref a14, .ref a15, .int i11, .ref a16, .ref a17, .ref a18, .ref a19, .int i12, .int i13, .int i14, .int i15, .int i16, .ref a20, .long j0, .ref a21, .ref a22, .ref a23, .ref a24])), (a1, .inl (cI, 544, .inl xF0)), (a21, .inl (cI, 4, .inl xF20)), (a23, .inl (cJ, 240, .inr (.inl xG22)))]) [0, 1, 2, 3] (by decide) rfl) hS (lv_sub hl [2, 3, 4, 5, 6, 7, 1, 8, 0] rfl)
                      · rw [ki_eq] at c12455
                        refine lv_iload hx hb dX12_clash_77 (lv_at hl 4 rfl) ?_
                        refine lv_iload hx hb dX12_clash_79 (lv_at hl 7 rfl) ?_
                        refine lv_ishr hx hb dX12_clash_81 ?_
                        refine lv_topi (fun x12457 ex12457 => ?_)
                        refine lv_iload hx hb dX12_clash_82 (lv_at hl 4 rfl) ?_
                        refine lv_iload hx hb dX12_clash_84 (lv_at hl 8 rfl) ?_
                        refine lv_ishr hx hb dX12_clash_86 ?_
                        refine lv_topi (fun x12458 ex12458 => ?_)
                        refine lv_iand hx hb dX12_clash_87 ?_
                        refine lv_topi (fun x12459 ex12459 => ?_)
                        refine lv_iconst (v := 1) hx hb dX12_clash_88 (by decide) ?_
                        refine lv_iand hx hb dX12_clash_89 ?_
                        refine lv_topi (fun x12460 ex12460 => ?_)
                        have tx12460 := ia_and (a := x12459) (m := (1 : Int32)) (by decide)
                        rw [← ex12460] at tx12460
                        refine lv_if_eq (tgt := 129) hx hb dX12_clash_90 (by decide) (fun c12461 => ?_) (fun c12461 => ?_)
                        · rw [ki_eq] at c12461
                          refine lv_iconst (v := 1) hx hb dX12_clash_129 (by decide) ?_
                          refine lv_goto (tgt := 134) hx hb dX12_clash_130 (by decide) ?_
                          refine lv_istore (lv' := [(6, .int 1), (0, .ref a0), (1, .int p0), (2, .int r1), (3, .int w3_1), (4, .int w4_1), (5, .int x12307), (7, .int w7_79), (8, .int w8_89)]) hx hb dX12_clash_134 hl (by decide) rfl (fun ls hl => ?_)
                          obtain ⟨x12462, ex12462⟩ : ∃ y : Int32, y = w8_89 + 1 := ⟨_, rfl⟩
                          refine lv_iinc (v := x12462) (lv' := [(8, .int x12462), (6, .int 1), (0, .ref a0), (1, .int p0), (2, .int r1), (3, .int w3_1), (4, .int w4_1), (5, .int x12307), (7, .int w7_79)]) hx hb dX12_clash_136 hl (k := 8) rfl (by rw [ex12462]; rfl) (by decide) rfl (fun ls hl => ?_)
                          have tx12462 := ia_add (a := w8_89) (b := (1 : Int32)) (by omega) (by omega)
                          rw [← ex12462] at tx12462
                          refine lv_goto (tgt := 65) hx hb dX12_clash_139 (by decide) ?_
                          exact ih89 _ _ ls (1) x12462 (show (0 : Int) ≤ (1 : Int32).toInt ∧ (1 : Int32).toInt ≤ 1 from ⟨by omega, by omega⟩) (show (0 : Int) ≤ x12462.toInt ∧ x12462.toInt ≤ 59 from ⟨by omega, by omega⟩) (by omega) (hP.sub (ws' := [(a0, .inr (12, [.int i0, .ref a1, .ref a2, .ref a3, .ref a4, .int i1, .ref a5, .int i2, .int i3, .int i4, .int i5, .int i6, .int i7, .int i8, .ref a6, .ref a7, .ref a8, .ref a9, .ref a10, .ref a11, .ref a12, .int i9, .ref a13, .int i10, .ref a14, .ref a15, .int i11, .ref a16, .ref a17, .ref a18, .ref a19, .int i12, .int i13, .int i14, .int i15, .int i16, .ref a20, .long j0, .ref a21, .ref a22, .ref a23, .ref a24])), (a1, .inl (cI, 544, .inl xF0)), (a21, .inl (cI, 4, .inl xF20)), (a23, .inl (cJ, 240, .inr (.inl xG22)))]) [0, 1, 2, 3] rfl) (hD.sub (ws' := [(a0, .inr (12, [.int i0, .ref a1, .ref a2, .ref a3, .ref a4, .int i1, .ref a5, .int i2, .int i3, .int i4, .int i5, .int i6, .int i7, .int i8, .ref a6, .ref a7, .ref a8, .ref a9, .ref a10, .ref a11, .ref a12, .int i9, .ref a13, .int i10, .ref a14, .ref a15, .int i11, .ref a16, .ref a17, .ref a18, .ref a19, .int i12, .int i13, .int i14, .int i15, .int i16, .ref a20, .long j0, .ref a21, .ref a22, .ref a23, .ref a24])), (a1, .inl (cI, 544, .inl xF0)), (a21, .inl (cI, 4, .inl xF20)), (a23, .inl (cJ, 240, .inr (.inl xG22)))]) [0, 1, 2, 3] (by decide) rfl) hS (lv_sub hl [2, 3, 4, 5, 6, 7, 1, 8, 0] rfl)
                        · rw [ki_eq] at c12461
                          refine lv_aload_n hx hb dX12_clash_93 rfl (lv_at hl 0 rfl) ?_
                          refine va_get (D := (dC, dI)) (ci := 12) (v := .ref a23) (C := RX12) (T := TX12) (N := 42) hx hb hwd inlX12 hown hK hP 0 rfl rfl 40 (by decide) (hwd _ kr50_17) (fun _ h9 => h9) rfl dX12_clash_94 ?_
                          refine lv_bipush (v := 60) hx hb dX12_clash_97 (by decide) ?_
                          refine lv_iload_n hx hb dX12_clash_99 rfl (lv_at hl 1 rfl) ?_
                          refine lv_imul hx hb dX12_clash_100 ?_
                          refine lv_topi (fun x12463 ex12463 => ?_)
                          have tx12463 := ia_mull (a := (60 : Int32)) (b := p0) 60 (by decide) (by omega) (by omega)
                          rw [← ex12463] at tx12463
                          refine lv_iload hx hb dX12_clash_101 (lv_at hl 7 rfl) ?_
                          refine lv_iadd hx hb dX12_clash_103 ?_
                          refine lv_topi (fun x12464 ex12464 => ?_)
                          have tx12464 := ia_add (a := x12463) (b := w7_79) (by omega) (by omega)
                          rw [← ex12464] at tx12464
                          have h12465 : vp_in x12464 240 := (vp_of (by omega) (by omega))
                          refine va_lald hx hb hK hP 3 3 rfl rfl h12465 dX12_clash_104 ?_
                          refine lv_topl (fun x12466 ex12466 => ?_)
                          refine lv_aload_n hx hb dX12_clash_105 rfl (lv_at hl 0 rfl) ?_
                          refine va_get (D := (dC, dI)) (ci := 12) (v := .ref a23) (C := RX12) (T := TX12) (N := 42) hx hb hwd inlX12 hown hK hP 0 rfl rfl 40 (by decide) (hwd _ kr50_17) (fun _ h9 => h9) rfl dX12_clash_106 ?_
                          refine lv_bipush (v := 60) hx hb dX12_clash_109 (by decide) ?_
                          refine lv_iload_n hx hb dX12_clash_111 rfl (lv_at hl 1 rfl) ?_
                          refine lv_imul hx hb dX12_clash_112 ?_
                          refine lv_topi (fun x12467 ex12467 => ?_)
                          have tx12467 := ia_mull (a := (60 : Int32)) (b := p0) 60 (by decide) (by omega) (by omega)
                          rw [← ex12467] at tx12467
                          refine lv_iload hx hb dX12_clash_113 (lv_at hl 8 rfl) ?_
                          refine lv_iadd hx hb dX12_clash_115 ?_
                          refine lv_topi (fun x12468 ex12468 => ?_)
                          have tx12468 := ia_add (a := x12467) (b := w8_89) (by omega) (by omega)
                          rw [← ex12468] at tx12468
                          have h12469 : vp_in x12468 240 := (vp_of (by omega) (by omega))
                          refine va_lald hx hb hK hP 3 3 rfl rfl h12469 dX12_clash_116 ?_
                          refine lv_topl (fun x12470 ex12470 => ?_)
                          refine lv_ladd hx hb dX12_clash_117 ?_
                          refine lv_topl (fun x12471 ex12471 => ?_)
                          refine lv_aload_n hx hb dX12_clash_118 rfl (lv_at hl 0 rfl) ?_
                          refine va_get (D := (dC, dI)) (ci := 12) (v := .ref a1) (C := RX12) (T := TX12) (N := 42) hx hb hwd inlX12 hown hK hP 0 rfl rfl 1 (by decide) (hwd _ kr49_2) (fun _ h9 => h9) rfl dX12_clash_119 ?_
                          refine lv_iconst (v := 1) hx hb dX12_clash_122 (by decide) ?_
                          have h12472 : vp_in (1 : Int32) 544 := (vin (by decide))
                          refine va_iald hx hb hK hP 1 0 rfl rfl h12472 dX12_clash_123 ?_
                          refine lv_topi (fun x12473 ex12473 => ?_)
                          have ix12473 := wat_lit (k := 1) ex12473 (by decide)
                          have wh12474 : whd cp xF0 := p_7.1
                          unfold whd at wh12474
                          refine lv_i2l hx hb dX12_clash_124 rfl ?_
                          refine W.lcmp hx hb dX12_clash_125 ?_
                          refine lv_if_le (tgt := 133) hx hb dX12_clash_126 (by decide) (fun c12475 => ?_) (fun c12475 => ?_)
                          · clear c12475
                            refine lv_iconst (v := 0) hx hb dX12_clash_133 (by decide) ?_
                            refine lv_istore (lv' := [(6, .int 0), (0, .ref a0), (1, .int p0), (2, .int r1), (3, .int w3_1), (4, .int w4_1), (5, .int x12307), (7, .int w7_79), (8, .int w8_89)]) hx hb dX12_clash_134 hl (by decide) rfl (fun ls hl => ?_)
                            obtain ⟨x12476, ex12476⟩ : ∃ y : Int32, y = w8_89 + 1 := ⟨_, rfl⟩
                            refine lv_iinc (v := x12476) (lv' := [(8, .int x12476), (6, .int 0), (0, .ref a0), (1, .int p0), (2, .int r1), (3, .int w3_1), (4, .int w4_1), (5, .int x12307), (7, .int w7_79)]) hx hb dX12_clash_136 hl (k := 8) rfl (by rw [ex12476]; rfl) (by decide) rfl (fun ls hl => ?_)
                            have tx12476 := ia_add (a := w8_89) (b := (1 : Int32)) (by omega) (by omega)
                            rw [← ex12476] at tx12476
                            refine lv_goto (tgt := 65) hx hb dX12_clash_139 (by decide) ?_
                            exact ih89 _ _ ls (0) x12476 (show (0 : Int) ≤ (0 : Int32).toInt ∧ (0 : Int32).toInt ≤ 1 from ⟨by omega, by omega⟩) (show (0 : Int) ≤ x12476.toInt ∧ x12476.toInt ≤ 59 from ⟨by omega, by omega⟩) (by omega) (hP.sub (ws' := [(a0, .inr (12, [.int i0, .ref a1, .ref a2, .ref a3, .ref a4, .int i1, .ref a5, .int i2, .int i3, .int i4, .int i5, .int i6, .int i7, .int i8, .ref a6, .ref a7, .ref a8, .ref a9, .ref a10, .ref a11, .ref a12, .int i9, .ref a13, .int i10, .ref a14, .ref a15, .int i11, .ref a16, .ref a17, .ref a18, .ref a19, .int i12, .int i13, .int i14, .int i15, .int i16, .ref a20, .long j0, .ref a21, .ref a22, .ref a23, .ref a24])), (a1, .inl (cI, 544, .inl xF0)), (a21, .inl (cI, 4, .inl xF20)), (a23, .inl (cJ, 240, .inr (.inl xG22)))]) [0, 1, 2, 3] rfl) (hD.sub (ws' := [(a0, .inr (12, [.int i0, .ref a1, .ref a2, .ref a3, .ref a4, .int i1, .ref a5, .int i2, .int i3, .int i4, .int i5, .int i6, .int i7, .int i8, .ref a6, .ref a7, .ref a8, .ref a9, .ref a10, .ref a11, .ref a12, .int i9, .ref a13, .int i10, .ref a14, .ref a15, .int i11, .ref a16, .ref a17, .ref a18, .ref a19, .int i12, .int i13, .int i14, .int i15, .int i16, .ref a20, .long j0, .ref a21, .ref a22, .ref a23, .ref a24])), (a1, .inl (cI, 544, .inl xF0)), (a21, .inl (cI, 4, .inl xF20)), (a23, .inl (cJ, 240, .inr (.inl xG22)))]) [0, 1, 2, 3] (by decide) rfl) hS (lv_sub hl [2, 3, 4, 5, 6, 7, 1, 8, 0] rfl)
                          · clear c12475
                            refine lv_iconst (v := 1) hx hb dX12_clash_129 (by decide) ?_
                            refine lv_goto (tgt := 134) hx hb dX12_clash_130 (by decide) ?_
                            refine lv_istore (lv' := [(6, .int 1), (0, .ref a0), (1, .int p0), (2, .int r1), (3, .int w3_1), (4, .int w4_1), (5, .int x12307), (7, .int w7_79), (8, .int w8_89)]) hx hb dX12_clash_134 hl (by decide) rfl (fun ls hl => ?_)
                            obtain ⟨x12477, ex12477⟩ : ∃ y : Int32, y = w8_89 + 1 := ⟨_, rfl⟩
                            refine lv_iinc (v := x12477) (lv' := [(8, .int x12477), (6, .int 1), (0, .ref a0), (1, .int p0), (2, .int r1), (3, .int w3_1), (4, .int w4_1), (5, .int x12307), (7, .int w7_79)]) hx hb dX12_clash_136 hl (k := 8) rfl (by rw [ex12477]; rfl) (by decide) rfl (fun ls hl => ?_)
                            have tx12477 := ia_add (a := w8_89) (b := (1 : Int32)) (by omega) (by omega)
                            rw [← ex12477] at tx12477
                            refine lv_goto (tgt := 65) hx hb dX12_clash_139 (by decide) ?_
                            exact ih89 _ _ ls (1) x12477 (show (0 : Int) ≤ (1 : Int32).toInt ∧ (1 : Int32).toInt ≤ 1 from ⟨by omega, by omega⟩) (show (0 : Int) ≤ x12477.toInt ∧ x12477.toInt ≤ 59 from ⟨by omega, by omega⟩) (by omega) (hP.sub (ws' := [(a0, .inr (12, [.int i0, .ref a1, .ref a2, .ref a3, .ref a4, .int i1, .ref a5, .int i2, .int i3, .int i4, .int i5, .int i6, .int i7, .int i8, .ref a6, .ref a7, .ref a8, .ref a9, .ref a10, .ref a11, .ref a12, .int i9, .ref a13, .int i10, .ref a14, .ref a15, .int i11, .ref a16, .ref a17, .ref a18, .ref a19, .int i12, .int i13, .int i14, .int i15, .int i16, .ref a20, .long j0, .ref a21, .ref a22, .ref a23, .ref a24])), (a1, .inl (cI, 544, .inl xF0)), (a21, .inl (cI, 4, .inl xF20)), (a23, .inl (cJ, 240, .inr (.inl xG22)))]) [0, 1, 2, 3] rfl) (hD.sub (ws' := [(a0, .inr (12, [.int i0, .ref a1, .ref a2, .ref a3, .ref a4, .int i1, .ref a5, .int i2, .int i3, .int i4, .int i5, .int i6, .int i7, .int i8, .ref a6, .ref a7, .ref a8, .ref a9, .ref a10, .ref a11, .ref a12, .int i9, .ref a13, .int i10, .ref a14, .ref a15, .int i11, .ref a16, .ref a17, .ref a18, .ref a19, .int i12, .int i13, .int i14, .int i15, .int i16, .ref a20, .long j0, .ref a21, .ref a22, .ref a23, .ref a24])), (a1, .inl (cI, 544, .inl xF0)), (a21, .inl (cI, 4, .inl xF20)), (a23, .inl (cJ, 240, .inr (.inl xG22)))]) [0, 1, 2, 3] (by decide) rfl) hS (lv_sub hl [2, 3, 4, 5, 6, 7, 1, 8, 0] rfl)
                exact lp89 _ _ _ ls w6_79 (0) (show (0 : Int) ≤ w6_79.toInt ∧ w6_79.toInt ≤ 1 from ⟨by omega, by omega⟩) (show (0 : Int) ≤ (0 : Int32).toInt ∧ (0 : Int32).toInt ≤ 59 from ⟨by omega, by omega⟩) (Nat.lt_succ_self _) (hP.sub (ws' := [(a0, .inr (12, [.int i0, .ref a1, .ref a2, .ref a3, .ref a4, .int i1, .ref a5, .int i2, .int i3, .int i4, .int i5, .int i6, .int i7, .int i8, .ref a6, .ref a7, .ref a8, .ref a9, .ref a10, .ref a11, .ref a12, .int i9, .ref a13, .int i10, .ref a14, .ref a15, .int i11, .ref a16, .ref a17, .ref a18, .ref a19, .int i12, .int i13, .int i14, .int i15, .int i16, .ref a20, .long j0, .ref a21, .ref a22, .ref a23, .ref a24])), (a1, .inl (cI, 544, .inl xF0)), (a21, .inl (cI, 4, .inl xF20)), (a23, .inl (cJ, 240, .inr (.inl xG22)))]) [0, 1, 2, 3] rfl) (hD.sub (ws' := [(a0, .inr (12, [.int i0, .ref a1, .ref a2, .ref a3, .ref a4, .int i1, .ref a5, .int i2, .int i3, .int i4, .int i5, .int i6, .int i7, .int i8, .ref a6, .ref a7, .ref a8, .ref a9, .ref a10, .ref a11, .ref a12, .int i9, .ref a13, .int i10, .ref a14, .ref a15, .int i11, .ref a16, .ref a17, .ref a18, .ref a19, .int i12, .int i13, .int i14, .int i15, .int i16, .ref a20, .long j0, .ref a21, .ref a22, .ref a23, .ref a24])), (a1, .inl (cI, 544, .inl xF0)), (a21, .inl (cI, 4, .inl xF20)), (a23, .inl (cJ, 240, .inr (.inl xG22)))]) [0, 1, 2, 3] (by decide) rfl) hS (lv_sub hl [2, 3, 4, 5, 6, 1, 7, 8, 0] rfl)
          exact lp79 _ _ _ ls (0) (1) (0) (show (0 : Int) ≤ (1 : Int32).toInt ∧ (1 : Int32).toInt ≤ 1 from ⟨by omega, by omega⟩) (show (0 : Int) ≤ (0 : Int32).toInt ∧ (0 : Int32).toInt ≤ 60 from ⟨by omega, by omega⟩) (Nat.lt_succ_self _) (hP.sub (ws' := [(a0, .inr (12, [.int i0, .ref a1, .ref a2, .ref a3, .ref a4, .int i1, .ref a5, .int i2, .int i3, .int i4, .int i5, .int i6, .int i7, .int i8, .ref a6, .ref a7, .ref a8, .ref a9, .ref a10, .ref a11, .ref a12, .int i9, .ref a13, .int i10, .ref a14, .ref a15, .int i11, .ref a16, .ref a17, .ref a18, .ref a19, .int i12, .int i13, .int i14, .int i15, .int i16, .ref a20, .long j0, .ref a21, .ref a22, .ref a23, .ref a24])), (a1, .inl (cI, 544, .inl xF0)), (a21, .inl (cI, 4, .inl xF20)), (a23, .inl (cJ, 240, .inr (.inl xG22)))]) [0, 1, 2, 3] rfl) (hD.sub (ws' := [(a0, .inr (12, [.int i0, .ref a1, .ref a2, .ref a3, .ref a4, .int i1, .ref a5, .int i2, .int i3, .int i4, .int i5, .int i6, .int i7, .int i8, .ref a6, .ref a7, .ref a8, .ref a9, .ref a10, .ref a11, .ref a12, .int i9, .ref a13, .int i10, .ref a14, .ref a15, .int i11, .ref a16, .ref a17, .ref a18, .ref a19, .int i12, .int i13, .int i14, .int i15, .int i16, .ref a20, .long j0, .ref a21, .ref a22, .ref a23, .ref a24])), (a1, .inl (cI, 544, .inl xF0)), (a21, .inl (cI, 4, .inl xF20)), (a23, .inl (cJ, 240, .inr (.inl xG22)))]) [0, 1, 2, 3] (by decide) rfl) hS (lv_sub hl [3, 4, 5, 6, 7, 2, 1, 0] rfl)
    exact lp1 _ _ _ ls (0) (1) (show (0 : Int) ≤ (0 : Int32).toInt ∧ (0 : Int32).toInt ≤ 2147483647 from ⟨by omega, i32_hi⟩) (show (1 : Int) ≤ (1 : Int32).toInt ∧ (1 : Int32).toInt ≤ 256 from ⟨by omega, by omega⟩) (Nat.lt_succ_self _) (hP.sub (ws' := [(a0, .inr (12, [.int i0, .ref a1, .ref a2, .ref a3, .ref a4, .int i1, .ref a5, .int i2, .int i3, .int i4, .int i5, .int i6, .int i7, .int i8, .ref a6, .ref a7, .ref a8, .ref a9, .ref a10, .ref a11, .ref a12, .int i9, .ref a13, .int i10, .ref a14, .ref a15, .int i11, .ref a16, .ref a17, .ref a18, .ref a19, .int i12, .int i13, .int i14, .int i15, .int i16, .ref a20, .long j0, .ref a21, .ref a22, .ref a23, .ref a24])), (a1, .inl (cI, 544, .inl xF0)), (a21, .inl (cI, 4, .inl xF20)), (a23, .inl (cJ, 240, .inr (.inl xG22)))]) [0, 1, 2, 3] rfl) (hD.sub (ws' := [(a0, .inr (12, [.int i0, .ref a1, .ref a2, .ref a3, .ref a4, .int i1, .ref a5, .int i2, .int i3, .int i4, .int i5, .int i6, .int i7, .int i8, .ref a6, .ref a7, .ref a8, .ref a9, .ref a10, .ref a11, .ref a12, .int i9, .ref a13, .int i10, .ref a14, .ref a15, .int i11, .ref a16, .ref a17, .ref a18, .ref a19, .int i12, .int i13, .int i14, .int i15, .int i16, .ref a20, .long j0, .ref a21, .ref a22, .ref a23, .ref a24])), (a1, .inl (cI, 544, .inl xF0)), (a21, .inl (cI, 4, .inl xF20)), (a23, .inl (cJ, 240, .inr (.inl xG22)))]) [0, 1, 2, 3] (by decide) rfl) hS (lv_sub hl [3, 4, 2, 1, 0] rfl)
  · rw [ki_le] at c5
    refine lv_iload_n hx hb dX12_clash_10 rfl (lv_at hl 0 rfl) ?_
    have hP9 := hP.sub (ws' := [(a0, .inr (12, [.int i0, .ref a1, .ref a2, .ref a3, .ref a4, .int i1, .ref a5, .int i2, .int i3, .int i4, .int i5, .int i6, .int i7, .int i8, .ref a6, .ref a7, .ref a8, .ref a9, .ref a10, .ref a11, .ref a12, .int i9, .ref a13, .int i10, .ref a14, .ref a15, .int i11, .ref a16, .ref a17, .ref a18, .ref a19, .int i12, .int i13, .int i14, .int i15, .int i16, .ref a20, .long j0, .ref a21, .ref a22, .ref a23, .ref a24])), (a1, .inl (cI, 544, .inl xF0)), (a21, .inl (cI, 4, .inl xF20)), (a23, .inl (cJ, 240, .inr (.inl xG22)))]) [0, 1, 2, 3] rfl
    have hD9 := hD.sub (ws' := [(a0, .inr (12, [.int i0, .ref a1, .ref a2, .ref a3, .ref a4, .int i1, .ref a5, .int i2, .int i3, .int i4, .int i5, .int i6, .int i7, .int i8, .ref a6, .ref a7, .ref a8, .ref a9, .ref a10, .ref a11, .ref a12, .int i9, .ref a13, .int i10, .ref a14, .ref a15, .int i11, .ref a16, .ref a17, .ref a18, .ref a19, .int i12, .int i13, .int i14, .int i15, .int i16, .ref a20, .long j0, .ref a21, .ref a22, .ref a23, .ref a24])), (a1, .inl (cI, 544, .inl xF0)), (a21, .inl (cI, 4, .inl xF20)), (a23, .inl (cJ, 240, .inr (.inl xG22)))]) [0, 1, 2, 3] (by decide) rfl
    rw [hQ]
    exact W.iret (v := r1) hx hb hr (fun t ht hW => ⟨⟨r1, (), rfl, ⟨(show (-6 : Int) ≤ r1.toInt ∧ r1.toInt ≤ 2147483647 from ⟨by omega, i32_hi⟩), trivial⟩, (by rw [ht]; exact hP9), hD9⟩, hS.F ht⟩) hS.2.2 dX12_clash_11
theorem dX12_moves_0 : decode cX12_moves 0 = .ok (.iconst 0, 1) := by decide +kernel
theorem dX12_moves_1 : decode cX12_moves 1 = .ok (.istore_n 2, 1) := by decide +kernel
theorem dX12_moves_2 : decode cX12_moves 2 = .ok (.iload_n 2, 1) := by decide +kernel
theorem dX12_moves_3 : decode cX12_moves 3 = .ok (.aload_n 0, 1) := by decide +kernel
theorem dX12_moves_4 : decode cX12_moves 4 = .ok (.getfield 13, 3) := by decide +kernel
theorem dX12_moves_7 : decode cX12_moves 7 = .ok (.bipush 6, 2) := by decide +kernel
theorem dX12_moves_9 : decode cX12_moves 9 = .ok (.iaload, 1) := by decide +kernel
theorem dX12_moves_10 : decode cX12_moves 10 = .ok (.if_icmp .ge 128, 3) := by decide +kernel
theorem dX12_moves_13 : decode cX12_moves 13 = .ok (.aload_n 0, 1) := by decide +kernel
theorem dX12_moves_14 : decode cX12_moves 14 = .ok (.getfield 46, 3) := by decide +kernel
theorem dX12_moves_17 : decode cX12_moves 17 = .ok (.iload_n 2, 1) := by decide +kernel
theorem dX12_moves_18 : decode cX12_moves 18 = .ok (.aload_n 0, 1) := by decide +kernel
theorem dX12_moves_19 : decode cX12_moves 19 = .ok (.iload_n 2, 1) := by decide +kernel
theorem dX12_moves_20 : decode cX12_moves 20 = .ok (.invokevirtual 297, 3) := by decide +kernel
theorem dX12_moves_23 : decode cX12_moves 23 = .ok (.iastore, 1) := by decide +kernel
theorem dX12_moves_24 : decode cX12_moves 24 = .ok (.aload_n 0, 1) := by decide +kernel
theorem dX12_moves_25 : decode cX12_moves 25 = .ok (.iload_n 2, 1) := by decide +kernel
theorem dX12_moves_26 : decode cX12_moves 26 = .ok (.iconst 0, 1) := by decide +kernel
theorem dX12_moves_27 : decode cX12_moves 27 = .ok (.invokevirtual 273, 3) := by decide +kernel
theorem dX12_moves_30 : decode cX12_moves 30 = .ok (.iconst 3, 1) := by decide +kernel
theorem dX12_moves_31 : decode cX12_moves 31 = .ok (.if_icmp .ne 7, 3) := by decide +kernel
theorem dX12_moves_34 : decode cX12_moves 34 = .ok (.iconst 1, 1) := by decide +kernel
theorem dX12_moves_35 : decode cX12_moves 35 = .ok (.goto 4, 3) := by decide +kernel
theorem dX12_moves_38 : decode cX12_moves 38 = .ok (.iconst 0, 1) := by decide +kernel
theorem dX12_moves_39 : decode cX12_moves 39 = .ok (.istore_n 3, 1) := by decide +kernel
theorem dX12_moves_40 : decode cX12_moves 40 = .ok (.aload_n 0, 1) := by decide +kernel
theorem dX12_moves_41 : decode cX12_moves 41 = .ok (.getfield 13, 3) := by decide +kernel
theorem dX12_moves_44 : decode cX12_moves 44 = .ok (.sipush 264, 3) := by decide +kernel
theorem dX12_moves_47 : decode cX12_moves 47 = .ok (.iload_n 2, 1) := by decide +kernel
theorem dX12_moves_48 : decode cX12_moves 48 = .ok (.iadd, 1) := by decide +kernel
theorem dX12_moves_49 : decode cX12_moves 49 = .ok (.iload_n 3, 1) := by decide +kernel
theorem dX12_moves_50 : decode cX12_moves 50 = .ok (.ifCond .eq 21, 3) := by decide +kernel
theorem dX12_moves_53 : decode cX12_moves 53 = .ok (.aload_n 0, 1) := by decide +kernel
theorem dX12_moves_54 : decode cX12_moves 54 = .ok (.iload_n 2, 1) := by decide +kernel
theorem dX12_moves_55 : decode cX12_moves 55 = .ok (.aload_n 0, 1) := by decide +kernel
theorem dX12_moves_56 : decode cX12_moves 56 = .ok (.aload_n 0, 1) := by decide +kernel
theorem dX12_moves_57 : decode cX12_moves 57 = .ok (.iload_n 2, 1) := by decide +kernel
theorem dX12_moves_58 : decode cX12_moves 58 = .ok (.iconst 1, 1) := by decide +kernel
theorem dX12_moves_59 : decode cX12_moves 59 = .ok (.invokevirtual 273, 3) := by decide +kernel
theorem dX12_moves_62 : decode cX12_moves 62 = .ok (.invokevirtual 297, 3) := by decide +kernel
theorem dX12_moves_65 : decode cX12_moves 65 = .ok (.invokevirtual 276, 3) := by decide +kernel
theorem dX12_moves_68 : decode cX12_moves 68 = .ok (.goto 29, 3) := by decide +kernel
theorem dX12_moves_71 : decode cX12_moves 71 = .ok (.aload_n 0, 1) := by decide +kernel
theorem dX12_moves_72 : decode cX12_moves 72 = .ok (.getfield 40, 3) := by decide +kernel
theorem dX12_moves_75 : decode cX12_moves 75 = .ok (.bipush 60, 2) := by decide +kernel
theorem dX12_moves_77 : decode cX12_moves 77 = .ok (.iload_n 2, 1) := by decide +kernel
theorem dX12_moves_78 : decode cX12_moves 78 = .ok (.imul, 1) := by decide +kernel
theorem dX12_moves_79 : decode cX12_moves 79 = .ok (.iload_n 1, 1) := by decide +kernel
theorem dX12_moves_80 : decode cX12_moves 80 = .ok (.iadd, 1) := by decide +kernel
theorem dX12_moves_81 : decode cX12_moves 81 = .ok (.iaload, 1) := by decide +kernel
theorem dX12_moves_82 : decode cX12_moves 82 = .ok (.aload_n 0, 1) := by decide +kernel
theorem dX12_moves_83 : decode cX12_moves 83 = .ok (.iload_n 2, 1) := by decide +kernel
theorem dX12_moves_84 : decode cX12_moves 84 = .ok (.invokevirtual 297, 3) := by decide +kernel
theorem dX12_moves_87 : decode cX12_moves 87 = .ok (.aload_n 0, 1) := by decide +kernel
theorem dX12_moves_88 : decode cX12_moves 88 = .ok (.iload_n 2, 1) := by decide +kernel
theorem dX12_moves_89 : decode cX12_moves 89 = .ok (.iconst 4, 1) := by decide +kernel
theorem dX12_moves_90 : decode cX12_moves 90 = .ok (.invokevirtual 273, 3) := by decide +kernel
theorem dX12_moves_93 : decode cX12_moves 93 = .ok (.isub, 1) := by decide +kernel
theorem dX12_moves_94 : decode cX12_moves 94 = .ok (.invokestatic 257, 3) := by decide +kernel
theorem dX12_moves_97 : decode cX12_moves 97 = .ok (.iastore, 1) := by decide +kernel
theorem dX12_moves_98 : decode cX12_moves 98 = .ok (.aload_n 0, 1) := by decide +kernel
theorem dX12_moves_99 : decode cX12_moves 99 = .ok (.getfield 13, 3) := by decide +kernel
theorem dX12_moves_102 : decode cX12_moves 102 = .ok (.bipush 15, 2) := by decide +kernel
theorem dX12_moves_104 : decode cX12_moves 104 = .ok (.dup2, 1) := by decide +kernel
theorem dX12_moves_105 : decode cX12_moves 105 = .ok (.iaload, 1) := by decide +kernel
theorem dX12_moves_106 : decode cX12_moves 106 = .ok (.iload_n 3, 1) := by decide +kernel
theorem dX12_moves_107 : decode cX12_moves 107 = .ok (.ifCond .eq 7, 3) := by decide +kernel
theorem dX12_moves_110 : decode cX12_moves 110 = .ok (.iconst 0, 1) := by decide +kernel
theorem dX12_moves_111 : decode cX12_moves 111 = .ok (.goto 19, 3) := by decide +kernel
theorem dX12_moves_114 : decode cX12_moves 114 = .ok (.iconst 0, 1) := by decide +kernel
theorem dX12_moves_115 : decode cX12_moves 115 = .ok (.aload_n 0, 1) := by decide +kernel
theorem dX12_moves_116 : decode cX12_moves 116 = .ok (.iload_n 2, 1) := by decide +kernel
theorem dX12_moves_117 : decode cX12_moves 117 = .ok (.invokevirtual 297, 3) := by decide +kernel
theorem dX12_moves_120 : decode cX12_moves 120 = .ok (.aload_n 0, 1) := by decide +kernel
theorem dX12_moves_121 : decode cX12_moves 121 = .ok (.getfield 46, 3) := by decide +kernel
theorem dX12_moves_124 : decode cX12_moves 124 = .ok (.iload_n 2, 1) := by decide +kernel
theorem dX12_moves_125 : decode cX12_moves 125 = .ok (.iaload, 1) := by decide +kernel
theorem dX12_moves_126 : decode cX12_moves 126 = .ok (.isub, 1) := by decide +kernel
theorem dX12_moves_127 : decode cX12_moves 127 = .ok (.invokestatic 257, 3) := by decide +kernel
theorem dX12_moves_130 : decode cX12_moves 130 = .ok (.iadd, 1) := by decide +kernel
theorem dX12_moves_131 : decode cX12_moves 131 = .ok (.iastore, 1) := by decide +kernel
theorem dX12_moves_132 : decode cX12_moves 132 = .ok (.iinc 2 1, 3) := by decide +kernel
theorem dX12_moves_135 : decode cX12_moves 135 = .ok (.goto (-133), 3) := by decide +kernel
theorem dX12_moves_138 : decode cX12_moves 138 = .ok (.iconst 0, 1) := by decide +kernel
theorem dX12_moves_139 : decode cX12_moves 139 = .ok (.istore_n 2, 1) := by decide +kernel
theorem dX12_moves_140 : decode cX12_moves 140 = .ok (.iload_n 2, 1) := by decide +kernel
theorem dX12_moves_141 : decode cX12_moves 141 = .ok (.aload_n 0, 1) := by decide +kernel
theorem dX12_moves_142 : decode cX12_moves 142 = .ok (.getfield 13, 3) := by decide +kernel
theorem dX12_moves_145 : decode cX12_moves 145 = .ok (.bipush 7, 2) := by decide +kernel
theorem dX12_moves_147 : decode cX12_moves 147 = .ok (.iaload, 1) := by decide +kernel
theorem dX12_moves_148 : decode cX12_moves 148 = .ok (.if_icmp .ge 99, 3) := by decide +kernel
theorem dX12_moves_151 : decode cX12_moves 151 = .ok (.aload_n 0, 1) := by decide +kernel
theorem dX12_moves_152 : decode cX12_moves 152 = .ok (.iload_n 2, 1) := by decide +kernel
theorem dX12_moves_153 : decode cX12_moves 153 = .ok (.iconst 0, 1) := by decide +kernel
theorem dX12_moves_154 : decode cX12_moves 154 = .ok (.invokevirtual 303, 3) := by decide +kernel
theorem dX12_moves_157 : decode cX12_moves 157 = .ok (.istore_n 3, 1) := by decide +kernel
theorem dX12_moves_158 : decode cX12_moves 158 = .ok (.aload_n 0, 1) := by decide +kernel
theorem dX12_moves_159 : decode cX12_moves 159 = .ok (.getfield 46, 3) := by decide +kernel
theorem dX12_moves_162 : decode cX12_moves 162 = .ok (.iload_n 3, 1) := by decide +kernel
theorem dX12_moves_163 : decode cX12_moves 163 = .ok (.iaload, 1) := by decide +kernel
theorem dX12_moves_164 : decode cX12_moves 164 = .ok (.aload_n 0, 1) := by decide +kernel
theorem dX12_moves_165 : decode cX12_moves 165 = .ok (.iload_n 2, 1) := by decide +kernel
theorem dX12_moves_166 : decode cX12_moves 166 = .ok (.iconst 1, 1) := by decide +kernel
theorem dX12_moves_167 : decode cX12_moves 167 = .ok (.invokevirtual 303, 3) := by decide +kernel
theorem dX12_moves_170 : decode cX12_moves 170 = .ok (.if_icmp .ge 21, 3) := by decide +kernel
theorem dX12_moves_173 : decode cX12_moves 173 = .ok (.aload_n 0, 1) := by decide +kernel
theorem dX12_moves_174 : decode cX12_moves 174 = .ok (.iload_n 3, 1) := by decide +kernel
theorem dX12_moves_175 : decode cX12_moves 175 = .ok (.invokevirtual 297, 3) := by decide +kernel
theorem dX12_moves_178 : decode cX12_moves 178 = .ok (.aload_n 0, 1) := by decide +kernel
theorem dX12_moves_179 : decode cX12_moves 179 = .ok (.iload_n 2, 1) := by decide +kernel
theorem dX12_moves_180 : decode cX12_moves 180 = .ok (.iconst 1, 1) := by decide +kernel
theorem dX12_moves_181 : decode cX12_moves 181 = .ok (.invokevirtual 303, 3) := by decide +kernel
theorem dX12_moves_184 : decode cX12_moves 184 = .ok (.if_icmp .lt 7, 3) := by decide +kernel
theorem dX12_moves_187 : decode cX12_moves 187 = .ok (.iconst 1, 1) := by decide +kernel
theorem dX12_moves_188 : decode cX12_moves 188 = .ok (.goto 4, 3) := by decide +kernel
theorem dX12_moves_191 : decode cX12_moves 191 = .ok (.iconst 0, 1) := by decide +kernel
theorem dX12_moves_192 : decode cX12_moves 192 = .ok (.istore 4, 2) := by decide +kernel
theorem dX12_moves_194 : decode cX12_moves 194 = .ok (.aload_n 0, 1) := by decide +kernel
theorem dX12_moves_195 : decode cX12_moves 195 = .ok (.getfield 13, 3) := by decide +kernel
theorem dX12_moves_198 : decode cX12_moves 198 = .ok (.sipush 260, 3) := by decide +kernel
theorem dX12_moves_201 : decode cX12_moves 201 = .ok (.iload_n 2, 1) := by decide +kernel
theorem dX12_moves_202 : decode cX12_moves 202 = .ok (.iadd, 1) := by decide +kernel
theorem dX12_moves_203 : decode cX12_moves 203 = .ok (.iload 4, 2) := by decide +kernel
theorem dX12_moves_205 : decode cX12_moves 205 = .ok (.ifCond .eq 25, 3) := by decide +kernel
theorem dX12_moves_208 : decode cX12_moves 208 = .ok (.aload_n 0, 1) := by decide +kernel
theorem dX12_moves_209 : decode cX12_moves 209 = .ok (.getfield 13, 3) := by decide +kernel
theorem dX12_moves_212 : decode cX12_moves 212 = .ok (.sipush 260, 3) := by decide +kernel
theorem dX12_moves_215 : decode cX12_moves 215 = .ok (.iload_n 2, 1) := by decide +kernel
theorem dX12_moves_216 : decode cX12_moves 216 = .ok (.iadd, 1) := by decide +kernel
theorem dX12_moves_217 : decode cX12_moves 217 = .ok (.iaload, 1) := by decide +kernel
theorem dX12_moves_218 : decode cX12_moves 218 = .ok (.iconst 1, 1) := by decide +kernel
theorem dX12_moves_219 : decode cX12_moves 219 = .ok (.iadd, 1) := by decide +kernel
theorem dX12_moves_220 : decode cX12_moves 220 = .ok (.aload_n 0, 1) := by decide +kernel
theorem dX12_moves_221 : decode cX12_moves 221 = .ok (.iload_n 2, 1) := by decide +kernel
theorem dX12_moves_222 : decode cX12_moves 222 = .ok (.iconst 2, 1) := by decide +kernel
theorem dX12_moves_223 : decode cX12_moves 223 = .ok (.invokevirtual 303, 3) := by decide +kernel
theorem dX12_moves_226 : decode cX12_moves 226 = .ok (.irem, 1) := by decide +kernel
theorem dX12_moves_227 : decode cX12_moves 227 = .ok (.goto 13, 3) := by decide +kernel
theorem dX12_moves_230 : decode cX12_moves 230 = .ok (.aload_n 0, 1) := by decide +kernel
theorem dX12_moves_231 : decode cX12_moves 231 = .ok (.getfield 13, 3) := by decide +kernel
theorem dX12_moves_234 : decode cX12_moves 234 = .ok (.sipush 260, 3) := by decide +kernel
theorem dX12_moves_237 : decode cX12_moves 237 = .ok (.iload_n 2, 1) := by decide +kernel
theorem dX12_moves_238 : decode cX12_moves 238 = .ok (.iadd, 1) := by decide +kernel
theorem dX12_moves_239 : decode cX12_moves 239 = .ok (.iaload, 1) := by decide +kernel
theorem dX12_moves_240 : decode cX12_moves 240 = .ok (.iastore, 1) := by decide +kernel
theorem dX12_moves_241 : decode cX12_moves 241 = .ok (.iinc 2 1, 3) := by decide +kernel
theorem dX12_moves_244 : decode cX12_moves 244 = .ok (.goto (-104), 3) := by decide +kernel
theorem dX12_moves_247 : decode cX12_moves 247 = .ok (.return_, 1) := by decide +kernel
set_option maxHeartbeats 4000000 in
set_option maxRecDepth 100000 in
theorem s_X12_moves (l : Launch) (dC : Nat → ClassId) (dI : Nat → Nat → Nat) (cI cZ cB cJ cM cG : ClassId) (a0 a1 a2 a3 a4 a5 a6 a7 a8 a9 a10 a11 a12 a13 a14 a15 a16 a17 a18 a19 a20 a21 a22 a23 a24 : Nat) (i0 i1 i2 i3 i4 i5 i6 i7 i8 i9 i10 i11 i12 i13 i14 i15 i16 : Int32) (j0 : Int64) (xF0 xF7 xF9 : Nat → Int32) (p0 : Int32) (cp : Int) (sz : Nat) (p_0 : (0 : Int) ≤ i1.toInt ∧ i1.toInt ≤ 1600) (p_1 : (0 : Int) ≤ i2.toInt ∧ i2.toInt ≤ 1600) (p_2 : (0 : Int) ≤ i3.toInt ∧ i3.toInt ≤ 1600) (p_3 : (0 : Int) ≤ i4.toInt ∧ i4.toInt ≤ 1600) (p_4 : (0 : Int) ≤ i5.toInt ∧ i5.toInt ≤ 6) (p_5 : (0 : Int) ≤ i7.toInt ∧ i7.toInt ≤ 3) (p_6 : (0 : Int) ≤ i11.toInt ∧ i11.toInt ≤ 59) (p_7 : WI cp xF0) (p_8 : (0 : Int) ≤ p0.toInt ∧ p0.toInt ≤ 59) (p_9 : 0 ≤ cp ∧ cp ≤ 2000000000) : Met l yX12_moves (kw yX12_moves cX12_moves 5 none) ({ frames := 2, cells := 0, slots := 0, locals := 46 } : Room) (va_Pc [.ref a0, .int p0] (kPre dC dI [(cI, .int), (cZ, .boolean), (cB, .byte), (cJ, .long), (cM, .object RX2), (cG, .array .int)] [(a0, .inr (12, [.int i0, .ref a1, .ref a2, .ref a3, .ref a4, .int i1, .ref a5, .int i2, .int i3, .int i4, .int i5, .int i6, .int i7, .int i8, .ref a6, .ref a7, .ref a8, .ref a9, .ref a10, .ref a11, .ref a12, .int i9, .ref a13, .int i10, .ref a14, .ref a15, .int i11, .ref a16, .ref a17, .ref a18, .ref a19, .int i12, .int i13, .int i14, .int i15, .int i16, .ref a20, .long j0, .ref a21, .ref a22, .ref a23, .ref a24])), (a1, .inl (cI, 544, .inl xF0)), (a8, .inl (cI, 600, .inl xF7)), (a10, .inl (cI, 10, .inl xF9))] sz)) (va_Qv (fun (u9 : (Nat → Int32) × (Nat → Nat → Int32) × (Nat → Nat → Int64)) => (WI cp (u9.2.1 0)) ∧ True) (fun u9 t => va_P (dC, dI) vwCl [(a0, .inr (12, [.int i0, .ref a1, .ref a2, .ref a3, .ref a4, .int i1, .ref a5, .int i2, .int i3, .int i4, .int i5, .int i6, .int i7, .int i8, .ref a6, .ref a7, .ref a8, .ref a9, .ref a10, .ref a11, .ref a12, .int i9, .ref a13, .int i10, .ref a14, .ref a15, .int i11, .ref a16, .ref a17, .ref a18, .ref a19, .int i12, .int i13, .int i14, .int i15, .int i16, .ref a20, .long j0, .ref a21, .ref a22, .ref a23, .ref a24])), (a1, .inl (cI, 544, .inl (u9.2.1 0))), (a8, .inl (cI, 600, .inl xF7)), (a10, .inl (cI, 10, .inl (u9.2.1 1)))] t.heap ∧ va_D (va_A [(a0, .inr (12, [.int i0, .ref a1, .ref a2, .ref a3, .ref a4, .int i1, .ref a5, .int i2, .int i3, .int i4, .int i5, .int i6, .int i7, .int i8, .ref a6, .ref a7, .ref a8, .ref a9, .ref a10, .ref a11, .ref a12, .int i9, .ref a13, .int i10, .ref a14, .ref a15, .int i11, .ref a16, .ref a17, .ref a18, .ref a19, .int i12, .int i13, .int i14, .int i15, .int i16, .ref a20, .long j0, .ref a21, .ref a22, .ref a23, .ref a24])), (a1, .inl (cI, 544, .inl xF0)), (a8, .inl (cI, 600, .inl xF7)), (a10, .inl (cI, 10, .inl xF9))] sz) [(a0, .inr (12, [.int i0, .ref a1, .ref a2, .ref a3, .ref a4, .int i1, .ref a5, .int i2, .int i3, .int i4, .int i5, .int i6, .int i7, .int i8, .ref a6, .ref a7, .ref a8, .ref a9, .ref a10, .ref a11, .ref a12, .int i9, .ref a13, .int i10, .ref a14, .ref a15, .int i11, .ref a16, .ref a17, .ref a18, .ref a19, .int i12, .int i13, .int i14, .int i15, .int i16, .ref a20, .long j0, .ref a21, .ref a22, .ref a23, .ref a24])), (a1, .inl (cI, 544, .inl (u9.2.1 0))), (a8, .inl (cI, 600, .inl xF7)), (a10, .inl (cI, 10, .inl (u9.2.1 1)))]) (va_A [(a0, .inr (12, [.int i0, .ref a1, .ref a2, .ref a3, .ref a4, .int i1, .ref a5, .int i2, .int i3, .int i4, .int i5, .int i6, .int i7, .int i8, .ref a6, .ref a7, .ref a8, .ref a9, .ref a10, .ref a11, .ref a12, .int i9, .ref a13, .int i10, .ref a14, .ref a15, .int i11, .ref a16, .ref a17, .ref a18, .ref a19, .int i12, .int i13, .int i14, .int i15, .int i16, .ref a20, .long j0, .ref a21, .ref a22, .ref a23, .ref a24])), (a1, .inl (cI, 544, .inl xF0)), (a8, .inl (cI, 600, .inl xF7)), (a10, .inl (cI, 10, .inl xF9))] sz)) 0 0 (va_A [(a0, .inr (12, [.int i0, .ref a1, .ref a2, .ref a3, .ref a4, .int i1, .ref a5, .int i2, .int i3, .int i4, .int i5, .int i6, .int i7, .int i8, .ref a6, .ref a7, .ref a8, .ref a9, .ref a10, .ref a11, .ref a12, .int i9, .ref a13, .int i10, .ref a14, .ref a15, .int i11, .ref a16, .ref a17, .ref a18, .ref a19, .int i12, .int i13, .int i14, .int i15, .int i16, .ref a20, .long j0, .ref a21, .ref a22, .ref a23, .ref a24])), (a1, .inl (cI, 544, .inl xF0)), (a8, .inl (cI, 600, .inl xF7)), (a10, .inl (cI, 10, .inl xF9))] sz) := by
  refine kEnter (by decide) (Nat.le_of_ble_eq_true rfl) ?_
  intro p e s m below meth c ls hx hb hr hml hown hlocks hin hwd hsz hP hK hD hl
  subst hsz
  generalize hAe : va_A [(a0, .inr (12, [.int i0, .ref a1, .ref a2, .ref a3, .ref a4, .int i1, .ref a5, .int i2, .int i3, .int i4, .int i5, .int i6, .int i7, .int i8, .ref a6, .ref a7, .ref a8, .ref a9, .ref a10, .ref a11, .ref a12, .int i9, .ref a13, .int i10, .ref a14, .ref a15, .int i11, .ref a16, .ref a17, .ref a18, .ref a19, .int i12, .int i13, .int i14, .int i15, .int i16, .ref a20, .long j0, .ref a21, .ref a22, .ref a23, .ref a24])), (a1, .inl (cI, 544, .inl xF0)), (a8, .inl (cI, 600, .inl xF7)), (a10, .inl (cI, 10, .inl xF9))] s.heap.size = A at hD ⊢
  have hA : ∀ q : Nat, s.heap.size ≤ q → A q := fun q h => by rw [← hAe]; exact Or.inr h
  have hS : va_S A s.heap s.heap [] := va_S.rf
  have hl : lv_has ls 5 [(0, .ref a0), (1, .int p0)] := hl
  obtain ⟨Q, hQ⟩ : ∃ Q, Q = MQ below (va_Qv (fun (u9 : (Nat → Int32) × (Nat → Nat → Int32) × (Nat → Nat → Int64)) => (WI cp (u9.2.1 0)) ∧ True) (fun u9 t => va_P (dC, dI) vwCl [(a0, .inr (12, [.int i0, .ref a1, .ref a2, .ref a3, .ref a4, .int i1, .ref a5, .int i2, .int i3, .int i4, .int i5, .int i6, .int i7, .int i8, .ref a6, .ref a7, .ref a8, .ref a9, .ref a10, .ref a11, .ref a12, .int i9, .ref a13, .int i10, .ref a14, .ref a15, .int i11, .ref a16, .ref a17, .ref a18, .ref a19, .int i12, .int i13, .int i14, .int i15, .int i16, .ref a20, .long j0, .ref a21, .ref a22, .ref a23, .ref a24])), (a1, .inl (cI, 544, .inl (u9.2.1 0))), (a8, .inl (cI, 600, .inl xF7)), (a10, .inl (cI, 10, .inl (u9.2.1 1)))] t.heap ∧ va_D A [(a0, .inr (12, [.int i0, .ref a1, .ref a2, .ref a3, .ref a4, .int i1, .ref a5, .int i2, .int i3, .int i4, .int i5, .int i6, .int i7, .int i8, .ref a6, .ref a7, .ref a8, .ref a9, .ref a10, .ref a11, .ref a12, .int i9, .ref a13, .int i10, .ref a14, .ref a15, .int i11, .ref a16, .ref a17, .ref a18, .ref a19, .int i12, .int i13, .int i14, .int i15, .int i16, .ref a20, .long j0, .ref a21, .ref a22, .ref a23, .ref a24])), (a1, .inl (cI, 544, .inl (u9.2.1 0))), (a8, .inl (cI, 600, .inl xF7)), (a10, .inl (cI, 10, .inl (u9.2.1 1)))]) A) ([.ref a0, .int p0] : List Value).toArray s 0 0 A := ⟨_, rfl⟩
  rw [← hQ]
  have k0 : (0 : Int32).toInt = 0 := by decide
  have k1 : (1 : Int32).toInt = 1 := by decide
  have k2 : (2 : Int32).toInt = 2 := by decide
  have k3 : (3 : Int32).toInt = 3 := by decide
  have k4 : (4 : Int32).toInt = 4 := by decide
  have k6 : (6 : Int32).toInt = 6 := by decide
  have k7 : (7 : Int32).toInt = 7 := by decide
  have k15 : (15 : Int32).toInt = 15 := by decide
  have k60 : (60 : Int32).toInt = 60 := by decide
  have k260 : (260 : Int32).toInt = 260 := by decide
  have k264 : (264 : Int32).toInt = 264 := by decide
  refine lv_iconst (v := 0) hx hb dX12_moves_0 (by decide) ?_
  refine lv_istore_n (lv' := [(2, .int 0), (0, .ref a0), (1, .int p0)]) hx hb dX12_moves_1 rfl hl (by decide) rfl (fun ls hl => ?_)
  have lp1 : ∀ (d : Nat), ∀ (H : Heap) (locs : List Loc) (ls : Array Slot) (w2_1 : Int32) (g1_1 : Nat → Int32) (g2_1 : Nat → Int32), ((0 : Int) ≤ w2_1.toInt ∧ w2_1.toInt ≤ 10) → (WI cp g1_1) → (10 - w2_1.toInt).toNat < d → va_P (dC, dI) vwCl [(a0, .inr (12, [.int i0, .ref a1, .ref a2, .ref a3, .ref a4, .int i1, .ref a5, .int i2, .int i3, .int i4, .int i5, .int i6, .int i7, .int i8, .ref a6, .ref a7, .ref a8, .ref a9, .ref a10, .ref a11, .ref a12, .int i9, .ref a13, .int i10, .ref a14, .ref a15, .int i11, .ref a16, .ref a17, .ref a18, .ref a19, .int i12, .int i13, .int i14, .int i15, .int i16, .ref a20, .long j0, .ref a21, .ref a22, .ref a23, .ref a24])), (a1, .inl (cI, 544, .inl g1_1)), (a8, .inl (cI, 600, .inl xF7)), (a10, .inl (cI, 10, .inl g2_1))] H → va_D A [(a0, .inr (12, [.int i0, .ref a1, .ref a2, .ref a3, .ref a4, .int i1, .ref a5, .int i2, .int i3, .int i4, .int i5, .int i6, .int i7, .int i8, .ref a6, .ref a7, .ref a8, .ref a9, .ref a10, .ref a11, .ref a12, .int i9, .ref a13, .int i10, .ref a14, .ref a15, .int i11, .ref a16, .ref a17, .ref a18, .ref a19, .int i12, .int i13, .int i14, .int i15, .int i16, .ref a20, .long j0, .ref a21, .ref a22, .ref a23, .ref a24])), (a1, .inl (cI, 544, .inl g1_1)), (a8, .inl (cI, 600, .inl xF7)), (a10, .inl (cI, 10, .inl g2_1))] → va_S A s.heap H locs → lv_has ls 5 [(0, .ref a0), (1, .int p0), (2, .int w2_1)] → W p l e ({ frames := 2, cells := 0, slots := 0, locals := 46 } : Room) s m ([.ref a0, .int p0] : List Value).toArray below meth c H locs 0 0 Q (F0 m 2 ls []) := by
    intro d
    induction d with
    | zero =>
      intro H locs ls w2_1 g1_1 g2_1 hr_w2_1 hd_g1_1 hm hP hD hS hl
      omega
    | succ d ih1 =>
      intro H locs ls w2_1 g1_1 g2_1 hr_w2_1 hd_g1_1 hm hP hD hS hl
      refine lv_iload_n hx hb dX12_moves_2 rfl (lv_at hl 2 rfl) ?_
      refine lv_aload_n hx hb dX12_moves_3 rfl (lv_at hl 0 rfl) ?_
      refine va_get (D := (dC, dI)) (ci := 12) (v := .ref a1) (C := RX12) (T := TX12) (N := 42) hx hb hwd inlX12 hown hK hP 0 rfl rfl 1 (by decide) (hwd _ kr49_2) (fun _ h9 => h9) rfl dX12_moves_4 ?_
      refine lv_bipush (v := 6) hx hb dX12_moves_7 (by decide) ?_
      have h286 : vp_in (6 : Int32) 544 := (vin (by decide))
      refine va_iald hx hb hK hP 1 0 rfl rfl h286 dX12_moves_9 ?_
      refine lv_topi (fun x287 ex287 => ?_)
      have ix287 := wat_lit (k := 6) ex287 (by decide)
      have wh288 : whd cp g1_1 := hd_g1_1.1
      unfold whd at wh288
      refine lv_icmp_ge (tgt := 138) hx hb dX12_moves_10 (by decide) (fun c289 => ?_) (fun c289 => ?_)
      · rw [ki_le] at c289
        refine lv_iconst (v := 0) hx hb dX12_moves_138 (by decide) ?_
        refine lv_istore_n (lv' := [(2, .int 0), (0, .ref a0), (1, .int p0)]) hx hb dX12_moves_139 rfl hl (by decide) rfl (fun ls hl => ?_)
        have lp2 : ∀ (d : Nat), ∀ (H : Heap) (locs : List Loc) (ls : Array Slot) (w2_2 : Int32) (g1_2 : Nat → Int32), ((0 : Int) ≤ w2_2.toInt ∧ w2_2.toInt ≤ 4) → (WI cp g1_2) → (4 - w2_2.toInt).toNat < d → va_P (dC, dI) vwCl [(a0, .inr (12, [.int i0, .ref a1, .ref a2, .ref a3, .ref a4, .int i1, .ref a5, .int i2, .int i3, .int i4, .int i5, .int i6, .int i7, .int i8, .ref a6, .ref a7, .ref a8, .ref a9, .ref a10, .ref a11, .ref a12, .int i9, .ref a13, .int i10, .ref a14, .ref a15, .int i11, .ref a16, .ref a17, .ref a18, .ref a19, .int i12, .int i13, .int i14, .int i15, .int i16, .ref a20, .long j0, .ref a21, .ref a22, .ref a23, .ref a24])), (a1, .inl (cI, 544, .inl g1_2)), (a8, .inl (cI, 600, .inl xF7)), (a10, .inl (cI, 10, .inl g2_1))] H → va_D A [(a0, .inr (12, [.int i0, .ref a1, .ref a2, .ref a3, .ref a4, .int i1, .ref a5, .int i2, .int i3, .int i4, .int i5, .int i6, .int i7, .int i8, .ref a6, .ref a7, .ref a8, .ref a9, .ref a10, .ref a11, .ref a12, .int i9, .ref a13, .int i10, .ref a14, .ref a15, .int i11, .ref a16, .ref a17, .ref a18, .ref a19, .int i12, .int i13, .int i14, .int i15, .int i16, .ref a20, .long j0, .ref a21, .ref a22, .ref a23, .ref a24])), (a1, .inl (cI, 544, .inl g1_2)), (a8, .inl (cI, 600, .inl xF7)), (a10, .inl (cI, 10, .inl g2_1))] → va_S A s.heap H locs → lv_has ls 5 [(0, .ref a0), (1, .int p0), (2, .int w2_2)] → W p l e ({ frames := 2, cells := 0, slots := 0, locals := 46 } : Room) s m ([.ref a0, .int p0] : List Value).toArray below meth c H locs 0 0 Q (F0 m 140 ls []) := by
          intro d
          induction d with
          | zero =>
            intro H locs ls w2_2 g1_2 hr_w2_2 hd_g1_2 hm hP hD hS hl
            omega
          | succ d ih2 =>
            intro H locs ls w2_2 g1_2 hr_w2_2 hd_g1_2 hm hP hD hS hl
            refine lv_iload_n hx hb dX12_moves_140 rfl (lv_at hl 2 rfl) ?_
            refine lv_aload_n hx hb dX12_moves_141 rfl (lv_at hl 0 rfl) ?_
            refine va_get (D := (dC, dI)) (ci := 12) (v := .ref a1) (C := RX12) (T := TX12) (N := 42) hx hb hwd inlX12 hown hK hP 0 rfl rfl 1 (by decide) (hwd _ kr49_2) (fun _ h9 => h9) rfl dX12_moves_142 ?_
            refine lv_bipush (v := 7) hx hb dX12_moves_145 (by decide) ?_
            have h493 : vp_in (7 : Int32) 544 := (vin (by decide))
            refine va_iald hx hb hK hP 1 0 rfl rfl h493 dX12_moves_147 ?_
            refine lv_topi (fun x494 ex494 => ?_)
            have ix494 := wat_lit (k := 7) ex494 (by decide)
            have wh495 : whd cp g1_2 := hd_g1_2.1
            unfold whd at wh495
            refine lv_icmp_ge (tgt := 247) hx hb dX12_moves_148 (by decide) (fun c496 => ?_) (fun c496 => ?_)
            · rw [ki_le] at c496
              have hP9 := hP.sub (ws' := [(a0, .inr (12, [.int i0, .ref a1, .ref a2, .ref a3, .ref a4, .int i1, .ref a5, .int i2, .int i3, .int i4, .int i5, .int i6, .int i7, .int i8, .ref a6, .ref a7, .ref a8, .ref a9, .ref a10, .ref a11, .ref a12, .int i9, .ref a13, .int i10, .ref a14, .ref a15, .int i11, .ref a16, .ref a17, .ref a18, .ref a19, .int i12, .int i13, .int i14, .int i15, .int i16, .ref a20, .long j0, .ref a21, .ref a22, .ref a23, .ref a24])), (a1, .inl (cI, 544, .inl g1_2)), (a8, .inl (cI, 600, .inl xF7)), (a10, .inl (cI, 10, .inl g2_1))]) [0, 1, 2, 3] rfl
              have hD9 := hD.sub (ws' := [(a0, .inr (12, [.int i0, .ref a1, .ref a2, .ref a3, .ref a4, .int i1, .ref a5, .int i2, .int i3, .int i4, .int i5, .int i6, .int i7, .int i8, .ref a6, .ref a7, .ref a8, .ref a9, .ref a10, .ref a11, .ref a12, .int i9, .ref a13, .int i10, .ref a14, .ref a15, .int i11, .ref a16, .ref a17, .ref a18, .ref a19, .int i12, .int i13, .int i14, .int i15, .int i16, .ref a20, .long j0, .ref a21, .ref a22, .ref a23, .ref a24])), (a1, .inl (cI, 544, .inl g1_2)), (a8, .inl (cI, 600, .inl xF7)), (a10, .inl (cI, 10, .inl g2_1))]) [0, 1, 2, 3] (by decide) rfl
              rw [hQ]
              exact W.vret hx hb hr (fun t ht hW => ⟨⟨(pickG 0 [], pickG (fun _ => 0) [g1_2, g2_1], pickG (fun _ => 0) []), rfl, ⟨(show WI cp g1_2 from hd_g1_2), trivial⟩, (by rw [ht]; exact hP9), hD9⟩, hS.F ht⟩) hS.2.2 dX12_moves_247
            · rw [ki_le] at c496
              refine lv_aload_n hx hb dX12_moves_151 rfl (lv_at hl 0 rfl) ?_
              refine lv_iload_n hx hb dX12_moves_152 rfl (lv_at hl 2 rfl) ?_
              refine lv_iconst (v := 0) hx hb dX12_moves_153 (by decide) ?_
              have hPc := hP.sub (ws' := [(a0, .inr (12, [.int i0, .ref a1, .ref a2, .ref a3, .ref a4, .int i1, .ref a5, .int i2, .int i3, .int i4, .int i5, .int i6, .int i7, .int i8, .ref a6, .ref a7, .ref a8, .ref a9, .ref a10, .ref a11, .ref a12, .int i9, .ref a13, .int i10, .ref a14, .ref a15, .int i11, .ref a16, .ref a17, .ref a18, .ref a19, .int i12, .int i13, .int i14, .int i15, .int i16, .ref a20, .long j0, .ref a21, .ref a22, .ref a23, .ref a24])), (a1, .inl (cI, 544, .inl g1_2))]) [0, 1] rfl
              have hDc := hD.sub (ws' := [(a0, .inr (12, [.int i0, .ref a1, .ref a2, .ref a3, .ref a4, .int i1, .ref a5, .int i2, .int i3, .int i4, .int i5, .int i6, .int i7, .int i8, .ref a6, .ref a7, .ref a8, .ref a9, .ref a10, .ref a11, .ref a12, .int i9, .ref a13, .int i10, .ref a14, .ref a15, .int i11, .ref a16, .ref a17, .ref a18, .ref a19, .int i12, .int i13, .int i14, .int i15, .int i16, .ref a20, .long j0, .ref a21, .ref a22, .ref a23, .ref a24])), (a1, .inl (cI, 544, .inl g1_2))]) [0, 1] (by decide) rfl
              have hFc := va_free (wc := [(a0, .inr (12, [.int i0, .ref a1, .ref a2, .ref a3, .ref a4, .int i1, .ref a5, .int i2, .int i3, .int i4, .int i5, .int i6, .int i7, .int i8, .ref a6, .ref a7, .ref a8, .ref a9, .ref a10, .ref a11, .ref a12, .int i9, .ref a13, .int i10, .ref a14, .ref a15, .int i11, .ref a16, .ref a17, .ref a18, .ref a19, .int i12, .int i13, .int i14, .int i15, .int i16, .ref a20, .long j0, .ref a21, .ref a22, .ref a23, .ref a24])), (a1, .inl (cI, 544, .inl g1_2))]) hD hS hA [0, 1] rfl
              refine va_calli (va_runV (As := [.int w2_2, .int 0]) (rest := []) ⟨hx, hb, hml, hown, hwd⟩ (s_X12_ofPawl l dC dI cI cZ cB cJ cM cG a0 a1 a2 a3 a4 a5 a6 a7 a8 a9 a10 a11 a12 a13 a14 a15 a16 a17 a18 a19 a20 a21 a22 a23 a24 i0 i1 i2 i3 i4 i5 i6 i7 i8 i9 i10 i11 i12 i13 i14 i15 i16 j0 g1_2 w2_2 0 cp H.size (show (0 : Int) ≤ i1.toInt ∧ i1.toInt ≤ 1600 from p_0) (show (0 : Int) ≤ i2.toInt ∧ i2.toInt ≤ 1600 from p_1) (show (0 : Int) ≤ i3.toInt ∧ i3.toInt ≤ 1600 from p_2) (show (0 : Int) ≤ i4.toInt ∧ i4.toInt ≤ 1600 from p_3) (show (0 : Int) ≤ i5.toInt ∧ i5.toInt ≤ 6 from p_4) (show (0 : Int) ≤ i7.toInt ∧ i7.toInt ≤ 3 from p_5) (show (0 : Int) ≤ i11.toInt ∧ i11.toInt ≤ 59 from p_6) (show WI cp g1_2 from hd_g1_2) (show (0 : Int) ≤ w2_2.toInt ∧ w2_2.toInt ≤ 3 from ⟨by omega, by omega⟩) (show (0 : Int) ≤ (0 : Int32).toInt ∧ (0 : Int32).toInt ≤ 2 from ⟨by omega, by omega⟩) p_9) (cwV 2 hwd (gV kr58_0 kr58_1 kr4_2 kr5_23 kr58_2) rfl rfl rfl (by decide +kernel) ⟨Nat.le_of_ble_eq_true rfl, Nat.le_of_ble_eq_true rfl⟩) (kPreV hPc hK hDc (ci := 12) (q0 := 0) rfl rfl) rfl rfl hl.1 rfl (lv_room (Nat.le_of_ble_eq_true rfl)) dX12_moves_154 ⟨Nat.le_of_ble_eq_true rfl, Nat.le_of_ble_eq_true rfl⟩) hS (fun q _ h => hFc q h) hFc (fun r497 u498 t H1 locs ht9 hvm hw hB hz1 hk1 hS => ?_)
              obtain ⟨hw499, hw500, -⟩ := hw
              replace hw499 : ((0 : Int32).toInt = 0 → 0 ≤ r497.toInt ∧ r497.toInt ≤ 9) := hw499
              replace hw499 := hw499 (by decide)
              replace hw500 : ((0 : Int32).toInt = 2 → w2_2.toInt < wat g1_2 7 → 2 ≤ r497.toInt) := hw500
              clear hw500
              obtain ⟨hP1, hD1⟩ := hB
              rw [ht9] at hP1
              obtain ⟨hP, hD⟩ := va_join (wr := [(a8, .inl (cI, 600, .inl xF7)), (a10, .inl (cI, 10, .inl g2_1))]) (w1 := [(a0, .inr (12, [.int i0, .ref a1, .ref a2, .ref a3, .ref a4, .int i1, .ref a5, .int i2, .int i3, .int i4, .int i5, .int i6, .int i7, .int i8, .ref a6, .ref a7, .ref a8, .ref a9, .ref a10, .ref a11, .ref a12, .int i9, .ref a13, .int i10, .ref a14, .ref a15, .int i11, .ref a16, .ref a17, .ref a18, .ref a19, .int i12, .int i13, .int i14, .int i15, .int i16, .ref a20, .long j0, .ref a21, .ref a22, .ref a23, .ref a24])), (a1, .inl (cI, 544, .inl g1_2))]) hP hD [0, 1] [2, 3] rfl rfl (by decide) (by decide) hk1 hFc hP1 hD1
              generalize H1 = H at hP hS ⊢
              replace hP : va_P (dC, dI) vwCl [(a8, .inl (cI, 600, .inl xF7)), (a10, .inl (cI, 10, .inl g2_1)), (a0, .inr (12, [.int i0, .ref a1, .ref a2, .ref a3, .ref a4, .int i1, .ref a5, .int i2, .int i3, .int i4, .int i5, .int i6, .int i7, .int i8, .ref a6, .ref a7, .ref a8, .ref a9, .ref a10, .ref a11, .ref a12, .int i9, .ref a13, .int i10, .ref a14, .ref a15, .int i11, .ref a16, .ref a17, .ref a18, .ref a19, .int i12, .int i13, .int i14, .int i15, .int i16, .ref a20, .long j0, .ref a21, .ref a22, .ref a23, .ref a24])), (a1, .inl (cI, 544, .inl g1_2))] H := hP
              replace hD : va_D A [(a8, .inl (cI, 600, .inl xF7)), (a10, .inl (cI, 10, .inl g2_1)), (a0, .inr (12, [.int i0, .ref a1, .ref a2, .ref a3, .ref a4, .int i1, .ref a5, .int i2, .int i3, .int i4, .int i5, .int i6, .int i7, .int i8, .ref a6, .ref a7, .ref a8, .ref a9, .ref a10, .ref a11, .ref a12, .int i9, .ref a13, .int i10, .ref a14, .ref a15, .int i11, .ref a16, .ref a17, .ref a18, .ref a19, .int i12, .int i13, .int i14, .int i15, .int i16, .ref a20, .long j0, .ref a21, .ref a22, .ref a23, .ref a24])), (a1, .inl (cI, 544, .inl g1_2))] := hD
              refine lv_istore_n (lv' := [(3, .int r497), (0, .ref a0), (1, .int p0), (2, .int w2_2)]) hx hb dX12_moves_157 rfl hl (by decide) rfl (fun ls hl => ?_)
              refine lv_aload_n hx hb dX12_moves_158 rfl (lv_at hl 1 rfl) ?_
              refine va_get (D := (dC, dI)) (ci := 12) (v := .ref a10) (C := RX12) (T := TX12) (N := 42) hx hb hwd inlX12 hown hK hP 2 rfl rfl 18 (by decide) (hwd _ kr49_19) (fun _ h9 => h9) rfl dX12_moves_159 ?_
              refine lv_iload_n hx hb dX12_moves_162 rfl (lv_at hl 0 rfl) ?_
              have h501 : vp_in r497 10 := (vp_of (by omega) (by omega))
              refine va_iald hx hb hK hP 1 0 rfl rfl h501 dX12_moves_163 ?_
              refine lv_topi (fun x502 ex502 => ?_)
              refine lv_aload_n hx hb dX12_moves_164 rfl (lv_at hl 1 rfl) ?_
              refine lv_iload_n hx hb dX12_moves_165 rfl (lv_at hl 3 rfl) ?_
              refine lv_iconst (v := 1) hx hb dX12_moves_166 (by decide) ?_
              have hPc := hP.sub (ws' := [(a0, .inr (12, [.int i0, .ref a1, .ref a2, .ref a3, .ref a4, .int i1, .ref a5, .int i2, .int i3, .int i4, .int i5, .int i6, .int i7, .int i8, .ref a6, .ref a7, .ref a8, .ref a9, .ref a10, .ref a11, .ref a12, .int i9, .ref a13, .int i10, .ref a14, .ref a15, .int i11, .ref a16, .ref a17, .ref a18, .ref a19, .int i12, .int i13, .int i14, .int i15, .int i16, .ref a20, .long j0, .ref a21, .ref a22, .ref a23, .ref a24])), (a1, .inl (cI, 544, .inl g1_2))]) [2, 3] rfl
              have hDc := hD.sub (ws' := [(a0, .inr (12, [.int i0, .ref a1, .ref a2, .ref a3, .ref a4, .int i1, .ref a5, .int i2, .int i3, .int i4, .int i5, .int i6, .int i7, .int i8, .ref a6, .ref a7, .ref a8, .ref a9, .ref a10, .ref a11, .ref a12, .int i9, .ref a13, .int i10, .ref a14, .ref a15, .int i11, .ref a16, .ref a17, .ref a18, .ref a19, .int i12, .int i13, .int i14, .int i15, .int i16, .ref a20, .long j0, .ref a21, .ref a22, .ref a23, .ref a24])), (a1, .inl (cI, 544, .inl g1_2))]) [2, 3] (by decide) rfl
              have hFc := va_free (wc := [(a0, .inr (12, [.int i0, .ref a1, .ref a2, .ref a3, .ref a4, .int i1, .ref a5, .int i2, .int i3, .int i4, .int i5, .int i6, .int i7, .int i8, .ref a6, .ref a7, .ref a8, .ref a9, .ref a10, .ref a11, .ref a12, .int i9, .ref a13, .int i10, .ref a14, .ref a15, .int i11, .ref a16, .ref a17, .ref a18, .ref a19, .int i12, .int i13, .int i14, .int i15, .int i16, .ref a20, .long j0, .ref a21, .ref a22, .ref a23, .ref a24])), (a1, .inl (cI, 544, .inl g1_2))]) hD hS hA [2, 3] rfl
              refine va_calli (va_runV (As := [.int w2_2, .int 1]) (rest := [.int x502]) ⟨hx, hb, hml, hown, hwd⟩ (s_X12_ofPawl l dC dI cI cZ cB cJ cM cG a0 a1 a2 a3 a4 a5 a6 a7 a8 a9 a10 a11 a12 a13 a14 a15 a16 a17 a18 a19 a20 a21 a22 a23 a24 i0 i1 i2 i3 i4 i5 i6 i7 i8 i9 i10 i11 i12 i13 i14 i15 i16 j0 g1_2 w2_2 1 cp H.size (show (0 : Int) ≤ i1.toInt ∧ i1.toInt ≤ 1600 from p_0) (show (0 : Int) ≤ i2.toInt ∧ i2.toInt ≤ 1600 from p_1) (show (0 : Int) ≤ i3.toInt ∧ i3.toInt ≤ 1600 from p_2) (show (0 : Int) ≤ i4.toInt ∧ i4.toInt ≤ 1600 from p_3) (show (0 : Int) ≤ i5.toInt ∧ i5.toInt ≤ 6 from p_4) (show (0 : Int) ≤ i7.toInt ∧ i7.toInt ≤ 3 from p_5) (show (0 : Int) ≤ i11.toInt ∧ i11.toInt ≤ 59 from p_6) (show WI cp g1_2 from hd_g1_2) (show (0 : Int) ≤ w2_2.toInt ∧ w2_2.toInt ≤ 3 from ⟨by omega, by omega⟩) (show (0 : Int) ≤ (1 : Int32).toInt ∧ (1 : Int32).toInt ≤ 2 from ⟨by omega, by omega⟩) p_9) (cwV 2 hwd (gV kr58_0 kr58_1 kr4_2 kr5_23 kr58_2) rfl rfl rfl (by decide +kernel) ⟨Nat.le_of_ble_eq_true rfl, Nat.le_of_ble_eq_true rfl⟩) (kPreV hPc hK hDc (ci := 12) (q0 := 0) rfl rfl) rfl rfl hl.1 rfl (lv_room (Nat.le_of_ble_eq_true rfl)) dX12_moves_167 ⟨Nat.le_of_ble_eq_true rfl, Nat.le_of_ble_eq_true rfl⟩) hS (fun q _ h => hFc q h) hFc (fun r503 u504 t H1 locs ht9 hvm hw hB hz1 hk1 hS => ?_)
              obtain ⟨hw505, hw506, -⟩ := hw
              replace hw505 : ((1 : Int32).toInt = 0 → 0 ≤ r503.toInt ∧ r503.toInt ≤ 9) := hw505
              clear hw505
              replace hw506 : ((1 : Int32).toInt = 2 → w2_2.toInt < wat g1_2 7 → 2 ≤ r503.toInt) := hw506
              clear hw506
              obtain ⟨hP1, hD1⟩ := hB
              rw [ht9] at hP1
              obtain ⟨hP, hD⟩ := va_join (wr := [(a8, .inl (cI, 600, .inl xF7)), (a10, .inl (cI, 10, .inl g2_1))]) (w1 := [(a0, .inr (12, [.int i0, .ref a1, .ref a2, .ref a3, .ref a4, .int i1, .ref a5, .int i2, .int i3, .int i4, .int i5, .int i6, .int i7, .int i8, .ref a6, .ref a7, .ref a8, .ref a9, .ref a10, .ref a11, .ref a12, .int i9, .ref a13, .int i10, .ref a14, .ref a15, .int i11, .ref a16, .ref a17, .ref a18, .ref a19, .int i12, .int i13, .int i14, .int i15, .int i16, .ref a20, .long j0, .ref a21, .ref a22, .ref a23, .ref a24])), (a1, .inl (cI, 544, .inl g1_2))]) hP hD [2, 3] [0, 1] rfl rfl (by decide) (by decide) hk1 hFc hP1 hD1
              generalize H1 = H at hP hS ⊢
              replace hP : va_P (dC, dI) vwCl [(a8, .inl (cI, 600, .inl xF7)), (a10, .inl (cI, 10, .inl g2_1)), (a0, .inr (12, [.int i0, .ref a1, .ref a2, .ref a3, .ref a4, .int i1, .ref a5, .int i2, .int i3, .int i4, .int i5, .int i6, .int i7, .int i8, .ref a6, .ref a7, .ref a8, .ref a9, .ref a10, .ref a11, .ref a12, .int i9, .ref a13, .int i10, .ref a14, .ref a15, .int i11, .ref a16, .ref a17, .ref a18, .ref a19, .int i12, .int i13, .int i14, .int i15, .int i16, .ref a20, .long j0, .ref a21, .ref a22, .ref a23, .ref a24])), (a1, .inl (cI, 544, .inl g1_2))] H := hP
              replace hD : va_D A [(a8, .inl (cI, 600, .inl xF7)), (a10, .inl (cI, 10, .inl g2_1)), (a0, .inr (12, [.int i0, .ref a1, .ref a2, .ref a3, .ref a4, .int i1, .ref a5, .int i2, .int i3, .int i4, .int i5, .int i6, .int i7, .int i8, .ref a6, .ref a7, .ref a8, .ref a9, .ref a10, .ref a11, .ref a12, .int i9, .ref a13, .int i10, .ref a14, .ref a15, .int i11, .ref a16, .ref a17, .ref a18, .ref a19, .int i12, .int i13, .int i14, .int i15, .int i16, .ref a20, .long j0, .ref a21, .ref a22, .ref a23, .ref a24])), (a1, .inl (cI, 544, .inl g1_2))] := hD
              have jp8 : ∀ (H : Heap) (locs : List Loc) (ls : Array Slot), va_P (dC, dI) vwCl [(a8, .inl (cI, 600, .inl xF7)), (a10, .inl (cI, 10, .inl g2_1)), (a0, .inr (12, [.int i0, .ref a1, .ref a2, .ref a3, .ref a4, .int i1, .ref a5, .int i2, .int i3, .int i4, .int i5, .int i6, .int i7, .int i8, .ref a6, .ref a7, .ref a8, .ref a9, .ref a10, .ref a11, .ref a12, .int i9, .ref a13, .int i10, .ref a14, .ref a15, .int i11, .ref a16, .ref a17, .ref a18, .ref a19, .int i12, .int i13, .int i14, .int i15, .int i16, .ref a20, .long j0, .ref a21, .ref a22, .ref a23, .ref a24])), (a1, .inl (cI, 544, .inl g1_2))] H → va_D A [(a8, .inl (cI, 600, .inl xF7)), (a10, .inl (cI, 10, .inl g2_1)), (a0, .inr (12, [.int i0, .ref a1, .ref a2, .ref a3, .ref a4, .int i1, .ref a5, .int i2, .int i3, .int i4, .int i5, .int i6, .int i7, .int i8, .ref a6, .ref a7, .ref a8, .ref a9, .ref a10, .ref a11, .ref a12, .int i9, .ref a13, .int i10, .ref a14, .ref a15, .int i11, .ref a16, .ref a17, .ref a18, .ref a19, .int i12, .int i13, .int i14, .int i15, .int i16, .ref a20, .long j0, .ref a21, .ref a22, .ref a23, .ref a24])), (a1, .inl (cI, 544, .inl g1_2))] → va_S A s.heap H locs → lv_has ls 5 [(0, .ref a0), (1, .int p0), (2, .int w2_2), (3, .int r497)] → W p l e ({ frames := 2, cells := 0, slots := 0, locals := 46 } : Room) s m ([.ref a0, .int p0] : List Value).toArray below meth c H locs 0 0 Q (F0 m 191 ls []) := by
                intro H locs ls  hP hD hS hl
                refine lv_iconst (v := 0) hx hb dX12_moves_191 (by decide) ?_
                refine lv_istore (lv' := [(4, .int 0), (0, .ref a0), (1, .int p0), (2, .int w2_2), (3, .int r497)]) hx hb dX12_moves_192 hl (by decide) rfl (fun ls hl => ?_)
                refine lv_aload_n hx hb dX12_moves_194 rfl (lv_at hl 1 rfl) ?_
                refine va_get (D := (dC, dI)) (ci := 12) (v := .ref a1) (C := RX12) (T := TX12) (N := 42) hx hb hwd inlX12 hown hK hP 2 rfl rfl 1 (by decide) (hwd _ kr49_2) (fun _ h9 => h9) rfl dX12_moves_195 ?_
                refine lv_sipush (v := 260) hx hb dX12_moves_198 (by decide) ?_
                refine lv_iload_n hx hb dX12_moves_201 rfl (lv_at hl 3 rfl) ?_
                refine lv_iadd hx hb dX12_moves_202 ?_
                refine lv_topi (fun x535 ex535 => ?_)
                have tx535 := ia_add (a := (260 : Int32)) (b := w2_2) (by omega) (by omega)
                rw [← ex535] at tx535
                refine lv_iload hx hb dX12_moves_203 (lv_at hl 0 rfl) ?_
                refine lv_if_eq (tgt := 230) hx hb dX12_moves_205 (by decide) (fun c536 => ?_) (fun c536 => absurd c536 (by decide))
                refine lv_aload_n hx hb dX12_moves_230 rfl (lv_at hl 1 rfl) ?_
                refine va_get (D := (dC, dI)) (ci := 12) (v := .ref a1) (C := RX12) (T := TX12) (N := 42) hx hb hwd inlX12 hown hK hP 2 rfl rfl 1 (by decide) (hwd _ kr49_2) (fun _ h9 => h9) rfl dX12_moves_231 ?_
                refine lv_sipush (v := 260) hx hb dX12_moves_234 (by decide) ?_
                refine lv_iload_n hx hb dX12_moves_237 rfl (lv_at hl 3 rfl) ?_
                refine lv_iadd hx hb dX12_moves_238 ?_
                refine lv_topi (fun x537 ex537 => ?_)
                have tx537 := ia_add (a := (260 : Int32)) (b := w2_2) (by omega) (by omega)
                rw [← ex537] at tx537
                have h538 : vp_in x537 544 := (vp_of (by omega) (by omega))
                refine va_iald hx hb hK hP 3 0 rfl rfl h538 dX12_moves_239 ?_
                refine lv_topi (fun x539 ex539 => ?_)
                have ix539 : x539.toInt = (g1_2 x537.toInt.toNat).toInt := by rw [ex539]; rfl
                refine va_iast hx hb hK hP hD hS 3 0 rfl rfl (vp_of (by omega) (by omega)) dX12_moves_240 (fun H locs hP hD hS => ?_)
                obtain ⟨f540, ef540⟩ : ∃ f, f = upd g1_2 x535.toNatClampNeg x539 := ⟨_, rfl⟩
                have df540 : WI cp f540 := by rw [ef540]; exact WI_free hd_g1_2 (by omega) (by omega)
                replace hP : va_P (dC, dI) vwCl [(a8, .inl (cI, 600, .inl xF7)), (a10, .inl (cI, 10, .inl g2_1)), (a0, .inr (12, [.int i0, .ref a1, .ref a2, .ref a3, .ref a4, .int i1, .ref a5, .int i2, .int i3, .int i4, .int i5, .int i6, .int i7, .int i8, .ref a6, .ref a7, .ref a8, .ref a9, .ref a10, .ref a11, .ref a12, .int i9, .ref a13, .int i10, .ref a14, .ref a15, .int i11, .ref a16, .ref a17, .ref a18, .ref a19, .int i12, .int i13, .int i14, .int i15, .int i16, .ref a20, .long j0, .ref a21, .ref a22, .ref a23, .ref a24])), (a1, .inl (cI, 544, .inl f540))] H := by rw [ef540]; exact hP
                replace hD : va_D A [(a8, .inl (cI, 600, .inl xF7)), (a10, .inl (cI, 10, .inl g2_1)), (a0, .inr (12, [.int i0, .ref a1, .ref a2, .ref a3, .ref a4, .int i1, .ref a5, .int i2, .int i3, .int i4, .int i5, .int i6, .int i7, .int i8, .ref a6, .ref a7, .ref a8, .ref a9, .ref a10, .ref a11, .ref a12, .int i9, .ref a13, .int i10, .ref a14, .ref a15, .int i11, .ref a16, .ref a17, .ref a18, .ref a19, .int i12, .int i13, .int i14, .int i15, .int i16, .ref a20, .long j0, .ref a21, .ref a22, .ref a23, .ref a24])), (a1, .inl (cI, 544, .inl f540))] := by rw [ef540]; exact hD
                obtain ⟨x541, ex541⟩ : ∃ y : Int32, y = w2_2 + 1 := ⟨_, rfl⟩
                refine lv_iinc (v := x541) (lv' := [(2, .int x541), (4, .int 0), (0, .ref a0), (1, .int p0), (3, .int r497)]) hx hb dX12_moves_241 hl (k := 3) rfl (by rw [ex541]; rfl) (by decide) rfl (fun ls hl => ?_)
                have tx541 := ia_add (a := w2_2) (b := (1 : Int32)) (by omega) (by omega)
                rw [← ex541] at tx541
                refine lv_goto (tgt := 140) hx hb dX12_moves_244 (by decide) ?_
                exact ih2 _ _ ls x541 f540 (show (0 : Int) ≤ x541.toInt ∧ x541.toInt ≤ 4 from ⟨by omega, by omega⟩) (show WI cp f540 from df540) (by omega) (hP.sub (ws' := [(a0, .inr (12, [.int i0, .ref a1, .ref a2, .ref a3, .ref a4, .int i1, .ref a5, .int i2, .int i3, .int i4, .int i5, .int i6, .int i7, .int i8, .ref a6, .ref a7, .ref a8, .ref a9, .ref a10, .ref a11, .ref a12, .int i9, .ref a13, .int i10, .ref a14, .ref a15, .int i11, .ref a16, .ref a17, .ref a18, .ref a19, .int i12, .int i13, .int i14, .int i15, .int i16, .ref a20, .long j0, .ref a21, .ref a22, .ref a23, .ref a24])), (a1, .inl (cI, 544, .inl f540)), (a8, .inl (cI, 600, .inl xF7)), (a10, .inl (cI, 10, .inl g2_1))]) [2, 3, 0, 1] rfl) (hD.sub (ws' := [(a0, .inr (12, [.int i0, .ref a1, .ref a2, .ref a3, .ref a4, .int i1, .ref a5, .int i2, .int i3, .int i4, .int i5, .int i6, .int i7, .int i8, .ref a6, .ref a7, .ref a8, .ref a9, .ref a10, .ref a11, .ref a12, .int i9, .ref a13, .int i10, .ref a14, .ref a15, .int i11, .ref a16, .ref a17, .ref a18, .ref a19, .int i12, .int i13, .int i14, .int i15, .int i16, .ref a20, .long j0, .ref a21, .ref a22, .ref a23, .ref a24])), (a1, .inl (cI, 544, .inl f540)), (a8, .inl (cI, 600, .inl xF7)), (a10, .inl (cI, 10, .inl g2_1))]) [2, 3, 0, 1] (by decide) rfl) hS (lv_sub hl [2, 3, 0] rfl)
              refine lv_icmp_ge (tgt := 191) hx hb dX12_moves_170 (by decide) (fun c542 => ?_) (fun c542 => ?_)
              · rw [ki_le] at c542
                exact jp8 _ _ ls  (hP.sub (ws' := [(a8, .inl (cI, 600, .inl xF7)), (a10, .inl (cI, 10, .inl g2_1)), (a0, .inr (12, [.int i0, .ref a1, .ref a2, .ref a3, .ref a4, .int i1, .ref a5, .int i2, .int i3, .int i4, .int i5, .int i6, .int i7, .int i8, .ref a6, .ref a7, .ref a8, .ref a9, .ref a10, .ref a11, .ref a12, .int i9, .ref a13, .int i10, .ref a14, .ref a15, .int i11, .ref a16, .ref a17, .ref a18, .ref a19, .int i12, .int i13, .int i14, .int i15, .int i16, .ref a20, .long j0, .ref a21, .ref a22, .ref a23, .ref a24])), (a1, .inl (cI, 544, .inl g1_2))]) [0, 1, 2, 3] rfl) (hD.sub (ws' := [(a8, .inl (cI, 600, .inl xF7)), (a10, .inl (cI, 10, .inl g2_1)), (a0, .inr (12, [.int i0, .ref a1, .ref a2, .ref a3, .ref a4, .int i1, .ref a5, .int i2, .int i3, .int i4, .int i5, .int i6, .int i7, .int i8, .ref a6, .ref a7, .ref a8, .ref a9, .ref a10, .ref a11, .ref a12, .int i9, .ref a13, .int i10, .ref a14, .ref a15, .int i11, .ref a16, .ref a17, .ref a18, .ref a19, .int i12, .int i13, .int i14, .int i15, .int i16, .ref a20, .long j0, .ref a21, .ref a22, .ref a23, .ref a24])), (a1, .inl (cI, 544, .inl g1_2))]) [0, 1, 2, 3] (by decide) rfl) hS (lv_sub hl [1, 2, 3, 0] rfl)
              · rw [ki_le] at c542
                refine lv_aload_n hx hb dX12_moves_173 rfl (lv_at hl 1 rfl) ?_
                refine lv_iload_n hx hb dX12_moves_174 rfl (lv_at hl 0 rfl) ?_
                have hPc := hP.sub (ws' := [(a0, .inr (12, [.int i0, .ref a1, .ref a2, .ref a3, .ref a4, .int i1, .ref a5, .int i2, .int i3, .int i4, .int i5, .int i6, .int i7, .int i8, .ref a6, .ref a7, .ref a8, .ref a9, .ref a10, .ref a11, .ref a12, .int i9, .ref a13, .int i10, .ref a14, .ref a15, .int i11, .ref a16, .ref a17, .ref a18, .ref a19, .int i12, .int i13, .int i14, .int i15, .int i16, .ref a20, .long j0, .ref a21, .ref a22, .ref a23, .ref a24])), (a1, .inl (cI, 544, .inl g1_2))]) [2, 3] rfl
                have hDc := hD.sub (ws' := [(a0, .inr (12, [.int i0, .ref a1, .ref a2, .ref a3, .ref a4, .int i1, .ref a5, .int i2, .int i3, .int i4, .int i5, .int i6, .int i7, .int i8, .ref a6, .ref a7, .ref a8, .ref a9, .ref a10, .ref a11, .ref a12, .int i9, .ref a13, .int i10, .ref a14, .ref a15, .int i11, .ref a16, .ref a17, .ref a18, .ref a19, .int i12, .int i13, .int i14, .int i15, .int i16, .ref a20, .long j0, .ref a21, .ref a22, .ref a23, .ref a24])), (a1, .inl (cI, 544, .inl g1_2))]) [2, 3] (by decide) rfl
                have hFc := va_free (wc := [(a0, .inr (12, [.int i0, .ref a1, .ref a2, .ref a3, .ref a4, .int i1, .ref a5, .int i2, .int i3, .int i4, .int i5, .int i6, .int i7, .int i8, .ref a6, .ref a7, .ref a8, .ref a9, .ref a10, .ref a11, .ref a12, .int i9, .ref a13, .int i10, .ref a14, .ref a15, .int i11, .ref a16, .ref a17, .ref a18, .ref a19, .int i12, .int i13, .int i14, .int i15, .int i16, .ref a20, .long j0, .ref a21, .ref a22, .ref a23, .ref a24])), (a1, .inl (cI, 544, .inl g1_2))]) hD hS hA [2, 3] rfl
                refine va_calli (va_runV (As := [.int r497]) (rest := []) ⟨hx, hb, hml, hown, hwd⟩ (s_X12_posOf l dC dI cI cZ cB cJ cM cG a0 a1 a2 a3 a4 a5 a6 a7 a8 a9 a10 a11 a12 a13 a14 a15 a16 a17 a18 a19 a20 a21 a22 a23 a24 i0 i1 i2 i3 i4 i5 i6 i7 i8 i9 i10 i11 i12 i13 i14 i15 i16 j0 g1_2 r497 cp H.size (show (0 : Int) ≤ i1.toInt ∧ i1.toInt ≤ 1600 from p_0) (show (0 : Int) ≤ i2.toInt ∧ i2.toInt ≤ 1600 from p_1) (show (0 : Int) ≤ i3.toInt ∧ i3.toInt ≤ 1600 from p_2) (show (0 : Int) ≤ i4.toInt ∧ i4.toInt ≤ 1600 from p_3) (show (0 : Int) ≤ i5.toInt ∧ i5.toInt ≤ 6 from p_4) (show (0 : Int) ≤ i7.toInt ∧ i7.toInt ≤ 3 from p_5) (show (0 : Int) ≤ i11.toInt ∧ i11.toInt ≤ 59 from p_6) (show WI cp g1_2 from hd_g1_2) (show (0 : Int) ≤ r497.toInt ∧ r497.toInt ≤ 9 from ⟨by omega, by omega⟩) p_9) (cwV 1 hwd (gV kr55_20 kr55_21 kr3_18 kr5_23 kr55_22) rfl rfl rfl (by decide +kernel) ⟨Nat.le_of_ble_eq_true rfl, Nat.le_of_ble_eq_true rfl⟩) (kPreV hPc hK hDc (ci := 12) (q0 := 0) rfl rfl) rfl rfl hl.1 rfl (lv_room (Nat.le_of_ble_eq_true rfl)) dX12_moves_175 ⟨Nat.le_of_ble_eq_true rfl, Nat.le_of_ble_eq_true rfl⟩) hS (fun q _ h => hFc q h) hFc (fun r543 u544 t H1 locs ht9 hvm hw hB hz1 hk1 hS => ?_)
                obtain ⟨hP1, hD1⟩ := hB
                rw [ht9] at hP1
                obtain ⟨hP, hD⟩ := va_join (wr := [(a8, .inl (cI, 600, .inl xF7)), (a10, .inl (cI, 10, .inl g2_1))]) (w1 := [(a0, .inr (12, [.int i0, .ref a1, .ref a2, .ref a3, .ref a4, .int i1, .ref a5, .int i2, .int i3, .int i4, .int i5, .int i6, .int i7, .int i8, .ref a6, .ref a7, .ref a8, .ref a9, .ref a10, .ref a11, .ref a12, .int i9, .ref a13, .int i10, .ref a14, .ref a15, .int i11, .ref a16, .ref a17, .ref a18, .ref a19, .int i12, .int i13, .int i14, .int i15, .int i16, .ref a20, .long j0, .ref a21, .ref a22, .ref a23, .ref a24])), (a1, .inl (cI, 544, .inl g1_2))]) hP hD [2, 3] [0, 1] rfl rfl (by decide) (by decide) hk1 hFc hP1 hD1
                generalize H1 = H at hP hS ⊢
                replace hP : va_P (dC, dI) vwCl [(a8, .inl (cI, 600, .inl xF7)), (a10, .inl (cI, 10, .inl g2_1)), (a0, .inr (12, [.int i0, .ref a1, .ref a2, .ref a3, .ref a4, .int i1, .ref a5, .int i2, .int i3, .int i4, .int i5, .int i6, .int i7, .int i8, .ref a6, .ref a7, .ref a8, .ref a9, .ref a10, .ref a11, .ref a12, .int i9, .ref a13, .int i10, .ref a14, .ref a15, .int i11, .ref a16, .ref a17, .ref a18, .ref a19, .int i12, .int i13, .int i14, .int i15, .int i16, .ref a20, .long j0, .ref a21, .ref a22, .ref a23, .ref a24])), (a1, .inl (cI, 544, .inl g1_2))] H := hP
                replace hD : va_D A [(a8, .inl (cI, 600, .inl xF7)), (a10, .inl (cI, 10, .inl g2_1)), (a0, .inr (12, [.int i0, .ref a1, .ref a2, .ref a3, .ref a4, .int i1, .ref a5, .int i2, .int i3, .int i4, .int i5, .int i6, .int i7, .int i8, .ref a6, .ref a7, .ref a8, .ref a9, .ref a10, .ref a11, .ref a12, .int i9, .ref a13, .int i10, .ref a14, .ref a15, .int i11, .ref a16, .ref a17, .ref a18, .ref a19, .int i12, .int i13, .int i14, .int i15, .int i16, .ref a20, .long j0, .ref a21, .ref a22, .ref a23, .ref a24])), (a1, .inl (cI, 544, .inl g1_2))] := hD
                refine lv_aload_n hx hb dX12_moves_178 rfl (lv_at hl 1 rfl) ?_
                refine lv_iload_n hx hb dX12_moves_179 rfl (lv_at hl 3 rfl) ?_
                refine lv_iconst (v := 1) hx hb dX12_moves_180 (by decide) ?_
                have hPc := hP.sub (ws' := [(a0, .inr (12, [.int i0, .ref a1, .ref a2, .ref a3, .ref a4, .int i1, .ref a5, .int i2, .int i3, .int i4, .int i5, .int i6, .int i7, .int i8, .ref a6, .ref a7, .ref a8, .ref a9, .ref a10, .ref a11, .ref a12, .int i9, .ref a13, .int i10, .ref a14, .ref a15, .int i11, .ref a16, .ref a17, .ref a18, .ref a19, .int i12, .int i13, .int i14, .int i15, .int i16, .ref a20, .long j0, .ref a21, .ref a22, .ref a23, .ref a24])), (a1, .inl (cI, 544, .inl g1_2))]) [2, 3] rfl
                have hDc := hD.sub (ws' := [(a0, .inr (12, [.int i0, .ref a1, .ref a2, .ref a3, .ref a4, .int i1, .ref a5, .int i2, .int i3, .int i4, .int i5, .int i6, .int i7, .int i8, .ref a6, .ref a7, .ref a8, .ref a9, .ref a10, .ref a11, .ref a12, .int i9, .ref a13, .int i10, .ref a14, .ref a15, .int i11, .ref a16, .ref a17, .ref a18, .ref a19, .int i12, .int i13, .int i14, .int i15, .int i16, .ref a20, .long j0, .ref a21, .ref a22, .ref a23, .ref a24])), (a1, .inl (cI, 544, .inl g1_2))]) [2, 3] (by decide) rfl
                have hFc := va_free (wc := [(a0, .inr (12, [.int i0, .ref a1, .ref a2, .ref a3, .ref a4, .int i1, .ref a5, .int i2, .int i3, .int i4, .int i5, .int i6, .int i7, .int i8, .ref a6, .ref a7, .ref a8, .ref a9, .ref a10, .ref a11, .ref a12, .int i9, .ref a13, .int i10, .ref a14, .ref a15, .int i11, .ref a16, .ref a17, .ref a18, .ref a19, .int i12, .int i13, .int i14, .int i15, .int i16, .ref a20, .long j0, .ref a21, .ref a22, .ref a23, .ref a24])), (a1, .inl (cI, 544, .inl g1_2))]) hD hS hA [2, 3] rfl
                refine va_calli (va_runV (As := [.int w2_2, .int 1]) (rest := [.int r543]) ⟨hx, hb, hml, hown, hwd⟩ (s_X12_ofPawl l dC dI cI cZ cB cJ cM cG a0 a1 a2 a3 a4 a5 a6 a7 a8 a9 a10 a11 a12 a13 a14 a15 a16 a17 a18 a19 a20 a21 a22 a23 a24 i0 i1 i2 i3 i4 i5 i6 i7 i8 i9 i10 i11 i12 i13 i14 i15 i16 j0 g1_2 w2_2 1 cp H.size (show (0 : Int) ≤ i1.toInt ∧ i1.toInt ≤ 1600 from p_0) (show (0 : Int) ≤ i2.toInt ∧ i2.toInt ≤ 1600 from p_1) (show (0 : Int) ≤ i3.toInt ∧ i3.toInt ≤ 1600 from p_2) (show (0 : Int) ≤ i4.toInt ∧ i4.toInt ≤ 1600 from p_3) (show (0 : Int) ≤ i5.toInt ∧ i5.toInt ≤ 6 from p_4) (show (0 : Int) ≤ i7.toInt ∧ i7.toInt ≤ 3 from p_5) (show (0 : Int) ≤ i11.toInt ∧ i11.toInt ≤ 59 from p_6) (show WI cp g1_2 from hd_g1_2) (show (0 : Int) ≤ w2_2.toInt ∧ w2_2.toInt ≤ 3 from ⟨by omega, by omega⟩) (show (0 : Int) ≤ (1 : Int32).toInt ∧ (1 : Int32).toInt ≤ 2 from ⟨by omega, by omega⟩) p_9) (cwV 2 hwd (gV kr58_0 kr58_1 kr4_2 kr5_23 kr58_2) rfl rfl rfl (by decide +kernel) ⟨Nat.le_of_ble_eq_true rfl, Nat.le_of_ble_eq_true rfl⟩) (kPreV hPc hK hDc (ci := 12) (q0 := 0) rfl rfl) rfl rfl hl.1 rfl (lv_room (Nat.le_of_ble_eq_true rfl)) dX12_moves_181 ⟨Nat.le_of_ble_eq_true rfl, Nat.le_of_ble_eq_true rfl⟩) hS (fun q _ h => hFc q h) hFc (fun r545 u546 t H1 locs ht9 hvm hw hB hz1 hk1 hS => ?_)
                obtain ⟨hw547, hw548, -⟩ := hw
                replace hw547 : ((1 : Int32).toInt = 0 → 0 ≤ r545.toInt ∧ r545.toInt ≤ 9) := hw547
                clear hw547
                replace hw548 : ((1 : Int32).toInt = 2 → w2_2.toInt < wat g1_2 7 → 2 ≤ r545.toInt) := hw548
                clear hw548
                obtain ⟨hP1, hD1⟩ := hB
                rw [ht9] at hP1
                obtain ⟨hP, hD⟩ := va_join (wr := [(a8, .inl (cI, 600, .inl xF7)), (a10, .inl (cI, 10, .inl g2_1))]) (w1 := [(a0, .inr (12, [.int i0, .ref a1, .ref a2, .ref a3, .ref a4, .int i1, .ref a5, .int i2, .int i3, .int i4, .int i5, .int i6, .int i7, .int i8, .ref a6, .ref a7, .ref a8, .ref a9, .ref a10, .ref a11, .ref a12, .int i9, .ref a13, .int i10, .ref a14, .ref a15, .int i11, .ref a16, .ref a17, .ref a18, .ref a19, .int i12, .int i13, .int i14, .int i15, .int i16, .ref a20, .long j0, .ref a21, .ref a22, .ref a23, .ref a24])), (a1, .inl (cI, 544, .inl g1_2))]) hP hD [2, 3] [0, 1] rfl rfl (by decide) (by decide) hk1 hFc hP1 hD1
                generalize H1 = H at hP hS ⊢
                replace hP : va_P (dC, dI) vwCl [(a8, .inl (cI, 600, .inl xF7)), (a10, .inl (cI, 10, .inl g2_1)), (a0, .inr (12, [.int i0, .ref a1, .ref a2, .ref a3, .ref a4, .int i1, .ref a5, .int i2, .int i3, .int i4, .int i5, .int i6, .int i7, .int i8, .ref a6, .ref a7, .ref a8, .ref a9, .ref a10, .ref a11, .ref a12, .int i9, .ref a13, .int i10, .ref a14, .ref a15, .int i11, .ref a16, .ref a17, .ref a18, .ref a19, .int i12, .int i13, .int i14, .int i15, .int i16, .ref a20, .long j0, .ref a21, .ref a22, .ref a23, .ref a24])), (a1, .inl (cI, 544, .inl g1_2))] H := hP
                replace hD : va_D A [(a8, .inl (cI, 600, .inl xF7)), (a10, .inl (cI, 10, .inl g2_1)), (a0, .inr (12, [.int i0, .ref a1, .ref a2, .ref a3, .ref a4, .int i1, .ref a5, .int i2, .int i3, .int i4, .int i5, .int i6, .int i7, .int i8, .ref a6, .ref a7, .ref a8, .ref a9, .ref a10, .ref a11, .ref a12, .int i9, .ref a13, .int i10, .ref a14, .ref a15, .int i11, .ref a16, .ref a17, .ref a18, .ref a19, .int i12, .int i13, .int i14, .int i15, .int i16, .ref a20, .long j0, .ref a21, .ref a22, .ref a23, .ref a24])), (a1, .inl (cI, 544, .inl g1_2))] := hD
                refine lv_icmp_lt (tgt := 191) hx hb dX12_moves_184 (by decide) (fun c549 => ?_) (fun c549 => ?_)
                · rw [ki_lt] at c549
                  exact jp8 _ _ ls  (hP.sub (ws' := [(a8, .inl (cI, 600, .inl xF7)), (a10, .inl (cI, 10, .inl g2_1)), (a0, .inr (12, [.int i0, .ref a1, .ref a2, .ref a3, .ref a4, .int i1, .ref a5, .int i2, .int i3, .int i4, .int i5, .int i6, .int i7, .int i8, .ref a6, .ref a7, .ref a8, .ref a9, .ref a10, .ref a11, .ref a12, .int i9, .ref a13, .int i10, .ref a14, .ref a15, .int i11, .ref a16, .ref a17, .ref a18, .ref a19, .int i12, .int i13, .int i14, .int i15, .int i16, .ref a20, .long j0, .ref a21, .ref a22, .ref a23, .ref a24])), (a1, .inl (cI, 544, .inl g1_2))]) [0, 1, 2, 3] rfl) (hD.sub (ws' := [(a8, .inl (cI, 600, .inl xF7)), (a10, .inl (cI, 10, .inl g2_1)), (a0, .inr (12, [.int i0, .ref a1, .ref a2, .ref a3, .ref a4, .int i1, .ref a5, .int i2, .int i3, .int i4, .int i5, .int i6, .int i7, .int i8, .ref a6, .ref a7, .ref a8, .ref a9, .ref a10, .ref a11, .ref a12, .int i9, .ref a13, .int i10, .ref a14, .ref a15, .int i11, .ref a16, .ref a17, .ref a18, .ref a19, .int i12, .int i13, .int i14, .int i15, .int i16, .ref a20, .long j0, .ref a21, .ref a22, .ref a23, .ref a24])), (a1, .inl (cI, 544, .inl g1_2))]) [0, 1, 2, 3] (by decide) rfl) hS (lv_sub hl [1, 2, 3, 0] rfl)
                · rw [ki_lt] at c549
                  refine lv_iconst (v := 1) hx hb dX12_moves_187 (by decide) ?_
                  refine lv_goto (tgt := 192) hx hb dX12_moves_188 (by decide) ?_
                  refine lv_istore (lv' := [(4, .int 1), (3, .int r497), (0, .ref a0), (1, .int p0), (2, .int w2_2)]) hx hb dX12_moves_192 hl (by decide) rfl (fun ls hl => ?_)
                  refine lv_aload_n hx hb dX12_moves_194 rfl (lv_at hl 2 rfl) ?_
                  refine va_get (D := (dC, dI)) (ci := 12) (v := .ref a1) (C := RX12) (T := TX12) (N := 42) hx hb hwd inlX12 hown hK hP 2 rfl rfl 1 (by decide) (hwd _ kr49_2) (fun _ h9 => h9) rfl dX12_moves_195 ?_
                  refine lv_sipush (v := 260) hx hb dX12_moves_198 (by decide) ?_
                  refine lv_iload_n hx hb dX12_moves_201 rfl (lv_at hl 4 rfl) ?_
                  refine lv_iadd hx hb dX12_moves_202 ?_
                  refine lv_topi (fun x550 ex550 => ?_)
                  have tx550 := ia_add (a := (260 : Int32)) (b := w2_2) (by omega) (by omega)
                  rw [← ex550] at tx550
                  refine lv_iload hx hb dX12_moves_203 (lv_at hl 0 rfl) ?_
                  refine lv_if_eq (tgt := 230) hx hb dX12_moves_205 (by decide) (fun c551 => absurd c551 (by decide)) (fun c551 => ?_)
                  refine lv_aload_n hx hb dX12_moves_208 rfl (lv_at hl 2 rfl) ?_
                  refine va_get (D := (dC, dI)) (ci := 12) (v := .ref a1) (C := RX12) (T := TX12) (N := 42) hx hb hwd inlX12 hown hK hP 2 rfl rfl 1 (by decide) (hwd _ kr49_2) (fun _ h9 => h9) rfl dX12_moves_209 ?_
                  refine lv_sipush (v := 260) hx hb dX12_moves_212 (by decide) ?_
                  refine lv_iload_n hx hb dX12_moves_215 rfl (lv_at hl 4 rfl) ?_
                  refine lv_iadd hx hb dX12_moves_216 ?_
                  refine lv_topi (fun x552 ex552 => ?_)
                  have tx552 := ia_add (a := (260 : Int32)) (b := w2_2) (by omega) (by omega)
                  rw [← ex552] at tx552
                  have h553 : vp_in x552 544 := (vp_of (by omega) (by omega))
                  refine va_iald hx hb hK hP 3 0 rfl rfl h553 dX12_moves_217 ?_
                  refine lv_topi (fun x554 ex554 => ?_)
                  have ix554 : x554.toInt = (g1_2 x552.toInt.toNat).toInt := by rw [ex554]; rfl
                  refine lv_iconst (v := 1) hx hb dX12_moves_218 (by decide) ?_
                  refine lv_iadd hx hb dX12_moves_219 ?_
                  refine lv_topi (fun x555 ex555 => ?_)
                  refine lv_aload_n hx hb dX12_moves_220 rfl (lv_at hl 2 rfl) ?_
                  refine lv_iload_n hx hb dX12_moves_221 rfl (lv_at hl 4 rfl) ?_
                  refine lv_iconst (v := 2) hx hb dX12_moves_222 (by decide) ?_
                  have hPc := hP.sub (ws' := [(a0, .inr (12, [.int i0, .ref a1, .ref a2, .ref a3, .ref a4, .int i1, .ref a5, .int i2, .int i3, .int i4, .int i5, .int i6, .int i7, .int i8, .ref a6, .ref a7, .ref a8, .ref a9, .ref a10, .ref a11, .ref a12, .int i9, .ref a13, .int i10, .ref a14, .ref a15, .int i11, .ref a16, .ref a17, .ref a18, .ref a19, .int i12, .int i13, .int i14, .int i15, .int i16, .ref a20, .long j0, .ref a21, .ref a22, .ref a23, .ref a24])), (a1, .inl (cI, 544, .inl g1_2))]) [2, 3] rfl
                  have hDc := hD.sub (ws' := [(a0, .inr (12, [.int i0, .ref a1, .ref a2, .ref a3, .ref a4, .int i1, .ref a5, .int i2, .int i3, .int i4, .int i5, .int i6, .int i7, .int i8, .ref a6, .ref a7, .ref a8, .ref a9, .ref a10, .ref a11, .ref a12, .int i9, .ref a13, .int i10, .ref a14, .ref a15, .int i11, .ref a16, .ref a17, .ref a18, .ref a19, .int i12, .int i13, .int i14, .int i15, .int i16, .ref a20, .long j0, .ref a21, .ref a22, .ref a23, .ref a24])), (a1, .inl (cI, 544, .inl g1_2))]) [2, 3] (by decide) rfl
                  have hFc := va_free (wc := [(a0, .inr (12, [.int i0, .ref a1, .ref a2, .ref a3, .ref a4, .int i1, .ref a5, .int i2, .int i3, .int i4, .int i5, .int i6, .int i7, .int i8, .ref a6, .ref a7, .ref a8, .ref a9, .ref a10, .ref a11, .ref a12, .int i9, .ref a13, .int i10, .ref a14, .ref a15, .int i11, .ref a16, .ref a17, .ref a18, .ref a19, .int i12, .int i13, .int i14, .int i15, .int i16, .ref a20, .long j0, .ref a21, .ref a22, .ref a23, .ref a24])), (a1, .inl (cI, 544, .inl g1_2))]) hD hS hA [2, 3] rfl
                  refine va_calli (va_runV (As := [.int w2_2, .int 2]) (rest := [.int x555, .int x550, .ref a1]) ⟨hx, hb, hml, hown, hwd⟩ (s_X12_ofPawl l dC dI cI cZ cB cJ cM cG a0 a1 a2 a3 a4 a5 a6 a7 a8 a9 a10 a11 a12 a13 a14 a15 a16 a17 a18 a19 a20 a21 a22 a23 a24 i0 i1 i2 i3 i4 i5 i6 i7 i8 i9 i10 i11 i12 i13 i14 i15 i16 j0 g1_2 w2_2 2 cp H.size (show (0 : Int) ≤ i1.toInt ∧ i1.toInt ≤ 1600 from p_0) (show (0 : Int) ≤ i2.toInt ∧ i2.toInt ≤ 1600 from p_1) (show (0 : Int) ≤ i3.toInt ∧ i3.toInt ≤ 1600 from p_2) (show (0 : Int) ≤ i4.toInt ∧ i4.toInt ≤ 1600 from p_3) (show (0 : Int) ≤ i5.toInt ∧ i5.toInt ≤ 6 from p_4) (show (0 : Int) ≤ i7.toInt ∧ i7.toInt ≤ 3 from p_5) (show (0 : Int) ≤ i11.toInt ∧ i11.toInt ≤ 59 from p_6) (show WI cp g1_2 from hd_g1_2) (show (0 : Int) ≤ w2_2.toInt ∧ w2_2.toInt ≤ 3 from ⟨by omega, by omega⟩) (show (0 : Int) ≤ (2 : Int32).toInt ∧ (2 : Int32).toInt ≤ 2 from ⟨by omega, by omega⟩) p_9) (cwV 2 hwd (gV kr58_0 kr58_1 kr4_2 kr5_23 kr58_2) rfl rfl rfl (by decide +kernel) ⟨Nat.le_of_ble_eq_true rfl, Nat.le_of_ble_eq_true rfl⟩) (kPreV hPc hK hDc (ci := 12) (q0 := 0) rfl rfl) rfl rfl hl.1 rfl (lv_room (Nat.le_of_ble_eq_true rfl)) dX12_moves_223 ⟨Nat.le_of_ble_eq_true rfl, Nat.le_of_ble_eq_true rfl⟩) hS (fun q _ h => hFc q h) hFc (fun r556 u557 t H1 locs ht9 hvm hw hB hz1 hk1 hS => ?_)
                  obtain ⟨hw558, hw559, -⟩ := hw
                  replace hw558 : ((2 : Int32).toInt = 0 → 0 ≤ r556.toInt ∧ r556.toInt ≤ 9) := hw558
                  clear hw558
                  replace hw559 : ((2 : Int32).toInt = 2 → w2_2.toInt < wat g1_2 7 → 2 ≤ r556.toInt) := hw559
                  replace hw559 := hw559 (by decide)
                  obtain ⟨hP1, hD1⟩ := hB
                  rw [ht9] at hP1
                  obtain ⟨hP, hD⟩ := va_join (wr := [(a8, .inl (cI, 600, .inl xF7)), (a10, .inl (cI, 10, .inl g2_1))]) (w1 := [(a0, .inr (12, [.int i0, .ref a1, .ref a2, .ref a3, .ref a4, .int i1, .ref a5, .int i2, .int i3, .int i4, .int i5, .int i6, .int i7, .int i8, .ref a6, .ref a7, .ref a8, .ref a9, .ref a10, .ref a11, .ref a12, .int i9, .ref a13, .int i10, .ref a14, .ref a15, .int i11, .ref a16, .ref a17, .ref a18, .ref a19, .int i12, .int i13, .int i14, .int i15, .int i16, .ref a20, .long j0, .ref a21, .ref a22, .ref a23, .ref a24])), (a1, .inl (cI, 544, .inl g1_2))]) hP hD [2, 3] [0, 1] rfl rfl (by decide) (by decide) hk1 hFc hP1 hD1
                  generalize H1 = H at hP hS ⊢
                  replace hP : va_P (dC, dI) vwCl [(a8, .inl (cI, 600, .inl xF7)), (a10, .inl (cI, 10, .inl g2_1)), (a0, .inr (12, [.int i0, .ref a1, .ref a2, .ref a3, .ref a4, .int i1, .ref a5, .int i2, .int i3, .int i4, .int i5, .int i6, .int i7, .int i8, .ref a6, .ref a7, .ref a8, .ref a9, .ref a10, .ref a11, .ref a12, .int i9, .ref a13, .int i10, .ref a14, .ref a15, .int i11, .ref a16, .ref a17, .ref a18, .ref a19, .int i12, .int i13, .int i14, .int i15, .int i16, .ref a20, .long j0, .ref a21, .ref a22, .ref a23, .ref a24])), (a1, .inl (cI, 544, .inl g1_2))] H := hP
                  replace hD : va_D A [(a8, .inl (cI, 600, .inl xF7)), (a10, .inl (cI, 10, .inl g2_1)), (a0, .inr (12, [.int i0, .ref a1, .ref a2, .ref a3, .ref a4, .int i1, .ref a5, .int i2, .int i3, .int i4, .int i5, .int i6, .int i7, .int i8, .ref a6, .ref a7, .ref a8, .ref a9, .ref a10, .ref a11, .ref a12, .int i9, .ref a13, .int i10, .ref a14, .ref a15, .int i11, .ref a16, .ref a17, .ref a18, .ref a19, .int i12, .int i13, .int i14, .int i15, .int i16, .ref a20, .long j0, .ref a21, .ref a22, .ref a23, .ref a24])), (a1, .inl (cI, 544, .inl g1_2))] := hD
                  refine lv_irem hx hb dX12_moves_226 (fun h9 => by rw [ki_eq] at h9; omega) ?_
                  refine lv_topi (fun x560 ex560 => ?_)
                  refine lv_goto (tgt := 240) hx hb dX12_moves_227 (by decide) ?_
                  refine va_iast hx hb hK hP hD hS 3 0 rfl rfl (vp_of (by omega) (by omega)) dX12_moves_240 (fun H locs hP hD hS => ?_)
                  obtain ⟨f561, ef561⟩ : ∃ f, f = upd g1_2 x550.toNatClampNeg x560 := ⟨_, rfl⟩
                  have df561 : WI cp f561 := by rw [ef561]; exact WI_free hd_g1_2 (by omega) (by omega)
                  replace hP : va_P (dC, dI) vwCl [(a8, .inl (cI, 600, .inl xF7)), (a10, .inl (cI, 10, .inl g2_1)), (a0, .inr (12, [.int i0, .ref a1, .ref a2, .ref a3, .ref a4, .int i1, .ref a5, .int i2, .int i3, .int i4, .int i5, .int i6, .int i7, .int i8, .ref a6, .ref a7, .ref a8, .ref a9, .ref a10, .ref a11, .ref a12, .int i9, .ref a13, .int i10, .ref a14, .ref a15, .int i11, .ref a16, .ref a17, .ref a18, .ref a19, .int i12, .int i13, .int i14, .int i15, .int i16, .ref a20, .long j0, .ref a21, .ref a22, .ref a23, .ref a24])), (a1, .inl (cI, 544, .inl f561))] H := by rw [ef561]; exact hP
                  replace hD : va_D A [(a8, .inl (cI, 600, .inl xF7)), (a10, .inl (cI, 10, .inl g2_1)), (a0, .inr (12, [.int i0, .ref a1, .ref a2, .ref a3, .ref a4, .int i1, .ref a5, .int i2, .int i3, .int i4, .int i5, .int i6, .int i7, .int i8, .ref a6, .ref a7, .ref a8, .ref a9, .ref a10, .ref a11, .ref a12, .int i9, .ref a13, .int i10, .ref a14, .ref a15, .int i11, .ref a16, .ref a17, .ref a18, .ref a19, .int i12, .int i13, .int i14, .int i15, .int i16, .ref a20, .long j0, .ref a21, .ref a22, .ref a23, .ref a24])), (a1, .inl (cI, 544, .inl f561))] := by rw [ef561]; exact hD
                  obtain ⟨x562, ex562⟩ : ∃ y : Int32, y = w2_2 + 1 := ⟨_, rfl⟩
                  refine lv_iinc (v := x562) (lv' := [(2, .int x562), (4, .int 1), (3, .int r497), (0, .ref a0), (1, .int p0)]) hx hb dX12_moves_241 hl (k := 4) rfl (by rw [ex562]; rfl) (by decide) rfl (fun ls hl => ?_)
                  have tx562 := ia_add (a := w2_2) (b := (1 : Int32)) (by omega) (by omega)
                  rw [← ex562] at tx562
                  refine lv_goto (tgt := 140) hx hb dX12_moves_244 (by decide) ?_
                  exact ih2 _ _ ls x562 f561 (show (0 : Int) ≤ x562.toInt ∧ x562.toInt ≤ 4 from ⟨by omega, by omega⟩) (show WI cp f561 from df561) (by omega) (hP.sub (ws' := [(a0, .inr (12, [.int i0, .ref a1, .ref a2, .ref a3, .ref a4, .int i1, .ref a5, .int i2, .int i3, .int i4, .int i5, .int i6, .int i7, .int i8, .ref a6, .ref a7, .ref a8, .ref a9, .ref a10, .ref a11, .ref a12, .int i9, .ref a13, .int i10, .ref a14, .ref a15, .int i11, .ref a16, .ref a17, .ref a18, .ref a19, .int i12, .int i13, .int i14, .int i15, .int i16, .ref a20, .long j0, .ref a21, .ref a22, .ref a23, .ref a24])), (a1, .inl (cI, 544, .inl f561)), (a8, .inl (cI, 600, .inl xF7)), (a10, .inl (cI, 10, .inl g2_1))]) [2, 3, 0, 1] rfl) (hD.sub (ws' := [(a0, .inr (12, [.int i0, .ref a1, .ref a2, .ref a3, .ref a4, .int i1, .ref a5, .int i2, .int i3, .int i4, .int i5, .int i6, .int i7, .int i8, .ref a6, .ref a7, .ref a8, .ref a9, .ref a10, .ref a11, .ref a12, .int i9, .ref a13, .int i10, .ref a14, .ref a15, .int i11, .ref a16, .ref a17, .ref a18, .ref a19, .int i12, .int i13, .int i14, .int i15, .int i16, .ref a20, .long j0, .ref a21, .ref a22, .ref a23, .ref a24])), (a1, .inl (cI, 544, .inl f561)), (a8, .inl (cI, 600, .inl xF7)), (a10, .inl (cI, 10, .inl g2_1))]) [2, 3, 0, 1] (by decide) rfl) hS (lv_sub hl [3, 4, 0] rfl)
        exact lp2 _ _ _ ls (0) g1_1 (show (0 : Int) ≤ (0 : Int32).toInt ∧ (0 : Int32).toInt ≤ 4 from ⟨by omega, by omega⟩) (show WI cp g1_1 from hd_g1_1) (Nat.lt_succ_self _) (hP.sub (ws' := [(a0, .inr (12, [.int i0, .ref a1, .ref a2, .ref a3, .ref a4, .int i1, .ref a5, .int i2, .int i3, .int i4, .int i5, .int i6, .int i7, .int i8, .ref a6, .ref a7, .ref a8, .ref a9, .ref a10, .ref a11, .ref a12, .int i9, .ref a13, .int i10, .ref a14, .ref a15, .int i11, .ref a16, .ref a17, .ref a18, .ref a19, .int i12, .int i13, .int i14, .int i15, .int i16, .ref a20, .long j0, .ref a21, .ref a22, .ref a23, .ref a24])), (a1, .inl (cI, 544, .inl g1_1)), (a8, .inl (cI, 600, .inl xF7)), (a10, .inl (cI, 10, .inl g2_1))]) [0, 1, 2, 3] rfl) (hD.sub (ws' := [(a0, .inr (12, [.int i0, .ref a1, .ref a2, .ref a3, .ref a4, .int i1, .ref a5, .int i2, .int i3, .int i4, .int i5, .int i6, .int i7, .int i8, .ref a6, .ref a7, .ref a8, .ref a9, .ref a10, .ref a11, .ref a12, .int i9, .ref a13, .int i10, .ref a14, .ref a15, .int i11, .ref a16, .ref a17, .ref a18, .ref a19, .int i12, .int i13, .int i14, .int i15, .int i16, .ref a20, .long j0, .ref a21, .ref a22, .ref a23, .ref a24])), (a1, .inl (cI, 544, .inl g1_1)), (a8, .inl (cI, 600, .inl xF7)), (a10, .inl (cI, 10, .inl g2_1))]) [0, 1, 2, 3] (by decide) rfl) hS (lv_sub hl [1, 2, 0] rfl)
      · rw [ki_le] at c289
        refine lv_aload_n hx hb dX12_moves_13 rfl (lv_at hl 0 rfl) ?_
        refine va_get (D := (dC, dI)) (ci := 12) (v := .ref a10) (C := RX12) (T := TX12) (N := 42) hx hb hwd inlX12 hown hK hP 0 rfl rfl 18 (by decide) (hwd _ kr49_19) (fun _ h9 => h9) rfl dX12_moves_14 ?_
        refine lv_iload_n hx hb dX12_moves_17 rfl (lv_at hl 2 rfl) ?_
        refine lv_aload_n hx hb dX12_moves_18 rfl (lv_at hl 0 rfl) ?_
        refine lv_iload_n hx hb dX12_moves_19 rfl (lv_at hl 2 rfl) ?_
        have hPc := hP.sub (ws' := [(a0, .inr (12, [.int i0, .ref a1, .ref a2, .ref a3, .ref a4, .int i1, .ref a5, .int i2, .int i3, .int i4, .int i5, .int i6, .int i7, .int i8, .ref a6, .ref a7, .ref a8, .ref a9, .ref a10, .ref a11, .ref a12, .int i9, .ref a13, .int i10, .ref a14, .ref a15, .int i11, .ref a16, .ref a17, .ref a18, .ref a19, .int i12, .int i13, .int i14, .int i15, .int i16, .ref a20, .long j0, .ref a21, .ref a22, .ref a23, .ref a24])), (a1, .inl (cI, 544, .inl g1_1))]) [0, 1] rfl
        have hDc := hD.sub (ws' := [(a0, .inr (12, [.int i0, .ref a1, .ref a2, .ref a3, .ref a4, .int i1, .ref a5, .int i2, .int i3, .int i4, .int i5, .int i6, .int i7, .int i8, .ref a6, .ref a7, .ref a8, .ref a9, .ref a10, .ref a11, .ref a12, .int i9, .ref a13, .int i10, .ref a14, .ref a15, .int i11, .ref a16, .ref a17, .ref a18, .ref a19, .int i12, .int i13, .int i14, .int i15, .int i16, .ref a20, .long j0, .ref a21, .ref a22, .ref a23, .ref a24])), (a1, .inl (cI, 544, .inl g1_1))]) [0, 1] (by decide) rfl
        have hFc := va_free (wc := [(a0, .inr (12, [.int i0, .ref a1, .ref a2, .ref a3, .ref a4, .int i1, .ref a5, .int i2, .int i3, .int i4, .int i5, .int i6, .int i7, .int i8, .ref a6, .ref a7, .ref a8, .ref a9, .ref a10, .ref a11, .ref a12, .int i9, .ref a13, .int i10, .ref a14, .ref a15, .int i11, .ref a16, .ref a17, .ref a18, .ref a19, .int i12, .int i13, .int i14, .int i15, .int i16, .ref a20, .long j0, .ref a21, .ref a22, .ref a23, .ref a24])), (a1, .inl (cI, 544, .inl g1_1))]) hD hS hA [0, 1] rfl
        refine va_calli (va_runV (As := [.int w2_1]) (rest := [.int w2_1, .ref a10]) ⟨hx, hb, hml, hown, hwd⟩ (s_X12_posOf l dC dI cI cZ cB cJ cM cG a0 a1 a2 a3 a4 a5 a6 a7 a8 a9 a10 a11 a12 a13 a14 a15 a16 a17 a18 a19 a20 a21 a22 a23 a24 i0 i1 i2 i3 i4 i5 i6 i7 i8 i9 i10 i11 i12 i13 i14 i15 i16 j0 g1_1 w2_1 cp H.size (show (0 : Int) ≤ i1.toInt ∧ i1.toInt ≤ 1600 from p_0) (show (0 : Int) ≤ i2.toInt ∧ i2.toInt ≤ 1600 from p_1) (show (0 : Int) ≤ i3.toInt ∧ i3.toInt ≤ 1600 from p_2) (show (0 : Int) ≤ i4.toInt ∧ i4.toInt ≤ 1600 from p_3) (show (0 : Int) ≤ i5.toInt ∧ i5.toInt ≤ 6 from p_4) (show (0 : Int) ≤ i7.toInt ∧ i7.toInt ≤ 3 from p_5) (show (0 : Int) ≤ i11.toInt ∧ i11.toInt ≤ 59 from p_6) (show WI cp g1_1 from hd_g1_1) (show (0 : Int) ≤ w2_1.toInt ∧ w2_1.toInt ≤ 9 from ⟨by omega, by omega⟩) p_9) (cwV 1 hwd (gV kr55_20 kr55_21 kr3_18 kr5_23 kr55_22) rfl rfl rfl (by decide +kernel) ⟨Nat.le_of_ble_eq_true rfl, Nat.le_of_ble_eq_true rfl⟩) (kPreV hPc hK hDc (ci := 12) (q0 := 0) rfl rfl) rfl rfl hl.1 rfl (lv_room (Nat.le_of_ble_eq_true rfl)) dX12_moves_20 ⟨Nat.le_of_ble_eq_true rfl, Nat.le_of_ble_eq_true rfl⟩) hS (fun q _ h => hFc q h) hFc (fun r563 u564 t H1 locs ht9 hvm hw hB hz1 hk1 hS => ?_)
        obtain ⟨hP1, hD1⟩ := hB
        rw [ht9] at hP1
        obtain ⟨hP, hD⟩ := va_join (wr := [(a8, .inl (cI, 600, .inl xF7)), (a10, .inl (cI, 10, .inl g2_1))]) (w1 := [(a0, .inr (12, [.int i0, .ref a1, .ref a2, .ref a3, .ref a4, .int i1, .ref a5, .int i2, .int i3, .int i4, .int i5, .int i6, .int i7, .int i8, .ref a6, .ref a7, .ref a8, .ref a9, .ref a10, .ref a11, .ref a12, .int i9, .ref a13, .int i10, .ref a14, .ref a15, .int i11, .ref a16, .ref a17, .ref a18, .ref a19, .int i12, .int i13, .int i14, .int i15, .int i16, .ref a20, .long j0, .ref a21, .ref a22, .ref a23, .ref a24])), (a1, .inl (cI, 544, .inl g1_1))]) hP hD [0, 1] [2, 3] rfl rfl (by decide) (by decide) hk1 hFc hP1 hD1
        generalize H1 = H at hP hS ⊢
        replace hP : va_P (dC, dI) vwCl [(a8, .inl (cI, 600, .inl xF7)), (a10, .inl (cI, 10, .inl g2_1)), (a0, .inr (12, [.int i0, .ref a1, .ref a2, .ref a3, .ref a4, .int i1, .ref a5, .int i2, .int i3, .int i4, .int i5, .int i6, .int i7, .int i8, .ref a6, .ref a7, .ref a8, .ref a9, .ref a10, .ref a11, .ref a12, .int i9, .ref a13, .int i10, .ref a14, .ref a15, .int i11, .ref a16, .ref a17, .ref a18, .ref a19, .int i12, .int i13, .int i14, .int i15, .int i16, .ref a20, .long j0, .ref a21, .ref a22, .ref a23, .ref a24])), (a1, .inl (cI, 544, .inl g1_1))] H := hP
        replace hD : va_D A [(a8, .inl (cI, 600, .inl xF7)), (a10, .inl (cI, 10, .inl g2_1)), (a0, .inr (12, [.int i0, .ref a1, .ref a2, .ref a3, .ref a4, .int i1, .ref a5, .int i2, .int i3, .int i4, .int i5, .int i6, .int i7, .int i8, .ref a6, .ref a7, .ref a8, .ref a9, .ref a10, .ref a11, .ref a12, .int i9, .ref a13, .int i10, .ref a14, .ref a15, .int i11, .ref a16, .ref a17, .ref a18, .ref a19, .int i12, .int i13, .int i14, .int i15, .int i16, .ref a20, .long j0, .ref a21, .ref a22, .ref a23, .ref a24])), (a1, .inl (cI, 544, .inl g1_1))] := hD
        refine va_iast hx hb hK hP hD hS 1 0 rfl rfl (vp_of (by omega) (by omega)) dX12_moves_23 (fun H locs hP hD hS => ?_)
        obtain ⟨f565, ef565⟩ : ∃ f, f = upd g2_1 w2_1.toNatClampNeg r563 := ⟨_, rfl⟩
        replace hP : va_P (dC, dI) vwCl [(a8, .inl (cI, 600, .inl xF7)), (a10, .inl (cI, 10, .inl f565)), (a0, .inr (12, [.int i0, .ref a1, .ref a2, .ref a3, .ref a4, .int i1, .ref a5, .int i2, .int i3, .int i4, .int i5, .int i6, .int i7, .int i8, .ref a6, .ref a7, .ref a8, .ref a9, .ref a10, .ref a11, .ref a12, .int i9, .ref a13, .int i10, .ref a14, .ref a15, .int i11, .ref a16, .ref a17, .ref a18, .ref a19, .int i12, .int i13, .int i14, .int i15, .int i16, .ref a20, .long j0, .ref a21, .ref a22, .ref a23, .ref a24])), (a1, .inl (cI, 544, .inl g1_1))] H := by rw [ef565]; exact hP
        replace hD : va_D A [(a8, .inl (cI, 600, .inl xF7)), (a10, .inl (cI, 10, .inl f565)), (a0, .inr (12, [.int i0, .ref a1, .ref a2, .ref a3, .ref a4, .int i1, .ref a5, .int i2, .int i3, .int i4, .int i5, .int i6, .int i7, .int i8, .ref a6, .ref a7, .ref a8, .ref a9, .ref a10, .ref a11, .ref a12, .int i9, .ref a13, .int i10, .ref a14, .ref a15, .int i11, .ref a16, .ref a17, .ref a18, .ref a19, .int i12, .int i13, .int i14, .int i15, .int i16, .ref a20, .long j0, .ref a21, .ref a22, .ref a23, .ref a24])), (a1, .inl (cI, 544, .inl g1_1))] := by rw [ef565]; exact hD
        refine lv_aload_n hx hb dX12_moves_24 rfl (lv_at hl 0 rfl) ?_
        refine lv_iload_n hx hb dX12_moves_25 rfl (lv_at hl 2 rfl) ?_
        refine lv_iconst (v := 0) hx hb dX12_moves_26 (by decide) ?_
        have hPc := hP.sub (ws' := [(a0, .inr (12, [.int i0, .ref a1, .ref a2, .ref a3, .ref a4, .int i1, .ref a5, .int i2, .int i3, .int i4, .int i5, .int i6, .int i7, .int i8, .ref a6, .ref a7, .ref a8, .ref a9, .ref a10, .ref a11, .ref a12, .int i9, .ref a13, .int i10, .ref a14, .ref a15, .int i11, .ref a16, .ref a17, .ref a18, .ref a19, .int i12, .int i13, .int i14, .int i15, .int i16, .ref a20, .long j0, .ref a21, .ref a22, .ref a23, .ref a24])), (a1, .inl (cI, 544, .inl g1_1))]) [2, 3] rfl
        have hDc := hD.sub (ws' := [(a0, .inr (12, [.int i0, .ref a1, .ref a2, .ref a3, .ref a4, .int i1, .ref a5, .int i2, .int i3, .int i4, .int i5, .int i6, .int i7, .int i8, .ref a6, .ref a7, .ref a8, .ref a9, .ref a10, .ref a11, .ref a12, .int i9, .ref a13, .int i10, .ref a14, .ref a15, .int i11, .ref a16, .ref a17, .ref a18, .ref a19, .int i12, .int i13, .int i14, .int i15, .int i16, .ref a20, .long j0, .ref a21, .ref a22, .ref a23, .ref a24])), (a1, .inl (cI, 544, .inl g1_1))]) [2, 3] (by decide) rfl
        have hFc := va_free (wc := [(a0, .inr (12, [.int i0, .ref a1, .ref a2, .ref a3, .ref a4, .int i1, .ref a5, .int i2, .int i3, .int i4, .int i5, .int i6, .int i7, .int i8, .ref a6, .ref a7, .ref a8, .ref a9, .ref a10, .ref a11, .ref a12, .int i9, .ref a13, .int i10, .ref a14, .ref a15, .int i11, .ref a16, .ref a17, .ref a18, .ref a19, .int i12, .int i13, .int i14, .int i15, .int i16, .ref a20, .long j0, .ref a21, .ref a22, .ref a23, .ref a24])), (a1, .inl (cI, 544, .inl g1_1))]) hD hS hA [2, 3] rfl
        refine va_calli (va_runV (As := [.int w2_1, .int 0]) (rest := []) ⟨hx, hb, hml, hown, hwd⟩ (s_X12_of l dC dI cI cZ cB cJ cM cG a0 a1 a2 a3 a4 a5 a6 a7 a8 a9 a10 a11 a12 a13 a14 a15 a16 a17 a18 a19 a20 a21 a22 a23 a24 i0 i1 i2 i3 i4 i5 i6 i7 i8 i9 i10 i11 i12 i13 i14 i15 i16 j0 g1_1 w2_1 0 cp H.size (show (0 : Int) ≤ i1.toInt ∧ i1.toInt ≤ 1600 from p_0) (show (0 : Int) ≤ i2.toInt ∧ i2.toInt ≤ 1600 from p_1) (show (0 : Int) ≤ i3.toInt ∧ i3.toInt ≤ 1600 from p_2) (show (0 : Int) ≤ i4.toInt ∧ i4.toInt ≤ 1600 from p_3) (show (0 : Int) ≤ i5.toInt ∧ i5.toInt ≤ 6 from p_4) (show (0 : Int) ≤ i7.toInt ∧ i7.toInt ≤ 3 from p_5) (show (0 : Int) ≤ i11.toInt ∧ i11.toInt ≤ 59 from p_6) (show WI cp g1_1 from hd_g1_1) (show (0 : Int) ≤ w2_1.toInt ∧ w2_1.toInt ≤ 9 from ⟨by omega, by omega⟩) (show (0 : Int) ≤ (0 : Int32).toInt ∧ (0 : Int32).toInt ≤ 5 from ⟨by omega, by omega⟩) p_9) (cwV 2 hwd (gV kr55_11 kr55_12 kr3_15 kr5_23 kr55_13) rfl rfl rfl (by decide +kernel) ⟨Nat.le_of_ble_eq_true rfl, Nat.le_of_ble_eq_true rfl⟩) (kPreV hPc hK hDc (ci := 12) (q0 := 0) rfl rfl) rfl rfl hl.1 rfl (lv_room (Nat.le_of_ble_eq_true rfl)) dX12_moves_27 ⟨Nat.le_of_ble_eq_true rfl, Nat.le_of_ble_eq_true rfl⟩) hS (fun q _ h => hFc q h) hFc (fun r566 u567 t H1 locs ht9 hvm hw hB hz1 hk1 hS => ?_)
        obtain ⟨hw568, -⟩ := hw
        replace hw568 : r566.toInt = wfo g1_1 0 w2_1.toInt := hw568
        have wf569 := hd_g1_1.2.2.1 w2_1.toInt (by omega) (by omega)
        unfold wfl at wf569
        obtain ⟨hP1, hD1⟩ := hB
        rw [ht9] at hP1
        obtain ⟨hP, hD⟩ := va_join (wr := [(a8, .inl (cI, 600, .inl xF7)), (a10, .inl (cI, 10, .inl f565))]) (w1 := [(a0, .inr (12, [.int i0, .ref a1, .ref a2, .ref a3, .ref a4, .int i1, .ref a5, .int i2, .int i3, .int i4, .int i5, .int i6, .int i7, .int i8, .ref a6, .ref a7, .ref a8, .ref a9, .ref a10, .ref a11, .ref a12, .int i9, .ref a13, .int i10, .ref a14, .ref a15, .int i11, .ref a16, .ref a17, .ref a18, .ref a19, .int i12, .int i13, .int i14, .int i15, .int i16, .ref a20, .long j0, .ref a21, .ref a22, .ref a23, .ref a24])), (a1, .inl (cI, 544, .inl g1_1))]) hP hD [2, 3] [0, 1] rfl rfl (by decide) (by decide) hk1 hFc hP1 hD1
        generalize H1 = H at hP hS ⊢
        replace hP : va_P (dC, dI) vwCl [(a8, .inl (cI, 600, .inl xF7)), (a10, .inl (cI, 10, .inl f565)), (a0, .inr (12, [.int i0, .ref a1, .ref a2, .ref a3, .ref a4, .int i1, .ref a5, .int i2, .int i3, .int i4, .int i5, .int i6, .int i7, .int i8, .ref a6, .ref a7, .ref a8, .ref a9, .ref a10, .ref a11, .ref a12, .int i9, .ref a13, .int i10, .ref a14, .ref a15, .int i11, .ref a16, .ref a17, .ref a18, .ref a19, .int i12, .int i13, .int i14, .int i15, .int i16, .ref a20, .long j0, .ref a21, .ref a22, .ref a23, .ref a24])), (a1, .inl (cI, 544, .inl g1_1))] H := hP
        replace hD : va_D A [(a8, .inl (cI, 600, .inl xF7)), (a10, .inl (cI, 10, .inl f565)), (a0, .inr (12, [.int i0, .ref a1, .ref a2, .ref a3, .ref a4, .int i1, .ref a5, .int i2, .int i3, .int i4, .int i5, .int i6, .int i7, .int i8, .ref a6, .ref a7, .ref a8, .ref a9, .ref a10, .ref a11, .ref a12, .int i9, .ref a13, .int i10, .ref a14, .ref a15, .int i11, .ref a16, .ref a17, .ref a18, .ref a19, .int i12, .int i13, .int i14, .int i15, .int i16, .ref a20, .long j0, .ref a21, .ref a22, .ref a23, .ref a24])), (a1, .inl (cI, 544, .inl g1_1))] := hD
        refine lv_iconst (v := 3) hx hb dX12_moves_30 (by decide) ?_
        refine lv_icmp_ne (tgt := 38) hx hb dX12_moves_31 (by decide) (fun c570 => ?_) (fun c570 => ?_)
        · rw [ki_eq] at c570
          refine lv_iconst (v := 0) hx hb dX12_moves_38 (by decide) ?_
          refine lv_istore_n (lv' := [(3, .int 0), (0, .ref a0), (1, .int p0), (2, .int w2_1)]) hx hb dX12_moves_39 rfl hl (by decide) rfl (fun ls hl => ?_)
          refine lv_aload_n hx hb dX12_moves_40 rfl (lv_at hl 1 rfl) ?_
          refine va_get (D := (dC, dI)) (ci := 12) (v := .ref a1) (C := RX12) (T := TX12) (N := 42) hx hb hwd inlX12 hown hK hP 2 rfl rfl 1 (by decide) (hwd _ kr49_2) (fun _ h9 => h9) rfl dX12_moves_41 ?_
          refine lv_sipush (v := 264) hx hb dX12_moves_44 (by decide) ?_
          refine lv_iload_n hx hb dX12_moves_47 rfl (lv_at hl 3 rfl) ?_
          refine lv_iadd hx hb dX12_moves_48 ?_
          refine lv_topi (fun x571 ex571 => ?_)
          have tx571 := ia_add (a := (264 : Int32)) (b := w2_1) (by omega) (by omega)
          rw [← ex571] at tx571
          refine lv_iload_n hx hb dX12_moves_49 rfl (lv_at hl 0 rfl) ?_
          refine lv_if_eq (tgt := 71) hx hb dX12_moves_50 (by decide) (fun c572 => ?_) (fun c572 => absurd c572 (by decide))
          refine lv_aload_n hx hb dX12_moves_71 rfl (lv_at hl 1 rfl) ?_
          refine va_get (D := (dC, dI)) (ci := 12) (v := .ref a8) (C := RX12) (T := TX12) (N := 42) hx hb hwd inlX12 hown hK hP 2 rfl rfl 16 (by decide) (hwd _ kr49_17) (fun _ h9 => h9) rfl dX12_moves_72 ?_
          refine lv_bipush (v := 60) hx hb dX12_moves_75 (by decide) ?_
          refine lv_iload_n hx hb dX12_moves_77 rfl (lv_at hl 3 rfl) ?_
          refine lv_imul hx hb dX12_moves_78 ?_
          refine lv_topi (fun x573 ex573 => ?_)
          have tx573 := ia_mull (a := (60 : Int32)) (b := w2_1) 60 (by decide) (by omega) (by omega)
          rw [← ex573] at tx573
          refine lv_iload_n hx hb dX12_moves_79 rfl (lv_at hl 2 rfl) ?_
          refine lv_iadd hx hb dX12_moves_80 ?_
          refine lv_topi (fun x574 ex574 => ?_)
          have tx574 := ia_add (a := x573) (b := p0) (by omega) (by omega)
          rw [← ex574] at tx574
          have h575 : vp_in x574 600 := (vp_of (by omega) (by omega))
          refine va_iald hx hb hK hP 0 0 rfl rfl h575 dX12_moves_81 ?_
          refine lv_topi (fun x576 ex576 => ?_)
          refine lv_aload_n hx hb dX12_moves_82 rfl (lv_at hl 1 rfl) ?_
          refine lv_iload_n hx hb dX12_moves_83 rfl (lv_at hl 3 rfl) ?_
          have hPc := hP.sub (ws' := [(a0, .inr (12, [.int i0, .ref a1, .ref a2, .ref a3, .ref a4, .int i1, .ref a5, .int i2, .int i3, .int i4, .int i5, .int i6, .int i7, .int i8, .ref a6, .ref a7, .ref a8, .ref a9, .ref a10, .ref a11, .ref a12, .int i9, .ref a13, .int i10, .ref a14, .ref a15, .int i11, .ref a16, .ref a17, .ref a18, .ref a19, .int i12, .int i13, .int i14, .int i15, .int i16, .ref a20, .long j0, .ref a21, .ref a22, .ref a23, .ref a24])), (a1, .inl (cI, 544, .inl g1_1))]) [2, 3] rfl
          have hDc := hD.sub (ws' := [(a0, .inr (12, [.int i0, .ref a1, .ref a2, .ref a3, .ref a4, .int i1, .ref a5, .int i2, .int i3, .int i4, .int i5, .int i6, .int i7, .int i8, .ref a6, .ref a7, .ref a8, .ref a9, .ref a10, .ref a11, .ref a12, .int i9, .ref a13, .int i10, .ref a14, .ref a15, .int i11, .ref a16, .ref a17, .ref a18, .ref a19, .int i12, .int i13, .int i14, .int i15, .int i16, .ref a20, .long j0, .ref a21, .ref a22, .ref a23, .ref a24])), (a1, .inl (cI, 544, .inl g1_1))]) [2, 3] (by decide) rfl
          have hFc := va_free (wc := [(a0, .inr (12, [.int i0, .ref a1, .ref a2, .ref a3, .ref a4, .int i1, .ref a5, .int i2, .int i3, .int i4, .int i5, .int i6, .int i7, .int i8, .ref a6, .ref a7, .ref a8, .ref a9, .ref a10, .ref a11, .ref a12, .int i9, .ref a13, .int i10, .ref a14, .ref a15, .int i11, .ref a16, .ref a17, .ref a18, .ref a19, .int i12, .int i13, .int i14, .int i15, .int i16, .ref a20, .long j0, .ref a21, .ref a22, .ref a23, .ref a24])), (a1, .inl (cI, 544, .inl g1_1))]) hD hS hA [2, 3] rfl
          refine va_calli (va_runV (As := [.int w2_1]) (rest := [.int x576, .int x571, .ref a1]) ⟨hx, hb, hml, hown, hwd⟩ (s_X12_posOf l dC dI cI cZ cB cJ cM cG a0 a1 a2 a3 a4 a5 a6 a7 a8 a9 a10 a11 a12 a13 a14 a15 a16 a17 a18 a19 a20 a21 a22 a23 a24 i0 i1 i2 i3 i4 i5 i6 i7 i8 i9 i10 i11 i12 i13 i14 i15 i16 j0 g1_1 w2_1 cp H.size (show (0 : Int) ≤ i1.toInt ∧ i1.toInt ≤ 1600 from p_0) (show (0 : Int) ≤ i2.toInt ∧ i2.toInt ≤ 1600 from p_1) (show (0 : Int) ≤ i3.toInt ∧ i3.toInt ≤ 1600 from p_2) (show (0 : Int) ≤ i4.toInt ∧ i4.toInt ≤ 1600 from p_3) (show (0 : Int) ≤ i5.toInt ∧ i5.toInt ≤ 6 from p_4) (show (0 : Int) ≤ i7.toInt ∧ i7.toInt ≤ 3 from p_5) (show (0 : Int) ≤ i11.toInt ∧ i11.toInt ≤ 59 from p_6) (show WI cp g1_1 from hd_g1_1) (show (0 : Int) ≤ w2_1.toInt ∧ w2_1.toInt ≤ 9 from ⟨by omega, by omega⟩) p_9) (cwV 1 hwd (gV kr55_20 kr55_21 kr3_18 kr5_23 kr55_22) rfl rfl rfl (by decide +kernel) ⟨Nat.le_of_ble_eq_true rfl, Nat.le_of_ble_eq_true rfl⟩) (kPreV hPc hK hDc (ci := 12) (q0 := 0) rfl rfl) rfl rfl hl.1 rfl (lv_room (Nat.le_of_ble_eq_true rfl)) dX12_moves_84 ⟨Nat.le_of_ble_eq_true rfl, Nat.le_of_ble_eq_true rfl⟩) hS (fun q _ h => hFc q h) hFc (fun r577 u578 t H1 locs ht9 hvm hw hB hz1 hk1 hS => ?_)
          obtain ⟨hP1, hD1⟩ := hB
          rw [ht9] at hP1
          obtain ⟨hP, hD⟩ := va_join (wr := [(a8, .inl (cI, 600, .inl xF7)), (a10, .inl (cI, 10, .inl f565))]) (w1 := [(a0, .inr (12, [.int i0, .ref a1, .ref a2, .ref a3, .ref a4, .int i1, .ref a5, .int i2, .int i3, .int i4, .int i5, .int i6, .int i7, .int i8, .ref a6, .ref a7, .ref a8, .ref a9, .ref a10, .ref a11, .ref a12, .int i9, .ref a13, .int i10, .ref a14, .ref a15, .int i11, .ref a16, .ref a17, .ref a18, .ref a19, .int i12, .int i13, .int i14, .int i15, .int i16, .ref a20, .long j0, .ref a21, .ref a22, .ref a23, .ref a24])), (a1, .inl (cI, 544, .inl g1_1))]) hP hD [2, 3] [0, 1] rfl rfl (by decide) (by decide) hk1 hFc hP1 hD1
          generalize H1 = H at hP hS ⊢
          replace hP : va_P (dC, dI) vwCl [(a8, .inl (cI, 600, .inl xF7)), (a10, .inl (cI, 10, .inl f565)), (a0, .inr (12, [.int i0, .ref a1, .ref a2, .ref a3, .ref a4, .int i1, .ref a5, .int i2, .int i3, .int i4, .int i5, .int i6, .int i7, .int i8, .ref a6, .ref a7, .ref a8, .ref a9, .ref a10, .ref a11, .ref a12, .int i9, .ref a13, .int i10, .ref a14, .ref a15, .int i11, .ref a16, .ref a17, .ref a18, .ref a19, .int i12, .int i13, .int i14, .int i15, .int i16, .ref a20, .long j0, .ref a21, .ref a22, .ref a23, .ref a24])), (a1, .inl (cI, 544, .inl g1_1))] H := hP
          replace hD : va_D A [(a8, .inl (cI, 600, .inl xF7)), (a10, .inl (cI, 10, .inl f565)), (a0, .inr (12, [.int i0, .ref a1, .ref a2, .ref a3, .ref a4, .int i1, .ref a5, .int i2, .int i3, .int i4, .int i5, .int i6, .int i7, .int i8, .ref a6, .ref a7, .ref a8, .ref a9, .ref a10, .ref a11, .ref a12, .int i9, .ref a13, .int i10, .ref a14, .ref a15, .int i11, .ref a16, .ref a17, .ref a18, .ref a19, .int i12, .int i13, .int i14, .int i15, .int i16, .ref a20, .long j0, .ref a21, .ref a22, .ref a23, .ref a24])), (a1, .inl (cI, 544, .inl g1_1))] := hD
          refine lv_aload_n hx hb dX12_moves_87 rfl (lv_at hl 1 rfl) ?_
          refine lv_iload_n hx hb dX12_moves_88 rfl (lv_at hl 3 rfl) ?_
          refine lv_iconst (v := 4) hx hb dX12_moves_89 (by decide) ?_
          have hPc := hP.sub (ws' := [(a0, .inr (12, [.int i0, .ref a1, .ref a2, .ref a3, .ref a4, .int i1, .ref a5, .int i2, .int i3, .int i4, .int i5, .int i6, .int i7, .int i8, .ref a6, .ref a7, .ref a8, .ref a9, .ref a10, .ref a11, .ref a12, .int i9, .ref a13, .int i10, .ref a14, .ref a15, .int i11, .ref a16, .ref a17, .ref a18, .ref a19, .int i12, .int i13, .int i14, .int i15, .int i16, .ref a20, .long j0, .ref a21, .ref a22, .ref a23, .ref a24])), (a1, .inl (cI, 544, .inl g1_1))]) [2, 3] rfl
          have hDc := hD.sub (ws' := [(a0, .inr (12, [.int i0, .ref a1, .ref a2, .ref a3, .ref a4, .int i1, .ref a5, .int i2, .int i3, .int i4, .int i5, .int i6, .int i7, .int i8, .ref a6, .ref a7, .ref a8, .ref a9, .ref a10, .ref a11, .ref a12, .int i9, .ref a13, .int i10, .ref a14, .ref a15, .int i11, .ref a16, .ref a17, .ref a18, .ref a19, .int i12, .int i13, .int i14, .int i15, .int i16, .ref a20, .long j0, .ref a21, .ref a22, .ref a23, .ref a24])), (a1, .inl (cI, 544, .inl g1_1))]) [2, 3] (by decide) rfl
          have hFc := va_free (wc := [(a0, .inr (12, [.int i0, .ref a1, .ref a2, .ref a3, .ref a4, .int i1, .ref a5, .int i2, .int i3, .int i4, .int i5, .int i6, .int i7, .int i8, .ref a6, .ref a7, .ref a8, .ref a9, .ref a10, .ref a11, .ref a12, .int i9, .ref a13, .int i10, .ref a14, .ref a15, .int i11, .ref a16, .ref a17, .ref a18, .ref a19, .int i12, .int i13, .int i14, .int i15, .int i16, .ref a20, .long j0, .ref a21, .ref a22, .ref a23, .ref a24])), (a1, .inl (cI, 544, .inl g1_1))]) hD hS hA [2, 3] rfl
          refine va_calli (va_runV (As := [.int w2_1, .int 4]) (rest := [.int r577, .int x576, .int x571, .ref a1]) ⟨hx, hb, hml, hown, hwd⟩ (s_X12_of l dC dI cI cZ cB cJ cM cG a0 a1 a2 a3 a4 a5 a6 a7 a8 a9 a10 a11 a12 a13 a14 a15 a16 a17 a18 a19 a20 a21 a22 a23 a24 i0 i1 i2 i3 i4 i5 i6 i7 i8 i9 i10 i11 i12 i13 i14 i15 i16 j0 g1_1 w2_1 4 cp H.size (show (0 : Int) ≤ i1.toInt ∧ i1.toInt ≤ 1600 from p_0) (show (0 : Int) ≤ i2.toInt ∧ i2.toInt ≤ 1600 from p_1) (show (0 : Int) ≤ i3.toInt ∧ i3.toInt ≤ 1600 from p_2) (show (0 : Int) ≤ i4.toInt ∧ i4.toInt ≤ 1600 from p_3) (show (0 : Int) ≤ i5.toInt ∧ i5.toInt ≤ 6 from p_4) (show (0 : Int) ≤ i7.toInt ∧ i7.toInt ≤ 3 from p_5) (show (0 : Int) ≤ i11.toInt ∧ i11.toInt ≤ 59 from p_6) (show WI cp g1_1 from hd_g1_1) (show (0 : Int) ≤ w2_1.toInt ∧ w2_1.toInt ≤ 9 from ⟨by omega, by omega⟩) (show (0 : Int) ≤ (4 : Int32).toInt ∧ (4 : Int32).toInt ≤ 5 from ⟨by omega, by omega⟩) p_9) (cwV 2 hwd (gV kr55_11 kr55_12 kr3_15 kr5_23 kr55_13) rfl rfl rfl (by decide +kernel) ⟨Nat.le_of_ble_eq_true rfl, Nat.le_of_ble_eq_true rfl⟩) (kPreV hPc hK hDc (ci := 12) (q0 := 0) rfl rfl) rfl rfl hl.1 rfl (lv_room (Nat.le_of_ble_eq_true rfl)) dX12_moves_90 ⟨Nat.le_of_ble_eq_true rfl, Nat.le_of_ble_eq_true rfl⟩) hS (fun q _ h => hFc q h) hFc (fun r579 u580 t H1 locs ht9 hvm hw hB hz1 hk1 hS => ?_)
          obtain ⟨hw581, -⟩ := hw
          replace hw581 : r579.toInt = wfo g1_1 4 w2_1.toInt := hw581
          obtain ⟨hP1, hD1⟩ := hB
          rw [ht9] at hP1
          obtain ⟨hP, hD⟩ := va_join (wr := [(a8, .inl (cI, 600, .inl xF7)), (a10, .inl (cI, 10, .inl f565))]) (w1 := [(a0, .inr (12, [.int i0, .ref a1, .ref a2, .ref a3, .ref a4, .int i1, .ref a5, .int i2, .int i3, .int i4, .int i5, .int i6, .int i7, .int i8, .ref a6, .ref a7, .ref a8, .ref a9, .ref a10, .ref a11, .ref a12, .int i9, .ref a13, .int i10, .ref a14, .ref a15, .int i11, .ref a16, .ref a17, .ref a18, .ref a19, .int i12, .int i13, .int i14, .int i15, .int i16, .ref a20, .long j0, .ref a21, .ref a22, .ref a23, .ref a24])), (a1, .inl (cI, 544, .inl g1_1))]) hP hD [2, 3] [0, 1] rfl rfl (by decide) (by decide) hk1 hFc hP1 hD1
          generalize H1 = H at hP hS ⊢
          replace hP : va_P (dC, dI) vwCl [(a8, .inl (cI, 600, .inl xF7)), (a10, .inl (cI, 10, .inl f565)), (a0, .inr (12, [.int i0, .ref a1, .ref a2, .ref a3, .ref a4, .int i1, .ref a5, .int i2, .int i3, .int i4, .int i5, .int i6, .int i7, .int i8, .ref a6, .ref a7, .ref a8, .ref a9, .ref a10, .ref a11, .ref a12, .int i9, .ref a13, .int i10, .ref a14, .ref a15, .int i11, .ref a16, .ref a17, .ref a18, .ref a19, .int i12, .int i13, .int i14, .int i15, .int i16, .ref a20, .long j0, .ref a21, .ref a22, .ref a23, .ref a24])), (a1, .inl (cI, 544, .inl g1_1))] H := hP
          replace hD : va_D A [(a8, .inl (cI, 600, .inl xF7)), (a10, .inl (cI, 10, .inl f565)), (a0, .inr (12, [.int i0, .ref a1, .ref a2, .ref a3, .ref a4, .int i1, .ref a5, .int i2, .int i3, .int i4, .int i5, .int i6, .int i7, .int i8, .ref a6, .ref a7, .ref a8, .ref a9, .ref a10, .ref a11, .ref a12, .int i9, .ref a13, .int i10, .ref a14, .ref a15, .int i11, .ref a16, .ref a17, .ref a18, .ref a19, .int i12, .int i13, .int i14, .int i15, .int i16, .ref a20, .long j0, .ref a21, .ref a22, .ref a23, .ref a24])), (a1, .inl (cI, 544, .inl g1_1))] := hD
          refine lv_isub hx hb dX12_moves_93 ?_
          refine lv_topi (fun x582 ex582 => ?_)
          refine va_mmax hx hb (by rw [hml]; exact hl.1.symm) hown (hwd _ kr55_7) (hwd _ kr24_17) (hwd _ kr6_4) (hwd _ kr24_18) (Nat.le_of_ble_eq_true rfl) (Nat.le_of_ble_eq_true rfl) (Nat.le_of_ble_eq_true rfl) (Nat.le_of_ble_eq_true rfl) dX12_moves_94 ?_
          refine lv_topi (fun x583 ex583 => ?_)
          have tx583 := mx_max x576 x582
          rw [← ex583] at tx583
          refine va_iast hx hb hK hP hD hS 3 0 rfl rfl (vp_of (by omega) (by omega)) dX12_moves_97 (fun H locs hP hD hS => ?_)
          obtain ⟨f584, ef584⟩ : ∃ f, f = upd g1_1 x571.toNatClampNeg x583 := ⟨_, rfl⟩
          have df584 : WI cp f584 := by rw [ef584]; exact WI_free hd_g1_1 (by omega) (by omega)
          replace hP : va_P (dC, dI) vwCl [(a8, .inl (cI, 600, .inl xF7)), (a10, .inl (cI, 10, .inl f565)), (a0, .inr (12, [.int i0, .ref a1, .ref a2, .ref a3, .ref a4, .int i1, .ref a5, .int i2, .int i3, .int i4, .int i5, .int i6, .int i7, .int i8, .ref a6, .ref a7, .ref a8, .ref a9, .ref a10, .ref a11, .ref a12, .int i9, .ref a13, .int i10, .ref a14, .ref a15, .int i11, .ref a16, .ref a17, .ref a18, .ref a19, .int i12, .int i13, .int i14, .int i15, .int i16, .ref a20, .long j0, .ref a21, .ref a22, .ref a23, .ref a24])), (a1, .inl (cI, 544, .inl f584))] H := by rw [ef584]; exact hP
          replace hD : va_D A [(a8, .inl (cI, 600, .inl xF7)), (a10, .inl (cI, 10, .inl f565)), (a0, .inr (12, [.int i0, .ref a1, .ref a2, .ref a3, .ref a4, .int i1, .ref a5, .int i2, .int i3, .int i4, .int i5, .int i6, .int i7, .int i8, .ref a6, .ref a7, .ref a8, .ref a9, .ref a10, .ref a11, .ref a12, .int i9, .ref a13, .int i10, .ref a14, .ref a15, .int i11, .ref a16, .ref a17, .ref a18, .ref a19, .int i12, .int i13, .int i14, .int i15, .int i16, .ref a20, .long j0, .ref a21, .ref a22, .ref a23, .ref a24])), (a1, .inl (cI, 544, .inl f584))] := by rw [ef584]; exact hD
          refine lv_aload_n hx hb dX12_moves_98 rfl (lv_at hl 1 rfl) ?_
          refine va_get (D := (dC, dI)) (ci := 12) (v := .ref a1) (C := RX12) (T := TX12) (N := 42) hx hb hwd inlX12 hown hK hP 2 rfl rfl 1 (by decide) (hwd _ kr49_2) (fun _ h9 => h9) rfl dX12_moves_99 ?_
          refine lv_bipush (v := 15) hx hb dX12_moves_102 (by decide) ?_
          refine lv_dup2_11 hx hb dX12_moves_104 rfl rfl ?_
          have h585 : vp_in (15 : Int32) 544 := (vin (by decide))
          refine va_iald hx hb hK hP 3 0 rfl rfl h585 dX12_moves_105 ?_
          refine lv_topi (fun x586 ex586 => ?_)
          have ix586 := wat_lit (k := 15) ex586 (by decide)
          have wh587 : whd cp f584 := df584.1
          unfold whd at wh587
          refine lv_iload_n hx hb dX12_moves_106 rfl (lv_at hl 0 rfl) ?_
          refine lv_if_eq (tgt := 114) hx hb dX12_moves_107 (by decide) (fun c588 => ?_) (fun c588 => absurd c588 (by decide))
          refine lv_iconst (v := 0) hx hb dX12_moves_114 (by decide) ?_
          refine lv_aload_n hx hb dX12_moves_115 rfl (lv_at hl 1 rfl) ?_
          refine lv_iload_n hx hb dX12_moves_116 rfl (lv_at hl 3 rfl) ?_
          have hPc := hP.sub (ws' := [(a0, .inr (12, [.int i0, .ref a1, .ref a2, .ref a3, .ref a4, .int i1, .ref a5, .int i2, .int i3, .int i4, .int i5, .int i6, .int i7, .int i8, .ref a6, .ref a7, .ref a8, .ref a9, .ref a10, .ref a11, .ref a12, .int i9, .ref a13, .int i10, .ref a14, .ref a15, .int i11, .ref a16, .ref a17, .ref a18, .ref a19, .int i12, .int i13, .int i14, .int i15, .int i16, .ref a20, .long j0, .ref a21, .ref a22, .ref a23, .ref a24])), (a1, .inl (cI, 544, .inl f584))]) [2, 3] rfl
          have hDc := hD.sub (ws' := [(a0, .inr (12, [.int i0, .ref a1, .ref a2, .ref a3, .ref a4, .int i1, .ref a5, .int i2, .int i3, .int i4, .int i5, .int i6, .int i7, .int i8, .ref a6, .ref a7, .ref a8, .ref a9, .ref a10, .ref a11, .ref a12, .int i9, .ref a13, .int i10, .ref a14, .ref a15, .int i11, .ref a16, .ref a17, .ref a18, .ref a19, .int i12, .int i13, .int i14, .int i15, .int i16, .ref a20, .long j0, .ref a21, .ref a22, .ref a23, .ref a24])), (a1, .inl (cI, 544, .inl f584))]) [2, 3] (by decide) rfl
          have hFc := va_free (wc := [(a0, .inr (12, [.int i0, .ref a1, .ref a2, .ref a3, .ref a4, .int i1, .ref a5, .int i2, .int i3, .int i4, .int i5, .int i6, .int i7, .int i8, .ref a6, .ref a7, .ref a8, .ref a9, .ref a10, .ref a11, .ref a12, .int i9, .ref a13, .int i10, .ref a14, .ref a15, .int i11, .ref a16, .ref a17, .ref a18, .ref a19, .int i12, .int i13, .int i14, .int i15, .int i16, .ref a20, .long j0, .ref a21, .ref a22, .ref a23, .ref a24])), (a1, .inl (cI, 544, .inl f584))]) hD hS hA [2, 3] rfl
          refine va_calli (va_runV (As := [.int w2_1]) (rest := [.int 0, .int x586, .int 15, .ref a1]) ⟨hx, hb, hml, hown, hwd⟩ (s_X12_posOf l dC dI cI cZ cB cJ cM cG a0 a1 a2 a3 a4 a5 a6 a7 a8 a9 a10 a11 a12 a13 a14 a15 a16 a17 a18 a19 a20 a21 a22 a23 a24 i0 i1 i2 i3 i4 i5 i6 i7 i8 i9 i10 i11 i12 i13 i14 i15 i16 j0 f584 w2_1 cp H.size (show (0 : Int) ≤ i1.toInt ∧ i1.toInt ≤ 1600 from p_0) (show (0 : Int) ≤ i2.toInt ∧ i2.toInt ≤ 1600 from p_1) (show (0 : Int) ≤ i3.toInt ∧ i3.toInt ≤ 1600 from p_2) (show (0 : Int) ≤ i4.toInt ∧ i4.toInt ≤ 1600 from p_3) (show (0 : Int) ≤ i5.toInt ∧ i5.toInt ≤ 6 from p_4) (show (0 : Int) ≤ i7.toInt ∧ i7.toInt ≤ 3 from p_5) (show (0 : Int) ≤ i11.toInt ∧ i11.toInt ≤ 59 from p_6) (show WI cp f584 from df584) (show (0 : Int) ≤ w2_1.toInt ∧ w2_1.toInt ≤ 9 from ⟨by omega, by omega⟩) p_9) (cwV 1 hwd (gV kr55_20 kr55_21 kr3_18 kr5_23 kr55_22) rfl rfl rfl (by decide +kernel) ⟨Nat.le_of_ble_eq_true rfl, Nat.le_of_ble_eq_true rfl⟩) (kPreV hPc hK hDc (ci := 12) (q0 := 0) rfl rfl) rfl rfl hl.1 rfl (lv_room (Nat.le_of_ble_eq_true rfl)) dX12_moves_117 ⟨Nat.le_of_ble_eq_true rfl, Nat.le_of_ble_eq_true rfl⟩) hS (fun q _ h => hFc q h) hFc (fun r589 u590 t H1 locs ht9 hvm hw hB hz1 hk1 hS => ?_)
          obtain ⟨hP1, hD1⟩ := hB
          rw [ht9] at hP1
          obtain ⟨hP, hD⟩ := va_join (wr := [(a8, .inl (cI, 600, .inl xF7)), (a10, .inl (cI, 10, .inl f565))]) (w1 := [(a0, .inr (12, [.int i0, .ref a1, .ref a2, .ref a3, .ref a4, .int i1, .ref a5, .int i2, .int i3, .int i4, .int i5, .int i6, .int i7, .int i8, .ref a6, .ref a7, .ref a8, .ref a9, .ref a10, .ref a11, .ref a12, .int i9, .ref a13, .int i10, .ref a14, .ref a15, .int i11, .ref a16, .ref a17, .ref a18, .ref a19, .int i12, .int i13, .int i14, .int i15, .int i16, .ref a20, .long j0, .ref a21, .ref a22, .ref a23, .ref a24])), (a1, .inl (cI, 544, .inl f584))]) hP hD [2, 3] [0, 1] rfl rfl (by decide) (by decide) hk1 hFc hP1 hD1
          generalize H1 = H at hP hS ⊢
          replace hP : va_P (dC, dI) vwCl [(a8, .inl (cI, 600, .inl xF7)), (a10, .inl (cI, 10, .inl f565)), (a0, .inr (12, [.int i0, .ref a1, .ref a2, .ref a3, .ref a4, .int i1, .ref a5, .int i2, .int i3, .int i4, .int i5, .int i6, .int i7, .int i8, .ref a6, .ref a7, .ref a8, .ref a9, .ref a10, .ref a11, .ref a12, .int i9, .ref a13, .int i10, .ref a14, .ref a15, .int i11, .ref a16, .ref a17, .ref a18, .ref a19, .int i12, .int i13, .int i14, .int i15, .int i16, .ref a20, .long j0, .ref a21, .ref a22, .ref a23, .ref a24])), (a1, .inl (cI, 544, .inl f584))] H := hP
          replace hD : va_D A [(a8, .inl (cI, 600, .inl xF7)), (a10, .inl (cI, 10, .inl f565)), (a0, .inr (12, [.int i0, .ref a1, .ref a2, .ref a3, .ref a4, .int i1, .ref a5, .int i2, .int i3, .int i4, .int i5, .int i6, .int i7, .int i8, .ref a6, .ref a7, .ref a8, .ref a9, .ref a10, .ref a11, .ref a12, .int i9, .ref a13, .int i10, .ref a14, .ref a15, .int i11, .ref a16, .ref a17, .ref a18, .ref a19, .int i12, .int i13, .int i14, .int i15, .int i16, .ref a20, .long j0, .ref a21, .ref a22, .ref a23, .ref a24])), (a1, .inl (cI, 544, .inl f584))] := hD
          refine lv_aload_n hx hb dX12_moves_120 rfl (lv_at hl 1 rfl) ?_
          refine va_get (D := (dC, dI)) (ci := 12) (v := .ref a10) (C := RX12) (T := TX12) (N := 42) hx hb hwd inlX12 hown hK hP 2 rfl rfl 18 (by decide) (hwd _ kr49_19) (fun _ h9 => h9) rfl dX12_moves_121 ?_
          refine lv_iload_n hx hb dX12_moves_124 rfl (lv_at hl 3 rfl) ?_
          have h591 : vp_in w2_1 10 := (vp_of (by omega) (by omega))
          refine va_iald hx hb hK hP 1 0 rfl rfl h591 dX12_moves_125 ?_
          refine lv_topi (fun x592 ex592 => ?_)
          refine lv_isub hx hb dX12_moves_126 ?_
          refine lv_topi (fun x593 ex593 => ?_)
          refine va_mmax hx hb (by rw [hml]; exact hl.1.symm) hown (hwd _ kr55_7) (hwd _ kr24_17) (hwd _ kr6_4) (hwd _ kr24_18) (Nat.le_of_ble_eq_true rfl) (Nat.le_of_ble_eq_true rfl) (Nat.le_of_ble_eq_true rfl) (Nat.le_of_ble_eq_true rfl) dX12_moves_127 ?_
          refine lv_topi (fun x594 ex594 => ?_)
          have tx594 := mx_max (0 : Int32) x593
          rw [← ex594] at tx594
          refine lv_iadd hx hb dX12_moves_130 ?_
          refine lv_topi (fun x595 ex595 => ?_)
          refine va_iast hx hb hK hP hD hS 3 0 rfl rfl (vin (by decide)) dX12_moves_131 (fun H locs hP hD hS => ?_)
          obtain ⟨f596, ef596⟩ : ∃ f, f = upd f584 (15 : Int32).toNatClampNeg x595 := ⟨_, rfl⟩
          have df596 : WI cp f596 := by rw [ef596]; exact WI_free df584 (by omega) (by omega)
          replace hP : va_P (dC, dI) vwCl [(a8, .inl (cI, 600, .inl xF7)), (a10, .inl (cI, 10, .inl f565)), (a0, .inr (12, [.int i0, .ref a1, .ref a2, .ref a3, .ref a4, .int i1, .ref a5, .int i2, .int i3, .int i4, .int i5, .int i6, .int i7, .int i8, .ref a6, .ref a7, .ref a8, .ref a9, .ref a10, .ref a11, .ref a12, .int i9, .ref a13, .int i10, .ref a14, .ref a15, .int i11, .ref a16, .ref a17, .ref a18, .ref a19, .int i12, .int i13, .int i14, .int i15, .int i16, .ref a20, .long j0, .ref a21, .ref a22, .ref a23, .ref a24])), (a1, .inl (cI, 544, .inl f596))] H := by rw [ef596]; exact hP
          replace hD : va_D A [(a8, .inl (cI, 600, .inl xF7)), (a10, .inl (cI, 10, .inl f565)), (a0, .inr (12, [.int i0, .ref a1, .ref a2, .ref a3, .ref a4, .int i1, .ref a5, .int i2, .int i3, .int i4, .int i5, .int i6, .int i7, .int i8, .ref a6, .ref a7, .ref a8, .ref a9, .ref a10, .ref a11, .ref a12, .int i9, .ref a13, .int i10, .ref a14, .ref a15, .int i11, .ref a16, .ref a17, .ref a18, .ref a19, .int i12, .int i13, .int i14, .int i15, .int i16, .ref a20, .long j0, .ref a21, .ref a22, .ref a23, .ref a24])), (a1, .inl (cI, 544, .inl f596))] := by rw [ef596]; exact hD
          obtain ⟨x597, ex597⟩ : ∃ y : Int32, y = w2_1 + 1 := ⟨_, rfl⟩
          refine lv_iinc (v := x597) (lv' := [(2, .int x597), (3, .int 0), (0, .ref a0), (1, .int p0)]) hx hb dX12_moves_132 hl (k := 3) rfl (by rw [ex597]; rfl) (by decide) rfl (fun ls hl => ?_)
          have tx597 := ia_add (a := w2_1) (b := (1 : Int32)) (by omega) (by omega)
          rw [← ex597] at tx597
          refine lv_goto (tgt := 2) hx hb dX12_moves_135 (by decide) ?_
          exact ih1 _ _ ls x597 f596 f565 (show (0 : Int) ≤ x597.toInt ∧ x597.toInt ≤ 10 from ⟨by omega, by omega⟩) (show WI cp f596 from df596) (by omega) (hP.sub (ws' := [(a0, .inr (12, [.int i0, .ref a1, .ref a2, .ref a3, .ref a4, .int i1, .ref a5, .int i2, .int i3, .int i4, .int i5, .int i6, .int i7, .int i8, .ref a6, .ref a7, .ref a8, .ref a9, .ref a10, .ref a11, .ref a12, .int i9, .ref a13, .int i10, .ref a14, .ref a15, .int i11, .ref a16, .ref a17, .ref a18, .ref a19, .int i12, .int i13, .int i14, .int i15, .int i16, .ref a20, .long j0, .ref a21, .ref a22, .ref a23, .ref a24])), (a1, .inl (cI, 544, .inl f596)), (a8, .inl (cI, 600, .inl xF7)), (a10, .inl (cI, 10, .inl f565))]) [2, 3, 0, 1] rfl) (hD.sub (ws' := [(a0, .inr (12, [.int i0, .ref a1, .ref a2, .ref a3, .ref a4, .int i1, .ref a5, .int i2, .int i3, .int i4, .int i5, .int i6, .int i7, .int i8, .ref a6, .ref a7, .ref a8, .ref a9, .ref a10, .ref a11, .ref a12, .int i9, .ref a13, .int i10, .ref a14, .ref a15, .int i11, .ref a16, .ref a17, .ref a18, .ref a19, .int i12, .int i13, .int i14, .int i15, .int i16, .ref a20, .long j0, .ref a21, .ref a22, .ref a23, .ref a24])), (a1, .inl (cI, 544, .inl f596)), (a8, .inl (cI, 600, .inl xF7)), (a10, .inl (cI, 10, .inl f565))]) [2, 3, 0, 1] (by decide) rfl) hS (lv_sub hl [2, 3, 0] rfl)
        · rw [ki_eq] at c570
          refine lv_iconst (v := 1) hx hb dX12_moves_34 (by decide) ?_
          refine lv_goto (tgt := 39) hx hb dX12_moves_35 (by decide) ?_
          refine lv_istore_n (lv' := [(3, .int 1), (0, .ref a0), (1, .int p0), (2, .int w2_1)]) hx hb dX12_moves_39 rfl hl (by decide) rfl (fun ls hl => ?_)
          refine lv_aload_n hx hb dX12_moves_40 rfl (lv_at hl 1 rfl) ?_
          refine va_get (D := (dC, dI)) (ci := 12) (v := .ref a1) (C := RX12) (T := TX12) (N := 42) hx hb hwd inlX12 hown hK hP 2 rfl rfl 1 (by decide) (hwd _ kr49_2) (fun _ h9 => h9) rfl dX12_moves_41 ?_
          refine lv_sipush (v := 264) hx hb dX12_moves_44 (by decide) ?_
          refine lv_iload_n hx hb dX12_moves_47 rfl (lv_at hl 3 rfl) ?_
          refine lv_iadd hx hb dX12_moves_48 ?_
          refine lv_topi (fun x598 ex598 => ?_)
          have tx598 := ia_add (a := (264 : Int32)) (b := w2_1) (by omega) (by omega)
          rw [← ex598] at tx598
          refine lv_iload_n hx hb dX12_moves_49 rfl (lv_at hl 0 rfl) ?_
          refine lv_if_eq (tgt := 71) hx hb dX12_moves_50 (by decide) (fun c599 => absurd c599 (by decide)) (fun c599 => ?_)
          refine lv_aload_n hx hb dX12_moves_53 rfl (lv_at hl 1 rfl) ?_
          refine lv_iload_n hx hb dX12_moves_54 rfl (lv_at hl 3 rfl) ?_
          refine lv_aload_n hx hb dX12_moves_55 rfl (lv_at hl 1 rfl) ?_
          refine lv_aload_n hx hb dX12_moves_56 rfl (lv_at hl 1 rfl) ?_
          refine lv_iload_n hx hb dX12_moves_57 rfl (lv_at hl 3 rfl) ?_
          refine lv_iconst (v := 1) hx hb dX12_moves_58 (by decide) ?_
          have hPc := hP.sub (ws' := [(a0, .inr (12, [.int i0, .ref a1, .ref a2, .ref a3, .ref a4, .int i1, .ref a5, .int i2, .int i3, .int i4, .int i5, .int i6, .int i7, .int i8, .ref a6, .ref a7, .ref a8, .ref a9, .ref a10, .ref a11, .ref a12, .int i9, .ref a13, .int i10, .ref a14, .ref a15, .int i11, .ref a16, .ref a17, .ref a18, .ref a19, .int i12, .int i13, .int i14, .int i15, .int i16, .ref a20, .long j0, .ref a21, .ref a22, .ref a23, .ref a24])), (a1, .inl (cI, 544, .inl g1_1))]) [2, 3] rfl
          have hDc := hD.sub (ws' := [(a0, .inr (12, [.int i0, .ref a1, .ref a2, .ref a3, .ref a4, .int i1, .ref a5, .int i2, .int i3, .int i4, .int i5, .int i6, .int i7, .int i8, .ref a6, .ref a7, .ref a8, .ref a9, .ref a10, .ref a11, .ref a12, .int i9, .ref a13, .int i10, .ref a14, .ref a15, .int i11, .ref a16, .ref a17, .ref a18, .ref a19, .int i12, .int i13, .int i14, .int i15, .int i16, .ref a20, .long j0, .ref a21, .ref a22, .ref a23, .ref a24])), (a1, .inl (cI, 544, .inl g1_1))]) [2, 3] (by decide) rfl
          have hFc := va_free (wc := [(a0, .inr (12, [.int i0, .ref a1, .ref a2, .ref a3, .ref a4, .int i1, .ref a5, .int i2, .int i3, .int i4, .int i5, .int i6, .int i7, .int i8, .ref a6, .ref a7, .ref a8, .ref a9, .ref a10, .ref a11, .ref a12, .int i9, .ref a13, .int i10, .ref a14, .ref a15, .int i11, .ref a16, .ref a17, .ref a18, .ref a19, .int i12, .int i13, .int i14, .int i15, .int i16, .ref a20, .long j0, .ref a21, .ref a22, .ref a23, .ref a24])), (a1, .inl (cI, 544, .inl g1_1))]) hD hS hA [2, 3] rfl
          refine va_calli (va_runV (As := [.int w2_1, .int 1]) (rest := [.ref a0, .int w2_1, .ref a0, .int x598, .ref a1]) ⟨hx, hb, hml, hown, hwd⟩ (s_X12_of l dC dI cI cZ cB cJ cM cG a0 a1 a2 a3 a4 a5 a6 a7 a8 a9 a10 a11 a12 a13 a14 a15 a16 a17 a18 a19 a20 a21 a22 a23 a24 i0 i1 i2 i3 i4 i5 i6 i7 i8 i9 i10 i11 i12 i13 i14 i15 i16 j0 g1_1 w2_1 1 cp H.size (show (0 : Int) ≤ i1.toInt ∧ i1.toInt ≤ 1600 from p_0) (show (0 : Int) ≤ i2.toInt ∧ i2.toInt ≤ 1600 from p_1) (show (0 : Int) ≤ i3.toInt ∧ i3.toInt ≤ 1600 from p_2) (show (0 : Int) ≤ i4.toInt ∧ i4.toInt ≤ 1600 from p_3) (show (0 : Int) ≤ i5.toInt ∧ i5.toInt ≤ 6 from p_4) (show (0 : Int) ≤ i7.toInt ∧ i7.toInt ≤ 3 from p_5) (show (0 : Int) ≤ i11.toInt ∧ i11.toInt ≤ 59 from p_6) (show WI cp g1_1 from hd_g1_1) (show (0 : Int) ≤ w2_1.toInt ∧ w2_1.toInt ≤ 9 from ⟨by omega, by omega⟩) (show (0 : Int) ≤ (1 : Int32).toInt ∧ (1 : Int32).toInt ≤ 5 from ⟨by omega, by omega⟩) p_9) (cwV 2 hwd (gV kr55_11 kr55_12 kr3_15 kr5_23 kr55_13) rfl rfl rfl (by decide +kernel) ⟨Nat.le_of_ble_eq_true rfl, Nat.le_of_ble_eq_true rfl⟩) (kPreV hPc hK hDc (ci := 12) (q0 := 0) rfl rfl) rfl rfl hl.1 rfl (lv_room (Nat.le_of_ble_eq_true rfl)) dX12_moves_59 ⟨Nat.le_of_ble_eq_true rfl, Nat.le_of_ble_eq_true rfl⟩) hS (fun q _ h => hFc q h) hFc (fun r600 u601 t H1 locs ht9 hvm hw hB hz1 hk1 hS => ?_)
          obtain ⟨hw602, -⟩ := hw
          replace hw602 : r600.toInt = wfo g1_1 1 w2_1.toInt := hw602
          obtain ⟨hP1, hD1⟩ := hB
          rw [ht9] at hP1
          obtain ⟨hP, hD⟩ := va_join (wr := [(a8, .inl (cI, 600, .inl xF7)), (a10, .inl (cI, 10, .inl f565))]) (w1 := [(a0, .inr (12, [.int i0, .ref a1, .ref a2, .ref a3, .ref a4, .int i1, .ref a5, .int i2, .int i3, .int i4, .int i5, .int i6, .int i7, .int i8, .ref a6, .ref a7, .ref a8, .ref a9, .ref a10, .ref a11, .ref a12, .int i9, .ref a13, .int i10, .ref a14, .ref a15, .int i11, .ref a16, .ref a17, .ref a18, .ref a19, .int i12, .int i13, .int i14, .int i15, .int i16, .ref a20, .long j0, .ref a21, .ref a22, .ref a23, .ref a24])), (a1, .inl (cI, 544, .inl g1_1))]) hP hD [2, 3] [0, 1] rfl rfl (by decide) (by decide) hk1 hFc hP1 hD1
          generalize H1 = H at hP hS ⊢
          replace hP : va_P (dC, dI) vwCl [(a8, .inl (cI, 600, .inl xF7)), (a10, .inl (cI, 10, .inl f565)), (a0, .inr (12, [.int i0, .ref a1, .ref a2, .ref a3, .ref a4, .int i1, .ref a5, .int i2, .int i3, .int i4, .int i5, .int i6, .int i7, .int i8, .ref a6, .ref a7, .ref a8, .ref a9, .ref a10, .ref a11, .ref a12, .int i9, .ref a13, .int i10, .ref a14, .ref a15, .int i11, .ref a16, .ref a17, .ref a18, .ref a19, .int i12, .int i13, .int i14, .int i15, .int i16, .ref a20, .long j0, .ref a21, .ref a22, .ref a23, .ref a24])), (a1, .inl (cI, 544, .inl g1_1))] H := hP
          replace hD : va_D A [(a8, .inl (cI, 600, .inl xF7)), (a10, .inl (cI, 10, .inl f565)), (a0, .inr (12, [.int i0, .ref a1, .ref a2, .ref a3, .ref a4, .int i1, .ref a5, .int i2, .int i3, .int i4, .int i5, .int i6, .int i7, .int i8, .ref a6, .ref a7, .ref a8, .ref a9, .ref a10, .ref a11, .ref a12, .int i9, .ref a13, .int i10, .ref a14, .ref a15, .int i11, .ref a16, .ref a17, .ref a18, .ref a19, .int i12, .int i13, .int i14, .int i15, .int i16, .ref a20, .long j0, .ref a21, .ref a22, .ref a23, .ref a24])), (a1, .inl (cI, 544, .inl g1_1))] := hD
          have hPc := hP.sub (ws' := [(a0, .inr (12, [.int i0, .ref a1, .ref a2, .ref a3, .ref a4, .int i1, .ref a5, .int i2, .int i3, .int i4, .int i5, .int i6, .int i7, .int i8, .ref a6, .ref a7, .ref a8, .ref a9, .ref a10, .ref a11, .ref a12, .int i9, .ref a13, .int i10, .ref a14, .ref a15, .int i11, .ref a16, .ref a17, .ref a18, .ref a19, .int i12, .int i13, .int i14, .int i15, .int i16, .ref a20, .long j0, .ref a21, .ref a22, .ref a23, .ref a24])), (a1, .inl (cI, 544, .inl g1_1))]) [2, 3] rfl
          have hDc := hD.sub (ws' := [(a0, .inr (12, [.int i0, .ref a1, .ref a2, .ref a3, .ref a4, .int i1, .ref a5, .int i2, .int i3, .int i4, .int i5, .int i6, .int i7, .int i8, .ref a6, .ref a7, .ref a8, .ref a9, .ref a10, .ref a11, .ref a12, .int i9, .ref a13, .int i10, .ref a14, .ref a15, .int i11, .ref a16, .ref a17, .ref a18, .ref a19, .int i12, .int i13, .int i14, .int i15, .int i16, .ref a20, .long j0, .ref a21, .ref a22, .ref a23, .ref a24])), (a1, .inl (cI, 544, .inl g1_1))]) [2, 3] (by decide) rfl
          have hFc := va_free (wc := [(a0, .inr (12, [.int i0, .ref a1, .ref a2, .ref a3, .ref a4, .int i1, .ref a5, .int i2, .int i3, .int i4, .int i5, .int i6, .int i7, .int i8, .ref a6, .ref a7, .ref a8, .ref a9, .ref a10, .ref a11, .ref a12, .int i9, .ref a13, .int i10, .ref a14, .ref a15, .int i11, .ref a16, .ref a17, .ref a18, .ref a19, .int i12, .int i13, .int i14, .int i15, .int i16, .ref a20, .long j0, .ref a21, .ref a22, .ref a23, .ref a24])), (a1, .inl (cI, 544, .inl g1_1))]) hD hS hA [2, 3] rfl
          refine va_calli (va_runV (As := [.int r600]) (rest := [.int w2_1, .ref a0, .int x598, .ref a1]) ⟨hx, hb, hml, hown, hwd⟩ (s_X12_posOf l dC dI cI cZ cB cJ cM cG a0 a1 a2 a3 a4 a5 a6 a7 a8 a9 a10 a11 a12 a13 a14 a15 a16 a17 a18 a19 a20 a21 a22 a23 a24 i0 i1 i2 i3 i4 i5 i6 i7 i8 i9 i10 i11 i12 i13 i14 i15 i16 j0 g1_1 r600 cp H.size (show (0 : Int) ≤ i1.toInt ∧ i1.toInt ≤ 1600 from p_0) (show (0 : Int) ≤ i2.toInt ∧ i2.toInt ≤ 1600 from p_1) (show (0 : Int) ≤ i3.toInt ∧ i3.toInt ≤ 1600 from p_2) (show (0 : Int) ≤ i4.toInt ∧ i4.toInt ≤ 1600 from p_3) (show (0 : Int) ≤ i5.toInt ∧ i5.toInt ≤ 6 from p_4) (show (0 : Int) ≤ i7.toInt ∧ i7.toInt ≤ 3 from p_5) (show (0 : Int) ≤ i11.toInt ∧ i11.toInt ≤ 59 from p_6) (show WI cp g1_1 from hd_g1_1) (show (0 : Int) ≤ r600.toInt ∧ r600.toInt ≤ 9 from ⟨by omega, by omega⟩) p_9) (cwV 1 hwd (gV kr55_20 kr55_21 kr3_18 kr5_23 kr55_22) rfl rfl rfl (by decide +kernel) ⟨Nat.le_of_ble_eq_true rfl, Nat.le_of_ble_eq_true rfl⟩) (kPreV hPc hK hDc (ci := 12) (q0 := 0) rfl rfl) rfl rfl hl.1 rfl (lv_room (Nat.le_of_ble_eq_true rfl)) dX12_moves_62 ⟨Nat.le_of_ble_eq_true rfl, Nat.le_of_ble_eq_true rfl⟩) hS (fun q _ h => hFc q h) hFc (fun r603 u604 t H1 locs ht9 hvm hw hB hz1 hk1 hS => ?_)
          obtain ⟨hP1, hD1⟩ := hB
          rw [ht9] at hP1
          obtain ⟨hP, hD⟩ := va_join (wr := [(a8, .inl (cI, 600, .inl xF7)), (a10, .inl (cI, 10, .inl f565))]) (w1 := [(a0, .inr (12, [.int i0, .ref a1, .ref a2, .ref a3, .ref a4, .int i1, .ref a5, .int i2, .int i3, .int i4, .int i5, .int i6, .int i7, .int i8, .ref a6, .ref a7, .ref a8, .ref a9, .ref a10, .ref a11, .ref a12, .int i9, .ref a13, .int i10, .ref a14, .ref a15, .int i11, .ref a16, .ref a17, .ref a18, .ref a19, .int i12, .int i13, .int i14, .int i15, .int i16, .ref a20, .long j0, .ref a21, .ref a22, .ref a23, .ref a24])), (a1, .inl (cI, 544, .inl g1_1))]) hP hD [2, 3] [0, 1] rfl rfl (by decide) (by decide) hk1 hFc hP1 hD1
          generalize H1 = H at hP hS ⊢
          replace hP : va_P (dC, dI) vwCl [(a8, .inl (cI, 600, .inl xF7)), (a10, .inl (cI, 10, .inl f565)), (a0, .inr (12, [.int i0, .ref a1, .ref a2, .ref a3, .ref a4, .int i1, .ref a5, .int i2, .int i3, .int i4, .int i5, .int i6, .int i7, .int i8, .ref a6, .ref a7, .ref a8, .ref a9, .ref a10, .ref a11, .ref a12, .int i9, .ref a13, .int i10, .ref a14, .ref a15, .int i11, .ref a16, .ref a17, .ref a18, .ref a19, .int i12, .int i13, .int i14, .int i15, .int i16, .ref a20, .long j0, .ref a21, .ref a22, .ref a23, .ref a24])), (a1, .inl (cI, 544, .inl g1_1))] H := hP
          replace hD : va_D A [(a8, .inl (cI, 600, .inl xF7)), (a10, .inl (cI, 10, .inl f565)), (a0, .inr (12, [.int i0, .ref a1, .ref a2, .ref a3, .ref a4, .int i1, .ref a5, .int i2, .int i3, .int i4, .int i5, .int i6, .int i7, .int i8, .ref a6, .ref a7, .ref a8, .ref a9, .ref a10, .ref a11, .ref a12, .int i9, .ref a13, .int i10, .ref a14, .ref a15, .int i11, .ref a16, .ref a17, .ref a18, .ref a19, .int i12, .int i13, .int i14, .int i15, .int i16, .ref a20, .long j0, .ref a21, .ref a22, .ref a23, .ref a24])), (a1, .inl (cI, 544, .inl g1_1))] := hD
          have hPc := hP.sub (ws' := [(a0, .inr (12, [.int i0, .ref a1, .ref a2, .ref a3, .ref a4, .int i1, .ref a5, .int i2, .int i3, .int i4, .int i5, .int i6, .int i7, .int i8, .ref a6, .ref a7, .ref a8, .ref a9, .ref a10, .ref a11, .ref a12, .int i9, .ref a13, .int i10, .ref a14, .ref a15, .int i11, .ref a16, .ref a17, .ref a18, .ref a19, .int i12, .int i13, .int i14, .int i15, .int i16, .ref a20, .long j0, .ref a21, .ref a22, .ref a23, .ref a24])), (a1, .inl (cI, 544, .inl g1_1))]) [2, 3] rfl
          have hDc := hD.sub (ws' := [(a0, .inr (12, [.int i0, .ref a1, .ref a2, .ref a3, .ref a4, .int i1, .ref a5, .int i2, .int i3, .int i4, .int i5, .int i6, .int i7, .int i8, .ref a6, .ref a7, .ref a8, .ref a9, .ref a10, .ref a11, .ref a12, .int i9, .ref a13, .int i10, .ref a14, .ref a15, .int i11, .ref a16, .ref a17, .ref a18, .ref a19, .int i12, .int i13, .int i14, .int i15, .int i16, .ref a20, .long j0, .ref a21, .ref a22, .ref a23, .ref a24])), (a1, .inl (cI, 544, .inl g1_1))]) [2, 3] (by decide) rfl
          have hFc := va_free (wc := [(a0, .inr (12, [.int i0, .ref a1, .ref a2, .ref a3, .ref a4, .int i1, .ref a5, .int i2, .int i3, .int i4, .int i5, .int i6, .int i7, .int i8, .ref a6, .ref a7, .ref a8, .ref a9, .ref a10, .ref a11, .ref a12, .int i9, .ref a13, .int i10, .ref a14, .ref a15, .int i11, .ref a16, .ref a17, .ref a18, .ref a19, .int i12, .int i13, .int i14, .int i15, .int i16, .ref a20, .long j0, .ref a21, .ref a22, .ref a23, .ref a24])), (a1, .inl (cI, 544, .inl g1_1))]) hD hS hA [2, 3] rfl
          refine va_calli (va_runV (As := [.int w2_1, .int r603]) (rest := [.int x598, .ref a1]) ⟨hx, hb, hml, hown, hwd⟩ (s_X12_leverOf l dC dI cI cZ cB cJ cM cG a0 a1 a2 a3 a4 a5 a6 a7 a8 a9 a10 a11 a12 a13 a14 a15 a16 a17 a18 a19 a20 a21 a22 a23 a24 i0 i1 i2 i3 i4 i5 i6 i7 i8 i9 i10 i11 i12 i13 i14 i15 i16 j0 g1_1 w2_1 r603 cp H.size (show (0 : Int) ≤ i1.toInt ∧ i1.toInt ≤ 1600 from p_0) (show (0 : Int) ≤ i2.toInt ∧ i2.toInt ≤ 1600 from p_1) (show (0 : Int) ≤ i3.toInt ∧ i3.toInt ≤ 1600 from p_2) (show (0 : Int) ≤ i4.toInt ∧ i4.toInt ≤ 1600 from p_3) (show (0 : Int) ≤ i5.toInt ∧ i5.toInt ≤ 6 from p_4) (show (0 : Int) ≤ i7.toInt ∧ i7.toInt ≤ 3 from p_5) (show (0 : Int) ≤ i11.toInt ∧ i11.toInt ≤ 59 from p_6) (show WI cp g1_1 from hd_g1_1) (by omega) (show (0 : Int) ≤ w2_1.toInt ∧ w2_1.toInt ≤ 9 from ⟨by omega, by omega⟩) p_9) (cwV 2 hwd (gV kr55_14 kr55_15 kr3_16 kr5_23 kr55_16) rfl rfl rfl (by decide +kernel) ⟨Nat.le_of_ble_eq_true rfl, Nat.le_of_ble_eq_true rfl⟩) (kPreV hPc hK hDc (ci := 12) (q0 := 0) rfl rfl) rfl rfl hl.1 rfl (lv_room (Nat.le_of_ble_eq_true rfl)) dX12_moves_65 ⟨Nat.le_of_ble_eq_true rfl, Nat.le_of_ble_eq_true rfl⟩) hS (fun q _ h => hFc q h) hFc (fun r605 u606 t H1 locs ht9 hvm hw hB hz1 hk1 hS => ?_)
          obtain ⟨hw607, -⟩ := hw
          replace hw607 : (-2147483648 : Int) ≤ r605.toInt ∧ r605.toInt ≤ 9999 := hw607
          obtain ⟨hP1, hD1⟩ := hB
          rw [ht9] at hP1
          obtain ⟨hP, hD⟩ := va_join (wr := [(a8, .inl (cI, 600, .inl xF7)), (a10, .inl (cI, 10, .inl f565))]) (w1 := [(a0, .inr (12, [.int i0, .ref a1, .ref a2, .ref a3, .ref a4, .int i1, .ref a5, .int i2, .int i3, .int i4, .int i5, .int i6, .int i7, .int i8, .ref a6, .ref a7, .ref a8, .ref a9, .ref a10, .ref a11, .ref a12, .int i9, .ref a13, .int i10, .ref a14, .ref a15, .int i11, .ref a16, .ref a17, .ref a18, .ref a19, .int i12, .int i13, .int i14, .int i15, .int i16, .ref a20, .long j0, .ref a21, .ref a22, .ref a23, .ref a24])), (a1, .inl (cI, 544, .inl g1_1))]) hP hD [2, 3] [0, 1] rfl rfl (by decide) (by decide) hk1 hFc hP1 hD1
          generalize H1 = H at hP hS ⊢
          replace hP : va_P (dC, dI) vwCl [(a8, .inl (cI, 600, .inl xF7)), (a10, .inl (cI, 10, .inl f565)), (a0, .inr (12, [.int i0, .ref a1, .ref a2, .ref a3, .ref a4, .int i1, .ref a5, .int i2, .int i3, .int i4, .int i5, .int i6, .int i7, .int i8, .ref a6, .ref a7, .ref a8, .ref a9, .ref a10, .ref a11, .ref a12, .int i9, .ref a13, .int i10, .ref a14, .ref a15, .int i11, .ref a16, .ref a17, .ref a18, .ref a19, .int i12, .int i13, .int i14, .int i15, .int i16, .ref a20, .long j0, .ref a21, .ref a22, .ref a23, .ref a24])), (a1, .inl (cI, 544, .inl g1_1))] H := hP
          replace hD : va_D A [(a8, .inl (cI, 600, .inl xF7)), (a10, .inl (cI, 10, .inl f565)), (a0, .inr (12, [.int i0, .ref a1, .ref a2, .ref a3, .ref a4, .int i1, .ref a5, .int i2, .int i3, .int i4, .int i5, .int i6, .int i7, .int i8, .ref a6, .ref a7, .ref a8, .ref a9, .ref a10, .ref a11, .ref a12, .int i9, .ref a13, .int i10, .ref a14, .ref a15, .int i11, .ref a16, .ref a17, .ref a18, .ref a19, .int i12, .int i13, .int i14, .int i15, .int i16, .ref a20, .long j0, .ref a21, .ref a22, .ref a23, .ref a24])), (a1, .inl (cI, 544, .inl g1_1))] := hD
          refine lv_goto (tgt := 97) hx hb dX12_moves_68 (by decide) ?_
          refine va_iast hx hb hK hP hD hS 3 0 rfl rfl (vp_of (by omega) (by omega)) dX12_moves_97 (fun H locs hP hD hS => ?_)
          obtain ⟨f608, ef608⟩ : ∃ f, f = upd g1_1 x598.toNatClampNeg r605 := ⟨_, rfl⟩
          have df608 : WI cp f608 := by rw [ef608]; exact WI_free hd_g1_1 (by omega) (by omega)
          replace hP : va_P (dC, dI) vwCl [(a8, .inl (cI, 600, .inl xF7)), (a10, .inl (cI, 10, .inl f565)), (a0, .inr (12, [.int i0, .ref a1, .ref a2, .ref a3, .ref a4, .int i1, .ref a5, .int i2, .int i3, .int i4, .int i5, .int i6, .int i7, .int i8, .ref a6, .ref a7, .ref a8, .ref a9, .ref a10, .ref a11, .ref a12, .int i9, .ref a13, .int i10, .ref a14, .ref a15, .int i11, .ref a16, .ref a17, .ref a18, .ref a19, .int i12, .int i13, .int i14, .int i15, .int i16, .ref a20, .long j0, .ref a21, .ref a22, .ref a23, .ref a24])), (a1, .inl (cI, 544, .inl f608))] H := by rw [ef608]; exact hP
          replace hD : va_D A [(a8, .inl (cI, 600, .inl xF7)), (a10, .inl (cI, 10, .inl f565)), (a0, .inr (12, [.int i0, .ref a1, .ref a2, .ref a3, .ref a4, .int i1, .ref a5, .int i2, .int i3, .int i4, .int i5, .int i6, .int i7, .int i8, .ref a6, .ref a7, .ref a8, .ref a9, .ref a10, .ref a11, .ref a12, .int i9, .ref a13, .int i10, .ref a14, .ref a15, .int i11, .ref a16, .ref a17, .ref a18, .ref a19, .int i12, .int i13, .int i14, .int i15, .int i16, .ref a20, .long j0, .ref a21, .ref a22, .ref a23, .ref a24])), (a1, .inl (cI, 544, .inl f608))] := by rw [ef608]; exact hD
          refine lv_aload_n hx hb dX12_moves_98 rfl (lv_at hl 1 rfl) ?_
          refine va_get (D := (dC, dI)) (ci := 12) (v := .ref a1) (C := RX12) (T := TX12) (N := 42) hx hb hwd inlX12 hown hK hP 2 rfl rfl 1 (by decide) (hwd _ kr49_2) (fun _ h9 => h9) rfl dX12_moves_99 ?_
          refine lv_bipush (v := 15) hx hb dX12_moves_102 (by decide) ?_
          refine lv_dup2_11 hx hb dX12_moves_104 rfl rfl ?_
          have h609 : vp_in (15 : Int32) 544 := (vin (by decide))
          refine va_iald hx hb hK hP 3 0 rfl rfl h609 dX12_moves_105 ?_
          refine lv_topi (fun x610 ex610 => ?_)
          have ix610 := wat_lit (k := 15) ex610 (by decide)
          have wh611 : whd cp f608 := df608.1
          unfold whd at wh611
          refine lv_iload_n hx hb dX12_moves_106 rfl (lv_at hl 0 rfl) ?_
          refine lv_if_eq (tgt := 114) hx hb dX12_moves_107 (by decide) (fun c612 => absurd c612 (by decide)) (fun c612 => ?_)
          refine lv_iconst (v := 0) hx hb dX12_moves_110 (by decide) ?_
          refine lv_goto (tgt := 130) hx hb dX12_moves_111 (by decide) ?_
          refine lv_iadd hx hb dX12_moves_130 ?_
          refine lv_topi (fun x613 ex613 => ?_)
          have b_b614 := i32_b x610
          have tx613 := ia_add (a := x610) (b := (0 : Int32)) (by omega) (by omega)
          rw [← ex613] at tx613
          refine va_iast hx hb hK hP hD hS 3 0 rfl rfl (vin (by decide)) dX12_moves_131 (fun H locs hP hD hS => ?_)
          obtain ⟨f615, ef615⟩ : ∃ f, f = upd f608 (15 : Int32).toNatClampNeg x613 := ⟨_, rfl⟩
          have df615 : WI cp f615 := by rw [ef615]; exact WI_free df608 (by omega) (by omega)
          replace hP : va_P (dC, dI) vwCl [(a8, .inl (cI, 600, .inl xF7)), (a10, .inl (cI, 10, .inl f565)), (a0, .inr (12, [.int i0, .ref a1, .ref a2, .ref a3, .ref a4, .int i1, .ref a5, .int i2, .int i3, .int i4, .int i5, .int i6, .int i7, .int i8, .ref a6, .ref a7, .ref a8, .ref a9, .ref a10, .ref a11, .ref a12, .int i9, .ref a13, .int i10, .ref a14, .ref a15, .int i11, .ref a16, .ref a17, .ref a18, .ref a19, .int i12, .int i13, .int i14, .int i15, .int i16, .ref a20, .long j0, .ref a21, .ref a22, .ref a23, .ref a24])), (a1, .inl (cI, 544, .inl f615))] H := by rw [ef615]; exact hP
          replace hD : va_D A [(a8, .inl (cI, 600, .inl xF7)), (a10, .inl (cI, 10, .inl f565)), (a0, .inr (12, [.int i0, .ref a1, .ref a2, .ref a3, .ref a4, .int i1, .ref a5, .int i2, .int i3, .int i4, .int i5, .int i6, .int i7, .int i8, .ref a6, .ref a7, .ref a8, .ref a9, .ref a10, .ref a11, .ref a12, .int i9, .ref a13, .int i10, .ref a14, .ref a15, .int i11, .ref a16, .ref a17, .ref a18, .ref a19, .int i12, .int i13, .int i14, .int i15, .int i16, .ref a20, .long j0, .ref a21, .ref a22, .ref a23, .ref a24])), (a1, .inl (cI, 544, .inl f615))] := by rw [ef615]; exact hD
          obtain ⟨x616, ex616⟩ : ∃ y : Int32, y = w2_1 + 1 := ⟨_, rfl⟩
          refine lv_iinc (v := x616) (lv' := [(2, .int x616), (3, .int 1), (0, .ref a0), (1, .int p0)]) hx hb dX12_moves_132 hl (k := 3) rfl (by rw [ex616]; rfl) (by decide) rfl (fun ls hl => ?_)
          have tx616 := ia_add (a := w2_1) (b := (1 : Int32)) (by omega) (by omega)
          rw [← ex616] at tx616
          refine lv_goto (tgt := 2) hx hb dX12_moves_135 (by decide) ?_
          exact ih1 _ _ ls x616 f615 f565 (show (0 : Int) ≤ x616.toInt ∧ x616.toInt ≤ 10 from ⟨by omega, by omega⟩) (show WI cp f615 from df615) (by omega) (hP.sub (ws' := [(a0, .inr (12, [.int i0, .ref a1, .ref a2, .ref a3, .ref a4, .int i1, .ref a5, .int i2, .int i3, .int i4, .int i5, .int i6, .int i7, .int i8, .ref a6, .ref a7, .ref a8, .ref a9, .ref a10, .ref a11, .ref a12, .int i9, .ref a13, .int i10, .ref a14, .ref a15, .int i11, .ref a16, .ref a17, .ref a18, .ref a19, .int i12, .int i13, .int i14, .int i15, .int i16, .ref a20, .long j0, .ref a21, .ref a22, .ref a23, .ref a24])), (a1, .inl (cI, 544, .inl f615)), (a8, .inl (cI, 600, .inl xF7)), (a10, .inl (cI, 10, .inl f565))]) [2, 3, 0, 1] rfl) (hD.sub (ws' := [(a0, .inr (12, [.int i0, .ref a1, .ref a2, .ref a3, .ref a4, .int i1, .ref a5, .int i2, .int i3, .int i4, .int i5, .int i6, .int i7, .int i8, .ref a6, .ref a7, .ref a8, .ref a9, .ref a10, .ref a11, .ref a12, .int i9, .ref a13, .int i10, .ref a14, .ref a15, .int i11, .ref a16, .ref a17, .ref a18, .ref a19, .int i12, .int i13, .int i14, .int i15, .int i16, .ref a20, .long j0, .ref a21, .ref a22, .ref a23, .ref a24])), (a1, .inl (cI, 544, .inl f615)), (a8, .inl (cI, 600, .inl xF7)), (a10, .inl (cI, 10, .inl f565))]) [2, 3, 0, 1] (by decide) rfl) hS (lv_sub hl [2, 3, 0] rfl)
  exact lp1 _ _ _ ls (0) xF0 xF9 (show (0 : Int) ≤ (0 : Int32).toInt ∧ (0 : Int32).toInt ≤ 10 from ⟨by omega, by omega⟩) (show WI cp xF0 from p_7) (Nat.lt_succ_self _) (hP.sub (ws' := [(a0, .inr (12, [.int i0, .ref a1, .ref a2, .ref a3, .ref a4, .int i1, .ref a5, .int i2, .int i3, .int i4, .int i5, .int i6, .int i7, .int i8, .ref a6, .ref a7, .ref a8, .ref a9, .ref a10, .ref a11, .ref a12, .int i9, .ref a13, .int i10, .ref a14, .ref a15, .int i11, .ref a16, .ref a17, .ref a18, .ref a19, .int i12, .int i13, .int i14, .int i15, .int i16, .ref a20, .long j0, .ref a21, .ref a22, .ref a23, .ref a24])), (a1, .inl (cI, 544, .inl xF0)), (a8, .inl (cI, 600, .inl xF7)), (a10, .inl (cI, 10, .inl xF9))]) [0, 1, 2, 3] rfl) (hD.sub (ws' := [(a0, .inr (12, [.int i0, .ref a1, .ref a2, .ref a3, .ref a4, .int i1, .ref a5, .int i2, .int i3, .int i4, .int i5, .int i6, .int i7, .int i8, .ref a6, .ref a7, .ref a8, .ref a9, .ref a10, .ref a11, .ref a12, .int i9, .ref a13, .int i10, .ref a14, .ref a15, .int i11, .ref a16, .ref a17, .ref a18, .ref a19, .int i12, .int i13, .int i14, .int i15, .int i16, .ref a20, .long j0, .ref a21, .ref a22, .ref a23, .ref a24])), (a1, .inl (cI, 544, .inl xF0)), (a8, .inl (cI, 600, .inl xF7)), (a10, .inl (cI, 10, .inl xF9))]) [0, 1, 2, 3] (by decide) rfl) hS (lv_sub hl [1, 2, 0] rfl)
theorem dX12_follower_0 : decode cX12_follower 0 = .ok (.aload_n 0, 1) := by decide +kernel
theorem dX12_follower_1 : decode cX12_follower 1 = .ok (.iload_n 1, 1) := by decide +kernel
theorem dX12_follower_2 : decode cX12_follower 2 = .ok (.invokevirtual 289, 3) := by decide +kernel
theorem dX12_follower_5 : decode cX12_follower 5 = .ok (.ifCond .eq 15, 3) := by decide +kernel
theorem dX12_follower_8 : decode cX12_follower 8 = .ok (.iload_n 2, 1) := by decide +kernel
theorem dX12_follower_9 : decode cX12_follower 9 = .ok (.i2l, 1) := by decide +kernel
theorem dX12_follower_10 : decode cX12_follower 10 = .ok (.lconst 0, 1) := by decide +kernel
theorem dX12_follower_11 : decode cX12_follower 11 = .ok (.ldc2_w 321, 3) := by decide +kernel
theorem dX12_follower_14 : decode cX12_follower 14 = .ok (.invokestatic 98, 3) := by decide +kernel
theorem dX12_follower_17 : decode cX12_follower 17 = .ok (.ifCond .ne 6, 3) := by decide +kernel
theorem dX12_follower_20 : decode cX12_follower 20 = .ok (.bipush (-2), 2) := by decide +kernel
theorem dX12_follower_22 : decode cX12_follower 22 = .ok (.ireturn, 1) := by decide +kernel
theorem dX12_follower_23 : decode cX12_follower 23 = .ok (.iload_n 2, 1) := by decide +kernel
theorem dX12_follower_24 : decode cX12_follower 24 = .ok (.ifCond .ne 9, 3) := by decide +kernel
theorem dX12_follower_27 : decode cX12_follower 27 = .ok (.aload_n 0, 1) := by decide +kernel
theorem dX12_follower_28 : decode cX12_follower 28 = .ok (.iload_n 1, 1) := by decide +kernel
theorem dX12_follower_29 : decode cX12_follower 29 = .ok (.invokevirtual 297, 3) := by decide +kernel
theorem dX12_follower_32 : decode cX12_follower 32 = .ok (.ireturn, 1) := by decide +kernel
theorem dX12_follower_33 : decode cX12_follower 33 = .ok (.iload_n 2, 1) := by decide +kernel
theorem dX12_follower_34 : decode cX12_follower 34 = .ok (.iconst 1, 1) := by decide +kernel
theorem dX12_follower_35 : decode cX12_follower 35 = .ok (.if_icmp .ne 39, 3) := by decide +kernel
theorem dX12_follower_38 : decode cX12_follower 38 = .ok (.aload_n 0, 1) := by decide +kernel
theorem dX12_follower_39 : decode cX12_follower 39 = .ok (.getfield 13, 3) := by decide +kernel
theorem dX12_follower_42 : decode cX12_follower 42 = .ok (.sipush 274, 3) := by decide +kernel
theorem dX12_follower_45 : decode cX12_follower 45 = .ok (.bipush 10, 2) := by decide +kernel
theorem dX12_follower_47 : decode cX12_follower 47 = .ok (.iconst 0, 1) := by decide +kernel
theorem dX12_follower_48 : decode cX12_follower 48 = .ok (.aload_n 0, 1) := by decide +kernel
theorem dX12_follower_49 : decode cX12_follower 49 = .ok (.getfield 13, 3) := by decide +kernel
theorem dX12_follower_52 : decode cX12_follower 52 = .ok (.bipush 18, 2) := by decide +kernel
theorem dX12_follower_54 : decode cX12_follower 54 = .ok (.iaload, 1) := by decide +kernel
theorem dX12_follower_55 : decode cX12_follower 55 = .ok (.aload_n 0, 1) := by decide +kernel
theorem dX12_follower_56 : decode cX12_follower 56 = .ok (.iload_n 1, 1) := by decide +kernel
theorem dX12_follower_57 : decode cX12_follower 57 = .ok (.iconst 5, 1) := by decide +kernel
theorem dX12_follower_58 : decode cX12_follower 58 = .ok (.invokevirtual 273, 3) := by decide +kernel
theorem dX12_follower_61 : decode cX12_follower 61 = .ok (.isub, 1) := by decide +kernel
theorem dX12_follower_62 : decode cX12_follower 62 = .ok (.invokestatic 257, 3) := by decide +kernel
theorem dX12_follower_65 : decode cX12_follower 65 = .ok (.bipush 21, 2) := by decide +kernel
theorem dX12_follower_67 : decode cX12_follower 67 = .ok (.irem, 1) := by decide +kernel
theorem dX12_follower_68 : decode cX12_follower 68 = .ok (.imul, 1) := by decide +kernel
theorem dX12_follower_69 : decode cX12_follower 69 = .ok (.iadd, 1) := by decide +kernel
theorem dX12_follower_70 : decode cX12_follower 70 = .ok (.iload_n 1, 1) := by decide +kernel
theorem dX12_follower_71 : decode cX12_follower 71 = .ok (.iadd, 1) := by decide +kernel
theorem dX12_follower_72 : decode cX12_follower 72 = .ok (.iaload, 1) := by decide +kernel
theorem dX12_follower_73 : decode cX12_follower 73 = .ok (.ireturn, 1) := by decide +kernel
theorem dX12_follower_74 : decode cX12_follower 74 = .ok (.aload_n 0, 1) := by decide +kernel
theorem dX12_follower_75 : decode cX12_follower 75 = .ok (.invokevirtual 292, 3) := by decide +kernel
theorem dX12_follower_78 : decode cX12_follower 78 = .ok (.iload_n 2, 1) := by decide +kernel
theorem dX12_follower_79 : decode cX12_follower 79 = .ok (.iconst 2, 1) := by decide +kernel
theorem dX12_follower_80 : decode cX12_follower 80 = .ok (.if_icmp .ne 27, 3) := by decide +kernel
theorem dX12_follower_83 : decode cX12_follower 83 = .ok (.aload_n 0, 1) := by decide +kernel
theorem dX12_follower_84 : decode cX12_follower 84 = .ok (.getfield 40, 3) := by decide +kernel
theorem dX12_follower_87 : decode cX12_follower 87 = .ok (.bipush 60, 2) := by decide +kernel
theorem dX12_follower_89 : decode cX12_follower 89 = .ok (.iload_n 1, 1) := by decide +kernel
theorem dX12_follower_90 : decode cX12_follower 90 = .ok (.imul, 1) := by decide +kernel
theorem dX12_follower_91 : decode cX12_follower 91 = .ok (.aload_n 0, 1) := by decide +kernel
theorem dX12_follower_92 : decode cX12_follower 92 = .ok (.aload_n 0, 1) := by decide +kernel
theorem dX12_follower_93 : decode cX12_follower 93 = .ok (.getfield 13, 3) := by decide +kernel
theorem dX12_follower_96 : decode cX12_follower 96 = .ok (.bipush 11, 2) := by decide +kernel
theorem dX12_follower_98 : decode cX12_follower 98 = .ok (.iaload, 1) := by decide +kernel
theorem dX12_follower_99 : decode cX12_follower 99 = .ok (.invokevirtual 260, 3) := by decide +kernel
theorem dX12_follower_102 : decode cX12_follower 102 = .ok (.iadd, 1) := by decide +kernel
theorem dX12_follower_103 : decode cX12_follower 103 = .ok (.iaload, 1) := by decide +kernel
theorem dX12_follower_104 : decode cX12_follower 104 = .ok (.goto 33, 3) := by decide +kernel
theorem dX12_follower_107 : decode cX12_follower 107 = .ok (.iload_n 2, 1) := by decide +kernel
theorem dX12_follower_108 : decode cX12_follower 108 = .ok (.iconst 3, 1) := by decide +kernel
theorem dX12_follower_109 : decode cX12_follower 109 = .ok (.if_icmp .ne 12, 3) := by decide +kernel
theorem dX12_follower_112 : decode cX12_follower 112 = .ok (.aload_n 0, 1) := by decide +kernel
theorem dX12_follower_113 : decode cX12_follower 113 = .ok (.iload_n 1, 1) := by decide +kernel
theorem dX12_follower_114 : decode cX12_follower 114 = .ok (.iconst 0, 1) := by decide +kernel
theorem dX12_follower_115 : decode cX12_follower 115 = .ok (.invokevirtual 273, 3) := by decide +kernel
theorem dX12_follower_118 : decode cX12_follower 118 = .ok (.goto 19, 3) := by decide +kernel
theorem dX12_follower_121 : decode cX12_follower 121 = .ok (.aload_n 0, 1) := by decide +kernel
theorem dX12_follower_122 : decode cX12_follower 122 = .ok (.getfield 13, 3) := by decide +kernel
theorem dX12_follower_125 : decode cX12_follower 125 = .ok (.bipush 17, 2) := by decide +kernel
theorem dX12_follower_127 : decode cX12_follower 127 = .ok (.iaload, 1) := by decide +kernel
theorem dX12_follower_128 : decode cX12_follower 128 = .ok (.iload_n 1, 1) := by decide +kernel
theorem dX12_follower_129 : decode cX12_follower 129 = .ok (.if_icmp .ne 7, 3) := by decide +kernel
theorem dX12_follower_132 : decode cX12_follower 132 = .ok (.iconst 1, 1) := by decide +kernel
theorem dX12_follower_133 : decode cX12_follower 133 = .ok (.goto 4, 3) := by decide +kernel
theorem dX12_follower_136 : decode cX12_follower 136 = .ok (.iconst 0, 1) := by decide +kernel
theorem dX12_follower_137 : decode cX12_follower 137 = .ok (.ireturn, 1) := by decide +kernel
set_option maxHeartbeats 4000000 in
set_option maxRecDepth 100000 in
theorem s_X12_follower (l : Launch) (dC : Nat → ClassId) (dI : Nat → Nat → Nat) (cI cZ cB cJ cM cG : ClassId) (a0 a1 a2 a3 a4 a5 a6 a7 a8 a9 a10 a11 a12 a13 a14 a15 a16 a17 a18 a19 a20 a21 a22 a23 a24 : Nat) (i0 i1 i2 i3 i4 i5 i6 i7 i8 i9 i10 i11 i12 i13 i14 i15 i16 : Int32) (j0 : Int64) (xF0 xF6 xF7 xF8 : Nat → Int32) (p0 p1 : Int32) (cp : Int) (sz : Nat) (p_0 : (0 : Int) ≤ i1.toInt ∧ i1.toInt ≤ 1600) (p_1 : (0 : Int) ≤ i2.toInt ∧ i2.toInt ≤ 1600) (p_2 : (0 : Int) ≤ i3.toInt ∧ i3.toInt ≤ 1600) (p_3 : (0 : Int) ≤ i4.toInt ∧ i4.toInt ≤ 1600) (p_4 : (0 : Int) ≤ i5.toInt ∧ i5.toInt ≤ 6) (p_5 : (0 : Int) ≤ i7.toInt ∧ i7.toInt ≤ 3) (p_6 : (0 : Int) ≤ i11.toInt ∧ i11.toInt ≤ 59) (p_7 : WI cp xF0) (p_8 : 0 ≤ cp ∧ cp ≤ 2000000000) : Met l yX12_follower (kw yX12_follower cX12_follower 3 (some .int)) ({ frames := 5, cells := 0, slots := 0, locals := 118 } : Room) (va_Pc [.ref a0, .int p0, .int p1] (kPre dC dI [(cI, .int), (cZ, .boolean), (cB, .byte), (cJ, .long), (cM, .object RX2), (cG, .array .int)] [(a0, .inr (12, [.int i0, .ref a1, .ref a2, .ref a3, .ref a4, .int i1, .ref a5, .int i2, .int i3, .int i4, .int i5, .int i6, .int i7, .int i8, .ref a6, .ref a7, .ref a8, .ref a9, .ref a10, .ref a11, .ref a12, .int i9, .ref a13, .int i10, .ref a14, .ref a15, .int i11, .ref a16, .ref a17, .ref a18, .ref a19, .int i12, .int i13, .int i14, .int i15, .int i16, .ref a20, .long j0, .ref a21, .ref a22, .ref a23, .ref a24])), (a1, .inl (cI, 544, .inl xF0)), (a7, .inl (cI, 360, .inl xF6)), (a8, .inl (cI, 600, .inl xF7)), (a9, .inl (cI, 60, .inl xF8))] sz)) (va_Qi (fun (r : Int32) (u9 : (Nat → Int32) × (Nat → Nat → Int32) × (Nat → Nat → Int64)) => True) (fun u9 t => va_P (dC, dI) vwCl [(a0, .inr (12, [.int i0, .ref a1, .ref a2, .ref a3, .ref a4, .int i1, .ref a5, .int i2, .int i3, .int i4, .int i5, .int i6, .int i7, .int i8, .ref a6, .ref a7, .ref a8, .ref a9, .ref a10, .ref a11, .ref a12, .int i9, .ref a13, .int i10, .ref a14, .ref a15, .int i11, .ref a16, .ref a17, .ref a18, .ref a19, .int i12, .int i13, .int i14, .int i15, .int i16, .ref a20, .long j0, .ref a21, .ref a22, .ref a23, .ref a24])), (a1, .inl (cI, 544, .inl xF0)), (a7, .inl (cI, 360, .inl (u9.2.1 0))), (a8, .inl (cI, 600, .inl (u9.2.1 1))), (a9, .inl (cI, 60, .inl (u9.2.1 2)))] t.heap ∧ va_D (va_A [(a0, .inr (12, [.int i0, .ref a1, .ref a2, .ref a3, .ref a4, .int i1, .ref a5, .int i2, .int i3, .int i4, .int i5, .int i6, .int i7, .int i8, .ref a6, .ref a7, .ref a8, .ref a9, .ref a10, .ref a11, .ref a12, .int i9, .ref a13, .int i10, .ref a14, .ref a15, .int i11, .ref a16, .ref a17, .ref a18, .ref a19, .int i12, .int i13, .int i14, .int i15, .int i16, .ref a20, .long j0, .ref a21, .ref a22, .ref a23, .ref a24])), (a1, .inl (cI, 544, .inl xF0)), (a7, .inl (cI, 360, .inl xF6)), (a8, .inl (cI, 600, .inl xF7)), (a9, .inl (cI, 60, .inl xF8))] sz) [(a0, .inr (12, [.int i0, .ref a1, .ref a2, .ref a3, .ref a4, .int i1, .ref a5, .int i2, .int i3, .int i4, .int i5, .int i6, .int i7, .int i8, .ref a6, .ref a7, .ref a8, .ref a9, .ref a10, .ref a11, .ref a12, .int i9, .ref a13, .int i10, .ref a14, .ref a15, .int i11, .ref a16, .ref a17, .ref a18, .ref a19, .int i12, .int i13, .int i14, .int i15, .int i16, .ref a20, .long j0, .ref a21, .ref a22, .ref a23, .ref a24])), (a1, .inl (cI, 544, .inl xF0)), (a7, .inl (cI, 360, .inl (u9.2.1 0))), (a8, .inl (cI, 600, .inl (u9.2.1 1))), (a9, .inl (cI, 60, .inl (u9.2.1 2)))]) (va_A [(a0, .inr (12, [.int i0, .ref a1, .ref a2, .ref a3, .ref a4, .int i1, .ref a5, .int i2, .int i3, .int i4, .int i5, .int i6, .int i7, .int i8, .ref a6, .ref a7, .ref a8, .ref a9, .ref a10, .ref a11, .ref a12, .int i9, .ref a13, .int i10, .ref a14, .ref a15, .int i11, .ref a16, .ref a17, .ref a18, .ref a19, .int i12, .int i13, .int i14, .int i15, .int i16, .ref a20, .long j0, .ref a21, .ref a22, .ref a23, .ref a24])), (a1, .inl (cI, 544, .inl xF0)), (a7, .inl (cI, 360, .inl xF6)), (a8, .inl (cI, 600, .inl xF7)), (a9, .inl (cI, 60, .inl xF8))] sz)) 0 0 (va_A [(a0, .inr (12, [.int i0, .ref a1, .ref a2, .ref a3, .ref a4, .int i1, .ref a5, .int i2, .int i3, .int i4, .int i5, .int i6, .int i7, .int i8, .ref a6, .ref a7, .ref a8, .ref a9, .ref a10, .ref a11, .ref a12, .int i9, .ref a13, .int i10, .ref a14, .ref a15, .int i11, .ref a16, .ref a17, .ref a18, .ref a19, .int i12, .int i13, .int i14, .int i15, .int i16, .ref a20, .long j0, .ref a21, .ref a22, .ref a23, .ref a24])), (a1, .inl (cI, 544, .inl xF0)), (a7, .inl (cI, 360, .inl xF6)), (a8, .inl (cI, 600, .inl xF7)), (a9, .inl (cI, 60, .inl xF8))] sz) := by
  refine kEnter (by decide) (Nat.le_of_ble_eq_true rfl) ?_
  intro p e s m below meth c ls hx hb hr hml hown hlocks hin hwd hsz hP hK hD hl
  subst hsz
  generalize hAe : va_A [(a0, .inr (12, [.int i0, .ref a1, .ref a2, .ref a3, .ref a4, .int i1, .ref a5, .int i2, .int i3, .int i4, .int i5, .int i6, .int i7, .int i8, .ref a6, .ref a7, .ref a8, .ref a9, .ref a10, .ref a11, .ref a12, .int i9, .ref a13, .int i10, .ref a14, .ref a15, .int i11, .ref a16, .ref a17, .ref a18, .ref a19, .int i12, .int i13, .int i14, .int i15, .int i16, .ref a20, .long j0, .ref a21, .ref a22, .ref a23, .ref a24])), (a1, .inl (cI, 544, .inl xF0)), (a7, .inl (cI, 360, .inl xF6)), (a8, .inl (cI, 600, .inl xF7)), (a9, .inl (cI, 60, .inl xF8))] s.heap.size = A at hD ⊢
  have hA : ∀ q : Nat, s.heap.size ≤ q → A q := fun q h => by rw [← hAe]; exact Or.inr h
  have hS : va_S A s.heap s.heap [] := va_S.rf
  have hl : lv_has ls 3 [(0, .ref a0), (1, .int p0), (2, .int p1)] := hl
  obtain ⟨Q, hQ⟩ : ∃ Q, Q = MQ below (va_Qi (fun (r : Int32) (u9 : (Nat → Int32) × (Nat → Nat → Int32) × (Nat → Nat → Int64)) => True) (fun u9 t => va_P (dC, dI) vwCl [(a0, .inr (12, [.int i0, .ref a1, .ref a2, .ref a3, .ref a4, .int i1, .ref a5, .int i2, .int i3, .int i4, .int i5, .int i6, .int i7, .int i8, .ref a6, .ref a7, .ref a8, .ref a9, .ref a10, .ref a11, .ref a12, .int i9, .ref a13, .int i10, .ref a14, .ref a15, .int i11, .ref a16, .ref a17, .ref a18, .ref a19, .int i12, .int i13, .int i14, .int i15, .int i16, .ref a20, .long j0, .ref a21, .ref a22, .ref a23, .ref a24])), (a1, .inl (cI, 544, .inl xF0)), (a7, .inl (cI, 360, .inl (u9.2.1 0))), (a8, .inl (cI, 600, .inl (u9.2.1 1))), (a9, .inl (cI, 60, .inl (u9.2.1 2)))] t.heap ∧ va_D A [(a0, .inr (12, [.int i0, .ref a1, .ref a2, .ref a3, .ref a4, .int i1, .ref a5, .int i2, .int i3, .int i4, .int i5, .int i6, .int i7, .int i8, .ref a6, .ref a7, .ref a8, .ref a9, .ref a10, .ref a11, .ref a12, .int i9, .ref a13, .int i10, .ref a14, .ref a15, .int i11, .ref a16, .ref a17, .ref a18, .ref a19, .int i12, .int i13, .int i14, .int i15, .int i16, .ref a20, .long j0, .ref a21, .ref a22, .ref a23, .ref a24])), (a1, .inl (cI, 544, .inl xF0)), (a7, .inl (cI, 360, .inl (u9.2.1 0))), (a8, .inl (cI, 600, .inl (u9.2.1 1))), (a9, .inl (cI, 60, .inl (u9.2.1 2)))]) A) ([.ref a0, .int p0, .int p1] : List Value).toArray s 0 0 A := ⟨_, rfl⟩
  rw [← hQ]
  have k0 : (0 : Int32).toInt = 0 := by decide
  have k1 : (1 : Int32).toInt = 1 := by decide
  have k2 : (2 : Int32).toInt = 2 := by decide
  have k3 : (3 : Int32).toInt = 3 := by decide
  have k4 : (4 : Int32).toInt = 4 := by decide
  have k5 : (5 : Int32).toInt = 5 := by decide
  have k9 : (9 : Int32).toInt = 9 := by decide
  have k10 : (10 : Int32).toInt = 10 := by decide
  have k11 : (11 : Int32).toInt = 11 := by decide
  have k17 : (17 : Int32).toInt = 17 := by decide
  have k18 : (18 : Int32).toInt = 18 := by decide
  have k21 : (21 : Int32).toInt = 21 := by decide
  have k60 : (60 : Int32).toInt = 60 := by decide
  have k274 : (274 : Int32).toInt = 274 := by decide
  refine lv_aload_n hx hb dX12_follower_0 rfl (lv_at hl 0 rfl) ?_
  refine lv_iload_n hx hb dX12_follower_1 rfl (lv_at hl 1 rfl) ?_
  have hPc := hP.sub (ws' := [(a0, .inr (12, [.int i0, .ref a1, .ref a2, .ref a3, .ref a4, .int i1, .ref a5, .int i2, .int i3, .int i4, .int i5, .int i6, .int i7, .int i8, .ref a6, .ref a7, .ref a8, .ref a9, .ref a10, .ref a11, .ref a12, .int i9, .ref a13, .int i10, .ref a14, .ref a15, .int i11, .ref a16, .ref a17, .ref a18, .ref a19, .int i12, .int i13, .int i14, .int i15, .int i16, .ref a20, .long j0, .ref a21, .ref a22, .ref a23, .ref a24])), (a1, .inl (cI, 544, .inl xF0))]) [0, 1] rfl
  have hDc := hD.sub (ws' := [(a0, .inr (12, [.int i0, .ref a1, .ref a2, .ref a3, .ref a4, .int i1, .ref a5, .int i2, .int i3, .int i4, .int i5, .int i6, .int i7, .int i8, .ref a6, .ref a7, .ref a8, .ref a9, .ref a10, .ref a11, .ref a12, .int i9, .ref a13, .int i10, .ref a14, .ref a15, .int i11, .ref a16, .ref a17, .ref a18, .ref a19, .int i12, .int i13, .int i14, .int i15, .int i16, .ref a20, .long j0, .ref a21, .ref a22, .ref a23, .ref a24])), (a1, .inl (cI, 544, .inl xF0))]) [0, 1] (by decide) rfl
  have hFc := va_free (wc := [(a0, .inr (12, [.int i0, .ref a1, .ref a2, .ref a3, .ref a4, .int i1, .ref a5, .int i2, .int i3, .int i4, .int i5, .int i6, .int i7, .int i8, .ref a6, .ref a7, .ref a8, .ref a9, .ref a10, .ref a11, .ref a12, .int i9, .ref a13, .int i10, .ref a14, .ref a15, .int i11, .ref a16, .ref a17, .ref a18, .ref a19, .int i12, .int i13, .int i14, .int i15, .int i16, .ref a20, .long j0, .ref a21, .ref a22, .ref a23, .ref a24])), (a1, .inl (cI, 544, .inl xF0))]) hD hS hA [0, 1] rfl
  refine va_calli (va_runV (As := [.int p0]) (rest := []) ⟨hx, hb, hml, hown, hwd⟩ (s_X12_isFollower l dC dI cI cZ cB cJ cM cG a0 a1 a2 a3 a4 a5 a6 a7 a8 a9 a10 a11 a12 a13 a14 a15 a16 a17 a18 a19 a20 a21 a22 a23 a24 i0 i1 i2 i3 i4 i5 i6 i7 i8 i9 i10 i11 i12 i13 i14 i15 i16 j0 xF0 p0 cp s.heap.size (show (0 : Int) ≤ i1.toInt ∧ i1.toInt ≤ 1600 from p_0) (show (0 : Int) ≤ i2.toInt ∧ i2.toInt ≤ 1600 from p_1) (show (0 : Int) ≤ i3.toInt ∧ i3.toInt ≤ 1600 from p_2) (show (0 : Int) ≤ i4.toInt ∧ i4.toInt ≤ 1600 from p_3) (show (0 : Int) ≤ i5.toInt ∧ i5.toInt ≤ 6 from p_4) (show (0 : Int) ≤ i7.toInt ∧ i7.toInt ≤ 3 from p_5) (show (0 : Int) ≤ i11.toInt ∧ i11.toInt ≤ 59 from p_6) (show WI cp xF0 from p_7) p_8) (cwV 1 hwd (gV kr56_16 kr56_17 kr3_22 kr5_23 kr56_18) rfl rfl rfl (by decide +kernel) ⟨Nat.le_of_ble_eq_true rfl, Nat.le_of_ble_eq_true rfl⟩) (kPreV hPc hK hDc (ci := 12) (q0 := 0) rfl rfl) rfl rfl hl.1 rfl (lv_room (Nat.le_of_ble_eq_true rfl)) dX12_follower_2 ⟨Nat.le_of_ble_eq_true rfl, Nat.le_of_ble_eq_true rfl⟩) hS (fun q _ h => hFc q h) hFc (fun r1 u2 t H1 locs ht9 hvm hw hB hz1 hk1 hS => ?_)
  obtain ⟨hw3, hw4, -⟩ := hw
  replace hw3 : (0 : Int) ≤ r1.toInt ∧ r1.toInt ≤ 1 := hw3
  obtain ⟨hP1, hD1⟩ := hB
  rw [ht9] at hP1
  obtain ⟨hP, hD⟩ := va_join (wr := [(a7, .inl (cI, 360, .inl xF6)), (a8, .inl (cI, 600, .inl xF7)), (a9, .inl (cI, 60, .inl xF8))]) (w1 := [(a0, .inr (12, [.int i0, .ref a1, .ref a2, .ref a3, .ref a4, .int i1, .ref a5, .int i2, .int i3, .int i4, .int i5, .int i6, .int i7, .int i8, .ref a6, .ref a7, .ref a8, .ref a9, .ref a10, .ref a11, .ref a12, .int i9, .ref a13, .int i10, .ref a14, .ref a15, .int i11, .ref a16, .ref a17, .ref a18, .ref a19, .int i12, .int i13, .int i14, .int i15, .int i16, .ref a20, .long j0, .ref a21, .ref a22, .ref a23, .ref a24])), (a1, .inl (cI, 544, .inl xF0))]) hP hD [0, 1] [2, 3, 4] rfl rfl (by decide) (by decide) hk1 hFc hP1 hD1
  generalize H1 = H at hP hS ⊢
  replace hP : va_P (dC, dI) vwCl [(a7, .inl (cI, 360, .inl xF6)), (a8, .inl (cI, 600, .inl xF7)), (a9, .inl (cI, 60, .inl xF8)), (a0, .inr (12, [.int i0, .ref a1, .ref a2, .ref a3, .ref a4, .int i1, .ref a5, .int i2, .int i3, .int i4, .int i5, .int i6, .int i7, .int i8, .ref a6, .ref a7, .ref a8, .ref a9, .ref a10, .ref a11, .ref a12, .int i9, .ref a13, .int i10, .ref a14, .ref a15, .int i11, .ref a16, .ref a17, .ref a18, .ref a19, .int i12, .int i13, .int i14, .int i15, .int i16, .ref a20, .long j0, .ref a21, .ref a22, .ref a23, .ref a24])), (a1, .inl (cI, 544, .inl xF0))] H := hP
  replace hD : va_D A [(a7, .inl (cI, 360, .inl xF6)), (a8, .inl (cI, 600, .inl xF7)), (a9, .inl (cI, 60, .inl xF8)), (a0, .inr (12, [.int i0, .ref a1, .ref a2, .ref a3, .ref a4, .int i1, .ref a5, .int i2, .int i3, .int i4, .int i5, .int i6, .int i7, .int i8, .ref a6, .ref a7, .ref a8, .ref a9, .ref a10, .ref a11, .ref a12, .int i9, .ref a13, .int i10, .ref a14, .ref a15, .int i11, .ref a16, .ref a17, .ref a18, .ref a19, .int i12, .int i13, .int i14, .int i15, .int i16, .ref a20, .long j0, .ref a21, .ref a22, .ref a23, .ref a24])), (a1, .inl (cI, 544, .inl xF0))] := hD
  refine lv_if_eq (tgt := 20) hx hb dX12_follower_5 (by decide) (fun c5 => ?_) (fun c5 => ?_)
  · rw [ki_eq] at c5
    refine lv_bipush (v := (-2)) hx hb dX12_follower_20 (by decide) ?_
    have hP9 := hP.sub (ws' := [(a0, .inr (12, [.int i0, .ref a1, .ref a2, .ref a3, .ref a4, .int i1, .ref a5, .int i2, .int i3, .int i4, .int i5, .int i6, .int i7, .int i8, .ref a6, .ref a7, .ref a8, .ref a9, .ref a10, .ref a11, .ref a12, .int i9, .ref a13, .int i10, .ref a14, .ref a15, .int i11, .ref a16, .ref a17, .ref a18, .ref a19, .int i12, .int i13, .int i14, .int i15, .int i16, .ref a20, .long j0, .ref a21, .ref a22, .ref a23, .ref a24])), (a1, .inl (cI, 544, .inl xF0)), (a7, .inl (cI, 360, .inl xF6)), (a8, .inl (cI, 600, .inl xF7)), (a9, .inl (cI, 60, .inl xF8))]) [3, 4, 0, 1, 2] rfl
    have hD9 := hD.sub (ws' := [(a0, .inr (12, [.int i0, .ref a1, .ref a2, .ref a3, .ref a4, .int i1, .ref a5, .int i2, .int i3, .int i4, .int i5, .int i6, .int i7, .int i8, .ref a6, .ref a7, .ref a8, .ref a9, .ref a10, .ref a11, .ref a12, .int i9, .ref a13, .int i10, .ref a14, .ref a15, .int i11, .ref a16, .ref a17, .ref a18, .ref a19, .int i12, .int i13, .int i14, .int i15, .int i16, .ref a20, .long j0, .ref a21, .ref a22, .ref a23, .ref a24])), (a1, .inl (cI, 544, .inl xF0)), (a7, .inl (cI, 360, .inl xF6)), (a8, .inl (cI, 600, .inl xF7)), (a9, .inl (cI, 60, .inl xF8))]) [3, 4, 0, 1, 2] (by decide) rfl
    rw [hQ]
    exact W.iret (v := (-2)) hx hb hr (fun t ht hW => ⟨⟨(-2), (pickG 0 [], pickG (fun _ => 0) [xF6, xF7, xF8], pickG (fun _ => 0) []), rfl, trivial, (by rw [ht]; exact hP9), hD9⟩, hS.F ht⟩) hS.2.2 dX12_follower_22
  · rw [ki_eq] at c5
    have hw4q := hw4 (by omega)
    clear hw4
    refine lv_iload_n hx hb dX12_follower_8 rfl (lv_at hl 2 rfl) ?_
    refine lv_i2l hx hb dX12_follower_9 rfl ?_
    refine lv_lconst (v := 0) hx hb dX12_follower_10 (by decide) ?_
    refine lv_ldc2 (v := 4) hx hb hown (hwd _ kr58_7) dX12_follower_11 ?_
    have hPc := hP.sub (ws' := []) [] rfl
    have hDc := hD.sub (ws' := []) [] (by decide) rfl
    have hFc := va_free (wc := []) hD hS hA [] rfl
    refine va_calli (va_runS (As := [.long p1.toInt64, .long 0, .long 4]) (rest := []) ⟨hx, hb, hml, hown, hwd⟩ (s_X12_in l dC dI cI cZ cB cJ cM cG p1.toInt64 0 4 H.size) (cwS 3 hwd (gS kr51_0 kr51_1 kr5_23 kr51_2) rfl rfl rfl (by decide +kernel) ⟨Nat.le_of_ble_eq_true rfl, Nat.le_of_ble_eq_true rfl⟩) (kPreS hPc hK hDc) rfl rfl hl.1 rfl (lv_room (Nat.le_of_ble_eq_true rfl)) dX12_follower_14 ⟨Nat.le_of_ble_eq_true rfl, Nat.le_of_ble_eq_true rfl⟩) hS (fun q _ h => hFc q h) hFc (fun r6 u7 t H1 locs ht9 hvm hw hB hz1 hk1 hS => ?_)
    obtain ⟨hw8, hw9, hw10, -⟩ := hw
    replace hw8 : (0 : Int) ≤ r6.toInt ∧ r6.toInt ≤ 1 := hw8
    have hw9 : r6.toInt ≠ 0 → (0 : Int) ≤ p1.toInt ∧ p1.toInt ≤ (4 : Int) := in_int (Int32.toInt_toInt64 _) (by decide) (by decide) hw9
    have hw10 : r6.toInt ≠ 1 → p1.toInt < (0 : Int) ∨ (4 : Int) < p1.toInt := in_int2 (Int32.toInt_toInt64 _) (by decide) (by decide) hw10
    obtain ⟨hP1, hD1⟩ := hB
    rw [ht9] at hP1
    obtain ⟨hP, hD⟩ := va_join (wr := [(a7, .inl (cI, 360, .inl xF6)), (a8, .inl (cI, 600, .inl xF7)), (a9, .inl (cI, 60, .inl xF8)), (a0, .inr (12, [.int i0, .ref a1, .ref a2, .ref a3, .ref a4, .int i1, .ref a5, .int i2, .int i3, .int i4, .int i5, .int i6, .int i7, .int i8, .ref a6, .ref a7, .ref a8, .ref a9, .ref a10, .ref a11, .ref a12, .int i9, .ref a13, .int i10, .ref a14, .ref a15, .int i11, .ref a16, .ref a17, .ref a18, .ref a19, .int i12, .int i13, .int i14, .int i15, .int i16, .ref a20, .long j0, .ref a21, .ref a22, .ref a23, .ref a24])), (a1, .inl (cI, 544, .inl xF0))]) (w1 := []) hP hD [] [0, 1, 2, 3, 4] rfl rfl (by decide) (by decide) hk1 hFc hP1 hD1
    generalize H1 = H at hP hS ⊢
    replace hP : va_P (dC, dI) vwCl [(a7, .inl (cI, 360, .inl xF6)), (a8, .inl (cI, 600, .inl xF7)), (a9, .inl (cI, 60, .inl xF8)), (a0, .inr (12, [.int i0, .ref a1, .ref a2, .ref a3, .ref a4, .int i1, .ref a5, .int i2, .int i3, .int i4, .int i5, .int i6, .int i7, .int i8, .ref a6, .ref a7, .ref a8, .ref a9, .ref a10, .ref a11, .ref a12, .int i9, .ref a13, .int i10, .ref a14, .ref a15, .int i11, .ref a16, .ref a17, .ref a18, .ref a19, .int i12, .int i13, .int i14, .int i15, .int i16, .ref a20, .long j0, .ref a21, .ref a22, .ref a23, .ref a24])), (a1, .inl (cI, 544, .inl xF0))] H := hP
    replace hD : va_D A [(a7, .inl (cI, 360, .inl xF6)), (a8, .inl (cI, 600, .inl xF7)), (a9, .inl (cI, 60, .inl xF8)), (a0, .inr (12, [.int i0, .ref a1, .ref a2, .ref a3, .ref a4, .int i1, .ref a5, .int i2, .int i3, .int i4, .int i5, .int i6, .int i7, .int i8, .ref a6, .ref a7, .ref a8, .ref a9, .ref a10, .ref a11, .ref a12, .int i9, .ref a13, .int i10, .ref a14, .ref a15, .int i11, .ref a16, .ref a17, .ref a18, .ref a19, .int i12, .int i13, .int i14, .int i15, .int i16, .ref a20, .long j0, .ref a21, .ref a22, .ref a23, .ref a24])), (a1, .inl (cI, 544, .inl xF0))] := hD
    refine lv_if_ne (tgt := 23) hx hb dX12_follower_17 (by decide) (fun c11 => ?_) (fun c11 => ?_)
    · rw [ki_eq] at c11
      have hw9q := hw9 (by omega)
      clear hw9
      refine lv_iload_n hx hb dX12_follower_23 rfl (lv_at hl 2 rfl) ?_
      refine lv_if_ne (tgt := 33) hx hb dX12_follower_24 (by decide) (fun c12 => ?_) (fun c12 => ?_)
      · rw [ki_eq] at c12
        refine lv_iload_n hx hb dX12_follower_33 rfl (lv_at hl 2 rfl) ?_
        refine lv_iconst (v := 1) hx hb dX12_follower_34 (by decide) ?_
        refine lv_icmp_ne (tgt := 74) hx hb dX12_follower_35 (by decide) (fun c13 => ?_) (fun c13 => ?_)
        · rw [ki_eq] at c13
          refine lv_aload_n hx hb dX12_follower_74 rfl (lv_at hl 0 rfl) ?_
          have hPc := hP.sub (ws' := [(a0, .inr (12, [.int i0, .ref a1, .ref a2, .ref a3, .ref a4, .int i1, .ref a5, .int i2, .int i3, .int i4, .int i5, .int i6, .int i7, .int i8, .ref a6, .ref a7, .ref a8, .ref a9, .ref a10, .ref a11, .ref a12, .int i9, .ref a13, .int i10, .ref a14, .ref a15, .int i11, .ref a16, .ref a17, .ref a18, .ref a19, .int i12, .int i13, .int i14, .int i15, .int i16, .ref a20, .long j0, .ref a21, .ref a22, .ref a23, .ref a24])), (a1, .inl (cI, 544, .inl xF0)), (a7, .inl (cI, 360, .inl xF6)), (a8, .inl (cI, 600, .inl xF7)), (a9, .inl (cI, 60, .inl xF8))]) [3, 4, 0, 1, 2] rfl
          have hDc := hD.sub (ws' := [(a0, .inr (12, [.int i0, .ref a1, .ref a2, .ref a3, .ref a4, .int i1, .ref a5, .int i2, .int i3, .int i4, .int i5, .int i6, .int i7, .int i8, .ref a6, .ref a7, .ref a8, .ref a9, .ref a10, .ref a11, .ref a12, .int i9, .ref a13, .int i10, .ref a14, .ref a15, .int i11, .ref a16, .ref a17, .ref a18, .ref a19, .int i12, .int i13, .int i14, .int i15, .int i16, .ref a20, .long j0, .ref a21, .ref a22, .ref a23, .ref a24])), (a1, .inl (cI, 544, .inl xF0)), (a7, .inl (cI, 360, .inl xF6)), (a8, .inl (cI, 600, .inl xF7)), (a9, .inl (cI, 60, .inl xF8))]) [3, 4, 0, 1, 2] (by decide) rfl
          have hFc := va_free (wc := [(a0, .inr (12, [.int i0, .ref a1, .ref a2, .ref a3, .ref a4, .int i1, .ref a5, .int i2, .int i3, .int i4, .int i5, .int i6, .int i7, .int i8, .ref a6, .ref a7, .ref a8, .ref a9, .ref a10, .ref a11, .ref a12, .int i9, .ref a13, .int i10, .ref a14, .ref a15, .int i11, .ref a16, .ref a17, .ref a18, .ref a19, .int i12, .int i13, .int i14, .int i15, .int i16, .ref a20, .long j0, .ref a21, .ref a22, .ref a23, .ref a24])), (a1, .inl (cI, 544, .inl xF0)), (a7, .inl (cI, 360, .inl xF6)), (a8, .inl (cI, 600, .inl xF7)), (a9, .inl (cI, 60, .inl xF8))]) hD hS hA [3, 4, 0, 1, 2] rfl
          refine va_callv (va_runV (As := []) (rest := []) ⟨hx, hb, hml, hown, hwd⟩ (s_X12_fillLifts l dC dI cI cZ cB cJ cM cG a0 a1 a2 a3 a4 a5 a6 a7 a8 a9 a10 a11 a12 a13 a14 a15 a16 a17 a18 a19 a20 a21 a22 a23 a24 i0 i1 i2 i3 i4 i5 i6 i7 i8 i9 i10 i11 i12 i13 i14 i15 i16 j0 xF0 xF6 xF7 xF8 cp H.size (show (0 : Int) ≤ i1.toInt ∧ i1.toInt ≤ 1600 from p_0) (show (0 : Int) ≤ i2.toInt ∧ i2.toInt ≤ 1600 from p_1) (show (0 : Int) ≤ i3.toInt ∧ i3.toInt ≤ 1600 from p_2) (show (0 : Int) ≤ i4.toInt ∧ i4.toInt ≤ 1600 from p_3) (show (0 : Int) ≤ i5.toInt ∧ i5.toInt ≤ 6 from p_4) (show (0 : Int) ≤ i7.toInt ∧ i7.toInt ≤ 3 from p_5) (show (0 : Int) ≤ i11.toInt ∧ i11.toInt ≤ 59 from p_6) (show WI cp xF0 from p_7) p_8) (cwV 0 hwd (gV kr54_16 kr54_17 kr3_9 kr5_23 kr54_18) rfl rfl rfl (by decide +kernel) ⟨Nat.le_of_ble_eq_true rfl, Nat.le_of_ble_eq_true rfl⟩) (kPreV hPc hK hDc (ci := 12) (q0 := 0) rfl rfl) rfl rfl hl.1 rfl (lv_room (Nat.le_of_ble_eq_true rfl)) dX12_follower_75 ⟨Nat.le_of_ble_eq_true rfl, Nat.le_of_ble_eq_true rfl⟩) hS (fun q _ h => hFc q h) hFc (fun u15 t H1 locs ht9 hvm hw hB hz1 hk1 hS => ?_)
          obtain ⟨u16, U16, V16⟩ := u15
          obtain ⟨hP1, hD1⟩ := hB
          rw [ht9] at hP1
          obtain ⟨hP, hD⟩ := va_join (wr := []) (w1 := [(a0, .inr (12, [.int i0, .ref a1, .ref a2, .ref a3, .ref a4, .int i1, .ref a5, .int i2, .int i3, .int i4, .int i5, .int i6, .int i7, .int i8, .ref a6, .ref a7, .ref a8, .ref a9, .ref a10, .ref a11, .ref a12, .int i9, .ref a13, .int i10, .ref a14, .ref a15, .int i11, .ref a16, .ref a17, .ref a18, .ref a19, .int i12, .int i13, .int i14, .int i15, .int i16, .ref a20, .long j0, .ref a21, .ref a22, .ref a23, .ref a24])), (a1, .inl (cI, 544, .inl xF0)), (a7, .inl (cI, 360, .inl (U16 0))), (a8, .inl (cI, 600, .inl (U16 1))), (a9, .inl (cI, 60, .inl (U16 2)))]) hP hD [3, 4, 0, 1, 2] [] rfl rfl (by decide) (by decide) hk1 hFc hP1 hD1
          generalize H1 = H at hP hS ⊢
          replace hP : va_P (dC, dI) vwCl [(a0, .inr (12, [.int i0, .ref a1, .ref a2, .ref a3, .ref a4, .int i1, .ref a5, .int i2, .int i3, .int i4, .int i5, .int i6, .int i7, .int i8, .ref a6, .ref a7, .ref a8, .ref a9, .ref a10, .ref a11, .ref a12, .int i9, .ref a13, .int i10, .ref a14, .ref a15, .int i11, .ref a16, .ref a17, .ref a18, .ref a19, .int i12, .int i13, .int i14, .int i15, .int i16, .ref a20, .long j0, .ref a21, .ref a22, .ref a23, .ref a24])), (a1, .inl (cI, 544, .inl xF0)), (a7, .inl (cI, 360, .inl (U16 0))), (a8, .inl (cI, 600, .inl (U16 1))), (a9, .inl (cI, 60, .inl (U16 2)))] H := hP
          replace hD : va_D A [(a0, .inr (12, [.int i0, .ref a1, .ref a2, .ref a3, .ref a4, .int i1, .ref a5, .int i2, .int i3, .int i4, .int i5, .int i6, .int i7, .int i8, .ref a6, .ref a7, .ref a8, .ref a9, .ref a10, .ref a11, .ref a12, .int i9, .ref a13, .int i10, .ref a14, .ref a15, .int i11, .ref a16, .ref a17, .ref a18, .ref a19, .int i12, .int i13, .int i14, .int i15, .int i16, .ref a20, .long j0, .ref a21, .ref a22, .ref a23, .ref a24])), (a1, .inl (cI, 544, .inl xF0)), (a7, .inl (cI, 360, .inl (U16 0))), (a8, .inl (cI, 600, .inl (U16 1))), (a9, .inl (cI, 60, .inl (U16 2)))] := hD
          refine lv_iload_n hx hb dX12_follower_78 rfl (lv_at hl 2 rfl) ?_
          refine lv_iconst (v := 2) hx hb dX12_follower_79 (by decide) ?_
          refine lv_icmp_ne (tgt := 107) hx hb dX12_follower_80 (by decide) (fun c17 => ?_) (fun c17 => ?_)
          · rw [ki_eq] at c17
            refine lv_iload_n hx hb dX12_follower_107 rfl (lv_at hl 2 rfl) ?_
            refine lv_iconst (v := 3) hx hb dX12_follower_108 (by decide) ?_
            refine lv_icmp_ne (tgt := 121) hx hb dX12_follower_109 (by decide) (fun c18 => ?_) (fun c18 => ?_)
            · rw [ki_eq] at c18
              refine lv_aload_n hx hb dX12_follower_121 rfl (lv_at hl 0 rfl) ?_
              refine va_get (D := (dC, dI)) (ci := 12) (v := .ref a1) (C := RX12) (T := TX12) (N := 42) hx hb hwd inlX12 hown hK hP 0 rfl rfl 1 (by decide) (hwd _ kr49_2) (fun _ h9 => h9) rfl dX12_follower_122 ?_
              refine lv_bipush (v := 17) hx hb dX12_follower_125 (by decide) ?_
              have h19 : vp_in (17 : Int32) 544 := (vin (by decide))
              refine va_iald hx hb hK hP 1 0 rfl rfl h19 dX12_follower_127 ?_
              refine lv_topi (fun x20 ex20 => ?_)
              have ix20 := wat_lit (k := 17) ex20 (by decide)
              have wh21 : whd cp xF0 := p_7.1
              unfold whd at wh21
              refine lv_iload_n hx hb dX12_follower_128 rfl (lv_at hl 1 rfl) ?_
              refine lv_icmp_ne (tgt := 136) hx hb dX12_follower_129 (by decide) (fun c22 => ?_) (fun c22 => ?_)
              · rw [ki_eq] at c22
                refine lv_iconst (v := 0) hx hb dX12_follower_136 (by decide) ?_
                have hP9 := hP.sub (ws' := [(a0, .inr (12, [.int i0, .ref a1, .ref a2, .ref a3, .ref a4, .int i1, .ref a5, .int i2, .int i3, .int i4, .int i5, .int i6, .int i7, .int i8, .ref a6, .ref a7, .ref a8, .ref a9, .ref a10, .ref a11, .ref a12, .int i9, .ref a13, .int i10, .ref a14, .ref a15, .int i11, .ref a16, .ref a17, .ref a18, .ref a19, .int i12, .int i13, .int i14, .int i15, .int i16, .ref a20, .long j0, .ref a21, .ref a22, .ref a23, .ref a24])), (a1, .inl (cI, 544, .inl xF0)), (a7, .inl (cI, 360, .inl (U16 0))), (a8, .inl (cI, 600, .inl (U16 1))), (a9, .inl (cI, 60, .inl (U16 2)))]) [0, 1, 2, 3, 4] rfl
                have hD9 := hD.sub (ws' := [(a0, .inr (12, [.int i0, .ref a1, .ref a2, .ref a3, .ref a4, .int i1, .ref a5, .int i2, .int i3, .int i4, .int i5, .int i6, .int i7, .int i8, .ref a6, .ref a7, .ref a8, .ref a9, .ref a10, .ref a11, .ref a12, .int i9, .ref a13, .int i10, .ref a14, .ref a15, .int i11, .ref a16, .ref a17, .ref a18, .ref a19, .int i12, .int i13, .int i14, .int i15, .int i16, .ref a20, .long j0, .ref a21, .ref a22, .ref a23, .ref a24])), (a1, .inl (cI, 544, .inl xF0)), (a7, .inl (cI, 360, .inl (U16 0))), (a8, .inl (cI, 600, .inl (U16 1))), (a9, .inl (cI, 60, .inl (U16 2)))]) [0, 1, 2, 3, 4] (by decide) rfl
                rw [hQ]
                exact W.iret (v := 0) hx hb hr (fun t ht hW => ⟨⟨0, (pickG 0 [], pickG (fun _ => 0) [(U16 0), (U16 1), (U16 2)], pickG (fun _ => 0) []), rfl, trivial, (by rw [ht]; exact hP9), hD9⟩, hS.F ht⟩) hS.2.2 dX12_follower_137
              · rw [ki_eq] at c22
                refine lv_iconst (v := 1) hx hb dX12_follower_132 (by decide) ?_
                refine lv_goto (tgt := 137) hx hb dX12_follower_133 (by decide) ?_
                have hP9 := hP.sub (ws' := [(a0, .inr (12, [.int i0, .ref a1, .ref a2, .ref a3, .ref a4, .int i1, .ref a5, .int i2, .int i3, .int i4, .int i5, .int i6, .int i7, .int i8, .ref a6, .ref a7, .ref a8, .ref a9, .ref a10, .ref a11, .ref a12, .int i9, .ref a13, .int i10, .ref a14, .ref a15, .int i11, .ref a16, .ref a17, .ref a18, .ref a19, .int i12, .int i13, .int i14, .int i15, .int i16, .ref a20, .long j0, .ref a21, .ref a22, .ref a23, .ref a24])), (a1, .inl (cI, 544, .inl xF0)), (a7, .inl (cI, 360, .inl (U16 0))), (a8, .inl (cI, 600, .inl (U16 1))), (a9, .inl (cI, 60, .inl (U16 2)))]) [0, 1, 2, 3, 4] rfl
                have hD9 := hD.sub (ws' := [(a0, .inr (12, [.int i0, .ref a1, .ref a2, .ref a3, .ref a4, .int i1, .ref a5, .int i2, .int i3, .int i4, .int i5, .int i6, .int i7, .int i8, .ref a6, .ref a7, .ref a8, .ref a9, .ref a10, .ref a11, .ref a12, .int i9, .ref a13, .int i10, .ref a14, .ref a15, .int i11, .ref a16, .ref a17, .ref a18, .ref a19, .int i12, .int i13, .int i14, .int i15, .int i16, .ref a20, .long j0, .ref a21, .ref a22, .ref a23, .ref a24])), (a1, .inl (cI, 544, .inl xF0)), (a7, .inl (cI, 360, .inl (U16 0))), (a8, .inl (cI, 600, .inl (U16 1))), (a9, .inl (cI, 60, .inl (U16 2)))]) [0, 1, 2, 3, 4] (by decide) rfl
                rw [hQ]
                exact W.iret (v := 1) hx hb hr (fun t ht hW => ⟨⟨1, (pickG 0 [], pickG (fun _ => 0) [(U16 0), (U16 1), (U16 2)], pickG (fun _ => 0) []), rfl, trivial, (by rw [ht]; exact hP9), hD9⟩, hS.F ht⟩) hS.2.2 dX12_follower_137
            · rw [ki_eq] at c18
              refine lv_aload_n hx hb dX12_follower_112 rfl (lv_at hl 0 rfl) ?_
              refine lv_iload_n hx hb dX12_follower_113 rfl (lv_at hl 1 rfl) ?_
              refine lv_iconst (v := 0) hx hb dX12_follower_114 (by decide) ?_
              have hPc := hP.sub (ws' := [(a0, .inr (12, [.int i0, .ref a1, .ref a2, .ref a3, .ref a4, .int i1, .ref a5, .int i2, .int i3, .int i4, .int i5, .int i6, .int i7, .int i8, .ref a6, .ref a7, .ref a8, .ref a9, .ref a10, .ref a11, .ref a12, .int i9, .ref a13, .int i10, .ref a14, .ref a15, .int i11, .ref a16, .ref a17, .ref a18, .ref a19, .int i12, .int i13, .int i14, .int i15, .int i16, .ref a20, .long j0, .ref a21, .ref a22, .ref a23, .ref a24])), (a1, .inl (cI, 544, .inl xF0))]) [0, 1] rfl
              have hDc := hD.sub (ws' := [(a0, .inr (12, [.int i0, .ref a1, .ref a2, .ref a3, .ref a4, .int i1, .ref a5, .int i2, .int i3, .int i4, .int i5, .int i6, .int i7, .int i8, .ref a6, .ref a7, .ref a8, .ref a9, .ref a10, .ref a11, .ref a12, .int i9, .ref a13, .int i10, .ref a14, .ref a15, .int i11, .ref a16, .ref a17, .ref a18, .ref a19, .int i12, .int i13, .int i14, .int i15, .int i16, .ref a20, .long j0, .ref a21, .ref a22, .ref a23, .ref a24])), (a1, .inl (cI, 544, .inl xF0))]) [0, 1] (by decide) rfl
              have hFc := va_free (wc := [(a0, .inr (12, [.int i0, .ref a1, .ref a2, .ref a3, .ref a4, .int i1, .ref a5, .int i2, .int i3, .int i4, .int i5, .int i6, .int i7, .int i8, .ref a6, .ref a7, .ref a8, .ref a9, .ref a10, .ref a11, .ref a12, .int i9, .ref a13, .int i10, .ref a14, .ref a15, .int i11, .ref a16, .ref a17, .ref a18, .ref a19, .int i12, .int i13, .int i14, .int i15, .int i16, .ref a20, .long j0, .ref a21, .ref a22, .ref a23, .ref a24])), (a1, .inl (cI, 544, .inl xF0))]) hD hS hA [0, 1] rfl
              refine va_calli (va_runV (As := [.int p0, .int 0]) (rest := []) ⟨hx, hb, hml, hown, hwd⟩ (s_X12_of l dC dI cI cZ cB cJ cM cG a0 a1 a2 a3 a4 a5 a6 a7 a8 a9 a10 a11 a12 a13 a14 a15 a16 a17 a18 a19 a20 a21 a22 a23 a24 i0 i1 i2 i3 i4 i5 i6 i7 i8 i9 i10 i11 i12 i13 i14 i15 i16 j0 xF0 p0 0 cp H.size (show (0 : Int) ≤ i1.toInt ∧ i1.toInt ≤ 1600 from p_0) (show (0 : Int) ≤ i2.toInt ∧ i2.toInt ≤ 1600 from p_1) (show (0 : Int) ≤ i3.toInt ∧ i3.toInt ≤ 1600 from p_2) (show (0 : Int) ≤ i4.toInt ∧ i4.toInt ≤ 1600 from p_3) (show (0 : Int) ≤ i5.toInt ∧ i5.toInt ≤ 6 from p_4) (show (0 : Int) ≤ i7.toInt ∧ i7.toInt ≤ 3 from p_5) (show (0 : Int) ≤ i11.toInt ∧ i11.toInt ≤ 59 from p_6) (show WI cp xF0 from p_7) (show (0 : Int) ≤ p0.toInt ∧ p0.toInt ≤ 9 from ⟨by omega, by omega⟩) (show (0 : Int) ≤ (0 : Int32).toInt ∧ (0 : Int32).toInt ≤ 5 from ⟨by omega, by omega⟩) p_8) (cwV 2 hwd (gV kr55_11 kr55_12 kr3_15 kr5_23 kr55_13) rfl rfl rfl (by decide +kernel) ⟨Nat.le_of_ble_eq_true rfl, Nat.le_of_ble_eq_true rfl⟩) (kPreV hPc hK hDc (ci := 12) (q0 := 0) rfl rfl) rfl rfl hl.1 rfl (lv_room (Nat.le_of_ble_eq_true rfl)) dX12_follower_115 ⟨Nat.le_of_ble_eq_true rfl, Nat.le_of_ble_eq_true rfl⟩) hS (fun q _ h => hFc q h) hFc (fun r23 u24 t H1 locs ht9 hvm hw hB hz1 hk1 hS => ?_)
              obtain ⟨hw25, -⟩ := hw
              replace hw25 : r23.toInt = wfo xF0 0 p0.toInt := hw25
              have wf26 := p_7.2.2.1 p0.toInt (by omega) (by omega)
              unfold wfl at wf26
              obtain ⟨hP1, hD1⟩ := hB
              rw [ht9] at hP1
              obtain ⟨hP, hD⟩ := va_join (wr := [(a7, .inl (cI, 360, .inl (U16 0))), (a8, .inl (cI, 600, .inl (U16 1))), (a9, .inl (cI, 60, .inl (U16 2)))]) (w1 := [(a0, .inr (12, [.int i0, .ref a1, .ref a2, .ref a3, .ref a4, .int i1, .ref a5, .int i2, .int i3, .int i4, .int i5, .int i6, .int i7, .int i8, .ref a6, .ref a7, .ref a8, .ref a9, .ref a10, .ref a11, .ref a12, .int i9, .ref a13, .int i10, .ref a14, .ref a15, .int i11, .ref a16, .ref a17, .ref a18, .ref a19, .int i12, .int i13, .int i14, .int i15, .int i16, .ref a20, .long j0, .ref a21, .ref a22, .ref a23, .ref a24])), (a1, .inl (cI, 544, .inl xF0))]) hP hD [0, 1] [2, 3, 4] rfl rfl (by decide) (by decide) hk1 hFc hP1 hD1
              generalize H1 = H at hP hS ⊢
              replace hP : va_P (dC, dI) vwCl [(a7, .inl (cI, 360, .inl (U16 0))), (a8, .inl (cI, 600, .inl (U16 1))), (a9, .inl (cI, 60, .inl (U16 2))), (a0, .inr (12, [.int i0, .ref a1, .ref a2, .ref a3, .ref a4, .int i1, .ref a5, .int i2, .int i3, .int i4, .int i5, .int i6, .int i7, .int i8, .ref a6, .ref a7, .ref a8, .ref a9, .ref a10, .ref a11, .ref a12, .int i9, .ref a13, .int i10, .ref a14, .ref a15, .int i11, .ref a16, .ref a17, .ref a18, .ref a19, .int i12, .int i13, .int i14, .int i15, .int i16, .ref a20, .long j0, .ref a21, .ref a22, .ref a23, .ref a24])), (a1, .inl (cI, 544, .inl xF0))] H := hP
              replace hD : va_D A [(a7, .inl (cI, 360, .inl (U16 0))), (a8, .inl (cI, 600, .inl (U16 1))), (a9, .inl (cI, 60, .inl (U16 2))), (a0, .inr (12, [.int i0, .ref a1, .ref a2, .ref a3, .ref a4, .int i1, .ref a5, .int i2, .int i3, .int i4, .int i5, .int i6, .int i7, .int i8, .ref a6, .ref a7, .ref a8, .ref a9, .ref a10, .ref a11, .ref a12, .int i9, .ref a13, .int i10, .ref a14, .ref a15, .int i11, .ref a16, .ref a17, .ref a18, .ref a19, .int i12, .int i13, .int i14, .int i15, .int i16, .ref a20, .long j0, .ref a21, .ref a22, .ref a23, .ref a24])), (a1, .inl (cI, 544, .inl xF0))] := hD
              refine lv_goto (tgt := 137) hx hb dX12_follower_118 (by decide) ?_
              have hP9 := hP.sub (ws' := [(a0, .inr (12, [.int i0, .ref a1, .ref a2, .ref a3, .ref a4, .int i1, .ref a5, .int i2, .int i3, .int i4, .int i5, .int i6, .int i7, .int i8, .ref a6, .ref a7, .ref a8, .ref a9, .ref a10, .ref a11, .ref a12, .int i9, .ref a13, .int i10, .ref a14, .ref a15, .int i11, .ref a16, .ref a17, .ref a18, .ref a19, .int i12, .int i13, .int i14, .int i15, .int i16, .ref a20, .long j0, .ref a21, .ref a22, .ref a23, .ref a24])), (a1, .inl (cI, 544, .inl xF0)), (a7, .inl (cI, 360, .inl (U16 0))), (a8, .inl (cI, 600, .inl (U16 1))), (a9, .inl (cI, 60, .inl (U16 2)))]) [3, 4, 0, 1, 2] rfl
              have hD9 := hD.sub (ws' := [(a0, .inr (12, [.int i0, .ref a1, .ref a2, .ref a3, .ref a4, .int i1, .ref a5, .int i2, .int i3, .int i4, .int i5, .int i6, .int i7, .int i8, .ref a6, .ref a7, .ref a8, .ref a9, .ref a10, .ref a11, .ref a12, .int i9, .ref a13, .int i10, .ref a14, .ref a15, .int i11, .ref a16, .ref a17, .ref a18, .ref a19, .int i12, .int i13, .int i14, .int i15, .int i16, .ref a20, .long j0, .ref a21, .ref a22, .ref a23, .ref a24])), (a1, .inl (cI, 544, .inl xF0)), (a7, .inl (cI, 360, .inl (U16 0))), (a8, .inl (cI, 600, .inl (U16 1))), (a9, .inl (cI, 60, .inl (U16 2)))]) [3, 4, 0, 1, 2] (by decide) rfl
              rw [hQ]
              exact W.iret (v := r23) hx hb hr (fun t ht hW => ⟨⟨r23, (pickG 0 [], pickG (fun _ => 0) [(U16 0), (U16 1), (U16 2)], pickG (fun _ => 0) []), rfl, trivial, (by rw [ht]; exact hP9), hD9⟩, hS.F ht⟩) hS.2.2 dX12_follower_137
          · rw [ki_eq] at c17
            refine lv_aload_n hx hb dX12_follower_83 rfl (lv_at hl 0 rfl) ?_
            refine va_get (D := (dC, dI)) (ci := 12) (v := .ref a8) (C := RX12) (T := TX12) (N := 42) hx hb hwd inlX12 hown hK hP 0 rfl rfl 16 (by decide) (hwd _ kr49_17) (fun _ h9 => h9) rfl dX12_follower_84 ?_
            refine lv_bipush (v := 60) hx hb dX12_follower_87 (by decide) ?_
            refine lv_iload_n hx hb dX12_follower_89 rfl (lv_at hl 1 rfl) ?_
            refine lv_imul hx hb dX12_follower_90 ?_
            refine lv_topi (fun x27 ex27 => ?_)
            have tx27 := ia_mull (a := (60 : Int32)) (b := p0) 60 (by decide) (by omega) (by omega)
            rw [← ex27] at tx27
            refine lv_aload_n hx hb dX12_follower_91 rfl (lv_at hl 0 rfl) ?_
            refine lv_aload_n hx hb dX12_follower_92 rfl (lv_at hl 0 rfl) ?_
            refine va_get (D := (dC, dI)) (ci := 12) (v := .ref a1) (C := RX12) (T := TX12) (N := 42) hx hb hwd inlX12 hown hK hP 0 rfl rfl 1 (by decide) (hwd _ kr49_2) (fun _ h9 => h9) rfl dX12_follower_93 ?_
            refine lv_bipush (v := 11) hx hb dX12_follower_96 (by decide) ?_
            have h28 : vp_in (11 : Int32) 544 := (vin (by decide))
            refine va_iald hx hb hK hP 1 0 rfl rfl h28 dX12_follower_98 ?_
            refine lv_topi (fun x29 ex29 => ?_)
            have ix29 := wat_lit (k := 11) ex29 (by decide)
            have wh30 : whd cp xF0 := p_7.1
            unfold whd at wh30
            have hPc := hP.sub (ws' := [(a0, .inr (12, [.int i0, .ref a1, .ref a2, .ref a3, .ref a4, .int i1, .ref a5, .int i2, .int i3, .int i4, .int i5, .int i6, .int i7, .int i8, .ref a6, .ref a7, .ref a8, .ref a9, .ref a10, .ref a11, .ref a12, .int i9, .ref a13, .int i10, .ref a14, .ref a15, .int i11, .ref a16, .ref a17, .ref a18, .ref a19, .int i12, .int i13, .int i14, .int i15, .int i16, .ref a20, .long j0, .ref a21, .ref a22, .ref a23, .ref a24])), (a1, .inl (cI, 544, .inl xF0))]) [0, 1] rfl
            have hDc := hD.sub (ws' := [(a0, .inr (12, [.int i0, .ref a1, .ref a2, .ref a3, .ref a4, .int i1, .ref a5, .int i2, .int i3, .int i4, .int i5, .int i6, .int i7, .int i8, .ref a6, .ref a7, .ref a8, .ref a9, .ref a10, .ref a11, .ref a12, .int i9, .ref a13, .int i10, .ref a14, .ref a15, .int i11, .ref a16, .ref a17, .ref a18, .ref a19, .int i12, .int i13, .int i14, .int i15, .int i16, .ref a20, .long j0, .ref a21, .ref a22, .ref a23, .ref a24])), (a1, .inl (cI, 544, .inl xF0))]) [0, 1] (by decide) rfl
            have hFc := va_free (wc := [(a0, .inr (12, [.int i0, .ref a1, .ref a2, .ref a3, .ref a4, .int i1, .ref a5, .int i2, .int i3, .int i4, .int i5, .int i6, .int i7, .int i8, .ref a6, .ref a7, .ref a8, .ref a9, .ref a10, .ref a11, .ref a12, .int i9, .ref a13, .int i10, .ref a14, .ref a15, .int i11, .ref a16, .ref a17, .ref a18, .ref a19, .int i12, .int i13, .int i14, .int i15, .int i16, .ref a20, .long j0, .ref a21, .ref a22, .ref a23, .ref a24])), (a1, .inl (cI, 544, .inl xF0))]) hD hS hA [0, 1] rfl
            refine va_calli (va_runV (As := [.int x29]) (rest := [.int x27, .ref a8]) ⟨hx, hb, hml, hown, hwd⟩ (s_X12_round l dC dI cI cZ cB cJ cM cG a0 a1 a2 a3 a4 a5 a6 a7 a8 a9 a10 a11 a12 a13 a14 a15 a16 a17 a18 a19 a20 a21 a22 a23 a24 i0 i1 i2 i3 i4 i5 i6 i7 i8 i9 i10 i11 i12 i13 i14 i15 i16 j0 xF0 x29 cp H.size (show (0 : Int) ≤ i1.toInt ∧ i1.toInt ≤ 1600 from p_0) (show (0 : Int) ≤ i2.toInt ∧ i2.toInt ≤ 1600 from p_1) (show (0 : Int) ≤ i3.toInt ∧ i3.toInt ≤ 1600 from p_2) (show (0 : Int) ≤ i4.toInt ∧ i4.toInt ≤ 1600 from p_3) (show (0 : Int) ≤ i5.toInt ∧ i5.toInt ≤ 6 from p_4) (show (0 : Int) ≤ i7.toInt ∧ i7.toInt ≤ 3 from p_5) (show (0 : Int) ≤ i11.toInt ∧ i11.toInt ≤ 59 from p_6) (show WI cp xF0 from p_7) (by omega) p_8) (cwV 1 hwd (gV kr55_8 kr55_9 kr3_14 kr5_23 kr55_10) rfl rfl rfl (by decide +kernel) ⟨Nat.le_of_ble_eq_true rfl, Nat.le_of_ble_eq_true rfl⟩) (kPreV hPc hK hDc (ci := 12) (q0 := 0) rfl rfl) rfl rfl hl.1 rfl (lv_room (Nat.le_of_ble_eq_true rfl)) dX12_follower_99 ⟨Nat.le_of_ble_eq_true rfl, Nat.le_of_ble_eq_true rfl⟩) hS (fun q _ h => hFc q h) hFc (fun r31 u32 t H1 locs ht9 hvm hw hB hz1 hk1 hS => ?_)
            obtain ⟨hw33, -⟩ := hw
            replace hw33 : 0 ≤ r31.toInt ∧ r31.toInt < wat xF0 1 ∧ r31.toInt ≤ 59 := hw33
            obtain ⟨hP1, hD1⟩ := hB
            rw [ht9] at hP1
            obtain ⟨hP, hD⟩ := va_join (wr := [(a7, .inl (cI, 360, .inl (U16 0))), (a8, .inl (cI, 600, .inl (U16 1))), (a9, .inl (cI, 60, .inl (U16 2)))]) (w1 := [(a0, .inr (12, [.int i0, .ref a1, .ref a2, .ref a3, .ref a4, .int i1, .ref a5, .int i2, .int i3, .int i4, .int i5, .int i6, .int i7, .int i8, .ref a6, .ref a7, .ref a8, .ref a9, .ref a10, .ref a11, .ref a12, .int i9, .ref a13, .int i10, .ref a14, .ref a15, .int i11, .ref a16, .ref a17, .ref a18, .ref a19, .int i12, .int i13, .int i14, .int i15, .int i16, .ref a20, .long j0, .ref a21, .ref a22, .ref a23, .ref a24])), (a1, .inl (cI, 544, .inl xF0))]) hP hD [0, 1] [2, 3, 4] rfl rfl (by decide) (by decide) hk1 hFc hP1 hD1
            generalize H1 = H at hP hS ⊢
            replace hP : va_P (dC, dI) vwCl [(a7, .inl (cI, 360, .inl (U16 0))), (a8, .inl (cI, 600, .inl (U16 1))), (a9, .inl (cI, 60, .inl (U16 2))), (a0, .inr (12, [.int i0, .ref a1, .ref a2, .ref a3, .ref a4, .int i1, .ref a5, .int i2, .int i3, .int i4, .int i5, .int i6, .int i7, .int i8, .ref a6, .ref a7, .ref a8, .ref a9, .ref a10, .ref a11, .ref a12, .int i9, .ref a13, .int i10, .ref a14, .ref a15, .int i11, .ref a16, .ref a17, .ref a18, .ref a19, .int i12, .int i13, .int i14, .int i15, .int i16, .ref a20, .long j0, .ref a21, .ref a22, .ref a23, .ref a24])), (a1, .inl (cI, 544, .inl xF0))] H := hP
            replace hD : va_D A [(a7, .inl (cI, 360, .inl (U16 0))), (a8, .inl (cI, 600, .inl (U16 1))), (a9, .inl (cI, 60, .inl (U16 2))), (a0, .inr (12, [.int i0, .ref a1, .ref a2, .ref a3, .ref a4, .int i1, .ref a5, .int i2, .int i3, .int i4, .int i5, .int i6, .int i7, .int i8, .ref a6, .ref a7, .ref a8, .ref a9, .ref a10, .ref a11, .ref a12, .int i9, .ref a13, .int i10, .ref a14, .ref a15, .int i11, .ref a16, .ref a17, .ref a18, .ref a19, .int i12, .int i13, .int i14, .int i15, .int i16, .ref a20, .long j0, .ref a21, .ref a22, .ref a23, .ref a24])), (a1, .inl (cI, 544, .inl xF0))] := hD
            refine lv_iadd hx hb dX12_follower_102 ?_
            refine lv_topi (fun x34 ex34 => ?_)
            have tx34 := ia_add (a := x27) (b := r31) (by omega) (by omega)
            rw [← ex34] at tx34
            have h35 : vp_in x34 600 := (vp_of (by omega) (by omega))
            refine va_iald hx hb hK hP 1 0 rfl rfl h35 dX12_follower_103 ?_
            refine lv_topi (fun x36 ex36 => ?_)
            refine lv_goto (tgt := 137) hx hb dX12_follower_104 (by decide) ?_
            have hP9 := hP.sub (ws' := [(a0, .inr (12, [.int i0, .ref a1, .ref a2, .ref a3, .ref a4, .int i1, .ref a5, .int i2, .int i3, .int i4, .int i5, .int i6, .int i7, .int i8, .ref a6, .ref a7, .ref a8, .ref a9, .ref a10, .ref a11, .ref a12, .int i9, .ref a13, .int i10, .ref a14, .ref a15, .int i11, .ref a16, .ref a17, .ref a18, .ref a19, .int i12, .int i13, .int i14, .int i15, .int i16, .ref a20, .long j0, .ref a21, .ref a22, .ref a23, .ref a24])), (a1, .inl (cI, 544, .inl xF0)), (a7, .inl (cI, 360, .inl (U16 0))), (a8, .inl (cI, 600, .inl (U16 1))), (a9, .inl (cI, 60, .inl (U16 2)))]) [3, 4, 0, 1, 2] rfl
            have hD9 := hD.sub (ws' := [(a0, .inr (12, [.int i0, .ref a1, .ref a2, .ref a3, .ref a4, .int i1, .ref a5, .int i2, .int i3, .int i4, .int i5, .int i6, .int i7, .int i8, .ref a6, .ref a7, .ref a8, .ref a9, .ref a10, .ref a11, .ref a12, .int i9, .ref a13, .int i10, .ref a14, .ref a15, .int i11, .ref a16, .ref a17, .ref a18, .ref a19, .int i12, .int i13, .int i14, .int i15, .int i16, .ref a20, .long j0, .ref a21, .ref a22, .ref a23, .ref a24])), (a1, .inl (cI, 544, .inl xF0)), (a7, .inl (cI, 360, .inl (U16 0))), (a8, .inl (cI, 600, .inl (U16 1))), (a9, .inl (cI, 60, .inl (U16 2)))]) [3, 4, 0, 1, 2] (by decide) rfl
            rw [hQ]
            exact W.iret (v := x36) hx hb hr (fun t ht hW => ⟨⟨x36, (pickG 0 [], pickG (fun _ => 0) [(U16 0), (U16 1), (U16 2)], pickG (fun _ => 0) []), rfl, trivial, (by rw [ht]; exact hP9), hD9⟩, hS.F ht⟩) hS.2.2 dX12_follower_137
        · rw [ki_eq] at c13
          refine lv_aload_n hx hb dX12_follower_38 rfl (lv_at hl 0 rfl) ?_
          refine va_get (D := (dC, dI)) (ci := 12) (v := .ref a1) (C := RX12) (T := TX12) (N := 42) hx hb hwd inlX12 hown hK hP 3 rfl rfl 1 (by decide) (hwd _ kr49_2) (fun _ h9 => h9) rfl dX12_follower_39 ?_
          refine lv_sipush (v := 274) hx hb dX12_follower_42 (by decide) ?_
          refine lv_bipush (v := 10) hx hb dX12_follower_45 (by decide) ?_
          refine lv_iconst (v := 0) hx hb dX12_follower_47 (by decide) ?_
          refine lv_aload_n hx hb dX12_follower_48 rfl (lv_at hl 0 rfl) ?_
          refine va_get (D := (dC, dI)) (ci := 12) (v := .ref a1) (C := RX12) (T := TX12) (N := 42) hx hb hwd inlX12 hown hK hP 3 rfl rfl 1 (by decide) (hwd _ kr49_2) (fun _ h9 => h9) rfl dX12_follower_49 ?_
          refine lv_bipush (v := 18) hx hb dX12_follower_52 (by decide) ?_
          have h37 : vp_in (18 : Int32) 544 := (vin (by decide))
          refine va_iald hx hb hK hP 4 0 rfl rfl h37 dX12_follower_54 ?_
          refine lv_topi (fun x38 ex38 => ?_)
          have ix38 := wat_lit (k := 18) ex38 (by decide)
          have wh39 : whd cp xF0 := p_7.1
          unfold whd at wh39
          refine lv_aload_n hx hb dX12_follower_55 rfl (lv_at hl 0 rfl) ?_
          refine lv_iload_n hx hb dX12_follower_56 rfl (lv_at hl 1 rfl) ?_
          refine lv_iconst (v := 5) hx hb dX12_follower_57 (by decide) ?_
          have hPc := hP.sub (ws' := [(a0, .inr (12, [.int i0, .ref a1, .ref a2, .ref a3, .ref a4, .int i1, .ref a5, .int i2, .int i3, .int i4, .int i5, .int i6, .int i7, .int i8, .ref a6, .ref a7, .ref a8, .ref a9, .ref a10, .ref a11, .ref a12, .int i9, .ref a13, .int i10, .ref a14, .ref a15, .int i11, .ref a16, .ref a17, .ref a18, .ref a19, .int i12, .int i13, .int i14, .int i15, .int i16, .ref a20, .long j0, .ref a21, .ref a22, .ref a23, .ref a24])), (a1, .inl (cI, 544, .inl xF0))]) [3, 4] rfl
          have hDc := hD.sub (ws' := [(a0, .inr (12, [.int i0, .ref a1, .ref a2, .ref a3, .ref a4, .int i1, .ref a5, .int i2, .int i3, .int i4, .int i5, .int i6, .int i7, .int i8, .ref a6, .ref a7, .ref a8, .ref a9, .ref a10, .ref a11, .ref a12, .int i9, .ref a13, .int i10, .ref a14, .ref a15, .int i11, .ref a16, .ref a17, .ref a18, .ref a19, .int i12, .int i13, .int i14, .int i15, .int i16, .ref a20, .long j0, .ref a21, .ref a22, .ref a23, .ref a24])), (a1, .inl (cI, 544, .inl xF0))]) [3, 4] (by decide) rfl
          have hFc := va_free (wc := [(a0, .inr (12, [.int i0, .ref a1, .ref a2, .ref a3, .ref a4, .int i1, .ref a5, .int i2, .int i3, .int i4, .int i5, .int i6, .int i7, .int i8, .ref a6, .ref a7, .ref a8, .ref a9, .ref a10, .ref a11, .ref a12, .int i9, .ref a13, .int i10, .ref a14, .ref a15, .int i11, .ref a16, .ref a17, .ref a18, .ref a19, .int i12, .int i13, .int i14, .int i15, .int i16, .ref a20, .long j0, .ref a21, .ref a22, .ref a23, .ref a24])), (a1, .inl (cI, 544, .inl xF0))]) hD hS hA [3, 4] rfl
          refine va_calli (va_runV (As := [.int p0, .int 5]) (rest := [.int x38, .int 0, .int 10, .int 274, .ref a1]) ⟨hx, hb, hml, hown, hwd⟩ (s_X12_of l dC dI cI cZ cB cJ cM cG a0 a1 a2 a3 a4 a5 a6 a7 a8 a9 a10 a11 a12 a13 a14 a15 a16 a17 a18 a19 a20 a21 a22 a23 a24 i0 i1 i2 i3 i4 i5 i6 i7 i8 i9 i10 i11 i12 i13 i14 i15 i16 j0 xF0 p0 5 cp H.size (show (0 : Int) ≤ i1.toInt ∧ i1.toInt ≤ 1600 from p_0) (show (0 : Int) ≤ i2.toInt ∧ i2.toInt ≤ 1600 from p_1) (show (0 : Int) ≤ i3.toInt ∧ i3.toInt ≤ 1600 from p_2) (show (0 : Int) ≤ i4.toInt ∧ i4.toInt ≤ 1600 from p_3) (show (0 : Int) ≤ i5.toInt ∧ i5.toInt ≤ 6 from p_4) (show (0 : Int) ≤ i7.toInt ∧ i7.toInt ≤ 3 from p_5) (show (0 : Int) ≤ i11.toInt ∧ i11.toInt ≤ 59 from p_6) (show WI cp xF0 from p_7) (show (0 : Int) ≤ p0.toInt ∧ p0.toInt ≤ 9 from ⟨by omega, by omega⟩) (show (0 : Int) ≤ (5 : Int32).toInt ∧ (5 : Int32).toInt ≤ 5 from ⟨by omega, by omega⟩) p_8) (cwV 2 hwd (gV kr55_11 kr55_12 kr3_15 kr5_23 kr55_13) rfl rfl rfl (by decide +kernel) ⟨Nat.le_of_ble_eq_true rfl, Nat.le_of_ble_eq_true rfl⟩) (kPreV hPc hK hDc (ci := 12) (q0 := 0) rfl rfl) rfl rfl hl.1 rfl (lv_room (Nat.le_of_ble_eq_true rfl)) dX12_follower_58 ⟨Nat.le_of_ble_eq_true rfl, Nat.le_of_ble_eq_true rfl⟩) hS (fun q _ h => hFc q h) hFc (fun r40 u41 t H1 locs ht9 hvm hw hB hz1 hk1 hS => ?_)
          obtain ⟨hw42, -⟩ := hw
          replace hw42 : r40.toInt = wfo xF0 5 p0.toInt := hw42
          have wf43 := p_7.2.2.1 p0.toInt (by omega) (by omega)
          unfold wfl at wf43
          obtain ⟨hP1, hD1⟩ := hB
          rw [ht9] at hP1
          obtain ⟨hP, hD⟩ := va_join (wr := [(a7, .inl (cI, 360, .inl xF6)), (a8, .inl (cI, 600, .inl xF7)), (a9, .inl (cI, 60, .inl xF8))]) (w1 := [(a0, .inr (12, [.int i0, .ref a1, .ref a2, .ref a3, .ref a4, .int i1, .ref a5, .int i2, .int i3, .int i4, .int i5, .int i6, .int i7, .int i8, .ref a6, .ref a7, .ref a8, .ref a9, .ref a10, .ref a11, .ref a12, .int i9, .ref a13, .int i10, .ref a14, .ref a15, .int i11, .ref a16, .ref a17, .ref a18, .ref a19, .int i12, .int i13, .int i14, .int i15, .int i16, .ref a20, .long j0, .ref a21, .ref a22, .ref a23, .ref a24])), (a1, .inl (cI, 544, .inl xF0))]) hP hD [3, 4] [0, 1, 2] rfl rfl (by decide) (by decide) hk1 hFc hP1 hD1
          generalize H1 = H at hP hS ⊢
          replace hP : va_P (dC, dI) vwCl [(a7, .inl (cI, 360, .inl xF6)), (a8, .inl (cI, 600, .inl xF7)), (a9, .inl (cI, 60, .inl xF8)), (a0, .inr (12, [.int i0, .ref a1, .ref a2, .ref a3, .ref a4, .int i1, .ref a5, .int i2, .int i3, .int i4, .int i5, .int i6, .int i7, .int i8, .ref a6, .ref a7, .ref a8, .ref a9, .ref a10, .ref a11, .ref a12, .int i9, .ref a13, .int i10, .ref a14, .ref a15, .int i11, .ref a16, .ref a17, .ref a18, .ref a19, .int i12, .int i13, .int i14, .int i15, .int i16, .ref a20, .long j0, .ref a21, .ref a22, .ref a23, .ref a24])), (a1, .inl (cI, 544, .inl xF0))] H := hP
          replace hD : va_D A [(a7, .inl (cI, 360, .inl xF6)), (a8, .inl (cI, 600, .inl xF7)), (a9, .inl (cI, 60, .inl xF8)), (a0, .inr (12, [.int i0, .ref a1, .ref a2, .ref a3, .ref a4, .int i1, .ref a5, .int i2, .int i3, .int i4, .int i5, .int i6, .int i7, .int i8, .ref a6, .ref a7, .ref a8, .ref a9, .ref a10, .ref a11, .ref a12, .int i9, .ref a13, .int i10, .ref a14, .ref a15, .int i11, .ref a16, .ref a17, .ref a18, .ref a19, .int i12, .int i13, .int i14, .int i15, .int i16, .ref a20, .long j0, .ref a21, .ref a22, .ref a23, .ref a24])), (a1, .inl (cI, 544, .inl xF0))] := hD
          refine lv_isub hx hb dX12_follower_61 ?_
          refine lv_topi (fun x44 ex44 => ?_)
          refine va_mmax hx hb (by rw [hml]; exact hl.1.symm) hown (hwd _ kr55_7) (hwd _ kr24_17) (hwd _ kr6_4) (hwd _ kr24_18) (Nat.le_of_ble_eq_true rfl) (Nat.le_of_ble_eq_true rfl) (Nat.le_of_ble_eq_true rfl) (Nat.le_of_ble_eq_true rfl) dX12_follower_62 ?_
          refine lv_topi (fun x45 ex45 => ?_)
          have tx45 := mx_max (0 : Int32) x44
          rw [← ex45] at tx45
          refine lv_bipush (v := 21) hx hb dX12_follower_65 (by decide) ?_
          refine lv_irem hx hb dX12_follower_67 (fun h9 => by rw [ki_eq] at h9; omega) ?_
          refine lv_topi (fun x46 ex46 => ?_)
          have tx46 := ir_pos (a := x45) (b := (21 : Int32)) (by omega) (by omega)
          rw [← ex46] at tx46
          refine lv_imul hx hb dX12_follower_68 ?_
          refine lv_topi (fun x47 ex47 => ?_)
          have tx47 := ia_mull (a := (10 : Int32)) (b := x46) 10 (by decide) (by omega) (by omega)
          rw [← ex47] at tx47
          refine lv_iadd hx hb dX12_follower_69 ?_
          refine lv_topi (fun x48 ex48 => ?_)
          have tx48 := ia_add (a := (274 : Int32)) (b := x47) (by omega) (by omega)
          rw [← ex48] at tx48
          refine lv_iload_n hx hb dX12_follower_70 rfl (lv_at hl 1 rfl) ?_
          refine lv_iadd hx hb dX12_follower_71 ?_
          refine lv_topi (fun x49 ex49 => ?_)
          have tx49 := ia_add (a := x48) (b := p0) (by omega) (by omega)
          rw [← ex49] at tx49
          have h50 : vp_in x49 544 := (vp_of (by omega) (by omega))
          refine va_iald hx hb hK hP 4 0 rfl rfl h50 dX12_follower_72 ?_
          refine lv_topi (fun x51 ex51 => ?_)
          have ix51 : x51.toInt = (xF0 x49.toInt.toNat).toInt := by rw [ex51]; rfl
          have hP9 := hP.sub (ws' := [(a0, .inr (12, [.int i0, .ref a1, .ref a2, .ref a3, .ref a4, .int i1, .ref a5, .int i2, .int i3, .int i4, .int i5, .int i6, .int i7, .int i8, .ref a6, .ref a7, .ref a8, .ref a9, .ref a10, .ref a11, .ref a12, .int i9, .ref a13, .int i10, .ref a14, .ref a15, .int i11, .ref a16, .ref a17, .ref a18, .ref a19, .int i12, .int i13, .int i14, .int i15, .int i16, .ref a20, .long j0, .ref a21, .ref a22, .ref a23, .ref a24])), (a1, .inl (cI, 544, .inl xF0)), (a7, .inl (cI, 360, .inl xF6)), (a8, .inl (cI, 600, .inl xF7)), (a9, .inl (cI, 60, .inl xF8))]) [3, 4, 0, 1, 2] rfl
          have hD9 := hD.sub (ws' := [(a0, .inr (12, [.int i0, .ref a1, .ref a2, .ref a3, .ref a4, .int i1, .ref a5, .int i2, .int i3, .int i4, .int i5, .int i6, .int i7, .int i8, .ref a6, .ref a7, .ref a8, .ref a9, .ref a10, .ref a11, .ref a12, .int i9, .ref a13, .int i10, .ref a14, .ref a15, .int i11, .ref a16, .ref a17, .ref a18, .ref a19, .int i12, .int i13, .int i14, .int i15, .int i16, .ref a20, .long j0, .ref a21, .ref a22, .ref a23, .ref a24])), (a1, .inl (cI, 544, .inl xF0)), (a7, .inl (cI, 360, .inl xF6)), (a8, .inl (cI, 600, .inl xF7)), (a9, .inl (cI, 60, .inl xF8))]) [3, 4, 0, 1, 2] (by decide) rfl
          rw [hQ]
          exact W.iret (v := x51) hx hb hr (fun t ht hW => ⟨⟨x51, (pickG 0 [], pickG (fun _ => 0) [xF6, xF7, xF8], pickG (fun _ => 0) []), rfl, trivial, (by rw [ht]; exact hP9), hD9⟩, hS.F ht⟩) hS.2.2 dX12_follower_73
      · rw [ki_eq] at c12
        refine lv_aload_n hx hb dX12_follower_27 rfl (lv_at hl 0 rfl) ?_
        refine lv_iload_n hx hb dX12_follower_28 rfl (lv_at hl 1 rfl) ?_
        have hPc := hP.sub (ws' := [(a0, .inr (12, [.int i0, .ref a1, .ref a2, .ref a3, .ref a4, .int i1, .ref a5, .int i2, .int i3, .int i4, .int i5, .int i6, .int i7, .int i8, .ref a6, .ref a7, .ref a8, .ref a9, .ref a10, .ref a11, .ref a12, .int i9, .ref a13, .int i10, .ref a14, .ref a15, .int i11, .ref a16, .ref a17, .ref a18, .ref a19, .int i12, .int i13, .int i14, .int i15, .int i16, .ref a20, .long j0, .ref a21, .ref a22, .ref a23, .ref a24])), (a1, .inl (cI, 544, .inl xF0))]) [3, 4] rfl
        have hDc := hD.sub (ws' := [(a0, .inr (12, [.int i0, .ref a1, .ref a2, .ref a3, .ref a4, .int i1, .ref a5, .int i2, .int i3, .int i4, .int i5, .int i6, .int i7, .int i8, .ref a6, .ref a7, .ref a8, .ref a9, .ref a10, .ref a11, .ref a12, .int i9, .ref a13, .int i10, .ref a14, .ref a15, .int i11, .ref a16, .ref a17, .ref a18, .ref a19, .int i12, .int i13, .int i14, .int i15, .int i16, .ref a20, .long j0, .ref a21, .ref a22, .ref a23, .ref a24])), (a1, .inl (cI, 544, .inl xF0))]) [3, 4] (by decide) rfl
        have hFc := va_free (wc := [(a0, .inr (12, [.int i0, .ref a1, .ref a2, .ref a3, .ref a4, .int i1, .ref a5, .int i2, .int i3, .int i4, .int i5, .int i6, .int i7, .int i8, .ref a6, .ref a7, .ref a8, .ref a9, .ref a10, .ref a11, .ref a12, .int i9, .ref a13, .int i10, .ref a14, .ref a15, .int i11, .ref a16, .ref a17, .ref a18, .ref a19, .int i12, .int i13, .int i14, .int i15, .int i16, .ref a20, .long j0, .ref a21, .ref a22, .ref a23, .ref a24])), (a1, .inl (cI, 544, .inl xF0))]) hD hS hA [3, 4] rfl
        refine va_calli (va_runV (As := [.int p0]) (rest := []) ⟨hx, hb, hml, hown, hwd⟩ (s_X12_posOf l dC dI cI cZ cB cJ cM cG a0 a1 a2 a3 a4 a5 a6 a7 a8 a9 a10 a11 a12 a13 a14 a15 a16 a17 a18 a19 a20 a21 a22 a23 a24 i0 i1 i2 i3 i4 i5 i6 i7 i8 i9 i10 i11 i12 i13 i14 i15 i16 j0 xF0 p0 cp H.size (show (0 : Int) ≤ i1.toInt ∧ i1.toInt ≤ 1600 from p_0) (show (0 : Int) ≤ i2.toInt ∧ i2.toInt ≤ 1600 from p_1) (show (0 : Int) ≤ i3.toInt ∧ i3.toInt ≤ 1600 from p_2) (show (0 : Int) ≤ i4.toInt ∧ i4.toInt ≤ 1600 from p_3) (show (0 : Int) ≤ i5.toInt ∧ i5.toInt ≤ 6 from p_4) (show (0 : Int) ≤ i7.toInt ∧ i7.toInt ≤ 3 from p_5) (show (0 : Int) ≤ i11.toInt ∧ i11.toInt ≤ 59 from p_6) (show WI cp xF0 from p_7) (show (0 : Int) ≤ p0.toInt ∧ p0.toInt ≤ 9 from ⟨by omega, by omega⟩) p_8) (cwV 1 hwd (gV kr55_20 kr55_21 kr3_18 kr5_23 kr55_22) rfl rfl rfl (by decide +kernel) ⟨Nat.le_of_ble_eq_true rfl, Nat.le_of_ble_eq_true rfl⟩) (kPreV hPc hK hDc (ci := 12) (q0 := 0) rfl rfl) rfl rfl hl.1 rfl (lv_room (Nat.le_of_ble_eq_true rfl)) dX12_follower_29 ⟨Nat.le_of_ble_eq_true rfl, Nat.le_of_ble_eq_true rfl⟩) hS (fun q _ h => hFc q h) hFc (fun r52 u53 t H1 locs ht9 hvm hw hB hz1 hk1 hS => ?_)
        obtain ⟨hP1, hD1⟩ := hB
        rw [ht9] at hP1
        obtain ⟨hP, hD⟩ := va_join (wr := [(a7, .inl (cI, 360, .inl xF6)), (a8, .inl (cI, 600, .inl xF7)), (a9, .inl (cI, 60, .inl xF8))]) (w1 := [(a0, .inr (12, [.int i0, .ref a1, .ref a2, .ref a3, .ref a4, .int i1, .ref a5, .int i2, .int i3, .int i4, .int i5, .int i6, .int i7, .int i8, .ref a6, .ref a7, .ref a8, .ref a9, .ref a10, .ref a11, .ref a12, .int i9, .ref a13, .int i10, .ref a14, .ref a15, .int i11, .ref a16, .ref a17, .ref a18, .ref a19, .int i12, .int i13, .int i14, .int i15, .int i16, .ref a20, .long j0, .ref a21, .ref a22, .ref a23, .ref a24])), (a1, .inl (cI, 544, .inl xF0))]) hP hD [3, 4] [0, 1, 2] rfl rfl (by decide) (by decide) hk1 hFc hP1 hD1
        generalize H1 = H at hP hS ⊢
        replace hP : va_P (dC, dI) vwCl [(a7, .inl (cI, 360, .inl xF6)), (a8, .inl (cI, 600, .inl xF7)), (a9, .inl (cI, 60, .inl xF8)), (a0, .inr (12, [.int i0, .ref a1, .ref a2, .ref a3, .ref a4, .int i1, .ref a5, .int i2, .int i3, .int i4, .int i5, .int i6, .int i7, .int i8, .ref a6, .ref a7, .ref a8, .ref a9, .ref a10, .ref a11, .ref a12, .int i9, .ref a13, .int i10, .ref a14, .ref a15, .int i11, .ref a16, .ref a17, .ref a18, .ref a19, .int i12, .int i13, .int i14, .int i15, .int i16, .ref a20, .long j0, .ref a21, .ref a22, .ref a23, .ref a24])), (a1, .inl (cI, 544, .inl xF0))] H := hP
        replace hD : va_D A [(a7, .inl (cI, 360, .inl xF6)), (a8, .inl (cI, 600, .inl xF7)), (a9, .inl (cI, 60, .inl xF8)), (a0, .inr (12, [.int i0, .ref a1, .ref a2, .ref a3, .ref a4, .int i1, .ref a5, .int i2, .int i3, .int i4, .int i5, .int i6, .int i7, .int i8, .ref a6, .ref a7, .ref a8, .ref a9, .ref a10, .ref a11, .ref a12, .int i9, .ref a13, .int i10, .ref a14, .ref a15, .int i11, .ref a16, .ref a17, .ref a18, .ref a19, .int i12, .int i13, .int i14, .int i15, .int i16, .ref a20, .long j0, .ref a21, .ref a22, .ref a23, .ref a24])), (a1, .inl (cI, 544, .inl xF0))] := hD
        have hP9 := hP.sub (ws' := [(a0, .inr (12, [.int i0, .ref a1, .ref a2, .ref a3, .ref a4, .int i1, .ref a5, .int i2, .int i3, .int i4, .int i5, .int i6, .int i7, .int i8, .ref a6, .ref a7, .ref a8, .ref a9, .ref a10, .ref a11, .ref a12, .int i9, .ref a13, .int i10, .ref a14, .ref a15, .int i11, .ref a16, .ref a17, .ref a18, .ref a19, .int i12, .int i13, .int i14, .int i15, .int i16, .ref a20, .long j0, .ref a21, .ref a22, .ref a23, .ref a24])), (a1, .inl (cI, 544, .inl xF0)), (a7, .inl (cI, 360, .inl xF6)), (a8, .inl (cI, 600, .inl xF7)), (a9, .inl (cI, 60, .inl xF8))]) [3, 4, 0, 1, 2] rfl
        have hD9 := hD.sub (ws' := [(a0, .inr (12, [.int i0, .ref a1, .ref a2, .ref a3, .ref a4, .int i1, .ref a5, .int i2, .int i3, .int i4, .int i5, .int i6, .int i7, .int i8, .ref a6, .ref a7, .ref a8, .ref a9, .ref a10, .ref a11, .ref a12, .int i9, .ref a13, .int i10, .ref a14, .ref a15, .int i11, .ref a16, .ref a17, .ref a18, .ref a19, .int i12, .int i13, .int i14, .int i15, .int i16, .ref a20, .long j0, .ref a21, .ref a22, .ref a23, .ref a24])), (a1, .inl (cI, 544, .inl xF0)), (a7, .inl (cI, 360, .inl xF6)), (a8, .inl (cI, 600, .inl xF7)), (a9, .inl (cI, 60, .inl xF8))]) [3, 4, 0, 1, 2] (by decide) rfl
        rw [hQ]
        exact W.iret (v := r52) hx hb hr (fun t ht hW => ⟨⟨r52, (pickG 0 [], pickG (fun _ => 0) [xF6, xF7, xF8], pickG (fun _ => 0) []), rfl, trivial, (by rw [ht]; exact hP9), hD9⟩, hS.F ht⟩) hS.2.2 dX12_follower_32
    · rw [ki_eq] at c11
      have hw10q := hw10 (by omega)
      clear hw10
      refine lv_bipush (v := (-2)) hx hb dX12_follower_20 (by decide) ?_
      have hP9 := hP.sub (ws' := [(a0, .inr (12, [.int i0, .ref a1, .ref a2, .ref a3, .ref a4, .int i1, .ref a5, .int i2, .int i3, .int i4, .int i5, .int i6, .int i7, .int i8, .ref a6, .ref a7, .ref a8, .ref a9, .ref a10, .ref a11, .ref a12, .int i9, .ref a13, .int i10, .ref a14, .ref a15, .int i11, .ref a16, .ref a17, .ref a18, .ref a19, .int i12, .int i13, .int i14, .int i15, .int i16, .ref a20, .long j0, .ref a21, .ref a22, .ref a23, .ref a24])), (a1, .inl (cI, 544, .inl xF0)), (a7, .inl (cI, 360, .inl xF6)), (a8, .inl (cI, 600, .inl xF7)), (a9, .inl (cI, 60, .inl xF8))]) [3, 4, 0, 1, 2] rfl
      have hD9 := hD.sub (ws' := [(a0, .inr (12, [.int i0, .ref a1, .ref a2, .ref a3, .ref a4, .int i1, .ref a5, .int i2, .int i3, .int i4, .int i5, .int i6, .int i7, .int i8, .ref a6, .ref a7, .ref a8, .ref a9, .ref a10, .ref a11, .ref a12, .int i9, .ref a13, .int i10, .ref a14, .ref a15, .int i11, .ref a16, .ref a17, .ref a18, .ref a19, .int i12, .int i13, .int i14, .int i15, .int i16, .ref a20, .long j0, .ref a21, .ref a22, .ref a23, .ref a24])), (a1, .inl (cI, 544, .inl xF0)), (a7, .inl (cI, 360, .inl xF6)), (a8, .inl (cI, 600, .inl xF7)), (a9, .inl (cI, 60, .inl xF8))]) [3, 4, 0, 1, 2] (by decide) rfl
      rw [hQ]
      exact W.iret (v := (-2)) hx hb hr (fun t ht hW => ⟨⟨(-2), (pickG 0 [], pickG (fun _ => 0) [xF6, xF7, xF8], pickG (fun _ => 0) []), rfl, trivial, (by rw [ht]; exact hP9), hD9⟩, hS.F ht⟩) hS.2.2 dX12_follower_22
def WJ (c : Int) (F : Nat → Int32) : Prop := WI c F ∧ 1 ≤ wat F 1
theorem WJ_free {c : Int} {F : Nat → Int32} {ix v : Int32} (h : WJ c F) (h0 : 0 ≤ ix.toInt) (hk : ix.toInt = 0 ∨ (11 ≤ ix.toInt ∧ ix.toInt ≤ 17) ∨ ix.toInt = 19 ∨ (20 ≤ ix.toInt ∧ ix.toInt < 188 ∧ 5 ≤ (ix.toInt - 20) % 7) ∨ 260 ≤ ix.toInt) : WJ c (upd F ix.toNatClampNeg v) := ⟨WI_free h.1 h0 hk, by rw [wat_nei (by omega)]; exact h.2⟩
theorem WJ_turn {c : Int} {F : Nat → Int32} {v : Int32} (h : WJ c F) (hv : v.toInt = wat F 18 + 1) : WJ (c + 1) (upd F (18 : Int32).toNatClampNeg v) := ⟨WI_turn h.1 hv, by
  have k18 : (18 : Int32).toInt = 18 := by decide
  rw [wat_nei (by omega)]
  exact h.2⟩
set_option maxHeartbeats 4000000 in
set_option maxRecDepth 100000 in
theorem s_X12_writesJ (l : Launch) (dC : Nat → ClassId) (dI : Nat → Nat → Nat) (cI cZ cB cJ cM cG : ClassId) (a0 a1 a2 a3 a4 a5 a6 a7 a8 a9 a10 a11 a12 a13 a14 a15 a16 a17 a18 a19 a20 a21 a22 a23 a24 : Nat) (i0 i1 i2 i3 i4 i5 i6 i7 i8 i9 i10 i11 i12 i13 i14 i15 i16 : Int32) (j0 : Int64) (xF0 : Nat → Int32) (cp : Int) (sz : Nat) (p_0 : (0 : Int) ≤ i1.toInt ∧ i1.toInt ≤ 1600) (p_1 : (0 : Int) ≤ i2.toInt ∧ i2.toInt ≤ 1600) (p_2 : (0 : Int) ≤ i3.toInt ∧ i3.toInt ≤ 1600) (p_3 : (0 : Int) ≤ i4.toInt ∧ i4.toInt ≤ 1600) (p_4 : (0 : Int) ≤ i5.toInt ∧ i5.toInt ≤ 6) (p_5 : (0 : Int) ≤ i7.toInt ∧ i7.toInt ≤ 3) (p_6 : (0 : Int) ≤ i11.toInt ∧ i11.toInt ≤ 59) (p_7 : WJ cp xF0) (p_8 : 0 ≤ cp ∧ cp ≤ 2000000000) : Met l yX12_writes (kw yX12_writes cX12_writes 2 none) ({ frames := 0, cells := 0, slots := 0, locals := 0 } : Room) (va_Pc [.ref a0] (kPre dC dI [(cI, .int), (cZ, .boolean), (cB, .byte), (cJ, .long), (cM, .object RX2), (cG, .array .int)] [(a0, .inr (12, [.int i0, .ref a1, .ref a2, .ref a3, .ref a4, .int i1, .ref a5, .int i2, .int i3, .int i4, .int i5, .int i6, .int i7, .int i8, .ref a6, .ref a7, .ref a8, .ref a9, .ref a10, .ref a11, .ref a12, .int i9, .ref a13, .int i10, .ref a14, .ref a15, .int i11, .ref a16, .ref a17, .ref a18, .ref a19, .int i12, .int i13, .int i14, .int i15, .int i16, .ref a20, .long j0, .ref a21, .ref a22, .ref a23, .ref a24])), (a1, .inl (cI, 544, .inl xF0))] sz)) (va_Qv (fun (u9 : (Nat → Int32) × (Nat → Nat → Int32) × (Nat → Nat → Int64)) => (WJ cp (u9.2.1 0)) ∧ True) (fun u9 t => va_P (dC, dI) vwCl [(a0, .inr (12, [.int i0, .ref a1, .ref a2, .ref a3, .ref a4, .int i1, .ref a5, .int i2, .int i3, .int i4, .int i5, .int i6, .int i7, .int i8, .ref a6, .ref a7, .ref a8, .ref a9, .ref a10, .ref a11, .ref a12, .int i9, .ref a13, .int i10, .ref a14, .ref a15, .int i11, .ref a16, .ref a17, .ref a18, .ref a19, .int i12, .int i13, .int i14, .int i15, .int i16, .ref a20, .long j0, .ref a21, .ref a22, .ref a23, .ref a24])), (a1, .inl (cI, 544, .inl (u9.2.1 0)))] t.heap ∧ va_D (va_A [(a0, .inr (12, [.int i0, .ref a1, .ref a2, .ref a3, .ref a4, .int i1, .ref a5, .int i2, .int i3, .int i4, .int i5, .int i6, .int i7, .int i8, .ref a6, .ref a7, .ref a8, .ref a9, .ref a10, .ref a11, .ref a12, .int i9, .ref a13, .int i10, .ref a14, .ref a15, .int i11, .ref a16, .ref a17, .ref a18, .ref a19, .int i12, .int i13, .int i14, .int i15, .int i16, .ref a20, .long j0, .ref a21, .ref a22, .ref a23, .ref a24])), (a1, .inl (cI, 544, .inl xF0))] sz) [(a0, .inr (12, [.int i0, .ref a1, .ref a2, .ref a3, .ref a4, .int i1, .ref a5, .int i2, .int i3, .int i4, .int i5, .int i6, .int i7, .int i8, .ref a6, .ref a7, .ref a8, .ref a9, .ref a10, .ref a11, .ref a12, .int i9, .ref a13, .int i10, .ref a14, .ref a15, .int i11, .ref a16, .ref a17, .ref a18, .ref a19, .int i12, .int i13, .int i14, .int i15, .int i16, .ref a20, .long j0, .ref a21, .ref a22, .ref a23, .ref a24])), (a1, .inl (cI, 544, .inl (u9.2.1 0)))]) (va_A [(a0, .inr (12, [.int i0, .ref a1, .ref a2, .ref a3, .ref a4, .int i1, .ref a5, .int i2, .int i3, .int i4, .int i5, .int i6, .int i7, .int i8, .ref a6, .ref a7, .ref a8, .ref a9, .ref a10, .ref a11, .ref a12, .int i9, .ref a13, .int i10, .ref a14, .ref a15, .int i11, .ref a16, .ref a17, .ref a18, .ref a19, .int i12, .int i13, .int i14, .int i15, .int i16, .ref a20, .long j0, .ref a21, .ref a22, .ref a23, .ref a24])), (a1, .inl (cI, 544, .inl xF0))] sz)) 0 0 (va_A [(a0, .inr (12, [.int i0, .ref a1, .ref a2, .ref a3, .ref a4, .int i1, .ref a5, .int i2, .int i3, .int i4, .int i5, .int i6, .int i7, .int i8, .ref a6, .ref a7, .ref a8, .ref a9, .ref a10, .ref a11, .ref a12, .int i9, .ref a13, .int i10, .ref a14, .ref a15, .int i11, .ref a16, .ref a17, .ref a18, .ref a19, .int i12, .int i13, .int i14, .int i15, .int i16, .ref a20, .long j0, .ref a21, .ref a22, .ref a23, .ref a24])), (a1, .inl (cI, 544, .inl xF0))] sz) := by
  refine kEnter (by decide) (Nat.le_of_ble_eq_true rfl) ?_
  intro p e s m below meth c ls hx hb hr hml hown hlocks hin hwd hsz hP hK hD hl
  subst hsz
  generalize hAe : va_A [(a0, .inr (12, [.int i0, .ref a1, .ref a2, .ref a3, .ref a4, .int i1, .ref a5, .int i2, .int i3, .int i4, .int i5, .int i6, .int i7, .int i8, .ref a6, .ref a7, .ref a8, .ref a9, .ref a10, .ref a11, .ref a12, .int i9, .ref a13, .int i10, .ref a14, .ref a15, .int i11, .ref a16, .ref a17, .ref a18, .ref a19, .int i12, .int i13, .int i14, .int i15, .int i16, .ref a20, .long j0, .ref a21, .ref a22, .ref a23, .ref a24])), (a1, .inl (cI, 544, .inl xF0))] s.heap.size = A at hD ⊢
  have hA : ∀ q : Nat, s.heap.size ≤ q → A q := fun q h => by rw [← hAe]; exact Or.inr h
  have hS : va_S A s.heap s.heap [] := va_S.rf
  have hl : lv_has ls 2 [(0, .ref a0)] := hl
  obtain ⟨Q, hQ⟩ : ∃ Q, Q = MQ below (va_Qv (fun (u9 : (Nat → Int32) × (Nat → Nat → Int32) × (Nat → Nat → Int64)) => (WJ cp (u9.2.1 0)) ∧ True) (fun u9 t => va_P (dC, dI) vwCl [(a0, .inr (12, [.int i0, .ref a1, .ref a2, .ref a3, .ref a4, .int i1, .ref a5, .int i2, .int i3, .int i4, .int i5, .int i6, .int i7, .int i8, .ref a6, .ref a7, .ref a8, .ref a9, .ref a10, .ref a11, .ref a12, .int i9, .ref a13, .int i10, .ref a14, .ref a15, .int i11, .ref a16, .ref a17, .ref a18, .ref a19, .int i12, .int i13, .int i14, .int i15, .int i16, .ref a20, .long j0, .ref a21, .ref a22, .ref a23, .ref a24])), (a1, .inl (cI, 544, .inl (u9.2.1 0)))] t.heap ∧ va_D A [(a0, .inr (12, [.int i0, .ref a1, .ref a2, .ref a3, .ref a4, .int i1, .ref a5, .int i2, .int i3, .int i4, .int i5, .int i6, .int i7, .int i8, .ref a6, .ref a7, .ref a8, .ref a9, .ref a10, .ref a11, .ref a12, .int i9, .ref a13, .int i10, .ref a14, .ref a15, .int i11, .ref a16, .ref a17, .ref a18, .ref a19, .int i12, .int i13, .int i14, .int i15, .int i16, .ref a20, .long j0, .ref a21, .ref a22, .ref a23, .ref a24])), (a1, .inl (cI, 544, .inl (u9.2.1 0)))]) A) ([.ref a0] : List Value).toArray s 0 0 A := ⟨_, rfl⟩
  rw [← hQ]
  have k0 : (0 : Int32).toInt = 0 := by decide
  have k1 : (1 : Int32).toInt = 1 := by decide
  have k10 : (10 : Int32).toInt = 10 := by decide
  have k18 : (18 : Int32).toInt = 18 := by decide
  have k21 : (21 : Int32).toInt = 21 := by decide
  have k264 : (264 : Int32).toInt = 264 := by decide
  have k274 : (274 : Int32).toInt = 274 := by decide
  refine lv_iconst (v := 0) hx hb dX12_writes_0 (by decide) ?_
  refine lv_istore_n (lv' := [(1, .int 0), (0, .ref a0)]) hx hb dX12_writes_1 rfl hl (by decide) rfl (fun ls hl => ?_)
  have lp1 : ∀ (d : Nat), ∀ (H : Heap) (locs : List Loc) (ls : Array Slot) (w1_1 : Int32) (g1_1 : Nat → Int32), ((0 : Int) ≤ w1_1.toInt ∧ w1_1.toInt ≤ 10) → (WJ cp g1_1) → (10 - w1_1.toInt).toNat < d → va_P (dC, dI) vwCl [(a0, .inr (12, [.int i0, .ref a1, .ref a2, .ref a3, .ref a4, .int i1, .ref a5, .int i2, .int i3, .int i4, .int i5, .int i6, .int i7, .int i8, .ref a6, .ref a7, .ref a8, .ref a9, .ref a10, .ref a11, .ref a12, .int i9, .ref a13, .int i10, .ref a14, .ref a15, .int i11, .ref a16, .ref a17, .ref a18, .ref a19, .int i12, .int i13, .int i14, .int i15, .int i16, .ref a20, .long j0, .ref a21, .ref a22, .ref a23, .ref a24])), (a1, .inl (cI, 544, .inl g1_1))] H → va_D A [(a0, .inr (12, [.int i0, .ref a1, .ref a2, .ref a3, .ref a4, .int i1, .ref a5, .int i2, .int i3, .int i4, .int i5, .int i6, .int i7, .int i8, .ref a6, .ref a7, .ref a8, .ref a9, .ref a10, .ref a11, .ref a12, .int i9, .ref a13, .int i10, .ref a14, .ref a15, .int i11, .ref a16, .ref a17, .ref a18, .ref a19, .int i12, .int i13, .int i14, .int i15, .int i16, .ref a20, .long j0, .ref a21, .ref a22, .ref a23, .ref a24])), (a1, .inl (cI, 544, .inl g1_1))] → va_S A s.heap H locs → lv_has ls 2 [(0, .ref a0), (1, .int w1_1)] → W p l e ({ frames := 0, cells := 0, slots := 0, locals := 0 } : Room) s m ([.ref a0] : List Value).toArray below meth c H locs 0 0 Q (F0 m 2 ls []) := by
    intro d
    induction d with
    | zero =>
      intro H locs ls w1_1 g1_1 hr_w1_1 hd_g1_1 hm hP hD hS hl
      omega
    | succ d ih1 =>
      intro H locs ls w1_1 g1_1 hr_w1_1 hd_g1_1 hm hP hD hS hl
      refine lv_iload_n hx hb dX12_writes_2 rfl (lv_at hl 1 rfl) ?_
      refine lv_bipush (v := 10) hx hb dX12_writes_3 (by decide) ?_
      refine lv_icmp_ge (tgt := 48) hx hb dX12_writes_5 (by decide) (fun c69 => ?_) (fun c69 => ?_)
      · rw [ki_le] at c69
        have hP9 := hP.sub (ws' := [(a0, .inr (12, [.int i0, .ref a1, .ref a2, .ref a3, .ref a4, .int i1, .ref a5, .int i2, .int i3, .int i4, .int i5, .int i6, .int i7, .int i8, .ref a6, .ref a7, .ref a8, .ref a9, .ref a10, .ref a11, .ref a12, .int i9, .ref a13, .int i10, .ref a14, .ref a15, .int i11, .ref a16, .ref a17, .ref a18, .ref a19, .int i12, .int i13, .int i14, .int i15, .int i16, .ref a20, .long j0, .ref a21, .ref a22, .ref a23, .ref a24])), (a1, .inl (cI, 544, .inl g1_1))]) [0, 1] rfl
        have hD9 := hD.sub (ws' := [(a0, .inr (12, [.int i0, .ref a1, .ref a2, .ref a3, .ref a4, .int i1, .ref a5, .int i2, .int i3, .int i4, .int i5, .int i6, .int i7, .int i8, .ref a6, .ref a7, .ref a8, .ref a9, .ref a10, .ref a11, .ref a12, .int i9, .ref a13, .int i10, .ref a14, .ref a15, .int i11, .ref a16, .ref a17, .ref a18, .ref a19, .int i12, .int i13, .int i14, .int i15, .int i16, .ref a20, .long j0, .ref a21, .ref a22, .ref a23, .ref a24])), (a1, .inl (cI, 544, .inl g1_1))]) [0, 1] (by decide) rfl
        rw [hQ]
        exact W.vret hx hb hr (fun t ht hW => ⟨⟨(pickG 0 [], pickG (fun _ => 0) [g1_1], pickG (fun _ => 0) []), rfl, ⟨(show WJ cp g1_1 from hd_g1_1), trivial⟩, (by rw [ht]; exact hP9), hD9⟩, hS.F ht⟩) hS.2.2 dX12_writes_48
      · rw [ki_le] at c69
        refine lv_aload_n hx hb dX12_writes_8 rfl (lv_at hl 0 rfl) ?_
        refine va_get (D := (dC, dI)) (ci := 12) (v := .ref a1) (C := RX12) (T := TX12) (N := 42) hx hb hwd inlX12 hown hK hP 0 rfl rfl 1 (by decide) (hwd _ kr49_2) (fun _ h9 => h9) rfl dX12_writes_9 ?_
        refine lv_sipush (v := 274) hx hb dX12_writes_12 (by decide) ?_
        refine lv_bipush (v := 10) hx hb dX12_writes_15 (by decide) ?_
        refine lv_aload_n hx hb dX12_writes_17 rfl (lv_at hl 0 rfl) ?_
        refine va_get (D := (dC, dI)) (ci := 12) (v := .ref a1) (C := RX12) (T := TX12) (N := 42) hx hb hwd inlX12 hown hK hP 0 rfl rfl 1 (by decide) (hwd _ kr49_2) (fun _ h9 => h9) rfl dX12_writes_18 ?_
        refine lv_bipush (v := 18) hx hb dX12_writes_21 (by decide) ?_
        have h70 : vp_in (18 : Int32) 544 := (vin (by decide))
        refine va_iald hx hb hK hP 1 0 rfl rfl h70 dX12_writes_23 ?_
        refine lv_topi (fun x71 ex71 => ?_)
        have ix71 := wat_lit (k := 18) ex71 (by decide)
        have wh72 : whd cp g1_1 := hd_g1_1.1.1
        unfold whd at wh72
        have wk73 := hd_g1_1.2
        refine lv_bipush (v := 21) hx hb dX12_writes_24 (by decide) ?_
        refine lv_irem hx hb dX12_writes_26 (fun h9 => by rw [ki_eq] at h9; omega) ?_
        refine lv_topi (fun x74 ex74 => ?_)
        have tx74 := ir_pos (a := x71) (b := (21 : Int32)) (by omega) (by omega)
        rw [← ex74] at tx74
        refine lv_imul hx hb dX12_writes_27 ?_
        refine lv_topi (fun x75 ex75 => ?_)
        have tx75 := ia_mull (a := (10 : Int32)) (b := x74) 10 (by decide) (by omega) (by omega)
        rw [← ex75] at tx75
        refine lv_iadd hx hb dX12_writes_28 ?_
        refine lv_topi (fun x76 ex76 => ?_)
        have tx76 := ia_add (a := (274 : Int32)) (b := x75) (by omega) (by omega)
        rw [← ex76] at tx76
        refine lv_iload_n hx hb dX12_writes_29 rfl (lv_at hl 1 rfl) ?_
        refine lv_iadd hx hb dX12_writes_30 ?_
        refine lv_topi (fun x77 ex77 => ?_)
        have tx77 := ia_add (a := x76) (b := w1_1) (by omega) (by omega)
        rw [← ex77] at tx77
        refine lv_aload_n hx hb dX12_writes_31 rfl (lv_at hl 0 rfl) ?_
        refine va_get (D := (dC, dI)) (ci := 12) (v := .ref a1) (C := RX12) (T := TX12) (N := 42) hx hb hwd inlX12 hown hK hP 0 rfl rfl 1 (by decide) (hwd _ kr49_2) (fun _ h9 => h9) rfl dX12_writes_32 ?_
        refine lv_sipush (v := 264) hx hb dX12_writes_35 (by decide) ?_
        refine lv_iload_n hx hb dX12_writes_38 rfl (lv_at hl 1 rfl) ?_
        refine lv_iadd hx hb dX12_writes_39 ?_
        refine lv_topi (fun x78 ex78 => ?_)
        have tx78 := ia_add (a := (264 : Int32)) (b := w1_1) (by omega) (by omega)
        rw [← ex78] at tx78
        have h79 : vp_in x78 544 := (vp_of (by omega) (by omega))
        refine va_iald hx hb hK hP 1 0 rfl rfl h79 dX12_writes_40 ?_
        refine lv_topi (fun x80 ex80 => ?_)
        have ix80 : x80.toInt = (g1_1 x78.toInt.toNat).toInt := by rw [ex80]; rfl
        refine va_iast hx hb hK hP hD hS 1 0 rfl rfl (vp_of (by omega) (by omega)) dX12_writes_41 (fun H locs hP hD hS => ?_)
        obtain ⟨f81, ef81⟩ : ∃ f, f = upd g1_1 x77.toNatClampNeg x80 := ⟨_, rfl⟩
        have df81 : WJ cp f81 := by rw [ef81]; exact WJ_free hd_g1_1 (by omega) (by omega)
        replace hP : va_P (dC, dI) vwCl [(a0, .inr (12, [.int i0, .ref a1, .ref a2, .ref a3, .ref a4, .int i1, .ref a5, .int i2, .int i3, .int i4, .int i5, .int i6, .int i7, .int i8, .ref a6, .ref a7, .ref a8, .ref a9, .ref a10, .ref a11, .ref a12, .int i9, .ref a13, .int i10, .ref a14, .ref a15, .int i11, .ref a16, .ref a17, .ref a18, .ref a19, .int i12, .int i13, .int i14, .int i15, .int i16, .ref a20, .long j0, .ref a21, .ref a22, .ref a23, .ref a24])), (a1, .inl (cI, 544, .inl f81))] H := by rw [ef81]; exact hP
        replace hD : va_D A [(a0, .inr (12, [.int i0, .ref a1, .ref a2, .ref a3, .ref a4, .int i1, .ref a5, .int i2, .int i3, .int i4, .int i5, .int i6, .int i7, .int i8, .ref a6, .ref a7, .ref a8, .ref a9, .ref a10, .ref a11, .ref a12, .int i9, .ref a13, .int i10, .ref a14, .ref a15, .int i11, .ref a16, .ref a17, .ref a18, .ref a19, .int i12, .int i13, .int i14, .int i15, .int i16, .ref a20, .long j0, .ref a21, .ref a22, .ref a23, .ref a24])), (a1, .inl (cI, 544, .inl f81))] := by rw [ef81]; exact hD
        obtain ⟨x82, ex82⟩ : ∃ y : Int32, y = w1_1 + 1 := ⟨_, rfl⟩
        refine lv_iinc (v := x82) (lv' := [(1, .int x82), (0, .ref a0)]) hx hb dX12_writes_42 hl (k := 1) rfl (by rw [ex82]; rfl) (by decide) rfl (fun ls hl => ?_)
        have tx82 := ia_add (a := w1_1) (b := (1 : Int32)) (by omega) (by omega)
        rw [← ex82] at tx82
        refine lv_goto (tgt := 2) hx hb dX12_writes_45 (by decide) ?_
        exact ih1 _ _ ls x82 f81 (show (0 : Int) ≤ x82.toInt ∧ x82.toInt ≤ 10 from ⟨by omega, by omega⟩) (show WJ cp f81 from df81) (by omega) (hP.sub (ws' := [(a0, .inr (12, [.int i0, .ref a1, .ref a2, .ref a3, .ref a4, .int i1, .ref a5, .int i2, .int i3, .int i4, .int i5, .int i6, .int i7, .int i8, .ref a6, .ref a7, .ref a8, .ref a9, .ref a10, .ref a11, .ref a12, .int i9, .ref a13, .int i10, .ref a14, .ref a15, .int i11, .ref a16, .ref a17, .ref a18, .ref a19, .int i12, .int i13, .int i14, .int i15, .int i16, .ref a20, .long j0, .ref a21, .ref a22, .ref a23, .ref a24])), (a1, .inl (cI, 544, .inl f81))]) [0, 1] rfl) (hD.sub (ws' := [(a0, .inr (12, [.int i0, .ref a1, .ref a2, .ref a3, .ref a4, .int i1, .ref a5, .int i2, .int i3, .int i4, .int i5, .int i6, .int i7, .int i8, .ref a6, .ref a7, .ref a8, .ref a9, .ref a10, .ref a11, .ref a12, .int i9, .ref a13, .int i10, .ref a14, .ref a15, .int i11, .ref a16, .ref a17, .ref a18, .ref a19, .int i12, .int i13, .int i14, .int i15, .int i16, .ref a20, .long j0, .ref a21, .ref a22, .ref a23, .ref a24])), (a1, .inl (cI, 544, .inl f81))]) [0, 1] (by decide) rfl) hS (lv_sub hl [1, 0] rfl)
  exact lp1 _ _ _ ls (0) xF0 (show (0 : Int) ≤ (0 : Int32).toInt ∧ (0 : Int32).toInt ≤ 10 from ⟨by omega, by omega⟩) (show WJ cp xF0 from p_7) (Nat.lt_succ_self _) (hP.sub (ws' := [(a0, .inr (12, [.int i0, .ref a1, .ref a2, .ref a3, .ref a4, .int i1, .ref a5, .int i2, .int i3, .int i4, .int i5, .int i6, .int i7, .int i8, .ref a6, .ref a7, .ref a8, .ref a9, .ref a10, .ref a11, .ref a12, .int i9, .ref a13, .int i10, .ref a14, .ref a15, .int i11, .ref a16, .ref a17, .ref a18, .ref a19, .int i12, .int i13, .int i14, .int i15, .int i16, .ref a20, .long j0, .ref a21, .ref a22, .ref a23, .ref a24])), (a1, .inl (cI, 544, .inl xF0))]) [0, 1] rfl) (hD.sub (ws' := [(a0, .inr (12, [.int i0, .ref a1, .ref a2, .ref a3, .ref a4, .int i1, .ref a5, .int i2, .int i3, .int i4, .int i5, .int i6, .int i7, .int i8, .ref a6, .ref a7, .ref a8, .ref a9, .ref a10, .ref a11, .ref a12, .int i9, .ref a13, .int i10, .ref a14, .ref a15, .int i11, .ref a16, .ref a17, .ref a18, .ref a19, .int i12, .int i13, .int i14, .int i15, .int i16, .ref a20, .long j0, .ref a21, .ref a22, .ref a23, .ref a24])), (a1, .inl (cI, 544, .inl xF0))]) [0, 1] (by decide) rfl) hS (lv_sub hl [1, 0] rfl)
set_option maxHeartbeats 4000000 in
set_option maxRecDepth 100000 in
theorem s_X12_movesJ (l : Launch) (dC : Nat → ClassId) (dI : Nat → Nat → Nat) (cI cZ cB cJ cM cG : ClassId) (a0 a1 a2 a3 a4 a5 a6 a7 a8 a9 a10 a11 a12 a13 a14 a15 a16 a17 a18 a19 a20 a21 a22 a23 a24 : Nat) (i0 i1 i2 i3 i4 i5 i6 i7 i8 i9 i10 i11 i12 i13 i14 i15 i16 : Int32) (j0 : Int64) (xF0 xF7 xF9 : Nat → Int32) (p0 : Int32) (cp : Int) (sz : Nat) (p_0 : (0 : Int) ≤ i1.toInt ∧ i1.toInt ≤ 1600) (p_1 : (0 : Int) ≤ i2.toInt ∧ i2.toInt ≤ 1600) (p_2 : (0 : Int) ≤ i3.toInt ∧ i3.toInt ≤ 1600) (p_3 : (0 : Int) ≤ i4.toInt ∧ i4.toInt ≤ 1600) (p_4 : (0 : Int) ≤ i5.toInt ∧ i5.toInt ≤ 6) (p_5 : (0 : Int) ≤ i7.toInt ∧ i7.toInt ≤ 3) (p_6 : (0 : Int) ≤ i11.toInt ∧ i11.toInt ≤ 59) (p_7 : WJ cp xF0) (p_8 : (0 : Int) ≤ p0.toInt ∧ p0.toInt ≤ 59) (p_9 : 0 ≤ cp ∧ cp ≤ 2000000000) : Met l yX12_moves (kw yX12_moves cX12_moves 5 none) ({ frames := 2, cells := 0, slots := 0, locals := 46 } : Room) (va_Pc [.ref a0, .int p0] (kPre dC dI [(cI, .int), (cZ, .boolean), (cB, .byte), (cJ, .long), (cM, .object RX2), (cG, .array .int)] [(a0, .inr (12, [.int i0, .ref a1, .ref a2, .ref a3, .ref a4, .int i1, .ref a5, .int i2, .int i3, .int i4, .int i5, .int i6, .int i7, .int i8, .ref a6, .ref a7, .ref a8, .ref a9, .ref a10, .ref a11, .ref a12, .int i9, .ref a13, .int i10, .ref a14, .ref a15, .int i11, .ref a16, .ref a17, .ref a18, .ref a19, .int i12, .int i13, .int i14, .int i15, .int i16, .ref a20, .long j0, .ref a21, .ref a22, .ref a23, .ref a24])), (a1, .inl (cI, 544, .inl xF0)), (a8, .inl (cI, 600, .inl xF7)), (a10, .inl (cI, 10, .inl xF9))] sz)) (va_Qv (fun (u9 : (Nat → Int32) × (Nat → Nat → Int32) × (Nat → Nat → Int64)) => (WJ cp (u9.2.1 0)) ∧ True) (fun u9 t => va_P (dC, dI) vwCl [(a0, .inr (12, [.int i0, .ref a1, .ref a2, .ref a3, .ref a4, .int i1, .ref a5, .int i2, .int i3, .int i4, .int i5, .int i6, .int i7, .int i8, .ref a6, .ref a7, .ref a8, .ref a9, .ref a10, .ref a11, .ref a12, .int i9, .ref a13, .int i10, .ref a14, .ref a15, .int i11, .ref a16, .ref a17, .ref a18, .ref a19, .int i12, .int i13, .int i14, .int i15, .int i16, .ref a20, .long j0, .ref a21, .ref a22, .ref a23, .ref a24])), (a1, .inl (cI, 544, .inl (u9.2.1 0))), (a8, .inl (cI, 600, .inl xF7)), (a10, .inl (cI, 10, .inl (u9.2.1 1)))] t.heap ∧ va_D (va_A [(a0, .inr (12, [.int i0, .ref a1, .ref a2, .ref a3, .ref a4, .int i1, .ref a5, .int i2, .int i3, .int i4, .int i5, .int i6, .int i7, .int i8, .ref a6, .ref a7, .ref a8, .ref a9, .ref a10, .ref a11, .ref a12, .int i9, .ref a13, .int i10, .ref a14, .ref a15, .int i11, .ref a16, .ref a17, .ref a18, .ref a19, .int i12, .int i13, .int i14, .int i15, .int i16, .ref a20, .long j0, .ref a21, .ref a22, .ref a23, .ref a24])), (a1, .inl (cI, 544, .inl xF0)), (a8, .inl (cI, 600, .inl xF7)), (a10, .inl (cI, 10, .inl xF9))] sz) [(a0, .inr (12, [.int i0, .ref a1, .ref a2, .ref a3, .ref a4, .int i1, .ref a5, .int i2, .int i3, .int i4, .int i5, .int i6, .int i7, .int i8, .ref a6, .ref a7, .ref a8, .ref a9, .ref a10, .ref a11, .ref a12, .int i9, .ref a13, .int i10, .ref a14, .ref a15, .int i11, .ref a16, .ref a17, .ref a18, .ref a19, .int i12, .int i13, .int i14, .int i15, .int i16, .ref a20, .long j0, .ref a21, .ref a22, .ref a23, .ref a24])), (a1, .inl (cI, 544, .inl (u9.2.1 0))), (a8, .inl (cI, 600, .inl xF7)), (a10, .inl (cI, 10, .inl (u9.2.1 1)))]) (va_A [(a0, .inr (12, [.int i0, .ref a1, .ref a2, .ref a3, .ref a4, .int i1, .ref a5, .int i2, .int i3, .int i4, .int i5, .int i6, .int i7, .int i8, .ref a6, .ref a7, .ref a8, .ref a9, .ref a10, .ref a11, .ref a12, .int i9, .ref a13, .int i10, .ref a14, .ref a15, .int i11, .ref a16, .ref a17, .ref a18, .ref a19, .int i12, .int i13, .int i14, .int i15, .int i16, .ref a20, .long j0, .ref a21, .ref a22, .ref a23, .ref a24])), (a1, .inl (cI, 544, .inl xF0)), (a8, .inl (cI, 600, .inl xF7)), (a10, .inl (cI, 10, .inl xF9))] sz)) 0 0 (va_A [(a0, .inr (12, [.int i0, .ref a1, .ref a2, .ref a3, .ref a4, .int i1, .ref a5, .int i2, .int i3, .int i4, .int i5, .int i6, .int i7, .int i8, .ref a6, .ref a7, .ref a8, .ref a9, .ref a10, .ref a11, .ref a12, .int i9, .ref a13, .int i10, .ref a14, .ref a15, .int i11, .ref a16, .ref a17, .ref a18, .ref a19, .int i12, .int i13, .int i14, .int i15, .int i16, .ref a20, .long j0, .ref a21, .ref a22, .ref a23, .ref a24])), (a1, .inl (cI, 544, .inl xF0)), (a8, .inl (cI, 600, .inl xF7)), (a10, .inl (cI, 10, .inl xF9))] sz) := by
  refine kEnter (by decide) (Nat.le_of_ble_eq_true rfl) ?_
  intro p e s m below meth c ls hx hb hr hml hown hlocks hin hwd hsz hP hK hD hl
  subst hsz
  generalize hAe : va_A [(a0, .inr (12, [.int i0, .ref a1, .ref a2, .ref a3, .ref a4, .int i1, .ref a5, .int i2, .int i3, .int i4, .int i5, .int i6, .int i7, .int i8, .ref a6, .ref a7, .ref a8, .ref a9, .ref a10, .ref a11, .ref a12, .int i9, .ref a13, .int i10, .ref a14, .ref a15, .int i11, .ref a16, .ref a17, .ref a18, .ref a19, .int i12, .int i13, .int i14, .int i15, .int i16, .ref a20, .long j0, .ref a21, .ref a22, .ref a23, .ref a24])), (a1, .inl (cI, 544, .inl xF0)), (a8, .inl (cI, 600, .inl xF7)), (a10, .inl (cI, 10, .inl xF9))] s.heap.size = A at hD ⊢
  have hA : ∀ q : Nat, s.heap.size ≤ q → A q := fun q h => by rw [← hAe]; exact Or.inr h
  have hS : va_S A s.heap s.heap [] := va_S.rf
  have hl : lv_has ls 5 [(0, .ref a0), (1, .int p0)] := hl
  obtain ⟨Q, hQ⟩ : ∃ Q, Q = MQ below (va_Qv (fun (u9 : (Nat → Int32) × (Nat → Nat → Int32) × (Nat → Nat → Int64)) => (WJ cp (u9.2.1 0)) ∧ True) (fun u9 t => va_P (dC, dI) vwCl [(a0, .inr (12, [.int i0, .ref a1, .ref a2, .ref a3, .ref a4, .int i1, .ref a5, .int i2, .int i3, .int i4, .int i5, .int i6, .int i7, .int i8, .ref a6, .ref a7, .ref a8, .ref a9, .ref a10, .ref a11, .ref a12, .int i9, .ref a13, .int i10, .ref a14, .ref a15, .int i11, .ref a16, .ref a17, .ref a18, .ref a19, .int i12, .int i13, .int i14, .int i15, .int i16, .ref a20, .long j0, .ref a21, .ref a22, .ref a23, .ref a24])), (a1, .inl (cI, 544, .inl (u9.2.1 0))), (a8, .inl (cI, 600, .inl xF7)), (a10, .inl (cI, 10, .inl (u9.2.1 1)))] t.heap ∧ va_D A [(a0, .inr (12, [.int i0, .ref a1, .ref a2, .ref a3, .ref a4, .int i1, .ref a5, .int i2, .int i3, .int i4, .int i5, .int i6, .int i7, .int i8, .ref a6, .ref a7, .ref a8, .ref a9, .ref a10, .ref a11, .ref a12, .int i9, .ref a13, .int i10, .ref a14, .ref a15, .int i11, .ref a16, .ref a17, .ref a18, .ref a19, .int i12, .int i13, .int i14, .int i15, .int i16, .ref a20, .long j0, .ref a21, .ref a22, .ref a23, .ref a24])), (a1, .inl (cI, 544, .inl (u9.2.1 0))), (a8, .inl (cI, 600, .inl xF7)), (a10, .inl (cI, 10, .inl (u9.2.1 1)))]) A) ([.ref a0, .int p0] : List Value).toArray s 0 0 A := ⟨_, rfl⟩
  rw [← hQ]
  have k0 : (0 : Int32).toInt = 0 := by decide
  have k1 : (1 : Int32).toInt = 1 := by decide
  have k2 : (2 : Int32).toInt = 2 := by decide
  have k3 : (3 : Int32).toInt = 3 := by decide
  have k4 : (4 : Int32).toInt = 4 := by decide
  have k6 : (6 : Int32).toInt = 6 := by decide
  have k7 : (7 : Int32).toInt = 7 := by decide
  have k15 : (15 : Int32).toInt = 15 := by decide
  have k60 : (60 : Int32).toInt = 60 := by decide
  have k260 : (260 : Int32).toInt = 260 := by decide
  have k264 : (264 : Int32).toInt = 264 := by decide
  refine lv_iconst (v := 0) hx hb dX12_moves_0 (by decide) ?_
  refine lv_istore_n (lv' := [(2, .int 0), (0, .ref a0), (1, .int p0)]) hx hb dX12_moves_1 rfl hl (by decide) rfl (fun ls hl => ?_)
  have lp1 : ∀ (d : Nat), ∀ (H : Heap) (locs : List Loc) (ls : Array Slot) (w2_1 : Int32) (g1_1 : Nat → Int32) (g2_1 : Nat → Int32), ((0 : Int) ≤ w2_1.toInt ∧ w2_1.toInt ≤ 10) → (WJ cp g1_1) → (10 - w2_1.toInt).toNat < d → va_P (dC, dI) vwCl [(a0, .inr (12, [.int i0, .ref a1, .ref a2, .ref a3, .ref a4, .int i1, .ref a5, .int i2, .int i3, .int i4, .int i5, .int i6, .int i7, .int i8, .ref a6, .ref a7, .ref a8, .ref a9, .ref a10, .ref a11, .ref a12, .int i9, .ref a13, .int i10, .ref a14, .ref a15, .int i11, .ref a16, .ref a17, .ref a18, .ref a19, .int i12, .int i13, .int i14, .int i15, .int i16, .ref a20, .long j0, .ref a21, .ref a22, .ref a23, .ref a24])), (a1, .inl (cI, 544, .inl g1_1)), (a8, .inl (cI, 600, .inl xF7)), (a10, .inl (cI, 10, .inl g2_1))] H → va_D A [(a0, .inr (12, [.int i0, .ref a1, .ref a2, .ref a3, .ref a4, .int i1, .ref a5, .int i2, .int i3, .int i4, .int i5, .int i6, .int i7, .int i8, .ref a6, .ref a7, .ref a8, .ref a9, .ref a10, .ref a11, .ref a12, .int i9, .ref a13, .int i10, .ref a14, .ref a15, .int i11, .ref a16, .ref a17, .ref a18, .ref a19, .int i12, .int i13, .int i14, .int i15, .int i16, .ref a20, .long j0, .ref a21, .ref a22, .ref a23, .ref a24])), (a1, .inl (cI, 544, .inl g1_1)), (a8, .inl (cI, 600, .inl xF7)), (a10, .inl (cI, 10, .inl g2_1))] → va_S A s.heap H locs → lv_has ls 5 [(0, .ref a0), (1, .int p0), (2, .int w2_1)] → W p l e ({ frames := 2, cells := 0, slots := 0, locals := 46 } : Room) s m ([.ref a0, .int p0] : List Value).toArray below meth c H locs 0 0 Q (F0 m 2 ls []) := by
    intro d
    induction d with
    | zero =>
      intro H locs ls w2_1 g1_1 g2_1 hr_w2_1 hd_g1_1 hm hP hD hS hl
      omega
    | succ d ih1 =>
      intro H locs ls w2_1 g1_1 g2_1 hr_w2_1 hd_g1_1 hm hP hD hS hl
      refine lv_iload_n hx hb dX12_moves_2 rfl (lv_at hl 2 rfl) ?_
      refine lv_aload_n hx hb dX12_moves_3 rfl (lv_at hl 0 rfl) ?_
      refine va_get (D := (dC, dI)) (ci := 12) (v := .ref a1) (C := RX12) (T := TX12) (N := 42) hx hb hwd inlX12 hown hK hP 0 rfl rfl 1 (by decide) (hwd _ kr49_2) (fun _ h9 => h9) rfl dX12_moves_4 ?_
      refine lv_bipush (v := 6) hx hb dX12_moves_7 (by decide) ?_
      have h301 : vp_in (6 : Int32) 544 := (vin (by decide))
      refine va_iald hx hb hK hP 1 0 rfl rfl h301 dX12_moves_9 ?_
      refine lv_topi (fun x302 ex302 => ?_)
      have ix302 := wat_lit (k := 6) ex302 (by decide)
      have wh303 : whd cp g1_1 := hd_g1_1.1.1
      unfold whd at wh303
      have wk304 := hd_g1_1.2
      refine lv_icmp_ge (tgt := 138) hx hb dX12_moves_10 (by decide) (fun c305 => ?_) (fun c305 => ?_)
      · rw [ki_le] at c305
        refine lv_iconst (v := 0) hx hb dX12_moves_138 (by decide) ?_
        refine lv_istore_n (lv' := [(2, .int 0), (0, .ref a0), (1, .int p0)]) hx hb dX12_moves_139 rfl hl (by decide) rfl (fun ls hl => ?_)
        have lp2 : ∀ (d : Nat), ∀ (H : Heap) (locs : List Loc) (ls : Array Slot) (w2_2 : Int32) (g1_2 : Nat → Int32), ((0 : Int) ≤ w2_2.toInt ∧ w2_2.toInt ≤ 4) → (WJ cp g1_2) → (4 - w2_2.toInt).toNat < d → va_P (dC, dI) vwCl [(a0, .inr (12, [.int i0, .ref a1, .ref a2, .ref a3, .ref a4, .int i1, .ref a5, .int i2, .int i3, .int i4, .int i5, .int i6, .int i7, .int i8, .ref a6, .ref a7, .ref a8, .ref a9, .ref a10, .ref a11, .ref a12, .int i9, .ref a13, .int i10, .ref a14, .ref a15, .int i11, .ref a16, .ref a17, .ref a18, .ref a19, .int i12, .int i13, .int i14, .int i15, .int i16, .ref a20, .long j0, .ref a21, .ref a22, .ref a23, .ref a24])), (a1, .inl (cI, 544, .inl g1_2)), (a8, .inl (cI, 600, .inl xF7)), (a10, .inl (cI, 10, .inl g2_1))] H → va_D A [(a0, .inr (12, [.int i0, .ref a1, .ref a2, .ref a3, .ref a4, .int i1, .ref a5, .int i2, .int i3, .int i4, .int i5, .int i6, .int i7, .int i8, .ref a6, .ref a7, .ref a8, .ref a9, .ref a10, .ref a11, .ref a12, .int i9, .ref a13, .int i10, .ref a14, .ref a15, .int i11, .ref a16, .ref a17, .ref a18, .ref a19, .int i12, .int i13, .int i14, .int i15, .int i16, .ref a20, .long j0, .ref a21, .ref a22, .ref a23, .ref a24])), (a1, .inl (cI, 544, .inl g1_2)), (a8, .inl (cI, 600, .inl xF7)), (a10, .inl (cI, 10, .inl g2_1))] → va_S A s.heap H locs → lv_has ls 5 [(0, .ref a0), (1, .int p0), (2, .int w2_2)] → W p l e ({ frames := 2, cells := 0, slots := 0, locals := 46 } : Room) s m ([.ref a0, .int p0] : List Value).toArray below meth c H locs 0 0 Q (F0 m 140 ls []) := by
          intro d
          induction d with
          | zero =>
            intro H locs ls w2_2 g1_2 hr_w2_2 hd_g1_2 hm hP hD hS hl
            omega
          | succ d ih2 =>
            intro H locs ls w2_2 g1_2 hr_w2_2 hd_g1_2 hm hP hD hS hl
            refine lv_iload_n hx hb dX12_moves_140 rfl (lv_at hl 2 rfl) ?_
            refine lv_aload_n hx hb dX12_moves_141 rfl (lv_at hl 0 rfl) ?_
            refine va_get (D := (dC, dI)) (ci := 12) (v := .ref a1) (C := RX12) (T := TX12) (N := 42) hx hb hwd inlX12 hown hK hP 0 rfl rfl 1 (by decide) (hwd _ kr49_2) (fun _ h9 => h9) rfl dX12_moves_142 ?_
            refine lv_bipush (v := 7) hx hb dX12_moves_145 (by decide) ?_
            have h513 : vp_in (7 : Int32) 544 := (vin (by decide))
            refine va_iald hx hb hK hP 1 0 rfl rfl h513 dX12_moves_147 ?_
            refine lv_topi (fun x514 ex514 => ?_)
            have ix514 := wat_lit (k := 7) ex514 (by decide)
            have wh515 : whd cp g1_2 := hd_g1_2.1.1
            unfold whd at wh515
            have wk516 := hd_g1_2.2
            refine lv_icmp_ge (tgt := 247) hx hb dX12_moves_148 (by decide) (fun c517 => ?_) (fun c517 => ?_)
            · rw [ki_le] at c517
              have hP9 := hP.sub (ws' := [(a0, .inr (12, [.int i0, .ref a1, .ref a2, .ref a3, .ref a4, .int i1, .ref a5, .int i2, .int i3, .int i4, .int i5, .int i6, .int i7, .int i8, .ref a6, .ref a7, .ref a8, .ref a9, .ref a10, .ref a11, .ref a12, .int i9, .ref a13, .int i10, .ref a14, .ref a15, .int i11, .ref a16, .ref a17, .ref a18, .ref a19, .int i12, .int i13, .int i14, .int i15, .int i16, .ref a20, .long j0, .ref a21, .ref a22, .ref a23, .ref a24])), (a1, .inl (cI, 544, .inl g1_2)), (a8, .inl (cI, 600, .inl xF7)), (a10, .inl (cI, 10, .inl g2_1))]) [0, 1, 2, 3] rfl
              have hD9 := hD.sub (ws' := [(a0, .inr (12, [.int i0, .ref a1, .ref a2, .ref a3, .ref a4, .int i1, .ref a5, .int i2, .int i3, .int i4, .int i5, .int i6, .int i7, .int i8, .ref a6, .ref a7, .ref a8, .ref a9, .ref a10, .ref a11, .ref a12, .int i9, .ref a13, .int i10, .ref a14, .ref a15, .int i11, .ref a16, .ref a17, .ref a18, .ref a19, .int i12, .int i13, .int i14, .int i15, .int i16, .ref a20, .long j0, .ref a21, .ref a22, .ref a23, .ref a24])), (a1, .inl (cI, 544, .inl g1_2)), (a8, .inl (cI, 600, .inl xF7)), (a10, .inl (cI, 10, .inl g2_1))]) [0, 1, 2, 3] (by decide) rfl
              rw [hQ]
              exact W.vret hx hb hr (fun t ht hW => ⟨⟨(pickG 0 [], pickG (fun _ => 0) [g1_2, g2_1], pickG (fun _ => 0) []), rfl, ⟨(show WJ cp g1_2 from hd_g1_2), trivial⟩, (by rw [ht]; exact hP9), hD9⟩, hS.F ht⟩) hS.2.2 dX12_moves_247
            · rw [ki_le] at c517
              refine lv_aload_n hx hb dX12_moves_151 rfl (lv_at hl 0 rfl) ?_
              refine lv_iload_n hx hb dX12_moves_152 rfl (lv_at hl 2 rfl) ?_
              refine lv_iconst (v := 0) hx hb dX12_moves_153 (by decide) ?_
              have hPc := hP.sub (ws' := [(a0, .inr (12, [.int i0, .ref a1, .ref a2, .ref a3, .ref a4, .int i1, .ref a5, .int i2, .int i3, .int i4, .int i5, .int i6, .int i7, .int i8, .ref a6, .ref a7, .ref a8, .ref a9, .ref a10, .ref a11, .ref a12, .int i9, .ref a13, .int i10, .ref a14, .ref a15, .int i11, .ref a16, .ref a17, .ref a18, .ref a19, .int i12, .int i13, .int i14, .int i15, .int i16, .ref a20, .long j0, .ref a21, .ref a22, .ref a23, .ref a24])), (a1, .inl (cI, 544, .inl g1_2))]) [0, 1] rfl
              have hDc := hD.sub (ws' := [(a0, .inr (12, [.int i0, .ref a1, .ref a2, .ref a3, .ref a4, .int i1, .ref a5, .int i2, .int i3, .int i4, .int i5, .int i6, .int i7, .int i8, .ref a6, .ref a7, .ref a8, .ref a9, .ref a10, .ref a11, .ref a12, .int i9, .ref a13, .int i10, .ref a14, .ref a15, .int i11, .ref a16, .ref a17, .ref a18, .ref a19, .int i12, .int i13, .int i14, .int i15, .int i16, .ref a20, .long j0, .ref a21, .ref a22, .ref a23, .ref a24])), (a1, .inl (cI, 544, .inl g1_2))]) [0, 1] (by decide) rfl
              have hFc := va_free (wc := [(a0, .inr (12, [.int i0, .ref a1, .ref a2, .ref a3, .ref a4, .int i1, .ref a5, .int i2, .int i3, .int i4, .int i5, .int i6, .int i7, .int i8, .ref a6, .ref a7, .ref a8, .ref a9, .ref a10, .ref a11, .ref a12, .int i9, .ref a13, .int i10, .ref a14, .ref a15, .int i11, .ref a16, .ref a17, .ref a18, .ref a19, .int i12, .int i13, .int i14, .int i15, .int i16, .ref a20, .long j0, .ref a21, .ref a22, .ref a23, .ref a24])), (a1, .inl (cI, 544, .inl g1_2))]) hD hS hA [0, 1] rfl
              refine va_calli (va_runV (As := [.int w2_2, .int 0]) (rest := []) ⟨hx, hb, hml, hown, hwd⟩ (s_X12_ofPawl l dC dI cI cZ cB cJ cM cG a0 a1 a2 a3 a4 a5 a6 a7 a8 a9 a10 a11 a12 a13 a14 a15 a16 a17 a18 a19 a20 a21 a22 a23 a24 i0 i1 i2 i3 i4 i5 i6 i7 i8 i9 i10 i11 i12 i13 i14 i15 i16 j0 g1_2 w2_2 0 cp H.size (show (0 : Int) ≤ i1.toInt ∧ i1.toInt ≤ 1600 from p_0) (show (0 : Int) ≤ i2.toInt ∧ i2.toInt ≤ 1600 from p_1) (show (0 : Int) ≤ i3.toInt ∧ i3.toInt ≤ 1600 from p_2) (show (0 : Int) ≤ i4.toInt ∧ i4.toInt ≤ 1600 from p_3) (show (0 : Int) ≤ i5.toInt ∧ i5.toInt ≤ 6 from p_4) (show (0 : Int) ≤ i7.toInt ∧ i7.toInt ≤ 3 from p_5) (show (0 : Int) ≤ i11.toInt ∧ i11.toInt ≤ 59 from p_6) (show WI cp g1_2 from hd_g1_2.1) (show (0 : Int) ≤ w2_2.toInt ∧ w2_2.toInt ≤ 3 from ⟨by omega, by omega⟩) (show (0 : Int) ≤ (0 : Int32).toInt ∧ (0 : Int32).toInt ≤ 2 from ⟨by omega, by omega⟩) p_9) (cwV 2 hwd (gV kr58_0 kr58_1 kr4_2 kr5_23 kr58_2) rfl rfl rfl (by decide +kernel) ⟨Nat.le_of_ble_eq_true rfl, Nat.le_of_ble_eq_true rfl⟩) (kPreV hPc hK hDc (ci := 12) (q0 := 0) rfl rfl) rfl rfl hl.1 rfl (lv_room (Nat.le_of_ble_eq_true rfl)) dX12_moves_154 ⟨Nat.le_of_ble_eq_true rfl, Nat.le_of_ble_eq_true rfl⟩) hS (fun q _ h => hFc q h) hFc (fun r518 u519 t H1 locs ht9 hvm hw hB hz1 hk1 hS => ?_)
              obtain ⟨hw520, hw521, -⟩ := hw
              replace hw520 : ((0 : Int32).toInt = 0 → 0 ≤ r518.toInt ∧ r518.toInt ≤ 9) := hw520
              replace hw520 := hw520 (by decide)
              replace hw521 : ((0 : Int32).toInt = 2 → w2_2.toInt < wat g1_2 7 → 2 ≤ r518.toInt) := hw521
              clear hw521
              obtain ⟨hP1, hD1⟩ := hB
              rw [ht9] at hP1
              obtain ⟨hP, hD⟩ := va_join (wr := [(a8, .inl (cI, 600, .inl xF7)), (a10, .inl (cI, 10, .inl g2_1))]) (w1 := [(a0, .inr (12, [.int i0, .ref a1, .ref a2, .ref a3, .ref a4, .int i1, .ref a5, .int i2, .int i3, .int i4, .int i5, .int i6, .int i7, .int i8, .ref a6, .ref a7, .ref a8, .ref a9, .ref a10, .ref a11, .ref a12, .int i9, .ref a13, .int i10, .ref a14, .ref a15, .int i11, .ref a16, .ref a17, .ref a18, .ref a19, .int i12, .int i13, .int i14, .int i15, .int i16, .ref a20, .long j0, .ref a21, .ref a22, .ref a23, .ref a24])), (a1, .inl (cI, 544, .inl g1_2))]) hP hD [0, 1] [2, 3] rfl rfl (by decide) (by decide) hk1 hFc hP1 hD1
              generalize H1 = H at hP hS ⊢
              replace hP : va_P (dC, dI) vwCl [(a8, .inl (cI, 600, .inl xF7)), (a10, .inl (cI, 10, .inl g2_1)), (a0, .inr (12, [.int i0, .ref a1, .ref a2, .ref a3, .ref a4, .int i1, .ref a5, .int i2, .int i3, .int i4, .int i5, .int i6, .int i7, .int i8, .ref a6, .ref a7, .ref a8, .ref a9, .ref a10, .ref a11, .ref a12, .int i9, .ref a13, .int i10, .ref a14, .ref a15, .int i11, .ref a16, .ref a17, .ref a18, .ref a19, .int i12, .int i13, .int i14, .int i15, .int i16, .ref a20, .long j0, .ref a21, .ref a22, .ref a23, .ref a24])), (a1, .inl (cI, 544, .inl g1_2))] H := hP
              replace hD : va_D A [(a8, .inl (cI, 600, .inl xF7)), (a10, .inl (cI, 10, .inl g2_1)), (a0, .inr (12, [.int i0, .ref a1, .ref a2, .ref a3, .ref a4, .int i1, .ref a5, .int i2, .int i3, .int i4, .int i5, .int i6, .int i7, .int i8, .ref a6, .ref a7, .ref a8, .ref a9, .ref a10, .ref a11, .ref a12, .int i9, .ref a13, .int i10, .ref a14, .ref a15, .int i11, .ref a16, .ref a17, .ref a18, .ref a19, .int i12, .int i13, .int i14, .int i15, .int i16, .ref a20, .long j0, .ref a21, .ref a22, .ref a23, .ref a24])), (a1, .inl (cI, 544, .inl g1_2))] := hD
              refine lv_istore_n (lv' := [(3, .int r518), (0, .ref a0), (1, .int p0), (2, .int w2_2)]) hx hb dX12_moves_157 rfl hl (by decide) rfl (fun ls hl => ?_)
              refine lv_aload_n hx hb dX12_moves_158 rfl (lv_at hl 1 rfl) ?_
              refine va_get (D := (dC, dI)) (ci := 12) (v := .ref a10) (C := RX12) (T := TX12) (N := 42) hx hb hwd inlX12 hown hK hP 2 rfl rfl 18 (by decide) (hwd _ kr49_19) (fun _ h9 => h9) rfl dX12_moves_159 ?_
              refine lv_iload_n hx hb dX12_moves_162 rfl (lv_at hl 0 rfl) ?_
              have h522 : vp_in r518 10 := (vp_of (by omega) (by omega))
              refine va_iald hx hb hK hP 1 0 rfl rfl h522 dX12_moves_163 ?_
              refine lv_topi (fun x523 ex523 => ?_)
              refine lv_aload_n hx hb dX12_moves_164 rfl (lv_at hl 1 rfl) ?_
              refine lv_iload_n hx hb dX12_moves_165 rfl (lv_at hl 3 rfl) ?_
              refine lv_iconst (v := 1) hx hb dX12_moves_166 (by decide) ?_
              have hPc := hP.sub (ws' := [(a0, .inr (12, [.int i0, .ref a1, .ref a2, .ref a3, .ref a4, .int i1, .ref a5, .int i2, .int i3, .int i4, .int i5, .int i6, .int i7, .int i8, .ref a6, .ref a7, .ref a8, .ref a9, .ref a10, .ref a11, .ref a12, .int i9, .ref a13, .int i10, .ref a14, .ref a15, .int i11, .ref a16, .ref a17, .ref a18, .ref a19, .int i12, .int i13, .int i14, .int i15, .int i16, .ref a20, .long j0, .ref a21, .ref a22, .ref a23, .ref a24])), (a1, .inl (cI, 544, .inl g1_2))]) [2, 3] rfl
              have hDc := hD.sub (ws' := [(a0, .inr (12, [.int i0, .ref a1, .ref a2, .ref a3, .ref a4, .int i1, .ref a5, .int i2, .int i3, .int i4, .int i5, .int i6, .int i7, .int i8, .ref a6, .ref a7, .ref a8, .ref a9, .ref a10, .ref a11, .ref a12, .int i9, .ref a13, .int i10, .ref a14, .ref a15, .int i11, .ref a16, .ref a17, .ref a18, .ref a19, .int i12, .int i13, .int i14, .int i15, .int i16, .ref a20, .long j0, .ref a21, .ref a22, .ref a23, .ref a24])), (a1, .inl (cI, 544, .inl g1_2))]) [2, 3] (by decide) rfl
              have hFc := va_free (wc := [(a0, .inr (12, [.int i0, .ref a1, .ref a2, .ref a3, .ref a4, .int i1, .ref a5, .int i2, .int i3, .int i4, .int i5, .int i6, .int i7, .int i8, .ref a6, .ref a7, .ref a8, .ref a9, .ref a10, .ref a11, .ref a12, .int i9, .ref a13, .int i10, .ref a14, .ref a15, .int i11, .ref a16, .ref a17, .ref a18, .ref a19, .int i12, .int i13, .int i14, .int i15, .int i16, .ref a20, .long j0, .ref a21, .ref a22, .ref a23, .ref a24])), (a1, .inl (cI, 544, .inl g1_2))]) hD hS hA [2, 3] rfl
              refine va_calli (va_runV (As := [.int w2_2, .int 1]) (rest := [.int x523]) ⟨hx, hb, hml, hown, hwd⟩ (s_X12_ofPawl l dC dI cI cZ cB cJ cM cG a0 a1 a2 a3 a4 a5 a6 a7 a8 a9 a10 a11 a12 a13 a14 a15 a16 a17 a18 a19 a20 a21 a22 a23 a24 i0 i1 i2 i3 i4 i5 i6 i7 i8 i9 i10 i11 i12 i13 i14 i15 i16 j0 g1_2 w2_2 1 cp H.size (show (0 : Int) ≤ i1.toInt ∧ i1.toInt ≤ 1600 from p_0) (show (0 : Int) ≤ i2.toInt ∧ i2.toInt ≤ 1600 from p_1) (show (0 : Int) ≤ i3.toInt ∧ i3.toInt ≤ 1600 from p_2) (show (0 : Int) ≤ i4.toInt ∧ i4.toInt ≤ 1600 from p_3) (show (0 : Int) ≤ i5.toInt ∧ i5.toInt ≤ 6 from p_4) (show (0 : Int) ≤ i7.toInt ∧ i7.toInt ≤ 3 from p_5) (show (0 : Int) ≤ i11.toInt ∧ i11.toInt ≤ 59 from p_6) (show WI cp g1_2 from hd_g1_2.1) (show (0 : Int) ≤ w2_2.toInt ∧ w2_2.toInt ≤ 3 from ⟨by omega, by omega⟩) (show (0 : Int) ≤ (1 : Int32).toInt ∧ (1 : Int32).toInt ≤ 2 from ⟨by omega, by omega⟩) p_9) (cwV 2 hwd (gV kr58_0 kr58_1 kr4_2 kr5_23 kr58_2) rfl rfl rfl (by decide +kernel) ⟨Nat.le_of_ble_eq_true rfl, Nat.le_of_ble_eq_true rfl⟩) (kPreV hPc hK hDc (ci := 12) (q0 := 0) rfl rfl) rfl rfl hl.1 rfl (lv_room (Nat.le_of_ble_eq_true rfl)) dX12_moves_167 ⟨Nat.le_of_ble_eq_true rfl, Nat.le_of_ble_eq_true rfl⟩) hS (fun q _ h => hFc q h) hFc (fun r524 u525 t H1 locs ht9 hvm hw hB hz1 hk1 hS => ?_)
              obtain ⟨hw526, hw527, -⟩ := hw
              replace hw526 : ((1 : Int32).toInt = 0 → 0 ≤ r524.toInt ∧ r524.toInt ≤ 9) := hw526
              clear hw526
              replace hw527 : ((1 : Int32).toInt = 2 → w2_2.toInt < wat g1_2 7 → 2 ≤ r524.toInt) := hw527
              clear hw527
              obtain ⟨hP1, hD1⟩ := hB
              rw [ht9] at hP1
              obtain ⟨hP, hD⟩ := va_join (wr := [(a8, .inl (cI, 600, .inl xF7)), (a10, .inl (cI, 10, .inl g2_1))]) (w1 := [(a0, .inr (12, [.int i0, .ref a1, .ref a2, .ref a3, .ref a4, .int i1, .ref a5, .int i2, .int i3, .int i4, .int i5, .int i6, .int i7, .int i8, .ref a6, .ref a7, .ref a8, .ref a9, .ref a10, .ref a11, .ref a12, .int i9, .ref a13, .int i10, .ref a14, .ref a15, .int i11, .ref a16, .ref a17, .ref a18, .ref a19, .int i12, .int i13, .int i14, .int i15, .int i16, .ref a20, .long j0, .ref a21, .ref a22, .ref a23, .ref a24])), (a1, .inl (cI, 544, .inl g1_2))]) hP hD [2, 3] [0, 1] rfl rfl (by decide) (by decide) hk1 hFc hP1 hD1
              generalize H1 = H at hP hS ⊢
              replace hP : va_P (dC, dI) vwCl [(a8, .inl (cI, 600, .inl xF7)), (a10, .inl (cI, 10, .inl g2_1)), (a0, .inr (12, [.int i0, .ref a1, .ref a2, .ref a3, .ref a4, .int i1, .ref a5, .int i2, .int i3, .int i4, .int i5, .int i6, .int i7, .int i8, .ref a6, .ref a7, .ref a8, .ref a9, .ref a10, .ref a11, .ref a12, .int i9, .ref a13, .int i10, .ref a14, .ref a15, .int i11, .ref a16, .ref a17, .ref a18, .ref a19, .int i12, .int i13, .int i14, .int i15, .int i16, .ref a20, .long j0, .ref a21, .ref a22, .ref a23, .ref a24])), (a1, .inl (cI, 544, .inl g1_2))] H := hP
              replace hD : va_D A [(a8, .inl (cI, 600, .inl xF7)), (a10, .inl (cI, 10, .inl g2_1)), (a0, .inr (12, [.int i0, .ref a1, .ref a2, .ref a3, .ref a4, .int i1, .ref a5, .int i2, .int i3, .int i4, .int i5, .int i6, .int i7, .int i8, .ref a6, .ref a7, .ref a8, .ref a9, .ref a10, .ref a11, .ref a12, .int i9, .ref a13, .int i10, .ref a14, .ref a15, .int i11, .ref a16, .ref a17, .ref a18, .ref a19, .int i12, .int i13, .int i14, .int i15, .int i16, .ref a20, .long j0, .ref a21, .ref a22, .ref a23, .ref a24])), (a1, .inl (cI, 544, .inl g1_2))] := hD
              have jp8 : ∀ (H : Heap) (locs : List Loc) (ls : Array Slot), va_P (dC, dI) vwCl [(a8, .inl (cI, 600, .inl xF7)), (a10, .inl (cI, 10, .inl g2_1)), (a0, .inr (12, [.int i0, .ref a1, .ref a2, .ref a3, .ref a4, .int i1, .ref a5, .int i2, .int i3, .int i4, .int i5, .int i6, .int i7, .int i8, .ref a6, .ref a7, .ref a8, .ref a9, .ref a10, .ref a11, .ref a12, .int i9, .ref a13, .int i10, .ref a14, .ref a15, .int i11, .ref a16, .ref a17, .ref a18, .ref a19, .int i12, .int i13, .int i14, .int i15, .int i16, .ref a20, .long j0, .ref a21, .ref a22, .ref a23, .ref a24])), (a1, .inl (cI, 544, .inl g1_2))] H → va_D A [(a8, .inl (cI, 600, .inl xF7)), (a10, .inl (cI, 10, .inl g2_1)), (a0, .inr (12, [.int i0, .ref a1, .ref a2, .ref a3, .ref a4, .int i1, .ref a5, .int i2, .int i3, .int i4, .int i5, .int i6, .int i7, .int i8, .ref a6, .ref a7, .ref a8, .ref a9, .ref a10, .ref a11, .ref a12, .int i9, .ref a13, .int i10, .ref a14, .ref a15, .int i11, .ref a16, .ref a17, .ref a18, .ref a19, .int i12, .int i13, .int i14, .int i15, .int i16, .ref a20, .long j0, .ref a21, .ref a22, .ref a23, .ref a24])), (a1, .inl (cI, 544, .inl g1_2))] → va_S A s.heap H locs → lv_has ls 5 [(0, .ref a0), (1, .int p0), (2, .int w2_2), (3, .int r518)] → W p l e ({ frames := 2, cells := 0, slots := 0, locals := 46 } : Room) s m ([.ref a0, .int p0] : List Value).toArray below meth c H locs 0 0 Q (F0 m 191 ls []) := by
                intro H locs ls  hP hD hS hl
                refine lv_iconst (v := 0) hx hb dX12_moves_191 (by decide) ?_
                refine lv_istore (lv' := [(4, .int 0), (0, .ref a0), (1, .int p0), (2, .int w2_2), (3, .int r518)]) hx hb dX12_moves_192 hl (by decide) rfl (fun ls hl => ?_)
                refine lv_aload_n hx hb dX12_moves_194 rfl (lv_at hl 1 rfl) ?_
                refine va_get (D := (dC, dI)) (ci := 12) (v := .ref a1) (C := RX12) (T := TX12) (N := 42) hx hb hwd inlX12 hown hK hP 2 rfl rfl 1 (by decide) (hwd _ kr49_2) (fun _ h9 => h9) rfl dX12_moves_195 ?_
                refine lv_sipush (v := 260) hx hb dX12_moves_198 (by decide) ?_
                refine lv_iload_n hx hb dX12_moves_201 rfl (lv_at hl 3 rfl) ?_
                refine lv_iadd hx hb dX12_moves_202 ?_
                refine lv_topi (fun x556 ex556 => ?_)
                have tx556 := ia_add (a := (260 : Int32)) (b := w2_2) (by omega) (by omega)
                rw [← ex556] at tx556
                refine lv_iload hx hb dX12_moves_203 (lv_at hl 0 rfl) ?_
                refine lv_if_eq (tgt := 230) hx hb dX12_moves_205 (by decide) (fun c557 => ?_) (fun c557 => absurd c557 (by decide))
                refine lv_aload_n hx hb dX12_moves_230 rfl (lv_at hl 1 rfl) ?_
                refine va_get (D := (dC, dI)) (ci := 12) (v := .ref a1) (C := RX12) (T := TX12) (N := 42) hx hb hwd inlX12 hown hK hP 2 rfl rfl 1 (by decide) (hwd _ kr49_2) (fun _ h9 => h9) rfl dX12_moves_231 ?_
                refine lv_sipush (v := 260) hx hb dX12_moves_234 (by decide) ?_
                refine lv_iload_n hx hb dX12_moves_237 rfl (lv_at hl 3 rfl) ?_
                refine lv_iadd hx hb dX12_moves_238 ?_
                refine lv_topi (fun x558 ex558 => ?_)
                have tx558 := ia_add (a := (260 : Int32)) (b := w2_2) (by omega) (by omega)
                rw [← ex558] at tx558
                have h559 : vp_in x558 544 := (vp_of (by omega) (by omega))
                refine va_iald hx hb hK hP 3 0 rfl rfl h559 dX12_moves_239 ?_
                refine lv_topi (fun x560 ex560 => ?_)
                have ix560 : x560.toInt = (g1_2 x558.toInt.toNat).toInt := by rw [ex560]; rfl
                refine va_iast hx hb hK hP hD hS 3 0 rfl rfl (vp_of (by omega) (by omega)) dX12_moves_240 (fun H locs hP hD hS => ?_)
                obtain ⟨f561, ef561⟩ : ∃ f, f = upd g1_2 x556.toNatClampNeg x560 := ⟨_, rfl⟩
                have df561 : WJ cp f561 := by rw [ef561]; exact WJ_free hd_g1_2 (by omega) (by omega)
                replace hP : va_P (dC, dI) vwCl [(a8, .inl (cI, 600, .inl xF7)), (a10, .inl (cI, 10, .inl g2_1)), (a0, .inr (12, [.int i0, .ref a1, .ref a2, .ref a3, .ref a4, .int i1, .ref a5, .int i2, .int i3, .int i4, .int i5, .int i6, .int i7, .int i8, .ref a6, .ref a7, .ref a8, .ref a9, .ref a10, .ref a11, .ref a12, .int i9, .ref a13, .int i10, .ref a14, .ref a15, .int i11, .ref a16, .ref a17, .ref a18, .ref a19, .int i12, .int i13, .int i14, .int i15, .int i16, .ref a20, .long j0, .ref a21, .ref a22, .ref a23, .ref a24])), (a1, .inl (cI, 544, .inl f561))] H := by rw [ef561]; exact hP
                replace hD : va_D A [(a8, .inl (cI, 600, .inl xF7)), (a10, .inl (cI, 10, .inl g2_1)), (a0, .inr (12, [.int i0, .ref a1, .ref a2, .ref a3, .ref a4, .int i1, .ref a5, .int i2, .int i3, .int i4, .int i5, .int i6, .int i7, .int i8, .ref a6, .ref a7, .ref a8, .ref a9, .ref a10, .ref a11, .ref a12, .int i9, .ref a13, .int i10, .ref a14, .ref a15, .int i11, .ref a16, .ref a17, .ref a18, .ref a19, .int i12, .int i13, .int i14, .int i15, .int i16, .ref a20, .long j0, .ref a21, .ref a22, .ref a23, .ref a24])), (a1, .inl (cI, 544, .inl f561))] := by rw [ef561]; exact hD
                obtain ⟨x562, ex562⟩ : ∃ y : Int32, y = w2_2 + 1 := ⟨_, rfl⟩
                refine lv_iinc (v := x562) (lv' := [(2, .int x562), (4, .int 0), (0, .ref a0), (1, .int p0), (3, .int r518)]) hx hb dX12_moves_241 hl (k := 3) rfl (by rw [ex562]; rfl) (by decide) rfl (fun ls hl => ?_)
                have tx562 := ia_add (a := w2_2) (b := (1 : Int32)) (by omega) (by omega)
                rw [← ex562] at tx562
                refine lv_goto (tgt := 140) hx hb dX12_moves_244 (by decide) ?_
                exact ih2 _ _ ls x562 f561 (show (0 : Int) ≤ x562.toInt ∧ x562.toInt ≤ 4 from ⟨by omega, by omega⟩) (show WJ cp f561 from df561) (by omega) (hP.sub (ws' := [(a0, .inr (12, [.int i0, .ref a1, .ref a2, .ref a3, .ref a4, .int i1, .ref a5, .int i2, .int i3, .int i4, .int i5, .int i6, .int i7, .int i8, .ref a6, .ref a7, .ref a8, .ref a9, .ref a10, .ref a11, .ref a12, .int i9, .ref a13, .int i10, .ref a14, .ref a15, .int i11, .ref a16, .ref a17, .ref a18, .ref a19, .int i12, .int i13, .int i14, .int i15, .int i16, .ref a20, .long j0, .ref a21, .ref a22, .ref a23, .ref a24])), (a1, .inl (cI, 544, .inl f561)), (a8, .inl (cI, 600, .inl xF7)), (a10, .inl (cI, 10, .inl g2_1))]) [2, 3, 0, 1] rfl) (hD.sub (ws' := [(a0, .inr (12, [.int i0, .ref a1, .ref a2, .ref a3, .ref a4, .int i1, .ref a5, .int i2, .int i3, .int i4, .int i5, .int i6, .int i7, .int i8, .ref a6, .ref a7, .ref a8, .ref a9, .ref a10, .ref a11, .ref a12, .int i9, .ref a13, .int i10, .ref a14, .ref a15, .int i11, .ref a16, .ref a17, .ref a18, .ref a19, .int i12, .int i13, .int i14, .int i15, .int i16, .ref a20, .long j0, .ref a21, .ref a22, .ref a23, .ref a24])), (a1, .inl (cI, 544, .inl f561)), (a8, .inl (cI, 600, .inl xF7)), (a10, .inl (cI, 10, .inl g2_1))]) [2, 3, 0, 1] (by decide) rfl) hS (lv_sub hl [2, 3, 0] rfl)
              refine lv_icmp_ge (tgt := 191) hx hb dX12_moves_170 (by decide) (fun c563 => ?_) (fun c563 => ?_)
              · rw [ki_le] at c563
                exact jp8 _ _ ls  (hP.sub (ws' := [(a8, .inl (cI, 600, .inl xF7)), (a10, .inl (cI, 10, .inl g2_1)), (a0, .inr (12, [.int i0, .ref a1, .ref a2, .ref a3, .ref a4, .int i1, .ref a5, .int i2, .int i3, .int i4, .int i5, .int i6, .int i7, .int i8, .ref a6, .ref a7, .ref a8, .ref a9, .ref a10, .ref a11, .ref a12, .int i9, .ref a13, .int i10, .ref a14, .ref a15, .int i11, .ref a16, .ref a17, .ref a18, .ref a19, .int i12, .int i13, .int i14, .int i15, .int i16, .ref a20, .long j0, .ref a21, .ref a22, .ref a23, .ref a24])), (a1, .inl (cI, 544, .inl g1_2))]) [0, 1, 2, 3] rfl) (hD.sub (ws' := [(a8, .inl (cI, 600, .inl xF7)), (a10, .inl (cI, 10, .inl g2_1)), (a0, .inr (12, [.int i0, .ref a1, .ref a2, .ref a3, .ref a4, .int i1, .ref a5, .int i2, .int i3, .int i4, .int i5, .int i6, .int i7, .int i8, .ref a6, .ref a7, .ref a8, .ref a9, .ref a10, .ref a11, .ref a12, .int i9, .ref a13, .int i10, .ref a14, .ref a15, .int i11, .ref a16, .ref a17, .ref a18, .ref a19, .int i12, .int i13, .int i14, .int i15, .int i16, .ref a20, .long j0, .ref a21, .ref a22, .ref a23, .ref a24])), (a1, .inl (cI, 544, .inl g1_2))]) [0, 1, 2, 3] (by decide) rfl) hS (lv_sub hl [1, 2, 3, 0] rfl)
              · rw [ki_le] at c563
                refine lv_aload_n hx hb dX12_moves_173 rfl (lv_at hl 1 rfl) ?_
                refine lv_iload_n hx hb dX12_moves_174 rfl (lv_at hl 0 rfl) ?_
                have hPc := hP.sub (ws' := [(a0, .inr (12, [.int i0, .ref a1, .ref a2, .ref a3, .ref a4, .int i1, .ref a5, .int i2, .int i3, .int i4, .int i5, .int i6, .int i7, .int i8, .ref a6, .ref a7, .ref a8, .ref a9, .ref a10, .ref a11, .ref a12, .int i9, .ref a13, .int i10, .ref a14, .ref a15, .int i11, .ref a16, .ref a17, .ref a18, .ref a19, .int i12, .int i13, .int i14, .int i15, .int i16, .ref a20, .long j0, .ref a21, .ref a22, .ref a23, .ref a24])), (a1, .inl (cI, 544, .inl g1_2))]) [2, 3] rfl
                have hDc := hD.sub (ws' := [(a0, .inr (12, [.int i0, .ref a1, .ref a2, .ref a3, .ref a4, .int i1, .ref a5, .int i2, .int i3, .int i4, .int i5, .int i6, .int i7, .int i8, .ref a6, .ref a7, .ref a8, .ref a9, .ref a10, .ref a11, .ref a12, .int i9, .ref a13, .int i10, .ref a14, .ref a15, .int i11, .ref a16, .ref a17, .ref a18, .ref a19, .int i12, .int i13, .int i14, .int i15, .int i16, .ref a20, .long j0, .ref a21, .ref a22, .ref a23, .ref a24])), (a1, .inl (cI, 544, .inl g1_2))]) [2, 3] (by decide) rfl
                have hFc := va_free (wc := [(a0, .inr (12, [.int i0, .ref a1, .ref a2, .ref a3, .ref a4, .int i1, .ref a5, .int i2, .int i3, .int i4, .int i5, .int i6, .int i7, .int i8, .ref a6, .ref a7, .ref a8, .ref a9, .ref a10, .ref a11, .ref a12, .int i9, .ref a13, .int i10, .ref a14, .ref a15, .int i11, .ref a16, .ref a17, .ref a18, .ref a19, .int i12, .int i13, .int i14, .int i15, .int i16, .ref a20, .long j0, .ref a21, .ref a22, .ref a23, .ref a24])), (a1, .inl (cI, 544, .inl g1_2))]) hD hS hA [2, 3] rfl
                refine va_calli (va_runV (As := [.int r518]) (rest := []) ⟨hx, hb, hml, hown, hwd⟩ (s_X12_posOf l dC dI cI cZ cB cJ cM cG a0 a1 a2 a3 a4 a5 a6 a7 a8 a9 a10 a11 a12 a13 a14 a15 a16 a17 a18 a19 a20 a21 a22 a23 a24 i0 i1 i2 i3 i4 i5 i6 i7 i8 i9 i10 i11 i12 i13 i14 i15 i16 j0 g1_2 r518 cp H.size (show (0 : Int) ≤ i1.toInt ∧ i1.toInt ≤ 1600 from p_0) (show (0 : Int) ≤ i2.toInt ∧ i2.toInt ≤ 1600 from p_1) (show (0 : Int) ≤ i3.toInt ∧ i3.toInt ≤ 1600 from p_2) (show (0 : Int) ≤ i4.toInt ∧ i4.toInt ≤ 1600 from p_3) (show (0 : Int) ≤ i5.toInt ∧ i5.toInt ≤ 6 from p_4) (show (0 : Int) ≤ i7.toInt ∧ i7.toInt ≤ 3 from p_5) (show (0 : Int) ≤ i11.toInt ∧ i11.toInt ≤ 59 from p_6) (show WI cp g1_2 from hd_g1_2.1) (show (0 : Int) ≤ r518.toInt ∧ r518.toInt ≤ 9 from ⟨by omega, by omega⟩) p_9) (cwV 1 hwd (gV kr55_20 kr55_21 kr3_18 kr5_23 kr55_22) rfl rfl rfl (by decide +kernel) ⟨Nat.le_of_ble_eq_true rfl, Nat.le_of_ble_eq_true rfl⟩) (kPreV hPc hK hDc (ci := 12) (q0 := 0) rfl rfl) rfl rfl hl.1 rfl (lv_room (Nat.le_of_ble_eq_true rfl)) dX12_moves_175 ⟨Nat.le_of_ble_eq_true rfl, Nat.le_of_ble_eq_true rfl⟩) hS (fun q _ h => hFc q h) hFc (fun r564 u565 t H1 locs ht9 hvm hw hB hz1 hk1 hS => ?_)
                obtain ⟨hP1, hD1⟩ := hB
                rw [ht9] at hP1
                obtain ⟨hP, hD⟩ := va_join (wr := [(a8, .inl (cI, 600, .inl xF7)), (a10, .inl (cI, 10, .inl g2_1))]) (w1 := [(a0, .inr (12, [.int i0, .ref a1, .ref a2, .ref a3, .ref a4, .int i1, .ref a5, .int i2, .int i3, .int i4, .int i5, .int i6, .int i7, .int i8, .ref a6, .ref a7, .ref a8, .ref a9, .ref a10, .ref a11, .ref a12, .int i9, .ref a13, .int i10, .ref a14, .ref a15, .int i11, .ref a16, .ref a17, .ref a18, .ref a19, .int i12, .int i13, .int i14, .int i15, .int i16, .ref a20, .long j0, .ref a21, .ref a22, .ref a23, .ref a24])), (a1, .inl (cI, 544, .inl g1_2))]) hP hD [2, 3] [0, 1] rfl rfl (by decide) (by decide) hk1 hFc hP1 hD1
                generalize H1 = H at hP hS ⊢
                replace hP : va_P (dC, dI) vwCl [(a8, .inl (cI, 600, .inl xF7)), (a10, .inl (cI, 10, .inl g2_1)), (a0, .inr (12, [.int i0, .ref a1, .ref a2, .ref a3, .ref a4, .int i1, .ref a5, .int i2, .int i3, .int i4, .int i5, .int i6, .int i7, .int i8, .ref a6, .ref a7, .ref a8, .ref a9, .ref a10, .ref a11, .ref a12, .int i9, .ref a13, .int i10, .ref a14, .ref a15, .int i11, .ref a16, .ref a17, .ref a18, .ref a19, .int i12, .int i13, .int i14, .int i15, .int i16, .ref a20, .long j0, .ref a21, .ref a22, .ref a23, .ref a24])), (a1, .inl (cI, 544, .inl g1_2))] H := hP
                replace hD : va_D A [(a8, .inl (cI, 600, .inl xF7)), (a10, .inl (cI, 10, .inl g2_1)), (a0, .inr (12, [.int i0, .ref a1, .ref a2, .ref a3, .ref a4, .int i1, .ref a5, .int i2, .int i3, .int i4, .int i5, .int i6, .int i7, .int i8, .ref a6, .ref a7, .ref a8, .ref a9, .ref a10, .ref a11, .ref a12, .int i9, .ref a13, .int i10, .ref a14, .ref a15, .int i11, .ref a16, .ref a17, .ref a18, .ref a19, .int i12, .int i13, .int i14, .int i15, .int i16, .ref a20, .long j0, .ref a21, .ref a22, .ref a23, .ref a24])), (a1, .inl (cI, 544, .inl g1_2))] := hD
                refine lv_aload_n hx hb dX12_moves_178 rfl (lv_at hl 1 rfl) ?_
                refine lv_iload_n hx hb dX12_moves_179 rfl (lv_at hl 3 rfl) ?_
                refine lv_iconst (v := 1) hx hb dX12_moves_180 (by decide) ?_
                have hPc := hP.sub (ws' := [(a0, .inr (12, [.int i0, .ref a1, .ref a2, .ref a3, .ref a4, .int i1, .ref a5, .int i2, .int i3, .int i4, .int i5, .int i6, .int i7, .int i8, .ref a6, .ref a7, .ref a8, .ref a9, .ref a10, .ref a11, .ref a12, .int i9, .ref a13, .int i10, .ref a14, .ref a15, .int i11, .ref a16, .ref a17, .ref a18, .ref a19, .int i12, .int i13, .int i14, .int i15, .int i16, .ref a20, .long j0, .ref a21, .ref a22, .ref a23, .ref a24])), (a1, .inl (cI, 544, .inl g1_2))]) [2, 3] rfl
                have hDc := hD.sub (ws' := [(a0, .inr (12, [.int i0, .ref a1, .ref a2, .ref a3, .ref a4, .int i1, .ref a5, .int i2, .int i3, .int i4, .int i5, .int i6, .int i7, .int i8, .ref a6, .ref a7, .ref a8, .ref a9, .ref a10, .ref a11, .ref a12, .int i9, .ref a13, .int i10, .ref a14, .ref a15, .int i11, .ref a16, .ref a17, .ref a18, .ref a19, .int i12, .int i13, .int i14, .int i15, .int i16, .ref a20, .long j0, .ref a21, .ref a22, .ref a23, .ref a24])), (a1, .inl (cI, 544, .inl g1_2))]) [2, 3] (by decide) rfl
                have hFc := va_free (wc := [(a0, .inr (12, [.int i0, .ref a1, .ref a2, .ref a3, .ref a4, .int i1, .ref a5, .int i2, .int i3, .int i4, .int i5, .int i6, .int i7, .int i8, .ref a6, .ref a7, .ref a8, .ref a9, .ref a10, .ref a11, .ref a12, .int i9, .ref a13, .int i10, .ref a14, .ref a15, .int i11, .ref a16, .ref a17, .ref a18, .ref a19, .int i12, .int i13, .int i14, .int i15, .int i16, .ref a20, .long j0, .ref a21, .ref a22, .ref a23, .ref a24])), (a1, .inl (cI, 544, .inl g1_2))]) hD hS hA [2, 3] rfl
                refine va_calli (va_runV (As := [.int w2_2, .int 1]) (rest := [.int r564]) ⟨hx, hb, hml, hown, hwd⟩ (s_X12_ofPawl l dC dI cI cZ cB cJ cM cG a0 a1 a2 a3 a4 a5 a6 a7 a8 a9 a10 a11 a12 a13 a14 a15 a16 a17 a18 a19 a20 a21 a22 a23 a24 i0 i1 i2 i3 i4 i5 i6 i7 i8 i9 i10 i11 i12 i13 i14 i15 i16 j0 g1_2 w2_2 1 cp H.size (show (0 : Int) ≤ i1.toInt ∧ i1.toInt ≤ 1600 from p_0) (show (0 : Int) ≤ i2.toInt ∧ i2.toInt ≤ 1600 from p_1) (show (0 : Int) ≤ i3.toInt ∧ i3.toInt ≤ 1600 from p_2) (show (0 : Int) ≤ i4.toInt ∧ i4.toInt ≤ 1600 from p_3) (show (0 : Int) ≤ i5.toInt ∧ i5.toInt ≤ 6 from p_4) (show (0 : Int) ≤ i7.toInt ∧ i7.toInt ≤ 3 from p_5) (show (0 : Int) ≤ i11.toInt ∧ i11.toInt ≤ 59 from p_6) (show WI cp g1_2 from hd_g1_2.1) (show (0 : Int) ≤ w2_2.toInt ∧ w2_2.toInt ≤ 3 from ⟨by omega, by omega⟩) (show (0 : Int) ≤ (1 : Int32).toInt ∧ (1 : Int32).toInt ≤ 2 from ⟨by omega, by omega⟩) p_9) (cwV 2 hwd (gV kr58_0 kr58_1 kr4_2 kr5_23 kr58_2) rfl rfl rfl (by decide +kernel) ⟨Nat.le_of_ble_eq_true rfl, Nat.le_of_ble_eq_true rfl⟩) (kPreV hPc hK hDc (ci := 12) (q0 := 0) rfl rfl) rfl rfl hl.1 rfl (lv_room (Nat.le_of_ble_eq_true rfl)) dX12_moves_181 ⟨Nat.le_of_ble_eq_true rfl, Nat.le_of_ble_eq_true rfl⟩) hS (fun q _ h => hFc q h) hFc (fun r566 u567 t H1 locs ht9 hvm hw hB hz1 hk1 hS => ?_)
                obtain ⟨hw568, hw569, -⟩ := hw
                replace hw568 : ((1 : Int32).toInt = 0 → 0 ≤ r566.toInt ∧ r566.toInt ≤ 9) := hw568
                clear hw568
                replace hw569 : ((1 : Int32).toInt = 2 → w2_2.toInt < wat g1_2 7 → 2 ≤ r566.toInt) := hw569
                clear hw569
                obtain ⟨hP1, hD1⟩ := hB
                rw [ht9] at hP1
                obtain ⟨hP, hD⟩ := va_join (wr := [(a8, .inl (cI, 600, .inl xF7)), (a10, .inl (cI, 10, .inl g2_1))]) (w1 := [(a0, .inr (12, [.int i0, .ref a1, .ref a2, .ref a3, .ref a4, .int i1, .ref a5, .int i2, .int i3, .int i4, .int i5, .int i6, .int i7, .int i8, .ref a6, .ref a7, .ref a8, .ref a9, .ref a10, .ref a11, .ref a12, .int i9, .ref a13, .int i10, .ref a14, .ref a15, .int i11, .ref a16, .ref a17, .ref a18, .ref a19, .int i12, .int i13, .int i14, .int i15, .int i16, .ref a20, .long j0, .ref a21, .ref a22, .ref a23, .ref a24])), (a1, .inl (cI, 544, .inl g1_2))]) hP hD [2, 3] [0, 1] rfl rfl (by decide) (by decide) hk1 hFc hP1 hD1
                generalize H1 = H at hP hS ⊢
                replace hP : va_P (dC, dI) vwCl [(a8, .inl (cI, 600, .inl xF7)), (a10, .inl (cI, 10, .inl g2_1)), (a0, .inr (12, [.int i0, .ref a1, .ref a2, .ref a3, .ref a4, .int i1, .ref a5, .int i2, .int i3, .int i4, .int i5, .int i6, .int i7, .int i8, .ref a6, .ref a7, .ref a8, .ref a9, .ref a10, .ref a11, .ref a12, .int i9, .ref a13, .int i10, .ref a14, .ref a15, .int i11, .ref a16, .ref a17, .ref a18, .ref a19, .int i12, .int i13, .int i14, .int i15, .int i16, .ref a20, .long j0, .ref a21, .ref a22, .ref a23, .ref a24])), (a1, .inl (cI, 544, .inl g1_2))] H := hP
                replace hD : va_D A [(a8, .inl (cI, 600, .inl xF7)), (a10, .inl (cI, 10, .inl g2_1)), (a0, .inr (12, [.int i0, .ref a1, .ref a2, .ref a3, .ref a4, .int i1, .ref a5, .int i2, .int i3, .int i4, .int i5, .int i6, .int i7, .int i8, .ref a6, .ref a7, .ref a8, .ref a9, .ref a10, .ref a11, .ref a12, .int i9, .ref a13, .int i10, .ref a14, .ref a15, .int i11, .ref a16, .ref a17, .ref a18, .ref a19, .int i12, .int i13, .int i14, .int i15, .int i16, .ref a20, .long j0, .ref a21, .ref a22, .ref a23, .ref a24])), (a1, .inl (cI, 544, .inl g1_2))] := hD
                refine lv_icmp_lt (tgt := 191) hx hb dX12_moves_184 (by decide) (fun c570 => ?_) (fun c570 => ?_)
                · rw [ki_lt] at c570
                  exact jp8 _ _ ls  (hP.sub (ws' := [(a8, .inl (cI, 600, .inl xF7)), (a10, .inl (cI, 10, .inl g2_1)), (a0, .inr (12, [.int i0, .ref a1, .ref a2, .ref a3, .ref a4, .int i1, .ref a5, .int i2, .int i3, .int i4, .int i5, .int i6, .int i7, .int i8, .ref a6, .ref a7, .ref a8, .ref a9, .ref a10, .ref a11, .ref a12, .int i9, .ref a13, .int i10, .ref a14, .ref a15, .int i11, .ref a16, .ref a17, .ref a18, .ref a19, .int i12, .int i13, .int i14, .int i15, .int i16, .ref a20, .long j0, .ref a21, .ref a22, .ref a23, .ref a24])), (a1, .inl (cI, 544, .inl g1_2))]) [0, 1, 2, 3] rfl) (hD.sub (ws' := [(a8, .inl (cI, 600, .inl xF7)), (a10, .inl (cI, 10, .inl g2_1)), (a0, .inr (12, [.int i0, .ref a1, .ref a2, .ref a3, .ref a4, .int i1, .ref a5, .int i2, .int i3, .int i4, .int i5, .int i6, .int i7, .int i8, .ref a6, .ref a7, .ref a8, .ref a9, .ref a10, .ref a11, .ref a12, .int i9, .ref a13, .int i10, .ref a14, .ref a15, .int i11, .ref a16, .ref a17, .ref a18, .ref a19, .int i12, .int i13, .int i14, .int i15, .int i16, .ref a20, .long j0, .ref a21, .ref a22, .ref a23, .ref a24])), (a1, .inl (cI, 544, .inl g1_2))]) [0, 1, 2, 3] (by decide) rfl) hS (lv_sub hl [1, 2, 3, 0] rfl)
                · rw [ki_lt] at c570
                  refine lv_iconst (v := 1) hx hb dX12_moves_187 (by decide) ?_
                  refine lv_goto (tgt := 192) hx hb dX12_moves_188 (by decide) ?_
                  refine lv_istore (lv' := [(4, .int 1), (3, .int r518), (0, .ref a0), (1, .int p0), (2, .int w2_2)]) hx hb dX12_moves_192 hl (by decide) rfl (fun ls hl => ?_)
                  refine lv_aload_n hx hb dX12_moves_194 rfl (lv_at hl 2 rfl) ?_
                  refine va_get (D := (dC, dI)) (ci := 12) (v := .ref a1) (C := RX12) (T := TX12) (N := 42) hx hb hwd inlX12 hown hK hP 2 rfl rfl 1 (by decide) (hwd _ kr49_2) (fun _ h9 => h9) rfl dX12_moves_195 ?_
                  refine lv_sipush (v := 260) hx hb dX12_moves_198 (by decide) ?_
                  refine lv_iload_n hx hb dX12_moves_201 rfl (lv_at hl 4 rfl) ?_
                  refine lv_iadd hx hb dX12_moves_202 ?_
                  refine lv_topi (fun x571 ex571 => ?_)
                  have tx571 := ia_add (a := (260 : Int32)) (b := w2_2) (by omega) (by omega)
                  rw [← ex571] at tx571
                  refine lv_iload hx hb dX12_moves_203 (lv_at hl 0 rfl) ?_
                  refine lv_if_eq (tgt := 230) hx hb dX12_moves_205 (by decide) (fun c572 => absurd c572 (by decide)) (fun c572 => ?_)
                  refine lv_aload_n hx hb dX12_moves_208 rfl (lv_at hl 2 rfl) ?_
                  refine va_get (D := (dC, dI)) (ci := 12) (v := .ref a1) (C := RX12) (T := TX12) (N := 42) hx hb hwd inlX12 hown hK hP 2 rfl rfl 1 (by decide) (hwd _ kr49_2) (fun _ h9 => h9) rfl dX12_moves_209 ?_
                  refine lv_sipush (v := 260) hx hb dX12_moves_212 (by decide) ?_
                  refine lv_iload_n hx hb dX12_moves_215 rfl (lv_at hl 4 rfl) ?_
                  refine lv_iadd hx hb dX12_moves_216 ?_
                  refine lv_topi (fun x573 ex573 => ?_)
                  have tx573 := ia_add (a := (260 : Int32)) (b := w2_2) (by omega) (by omega)
                  rw [← ex573] at tx573
                  have h574 : vp_in x573 544 := (vp_of (by omega) (by omega))
                  refine va_iald hx hb hK hP 3 0 rfl rfl h574 dX12_moves_217 ?_
                  refine lv_topi (fun x575 ex575 => ?_)
                  have ix575 : x575.toInt = (g1_2 x573.toInt.toNat).toInt := by rw [ex575]; rfl
                  refine lv_iconst (v := 1) hx hb dX12_moves_218 (by decide) ?_
                  refine lv_iadd hx hb dX12_moves_219 ?_
                  refine lv_topi (fun x576 ex576 => ?_)
                  refine lv_aload_n hx hb dX12_moves_220 rfl (lv_at hl 2 rfl) ?_
                  refine lv_iload_n hx hb dX12_moves_221 rfl (lv_at hl 4 rfl) ?_
                  refine lv_iconst (v := 2) hx hb dX12_moves_222 (by decide) ?_
                  have hPc := hP.sub (ws' := [(a0, .inr (12, [.int i0, .ref a1, .ref a2, .ref a3, .ref a4, .int i1, .ref a5, .int i2, .int i3, .int i4, .int i5, .int i6, .int i7, .int i8, .ref a6, .ref a7, .ref a8, .ref a9, .ref a10, .ref a11, .ref a12, .int i9, .ref a13, .int i10, .ref a14, .ref a15, .int i11, .ref a16, .ref a17, .ref a18, .ref a19, .int i12, .int i13, .int i14, .int i15, .int i16, .ref a20, .long j0, .ref a21, .ref a22, .ref a23, .ref a24])), (a1, .inl (cI, 544, .inl g1_2))]) [2, 3] rfl
                  have hDc := hD.sub (ws' := [(a0, .inr (12, [.int i0, .ref a1, .ref a2, .ref a3, .ref a4, .int i1, .ref a5, .int i2, .int i3, .int i4, .int i5, .int i6, .int i7, .int i8, .ref a6, .ref a7, .ref a8, .ref a9, .ref a10, .ref a11, .ref a12, .int i9, .ref a13, .int i10, .ref a14, .ref a15, .int i11, .ref a16, .ref a17, .ref a18, .ref a19, .int i12, .int i13, .int i14, .int i15, .int i16, .ref a20, .long j0, .ref a21, .ref a22, .ref a23, .ref a24])), (a1, .inl (cI, 544, .inl g1_2))]) [2, 3] (by decide) rfl
                  have hFc := va_free (wc := [(a0, .inr (12, [.int i0, .ref a1, .ref a2, .ref a3, .ref a4, .int i1, .ref a5, .int i2, .int i3, .int i4, .int i5, .int i6, .int i7, .int i8, .ref a6, .ref a7, .ref a8, .ref a9, .ref a10, .ref a11, .ref a12, .int i9, .ref a13, .int i10, .ref a14, .ref a15, .int i11, .ref a16, .ref a17, .ref a18, .ref a19, .int i12, .int i13, .int i14, .int i15, .int i16, .ref a20, .long j0, .ref a21, .ref a22, .ref a23, .ref a24])), (a1, .inl (cI, 544, .inl g1_2))]) hD hS hA [2, 3] rfl
                  refine va_calli (va_runV (As := [.int w2_2, .int 2]) (rest := [.int x576, .int x571, .ref a1]) ⟨hx, hb, hml, hown, hwd⟩ (s_X12_ofPawl l dC dI cI cZ cB cJ cM cG a0 a1 a2 a3 a4 a5 a6 a7 a8 a9 a10 a11 a12 a13 a14 a15 a16 a17 a18 a19 a20 a21 a22 a23 a24 i0 i1 i2 i3 i4 i5 i6 i7 i8 i9 i10 i11 i12 i13 i14 i15 i16 j0 g1_2 w2_2 2 cp H.size (show (0 : Int) ≤ i1.toInt ∧ i1.toInt ≤ 1600 from p_0) (show (0 : Int) ≤ i2.toInt ∧ i2.toInt ≤ 1600 from p_1) (show (0 : Int) ≤ i3.toInt ∧ i3.toInt ≤ 1600 from p_2) (show (0 : Int) ≤ i4.toInt ∧ i4.toInt ≤ 1600 from p_3) (show (0 : Int) ≤ i5.toInt ∧ i5.toInt ≤ 6 from p_4) (show (0 : Int) ≤ i7.toInt ∧ i7.toInt ≤ 3 from p_5) (show (0 : Int) ≤ i11.toInt ∧ i11.toInt ≤ 59 from p_6) (show WI cp g1_2 from hd_g1_2.1) (show (0 : Int) ≤ w2_2.toInt ∧ w2_2.toInt ≤ 3 from ⟨by omega, by omega⟩) (show (0 : Int) ≤ (2 : Int32).toInt ∧ (2 : Int32).toInt ≤ 2 from ⟨by omega, by omega⟩) p_9) (cwV 2 hwd (gV kr58_0 kr58_1 kr4_2 kr5_23 kr58_2) rfl rfl rfl (by decide +kernel) ⟨Nat.le_of_ble_eq_true rfl, Nat.le_of_ble_eq_true rfl⟩) (kPreV hPc hK hDc (ci := 12) (q0 := 0) rfl rfl) rfl rfl hl.1 rfl (lv_room (Nat.le_of_ble_eq_true rfl)) dX12_moves_223 ⟨Nat.le_of_ble_eq_true rfl, Nat.le_of_ble_eq_true rfl⟩) hS (fun q _ h => hFc q h) hFc (fun r577 u578 t H1 locs ht9 hvm hw hB hz1 hk1 hS => ?_)
                  obtain ⟨hw579, hw580, -⟩ := hw
                  replace hw579 : ((2 : Int32).toInt = 0 → 0 ≤ r577.toInt ∧ r577.toInt ≤ 9) := hw579
                  clear hw579
                  replace hw580 : ((2 : Int32).toInt = 2 → w2_2.toInt < wat g1_2 7 → 2 ≤ r577.toInt) := hw580
                  replace hw580 := hw580 (by decide)
                  obtain ⟨hP1, hD1⟩ := hB
                  rw [ht9] at hP1
                  obtain ⟨hP, hD⟩ := va_join (wr := [(a8, .inl (cI, 600, .inl xF7)), (a10, .inl (cI, 10, .inl g2_1))]) (w1 := [(a0, .inr (12, [.int i0, .ref a1, .ref a2, .ref a3, .ref a4, .int i1, .ref a5, .int i2, .int i3, .int i4, .int i5, .int i6, .int i7, .int i8, .ref a6, .ref a7, .ref a8, .ref a9, .ref a10, .ref a11, .ref a12, .int i9, .ref a13, .int i10, .ref a14, .ref a15, .int i11, .ref a16, .ref a17, .ref a18, .ref a19, .int i12, .int i13, .int i14, .int i15, .int i16, .ref a20, .long j0, .ref a21, .ref a22, .ref a23, .ref a24])), (a1, .inl (cI, 544, .inl g1_2))]) hP hD [2, 3] [0, 1] rfl rfl (by decide) (by decide) hk1 hFc hP1 hD1
                  generalize H1 = H at hP hS ⊢
                  replace hP : va_P (dC, dI) vwCl [(a8, .inl (cI, 600, .inl xF7)), (a10, .inl (cI, 10, .inl g2_1)), (a0, .inr (12, [.int i0, .ref a1, .ref a2, .ref a3, .ref a4, .int i1, .ref a5, .int i2, .int i3, .int i4, .int i5, .int i6, .int i7, .int i8, .ref a6, .ref a7, .ref a8, .ref a9, .ref a10, .ref a11, .ref a12, .int i9, .ref a13, .int i10, .ref a14, .ref a15, .int i11, .ref a16, .ref a17, .ref a18, .ref a19, .int i12, .int i13, .int i14, .int i15, .int i16, .ref a20, .long j0, .ref a21, .ref a22, .ref a23, .ref a24])), (a1, .inl (cI, 544, .inl g1_2))] H := hP
                  replace hD : va_D A [(a8, .inl (cI, 600, .inl xF7)), (a10, .inl (cI, 10, .inl g2_1)), (a0, .inr (12, [.int i0, .ref a1, .ref a2, .ref a3, .ref a4, .int i1, .ref a5, .int i2, .int i3, .int i4, .int i5, .int i6, .int i7, .int i8, .ref a6, .ref a7, .ref a8, .ref a9, .ref a10, .ref a11, .ref a12, .int i9, .ref a13, .int i10, .ref a14, .ref a15, .int i11, .ref a16, .ref a17, .ref a18, .ref a19, .int i12, .int i13, .int i14, .int i15, .int i16, .ref a20, .long j0, .ref a21, .ref a22, .ref a23, .ref a24])), (a1, .inl (cI, 544, .inl g1_2))] := hD
                  refine lv_irem hx hb dX12_moves_226 (fun h9 => by rw [ki_eq] at h9; omega) ?_
                  refine lv_topi (fun x581 ex581 => ?_)
                  refine lv_goto (tgt := 240) hx hb dX12_moves_227 (by decide) ?_
                  refine va_iast hx hb hK hP hD hS 3 0 rfl rfl (vp_of (by omega) (by omega)) dX12_moves_240 (fun H locs hP hD hS => ?_)
                  obtain ⟨f582, ef582⟩ : ∃ f, f = upd g1_2 x571.toNatClampNeg x581 := ⟨_, rfl⟩
                  have df582 : WJ cp f582 := by rw [ef582]; exact WJ_free hd_g1_2 (by omega) (by omega)
                  replace hP : va_P (dC, dI) vwCl [(a8, .inl (cI, 600, .inl xF7)), (a10, .inl (cI, 10, .inl g2_1)), (a0, .inr (12, [.int i0, .ref a1, .ref a2, .ref a3, .ref a4, .int i1, .ref a5, .int i2, .int i3, .int i4, .int i5, .int i6, .int i7, .int i8, .ref a6, .ref a7, .ref a8, .ref a9, .ref a10, .ref a11, .ref a12, .int i9, .ref a13, .int i10, .ref a14, .ref a15, .int i11, .ref a16, .ref a17, .ref a18, .ref a19, .int i12, .int i13, .int i14, .int i15, .int i16, .ref a20, .long j0, .ref a21, .ref a22, .ref a23, .ref a24])), (a1, .inl (cI, 544, .inl f582))] H := by rw [ef582]; exact hP
                  replace hD : va_D A [(a8, .inl (cI, 600, .inl xF7)), (a10, .inl (cI, 10, .inl g2_1)), (a0, .inr (12, [.int i0, .ref a1, .ref a2, .ref a3, .ref a4, .int i1, .ref a5, .int i2, .int i3, .int i4, .int i5, .int i6, .int i7, .int i8, .ref a6, .ref a7, .ref a8, .ref a9, .ref a10, .ref a11, .ref a12, .int i9, .ref a13, .int i10, .ref a14, .ref a15, .int i11, .ref a16, .ref a17, .ref a18, .ref a19, .int i12, .int i13, .int i14, .int i15, .int i16, .ref a20, .long j0, .ref a21, .ref a22, .ref a23, .ref a24])), (a1, .inl (cI, 544, .inl f582))] := by rw [ef582]; exact hD
                  obtain ⟨x583, ex583⟩ : ∃ y : Int32, y = w2_2 + 1 := ⟨_, rfl⟩
                  refine lv_iinc (v := x583) (lv' := [(2, .int x583), (4, .int 1), (3, .int r518), (0, .ref a0), (1, .int p0)]) hx hb dX12_moves_241 hl (k := 4) rfl (by rw [ex583]; rfl) (by decide) rfl (fun ls hl => ?_)
                  have tx583 := ia_add (a := w2_2) (b := (1 : Int32)) (by omega) (by omega)
                  rw [← ex583] at tx583
                  refine lv_goto (tgt := 140) hx hb dX12_moves_244 (by decide) ?_
                  exact ih2 _ _ ls x583 f582 (show (0 : Int) ≤ x583.toInt ∧ x583.toInt ≤ 4 from ⟨by omega, by omega⟩) (show WJ cp f582 from df582) (by omega) (hP.sub (ws' := [(a0, .inr (12, [.int i0, .ref a1, .ref a2, .ref a3, .ref a4, .int i1, .ref a5, .int i2, .int i3, .int i4, .int i5, .int i6, .int i7, .int i8, .ref a6, .ref a7, .ref a8, .ref a9, .ref a10, .ref a11, .ref a12, .int i9, .ref a13, .int i10, .ref a14, .ref a15, .int i11, .ref a16, .ref a17, .ref a18, .ref a19, .int i12, .int i13, .int i14, .int i15, .int i16, .ref a20, .long j0, .ref a21, .ref a22, .ref a23, .ref a24])), (a1, .inl (cI, 544, .inl f582)), (a8, .inl (cI, 600, .inl xF7)), (a10, .inl (cI, 10, .inl g2_1))]) [2, 3, 0, 1] rfl) (hD.sub (ws' := [(a0, .inr (12, [.int i0, .ref a1, .ref a2, .ref a3, .ref a4, .int i1, .ref a5, .int i2, .int i3, .int i4, .int i5, .int i6, .int i7, .int i8, .ref a6, .ref a7, .ref a8, .ref a9, .ref a10, .ref a11, .ref a12, .int i9, .ref a13, .int i10, .ref a14, .ref a15, .int i11, .ref a16, .ref a17, .ref a18, .ref a19, .int i12, .int i13, .int i14, .int i15, .int i16, .ref a20, .long j0, .ref a21, .ref a22, .ref a23, .ref a24])), (a1, .inl (cI, 544, .inl f582)), (a8, .inl (cI, 600, .inl xF7)), (a10, .inl (cI, 10, .inl g2_1))]) [2, 3, 0, 1] (by decide) rfl) hS (lv_sub hl [3, 4, 0] rfl)
        exact lp2 _ _ _ ls (0) g1_1 (show (0 : Int) ≤ (0 : Int32).toInt ∧ (0 : Int32).toInt ≤ 4 from ⟨by omega, by omega⟩) (show WJ cp g1_1 from hd_g1_1) (Nat.lt_succ_self _) (hP.sub (ws' := [(a0, .inr (12, [.int i0, .ref a1, .ref a2, .ref a3, .ref a4, .int i1, .ref a5, .int i2, .int i3, .int i4, .int i5, .int i6, .int i7, .int i8, .ref a6, .ref a7, .ref a8, .ref a9, .ref a10, .ref a11, .ref a12, .int i9, .ref a13, .int i10, .ref a14, .ref a15, .int i11, .ref a16, .ref a17, .ref a18, .ref a19, .int i12, .int i13, .int i14, .int i15, .int i16, .ref a20, .long j0, .ref a21, .ref a22, .ref a23, .ref a24])), (a1, .inl (cI, 544, .inl g1_1)), (a8, .inl (cI, 600, .inl xF7)), (a10, .inl (cI, 10, .inl g2_1))]) [0, 1, 2, 3] rfl) (hD.sub (ws' := [(a0, .inr (12, [.int i0, .ref a1, .ref a2, .ref a3, .ref a4, .int i1, .ref a5, .int i2, .int i3, .int i4, .int i5, .int i6, .int i7, .int i8, .ref a6, .ref a7, .ref a8, .ref a9, .ref a10, .ref a11, .ref a12, .int i9, .ref a13, .int i10, .ref a14, .ref a15, .int i11, .ref a16, .ref a17, .ref a18, .ref a19, .int i12, .int i13, .int i14, .int i15, .int i16, .ref a20, .long j0, .ref a21, .ref a22, .ref a23, .ref a24])), (a1, .inl (cI, 544, .inl g1_1)), (a8, .inl (cI, 600, .inl xF7)), (a10, .inl (cI, 10, .inl g2_1))]) [0, 1, 2, 3] (by decide) rfl) hS (lv_sub hl [1, 2, 0] rfl)
      · rw [ki_le] at c305
        refine lv_aload_n hx hb dX12_moves_13 rfl (lv_at hl 0 rfl) ?_
        refine va_get (D := (dC, dI)) (ci := 12) (v := .ref a10) (C := RX12) (T := TX12) (N := 42) hx hb hwd inlX12 hown hK hP 0 rfl rfl 18 (by decide) (hwd _ kr49_19) (fun _ h9 => h9) rfl dX12_moves_14 ?_
        refine lv_iload_n hx hb dX12_moves_17 rfl (lv_at hl 2 rfl) ?_
        refine lv_aload_n hx hb dX12_moves_18 rfl (lv_at hl 0 rfl) ?_
        refine lv_iload_n hx hb dX12_moves_19 rfl (lv_at hl 2 rfl) ?_
        have hPc := hP.sub (ws' := [(a0, .inr (12, [.int i0, .ref a1, .ref a2, .ref a3, .ref a4, .int i1, .ref a5, .int i2, .int i3, .int i4, .int i5, .int i6, .int i7, .int i8, .ref a6, .ref a7, .ref a8, .ref a9, .ref a10, .ref a11, .ref a12, .int i9, .ref a13, .int i10, .ref a14, .ref a15, .int i11, .ref a16, .ref a17, .ref a18, .ref a19, .int i12, .int i13, .int i14, .int i15, .int i16, .ref a20, .long j0, .ref a21, .ref a22, .ref a23, .ref a24])), (a1, .inl (cI, 544, .inl g1_1))]) [0, 1] rfl
        have hDc := hD.sub (ws' := [(a0, .inr (12, [.int i0, .ref a1, .ref a2, .ref a3, .ref a4, .int i1, .ref a5, .int i2, .int i3, .int i4, .int i5, .int i6, .int i7, .int i8, .ref a6, .ref a7, .ref a8, .ref a9, .ref a10, .ref a11, .ref a12, .int i9, .ref a13, .int i10, .ref a14, .ref a15, .int i11, .ref a16, .ref a17, .ref a18, .ref a19, .int i12, .int i13, .int i14, .int i15, .int i16, .ref a20, .long j0, .ref a21, .ref a22, .ref a23, .ref a24])), (a1, .inl (cI, 544, .inl g1_1))]) [0, 1] (by decide) rfl
        have hFc := va_free (wc := [(a0, .inr (12, [.int i0, .ref a1, .ref a2, .ref a3, .ref a4, .int i1, .ref a5, .int i2, .int i3, .int i4, .int i5, .int i6, .int i7, .int i8, .ref a6, .ref a7, .ref a8, .ref a9, .ref a10, .ref a11, .ref a12, .int i9, .ref a13, .int i10, .ref a14, .ref a15, .int i11, .ref a16, .ref a17, .ref a18, .ref a19, .int i12, .int i13, .int i14, .int i15, .int i16, .ref a20, .long j0, .ref a21, .ref a22, .ref a23, .ref a24])), (a1, .inl (cI, 544, .inl g1_1))]) hD hS hA [0, 1] rfl
        refine va_calli (va_runV (As := [.int w2_1]) (rest := [.int w2_1, .ref a10]) ⟨hx, hb, hml, hown, hwd⟩ (s_X12_posOf l dC dI cI cZ cB cJ cM cG a0 a1 a2 a3 a4 a5 a6 a7 a8 a9 a10 a11 a12 a13 a14 a15 a16 a17 a18 a19 a20 a21 a22 a23 a24 i0 i1 i2 i3 i4 i5 i6 i7 i8 i9 i10 i11 i12 i13 i14 i15 i16 j0 g1_1 w2_1 cp H.size (show (0 : Int) ≤ i1.toInt ∧ i1.toInt ≤ 1600 from p_0) (show (0 : Int) ≤ i2.toInt ∧ i2.toInt ≤ 1600 from p_1) (show (0 : Int) ≤ i3.toInt ∧ i3.toInt ≤ 1600 from p_2) (show (0 : Int) ≤ i4.toInt ∧ i4.toInt ≤ 1600 from p_3) (show (0 : Int) ≤ i5.toInt ∧ i5.toInt ≤ 6 from p_4) (show (0 : Int) ≤ i7.toInt ∧ i7.toInt ≤ 3 from p_5) (show (0 : Int) ≤ i11.toInt ∧ i11.toInt ≤ 59 from p_6) (show WI cp g1_1 from hd_g1_1.1) (show (0 : Int) ≤ w2_1.toInt ∧ w2_1.toInt ≤ 9 from ⟨by omega, by omega⟩) p_9) (cwV 1 hwd (gV kr55_20 kr55_21 kr3_18 kr5_23 kr55_22) rfl rfl rfl (by decide +kernel) ⟨Nat.le_of_ble_eq_true rfl, Nat.le_of_ble_eq_true rfl⟩) (kPreV hPc hK hDc (ci := 12) (q0 := 0) rfl rfl) rfl rfl hl.1 rfl (lv_room (Nat.le_of_ble_eq_true rfl)) dX12_moves_20 ⟨Nat.le_of_ble_eq_true rfl, Nat.le_of_ble_eq_true rfl⟩) hS (fun q _ h => hFc q h) hFc (fun r584 u585 t H1 locs ht9 hvm hw hB hz1 hk1 hS => ?_)
        obtain ⟨hP1, hD1⟩ := hB
        rw [ht9] at hP1
        obtain ⟨hP, hD⟩ := va_join (wr := [(a8, .inl (cI, 600, .inl xF7)), (a10, .inl (cI, 10, .inl g2_1))]) (w1 := [(a0, .inr (12, [.int i0, .ref a1, .ref a2, .ref a3, .ref a4, .int i1, .ref a5, .int i2, .int i3, .int i4, .int i5, .int i6, .int i7, .int i8, .ref a6, .ref a7, .ref a8, .ref a9, .ref a10, .ref a11, .ref a12, .int i9, .ref a13, .int i10, .ref a14, .ref a15, .int i11, .ref a16, .ref a17, .ref a18, .ref a19, .int i12, .int i13, .int i14, .int i15, .int i16, .ref a20, .long j0, .ref a21, .ref a22, .ref a23, .ref a24])), (a1, .inl (cI, 544, .inl g1_1))]) hP hD [0, 1] [2, 3] rfl rfl (by decide) (by decide) hk1 hFc hP1 hD1
        generalize H1 = H at hP hS ⊢
        replace hP : va_P (dC, dI) vwCl [(a8, .inl (cI, 600, .inl xF7)), (a10, .inl (cI, 10, .inl g2_1)), (a0, .inr (12, [.int i0, .ref a1, .ref a2, .ref a3, .ref a4, .int i1, .ref a5, .int i2, .int i3, .int i4, .int i5, .int i6, .int i7, .int i8, .ref a6, .ref a7, .ref a8, .ref a9, .ref a10, .ref a11, .ref a12, .int i9, .ref a13, .int i10, .ref a14, .ref a15, .int i11, .ref a16, .ref a17, .ref a18, .ref a19, .int i12, .int i13, .int i14, .int i15, .int i16, .ref a20, .long j0, .ref a21, .ref a22, .ref a23, .ref a24])), (a1, .inl (cI, 544, .inl g1_1))] H := hP
        replace hD : va_D A [(a8, .inl (cI, 600, .inl xF7)), (a10, .inl (cI, 10, .inl g2_1)), (a0, .inr (12, [.int i0, .ref a1, .ref a2, .ref a3, .ref a4, .int i1, .ref a5, .int i2, .int i3, .int i4, .int i5, .int i6, .int i7, .int i8, .ref a6, .ref a7, .ref a8, .ref a9, .ref a10, .ref a11, .ref a12, .int i9, .ref a13, .int i10, .ref a14, .ref a15, .int i11, .ref a16, .ref a17, .ref a18, .ref a19, .int i12, .int i13, .int i14, .int i15, .int i16, .ref a20, .long j0, .ref a21, .ref a22, .ref a23, .ref a24])), (a1, .inl (cI, 544, .inl g1_1))] := hD
        refine va_iast hx hb hK hP hD hS 1 0 rfl rfl (vp_of (by omega) (by omega)) dX12_moves_23 (fun H locs hP hD hS => ?_)
        obtain ⟨f586, ef586⟩ : ∃ f, f = upd g2_1 w2_1.toNatClampNeg r584 := ⟨_, rfl⟩
        replace hP : va_P (dC, dI) vwCl [(a8, .inl (cI, 600, .inl xF7)), (a10, .inl (cI, 10, .inl f586)), (a0, .inr (12, [.int i0, .ref a1, .ref a2, .ref a3, .ref a4, .int i1, .ref a5, .int i2, .int i3, .int i4, .int i5, .int i6, .int i7, .int i8, .ref a6, .ref a7, .ref a8, .ref a9, .ref a10, .ref a11, .ref a12, .int i9, .ref a13, .int i10, .ref a14, .ref a15, .int i11, .ref a16, .ref a17, .ref a18, .ref a19, .int i12, .int i13, .int i14, .int i15, .int i16, .ref a20, .long j0, .ref a21, .ref a22, .ref a23, .ref a24])), (a1, .inl (cI, 544, .inl g1_1))] H := by rw [ef586]; exact hP
        replace hD : va_D A [(a8, .inl (cI, 600, .inl xF7)), (a10, .inl (cI, 10, .inl f586)), (a0, .inr (12, [.int i0, .ref a1, .ref a2, .ref a3, .ref a4, .int i1, .ref a5, .int i2, .int i3, .int i4, .int i5, .int i6, .int i7, .int i8, .ref a6, .ref a7, .ref a8, .ref a9, .ref a10, .ref a11, .ref a12, .int i9, .ref a13, .int i10, .ref a14, .ref a15, .int i11, .ref a16, .ref a17, .ref a18, .ref a19, .int i12, .int i13, .int i14, .int i15, .int i16, .ref a20, .long j0, .ref a21, .ref a22, .ref a23, .ref a24])), (a1, .inl (cI, 544, .inl g1_1))] := by rw [ef586]; exact hD
        refine lv_aload_n hx hb dX12_moves_24 rfl (lv_at hl 0 rfl) ?_
        refine lv_iload_n hx hb dX12_moves_25 rfl (lv_at hl 2 rfl) ?_
        refine lv_iconst (v := 0) hx hb dX12_moves_26 (by decide) ?_
        have hPc := hP.sub (ws' := [(a0, .inr (12, [.int i0, .ref a1, .ref a2, .ref a3, .ref a4, .int i1, .ref a5, .int i2, .int i3, .int i4, .int i5, .int i6, .int i7, .int i8, .ref a6, .ref a7, .ref a8, .ref a9, .ref a10, .ref a11, .ref a12, .int i9, .ref a13, .int i10, .ref a14, .ref a15, .int i11, .ref a16, .ref a17, .ref a18, .ref a19, .int i12, .int i13, .int i14, .int i15, .int i16, .ref a20, .long j0, .ref a21, .ref a22, .ref a23, .ref a24])), (a1, .inl (cI, 544, .inl g1_1))]) [2, 3] rfl
        have hDc := hD.sub (ws' := [(a0, .inr (12, [.int i0, .ref a1, .ref a2, .ref a3, .ref a4, .int i1, .ref a5, .int i2, .int i3, .int i4, .int i5, .int i6, .int i7, .int i8, .ref a6, .ref a7, .ref a8, .ref a9, .ref a10, .ref a11, .ref a12, .int i9, .ref a13, .int i10, .ref a14, .ref a15, .int i11, .ref a16, .ref a17, .ref a18, .ref a19, .int i12, .int i13, .int i14, .int i15, .int i16, .ref a20, .long j0, .ref a21, .ref a22, .ref a23, .ref a24])), (a1, .inl (cI, 544, .inl g1_1))]) [2, 3] (by decide) rfl
        have hFc := va_free (wc := [(a0, .inr (12, [.int i0, .ref a1, .ref a2, .ref a3, .ref a4, .int i1, .ref a5, .int i2, .int i3, .int i4, .int i5, .int i6, .int i7, .int i8, .ref a6, .ref a7, .ref a8, .ref a9, .ref a10, .ref a11, .ref a12, .int i9, .ref a13, .int i10, .ref a14, .ref a15, .int i11, .ref a16, .ref a17, .ref a18, .ref a19, .int i12, .int i13, .int i14, .int i15, .int i16, .ref a20, .long j0, .ref a21, .ref a22, .ref a23, .ref a24])), (a1, .inl (cI, 544, .inl g1_1))]) hD hS hA [2, 3] rfl
        refine va_calli (va_runV (As := [.int w2_1, .int 0]) (rest := []) ⟨hx, hb, hml, hown, hwd⟩ (s_X12_of l dC dI cI cZ cB cJ cM cG a0 a1 a2 a3 a4 a5 a6 a7 a8 a9 a10 a11 a12 a13 a14 a15 a16 a17 a18 a19 a20 a21 a22 a23 a24 i0 i1 i2 i3 i4 i5 i6 i7 i8 i9 i10 i11 i12 i13 i14 i15 i16 j0 g1_1 w2_1 0 cp H.size (show (0 : Int) ≤ i1.toInt ∧ i1.toInt ≤ 1600 from p_0) (show (0 : Int) ≤ i2.toInt ∧ i2.toInt ≤ 1600 from p_1) (show (0 : Int) ≤ i3.toInt ∧ i3.toInt ≤ 1600 from p_2) (show (0 : Int) ≤ i4.toInt ∧ i4.toInt ≤ 1600 from p_3) (show (0 : Int) ≤ i5.toInt ∧ i5.toInt ≤ 6 from p_4) (show (0 : Int) ≤ i7.toInt ∧ i7.toInt ≤ 3 from p_5) (show (0 : Int) ≤ i11.toInt ∧ i11.toInt ≤ 59 from p_6) (show WI cp g1_1 from hd_g1_1.1) (show (0 : Int) ≤ w2_1.toInt ∧ w2_1.toInt ≤ 9 from ⟨by omega, by omega⟩) (show (0 : Int) ≤ (0 : Int32).toInt ∧ (0 : Int32).toInt ≤ 5 from ⟨by omega, by omega⟩) p_9) (cwV 2 hwd (gV kr55_11 kr55_12 kr3_15 kr5_23 kr55_13) rfl rfl rfl (by decide +kernel) ⟨Nat.le_of_ble_eq_true rfl, Nat.le_of_ble_eq_true rfl⟩) (kPreV hPc hK hDc (ci := 12) (q0 := 0) rfl rfl) rfl rfl hl.1 rfl (lv_room (Nat.le_of_ble_eq_true rfl)) dX12_moves_27 ⟨Nat.le_of_ble_eq_true rfl, Nat.le_of_ble_eq_true rfl⟩) hS (fun q _ h => hFc q h) hFc (fun r587 u588 t H1 locs ht9 hvm hw hB hz1 hk1 hS => ?_)
        obtain ⟨hw589, -⟩ := hw
        replace hw589 : r587.toInt = wfo g1_1 0 w2_1.toInt := hw589
        have wf590 := hd_g1_1.1.2.2.1 w2_1.toInt (by omega) (by omega)
        unfold wfl at wf590
        obtain ⟨hP1, hD1⟩ := hB
        rw [ht9] at hP1
        obtain ⟨hP, hD⟩ := va_join (wr := [(a8, .inl (cI, 600, .inl xF7)), (a10, .inl (cI, 10, .inl f586))]) (w1 := [(a0, .inr (12, [.int i0, .ref a1, .ref a2, .ref a3, .ref a4, .int i1, .ref a5, .int i2, .int i3, .int i4, .int i5, .int i6, .int i7, .int i8, .ref a6, .ref a7, .ref a8, .ref a9, .ref a10, .ref a11, .ref a12, .int i9, .ref a13, .int i10, .ref a14, .ref a15, .int i11, .ref a16, .ref a17, .ref a18, .ref a19, .int i12, .int i13, .int i14, .int i15, .int i16, .ref a20, .long j0, .ref a21, .ref a22, .ref a23, .ref a24])), (a1, .inl (cI, 544, .inl g1_1))]) hP hD [2, 3] [0, 1] rfl rfl (by decide) (by decide) hk1 hFc hP1 hD1
        generalize H1 = H at hP hS ⊢
        replace hP : va_P (dC, dI) vwCl [(a8, .inl (cI, 600, .inl xF7)), (a10, .inl (cI, 10, .inl f586)), (a0, .inr (12, [.int i0, .ref a1, .ref a2, .ref a3, .ref a4, .int i1, .ref a5, .int i2, .int i3, .int i4, .int i5, .int i6, .int i7, .int i8, .ref a6, .ref a7, .ref a8, .ref a9, .ref a10, .ref a11, .ref a12, .int i9, .ref a13, .int i10, .ref a14, .ref a15, .int i11, .ref a16, .ref a17, .ref a18, .ref a19, .int i12, .int i13, .int i14, .int i15, .int i16, .ref a20, .long j0, .ref a21, .ref a22, .ref a23, .ref a24])), (a1, .inl (cI, 544, .inl g1_1))] H := hP
        replace hD : va_D A [(a8, .inl (cI, 600, .inl xF7)), (a10, .inl (cI, 10, .inl f586)), (a0, .inr (12, [.int i0, .ref a1, .ref a2, .ref a3, .ref a4, .int i1, .ref a5, .int i2, .int i3, .int i4, .int i5, .int i6, .int i7, .int i8, .ref a6, .ref a7, .ref a8, .ref a9, .ref a10, .ref a11, .ref a12, .int i9, .ref a13, .int i10, .ref a14, .ref a15, .int i11, .ref a16, .ref a17, .ref a18, .ref a19, .int i12, .int i13, .int i14, .int i15, .int i16, .ref a20, .long j0, .ref a21, .ref a22, .ref a23, .ref a24])), (a1, .inl (cI, 544, .inl g1_1))] := hD
        refine lv_iconst (v := 3) hx hb dX12_moves_30 (by decide) ?_
        refine lv_icmp_ne (tgt := 38) hx hb dX12_moves_31 (by decide) (fun c591 => ?_) (fun c591 => ?_)
        · rw [ki_eq] at c591
          refine lv_iconst (v := 0) hx hb dX12_moves_38 (by decide) ?_
          refine lv_istore_n (lv' := [(3, .int 0), (0, .ref a0), (1, .int p0), (2, .int w2_1)]) hx hb dX12_moves_39 rfl hl (by decide) rfl (fun ls hl => ?_)
          refine lv_aload_n hx hb dX12_moves_40 rfl (lv_at hl 1 rfl) ?_
          refine va_get (D := (dC, dI)) (ci := 12) (v := .ref a1) (C := RX12) (T := TX12) (N := 42) hx hb hwd inlX12 hown hK hP 2 rfl rfl 1 (by decide) (hwd _ kr49_2) (fun _ h9 => h9) rfl dX12_moves_41 ?_
          refine lv_sipush (v := 264) hx hb dX12_moves_44 (by decide) ?_
          refine lv_iload_n hx hb dX12_moves_47 rfl (lv_at hl 3 rfl) ?_
          refine lv_iadd hx hb dX12_moves_48 ?_
          refine lv_topi (fun x592 ex592 => ?_)
          have tx592 := ia_add (a := (264 : Int32)) (b := w2_1) (by omega) (by omega)
          rw [← ex592] at tx592
          refine lv_iload_n hx hb dX12_moves_49 rfl (lv_at hl 0 rfl) ?_
          refine lv_if_eq (tgt := 71) hx hb dX12_moves_50 (by decide) (fun c593 => ?_) (fun c593 => absurd c593 (by decide))
          refine lv_aload_n hx hb dX12_moves_71 rfl (lv_at hl 1 rfl) ?_
          refine va_get (D := (dC, dI)) (ci := 12) (v := .ref a8) (C := RX12) (T := TX12) (N := 42) hx hb hwd inlX12 hown hK hP 2 rfl rfl 16 (by decide) (hwd _ kr49_17) (fun _ h9 => h9) rfl dX12_moves_72 ?_
          refine lv_bipush (v := 60) hx hb dX12_moves_75 (by decide) ?_
          refine lv_iload_n hx hb dX12_moves_77 rfl (lv_at hl 3 rfl) ?_
          refine lv_imul hx hb dX12_moves_78 ?_
          refine lv_topi (fun x594 ex594 => ?_)
          have tx594 := ia_mull (a := (60 : Int32)) (b := w2_1) 60 (by decide) (by omega) (by omega)
          rw [← ex594] at tx594
          refine lv_iload_n hx hb dX12_moves_79 rfl (lv_at hl 2 rfl) ?_
          refine lv_iadd hx hb dX12_moves_80 ?_
          refine lv_topi (fun x595 ex595 => ?_)
          have tx595 := ia_add (a := x594) (b := p0) (by omega) (by omega)
          rw [← ex595] at tx595
          have h596 : vp_in x595 600 := (vp_of (by omega) (by omega))
          refine va_iald hx hb hK hP 0 0 rfl rfl h596 dX12_moves_81 ?_
          refine lv_topi (fun x597 ex597 => ?_)
          refine lv_aload_n hx hb dX12_moves_82 rfl (lv_at hl 1 rfl) ?_
          refine lv_iload_n hx hb dX12_moves_83 rfl (lv_at hl 3 rfl) ?_
          have hPc := hP.sub (ws' := [(a0, .inr (12, [.int i0, .ref a1, .ref a2, .ref a3, .ref a4, .int i1, .ref a5, .int i2, .int i3, .int i4, .int i5, .int i6, .int i7, .int i8, .ref a6, .ref a7, .ref a8, .ref a9, .ref a10, .ref a11, .ref a12, .int i9, .ref a13, .int i10, .ref a14, .ref a15, .int i11, .ref a16, .ref a17, .ref a18, .ref a19, .int i12, .int i13, .int i14, .int i15, .int i16, .ref a20, .long j0, .ref a21, .ref a22, .ref a23, .ref a24])), (a1, .inl (cI, 544, .inl g1_1))]) [2, 3] rfl
          have hDc := hD.sub (ws' := [(a0, .inr (12, [.int i0, .ref a1, .ref a2, .ref a3, .ref a4, .int i1, .ref a5, .int i2, .int i3, .int i4, .int i5, .int i6, .int i7, .int i8, .ref a6, .ref a7, .ref a8, .ref a9, .ref a10, .ref a11, .ref a12, .int i9, .ref a13, .int i10, .ref a14, .ref a15, .int i11, .ref a16, .ref a17, .ref a18, .ref a19, .int i12, .int i13, .int i14, .int i15, .int i16, .ref a20, .long j0, .ref a21, .ref a22, .ref a23, .ref a24])), (a1, .inl (cI, 544, .inl g1_1))]) [2, 3] (by decide) rfl
          have hFc := va_free (wc := [(a0, .inr (12, [.int i0, .ref a1, .ref a2, .ref a3, .ref a4, .int i1, .ref a5, .int i2, .int i3, .int i4, .int i5, .int i6, .int i7, .int i8, .ref a6, .ref a7, .ref a8, .ref a9, .ref a10, .ref a11, .ref a12, .int i9, .ref a13, .int i10, .ref a14, .ref a15, .int i11, .ref a16, .ref a17, .ref a18, .ref a19, .int i12, .int i13, .int i14, .int i15, .int i16, .ref a20, .long j0, .ref a21, .ref a22, .ref a23, .ref a24])), (a1, .inl (cI, 544, .inl g1_1))]) hD hS hA [2, 3] rfl
          refine va_calli (va_runV (As := [.int w2_1]) (rest := [.int x597, .int x592, .ref a1]) ⟨hx, hb, hml, hown, hwd⟩ (s_X12_posOf l dC dI cI cZ cB cJ cM cG a0 a1 a2 a3 a4 a5 a6 a7 a8 a9 a10 a11 a12 a13 a14 a15 a16 a17 a18 a19 a20 a21 a22 a23 a24 i0 i1 i2 i3 i4 i5 i6 i7 i8 i9 i10 i11 i12 i13 i14 i15 i16 j0 g1_1 w2_1 cp H.size (show (0 : Int) ≤ i1.toInt ∧ i1.toInt ≤ 1600 from p_0) (show (0 : Int) ≤ i2.toInt ∧ i2.toInt ≤ 1600 from p_1) (show (0 : Int) ≤ i3.toInt ∧ i3.toInt ≤ 1600 from p_2) (show (0 : Int) ≤ i4.toInt ∧ i4.toInt ≤ 1600 from p_3) (show (0 : Int) ≤ i5.toInt ∧ i5.toInt ≤ 6 from p_4) (show (0 : Int) ≤ i7.toInt ∧ i7.toInt ≤ 3 from p_5) (show (0 : Int) ≤ i11.toInt ∧ i11.toInt ≤ 59 from p_6) (show WI cp g1_1 from hd_g1_1.1) (show (0 : Int) ≤ w2_1.toInt ∧ w2_1.toInt ≤ 9 from ⟨by omega, by omega⟩) p_9) (cwV 1 hwd (gV kr55_20 kr55_21 kr3_18 kr5_23 kr55_22) rfl rfl rfl (by decide +kernel) ⟨Nat.le_of_ble_eq_true rfl, Nat.le_of_ble_eq_true rfl⟩) (kPreV hPc hK hDc (ci := 12) (q0 := 0) rfl rfl) rfl rfl hl.1 rfl (lv_room (Nat.le_of_ble_eq_true rfl)) dX12_moves_84 ⟨Nat.le_of_ble_eq_true rfl, Nat.le_of_ble_eq_true rfl⟩) hS (fun q _ h => hFc q h) hFc (fun r598 u599 t H1 locs ht9 hvm hw hB hz1 hk1 hS => ?_)
          obtain ⟨hP1, hD1⟩ := hB
          rw [ht9] at hP1
          obtain ⟨hP, hD⟩ := va_join (wr := [(a8, .inl (cI, 600, .inl xF7)), (a10, .inl (cI, 10, .inl f586))]) (w1 := [(a0, .inr (12, [.int i0, .ref a1, .ref a2, .ref a3, .ref a4, .int i1, .ref a5, .int i2, .int i3, .int i4, .int i5, .int i6, .int i7, .int i8, .ref a6, .ref a7, .ref a8, .ref a9, .ref a10, .ref a11, .ref a12, .int i9, .ref a13, .int i10, .ref a14, .ref a15, .int i11, .ref a16, .ref a17, .ref a18, .ref a19, .int i12, .int i13, .int i14, .int i15, .int i16, .ref a20, .long j0, .ref a21, .ref a22, .ref a23, .ref a24])), (a1, .inl (cI, 544, .inl g1_1))]) hP hD [2, 3] [0, 1] rfl rfl (by decide) (by decide) hk1 hFc hP1 hD1
          generalize H1 = H at hP hS ⊢
          replace hP : va_P (dC, dI) vwCl [(a8, .inl (cI, 600, .inl xF7)), (a10, .inl (cI, 10, .inl f586)), (a0, .inr (12, [.int i0, .ref a1, .ref a2, .ref a3, .ref a4, .int i1, .ref a5, .int i2, .int i3, .int i4, .int i5, .int i6, .int i7, .int i8, .ref a6, .ref a7, .ref a8, .ref a9, .ref a10, .ref a11, .ref a12, .int i9, .ref a13, .int i10, .ref a14, .ref a15, .int i11, .ref a16, .ref a17, .ref a18, .ref a19, .int i12, .int i13, .int i14, .int i15, .int i16, .ref a20, .long j0, .ref a21, .ref a22, .ref a23, .ref a24])), (a1, .inl (cI, 544, .inl g1_1))] H := hP
          replace hD : va_D A [(a8, .inl (cI, 600, .inl xF7)), (a10, .inl (cI, 10, .inl f586)), (a0, .inr (12, [.int i0, .ref a1, .ref a2, .ref a3, .ref a4, .int i1, .ref a5, .int i2, .int i3, .int i4, .int i5, .int i6, .int i7, .int i8, .ref a6, .ref a7, .ref a8, .ref a9, .ref a10, .ref a11, .ref a12, .int i9, .ref a13, .int i10, .ref a14, .ref a15, .int i11, .ref a16, .ref a17, .ref a18, .ref a19, .int i12, .int i13, .int i14, .int i15, .int i16, .ref a20, .long j0, .ref a21, .ref a22, .ref a23, .ref a24])), (a1, .inl (cI, 544, .inl g1_1))] := hD
          refine lv_aload_n hx hb dX12_moves_87 rfl (lv_at hl 1 rfl) ?_
          refine lv_iload_n hx hb dX12_moves_88 rfl (lv_at hl 3 rfl) ?_
          refine lv_iconst (v := 4) hx hb dX12_moves_89 (by decide) ?_
          have hPc := hP.sub (ws' := [(a0, .inr (12, [.int i0, .ref a1, .ref a2, .ref a3, .ref a4, .int i1, .ref a5, .int i2, .int i3, .int i4, .int i5, .int i6, .int i7, .int i8, .ref a6, .ref a7, .ref a8, .ref a9, .ref a10, .ref a11, .ref a12, .int i9, .ref a13, .int i10, .ref a14, .ref a15, .int i11, .ref a16, .ref a17, .ref a18, .ref a19, .int i12, .int i13, .int i14, .int i15, .int i16, .ref a20, .long j0, .ref a21, .ref a22, .ref a23, .ref a24])), (a1, .inl (cI, 544, .inl g1_1))]) [2, 3] rfl
          have hDc := hD.sub (ws' := [(a0, .inr (12, [.int i0, .ref a1, .ref a2, .ref a3, .ref a4, .int i1, .ref a5, .int i2, .int i3, .int i4, .int i5, .int i6, .int i7, .int i8, .ref a6, .ref a7, .ref a8, .ref a9, .ref a10, .ref a11, .ref a12, .int i9, .ref a13, .int i10, .ref a14, .ref a15, .int i11, .ref a16, .ref a17, .ref a18, .ref a19, .int i12, .int i13, .int i14, .int i15, .int i16, .ref a20, .long j0, .ref a21, .ref a22, .ref a23, .ref a24])), (a1, .inl (cI, 544, .inl g1_1))]) [2, 3] (by decide) rfl
          have hFc := va_free (wc := [(a0, .inr (12, [.int i0, .ref a1, .ref a2, .ref a3, .ref a4, .int i1, .ref a5, .int i2, .int i3, .int i4, .int i5, .int i6, .int i7, .int i8, .ref a6, .ref a7, .ref a8, .ref a9, .ref a10, .ref a11, .ref a12, .int i9, .ref a13, .int i10, .ref a14, .ref a15, .int i11, .ref a16, .ref a17, .ref a18, .ref a19, .int i12, .int i13, .int i14, .int i15, .int i16, .ref a20, .long j0, .ref a21, .ref a22, .ref a23, .ref a24])), (a1, .inl (cI, 544, .inl g1_1))]) hD hS hA [2, 3] rfl
          refine va_calli (va_runV (As := [.int w2_1, .int 4]) (rest := [.int r598, .int x597, .int x592, .ref a1]) ⟨hx, hb, hml, hown, hwd⟩ (s_X12_of l dC dI cI cZ cB cJ cM cG a0 a1 a2 a3 a4 a5 a6 a7 a8 a9 a10 a11 a12 a13 a14 a15 a16 a17 a18 a19 a20 a21 a22 a23 a24 i0 i1 i2 i3 i4 i5 i6 i7 i8 i9 i10 i11 i12 i13 i14 i15 i16 j0 g1_1 w2_1 4 cp H.size (show (0 : Int) ≤ i1.toInt ∧ i1.toInt ≤ 1600 from p_0) (show (0 : Int) ≤ i2.toInt ∧ i2.toInt ≤ 1600 from p_1) (show (0 : Int) ≤ i3.toInt ∧ i3.toInt ≤ 1600 from p_2) (show (0 : Int) ≤ i4.toInt ∧ i4.toInt ≤ 1600 from p_3) (show (0 : Int) ≤ i5.toInt ∧ i5.toInt ≤ 6 from p_4) (show (0 : Int) ≤ i7.toInt ∧ i7.toInt ≤ 3 from p_5) (show (0 : Int) ≤ i11.toInt ∧ i11.toInt ≤ 59 from p_6) (show WI cp g1_1 from hd_g1_1.1) (show (0 : Int) ≤ w2_1.toInt ∧ w2_1.toInt ≤ 9 from ⟨by omega, by omega⟩) (show (0 : Int) ≤ (4 : Int32).toInt ∧ (4 : Int32).toInt ≤ 5 from ⟨by omega, by omega⟩) p_9) (cwV 2 hwd (gV kr55_11 kr55_12 kr3_15 kr5_23 kr55_13) rfl rfl rfl (by decide +kernel) ⟨Nat.le_of_ble_eq_true rfl, Nat.le_of_ble_eq_true rfl⟩) (kPreV hPc hK hDc (ci := 12) (q0 := 0) rfl rfl) rfl rfl hl.1 rfl (lv_room (Nat.le_of_ble_eq_true rfl)) dX12_moves_90 ⟨Nat.le_of_ble_eq_true rfl, Nat.le_of_ble_eq_true rfl⟩) hS (fun q _ h => hFc q h) hFc (fun r600 u601 t H1 locs ht9 hvm hw hB hz1 hk1 hS => ?_)
          obtain ⟨hw602, -⟩ := hw
          replace hw602 : r600.toInt = wfo g1_1 4 w2_1.toInt := hw602
          obtain ⟨hP1, hD1⟩ := hB
          rw [ht9] at hP1
          obtain ⟨hP, hD⟩ := va_join (wr := [(a8, .inl (cI, 600, .inl xF7)), (a10, .inl (cI, 10, .inl f586))]) (w1 := [(a0, .inr (12, [.int i0, .ref a1, .ref a2, .ref a3, .ref a4, .int i1, .ref a5, .int i2, .int i3, .int i4, .int i5, .int i6, .int i7, .int i8, .ref a6, .ref a7, .ref a8, .ref a9, .ref a10, .ref a11, .ref a12, .int i9, .ref a13, .int i10, .ref a14, .ref a15, .int i11, .ref a16, .ref a17, .ref a18, .ref a19, .int i12, .int i13, .int i14, .int i15, .int i16, .ref a20, .long j0, .ref a21, .ref a22, .ref a23, .ref a24])), (a1, .inl (cI, 544, .inl g1_1))]) hP hD [2, 3] [0, 1] rfl rfl (by decide) (by decide) hk1 hFc hP1 hD1
          generalize H1 = H at hP hS ⊢
          replace hP : va_P (dC, dI) vwCl [(a8, .inl (cI, 600, .inl xF7)), (a10, .inl (cI, 10, .inl f586)), (a0, .inr (12, [.int i0, .ref a1, .ref a2, .ref a3, .ref a4, .int i1, .ref a5, .int i2, .int i3, .int i4, .int i5, .int i6, .int i7, .int i8, .ref a6, .ref a7, .ref a8, .ref a9, .ref a10, .ref a11, .ref a12, .int i9, .ref a13, .int i10, .ref a14, .ref a15, .int i11, .ref a16, .ref a17, .ref a18, .ref a19, .int i12, .int i13, .int i14, .int i15, .int i16, .ref a20, .long j0, .ref a21, .ref a22, .ref a23, .ref a24])), (a1, .inl (cI, 544, .inl g1_1))] H := hP
          replace hD : va_D A [(a8, .inl (cI, 600, .inl xF7)), (a10, .inl (cI, 10, .inl f586)), (a0, .inr (12, [.int i0, .ref a1, .ref a2, .ref a3, .ref a4, .int i1, .ref a5, .int i2, .int i3, .int i4, .int i5, .int i6, .int i7, .int i8, .ref a6, .ref a7, .ref a8, .ref a9, .ref a10, .ref a11, .ref a12, .int i9, .ref a13, .int i10, .ref a14, .ref a15, .int i11, .ref a16, .ref a17, .ref a18, .ref a19, .int i12, .int i13, .int i14, .int i15, .int i16, .ref a20, .long j0, .ref a21, .ref a22, .ref a23, .ref a24])), (a1, .inl (cI, 544, .inl g1_1))] := hD
          refine lv_isub hx hb dX12_moves_93 ?_
          refine lv_topi (fun x603 ex603 => ?_)
          refine va_mmax hx hb (by rw [hml]; exact hl.1.symm) hown (hwd _ kr55_7) (hwd _ kr24_17) (hwd _ kr6_4) (hwd _ kr24_18) (Nat.le_of_ble_eq_true rfl) (Nat.le_of_ble_eq_true rfl) (Nat.le_of_ble_eq_true rfl) (Nat.le_of_ble_eq_true rfl) dX12_moves_94 ?_
          refine lv_topi (fun x604 ex604 => ?_)
          have tx604 := mx_max x597 x603
          rw [← ex604] at tx604
          refine va_iast hx hb hK hP hD hS 3 0 rfl rfl (vp_of (by omega) (by omega)) dX12_moves_97 (fun H locs hP hD hS => ?_)
          obtain ⟨f605, ef605⟩ : ∃ f, f = upd g1_1 x592.toNatClampNeg x604 := ⟨_, rfl⟩
          have df605 : WJ cp f605 := by rw [ef605]; exact WJ_free hd_g1_1 (by omega) (by omega)
          replace hP : va_P (dC, dI) vwCl [(a8, .inl (cI, 600, .inl xF7)), (a10, .inl (cI, 10, .inl f586)), (a0, .inr (12, [.int i0, .ref a1, .ref a2, .ref a3, .ref a4, .int i1, .ref a5, .int i2, .int i3, .int i4, .int i5, .int i6, .int i7, .int i8, .ref a6, .ref a7, .ref a8, .ref a9, .ref a10, .ref a11, .ref a12, .int i9, .ref a13, .int i10, .ref a14, .ref a15, .int i11, .ref a16, .ref a17, .ref a18, .ref a19, .int i12, .int i13, .int i14, .int i15, .int i16, .ref a20, .long j0, .ref a21, .ref a22, .ref a23, .ref a24])), (a1, .inl (cI, 544, .inl f605))] H := by rw [ef605]; exact hP
          replace hD : va_D A [(a8, .inl (cI, 600, .inl xF7)), (a10, .inl (cI, 10, .inl f586)), (a0, .inr (12, [.int i0, .ref a1, .ref a2, .ref a3, .ref a4, .int i1, .ref a5, .int i2, .int i3, .int i4, .int i5, .int i6, .int i7, .int i8, .ref a6, .ref a7, .ref a8, .ref a9, .ref a10, .ref a11, .ref a12, .int i9, .ref a13, .int i10, .ref a14, .ref a15, .int i11, .ref a16, .ref a17, .ref a18, .ref a19, .int i12, .int i13, .int i14, .int i15, .int i16, .ref a20, .long j0, .ref a21, .ref a22, .ref a23, .ref a24])), (a1, .inl (cI, 544, .inl f605))] := by rw [ef605]; exact hD
          refine lv_aload_n hx hb dX12_moves_98 rfl (lv_at hl 1 rfl) ?_
          refine va_get (D := (dC, dI)) (ci := 12) (v := .ref a1) (C := RX12) (T := TX12) (N := 42) hx hb hwd inlX12 hown hK hP 2 rfl rfl 1 (by decide) (hwd _ kr49_2) (fun _ h9 => h9) rfl dX12_moves_99 ?_
          refine lv_bipush (v := 15) hx hb dX12_moves_102 (by decide) ?_
          refine lv_dup2_11 hx hb dX12_moves_104 rfl rfl ?_
          have h606 : vp_in (15 : Int32) 544 := (vin (by decide))
          refine va_iald hx hb hK hP 3 0 rfl rfl h606 dX12_moves_105 ?_
          refine lv_topi (fun x607 ex607 => ?_)
          have ix607 := wat_lit (k := 15) ex607 (by decide)
          have wh608 : whd cp f605 := df605.1.1
          unfold whd at wh608
          have wk609 := df605.2
          refine lv_iload_n hx hb dX12_moves_106 rfl (lv_at hl 0 rfl) ?_
          refine lv_if_eq (tgt := 114) hx hb dX12_moves_107 (by decide) (fun c610 => ?_) (fun c610 => absurd c610 (by decide))
          refine lv_iconst (v := 0) hx hb dX12_moves_114 (by decide) ?_
          refine lv_aload_n hx hb dX12_moves_115 rfl (lv_at hl 1 rfl) ?_
          refine lv_iload_n hx hb dX12_moves_116 rfl (lv_at hl 3 rfl) ?_
          have hPc := hP.sub (ws' := [(a0, .inr (12, [.int i0, .ref a1, .ref a2, .ref a3, .ref a4, .int i1, .ref a5, .int i2, .int i3, .int i4, .int i5, .int i6, .int i7, .int i8, .ref a6, .ref a7, .ref a8, .ref a9, .ref a10, .ref a11, .ref a12, .int i9, .ref a13, .int i10, .ref a14, .ref a15, .int i11, .ref a16, .ref a17, .ref a18, .ref a19, .int i12, .int i13, .int i14, .int i15, .int i16, .ref a20, .long j0, .ref a21, .ref a22, .ref a23, .ref a24])), (a1, .inl (cI, 544, .inl f605))]) [2, 3] rfl
          have hDc := hD.sub (ws' := [(a0, .inr (12, [.int i0, .ref a1, .ref a2, .ref a3, .ref a4, .int i1, .ref a5, .int i2, .int i3, .int i4, .int i5, .int i6, .int i7, .int i8, .ref a6, .ref a7, .ref a8, .ref a9, .ref a10, .ref a11, .ref a12, .int i9, .ref a13, .int i10, .ref a14, .ref a15, .int i11, .ref a16, .ref a17, .ref a18, .ref a19, .int i12, .int i13, .int i14, .int i15, .int i16, .ref a20, .long j0, .ref a21, .ref a22, .ref a23, .ref a24])), (a1, .inl (cI, 544, .inl f605))]) [2, 3] (by decide) rfl
          have hFc := va_free (wc := [(a0, .inr (12, [.int i0, .ref a1, .ref a2, .ref a3, .ref a4, .int i1, .ref a5, .int i2, .int i3, .int i4, .int i5, .int i6, .int i7, .int i8, .ref a6, .ref a7, .ref a8, .ref a9, .ref a10, .ref a11, .ref a12, .int i9, .ref a13, .int i10, .ref a14, .ref a15, .int i11, .ref a16, .ref a17, .ref a18, .ref a19, .int i12, .int i13, .int i14, .int i15, .int i16, .ref a20, .long j0, .ref a21, .ref a22, .ref a23, .ref a24])), (a1, .inl (cI, 544, .inl f605))]) hD hS hA [2, 3] rfl
          refine va_calli (va_runV (As := [.int w2_1]) (rest := [.int 0, .int x607, .int 15, .ref a1]) ⟨hx, hb, hml, hown, hwd⟩ (s_X12_posOf l dC dI cI cZ cB cJ cM cG a0 a1 a2 a3 a4 a5 a6 a7 a8 a9 a10 a11 a12 a13 a14 a15 a16 a17 a18 a19 a20 a21 a22 a23 a24 i0 i1 i2 i3 i4 i5 i6 i7 i8 i9 i10 i11 i12 i13 i14 i15 i16 j0 f605 w2_1 cp H.size (show (0 : Int) ≤ i1.toInt ∧ i1.toInt ≤ 1600 from p_0) (show (0 : Int) ≤ i2.toInt ∧ i2.toInt ≤ 1600 from p_1) (show (0 : Int) ≤ i3.toInt ∧ i3.toInt ≤ 1600 from p_2) (show (0 : Int) ≤ i4.toInt ∧ i4.toInt ≤ 1600 from p_3) (show (0 : Int) ≤ i5.toInt ∧ i5.toInt ≤ 6 from p_4) (show (0 : Int) ≤ i7.toInt ∧ i7.toInt ≤ 3 from p_5) (show (0 : Int) ≤ i11.toInt ∧ i11.toInt ≤ 59 from p_6) (show WI cp f605 from df605.1) (show (0 : Int) ≤ w2_1.toInt ∧ w2_1.toInt ≤ 9 from ⟨by omega, by omega⟩) p_9) (cwV 1 hwd (gV kr55_20 kr55_21 kr3_18 kr5_23 kr55_22) rfl rfl rfl (by decide +kernel) ⟨Nat.le_of_ble_eq_true rfl, Nat.le_of_ble_eq_true rfl⟩) (kPreV hPc hK hDc (ci := 12) (q0 := 0) rfl rfl) rfl rfl hl.1 rfl (lv_room (Nat.le_of_ble_eq_true rfl)) dX12_moves_117 ⟨Nat.le_of_ble_eq_true rfl, Nat.le_of_ble_eq_true rfl⟩) hS (fun q _ h => hFc q h) hFc (fun r611 u612 t H1 locs ht9 hvm hw hB hz1 hk1 hS => ?_)
          obtain ⟨hP1, hD1⟩ := hB
          rw [ht9] at hP1
          obtain ⟨hP, hD⟩ := va_join (wr := [(a8, .inl (cI, 600, .inl xF7)), (a10, .inl (cI, 10, .inl f586))]) (w1 := [(a0, .inr (12, [.int i0, .ref a1, .ref a2, .ref a3, .ref a4, .int i1, .ref a5, .int i2, .int i3, .int i4, .int i5, .int i6, .int i7, .int i8, .ref a6, .ref a7, .ref a8, .ref a9, .ref a10, .ref a11, .ref a12, .int i9, .ref a13, .int i10, .ref a14, .ref a15, .int i11, .ref a16, .ref a17, .ref a18, .ref a19, .int i12, .int i13, .int i14, .int i15, .int i16, .ref a20, .long j0, .ref a21, .ref a22, .ref a23, .ref a24])), (a1, .inl (cI, 544, .inl f605))]) hP hD [2, 3] [0, 1] rfl rfl (by decide) (by decide) hk1 hFc hP1 hD1
          generalize H1 = H at hP hS ⊢
          replace hP : va_P (dC, dI) vwCl [(a8, .inl (cI, 600, .inl xF7)), (a10, .inl (cI, 10, .inl f586)), (a0, .inr (12, [.int i0, .ref a1, .ref a2, .ref a3, .ref a4, .int i1, .ref a5, .int i2, .int i3, .int i4, .int i5, .int i6, .int i7, .int i8, .ref a6, .ref a7, .ref a8, .ref a9, .ref a10, .ref a11, .ref a12, .int i9, .ref a13, .int i10, .ref a14, .ref a15, .int i11, .ref a16, .ref a17, .ref a18, .ref a19, .int i12, .int i13, .int i14, .int i15, .int i16, .ref a20, .long j0, .ref a21, .ref a22, .ref a23, .ref a24])), (a1, .inl (cI, 544, .inl f605))] H := hP
          replace hD : va_D A [(a8, .inl (cI, 600, .inl xF7)), (a10, .inl (cI, 10, .inl f586)), (a0, .inr (12, [.int i0, .ref a1, .ref a2, .ref a3, .ref a4, .int i1, .ref a5, .int i2, .int i3, .int i4, .int i5, .int i6, .int i7, .int i8, .ref a6, .ref a7, .ref a8, .ref a9, .ref a10, .ref a11, .ref a12, .int i9, .ref a13, .int i10, .ref a14, .ref a15, .int i11, .ref a16, .ref a17, .ref a18, .ref a19, .int i12, .int i13, .int i14, .int i15, .int i16, .ref a20, .long j0, .ref a21, .ref a22, .ref a23, .ref a24])), (a1, .inl (cI, 544, .inl f605))] := hD
          refine lv_aload_n hx hb dX12_moves_120 rfl (lv_at hl 1 rfl) ?_
          refine va_get (D := (dC, dI)) (ci := 12) (v := .ref a10) (C := RX12) (T := TX12) (N := 42) hx hb hwd inlX12 hown hK hP 2 rfl rfl 18 (by decide) (hwd _ kr49_19) (fun _ h9 => h9) rfl dX12_moves_121 ?_
          refine lv_iload_n hx hb dX12_moves_124 rfl (lv_at hl 3 rfl) ?_
          have h613 : vp_in w2_1 10 := (vp_of (by omega) (by omega))
          refine va_iald hx hb hK hP 1 0 rfl rfl h613 dX12_moves_125 ?_
          refine lv_topi (fun x614 ex614 => ?_)
          refine lv_isub hx hb dX12_moves_126 ?_
          refine lv_topi (fun x615 ex615 => ?_)
          refine va_mmax hx hb (by rw [hml]; exact hl.1.symm) hown (hwd _ kr55_7) (hwd _ kr24_17) (hwd _ kr6_4) (hwd _ kr24_18) (Nat.le_of_ble_eq_true rfl) (Nat.le_of_ble_eq_true rfl) (Nat.le_of_ble_eq_true rfl) (Nat.le_of_ble_eq_true rfl) dX12_moves_127 ?_
          refine lv_topi (fun x616 ex616 => ?_)
          have tx616 := mx_max (0 : Int32) x615
          rw [← ex616] at tx616
          refine lv_iadd hx hb dX12_moves_130 ?_
          refine lv_topi (fun x617 ex617 => ?_)
          refine va_iast hx hb hK hP hD hS 3 0 rfl rfl (vin (by decide)) dX12_moves_131 (fun H locs hP hD hS => ?_)
          obtain ⟨f618, ef618⟩ : ∃ f, f = upd f605 (15 : Int32).toNatClampNeg x617 := ⟨_, rfl⟩
          have df618 : WJ cp f618 := by rw [ef618]; exact WJ_free df605 (by omega) (by omega)
          replace hP : va_P (dC, dI) vwCl [(a8, .inl (cI, 600, .inl xF7)), (a10, .inl (cI, 10, .inl f586)), (a0, .inr (12, [.int i0, .ref a1, .ref a2, .ref a3, .ref a4, .int i1, .ref a5, .int i2, .int i3, .int i4, .int i5, .int i6, .int i7, .int i8, .ref a6, .ref a7, .ref a8, .ref a9, .ref a10, .ref a11, .ref a12, .int i9, .ref a13, .int i10, .ref a14, .ref a15, .int i11, .ref a16, .ref a17, .ref a18, .ref a19, .int i12, .int i13, .int i14, .int i15, .int i16, .ref a20, .long j0, .ref a21, .ref a22, .ref a23, .ref a24])), (a1, .inl (cI, 544, .inl f618))] H := by rw [ef618]; exact hP
          replace hD : va_D A [(a8, .inl (cI, 600, .inl xF7)), (a10, .inl (cI, 10, .inl f586)), (a0, .inr (12, [.int i0, .ref a1, .ref a2, .ref a3, .ref a4, .int i1, .ref a5, .int i2, .int i3, .int i4, .int i5, .int i6, .int i7, .int i8, .ref a6, .ref a7, .ref a8, .ref a9, .ref a10, .ref a11, .ref a12, .int i9, .ref a13, .int i10, .ref a14, .ref a15, .int i11, .ref a16, .ref a17, .ref a18, .ref a19, .int i12, .int i13, .int i14, .int i15, .int i16, .ref a20, .long j0, .ref a21, .ref a22, .ref a23, .ref a24])), (a1, .inl (cI, 544, .inl f618))] := by rw [ef618]; exact hD
          obtain ⟨x619, ex619⟩ : ∃ y : Int32, y = w2_1 + 1 := ⟨_, rfl⟩
          refine lv_iinc (v := x619) (lv' := [(2, .int x619), (3, .int 0), (0, .ref a0), (1, .int p0)]) hx hb dX12_moves_132 hl (k := 3) rfl (by rw [ex619]; rfl) (by decide) rfl (fun ls hl => ?_)
          have tx619 := ia_add (a := w2_1) (b := (1 : Int32)) (by omega) (by omega)
          rw [← ex619] at tx619
          refine lv_goto (tgt := 2) hx hb dX12_moves_135 (by decide) ?_
          exact ih1 _ _ ls x619 f618 f586 (show (0 : Int) ≤ x619.toInt ∧ x619.toInt ≤ 10 from ⟨by omega, by omega⟩) (show WJ cp f618 from df618) (by omega) (hP.sub (ws' := [(a0, .inr (12, [.int i0, .ref a1, .ref a2, .ref a3, .ref a4, .int i1, .ref a5, .int i2, .int i3, .int i4, .int i5, .int i6, .int i7, .int i8, .ref a6, .ref a7, .ref a8, .ref a9, .ref a10, .ref a11, .ref a12, .int i9, .ref a13, .int i10, .ref a14, .ref a15, .int i11, .ref a16, .ref a17, .ref a18, .ref a19, .int i12, .int i13, .int i14, .int i15, .int i16, .ref a20, .long j0, .ref a21, .ref a22, .ref a23, .ref a24])), (a1, .inl (cI, 544, .inl f618)), (a8, .inl (cI, 600, .inl xF7)), (a10, .inl (cI, 10, .inl f586))]) [2, 3, 0, 1] rfl) (hD.sub (ws' := [(a0, .inr (12, [.int i0, .ref a1, .ref a2, .ref a3, .ref a4, .int i1, .ref a5, .int i2, .int i3, .int i4, .int i5, .int i6, .int i7, .int i8, .ref a6, .ref a7, .ref a8, .ref a9, .ref a10, .ref a11, .ref a12, .int i9, .ref a13, .int i10, .ref a14, .ref a15, .int i11, .ref a16, .ref a17, .ref a18, .ref a19, .int i12, .int i13, .int i14, .int i15, .int i16, .ref a20, .long j0, .ref a21, .ref a22, .ref a23, .ref a24])), (a1, .inl (cI, 544, .inl f618)), (a8, .inl (cI, 600, .inl xF7)), (a10, .inl (cI, 10, .inl f586))]) [2, 3, 0, 1] (by decide) rfl) hS (lv_sub hl [2, 3, 0] rfl)
        · rw [ki_eq] at c591
          refine lv_iconst (v := 1) hx hb dX12_moves_34 (by decide) ?_
          refine lv_goto (tgt := 39) hx hb dX12_moves_35 (by decide) ?_
          refine lv_istore_n (lv' := [(3, .int 1), (0, .ref a0), (1, .int p0), (2, .int w2_1)]) hx hb dX12_moves_39 rfl hl (by decide) rfl (fun ls hl => ?_)
          refine lv_aload_n hx hb dX12_moves_40 rfl (lv_at hl 1 rfl) ?_
          refine va_get (D := (dC, dI)) (ci := 12) (v := .ref a1) (C := RX12) (T := TX12) (N := 42) hx hb hwd inlX12 hown hK hP 2 rfl rfl 1 (by decide) (hwd _ kr49_2) (fun _ h9 => h9) rfl dX12_moves_41 ?_
          refine lv_sipush (v := 264) hx hb dX12_moves_44 (by decide) ?_
          refine lv_iload_n hx hb dX12_moves_47 rfl (lv_at hl 3 rfl) ?_
          refine lv_iadd hx hb dX12_moves_48 ?_
          refine lv_topi (fun x620 ex620 => ?_)
          have tx620 := ia_add (a := (264 : Int32)) (b := w2_1) (by omega) (by omega)
          rw [← ex620] at tx620
          refine lv_iload_n hx hb dX12_moves_49 rfl (lv_at hl 0 rfl) ?_
          refine lv_if_eq (tgt := 71) hx hb dX12_moves_50 (by decide) (fun c621 => absurd c621 (by decide)) (fun c621 => ?_)
          refine lv_aload_n hx hb dX12_moves_53 rfl (lv_at hl 1 rfl) ?_
          refine lv_iload_n hx hb dX12_moves_54 rfl (lv_at hl 3 rfl) ?_
          refine lv_aload_n hx hb dX12_moves_55 rfl (lv_at hl 1 rfl) ?_
          refine lv_aload_n hx hb dX12_moves_56 rfl (lv_at hl 1 rfl) ?_
          refine lv_iload_n hx hb dX12_moves_57 rfl (lv_at hl 3 rfl) ?_
          refine lv_iconst (v := 1) hx hb dX12_moves_58 (by decide) ?_
          have hPc := hP.sub (ws' := [(a0, .inr (12, [.int i0, .ref a1, .ref a2, .ref a3, .ref a4, .int i1, .ref a5, .int i2, .int i3, .int i4, .int i5, .int i6, .int i7, .int i8, .ref a6, .ref a7, .ref a8, .ref a9, .ref a10, .ref a11, .ref a12, .int i9, .ref a13, .int i10, .ref a14, .ref a15, .int i11, .ref a16, .ref a17, .ref a18, .ref a19, .int i12, .int i13, .int i14, .int i15, .int i16, .ref a20, .long j0, .ref a21, .ref a22, .ref a23, .ref a24])), (a1, .inl (cI, 544, .inl g1_1))]) [2, 3] rfl
          have hDc := hD.sub (ws' := [(a0, .inr (12, [.int i0, .ref a1, .ref a2, .ref a3, .ref a4, .int i1, .ref a5, .int i2, .int i3, .int i4, .int i5, .int i6, .int i7, .int i8, .ref a6, .ref a7, .ref a8, .ref a9, .ref a10, .ref a11, .ref a12, .int i9, .ref a13, .int i10, .ref a14, .ref a15, .int i11, .ref a16, .ref a17, .ref a18, .ref a19, .int i12, .int i13, .int i14, .int i15, .int i16, .ref a20, .long j0, .ref a21, .ref a22, .ref a23, .ref a24])), (a1, .inl (cI, 544, .inl g1_1))]) [2, 3] (by decide) rfl
          have hFc := va_free (wc := [(a0, .inr (12, [.int i0, .ref a1, .ref a2, .ref a3, .ref a4, .int i1, .ref a5, .int i2, .int i3, .int i4, .int i5, .int i6, .int i7, .int i8, .ref a6, .ref a7, .ref a8, .ref a9, .ref a10, .ref a11, .ref a12, .int i9, .ref a13, .int i10, .ref a14, .ref a15, .int i11, .ref a16, .ref a17, .ref a18, .ref a19, .int i12, .int i13, .int i14, .int i15, .int i16, .ref a20, .long j0, .ref a21, .ref a22, .ref a23, .ref a24])), (a1, .inl (cI, 544, .inl g1_1))]) hD hS hA [2, 3] rfl
          refine va_calli (va_runV (As := [.int w2_1, .int 1]) (rest := [.ref a0, .int w2_1, .ref a0, .int x620, .ref a1]) ⟨hx, hb, hml, hown, hwd⟩ (s_X12_of l dC dI cI cZ cB cJ cM cG a0 a1 a2 a3 a4 a5 a6 a7 a8 a9 a10 a11 a12 a13 a14 a15 a16 a17 a18 a19 a20 a21 a22 a23 a24 i0 i1 i2 i3 i4 i5 i6 i7 i8 i9 i10 i11 i12 i13 i14 i15 i16 j0 g1_1 w2_1 1 cp H.size (show (0 : Int) ≤ i1.toInt ∧ i1.toInt ≤ 1600 from p_0) (show (0 : Int) ≤ i2.toInt ∧ i2.toInt ≤ 1600 from p_1) (show (0 : Int) ≤ i3.toInt ∧ i3.toInt ≤ 1600 from p_2) (show (0 : Int) ≤ i4.toInt ∧ i4.toInt ≤ 1600 from p_3) (show (0 : Int) ≤ i5.toInt ∧ i5.toInt ≤ 6 from p_4) (show (0 : Int) ≤ i7.toInt ∧ i7.toInt ≤ 3 from p_5) (show (0 : Int) ≤ i11.toInt ∧ i11.toInt ≤ 59 from p_6) (show WI cp g1_1 from hd_g1_1.1) (show (0 : Int) ≤ w2_1.toInt ∧ w2_1.toInt ≤ 9 from ⟨by omega, by omega⟩) (show (0 : Int) ≤ (1 : Int32).toInt ∧ (1 : Int32).toInt ≤ 5 from ⟨by omega, by omega⟩) p_9) (cwV 2 hwd (gV kr55_11 kr55_12 kr3_15 kr5_23 kr55_13) rfl rfl rfl (by decide +kernel) ⟨Nat.le_of_ble_eq_true rfl, Nat.le_of_ble_eq_true rfl⟩) (kPreV hPc hK hDc (ci := 12) (q0 := 0) rfl rfl) rfl rfl hl.1 rfl (lv_room (Nat.le_of_ble_eq_true rfl)) dX12_moves_59 ⟨Nat.le_of_ble_eq_true rfl, Nat.le_of_ble_eq_true rfl⟩) hS (fun q _ h => hFc q h) hFc (fun r622 u623 t H1 locs ht9 hvm hw hB hz1 hk1 hS => ?_)
          obtain ⟨hw624, -⟩ := hw
          replace hw624 : r622.toInt = wfo g1_1 1 w2_1.toInt := hw624
          obtain ⟨hP1, hD1⟩ := hB
          rw [ht9] at hP1
          obtain ⟨hP, hD⟩ := va_join (wr := [(a8, .inl (cI, 600, .inl xF7)), (a10, .inl (cI, 10, .inl f586))]) (w1 := [(a0, .inr (12, [.int i0, .ref a1, .ref a2, .ref a3, .ref a4, .int i1, .ref a5, .int i2, .int i3, .int i4, .int i5, .int i6, .int i7, .int i8, .ref a6, .ref a7, .ref a8, .ref a9, .ref a10, .ref a11, .ref a12, .int i9, .ref a13, .int i10, .ref a14, .ref a15, .int i11, .ref a16, .ref a17, .ref a18, .ref a19, .int i12, .int i13, .int i14, .int i15, .int i16, .ref a20, .long j0, .ref a21, .ref a22, .ref a23, .ref a24])), (a1, .inl (cI, 544, .inl g1_1))]) hP hD [2, 3] [0, 1] rfl rfl (by decide) (by decide) hk1 hFc hP1 hD1
          generalize H1 = H at hP hS ⊢
          replace hP : va_P (dC, dI) vwCl [(a8, .inl (cI, 600, .inl xF7)), (a10, .inl (cI, 10, .inl f586)), (a0, .inr (12, [.int i0, .ref a1, .ref a2, .ref a3, .ref a4, .int i1, .ref a5, .int i2, .int i3, .int i4, .int i5, .int i6, .int i7, .int i8, .ref a6, .ref a7, .ref a8, .ref a9, .ref a10, .ref a11, .ref a12, .int i9, .ref a13, .int i10, .ref a14, .ref a15, .int i11, .ref a16, .ref a17, .ref a18, .ref a19, .int i12, .int i13, .int i14, .int i15, .int i16, .ref a20, .long j0, .ref a21, .ref a22, .ref a23, .ref a24])), (a1, .inl (cI, 544, .inl g1_1))] H := hP
          replace hD : va_D A [(a8, .inl (cI, 600, .inl xF7)), (a10, .inl (cI, 10, .inl f586)), (a0, .inr (12, [.int i0, .ref a1, .ref a2, .ref a3, .ref a4, .int i1, .ref a5, .int i2, .int i3, .int i4, .int i5, .int i6, .int i7, .int i8, .ref a6, .ref a7, .ref a8, .ref a9, .ref a10, .ref a11, .ref a12, .int i9, .ref a13, .int i10, .ref a14, .ref a15, .int i11, .ref a16, .ref a17, .ref a18, .ref a19, .int i12, .int i13, .int i14, .int i15, .int i16, .ref a20, .long j0, .ref a21, .ref a22, .ref a23, .ref a24])), (a1, .inl (cI, 544, .inl g1_1))] := hD
          have hPc := hP.sub (ws' := [(a0, .inr (12, [.int i0, .ref a1, .ref a2, .ref a3, .ref a4, .int i1, .ref a5, .int i2, .int i3, .int i4, .int i5, .int i6, .int i7, .int i8, .ref a6, .ref a7, .ref a8, .ref a9, .ref a10, .ref a11, .ref a12, .int i9, .ref a13, .int i10, .ref a14, .ref a15, .int i11, .ref a16, .ref a17, .ref a18, .ref a19, .int i12, .int i13, .int i14, .int i15, .int i16, .ref a20, .long j0, .ref a21, .ref a22, .ref a23, .ref a24])), (a1, .inl (cI, 544, .inl g1_1))]) [2, 3] rfl
          have hDc := hD.sub (ws' := [(a0, .inr (12, [.int i0, .ref a1, .ref a2, .ref a3, .ref a4, .int i1, .ref a5, .int i2, .int i3, .int i4, .int i5, .int i6, .int i7, .int i8, .ref a6, .ref a7, .ref a8, .ref a9, .ref a10, .ref a11, .ref a12, .int i9, .ref a13, .int i10, .ref a14, .ref a15, .int i11, .ref a16, .ref a17, .ref a18, .ref a19, .int i12, .int i13, .int i14, .int i15, .int i16, .ref a20, .long j0, .ref a21, .ref a22, .ref a23, .ref a24])), (a1, .inl (cI, 544, .inl g1_1))]) [2, 3] (by decide) rfl
          have hFc := va_free (wc := [(a0, .inr (12, [.int i0, .ref a1, .ref a2, .ref a3, .ref a4, .int i1, .ref a5, .int i2, .int i3, .int i4, .int i5, .int i6, .int i7, .int i8, .ref a6, .ref a7, .ref a8, .ref a9, .ref a10, .ref a11, .ref a12, .int i9, .ref a13, .int i10, .ref a14, .ref a15, .int i11, .ref a16, .ref a17, .ref a18, .ref a19, .int i12, .int i13, .int i14, .int i15, .int i16, .ref a20, .long j0, .ref a21, .ref a22, .ref a23, .ref a24])), (a1, .inl (cI, 544, .inl g1_1))]) hD hS hA [2, 3] rfl
          refine va_calli (va_runV (As := [.int r622]) (rest := [.int w2_1, .ref a0, .int x620, .ref a1]) ⟨hx, hb, hml, hown, hwd⟩ (s_X12_posOf l dC dI cI cZ cB cJ cM cG a0 a1 a2 a3 a4 a5 a6 a7 a8 a9 a10 a11 a12 a13 a14 a15 a16 a17 a18 a19 a20 a21 a22 a23 a24 i0 i1 i2 i3 i4 i5 i6 i7 i8 i9 i10 i11 i12 i13 i14 i15 i16 j0 g1_1 r622 cp H.size (show (0 : Int) ≤ i1.toInt ∧ i1.toInt ≤ 1600 from p_0) (show (0 : Int) ≤ i2.toInt ∧ i2.toInt ≤ 1600 from p_1) (show (0 : Int) ≤ i3.toInt ∧ i3.toInt ≤ 1600 from p_2) (show (0 : Int) ≤ i4.toInt ∧ i4.toInt ≤ 1600 from p_3) (show (0 : Int) ≤ i5.toInt ∧ i5.toInt ≤ 6 from p_4) (show (0 : Int) ≤ i7.toInt ∧ i7.toInt ≤ 3 from p_5) (show (0 : Int) ≤ i11.toInt ∧ i11.toInt ≤ 59 from p_6) (show WI cp g1_1 from hd_g1_1.1) (show (0 : Int) ≤ r622.toInt ∧ r622.toInt ≤ 9 from ⟨by omega, by omega⟩) p_9) (cwV 1 hwd (gV kr55_20 kr55_21 kr3_18 kr5_23 kr55_22) rfl rfl rfl (by decide +kernel) ⟨Nat.le_of_ble_eq_true rfl, Nat.le_of_ble_eq_true rfl⟩) (kPreV hPc hK hDc (ci := 12) (q0 := 0) rfl rfl) rfl rfl hl.1 rfl (lv_room (Nat.le_of_ble_eq_true rfl)) dX12_moves_62 ⟨Nat.le_of_ble_eq_true rfl, Nat.le_of_ble_eq_true rfl⟩) hS (fun q _ h => hFc q h) hFc (fun r625 u626 t H1 locs ht9 hvm hw hB hz1 hk1 hS => ?_)
          obtain ⟨hP1, hD1⟩ := hB
          rw [ht9] at hP1
          obtain ⟨hP, hD⟩ := va_join (wr := [(a8, .inl (cI, 600, .inl xF7)), (a10, .inl (cI, 10, .inl f586))]) (w1 := [(a0, .inr (12, [.int i0, .ref a1, .ref a2, .ref a3, .ref a4, .int i1, .ref a5, .int i2, .int i3, .int i4, .int i5, .int i6, .int i7, .int i8, .ref a6, .ref a7, .ref a8, .ref a9, .ref a10, .ref a11, .ref a12, .int i9, .ref a13, .int i10, .ref a14, .ref a15, .int i11, .ref a16, .ref a17, .ref a18, .ref a19, .int i12, .int i13, .int i14, .int i15, .int i16, .ref a20, .long j0, .ref a21, .ref a22, .ref a23, .ref a24])), (a1, .inl (cI, 544, .inl g1_1))]) hP hD [2, 3] [0, 1] rfl rfl (by decide) (by decide) hk1 hFc hP1 hD1
          generalize H1 = H at hP hS ⊢
          replace hP : va_P (dC, dI) vwCl [(a8, .inl (cI, 600, .inl xF7)), (a10, .inl (cI, 10, .inl f586)), (a0, .inr (12, [.int i0, .ref a1, .ref a2, .ref a3, .ref a4, .int i1, .ref a5, .int i2, .int i3, .int i4, .int i5, .int i6, .int i7, .int i8, .ref a6, .ref a7, .ref a8, .ref a9, .ref a10, .ref a11, .ref a12, .int i9, .ref a13, .int i10, .ref a14, .ref a15, .int i11, .ref a16, .ref a17, .ref a18, .ref a19, .int i12, .int i13, .int i14, .int i15, .int i16, .ref a20, .long j0, .ref a21, .ref a22, .ref a23, .ref a24])), (a1, .inl (cI, 544, .inl g1_1))] H := hP
          replace hD : va_D A [(a8, .inl (cI, 600, .inl xF7)), (a10, .inl (cI, 10, .inl f586)), (a0, .inr (12, [.int i0, .ref a1, .ref a2, .ref a3, .ref a4, .int i1, .ref a5, .int i2, .int i3, .int i4, .int i5, .int i6, .int i7, .int i8, .ref a6, .ref a7, .ref a8, .ref a9, .ref a10, .ref a11, .ref a12, .int i9, .ref a13, .int i10, .ref a14, .ref a15, .int i11, .ref a16, .ref a17, .ref a18, .ref a19, .int i12, .int i13, .int i14, .int i15, .int i16, .ref a20, .long j0, .ref a21, .ref a22, .ref a23, .ref a24])), (a1, .inl (cI, 544, .inl g1_1))] := hD
          have hPc := hP.sub (ws' := [(a0, .inr (12, [.int i0, .ref a1, .ref a2, .ref a3, .ref a4, .int i1, .ref a5, .int i2, .int i3, .int i4, .int i5, .int i6, .int i7, .int i8, .ref a6, .ref a7, .ref a8, .ref a9, .ref a10, .ref a11, .ref a12, .int i9, .ref a13, .int i10, .ref a14, .ref a15, .int i11, .ref a16, .ref a17, .ref a18, .ref a19, .int i12, .int i13, .int i14, .int i15, .int i16, .ref a20, .long j0, .ref a21, .ref a22, .ref a23, .ref a24])), (a1, .inl (cI, 544, .inl g1_1))]) [2, 3] rfl
          have hDc := hD.sub (ws' := [(a0, .inr (12, [.int i0, .ref a1, .ref a2, .ref a3, .ref a4, .int i1, .ref a5, .int i2, .int i3, .int i4, .int i5, .int i6, .int i7, .int i8, .ref a6, .ref a7, .ref a8, .ref a9, .ref a10, .ref a11, .ref a12, .int i9, .ref a13, .int i10, .ref a14, .ref a15, .int i11, .ref a16, .ref a17, .ref a18, .ref a19, .int i12, .int i13, .int i14, .int i15, .int i16, .ref a20, .long j0, .ref a21, .ref a22, .ref a23, .ref a24])), (a1, .inl (cI, 544, .inl g1_1))]) [2, 3] (by decide) rfl
          have hFc := va_free (wc := [(a0, .inr (12, [.int i0, .ref a1, .ref a2, .ref a3, .ref a4, .int i1, .ref a5, .int i2, .int i3, .int i4, .int i5, .int i6, .int i7, .int i8, .ref a6, .ref a7, .ref a8, .ref a9, .ref a10, .ref a11, .ref a12, .int i9, .ref a13, .int i10, .ref a14, .ref a15, .int i11, .ref a16, .ref a17, .ref a18, .ref a19, .int i12, .int i13, .int i14, .int i15, .int i16, .ref a20, .long j0, .ref a21, .ref a22, .ref a23, .ref a24])), (a1, .inl (cI, 544, .inl g1_1))]) hD hS hA [2, 3] rfl
          refine va_calli (va_runV (As := [.int w2_1, .int r625]) (rest := [.int x620, .ref a1]) ⟨hx, hb, hml, hown, hwd⟩ (s_X12_leverOf l dC dI cI cZ cB cJ cM cG a0 a1 a2 a3 a4 a5 a6 a7 a8 a9 a10 a11 a12 a13 a14 a15 a16 a17 a18 a19 a20 a21 a22 a23 a24 i0 i1 i2 i3 i4 i5 i6 i7 i8 i9 i10 i11 i12 i13 i14 i15 i16 j0 g1_1 w2_1 r625 cp H.size (show (0 : Int) ≤ i1.toInt ∧ i1.toInt ≤ 1600 from p_0) (show (0 : Int) ≤ i2.toInt ∧ i2.toInt ≤ 1600 from p_1) (show (0 : Int) ≤ i3.toInt ∧ i3.toInt ≤ 1600 from p_2) (show (0 : Int) ≤ i4.toInt ∧ i4.toInt ≤ 1600 from p_3) (show (0 : Int) ≤ i5.toInt ∧ i5.toInt ≤ 6 from p_4) (show (0 : Int) ≤ i7.toInt ∧ i7.toInt ≤ 3 from p_5) (show (0 : Int) ≤ i11.toInt ∧ i11.toInt ≤ 59 from p_6) (show WI cp g1_1 from hd_g1_1.1) (by omega) (show (0 : Int) ≤ w2_1.toInt ∧ w2_1.toInt ≤ 9 from ⟨by omega, by omega⟩) p_9) (cwV 2 hwd (gV kr55_14 kr55_15 kr3_16 kr5_23 kr55_16) rfl rfl rfl (by decide +kernel) ⟨Nat.le_of_ble_eq_true rfl, Nat.le_of_ble_eq_true rfl⟩) (kPreV hPc hK hDc (ci := 12) (q0 := 0) rfl rfl) rfl rfl hl.1 rfl (lv_room (Nat.le_of_ble_eq_true rfl)) dX12_moves_65 ⟨Nat.le_of_ble_eq_true rfl, Nat.le_of_ble_eq_true rfl⟩) hS (fun q _ h => hFc q h) hFc (fun r627 u628 t H1 locs ht9 hvm hw hB hz1 hk1 hS => ?_)
          obtain ⟨hw629, -⟩ := hw
          replace hw629 : (-2147483648 : Int) ≤ r627.toInt ∧ r627.toInt ≤ 9999 := hw629
          obtain ⟨hP1, hD1⟩ := hB
          rw [ht9] at hP1
          obtain ⟨hP, hD⟩ := va_join (wr := [(a8, .inl (cI, 600, .inl xF7)), (a10, .inl (cI, 10, .inl f586))]) (w1 := [(a0, .inr (12, [.int i0, .ref a1, .ref a2, .ref a3, .ref a4, .int i1, .ref a5, .int i2, .int i3, .int i4, .int i5, .int i6, .int i7, .int i8, .ref a6, .ref a7, .ref a8, .ref a9, .ref a10, .ref a11, .ref a12, .int i9, .ref a13, .int i10, .ref a14, .ref a15, .int i11, .ref a16, .ref a17, .ref a18, .ref a19, .int i12, .int i13, .int i14, .int i15, .int i16, .ref a20, .long j0, .ref a21, .ref a22, .ref a23, .ref a24])), (a1, .inl (cI, 544, .inl g1_1))]) hP hD [2, 3] [0, 1] rfl rfl (by decide) (by decide) hk1 hFc hP1 hD1
          generalize H1 = H at hP hS ⊢
          replace hP : va_P (dC, dI) vwCl [(a8, .inl (cI, 600, .inl xF7)), (a10, .inl (cI, 10, .inl f586)), (a0, .inr (12, [.int i0, .ref a1, .ref a2, .ref a3, .ref a4, .int i1, .ref a5, .int i2, .int i3, .int i4, .int i5, .int i6, .int i7, .int i8, .ref a6, .ref a7, .ref a8, .ref a9, .ref a10, .ref a11, .ref a12, .int i9, .ref a13, .int i10, .ref a14, .ref a15, .int i11, .ref a16, .ref a17, .ref a18, .ref a19, .int i12, .int i13, .int i14, .int i15, .int i16, .ref a20, .long j0, .ref a21, .ref a22, .ref a23, .ref a24])), (a1, .inl (cI, 544, .inl g1_1))] H := hP
          replace hD : va_D A [(a8, .inl (cI, 600, .inl xF7)), (a10, .inl (cI, 10, .inl f586)), (a0, .inr (12, [.int i0, .ref a1, .ref a2, .ref a3, .ref a4, .int i1, .ref a5, .int i2, .int i3, .int i4, .int i5, .int i6, .int i7, .int i8, .ref a6, .ref a7, .ref a8, .ref a9, .ref a10, .ref a11, .ref a12, .int i9, .ref a13, .int i10, .ref a14, .ref a15, .int i11, .ref a16, .ref a17, .ref a18, .ref a19, .int i12, .int i13, .int i14, .int i15, .int i16, .ref a20, .long j0, .ref a21, .ref a22, .ref a23, .ref a24])), (a1, .inl (cI, 544, .inl g1_1))] := hD
          refine lv_goto (tgt := 97) hx hb dX12_moves_68 (by decide) ?_
          refine va_iast hx hb hK hP hD hS 3 0 rfl rfl (vp_of (by omega) (by omega)) dX12_moves_97 (fun H locs hP hD hS => ?_)
          obtain ⟨f630, ef630⟩ : ∃ f, f = upd g1_1 x620.toNatClampNeg r627 := ⟨_, rfl⟩
          have df630 : WJ cp f630 := by rw [ef630]; exact WJ_free hd_g1_1 (by omega) (by omega)
          replace hP : va_P (dC, dI) vwCl [(a8, .inl (cI, 600, .inl xF7)), (a10, .inl (cI, 10, .inl f586)), (a0, .inr (12, [.int i0, .ref a1, .ref a2, .ref a3, .ref a4, .int i1, .ref a5, .int i2, .int i3, .int i4, .int i5, .int i6, .int i7, .int i8, .ref a6, .ref a7, .ref a8, .ref a9, .ref a10, .ref a11, .ref a12, .int i9, .ref a13, .int i10, .ref a14, .ref a15, .int i11, .ref a16, .ref a17, .ref a18, .ref a19, .int i12, .int i13, .int i14, .int i15, .int i16, .ref a20, .long j0, .ref a21, .ref a22, .ref a23, .ref a24])), (a1, .inl (cI, 544, .inl f630))] H := by rw [ef630]; exact hP
          replace hD : va_D A [(a8, .inl (cI, 600, .inl xF7)), (a10, .inl (cI, 10, .inl f586)), (a0, .inr (12, [.int i0, .ref a1, .ref a2, .ref a3, .ref a4, .int i1, .ref a5, .int i2, .int i3, .int i4, .int i5, .int i6, .int i7, .int i8, .ref a6, .ref a7, .ref a8, .ref a9, .ref a10, .ref a11, .ref a12, .int i9, .ref a13, .int i10, .ref a14, .ref a15, .int i11, .ref a16, .ref a17, .ref a18, .ref a19, .int i12, .int i13, .int i14, .int i15, .int i16, .ref a20, .long j0, .ref a21, .ref a22, .ref a23, .ref a24])), (a1, .inl (cI, 544, .inl f630))] := by rw [ef630]; exact hD
          refine lv_aload_n hx hb dX12_moves_98 rfl (lv_at hl 1 rfl) ?_
          refine va_get (D := (dC, dI)) (ci := 12) (v := .ref a1) (C := RX12) (T := TX12) (N := 42) hx hb hwd inlX12 hown hK hP 2 rfl rfl 1 (by decide) (hwd _ kr49_2) (fun _ h9 => h9) rfl dX12_moves_99 ?_
          refine lv_bipush (v := 15) hx hb dX12_moves_102 (by decide) ?_
          refine lv_dup2_11 hx hb dX12_moves_104 rfl rfl ?_
          have h631 : vp_in (15 : Int32) 544 := (vin (by decide))
          refine va_iald hx hb hK hP 3 0 rfl rfl h631 dX12_moves_105 ?_
          refine lv_topi (fun x632 ex632 => ?_)
          have ix632 := wat_lit (k := 15) ex632 (by decide)
          have wh633 : whd cp f630 := df630.1.1
          unfold whd at wh633
          have wk634 := df630.2
          refine lv_iload_n hx hb dX12_moves_106 rfl (lv_at hl 0 rfl) ?_
          refine lv_if_eq (tgt := 114) hx hb dX12_moves_107 (by decide) (fun c635 => absurd c635 (by decide)) (fun c635 => ?_)
          refine lv_iconst (v := 0) hx hb dX12_moves_110 (by decide) ?_
          refine lv_goto (tgt := 130) hx hb dX12_moves_111 (by decide) ?_
          refine lv_iadd hx hb dX12_moves_130 ?_
          refine lv_topi (fun x636 ex636 => ?_)
          have b_b637 := i32_b x632
          have tx636 := ia_add (a := x632) (b := (0 : Int32)) (by omega) (by omega)
          rw [← ex636] at tx636
          refine va_iast hx hb hK hP hD hS 3 0 rfl rfl (vin (by decide)) dX12_moves_131 (fun H locs hP hD hS => ?_)
          obtain ⟨f638, ef638⟩ : ∃ f, f = upd f630 (15 : Int32).toNatClampNeg x636 := ⟨_, rfl⟩
          have df638 : WJ cp f638 := by rw [ef638]; exact WJ_free df630 (by omega) (by omega)
          replace hP : va_P (dC, dI) vwCl [(a8, .inl (cI, 600, .inl xF7)), (a10, .inl (cI, 10, .inl f586)), (a0, .inr (12, [.int i0, .ref a1, .ref a2, .ref a3, .ref a4, .int i1, .ref a5, .int i2, .int i3, .int i4, .int i5, .int i6, .int i7, .int i8, .ref a6, .ref a7, .ref a8, .ref a9, .ref a10, .ref a11, .ref a12, .int i9, .ref a13, .int i10, .ref a14, .ref a15, .int i11, .ref a16, .ref a17, .ref a18, .ref a19, .int i12, .int i13, .int i14, .int i15, .int i16, .ref a20, .long j0, .ref a21, .ref a22, .ref a23, .ref a24])), (a1, .inl (cI, 544, .inl f638))] H := by rw [ef638]; exact hP
          replace hD : va_D A [(a8, .inl (cI, 600, .inl xF7)), (a10, .inl (cI, 10, .inl f586)), (a0, .inr (12, [.int i0, .ref a1, .ref a2, .ref a3, .ref a4, .int i1, .ref a5, .int i2, .int i3, .int i4, .int i5, .int i6, .int i7, .int i8, .ref a6, .ref a7, .ref a8, .ref a9, .ref a10, .ref a11, .ref a12, .int i9, .ref a13, .int i10, .ref a14, .ref a15, .int i11, .ref a16, .ref a17, .ref a18, .ref a19, .int i12, .int i13, .int i14, .int i15, .int i16, .ref a20, .long j0, .ref a21, .ref a22, .ref a23, .ref a24])), (a1, .inl (cI, 544, .inl f638))] := by rw [ef638]; exact hD
          obtain ⟨x639, ex639⟩ : ∃ y : Int32, y = w2_1 + 1 := ⟨_, rfl⟩
          refine lv_iinc (v := x639) (lv' := [(2, .int x639), (3, .int 1), (0, .ref a0), (1, .int p0)]) hx hb dX12_moves_132 hl (k := 3) rfl (by rw [ex639]; rfl) (by decide) rfl (fun ls hl => ?_)
          have tx639 := ia_add (a := w2_1) (b := (1 : Int32)) (by omega) (by omega)
          rw [← ex639] at tx639
          refine lv_goto (tgt := 2) hx hb dX12_moves_135 (by decide) ?_
          exact ih1 _ _ ls x639 f638 f586 (show (0 : Int) ≤ x639.toInt ∧ x639.toInt ≤ 10 from ⟨by omega, by omega⟩) (show WJ cp f638 from df638) (by omega) (hP.sub (ws' := [(a0, .inr (12, [.int i0, .ref a1, .ref a2, .ref a3, .ref a4, .int i1, .ref a5, .int i2, .int i3, .int i4, .int i5, .int i6, .int i7, .int i8, .ref a6, .ref a7, .ref a8, .ref a9, .ref a10, .ref a11, .ref a12, .int i9, .ref a13, .int i10, .ref a14, .ref a15, .int i11, .ref a16, .ref a17, .ref a18, .ref a19, .int i12, .int i13, .int i14, .int i15, .int i16, .ref a20, .long j0, .ref a21, .ref a22, .ref a23, .ref a24])), (a1, .inl (cI, 544, .inl f638)), (a8, .inl (cI, 600, .inl xF7)), (a10, .inl (cI, 10, .inl f586))]) [2, 3, 0, 1] rfl) (hD.sub (ws' := [(a0, .inr (12, [.int i0, .ref a1, .ref a2, .ref a3, .ref a4, .int i1, .ref a5, .int i2, .int i3, .int i4, .int i5, .int i6, .int i7, .int i8, .ref a6, .ref a7, .ref a8, .ref a9, .ref a10, .ref a11, .ref a12, .int i9, .ref a13, .int i10, .ref a14, .ref a15, .int i11, .ref a16, .ref a17, .ref a18, .ref a19, .int i12, .int i13, .int i14, .int i15, .int i16, .ref a20, .long j0, .ref a21, .ref a22, .ref a23, .ref a24])), (a1, .inl (cI, 544, .inl f638)), (a8, .inl (cI, 600, .inl xF7)), (a10, .inl (cI, 10, .inl f586))]) [2, 3, 0, 1] (by decide) rfl) hS (lv_sub hl [2, 3, 0] rfl)
  exact lp1 _ _ _ ls (0) xF0 xF9 (show (0 : Int) ≤ (0 : Int32).toInt ∧ (0 : Int32).toInt ≤ 10 from ⟨by omega, by omega⟩) (show WJ cp xF0 from p_7) (Nat.lt_succ_self _) (hP.sub (ws' := [(a0, .inr (12, [.int i0, .ref a1, .ref a2, .ref a3, .ref a4, .int i1, .ref a5, .int i2, .int i3, .int i4, .int i5, .int i6, .int i7, .int i8, .ref a6, .ref a7, .ref a8, .ref a9, .ref a10, .ref a11, .ref a12, .int i9, .ref a13, .int i10, .ref a14, .ref a15, .int i11, .ref a16, .ref a17, .ref a18, .ref a19, .int i12, .int i13, .int i14, .int i15, .int i16, .ref a20, .long j0, .ref a21, .ref a22, .ref a23, .ref a24])), (a1, .inl (cI, 544, .inl xF0)), (a8, .inl (cI, 600, .inl xF7)), (a10, .inl (cI, 10, .inl xF9))]) [0, 1, 2, 3] rfl) (hD.sub (ws' := [(a0, .inr (12, [.int i0, .ref a1, .ref a2, .ref a3, .ref a4, .int i1, .ref a5, .int i2, .int i3, .int i4, .int i5, .int i6, .int i7, .int i8, .ref a6, .ref a7, .ref a8, .ref a9, .ref a10, .ref a11, .ref a12, .int i9, .ref a13, .int i10, .ref a14, .ref a15, .int i11, .ref a16, .ref a17, .ref a18, .ref a19, .int i12, .int i13, .int i14, .int i15, .int i16, .ref a20, .long j0, .ref a21, .ref a22, .ref a23, .ref a24])), (a1, .inl (cI, 544, .inl xF0)), (a8, .inl (cI, 600, .inl xF7)), (a10, .inl (cI, 10, .inl xF9))]) [0, 1, 2, 3] (by decide) rfl) hS (lv_sub hl [1, 2, 0] rfl)
