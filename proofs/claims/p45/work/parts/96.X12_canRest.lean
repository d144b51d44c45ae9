theorem dX12_canRest_0 : decode cX12_canRest 0 = .ok (.iload_n 2, 1) := by decide +kernel
theorem dX12_canRest_1 : decode cX12_canRest 1 = .ok (.iload_n 1, 1) := by decide +kernel
theorem dX12_canRest_2 : decode cX12_canRest 2 = .ok (.ishr, 1) := by decide +kernel
theorem dX12_canRest_3 : decode cX12_canRest 3 = .ok (.iload_n 1, 1) := by decide +kernel
theorem dX12_canRest_4 : decode cX12_canRest 4 = .ok (.ishl, 1) := by decide +kernel
theorem dX12_canRest_5 : decode cX12_canRest 5 = .ok (.istore 4, 2) := by decide +kernel
theorem dX12_canRest_7 : decode cX12_canRest 7 = .ok (.iconst 1, 1) := by decide +kernel
theorem dX12_canRest_8 : decode cX12_canRest 8 = .ok (.istore 5, 2) := by decide +kernel
theorem dX12_canRest_10 : decode cX12_canRest 10 = .ok (.iload_n 1, 1) := by decide +kernel
theorem dX12_canRest_11 : decode cX12_canRest 11 = .ok (.istore 6, 2) := by decide +kernel
theorem dX12_canRest_13 : decode cX12_canRest 13 = .ok (.iload 6, 2) := by decide +kernel
theorem dX12_canRest_15 : decode cX12_canRest 15 = .ok (.bipush 8, 2) := by decide +kernel
theorem dX12_canRest_17 : decode cX12_canRest 17 = .ok (.if_icmp .ge 22, 3) := by decide +kernel
theorem dX12_canRest_20 : decode cX12_canRest 20 = .ok (.iload_n 2, 1) := by decide +kernel
theorem dX12_canRest_21 : decode cX12_canRest 21 = .ok (.iload 6, 2) := by decide +kernel
theorem dX12_canRest_23 : decode cX12_canRest 23 = .ok (.ishr, 1) := by decide +kernel
theorem dX12_canRest_24 : decode cX12_canRest 24 = .ok (.ifCond .eq 15, 3) := by decide +kernel
theorem dX12_canRest_27 : decode cX12_canRest 27 = .ok (.iload 5, 2) := by decide +kernel
theorem dX12_canRest_29 : decode cX12_canRest 29 = .ok (.iload_n 3, 1) := by decide +kernel
theorem dX12_canRest_30 : decode cX12_canRest 30 = .ok (.imul, 1) := by decide +kernel
theorem dX12_canRest_31 : decode cX12_canRest 31 = .ok (.istore 5, 2) := by decide +kernel
theorem dX12_canRest_33 : decode cX12_canRest 33 = .ok (.iinc 6 1, 3) := by decide +kernel
theorem dX12_canRest_36 : decode cX12_canRest 36 = .ok (.goto (-23), 3) := by decide +kernel
theorem dX12_canRest_39 : decode cX12_canRest 39 = .ok (.iconst 0, 1) := by decide +kernel
theorem dX12_canRest_40 : decode cX12_canRest 40 = .ok (.istore 6, 2) := by decide +kernel
theorem dX12_canRest_42 : decode cX12_canRest 42 = .ok (.iload 6, 2) := by decide +kernel
theorem dX12_canRest_44 : decode cX12_canRest 44 = .ok (.iload 5, 2) := by decide +kernel
theorem dX12_canRest_46 : decode cX12_canRest 46 = .ok (.if_icmp .ge 138, 3) := by decide +kernel
theorem dX12_canRest_49 : decode cX12_canRest 49 = .ok (.iload 6, 2) := by decide +kernel
theorem dX12_canRest_51 : decode cX12_canRest 51 = .ok (.istore 7, 2) := by decide +kernel
theorem dX12_canRest_53 : decode cX12_canRest 53 = .ok (.iconst 1, 1) := by decide +kernel
theorem dX12_canRest_54 : decode cX12_canRest 54 = .ok (.istore 8, 2) := by decide +kernel
theorem dX12_canRest_56 : decode cX12_canRest 56 = .ok (.iconst 0, 1) := by decide +kernel
theorem dX12_canRest_57 : decode cX12_canRest 57 = .ok (.istore 9, 2) := by decide +kernel
theorem dX12_canRest_59 : decode cX12_canRest 59 = .ok (.iload 9, 2) := by decide +kernel
theorem dX12_canRest_61 : decode cX12_canRest 61 = .ok (.iload_n 3, 1) := by decide +kernel
theorem dX12_canRest_62 : decode cX12_canRest 62 = .ok (.if_icmp .ge 28, 3) := by decide +kernel
theorem dX12_canRest_65 : decode cX12_canRest 65 = .ok (.aload_n 0, 1) := by decide +kernel
theorem dX12_canRest_66 : decode cX12_canRest 66 = .ok (.getfield 73, 3) := by decide +kernel
theorem dX12_canRest_69 : decode cX12_canRest 69 = .ok (.iload 9, 2) := by decide +kernel
theorem dX12_canRest_71 : decode cX12_canRest 71 = .ok (.aload_n 0, 1) := by decide +kernel
theorem dX12_canRest_72 : decode cX12_canRest 72 = .ok (.getfield 64, 3) := by decide +kernel
theorem dX12_canRest_75 : decode cX12_canRest 75 = .ok (.aload_n 0, 1) := by decide +kernel
theorem dX12_canRest_76 : decode cX12_canRest 76 = .ok (.getfield 70, 3) := by decide +kernel
theorem dX12_canRest_79 : decode cX12_canRest 79 = .ok (.iload 9, 2) := by decide +kernel
theorem dX12_canRest_81 : decode cX12_canRest 81 = .ok (.iaload, 1) := by decide +kernel
theorem dX12_canRest_82 : decode cX12_canRest 82 = .ok (.iaload, 1) := by decide +kernel
theorem dX12_canRest_83 : decode cX12_canRest 83 = .ok (.iastore, 1) := by decide +kernel
theorem dX12_canRest_84 : decode cX12_canRest 84 = .ok (.iinc 9 1, 3) := by decide +kernel
theorem dX12_canRest_87 : decode cX12_canRest 87 = .ok (.goto (-28), 3) := by decide +kernel
theorem dX12_canRest_90 : decode cX12_canRest 90 = .ok (.iload_n 1, 1) := by decide +kernel
theorem dX12_canRest_91 : decode cX12_canRest 91 = .ok (.istore 9, 2) := by decide +kernel
theorem dX12_canRest_93 : decode cX12_canRest 93 = .ok (.iload 9, 2) := by decide +kernel
theorem dX12_canRest_95 : decode cX12_canRest 95 = .ok (.bipush 8, 2) := by decide +kernel
theorem dX12_canRest_97 : decode cX12_canRest 97 = .ok (.if_icmp .ge 74, 3) := by decide +kernel
theorem dX12_canRest_100 : decode cX12_canRest 100 = .ok (.iload 4, 2) := by decide +kernel
theorem dX12_canRest_102 : decode cX12_canRest 102 = .ok (.iload 9, 2) := by decide +kernel
theorem dX12_canRest_104 : decode cX12_canRest 104 = .ok (.ishr, 1) := by decide +kernel
theorem dX12_canRest_105 : decode cX12_canRest 105 = .ok (.ifCond .eq 66, 3) := by decide +kernel
theorem dX12_canRest_108 : decode cX12_canRest 108 = .ok (.iload 8, 2) := by decide +kernel
theorem dX12_canRest_110 : decode cX12_canRest 110 = .ok (.ifCond .eq 61, 3) := by decide +kernel
theorem dX12_canRest_113 : decode cX12_canRest 113 = .ok (.aload_n 0, 1) := by decide +kernel
theorem dX12_canRest_114 : decode cX12_canRest 114 = .ok (.getfield 73, 3) := by decide +kernel
theorem dX12_canRest_117 : decode cX12_canRest 117 = .ok (.iload 7, 2) := by decide +kernel
theorem dX12_canRest_119 : decode cX12_canRest 119 = .ok (.iload_n 3, 1) := by decide +kernel
theorem dX12_canRest_120 : decode cX12_canRest 120 = .ok (.irem, 1) := by decide +kernel
theorem dX12_canRest_121 : decode cX12_canRest 121 = .ok (.dup2, 1) := by decide +kernel
theorem dX12_canRest_122 : decode cX12_canRest 122 = .ok (.iaload, 1) := by decide +kernel
theorem dX12_canRest_123 : decode cX12_canRest 123 = .ok (.aload_n 0, 1) := by decide +kernel
theorem dX12_canRest_124 : decode cX12_canRest 124 = .ok (.getfield 64, 3) := by decide +kernel
theorem dX12_canRest_127 : decode cX12_canRest 127 = .ok (.iconst 1, 1) := by decide +kernel
theorem dX12_canRest_128 : decode cX12_canRest 128 = .ok (.iload 9, 2) := by decide +kernel
theorem dX12_canRest_130 : decode cX12_canRest 130 = .ok (.ishl, 1) := by decide +kernel
theorem dX12_canRest_131 : decode cX12_canRest 131 = .ok (.iaload, 1) := by decide +kernel
theorem dX12_canRest_132 : decode cX12_canRest 132 = .ok (.iadd, 1) := by decide +kernel
theorem dX12_canRest_133 : decode cX12_canRest 133 = .ok (.iastore, 1) := by decide +kernel
theorem dX12_canRest_134 : decode cX12_canRest 134 = .ok (.aload_n 0, 1) := by decide +kernel
theorem dX12_canRest_135 : decode cX12_canRest 135 = .ok (.getfield 73, 3) := by decide +kernel
theorem dX12_canRest_138 : decode cX12_canRest 138 = .ok (.iload 7, 2) := by decide +kernel
theorem dX12_canRest_140 : decode cX12_canRest 140 = .ok (.iload_n 3, 1) := by decide +kernel
theorem dX12_canRest_141 : decode cX12_canRest 141 = .ok (.irem, 1) := by decide +kernel
theorem dX12_canRest_142 : decode cX12_canRest 142 = .ok (.iaload, 1) := by decide +kernel
theorem dX12_canRest_143 : decode cX12_canRest 143 = .ok (.aload_n 0, 1) := by decide +kernel
theorem dX12_canRest_144 : decode cX12_canRest 144 = .ok (.getfield 13, 3) := by decide +kernel
theorem dX12_canRest_147 : decode cX12_canRest 147 = .ok (.iconst 1, 1) := by decide +kernel
theorem dX12_canRest_148 : decode cX12_canRest 148 = .ok (.iaload, 1) := by decide +kernel
theorem dX12_canRest_149 : decode cX12_canRest 149 = .ok (.if_icmp .gt 7, 3) := by decide +kernel
theorem dX12_canRest_152 : decode cX12_canRest 152 = .ok (.iconst 1, 1) := by decide +kernel
theorem dX12_canRest_153 : decode cX12_canRest 153 = .ok (.goto 4, 3) := by decide +kernel
theorem dX12_canRest_156 : decode cX12_canRest 156 = .ok (.iconst 0, 1) := by decide +kernel
theorem dX12_canRest_157 : decode cX12_canRest 157 = .ok (.istore 8, 2) := by decide +kernel
theorem dX12_canRest_159 : decode cX12_canRest 159 = .ok (.iload 7, 2) := by decide +kernel
theorem dX12_canRest_161 : decode cX12_canRest 161 = .ok (.iload_n 3, 1) := by decide +kernel
theorem dX12_canRest_162 : decode cX12_canRest 162 = .ok (.idiv, 1) := by decide +kernel
theorem dX12_canRest_163 : decode cX12_canRest 163 = .ok (.istore 7, 2) := by decide +kernel
theorem dX12_canRest_165 : decode cX12_canRest 165 = .ok (.iinc 9 1, 3) := by decide +kernel
theorem dX12_canRest_168 : decode cX12_canRest 168 = .ok (.goto (-75), 3) := by decide +kernel
theorem dX12_canRest_171 : decode cX12_canRest 171 = .ok (.iload 8, 2) := by decide +kernel
theorem dX12_canRest_173 : decode cX12_canRest 173 = .ok (.ifCond .eq 5, 3) := by decide +kernel
theorem dX12_canRest_176 : decode cX12_canRest 176 = .ok (.iconst 1, 1) := by decide +kernel
theorem dX12_canRest_177 : decode cX12_canRest 177 = .ok (.ireturn, 1) := by decide +kernel
theorem dX12_canRest_178 : decode cX12_canRest 178 = .ok (.iinc 6 1, 3) := by decide +kernel
theorem dX12_canRest_181 : decode cX12_canRest 181 = .ok (.goto (-139), 3) := by decide +kernel
theorem dX12_canRest_184 : decode cX12_canRest 184 = .ok (.iconst 0, 1) := by decide +kernel
theorem dX12_canRest_185 : decode cX12_canRest 185 = .ok (.ireturn, 1) := by decide +kernel
set_option maxHeartbeats 4000000 in
set_option maxRecDepth 100000 in
theorem s_X12_canRest (l : Launch) (dC : Nat → ClassId) (dI : Nat → Nat → Nat) (cI cZ cB cJ cM cG : ClassId) (a0 a1 a2 a3 a4 a5 a6 a7 a8 a9 a10 a11 a12 a13 a14 a15 a16 a17 a18 a19 a20 a21 a22 a23 a24 : Nat) (i0 i1 i2 i3 i4 i5 i6 i7 i8 i9 i10 i11 i12 i13 i14 i15 i16 : Int32) (j0 : Int64) (xF0 xF15 xF17 xF18 : Nat → Int32) (p0 p1 p2 : Int32) (cp : Int) (sz : Nat) (p_0 : (0 : Int) ≤ i1.toInt ∧ i1.toInt ≤ 1600) (p_1 : (0 : Int) ≤ i2.toInt ∧ i2.toInt ≤ 1600) (p_2 : (0 : Int) ≤ i3.toInt ∧ i3.toInt ≤ 1600) (p_3 : (0 : Int) ≤ i4.toInt ∧ i4.toInt ≤ 1600) (p_4 : (0 : Int) ≤ i5.toInt ∧ i5.toInt ≤ 6) (p_5 : (0 : Int) ≤ i7.toInt ∧ i7.toInt ≤ 3) (p_6 : (0 : Int) ≤ i11.toInt ∧ i11.toInt ≤ 59) (p_7 : WI cp xF0) (p_8 : rng xF17 8 0 255) (p_9 : (1 : Int) ≤ p0.toInt ∧ p0.toInt ≤ 8) (p_10 : (1 : Int) ≤ p2.toInt ∧ p2.toInt ≤ 8) (p_11 : 0 ≤ cp ∧ cp ≤ 2000000000) : Met l yX12_canRest (kw yX12_canRest cX12_canRest 10 (some .boolean)) ({ frames := 0, cells := 0, slots := 0, locals := 0 } : Room) (va_Pc [.ref a0, .int p0, .int p1, .int p2] (kPre dC dI [(cI, .int), (cZ, .boolean), (cB, .byte), (cJ, .long), (cM, .object RX2), (cG, .array .int)] [(a0, .inr (12, [.int i0, .ref a1, .ref a2, .ref a3, .ref a4, .int i1, .ref a5, .int i2, .int i3, .int i4, .int i5, .int i6, .int i7, .int i8, .ref a6, .ref a7, .ref a8, .ref a9, .ref a10, .ref a11, .ref a12, .int i9, .ref a13, .int i10, .ref a14, .ref a15, .int i11, .ref a16, .ref a17, .ref a18, .ref a19, .int i12, .int i13, .int i14, .int i15, .int i16, .ref a20, .long j0, .ref a21, .ref a22, .ref a23, .ref a24])), (a1, .inl (cI, 544, .inl xF0)), (a16, .inl (cI, 256, .inl xF15)), (a18, .inl (cI, 8, .inl xF17)), (a19, .inl (cI, 8, .inl xF18))] sz)) (va_Qi (fun (r : Int32) (u9 : (Nat → Int32) × (Nat → Nat → Int32) × (Nat → Nat → Int64)) => ((0 : Int) ≤ r.toInt ∧ r.toInt ≤ 1) ∧ True) (fun u9 t => va_P (dC, dI) vwCl [(a0, .inr (12, [.int i0, .ref a1, .ref a2, .ref a3, .ref a4, .int i1, .ref a5, .int i2, .int i3, .int i4, .int i5, .int i6, .int i7, .int i8, .ref a6, .ref a7, .ref a8, .ref a9, .ref a10, .ref a11, .ref a12, .int i9, .ref a13, .int i10, .ref a14, .ref a15, .int i11, .ref a16, .ref a17, .ref a18, .ref a19, .int i12, .int i13, .int i14, .int i15, .int i16, .ref a20, .long j0, .ref a21, .ref a22, .ref a23, .ref a24])), (a1, .inl (cI, 544, .inl xF0)), (a16, .inl (cI, 256, .inl xF15)), (a18, .inl (cI, 8, .inl xF17)), (a19, .inl (cI, 8, .inl (u9.2.1 0)))] t.heap ∧ va_D (va_A [(a0, .inr (12, [.int i0, .ref a1, .ref a2, .ref a3, .ref a4, .int i1, .ref a5, .int i2, .int i3, .int i4, .int i5, .int i6, .int i7, .int i8, .ref a6, .ref a7, .ref a8, .ref a9, .ref a10, .ref a11, .ref a12, .int i9, .ref a13, .int i10, .ref a14, .ref a15, .int i11, .ref a16, .ref a17, .ref a18, .ref a19, .int i12, .int i13, .int i14, .int i15, .int i16, .ref a20, .long j0, .ref a21, .ref a22, .ref a23, .ref a24])), (a1, .inl (cI, 544, .inl xF0)), (a16, .inl (cI, 256, .inl xF15)), (a18, .inl (cI, 8, .inl xF17)), (a19, .inl (cI, 8, .inl xF18))] sz) [(a0, .inr (12, [.int i0, .ref a1, .ref a2, .ref a3, .ref a4, .int i1, .ref a5, .int i2, .int i3, .int i4, .int i5, .int i6, .int i7, .int i8, .ref a6, .ref a7, .ref a8, .ref a9, .ref a10, .ref a11, .ref a12, .int i9, .ref a13, .int i10, .ref a14, .ref a15, .int i11, .ref a16, .ref a17, .ref a18, .ref a19, .int i12, .int i13, .int i14, .int i15, .int i16, .ref a20, .long j0, .ref a21, .ref a22, .ref a23, .ref a24])), (a1, .inl (cI, 544, .inl xF0)), (a16, .inl (cI, 256, .inl xF15)), (a18, .inl (cI, 8, .inl xF17)), (a19, .inl (cI, 8, .inl (u9.2.1 0)))]) (va_A [(a0, .inr (12, [.int i0, .ref a1, .ref a2, .ref a3, .ref a4, .int i1, .ref a5, .int i2, .int i3, .int i4, .int i5, .int i6, .int i7, .int i8, .ref a6, .ref a7, .ref a8, .ref a9, .ref a10, .ref a11, .ref a12, .int i9, .ref a13, .int i10, .ref a14, .ref a15, .int i11, .ref a16, .ref a17, .ref a18, .ref a19, .int i12, .int i13, .int i14, .int i15, .int i16, .ref a20, .long j0, .ref a21, .ref a22, .ref a23, .ref a24])), (a1, .inl (cI, 544, .inl xF0)), (a16, .inl (cI, 256, .inl xF15)), (a18, .inl (cI, 8, .inl xF17)), (a19, .inl (cI, 8, .inl xF18))] sz)) 0 0 (va_A [(a0, .inr (12, [.int i0, .ref a1, .ref a2, .ref a3, .ref a4, .int i1, .ref a5, .int i2, .int i3, .int i4, .int i5, .int i6, .int i7, .int i8, .ref a6, .ref a7, .ref a8, .ref a9, .ref a10, .ref a11, .ref a12, .int i9, .ref a13, .int i10, .ref a14, .ref a15, .int i11, .ref a16, .ref a17, .ref a18, .ref a19, .int i12, .int i13, .int i14, .int i15, .int i16, .ref a20, .long j0, .ref a21, .ref a22, .ref a23, .ref a24])), (a1, .inl (cI, 544, .inl xF0)), (a16, .inl (cI, 256, .inl xF15)), (a18, .inl (cI, 8, .inl xF17)), (a19, .inl (cI, 8, .inl xF18))] sz) := by
  refine kEnter (by decide) (Nat.le_of_ble_eq_true rfl) ?_
  intro p e s m below meth c ls hx hb hr hml hown hlocks hin hwd hsz hP hK hD hl
  subst hsz
  generalize hAe : va_A [(a0, .inr (12, [.int i0, .ref a1, .ref a2, .ref a3, .ref a4, .int i1, .ref a5, .int i2, .int i3, .int i4, .int i5, .int i6, .int i7, .int i8, .ref a6, .ref a7, .ref a8, .ref a9, .ref a10, .ref a11, .ref a12, .int i9, .ref a13, .int i10, .ref a14, .ref a15, .int i11, .ref a16, .ref a17, .ref a18, .ref a19, .int i12, .int i13, .int i14, .int i15, .int i16, .ref a20, .long j0, .ref a21, .ref a22, .ref a23, .ref a24])), (a1, .inl (cI, 544, .inl xF0)), (a16, .inl (cI, 256, .inl xF15)), (a18, .inl (cI, 8, .inl xF17)), (a19, .inl (cI, 8, .inl xF18))] s.heap.size = A at hD ⊢
  have hA : ∀ q : Nat, s.heap.size ≤ q → A q := fun q h => by rw [← hAe]; exact Or.inr h
  have hS : va_S A s.heap s.heap [] := va_S.rf
  have hl : lv_has ls 10 [(0, .ref a0), (1, .int p0), (2, .int p1), (3, .int p2)] := hl
  obtain ⟨Q, hQ⟩ : ∃ Q, Q = MQ below (va_Qi (fun (r : Int32) (u9 : (Nat → Int32) × (Nat → Nat → Int32) × (Nat → Nat → Int64)) => ((0 : Int) ≤ r.toInt ∧ r.toInt ≤ 1) ∧ True) (fun u9 t => va_P (dC, dI) vwCl [(a0, .inr (12, [.int i0, .ref a1, .ref a2, .ref a3, .ref a4, .int i1, .ref a5, .int i2, .int i3, .int i4, .int i5, .int i6, .int i7, .int i8, .ref a6, .ref a7, .ref a8, .ref a9, .ref a10, .ref a11, .ref a12, .int i9, .ref a13, .int i10, .ref a14, .ref a15, .int i11, .ref a16, .ref a17, .ref a18, .ref a19, .int i12, .int i13, .int i14, .int i15, .int i16, .ref a20, .long j0, .ref a21, .ref a22, .ref a23, .ref a24])), (a1, .inl (cI, 544, .inl xF0)), (a16, .inl (cI, 256, .inl xF15)), (a18, .inl (cI, 8, .inl xF17)), (a19, .inl (cI, 8, .inl (u9.2.1 0)))] t.heap ∧ va_D A [(a0, .inr (12, [.int i0, .ref a1, .ref a2, .ref a3, .ref a4, .int i1, .ref a5, .int i2, .int i3, .int i4, .int i5, .int i6, .int i7, .int i8, .ref a6, .ref a7, .ref a8, .ref a9, .ref a10, .ref a11, .ref a12, .int i9, .ref a13, .int i10, .ref a14, .ref a15, .int i11, .ref a16, .ref a17, .ref a18, .ref a19, .int i12, .int i13, .int i14, .int i15, .int i16, .ref a20, .long j0, .ref a21, .ref a22, .ref a23, .ref a24])), (a1, .inl (cI, 544, .inl xF0)), (a16, .inl (cI, 256, .inl xF15)), (a18, .inl (cI, 8, .inl xF17)), (a19, .inl (cI, 8, .inl (u9.2.1 0)))]) A) ([.ref a0, .int p0, .int p1, .int p2] : List Value).toArray s 0 0 A := ⟨_, rfl⟩
  rw [← hQ]
  have k0 : (0 : Int32).toInt = 0 := by decide
  have k1 : (1 : Int32).toInt = 1 := by decide
  have k8 : (8 : Int32).toInt = 8 := by decide
  refine lv_iload_n hx hb dX12_canRest_0 rfl (lv_at hl 2 rfl) ?_
  refine lv_iload_n hx hb dX12_canRest_1 rfl (lv_at hl 1 rfl) ?_
  refine lv_ishr hx hb dX12_canRest_2 ?_
  refine lv_topi (fun x1 ex1 => ?_)
  refine lv_iload_n hx hb dX12_canRest_3 rfl (lv_at hl 1 rfl) ?_
  refine lv_ishl hx hb dX12_canRest_4 ?_
  refine lv_topi (fun x2 ex2 => ?_)
  refine lv_istore (lv' := [(4, .int x2), (0, .ref a0), (1, .int p0), (2, .int p1), (3, .int p2)]) hx hb dX12_canRest_5 hl (by decide) rfl (fun ls hl => ?_)
  refine lv_iconst (v := 1) hx hb dX12_canRest_7 (by decide) ?_
  refine lv_istore (lv' := [(5, .int 1), (4, .int x2), (0, .ref a0), (1, .int p0), (2, .int p1), (3, .int p2)]) hx hb dX12_canRest_8 hl (by decide) rfl (fun ls hl => ?_)
  refine lv_iload_n hx hb dX12_canRest_10 rfl (lv_at hl 3 rfl) ?_
  refine lv_istore (lv' := [(6, .int p0), (5, .int 1), (4, .int x2), (0, .ref a0), (1, .int p0), (2, .int p1), (3, .int p2)]) hx hb dX12_canRest_11 hl (by decide) rfl (fun ls hl => ?_)
  have lp1 : ∀ (d : Nat), ∀ (H : Heap) (locs : List Loc) (ls : Array Slot) (w5_1 : Int32) (w6_1 : Int32), ((1 : Int) ≤ w6_1.toInt ∧ w6_1.toInt ≤ 8) → (8 - w6_1.toInt).toNat < d → va_P (dC, dI) vwCl [(a0, .inr (12, [.int i0, .ref a1, .ref a2, .ref a3, .ref a4, .int i1, .ref a5, .int i2, .int i3, .int i4, .int i5, .int i6, .int i7, .int i8, .ref a6, .ref a7, .ref a8, .ref a9, .ref a10, .ref a11, .ref a12, .int i9, .ref a13, .int i10, .ref a14, .ref a15, .int i11, .ref a16, .ref a17, .ref a18, .ref a19, .int i12, .int i13, .int i14, .int i15, .int i16, .ref a20, .long j0, .ref a21, .ref a22, .ref a23, .ref a24])), (a1, .inl (cI, 544, .inl xF0)), (a16, .inl (cI, 256, .inl xF15)), (a18, .inl (cI, 8, .inl xF17)), (a19, .inl (cI, 8, .inl xF18))] H → va_D A [(a0, .inr (12, [.int i0, .ref a1, .ref a2, .ref a3, .ref a4, .int i1, .ref a5, .int i2, .int i3, .int i4, .int i5, .int i6, .int i7, .int i8, .ref a6, .ref a7, .ref a8, .ref a9, .ref a10, .ref a11, .ref a12, .int i9, .ref a13, .int i10, .ref a14, .ref a15, .int i11, .ref a16, .ref a17, .ref a18, .ref a19, .int i12, .int i13, .int i14, .int i15, .int i16, .ref a20, .long j0, .ref a21, .ref a22, .ref a23, .ref a24])), (a1, .inl (cI, 544, .inl xF0)), (a16, .inl (cI, 256, .inl xF15)), (a18, .inl (cI, 8, .inl xF17)), (a19, .inl (cI, 8, .inl xF18))] → va_S A s.heap H locs → lv_has ls 10 [(0, .ref a0), (1, .int p0), (2, .int p1), (3, .int p2), (4, .int x2), (5, .int w5_1), (6, .int w6_1)] → W p l e ({ frames := 0, cells := 0, slots := 0, locals := 0 } : Room) s m ([.ref a0, .int p0, .int p1, .int p2] : List Value).toArray below meth c H locs 0 0 Q (F0 m 13 ls []) := by
    intro d
    induction d with
    | zero =>
      intro H locs ls w5_1 w6_1 hr_w6_1 hm hP hD hS hl
      omega
    | succ d ih1 =>
      intro H locs ls w5_1 w6_1 hr_w6_1 hm hP hD hS hl
      refine lv_iload hx hb dX12_canRest_13 (lv_at hl 6 rfl) ?_
      refine lv_bipush (v := 8) hx hb dX12_canRest_15 (by decide) ?_
      refine lv_icmp_ge (tgt := 39) hx hb dX12_canRest_17 (by decide) (fun c28 => ?_) (fun c28 => ?_)
      · rw [ki_le] at c28
        refine lv_iconst (v := 0) hx hb dX12_canRest_39 (by decide) ?_
        refine lv_istore (lv' := [(6, .int 0), (0, .ref a0), (1, .int p0), (2, .int p1), (3, .int p2), (4, .int x2), (5, .int w5_1)]) hx hb dX12_canRest_40 hl (by decide) rfl (fun ls hl => ?_)
        have lp2 : ∀ (d : Nat), ∀ (H : Heap) (locs : List Loc) (ls : Array Slot) (w6_2 : Int32) (g1_2 : Nat → Int32), ((0 : Int) ≤ w6_2.toInt ∧ w6_2.toInt ≤ 2147483647) → (2147483647 - w6_2.toInt).toNat < d → va_P (dC, dI) vwCl [(a0, .inr (12, [.int i0, .ref a1, .ref a2, .ref a3, .ref a4, .int i1, .ref a5, .int i2, .int i3, .int i4, .int i5, .int i6, .int i7, .int i8, .ref a6, .ref a7, .ref a8, .ref a9, .ref a10, .ref a11, .ref a12, .int i9, .ref a13, .int i10, .ref a14, .ref a15, .int i11, .ref a16, .ref a17, .ref a18, .ref a19, .int i12, .int i13, .int i14, .int i15, .int i16, .ref a20, .long j0, .ref a21, .ref a22, .ref a23, .ref a24])), (a1, .inl (cI, 544, .inl xF0)), (a16, .inl (cI, 256, .inl xF15)), (a18, .inl (cI, 8, .inl xF17)), (a19, .inl (cI, 8, .inl g1_2))] H → va_D A [(a0, .inr (12, [.int i0, .ref a1, .ref a2, .ref a3, .ref a4, .int i1, .ref a5, .int i2, .int i3, .int i4, .int i5, .int i6, .int i7, .int i8, .ref a6, .ref a7, .ref a8, .ref a9, .ref a10, .ref a11, .ref a12, .int i9, .ref a13, .int i10, .ref a14, .ref a15, .int i11, .ref a16, .ref a17, .ref a18, .ref a19, .int i12, .int i13, .int i14, .int i15, .int i16, .ref a20, .long j0, .ref a21, .ref a22, .ref a23, .ref a24])), (a1, .inl (cI, 544, .inl xF0)), (a16, .inl (cI, 256, .inl xF15)), (a18, .inl (cI, 8, .inl xF17)), (a19, .inl (cI, 8, .inl g1_2))] → va_S A s.heap H locs → lv_has ls 10 [(0, .ref a0), (1, .int p0), (2, .int p1), (3, .int p2), (4, .int x2), (5, .int w5_1), (6, .int w6_2)] → W p l e ({ frames := 0, cells := 0, slots := 0, locals := 0 } : Room) s m ([.ref a0, .int p0, .int p1, .int p2] : List Value).toArray below meth c H locs 0 0 Q (F0 m 42 ls []) := by
          intro d
          induction d with
          | zero =>
            intro H locs ls w6_2 g1_2 hr_w6_2 hm hP hD hS hl
            omega
          | succ d ih2 =>
            intro H locs ls w6_2 g1_2 hr_w6_2 hm hP hD hS hl
            refine lv_iload hx hb dX12_canRest_42 (lv_at hl 6 rfl) ?_
            refine lv_iload hx hb dX12_canRest_44 (lv_at hl 5 rfl) ?_
            refine lv_icmp_ge (tgt := 184) hx hb dX12_canRest_46 (by decide) (fun c6125 => ?_) (fun c6125 => ?_)
            · rw [ki_le] at c6125
              refine lv_iconst (v := 0) hx hb dX12_canRest_184 (by decide) ?_
              have hP9 := hP.sub (ws' := [(a0, .inr (12, [.int i0, .ref a1, .ref a2, .ref a3, .ref a4, .int i1, .ref a5, .int i2, .int i3, .int i4, .int i5, .int i6, .int i7, .int i8, .ref a6, .ref a7, .ref a8, .ref a9, .ref a10, .ref a11, .ref a12, .int i9, .ref a13, .int i10, .ref a14, .ref a15, .int i11, .ref a16, .ref a17, .ref a18, .ref a19, .int i12, .int i13, .int i14, .int i15, .int i16, .ref a20, .long j0, .ref a21, .ref a22, .ref a23, .ref a24])), (a1, .inl (cI, 544, .inl xF0)), (a16, .inl (cI, 256, .inl xF15)), (a18, .inl (cI, 8, .inl xF17)), (a19, .inl (cI, 8, .inl g1_2))]) [0, 1, 2, 3, 4] rfl
              have hD9 := hD.sub (ws' := [(a0, .inr (12, [.int i0, .ref a1, .ref a2, .ref a3, .ref a4, .int i1, .ref a5, .int i2, .int i3, .int i4, .int i5, .int i6, .int i7, .int i8, .ref a6, .ref a7, .ref a8, .ref a9, .ref a10, .ref a11, .ref a12, .int i9, .ref a13, .int i10, .ref a14, .ref a15, .int i11, .ref a16, .ref a17, .ref a18, .ref a19, .int i12, .int i13, .int i14, .int i15, .int i16, .ref a20, .long j0, .ref a21, .ref a22, .ref a23, .ref a24])), (a1, .inl (cI, 544, .inl xF0)), (a16, .inl (cI, 256, .inl xF15)), (a18, .inl (cI, 8, .inl xF17)), (a19, .inl (cI, 8, .inl g1_2))]) [0, 1, 2, 3, 4] (by decide) rfl
              rw [hQ]
              exact W.zret (v := 0) hx hb hr (by decide) (fun t ht hW => ⟨⟨0, (pickG 0 [], pickG (fun _ => 0) [g1_2], pickG (fun _ => 0) []), rfl, ⟨(show (0 : Int) ≤ (0 : Int32).toInt ∧ (0 : Int32).toInt ≤ 1 from ⟨by omega, by omega⟩), trivial⟩, (by rw [ht]; exact hP9), hD9⟩, hS.F ht⟩) hS.2.2 dX12_canRest_185
            · rw [ki_le] at c6125
              have b5 := i32_b w5_1
              refine lv_iload hx hb dX12_canRest_49 (lv_at hl 6 rfl) ?_
              refine lv_istore (lv' := [(7, .int w6_2), (0, .ref a0), (1, .int p0), (2, .int p1), (3, .int p2), (4, .int x2), (5, .int w5_1), (6, .int w6_2)]) hx hb dX12_canRest_51 hl (by decide) rfl (fun ls hl => ?_)
              refine lv_iconst (v := 1) hx hb dX12_canRest_53 (by decide) ?_
              refine lv_istore (lv' := [(8, .int 1), (7, .int w6_2), (0, .ref a0), (1, .int p0), (2, .int p1), (3, .int p2), (4, .int x2), (5, .int w5_1), (6, .int w6_2)]) hx hb dX12_canRest_54 hl (by decide) rfl (fun ls hl => ?_)
              refine lv_iconst (v := 0) hx hb dX12_canRest_56 (by decide) ?_
              refine lv_istore (lv' := [(9, .int 0), (8, .int 1), (7, .int w6_2), (0, .ref a0), (1, .int p0), (2, .int p1), (3, .int p2), (4, .int x2), (5, .int w5_1), (6, .int w6_2)]) hx hb dX12_canRest_57 hl (by decide) rfl (fun ls hl => ?_)
              have lp251 : ∀ (d : Nat), ∀ (H : Heap) (locs : List Loc) (ls : Array Slot) (w9_251 : Int32) (g1_251 : Nat → Int32), ((0 : Int) ≤ w9_251.toInt ∧ w9_251.toInt ≤ 8) → (8 - w9_251.toInt).toNat < d → va_P (dC, dI) vwCl [(a0, .inr (12, [.int i0, .ref a1, .ref a2, .ref a3, .ref a4, .int i1, .ref a5, .int i2, .int i3, .int i4, .int i5, .int i6, .int i7, .int i8, .ref a6, .ref a7, .ref a8, .ref a9, .ref a10, .ref a11, .ref a12, .int i9, .ref a13, .int i10, .ref a14, .ref a15, .int i11, .ref a16, .ref a17, .ref a18, .ref a19, .int i12, .int i13, .int i14, .int i15, .int i16, .ref a20, .long j0, .ref a21, .ref a22, .ref a23, .ref a24])), (a1, .inl (cI, 544, .inl xF0)), (a16, .inl (cI, 256, .inl xF15)), (a18, .inl (cI, 8, .inl xF17)), (a19, .inl (cI, 8, .inl g1_251))] H → va_D A [(a0, .inr (12, [.int i0, .ref a1, .ref a2, .ref a3, .ref a4, .int i1, .ref a5, .int i2, .int i3, .int i4, .int i5, .int i6, .int i7, .int i8, .ref a6, .ref a7, .ref a8, .ref a9, .ref a10, .ref a11, .ref a12, .int i9, .ref a13, .int i10, .ref a14, .ref a15, .int i11, .ref a16, .ref a17, .ref a18, .ref a19, .int i12, .int i13, .int i14, .int i15, .int i16, .ref a20, .long j0, .ref a21, .ref a22, .ref a23, .ref a24])), (a1, .inl (cI, 544, .inl xF0)), (a16, .inl (cI, 256, .inl xF15)), (a18, .inl (cI, 8, .inl xF17)), (a19, .inl (cI, 8, .inl g1_251))] → va_S A s.heap H locs → lv_has ls 10 [(0, .ref a0), (1, .int p0), (2, .int p1), (3, .int p2), (4, .int x2), (5, .int w5_1), (6, .int w6_2), (7, .int w6_2), (8, .int 1), (9, .int w9_251)] → W p l e ({ frames := 0, cells := 0, slots := 0, locals := 0 } : Room) s m ([.ref a0, .int p0, .int p1, .int p2] : List Value).toArray below meth c H locs 0 0 Q (F0 m 59 ls []) := by
                intro d
                induction d with
                | zero =>
                  intro H locs ls w9_251 g1_251 hr_w9_251 hm hP hD hS hl
                  omega
                | succ d ih251 =>
                  intro H locs ls w9_251 g1_251 hr_w9_251 hm hP hD hS hl
                  refine lv_iload hx hb dX12_canRest_59 (lv_at hl 9 rfl) ?_
                  refine lv_iload_n hx hb dX12_canRest_61 rfl (lv_at hl 3 rfl) ?_
                  refine lv_icmp_ge (tgt := 90) hx hb dX12_canRest_62 (by decide) (fun c6772 => ?_) (fun c6772 => ?_)
                  · rw [ki_le] at c6772
                    refine lv_iload_n hx hb dX12_canRest_90 rfl (lv_at hl 1 rfl) ?_
                    refine lv_istore (lv' := [(9, .int p0), (0, .ref a0), (1, .int p0), (2, .int p1), (3, .int p2), (4, .int x2), (5, .int w5_1), (6, .int w6_2), (7, .int w6_2), (8, .int 1)]) hx hb dX12_canRest_91 hl (by decide) rfl (fun ls hl => ?_)
                    have lp276 : ∀ (d : Nat), ∀ (H : Heap) (locs : List Loc) (ls : Array Slot) (w7_276 : Int32) (w8_276 : Int32) (w9_276 : Int32) (g3_276 : Nat → Int32), ((0 : Int) ≤ w7_276.toInt ∧ w7_276.toInt ≤ 2147483647) → ((0 : Int) ≤ w8_276.toInt ∧ w8_276.toInt ≤ 1) → ((1 : Int) ≤ w9_276.toInt ∧ w9_276.toInt ≤ 8) → (8 - w9_276.toInt).toNat < d → va_P (dC, dI) vwCl [(a0, .inr (12, [.int i0, .ref a1, .ref a2, .ref a3, .ref a4, .int i1, .ref a5, .int i2, .int i3, .int i4, .int i5, .int i6, .int i7, .int i8, .ref a6, .ref a7, .ref a8, .ref a9, .ref a10, .ref a11, .ref a12, .int i9, .ref a13, .int i10, .ref a14, .ref a15, .int i11, .ref a16, .ref a17, .ref a18, .ref a19, .int i12, .int i13, .int i14, .int i15, .int i16, .ref a20, .long j0, .ref a21, .ref a22, .ref a23, .ref a24])), (a1, .inl (cI, 544, .inl xF0)), (a16, .inl (cI, 256, .inl xF15)), (a18, .inl (cI, 8, .inl xF17)), (a19, .inl (cI, 8, .inl g3_276))] H → va_D A [(a0, .inr (12, [.int i0, .ref a1, .ref a2, .ref a3, .ref a4, .int i1, .ref a5, .int i2, .int i3, .int i4, .int i5, .int i6, .int i7, .int i8, .ref a6, .ref a7, .ref a8, .ref a9, .ref a10, .ref a11, .ref a12, .int i9, .ref a13, .int i10, .ref a14, .ref a15, .int i11, .ref a16, .ref a17, .ref a18, .ref a19, .int i12, .int i13, .int i14, .int i15, .int i16, .ref a20, .long j0, .ref a21, .ref a22, .ref a23, .ref a24])), (a1, .inl (cI, 544, .inl xF0)), (a16, .inl (cI, 256, .inl xF15)), (a18, .inl (cI, 8, .inl xF17)), (a19, .inl (cI, 8, .inl g3_276))] → va_S A s.heap H locs → lv_has ls 10 [(0, .ref a0), (1, .int p0), (2, .int p1), (3, .int p2), (4, .int x2), (5, .int w5_1), (6, .int w6_2), (7, .int w7_276), (8, .int w8_276), (9, .int w9_276)] → W p l e ({ frames := 0, cells := 0, slots := 0, locals := 0 } : Room) s m ([.ref a0, .int p0, .int p1, .int p2] : List Value).toArray below meth c H locs 0 0 Q (F0 m 93 ls []) := by
                      intro d
                      induction d with
                      | zero =>
                        intro H locs ls w7_276 w8_276 w9_276 g3_276 hr_w7_276 hr_w8_276 hr_w9_276 hm hP hD hS hl
                        omega
                      | succ d ih276 =>
                        intro H locs ls w7_276 w8_276 w9_276 g3_276 hr_w7_276 hr_w8_276 hr_w9_276 hm hP hD hS hl
                        refine lv_iload hx hb dX12_canRest_93 (lv_at hl 9 rfl) ?_
                        refine lv_bipush (v := 8) hx hb dX12_canRest_95 (by decide) ?_
                        refine lv_icmp_ge (tgt := 171) hx hb dX12_canRest_97 (by decide) (fun c6894 => ?_) (fun c6894 => ?_)
                        · rw [ki_le] at c6894
                          refine lv_iload hx hb dX12_canRest_171 (lv_at hl 8 rfl) ?_
                          refine lv_if_eq (tgt := 178) hx hb dX12_canRest_173 (by decide) (fun c6895 => ?_) (fun c6895 => ?_)
                          · rw [ki_eq] at c6895
                            obtain ⟨x6896, ex6896⟩ : ∃ y : Int32, y = w6_2 + 1 := ⟨_, rfl⟩
                            refine lv_iinc (v := x6896) (lv' := [(6, .int x6896), (0, .ref a0), (1, .int p0), (2, .int p1), (3, .int p2), (4, .int x2), (5, .int w5_1), (7, .int w7_276), (8, .int w8_276), (9, .int w9_276)]) hx hb dX12_canRest_178 hl (k := 6) rfl (by rw [ex6896]; rfl) (by decide) rfl (fun ls hl => ?_)
                            have b_b6897 := i32_b w6_2
                            have tx6896 := ia_add (a := w6_2) (b := (1 : Int32)) (by omega) (by omega)
                            rw [← ex6896] at tx6896
                            refine lv_goto (tgt := 42) hx hb dX12_canRest_181 (by decide) ?_
                            exact ih2 _ _ ls x6896 g3_276 (show (0 : Int) ≤ x6896.toInt ∧ x6896.toInt ≤ 2147483647 from ⟨by omega, i32_hi⟩) (by omega) (hP.sub (ws' := [(a0, .inr (12, [.int i0, .ref a1, .ref a2, .ref a3, .ref a4, .int i1, .ref a5, .int i2, .int i3, .int i4, .int i5, .int i6, .int i7, .int i8, .ref a6, .ref a7, .ref a8, .ref a9, .ref a10, .ref a11, .ref a12, .int i9, .ref a13, .int i10, .ref a14, .ref a15, .int i11, .ref a16, .ref a17, .ref a18, .ref a19, .int i12, .int i13, .int i14, .int i15, .int i16, .ref a20, .long j0, .ref a21, .ref a22, .ref a23, .ref a24])), (a1, .inl (cI, 544, .inl xF0)), (a16, .inl (cI, 256, .inl xF15)), (a18, .inl (cI, 8, .inl xF17)), (a19, .inl (cI, 8, .inl g3_276))]) [0, 1, 2, 3, 4] rfl) (hD.sub (ws' := [(a0, .inr (12, [.int i0, .ref a1, .ref a2, .ref a3, .ref a4, .int i1, .ref a5, .int i2, .int i3, .int i4, .int i5, .int i6, .int i7, .int i8, .ref a6, .ref a7, .ref a8, .ref a9, .ref a10, .ref a11, .ref a12, .int i9, .ref a13, .int i10, .ref a14, .ref a15, .int i11, .ref a16, .ref a17, .ref a18, .ref a19, .int i12, .int i13, .int i14, .int i15, .int i16, .ref a20, .long j0, .ref a21, .ref a22, .ref a23, .ref a24])), (a1, .inl (cI, 544, .inl xF0)), (a16, .inl (cI, 256, .inl xF15)), (a18, .inl (cI, 8, .inl xF17)), (a19, .inl (cI, 8, .inl g3_276))]) [0, 1, 2, 3, 4] (by decide) rfl) hS (lv_sub hl [1, 2, 3, 4, 5, 6, 0] rfl)
                          · rw [ki_eq] at c6895
                            refine lv_iconst (v := 1) hx hb dX12_canRest_176 (by decide) ?_
                            have hP9 := hP.sub (ws' := [(a0, .inr (12, [.int i0, .ref a1, .ref a2, .ref a3, .ref a4, .int i1, .ref a5, .int i2, .int i3, .int i4, .int i5, .int i6, .int i7, .int i8, .ref a6, .ref a7, .ref a8, .ref a9, .ref a10, .ref a11, .ref a12, .int i9, .ref a13, .int i10, .ref a14, .ref a15, .int i11, .ref a16, .ref a17, .ref a18, .ref a19, .int i12, .int i13, .int i14, .int i15, .int i16, .ref a20, .long j0, .ref a21, .ref a22, .ref a23, .ref a24])), (a1, .inl (cI, 544, .inl xF0)), (a16, .inl (cI, 256, .inl xF15)), (a18, .inl (cI, 8, .inl xF17)), (a19, .inl (cI, 8, .inl g3_276))]) [0, 1, 2, 3, 4] rfl
                            have hD9 := hD.sub (ws' := [(a0, .inr (12, [.int i0, .ref a1, .ref a2, .ref a3, .ref a4, .int i1, .ref a5, .int i2, .int i3, .int i4, .int i5, .int i6, .int i7, .int i8, .ref a6, .ref a7, .ref a8, .ref a9, .ref a10, .ref a11, .ref a12, .int i9, .ref a13, .int i10, .ref a14, .ref a15, .int i11, .ref a16, .ref a17, .ref a18, .ref a19, .int i12, .int i13, .int i14, .int i15, .int i16, .ref a20, .long j0, .ref a21, .ref a22, .ref a23, .ref a24])), (a1, .inl (cI, 544, .inl xF0)), (a16, .inl (cI, 256, .inl xF15)), (a18, .inl (cI, 8, .inl xF17)), (a19, .inl (cI, 8, .inl g3_276))]) [0, 1, 2, 3, 4] (by decide) rfl
                            rw [hQ]
                            exact W.zret (v := 1) hx hb hr (by decide) (fun t ht hW => ⟨⟨1, (pickG 0 [], pickG (fun _ => 0) [g3_276], pickG (fun _ => 0) []), rfl, ⟨(show (0 : Int) ≤ (1 : Int32).toInt ∧ (1 : Int32).toInt ≤ 1 from ⟨by omega, by omega⟩), trivial⟩, (by rw [ht]; exact hP9), hD9⟩, hS.F ht⟩) hS.2.2 dX12_canRest_177
                        · rw [ki_le] at c6894
                          refine lv_iload hx hb dX12_canRest_100 (lv_at hl 4 rfl) ?_
                          refine lv_iload hx hb dX12_canRest_102 (lv_at hl 9 rfl) ?_
                          refine lv_ishr hx hb dX12_canRest_104 ?_
                          refine lv_topi (fun x6898 ex6898 => ?_)
                          refine lv_if_eq (tgt := 171) hx hb dX12_canRest_105 (by decide) (fun c6899 => ?_) (fun c6899 => ?_)
                          · rw [ki_eq] at c6899
                            refine lv_iload hx hb dX12_canRest_171 (lv_at hl 8 rfl) ?_
                            refine lv_if_eq (tgt := 178) hx hb dX12_canRest_173 (by decide) (fun c6900 => ?_) (fun c6900 => ?_)
                            · rw [ki_eq] at c6900
                              obtain ⟨x6901, ex6901⟩ : ∃ y : Int32, y = w6_2 + 1 := ⟨_, rfl⟩
                              refine lv_iinc (v := x6901) (lv' := [(6, .int x6901), (0, .ref a0), (1, .int p0), (2, .int p1), (3, .int p2), (4, .int x2), (5, .int w5_1), (7, .int w7_276), (8, .int w8_276), (9, .int w9_276)]) hx hb dX12_canRest_178 hl (k := 6) rfl (by rw [ex6901]; rfl) (by decide) rfl (fun ls hl => ?_)
                              have b_b6902 := i32_b w6_2
                              have tx6901 := ia_add (a := w6_2) (b := (1 : Int32)) (by omega) (by omega)
                              rw [← ex6901] at tx6901
                              refine lv_goto (tgt := 42) hx hb dX12_canRest_181 (by decide) ?_
                              exact ih2 _ _ ls x6901 g3_276 (show (0 : Int) ≤ x6901.toInt ∧ x6901.toInt ≤ 2147483647 from ⟨by omega, i32_hi⟩) (by omega) (hP.sub (ws' := [(a0, .inr (12, [.int i0, .ref a1, .ref a2, .ref a3, .ref a4, .int i1, .ref a5, .int i2, .int i3, .int i4, .int i5, .int i6, .int i7, .int i8, .ref a6, .ref a7, .ref a8, .ref a9, .ref a10, .ref a11, .ref a12, .int i9, .ref a13, .int i10, .ref a14, .ref a15, .int i11, .ref a16, .ref a17, .ref a18, .ref a19, .int i12, .int i13, .int i14, .int i15, .int i16, .ref a20, .long j0, .ref a21, .ref a22, .ref a23, .ref a24])), (a1, .inl (cI, 544, .inl xF0)), (a16, .inl (cI, 256, .inl xF15)), (a18, .inl (cI, 8, .inl xF17)), (a19, .inl (cI, 8, .inl g3_276))]) [0, 1, 2, 3, 4] rfl) (hD.sub (ws' := [(a0, .inr (12, [.int i0, .ref a1, .ref a2, .ref a3, .ref a4, .int i1, .ref a5, .int i2, .int i3, .int i4, .int i5, .int i6, .int i7, .int i8, .ref a6, .ref a7, .ref a8, .ref a9, .ref a10, .ref a11, .ref a12, .int i9, .ref a13, .int i10, .ref a14, .ref a15, .int i11, .ref a16, .ref a17, .ref a18, .ref a19, .int i12, .int i13, .int i14, .int i15, .int i16, .ref a20, .long j0, .ref a21, .ref a22, .ref a23, .ref a24])), (a1, .inl (cI, 544, .inl xF0)), (a16, .inl (cI, 256, .inl xF15)), (a18, .inl (cI, 8, .inl xF17)), (a19, .inl (cI, 8, .inl g3_276))]) [0, 1, 2, 3, 4] (by decide) rfl) hS (lv_sub hl [1, 2, 3, 4, 5, 6, 0] rfl)
                            · rw [ki_eq] at c6900
                              refine lv_iconst (v := 1) hx hb dX12_canRest_176 (by decide) ?_
                              have hP9 := hP.sub (ws' := [(a0, .inr (12, [.int i0, .ref a1, .ref a2, .ref a3, .ref a4, .int i1, .ref a5, .int i2, .int i3, .int i4, .int i5, .int i6, .int i7, .int i8, .ref a6, .ref a7, .ref a8, .ref a9, .ref a10, .ref a11, .ref a12, .int i9, .ref a13, .int i10, .ref a14, .ref a15, .int i11, .ref a16, .ref a17, .ref a18, .ref a19, .int i12, .int i13, .int i14, .int i15, .int i16, .ref a20, .long j0, .ref a21, .ref a22, .ref a23, .ref a24])), (a1, .inl (cI, 544, .inl xF0)), (a16, .inl (cI, 256, .inl xF15)), (a18, .inl (cI, 8, .inl xF17)), (a19, .inl (cI, 8, .inl g3_276))]) [0, 1, 2, 3, 4] rfl
                              have hD9 := hD.sub (ws' := [(a0, .inr (12, [.int i0, .ref a1, .ref a2, .ref a3, .ref a4, .int i1, .ref a5, .int i2, .int i3, .int i4, .int i5, .int i6, .int i7, .int i8, .ref a6, .ref a7, .ref a8, .ref a9, .ref a10, .ref a11, .ref a12, .int i9, .ref a13, .int i10, .ref a14, .ref a15, .int i11, .ref a16, .ref a17, .ref a18, .ref a19, .int i12, .int i13, .int i14, .int i15, .int i16, .ref a20, .long j0, .ref a21, .ref a22, .ref a23, .ref a24])), (a1, .inl (cI, 544, .inl xF0)), (a16, .inl (cI, 256, .inl xF15)), (a18, .inl (cI, 8, .inl xF17)), (a19, .inl (cI, 8, .inl g3_276))]) [0, 1, 2, 3, 4] (by decide) rfl
                              rw [hQ]
                              exact W.zret (v := 1) hx hb hr (by decide) (fun t ht hW => ⟨⟨1, (pickG 0 [], pickG (fun _ => 0) [g3_276], pickG (fun _ => 0) []), rfl, ⟨(show (0 : Int) ≤ (1 : Int32).toInt ∧ (1 : Int32).toInt ≤ 1 from ⟨by omega, by omega⟩), trivial⟩, (by rw [ht]; exact hP9), hD9⟩, hS.F ht⟩) hS.2.2 dX12_canRest_177
                          · rw [ki_eq] at c6899
                            refine lv_iload hx hb dX12_canRest_108 (lv_at hl 8 rfl) ?_
                            refine lv_if_eq (tgt := 171) hx hb dX12_canRest_110 (by decide) (fun c6903 => ?_) (fun c6903 => ?_)
                            · rw [ki_eq] at c6903
                              refine lv_iload hx hb dX12_canRest_171 (lv_at hl 8 rfl) ?_
                              refine lv_if_eq (tgt := 178) hx hb dX12_canRest_173 (by decide) (fun c6904 => ?_) (fun c6904 => ?_)
                              · rw [ki_eq] at c6904
                                obtain ⟨x6905, ex6905⟩ : ∃ y : Int32, y = w6_2 + 1 := ⟨_, rfl⟩
                                refine lv_iinc (v := x6905) (lv' := [(6, .int x6905), (0, .ref a0), (1, .int p0), (2, .int p1), (3, .int p2), (4, .int x2), (5, .int w5_1), (7, .int w7_276), (8, .int w8_276), (9, .int w9_276)]) hx hb dX12_canRest_178 hl (k := 6) rfl (by rw [ex6905]; rfl) (by decide) rfl (fun ls hl => ?_)
                                have b_b6906 := i32_b w6_2
                                have tx6905 := ia_add (a := w6_2) (b := (1 : Int32)) (by omega) (by omega)
                                rw [← ex6905] at tx6905
                                refine lv_goto (tgt := 42) hx hb dX12_canRest_181 (by decide) ?_
                                exact ih2 _ _ ls x6905 g3_276 (show (0 : Int) ≤ x6905.toInt ∧ x6905.toInt ≤ 2147483647 from ⟨by omega, i32_hi⟩) (by omega) (hP.sub (ws' := [(a0, .inr (12, [.int i0, .ref a1, .ref a2, .ref a3, .ref a4, .int i1, .ref a5, .int i2, .int i3, .int i4, .int i5, .int i6, .int i7, .int i8, .ref a6, .ref a7, .ref a8, .ref a9, .ref a10, .ref a11, .ref a12, .int i9, .ref a13, .int i10, .ref a14, .ref a15, .int i11, .ref a16, .ref a17, .ref a18, .ref a19, .int i12, .int i13, .int i14, .int i15, .int i16, .ref a20, .long j0, .ref a21, .ref a22, .ref a23, .ref a24])), (a1, .inl (cI, 544, .inl xF0)), (a16, .inl (cI, 256, .inl xF15)), (a18, .inl (cI, 8, .inl xF17)), (a19, .inl (cI, 8, .inl g3_276))]) [0, 1, 2, 3, 4] rfl) (hD.sub (ws' := [(a0, .inr (12, [.int i0, .ref a1, .ref a2, .ref a3, .ref a4, .int i1, .ref a5, .int i2, .int i3, .int i4, .int i5, .int i6, .int i7, .int i8, .ref a6, .ref a7, .ref a8, .ref a9, .ref a10, .ref a11, .ref a12, .int i9, .ref a13, .int i10, .ref a14, .ref a15, .int i11, .ref a16, .ref a17, .ref a18, .ref a19, .int i12, .int i13, .int i14, .int i15, .int i16, .ref a20, .long j0, .ref a21, .ref a22, .ref a23, .ref a24])), (a1, .inl (cI, 544, .inl xF0)), (a16, .inl (cI, 256, .inl xF15)), (a18, .inl (cI, 8, .inl xF17)), (a19, .inl (cI, 8, .inl g3_276))]) [0, 1, 2, 3, 4] (by decide) rfl) hS (lv_sub hl [1, 2, 3, 4, 5, 6, 0] rfl)
                              · rw [ki_eq] at c6904
                                exfalso
                                omega
                            · rw [ki_eq] at c6903
                              refine lv_aload_n hx hb dX12_canRest_113 rfl (lv_at hl 0 rfl) ?_
                              refine va_get (D := (dC, dI)) (ci := 12) (v := .ref a19) (C := RX12) (T := TX12) (N := 42) hx hb hwd inlX12 hown hK hP 0 rfl rfl 30 (by decide) (hwd _ kr7_22) (fun _ h9 => h9) rfl dX12_canRest_114 ?_
                              refine lv_iload hx hb dX12_canRest_117 (lv_at hl 7 rfl) ?_
                              refine lv_iload_n hx hb dX12_canRest_119 rfl (lv_at hl 3 rfl) ?_
                              refine lv_irem hx hb dX12_canRest_120 (fun h9 => by rw [ki_eq] at h9; omega) ?_
                              refine lv_topi (fun x6907 ex6907 => ?_)
                              have tx6907 := ir_pos (a := w7_276) (b := p2) (by omega) (by omega)
                              rw [← ex6907] at tx6907
                              refine lv_dup2_11 hx hb dX12_canRest_121 rfl rfl ?_
                              have h6908 : vp_in x6907 8 := (vp_of (by omega) (by omega))
                              refine va_iald hx hb hK hP 4 0 rfl rfl h6908 dX12_canRest_122 ?_
                              refine lv_topi (fun x6909 ex6909 => ?_)
                              refine lv_aload_n hx hb dX12_canRest_123 rfl (lv_at hl 0 rfl) ?_
                              refine va_get (D := (dC, dI)) (ci := 12) (v := .ref a16) (C := RX12) (T := TX12) (N := 42) hx hb hwd inlX12 hown hK hP 0 rfl rfl 27 (by decide) (hwd _ kr7_19) (fun _ h9 => h9) rfl dX12_canRest_124 ?_
                              refine lv_iconst (v := 1) hx hb dX12_canRest_127 (by decide) ?_
                              refine lv_iload hx hb dX12_canRest_128 (lv_at hl 9 rfl) ?_
                              refine lv_ishl hx hb dX12_canRest_130 ?_
                              refine lv_topi (fun x6910 ex6910 => ?_)
                              have tx6910 := is_7 (b := w9_276) (by omega) (by omega)
                              rw [← ex6910] at tx6910
                              have h6911 : vp_in x6910 256 := (vp_of (by omega) (by omega))
                              refine va_iald hx hb hK hP 2 0 rfl rfl h6911 dX12_canRest_131 ?_
                              refine lv_topi (fun x6912 ex6912 => ?_)
                              refine lv_iadd hx hb dX12_canRest_132 ?_
                              refine lv_topi (fun x6913 ex6913 => ?_)
                              refine va_iast hx hb hK hP hD hS 4 0 rfl rfl (vp_of (by omega) (by omega)) dX12_canRest_133 (fun H locs hP hD hS => ?_)
                              obtain ⟨f6914, ef6914⟩ : ∃ f, f = upd g3_276 x6907.toNatClampNeg x6913 := ⟨_, rfl⟩
                              have hP : va_P (dC, dI) vwCl [(a0, .inr (12, [.int i0, .ref a1, .ref a2, .ref a3, .ref a4, .int i1, .ref a5, .int i2, .int i3, .int i4, .int i5, .int i6, .int i7, .int i8, .ref a6, .ref a7, .ref a8, .ref a9, .ref a10, .ref a11, .ref a12, .int i9, .ref a13, .int i10, .ref a14, .ref a15, .int i11, .ref a16, .ref a17, .ref a18, .ref a19, .int i12, .int i13, .int i14, .int i15, .int i16, .ref a20, .long j0, .ref a21, .ref a22, .ref a23, .ref a24])), (a1, .inl (cI, 544, .inl xF0)), (a16, .inl (cI, 256, .inl xF15)), (a18, .inl (cI, 8, .inl xF17)), (a19, .inl (cI, 8, .inl f6914))] H := by rw [ef6914]; exact hP
                              have hD : va_D A [(a0, .inr (12, [.int i0, .ref a1, .ref a2, .ref a3, .ref a4, .int i1, .ref a5, .int i2, .int i3, .int i4, .int i5, .int i6, .int i7, .int i8, .ref a6, .ref a7, .ref a8, .ref a9, .ref a10, .ref a11, .ref a12, .int i9, .ref a13, .int i10, .ref a14, .ref a15, .int i11, .ref a16, .ref a17, .ref a18, .ref a19, .int i12, .int i13, .int i14, .int i15, .int i16, .ref a20, .long j0, .ref a21, .ref a22, .ref a23, .ref a24])), (a1, .inl (cI, 544, .inl xF0)), (a16, .inl (cI, 256, .inl xF15)), (a18, .inl (cI, 8, .inl xF17)), (a19, .inl (cI, 8, .inl f6914))] := by rw [ef6914]; exact hD
                              refine lv_aload_n hx hb dX12_canRest_134 rfl (lv_at hl 0 rfl) ?_
                              refine va_get (D := (dC, dI)) (ci := 12) (v := .ref a19) (C := RX12) (T := TX12) (N := 42) hx hb hwd inlX12 hown hK hP 0 rfl rfl 30 (by decide) (hwd _ kr7_22) (fun _ h9 => h9) rfl dX12_canRest_135 ?_
                              refine lv_iload hx hb dX12_canRest_138 (lv_at hl 7 rfl) ?_
                              refine lv_iload_n hx hb dX12_canRest_140 rfl (lv_at hl 3 rfl) ?_
                              refine lv_irem hx hb dX12_canRest_141 (fun h9 => by rw [ki_eq] at h9; omega) ?_
                              refine lv_topi (fun x6915 ex6915 => ?_)
                              have tx6915 := ir_pos (a := w7_276) (b := p2) (by omega) (by omega)
                              rw [← ex6915] at tx6915
                              have h6916 : vp_in x6915 8 := (vp_of (by omega) (by omega))
                              refine va_iald hx hb hK hP 4 0 rfl rfl h6916 dX12_canRest_142 ?_
                              refine lv_topi (fun x6917 ex6917 => ?_)
                              refine lv_aload_n hx hb dX12_canRest_143 rfl (lv_at hl 0 rfl) ?_
                              refine va_get (D := (dC, dI)) (ci := 12) (v := .ref a1) (C := RX12) (T := TX12) (N := 42) hx hb hwd inlX12 hown hK hP 0 rfl rfl 1 (by decide) (hwd _ kr7_3) (fun _ h9 => h9) rfl dX12_canRest_144 ?_
                              refine lv_iconst (v := 1) hx hb dX12_canRest_147 (by decide) ?_
                              have h6918 : vp_in (1 : Int32) 544 := (vin (by decide))
                              refine va_iald hx hb hK hP 1 0 rfl rfl h6918 dX12_canRest_148 ?_
                              refine lv_topi (fun x6919 ex6919 => ?_)
                              have ix6919 := wat_lit (k := 1) ex6919 (by decide)
                              have wh6920 : whd cp xF0 := p_7.1
                              unfold whd at wh6920
                              have jp281 : ∀ (H : Heap) (locs : List Loc) (ls : Array Slot) (z0_281 : Int32), ((0 : Int) ≤ z0_281.toInt ∧ z0_281.toInt ≤ 1) → va_P (dC, dI) vwCl [(a0, .inr (12, [.int i0, .ref a1, .ref a2, .ref a3, .ref a4, .int i1, .ref a5, .int i2, .int i3, .int i4, .int i5, .int i6, .int i7, .int i8, .ref a6, .ref a7, .ref a8, .ref a9, .ref a10, .ref a11, .ref a12, .int i9, .ref a13, .int i10, .ref a14, .ref a15, .int i11, .ref a16, .ref a17, .ref a18, .ref a19, .int i12, .int i13, .int i14, .int i15, .int i16, .ref a20, .long j0, .ref a21, .ref a22, .ref a23, .ref a24])), (a1, .inl (cI, 544, .inl xF0)), (a16, .inl (cI, 256, .inl xF15)), (a18, .inl (cI, 8, .inl xF17)), (a19, .inl (cI, 8, .inl f6914))] H → va_D A [(a0, .inr (12, [.int i0, .ref a1, .ref a2, .ref a3, .ref a4, .int i1, .ref a5, .int i2, .int i3, .int i4, .int i5, .int i6, .int i7, .int i8, .ref a6, .ref a7, .ref a8, .ref a9, .ref a10, .ref a11, .ref a12, .int i9, .ref a13, .int i10, .ref a14, .ref a15, .int i11, .ref a16, .ref a17, .ref a18, .ref a19, .int i12, .int i13, .int i14, .int i15, .int i16, .ref a20, .long j0, .ref a21, .ref a22, .ref a23, .ref a24])), (a1, .inl (cI, 544, .inl xF0)), (a16, .inl (cI, 256, .inl xF15)), (a18, .inl (cI, 8, .inl xF17)), (a19, .inl (cI, 8, .inl f6914))] → va_S A s.heap H locs → lv_has ls 10 [(0, .ref a0), (1, .int p0), (2, .int p1), (3, .int p2), (4, .int x2), (5, .int w5_1), (6, .int w6_2), (7, .int w7_276), (8, .int w8_276), (9, .int w9_276)] → W p l e ({ frames := 0, cells := 0, slots := 0, locals := 0 } : Room) s m ([.ref a0, .int p0, .int p1, .int p2] : List Value).toArray below meth c H locs 0 0 Q (F0 m 157 ls [.int z0_281]) := by
                                intro H locs ls z0_281 hr_z0_281 hP hD hS hl
                                refine lv_istore (lv' := [(8, .int z0_281), (0, .ref a0), (1, .int p0), (2, .int p1), (3, .int p2), (4, .int x2), (5, .int w5_1), (6, .int w6_2), (7, .int w7_276), (9, .int w9_276)]) hx hb dX12_canRest_157 hl (by decide) rfl (fun ls hl => ?_)
                                refine lv_iload hx hb dX12_canRest_159 (lv_at hl 8 rfl) ?_
                                refine lv_iload_n hx hb dX12_canRest_161 rfl (lv_at hl 4 rfl) ?_
                                refine lv_idiv hx hb dX12_canRest_162 (fun h9 => by rw [ki_eq] at h9; omega) ?_
                                refine lv_topi (fun x6924 ex6924 => ?_)
                                have tx6924 := id_pos (a := w7_276) (b := p2) (by omega) (by omega)
                                rw [← ex6924] at tx6924
                                refine lv_istore (lv' := [(7, .int x6924), (8, .int z0_281), (0, .ref a0), (1, .int p0), (2, .int p1), (3, .int p2), (4, .int x2), (5, .int w5_1), (6, .int w6_2), (9, .int w9_276)]) hx hb dX12_canRest_163 hl (by decide) rfl (fun ls hl => ?_)
                                obtain ⟨x6925, ex6925⟩ : ∃ y : Int32, y = w9_276 + 1 := ⟨_, rfl⟩
                                refine lv_iinc (v := x6925) (lv' := [(9, .int x6925), (7, .int x6924), (8, .int z0_281), (0, .ref a0), (1, .int p0), (2, .int p1), (3, .int p2), (4, .int x2), (5, .int w5_1), (6, .int w6_2)]) hx hb dX12_canRest_165 hl (k := 9) rfl (by rw [ex6925]; rfl) (by decide) rfl (fun ls hl => ?_)
                                have tx6925 := ia_add (a := w9_276) (b := (1 : Int32)) (by omega) (by omega)
                                rw [← ex6925] at tx6925
                                refine lv_goto (tgt := 93) hx hb dX12_canRest_168 (by decide) ?_
                                exact ih276 _ _ ls x6924 z0_281 x6925 f6914 (show (0 : Int) ≤ x6924.toInt ∧ x6924.toInt ≤ 2147483647 from ⟨by omega, i32_hi⟩) (show (0 : Int) ≤ z0_281.toInt ∧ z0_281.toInt ≤ 1 from ⟨by omega, by omega⟩) (show (1 : Int) ≤ x6925.toInt ∧ x6925.toInt ≤ 8 from ⟨by omega, by omega⟩) (by omega) (hP.sub (ws' := [(a0, .inr (12, [.int i0, .ref a1, .ref a2, .ref a3, .ref a4, .int i1, .ref a5, .int i2, .int i3, .int i4, .int i5, .int i6, .int i7, .int i8, .ref a6, .ref a7, .ref a8, .ref a9, .ref a10, .ref a11, .ref a12, .int i9, .ref a13, .int i10, .ref a14, .ref a15, .int i11, .ref a16, .ref a17, .ref a18, .ref a19, .int i12, .int i13, .int i14, .int i15, .int i16, .ref a20, .long j0, .ref a21, .ref a22, .ref a23, .ref a24])), (a1, .inl (cI, 544, .inl xF0)), (a16, .inl (cI, 256, .inl xF15)), (a18, .inl (cI, 8, .inl xF17)), (a19, .inl (cI, 8, .inl f6914))]) [0, 1, 2, 3, 4] rfl) (hD.sub (ws' := [(a0, .inr (12, [.int i0, .ref a1, .ref a2, .ref a3, .ref a4, .int i1, .ref a5, .int i2, .int i3, .int i4, .int i5, .int i6, .int i7, .int i8, .ref a6, .ref a7, .ref a8, .ref a9, .ref a10, .ref a11, .ref a12, .int i9, .ref a13, .int i10, .ref a14, .ref a15, .int i11, .ref a16, .ref a17, .ref a18, .ref a19, .int i12, .int i13, .int i14, .int i15, .int i16, .ref a20, .long j0, .ref a21, .ref a22, .ref a23, .ref a24])), (a1, .inl (cI, 544, .inl xF0)), (a16, .inl (cI, 256, .inl xF15)), (a18, .inl (cI, 8, .inl xF17)), (a19, .inl (cI, 8, .inl f6914))]) [0, 1, 2, 3, 4] (by decide) rfl) hS (lv_sub hl [3, 4, 5, 6, 7, 8, 9, 1, 2, 0] rfl)
                              refine lv_icmp_gt (tgt := 156) hx hb dX12_canRest_149 (by decide) (fun c6926 => ?_) (fun c6926 => ?_)
                              · rw [ki_lt] at c6926
                                refine lv_iconst (v := 0) hx hb dX12_canRest_156 (by decide) ?_
                                exact jp281 _ _ ls (0) (show (0 : Int) ≤ (0 : Int32).toInt ∧ (0 : Int32).toInt ≤ 1 from ⟨by omega, by omega⟩) (hP.sub (ws' := [(a0, .inr (12, [.int i0, .ref a1, .ref a2, .ref a3, .ref a4, .int i1, .ref a5, .int i2, .int i3, .int i4, .int i5, .int i6, .int i7, .int i8, .ref a6, .ref a7, .ref a8, .ref a9, .ref a10, .ref a11, .ref a12, .int i9, .ref a13, .int i10, .ref a14, .ref a15, .int i11, .ref a16, .ref a17, .ref a18, .ref a19, .int i12, .int i13, .int i14, .int i15, .int i16, .ref a20, .long j0, .ref a21, .ref a22, .ref a23, .ref a24])), (a1, .inl (cI, 544, .inl xF0)), (a16, .inl (cI, 256, .inl xF15)), (a18, .inl (cI, 8, .inl xF17)), (a19, .inl (cI, 8, .inl f6914))]) [0, 1, 2, 3, 4] rfl) (hD.sub (ws' := [(a0, .inr (12, [.int i0, .ref a1, .ref a2, .ref a3, .ref a4, .int i1, .ref a5, .int i2, .int i3, .int i4, .int i5, .int i6, .int i7, .int i8, .ref a6, .ref a7, .ref a8, .ref a9, .ref a10, .ref a11, .ref a12, .int i9, .ref a13, .int i10, .ref a14, .ref a15, .int i11, .ref a16, .ref a17, .ref a18, .ref a19, .int i12, .int i13, .int i14, .int i15, .int i16, .ref a20, .long j0, .ref a21, .ref a22, .ref a23, .ref a24])), (a1, .inl (cI, 544, .inl xF0)), (a16, .inl (cI, 256, .inl xF15)), (a18, .inl (cI, 8, .inl xF17)), (a19, .inl (cI, 8, .inl f6914))]) [0, 1, 2, 3, 4] (by decide) rfl) hS (lv_sub hl [0, 1, 2, 3, 4, 5, 6, 7, 8, 9] rfl)
                              · rw [ki_lt] at c6926
                                refine lv_iconst (v := 1) hx hb dX12_canRest_152 (by decide) ?_
                                refine lv_goto (tgt := 157) hx hb dX12_canRest_153 (by decide) ?_
                                exact jp281 _ _ ls (1) (show (0 : Int) ≤ (1 : Int32).toInt ∧ (1 : Int32).toInt ≤ 1 from ⟨by omega, by omega⟩) (hP.sub (ws' := [(a0, .inr (12, [.int i0, .ref a1, .ref a2, .ref a3, .ref a4, .int i1, .ref a5, .int i2, .int i3, .int i4, .int i5, .int i6, .int i7, .int i8, .ref a6, .ref a7, .ref a8, .ref a9, .ref a10, .ref a11, .ref a12, .int i9, .ref a13, .int i10, .ref a14, .ref a15, .int i11, .ref a16, .ref a17, .ref a18, .ref a19, .int i12, .int i13, .int i14, .int i15, .int i16, .ref a20, .long j0, .ref a21, .ref a22, .ref a23, .ref a24])), (a1, .inl (cI, 544, .inl xF0)), (a16, .inl (cI, 256, .inl xF15)), (a18, .inl (cI, 8, .inl xF17)), (a19, .inl (cI, 8, .inl f6914))]) [0, 1, 2, 3, 4] rfl) (hD.sub (ws' := [(a0, .inr (12, [.int i0, .ref a1, .ref a2, .ref a3, .ref a4, .int i1, .ref a5, .int i2, .int i3, .int i4, .int i5, .int i6, .int i7, .int i8, .ref a6, .ref a7, .ref a8, .ref a9, .ref a10, .ref a11, .ref a12, .int i9, .ref a13, .int i10, .ref a14, .ref a15, .int i11, .ref a16, .ref a17, .ref a18, .ref a19, .int i12, .int i13, .int i14, .int i15, .int i16, .ref a20, .long j0, .ref a21, .ref a22, .ref a23, .ref a24])), (a1, .inl (cI, 544, .inl xF0)), (a16, .inl (cI, 256, .inl xF15)), (a18, .inl (cI, 8, .inl xF17)), (a19, .inl (cI, 8, .inl f6914))]) [0, 1, 2, 3, 4] (by decide) rfl) hS (lv_sub hl [0, 1, 2, 3, 4, 5, 6, 7, 8, 9] rfl)
                    exact lp276 _ _ _ ls w6_2 (1) p0 g1_251 (show (0 : Int) ≤ w6_2.toInt ∧ w6_2.toInt ≤ 2147483647 from ⟨by omega, i32_hi⟩) (show (0 : Int) ≤ (1 : Int32).toInt ∧ (1 : Int32).toInt ≤ 1 from ⟨by omega, by omega⟩) (show (1 : Int) ≤ p0.toInt ∧ p0.toInt ≤ 8 from ⟨by omega, by omega⟩) (Nat.lt_succ_self _) (hP.sub (ws' := [(a0, .inr (12, [.int i0, .ref a1, .ref a2, .ref a3, .ref a4, .int i1, .ref a5, .int i2, .int i3, .int i4, .int i5, .int i6, .int i7, .int i8, .ref a6, .ref a7, .ref a8, .ref a9, .ref a10, .ref a11, .ref a12, .int i9, .ref a13, .int i10, .ref a14, .ref a15, .int i11, .ref a16, .ref a17, .ref a18, .ref a19, .int i12, .int i13, .int i14, .int i15, .int i16, .ref a20, .long j0, .ref a21, .ref a22, .ref a23, .ref a24])), (a1, .inl (cI, 544, .inl xF0)), (a16, .inl (cI, 256, .inl xF15)), (a18, .inl (cI, 8, .inl xF17)), (a19, .inl (cI, 8, .inl g1_251))]) [0, 1, 2, 3, 4] rfl) (hD.sub (ws' := [(a0, .inr (12, [.int i0, .ref a1, .ref a2, .ref a3, .ref a4, .int i1, .ref a5, .int i2, .int i3, .int i4, .int i5, .int i6, .int i7, .int i8, .ref a6, .ref a7, .ref a8, .ref a9, .ref a10, .ref a11, .ref a12, .int i9, .ref a13, .int i10, .ref a14, .ref a15, .int i11, .ref a16, .ref a17, .ref a18, .ref a19, .int i12, .int i13, .int i14, .int i15, .int i16, .ref a20, .long j0, .ref a21, .ref a22, .ref a23, .ref a24])), (a1, .inl (cI, 544, .inl xF0)), (a16, .inl (cI, 256, .inl xF15)), (a18, .inl (cI, 8, .inl xF17)), (a19, .inl (cI, 8, .inl g1_251))]) [0, 1, 2, 3, 4] (by decide) rfl) hS (lv_sub hl [1, 2, 3, 4, 5, 6, 7, 8, 9, 0] rfl)
                  · rw [ki_le] at c6772
                    refine lv_aload_n hx hb dX12_canRest_65 rfl (lv_at hl 0 rfl) ?_
                    refine va_get (D := (dC, dI)) (ci := 12) (v := .ref a19) (C := RX12) (T := TX12) (N := 42) hx hb hwd inlX12 hown hK hP 0 rfl rfl 30 (by decide) (hwd _ kr7_22) (fun _ h9 => h9) rfl dX12_canRest_66 ?_
                    refine lv_iload hx hb dX12_canRest_69 (lv_at hl 9 rfl) ?_
                    refine lv_aload_n hx hb dX12_canRest_71 rfl (lv_at hl 0 rfl) ?_
                    refine va_get (D := (dC, dI)) (ci := 12) (v := .ref a16) (C := RX12) (T := TX12) (N := 42) hx hb hwd inlX12 hown hK hP 0 rfl rfl 27 (by decide) (hwd _ kr7_19) (fun _ h9 => h9) rfl dX12_canRest_72 ?_
                    refine lv_aload_n hx hb dX12_canRest_75 rfl (lv_at hl 0 rfl) ?_
                    refine va_get (D := (dC, dI)) (ci := 12) (v := .ref a18) (C := RX12) (T := TX12) (N := 42) hx hb hwd inlX12 hown hK hP 0 rfl rfl 29 (by decide) (hwd _ kr7_21) (fun _ h9 => h9) rfl dX12_canRest_76 ?_
                    refine lv_iload hx hb dX12_canRest_79 (lv_at hl 9 rfl) ?_
                    have h6927 : vp_in w9_251 8 := (vp_of (by omega) (by omega))
                    refine va_iald hx hb hK hP 3 0 rfl rfl h6927 dX12_canRest_81 ?_
                    refine lv_topi (fun x6928 ex6928 => ?_)
                    have tx6928 : (0 : Int) ≤ x6928.toInt ∧ x6928.toInt ≤ 255 := by rw [ex6928]; exact p_8 _ (vp_nat h6927)
                    have h6929 : vp_in x6928 256 := (vp_of (by omega) (by omega))
                    refine va_iald hx hb hK hP 2 0 rfl rfl h6929 dX12_canRest_82 ?_
                    refine lv_topi (fun x6930 ex6930 => ?_)
                    refine va_iast hx hb hK hP hD hS 4 0 rfl rfl (vp_of (by omega) (by omega)) dX12_canRest_83 (fun H locs hP hD hS => ?_)
                    obtain ⟨f6931, ef6931⟩ : ∃ f, f = upd g1_251 w9_251.toNatClampNeg x6930 := ⟨_, rfl⟩
                    have hP : va_P (dC, dI) vwCl [(a0, .inr (12, [.int i0, .ref a1, .ref a2, .ref a3, .ref a4, .int i1, .ref a5, .int i2, .int i3, .int i4, .int i5, .int i6, .int i7, .int i8, .ref a6, .ref a7, .ref a8, .ref a9, .ref a10, .ref a11, .ref a12, .int i9, .ref a13, .int i10, .ref a14, .ref a15, .int i11, .ref a16, .ref a17, .ref a18, .ref a19, .int i12, .int i13, .int i14, .int i15, .int i16, .ref a20, .long j0, .ref a21, .ref a22, .ref a23, .ref a24])), (a1, .inl (cI, 544, .inl xF0)), (a16, .inl (cI, 256, .inl xF15)), (a18, .inl (cI, 8, .inl xF17)), (a19, .inl (cI, 8, .inl f6931))] H := by rw [ef6931]; exact hP
                    have hD : va_D A [(a0, .inr (12, [.int i0, .ref a1, .ref a2, .ref a3, .ref a4, .int i1, .ref a5, .int i2, .int i3, .int i4, .int i5, .int i6, .int i7, .int i8, .ref a6, .ref a7, .ref a8, .ref a9, .ref a10, .ref a11, .ref a12, .int i9, .ref a13, .int i10, .ref a14, .ref a15, .int i11, .ref a16, .ref a17, .ref a18, .ref a19, .int i12, .int i13, .int i14, .int i15, .int i16, .ref a20, .long j0, .ref a21, .ref a22, .ref a23, .ref a24])), (a1, .inl (cI, 544, .inl xF0)), (a16, .inl (cI, 256, .inl xF15)), (a18, .inl (cI, 8, .inl xF17)), (a19, .inl (cI, 8, .inl f6931))] := by rw [ef6931]; exact hD
                    obtain ⟨x6932, ex6932⟩ : ∃ y : Int32, y = w9_251 + 1 := ⟨_, rfl⟩
                    refine lv_iinc (v := x6932) (lv' := [(9, .int x6932), (0, .ref a0), (1, .int p0), (2, .int p1), (3, .int p2), (4, .int x2), (5, .int w5_1), (6, .int w6_2), (7, .int w6_2), (8, .int 1)]) hx hb dX12_canRest_84 hl (k := 9) rfl (by rw [ex6932]; rfl) (by decide) rfl (fun ls hl => ?_)
                    have tx6932 := ia_add (a := w9_251) (b := (1 : Int32)) (by omega) (by omega)
                    rw [← ex6932] at tx6932
                    refine lv_goto (tgt := 59) hx hb dX12_canRest_87 (by decide) ?_
                    exact ih251 _ _ ls x6932 f6931 (show (0 : Int) ≤ x6932.toInt ∧ x6932.toInt ≤ 8 from ⟨by omega, by omega⟩) (by omega) (hP.sub (ws' := [(a0, .inr (12, [.int i0, .ref a1, .ref a2, .ref a3, .ref a4, .int i1, .ref a5, .int i2, .int i3, .int i4, .int i5, .int i6, .int i7, .int i8, .ref a6, .ref a7, .ref a8, .ref a9, .ref a10, .ref a11, .ref a12, .int i9, .ref a13, .int i10, .ref a14, .ref a15, .int i11, .ref a16, .ref a17, .ref a18, .ref a19, .int i12, .int i13, .int i14, .int i15, .int i16, .ref a20, .long j0, .ref a21, .ref a22, .ref a23, .ref a24])), (a1, .inl (cI, 544, .inl xF0)), (a16, .inl (cI, 256, .inl xF15)), (a18, .inl (cI, 8, .inl xF17)), (a19, .inl (cI, 8, .inl f6931))]) [0, 1, 2, 3, 4] rfl) (hD.sub (ws' := [(a0, .inr (12, [.int i0, .ref a1, .ref a2, .ref a3, .ref a4, .int i1, .ref a5, .int i2, .int i3, .int i4, .int i5, .int i6, .int i7, .int i8, .ref a6, .ref a7, .ref a8, .ref a9, .ref a10, .ref a11, .ref a12, .int i9, .ref a13, .int i10, .ref a14, .ref a15, .int i11, .ref a16, .ref a17, .ref a18, .ref a19, .int i12, .int i13, .int i14, .int i15, .int i16, .ref a20, .long j0, .ref a21, .ref a22, .ref a23, .ref a24])), (a1, .inl (cI, 544, .inl xF0)), (a16, .inl (cI, 256, .inl xF15)), (a18, .inl (cI, 8, .inl xF17)), (a19, .inl (cI, 8, .inl f6931))]) [0, 1, 2, 3, 4] (by decide) rfl) hS (lv_sub hl [1, 2, 3, 4, 5, 6, 7, 8, 9, 0] rfl)
              exact lp251 _ _ _ ls (0) g1_2 (show (0 : Int) ≤ (0 : Int32).toInt ∧ (0 : Int32).toInt ≤ 8 from ⟨by omega, by omega⟩) (Nat.lt_succ_self _) (hP.sub (ws' := [(a0, .inr (12, [.int i0, .ref a1, .ref a2, .ref a3, .ref a4, .int i1, .ref a5, .int i2, .int i3, .int i4, .int i5, .int i6, .int i7, .int i8, .ref a6, .ref a7, .ref a8, .ref a9, .ref a10, .ref a11, .ref a12, .int i9, .ref a13, .int i10, .ref a14, .ref a15, .int i11, .ref a16, .ref a17, .ref a18, .ref a19, .int i12, .int i13, .int i14, .int i15, .int i16, .ref a20, .long j0, .ref a21, .ref a22, .ref a23, .ref a24])), (a1, .inl (cI, 544, .inl xF0)), (a16, .inl (cI, 256, .inl xF15)), (a18, .inl (cI, 8, .inl xF17)), (a19, .inl (cI, 8, .inl g1_2))]) [0, 1, 2, 3, 4] rfl) (hD.sub (ws' := [(a0, .inr (12, [.int i0, .ref a1, .ref a2, .ref a3, .ref a4, .int i1, .ref a5, .int i2, .int i3, .int i4, .int i5, .int i6, .int i7, .int i8, .ref a6, .ref a7, .ref a8, .ref a9, .ref a10, .ref a11, .ref a12, .int i9, .ref a13, .int i10, .ref a14, .ref a15, .int i11, .ref a16, .ref a17, .ref a18, .ref a19, .int i12, .int i13, .int i14, .int i15, .int i16, .ref a20, .long j0, .ref a21, .ref a22, .ref a23, .ref a24])), (a1, .inl (cI, 544, .inl xF0)), (a16, .inl (cI, 256, .inl xF15)), (a18, .inl (cI, 8, .inl xF17)), (a19, .inl (cI, 8, .inl g1_2))]) [0, 1, 2, 3, 4] (by decide) rfl) hS (lv_sub hl [3, 4, 5, 6, 7, 8, 9, 2, 1, 0] rfl)
        exact lp2 _ _ _ ls (0) xF18 (show (0 : Int) ≤ (0 : Int32).toInt ∧ (0 : Int32).toInt ≤ 2147483647 from ⟨by omega, i32_hi⟩) (Nat.lt_succ_self _) (hP.sub (ws' := [(a0, .inr (12, [.int i0, .ref a1, .ref a2, .ref a3, .ref a4, .int i1, .ref a5, .int i2, .int i3, .int i4, .int i5, .int i6, .int i7, .int i8, .ref a6, .ref a7, .ref a8, .ref a9, .ref a10, .ref a11, .ref a12, .int i9, .ref a13, .int i10, .ref a14, .ref a15, .int i11, .ref a16, .ref a17, .ref a18, .ref a19, .int i12, .int i13, .int i14, .int i15, .int i16, .ref a20, .long j0, .ref a21, .ref a22, .ref a23, .ref a24])), (a1, .inl (cI, 544, .inl xF0)), (a16, .inl (cI, 256, .inl xF15)), (a18, .inl (cI, 8, .inl xF17)), (a19, .inl (cI, 8, .inl xF18))]) [0, 1, 2, 3, 4] rfl) (hD.sub (ws' := [(a0, .inr (12, [.int i0, .ref a1, .ref a2, .ref a3, .ref a4, .int i1, .ref a5, .int i2, .int i3, .int i4, .int i5, .int i6, .int i7, .int i8, .ref a6, .ref a7, .ref a8, .ref a9, .ref a10, .ref a11, .ref a12, .int i9, .ref a13, .int i10, .ref a14, .ref a15, .int i11, .ref a16, .ref a17, .ref a18, .ref a19, .int i12, .int i13, .int i14, .int i15, .int i16, .ref a20, .long j0, .ref a21, .ref a22, .ref a23, .ref a24])), (a1, .inl (cI, 544, .inl xF0)), (a16, .inl (cI, 256, .inl xF15)), (a18, .inl (cI, 8, .inl xF17)), (a19, .inl (cI, 8, .inl xF18))]) [0, 1, 2, 3, 4] (by decide) rfl) hS (lv_sub hl [1, 2, 3, 4, 5, 6, 0] rfl)
      · rw [ki_le] at c28
        refine lv_iload_n hx hb dX12_canRest_20 rfl (lv_at hl 2 rfl) ?_
        refine lv_iload hx hb dX12_canRest_21 (lv_at hl 6 rfl) ?_
        refine lv_ishr hx hb dX12_canRest_23 ?_
        refine lv_topi (fun x6933 ex6933 => ?_)
        refine lv_if_eq (tgt := 39) hx hb dX12_canRest_24 (by decide) (fun c6934 => ?_) (fun c6934 => ?_)
        · rw [ki_eq] at c6934
          refine lv_iconst (v := 0) hx hb dX12_canRest_39 (by decide) ?_
          refine lv_istore (lv' := [(6, .int 0), (0, .ref a0), (1, .int p0), (2, .int p1), (3, .int p2), (4, .int x2), (5, .int w5_1)]) hx hb dX12_canRest_40 hl (by decide) rfl (fun ls hl => ?_)
          have lp282 : ∀ (d : Nat), ∀ (H : Heap) (locs : List Loc) (ls : Array Slot) (w6_282 : Int32) (g1_282 : Nat → Int32), ((0 : Int) ≤ w6_282.toInt ∧ w6_282.toInt ≤ 2147483647) → (2147483647 - w6_282.toInt).toNat < d → va_P (dC, dI) vwCl [(a0, .inr (12, [.int i0, .ref a1, .ref a2, .ref a3, .ref a4, .int i1, .ref a5, .int i2, .int i3, .int i4, .int i5, .int i6, .int i7, .int i8, .ref a6, .ref a7, .ref a8, .ref a9, .ref a10, .ref a11, .ref a12, .int i9, .ref a13, .int i10, .ref a14, .ref a15, .int i11, .ref a16, .ref a17, .ref a18, .ref a19, .int i12, .int i13, .int i14, .int i15, .int i16, .ref a20, .long j0, .ref a21, .ref a22, .ref a23, .ref a24])), (a1, .inl (cI, 544, .inl xF0)), (a16, .inl (cI, 256, .inl xF15)), (a18, .inl (cI, 8, .inl xF17)), (a19, .inl (cI, 8, .inl g1_282))] H → va_D A [(a0, .inr (12, [.int i0, .ref a1, .ref a2, .ref a3, .ref a4, .int i1, .ref a5, .int i2, .int i3, .int i4, .int i5, .int i6, .int i7, .int i8, .ref a6, .ref a7, .ref a8, .ref a9, .ref a10, .ref a11, .ref a12, .int i9, .ref a13, .int i10, .ref a14, .ref a15, .int i11, .ref a16, .ref a17, .ref a18, .ref a19, .int i12, .int i13, .int i14, .int i15, .int i16, .ref a20, .long j0, .ref a21, .ref a22, .ref a23, .ref a24])), (a1, .inl (cI, 544, .inl xF0)), (a16, .inl (cI, 256, .inl xF15)), (a18, .inl (cI, 8, .inl xF17)), (a19, .inl (cI, 8, .inl g1_282))] → va_S A s.heap H locs → lv_has ls 10 [(0, .ref a0), (1, .int p0), (2, .int p1), (3, .int p2), (4, .int x2), (5, .int w5_1), (6, .int w6_282)] → W p l e ({ frames := 0, cells := 0, slots := 0, locals := 0 } : Room) s m ([.ref a0, .int p0, .int p1, .int p2] : List Value).toArray below meth c H locs 0 0 Q (F0 m 42 ls []) := by
            intro d
            induction d with
            | zero =>
              intro H locs ls w6_282 g1_282 hr_w6_282 hm hP hD hS hl
              omega
            | succ d ih282 =>
              intro H locs ls w6_282 g1_282 hr_w6_282 hm hP hD hS hl
              refine lv_iload hx hb dX12_canRest_42 (lv_at hl 6 rfl) ?_
              refine lv_iload hx hb dX12_canRest_44 (lv_at hl 5 rfl) ?_
              refine lv_icmp_ge (tgt := 184) hx hb dX12_canRest_46 (by decide) (fun c13031 => ?_) (fun c13031 => ?_)
              · rw [ki_le] at c13031
                refine lv_iconst (v := 0) hx hb dX12_canRest_184 (by decide) ?_
                have hP9 := hP.sub (ws' := [(a0, .inr (12, [.int i0, .ref a1, .ref a2, .ref a3, .ref a4, .int i1, .ref a5, .int i2, .int i3, .int i4, .int i5, .int i6, .int i7, .int i8, .ref a6, .ref a7, .ref a8, .ref a9, .ref a10, .ref a11, .ref a12, .int i9, .ref a13, .int i10, .ref a14, .ref a15, .int i11, .ref a16, .ref a17, .ref a18, .ref a19, .int i12, .int i13, .int i14, .int i15, .int i16, .ref a20, .long j0, .ref a21, .ref a22, .ref a23, .ref a24])), (a1, .inl (cI, 544, .inl xF0)), (a16, .inl (cI, 256, .inl xF15)), (a18, .inl (cI, 8, .inl xF17)), (a19, .inl (cI, 8, .inl g1_282))]) [0, 1, 2, 3, 4] rfl
                have hD9 := hD.sub (ws' := [(a0, .inr (12, [.int i0, .ref a1, .ref a2, .ref a3, .ref a4, .int i1, .ref a5, .int i2, .int i3, .int i4, .int i5, .int i6, .int i7, .int i8, .ref a6, .ref a7, .ref a8, .ref a9, .ref a10, .ref a11, .ref a12, .int i9, .ref a13, .int i10, .ref a14, .ref a15, .int i11, .ref a16, .ref a17, .ref a18, .ref a19, .int i12, .int i13, .int i14, .int i15, .int i16, .ref a20, .long j0, .ref a21, .ref a22, .ref a23, .ref a24])), (a1, .inl (cI, 544, .inl xF0)), (a16, .inl (cI, 256, .inl xF15)), (a18, .inl (cI, 8, .inl xF17)), (a19, .inl (cI, 8, .inl g1_282))]) [0, 1, 2, 3, 4] (by decide) rfl
                rw [hQ]
                exact W.zret (v := 0) hx hb hr (by decide) (fun t ht hW => ⟨⟨0, (pickG 0 [], pickG (fun _ => 0) [g1_282], pickG (fun _ => 0) []), rfl, ⟨(show (0 : Int) ≤ (0 : Int32).toInt ∧ (0 : Int32).toInt ≤ 1 from ⟨by omega, by omega⟩), trivial⟩, (by rw [ht]; exact hP9), hD9⟩, hS.F ht⟩) hS.2.2 dX12_canRest_185
              · rw [ki_le] at c13031
                have b5 := i32_b w5_1
                refine lv_iload hx hb dX12_canRest_49 (lv_at hl 6 rfl) ?_
                refine lv_istore (lv' := [(7, .int w6_282), (0, .ref a0), (1, .int p0), (2, .int p1), (3, .int p2), (4, .int x2), (5, .int w5_1), (6, .int w6_282)]) hx hb dX12_canRest_51 hl (by decide) rfl (fun ls hl => ?_)
                refine lv_iconst (v := 1) hx hb dX12_canRest_53 (by decide) ?_
                refine lv_istore (lv' := [(8, .int 1), (7, .int w6_282), (0, .ref a0), (1, .int p0), (2, .int p1), (3, .int p2), (4, .int x2), (5, .int w5_1), (6, .int w6_282)]) hx hb dX12_canRest_54 hl (by decide) rfl (fun ls hl => ?_)
                refine lv_iconst (v := 0) hx hb dX12_canRest_56 (by decide) ?_
                refine lv_istore (lv' := [(9, .int 0), (8, .int 1), (7, .int w6_282), (0, .ref a0), (1, .int p0), (2, .int p1), (3, .int p2), (4, .int x2), (5, .int w5_1), (6, .int w6_282)]) hx hb dX12_canRest_57 hl (by decide) rfl (fun ls hl => ?_)
                have lp531 : ∀ (d : Nat), ∀ (H : Heap) (locs : List Loc) (ls : Array Slot) (w9_531 : Int32) (g1_531 : Nat → Int32), ((0 : Int) ≤ w9_531.toInt ∧ w9_531.toInt ≤ 8) → (8 - w9_531.toInt).toNat < d → va_P (dC, dI) vwCl [(a0, .inr (12, [.int i0, .ref a1, .ref a2, .ref a3, .ref a4, .int i1, .ref a5, .int i2, .int i3, .int i4, .int i5, .int i6, .int i7, .int i8, .ref a6, .ref a7, .ref a8, .ref a9, .ref a10, .ref a11, .ref a12, .int i9, .ref a13, .int i10, .ref a14, .ref a15, .int i11, .ref a16, .ref a17, .ref a18, .ref a19, .int i12, .int i13, .int i14, .int i15, .int i16, .ref a20, .long j0, .ref a21, .ref a22, .ref a23, .ref a24])), (a1, .inl (cI, 544, .inl xF0)), (a16, .inl (cI, 256, .inl xF15)), (a18, .inl (cI, 8, .inl xF17)), (a19, .inl (cI, 8, .inl g1_531))] H → va_D A [(a0, .inr (12, [.int i0, .ref a1, .ref a2, .ref a3, .ref a4, .int i1, .ref a5, .int i2, .int i3, .int i4, .int i5, .int i6, .int i7, .int i8, .ref a6, .ref a7, .ref a8, .ref a9, .ref a10, .ref a11, .ref a12, .int i9, .ref a13, .int i10, .ref a14, .ref a15, .int i11, .ref a16, .ref a17, .ref a18, .ref a19, .int i12, .int i13, .int i14, .int i15, .int i16, .ref a20, .long j0, .ref a21, .ref a22, .ref a23, .ref a24])), (a1, .inl (cI, 544, .inl xF0)), (a16, .inl (cI, 256, .inl xF15)), (a18, .inl (cI, 8, .inl xF17)), (a19, .inl (cI, 8, .inl g1_531))] → va_S A s.heap H locs → lv_has ls 10 [(0, .ref a0), (1, .int p0), (2, .int p1), (3, .int p2), (4, .int x2), (5, .int w5_1), (6, .int w6_282), (7, .int w6_282), (8, .int 1), (9, .int w9_531)] → W p l e ({ frames := 0, cells := 0, slots := 0, locals := 0 } : Room) s m ([.ref a0, .int p0, .int p1, .int p2] : List Value).toArray below meth c H locs 0 0 Q (F0 m 59 ls []) := by
                  intro d
                  induction d with
                  | zero =>
                    intro H locs ls w9_531 g1_531 hr_w9_531 hm hP hD hS hl
                    omega
                  | succ d ih531 =>
                    intro H locs ls w9_531 g1_531 hr_w9_531 hm hP hD hS hl
                    refine lv_iload hx hb dX12_canRest_59 (lv_at hl 9 rfl) ?_
                    refine lv_iload_n hx hb dX12_canRest_61 rfl (lv_at hl 3 rfl) ?_
                    refine lv_icmp_ge (tgt := 90) hx hb dX12_canRest_62 (by decide) (fun c13678 => ?_) (fun c13678 => ?_)
                    · rw [ki_le] at c13678
                      refine lv_iload_n hx hb dX12_canRest_90 rfl (lv_at hl 1 rfl) ?_
                      refine lv_istore (lv' := [(9, .int p0), (0, .ref a0), (1, .int p0), (2, .int p1), (3, .int p2), (4, .int x2), (5, .int w5_1), (6, .int w6_282), (7, .int w6_282), (8, .int 1)]) hx hb dX12_canRest_91 hl (by decide) rfl (fun ls hl => ?_)
                      have lp556 : ∀ (d : Nat), ∀ (H : Heap) (locs : List Loc) (ls : Array Slot) (w7_556 : Int32) (w8_556 : Int32) (w9_556 : Int32) (g3_556 : Nat → Int32), ((0 : Int) ≤ w7_556.toInt ∧ w7_556.toInt ≤ 2147483647) → ((0 : Int) ≤ w8_556.toInt ∧ w8_556.toInt ≤ 1) → ((1 : Int) ≤ w9_556.toInt ∧ w9_556.toInt ≤ 8) → (8 - w9_556.toInt).toNat < d → va_P (dC, dI) vwCl [(a0, .inr (12, [.int i0, .ref a1, .ref a2, .ref a3, .ref a4, .int i1, .ref a5, .int i2, .int i3, .int i4, .int i5, .int i6, .int i7, .int i8, .ref a6, .ref a7, .ref a8, .ref a9, .ref a10, .ref a11, .ref a12, .int i9, .ref a13, .int i10, .ref a14, .ref a15, .int i11, .ref a16, .ref a17, .ref a18, .ref a19, .int i12, .int i13, .int i14, .int i15, .int i16, .ref a20, .long j0, .ref a21, .ref a22, .ref a23, .ref a24])), (a1, .inl (cI, 544, .inl xF0)), (a16, .inl (cI, 256, .inl xF15)), (a18, .inl (cI, 8, .inl xF17)), (a19, .inl (cI, 8, .inl g3_556))] H → va_D A [(a0, .inr (12, [.int i0, .ref a1, .ref a2, .ref a3, .ref a4, .int i1, .ref a5, .int i2, .int i3, .int i4, .int i5, .int i6, .int i7, .int i8, .ref a6, .ref a7, .ref a8, .ref a9, .ref a10, .ref a11, .ref a12, .int i9, .ref a13, .int i10, .ref a14, .ref a15, .int i11, .ref a16, .ref a17, .ref a18, .ref a19, .int i12, .int i13, .int i14, .int i15, .int i16, .ref a20, .long j0, .ref a21, .ref a22, .ref a23, .ref a24])), (a1, .inl (cI, 544, .inl xF0)), (a16, .inl (cI, 256, .inl xF15)), (a18, .inl (cI, 8, .inl xF17)), (a19, .inl (cI, 8, .inl g3_556))] → va_S A s.heap H locs → lv_has ls 10 [(0, .ref a0), (1, .int p0), (2, .int p1), (3, .int p2), (4, .int x2), (5, .int w5_1), (6, .int w6_282), (7, .int w7_556), (8, .int w8_556), (9, .int w9_556)] → W p l e ({ frames := 0, cells := 0, slots := 0, locals := 0 } : Room) s m ([.ref a0, .int p0, .int p1, .int p2] : List Value).toArray below meth c H locs 0 0 Q (F0 m 93 ls []) := by
                        intro d
                        induction d with
                        | zero =>
                          intro H locs ls w7_556 w8_556 w9_556 g3_556 hr_w7_556 hr_w8_556 hr_w9_556 hm hP hD hS hl
                          omega
                        | succ d ih556 =>
                          intro H locs ls w7_556 w8_556 w9_556 g3_556 hr_w7_556 hr_w8_556 hr_w9_556 hm hP hD hS hl
                          refine lv_iload hx hb dX12_canRest_93 (lv_at hl 9 rfl) ?_
                          refine lv_bipush (v := 8) hx hb dX12_canRest_95 (by decide) ?_
                          refine lv_icmp_ge (tgt := 171) hx hb dX12_canRest_97 (by decide) (fun c13800 => ?_) (fun c13800 => ?_)
                          · rw [ki_le] at c13800
                            refine lv_iload hx hb dX12_canRest_171 (lv_at hl 8 rfl) ?_
                            refine lv_if_eq (tgt := 178) hx hb dX12_canRest_173 (by decide) (fun c13801 => ?_) (fun c13801 => ?_)
                            · rw [ki_eq] at c13801
                              obtain ⟨x13802, ex13802⟩ : ∃ y : Int32, y = w6_282 + 1 := ⟨_, rfl⟩
                              refine lv_iinc (v := x13802) (lv' := [(6, .int x13802), (0, .ref a0), (1, .int p0), (2, .int p1), (3, .int p2), (4, .int x2), (5, .int w5_1), (7, .int w7_556), (8, .int w8_556), (9, .int w9_556)]) hx hb dX12_canRest_178 hl (k := 6) rfl (by rw [ex13802]; rfl) (by decide) rfl (fun ls hl => ?_)
                              have b_b13803 := i32_b w6_282
                              have tx13802 := ia_add (a := w6_282) (b := (1 : Int32)) (by omega) (by omega)
                              rw [← ex13802] at tx13802
                              refine lv_goto (tgt := 42) hx hb dX12_canRest_181 (by decide) ?_
                              exact ih282 _ _ ls x13802 g3_556 (show (0 : Int) ≤ x13802.toInt ∧ x13802.toInt ≤ 2147483647 from ⟨by omega, i32_hi⟩) (by omega) (hP.sub (ws' := [(a0, .inr (12, [.int i0, .ref a1, .ref a2, .ref a3, .ref a4, .int i1, .ref a5, .int i2, .int i3, .int i4, .int i5, .int i6, .int i7, .int i8, .ref a6, .ref a7, .ref a8, .ref a9, .ref a10, .ref a11, .ref a12, .int i9, .ref a13, .int i10, .ref a14, .ref a15, .int i11, .ref a16, .ref a17, .ref a18, .ref a19, .int i12, .int i13, .int i14, .int i15, .int i16, .ref a20, .long j0, .ref a21, .ref a22, .ref a23, .ref a24])), (a1, .inl (cI, 544, .inl xF0)), (a16, .inl (cI, 256, .inl xF15)), (a18, .inl (cI, 8, .inl xF17)), (a19, .inl (cI, 8, .inl g3_556))]) [0, 1, 2, 3, 4] rfl) (hD.sub (ws' := [(a0, .inr (12, [.int i0, .ref a1, .ref a2, .ref a3, .ref a4, .int i1, .ref a5, .int i2, .int i3, .int i4, .int i5, .int i6, .int i7, .int i8, .ref a6, .ref a7, .ref a8, .ref a9, .ref a10, .ref a11, .ref a12, .int i9, .ref a13, .int i10, .ref a14, .ref a15, .int i11, .ref a16, .ref a17, .ref a18, .ref a19, .int i12, .int i13, .int i14, .int i15, .int i16, .ref a20, .long j0, .ref a21, .ref a22, .ref a23, .ref a24])), (a1, .inl (cI, 544, .inl xF0)), (a16, .inl (cI, 256, .inl xF15)), (a18, .inl (cI, 8, .inl xF17)), (a19, .inl (cI, 8, .inl g3_556))]) [0, 1, 2, 3, 4] (by decide) rfl) hS (lv_sub hl [1, 2, 3, 4, 5, 6, 0] rfl)
                            · rw [ki_eq] at c13801
                              refine lv_iconst (v := 1) hx hb dX12_canRest_176 (by decide) ?_
                              have hP9 := hP.sub (ws' := [(a0, .inr (12, [.int i0, .ref a1, .ref a2, .ref a3, .ref a4, .int i1, .ref a5, .int i2, .int i3, .int i4, .int i5, .int i6, .int i7, .int i8, .ref a6, .ref a7, .ref a8, .ref a9, .ref a10, .ref a11, .ref a12, .int i9, .ref a13, .int i10, .ref a14, .ref a15, .int i11, .ref a16, .ref a17, .ref a18, .ref a19, .int i12, .int i13, .int i14, .int i15, .int i16, .ref a20, .long j0, .ref a21, .ref a22, .ref a23, .ref a24])), (a1, .inl (cI, 544, .inl xF0)), (a16, .inl (cI, 256, .inl xF15)), (a18, .inl (cI, 8, .inl xF17)), (a19, .inl (cI, 8, .inl g3_556))]) [0, 1, 2, 3, 4] rfl
                              have hD9 := hD.sub (ws' := [(a0, .inr (12, [.int i0, .ref a1, .ref a2, .ref a3, .ref a4, .int i1, .ref a5, .int i2, .int i3, .int i4, .int i5, .int i6, .int i7, .int i8, .ref a6, .ref a7, .ref a8, .ref a9, .ref a10, .ref a11, .ref a12, .int i9, .ref a13, .int i10, .ref a14, .ref a15, .int i11, .ref a16, .ref a17, .ref a18, .ref a19, .int i12, .int i13, .int i14, .int i15, .int i16, .ref a20, .long j0, .ref a21, .ref a22, .ref a23, .ref a24])), (a1, .inl (cI, 544, .inl xF0)), (a16, .inl (cI, 256, .inl xF15)), (a18, .inl (cI, 8, .inl xF17)), (a19, .inl (cI, 8, .inl g3_556))]) [0, 1, 2, 3, 4] (by decide) rfl
                              rw [hQ]
                              exact W.zret (v := 1) hx hb hr (by decide) (fun t ht hW => ⟨⟨1, (pickG 0 [], pickG (fun _ => 0) [g3_556], pickG (fun _ => 0) []), rfl, ⟨(show (0 : Int) ≤ (1 : Int32).toInt ∧ (1 : Int32).toInt ≤ 1 from ⟨by omega, by omega⟩), trivial⟩, (by rw [ht]; exact hP9), hD9⟩, hS.F ht⟩) hS.2.2 dX12_canRest_177
                          · rw [ki_le] at c13800
                            refine lv_iload hx hb dX12_canRest_100 (lv_at hl 4 rfl) ?_
                            refine lv_iload hx hb dX12_canRest_102 (lv_at hl 9 rfl) ?_
                            refine lv_ishr hx hb dX12_canRest_104 ?_
                            refine lv_topi (fun x13804 ex13804 => ?_)
                            refine lv_if_eq (tgt := 171) hx hb dX12_canRest_105 (by decide) (fun c13805 => ?_) (fun c13805 => ?_)
                            · rw [ki_eq] at c13805
                              refine lv_iload hx hb dX12_canRest_171 (lv_at hl 8 rfl) ?_
                              refine lv_if_eq (tgt := 178) hx hb dX12_canRest_173 (by decide) (fun c13806 => ?_) (fun c13806 => ?_)
                              · rw [ki_eq] at c13806
                                obtain ⟨x13807, ex13807⟩ : ∃ y : Int32, y = w6_282 + 1 := ⟨_, rfl⟩
                                refine lv_iinc (v := x13807) (lv' := [(6, .int x13807), (0, .ref a0), (1, .int p0), (2, .int p1), (3, .int p2), (4, .int x2), (5, .int w5_1), (7, .int w7_556), (8, .int w8_556), (9, .int w9_556)]) hx hb dX12_canRest_178 hl (k := 6) rfl (by rw [ex13807]; rfl) (by decide) rfl (fun ls hl => ?_)
                                have b_b13808 := i32_b w6_282
                                have tx13807 := ia_add (a := w6_282) (b := (1 : Int32)) (by omega) (by omega)
                                rw [← ex13807] at tx13807
                                refine lv_goto (tgt := 42) hx hb dX12_canRest_181 (by decide) ?_
                                exact ih282 _ _ ls x13807 g3_556 (show (0 : Int) ≤ x13807.toInt ∧ x13807.toInt ≤ 2147483647 from ⟨by omega, i32_hi⟩) (by omega) (hP.sub (ws' := [(a0, .inr (12, [.int i0, .ref a1, .ref a2, .ref a3, .ref a4, .int i1, .ref a5, .int i2, .int i3, .int i4, .int i5, .int i6, .int i7, .int i8, .ref a6, .ref a7, .ref a8, .ref a9, .ref a10, .ref a11, .ref a12, .int i9, .ref a13, .int i10, .ref a14, .ref a15, .int i11, .ref a16, .ref a17, .ref a18, .ref a19, .int i12, .int i13, .int i14, .int i15, .int i16, .ref a20, .long j0, .ref a21, .ref a22, .ref a23, .ref a24])), (a1, .inl (cI, 544, .inl xF0)), (a16, .inl (cI, 256, .inl xF15)), (a18, .inl (cI, 8, .inl xF17)), (a19, .inl (cI, 8, .inl g3_556))]) [0, 1, 2, 3, 4] rfl) (hD.sub (ws' := [(a0, .inr (12, [.int i0, .ref a1, .ref a2, .ref a3, .ref a4, .int i1, .ref a5, .int i2, .int i3, .int i4, .int i5, .int i6, .int i7, .int i8, .ref a6, .ref a7, .ref a8, .ref a9, .ref a10, .ref a11, .ref a12, .int i9, .ref a13, .int i10, .ref a14, .ref a15, .int i11, .ref a16, .ref a17, .ref a18, .ref a19, .int i12, .int i13, .int i14, .int i15, .int i16, .ref a20, .long j0, .ref a21, .ref a22, .ref a23, .ref a24])), (a1, .inl (cI, 544, .inl xF0)), (a16, .inl (cI, 256, .inl xF15)), (a18, .inl (cI, 8, .inl xF17)), (a19, .inl (cI, 8, .inl g3_556))]) [0, 1, 2, 3, 4] (by decide) rfl) hS (lv_sub hl [1, 2, 3, 4, 5, 6, 0] rfl)
                              · rw [ki_eq] at c13806
                                refine lv_iconst (v := 1) hx hb dX12_canRest_176 (by decide) ?_
                                have hP9 := hP.sub (ws' := [(a0, .inr (12, [.int i0, .ref a1, .ref a2, .ref a3, .ref a4, .int i1, .ref a5, .int i2, .int i3, .int i4, .int i5, .int i6, .int i7, .int i8, .ref a6, .ref a7, .ref a8, .ref a9, .ref a10, .ref a11, .ref a12, .int i9, .ref a13, .int i10, .ref a14, .ref a15, .int i11, .ref a16, .ref a17, .ref a18, .ref a19, .int i12, .int i13, .int i14, .int i15, .int i16, .ref a20, .long j0, .ref a21, .ref a22, .ref a23, .ref a24])), (a1, .inl (cI, 544, .inl xF0)), (a16, .inl (cI, 256, .inl xF15)), (a18, .inl (cI, 8, .inl xF17)), (a19, .inl (cI, 8, .inl g3_556))]) [0, 1, 2, 3, 4] rfl
                                have hD9 := hD.sub (ws' := [(a0, .inr (12, [.int i0, .ref a1, .ref a2, .ref a3, .ref a4, .int i1, .ref a5, .int i2, .int i3, .int i4, .int i5, .int i6, .int i7, .int i8, .ref a6, .ref a7, .ref a8, .ref a9, .ref a10, .ref a11, .ref a12, .int i9, .ref a13, .int i10, .ref a14, .ref a15, .int i11, .ref a16, .ref a17, .ref a18, .ref a19, .int i12, .int i13, .int i14, .int i15, .int i16, .ref a20, .long j0, .ref a21, .ref a22, .ref a23, .ref a24])), (a1, .inl (cI, 544, .inl xF0)), (a16, .inl (cI, 256, .inl xF15)), (a18, .inl (cI, 8, .inl xF17)), (a19, .inl (cI, 8, .inl g3_556))]) [0, 1, 2, 3, 4] (by decide) rfl
                                rw [hQ]
                                exact W.zret (v := 1) hx hb hr (by decide) (fun t ht hW => ⟨⟨1, (pickG 0 [], pickG (fun _ => 0) [g3_556], pickG (fun _ => 0) []), rfl, ⟨(show (0 : Int) ≤ (1 : Int32).toInt ∧ (1 : Int32).toInt ≤ 1 from ⟨by omega, by omega⟩), trivial⟩, (by rw [ht]; exact hP9), hD9⟩, hS.F ht⟩) hS.2.2 dX12_canRest_177
                            · rw [ki_eq] at c13805
                              refine lv_iload hx hb dX12_canRest_108 (lv_at hl 8 rfl) ?_
                              refine lv_if_eq (tgt := 171) hx hb dX12_canRest_110 (by decide) (fun c13809 => ?_) (fun c13809 => ?_)
                              · rw [ki_eq] at c13809
                                refine lv_iload hx hb dX12_canRest_171 (lv_at hl 8 rfl) ?_
                                refine lv_if_eq (tgt := 178) hx hb dX12_canRest_173 (by decide) (fun c13810 => ?_) (fun c13810 => ?_)
                                · rw [ki_eq] at c13810
                                  obtain ⟨x13811, ex13811⟩ : ∃ y : Int32, y = w6_282 + 1 := ⟨_, rfl⟩
                                  refine lv_iinc (v := x13811) (lv' := [(6, .int x13811), (0, .ref a0), (1, .int p0), (2, .int p1), (3, .int p2), (4, .int x2), (5, .int w5_1), (7, .int w7_556), (8, .int w8_556), (9, .int w9_556)]) hx hb dX12_canRest_178 hl (k := 6) rfl (by rw [ex13811]; rfl) (by decide) rfl (fun ls hl => ?_)
                                  have b_b13812 := i32_b w6_282
                                  have tx13811 := ia_add (a := w6_282) (b := (1 : Int32)) (by omega) (by omega)
                                  rw [← ex13811] at tx13811
                                  refine lv_goto (tgt := 42) hx hb dX12_canRest_181 (by decide) ?_
                                  exact ih282 _ _ ls x13811 g3_556 (show (0 : Int) ≤ x13811.toInt ∧ x13811.toInt ≤ 2147483647 from ⟨by omega, i32_hi⟩) (by omega) (hP.sub (ws' := [(a0, .inr (12, [.int i0, .ref a1, .ref a2, .ref a3, .ref a4, .int i1, .ref a5, .int i2, .int i3, .int i4, .int i5, .int i6, .int i7, .int i8, .ref a6, .ref a7, .ref a8, .ref a9, .ref a10, .ref a11, .ref a12, .int i9, .ref a13, .int i10, .ref a14, .ref a15, .int i11, .ref a16, .ref a17, .ref a18, .ref a19, .int i12, .int i13, .int i14, .int i15, .int i16, .ref a20, .long j0, .ref a21, .ref a22, .ref a23, .ref a24])), (a1, .inl (cI, 544, .inl xF0)), (a16, .inl (cI, 256, .inl xF15)), (a18, .inl (cI, 8, .inl xF17)), (a19, .inl (cI, 8, .inl g3_556))]) [0, 1, 2, 3, 4] rfl) (hD.sub (ws' := [(a0, .inr (12, [.int i0, .ref a1, .ref a2, .ref a3, .ref a4, .int i1, .ref a5, .int i2, .int i3, .int i4, .int i5, .int i6, .int i7, .int i8, .ref a6, .ref a7, .ref a8, .ref a9, .ref a10, .ref a11, .ref a12, .int i9, .ref a13, .int i10, .ref a14, .ref a15, .int i11, .ref a16, .ref a17, .ref a18, .ref a19, .int i12, .int i13, .int i14, .int i15, .int i16, .ref a20, .long j0, .ref a21, .ref a22, .ref a23, .ref a24])), (a1, .inl (cI, 544, .inl xF0)), (a16, .inl (cI, 256, .inl xF15)), (a18, .inl (cI, 8, .inl xF17)), (a19, .inl (cI, 8, .inl g3_556))]) [0, 1, 2, 3, 4] (by decide) rfl) hS (lv_sub hl [1, 2, 3, 4, 5, 6, 0] rfl)
                                · rw [ki_eq] at c13810
                                  exfalso
                                  omega
                              · rw [ki_eq] at c13809
                                refine lv_aload_n hx hb dX12_canRest_113 rfl (lv_at hl 0 rfl) ?_
                                refine va_get (D := (dC, dI)) (ci := 12) (v := .ref a19) (C := RX12) (T := TX12) (N := 42) hx hb hwd inlX12 hown hK hP 0 rfl rfl 30 (by decide) (hwd _ kr7_22) (fun _ h9 => h9) rfl dX12_canRest_114 ?_
                                refine lv_iload hx hb dX12_canRest_117 (lv_at hl 7 rfl) ?_
                                refine lv_iload_n hx hb dX12_canRest_119 rfl (lv_at hl 3 rfl) ?_
                                refine lv_irem hx hb dX12_canRest_120 (fun h9 => by rw [ki_eq] at h9; omega) ?_
                                refine lv_topi (fun x13813 ex13813 => ?_)
                                have tx13813 := ir_pos (a := w7_556) (b := p2) (by omega) (by omega)
                                rw [← ex13813] at tx13813
                                refine lv_dup2_11 hx hb dX12_canRest_121 rfl rfl ?_
                                have h13814 : vp_in x13813 8 := (vp_of (by omega) (by omega))
                                refine va_iald hx hb hK hP 4 0 rfl rfl h13814 dX12_canRest_122 ?_
                                refine lv_topi (fun x13815 ex13815 => ?_)
                                refine lv_aload_n hx hb dX12_canRest_123 rfl (lv_at hl 0 rfl) ?_
                                refine va_get (D := (dC, dI)) (ci := 12) (v := .ref a16) (C := RX12) (T := TX12) (N := 42) hx hb hwd inlX12 hown hK hP 0 rfl rfl 27 (by decide) (hwd _ kr7_19) (fun _ h9 => h9) rfl dX12_canRest_124 ?_
                                refine lv_iconst (v := 1) hx hb dX12_canRest_127 (by decide) ?_
                                refine lv_iload hx hb dX12_canRest_128 (lv_at hl 9 rfl) ?_
                                refine lv_ishl hx hb dX12_canRest_130 ?_
                                refine lv_topi (fun x13816 ex13816 => ?_)
                                have tx13816 := is_7 (b := w9_556) (by omega) (by omega)
                                rw [← ex13816] at tx13816
                                have h13817 : vp_in x13816 256 := (vp_of (by omega) (by omega))
                                refine va_iald hx hb hK hP 2 0 rfl rfl h13817 dX12_canRest_131 ?_
                                refine lv_topi (fun x13818 ex13818 => ?_)
                                refine lv_iadd hx hb dX12_canRest_132 ?_
                                refine lv_topi (fun x13819 ex13819 => ?_)
                                refine va_iast hx hb hK hP hD hS 4 0 rfl rfl (vp_of (by omega) (by omega)) dX12_canRest_133 (fun H locs hP hD hS => ?_)
                                obtain ⟨f13820, ef13820⟩ : ∃ f, f = upd g3_556 x13813.toNatClampNeg x13819 := ⟨_, rfl⟩
                                have hP : va_P (dC, dI) vwCl [(a0, .inr (12, [.int i0, .ref a1, .ref a2, .ref a3, .ref a4, .int i1, .ref a5, .int i2, .int i3, .int i4, .int i5, .int i6, .int i7, .int i8, .ref a6, .ref a7, .ref a8, .ref a9, .ref a10, .ref a11, .ref a12, .int i9, .ref a13, .int i10, .ref a14, .ref a15, .int i11, .ref a16, .ref a17, .ref a18, .ref a19, .int i12, .int i13, .int i14, .int i15, .int i16, .ref a20, .long j0, .ref a21, .ref a22, .ref a23, .ref a24])), (a1, .inl (cI, 544, .inl xF0)), (a16, .inl (cI, 256, .inl xF15)), (a18, .inl (cI, 8, .inl xF17)), (a19, .inl (cI, 8, .inl f13820))] H := by rw [ef13820]; exact hP
                                have hD : va_D A [(a0, .inr (12, [.int i0, .ref a1, .ref a2, .ref a3, .ref a4, .int i1, .ref a5, .int i2, .int i3, .int i4, .int i5, .int i6, .int i7, .int i8, .ref a6, .ref a7, .ref a8, .ref a9, .ref a10, .ref a11, .ref a12, .int i9, .ref a13, .int i10, .ref a14, .ref a15, .int i11, .ref a16, .ref a17, .ref a18, .ref a19, .int i12, .int i13, .int i14, .int i15, .int i16, .ref a20, .long j0, .ref a21, .ref a22, .ref a23, .ref a24])), (a1, .inl (cI, 544, .inl xF0)), (a16, .inl (cI, 256, .inl xF15)), (a18, .inl (cI, 8, .inl xF17)), (a19, .inl (cI, 8, .inl f13820))] := by rw [ef13820]; exact hD
                                refine lv_aload_n hx hb dX12_canRest_134 rfl (lv_at hl 0 rfl) ?_
                                refine va_get (D := (dC, dI)) (ci := 12) (v := .ref a19) (C := RX12) (T := TX12) (N := 42) hx hb hwd inlX12 hown hK hP 0 rfl rfl 30 (by decide) (hwd _ kr7_22) (fun _ h9 => h9) rfl dX12_canRest_135 ?_
                                refine lv_iload hx hb dX12_canRest_138 (lv_at hl 7 rfl) ?_
                                refine lv_iload_n hx hb dX12_canRest_140 rfl (lv_at hl 3 rfl) ?_
                                refine lv_irem hx hb dX12_canRest_141 (fun h9 => by rw [ki_eq] at h9; omega) ?_
                                refine lv_topi (fun x13821 ex13821 => ?_)
                                have tx13821 := ir_pos (a := w7_556) (b := p2) (by omega) (by omega)
                                rw [← ex13821] at tx13821
                                have h13822 : vp_in x13821 8 := (vp_of (by omega) (by omega))
                                refine va_iald hx hb hK hP 4 0 rfl rfl h13822 dX12_canRest_142 ?_
                                refine lv_topi (fun x13823 ex13823 => ?_)
                                refine lv_aload_n hx hb dX12_canRest_143 rfl (lv_at hl 0 rfl) ?_
                                refine va_get (D := (dC, dI)) (ci := 12) (v := .ref a1) (C := RX12) (T := TX12) (N := 42) hx hb hwd inlX12 hown hK hP 0 rfl rfl 1 (by decide) (hwd _ kr7_3) (fun _ h9 => h9) rfl dX12_canRest_144 ?_
                                refine lv_iconst (v := 1) hx hb dX12_canRest_147 (by decide) ?_
                                have h13824 : vp_in (1 : Int32) 544 := (vin (by decide))
                                refine va_iald hx hb hK hP 1 0 rfl rfl h13824 dX12_canRest_148 ?_
                                refine lv_topi (fun x13825 ex13825 => ?_)
                                have ix13825 := wat_lit (k := 1) ex13825 (by decide)
                                have wh13826 : whd cp xF0 := p_7.1
                                unfold whd at wh13826
                                have jp561 : ∀ (H : Heap) (locs : List Loc) (ls : Array Slot) (z0_561 : Int32), ((0 : Int) ≤ z0_561.toInt ∧ z0_561.toInt ≤ 1) → va_P (dC, dI) vwCl [(a0, .inr (12, [.int i0, .ref a1, .ref a2, .ref a3, .ref a4, .int i1, .ref a5, .int i2, .int i3, .int i4, .int i5, .int i6, .int i7, .int i8, .ref a6, .ref a7, .ref a8, .ref a9, .ref a10, .ref a11, .ref a12, .int i9, .ref a13, .int i10, .ref a14, .ref a15, .int i11, .ref a16, .ref a17, .ref a18, .ref a19, .int i12, .int i13, .int i14, .int i15, .int i16, .ref a20, .long j0, .ref a21, .ref a22, .ref a23, .ref a24])), (a1, .inl (cI, 544, .inl xF0)), (a16, .inl (cI, 256, .inl xF15)), (a18, .inl (cI, 8, .inl xF17)), (a19, .inl (cI, 8, .inl f13820))] H → va_D A [(a0, .inr (12, [.int i0, .ref a1, .ref a2, .ref a3, .ref a4, .int i1, .ref a5, .int i2, .int i3, .int i4, .int i5, .int i6, .int i7, .int i8, .ref a6, .ref a7, .ref a8, .ref a9, .ref a10, .ref a11, .ref a12, .int i9, .ref a13, .int i10, .ref a14, .ref a15, .int i11, .ref a16, .ref a17, .ref a18, .ref a19, .int i12, .int i13, .int i14, .int i15, .int i16, .ref a20, .long j0, .ref a21, .ref a22, .ref a23, .ref a24])), (a1, .inl (cI, 544, .inl xF0)), (a16, .inl (cI, 256, .inl xF15)), (a18, .inl (cI, 8, .inl xF17)), (a19, .inl (cI, 8, .inl f13820))] → va_S A s.heap H locs → lv_has ls 10 [(0, .ref a0), (1, .int p0), (2, .int p1), (3, .int p2), (4, .int x2), (5, .int w5_1), (6, .int w6_282), (7, .int w7_556), (8, .int w8_556), (9, .int w9_556)] → W p l e ({ frames := 0, cells := 0, slots := 0, locals := 0 } : Room) s m ([.ref a0, .int p0, .int p1, .int p2] : List Value).toArray below meth c H locs 0 0 Q (F0 m 157 ls [.int z0_561]) := by
                                  intro H locs ls z0_561 hr_z0_561 hP hD hS hl
                                  refine lv_istore (lv' := [(8, .int z0_561), (0, .ref a0), (1, .int p0), (2, .int p1), (3, .int p2), (4, .int x2), (5, .int w5_1), (6, .int w6_282), (7, .int w7_556), (9, .int w9_556)]) hx hb dX12_canRest_157 hl (by decide) rfl (fun ls hl => ?_)
                                  refine lv_iload hx hb dX12_canRest_159 (lv_at hl 8 rfl) ?_
                                  refine lv_iload_n hx hb dX12_canRest_161 rfl (lv_at hl 4 rfl) ?_
                                  refine lv_idiv hx hb dX12_canRest_162 (fun h9 => by rw [ki_eq] at h9; omega) ?_
                                  refine lv_topi (fun x13830 ex13830 => ?_)
                                  have tx13830 := id_pos (a := w7_556) (b := p2) (by omega) (by omega)
                                  rw [← ex13830] at tx13830
                                  refine lv_istore (lv' := [(7, .int x13830), (8, .int z0_561), (0, .ref a0), (1, .int p0), (2, .int p1), (3, .int p2), (4, .int x2), (5, .int w5_1), (6, .int w6_282), (9, .int w9_556)]) hx hb dX12_canRest_163 hl (by decide) rfl (fun ls hl => ?_)
                                  obtain ⟨x13831, ex13831⟩ : ∃ y : Int32, y = w9_556 + 1 := ⟨_, rfl⟩
                                  refine lv_iinc (v := x13831) (lv' := [(9, .int x13831), (7, .int x13830), (8, .int z0_561), (0, .ref a0), (1, .int p0), (2, .int p1), (3, .int p2), (4, .int x2), (5, .int w5_1), (6, .int w6_282)]) hx hb dX12_canRest_165 hl (k := 9) rfl (by rw [ex13831]; rfl) (by decide) rfl (fun ls hl => ?_)
                                  have tx13831 := ia_add (a := w9_556) (b := (1 : Int32)) (by omega) (by omega)
                                  rw [← ex13831] at tx13831
                                  refine lv_goto (tgt := 93) hx hb dX12_canRest_168 (by decide) ?_
                                  exact ih556 _ _ ls x13830 z0_561 x13831 f13820 (show (0 : Int) ≤ x13830.toInt ∧ x13830.toInt ≤ 2147483647 from ⟨by omega, i32_hi⟩) (show (0 : Int) ≤ z0_561.toInt ∧ z0_561.toInt ≤ 1 from ⟨by omega, by omega⟩) (show (1 : Int) ≤ x13831.toInt ∧ x13831.toInt ≤ 8 from ⟨by omega, by omega⟩) (by omega) (hP.sub (ws' := [(a0, .inr (12, [.int i0, .ref a1, .ref a2, .ref a3, .ref a4, .int i1, .ref a5, .int i2, .int i3, .int i4, .int i5, .int i6, .int i7, .int i8, .ref a6, .ref a7, .ref a8, .ref a9, .ref a10, .ref a11, .ref a12, .int i9, .ref a13, .int i10, .ref a14, .ref a15, .int i11, .ref a16, .ref a17, .ref a18, .ref a19, .int i12, .int i13, .int i14, .int i15, .int i16, .ref a20, .long j0, .ref a21, .ref a22, .ref a23, .ref a24])), (a1, .inl (cI, 544, .inl xF0)), (a16, .inl (cI, 256, .inl xF15)), (a18, .inl (cI, 8, .inl xF17)), (a19, .inl (cI, 8, .inl f13820))]) [0, 1, 2, 3, 4] rfl) (hD.sub (ws' := [(a0, .inr (12, [.int i0, .ref a1, .ref a2, .ref a3, .ref a4, .int i1, .ref a5, .int i2, .int i3, .int i4, .int i5, .int i6, .int i7, .int i8, .ref a6, .ref a7, .ref a8, .ref a9, .ref a10, .ref a11, .ref a12, .int i9, .ref a13, .int i10, .ref a14, .ref a15, .int i11, .ref a16, .ref a17, .ref a18, .ref a19, .int i12, .int i13, .int i14, .int i15, .int i16, .ref a20, .long j0, .ref a21, .ref a22, .ref a23, .ref a24])), (a1, .inl (cI, 544, .inl xF0)), (a16, .inl (cI, 256, .inl xF15)), (a18, .inl (cI, 8, .inl xF17)), (a19, .inl (cI, 8, .inl f13820))]) [0, 1, 2, 3, 4] (by decide) rfl) hS (lv_sub hl [3, 4, 5, 6, 7, 8, 9, 1, 2, 0] rfl)
                                refine lv_icmp_gt (tgt := 156) hx hb dX12_canRest_149 (by decide) (fun c13832 => ?_) (fun c13832 => ?_)
                                · rw [ki_lt] at c13832
                                  refine lv_iconst (v := 0) hx hb dX12_canRest_156 (by decide) ?_
                                  exact jp561 _ _ ls (0) (show (0 : Int) ≤ (0 : Int32).toInt ∧ (0 : Int32).toInt ≤ 1 from ⟨by omega, by omega⟩) (hP.sub (ws' := [(a0, .inr (12, [.int i0, .ref a1, .ref a2, .ref a3, .ref a4, .int i1, .ref a5, .int i2, .int i3, .int i4, .int i5, .int i6, .int i7, .int i8, .ref a6, .ref a7, .ref a8, .ref a9, .ref a10, .ref a11, .ref a12, .int i9, .ref a13, .int i10, .ref a14, .ref a15, .int i11, .ref a16, .ref a17, .ref a18, .ref a19, .int i12, .int i13, .int i14, .int i15, .int i16, .ref a20, .long j0, .ref a21, .ref a22, .ref a23, .ref a24])), (a1, .inl (cI, 544, .inl xF0)), (a16, .inl (cI, 256, .inl xF15)), (a18, .inl (cI, 8, .inl xF17)), (a19, .inl (cI, 8, .inl f13820))]) [0, 1, 2, 3, 4] rfl) (hD.sub (ws' := [(a0, .inr (12, [.int i0, .ref a1, .ref a2, .ref a3, .ref a4, .int i1, .ref a5, .int i2, .int i3, .int i4, .int i5, .int i6, .int i7, .int i8, .ref a6, .ref a7, .ref a8, .ref a9, .ref a10, .ref a11, .ref a12, .int i9, .ref a13, .int i10, .ref a14, .ref a15, .int i11, .ref a16, .ref a17, .ref a18, .ref a19, .int i12, .int i13, .int i14, .int i15, .int i16, .ref a20, .long j0, .ref a21, .ref a22, .ref a23, .ref a24])), (a1, .inl (cI, 544, .inl xF0)), (a16, .inl (cI, 256, .inl xF15)), (a18, .inl (cI, 8, .inl xF17)), (a19, .inl (cI, 8, .inl f13820))]) [0, 1, 2, 3, 4] (by decide) rfl) hS (lv_sub hl [0, 1, 2, 3, 4, 5, 6, 7, 8, 9] rfl)
                                · rw [ki_lt] at c13832
                                  refine lv_iconst (v := 1) hx hb dX12_canRest_152 (by decide) ?_
                                  refine lv_goto (tgt := 157) hx hb dX12_canRest_153 (by decide) ?_
                                  exact jp561 _ _ ls (1) (show (0 : Int) ≤ (1 : Int32).toInt ∧ (1 : Int32).toInt ≤ 1 from ⟨by omega, by omega⟩) (hP.sub (ws' := [(a0, .inr (12, [.int i0, .ref a1, .ref a2, .ref a3, .ref a4, .int i1, .ref a5, .int i2, .int i3, .int i4, .int i5, .int i6, .int i7, .int i8, .ref a6, .ref a7, .ref a8, .ref a9, .ref a10, .ref a11, .ref a12, .int i9, .ref a13, .int i10, .ref a14, .ref a15, .int i11, .ref a16, .ref a17, .ref a18, .ref a19, .int i12, .int i13, .int i14, .int i15, .int i16, .ref a20, .long j0, .ref a21, .ref a22, .ref a23, .ref a24])), (a1, .inl (cI, 544, .inl xF0)), (a16, .inl (cI, 256, .inl xF15)), (a18, .inl (cI, 8, .inl xF17)), (a19, .inl (cI, 8, .inl f13820))]) [0, 1, 2, 3, 4] rfl) (hD.sub (ws' := [(a0, .inr (12, [.int i0, .ref a1, .ref a2, .ref a3, .ref a4, .int i1, .ref a5, .int i2, .int i3, .int i4, .int i5, .int i6, .int i7, .int i8, .ref a6, .ref a7, .ref a8, .ref a9, .ref a10, .ref a11, .ref a12, .int i9, .ref a13, .int i10, .ref a14, .ref a15, .int i11, .ref a16, .ref a17, .ref a18, .ref a19, .int i12, .int i13, .int i14, .int i15, .int i16, .ref a20, .long j0, .ref a21, .ref a22, .ref a23, .ref a24])), (a1, .inl (cI, 544, .inl xF0)), (a16, .inl (cI, 256, .inl xF15)), (a18, .inl (cI, 8, .inl xF17)), (a19, .inl (cI, 8, .inl f13820))]) [0, 1, 2, 3, 4] (by decide) rfl) hS (lv_sub hl [0, 1, 2, 3, 4, 5, 6, 7, 8, 9] rfl)
                      exact lp556 _ _ _ ls w6_282 (1) p0 g1_531 (show (0 : Int) ≤ w6_282.toInt ∧ w6_282.toInt ≤ 2147483647 from ⟨by omega, i32_hi⟩) (show (0 : Int) ≤ (1 : Int32).toInt ∧ (1 : Int32).toInt ≤ 1 from ⟨by omega, by omega⟩) (show (1 : Int) ≤ p0.toInt ∧ p0.toInt ≤ 8 from ⟨by omega, by omega⟩) (Nat.lt_succ_self _) (hP.sub (ws' := [(a0, .inr (12, [.int i0, .ref a1, .ref a2, .ref a3, .ref a4, .int i1, .ref a5, .int i2, .int i3, .int i4, .int i5, .int i6, .int i7, .int i8, .ref a6, .ref a7, .ref a8, .ref a9, .ref a10, .ref a11, .ref a12, .int i9, .ref a13, .int i10, .ref a14, .ref a15, .int i11, .ref a16, .ref a17, .ref a18, .ref a19, .int i12, .int i13, .int i14, .int i15, .int i16, .ref a20, .long j0, .ref a21, .ref a22, .ref a23, .ref a24])), (a1, .inl (cI, 544, .inl xF0)), (a16, .inl (cI, 256, .inl xF15)), (a18, .inl (cI, 8, .inl xF17)), (a19, .inl (cI, 8, .inl g1_531))]) [0, 1, 2, 3, 4] rfl) (hD.sub (ws' := [(a0, .inr (12, [.int i0, .ref a1, .ref a2, .ref a3, .ref a4, .int i1, .ref a5, .int i2, .int i3, .int i4, .int i5, .int i6, .int i7, .int i8, .ref a6, .ref a7, .ref a8, .ref a9, .ref a10, .ref a11, .ref a12, .int i9, .ref a13, .int i10, .ref a14, .ref a15, .int i11, .ref a16, .ref a17, .ref a18, .ref a19, .int i12, .int i13, .int i14, .int i15, .int i16, .ref a20, .long j0, .ref a21, .ref a22, .ref a23, .ref a24])), (a1, .inl (cI, 544, .inl xF0)), (a16, .inl (cI, 256, .inl xF15)), (a18, .inl (cI, 8, .inl xF17)), (a19, .inl (cI, 8, .inl g1_531))]) [0, 1, 2, 3, 4] (by decide) rfl) hS (lv_sub hl [1, 2, 3, 4, 5, 6, 7, 8, 9, 0] rfl)
                    · rw [ki_le] at c13678
                      refine lv_aload_n hx hb dX12_canRest_65 rfl (lv_at hl 0 rfl) ?_
                      refine va_get (D := (dC, dI)) (ci := 12) (v := .ref a19) (C := RX12) (T := TX12) (N := 42) hx hb hwd inlX12 hown hK hP 0 rfl rfl 30 (by decide) (hwd _ kr7_22) (fun _ h9 => h9) rfl dX12_canRest_66 ?_
                      refine lv_iload hx hb dX12_canRest_69 (lv_at hl 9 rfl) ?_
                      refine lv_aload_n hx hb dX12_canRest_71 rfl (lv_at hl 0 rfl) ?_
                      refine va_get (D := (dC, dI)) (ci := 12) (v := .ref a16) (C := RX12) (T := TX12) (N := 42) hx hb hwd inlX12 hown hK hP 0 rfl rfl 27 (by decide) (hwd _ kr7_19) (fun _ h9 => h9) rfl dX12_canRest_72 ?_
                      refine lv_aload_n hx hb dX12_canRest_75 rfl (lv_at hl 0 rfl) ?_
                      refine va_get (D := (dC, dI)) (ci := 12) (v := .ref a18) (C := RX12) (T := TX12) (N := 42) hx hb hwd inlX12 hown hK hP 0 rfl rfl 29 (by decide) (hwd _ kr7_21) (fun _ h9 => h9) rfl dX12_canRest_76 ?_
                      refine lv_iload hx hb dX12_canRest_79 (lv_at hl 9 rfl) ?_
                      have h13833 : vp_in w9_531 8 := (vp_of (by omega) (by omega))
                      refine va_iald hx hb hK hP 3 0 rfl rfl h13833 dX12_canRest_81 ?_
                      refine lv_topi (fun x13834 ex13834 => ?_)
                      have tx13834 : (0 : Int) ≤ x13834.toInt ∧ x13834.toInt ≤ 255 := by rw [ex13834]; exact p_8 _ (vp_nat h13833)
                      have h13835 : vp_in x13834 256 := (vp_of (by omega) (by omega))
                      refine va_iald hx hb hK hP 2 0 rfl rfl h13835 dX12_canRest_82 ?_
                      refine lv_topi (fun x13836 ex13836 => ?_)
                      refine va_iast hx hb hK hP hD hS 4 0 rfl rfl (vp_of (by omega) (by omega)) dX12_canRest_83 (fun H locs hP hD hS => ?_)
                      obtain ⟨f13837, ef13837⟩ : ∃ f, f = upd g1_531 w9_531.toNatClampNeg x13836 := ⟨_, rfl⟩
                      have hP : va_P (dC, dI) vwCl [(a0, .inr (12, [.int i0, .ref a1, .ref a2, .ref a3, .ref a4, .int i1, .ref a5, .int i2, .int i3, .int i4, .int i5, .int i6, .int i7, .int i8, .ref a6, .ref a7, .ref a8, .ref a9, .ref a10, .ref a11, .ref a12, .int i9, .ref a13, .int i10, .ref a14, .ref a15, .int i11, .ref a16, .ref a17, .ref a18, .ref a19, .int i12, .int i13, .int i14, .int i15, .int i16, .ref a20, .long j0, .ref a21, .ref a22, .ref a23, .ref a24])), (a1, .inl (cI, 544, .inl xF0)), (a16, .inl (cI, 256, .inl xF15)), (a18, .inl (cI, 8, .inl xF17)), (a19, .inl (cI, 8, .inl f13837))] H := by rw [ef13837]; exact hP
                      have hD : va_D A [(a0, .inr (12, [.int i0, .ref a1, .ref a2, .ref a3, .ref a4, .int i1, .ref a5, .int i2, .int i3, .int i4, .int i5, .int i6, .int i7, .int i8, .ref a6, .ref a7, .ref a8, .ref a9, .ref a10, .ref a11, .ref a12, .int i9, .ref a13, .int i10, .ref a14, .ref a15, .int i11, .ref a16, .ref a17, .ref a18, .ref a19, .int i12, .int i13, .int i14, .int i15, .int i16, .ref a20, .long j0, .ref a21, .ref a22, .ref a23, .ref a24])), (a1, .inl (cI, 544, .inl xF0)), (a16, .inl (cI, 256, .inl xF15)), (a18, .inl (cI, 8, .inl xF17)), (a19, .inl (cI, 8, .inl f13837))] := by rw [ef13837]; exact hD
                      obtain ⟨x13838, ex13838⟩ : ∃ y : Int32, y = w9_531 + 1 := ⟨_, rfl⟩
                      refine lv_iinc (v := x13838) (lv' := [(9, .int x13838), (0, .ref a0), (1, .int p0), (2, .int p1), (3, .int p2), (4, .int x2), (5, .int w5_1), (6, .int w6_282), (7, .int w6_282), (8, .int 1)]) hx hb dX12_canRest_84 hl (k := 9) rfl (by rw [ex13838]; rfl) (by decide) rfl (fun ls hl => ?_)
                      have tx13838 := ia_add (a := w9_531) (b := (1 : Int32)) (by omega) (by omega)
                      rw [← ex13838] at tx13838
                      refine lv_goto (tgt := 59) hx hb dX12_canRest_87 (by decide) ?_
                      exact ih531 _ _ ls x13838 f13837 (show (0 : Int) ≤ x13838.toInt ∧ x13838.toInt ≤ 8 from ⟨by omega, by omega⟩) (by omega) (hP.sub (ws' := [(a0, .inr (12, [.int i0, .ref a1, .ref a2, .ref a3, .ref a4, .int i1, .ref a5, .int i2, .int i3, .int i4, .int i5, .int i6, .int i7, .int i8, .ref a6, .ref a7, .ref a8, .ref a9, .ref a10, .ref a11, .ref a12, .int i9, .ref a13, .int i10, .ref a14, .ref a15, .int i11, .ref a16, .ref a17, .ref a18, .ref a19, .int i12, .int i13, .int i14, .int i15, .int i16, .ref a20, .long j0, .ref a21, .ref a22, .ref a23, .ref a24])), (a1, .inl (cI, 544, .inl xF0)), (a16, .inl (cI, 256, .inl xF15)), (a18, .inl (cI, 8, .inl xF17)), (a19, .inl (cI, 8, .inl f13837))]) [0, 1, 2, 3, 4] rfl) (hD.sub (ws' := [(a0, .inr (12, [.int i0, .ref a1, .ref a2, .ref a3, .ref a4, .int i1, .ref a5, .int i2, .int i3, .int i4, .int i5, .int i6, .int i7, .int i8, .ref a6, .ref a7, .ref a8, .ref a9, .ref a10, .ref a11, .ref a12, .int i9, .ref a13, .int i10, .ref a14, .ref a15, .int i11, .ref a16, .ref a17, .ref a18, .ref a19, .int i12, .int i13, .int i14, .int i15, .int i16, .ref a20, .long j0, .ref a21, .ref a22, .ref a23, .ref a24])), (a1, .inl (cI, 544, .inl xF0)), (a16, .inl (cI, 256, .inl xF15)), (a18, .inl (cI, 8, .inl xF17)), (a19, .inl (cI, 8, .inl f13837))]) [0, 1, 2, 3, 4] (by decide) rfl) hS (lv_sub hl [1, 2, 3, 4, 5, 6, 7, 8, 9, 0] rfl)
                exact lp531 _ _ _ ls (0) g1_282 (show (0 : Int) ≤ (0 : Int32).toInt ∧ (0 : Int32).toInt ≤ 8 from ⟨by omega, by omega⟩) (Nat.lt_succ_self _) (hP.sub (ws' := [(a0, .inr (12, [.int i0, .ref a1, .ref a2, .ref a3, .ref a4, .int i1, .ref a5, .int i2, .int i3, .int i4, .int i5, .int i6, .int i7, .int i8, .ref a6, .ref a7, .ref a8, .ref a9, .ref a10, .ref a11, .ref a12, .int i9, .ref a13, .int i10, .ref a14, .ref a15, .int i11, .ref a16, .ref a17, .ref a18, .ref a19, .int i12, .int i13, .int i14, .int i15, .int i16, .ref a20, .long j0, .ref a21, .ref a22, .ref a23, .ref a24])), (a1, .inl (cI, 544, .inl xF0)), (a16, .inl (cI, 256, .inl xF15)), (a18, .inl (cI, 8, .inl xF17)), (a19, .inl (cI, 8, .inl g1_282))]) [0, 1, 2, 3, 4] rfl) (hD.sub (ws' := [(a0, .inr (12, [.int i0, .ref a1, .ref a2, .ref a3, .ref a4, .int i1, .ref a5, .int i2, .int i3, .int i4, .int i5, .int i6, .int i7, .int i8, .ref a6, .ref a7, .ref a8, .ref a9, .ref a10, .ref a11, .ref a12, .int i9, .ref a13, .int i10, .ref a14, .ref a15, .int i11, .ref a16, .ref a17, .ref a18, .ref a19, .int i12, .int i13, .int i14, .int i15, .int i16, .ref a20, .long j0, .ref a21, .ref a22, .ref a23, .ref a24])), (a1, .inl (cI, 544, .inl xF0)), (a16, .inl (cI, 256, .inl xF15)), (a18, .inl (cI, 8, .inl xF17)), (a19, .inl (cI, 8, .inl g1_282))]) [0, 1, 2, 3, 4] (by decide) rfl) hS (lv_sub hl [3, 4, 5, 6, 7, 8, 9, 2, 1, 0] rfl)
          exact lp282 _ _ _ ls (0) xF18 (show (0 : Int) ≤ (0 : Int32).toInt ∧ (0 : Int32).toInt ≤ 2147483647 from ⟨by omega, i32_hi⟩) (Nat.lt_succ_self _) (hP.sub (ws' := [(a0, .inr (12, [.int i0, .ref a1, .ref a2, .ref a3, .ref a4, .int i1, .ref a5, .int i2, .int i3, .int i4, .int i5, .int i6, .int i7, .int i8, .ref a6, .ref a7, .ref a8, .ref a9, .ref a10, .ref a11, .ref a12, .int i9, .ref a13, .int i10, .ref a14, .ref a15, .int i11, .ref a16, .ref a17, .ref a18, .ref a19, .int i12, .int i13, .int i14, .int i15, .int i16, .ref a20, .long j0, .ref a21, .ref a22, .ref a23, .ref a24])), (a1, .inl (cI, 544, .inl xF0)), (a16, .inl (cI, 256, .inl xF15)), (a18, .inl (cI, 8, .inl xF17)), (a19, .inl (cI, 8, .inl xF18))]) [0, 1, 2, 3, 4] rfl) (hD.sub (ws' := [(a0, .inr (12, [.int i0, .ref a1, .ref a2, .ref a3, .ref a4, .int i1, .ref a5, .int i2, .int i3, .int i4, .int i5, .int i6, .int i7, .int i8, .ref a6, .ref a7, .ref a8, .ref a9, .ref a10, .ref a11, .ref a12, .int i9, .ref a13, .int i10, .ref a14, .ref a15, .int i11, .ref a16, .ref a17, .ref a18, .ref a19, .int i12, .int i13, .int i14, .int i15, .int i16, .ref a20, .long j0, .ref a21, .ref a22, .ref a23, .ref a24])), (a1, .inl (cI, 544, .inl xF0)), (a16, .inl (cI, 256, .inl xF15)), (a18, .inl (cI, 8, .inl xF17)), (a19, .inl (cI, 8, .inl xF18))]) [0, 1, 2, 3, 4] (by decide) rfl) hS (lv_sub hl [1, 2, 3, 4, 5, 6, 0] rfl)
        · rw [ki_eq] at c6934
          refine lv_iload hx hb dX12_canRest_27 (lv_at hl 5 rfl) ?_
          refine lv_iload_n hx hb dX12_canRest_29 rfl (lv_at hl 3 rfl) ?_
          refine lv_imul hx hb dX12_canRest_30 ?_
          refine lv_topi (fun x13839 ex13839 => ?_)
          refine lv_istore (lv' := [(5, .int x13839), (0, .ref a0), (1, .int p0), (2, .int p1), (3, .int p2), (4, .int x2), (6, .int w6_1)]) hx hb dX12_canRest_31 hl (by decide) rfl (fun ls hl => ?_)
          obtain ⟨x13840, ex13840⟩ : ∃ y : Int32, y = w6_1 + 1 := ⟨_, rfl⟩
          refine lv_iinc (v := x13840) (lv' := [(6, .int x13840), (5, .int x13839), (0, .ref a0), (1, .int p0), (2, .int p1), (3, .int p2), (4, .int x2)]) hx hb dX12_canRest_33 hl (k := 6) rfl (by rw [ex13840]; rfl) (by decide) rfl (fun ls hl => ?_)
          have tx13840 := ia_add (a := w6_1) (b := (1 : Int32)) (by omega) (by omega)
          rw [← ex13840] at tx13840
          refine lv_goto (tgt := 13) hx hb dX12_canRest_36 (by decide) ?_
          exact ih1 _ _ ls x13839 x13840 (show (1 : Int) ≤ x13840.toInt ∧ x13840.toInt ≤ 8 from ⟨by omega, by omega⟩) (by omega) (hP.sub (ws' := [(a0, .inr (12, [.int i0, .ref a1, .ref a2, .ref a3, .ref a4, .int i1, .ref a5, .int i2, .int i3, .int i4, .int i5, .int i6, .int i7, .int i8, .ref a6, .ref a7, .ref a8, .ref a9, .ref a10, .ref a11, .ref a12, .int i9, .ref a13, .int i10, .ref a14, .ref a15, .int i11, .ref a16, .ref a17, .ref a18, .ref a19, .int i12, .int i13, .int i14, .int i15, .int i16, .ref a20, .long j0, .ref a21, .ref a22, .ref a23, .ref a24])), (a1, .inl (cI, 544, .inl xF0)), (a16, .inl (cI, 256, .inl xF15)), (a18, .inl (cI, 8, .inl xF17)), (a19, .inl (cI, 8, .inl xF18))]) [0, 1, 2, 3, 4] rfl) (hD.sub (ws' := [(a0, .inr (12, [.int i0, .ref a1, .ref a2, .ref a3, .ref a4, .int i1, .ref a5, .int i2, .int i3, .int i4, .int i5, .int i6, .int i7, .int i8, .ref a6, .ref a7, .ref a8, .ref a9, .ref a10, .ref a11, .ref a12, .int i9, .ref a13, .int i10, .ref a14, .ref a15, .int i11, .ref a16, .ref a17, .ref a18, .ref a19, .int i12, .int i13, .int i14, .int i15, .int i16, .ref a20, .long j0, .ref a21, .ref a22, .ref a23, .ref a24])), (a1, .inl (cI, 544, .inl xF0)), (a16, .inl (cI, 256, .inl xF15)), (a18, .inl (cI, 8, .inl xF17)), (a19, .inl (cI, 8, .inl xF18))]) [0, 1, 2, 3, 4] (by decide) rfl) hS (lv_sub hl [2, 3, 4, 5, 6, 1, 0] rfl)
  exact lp1 _ _ _ ls (1) p0 (show (1 : Int) ≤ p0.toInt ∧ p0.toInt ≤ 8 from ⟨by omega, by omega⟩) (Nat.lt_succ_self _) (hP.sub (ws' := [(a0, .inr (12, [.int i0, .ref a1, .ref a2, .ref a3, .ref a4, .int i1, .ref a5, .int i2, .int i3, .int i4, .int i5, .int i6, .int i7, .int i8, .ref a6, .ref a7, .ref a8, .ref a9, .ref a10, .ref a11, .ref a12, .int i9, .ref a13, .int i10, .ref a14, .ref a15, .int i11, .ref a16, .ref a17, .ref a18, .ref a19, .int i12, .int i13, .int i14, .int i15, .int i16, .ref a20, .long j0, .ref a21, .ref a22, .ref a23, .ref a24])), (a1, .inl (cI, 544, .inl xF0)), (a16, .inl (cI, 256, .inl xF15)), (a18, .inl (cI, 8, .inl xF17)), (a19, .inl (cI, 8, .inl xF18))]) [0, 1, 2, 3, 4] rfl) (hD.sub (ws' := [(a0, .inr (12, [.int i0, .ref a1, .ref a2, .ref a3, .ref a4, .int i1, .ref a5, .int i2, .int i3, .int i4, .int i5, .int i6, .int i7, .int i8, .ref a6, .ref a7, .ref a8, .ref a9, .ref a10, .ref a11, .ref a12, .int i9, .ref a13, .int i10, .ref a14, .ref a15, .int i11, .ref a16, .ref a17, .ref a18, .ref a19, .int i12, .int i13, .int i14, .int i15, .int i16, .ref a20, .long j0, .ref a21, .ref a22, .ref a23, .ref a24])), (a1, .inl (cI, 544, .inl xF0)), (a16, .inl (cI, 256, .inl xF15)), (a18, .inl (cI, 8, .inl xF17)), (a19, .inl (cI, 8, .inl xF18))]) [0, 1, 2, 3, 4] (by decide) rfl) hS (lv_sub hl [3, 4, 5, 6, 2, 1, 0] rfl)
