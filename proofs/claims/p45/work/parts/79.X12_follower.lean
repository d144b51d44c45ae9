theorem dX12_follower_0 : decode cX12_follower 0 = .ok (.aload_n 0, 1) := by decide +kernel
theorem dX12_follower_1 : decode cX12_follower 1 = .ok (.iload_n 1, 1) := by decide +kernel
theorem dX12_follower_2 : decode cX12_follower 2 = .ok (.invokevirtual 289, 3) := by decide +kernel
theorem dX12_follower_5 : decode cX12_follower 5 = .ok (.ifCond .eq 15, 3) := by decide +kernel
theorem dX12_follower_8 : decode cX12_follower 8 = .ok (.iload_n 2, 1) := by decide +kernel
theorem dX12_follower_9 : decode cX12_follower 9 = .ok (.i2l, 1) := by decide +kernel
theorem dX12_follower_10 : decode cX12_follower 10 = .ok (.lconst 0, 1) := by decide +kernel
theorem dX12_follower_11 : decode cX12_follower 11 = .ok (.ldc2_w 321, 3) := by decide +kernel
theorem dX12_follower_14 : decode cX12_follower 14 = .ok (.invokestatic 98, 3) := by decide +kernel
theorem dX12_follower_17 : decode cX12_follower 17 = .ok (.ifCond .ne 6, 3) := by decide +kernel
theorem dX12_follower_20 : decode cX12_follower 20 = .ok (.bipush (-2), 2) := by decide +kernel
theorem dX12_follower_22 : decode cX12_follower 22 = .ok (.ireturn, 1) := by decide +kernel
theorem dX12_follower_23 : decode cX12_follower 23 = .ok (.iload_n 2, 1) := by decide +kernel
theorem dX12_follower_24 : decode cX12_follower 24 = .ok (.ifCond .ne 9, 3) := by decide +kernel
theorem dX12_follower_27 : decode cX12_follower 27 = .ok (.aload_n 0, 1) := by decide +kernel
theorem dX12_follower_28 : decode cX12_follower 28 = .ok (.iload_n 1, 1) := by decide +kernel
theorem dX12_follower_29 : decode cX12_follower 29 = .ok (.invokevirtual 297, 3) := by decide +kernel
theorem dX12_follower_32 : decode cX12_follower 32 = .ok (.ireturn, 1) := by decide +kernel
theorem dX12_follower_33 : decode cX12_follower 33 = .ok (.iload_n 2, 1) := by decide +kernel
theorem dX12_follower_34 : decode cX12_follower 34 = .ok (.iconst 1, 1) := by decide +kernel
theorem dX12_follower_35 : decode cX12_follower 35 = .ok (.if_icmp .ne 39, 3) := by decide +kernel
theorem dX12_follower_38 : decode cX12_follower 38 = .ok (.aload_n 0, 1) := by decide +kernel
theorem dX12_follower_39 : decode cX12_follower 39 = .ok (.getfield 13, 3) := by decide +kernel
theorem dX12_follower_42 : decode cX12_follower 42 = .ok (.sipush 274, 3) := by decide +kernel
theorem dX12_follower_45 : decode cX12_follower 45 = .ok (.bipush 10, 2) := by decide +kernel
theorem dX12_follower_47 : decode cX12_follower 47 = .ok (.iconst 0, 1) := by decide +kernel
theorem dX12_follower_48 : decode cX12_follower 48 = .ok (.aload_n 0, 1) := by decide +kernel
theorem dX12_follower_49 : decode cX12_follower 49 = .ok (.getfield 13, 3) := by decide +kernel
theorem dX12_follower_52 : decode cX12_follower 52 = .ok (.bipush 18, 2) := by decide +kernel
theorem dX12_follower_54 : decode cX12_follower 54 = .ok (.iaload, 1) := by decide +kernel
theorem dX12_follower_55 : decode cX12_follower 55 = .ok (.aload_n 0, 1) := by decide +kernel
theorem dX12_follower_56 : decode cX12_follower 56 = .ok (.iload_n 1, 1) := by decide +kernel
theorem dX12_follower_57 : decode cX12_follower 57 = .ok (.iconst 5, 1) := by decide +kernel
theorem dX12_follower_58 : decode cX12_follower 58 = .ok (.invokevirtual 273, 3) := by decide +kernel
theorem dX12_follower_61 : decode cX12_follower 61 = .ok (.isub, 1) := by decide +kernel
theorem dX12_follower_62 : decode cX12_follower 62 = .ok (.invokestatic 257, 3) := by decide +kernel
theorem dX12_follower_65 : decode cX12_follower 65 = .ok (.bipush 21, 2) := by decide +kernel
theorem dX12_follower_67 : decode cX12_follower 67 = .ok (.irem, 1) := by decide +kernel
theorem dX12_follower_68 : decode cX12_follower 68 = .ok (.imul, 1) := by decide +kernel
theorem dX12_follower_69 : decode cX12_follower 69 = .ok (.iadd, 1) := by decide +kernel
theorem dX12_follower_70 : decode cX12_follower 70 = .ok (.iload_n 1, 1) := by decide +kernel
theorem dX12_follower_71 : decode cX12_follower 71 = .ok (.iadd, 1) := by decide +kernel
theorem dX12_follower_72 : decode cX12_follower 72 = .ok (.iaload, 1) := by decide +kernel
theorem dX12_follower_73 : decode cX12_follower 73 = .ok (.ireturn, 1) := by decide +kernel
theorem dX12_follower_74 : decode cX12_follower 74 = .ok (.aload_n 0, 1) := by decide +kernel
theorem dX12_follower_75 : decode cX12_follower 75 = .ok (.invokevirtual 292, 3) := by decide +kernel
theorem dX12_follower_78 : decode cX12_follower 78 = .ok (.iload_n 2, 1) := by decide +kernel
theorem dX12_follower_79 : decode cX12_follower 79 = .ok (.iconst 2, 1) := by decide +kernel
theorem dX12_follower_80 : decode cX12_follower 80 = .ok (.if_icmp .ne 27, 3) := by decide +kernel
theorem dX12_follower_83 : decode cX12_follower 83 = .ok (.aload_n 0, 1) := by decide +kernel
theorem dX12_follower_84 : decode cX12_follower 84 = .ok (.getfield 40, 3) := by decide +kernel
theorem dX12_follower_87 : decode cX12_follower 87 = .ok (.bipush 60, 2) := by decide +kernel
theorem dX12_follower_89 : decode cX12_follower 89 = .ok (.iload_n 1, 1) := by decide +kernel
theorem dX12_follower_90 : decode cX12_follower 90 = .ok (.imul, 1) := by decide +kernel
theorem dX12_follower_91 : decode cX12_follower 91 = .ok (.aload_n 0, 1) := by decide +kernel
theorem dX12_follower_92 : decode cX12_follower 92 = .ok (.aload_n 0, 1) := by decide +kernel
theorem dX12_follower_93 : decode cX12_follower 93 = .ok (.getfield 13, 3) := by decide +kernel
theorem dX12_follower_96 : decode cX12_follower 96 = .ok (.bipush 11, 2) := by decide +kernel
theorem dX12_follower_98 : decode cX12_follower 98 = .ok (.iaload, 1) := by decide +kernel
theorem dX12_follower_99 : decode cX12_follower 99 = .ok (.invokevirtual 260, 3) := by decide +kernel
theorem dX12_follower_102 : decode cX12_follower 102 = .ok (.iadd, 1) := by decide +kernel
theorem dX12_follower_103 : decode cX12_follower 103 = .ok (.iaload, 1) := by decide +kernel
theorem dX12_follower_104 : decode cX12_follower 104 = .ok (.goto 33, 3) := by decide +kernel
theorem dX12_follower_107 : decode cX12_follower 107 = .ok (.iload_n 2, 1) := by decide +kernel
theorem dX12_follower_108 : decode cX12_follower 108 = .ok (.iconst 3, 1) := by decide +kernel
theorem dX12_follower_109 : decode cX12_follower 109 = .ok (.if_icmp .ne 12, 3) := by decide +kernel
theorem dX12_follower_112 : decode cX12_follower 112 = .ok (.aload_n 0, 1) := by decide +kernel
theorem dX12_follower_113 : decode cX12_follower 113 = .ok (.iload_n 1, 1) := by decide +kernel
theorem dX12_follower_114 : decode cX12_follower 114 = .ok (.iconst 0, 1) := by decide +kernel
theorem dX12_follower_115 : decode cX12_follower 115 = .ok (.invokevirtual 273, 3) := by decide +kernel
theorem dX12_follower_118 : decode cX12_follower 118 = .ok (.goto 19, 3) := by decide +kernel
theorem dX12_follower_121 : decode cX12_follower 121 = .ok (.aload_n 0, 1) := by decide +kernel
theorem dX12_follower_122 : decode cX12_follower 122 = .ok (.getfield 13, 3) := by decide +kernel
theorem dX12_follower_125 : decode cX12_follower 125 = .ok (.bipush 17, 2) := by decide +kernel
theorem dX12_follower_127 : decode cX12_follower 127 = .ok (.iaload, 1) := by decide +kernel
theorem dX12_follower_128 : decode cX12_follower 128 = .ok (.iload_n 1, 1) := by decide +kernel
theorem dX12_follower_129 : decode cX12_follower 129 = .ok (.if_icmp .ne 7, 3) := by decide +kernel
theorem dX12_follower_132 : decode cX12_follower 132 = .ok (.iconst 1, 1) := by decide +kernel
theorem dX12_follower_133 : decode cX12_follower 133 = .ok (.goto 4, 3) := by decide +kernel
theorem dX12_follower_136 : decode cX12_follower 136 = .ok (.iconst 0, 1) := by decide +kernel
theorem dX12_follower_137 : decode cX12_follower 137 = .ok (.ireturn, 1) := by decide +kernel
set_option maxHeartbeats 4000000 in
set_option maxRecDepth 100000 in
theorem s_X12_follower (l : Launch) (dC : Nat → ClassId) (dI : Nat → Nat → Nat) (cI cZ cB cJ cM cG : ClassId) (a0 a1 a2 a3 a4 a5 a6 a7 a8 a9 a10 a11 a12 a13 a14 a15 a16 a17 a18 a19 a20 a21 a22 a23 a24 : Nat) (i0 i1 i2 i3 i4 i5 i6 i7 i8 i9 i10 i11 i12 i13 i14 i15 i16 : Int32) (j0 : Int64) (xF0 xF6 xF7 xF8 : Nat → Int32) (p0 p1 : Int32) (cp : Int) (sz : Nat) (p_0 : (0 : Int) ≤ i1.toInt ∧ i1.toInt ≤ 1600) (p_1 : (0 : Int) ≤ i2.toInt ∧ i2.toInt ≤ 1600) (p_2 : (0 : Int) ≤ i3.toInt ∧ i3.toInt ≤ 1600) (p_3 : (0 : Int) ≤ i4.toInt ∧ i4.toInt ≤ 1600) (p_4 : (0 : Int) ≤ i5.toInt ∧ i5.toInt ≤ 6) (p_5 : (0 : Int) ≤ i7.toInt ∧ i7.toInt ≤ 3) (p_6 : (0 : Int) ≤ i11.toInt ∧ i11.toInt ≤ 59) (p_7 : WI cp xF0) (p_8 : 0 ≤ cp ∧ cp ≤ 2000000000) : Met l yX12_follower (kw yX12_follower cX12_follower 3 (some .int)) ({ frames := 5, cells := 0, slots := 0, locals := 118 } : Room) (va_Pc [.ref a0, .int p0, .int p1] (kPre dC dI [(cI, .int), (cZ, .boolean), (cB, .byte), (cJ, .long), (cM, .object RX2), (cG, .array .int)] [(a0, .inr (12, [.int i0, .ref a1, .ref a2, .ref a3, .ref a4, .int i1, .ref a5, .int i2, .int i3, .int i4, .int i5, .int i6, .int i7, .int i8, .ref a6, .ref a7, .ref a8, .ref a9, .ref a10, .ref a11, .ref a12, .int i9, .ref a13, .int i10, .ref a14, .ref a15, .int i11, .ref a16, .ref a17, .ref a18, .ref a19, .int i12, .int i13, .int i14, .int i15, .int i16, .ref a20, .long j0, .ref a21, .ref a22, .ref a23, .ref a24])), (a1, .inl (cI, 544, .inl xF0)), (a7, .inl (cI, 360, .inl xF6)), (a8, .inl (cI, 600, .inl xF7)), (a9, .inl (cI, 60, .inl xF8))] sz)) (va_Qi (fun (r : Int32) (u9 : (Nat → Int32) × (Nat → Nat → Int32) × (Nat → Nat → Int64)) => True) (fun u9 t => va_P (dC, dI) vwCl [(a0, .inr (12, [.int i0, .ref a1, .ref a2, .ref a3, .ref a4, .int i1, .ref a5, .int i2, .int i3, .int i4, .int i5, .int i6, .int i7, .int i8, .ref a6, .ref a7, .ref a8, .ref a9, .ref a10, .ref a11, .ref a12, .int i9, .ref a13, .int i10, .ref a14, .ref a15, .int i11, .ref a16, .ref a17, .ref a18, .ref a19, .int i12, .int i13, .int i14, .int i15, .int i16, .ref a20, .long j0, .ref a21, .ref a22, .ref a23, .ref a24])), (a1, .inl (cI, 544, .inl xF0)), (a7, .inl (cI, 360, .inl (u9.2.1 0))), (a8, .inl (cI, 600, .inl (u9.2.1 1))), (a9, .inl (cI, 60, .inl (u9.2.1 2)))] t.heap ∧ va_D (va_A [(a0, .inr (12, [.int i0, .ref a1, .ref a2, .ref a3, .ref a4, .int i1, .ref a5, .int i2, .int i3, .int i4, .int i5, .int i6, .int i7, .int i8, .ref a6, .ref a7, .ref a8, .ref a9, .ref a10, .ref a11, .ref a12, .int i9, .ref a13, .int i10, .ref a14, .ref a15, .int i11, .ref a16, .ref a17, .ref a18, .ref a19, .int i12, .int i13, .int i14, .int i15, .int i16, .ref a20, .long j0, .ref a21, .ref a22, .ref a23, .ref a24])), (a1, .inl (cI, 544, .inl xF0)), (a7, .inl (cI, 360, .inl xF6)), (a8, .inl (cI, 600, .inl xF7)), (a9, .inl (cI, 60, .inl xF8))] sz) [(a0, .inr (12, [.int i0, .ref a1, .ref a2, .ref a3, .ref a4, .int i1, .ref a5, .int i2, .int i3, .int i4, .int i5, .int i6, .int i7, .int i8, .ref a6, .ref a7, .ref a8, .ref a9, .ref a10, .ref a11, .ref a12, .int i9, .ref a13, .int i10, .ref a14, .ref a15, .int i11, .ref a16, .ref a17, .ref a18, .ref a19, .int i12, .int i13, .int i14, .int i15, .int i16, .ref a20, .long j0, .ref a21, .ref a22, .ref a23, .ref a24])), (a1, .inl (cI, 544, .inl xF0)), (a7, .inl (cI, 360, .inl (u9.2.1 0))), (a8, .inl (cI, 600, .inl (u9.2.1 1))), (a9, .inl (cI, 60, .inl (u9.2.1 2)))]) (va_A [(a0, .inr (12, [.int i0, .ref a1, .ref a2, .ref a3, .ref a4, .int i1, .ref a5, .int i2, .int i3, .int i4, .int i5, .int i6, .int i7, .int i8, .ref a6, .ref a7, .ref a8, .ref a9, .ref a10, .ref a11, .ref a12, .int i9, .ref a13, .int i10, .ref a14, .ref a15, .int i11, .ref a16, .ref a17, .ref a18, .ref a19, .int i12, .int i13, .int i14, .int i15, .int i16, .ref a20, .long j0, .ref a21, .ref a22, .ref a23, .ref a24])), (a1, .inl (cI, 544, .inl xF0)), (a7, .inl (cI, 360, .inl xF6)), (a8, .inl (cI, 600, .inl xF7)), (a9, .inl (cI, 60, .inl xF8))] sz)) 0 0 (va_A [(a0, .inr (12, [.int i0, .ref a1, .ref a2, .ref a3, .ref a4, .int i1, .ref a5, .int i2, .int i3, .int i4, .int i5, .int i6, .int i7, .int i8, .ref a6, .ref a7, .ref a8, .ref a9, .ref a10, .ref a11, .ref a12, .int i9, .ref a13, .int i10, .ref a14, .ref a15, .int i11, .ref a16, .ref a17, .ref a18, .ref a19, .int i12, .int i13, .int i14, .int i15, .int i16, .ref a20, .long j0, .ref a21, .ref a22, .ref a23, .ref a24])), (a1, .inl (cI, 544, .inl xF0)), (a7, .inl (cI, 360, .inl xF6)), (a8, .inl (cI, 600, .inl xF7)), (a9, .inl (cI, 60, .inl xF8))] sz) := by
  refine kEnter (by decide) (Nat.le_of_ble_eq_true rfl) ?_
  intro p e s m below meth c ls hx hb hr hml hown hlocks hin hwd hsz hP hK hD hl
  subst hsz
  generalize hAe : va_A [(a0, .inr (12, [.int i0, .ref a1, .ref a2, .ref a3, .ref a4, .int i1, .ref a5, .int i2, .int i3, .int i4, .int i5, .int i6, .int i7, .int i8, .ref a6, .ref a7, .ref a8, .ref a9, .ref a10, .ref a11, .ref a12, .int i9, .ref a13, .int i10, .ref a14, .ref a15, .int i11, .ref a16, .ref a17, .ref a18, .ref a19, .int i12, .int i13, .int i14, .int i15, .int i16, .ref a20, .long j0, .ref a21, .ref a22, .ref a23, .ref a24])), (a1, .inl (cI, 544, .inl xF0)), (a7, .inl (cI, 360, .inl xF6)), (a8, .inl (cI, 600, .inl xF7)), (a9, .inl (cI, 60, .inl xF8))] s.heap.size = A at hD ⊢
  have hA : ∀ q : Nat, s.heap.size ≤ q → A q := fun q h => by rw [← hAe]; exact Or.inr h
  have hS : va_S A s.heap s.heap [] := va_S.rf
  have hl : lv_has ls 3 [(0, .ref a0), (1, .int p0), (2, .int p1)] := hl
  obtain ⟨Q, hQ⟩ : ∃ Q, Q = MQ below (va_Qi (fun (r : Int32) (u9 : (Nat → Int32) × (Nat → Nat → Int32) × (Nat → Nat → Int64)) => True) (fun u9 t => va_P (dC, dI) vwCl [(a0, .inr (12, [.int i0, .ref a1, .ref a2, .ref a3, .ref a4, .int i1, .ref a5, .int i2, .int i3, .int i4, .int i5, .int i6, .int i7, .int i8, .ref a6, .ref a7, .ref a8, .ref a9, .ref a10, .ref a11, .ref a12, .int i9, .ref a13, .int i10, .ref a14, .ref a15, .int i11, .ref a16, .ref a17, .ref a18, .ref a19, .int i12, .int i13, .int i14, .int i15, .int i16, .ref a20, .long j0, .ref a21, .ref a22, .ref a23, .ref a24])), (a1, .inl (cI, 544, .inl xF0)), (a7, .inl (cI, 360, .inl (u9.2.1 0))), (a8, .inl (cI, 600, .inl (u9.2.1 1))), (a9, .inl (cI, 60, .inl (u9.2.1 2)))] t.heap ∧ va_D A [(a0, .inr (12, [.int i0, .ref a1, .ref a2, .ref a3, .ref a4, .int i1, .ref a5, .int i2, .int i3, .int i4, .int i5, .int i6, .int i7, .int i8, .ref a6, .ref a7, .ref a8, .ref a9, .ref a10, .ref a11, .ref a12, .int i9, .ref a13, .int i10, .ref a14, .ref a15, .int i11, .ref a16, .ref a17, .ref a18, .ref a19, .int i12, .int i13, .int i14, .int i15, .int i16, .ref a20, .long j0, .ref a21, .ref a22, .ref a23, .ref a24])), (a1, .inl (cI, 544, .inl xF0)), (a7, .inl (cI, 360, .inl (u9.2.1 0))), (a8, .inl (cI, 600, .inl (u9.2.1 1))), (a9, .inl (cI, 60, .inl (u9.2.1 2)))]) A) ([.ref a0, .int p0, .int p1] : List Value).toArray s 0 0 A := ⟨_, rfl⟩
  rw [← hQ]
  have k0 : (0 : Int32).toInt = 0 := by decide
  have k1 : (1 : Int32).toInt = 1 := by decide
  have k2 : (2 : Int32).toInt = 2 := by decide
  have k3 : (3 : Int32).toInt = 3 := by decide
  have k4 : (4 : Int32).toInt = 4 := by decide
  have k5 : (5 : Int32).toInt = 5 := by decide
  have k9 : (9 : Int32).toInt = 9 := by decide
  have k10 : (10 : Int32).toInt = 10 := by decide
  have k11 : (11 : Int32).toInt = 11 := by decide
  have k17 : (17 : Int32).toInt = 17 := by decide
  have k18 : (18 : Int32).toInt = 18 := by decide
  have k21 : (21 : Int32).toInt = 21 := by decide
  have k60 : (60 : Int32).toInt = 60 := by decide
  have k274 : (274 : Int32).toInt = 274 := by decide
  refine lv_aload_n hx hb dX12_follower_0 rfl (lv_at hl 0 rfl) ?_
  refine lv_iload_n hx hb dX12_follower_1 rfl (lv_at hl 1 rfl) ?_
  have hPc := hP.sub (ws' := [(a0, .inr (12, [.int i0, .ref a1, .ref a2, .ref a3, .ref a4, .int i1, .ref a5, .int i2, .int i3, .int i4, .int i5, .int i6, .int i7, .int i8, .ref a6, .ref a7, .ref a8, .ref a9, .ref a10, .ref a11, .ref a12, .int i9, .ref a13, .int i10, .ref a14, .ref a15, .int i11, .ref a16, .ref a17, .ref a18, .ref a19, .int i12, .int i13, .int i14, .int i15, .int i16, .ref a20, .long j0, .ref a21, .ref a22, .ref a23, .ref a24])), (a1, .inl (cI, 544, .inl xF0))]) [0, 1] rfl
  have hDc := hD.sub (ws' := [(a0, .inr (12, [.int i0, .ref a1, .ref a2, .ref a3, .ref a4, .int i1, .ref a5, .int i2, .int i3, .int i4, .int i5, .int i6, .int i7, .int i8, .ref a6, .ref a7, .ref a8, .ref a9, .ref a10, .ref a11, .ref a12, .int i9, .ref a13, .int i10, .ref a14, .ref a15, .int i11, .ref a16, .ref a17, .ref a18, .ref a19, .int i12, .int i13, .int i14, .int i15, .int i16, .ref a20, .long j0, .ref a21, .ref a22, .ref a23, .ref a24])), (a1, .inl (cI, 544, .inl xF0))]) [0, 1] (by decide) rfl
  have hFc := va_free (wc := [(a0, .inr (12, [.int i0, .ref a1, .ref a2, .ref a3, .ref a4, .int i1, .ref a5, .int i2, .int i3, .int i4, .int i5, .int i6, .int i7, .int i8, .ref a6, .ref a7, .ref a8, .ref a9, .ref a10, .ref a11, .ref a12, .int i9, .ref a13, .int i10, .ref a14, .ref a15, .int i11, .ref a16, .ref a17, .ref a18, .ref a19, .int i12, .int i13, .int i14, .int i15, .int i16, .ref a20, .long j0, .ref a21, .ref a22, .ref a23, .ref a24])), (a1, .inl (cI, 544, .inl xF0))]) hD hS hA [0, 1] rfl
  refine va_calli (va_runV (As := [.int p0]) (rest := []) ⟨hx, hb, hml, hown, hwd⟩ (s_X12_isFollower l dC dI cI cZ cB cJ cM cG a0 a1 a2 a3 a4 a5 a6 a7 a8 a9 a10 a11 a12 a13 a14 a15 a16 a17 a18 a19 a20 a21 a22 a23 a24 i0 i1 i2 i3 i4 i5 i6 i7 i8 i9 i10 i11 i12 i13 i14 i15 i16 j0 xF0 p0 cp s.heap.size (show (0 : Int) ≤ i1.toInt ∧ i1.toInt ≤ 1600 from ⟨by omega, by omega⟩) (show (0 : Int) ≤ i2.toInt ∧ i2.toInt ≤ 1600 from ⟨by omega, by omega⟩) (show (0 : Int) ≤ i3.toInt ∧ i3.toInt ≤ 1600 from ⟨by omega, by omega⟩) (show (0 : Int) ≤ i4.toInt ∧ i4.toInt ≤ 1600 from ⟨by omega, by omega⟩) (show (0 : Int) ≤ i5.toInt ∧ i5.toInt ≤ 6 from ⟨by omega, by omega⟩) (show (0 : Int) ≤ i7.toInt ∧ i7.toInt ≤ 3 from ⟨by omega, by omega⟩) (show (0 : Int) ≤ i11.toInt ∧ i11.toInt ≤ 59 from ⟨by omega, by omega⟩) (show WI cp xF0 from p_7) p_8) (cwV 1 hwd (gV kr35_3 kr35_4 kr35_5 kr1_5 kr35_6) rfl rfl rfl (by decide +kernel) ⟨Nat.le_of_ble_eq_true rfl, Nat.le_of_ble_eq_true rfl⟩) (kPreV hPc hK hDc (ci := 12) (q0 := 0) rfl rfl) rfl rfl hl.1 rfl (lv_room (Nat.le_of_ble_eq_true rfl)) dX12_follower_2 ⟨Nat.le_of_ble_eq_true rfl, Nat.le_of_ble_eq_true rfl⟩) hS (fun q _ h => hFc q h) hFc (fun r1 u2 t H1 locs ht9 hvm hw hB hz1 hk1 hS => ?_)
  obtain ⟨hw3, hw4, -⟩ := hw
  have hw3 : (0 : Int) ≤ r1.toInt ∧ r1.toInt ≤ 1 := hw3
  obtain ⟨hP1, hD1⟩ := hB
  rw [ht9] at hP1
  obtain ⟨hP, hD⟩ := va_join (wr := [(a7, .inl (cI, 360, .inl xF6)), (a8, .inl (cI, 600, .inl xF7)), (a9, .inl (cI, 60, .inl xF8))]) (w1 := [(a0, .inr (12, [.int i0, .ref a1, .ref a2, .ref a3, .ref a4, .int i1, .ref a5, .int i2, .int i3, .int i4, .int i5, .int i6, .int i7, .int i8, .ref a6, .ref a7, .ref a8, .ref a9, .ref a10, .ref a11, .ref a12, .int i9, .ref a13, .int i10, .ref a14, .ref a15, .int i11, .ref a16, .ref a17, .ref a18, .ref a19, .int i12, .int i13, .int i14, .int i15, .int i16, .ref a20, .long j0, .ref a21, .ref a22, .ref a23, .ref a24])), (a1, .inl (cI, 544, .inl xF0))]) hP hD [0, 1] [2, 3, 4] rfl rfl (by decide) (by decide) hk1 hFc hP1 hD1
  generalize H1 = H at hP hS ⊢
  have hP : va_P (dC, dI) vwCl [(a7, .inl (cI, 360, .inl xF6)), (a8, .inl (cI, 600, .inl xF7)), (a9, .inl (cI, 60, .inl xF8)), (a0, .inr (12, [.int i0, .ref a1, .ref a2, .ref a3, .ref a4, .int i1, .ref a5, .int i2, .int i3, .int i4, .int i5, .int i6, .int i7, .int i8, .ref a6, .ref a7, .ref a8, .ref a9, .ref a10, .ref a11, .ref a12, .int i9, .ref a13, .int i10, .ref a14, .ref a15, .int i11, .ref a16, .ref a17, .ref a18, .ref a19, .int i12, .int i13, .int i14, .int i15, .int i16, .ref a20, .long j0, .ref a21, .ref a22, .ref a23, .ref a24])), (a1, .inl (cI, 544, .inl xF0))] H := hP
  have hD : va_D A [(a7, .inl (cI, 360, .inl xF6)), (a8, .inl (cI, 600, .inl xF7)), (a9, .inl (cI, 60, .inl xF8)), (a0, .inr (12, [.int i0, .ref a1, .ref a2, .ref a3, .ref a4, .int i1, .ref a5, .int i2, .int i3, .int i4, .int i5, .int i6, .int i7, .int i8, .ref a6, .ref a7, .ref a8, .ref a9, .ref a10, .ref a11, .ref a12, .int i9, .ref a13, .int i10, .ref a14, .ref a15, .int i11, .ref a16, .ref a17, .ref a18, .ref a19, .int i12, .int i13, .int i14, .int i15, .int i16, .ref a20, .long j0, .ref a21, .ref a22, .ref a23, .ref a24])), (a1, .inl (cI, 544, .inl xF0))] := hD
  refine lv_if_eq (tgt := 20) hx hb dX12_follower_5 (by decide) (fun c5 => ?_) (fun c5 => ?_)
  · rw [ki_eq] at c5
    refine lv_bipush (v := (-2)) hx hb dX12_follower_20 (by decide) ?_
    have hP9 := hP.sub (ws' := [(a0, .inr (12, [.int i0, .ref a1, .ref a2, .ref a3, .ref a4, .int i1, .ref a5, .int i2, .int i3, .int i4, .int i5, .int i6, .int i7, .int i8, .ref a6, .ref a7, .ref a8, .ref a9, .ref a10, .ref a11, .ref a12, .int i9, .ref a13, .int i10, .ref a14, .ref a15, .int i11, .ref a16, .ref a17, .ref a18, .ref a19, .int i12, .int i13, .int i14, .int i15, .int i16, .ref a20, .long j0, .ref a21, .ref a22, .ref a23, .ref a24])), (a1, .inl (cI, 544, .inl xF0)), (a7, .inl (cI, 360, .inl xF6)), (a8, .inl (cI, 600, .inl xF7)), (a9, .inl (cI, 60, .inl xF8))]) [3, 4, 0, 1, 2] rfl
    have hD9 := hD.sub (ws' := [(a0, .inr (12, [.int i0, .ref a1, .ref a2, .ref a3, .ref a4, .int i1, .ref a5, .int i2, .int i3, .int i4, .int i5, .int i6, .int i7, .int i8, .ref a6, .ref a7, .ref a8, .ref a9, .ref a10, .ref a11, .ref a12, .int i9, .ref a13, .int i10, .ref a14, .ref a15, .int i11, .ref a16, .ref a17, .ref a18, .ref a19, .int i12, .int i13, .int i14, .int i15, .int i16, .ref a20, .long j0, .ref a21, .ref a22, .ref a23, .ref a24])), (a1, .inl (cI, 544, .inl xF0)), (a7, .inl (cI, 360, .inl xF6)), (a8, .inl (cI, 600, .inl xF7)), (a9, .inl (cI, 60, .inl xF8))]) [3, 4, 0, 1, 2] (by decide) rfl
    rw [hQ]
    exact W.iret (v := (-2)) hx hb hr (fun t ht hW => ⟨⟨(-2), (pickG 0 [], pickG (fun _ => 0) [xF6, xF7, xF8], pickG (fun _ => 0) []), rfl, trivial, (by rw [ht]; exact hP9), hD9⟩, hS.F ht⟩) hS.2.2 dX12_follower_22
  · rw [ki_eq] at c5
    have hw4q := hw4 (by omega)
    clear hw4
    refine lv_iload_n hx hb dX12_follower_8 rfl (lv_at hl 2 rfl) ?_
    refine lv_i2l hx hb dX12_follower_9 rfl ?_
    refine lv_lconst (v := 0) hx hb dX12_follower_10 (by decide) ?_
    refine lv_ldc2 (v := 4) hx hb hown (hwd _ kr40_14) dX12_follower_11 ?_
    have hPc := hP.sub (ws' := []) [] rfl
    have hDc := hD.sub (ws' := []) [] (by decide) rfl
    have hFc := va_free (wc := []) hD hS hA [] rfl
    refine va_calli (va_runS (As := [.long p1.toInt64, .long 0, .long 4]) (rest := []) ⟨hx, hb, hml, hown, hwd⟩ (s_X12_in l dC dI cI cZ cB cJ cM cG p1.toInt64 0 4 H.size) (cwS 3 hwd (gS kr9_10 kr9_11 kr1_5 kr9_12) rfl rfl rfl (by decide +kernel) ⟨Nat.le_of_ble_eq_true rfl, Nat.le_of_ble_eq_true rfl⟩) (kPreS hPc hK hDc) rfl rfl hl.1 rfl (lv_room (Nat.le_of_ble_eq_true rfl)) dX12_follower_14 ⟨Nat.le_of_ble_eq_true rfl, Nat.le_of_ble_eq_true rfl⟩) hS (fun q _ h => hFc q h) hFc (fun r6 u7 t H1 locs ht9 hvm hw hB hz1 hk1 hS => ?_)
    obtain ⟨hw8, hw9, hw10, -⟩ := hw
    have hw8 : (0 : Int) ≤ r6.toInt ∧ r6.toInt ≤ 1 := hw8
    have hw9 : r6.toInt ≠ 0 → (0 : Int) ≤ p1.toInt ∧ p1.toInt ≤ (4 : Int) := in_int (Int32.toInt_toInt64 _) (by decide) (by decide) hw9
    have hw10 : r6.toInt ≠ 1 → p1.toInt < (0 : Int) ∨ (4 : Int) < p1.toInt := in_int2 (Int32.toInt_toInt64 _) (by decide) (by decide) hw10
    obtain ⟨hP1, hD1⟩ := hB
    rw [ht9] at hP1
    obtain ⟨hP, hD⟩ := va_join (wr := [(a7, .inl (cI, 360, .inl xF6)), (a8, .inl (cI, 600, .inl xF7)), (a9, .inl (cI, 60, .inl xF8)), (a0, .inr (12, [.int i0, .ref a1, .ref a2, .ref a3, .ref a4, .int i1, .ref a5, .int i2, .int i3, .int i4, .int i5, .int i6, .int i7, .int i8, .ref a6, .ref a7, .ref a8, .ref a9, .ref a10, .ref a11, .ref a12, .int i9, .ref a13, .int i10, .ref a14, .ref a15, .int i11, .ref a16, .ref a17, .ref a18, .ref a19, .int i12, .int i13, .int i14, .int i15, .int i16, .ref a20, .long j0, .ref a21, .ref a22, .ref a23, .ref a24])), (a1, .inl (cI, 544, .inl xF0))]) (w1 := []) hP hD [] [0, 1, 2, 3, 4] rfl rfl (by decide) (by decide) hk1 hFc hP1 hD1
    generalize H1 = H at hP hS ⊢
    have hP : va_P (dC, dI) vwCl [(a7, .inl (cI, 360, .inl xF6)), (a8, .inl (cI, 600, .inl xF7)), (a9, .inl (cI, 60, .inl xF8)), (a0, .inr (12, [.int i0, .ref a1, .ref a2, .ref a3, .ref a4, .int i1, .ref a5, .int i2, .int i3, .int i4, .int i5, .int i6, .int i7, .int i8, .ref a6, .ref a7, .ref a8, .ref a9, .ref a10, .ref a11, .ref a12, .int i9, .ref a13, .int i10, .ref a14, .ref a15, .int i11, .ref a16, .ref a17, .ref a18, .ref a19, .int i12, .int i13, .int i14, .int i15, .int i16, .ref a20, .long j0, .ref a21, .ref a22, .ref a23, .ref a24])), (a1, .inl (cI, 544, .inl xF0))] H := hP
    have hD : va_D A [(a7, .inl (cI, 360, .inl xF6)), (a8, .inl (cI, 600, .inl xF7)), (a9, .inl (cI, 60, .inl xF8)), (a0, .inr (12, [.int i0, .ref a1, .ref a2, .ref a3, .ref a4, .int i1, .ref a5, .int i2, .int i3, .int i4, .int i5, .int i6, .int i7, .int i8, .ref a6, .ref a7, .ref a8, .ref a9, .ref a10, .ref a11, .ref a12, .int i9, .ref a13, .int i10, .ref a14, .ref a15, .int i11, .ref a16, .ref a17, .ref a18, .ref a19, .int i12, .int i13, .int i14, .int i15, .int i16, .ref a20, .long j0, .ref a21, .ref a22, .ref a23, .ref a24])), (a1, .inl (cI, 544, .inl xF0))] := hD
    refine lv_if_ne (tgt := 23) hx hb dX12_follower_17 (by decide) (fun c11 => ?_) (fun c11 => ?_)
    · rw [ki_eq] at c11
      have hw9q := hw9 (by omega)
      clear hw9
      refine lv_iload_n hx hb dX12_follower_23 rfl (lv_at hl 2 rfl) ?_
      refine lv_if_ne (tgt := 33) hx hb dX12_follower_24 (by decide) (fun c12 => ?_) (fun c12 => ?_)
      · rw [ki_eq] at c12
        refine lv_iload_n hx hb dX12_follower_33 rfl (lv_at hl 2 rfl) ?_
        refine lv_iconst (v := 1) hx hb dX12_follower_34 (by decide) ?_
        refine lv_icmp_ne (tgt := 74) hx hb dX12_follower_35 (by decide) (fun c13 => ?_) (fun c13 => ?_)
        · rw [ki_eq] at c13
          refine lv_aload_n hx hb dX12_follower_74 rfl (lv_at hl 0 rfl) ?_
          have hPc := hP.sub (ws' := [(a0, .inr (12, [.int i0, .ref a1, .ref a2, .ref a3, .ref a4, .int i1, .ref a5, .int i2, .int i3, .int i4, .int i5, .int i6, .int i7, .int i8, .ref a6, .ref a7, .ref a8, .ref a9, .ref a10, .ref a11, .ref a12, .int i9, .ref a13, .int i10, .ref a14, .ref a15, .int i11, .ref a16, .ref a17, .ref a18, .ref a19, .int i12, .int i13, .int i14, .int i15, .int i16, .ref a20, .long j0, .ref a21, .ref a22, .ref a23, .ref a24])), (a1, .inl (cI, 544, .inl xF0)), (a7, .inl (cI, 360, .inl xF6)), (a8, .inl (cI, 600, .inl xF7)), (a9, .inl (cI, 60, .inl xF8))]) [3, 4, 0, 1, 2] rfl
          have hDc := hD.sub (ws' := [(a0, .inr (12, [.int i0, .ref a1, .ref a2, .ref a3, .ref a4, .int i1, .ref a5, .int i2, .int i3, .int i4, .int i5, .int i6, .int i7, .int i8, .ref a6, .ref a7, .ref a8, .ref a9, .ref a10, .ref a11, .ref a12, .int i9, .ref a13, .int i10, .ref a14, .ref a15, .int i11, .ref a16, .ref a17, .ref a18, .ref a19, .int i12, .int i13, .int i14, .int i15, .int i16, .ref a20, .long j0, .ref a21, .ref a22, .ref a23, .ref a24])), (a1, .inl (cI, 544, .inl xF0)), (a7, .inl (cI, 360, .inl xF6)), (a8, .inl (cI, 600, .inl xF7)), (a9, .inl (cI, 60, .inl xF8))]) [3, 4, 0, 1, 2] (by decide) rfl
          have hFc := va_free (wc := [(a0, .inr (12, [.int i0, .ref a1, .ref a2, .ref a3, .ref a4, .int i1, .ref a5, .int i2, .int i3, .int i4, .int i5, .int i6, .int i7, .int i8, .ref a6, .ref a7, .ref a8, .ref a9, .ref a10, .ref a11, .ref a12, .int i9, .ref a13, .int i10, .ref a14, .ref a15, .int i11, .ref a16, .ref a17, .ref a18, .ref a19, .int i12, .int i13, .int i14, .int i15, .int i16, .ref a20, .long j0, .ref a21, .ref a22, .ref a23, .ref a24])), (a1, .inl (cI, 544, .inl xF0)), (a7, .inl (cI, 360, .inl xF6)), (a8, .inl (cI, 600, .inl xF7)), (a9, .inl (cI, 60, .inl xF8))]) hD hS hA [3, 4, 0, 1, 2] rfl
          refine va_callv (va_runV (As := []) (rest := []) ⟨hx, hb, hml, hown, hwd⟩ (s_X12_fillLifts l dC dI cI cZ cB cJ cM cG a0 a1 a2 a3 a4 a5 a6 a7 a8 a9 a10 a11 a12 a13 a14 a15 a16 a17 a18 a19 a20 a21 a22 a23 a24 i0 i1 i2 i3 i4 i5 i6 i7 i8 i9 i10 i11 i12 i13 i14 i15 i16 j0 xF0 xF6 xF7 xF8 cp H.size (show (0 : Int) ≤ i1.toInt ∧ i1.toInt ≤ 1600 from ⟨by omega, by omega⟩) (show (0 : Int) ≤ i2.toInt ∧ i2.toInt ≤ 1600 from ⟨by omega, by omega⟩) (show (0 : Int) ≤ i3.toInt ∧ i3.toInt ≤ 1600 from ⟨by omega, by omega⟩) (show (0 : Int) ≤ i4.toInt ∧ i4.toInt ≤ 1600 from ⟨by omega, by omega⟩) (show (0 : Int) ≤ i5.toInt ∧ i5.toInt ≤ 6 from ⟨by omega, by omega⟩) (show (0 : Int) ≤ i7.toInt ∧ i7.toInt ≤ 3 from ⟨by omega, by omega⟩) (show (0 : Int) ≤ i11.toInt ∧ i11.toInt ≤ 59 from ⟨by omega, by omega⟩) (show WI cp xF0 from p_7) p_8) (cwV 0 hwd (gV kr26_17 kr26_18 kr26_19 kr1_5 kr26_20) rfl rfl rfl (by decide +kernel) ⟨Nat.le_of_ble_eq_true rfl, Nat.le_of_ble_eq_true rfl⟩) (kPreV hPc hK hDc (ci := 12) (q0 := 0) rfl rfl) rfl rfl hl.1 rfl (lv_room (Nat.le_of_ble_eq_true rfl)) dX12_follower_75 ⟨Nat.le_of_ble_eq_true rfl, Nat.le_of_ble_eq_true rfl⟩) hS (fun q _ h => hFc q h) hFc (fun u15 t H1 locs ht9 hvm hw hB hz1 hk1 hS => ?_)
          obtain ⟨u16, U16, V16⟩ := u15
          obtain ⟨hP1, hD1⟩ := hB
          rw [ht9] at hP1
          obtain ⟨hP, hD⟩ := va_join (wr := []) (w1 := [(a0, .inr (12, [.int i0, .ref a1, .ref a2, .ref a3, .ref a4, .int i1, .ref a5, .int i2, .int i3, .int i4, .int i5, .int i6, .int i7, .int i8, .ref a6, .ref a7, .ref a8, .ref a9, .ref a10, .ref a11, .ref a12, .int i9, .ref a13, .int i10, .ref a14, .ref a15, .int i11, .ref a16, .ref a17, .ref a18, .ref a19, .int i12, .int i13, .int i14, .int i15, .int i16, .ref a20, .long j0, .ref a21, .ref a22, .ref a23, .ref a24])), (a1, .inl (cI, 544, .inl xF0)), (a7, .inl (cI, 360, .inl (U16 0))), (a8, .inl (cI, 600, .inl (U16 1))), (a9, .inl (cI, 60, .inl (U16 2)))]) hP hD [3, 4, 0, 1, 2] [] rfl rfl (by decide) (by decide) hk1 hFc hP1 hD1
          generalize H1 = H at hP hS ⊢
          have hP : va_P (dC, dI) vwCl [(a0, .inr (12, [.int i0, .ref a1, .ref a2, .ref a3, .ref a4, .int i1, .ref a5, .int i2, .int i3, .int i4, .int i5, .int i6, .int i7, .int i8, .ref a6, .ref a7, .ref a8, .ref a9, .ref a10, .ref a11, .ref a12, .int i9, .ref a13, .int i10, .ref a14, .ref a15, .int i11, .ref a16, .ref a17, .ref a18, .ref a19, .int i12, .int i13, .int i14, .int i15, .int i16, .ref a20, .long j0, .ref a21, .ref a22, .ref a23, .ref a24])), (a1, .inl (cI, 544, .inl xF0)), (a7, .inl (cI, 360, .inl (U16 0))), (a8, .inl (cI, 600, .inl (U16 1))), (a9, .inl (cI, 60, .inl (U16 2)))] H := hP
          have hD : va_D A [(a0, .inr (12, [.int i0, .ref a1, .ref a2, .ref a3, .ref a4, .int i1, .ref a5, .int i2, .int i3, .int i4, .int i5, .int i6, .int i7, .int i8, .ref a6, .ref a7, .ref a8, .ref a9, .ref a10, .ref a11, .ref a12, .int i9, .ref a13, .int i10, .ref a14, .ref a15, .int i11, .ref a16, .ref a17, .ref a18, .ref a19, .int i12, .int i13, .int i14, .int i15, .int i16, .ref a20, .long j0, .ref a21, .ref a22, .ref a23, .ref a24])), (a1, .inl (cI, 544, .inl xF0)), (a7, .inl (cI, 360, .inl (U16 0))), (a8, .inl (cI, 600, .inl (U16 1))), (a9, .inl (cI, 60, .inl (U16 2)))] := hD
          refine lv_iload_n hx hb dX12_follower_78 rfl (lv_at hl 2 rfl) ?_
          refine lv_iconst (v := 2) hx hb dX12_follower_79 (by decide) ?_
          refine lv_icmp_ne (tgt := 107) hx hb dX12_follower_80 (by decide) (fun c17 => ?_) (fun c17 => ?_)
          · rw [ki_eq] at c17
            refine lv_iload_n hx hb dX12_follower_107 rfl (lv_at hl 2 rfl) ?_
            refine lv_iconst (v := 3) hx hb dX12_follower_108 (by decide) ?_
            refine lv_icmp_ne (tgt := 121) hx hb dX12_follower_109 (by decide) (fun c18 => ?_) (fun c18 => ?_)
            · rw [ki_eq] at c18
              refine lv_aload_n hx hb dX12_follower_121 rfl (lv_at hl 0 rfl) ?_
              refine va_get (D := (dC, dI)) (ci := 12) (v := .ref a1) (C := RX12) (T := TX12) (N := 42) hx hb hwd inlX12 hown hK hP 0 rfl rfl 1 (by decide) (hwd _ kr7_3) (fun _ h9 => h9) rfl dX12_follower_122 ?_
              refine lv_bipush (v := 17) hx hb dX12_follower_125 (by decide) ?_
              have h19 : vp_in (17 : Int32) 544 := (vin (by decide))
              refine va_iald hx hb hK hP 1 0 rfl rfl h19 dX12_follower_127 ?_
              refine lv_topi (fun x20 ex20 => ?_)
              have ix20 := wat_lit (k := 17) ex20 (by decide)
              have wh21 : whd cp xF0 := p_7.1
              unfold whd at wh21
              refine lv_iload_n hx hb dX12_follower_128 rfl (lv_at hl 1 rfl) ?_
              refine lv_icmp_ne (tgt := 136) hx hb dX12_follower_129 (by decide) (fun c22 => ?_) (fun c22 => ?_)
              · rw [ki_eq] at c22
                refine lv_iconst (v := 0) hx hb dX12_follower_136 (by decide) ?_
                have hP9 := hP.sub (ws' := [(a0, .inr (12, [.int i0, .ref a1, .ref a2, .ref a3, .ref a4, .int i1, .ref a5, .int i2, .int i3, .int i4, .int i5, .int i6, .int i7, .int i8, .ref a6, .ref a7, .ref a8, .ref a9, .ref a10, .ref a11, .ref a12, .int i9, .ref a13, .int i10, .ref a14, .ref a15, .int i11, .ref a16, .ref a17, .ref a18, .ref a19, .int i12, .int i13, .int i14, .int i15, .int i16, .ref a20, .long j0, .ref a21, .ref a22, .ref a23, .ref a24])), (a1, .inl (cI, 544, .inl xF0)), (a7, .inl (cI, 360, .inl (U16 0))), (a8, .inl (cI, 600, .inl (U16 1))), (a9, .inl (cI, 60, .inl (U16 2)))]) [0, 1, 2, 3, 4] rfl
                have hD9 := hD.sub (ws' := [(a0, .inr (12, [.int i0, .ref a1, .ref a2, .ref a3, .ref a4, .int i1, .ref a5, .int i2, .int i3, .int i4, .int i5, .int i6, .int i7, .int i8, .ref a6, .ref a7, .ref a8, .ref a9, .ref a10, .ref a11, .ref a12, .int i9, .ref a13, .int i10, .ref a14, .ref a15, .int i11, .ref a16, .ref a17, .ref a18, .ref a19, .int i12, .int i13, .int i14, .int i15, .int i16, .ref a20, .long j0, .ref a21, .ref a22, .ref a23, .ref a24])), (a1, .inl (cI, 544, .inl xF0)), (a7, .inl (cI, 360, .inl (U16 0))), (a8, .inl (cI, 600, .inl (U16 1))), (a9, .inl (cI, 60, .inl (U16 2)))]) [0, 1, 2, 3, 4] (by decide) rfl
                rw [hQ]
                exact W.iret (v := 0) hx hb hr (fun t ht hW => ⟨⟨0, (pickG 0 [], pickG (fun _ => 0) [(U16 0), (U16 1), (U16 2)], pickG (fun _ => 0) []), rfl, trivial, (by rw [ht]; exact hP9), hD9⟩, hS.F ht⟩) hS.2.2 dX12_follower_137
              · rw [ki_eq] at c22
                refine lv_iconst (v := 1) hx hb dX12_follower_132 (by decide) ?_
                refine lv_goto (tgt := 137) hx hb dX12_follower_133 (by decide) ?_
                have hP9 := hP.sub (ws' := [(a0, .inr (12, [.int i0, .ref a1, .ref a2, .ref a3, .ref a4, .int i1, .ref a5, .int i2, .int i3, .int i4, .int i5, .int i6, .int i7, .int i8, .ref a6, .ref a7, .ref a8, .ref a9, .ref a10, .ref a11, .ref a12, .int i9, .ref a13, .int i10, .ref a14, .ref a15, .int i11, .ref a16, .ref a17, .ref a18, .ref a19, .int i12, .int i13, .int i14, .int i15, .int i16, .ref a20, .long j0, .ref a21, .ref a22, .ref a23, .ref a24])), (a1, .inl (cI, 544, .inl xF0)), (a7, .inl (cI, 360, .inl (U16 0))), (a8, .inl (cI, 600, .inl (U16 1))), (a9, .inl (cI, 60, .inl (U16 2)))]) [0, 1, 2, 3, 4] rfl
                have hD9 := hD.sub (ws' := [(a0, .inr (12, [.int i0, .ref a1, .ref a2, .ref a3, .ref a4, .int i1, .ref a5, .int i2, .int i3, .int i4, .int i5, .int i6, .int i7, .int i8, .ref a6, .ref a7, .ref a8, .ref a9, .ref a10, .ref a11, .ref a12, .int i9, .ref a13, .int i10, .ref a14, .ref a15, .int i11, .ref a16, .ref a17, .ref a18, .ref a19, .int i12, .int i13, .int i14, .int i15, .int i16, .ref a20, .long j0, .ref a21, .ref a22, .ref a23, .ref a24])), (a1, .inl (cI, 544, .inl xF0)), (a7, .inl (cI, 360, .inl (U16 0))), (a8, .inl (cI, 600, .inl (U16 1))), (a9, .inl (cI, 60, .inl (U16 2)))]) [0, 1, 2, 3, 4] (by decide) rfl
                rw [hQ]
                exact W.iret (v := 1) hx hb hr (fun t ht hW => ⟨⟨1, (pickG 0 [], pickG (fun _ => 0) [(U16 0), (U16 1), (U16 2)], pickG (fun _ => 0) []), rfl, trivial, (by rw [ht]; exact hP9), hD9⟩, hS.F ht⟩) hS.2.2 dX12_follower_137
            · rw [ki_eq] at c18
              refine lv_aload_n hx hb dX12_follower_112 rfl (lv_at hl 0 rfl) ?_
              refine lv_iload_n hx hb dX12_follower_113 rfl (lv_at hl 1 rfl) ?_
              refine lv_iconst (v := 0) hx hb dX12_follower_114 (by decide) ?_
              have hPc := hP.sub (ws' := [(a0, .inr (12, [.int i0, .ref a1, .ref a2, .ref a3, .ref a4, .int i1, .ref a5, .int i2, .int i3, .int i4, .int i5, .int i6, .int i7, .int i8, .ref a6, .ref a7, .ref a8, .ref a9, .ref a10, .ref a11, .ref a12, .int i9, .ref a13, .int i10, .ref a14, .ref a15, .int i11, .ref a16, .ref a17, .ref a18, .ref a19, .int i12, .int i13, .int i14, .int i15, .int i16, .ref a20, .long j0, .ref a21, .ref a22, .ref a23, .ref a24])), (a1, .inl (cI, 544, .inl xF0))]) [0, 1] rfl
              have hDc := hD.sub (ws' := [(a0, .inr (12, [.int i0, .ref a1, .ref a2, .ref a3, .ref a4, .int i1, .ref a5, .int i2, .int i3, .int i4, .int i5, .int i6, .int i7, .int i8, .ref a6, .ref a7, .ref a8, .ref a9, .ref a10, .ref a11, .ref a12, .int i9, .ref a13, .int i10, .ref a14, .ref a15, .int i11, .ref a16, .ref a17, .ref a18, .ref a19, .int i12, .int i13, .int i14, .int i15, .int i16, .ref a20, .long j0, .ref a21, .ref a22, .ref a23, .ref a24])), (a1, .inl (cI, 544, .inl xF0))]) [0, 1] (by decide) rfl
              have hFc := va_free (wc := [(a0, .inr (12, [.int i0, .ref a1, .ref a2, .ref a3, .ref a4, .int i1, .ref a5, .int i2, .int i3, .int i4, .int i5, .int i6, .int i7, .int i8, .ref a6, .ref a7, .ref a8, .ref a9, .ref a10, .ref a11, .ref a12, .int i9, .ref a13, .int i10, .ref a14, .ref a15, .int i11, .ref a16, .ref a17, .ref a18, .ref a19, .int i12, .int i13, .int i14, .int i15, .int i16, .ref a20, .long j0, .ref a21, .ref a22, .ref a23, .ref a24])), (a1, .inl (cI, 544, .inl xF0))]) hD hS hA [0, 1] rfl
              refine va_calli (va_runV (As := [.int p0, .int 0]) (rest := []) ⟨hx, hb, hml, hown, hwd⟩ (s_X12_of l dC dI cI cZ cB cJ cM cG a0 a1 a2 a3 a4 a5 a6 a7 a8 a9 a10 a11 a12 a13 a14 a15 a16 a17 a18 a19 a20 a21 a22 a23 a24 i0 i1 i2 i3 i4 i5 i6 i7 i8 i9 i10 i11 i12 i13 i14 i15 i16 j0 xF0 p0 0 cp H.size (show (0 : Int) ≤ i1.toInt ∧ i1.toInt ≤ 1600 from ⟨by omega, by omega⟩) (show (0 : Int) ≤ i2.toInt ∧ i2.toInt ≤ 1600 from ⟨by omega, by omega⟩) (show (0 : Int) ≤ i3.toInt ∧ i3.toInt ≤ 1600 from ⟨by omega, by omega⟩) (show (0 : Int) ≤ i4.toInt ∧ i4.toInt ≤ 1600 from ⟨by omega, by omega⟩) (show (0 : Int) ≤ i5.toInt ∧ i5.toInt ≤ 6 from ⟨by omega, by omega⟩) (show (0 : Int) ≤ i7.toInt ∧ i7.toInt ≤ 3 from ⟨by omega, by omega⟩) (show (0 : Int) ≤ i11.toInt ∧ i11.toInt ≤ 59 from ⟨by omega, by omega⟩) (show WI cp xF0 from p_7) (show (0 : Int) ≤ p0.toInt ∧ p0.toInt ≤ 9 from ⟨by omega, by omega⟩) (show (0 : Int) ≤ (0 : Int32).toInt ∧ (0 : Int32).toInt ≤ 5 from ⟨by omega, by omega⟩) p_8) (cwV 2 hwd (gV kr27_18 kr27_19 kr27_20 kr1_5 kr27_21) rfl rfl rfl (by decide +kernel) ⟨Nat.le_of_ble_eq_true rfl, Nat.le_of_ble_eq_true rfl⟩) (kPreV hPc hK hDc (ci := 12) (q0 := 0) rfl rfl) rfl rfl hl.1 rfl (lv_room (Nat.le_of_ble_eq_true rfl)) dX12_follower_115 ⟨Nat.le_of_ble_eq_true rfl, Nat.le_of_ble_eq_true rfl⟩) hS (fun q _ h => hFc q h) hFc (fun r23 u24 t H1 locs ht9 hvm hw hB hz1 hk1 hS => ?_)
              obtain ⟨hw25, -⟩ := hw
              have hw25 : r23.toInt = wfo xF0 0 p0.toInt := hw25
              have wf26 := p_7.2.2.1 p0.toInt (by omega) (by omega)
              unfold wfl at wf26
              obtain ⟨hP1, hD1⟩ := hB
              rw [ht9] at hP1
              obtain ⟨hP, hD⟩ := va_join (wr := [(a7, .inl (cI, 360, .inl (U16 0))), (a8, .inl (cI, 600, .inl (U16 1))), (a9, .inl (cI, 60, .inl (U16 2)))]) (w1 := [(a0, .inr (12, [.int i0, .ref a1, .ref a2, .ref a3, .ref a4, .int i1, .ref a5, .int i2, .int i3, .int i4, .int i5, .int i6, .int i7, .int i8, .ref a6, .ref a7, .ref a8, .ref a9, .ref a10, .ref a11, .ref a12, .int i9, .ref a13, .int i10, .ref a14, .ref a15, .int i11, .ref a16, .ref a17, .ref a18, .ref a19, .int i12, .int i13, .int i14, .int i15, .int i16, .ref a20, .long j0, .ref a21, .ref a22, .ref a23, .ref a24])), (a1, .inl (cI, 544, .inl xF0))]) hP hD [0, 1] [2, 3, 4] rfl rfl (by decide) (by decide) hk1 hFc hP1 hD1
              generalize H1 = H at hP hS ⊢
              have hP : va_P (dC, dI) vwCl [(a7, .inl (cI, 360, .inl (U16 0))), (a8, .inl (cI, 600, .inl (U16 1))), (a9, .inl (cI, 60, .inl (U16 2))), (a0, .inr (12, [.int i0, .ref a1, .ref a2, .ref a3, .ref a4, .int i1, .ref a5, .int i2, .int i3, .int i4, .int i5, .int i6, .int i7, .int i8, .ref a6, .ref a7, .ref a8, .ref a9, .ref a10, .ref a11, .ref a12, .int i9, .ref a13, .int i10, .ref a14, .ref a15, .int i11, .ref a16, .ref a17, .ref a18, .ref a19, .int i12, .int i13, .int i14, .int i15, .int i16, .ref a20, .long j0, .ref a21, .ref a22, .ref a23, .ref a24])), (a1, .inl (cI, 544, .inl xF0))] H := hP
              have hD : va_D A [(a7, .inl (cI, 360, .inl (U16 0))), (a8, .inl (cI, 600, .inl (U16 1))), (a9, .inl (cI, 60, .inl (U16 2))), (a0, .inr (12, [.int i0, .ref a1, .ref a2, .ref a3, .ref a4, .int i1, .ref a5, .int i2, .int i3, .int i4, .int i5, .int i6, .int i7, .int i8, .ref a6, .ref a7, .ref a8, .ref a9, .ref a10, .ref a11, .ref a12, .int i9, .ref a13, .int i10, .ref a14, .ref a15, .int i11, .ref a16, .ref a17, .ref a18, .ref a19, .int i12, .int i13, .int i14, .int i15, .int i16, .ref a20, .long j0, .ref a21, .ref a22, .ref a23, .ref a24])), (a1, .inl (cI, 544, .inl xF0))] := hD
              refine lv_goto (tgt := 137) hx hb dX12_follower_118 (by decide) ?_
              have hP9 := hP.sub (ws' := [(a0, .inr (12, [.int i0, .ref a1, .ref a2, .ref a3, .ref a4, .int i1, .ref a5, .int i2, .int i3, .int i4, .int i5, .int i6, .int i7, .int i8, .ref a6, .ref a7, .ref a8, .ref a9, .ref a10, .ref a11, .ref a12, .int i9, .ref a13, .int i10, .ref a14, .ref a15, .int i11, .ref a16, .ref a17, .ref a18, .ref a19, .int i12, .int i13, .int i14, .int i15, .int i16, .ref a20, .long j0, .ref a21, .ref a22, .ref a23, .ref a24])), (a1, .inl (cI, 544, .inl xF0)), (a7, .inl (cI, 360, .inl (U16 0))), (a8, .inl (cI, 600, .inl (U16 1))), (a9, .inl (cI, 60, .inl (U16 2)))]) [3, 4, 0, 1, 2] rfl
              have hD9 := hD.sub (ws' := [(a0, .inr (12, [.int i0, .ref a1, .ref a2, .ref a3, .ref a4, .int i1, .ref a5, .int i2, .int i3, .int i4, .int i5, .int i6, .int i7, .int i8, .ref a6, .ref a7, .ref a8, .ref a9, .ref a10, .ref a11, .ref a12, .int i9, .ref a13, .int i10, .ref a14, .ref a15, .int i11, .ref a16, .ref a17, .ref a18, .ref a19, .int i12, .int i13, .int i14, .int i15, .int i16, .ref a20, .long j0, .ref a21, .ref a22, .ref a23, .ref a24])), (a1, .inl (cI, 544, .inl xF0)), (a7, .inl (cI, 360, .inl (U16 0))), (a8, .inl (cI, 600, .inl (U16 1))), (a9, .inl (cI, 60, .inl (U16 2)))]) [3, 4, 0, 1, 2] (by decide) rfl
              rw [hQ]
              exact W.iret (v := r23) hx hb hr (fun t ht hW => ⟨⟨r23, (pickG 0 [], pickG (fun _ => 0) [(U16 0), (U16 1), (U16 2)], pickG (fun _ => 0) []), rfl, trivial, (by rw [ht]; exact hP9), hD9⟩, hS.F ht⟩) hS.2.2 dX12_follower_137
          · rw [ki_eq] at c17
            refine lv_aload_n hx hb dX12_follower_83 rfl (lv_at hl 0 rfl) ?_
            refine va_get (D := (dC, dI)) (ci := 12) (v := .ref a8) (C := RX12) (T := TX12) (N := 42) hx hb hwd inlX12 hown hK hP 0 rfl rfl 16 (by decide) (hwd _ kr7_11) (fun _ h9 => h9) rfl dX12_follower_84 ?_
            refine lv_bipush (v := 60) hx hb dX12_follower_87 (by decide) ?_
            refine lv_iload_n hx hb dX12_follower_89 rfl (lv_at hl 1 rfl) ?_
            refine lv_imul hx hb dX12_follower_90 ?_
            refine lv_topi (fun x27 ex27 => ?_)
            have tx27 := ia_mull (a := (60 : Int32)) (b := p0) 60 (by decide) (by omega) (by omega)
            rw [← ex27] at tx27
            refine lv_aload_n hx hb dX12_follower_91 rfl (lv_at hl 0 rfl) ?_
            refine lv_aload_n hx hb dX12_follower_92 rfl (lv_at hl 0 rfl) ?_
            refine va_get (D := (dC, dI)) (ci := 12) (v := .ref a1) (C := RX12) (T := TX12) (N := 42) hx hb hwd inlX12 hown hK hP 0 rfl rfl 1 (by decide) (hwd _ kr7_3) (fun _ h9 => h9) rfl dX12_follower_93 ?_
            refine lv_bipush (v := 11) hx hb dX12_follower_96 (by decide) ?_
            have h28 : vp_in (11 : Int32) 544 := (vin (by decide))
            refine va_iald hx hb hK hP 1 0 rfl rfl h28 dX12_follower_98 ?_
            refine lv_topi (fun x29 ex29 => ?_)
            have ix29 := wat_lit (k := 11) ex29 (by decide)
            have wh30 : whd cp xF0 := p_7.1
            unfold whd at wh30
            have hPc := hP.sub (ws' := [(a0, .inr (12, [.int i0, .ref a1, .ref a2, .ref a3, .ref a4, .int i1, .ref a5, .int i2, .int i3, .int i4, .int i5, .int i6, .int i7, .int i8, .ref a6, .ref a7, .ref a8, .ref a9, .ref a10, .ref a11, .ref a12, .int i9, .ref a13, .int i10, .ref a14, .ref a15, .int i11, .ref a16, .ref a17, .ref a18, .ref a19, .int i12, .int i13, .int i14, .int i15, .int i16, .ref a20, .long j0, .ref a21, .ref a22, .ref a23, .ref a24])), (a1, .inl (cI, 544, .inl xF0))]) [0, 1] rfl
            have hDc := hD.sub (ws' := [(a0, .inr (12, [.int i0, .ref a1, .ref a2, .ref a3, .ref a4, .int i1, .ref a5, .int i2, .int i3, .int i4, .int i5, .int i6, .int i7, .int i8, .ref a6, .ref a7, .ref a8, .ref a9, .ref a10, .ref a11, .ref a12, .int i9, .ref a13, .int i10, .ref a14, .ref a15, .int i11, .ref a16, .ref a17, .ref a18, .ref a19, .int i12, .int i13, .int i14, .int i15, .int i16, .ref a20, .long j0, .ref a21, .ref a22, .ref a23, .ref a24])), (a1, .inl (cI, 544, .inl xF0))]) [0, 1] (by decide) rfl
            have hFc := va_free (wc := [(a0, .inr (12, [.int i0, .ref a1, .ref a2, .ref a3, .ref a4, .int i1, .ref a5, .int i2, .int i3, .int i4, .int i5, .int i6, .int i7, .int i8, .ref a6, .ref a7, .ref a8, .ref a9, .ref a10, .ref a11, .ref a12, .int i9, .ref a13, .int i10, .ref a14, .ref a15, .int i11, .ref a16, .ref a17, .ref a18, .ref a19, .int i12, .int i13, .int i14, .int i15, .int i16, .ref a20, .long j0, .ref a21, .ref a22, .ref a23, .ref a24])), (a1, .inl (cI, 544, .inl xF0))]) hD hS hA [0, 1] rfl
            refine va_calli (va_runV (As := [.int x29]) (rest := [.int x27, .ref a8]) ⟨hx, hb, hml, hown, hwd⟩ (s_X12_round l dC dI cI cZ cB cJ cM cG a0 a1 a2 a3 a4 a5 a6 a7 a8 a9 a10 a11 a12 a13 a14 a15 a16 a17 a18 a19 a20 a21 a22 a23 a24 i0 i1 i2 i3 i4 i5 i6 i7 i8 i9 i10 i11 i12 i13 i14 i15 i16 j0 xF0 x29 cp H.size (show (0 : Int) ≤ i1.toInt ∧ i1.toInt ≤ 1600 from ⟨by omega, by omega⟩) (show (0 : Int) ≤ i2.toInt ∧ i2.toInt ≤ 1600 from ⟨by omega, by omega⟩) (show (0 : Int) ≤ i3.toInt ∧ i3.toInt ≤ 1600 from ⟨by omega, by omega⟩) (show (0 : Int) ≤ i4.toInt ∧ i4.toInt ≤ 1600 from ⟨by omega, by omega⟩) (show (0 : Int) ≤ i5.toInt ∧ i5.toInt ≤ 6 from ⟨by omega, by omega⟩) (show (0 : Int) ≤ i7.toInt ∧ i7.toInt ≤ 3 from ⟨by omega, by omega⟩) (show (0 : Int) ≤ i11.toInt ∧ i11.toInt ≤ 59 from ⟨by omega, by omega⟩) (show WI cp xF0 from p_7) (by omega) p_8) (cwV 1 hwd (gV kr27_14 kr27_15 kr27_16 kr1_5 kr27_17) rfl rfl rfl (by decide +kernel) ⟨Nat.le_of_ble_eq_true rfl, Nat.le_of_ble_eq_true rfl⟩) (kPreV hPc hK hDc (ci := 12) (q0 := 0) rfl rfl) rfl rfl hl.1 rfl (lv_room (Nat.le_of_ble_eq_true rfl)) dX12_follower_99 ⟨Nat.le_of_ble_eq_true rfl, Nat.le_of_ble_eq_true rfl⟩) hS (fun q _ h => hFc q h) hFc (fun r31 u32 t H1 locs ht9 hvm hw hB hz1 hk1 hS => ?_)
            obtain ⟨hw33, -⟩ := hw
            have hw33 : 0 ≤ r31.toInt ∧ r31.toInt < wat xF0 1 ∧ r31.toInt ≤ 59 := hw33
            obtain ⟨hP1, hD1⟩ := hB
            rw [ht9] at hP1
            obtain ⟨hP, hD⟩ := va_join (wr := [(a7, .inl (cI, 360, .inl (U16 0))), (a8, .inl (cI, 600, .inl (U16 1))), (a9, .inl (cI, 60, .inl (U16 2)))]) (w1 := [(a0, .inr (12, [.int i0, .ref a1, .ref a2, .ref a3, .ref a4, .int i1, .ref a5, .int i2, .int i3, .int i4, .int i5, .int i6, .int i7, .int i8, .ref a6, .ref a7, .ref a8, .ref a9, .ref a10, .ref a11, .ref a12, .int i9, .ref a13, .int i10, .ref a14, .ref a15, .int i11, .ref a16, .ref a17, .ref a18, .ref a19, .int i12, .int i13, .int i14, .int i15, .int i16, .ref a20, .long j0, .ref a21, .ref a22, .ref a23, .ref a24])), (a1, .inl (cI, 544, .inl xF0))]) hP hD [0, 1] [2, 3, 4] rfl rfl (by decide) (by decide) hk1 hFc hP1 hD1
            generalize H1 = H at hP hS ⊢
            have hP : va_P (dC, dI) vwCl [(a7, .inl (cI, 360, .inl (U16 0))), (a8, .inl (cI, 600, .inl (U16 1))), (a9, .inl (cI, 60, .inl (U16 2))), (a0, .inr (12, [.int i0, .ref a1, .ref a2, .ref a3, .ref a4, .int i1, .ref a5, .int i2, .int i3, .int i4, .int i5, .int i6, .int i7, .int i8, .ref a6, .ref a7, .ref a8, .ref a9, .ref a10, .ref a11, .ref a12, .int i9, .ref a13, .int i10, .ref a14, .ref a15, .int i11, .ref a16, .ref a17, .ref a18, .ref a19, .int i12, .int i13, .int i14, .int i15, .int i16, .ref a20, .long j0, .ref a21, .ref a22, .ref a23, .ref a24])), (a1, .inl (cI, 544, .inl xF0))] H := hP
            have hD : va_D A [(a7, .inl (cI, 360, .inl (U16 0))), (a8, .inl (cI, 600, .inl (U16 1))), (a9, .inl (cI, 60, .inl (U16 2))), (a0, .inr (12, [.int i0, .ref a1, .ref a2, .ref a3, .ref a4, .int i1, .ref a5, .int i2, .int i3, .int i4, .int i5, .int i6, .int i7, .int i8, .ref a6, .ref a7, .ref a8, .ref a9, .ref a10, .ref a11, .ref a12, .int i9, .ref a13, .int i10, .ref a14, .ref a15, .int i11, .ref a16, .ref a17, .ref a18, .ref a19, .int i12, .int i13, .int i14, .int i15, .int i16, .ref a20, .long j0, .ref a21, .ref a22, .ref a23, .ref a24])), (a1, .inl (cI, 544, .inl xF0))] := hD
            refine lv_iadd hx hb dX12_follower_102 ?_
            refine lv_topi (fun x34 ex34 => ?_)
            have tx34 := ia_add (a := x27) (b := r31) (by omega) (by omega)
            rw [← ex34] at tx34
            have h35 : vp_in x34 600 := (vp_of (by omega) (by omega))
            refine va_iald hx hb hK hP 1 0 rfl rfl h35 dX12_follower_103 ?_
            refine lv_topi (fun x36 ex36 => ?_)
            refine lv_goto (tgt := 137) hx hb dX12_follower_104 (by decide) ?_
            have hP9 := hP.sub (ws' := [(a0, .inr (12, [.int i0, .ref a1, .ref a2, .ref a3, .ref a4, .int i1, .ref a5, .int i2, .int i3, .int i4, .int i5, .int i6, .int i7, .int i8, .ref a6, .ref a7, .ref a8, .ref a9, .ref a10, .ref a11, .ref a12, .int i9, .ref a13, .int i10, .ref a14, .ref a15, .int i11, .ref a16, .ref a17, .ref a18, .ref a19, .int i12, .int i13, .int i14, .int i15, .int i16, .ref a20, .long j0, .ref a21, .ref a22, .ref a23, .ref a24])), (a1, .inl (cI, 544, .inl xF0)), (a7, .inl (cI, 360, .inl (U16 0))), (a8, .inl (cI, 600, .inl (U16 1))), (a9, .inl (cI, 60, .inl (U16 2)))]) [3, 4, 0, 1, 2] rfl
            have hD9 := hD.sub (ws' := [(a0, .inr (12, [.int i0, .ref a1, .ref a2, .ref a3, .ref a4, .int i1, .ref a5, .int i2, .int i3, .int i4, .int i5, .int i6, .int i7, .int i8, .ref a6, .ref a7, .ref a8, .ref a9, .ref a10, .ref a11, .ref a12, .int i9, .ref a13, .int i10, .ref a14, .ref a15, .int i11, .ref a16, .ref a17, .ref a18, .ref a19, .int i12, .int i13, .int i14, .int i15, .int i16, .ref a20, .long j0, .ref a21, .ref a22, .ref a23, .ref a24])), (a1, .inl (cI, 544, .inl xF0)), (a7, .inl (cI, 360, .inl (U16 0))), (a8, .inl (cI, 600, .inl (U16 1))), (a9, .inl (cI, 60, .inl (U16 2)))]) [3, 4, 0, 1, 2] (by decide) rfl
            rw [hQ]
            exact W.iret (v := x36) hx hb hr (fun t ht hW => ⟨⟨x36, (pickG 0 [], pickG (fun _ => 0) [(U16 0), (U16 1), (U16 2)], pickG (fun _ => 0) []), rfl, trivial, (by rw [ht]; exact hP9), hD9⟩, hS.F ht⟩) hS.2.2 dX12_follower_137
        · rw [ki_eq] at c13
          refine lv_aload_n hx hb dX12_follower_38 rfl (lv_at hl 0 rfl) ?_
          refine va_get (D := (dC, dI)) (ci := 12) (v := .ref a1) (C := RX12) (T := TX12) (N := 42) hx hb hwd inlX12 hown hK hP 3 rfl rfl 1 (by decide) (hwd _ kr7_3) (fun _ h9 => h9) rfl dX12_follower_39 ?_
          refine lv_sipush (v := 274) hx hb dX12_follower_42 (by decide) ?_
          refine lv_bipush (v := 10) hx hb dX12_follower_45 (by decide) ?_
          refine lv_iconst (v := 0) hx hb dX12_follower_47 (by decide) ?_
          refine lv_aload_n hx hb dX12_follower_48 rfl (lv_at hl 0 rfl) ?_
          refine va_get (D := (dC, dI)) (ci := 12) (v := .ref a1) (C := RX12) (T := TX12) (N := 42) hx hb hwd inlX12 hown hK hP 3 rfl rfl 1 (by decide) (hwd _ kr7_3) (fun _ h9 => h9) rfl dX12_follower_49 ?_
          refine lv_bipush (v := 18) hx hb dX12_follower_52 (by decide) ?_
          have h37 : vp_in (18 : Int32) 544 := (vin (by decide))
          refine va_iald hx hb hK hP 4 0 rfl rfl h37 dX12_follower_54 ?_
          refine lv_topi (fun x38 ex38 => ?_)
          have ix38 := wat_lit (k := 18) ex38 (by decide)
          have wh39 : whd cp xF0 := p_7.1
          unfold whd at wh39
          refine lv_aload_n hx hb dX12_follower_55 rfl (lv_at hl 0 rfl) ?_
          refine lv_iload_n hx hb dX12_follower_56 rfl (lv_at hl 1 rfl) ?_
          refine lv_iconst (v := 5) hx hb dX12_follower_57 (by decide) ?_
          have hPc := hP.sub (ws' := [(a0, .inr (12, [.int i0, .ref a1, .ref a2, .ref a3, .ref a4, .int i1, .ref a5, .int i2, .int i3, .int i4, .int i5, .int i6, .int i7, .int i8, .ref a6, .ref a7, .ref a8, .ref a9, .ref a10, .ref a11, .ref a12, .int i9, .ref a13, .int i10, .ref a14, .ref a15, .int i11, .ref a16, .ref a17, .ref a18, .ref a19, .int i12, .int i13, .int i14, .int i15, .int i16, .ref a20, .long j0, .ref a21, .ref a22, .ref a23, .ref a24])), (a1, .inl (cI, 544, .inl xF0))]) [3, 4] rfl
          have hDc := hD.sub (ws' := [(a0, .inr (12, [.int i0, .ref a1, .ref a2, .ref a3, .ref a4, .int i1, .ref a5, .int i2, .int i3, .int i4, .int i5, .int i6, .int i7, .int i8, .ref a6, .ref a7, .ref a8, .ref a9, .ref a10, .ref a11, .ref a12, .int i9, .ref a13, .int i10, .ref a14, .ref a15, .int i11, .ref a16, .ref a17, .ref a18, .ref a19, .int i12, .int i13, .int i14, .int i15, .int i16, .ref a20, .long j0, .ref a21, .ref a22, .ref a23, .ref a24])), (a1, .inl (cI, 544, .inl xF0))]) [3, 4] (by decide) rfl
          have hFc := va_free (wc := [(a0, .inr (12, [.int i0, .ref a1, .ref a2, .ref a3, .ref a4, .int i1, .ref a5, .int i2, .int i3, .int i4, .int i5, .int i6, .int i7, .int i8, .ref a6, .ref a7, .ref a8, .ref a9, .ref a10, .ref a11, .ref a12, .int i9, .ref a13, .int i10, .ref a14, .ref a15, .int i11, .ref a16, .ref a17, .ref a18, .ref a19, .int i12, .int i13, .int i14, .int i15, .int i16, .ref a20, .long j0, .ref a21, .ref a22, .ref a23, .ref a24])), (a1, .inl (cI, 544, .inl xF0))]) hD hS hA [3, 4] rfl
          refine va_calli (va_runV (As := [.int p0, .int 5]) (rest := [.int x38, .int 0, .int 10, .int 274, .ref a1]) ⟨hx, hb, hml, hown, hwd⟩ (s_X12_of l dC dI cI cZ cB cJ cM cG a0 a1 a2 a3 a4 a5 a6 a7 a8 a9 a10 a11 a12 a13 a14 a15 a16 a17 a18 a19 a20 a21 a22 a23 a24 i0 i1 i2 i3 i4 i5 i6 i7 i8 i9 i10 i11 i12 i13 i14 i15 i16 j0 xF0 p0 5 cp H.size (show (0 : Int) ≤ i1.toInt ∧ i1.toInt ≤ 1600 from ⟨by omega, by omega⟩) (show (0 : Int) ≤ i2.toInt ∧ i2.toInt ≤ 1600 from ⟨by omega, by omega⟩) (show (0 : Int) ≤ i3.toInt ∧ i3.toInt ≤ 1600 from ⟨by omega, by omega⟩) (show (0 : Int) ≤ i4.toInt ∧ i4.toInt ≤ 1600 from ⟨by omega, by omega⟩) (show (0 : Int) ≤ i5.toInt ∧ i5.toInt ≤ 6 from ⟨by omega, by omega⟩) (show (0 : Int) ≤ i7.toInt ∧ i7.toInt ≤ 3 from ⟨by omega, by omega⟩) (show (0 : Int) ≤ i11.toInt ∧ i11.toInt ≤ 59 from ⟨by omega, by omega⟩) (show WI cp xF0 from p_7) (show (0 : Int) ≤ p0.toInt ∧ p0.toInt ≤ 9 from ⟨by omega, by omega⟩) (show (0 : Int) ≤ (5 : Int32).toInt ∧ (5 : Int32).toInt ≤ 5 from ⟨by omega, by omega⟩) p_8) (cwV 2 hwd (gV kr27_18 kr27_19 kr27_20 kr1_5 kr27_21) rfl rfl rfl (by decide +kernel) ⟨Nat.le_of_ble_eq_true rfl, Nat.le_of_ble_eq_true rfl⟩) (kPreV hPc hK hDc (ci := 12) (q0 := 0) rfl rfl) rfl rfl hl.1 rfl (lv_room (Nat.le_of_ble_eq_true rfl)) dX12_follower_58 ⟨Nat.le_of_ble_eq_true rfl, Nat.le_of_ble_eq_true rfl⟩) hS (fun q _ h => hFc q h) hFc (fun r40 u41 t H1 locs ht9 hvm hw hB hz1 hk1 hS => ?_)
          obtain ⟨hw42, -⟩ := hw
          have hw42 : r40.toInt = wfo xF0 5 p0.toInt := hw42
          have wf43 := p_7.2.2.1 p0.toInt (by omega) (by omega)
          unfold wfl at wf43
          obtain ⟨hP1, hD1⟩ := hB
          rw [ht9] at hP1
          obtain ⟨hP, hD⟩ := va_join (wr := [(a7, .inl (cI, 360, .inl xF6)), (a8, .inl (cI, 600, .inl xF7)), (a9, .inl (cI, 60, .inl xF8))]) (w1 := [(a0, .inr (12, [.int i0, .ref a1, .ref a2, .ref a3, .ref a4, .int i1, .ref a5, .int i2, .int i3, .int i4, .int i5, .int i6, .int i7, .int i8, .ref a6, .ref a7, .ref a8, .ref a9, .ref a10, .ref a11, .ref a12, .int i9, .ref a13, .int i10, .ref a14, .ref a15, .int i11, .ref a16, .ref a17, .ref a18, .ref a19, .int i12, .int i13, .int i14, .int i15, .int i16, .ref a20, .long j0, .ref a21, .ref a22, .ref a23, .ref a24])), (a1, .inl (cI, 544, .inl xF0))]) hP hD [3, 4] [0, 1, 2] rfl rfl (by decide) (by decide) hk1 hFc hP1 hD1
          generalize H1 = H at hP hS ⊢
          have hP : va_P (dC, dI) vwCl [(a7, .inl (cI, 360, .inl xF6)), (a8, .inl (cI, 600, .inl xF7)), (a9, .inl (cI, 60, .inl xF8)), (a0, .inr (12, [.int i0, .ref a1, .ref a2, .ref a3, .ref a4, .int i1, .ref a5, .int i2, .int i3, .int i4, .int i5, .int i6, .int i7, .int i8, .ref a6, .ref a7, .ref a8, .ref a9, .ref a10, .ref a11, .ref a12, .int i9, .ref a13, .int i10, .ref a14, .ref a15, .int i11, .ref a16, .ref a17, .ref a18, .ref a19, .int i12, .int i13, .int i14, .int i15, .int i16, .ref a20, .long j0, .ref a21, .ref a22, .ref a23, .ref a24])), (a1, .inl (cI, 544, .inl xF0))] H := hP
          have hD : va_D A [(a7, .inl (cI, 360, .inl xF6)), (a8, .inl (cI, 600, .inl xF7)), (a9, .inl (cI, 60, .inl xF8)), (a0, .inr (12, [.int i0, .ref a1, .ref a2, .ref a3, .ref a4, .int i1, .ref a5, .int i2, .int i3, .int i4, .int i5, .int i6, .int i7, .int i8, .ref a6, .ref a7, .ref a8, .ref a9, .ref a10, .ref a11, .ref a12, .int i9, .ref a13, .int i10, .ref a14, .ref a15, .int i11, .ref a16, .ref a17, .ref a18, .ref a19, .int i12, .int i13, .int i14, .int i15, .int i16, .ref a20, .long j0, .ref a21, .ref a22, .ref a23, .ref a24])), (a1, .inl (cI, 544, .inl xF0))] := hD
          refine lv_isub hx hb dX12_follower_61 ?_
          refine lv_topi (fun x44 ex44 => ?_)
          refine va_mmax hx hb (by rw [hml]; exact hl.1.symm) hown (hwd _ kr27_5) (hwd _ kr19_3) (hwd _ kr19_4) (hwd _ kr19_5) (Nat.le_of_ble_eq_true rfl) (Nat.le_of_ble_eq_true rfl) (Nat.le_of_ble_eq_true rfl) (Nat.le_of_ble_eq_true rfl) dX12_follower_62 ?_
          refine lv_topi (fun x45 ex45 => ?_)
          have tx45 := mx_max (0 : Int32) x44
          rw [← ex45] at tx45
          refine lv_bipush (v := 21) hx hb dX12_follower_65 (by decide) ?_
          refine lv_irem hx hb dX12_follower_67 (fun h9 => by rw [ki_eq] at h9; omega) ?_
          refine lv_topi (fun x46 ex46 => ?_)
          have tx46 := ir_pos (a := x45) (b := (21 : Int32)) (by omega) (by omega)
          rw [← ex46] at tx46
          refine lv_imul hx hb dX12_follower_68 ?_
          refine lv_topi (fun x47 ex47 => ?_)
          have tx47 := ia_mull (a := (10 : Int32)) (b := x46) 10 (by decide) (by omega) (by omega)
          rw [← ex47] at tx47
          refine lv_iadd hx hb dX12_follower_69 ?_
          refine lv_topi (fun x48 ex48 => ?_)
          have tx48 := ia_add (a := (274 : Int32)) (b := x47) (by omega) (by omega)
          rw [← ex48] at tx48
          refine lv_iload_n hx hb dX12_follower_70 rfl (lv_at hl 1 rfl) ?_
          refine lv_iadd hx hb dX12_follower_71 ?_
          refine lv_topi (fun x49 ex49 => ?_)
          have tx49 := ia_add (a := x48) (b := p0) (by omega) (by omega)
          rw [← ex49] at tx49
          have h50 : vp_in x49 544 := (vp_of (by omega) (by omega))
          refine va_iald hx hb hK hP 4 0 rfl rfl h50 dX12_follower_72 ?_
          refine lv_topi (fun x51 ex51 => ?_)
          have ix51 : x51.toInt = (xF0 x49.toInt.toNat).toInt := by rw [ex51]; rfl
          have hP9 := hP.sub (ws' := [(a0, .inr (12, [.int i0, .ref a1, .ref a2, .ref a3, .ref a4, .int i1, .ref a5, .int i2, .int i3, .int i4, .int i5, .int i6, .int i7, .int i8, .ref a6, .ref a7, .ref a8, .ref a9, .ref a10, .ref a11, .ref a12, .int i9, .ref a13, .int i10, .ref a14, .ref a15, .int i11, .ref a16, .ref a17, .ref a18, .ref a19, .int i12, .int i13, .int i14, .int i15, .int i16, .ref a20, .long j0, .ref a21, .ref a22, .ref a23, .ref a24])), (a1, .inl (cI, 544, .inl xF0)), (a7, .inl (cI, 360, .inl xF6)), (a8, .inl (cI, 600, .inl xF7)), (a9, .inl (cI, 60, .inl xF8))]) [3, 4, 0, 1, 2] rfl
          have hD9 := hD.sub (ws' := [(a0, .inr (12, [.int i0, .ref a1, .ref a2, .ref a3, .ref a4, .int i1, .ref a5, .int i2, .int i3, .int i4, .int i5, .int i6, .int i7, .int i8, .ref a6, .ref a7, .ref a8, .ref a9, .ref a10, .ref a11, .ref a12, .int i9, .ref a13, .int i10, .ref a14, .ref a15, .int i11, .ref a16, .ref a17, .ref a18, .ref a19, .int i12, .int i13, .int i14, .int i15, .int i16, .ref a20, .long j0, .ref a21, .ref a22, .ref a23, .ref a24])), (a1, .inl (cI, 544, .inl xF0)), (a7, .inl (cI, 360, .inl xF6)), (a8, .inl (cI, 600, .inl xF7)), (a9, .inl (cI, 60, .inl xF8))]) [3, 4, 0, 1, 2] (by decide) rfl
          rw [hQ]
          exact W.iret (v := x51) hx hb hr (fun t ht hW => ⟨⟨x51, (pickG 0 [], pickG (fun _ => 0) [xF6, xF7, xF8], pickG (fun _ => 0) []), rfl, trivial, (by rw [ht]; exact hP9), hD9⟩, hS.F ht⟩) hS.2.2 dX12_follower_73
      · rw [ki_eq] at c12
        refine lv_aload_n hx hb dX12_follower_27 rfl (lv_at hl 0 rfl) ?_
        refine lv_iload_n hx hb dX12_follower_28 rfl (lv_at hl 1 rfl) ?_
        have hPc := hP.sub (ws' := [(a0, .inr (12, [.int i0, .ref a1, .ref a2, .ref a3, .ref a4, .int i1, .ref a5, .int i2, .int i3, .int i4, .int i5, .int i6, .int i7, .int i8, .ref a6, .ref a7, .ref a8, .ref a9, .ref a10, .ref a11, .ref a12, .int i9, .ref a13, .int i10, .ref a14, .ref a15, .int i11, .ref a16, .ref a17, .ref a18, .ref a19, .int i12, .int i13, .int i14, .int i15, .int i16, .ref a20, .long j0, .ref a21, .ref a22, .ref a23, .ref a24])), (a1, .inl (cI, 544, .inl xF0))]) [3, 4] rfl
        have hDc := hD.sub (ws' := [(a0, .inr (12, [.int i0, .ref a1, .ref a2, .ref a3, .ref a4, .int i1, .ref a5, .int i2, .int i3, .int i4, .int i5, .int i6, .int i7, .int i8, .ref a6, .ref a7, .ref a8, .ref a9, .ref a10, .ref a11, .ref a12, .int i9, .ref a13, .int i10, .ref a14, .ref a15, .int i11, .ref a16, .ref a17, .ref a18, .ref a19, .int i12, .int i13, .int i14, .int i15, .int i16, .ref a20, .long j0, .ref a21, .ref a22, .ref a23, .ref a24])), (a1, .inl (cI, 544, .inl xF0))]) [3, 4] (by decide) rfl
        have hFc := va_free (wc := [(a0, .inr (12, [.int i0, .ref a1, .ref a2, .ref a3, .ref a4, .int i1, .ref a5, .int i2, .int i3, .int i4, .int i5, .int i6, .int i7, .int i8, .ref a6, .ref a7, .ref a8, .ref a9, .ref a10, .ref a11, .ref a12, .int i9, .ref a13, .int i10, .ref a14, .ref a15, .int i11, .ref a16, .ref a17, .ref a18, .ref a19, .int i12, .int i13, .int i14, .int i15, .int i16, .ref a20, .long j0, .ref a21, .ref a22, .ref a23, .ref a24])), (a1, .inl (cI, 544, .inl xF0))]) hD hS hA [3, 4] rfl
        refine va_calli (va_runV (As := [.int p0]) (rest := []) ⟨hx, hb, hml, hown, hwd⟩ (s_X12_posOf l dC dI cI cZ cB cJ cM cG a0 a1 a2 a3 a4 a5 a6 a7 a8 a9 a10 a11 a12 a13 a14 a15 a16 a17 a18 a19 a20 a21 a22 a23 a24 i0 i1 i2 i3 i4 i5 i6 i7 i8 i9 i10 i11 i12 i13 i14 i15 i16 j0 xF0 p0 cp H.size (show (0 : Int) ≤ i1.toInt ∧ i1.toInt ≤ 1600 from ⟨by omega, by omega⟩) (show (0 : Int) ≤ i2.toInt ∧ i2.toInt ≤ 1600 from ⟨by omega, by omega⟩) (show (0 : Int) ≤ i3.toInt ∧ i3.toInt ≤ 1600 from ⟨by omega, by omega⟩) (show (0 : Int) ≤ i4.toInt ∧ i4.toInt ≤ 1600 from ⟨by omega, by omega⟩) (show (0 : Int) ≤ i5.toInt ∧ i5.toInt ≤ 6 from ⟨by omega, by omega⟩) (show (0 : Int) ≤ i7.toInt ∧ i7.toInt ≤ 3 from ⟨by omega, by omega⟩) (show (0 : Int) ≤ i11.toInt ∧ i11.toInt ≤ 59 from ⟨by omega, by omega⟩) (show WI cp xF0 from p_7) (show (0 : Int) ≤ p0.toInt ∧ p0.toInt ≤ 9 from ⟨by omega, by omega⟩) p_8) (cwV 1 hwd (gV kr28_6 kr28_7 kr28_8 kr1_5 kr28_9) rfl rfl rfl (by decide +kernel) ⟨Nat.le_of_ble_eq_true rfl, Nat.le_of_ble_eq_true rfl⟩) (kPreV hPc hK hDc (ci := 12) (q0 := 0) rfl rfl) rfl rfl hl.1 rfl (lv_room (Nat.le_of_ble_eq_true rfl)) dX12_follower_29 ⟨Nat.le_of_ble_eq_true rfl, Nat.le_of_ble_eq_true rfl⟩) hS (fun q _ h => hFc q h) hFc (fun r52 u53 t H1 locs ht9 hvm hw hB hz1 hk1 hS => ?_)
        obtain ⟨hP1, hD1⟩ := hB
        rw [ht9] at hP1
        obtain ⟨hP, hD⟩ := va_join (wr := [(a7, .inl (cI, 360, .inl xF6)), (a8, .inl (cI, 600, .inl xF7)), (a9, .inl (cI, 60, .inl xF8))]) (w1 := [(a0, .inr (12, [.int i0, .ref a1, .ref a2, .ref a3, .ref a4, .int i1, .ref a5, .int i2, .int i3, .int i4, .int i5, .int i6, .int i7, .int i8, .ref a6, .ref a7, .ref a8, .ref a9, .ref a10, .ref a11, .ref a12, .int i9, .ref a13, .int i10, .ref a14, .ref a15, .int i11, .ref a16, .ref a17, .ref a18, .ref a19, .int i12, .int i13, .int i14, .int i15, .int i16, .ref a20, .long j0, .ref a21, .ref a22, .ref a23, .ref a24])), (a1, .inl (cI, 544, .inl xF0))]) hP hD [3, 4] [0, 1, 2] rfl rfl (by decide) (by decide) hk1 hFc hP1 hD1
        generalize H1 = H at hP hS ⊢
        have hP : va_P (dC, dI) vwCl [(a7, .inl (cI, 360, .inl xF6)), (a8, .inl (cI, 600, .inl xF7)), (a9, .inl (cI, 60, .inl xF8)), (a0, .inr (12, [.int i0, .ref a1, .ref a2, .ref a3, .ref a4, .int i1, .ref a5, .int i2, .int i3, .int i4, .int i5, .int i6, .int i7, .int i8, .ref a6, .ref a7, .ref a8, .ref a9, .ref a10, .ref a11, .ref a12, .int i9, .ref a13, .int i10, .ref a14, .ref a15, .int i11, .ref a16, .ref a17, .ref a18, .ref a19, .int i12, .int i13, .int i14, .int i15, .int i16, .ref a20, .long j0, .ref a21, .ref a22, .ref a23, .ref a24])), (a1, .inl (cI, 544, .inl xF0))] H := hP
        have hD : va_D A [(a7, .inl (cI, 360, .inl xF6)), (a8, .inl (cI, 600, .inl xF7)), (a9, .inl (cI, 60, .inl xF8)), (a0, .inr (12, [.int i0, .ref a1, .ref a2, .ref a3, .ref a4, .int i1, .ref a5, .int i2, .int i3, .int i4, .int i5, .int i6, .int i7, .int i8, .ref a6, .ref a7, .ref a8, .ref a9, .ref a10, .ref a11, .ref a12, .int i9, .ref a13, .int i10, .ref a14, .ref a15, .int i11, .ref a16, .ref a17, .ref a18, .ref a19, .int i12, .int i13, .int i14, .int i15, .int i16, .ref a20, .long j0, .ref a21, .ref a22, .ref a23, .ref a24])), (a1, .inl (cI, 544, .inl xF0))] := hD
        have hP9 := hP.sub (ws' := [(a0, .inr (12, [.int i0, .ref a1, .ref a2, .ref a3, .ref a4, .int i1, .ref a5, .int i2, .int i3, .int i4, .int i5, .int i6, .int i7, .int i8, .ref a6, .ref a7, .ref a8, .ref a9, .ref a10, .ref a11, .ref a12, .int i9, .ref a13, .int i10, .ref a14, .ref a15, .int i11, .ref a16, .ref a17, .ref a18, .ref a19, .int i12, .int i13, .int i14, .int i15, .int i16, .ref a20, .long j0, .ref a21, .ref a22, .ref a23, .ref a24])), (a1, .inl (cI, 544, .inl xF0)), (a7, .inl (cI, 360, .inl xF6)), (a8, .inl (cI, 600, .inl xF7)), (a9, .inl (cI, 60, .inl xF8))]) [3, 4, 0, 1, 2] rfl
        have hD9 := hD.sub (ws' := [(a0, .inr (12, [.int i0, .ref a1, .ref a2, .ref a3, .ref a4, .int i1, .ref a5, .int i2, .int i3, .int i4, .int i5, .int i6, .int i7, .int i8, .ref a6, .ref a7, .ref a8, .ref a9, .ref a10, .ref a11, .ref a12, .int i9, .ref a13, .int i10, .ref a14, .ref a15, .int i11, .ref a16, .ref a17, .ref a18, .ref a19, .int i12, .int i13, .int i14, .int i15, .int i16, .ref a20, .long j0, .ref a21, .ref a22, .ref a23, .ref a24])), (a1, .inl (cI, 544, .inl xF0)), (a7, .inl (cI, 360, .inl xF6)), (a8, .inl (cI, 600, .inl xF7)), (a9, .inl (cI, 60, .inl xF8))]) [3, 4, 0, 1, 2] (by decide) rfl
        rw [hQ]
        exact W.iret (v := r52) hx hb hr (fun t ht hW => ⟨⟨r52, (pickG 0 [], pickG (fun _ => 0) [xF6, xF7, xF8], pickG (fun _ => 0) []), rfl, trivial, (by rw [ht]; exact hP9), hD9⟩, hS.F ht⟩) hS.2.2 dX12_follower_32
    · rw [ki_eq] at c11
      have hw10q := hw10 (by omega)
      clear hw10
      refine lv_bipush (v := (-2)) hx hb dX12_follower_20 (by decide) ?_
      have hP9 := hP.sub (ws' := [(a0, .inr (12, [.int i0, .ref a1, .ref a2, .ref a3, .ref a4, .int i1, .ref a5, .int i2, .int i3, .int i4, .int i5, .int i6, .int i7, .int i8, .ref a6, .ref a7, .ref a8, .ref a9, .ref a10, .ref a11, .ref a12, .int i9, .ref a13, .int i10, .ref a14, .ref a15, .int i11, .ref a16, .ref a17, .ref a18, .ref a19, .int i12, .int i13, .int i14, .int i15, .int i16, .ref a20, .long j0, .ref a21, .ref a22, .ref a23, .ref a24])), (a1, .inl (cI, 544, .inl xF0)), (a7, .inl (cI, 360, .inl xF6)), (a8, .inl (cI, 600, .inl xF7)), (a9, .inl (cI, 60, .inl xF8))]) [3, 4, 0, 1, 2] rfl
      have hD9 := hD.sub (ws' := [(a0, .inr (12, [.int i0, .ref a1, .ref a2, .ref a3, .ref a4, .int i1, .ref a5, .int i2, .int i3, .int i4, .int i5, .int i6, .int i7, .int i8, .ref a6, .ref a7, .ref a8, .ref a9, .ref a10, .ref a11, .ref a12, .int i9, .ref a13, .int i10, .ref a14, .ref a15, .int i11, .ref a16, .ref a17, .ref a18, .ref a19, .int i12, .int i13, .int i14, .int i15, .int i16, .ref a20, .long j0, .ref a21, .ref a22, .ref a23, .ref a24])), (a1, .inl (cI, 544, .inl xF0)), (a7, .inl (cI, 360, .inl xF6)), (a8, .inl (cI, 600, .inl xF7)), (a9, .inl (cI, 60, .inl xF8))]) [3, 4, 0, 1, 2] (by decide) rfl
      rw [hQ]
      exact W.iret (v := (-2)) hx hb hr (fun t ht hW => ⟨⟨(-2), (pickG 0 [], pickG (fun _ => 0) [xF6, xF7, xF8], pickG (fun _ => 0) []), rfl, trivial, (by rw [ht]; exact hP9), hD9⟩, hS.F ht⟩) hS.2.2 dX12_follower_22
def WJ (c : Int) (F : Nat → Int32) : Prop := WI c F ∧ 1 ≤ wat F 1
theorem WJ_free {c : Int} {F : Nat → Int32} {ix v : Int32} (h : WJ c F) (h0 : 0 ≤ ix.toInt) (hk : ix.toInt = 0 ∨ (11 ≤ ix.toInt ∧ ix.toInt ≤ 17) ∨ ix.toInt = 19 ∨ (20 ≤ ix.toInt ∧ ix.toInt < 188 ∧ 5 ≤ (ix.toInt - 20) % 7) ∨ 260 ≤ ix.toInt) : WJ c (upd F ix.toNatClampNeg v) := ⟨WI_free h.1 h0 hk, by rw [wat_nei (by omega)]; exact h.2⟩
theorem WJ_turn {c : Int} {F : Nat → Int32} {v : Int32} (h : WJ c F) (hv : v.toInt = wat F 18 + 1) : WJ (c + 1) (upd F (18 : Int32).toNatClampNeg v) := ⟨WI_turn h.1 hv, by
  have k18 : (18 : Int32).toInt = 18 := by decide
  rw [wat_nei (by omega)]
  exact h.2⟩
set_option maxHeartbeats 4000000 in
set_option maxRecDepth 100000 in
theorem s_X12_writesJ (l : Launch) (dC : Nat → ClassId) (dI : Nat → Nat → Nat) (cI cZ cB cJ cM cG : ClassId) (a0 a1 a2 a3 a4 a5 a6 a7 a8 a9 a10 a11 a12 a13 a14 a15 a16 a17 a18 a19 a20 a21 a22 a23 a24 : Nat) (i0 i1 i2 i3 i4 i5 i6 i7 i8 i9 i10 i11 i12 i13 i14 i15 i16 : Int32) (j0 : Int64) (xF0 : Nat → Int32) (cp : Int) (sz : Nat) (p_0 : (0 : Int) ≤ i1.toInt ∧ i1.toInt ≤ 1600) (p_1 : (0 : Int) ≤ i2.toInt ∧ i2.toInt ≤ 1600) (p_2 : (0 : Int) ≤ i3.toInt ∧ i3.toInt ≤ 1600) (p_3 : (0 : Int) ≤ i4.toInt ∧ i4.toInt ≤ 1600) (p_4 : (0 : Int) ≤ i5.toInt ∧ i5.toInt ≤ 6) (p_5 : (0 : Int) ≤ i7.toInt ∧ i7.toInt ≤ 3) (p_6 : (0 : Int) ≤ i11.toInt ∧ i11.toInt ≤ 59) (p_7 : WJ cp xF0) (p_8 : 0 ≤ cp ∧ cp ≤ 2000000000) : Met l yX12_writes (kw yX12_writes cX12_writes 2 none) ({ frames := 0, cells := 0, slots := 0, locals := 0 } : Room) (va_Pc [.ref a0] (kPre dC dI [(cI, .int), (cZ, .boolean), (cB, .byte), (cJ, .long), (cM, .object RX2), (cG, .array .int)] [(a0, .inr (12, [.int i0, .ref a1, .ref a2, .ref a3, .ref a4, .int i1, .ref a5, .int i2, .int i3, .int i4, .int i5, .int i6, .int i7, .int i8, .ref a6, .ref a7, .ref a8, .ref a9, .ref a10, .ref a11, .ref a12, .int i9, .ref a13, .int i10, .ref a14, .ref a15, .int i11, .ref a16, .ref a17, .ref a18, .ref a19, .int i12, .int i13, .int i14, .int i15, .int i16, .ref a20, .long j0, .ref a21, .ref a22, .ref a23, .ref a24])), (a1, .inl (cI, 544, .inl xF0))] sz)) (va_Qv (fun (u9 : (Nat → Int32) × (Nat → Nat → Int32) × (Nat → Nat → Int64)) => (WJ cp (u9.2.1 0)) ∧ True) (fun u9 t => va_P (dC, dI) vwCl [(a0, .inr (12, [.int i0, .ref a1, .ref a2, .ref a3, .ref a4, .int i1, .ref a5, .int i2, .int i3, .int i4, .int i5, .int i6, .int i7, .int i8, .ref a6, .ref a7, .ref a8, .ref a9, .ref a10, .ref a11, .ref a12, .int i9, .ref a13, .int i10, .ref a14, .ref a15, .int i11, .ref a16, .ref a17, .ref a18, .ref a19, .int i12, .int i13, .int i14, .int i15, .int i16, .ref a20, .long j0, .ref a21, .ref a22, .ref a23, .ref a24])), (a1, .inl (cI, 544, .inl (u9.2.1 0)))] t.heap ∧ va_D (va_A [(a0, .inr (12, [.int i0, .ref a1, .ref a2, .ref a3, .ref a4, .int i1, .ref a5, .int i2, .int i3, .int i4, .int i5, .int i6, .int i7, .int i8, .ref a6, .ref a7, .ref a8, .ref a9, .ref a10, .ref a11, .ref a12, .int i9, .ref a13, .int i10, .ref a14, .ref a15, .int i11, .ref a16, .ref a17, .ref a18, .ref a19, .int i12, .int i13, .int i14, .int i15, .int i16, .ref a20, .long j0, .ref a21, .ref a22, .ref a23, .ref a24])), (a1, .inl (cI, 544, .inl xF0))] sz) [(a0, .inr (12, [.int i0, .ref a1, .ref a2, .ref a3, .ref a4, .int i1, .ref a5, .int i2, .int i3, .int i4, .int i5, .int i6, .int i7, .int i8, .ref a6, .ref a7, .ref a8, .ref a9, .ref a10, .ref a11, .ref a12, .int i9, .ref a13, .int i10, .ref a14, .ref a15, .int i11, .ref a16, .ref a17, .ref a18, .ref a19, .int i12, .int i13, .int i14, .int i15, .int i16, .ref a20, .long j0, .ref a21, .ref a22, .ref a23, .ref a24])), (a1, .inl (cI, 544, .inl (u9.2.1 0)))]) (va_A [(a0, .inr (12, [.int i0, .ref a1, .ref a2, .ref a3, .ref a4, .int i1, .ref a5, .int i2, .int i3, .int i4, .int i5, .int i6, .int i7, .int i8, .ref a6, .ref a7, .ref a8, .ref a9, .ref a10, .ref a11, .ref a12, .int i9, .ref a13, .int i10, .ref a14, .ref a15, .int i11, .ref a16, .ref a17, .ref a18, .ref a19, .int i12, .int i13, .int i14, .int i15, .int i16, .ref a20, .long j0, .ref a21, .ref a22, .ref a23, .ref a24])), (a1, .inl (cI, 544, .inl xF0))] sz)) 0 0 (va_A [(a0, .inr (12, [.int i0, .ref a1, .ref a2, .ref a3, .ref a4, .int i1, .ref a5, .int i2, .int i3, .int i4, .int i5, .int i6, .int i7, .int i8, .ref a6, .ref a7, .ref a8, .ref a9, .ref a10, .ref a11, .ref a12, .int i9, .ref a13, .int i10, .ref a14, .ref a15, .int i11, .ref a16, .ref a17, .ref a18, .ref a19, .int i12, .int i13, .int i14, .int i15, .int i16, .ref a20, .long j0, .ref a21, .ref a22, .ref a23, .ref a24])), (a1, .inl (cI, 544, .inl xF0))] sz) := by
  refine kEnter (by decide) (Nat.le_of_ble_eq_true rfl) ?_
  intro p e s m below meth c ls hx hb hr hml hown hlocks hin hwd hsz hP hK hD hl
  subst hsz
  generalize hAe : va_A [(a0, .inr (12, [.int i0, .ref a1, .ref a2, .ref a3, .ref a4, .int i1, .ref a5, .int i2, .int i3, .int i4, .int i5, .int i6, .int i7, .int i8, .ref a6, .ref a7, .ref a8, .ref a9, .ref a10, .ref a11, .ref a12, .int i9, .ref a13, .int i10, .ref a14, .ref a15, .int i11, .ref a16, .ref a17, .ref a18, .ref a19, .int i12, .int i13, .int i14, .int i15, .int i16, .ref a20, .long j0, .ref a21, .ref a22, .ref a23, .ref a24])), (a1, .inl (cI, 544, .inl xF0))] s.heap.size = A at hD ⊢
  have hA : ∀ q : Nat, s.heap.size ≤ q → A q := fun q h => by rw [← hAe]; exact Or.inr h
  have hS : va_S A s.heap s.heap [] := va_S.rf
  have hl : lv_has ls 2 [(0, .ref a0)] := hl
  obtain ⟨Q, hQ⟩ : ∃ Q, Q = MQ below (va_Qv (fun (u9 : (Nat → Int32) × (Nat → Nat → Int32) × (Nat → Nat → Int64)) => (WJ cp (u9.2.1 0)) ∧ True) (fun u9 t => va_P (dC, dI) vwCl [(a0, .inr (12, [.int i0, .ref a1, .ref a2, .ref a3, .ref a4, .int i1, .ref a5, .int i2, .int i3, .int i4, .int i5, .int i6, .int i7, .int i8, .ref a6, .ref a7, .ref a8, .ref a9, .ref a10, .ref a11, .ref a12, .int i9, .ref a13, .int i10, .ref a14, .ref a15, .int i11, .ref a16, .ref a17, .ref a18, .ref a19, .int i12, .int i13, .int i14, .int i15, .int i16, .ref a20, .long j0, .ref a21, .ref a22, .ref a23, .ref a24])), (a1, .inl (cI, 544, .inl (u9.2.1 0)))] t.heap ∧ va_D A [(a0, .inr (12, [.int i0, .ref a1, .ref a2, .ref a3, .ref a4, .int i1, .ref a5, .int i2, .int i3, .int i4, .int i5, .int i6, .int i7, .int i8, .ref a6, .ref a7, .ref a8, .ref a9, .ref a10, .ref a11, .ref a12, .int i9, .ref a13, .int i10, .ref a14, .ref a15, .int i11, .ref a16, .ref a17, .ref a18, .ref a19, .int i12, .int i13, .int i14, .int i15, .int i16, .ref a20, .long j0, .ref a21, .ref a22, .ref a23, .ref a24])), (a1, .inl (cI, 544, .inl (u9.2.1 0)))]) A) ([.ref a0] : List Value).toArray s 0 0 A := ⟨_, rfl⟩
  rw [← hQ]
  have k0 : (0 : Int32).toInt = 0 := by decide
  have k1 : (1 : Int32).toInt = 1 := by decide
  have k10 : (10 : Int32).toInt = 10 := by decide
  have k18 : (18 : Int32).toInt = 18 := by decide
  have k21 : (21 : Int32).toInt = 21 := by decide
  have k264 : (264 : Int32).toInt = 264 := by decide
  have k274 : (274 : Int32).toInt = 274 := by decide
  refine lv_iconst (v := 0) hx hb dX12_writes_0 (by decide) ?_
  refine lv_istore_n (lv' := [(1, .int 0), (0, .ref a0)]) hx hb dX12_writes_1 rfl hl (by decide) rfl (fun ls hl => ?_)
  have lp1 : ∀ (d : Nat), ∀ (H : Heap) (locs : List Loc) (ls : Array Slot) (w1_1 : Int32) (g1_1 : Nat → Int32), ((0 : Int) ≤ w1_1.toInt ∧ w1_1.toInt ≤ 10) → (WJ cp g1_1) → (10 - w1_1.toInt).toNat < d → va_P (dC, dI) vwCl [(a0, .inr (12, [.int i0, .ref a1, .ref a2, .ref a3, .ref a4, .int i1, .ref a5, .int i2, .int i3, .int i4, .int i5, .int i6, .int i7, .int i8, .ref a6, .ref a7, .ref a8, .ref a9, .ref a10, .ref a11, .ref a12, .int i9, .ref a13, .int i10, .ref a14, .ref a15, .int i11, .ref a16, .ref a17, .ref a18, .ref a19, .int i12, .int i13, .int i14, .int i15, .int i16, .ref a20, .long j0, .ref a21, .ref a22, .ref a23, .ref a24])), (a1, .inl (cI, 544, .inl g1_1))] H → va_D A [(a0, .inr (12, [.int i0, .ref a1, .ref a2, .ref a3, .ref a4, .int i1, .ref a5, .int i2, .int i3, .int i4, .int i5, .int i6, .int i7, .int i8, .ref a6, .ref a7, .ref a8, .ref a9, .ref a10, .ref a11, .ref a12, .int i9, .ref a13, .int i10, .ref a14, .ref a15, .int i11, .ref a16, .ref a17, .ref a18, .ref a19, .int i12, .int i13, .int i14, .int i15, .int i16, .ref a20, .long j0, .ref a21, .ref a22, .ref a23, .ref a24])), (a1, .inl (cI, 544, .inl g1_1))] → va_S A s.heap H locs → lv_has ls 2 [(0, .ref a0), (1, .int w1_1)] → W p l e ({ frames := 0, cells := 0, slots := 0, locals := 0 } : Room) s m ([.ref a0] : List Value).toArray below meth c H locs 0 0 Q (F0 m 2 ls []) := by
    intro d
    induction d with
    | zero =>
      intro H locs ls w1_1 g1_1 hr_w1_1 hd_g1_1 hm hP hD hS hl
      omega
    | succ d ih1 =>
      intro H locs ls w1_1 g1_1 hr_w1_1 hd_g1_1 hm hP hD hS hl
      refine lv_iload_n hx hb dX12_writes_2 rfl (lv_at hl 1 rfl) ?_
      refine lv_bipush (v := 10) hx hb dX12_writes_3 (by decide) ?_
      refine lv_icmp_ge (tgt := 48) hx hb dX12_writes_5 (by decide) (fun c69 => ?_) (fun c69 => ?_)
      · rw [ki_le] at c69
        have hP9 := hP.sub (ws' := [(a0, .inr (12, [.int i0, .ref a1, .ref a2, .ref a3, .ref a4, .int i1, .ref a5, .int i2, .int i3, .int i4, .int i5, .int i6, .int i7, .int i8, .ref a6, .ref a7, .ref a8, .ref a9, .ref a10, .ref a11, .ref a12, .int i9, .ref a13, .int i10, .ref a14, .ref a15, .int i11, .ref a16, .ref a17, .ref a18, .ref a19, .int i12, .int i13, .int i14, .int i15, .int i16, .ref a20, .long j0, .ref a21, .ref a22, .ref a23, .ref a24])), (a1, .inl (cI, 544, .inl g1_1))]) [0, 1] rfl
        have hD9 := hD.sub (ws' := [(a0, .inr (12, [.int i0, .ref a1, .ref a2, .ref a3, .ref a4, .int i1, .ref a5, .int i2, .int i3, .int i4, .int i5, .int i6, .int i7, .int i8, .ref a6, .ref a7, .ref a8, .ref a9, .ref a10, .ref a11, .ref a12, .int i9, .ref a13, .int i10, .ref a14, .ref a15, .int i11, .ref a16, .ref a17, .ref a18, .ref a19, .int i12, .int i13, .int i14, .int i15, .int i16, .ref a20, .long j0, .ref a21, .ref a22, .ref a23, .ref a24])), (a1, .inl (cI, 544, .inl g1_1))]) [0, 1] (by decide) rfl
        rw [hQ]
        exact W.vret hx hb hr (fun t ht hW => ⟨⟨(pickG 0 [], pickG (fun _ => 0) [g1_1], pickG (fun _ => 0) []), rfl, ⟨(show WJ cp g1_1 from hd_g1_1), trivial⟩, (by rw [ht]; exact hP9), hD9⟩, hS.F ht⟩) hS.2.2 dX12_writes_48
      · rw [ki_le] at c69
        refine lv_aload_n hx hb dX12_writes_8 rfl (lv_at hl 0 rfl) ?_
        refine va_get (D := (dC, dI)) (ci := 12) (v := .ref a1) (C := RX12) (T := TX12) (N := 42) hx hb hwd inlX12 hown hK hP 0 rfl rfl 1 (by decide) (hwd _ kr7_3) (fun _ h9 => h9) rfl dX12_writes_9 ?_
        refine lv_sipush (v := 274) hx hb dX12_writes_12 (by decide) ?_
        refine lv_bipush (v := 10) hx hb dX12_writes_15 (by decide) ?_
        refine lv_aload_n hx hb dX12_writes_17 rfl (lv_at hl 0 rfl) ?_
        refine va_get (D := (dC, dI)) (ci := 12) (v := .ref a1) (C := RX12) (T := TX12) (N := 42) hx hb hwd inlX12 hown hK hP 0 rfl rfl 1 (by decide) (hwd _ kr7_3) (fun _ h9 => h9) rfl dX12_writes_18 ?_
        refine lv_bipush (v := 18) hx hb dX12_writes_21 (by decide) ?_
        have h70 : vp_in (18 : Int32) 544 := (vin (by decide))
        refine va_iald hx hb hK hP 1 0 rfl rfl h70 dX12_writes_23 ?_
        refine lv_topi (fun x71 ex71 => ?_)
        have ix71 := wat_lit (k := 18) ex71 (by decide)
        have wh72 : whd cp g1_1 := hd_g1_1.1.1
        unfold whd at wh72
        have wk73 := hd_g1_1.2
        refine lv_bipush (v := 21) hx hb dX12_writes_24 (by decide) ?_
        refine lv_irem hx hb dX12_writes_26 (fun h9 => by rw [ki_eq] at h9; omega) ?_
        refine lv_topi (fun x74 ex74 => ?_)
        have tx74 := ir_pos (a := x71) (b := (21 : Int32)) (by omega) (by omega)
        rw [← ex74] at tx74
        refine lv_imul hx hb dX12_writes_27 ?_
        refine lv_topi (fun x75 ex75 => ?_)
        have tx75 := ia_mull (a := (10 : Int32)) (b := x74) 10 (by decide) (by omega) (by omega)
        rw [← ex75] at tx75
        refine lv_iadd hx hb dX12_writes_28 ?_
        refine lv_topi (fun x76 ex76 => ?_)
        have tx76 := ia_add (a := (274 : Int32)) (b := x75) (by omega) (by omega)
        rw [← ex76] at tx76
        refine lv_iload_n hx hb dX12_writes_29 rfl (lv_at hl 1 rfl) ?_
        refine lv_iadd hx hb dX12_writes_30 ?_
        refine lv_topi (fun x77 ex77 => ?_)
        have tx77 := ia_add (a := x76) (b := w1_1) (by omega) (by omega)
        rw [← ex77] at tx77
        refine lv_aload_n hx hb dX12_writes_31 rfl (lv_at hl 0 rfl) ?_
        refine va_get (D := (dC, dI)) (ci := 12) (v := .ref a1) (C := RX12) (T := TX12) (N := 42) hx hb hwd inlX12 hown hK hP 0 rfl rfl 1 (by decide) (hwd _ kr7_3) (fun _ h9 => h9) rfl dX12_writes_32 ?_
        refine lv_sipush (v := 264) hx hb dX12_writes_35 (by decide) ?_
        refine lv_iload_n hx hb dX12_writes_38 rfl (lv_at hl 1 rfl) ?_
        refine lv_iadd hx hb dX12_writes_39 ?_
        refine lv_topi (fun x78 ex78 => ?_)
        have tx78 := ia_add (a := (264 : Int32)) (b := w1_1) (by omega) (by omega)
        rw [← ex78] at tx78
        have h79 : vp_in x78 544 := (vp_of (by omega) (by omega))
        refine va_iald hx hb hK hP 1 0 rfl rfl h79 dX12_writes_40 ?_
        refine lv_topi (fun x80 ex80 => ?_)
        have ix80 : x80.toInt = (g1_1 x78.toInt.toNat).toInt := by rw [ex80]; rfl
        refine va_iast hx hb hK hP hD hS 1 0 rfl rfl (vp_of (by omega) (by omega)) dX12_writes_41 (fun H locs hP hD hS => ?_)
        obtain ⟨f81, ef81⟩ : ∃ f, f = upd g1_1 x77.toNatClampNeg x80 := ⟨_, rfl⟩
        have df81 : WJ cp f81 := by rw [ef81]; exact WJ_free hd_g1_1 (by omega) (by omega)
        have hP : va_P (dC, dI) vwCl [(a0, .inr (12, [.int i0, .ref a1, .ref a2, .ref a3, .ref a4, .int i1, .ref a5, .int i2, .int i3, .int i4, .int i5, .int i6, .int i7, .int i8, .ref a6, .ref a7, .ref a8, .ref a9, .ref a10, .ref a11, .ref a12, .int i9, .ref a13, .int i10, .ref a14, .ref a15, .int i11, .ref a16, .ref a17, .ref a18, .ref a19, .int i12, .int i13, .int i14, .int i15, .int i16, .ref a20, .long j0, .ref a21, .ref a22, .ref a23, .ref a24])), (a1, .inl (cI, 544, .inl f81))] H := by rw [ef81]; exact hP
        have hD : va_D A [(a0, .inr (12, [.int i0, .ref a1, .ref a2, .ref a3, .ref a4, .int i1, .ref a5, .int i2, .int i3, .int i4, .int i5, .int i6, .int i7, .int i8, .ref a6, .ref a7, .ref a8, .ref a9, .ref a10, .ref a11, .ref a12, .int i9, .ref a13, .int i10, .ref a14, .ref a15, .int i11, .ref a16, .ref a17, .ref a18, .ref a19, .int i12, .int i13, .int i14, .int i15, .int i16, .ref a20, .long j0, .ref a21, .ref a22, .ref a23, .ref a24])), (a1, .inl (cI, 544, .inl f81))] := by rw [ef81]; exact hD
        obtain ⟨x82, ex82⟩ : ∃ y : Int32, y = w1_1 + 1 := ⟨_, rfl⟩
        refine lv_iinc (v := x82) (lv' := [(1, .int x82), (0, .ref a0)]) hx hb dX12_writes_42 hl (k := 1) rfl (by rw [ex82]; rfl) (by decide) rfl (fun ls hl => ?_)
        have tx82 := ia_add (a := w1_1) (b := (1 : Int32)) (by omega) (by omega)
        rw [← ex82] at tx82
        refine lv_goto (tgt := 2) hx hb dX12_writes_45 (by decide) ?_
        exact ih1 _ _ ls x82 f81 (show (0 : Int) ≤ x82.toInt ∧ x82.toInt ≤ 10 from ⟨by omega, by omega⟩) (show WJ cp f81 from df81) (by omega) (hP.sub (ws' := [(a0, .inr (12, [.int i0, .ref a1, .ref a2, .ref a3, .ref a4, .int i1, .ref a5, .int i2, .int i3, .int i4, .int i5, .int i6, .int i7, .int i8, .ref a6, .ref a7, .ref a8, .ref a9, .ref a10, .ref a11, .ref a12, .int i9, .ref a13, .int i10, .ref a14, .ref a15, .int i11, .ref a16, .ref a17, .ref a18, .ref a19, .int i12, .int i13, .int i14, .int i15, .int i16, .ref a20, .long j0, .ref a21, .ref a22, .ref a23, .ref a24])), (a1, .inl (cI, 544, .inl f81))]) [0, 1] rfl) (hD.sub (ws' := [(a0, .inr (12, [.int i0, .ref a1, .ref a2, .ref a3, .ref a4, .int i1, .ref a5, .int i2, .int i3, .int i4, .int i5, .int i6, .int i7, .int i8, .ref a6, .ref a7, .ref a8, .ref a9, .ref a10, .ref a11, .ref a12, .int i9, .ref a13, .int i10, .ref a14, .ref a15, .int i11, .ref a16, .ref a17, .ref a18, .ref a19, .int i12, .int i13, .int i14, .int i15, .int i16, .ref a20, .long j0, .ref a21, .ref a22, .ref a23, .ref a24])), (a1, .inl (cI, 544, .inl f81))]) [0, 1] (by decide) rfl) hS (lv_sub hl [1, 0] rfl)
  exact lp1 _ _ _ ls (0) xF0 (show (0 : Int) ≤ (0 : Int32).toInt ∧ (0 : Int32).toInt ≤ 10 from ⟨by omega, by omega⟩) (show WJ cp xF0 from p_7) (Nat.lt_succ_self _) (hP.sub (ws' := [(a0, .inr (12, [.int i0, .ref a1, .ref a2, .ref a3, .ref a4, .int i1, .ref a5, .int i2, .int i3, .int i4, .int i5, .int i6, .int i7, .int i8, .ref a6, .ref a7, .ref a8, .ref a9, .ref a10, .ref a11, .ref a12, .int i9, .ref a13, .int i10, .ref a14, .ref a15, .int i11, .ref a16, .ref a17, .ref a18, .ref a19, .int i12, .int i13, .int i14, .int i15, .int i16, .ref a20, .long j0, .ref a21, .ref a22, .ref a23, .ref a24])), (a1, .inl (cI, 544, .inl xF0))]) [0, 1] rfl) (hD.sub (ws' := [(a0, .inr (12, [.int i0, .ref a1, .ref a2, .ref a3, .ref a4, .int i1, .ref a5, .int i2, .int i3, .int i4, .int i5, .int i6, .int i7, .int i8, .ref a6, .ref a7, .ref a8, .ref a9, .ref a10, .ref a11, .ref a12, .int i9, .ref a13, .int i10, .ref a14, .ref a15, .int i11, .ref a16, .ref a17, .ref a18, .ref a19, .int i12, .int i13, .int i14, .int i15, .int i16, .ref a20, .long j0, .ref a21, .ref a22, .ref a23, .ref a24])), (a1, .inl (cI, 544, .inl xF0))]) [0, 1] (by decide) rfl) hS (lv_sub hl [1, 0] rfl)
