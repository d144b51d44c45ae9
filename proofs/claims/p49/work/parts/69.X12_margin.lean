theorem dX12_margin_0 : decode cX12_margin 0 = .ok (.aload_n 0, 1) := by decide +kernel
theorem dX12_margin_1 : decode cX12_margin 1 = .ok (.iload_n 1, 1) := by decide +kernel
theorem dX12_margin_2 : decode cX12_margin 2 = .ok (.invokevirtual 345, 3) := by decide +kernel
theorem dX12_margin_5 : decode cX12_margin 5 = .ok (.ifCond .eq 23, 3) := by decide +kernel
theorem dX12_margin_8 : decode cX12_margin 8 = .ok (.aload_n 0, 1) := by decide +kernel
theorem dX12_margin_9 : decode cX12_margin 9 = .ok (.iload_n 2, 1) := by decide +kernel
theorem dX12_margin_10 : decode cX12_margin 10 = .ok (.invokevirtual 289, 3) := by decide +kernel
theorem dX12_margin_13 : decode cX12_margin 13 = .ok (.ifCond .eq 15, 3) := by decide +kernel
theorem dX12_margin_16 : decode cX12_margin 16 = .ok (.iload_n 3, 1) := by decide +kernel
theorem dX12_margin_17 : decode cX12_margin 17 = .ok (.i2l, 1) := by decide +kernel
theorem dX12_margin_18 : decode cX12_margin 18 = .ok (.lconst 1, 1) := by decide +kernel
theorem dX12_margin_19 : decode cX12_margin 19 = .ok (.ldc2_w 427, 3) := by decide +kernel
theorem dX12_margin_22 : decode cX12_margin 22 = .ok (.invokestatic 98, 3) := by decide +kernel
theorem dX12_margin_25 : decode cX12_margin 25 = .ok (.ifCond .ne 6, 3) := by decide +kernel
theorem dX12_margin_28 : decode cX12_margin 28 = .ok (.bipush (-2), 2) := by decide +kernel
theorem dX12_margin_30 : decode cX12_margin 30 = .ok (.ireturn, 1) := by decide +kernel
theorem dX12_margin_31 : decode cX12_margin 31 = .ok (.aload_n 0, 1) := by decide +kernel
theorem dX12_margin_32 : decode cX12_margin 32 = .ok (.iload_n 1, 1) := by decide +kernel
theorem dX12_margin_33 : decode cX12_margin 33 = .ok (.iconst 5, 1) := by decide +kernel
theorem dX12_margin_34 : decode cX12_margin 34 = .ok (.invokevirtual 254, 3) := by decide +kernel
theorem dX12_margin_37 : decode cX12_margin 37 = .ok (.istore 4, 2) := by decide +kernel
theorem dX12_margin_39 : decode cX12_margin 39 = .ok (.aload_n 0, 1) := by decide +kernel
theorem dX12_margin_40 : decode cX12_margin 40 = .ok (.iload_n 1, 1) := by decide +kernel
theorem dX12_margin_41 : decode cX12_margin 41 = .ok (.iconst 5, 1) := by decide +kernel
theorem dX12_margin_42 : decode cX12_margin 42 = .ok (.iconst 0, 1) := by decide +kernel
theorem dX12_margin_43 : decode cX12_margin 43 = .ok (.invokevirtual 348, 3) := by decide +kernel
theorem dX12_margin_46 : decode cX12_margin 46 = .ok (.aload_n 0, 1) := by decide +kernel
theorem dX12_margin_47 : decode cX12_margin 47 = .ok (.iload_n 2, 1) := by decide +kernel
theorem dX12_margin_48 : decode cX12_margin 48 = .ok (.iload_n 3, 1) := by decide +kernel
theorem dX12_margin_49 : decode cX12_margin 49 = .ok (.invokevirtual 429, 3) := by decide +kernel
theorem dX12_margin_52 : decode cX12_margin 52 = .ok (.lstore 5, 2) := by decide +kernel
theorem dX12_margin_54 : decode cX12_margin 54 = .ok (.iconst 0, 1) := by decide +kernel
theorem dX12_margin_55 : decode cX12_margin 55 = .ok (.istore 7, 2) := by decide +kernel
theorem dX12_margin_57 : decode cX12_margin 57 = .ok (.iconst 1, 1) := by decide +kernel
theorem dX12_margin_58 : decode cX12_margin 58 = .ok (.istore 8, 2) := by decide +kernel
theorem dX12_margin_60 : decode cX12_margin 60 = .ok (.iload 8, 2) := by decide +kernel
theorem dX12_margin_62 : decode cX12_margin 62 = .ok (.ifCond .eq 61, 3) := by decide +kernel
theorem dX12_margin_65 : decode cX12_margin 65 = .ok (.iload 7, 2) := by decide +kernel
theorem dX12_margin_67 : decode cX12_margin 67 = .ok (.aload_n 0, 1) := by decide +kernel
theorem dX12_margin_68 : decode cX12_margin 68 = .ok (.iload_n 1, 1) := by decide +kernel
theorem dX12_margin_69 : decode cX12_margin 69 = .ok (.iconst 3, 1) := by decide +kernel
theorem dX12_margin_70 : decode cX12_margin 70 = .ok (.invokevirtual 254, 3) := by decide +kernel
theorem dX12_margin_73 : decode cX12_margin 73 = .ok (.if_icmp .ge 50, 3) := by decide +kernel
theorem dX12_margin_76 : decode cX12_margin 76 = .ok (.aload_n 0, 1) := by decide +kernel
theorem dX12_margin_77 : decode cX12_margin 77 = .ok (.iload_n 1, 1) := by decide +kernel
theorem dX12_margin_78 : decode cX12_margin 78 = .ok (.iconst 5, 1) := by decide +kernel
theorem dX12_margin_79 : decode cX12_margin 79 = .ok (.iload 7, 2) := by decide +kernel
theorem dX12_margin_81 : decode cX12_margin 81 = .ok (.iconst 1, 1) := by decide +kernel
theorem dX12_margin_82 : decode cX12_margin 82 = .ok (.iadd, 1) := by decide +kernel
theorem dX12_margin_83 : decode cX12_margin 83 = .ok (.invokevirtual 348, 3) := by decide +kernel
theorem dX12_margin_86 : decode cX12_margin 86 = .ok (.aload_n 0, 1) := by decide +kernel
theorem dX12_margin_87 : decode cX12_margin 87 = .ok (.iload_n 2, 1) := by decide +kernel
theorem dX12_margin_88 : decode cX12_margin 88 = .ok (.iload_n 3, 1) := by decide +kernel
theorem dX12_margin_89 : decode cX12_margin 89 = .ok (.invokevirtual 429, 3) := by decide +kernel
theorem dX12_margin_92 : decode cX12_margin 92 = .ok (.lload 5, 2) := by decide +kernel
theorem dX12_margin_94 : decode cX12_margin 94 = .ok (.lcmp, 1) := by decide +kernel
theorem dX12_margin_95 : decode cX12_margin 95 = .ok (.ifCond .ne 7, 3) := by decide +kernel
theorem dX12_margin_98 : decode cX12_margin 98 = .ok (.iconst 1, 1) := by decide +kernel
theorem dX12_margin_99 : decode cX12_margin 99 = .ok (.goto 4, 3) := by decide +kernel
theorem dX12_margin_102 : decode cX12_margin 102 = .ok (.iconst 0, 1) := by decide +kernel
theorem dX12_margin_103 : decode cX12_margin 103 = .ok (.istore 8, 2) := by decide +kernel
theorem dX12_margin_105 : decode cX12_margin 105 = .ok (.iload 7, 2) := by decide +kernel
theorem dX12_margin_107 : decode cX12_margin 107 = .ok (.iload 8, 2) := by decide +kernel
theorem dX12_margin_109 : decode cX12_margin 109 = .ok (.ifCond .eq 7, 3) := by decide +kernel
theorem dX12_margin_112 : decode cX12_margin 112 = .ok (.iconst 1, 1) := by decide +kernel
theorem dX12_margin_113 : decode cX12_margin 113 = .ok (.goto 4, 3) := by decide +kernel
theorem dX12_margin_116 : decode cX12_margin 116 = .ok (.iconst 0, 1) := by decide +kernel
theorem dX12_margin_117 : decode cX12_margin 117 = .ok (.iadd, 1) := by decide +kernel
theorem dX12_margin_118 : decode cX12_margin 118 = .ok (.istore 7, 2) := by decide +kernel
theorem dX12_margin_120 : decode cX12_margin 120 = .ok (.goto (-60), 3) := by decide +kernel
theorem dX12_margin_123 : decode cX12_margin 123 = .ok (.aload_n 0, 1) := by decide +kernel
theorem dX12_margin_124 : decode cX12_margin 124 = .ok (.iload_n 1, 1) := by decide +kernel
theorem dX12_margin_125 : decode cX12_margin 125 = .ok (.iconst 5, 1) := by decide +kernel
theorem dX12_margin_126 : decode cX12_margin 126 = .ok (.iload 4, 2) := by decide +kernel
theorem dX12_margin_128 : decode cX12_margin 128 = .ok (.invokevirtual 348, 3) := by decide +kernel
theorem dX12_margin_131 : decode cX12_margin 131 = .ok (.iload 7, 2) := by decide +kernel
theorem dX12_margin_133 : decode cX12_margin 133 = .ok (.ireturn, 1) := by decide +kernel
set_option maxHeartbeats 4000000 in
set_option maxRecDepth 100000 in
theorem s_X12_margin (l : Launch) (dC : Nat → ClassId) (dI : Nat → Nat → Nat) (cI cZ cB cJ cM cG : ClassId) (a0 a1 a2 a3 a4 a5 a6 a7 a8 a9 a10 a11 a12 a13 a14 a15 a16 a17 a18 a19 a20 a21 a22 a23 a24 : Nat) (i0 i1 i2 i3 i4 i5 i6 i7 i8 i9 i10 i11 i12 i13 i14 i15 i16 : Int32) (j0 : Int64) (xF0 xF6 xF7 xF8 xF10 : Nat → Int32) (p0 p1 p2 : Int32) (cp : Int) (sz : Nat) (p_0 : (0 : Int) ≤ i1.toInt ∧ i1.toInt ≤ 1600) (p_1 : (0 : Int) ≤ i2.toInt ∧ i2.toInt ≤ 1600) (p_2 : (0 : Int) ≤ i3.toInt ∧ i3.toInt ≤ 1600) (p_3 : (0 : Int) ≤ i4.toInt ∧ i4.toInt ≤ 1600) (p_4 : (0 : Int) ≤ i5.toInt ∧ i5.toInt ≤ 6) (p_5 : (0 : Int) ≤ i7.toInt ∧ i7.toInt ≤ 3) (p_6 : (0 : Int) ≤ i11.toInt ∧ i11.toInt ≤ 59) (p_7 : WI cp xF0) (p_8 : 0 ≤ cp ∧ cp ≤ 2000000000) : Met l yX12_margin (kw yX12_margin cX12_margin 9 (some .int)) ({ frames := 7, cells := 0, slots := 0, locals := 165 } : Room) (va_Pc [.ref a0, .int p0, .int p1, .int p2] (kPre dC dI [(cI, .int), (cZ, .boolean), (cB, .byte), (cJ, .long), (cM, .object RX2), (cG, .array .int)] [(a0, .inr (12, [.int i0, .ref a1, .ref a2, .ref a3, .ref a4, .int i1, .ref a5, .int i2, .int i3, .int i4, .int i5, .int i6, .int i7, .int i8, .ref a6, .ref a7, .ref a8, .ref a9, .ref a10, .ref a11, .ref a12, .int i9, .ref a13, .int i10, .ref a14, .ref a15, .int i11, .ref a16, .ref a17, .ref a18, .ref a19, .int i12, .int i13, .int i14, .int i15, .int i16, .ref a20, .long j0, .ref a21, .ref a22, .ref a23, .ref a24])), (a1, .inl (cI, 544, .inl xF0)), (a7, .inl (cI, 360, .inl xF6)), (a8, .inl (cI, 600, .inl xF7)), (a9, .inl (cI, 60, .inl xF8)), (a11, .inl (cI, 600, .inl xF10))] sz)) (va_Qi (fun (r : Int32) (u9 : (Nat → Int32) × (Nat → Nat → Int32) × (Nat → Nat → Int64)) => ((-2 : Int) ≤ r.toInt ∧ r.toInt ≤ 60) ∧ (WI cp (u9.2.1 0)) ∧ True) (fun u9 t => va_P (dC, dI) vwCl [(a0, .inr (12, [.int i0, .ref a1, .ref a2, .ref a3, .ref a4, .int i1, .ref a5, .int i2, .int i3, .int i4, .int i5, .int i6, .int i7, .int i8, .ref a6, .ref a7, .ref a8, .ref a9, .ref a10, .ref a11, .ref a12, .int i9, .ref a13, .int i10, .ref a14, .ref a15, .int i11, .ref a16, .ref a17, .ref a18, .ref a19, .int i12, .int i13, .int i14, .int i15, .int i16, .ref a20, .long j0, .ref a21, .ref a22, .ref a23, .ref a24])), (a1, .inl (cI, 544, .inl (u9.2.1 0))), (a7, .inl (cI, 360, .inl (u9.2.1 1))), (a8, .inl (cI, 600, .inl (u9.2.1 2))), (a9, .inl (cI, 60, .inl (u9.2.1 3))), (a11, .inl (cI, 600, .inl (u9.2.1 4)))] t.heap ∧ va_D (va_A [(a0, .inr (12, [.int i0, .ref a1, .ref a2, .ref a3, .ref a4, .int i1, .ref a5, .int i2, .int i3, .int i4, .int i5, .int i6, .int i7, .int i8, .ref a6, .ref a7, .ref a8, .ref a9, .ref a10, .ref a11, .ref a12, .int i9, .ref a13, .int i10, .ref a14, .ref a15, .int i11, .ref a16, .ref a17, .ref a18, .ref a19, .int i12, .int i13, .int i14, .int i15, .int i16, .ref a20, .long j0, .ref a21, .ref a22, .ref a23, .ref a24])), (a1, .inl (cI, 544, .inl xF0)), (a7, .inl (cI, 360, .inl xF6)), (a8, .inl (cI, 600, .inl xF7)), (a9, .inl (cI, 60, .inl xF8)), (a11, .inl (cI, 600, .inl xF10))] sz) [(a0, .inr (12, [.int i0, .ref a1, .ref a2, .ref a3, .ref a4, .int i1, .ref a5, .int i2, .int i3, .int i4, .int i5, .int i6, .int i7, .int i8, .ref a6, .ref a7, .ref a8, .ref a9, .ref a10, .ref a11, .ref a12, .int i9, .ref a13, .int i10, .ref a14, .ref a15, .int i11, .ref a16, .ref a17, .ref a18, .ref a19, .int i12, .int i13, .int i14, .int i15, .int i16, .ref a20, .long j0, .ref a21, .ref a22, .ref a23, .ref a24])), (a1, .inl (cI, 544, .inl (u9.2.1 0))), (a7, .inl (cI, 360, .inl (u9.2.1 1))), (a8, .inl (cI, 600, .inl (u9.2.1 2))), (a9, .inl (cI, 60, .inl (u9.2.1 3))), (a11, .inl (cI, 600, .inl (u9.2.1 4)))]) (va_A [(a0, .inr (12, [.int i0, .ref a1, .ref a2, .ref a3, .ref a4, .int i1, .ref a5, .int i2, .int i3, .int i4, .int i5, .int i6, .int i7, .int i8, .ref a6, .ref a7, .ref a8, .ref a9, .ref a10, .ref a11, .ref a12, .int i9, .ref a13, .int i10, .ref a14, .ref a15, .int i11, .ref a16, .ref a17, .ref a18, .ref a19, .int i12, .int i13, .int i14, .int i15, .int i16, .ref a20, .long j0, .ref a21, .ref a22, .ref a23, .ref a24])), (a1, .inl (cI, 544, .inl xF0)), (a7, .inl (cI, 360, .inl xF6)), (a8, .inl (cI, 600, .inl xF7)), (a9, .inl (cI, 60, .inl xF8)), (a11, .inl (cI, 600, .inl xF10))] sz)) 0 0 (va_A [(a0, .inr (12, [.int i0, .ref a1, .ref a2, .ref a3, .ref a4, .int i1, .ref a5, .int i2, .int i3, .int i4, .int i5, .int i6, .int i7, .int i8, .ref a6, .ref a7, .ref a8, .ref a9, .ref a10, .ref a11, .ref a12, .int i9, .ref a13, .int i10, .ref a14, .ref a15, .int i11, .ref a16, .ref a17, .ref a18, .ref a19, .int i12, .int i13, .int i14, .int i15, .int i16, .ref a20, .long j0, .ref a21, .ref a22, .ref a23, .ref a24])), (a1, .inl (cI, 544, .inl xF0)), (a7, .inl (cI, 360, .inl xF6)), (a8, .inl (cI, 600, .inl xF7)), (a9, .inl (cI, 60, .inl xF8)), (a11, .inl (cI, 600, .inl xF10))] sz) := by
  refine kEnter (by decide) (Nat.le_of_ble_eq_true rfl) ?_
  intro p e s m below meth c ls hx hb hr hml hown hlocks hin hwd hsz hP hK hD hl
  subst hsz
  generalize hAe : va_A [(a0, .inr (12, [.int i0, .ref a1, .ref a2, .ref a3, .ref a4, .int i1, .ref a5, .int i2, .int i3, .int i4, .int i5, .int i6, .int i7, .int i8, .ref a6, .ref a7, .ref a8, .ref a9, .ref a10, .ref a11, .ref a12, .int i9, .ref a13, .int i10, .ref a14, .ref a15, .int i11, .ref a16, .ref a17, .ref a18, .ref a19, .int i12, .int i13, .int i14, .int i15, .int i16, .ref a20, .long j0, .ref a21, .ref a22, .ref a23, .ref a24])), (a1, .inl (cI, 544, .inl xF0)), (a7, .inl (cI, 360, .inl xF6)), (a8, .inl (cI, 600, .inl xF7)), (a9, .inl (cI, 60, .inl xF8)), (a11, .inl (cI, 600, .inl xF10))] s.heap.size = A at hD ⊢
  have hA : ∀ q : Nat, s.heap.size ≤ q → A q := fun q h => by rw [← hAe]; exact Or.inr h
  have hS : va_S A s.heap s.heap [] := va_S.rf
  have hl : lv_has ls 9 [(0, .ref a0), (1, .int p0), (2, .int p1), (3, .int p2)] := hl
  obtain ⟨Q, hQ⟩ : ∃ Q, Q = MQ below (va_Qi (fun (r : Int32) (u9 : (Nat → Int32) × (Nat → Nat → Int32) × (Nat → Nat → Int64)) => ((-2 : Int) ≤ r.toInt ∧ r.toInt ≤ 60) ∧ (WI cp (u9.2.1 0)) ∧ True) (fun u9 t => va_P (dC, dI) vwCl [(a0, .inr (12, [.int i0, .ref a1, .ref a2, .ref a3, .ref a4, .int i1, .ref a5, .int i2, .int i3, .int i4, .int i5, .int i6, .int i7, .int i8, .ref a6, .ref a7, .ref a8, .ref a9, .ref a10, .ref a11, .ref a12, .int i9, .ref a13, .int i10, .ref a14, .ref a15, .int i11, .ref a16, .ref a17, .ref a18, .ref a19, .int i12, .int i13, .int i14, .int i15, .int i16, .ref a20, .long j0, .ref a21, .ref a22, .ref a23, .ref a24])), (a1, .inl (cI, 544, .inl (u9.2.1 0))), (a7, .inl (cI, 360, .inl (u9.2.1 1))), (a8, .inl (cI, 600, .inl (u9.2.1 2))), (a9, .inl (cI, 60, .inl (u9.2.1 3))), (a11, .inl (cI, 600, .inl (u9.2.1 4)))] t.heap ∧ va_D A [(a0, .inr (12, [.int i0, .ref a1, .ref a2, .ref a3, .ref a4, .int i1, .ref a5, .int i2, .int i3, .int i4, .int i5, .int i6, .int i7, .int i8, .ref a6, .ref a7, .ref a8, .ref a9, .ref a10, .ref a11, .ref a12, .int i9, .ref a13, .int i10, .ref a14, .ref a15, .int i11, .ref a16, .ref a17, .ref a18, .ref a19, .int i12, .int i13, .int i14, .int i15, .int i16, .ref a20, .long j0, .ref a21, .ref a22, .ref a23, .ref a24])), (a1, .inl (cI, 544, .inl (u9.2.1 0))), (a7, .inl (cI, 360, .inl (u9.2.1 1))), (a8, .inl (cI, 600, .inl (u9.2.1 2))), (a9, .inl (cI, 60, .inl (u9.2.1 3))), (a11, .inl (cI, 600, .inl (u9.2.1 4)))]) A) ([.ref a0, .int p0, .int p1, .int p2] : List Value).toArray s 0 0 A := ⟨_, rfl⟩
  rw [← hQ]
  have km2 : ((-2) : Int32).toInt = -2 := by decide
  have k0 : (0 : Int32).toInt = 0 := by decide
  have k1 : (1 : Int32).toInt = 1 := by decide
  have k3 : (3 : Int32).toInt = 3 := by decide
  have k5 : (5 : Int32).toInt = 5 := by decide
  have k9 : (9 : Int32).toInt = 9 := by decide
  have k23 : (23 : Int32).toInt = 23 := by decide
  have k99 : (99 : Int32).toInt = 99 := by decide
  refine lv_aload_n hx hb dX12_margin_0 rfl (lv_at hl 0 rfl) ?_
  refine lv_iload_n hx hb dX12_margin_1 rfl (lv_at hl 1 rfl) ?_
  have hPc := hP.sub (ws' := [(a0, .inr (12, [.int i0, .ref a1, .ref a2, .ref a3, .ref a4, .int i1, .ref a5, .int i2, .int i3, .int i4, .int i5, .int i6, .int i7, .int i8, .ref a6, .ref a7, .ref a8, .ref a9, .ref a10, .ref a11, .ref a12, .int i9, .ref a13, .int i10, .ref a14, .ref a15, .int i11, .ref a16, .ref a17, .ref a18, .ref a19, .int i12, .int i13, .int i14, .int i15, .int i16, .ref a20, .long j0, .ref a21, .ref a22, .ref a23, .ref a24])), (a1, .inl (cI, 544, .inl xF0))]) [0, 1] rfl
  have hDc := hD.sub (ws' := [(a0, .inr (12, [.int i0, .ref a1, .ref a2, .ref a3, .ref a4, .int i1, .ref a5, .int i2, .int i3, .int i4, .int i5, .int i6, .int i7, .int i8, .ref a6, .ref a7, .ref a8, .ref a9, .ref a10, .ref a11, .ref a12, .int i9, .ref a13, .int i10, .ref a14, .ref a15, .int i11, .ref a16, .ref a17, .ref a18, .ref a19, .int i12, .int i13, .int i14, .int i15, .int i16, .ref a20, .long j0, .ref a21, .ref a22, .ref a23, .ref a24])), (a1, .inl (cI, 544, .inl xF0))]) [0, 1] (by decide) rfl
  have hFc := va_free (wc := [(a0, .inr (12, [.int i0, .ref a1, .ref a2, .ref a3, .ref a4, .int i1, .ref a5, .int i2, .int i3, .int i4, .int i5, .int i6, .int i7, .int i8, .ref a6, .ref a7, .ref a8, .ref a9, .ref a10, .ref a11, .ref a12, .int i9, .ref a13, .int i10, .ref a14, .ref a15, .int i11, .ref a16, .ref a17, .ref a18, .ref a19, .int i12, .int i13, .int i14, .int i15, .int i16, .ref a20, .long j0, .ref a21, .ref a22, .ref a23, .ref a24])), (a1, .inl (cI, 544, .inl xF0))]) hD hS hA [0, 1] rfl
  refine va_calli (va_runV (As := [.int p0]) (rest := []) ⟨hx, hb, hml, hown, hwd⟩ (s_X12_isNose l dC dI cI cZ cB cJ cM cG a0 a1 a2 a3 a4 a5 a6 a7 a8 a9 a10 a11 a12 a13 a14 a15 a16 a17 a18 a19 a20 a21 a22 a23 a24 i0 i1 i2 i3 i4 i5 i6 i7 i8 i9 i10 i11 i12 i13 i14 i15 i16 j0 xF0 p0 cp s.heap.size (show (0 : Int) ≤ i1.toInt ∧ i1.toInt ≤ 1600 from p_0) (show (0 : Int) ≤ i2.toInt ∧ i2.toInt ≤ 1600 from p_1) (show (0 : Int) ≤ i3.toInt ∧ i3.toInt ≤ 1600 from p_2) (show (0 : Int) ≤ i4.toInt ∧ i4.toInt ≤ 1600 from p_3) (show (0 : Int) ≤ i5.toInt ∧ i5.toInt ≤ 6 from p_4) (show (0 : Int) ≤ i7.toInt ∧ i7.toInt ≤ 3 from p_5) (show (0 : Int) ≤ i11.toInt ∧ i11.toInt ≤ 59 from p_6) (show WI cp xF0 from p_7) p_8) (cwV 1 hwd (gV kr60_17 kr60_18 kr4_10 kr5_23 kr60_19) rfl rfl rfl (by decide +kernel) ⟨Nat.le_of_ble_eq_true rfl, Nat.le_of_ble_eq_true rfl⟩) (kPreV hPc hK hDc (ci := 12) (q0 := 0) rfl rfl) rfl rfl hl.1 rfl (lv_room (Nat.le_of_ble_eq_true rfl)) dX12_margin_2 ⟨Nat.le_of_ble_eq_true rfl, Nat.le_of_ble_eq_true rfl⟩) hS (fun q _ h => hFc q h) hFc (fun r1 u2 t H1 locs ht9 hvm hw hB hz1 hk1 hS => ?_)
  obtain ⟨hw3, hw4, -⟩ := hw
  replace hw3 : (0 : Int) ≤ r1.toInt ∧ r1.toInt ≤ 1 := hw3
  obtain ⟨hP1, hD1⟩ := hB
  rw [ht9] at hP1
  obtain ⟨hP, hD⟩ := va_join (wr := [(a7, .inl (cI, 360, .inl xF6)), (a8, .inl (cI, 600, .inl xF7)), (a9, .inl (cI, 60, .inl xF8)), (a11, .inl (cI, 600, .inl xF10))]) (w1 := [(a0, .inr (12, [.int i0, .ref a1, .ref a2, .ref a3, .ref a4, .int i1, .ref a5, .int i2, .int i3, .int i4, .int i5, .int i6, .int i7, .int i8, .ref a6, .ref a7, .ref a8, .ref a9, .ref a10, .ref a11, .ref a12, .int i9, .ref a13, .int i10, .ref a14, .ref a15, .int i11, .ref a16, .ref a17, .ref a18, .ref a19, .int i12, .int i13, .int i14, .int i15, .int i16, .ref a20, .long j0, .ref a21, .ref a22, .ref a23, .ref a24])), (a1, .inl (cI, 544, .inl xF0))]) hP hD [0, 1] [2, 3, 4, 5] rfl rfl (by decide) (by decide) hk1 hFc hP1 hD1
  generalize H1 = H at hP hS ⊢
  replace hP : va_P (dC, dI) vwCl [(a7, .inl (cI, 360, .inl xF6)), (a8, .inl (cI, 600, .inl xF7)), (a9, .inl (cI, 60, .inl xF8)), (a11, .inl (cI, 600, .inl xF10)), (a0, .inr (12, [.int i0, .ref a1, .ref a2, .ref a3, .ref a4, .int i1, .ref a5, .int i2, .int i3, .int i4, .int i5, .int i6, .int i7, .int i8, .ref a6, .ref a7, .ref a8, .ref a9, .ref a10, .ref a11, .ref a12, .int i9, .ref a13, .int i10, .ref a14, .ref a15, .int i11, .ref a16, .ref a17, .ref a18, .ref a19, .int i12, .int i13, .int i14, .int i15, .int i16, .ref a20, .long j0, .ref a21, .ref a22, .ref a23, .ref a24])), (a1, .inl (cI, 544, .inl xF0))] H := hP
  replace hD : va_D A [(a7, .inl (cI, 360, .inl xF6)), (a8, .inl (cI, 600, .inl xF7)), (a9, .inl (cI, 60, .inl xF8)), (a11, .inl (cI, 600, .inl xF10)), (a0, .inr (12, [.int i0, .ref a1, .ref a2, .ref a3, .ref a4, .int i1, .ref a5, .int i2, .int i3, .int i4, .int i5, .int i6, .int i7, .int i8, .ref a6, .ref a7, .ref a8, .ref a9, .ref a10, .ref a11, .ref a12, .int i9, .ref a13, .int i10, .ref a14, .ref a15, .int i11, .ref a16, .ref a17, .ref a18, .ref a19, .int i12, .int i13, .int i14, .int i15, .int i16, .ref a20, .long j0, .ref a21, .ref a22, .ref a23, .ref a24])), (a1, .inl (cI, 544, .inl xF0))] := hD
  refine lv_if_eq (tgt := 28) hx hb dX12_margin_5 (by decide) (fun c5 => ?_) (fun c5 => ?_)
  · rw [ki_eq] at c5
    refine lv_bipush (v := (-2)) hx hb dX12_margin_28 (by decide) ?_
    have hP9 := hP.sub (ws' := [(a0, .inr (12, [.int i0, .ref a1, .ref a2, .ref a3, .ref a4, .int i1, .ref a5, .int i2, .int i3, .int i4, .int i5, .int i6, .int i7, .int i8, .ref a6, .ref a7, .ref a8, .ref a9, .ref a10, .ref a11, .ref a12, .int i9, .ref a13, .int i10, .ref a14, .ref a15, .int i11, .ref a16, .ref a17, .ref a18, .ref a19, .int i12, .int i13, .int i14, .int i15, .int i16, .ref a20, .long j0, .ref a21, .ref a22, .ref a23, .ref a24])), (a1, .inl (cI, 544, .inl xF0)), (a7, .inl (cI, 360, .inl xF6)), (a8, .inl (cI, 600, .inl xF7)), (a9, .inl (cI, 60, .inl xF8)), (a11, .inl (cI, 600, .inl xF10))]) [4, 5, 0, 1, 2, 3] rfl
    have hD9 := hD.sub (ws' := [(a0, .inr (12, [.int i0, .ref a1, .ref a2, .ref a3, .ref a4, .int i1, .ref a5, .int i2, .int i3, .int i4, .int i5, .int i6, .int i7, .int i8, .ref a6, .ref a7, .ref a8, .ref a9, .ref a10, .ref a11, .ref a12, .int i9, .ref a13, .int i10, .ref a14, .ref a15, .int i11, .ref a16, .ref a17, .ref a18, .ref a19, .int i12, .int i13, .int i14, .int i15, .int i16, .ref a20, .long j0, .ref a21, .ref a22, .ref a23, .ref a24])), (a1, .inl (cI, 544, .inl xF0)), (a7, .inl (cI, 360, .inl xF6)), (a8, .inl (cI, 600, .inl xF7)), (a9, .inl (cI, 60, .inl xF8)), (a11, .inl (cI, 600, .inl xF10))]) [4, 5, 0, 1, 2, 3] (by decide) rfl
    rw [hQ]
    exact W.iret (v := (-2)) hx hb hr (fun t ht hW => ⟨⟨(-2), (pickG 0 [], pickG (fun _ => 0) [xF0, xF6, xF7, xF8, xF10], pickG (fun _ => 0) []), rfl, ⟨(show (-2 : Int) ≤ ((-2) : Int32).toInt ∧ ((-2) : Int32).toInt ≤ 60 from ⟨by omega, by omega⟩), (show WI cp xF0 from p_7), trivial⟩, (by rw [ht]; exact hP9), hD9⟩, hS.F ht⟩) hS.2.2 dX12_margin_30
  · rw [ki_eq] at c5
    have hw4q := hw4 (by omega)
    clear hw4
    refine lv_aload_n hx hb dX12_margin_8 rfl (lv_at hl 0 rfl) ?_
    refine lv_iload_n hx hb dX12_margin_9 rfl (lv_at hl 2 rfl) ?_
    have hPc := hP.sub (ws' := [(a0, .inr (12, [.int i0, .ref a1, .ref a2, .ref a3, .ref a4, .int i1, .ref a5, .int i2, .int i3, .int i4, .int i5, .int i6, .int i7, .int i8, .ref a6, .ref a7, .ref a8, .ref a9, .ref a10, .ref a11, .ref a12, .int i9, .ref a13, .int i10, .ref a14, .ref a15, .int i11, .ref a16, .ref a17, .ref a18, .ref a19, .int i12, .int i13, .int i14, .int i15, .int i16, .ref a20, .long j0, .ref a21, .ref a22, .ref a23, .ref a24])), (a1, .inl (cI, 544, .inl xF0))]) [4, 5] rfl
    have hDc := hD.sub (ws' := [(a0, .inr (12, [.int i0, .ref a1, .ref a2, .ref a3, .ref a4, .int i1, .ref a5, .int i2, .int i3, .int i4, .int i5, .int i6, .int i7, .int i8, .ref a6, .ref a7, .ref a8, .ref a9, .ref a10, .ref a11, .ref a12, .int i9, .ref a13, .int i10, .ref a14, .ref a15, .int i11, .ref a16, .ref a17, .ref a18, .ref a19, .int i12, .int i13, .int i14, .int i15, .int i16, .ref a20, .long j0, .ref a21, .ref a22, .ref a23, .ref a24])), (a1, .inl (cI, 544, .inl xF0))]) [4, 5] (by decide) rfl
    have hFc := va_free (wc := [(a0, .inr (12, [.int i0, .ref a1, .ref a2, .ref a3, .ref a4, .int i1, .ref a5, .int i2, .int i3, .int i4, .int i5, .int i6, .int i7, .int i8, .ref a6, .ref a7, .ref a8, .ref a9, .ref a10, .ref a11, .ref a12, .int i9, .ref a13, .int i10, .ref a14, .ref a15, .int i11, .ref a16, .ref a17, .ref a18, .ref a19, .int i12, .int i13, .int i14, .int i15, .int i16, .ref a20, .long j0, .ref a21, .ref a22, .ref a23, .ref a24])), (a1, .inl (cI, 544, .inl xF0))]) hD hS hA [4, 5] rfl
    refine va_calli (va_runV (As := [.int p1]) (rest := []) ⟨hx, hb, hml, hown, hwd⟩ (s_X12_isFollower l dC dI cI cZ cB cJ cM cG a0 a1 a2 a3 a4 a5 a6 a7 a8 a9 a10 a11 a12 a13 a14 a15 a16 a17 a18 a19 a20 a21 a22 a23 a24 i0 i1 i2 i3 i4 i5 i6 i7 i8 i9 i10 i11 i12 i13 i14 i15 i16 j0 xF0 p1 cp H.size (show (0 : Int) ≤ i1.toInt ∧ i1.toInt ≤ 1600 from p_0) (show (0 : Int) ≤ i2.toInt ∧ i2.toInt ≤ 1600 from p_1) (show (0 : Int) ≤ i3.toInt ∧ i3.toInt ≤ 1600 from p_2) (show (0 : Int) ≤ i4.toInt ∧ i4.toInt ≤ 1600 from p_3) (show (0 : Int) ≤ i5.toInt ∧ i5.toInt ≤ 6 from p_4) (show (0 : Int) ≤ i7.toInt ∧ i7.toInt ≤ 3 from p_5) (show (0 : Int) ≤ i11.toInt ∧ i11.toInt ≤ 59 from p_6) (show WI cp xF0 from p_7) p_8) (cwV 1 hwd (gV kr56_16 kr56_17 kr3_22 kr5_23 kr56_18) rfl rfl rfl (by decide +kernel) ⟨Nat.le_of_ble_eq_true rfl, Nat.le_of_ble_eq_true rfl⟩) (kPreV hPc hK hDc (ci := 12) (q0 := 0) rfl rfl) rfl rfl hl.1 rfl (lv_room (Nat.le_of_ble_eq_true rfl)) dX12_margin_10 ⟨Nat.le_of_ble_eq_true rfl, Nat.le_of_ble_eq_true rfl⟩) hS (fun q _ h => hFc q h) hFc (fun r6 u7 t H1 locs ht9 hvm hw hB hz1 hk1 hS => ?_)
    obtain ⟨hw8, hw9, -⟩ := hw
    replace hw8 : (0 : Int) ≤ r6.toInt ∧ r6.toInt ≤ 1 := hw8
    obtain ⟨hP1, hD1⟩ := hB
    rw [ht9] at hP1
    obtain ⟨hP, hD⟩ := va_join (wr := [(a7, .inl (cI, 360, .inl xF6)), (a8, .inl (cI, 600, .inl xF7)), (a9, .inl (cI, 60, .inl xF8)), (a11, .inl (cI, 600, .inl xF10))]) (w1 := [(a0, .inr (12, [.int i0, .ref a1, .ref a2, .ref a3, .ref a4, .int i1, .ref a5, .int i2, .int i3, .int i4, .int i5, .int i6, .int i7, .int i8, .ref a6, .ref a7, .ref a8, .ref a9, .ref a10, .ref a11, .ref a12, .int i9, .ref a13, .int i10, .ref a14, .ref a15, .int i11, .ref a16, .ref a17, .ref a18, .ref a19, .int i12, .int i13, .int i14, .int i15, .int i16, .ref a20, .long j0, .ref a21, .ref a22, .ref a23, .ref a24])), (a1, .inl (cI, 544, .inl xF0))]) hP hD [4, 5] [0, 1, 2, 3] rfl rfl (by decide) (by decide) hk1 hFc hP1 hD1
    generalize H1 = H at hP hS ⊢
    replace hP : va_P (dC, dI) vwCl [(a7, .inl (cI, 360, .inl xF6)), (a8, .inl (cI, 600, .inl xF7)), (a9, .inl (cI, 60, .inl xF8)), (a11, .inl (cI, 600, .inl xF10)), (a0, .inr (12, [.int i0, .ref a1, .ref a2, .ref a3, .ref a4, .int i1, .ref a5, .int i2, .int i3, .int i4, .int i5, .int i6, .int i7, .int i8, .ref a6, .ref a7, .ref a8, .ref a9, .ref a10, .ref a11, .ref a12, .int i9, .ref a13, .int i10, .ref a14, .ref a15, .int i11, .ref a16, .ref a17, .ref a18, .ref a19, .int i12, .int i13, .int i14, .int i15, .int i16, .ref a20, .long j0, .ref a21, .ref a22, .ref a23, .ref a24])), (a1, .inl (cI, 544, .inl xF0))] H := hP
    replace hD : va_D A [(a7, .inl (cI, 360, .inl xF6)), (a8, .inl (cI, 600, .inl xF7)), (a9, .inl (cI, 60, .inl xF8)), (a11, .inl (cI, 600, .inl xF10)), (a0, .inr (12, [.int i0, .ref a1, .ref a2, .ref a3, .ref a4, .int i1, .ref a5, .int i2, .int i3, .int i4, .int i5, .int i6, .int i7, .int i8, .ref a6, .ref a7, .ref a8, .ref a9, .ref a10, .ref a11, .ref a12, .int i9, .ref a13, .int i10, .ref a14, .ref a15, .int i11, .ref a16, .ref a17, .ref a18, .ref a19, .int i12, .int i13, .int i14, .int i15, .int i16, .ref a20, .long j0, .ref a21, .ref a22, .ref a23, .ref a24])), (a1, .inl (cI, 544, .inl xF0))] := hD
    refine lv_if_eq (tgt := 28) hx hb dX12_margin_13 (by decide) (fun c10 => ?_) (fun c10 => ?_)
    · rw [ki_eq] at c10
      refine lv_bipush (v := (-2)) hx hb dX12_margin_28 (by decide) ?_
      have hP9 := hP.sub (ws' := [(a0, .inr (12, [.int i0, .ref a1, .ref a2, .ref a3, .ref a4, .int i1, .ref a5, .int i2, .int i3, .int i4, .int i5, .int i6, .int i7, .int i8, .ref a6, .ref a7, .ref a8, .ref a9, .ref a10, .ref a11, .ref a12, .int i9, .ref a13, .int i10, .ref a14, .ref a15, .int i11, .ref a16, .ref a17, .ref a18, .ref a19, .int i12, .int i13, .int i14, .int i15, .int i16, .ref a20, .long j0, .ref a21, .ref a22, .ref a23, .ref a24])), (a1, .inl (cI, 544, .inl xF0)), (a7, .inl (cI, 360, .inl xF6)), (a8, .inl (cI, 600, .inl xF7)), (a9, .inl (cI, 60, .inl xF8)), (a11, .inl (cI, 600, .inl xF10))]) [4, 5, 0, 1, 2, 3] rfl
      have hD9 := hD.sub (ws' := [(a0, .inr (12, [.int i0, .ref a1, .ref a2, .ref a3, .ref a4, .int i1, .ref a5, .int i2, .int i3, .int i4, .int i5, .int i6, .int i7, .int i8, .ref a6, .ref a7, .ref a8, .ref a9, .ref a10, .ref a11, .ref a12, .int i9, .ref a13, .int i10, .ref a14, .ref a15, .int i11, .ref a16, .ref a17, .ref a18, .ref a19, .int i12, .int i13, .int i14, .int i15, .int i16, .ref a20, .long j0, .ref a21, .ref a22, .ref a23, .ref a24])), (a1, .inl (cI, 544, .inl xF0)), (a7, .inl (cI, 360, .inl xF6)), (a8, .inl (cI, 600, .inl xF7)), (a9, .inl (cI, 60, .inl xF8)), (a11, .inl (cI, 600, .inl xF10))]) [4, 5, 0, 1, 2, 3] (by decide) rfl
      rw [hQ]
      exact W.iret (v := (-2)) hx hb hr (fun t ht hW => ⟨⟨(-2), (pickG 0 [], pickG (fun _ => 0) [xF0, xF6, xF7, xF8, xF10], pickG (fun _ => 0) []), rfl, ⟨(show (-2 : Int) ≤ ((-2) : Int32).toInt ∧ ((-2) : Int32).toInt ≤ 60 from ⟨by omega, by omega⟩), (show WI cp xF0 from p_7), trivial⟩, (by rw [ht]; exact hP9), hD9⟩, hS.F ht⟩) hS.2.2 dX12_margin_30
    · rw [ki_eq] at c10
      have hw9q := hw9 (by omega)
      clear hw9
      refine lv_iload_n hx hb dX12_margin_16 rfl (lv_at hl 3 rfl) ?_
      refine lv_i2l hx hb dX12_margin_17 rfl ?_
      refine lv_lconst (v := 1) hx hb dX12_margin_18 (by decide) ?_
      refine lv_ldc2 (v := 99) hx hb hown (hwd _ kr65_22) dX12_margin_19 ?_
      have hPc := hP.sub (ws' := []) [] rfl
      have hDc := hD.sub (ws' := []) [] (by decide) rfl
      have hFc := va_free (wc := []) hD hS hA [] rfl
      refine va_calli (va_runS (As := [.long p2.toInt64, .long 1, .long 99]) (rest := []) ⟨hx, hb, hml, hown, hwd⟩ (s_X12_in l dC dI cI cZ cB cJ cM cG p2.toInt64 1 99 H.size) (cwS 3 hwd (gS kr51_0 kr51_1 kr5_23 kr51_2) rfl rfl rfl (by decide +kernel) ⟨Nat.le_of_ble_eq_true rfl, Nat.le_of_ble_eq_true rfl⟩) (kPreS hPc hK hDc) rfl rfl hl.1 rfl (lv_room (Nat.le_of_ble_eq_true rfl)) dX12_margin_22 ⟨Nat.le_of_ble_eq_true rfl, Nat.le_of_ble_eq_true rfl⟩) hS (fun q _ h => hFc q h) hFc (fun r11 u12 t H1 locs ht9 hvm hw hB hz1 hk1 hS => ?_)
      obtain ⟨hw13, hw14, hw15, -⟩ := hw
      replace hw13 : (0 : Int) ≤ r11.toInt ∧ r11.toInt ≤ 1 := hw13
      have hw14 : r11.toInt ≠ 0 → (1 : Int) ≤ p2.toInt ∧ p2.toInt ≤ (99 : Int) := in_int (Int32.toInt_toInt64 _) (by decide) (by decide) hw14
      have hw15 : r11.toInt ≠ 1 → p2.toInt < (1 : Int) ∨ (99 : Int) < p2.toInt := in_int2 (Int32.toInt_toInt64 _) (by decide) (by decide) hw15
      obtain ⟨hP1, hD1⟩ := hB
      rw [ht9] at hP1
      obtain ⟨hP, hD⟩ := va_join (wr := [(a7, .inl (cI, 360, .inl xF6)), (a8, .inl (cI, 600, .inl xF7)), (a9, .inl (cI, 60, .inl xF8)), (a11, .inl (cI, 600, .inl xF10)), (a0, .inr (12, [.int i0, .ref a1, .ref a2, .ref a3, .ref a4, .int i1, .ref a5, .int i2, .int i3, .int i4, .int i5, .int i6, .int i7, .int i8, .ref a6, .ref a7, .ref a8, .ref a9, .ref a10, .ref a11, .ref a12, .int i9, .ref a13, .int i10, .ref a14, .ref a15, .int i11, .ref a16, .ref a17, .ref a18, .ref a19, .int i12, .int i13, .int i14, .int i15, .int i16, .ref a20, .long j0, .ref a21, .ref a22, .ref a23, .ref a24])), (a1, .inl (cI, 544, .inl xF0))]) (w1 := []) hP hD [] [0, 1, 2, 3, 4, 5] rfl rfl (by decide) (by decide) hk1 hFc hP1 hD1
      generalize H1 = H at hP hS ⊢
      replace hP : va_P (dC, dI) vwCl [(a7, .inl (cI, 360, .inl xF6)), (a8, .inl (cI, 600, .inl xF7)), (a9, .inl (cI, 60, .inl xF8)), (a11, .inl (cI, 600, .inl xF10)), (a0, .inr (12, [.int i0, .ref a1, .ref a2, .ref a3, .ref a4, .int i1, .ref a5, .int i2, .int i3, .int i4, .int i5, .int i6, .int i7, .int i8, .ref a6, .ref a7, .ref a8, .ref a9, .ref a10, .ref a11, .ref a12, .int i9, .ref a13, .int i10, .ref a14, .ref a15, .int i11, .ref a16, .ref a17, .ref a18, .ref a19, .int i12, .int i13, .int i14, .int i15, .int i16, .ref a20, .long j0, .ref a21, .ref a22, .ref a23, .ref a24])), (a1, .inl (cI, 544, .inl xF0))] H := hP
      replace hD : va_D A [(a7, .inl (cI, 360, .inl xF6)), (a8, .inl (cI, 600, .inl xF7)), (a9, .inl (cI, 60, .inl xF8)), (a11, .inl (cI, 600, .inl xF10)), (a0, .inr (12, [.int i0, .ref a1, .ref a2, .ref a3, .ref a4, .int i1, .ref a5, .int i2, .int i3, .int i4, .int i5, .int i6, .int i7, .int i8, .ref a6, .ref a7, .ref a8, .ref a9, .ref a10, .ref a11, .ref a12, .int i9, .ref a13, .int i10, .ref a14, .ref a15, .int i11, .ref a16, .ref a17, .ref a18, .ref a19, .int i12, .int i13, .int i14, .int i15, .int i16, .ref a20, .long j0, .ref a21, .ref a22, .ref a23, .ref a24])), (a1, .inl (cI, 544, .inl xF0))] := hD
      refine lv_if_ne (tgt := 31) hx hb dX12_margin_25 (by decide) (fun c16 => ?_) (fun c16 => ?_)
      · rw [ki_eq] at c16
        have hw14q := hw14 (by omega)
        clear hw14
        refine lv_aload_n hx hb dX12_margin_31 rfl (lv_at hl 0 rfl) ?_
        refine lv_iload_n hx hb dX12_margin_32 rfl (lv_at hl 1 rfl) ?_
        refine lv_iconst (v := 5) hx hb dX12_margin_33 (by decide) ?_
        have hPc := hP.sub (ws' := [(a0, .inr (12, [.int i0, .ref a1, .ref a2, .ref a3, .ref a4, .int i1, .ref a5, .int i2, .int i3, .int i4, .int i5, .int i6, .int i7, .int i8, .ref a6, .ref a7, .ref a8, .ref a9, .ref a10, .ref a11, .ref a12, .int i9, .ref a13, .int i10, .ref a14, .ref a15, .int i11, .ref a16, .ref a17, .ref a18, .ref a19, .int i12, .int i13, .int i14, .int i15, .int i16, .ref a20, .long j0, .ref a21, .ref a22, .ref a23, .ref a24])), (a1, .inl (cI, 544, .inl xF0))]) [4, 5] rfl
        have hDc := hD.sub (ws' := [(a0, .inr (12, [.int i0, .ref a1, .ref a2, .ref a3, .ref a4, .int i1, .ref a5, .int i2, .int i3, .int i4, .int i5, .int i6, .int i7, .int i8, .ref a6, .ref a7, .ref a8, .ref a9, .ref a10, .ref a11, .ref a12, .int i9, .ref a13, .int i10, .ref a14, .ref a15, .int i11, .ref a16, .ref a17, .ref a18, .ref a19, .int i12, .int i13, .int i14, .int i15, .int i16, .ref a20, .long j0, .ref a21, .ref a22, .ref a23, .ref a24])), (a1, .inl (cI, 544, .inl xF0))]) [4, 5] (by decide) rfl
        have hFc := va_free (wc := [(a0, .inr (12, [.int i0, .ref a1, .ref a2, .ref a3, .ref a4, .int i1, .ref a5, .int i2, .int i3, .int i4, .int i5, .int i6, .int i7, .int i8, .ref a6, .ref a7, .ref a8, .ref a9, .ref a10, .ref a11, .ref a12, .int i9, .ref a13, .int i10, .ref a14, .ref a15, .int i11, .ref a16, .ref a17, .ref a18, .ref a19, .int i12, .int i13, .int i14, .int i15, .int i16, .ref a20, .long j0, .ref a21, .ref a22, .ref a23, .ref a24])), (a1, .inl (cI, 544, .inl xF0))]) hD hS hA [4, 5] rfl
        refine va_calli (va_runV (As := [.int p0, .int 5]) (rest := []) ⟨hx, hb, hml, hown, hwd⟩ (s_X12_ofNose l dC dI cI cZ cB cJ cM cG a0 a1 a2 a3 a4 a5 a6 a7 a8 a9 a10 a11 a12 a13 a14 a15 a16 a17 a18 a19 a20 a21 a22 a23 a24 i0 i1 i2 i3 i4 i5 i6 i7 i8 i9 i10 i11 i12 i13 i14 i15 i16 j0 xF0 p0 5 cp H.size (show (0 : Int) ≤ i1.toInt ∧ i1.toInt ≤ 1600 from p_0) (show (0 : Int) ≤ i2.toInt ∧ i2.toInt ≤ 1600 from p_1) (show (0 : Int) ≤ i3.toInt ∧ i3.toInt ≤ 1600 from p_2) (show (0 : Int) ≤ i4.toInt ∧ i4.toInt ≤ 1600 from p_3) (show (0 : Int) ≤ i5.toInt ∧ i5.toInt ≤ 6 from p_4) (show (0 : Int) ≤ i7.toInt ∧ i7.toInt ≤ 3 from p_5) (show (0 : Int) ≤ i11.toInt ∧ i11.toInt ≤ 59 from p_6) (show WI cp xF0 from p_7) (show (0 : Int) ≤ p0.toInt ∧ p0.toInt ≤ 23 from ⟨by omega, by omega⟩) (show (0 : Int) ≤ (5 : Int32).toInt ∧ (5 : Int32).toInt ≤ 6 from ⟨by omega, by omega⟩) p_8) (cwV 2 hwd (gV kr55_1 kr55_2 kr3_12 kr5_23 kr55_3) rfl rfl rfl (by decide +kernel) ⟨Nat.le_of_ble_eq_true rfl, Nat.le_of_ble_eq_true rfl⟩) (kPreV hPc hK hDc (ci := 12) (q0 := 0) rfl rfl) rfl rfl hl.1 rfl (lv_room (Nat.le_of_ble_eq_true rfl)) dX12_margin_34 ⟨Nat.le_of_ble_eq_true rfl, Nat.le_of_ble_eq_true rfl⟩) hS (fun q _ h => hFc q h) hFc (fun r17 u18 t H1 locs ht9 hvm hw hB hz1 hk1 hS => ?_)
        obtain ⟨hw19, -⟩ := hw
        replace hw19 : ((5 : Int32).toInt = 3 → 0 ≤ r17.toInt ∧ r17.toInt ≤ 60) := hw19
        clear hw19
        obtain ⟨hP1, hD1⟩ := hB
        rw [ht9] at hP1
        obtain ⟨hP, hD⟩ := va_join (wr := [(a7, .inl (cI, 360, .inl xF6)), (a8, .inl (cI, 600, .inl xF7)), (a9, .inl (cI, 60, .inl xF8)), (a11, .inl (cI, 600, .inl xF10))]) (w1 := [(a0, .inr (12, [.int i0, .ref a1, .ref a2, .ref a3, .ref a4, .int i1, .ref a5, .int i2, .int i3, .int i4, .int i5, .int i6, .int i7, .int i8, .ref a6, .ref a7, .ref a8, .ref a9, .ref a10, .ref a11, .ref a12, .int i9, .ref a13, .int i10, .ref a14, .ref a15, .int i11, .ref a16, .ref a17, .ref a18, .ref a19, .int i12, .int i13, .int i14, .int i15, .int i16, .ref a20, .long j0, .ref a21, .ref a22, .ref a23, .ref a24])), (a1, .inl (cI, 544, .inl xF0))]) hP hD [4, 5] [0, 1, 2, 3] rfl rfl (by decide) (by decide) hk1 hFc hP1 hD1
        generalize H1 = H at hP hS ⊢
        replace hP : va_P (dC, dI) vwCl [(a7, .inl (cI, 360, .inl xF6)), (a8, .inl (cI, 600, .inl xF7)), (a9, .inl (cI, 60, .inl xF8)), (a11, .inl (cI, 600, .inl xF10)), (a0, .inr (12, [.int i0, .ref a1, .ref a2, .ref a3, .ref a4, .int i1, .ref a5, .int i2, .int i3, .int i4, .int i5, .int i6, .int i7, .int i8, .ref a6, .ref a7, .ref a8, .ref a9, .ref a10, .ref a11, .ref a12, .int i9, .ref a13, .int i10, .ref a14, .ref a15, .int i11, .ref a16, .ref a17, .ref a18, .ref a19, .int i12, .int i13, .int i14, .int i15, .int i16, .ref a20, .long j0, .ref a21, .ref a22, .ref a23, .ref a24])), (a1, .inl (cI, 544, .inl xF0))] H := hP
        replace hD : va_D A [(a7, .inl (cI, 360, .inl xF6)), (a8, .inl (cI, 600, .inl xF7)), (a9, .inl (cI, 60, .inl xF8)), (a11, .inl (cI, 600, .inl xF10)), (a0, .inr (12, [.int i0, .ref a1, .ref a2, .ref a3, .ref a4, .int i1, .ref a5, .int i2, .int i3, .int i4, .int i5, .int i6, .int i7, .int i8, .ref a6, .ref a7, .ref a8, .ref a9, .ref a10, .ref a11, .ref a12, .int i9, .ref a13, .int i10, .ref a14, .ref a15, .int i11, .ref a16, .ref a17, .ref a18, .ref a19, .int i12, .int i13, .int i14, .int i15, .int i16, .ref a20, .long j0, .ref a21, .ref a22, .ref a23, .ref a24])), (a1, .inl (cI, 544, .inl xF0))] := hD
        refine lv_istore (lv' := [(4, .int r17), (0, .ref a0), (1, .int p0), (2, .int p1), (3, .int p2)]) hx hb dX12_margin_37 hl (by decide) rfl (fun ls hl => ?_)
        refine lv_aload_n hx hb dX12_margin_39 rfl (lv_at hl 1 rfl) ?_
        refine lv_iload_n hx hb dX12_margin_40 rfl (lv_at hl 2 rfl) ?_
        refine lv_iconst (v := 5) hx hb dX12_margin_41 (by decide) ?_
        refine lv_iconst (v := 0) hx hb dX12_margin_42 (by decide) ?_
        have hPc := hP.sub (ws' := [(a0, .inr (12, [.int i0, .ref a1, .ref a2, .ref a3, .ref a4, .int i1, .ref a5, .int i2, .int i3, .int i4, .int i5, .int i6, .int i7, .int i8, .ref a6, .ref a7, .ref a8, .ref a9, .ref a10, .ref a11, .ref a12, .int i9, .ref a13, .int i10, .ref a14, .ref a15, .int i11, .ref a16, .ref a17, .ref a18, .ref a19, .int i12, .int i13, .int i14, .int i15, .int i16, .ref a20, .long j0, .ref a21, .ref a22, .ref a23, .ref a24])), (a1, .inl (cI, 544, .inl xF0))]) [4, 5] rfl
        have hDc := hD.sub (ws' := [(a0, .inr (12, [.int i0, .ref a1, .ref a2, .ref a3, .ref a4, .int i1, .ref a5, .int i2, .int i3, .int i4, .int i5, .int i6, .int i7, .int i8, .ref a6, .ref a7, .ref a8, .ref a9, .ref a10, .ref a11, .ref a12, .int i9, .ref a13, .int i10, .ref a14, .ref a15, .int i11, .ref a16, .ref a17, .ref a18, .ref a19, .int i12, .int i13, .int i14, .int i15, .int i16, .ref a20, .long j0, .ref a21, .ref a22, .ref a23, .ref a24])), (a1, .inl (cI, 544, .inl xF0))]) [4, 5] (by decide) rfl
        have hFc := va_free (wc := [(a0, .inr (12, [.int i0, .ref a1, .ref a2, .ref a3, .ref a4, .int i1, .ref a5, .int i2, .int i3, .int i4, .int i5, .int i6, .int i7, .int i8, .ref a6, .ref a7, .ref a8, .ref a9, .ref a10, .ref a11, .ref a12, .int i9, .ref a13, .int i10, .ref a14, .ref a15, .int i11, .ref a16, .ref a17, .ref a18, .ref a19, .int i12, .int i13, .int i14, .int i15, .int i16, .ref a20, .long j0, .ref a21, .ref a22, .ref a23, .ref a24])), (a1, .inl (cI, 544, .inl xF0))]) hD hS hA [4, 5] rfl
        refine va_callv (va_runV (As := [.int p0, .int 5, .int 0]) (rest := []) ⟨hx, hb, hml, hown, hwd⟩ (s_X12_setNose l dC dI cI cZ cB cJ cM cG a0 a1 a2 a3 a4 a5 a6 a7 a8 a9 a10 a11 a12 a13 a14 a15 a16 a17 a18 a19 a20 a21 a22 a23 a24 i0 i1 i2 i3 i4 i5 i6 i7 i8 i9 i10 i11 i12 i13 i14 i15 i16 j0 xF0 p0 5 0 cp H.size (show (0 : Int) ≤ i1.toInt ∧ i1.toInt ≤ 1600 from p_0) (show (0 : Int) ≤ i2.toInt ∧ i2.toInt ≤ 1600 from p_1) (show (0 : Int) ≤ i3.toInt ∧ i3.toInt ≤ 1600 from p_2) (show (0 : Int) ≤ i4.toInt ∧ i4.toInt ≤ 1600 from p_3) (show (0 : Int) ≤ i5.toInt ∧ i5.toInt ≤ 6 from p_4) (show (0 : Int) ≤ i7.toInt ∧ i7.toInt ≤ 3 from p_5) (show (0 : Int) ≤ i11.toInt ∧ i11.toInt ≤ 59 from p_6) (show WI cp xF0 from p_7) (show (0 : Int) ≤ p0.toInt ∧ p0.toInt ≤ 23 from ⟨by omega, by omega⟩) (show (5 : Int) ≤ (5 : Int32).toInt ∧ (5 : Int32).toInt ≤ 6 from ⟨by omega, by omega⟩) p_8) (cwV 3 hwd (gV kr60_20 kr60_21 kr4_11 kr5_23 kr60_22) rfl rfl rfl (by decide +kernel) ⟨Nat.le_of_ble_eq_true rfl, Nat.le_of_ble_eq_true rfl⟩) (kPreV hPc hK hDc (ci := 12) (q0 := 0) rfl rfl) rfl rfl hl.1 rfl (lv_room (Nat.le_of_ble_eq_true rfl)) dX12_margin_43 ⟨Nat.le_of_ble_eq_true rfl, Nat.le_of_ble_eq_true rfl⟩) hS (fun q _ h => hFc q h) hFc (fun u21 t H1 locs ht9 hvm hw hB hz1 hk1 hS => ?_)
        obtain ⟨u22, U22, V22⟩ := u21
        obtain ⟨hw23, -⟩ := hw
        replace hw23 : WI cp (U22 0) := hw23
        obtain ⟨hP1, hD1⟩ := hB
        rw [ht9] at hP1
        obtain ⟨hP, hD⟩ := va_join (wr := [(a7, .inl (cI, 360, .inl xF6)), (a8, .inl (cI, 600, .inl xF7)), (a9, .inl (cI, 60, .inl xF8)), (a11, .inl (cI, 600, .inl xF10))]) (w1 := [(a0, .inr (12, [.int i0, .ref a1, .ref a2, .ref a3, .ref a4, .int i1, .ref a5, .int i2, .int i3, .int i4, .int i5, .int i6, .int i7, .int i8, .ref a6, .ref a7, .ref a8, .ref a9, .ref a10, .ref a11, .ref a12, .int i9, .ref a13, .int i10, .ref a14, .ref a15, .int i11, .ref a16, .ref a17, .ref a18, .ref a19, .int i12, .int i13, .int i14, .int i15, .int i16, .ref a20, .long j0, .ref a21, .ref a22, .ref a23, .ref a24])), (a1, .inl (cI, 544, .inl (U22 0)))]) hP hD [4, 5] [0, 1, 2, 3] rfl rfl (by decide) (by decide) hk1 hFc hP1 hD1
        generalize H1 = H at hP hS ⊢
        replace hP : va_P (dC, dI) vwCl [(a7, .inl (cI, 360, .inl xF6)), (a8, .inl (cI, 600, .inl xF7)), (a9, .inl (cI, 60, .inl xF8)), (a11, .inl (cI, 600, .inl xF10)), (a0, .inr (12, [.int i0, .ref a1, .ref a2, .ref a3, .ref a4, .int i1, .ref a5, .int i2, .int i3, .int i4, .int i5, .int i6, .int i7, .int i8, .ref a6, .ref a7, .ref a8, .ref a9, .ref a10, .ref a11, .ref a12, .int i9, .ref a13, .int i10, .ref a14, .ref a15, .int i11, .ref a16, .ref a17, .ref a18, .ref a19, .int i12, .int i13, .int i14, .int i15, .int i16, .ref a20, .long j0, .ref a21, .ref a22, .ref a23, .ref a24])), (a1, .inl (cI, 544, .inl (U22 0)))] H := hP
        replace hD : va_D A [(a7, .inl (cI, 360, .inl xF6)), (a8, .inl (cI, 600, .inl xF7)), (a9, .inl (cI, 60, .inl xF8)), (a11, .inl (cI, 600, .inl xF10)), (a0, .inr (12, [.int i0, .ref a1, .ref a2, .ref a3, .ref a4, .int i1, .ref a5, .int i2, .int i3, .int i4, .int i5, .int i6, .int i7, .int i8, .ref a6, .ref a7, .ref a8, .ref a9, .ref a10, .ref a11, .ref a12, .int i9, .ref a13, .int i10, .ref a14, .ref a15, .int i11, .ref a16, .ref a17, .ref a18, .ref a19, .int i12, .int i13, .int i14, .int i15, .int i16, .ref a20, .long j0, .ref a21, .ref a22, .ref a23, .ref a24])), (a1, .inl (cI, 544, .inl (U22 0)))] := hD
        refine lv_aload_n hx hb dX12_margin_46 rfl (lv_at hl 1 rfl) ?_
        refine lv_iload_n hx hb dX12_margin_47 rfl (lv_at hl 3 rfl) ?_
        refine lv_iload_n hx hb dX12_margin_48 rfl (lv_at hl 4 rfl) ?_
        have hPc := hP.sub (ws' := [(a0, .inr (12, [.int i0, .ref a1, .ref a2, .ref a3, .ref a4, .int i1, .ref a5, .int i2, .int i3, .int i4, .int i5, .int i6, .int i7, .int i8, .ref a6, .ref a7, .ref a8, .ref a9, .ref a10, .ref a11, .ref a12, .int i9, .ref a13, .int i10, .ref a14, .ref a15, .int i11, .ref a16, .ref a17, .ref a18, .ref a19, .int i12, .int i13, .int i14, .int i15, .int i16, .ref a20, .long j0, .ref a21, .ref a22, .ref a23, .ref a24])), (a1, .inl (cI, 544, .inl (U22 0))), (a7, .inl (cI, 360, .inl xF6)), (a8, .inl (cI, 600, .inl xF7)), (a9, .inl (cI, 60, .inl xF8)), (a11, .inl (cI, 600, .inl xF10))]) [4, 5, 0, 1, 2, 3] rfl
        have hDc := hD.sub (ws' := [(a0, .inr (12, [.int i0, .ref a1, .ref a2, .ref a3, .ref a4, .int i1, .ref a5, .int i2, .int i3, .int i4, .int i5, .int i6, .int i7, .int i8, .ref a6, .ref a7, .ref a8, .ref a9, .ref a10, .ref a11, .ref a12, .int i9, .ref a13, .int i10, .ref a14, .ref a15, .int i11, .ref a16, .ref a17, .ref a18, .ref a19, .int i12, .int i13, .int i14, .int i15, .int i16, .ref a20, .long j0, .ref a21, .ref a22, .ref a23, .ref a24])), (a1, .inl (cI, 544, .inl (U22 0))), (a7, .inl (cI, 360, .inl xF6)), (a8, .inl (cI, 600, .inl xF7)), (a9, .inl (cI, 60, .inl xF8)), (a11, .inl (cI, 600, .inl xF10))]) [4, 5, 0, 1, 2, 3] (by decide) rfl
        have hFc := va_free (wc := [(a0, .inr (12, [.int i0, .ref a1, .ref a2, .ref a3, .ref a4, .int i1, .ref a5, .int i2, .int i3, .int i4, .int i5, .int i6, .int i7, .int i8, .ref a6, .ref a7, .ref a8, .ref a9, .ref a10, .ref a11, .ref a12, .int i9, .ref a13, .int i10, .ref a14, .ref a15, .int i11, .ref a16, .ref a17, .ref a18, .ref a19, .int i12, .int i13, .int i14, .int i15, .int i16, .ref a20, .long j0, .ref a21, .ref a22, .ref a23, .ref a24])), (a1, .inl (cI, 544, .inl (U22 0))), (a7, .inl (cI, 360, .inl xF6)), (a8, .inl (cI, 600, .inl xF7)), (a9, .inl (cI, 60, .inl xF8)), (a11, .inl (cI, 600, .inl xF10))]) hD hS hA [4, 5, 0, 1, 2, 3] rfl
        refine va_calll (va_runV (As := [.int p1, .int p2]) (rest := []) ⟨hx, hb, hml, hown, hwd⟩ (s_X12_heardOf l dC dI cI cZ cB cJ cM cG a0 a1 a2 a3 a4 a5 a6 a7 a8 a9 a10 a11 a12 a13 a14 a15 a16 a17 a18 a19 a20 a21 a22 a23 a24 i0 i1 i2 i3 i4 i5 i6 i7 i8 i9 i10 i11 i12 i13 i14 i15 i16 j0 (U22 0) xF6 xF7 xF8 xF10 p1 p2 cp H.size (show (0 : Int) ≤ i1.toInt ∧ i1.toInt ≤ 1600 from p_0) (show (0 : Int) ≤ i2.toInt ∧ i2.toInt ≤ 1600 from p_1) (show (0 : Int) ≤ i3.toInt ∧ i3.toInt ≤ 1600 from p_2) (show (0 : Int) ≤ i4.toInt ∧ i4.toInt ≤ 1600 from p_3) (show (0 : Int) ≤ i5.toInt ∧ i5.toInt ≤ 6 from p_4) (show (0 : Int) ≤ i7.toInt ∧ i7.toInt ≤ 3 from p_5) (show (0 : Int) ≤ i11.toInt ∧ i11.toInt ≤ 59 from p_6) (show WI cp (U22 0) from hw23) (show (0 : Int) ≤ p1.toInt ∧ p1.toInt ≤ 9 from ⟨by omega, by omega⟩) p_8) (cwV 2 hwd (gV kr65_23 kr66_0 kr5_3 kr5_23 kr66_1) rfl rfl rfl (by decide +kernel) ⟨Nat.le_of_ble_eq_true rfl, Nat.le_of_ble_eq_true rfl⟩) (kPreV hPc hK hDc (ci := 12) (q0 := 0) rfl rfl) rfl rfl hl.1 rfl (lv_room (Nat.le_of_ble_eq_true rfl)) dX12_margin_49 ⟨Nat.le_of_ble_eq_true rfl, Nat.le_of_ble_eq_true rfl⟩) hS (fun q _ h => hFc q h) hFc (fun r24 u25 t H1 locs ht9 hvm hw hB hz1 hk1 hS => ?_)
        obtain ⟨u26, U26, V26⟩ := u25
        obtain ⟨hP1, hD1⟩ := hB
        rw [ht9] at hP1
        obtain ⟨hP, hD⟩ := va_join (wr := []) (w1 := [(a0, .inr (12, [.int i0, .ref a1, .ref a2, .ref a3, .ref a4, .int i1, .ref a5, .int i2, .int i3, .int i4, .int i5, .int i6, .int i7, .int i8, .ref a6, .ref a7, .ref a8, .ref a9, .ref a10, .ref a11, .ref a12, .int i9, .ref a13, .int i10, .ref a14, .ref a15, .int i11, .ref a16, .ref a17, .ref a18, .ref a19, .int i12, .int i13, .int i14, .int i15, .int i16, .ref a20, .long j0, .ref a21, .ref a22, .ref a23, .ref a24])), (a1, .inl (cI, 544, .inl (U22 0))), (a7, .inl (cI, 360, .inl (U26 0))), (a8, .inl (cI, 600, .inl (U26 1))), (a9, .inl (cI, 60, .inl (U26 2))), (a11, .inl (cI, 600, .inl (U26 3)))]) hP hD [4, 5, 0, 1, 2, 3] [] rfl rfl (by decide) (by decide) hk1 hFc hP1 hD1
        generalize H1 = H at hP hS ⊢
        replace hP : va_P (dC, dI) vwCl [(a0, .inr (12, [.int i0, .ref a1, .ref a2, .ref a3, .ref a4, .int i1, .ref a5, .int i2, .int i3, .int i4, .int i5, .int i6, .int i7, .int i8, .ref a6, .ref a7, .ref a8, .ref a9, .ref a10, .ref a11, .ref a12, .int i9, .ref a13, .int i10, .ref a14, .ref a15, .int i11, .ref a16, .ref a17, .ref a18, .ref a19, .int i12, .int i13, .int i14, .int i15, .int i16, .ref a20, .long j0, .ref a21, .ref a22, .ref a23, .ref a24])), (a1, .inl (cI, 544, .inl (U22 0))), (a7, .inl (cI, 360, .inl (U26 0))), (a8, .inl (cI, 600, .inl (U26 1))), (a9, .inl (cI, 60, .inl (U26 2))), (a11, .inl (cI, 600, .inl (U26 3)))] H := hP
        replace hD : va_D A [(a0, .inr (12, [.int i0, .ref a1, .ref a2, .ref a3, .ref a4, .int i1, .ref a5, .int i2, .int i3, .int i4, .int i5, .int i6, .int i7, .int i8, .ref a6, .ref a7, .ref a8, .ref a9, .ref a10, .ref a11, .ref a12, .int i9, .ref a13, .int i10, .ref a14, .ref a15, .int i11, .ref a16, .ref a17, .ref a18, .ref a19, .int i12, .int i13, .int i14, .int i15, .int i16, .ref a20, .long j0, .ref a21, .ref a22, .ref a23, .ref a24])), (a1, .inl (cI, 544, .inl (U22 0))), (a7, .inl (cI, 360, .inl (U26 0))), (a8, .inl (cI, 600, .inl (U26 1))), (a9, .inl (cI, 60, .inl (U26 2))), (a11, .inl (cI, 600, .inl (U26 3)))] := hD
        refine lv_lstore (lv' := [(5, .long r24), (4, .int r17), (0, .ref a0), (1, .int p0), (2, .int p1), (3, .int p2)]) hx hb dX12_margin_52 hl (by decide) rfl (fun ls hl => ?_)
        refine lv_iconst (v := 0) hx hb dX12_margin_54 (by decide) ?_
        refine lv_istore (lv' := [(7, .int 0), (5, .long r24), (4, .int r17), (0, .ref a0), (1, .int p0), (2, .int p1), (3, .int p2)]) hx hb dX12_margin_55 hl (by decide) rfl (fun ls hl => ?_)
        refine lv_iconst (v := 1) hx hb dX12_margin_57 (by decide) ?_
        refine lv_istore (lv' := [(8, .int 1), (7, .int 0), (5, .long r24), (4, .int r17), (0, .ref a0), (1, .int p0), (2, .int p1), (3, .int p2)]) hx hb dX12_margin_58 hl (by decide) rfl (fun ls hl => ?_)
        have lp1 : ∀ (d : Nat), ∀ (H : Heap) (locs : List Loc) (ls : Array Slot) (w7_1 : Int32) (w8_1 : Int32) (g2_1 : Nat → Int32) (g3_1 : Nat → Int32) (g4_1 : Nat → Int32) (g5_1 : Nat → Int32) (g6_1 : Nat → Int32), ((0 : Int) ≤ w7_1.toInt ∧ w7_1.toInt ≤ 60) → ((0 : Int) ≤ w8_1.toInt ∧ w8_1.toInt ≤ 1) → (WI cp g2_1) → (2 * (60 - w7_1.toInt) + w8_1.toInt).toNat < d → va_P (dC, dI) vwCl [(a0, .inr (12, [.int i0, .ref a1, .ref a2, .ref a3, .ref a4, .int i1, .ref a5, .int i2, .int i3, .int i4, .int i5, .int i6, .int i7, .int i8, .ref a6, .ref a7, .ref a8, .ref a9, .ref a10, .ref a11, .ref a12, .int i9, .ref a13, .int i10, .ref a14, .ref a15, .int i11, .ref a16, .ref a17, .ref a18, .ref a19, .int i12, .int i13, .int i14, .int i15, .int i16, .ref a20, .long j0, .ref a21, .ref a22, .ref a23, .ref a24])), (a1, .inl (cI, 544, .inl g2_1)), (a7, .inl (cI, 360, .inl g3_1)), (a8, .inl (cI, 600, .inl g4_1)), (a9, .inl (cI, 60, .inl g5_1)), (a11, .inl (cI, 600, .inl g6_1))] H → va_D A [(a0, .inr (12, [.int i0, .ref a1, .ref a2, .ref a3, .ref a4, .int i1, .ref a5, .int i2, .int i3, .int i4, .int i5, .int i6, .int i7, .int i8, .ref a6, .ref a7, .ref a8, .ref a9, .ref a10, .ref a11, .ref a12, .int i9, .ref a13, .int i10, .ref a14, .ref a15, .int i11, .ref a16, .ref a17, .ref a18, .ref a19, .int i12, .int i13, .int i14, .int i15, .int i16, .ref a20, .long j0, .ref a21, .ref a22, .ref a23, .ref a24])), (a1, .inl (cI, 544, .inl g2_1)), (a7, .inl (cI, 360, .inl g3_1)), (a8, .inl (cI, 600, .inl g4_1)), (a9, .inl (cI, 60, .inl g5_1)), (a11, .inl (cI, 600, .inl g6_1))] → va_S A s.heap H locs → lv_has ls 9 [(0, .ref a0), (1, .int p0), (2, .int p1), (3, .int p2), (4, .int r17), (5, .long r24), (7, .int w7_1), (8, .int w8_1)] → W p l e ({ frames := 7, cells := 0, slots := 0, locals := 165 } : Room) s m ([.ref a0, .int p0, .int p1, .int p2] : List Value).toArray below meth c H locs 0 0 Q (F0 m 60 ls []) := by
          intro d
          induction d with
          | zero =>
            intro H locs ls w7_1 w8_1 g2_1 g3_1 g4_1 g5_1 g6_1 hr_w7_1 hr_w8_1 hd_g2_1 hm hP hD hS hl
            omega
          | succ d ih1 =>
            intro H locs ls w7_1 w8_1 g2_1 g3_1 g4_1 g5_1 g6_1 hr_w7_1 hr_w8_1 hd_g2_1 hm hP hD hS hl
            refine lv_iload hx hb dX12_margin_60 (lv_at hl 7 rfl) ?_
            have jp14 : ∀ (H : Heap) (locs : List Loc) (ls : Array Slot), va_P (dC, dI) vwCl [(a0, .inr (12, [.int i0, .ref a1, .ref a2, .ref a3, .ref a4, .int i1, .ref a5, .int i2, .int i3, .int i4, .int i5, .int i6, .int i7, .int i8, .ref a6, .ref a7, .ref a8, .ref a9, .ref a10, .ref a11, .ref a12, .int i9, .ref a13, .int i10, .ref a14, .ref a15, .int i11, .ref a16, .ref a17, .ref a18, .ref a19, .int i12, .int i13, .int i14, .int i15, .int i16, .ref a20, .long j0, .ref a21, .ref a22, .ref a23, .ref a24])), (a1, .inl (cI, 544, .inl g2_1)), (a7, .inl (cI, 360, .inl g3_1)), (a8, .inl (cI, 600, .inl g4_1)), (a9, .inl (cI, 60, .inl g5_1)), (a11, .inl (cI, 600, .inl g6_1))] H → va_D A [(a0, .inr (12, [.int i0, .ref a1, .ref a2, .ref a3, .ref a4, .int i1, .ref a5, .int i2, .int i3, .int i4, .int i5, .int i6, .int i7, .int i8, .ref a6, .ref a7, .ref a8, .ref a9, .ref a10, .ref a11, .ref a12, .int i9, .ref a13, .int i10, .ref a14, .ref a15, .int i11, .ref a16, .ref a17, .ref a18, .ref a19, .int i12, .int i13, .int i14, .int i15, .int i16, .ref a20, .long j0, .ref a21, .ref a22, .ref a23, .ref a24])), (a1, .inl (cI, 544, .inl g2_1)), (a7, .inl (cI, 360, .inl g3_1)), (a8, .inl (cI, 600, .inl g4_1)), (a9, .inl (cI, 60, .inl g5_1)), (a11, .inl (cI, 600, .inl g6_1))] → va_S A s.heap H locs → lv_has ls 9 [(0, .ref a0), (1, .int p0), (2, .int p1), (3, .int p2), (4, .int r17), (5, .long r24), (7, .int w7_1), (8, .int w8_1)] → W p l e ({ frames := 7, cells := 0, slots := 0, locals := 165 } : Room) s m ([.ref a0, .int p0, .int p1, .int p2] : List Value).toArray below meth c H locs 0 0 Q (F0 m 123 ls []) := by
              intro H locs ls  hP hD hS hl
              refine lv_aload_n hx hb dX12_margin_123 rfl (lv_at hl 0 rfl) ?_
              refine lv_iload_n hx hb dX12_margin_124 rfl (lv_at hl 1 rfl) ?_
              refine lv_iconst (v := 5) hx hb dX12_margin_125 (by decide) ?_
              refine lv_iload hx hb dX12_margin_126 (lv_at hl 4 rfl) ?_
              have hPc := hP.sub (ws' := [(a0, .inr (12, [.int i0, .ref a1, .ref a2, .ref a3, .ref a4, .int i1, .ref a5, .int i2, .int i3, .int i4, .int i5, .int i6, .int i7, .int i8, .ref a6, .ref a7, .ref a8, .ref a9, .ref a10, .ref a11, .ref a12, .int i9, .ref a13, .int i10, .ref a14, .ref a15, .int i11, .ref a16, .ref a17, .ref a18, .ref a19, .int i12, .int i13, .int i14, .int i15, .int i16, .ref a20, .long j0, .ref a21, .ref a22, .ref a23, .ref a24])), (a1, .inl (cI, 544, .inl g2_1))]) [0, 1] rfl
              have hDc := hD.sub (ws' := [(a0, .inr (12, [.int i0, .ref a1, .ref a2, .ref a3, .ref a4, .int i1, .ref a5, .int i2, .int i3, .int i4, .int i5, .int i6, .int i7, .int i8, .ref a6, .ref a7, .ref a8, .ref a9, .ref a10, .ref a11, .ref a12, .int i9, .ref a13, .int i10, .ref a14, .ref a15, .int i11, .ref a16, .ref a17, .ref a18, .ref a19, .int i12, .int i13, .int i14, .int i15, .int i16, .ref a20, .long j0, .ref a21, .ref a22, .ref a23, .ref a24])), (a1, .inl (cI, 544, .inl g2_1))]) [0, 1] (by decide) rfl
              have hFc := va_free (wc := [(a0, .inr (12, [.int i0, .ref a1, .ref a2, .ref a3, .ref a4, .int i1, .ref a5, .int i2, .int i3, .int i4, .int i5, .int i6, .int i7, .int i8, .ref a6, .ref a7, .ref a8, .ref a9, .ref a10, .ref a11, .ref a12, .int i9, .ref a13, .int i10, .ref a14, .ref a15, .int i11, .ref a16, .ref a17, .ref a18, .ref a19, .int i12, .int i13, .int i14, .int i15, .int i16, .ref a20, .long j0, .ref a21, .ref a22, .ref a23, .ref a24])), (a1, .inl (cI, 544, .inl g2_1))]) hD hS hA [0, 1] rfl
              refine va_callv (va_runV (As := [.int p0, .int 5, .int r17]) (rest := []) ⟨hx, hb, hml, hown, hwd⟩ (s_X12_setNose l dC dI cI cZ cB cJ cM cG a0 a1 a2 a3 a4 a5 a6 a7 a8 a9 a10 a11 a12 a13 a14 a15 a16 a17 a18 a19 a20 a21 a22 a23 a24 i0 i1 i2 i3 i4 i5 i6 i7 i8 i9 i10 i11 i12 i13 i14 i15 i16 j0 g2_1 p0 5 r17 cp H.size (show (0 : Int) ≤ i1.toInt ∧ i1.toInt ≤ 1600 from p_0) (show (0 : Int) ≤ i2.toInt ∧ i2.toInt ≤ 1600 from p_1) (show (0 : Int) ≤ i3.toInt ∧ i3.toInt ≤ 1600 from p_2) (show (0 : Int) ≤ i4.toInt ∧ i4.toInt ≤ 1600 from p_3) (show (0 : Int) ≤ i5.toInt ∧ i5.toInt ≤ 6 from p_4) (show (0 : Int) ≤ i7.toInt ∧ i7.toInt ≤ 3 from p_5) (show (0 : Int) ≤ i11.toInt ∧ i11.toInt ≤ 59 from p_6) (show WI cp g2_1 from hd_g2_1) (show (0 : Int) ≤ p0.toInt ∧ p0.toInt ≤ 23 from ⟨by omega, by omega⟩) (show (5 : Int) ≤ (5 : Int32).toInt ∧ (5 : Int32).toInt ≤ 6 from ⟨by omega, by omega⟩) p_8) (cwV 3 hwd (gV kr60_20 kr60_21 kr4_11 kr5_23 kr60_22) rfl rfl rfl (by decide +kernel) ⟨Nat.le_of_ble_eq_true rfl, Nat.le_of_ble_eq_true rfl⟩) (kPreV hPc hK hDc (ci := 12) (q0 := 0) rfl rfl) rfl rfl hl.1 rfl (lv_room (Nat.le_of_ble_eq_true rfl)) dX12_margin_128 ⟨Nat.le_of_ble_eq_true rfl, Nat.le_of_ble_eq_true rfl⟩) hS (fun q _ h => hFc q h) hFc (fun u144 t H1 locs ht9 hvm hw hB hz1 hk1 hS => ?_)
              obtain ⟨u145, U145, V145⟩ := u144
              obtain ⟨hw146, -⟩ := hw
              replace hw146 : WI cp (U145 0) := hw146
              obtain ⟨hP1, hD1⟩ := hB
              rw [ht9] at hP1
              obtain ⟨hP, hD⟩ := va_join (wr := [(a7, .inl (cI, 360, .inl g3_1)), (a8, .inl (cI, 600, .inl g4_1)), (a9, .inl (cI, 60, .inl g5_1)), (a11, .inl (cI, 600, .inl g6_1))]) (w1 := [(a0, .inr (12, [.int i0, .ref a1, .ref a2, .ref a3, .ref a4, .int i1, .ref a5, .int i2, .int i3, .int i4, .int i5, .int i6, .int i7, .int i8, .ref a6, .ref a7, .ref a8, .ref a9, .ref a10, .ref a11, .ref a12, .int i9, .ref a13, .int i10, .ref a14, .ref a15, .int i11, .ref a16, .ref a17, .ref a18, .ref a19, .int i12, .int i13, .int i14, .int i15, .int i16, .ref a20, .long j0, .ref a21, .ref a22, .ref a23, .ref a24])), (a1, .inl (cI, 544, .inl (U145 0)))]) hP hD [0, 1] [2, 3, 4, 5] rfl rfl (by decide) (by decide) hk1 hFc hP1 hD1
              generalize H1 = H at hP hS ⊢
              replace hP : va_P (dC, dI) vwCl [(a7, .inl (cI, 360, .inl g3_1)), (a8, .inl (cI, 600, .inl g4_1)), (a9, .inl (cI, 60, .inl g5_1)), (a11, .inl (cI, 600, .inl g6_1)), (a0, .inr (12, [.int i0, .ref a1, .ref a2, .ref a3, .ref a4, .int i1, .ref a5, .int i2, .int i3, .int i4, .int i5, .int i6, .int i7, .int i8, .ref a6, .ref a7, .ref a8, .ref a9, .ref a10, .ref a11, .ref a12, .int i9, .ref a13, .int i10, .ref a14, .ref a15, .int i11, .ref a16, .ref a17, .ref a18, .ref a19, .int i12, .int i13, .int i14, .int i15, .int i16, .ref a20, .long j0, .ref a21, .ref a22, .ref a23, .ref a24])), (a1, .inl (cI, 544, .inl (U145 0)))] H := hP
              replace hD : va_D A [(a7, .inl (cI, 360, .inl g3_1)), (a8, .inl (cI, 600, .inl g4_1)), (a9, .inl (cI, 60, .inl g5_1)), (a11, .inl (cI, 600, .inl g6_1)), (a0, .inr (12, [.int i0, .ref a1, .ref a2, .ref a3, .ref a4, .int i1, .ref a5, .int i2, .int i3, .int i4, .int i5, .int i6, .int i7, .int i8, .ref a6, .ref a7, .ref a8, .ref a9, .ref a10, .ref a11, .ref a12, .int i9, .ref a13, .int i10, .ref a14, .ref a15, .int i11, .ref a16, .ref a17, .ref a18, .ref a19, .int i12, .int i13, .int i14, .int i15, .int i16, .ref a20, .long j0, .ref a21, .ref a22, .ref a23, .ref a24])), (a1, .inl (cI, 544, .inl (U145 0)))] := hD
              refine lv_iload hx hb dX12_margin_131 (lv_at hl 6 rfl) ?_
              have hP9 := hP.sub (ws' := [(a0, .inr (12, [.int i0, .ref a1, .ref a2, .ref a3, .ref a4, .int i1, .ref a5, .int i2, .int i3, .int i4, .int i5, .int i6, .int i7, .int i8, .ref a6, .ref a7, .ref a8, .ref a9, .ref a10, .ref a11, .ref a12, .int i9, .ref a13, .int i10, .ref a14, .ref a15, .int i11, .ref a16, .ref a17, .ref a18, .ref a19, .int i12, .int i13, .int i14, .int i15, .int i16, .ref a20, .long j0, .ref a21, .ref a22, .ref a23, .ref a24])), (a1, .inl (cI, 544, .inl (U145 0))), (a7, .inl (cI, 360, .inl g3_1)), (a8, .inl (cI, 600, .inl g4_1)), (a9, .inl (cI, 60, .inl g5_1)), (a11, .inl (cI, 600, .inl g6_1))]) [4, 5, 0, 1, 2, 3] rfl
              have hD9 := hD.sub (ws' := [(a0, .inr (12, [.int i0, .ref a1, .ref a2, .ref a3, .ref a4, .int i1, .ref a5, .int i2, .int i3, .int i4, .int i5, .int i6, .int i7, .int i8, .ref a6, .ref a7, .ref a8, .ref a9, .ref a10, .ref a11, .ref a12, .int i9, .ref a13, .int i10, .ref a14, .ref a15, .int i11, .ref a16, .ref a17, .ref a18, .ref a19, .int i12, .int i13, .int i14, .int i15, .int i16, .ref a20, .long j0, .ref a21, .ref a22, .ref a23, .ref a24])), (a1, .inl (cI, 544, .inl (U145 0))), (a7, .inl (cI, 360, .inl g3_1)), (a8, .inl (cI, 600, .inl g4_1)), (a9, .inl (cI, 60, .inl g5_1)), (a11, .inl (cI, 600, .inl g6_1))]) [4, 5, 0, 1, 2, 3] (by decide) rfl
              rw [hQ]
              exact W.iret (v := w7_1) hx hb hr (fun t ht hW => ⟨⟨w7_1, (pickG 0 [], pickG (fun _ => 0) [(U145 0), g3_1, g4_1, g5_1, g6_1], pickG (fun _ => 0) []), rfl, ⟨(show (-2 : Int) ≤ w7_1.toInt ∧ w7_1.toInt ≤ 60 from ⟨by omega, by omega⟩), (show WI cp (U145 0) from hw146), trivial⟩, (by rw [ht]; exact hP9), hD9⟩, hS.F ht⟩) hS.2.2 dX12_margin_133
            refine lv_if_eq (tgt := 123) hx hb dX12_margin_62 (by decide) (fun c147 => ?_) (fun c147 => ?_)
            · rw [ki_eq] at c147
              exact jp14 _ _ ls  (hP.sub (ws' := [(a0, .inr (12, [.int i0, .ref a1, .ref a2, .ref a3, .ref a4, .int i1, .ref a5, .int i2, .int i3, .int i4, .int i5, .int i6, .int i7, .int i8, .ref a6, .ref a7, .ref a8, .ref a9, .ref a10, .ref a11, .ref a12, .int i9, .ref a13, .int i10, .ref a14, .ref a15, .int i11, .ref a16, .ref a17, .ref a18, .ref a19, .int i12, .int i13, .int i14, .int i15, .int i16, .ref a20, .long j0, .ref a21, .ref a22, .ref a23, .ref a24])), (a1, .inl (cI, 544, .inl g2_1)), (a7, .inl (cI, 360, .inl g3_1)), (a8, .inl (cI, 600, .inl g4_1)), (a9, .inl (cI, 60, .inl g5_1)), (a11, .inl (cI, 600, .inl g6_1))]) [0, 1, 2, 3, 4, 5] rfl) (hD.sub (ws' := [(a0, .inr (12, [.int i0, .ref a1, .ref a2, .ref a3, .ref a4, .int i1, .ref a5, .int i2, .int i3, .int i4, .int i5, .int i6, .int i7, .int i8, .ref a6, .ref a7, .ref a8, .ref a9, .ref a10, .ref a11, .ref a12, .int i9, .ref a13, .int i10, .ref a14, .ref a15, .int i11, .ref a16, .ref a17, .ref a18, .ref a19, .int i12, .int i13, .int i14, .int i15, .int i16, .ref a20, .long j0, .ref a21, .ref a22, .ref a23, .ref a24])), (a1, .inl (cI, 544, .inl g2_1)), (a7, .inl (cI, 360, .inl g3_1)), (a8, .inl (cI, 600, .inl g4_1)), (a9, .inl (cI, 60, .inl g5_1)), (a11, .inl (cI, 600, .inl g6_1))]) [0, 1, 2, 3, 4, 5] (by decide) rfl) hS (lv_sub hl [0, 1, 2, 3, 4, 5, 6, 7] rfl)
            · rw [ki_eq] at c147
              refine lv_iload hx hb dX12_margin_65 (lv_at hl 6 rfl) ?_
              refine lv_aload_n hx hb dX12_margin_67 rfl (lv_at hl 0 rfl) ?_
              refine lv_iload_n hx hb dX12_margin_68 rfl (lv_at hl 1 rfl) ?_
              refine lv_iconst (v := 3) hx hb dX12_margin_69 (by decide) ?_
              have hPc := hP.sub (ws' := [(a0, .inr (12, [.int i0, .ref a1, .ref a2, .ref a3, .ref a4, .int i1, .ref a5, .int i2, .int i3, .int i4, .int i5, .int i6, .int i7, .int i8, .ref a6, .ref a7, .ref a8, .ref a9, .ref a10, .ref a11, .ref a12, .int i9, .ref a13, .int i10, .ref a14, .ref a15, .int i11, .ref a16, .ref a17, .ref a18, .ref a19, .int i12, .int i13, .int i14, .int i15, .int i16, .ref a20, .long j0, .ref a21, .ref a22, .ref a23, .ref a24])), (a1, .inl (cI, 544, .inl g2_1))]) [0, 1] rfl
              have hDc := hD.sub (ws' := [(a0, .inr (12, [.int i0, .ref a1, .ref a2, .ref a3, .ref a4, .int i1, .ref a5, .int i2, .int i3, .int i4, .int i5, .int i6, .int i7, .int i8, .ref a6, .ref a7, .ref a8, .ref a9, .ref a10, .ref a11, .ref a12, .int i9, .ref a13, .int i10, .ref a14, .ref a15, .int i11, .ref a16, .ref a17, .ref a18, .ref a19, .int i12, .int i13, .int i14, .int i15, .int i16, .ref a20, .long j0, .ref a21, .ref a22, .ref a23, .ref a24])), (a1, .inl (cI, 544, .inl g2_1))]) [0, 1] (by decide) rfl
              have hFc := va_free (wc := [(a0, .inr (12, [.int i0, .ref a1, .ref a2, .ref a3, .ref a4, .int i1, .ref a5, .int i2, .int i3, .int i4, .int i5, .int i6, .int i7, .int i8, .ref a6, .ref a7, .ref a8, .ref a9, .ref a10, .ref a11, .ref a12, .int i9, .ref a13, .int i10, .ref a14, .ref a15, .int i11, .ref a16, .ref a17, .ref a18, .ref a19, .int i12, .int i13, .int i14, .int i15, .int i16, .ref a20, .long j0, .ref a21, .ref a22, .ref a23, .ref a24])), (a1, .inl (cI, 544, .inl g2_1))]) hD hS hA [0, 1] rfl
              refine va_calli (va_runV (As := [.int p0, .int 3]) (rest := [.int w7_1]) ⟨hx, hb, hml, hown, hwd⟩ (s_X12_ofNose l dC dI cI cZ cB cJ cM cG a0 a1 a2 a3 a4 a5 a6 a7 a8 a9 a10 a11 a12 a13 a14 a15 a16 a17 a18 a19 a20 a21 a22 a23 a24 i0 i1 i2 i3 i4 i5 i6 i7 i8 i9 i10 i11 i12 i13 i14 i15 i16 j0 g2_1 p0 3 cp H.size (show (0 : Int) ≤ i1.toInt ∧ i1.toInt ≤ 1600 from p_0) (show (0 : Int) ≤ i2.toInt ∧ i2.toInt ≤ 1600 from p_1) (show (0 : Int) ≤ i3.toInt ∧ i3.toInt ≤ 1600 from p_2) (show (0 : Int) ≤ i4.toInt ∧ i4.toInt ≤ 1600 from p_3) (show (0 : Int) ≤ i5.toInt ∧ i5.toInt ≤ 6 from p_4) (show (0 : Int) ≤ i7.toInt ∧ i7.toInt ≤ 3 from p_5) (show (0 : Int) ≤ i11.toInt ∧ i11.toInt ≤ 59 from p_6) (show WI cp g2_1 from hd_g2_1) (show (0 : Int) ≤ p0.toInt ∧ p0.toInt ≤ 23 from ⟨by omega, by omega⟩) (show (0 : Int) ≤ (3 : Int32).toInt ∧ (3 : Int32).toInt ≤ 6 from ⟨by omega, by omega⟩) p_8) (cwV 2 hwd (gV kr55_1 kr55_2 kr3_12 kr5_23 kr55_3) rfl rfl rfl (by decide +kernel) ⟨Nat.le_of_ble_eq_true rfl, Nat.le_of_ble_eq_true rfl⟩) (kPreV hPc hK hDc (ci := 12) (q0 := 0) rfl rfl) rfl rfl hl.1 rfl (lv_room (Nat.le_of_ble_eq_true rfl)) dX12_margin_70 ⟨Nat.le_of_ble_eq_true rfl, Nat.le_of_ble_eq_true rfl⟩) hS (fun q _ h => hFc q h) hFc (fun r148 u149 t H1 locs ht9 hvm hw hB hz1 hk1 hS => ?_)
              obtain ⟨hw150, -⟩ := hw
              replace hw150 : ((3 : Int32).toInt = 3 → 0 ≤ r148.toInt ∧ r148.toInt ≤ 60) := hw150
              replace hw150 := hw150 (by decide)
              obtain ⟨hP1, hD1⟩ := hB
              rw [ht9] at hP1
              obtain ⟨hP, hD⟩ := va_join (wr := [(a7, .inl (cI, 360, .inl g3_1)), (a8, .inl (cI, 600, .inl g4_1)), (a9, .inl (cI, 60, .inl g5_1)), (a11, .inl (cI, 600, .inl g6_1))]) (w1 := [(a0, .inr (12, [.int i0, .ref a1, .ref a2, .ref a3, .ref a4, .int i1, .ref a5, .int i2, .int i3, .int i4, .int i5, .int i6, .int i7, .int i8, .ref a6, .ref a7, .ref a8, .ref a9, .ref a10, .ref a11, .ref a12, .int i9, .ref a13, .int i10, .ref a14, .ref a15, .int i11, .ref a16, .ref a17, .ref a18, .ref a19, .int i12, .int i13, .int i14, .int i15, .int i16, .ref a20, .long j0, .ref a21, .ref a22, .ref a23, .ref a24])), (a1, .inl (cI, 544, .inl g2_1))]) hP hD [0, 1] [2, 3, 4, 5] rfl rfl (by decide) (by decide) hk1 hFc hP1 hD1
              generalize H1 = H at hP hS ⊢
              replace hP : va_P (dC, dI) vwCl [(a7, .inl (cI, 360, .inl g3_1)), (a8, .inl (cI, 600, .inl g4_1)), (a9, .inl (cI, 60, .inl g5_1)), (a11, .inl (cI, 600, .inl g6_1)), (a0, .inr (12, [.int i0, .ref a1, .ref a2, .ref a3, .ref a4, .int i1, .ref a5, .int i2, .int i3, .int i4, .int i5, .int i6, .int i7, .int i8, .ref a6, .ref a7, .ref a8, .ref a9, .ref a10, .ref a11, .ref a12, .int i9, .ref a13, .int i10, .ref a14, .ref a15, .int i11, .ref a16, .ref a17, .ref a18, .ref a19, .int i12, .int i13, .int i14, .int i15, .int i16, .ref a20, .long j0, .ref a21, .ref a22, .ref a23, .ref a24])), (a1, .inl (cI, 544, .inl g2_1))] H := hP
              replace hD : va_D A [(a7, .inl (cI, 360, .inl g3_1)), (a8, .inl (cI, 600, .inl g4_1)), (a9, .inl (cI, 60, .inl g5_1)), (a11, .inl (cI, 600, .inl g6_1)), (a0, .inr (12, [.int i0, .ref a1, .ref a2, .ref a3, .ref a4, .int i1, .ref a5, .int i2, .int i3, .int i4, .int i5, .int i6, .int i7, .int i8, .ref a6, .ref a7, .ref a8, .ref a9, .ref a10, .ref a11, .ref a12, .int i9, .ref a13, .int i10, .ref a14, .ref a15, .int i11, .ref a16, .ref a17, .ref a18, .ref a19, .int i12, .int i13, .int i14, .int i15, .int i16, .ref a20, .long j0, .ref a21, .ref a22, .ref a23, .ref a24])), (a1, .inl (cI, 544, .inl g2_1))] := hD
              refine lv_icmp_ge (tgt := 123) hx hb dX12_margin_73 (by decide) (fun c151 => ?_) (fun c151 => ?_)
              · rw [ki_le] at c151
                exact jp14 _ _ ls  (hP.sub (ws' := [(a0, .inr (12, [.int i0, .ref a1, .ref a2, .ref a3, .ref a4, .int i1, .ref a5, .int i2, .int i3, .int i4, .int i5, .int i6, .int i7, .int i8, .ref a6, .ref a7, .ref a8, .ref a9, .ref a10, .ref a11, .ref a12, .int i9, .ref a13, .int i10, .ref a14, .ref a15, .int i11, .ref a16, .ref a17, .ref a18, .ref a19, .int i12, .int i13, .int i14, .int i15, .int i16, .ref a20, .long j0, .ref a21, .ref a22, .ref a23, .ref a24])), (a1, .inl (cI, 544, .inl g2_1)), (a7, .inl (cI, 360, .inl g3_1)), (a8, .inl (cI, 600, .inl g4_1)), (a9, .inl (cI, 60, .inl g5_1)), (a11, .inl (cI, 600, .inl g6_1))]) [4, 5, 0, 1, 2, 3] rfl) (hD.sub (ws' := [(a0, .inr (12, [.int i0, .ref a1, .ref a2, .ref a3, .ref a4, .int i1, .ref a5, .int i2, .int i3, .int i4, .int i5, .int i6, .int i7, .int i8, .ref a6, .ref a7, .ref a8, .ref a9, .ref a10, .ref a11, .ref a12, .int i9, .ref a13, .int i10, .ref a14, .ref a15, .int i11, .ref a16, .ref a17, .ref a18, .ref a19, .int i12, .int i13, .int i14, .int i15, .int i16, .ref a20, .long j0, .ref a21, .ref a22, .ref a23, .ref a24])), (a1, .inl (cI, 544, .inl g2_1)), (a7, .inl (cI, 360, .inl g3_1)), (a8, .inl (cI, 600, .inl g4_1)), (a9, .inl (cI, 60, .inl g5_1)), (a11, .inl (cI, 600, .inl g6_1))]) [4, 5, 0, 1, 2, 3] (by decide) rfl) hS (lv_sub hl [0, 1, 2, 3, 4, 5, 6, 7] rfl)
              · rw [ki_le] at c151
                refine lv_aload_n hx hb dX12_margin_76 rfl (lv_at hl 0 rfl) ?_
                refine lv_iload_n hx hb dX12_margin_77 rfl (lv_at hl 1 rfl) ?_
                refine lv_iconst (v := 5) hx hb dX12_margin_78 (by decide) ?_
                refine lv_iload hx hb dX12_margin_79 (lv_at hl 6 rfl) ?_
                refine lv_iconst (v := 1) hx hb dX12_margin_81 (by decide) ?_
                refine lv_iadd hx hb dX12_margin_82 ?_
                refine lv_topi (fun x152 ex152 => ?_)
                have tx152 := ia_add (a := w7_1) (b := (1 : Int32)) (by omega) (by omega)
                rw [← ex152] at tx152
                have hPc := hP.sub (ws' := [(a0, .inr (12, [.int i0, .ref a1, .ref a2, .ref a3, .ref a4, .int i1, .ref a5, .int i2, .int i3, .int i4, .int i5, .int i6, .int i7, .int i8, .ref a6, .ref a7, .ref a8, .ref a9, .ref a10, .ref a11, .ref a12, .int i9, .ref a13, .int i10, .ref a14, .ref a15, .int i11, .ref a16, .ref a17, .ref a18, .ref a19, .int i12, .int i13, .int i14, .int i15, .int i16, .ref a20, .long j0, .ref a21, .ref a22, .ref a23, .ref a24])), (a1, .inl (cI, 544, .inl g2_1))]) [4, 5] rfl
                have hDc := hD.sub (ws' := [(a0, .inr (12, [.int i0, .ref a1, .ref a2, .ref a3, .ref a4, .int i1, .ref a5, .int i2, .int i3, .int i4, .int i5, .int i6, .int i7, .int i8, .ref a6, .ref a7, .ref a8, .ref a9, .ref a10, .ref a11, .ref a12, .int i9, .ref a13, .int i10, .ref a14, .ref a15, .int i11, .ref a16, .ref a17, .ref a18, .ref a19, .int i12, .int i13, .int i14, .int i15, .int i16, .ref a20, .long j0, .ref a21, .ref a22, .ref a23, .ref a24])), (a1, .inl (cI, 544, .inl g2_1))]) [4, 5] (by decide) rfl
                have hFc := va_free (wc := [(a0, .inr (12, [.int i0, .ref a1, .ref a2, .ref a3, .ref a4, .int i1, .ref a5, .int i2, .int i3, .int i4, .int i5, .int i6, .int i7, .int i8, .ref a6, .ref a7, .ref a8, .ref a9, .ref a10, .ref a11, .ref a12, .int i9, .ref a13, .int i10, .ref a14, .ref a15, .int i11, .ref a16, .ref a17, .ref a18, .ref a19, .int i12, .int i13, .int i14, .int i15, .int i16, .ref a20, .long j0, .ref a21, .ref a22, .ref a23, .ref a24])), (a1, .inl (cI, 544, .inl g2_1))]) hD hS hA [4, 5] rfl
                refine va_callv (va_runV (As := [.int p0, .int 5, .int x152]) (rest := []) ⟨hx, hb, hml, hown, hwd⟩ (s_X12_setNose l dC dI cI cZ cB cJ cM cG a0 a1 a2 a3 a4 a5 a6 a7 a8 a9 a10 a11 a12 a13 a14 a15 a16 a17 a18 a19 a20 a21 a22 a23 a24 i0 i1 i2 i3 i4 i5 i6 i7 i8 i9 i10 i11 i12 i13 i14 i15 i16 j0 g2_1 p0 5 x152 cp H.size (show (0 : Int) ≤ i1.toInt ∧ i1.toInt ≤ 1600 from p_0) (show (0 : Int) ≤ i2.toInt ∧ i2.toInt ≤ 1600 from p_1) (show (0 : Int) ≤ i3.toInt ∧ i3.toInt ≤ 1600 from p_2) (show (0 : Int) ≤ i4.toInt ∧ i4.toInt ≤ 1600 from p_3) (show (0 : Int) ≤ i5.toInt ∧ i5.toInt ≤ 6 from p_4) (show (0 : Int) ≤ i7.toInt ∧ i7.toInt ≤ 3 from p_5) (show (0 : Int) ≤ i11.toInt ∧ i11.toInt ≤ 59 from p_6) (show WI cp g2_1 from hd_g2_1) (show (0 : Int) ≤ p0.toInt ∧ p0.toInt ≤ 23 from ⟨by omega, by omega⟩) (show (5 : Int) ≤ (5 : Int32).toInt ∧ (5 : Int32).toInt ≤ 6 from ⟨by omega, by omega⟩) p_8) (cwV 3 hwd (gV kr60_20 kr60_21 kr4_11 kr5_23 kr60_22) rfl rfl rfl (by decide +kernel) ⟨Nat.le_of_ble_eq_true rfl, Nat.le_of_ble_eq_true rfl⟩) (kPreV hPc hK hDc (ci := 12) (q0 := 0) rfl rfl) rfl rfl hl.1 rfl (lv_room (Nat.le_of_ble_eq_true rfl)) dX12_margin_83 ⟨Nat.le_of_ble_eq_true rfl, Nat.le_of_ble_eq_true rfl⟩) hS (fun q _ h => hFc q h) hFc (fun u154 t H1 locs ht9 hvm hw hB hz1 hk1 hS => ?_)
                obtain ⟨u155, U155, V155⟩ := u154
                obtain ⟨hw156, -⟩ := hw
                replace hw156 : WI cp (U155 0) := hw156
                obtain ⟨hP1, hD1⟩ := hB
                rw [ht9] at hP1
                obtain ⟨hP, hD⟩ := va_join (wr := [(a7, .inl (cI, 360, .inl g3_1)), (a8, .inl (cI, 600, .inl g4_1)), (a9, .inl (cI, 60, .inl g5_1)), (a11, .inl (cI, 600, .inl g6_1))]) (w1 := [(a0, .inr (12, [.int i0, .ref a1, .ref a2, .ref a3, .ref a4, .int i1, .ref a5, .int i2, .int i3, .int i4, .int i5, .int i6, .int i7, .int i8, .ref a6, .ref a7, .ref a8, .ref a9, .ref a10, .ref a11, .ref a12, .int i9, .ref a13, .int i10, .ref a14, .ref a15, .int i11, .ref a16, .ref a17, .ref a18, .ref a19, .int i12, .int i13, .int i14, .int i15, .int i16, .ref a20, .long j0, .ref a21, .ref a22, .ref a23, .ref a24])), (a1, .inl (cI, 544, .inl (U155 0)))]) hP hD [4, 5] [0, 1, 2, 3] rfl rfl (by decide) (by decide) hk1 hFc hP1 hD1
                generalize H1 = H at hP hS ⊢
                replace hP : va_P (dC, dI) vwCl [(a7, .inl (cI, 360, .inl g3_1)), (a8, .inl (cI, 600, .inl g4_1)), (a9, .inl (cI, 60, .inl g5_1)), (a11, .inl (cI, 600, .inl g6_1)), (a0, .inr (12, [.int i0, .ref a1, .ref a2, .ref a3, .ref a4, .int i1, .ref a5, .int i2, .int i3, .int i4, .int i5, .int i6, .int i7, .int i8, .ref a6, .ref a7, .ref a8, .ref a9, .ref a10, .ref a11, .ref a12, .int i9, .ref a13, .int i10, .ref a14, .ref a15, .int i11, .ref a16, .ref a17, .ref a18, .ref a19, .int i12, .int i13, .int i14, .int i15, .int i16, .ref a20, .long j0, .ref a21, .ref a22, .ref a23, .ref a24])), (a1, .inl (cI, 544, .inl (U155 0)))] H := hP
                replace hD : va_D A [(a7, .inl (cI, 360, .inl g3_1)), (a8, .inl (cI, 600, .inl g4_1)), (a9, .inl (cI, 60, .inl g5_1)), (a11, .inl (cI, 600, .inl g6_1)), (a0, .inr (12, [.int i0, .ref a1, .ref a2, .ref a3, .ref a4, .int i1, .ref a5, .int i2, .int i3, .int i4, .int i5, .int i6, .int i7, .int i8, .ref a6, .ref a7, .ref a8, .ref a9, .ref a10, .ref a11, .ref a12, .int i9, .ref a13, .int i10, .ref a14, .ref a15, .int i11, .ref a16, .ref a17, .ref a18, .ref a19, .int i12, .int i13, .int i14, .int i15, .int i16, .ref a20, .long j0, .ref a21, .ref a22, .ref a23, .ref a24])), (a1, .inl (cI, 544, .inl (U155 0)))] := hD
                refine lv_aload_n hx hb dX12_margin_86 rfl (lv_at hl 0 rfl) ?_
                refine lv_iload_n hx hb dX12_margin_87 rfl (lv_at hl 2 rfl) ?_
                refine lv_iload_n hx hb dX12_margin_88 rfl (lv_at hl 3 rfl) ?_
                have hPc := hP.sub (ws' := [(a0, .inr (12, [.int i0, .ref a1, .ref a2, .ref a3, .ref a4, .int i1, .ref a5, .int i2, .int i3, .int i4, .int i5, .int i6, .int i7, .int i8, .ref a6, .ref a7, .ref a8, .ref a9, .ref a10, .ref a11, .ref a12, .int i9, .ref a13, .int i10, .ref a14, .ref a15, .int i11, .ref a16, .ref a17, .ref a18, .ref a19, .int i12, .int i13, .int i14, .int i15, .int i16, .ref a20, .long j0, .ref a21, .ref a22, .ref a23, .ref a24])), (a1, .inl (cI, 544, .inl (U155 0))), (a7, .inl (cI, 360, .inl g3_1)), (a8, .inl (cI, 600, .inl g4_1)), (a9, .inl (cI, 60, .inl g5_1)), (a11, .inl (cI, 600, .inl g6_1))]) [4, 5, 0, 1, 2, 3] rfl
                have hDc := hD.sub (ws' := [(a0, .inr (12, [.int i0, .ref a1, .ref a2, .ref a3, .ref a4, .int i1, .ref a5, .int i2, .int i3, .int i4, .int i5, .int i6, .int i7, .int i8, .ref a6, .ref a7, .ref a8, .ref a9, .ref a10, .ref a11, .ref a12, .int i9, .ref a13, .int i10, .ref a14, .ref a15, .int i11, .ref a16, .ref a17, .ref a18, .ref a19, .int i12, .int i13, .int i14, .int i15, .int i16, .ref a20, .long j0, .ref a21, .ref a22, .ref a23, .ref a24])), (a1, .inl (cI, 544, .inl (U155 0))), (a7, .inl (cI, 360, .inl g3_1)), (a8, .inl (cI, 600, .inl g4_1)), (a9, .inl (cI, 60, .inl g5_1)), (a11, .inl (cI, 600, .inl g6_1))]) [4, 5, 0, 1, 2, 3] (by decide) rfl
                have hFc := va_free (wc := [(a0, .inr (12, [.int i0, .ref a1, .ref a2, .ref a3, .ref a4, .int i1, .ref a5, .int i2, .int i3, .int i4, .int i5, .int i6, .int i7, .int i8, .ref a6, .ref a7, .ref a8, .ref a9, .ref a10, .ref a11, .ref a12, .int i9, .ref a13, .int i10, .ref a14, .ref a15, .int i11, .ref a16, .ref a17, .ref a18, .ref a19, .int i12, .int i13, .int i14, .int i15, .int i16, .ref a20, .long j0, .ref a21, .ref a22, .ref a23, .ref a24])), (a1, .inl (cI, 544, .inl (U155 0))), (a7, .inl (cI, 360, .inl g3_1)), (a8, .inl (cI, 600, .inl g4_1)), (a9, .inl (cI, 60, .inl g5_1)), (a11, .inl (cI, 600, .inl g6_1))]) hD hS hA [4, 5, 0, 1, 2, 3] rfl
                refine va_calll (va_runV (As := [.int p1, .int p2]) (rest := []) ⟨hx, hb, hml, hown, hwd⟩ (s_X12_heardOf l dC dI cI cZ cB cJ cM cG a0 a1 a2 a3 a4 a5 a6 a7 a8 a9 a10 a11 a12 a13 a14 a15 a16 a17 a18 a19 a20 a21 a22 a23 a24 i0 i1 i2 i3 i4 i5 i6 i7 i8 i9 i10 i11 i12 i13 i14 i15 i16 j0 (U155 0) g3_1 g4_1 g5_1 g6_1 p1 p2 cp H.size (show (0 : Int) ≤ i1.toInt ∧ i1.toInt ≤ 1600 from p_0) (show (0 : Int) ≤ i2.toInt ∧ i2.toInt ≤ 1600 from p_1) (show (0 : Int) ≤ i3.toInt ∧ i3.toInt ≤ 1600 from p_2) (show (0 : Int) ≤ i4.toInt ∧ i4.toInt ≤ 1600 from p_3) (show (0 : Int) ≤ i5.toInt ∧ i5.toInt ≤ 6 from p_4) (show (0 : Int) ≤ i7.toInt ∧ i7.toInt ≤ 3 from p_5) (show (0 : Int) ≤ i11.toInt ∧ i11.toInt ≤ 59 from p_6) (show WI cp (U155 0) from hw156) (show (0 : Int) ≤ p1.toInt ∧ p1.toInt ≤ 9 from ⟨by omega, by omega⟩) p_8) (cwV 2 hwd (gV kr65_23 kr66_0 kr5_3 kr5_23 kr66_1) rfl rfl rfl (by decide +kernel) ⟨Nat.le_of_ble_eq_true rfl, Nat.le_of_ble_eq_true rfl⟩) (kPreV hPc hK hDc (ci := 12) (q0 := 0) rfl rfl) rfl rfl hl.1 rfl (lv_room (Nat.le_of_ble_eq_true rfl)) dX12_margin_89 ⟨Nat.le_of_ble_eq_true rfl, Nat.le_of_ble_eq_true rfl⟩) hS (fun q _ h => hFc q h) hFc (fun r157 u158 t H1 locs ht9 hvm hw hB hz1 hk1 hS => ?_)
                obtain ⟨u159, U159, V159⟩ := u158
                obtain ⟨hP1, hD1⟩ := hB
                rw [ht9] at hP1
                obtain ⟨hP, hD⟩ := va_join (wr := []) (w1 := [(a0, .inr (12, [.int i0, .ref a1, .ref a2, .ref a3, .ref a4, .int i1, .ref a5, .int i2, .int i3, .int i4, .int i5, .int i6, .int i7, .int i8, .ref a6, .ref a7, .ref a8, .ref a9, .ref a10, .ref a11, .ref a12, .int i9, .ref a13, .int i10, .ref a14, .ref a15, .int i11, .ref a16, .ref a17, .ref a18, .ref a19, .int i12, .int i13, .int i14, .int i15, .int i16, .ref a20, .long j0, .ref a21, .ref a22, .ref a23, .ref a24])), (a1, .inl (cI, 544, .inl (U155 0))), (a7, .inl (cI, 360, .inl (U159 0))), (a8, .inl (cI, 600, .inl (U159 1))), (a9, .inl (cI, 60, .inl (U159 2))), (a11, .inl (cI, 600, .inl (U159 3)))]) hP hD [4, 5, 0, 1, 2, 3] [] rfl rfl (by decide) (by decide) hk1 hFc hP1 hD1
                generalize H1 = H at hP hS ⊢
                replace hP : va_P (dC, dI) vwCl [(a0, .inr (12, [.int i0, .ref a1, .ref a2, .ref a3, .ref a4, .int i1, .ref a5, .int i2, .int i3, .int i4, .int i5, .int i6, .int i7, .int i8, .ref a6, .ref a7, .ref a8, .ref a9, .ref a10, .ref a11, .ref a12, .int i9, .ref a13, .int i10, .ref a14, .ref a15, .int i11, .ref a16, .ref a17, .ref a18, .ref a19, .int i12, .int i13, .int i14, .int i15, .int i16, .ref a20, .long j0, .ref a21, .ref a22, .ref a23, .ref a24])), (a1, .inl (cI, 544, .inl (U155 0))), (a7, .inl (cI, 360, .inl (U159 0))), (a8, .inl (cI, 600, .inl (U159 1))), (a9, .inl (cI, 60, .inl (U159 2))), (a11, .inl (cI, 600, .inl (U159 3)))] H := hP
                replace hD : va_D A [(a0, .inr (12, [.int i0, .ref a1, .ref a2, .ref a3, .ref a4, .int i1, .ref a5, .int i2, .int i3, .int i4, .int i5, .int i6, .int i7, .int i8, .ref a6, .ref a7, .ref a8, .ref a9, .ref a10, .ref a11, .ref a12, .int i9, .ref a13, .int i10, .ref a14, .ref a15, .int i11, .ref a16, .ref a17, .ref a18, .ref a19, .int i12, .int i13, .int i14, .int i15, .int i16, .ref a20, .long j0, .ref a21, .ref a22, .ref a23, .ref a24])), (a1, .inl (cI, 544, .inl (U155 0))), (a7, .inl (cI, 360, .inl (U159 0))), (a8, .inl (cI, 600, .inl (U159 1))), (a9, .inl (cI, 60, .inl (U159 2))), (a11, .inl (cI, 600, .inl (U159 3)))] := hD
                refine lv_lload hx hb dX12_margin_92 (lv_at hl 5 rfl) ?_
                refine W.lcmp hx hb dX12_margin_94 ?_
                have jp16 : ∀ (H : Heap) (locs : List Loc) (ls : Array Slot) (z0_16 : Int32), ((0 : Int) ≤ z0_16.toInt ∧ z0_16.toInt ≤ 1) → va_P (dC, dI) vwCl [(a0, .inr (12, [.int i0, .ref a1, .ref a2, .ref a3, .ref a4, .int i1, .ref a5, .int i2, .int i3, .int i4, .int i5, .int i6, .int i7, .int i8, .ref a6, .ref a7, .ref a8, .ref a9, .ref a10, .ref a11, .ref a12, .int i9, .ref a13, .int i10, .ref a14, .ref a15, .int i11, .ref a16, .ref a17, .ref a18, .ref a19, .int i12, .int i13, .int i14, .int i15, .int i16, .ref a20, .long j0, .ref a21, .ref a22, .ref a23, .ref a24])), (a1, .inl (cI, 544, .inl (U155 0))), (a7, .inl (cI, 360, .inl (U159 0))), (a8, .inl (cI, 600, .inl (U159 1))), (a9, .inl (cI, 60, .inl (U159 2))), (a11, .inl (cI, 600, .inl (U159 3)))] H → va_D A [(a0, .inr (12, [.int i0, .ref a1, .ref a2, .ref a3, .ref a4, .int i1, .ref a5, .int i2, .int i3, .int i4, .int i5, .int i6, .int i7, .int i8, .ref a6, .ref a7, .ref a8, .ref a9, .ref a10, .ref a11, .ref a12, .int i9, .ref a13, .int i10, .ref a14, .ref a15, .int i11, .ref a16, .ref a17, .ref a18, .ref a19, .int i12, .int i13, .int i14, .int i15, .int i16, .ref a20, .long j0, .ref a21, .ref a22, .ref a23, .ref a24])), (a1, .inl (cI, 544, .inl (U155 0))), (a7, .inl (cI, 360, .inl (U159 0))), (a8, .inl (cI, 600, .inl (U159 1))), (a9, .inl (cI, 60, .inl (U159 2))), (a11, .inl (cI, 600, .inl (U159 3)))] → va_S A s.heap H locs → lv_has ls 9 [(0, .ref a0), (1, .int p0), (2, .int p1), (3, .int p2), (4, .int r17), (5, .long r24), (7, .int w7_1), (8, .int w8_1)] → W p l e ({ frames := 7, cells := 0, slots := 0, locals := 165 } : Room) s m ([.ref a0, .int p0, .int p1, .int p2] : List Value).toArray below meth c H locs 0 0 Q (F0 m 103 ls [.int z0_16]) := by
                  intro H locs ls z0_16 hr_z0_16 hP hD hS hl
                  refine lv_istore (lv' := [(8, .int z0_16), (0, .ref a0), (1, .int p0), (2, .int p1), (3, .int p2), (4, .int r17), (5, .long r24), (7, .int w7_1)]) hx hb dX12_margin_103 hl (by decide) rfl (fun ls hl => ?_)
                  refine lv_iload hx hb dX12_margin_105 (lv_at hl 7 rfl) ?_
                  refine lv_iload hx hb dX12_margin_107 (lv_at hl 0 rfl) ?_
                  refine lv_if_eq (tgt := 116) hx hb dX12_margin_109 (by decide) (fun c164 => ?_) (fun c164 => ?_)
                  · rw [ki_eq] at c164
                    refine lv_iconst (v := 0) hx hb dX12_margin_116 (by decide) ?_
                    refine lv_iadd hx hb dX12_margin_117 ?_
                    refine lv_topi (fun x165 ex165 => ?_)
                    have tx165 := ia_add (a := w7_1) (b := (0 : Int32)) (by omega) (by omega)
                    rw [← ex165] at tx165
                    refine lv_istore (lv' := [(7, .int x165), (8, .int z0_16), (0, .ref a0), (1, .int p0), (2, .int p1), (3, .int p2), (4, .int r17), (5, .long r24)]) hx hb dX12_margin_118 hl (by decide) rfl (fun ls hl => ?_)
                    refine lv_goto (tgt := 60) hx hb dX12_margin_120 (by decide) ?_
                    exact ih1 _ _ ls x165 z0_16 (U155 0) (U159 0) (U159 1) (U159 2) (U159 3) (show (0 : Int) ≤ x165.toInt ∧ x165.toInt ≤ 60 from ⟨by omega, by omega⟩) (show (0 : Int) ≤ z0_16.toInt ∧ z0_16.toInt ≤ 1 from ⟨by omega, by omega⟩) (show WI cp (U155 0) from hw156) (by omega) (hP.sub (ws' := [(a0, .inr (12, [.int i0, .ref a1, .ref a2, .ref a3, .ref a4, .int i1, .ref a5, .int i2, .int i3, .int i4, .int i5, .int i6, .int i7, .int i8, .ref a6, .ref a7, .ref a8, .ref a9, .ref a10, .ref a11, .ref a12, .int i9, .ref a13, .int i10, .ref a14, .ref a15, .int i11, .ref a16, .ref a17, .ref a18, .ref a19, .int i12, .int i13, .int i14, .int i15, .int i16, .ref a20, .long j0, .ref a21, .ref a22, .ref a23, .ref a24])), (a1, .inl (cI, 544, .inl (U155 0))), (a7, .inl (cI, 360, .inl (U159 0))), (a8, .inl (cI, 600, .inl (U159 1))), (a9, .inl (cI, 60, .inl (U159 2))), (a11, .inl (cI, 600, .inl (U159 3)))]) [0, 1, 2, 3, 4, 5] rfl) (hD.sub (ws' := [(a0, .inr (12, [.int i0, .ref a1, .ref a2, .ref a3, .ref a4, .int i1, .ref a5, .int i2, .int i3, .int i4, .int i5, .int i6, .int i7, .int i8, .ref a6, .ref a7, .ref a8, .ref a9, .ref a10, .ref a11, .ref a12, .int i9, .ref a13, .int i10, .ref a14, .ref a15, .int i11, .ref a16, .ref a17, .ref a18, .ref a19, .int i12, .int i13, .int i14, .int i15, .int i16, .ref a20, .long j0, .ref a21, .ref a22, .ref a23, .ref a24])), (a1, .inl (cI, 544, .inl (U155 0))), (a7, .inl (cI, 360, .inl (U159 0))), (a8, .inl (cI, 600, .inl (U159 1))), (a9, .inl (cI, 60, .inl (U159 2))), (a11, .inl (cI, 600, .inl (U159 3)))]) [0, 1, 2, 3, 4, 5] (by decide) rfl) hS (lv_sub hl [2, 3, 4, 5, 6, 7, 0, 1] rfl)
                  · rw [ki_eq] at c164
                    refine lv_iconst (v := 1) hx hb dX12_margin_112 (by decide) ?_
                    refine lv_goto (tgt := 117) hx hb dX12_margin_113 (by decide) ?_
                    refine lv_iadd hx hb dX12_margin_117 ?_
                    refine lv_topi (fun x166 ex166 => ?_)
                    have tx166 := ia_add (a := w7_1) (b := (1 : Int32)) (by omega) (by omega)
                    rw [← ex166] at tx166
                    refine lv_istore (lv' := [(7, .int x166), (8, .int z0_16), (0, .ref a0), (1, .int p0), (2, .int p1), (3, .int p2), (4, .int r17), (5, .long r24)]) hx hb dX12_margin_118 hl (by decide) rfl (fun ls hl => ?_)
                    refine lv_goto (tgt := 60) hx hb dX12_margin_120 (by decide) ?_
                    exact ih1 _ _ ls x166 z0_16 (U155 0) (U159 0) (U159 1) (U159 2) (U159 3) (show (0 : Int) ≤ x166.toInt ∧ x166.toInt ≤ 60 from ⟨by omega, by omega⟩) (show (0 : Int) ≤ z0_16.toInt ∧ z0_16.toInt ≤ 1 from ⟨by omega, by omega⟩) (show WI cp (U155 0) from hw156) (by omega) (hP.sub (ws' := [(a0, .inr (12, [.int i0, .ref a1, .ref a2, .ref a3, .ref a4, .int i1, .ref a5, .int i2, .int i3, .int i4, .int i5, .int i6, .int i7, .int i8, .ref a6, .ref a7, .ref a8, .ref a9, .ref a10, .ref a11, .ref a12, .int i9, .ref a13, .int i10, .ref a14, .ref a15, .int i11, .ref a16, .ref a17, .ref a18, .ref a19, .int i12, .int i13, .int i14, .int i15, .int i16, .ref a20, .long j0, .ref a21, .ref a22, .ref a23, .ref a24])), (a1, .inl (cI, 544, .inl (U155 0))), (a7, .inl (cI, 360, .inl (U159 0))), (a8, .inl (cI, 600, .inl (U159 1))), (a9, .inl (cI, 60, .inl (U159 2))), (a11, .inl (cI, 600, .inl (U159 3)))]) [0, 1, 2, 3, 4, 5] rfl) (hD.sub (ws' := [(a0, .inr (12, [.int i0, .ref a1, .ref a2, .ref a3, .ref a4, .int i1, .ref a5, .int i2, .int i3, .int i4, .int i5, .int i6, .int i7, .int i8, .ref a6, .ref a7, .ref a8, .ref a9, .ref a10, .ref a11, .ref a12, .int i9, .ref a13, .int i10, .ref a14, .ref a15, .int i11, .ref a16, .ref a17, .ref a18, .ref a19, .int i12, .int i13, .int i14, .int i15, .int i16, .ref a20, .long j0, .ref a21, .ref a22, .ref a23, .ref a24])), (a1, .inl (cI, 544, .inl (U155 0))), (a7, .inl (cI, 360, .inl (U159 0))), (a8, .inl (cI, 600, .inl (U159 1))), (a9, .inl (cI, 60, .inl (U159 2))), (a11, .inl (cI, 600, .inl (U159 3)))]) [0, 1, 2, 3, 4, 5] (by decide) rfl) hS (lv_sub hl [2, 3, 4, 5, 6, 7, 0, 1] rfl)
                refine lv_if_ne (tgt := 102) hx hb dX12_margin_95 (by decide) (fun c167 => ?_) (fun c167 => ?_)
                · clear c167
                  refine lv_iconst (v := 0) hx hb dX12_margin_102 (by decide) ?_
                  exact jp16 _ _ ls (0) (show (0 : Int) ≤ (0 : Int32).toInt ∧ (0 : Int32).toInt ≤ 1 from ⟨by omega, by omega⟩) (hP.sub (ws' := [(a0, .inr (12, [.int i0, .ref a1, .ref a2, .ref a3, .ref a4, .int i1, .ref a5, .int i2, .int i3, .int i4, .int i5, .int i6, .int i7, .int i8, .ref a6, .ref a7, .ref a8, .ref a9, .ref a10, .ref a11, .ref a12, .int i9, .ref a13, .int i10, .ref a14, .ref a15, .int i11, .ref a16, .ref a17, .ref a18, .ref a19, .int i12, .int i13, .int i14, .int i15, .int i16, .ref a20, .long j0, .ref a21, .ref a22, .ref a23, .ref a24])), (a1, .inl (cI, 544, .inl (U155 0))), (a7, .inl (cI, 360, .inl (U159 0))), (a8, .inl (cI, 600, .inl (U159 1))), (a9, .inl (cI, 60, .inl (U159 2))), (a11, .inl (cI, 600, .inl (U159 3)))]) [0, 1, 2, 3, 4, 5] rfl) (hD.sub (ws' := [(a0, .inr (12, [.int i0, .ref a1, .ref a2, .ref a3, .ref a4, .int i1, .ref a5, .int i2, .int i3, .int i4, .int i5, .int i6, .int i7, .int i8, .ref a6, .ref a7, .ref a8, .ref a9, .ref a10, .ref a11, .ref a12, .int i9, .ref a13, .int i10, .ref a14, .ref a15, .int i11, .ref a16, .ref a17, .ref a18, .ref a19, .int i12, .int i13, .int i14, .int i15, .int i16, .ref a20, .long j0, .ref a21, .ref a22, .ref a23, .ref a24])), (a1, .inl (cI, 544, .inl (U155 0))), (a7, .inl (cI, 360, .inl (U159 0))), (a8, .inl (cI, 600, .inl (U159 1))), (a9, .inl (cI, 60, .inl (U159 2))), (a11, .inl (cI, 600, .inl (U159 3)))]) [0, 1, 2, 3, 4, 5] (by decide) rfl) hS (lv_sub hl [0, 1, 2, 3, 4, 5, 6, 7] rfl)
                · clear c167
                  refine lv_iconst (v := 1) hx hb dX12_margin_98 (by decide) ?_
                  refine lv_goto (tgt := 103) hx hb dX12_margin_99 (by decide) ?_
                  exact jp16 _ _ ls (1) (show (0 : Int) ≤ (1 : Int32).toInt ∧ (1 : Int32).toInt ≤ 1 from ⟨by omega, by omega⟩) (hP.sub (ws' := [(a0, .inr (12, [.int i0, .ref a1, .ref a2, .ref a3, .ref a4, .int i1, .ref a5, .int i2, .int i3, .int i4, .int i5, .int i6, .int i7, .int i8, .ref a6, .ref a7, .ref a8, .ref a9, .ref a10, .ref a11, .ref a12, .int i9, .ref a13, .int i10, .ref a14, .ref a15, .int i11, .ref a16, .ref a17, .ref a18, .ref a19, .int i12, .int i13, .int i14, .int i15, .int i16, .ref a20, .long j0, .ref a21, .ref a22, .ref a23, .ref a24])), (a1, .inl (cI, 544, .inl (U155 0))), (a7, .inl (cI, 360, .inl (U159 0))), (a8, .inl (cI, 600, .inl (U159 1))), (a9, .inl (cI, 60, .inl (U159 2))), (a11, .inl (cI, 600, .inl (U159 3)))]) [0, 1, 2, 3, 4, 5] rfl) (hD.sub (ws' := [(a0, .inr (12, [.int i0, .ref a1, .ref a2, .ref a3, .ref a4, .int i1, .ref a5, .int i2, .int i3, .int i4, .int i5, .int i6, .int i7, .int i8, .ref a6, .ref a7, .ref a8, .ref a9, .ref a10, .ref a11, .ref a12, .int i9, .ref a13, .int i10, .ref a14, .ref a15, .int i11, .ref a16, .ref a17, .ref a18, .ref a19, .int i12, .int i13, .int i14, .int i15, .int i16, .ref a20, .long j0, .ref a21, .ref a22, .ref a23, .ref a24])), (a1, .inl (cI, 544, .inl (U155 0))), (a7, .inl (cI, 360, .inl (U159 0))), (a8, .inl (cI, 600, .inl (U159 1))), (a9, .inl (cI, 60, .inl (U159 2))), (a11, .inl (cI, 600, .inl (U159 3)))]) [0, 1, 2, 3, 4, 5] (by decide) rfl) hS (lv_sub hl [0, 1, 2, 3, 4, 5, 6, 7] rfl)
        exact lp1 _ _ _ ls (0) (1) (U22 0) (U26 0) (U26 1) (U26 2) (U26 3) (show (0 : Int) ≤ (0 : Int32).toInt ∧ (0 : Int32).toInt ≤ 60 from ⟨by omega, by omega⟩) (show (0 : Int) ≤ (1 : Int32).toInt ∧ (1 : Int32).toInt ≤ 1 from ⟨by omega, by omega⟩) (show WI cp (U22 0) from hw23) (Nat.lt_succ_self _) (hP.sub (ws' := [(a0, .inr (12, [.int i0, .ref a1, .ref a2, .ref a3, .ref a4, .int i1, .ref a5, .int i2, .int i3, .int i4, .int i5, .int i6, .int i7, .int i8, .ref a6, .ref a7, .ref a8, .ref a9, .ref a10, .ref a11, .ref a12, .int i9, .ref a13, .int i10, .ref a14, .ref a15, .int i11, .ref a16, .ref a17, .ref a18, .ref a19, .int i12, .int i13, .int i14, .int i15, .int i16, .ref a20, .long j0, .ref a21, .ref a22, .ref a23, .ref a24])), (a1, .inl (cI, 544, .inl (U22 0))), (a7, .inl (cI, 360, .inl (U26 0))), (a8, .inl (cI, 600, .inl (U26 1))), (a9, .inl (cI, 60, .inl (U26 2))), (a11, .inl (cI, 600, .inl (U26 3)))]) [0, 1, 2, 3, 4, 5] rfl) (hD.sub (ws' := [(a0, .inr (12, [.int i0, .ref a1, .ref a2, .ref a3, .ref a4, .int i1, .ref a5, .int i2, .int i3, .int i4, .int i5, .int i6, .int i7, .int i8, .ref a6, .ref a7, .ref a8, .ref a9, .ref a10, .ref a11, .ref a12, .int i9, .ref a13, .int i10, .ref a14, .ref a15, .int i11, .ref a16, .ref a17, .ref a18, .ref a19, .int i12, .int i13, .int i14, .int i15, .int i16, .ref a20, .long j0, .ref a21, .ref a22, .ref a23, .ref a24])), (a1, .inl (cI, 544, .inl (U22 0))), (a7, .inl (cI, 360, .inl (U26 0))), (a8, .inl (cI, 600, .inl (U26 1))), (a9, .inl (cI, 60, .inl (U26 2))), (a11, .inl (cI, 600, .inl (U26 3)))]) [0, 1, 2, 3, 4, 5] (by decide) rfl) hS (lv_sub hl [4, 5, 6, 7, 3, 2, 1, 0] rfl)
      · rw [ki_eq] at c16
        have hw15q := hw15 (by omega)
        clear hw15
        refine lv_bipush (v := (-2)) hx hb dX12_margin_28 (by decide) ?_
        have hP9 := hP.sub (ws' := [(a0, .inr (12, [.int i0, .ref a1, .ref a2, .ref a3, .ref a4, .int i1, .ref a5, .int i2, .int i3, .int i4, .int i5, .int i6, .int i7, .int i8, .ref a6, .ref a7, .ref a8, .ref a9, .ref a10, .ref a11, .ref a12, .int i9, .ref a13, .int i10, .ref a14, .ref a15, .int i11, .ref a16, .ref a17, .ref a18, .ref a19, .int i12, .int i13, .int i14, .int i15, .int i16, .ref a20, .long j0, .ref a21, .ref a22, .ref a23, .ref a24])), (a1, .inl (cI, 544, .inl xF0)), (a7, .inl (cI, 360, .inl xF6)), (a8, .inl (cI, 600, .inl xF7)), (a9, .inl (cI, 60, .inl xF8)), (a11, .inl (cI, 600, .inl xF10))]) [4, 5, 0, 1, 2, 3] rfl
        have hD9 := hD.sub (ws' := [(a0, .inr (12, [.int i0, .ref a1, .ref a2, .ref a3, .ref a4, .int i1, .ref a5, .int i2, .int i3, .int i4, .int i5, .int i6, .int i7, .int i8, .ref a6, .ref a7, .ref a8, .ref a9, .ref a10, .ref a11, .ref a12, .int i9, .ref a13, .int i10, .ref a14, .ref a15, .int i11, .ref a16, .ref a17, .ref a18, .ref a19, .int i12, .int i13, .int i14, .int i15, .int i16, .ref a20, .long j0, .ref a21, .ref a22, .ref a23, .ref a24])), (a1, .inl (cI, 544, .inl xF0)), (a7, .inl (cI, 360, .inl xF6)), (a8, .inl (cI, 600, .inl xF7)), (a9, .inl (cI, 60, .inl xF8)), (a11, .inl (cI, 600, .inl xF10))]) [4, 5, 0, 1, 2, 3] (by decide) rfl
        rw [hQ]
        exact W.iret (v := (-2)) hx hb hr (fun t ht hW => ⟨⟨(-2), (pickG 0 [], pickG (fun _ => 0) [xF0, xF6, xF7, xF8, xF10], pickG (fun _ => 0) []), rfl, ⟨(show (-2 : Int) ≤ ((-2) : Int32).toInt ∧ ((-2) : Int32).toInt ≤ 60 from ⟨by omega, by omega⟩), (show WI cp xF0 from p_7), trivial⟩, (by rw [ht]; exact hP9), hD9⟩, hS.F ht⟩) hS.2.2 dX12_margin_30
theorem dX12_count_0 : decode cX12_count 0 = .ok (.iconst 0, 1) := by decide +kernel
theorem dX12_count_1 : decode cX12_count 1 = .ok (.istore_n 2, 1) := by decide +kernel
theorem dX12_count_2 : decode cX12_count 2 = .ok (.iload_n 1, 1) := by decide +kernel
theorem dX12_count_3 : decode cX12_count 3 = .ok (.tableswitch 197 0 11 #[61, 68, 75, 82, 90, 98, 105, 110, 117, 124, 132, 164], 61) := by decide +kernel
theorem dX12_count_64 : decode cX12_count 64 = .ok (.aload_n 0, 1) := by decide +kernel
theorem dX12_count_65 : decode cX12_count 65 = .ok (.getfield 13, 3) := by decide +kernel
theorem dX12_count_68 : decode cX12_count 68 = .ok (.iconst 1, 1) := by decide +kernel
theorem dX12_count_69 : decode cX12_count 69 = .ok (.iaload, 1) := by decide +kernel
theorem dX12_count_70 : decode cX12_count 70 = .ok (.ireturn, 1) := by decide +kernel
theorem dX12_count_71 : decode cX12_count 71 = .ok (.aload_n 0, 1) := by decide +kernel
theorem dX12_count_72 : decode cX12_count 72 = .ok (.getfield 13, 3) := by decide +kernel
theorem dX12_count_75 : decode cX12_count 75 = .ok (.iconst 4, 1) := by decide +kernel
theorem dX12_count_76 : decode cX12_count 76 = .ok (.iaload, 1) := by decide +kernel
theorem dX12_count_77 : decode cX12_count 77 = .ok (.ireturn, 1) := by decide +kernel
theorem dX12_count_78 : decode cX12_count 78 = .ok (.aload_n 0, 1) := by decide +kernel
theorem dX12_count_79 : decode cX12_count 79 = .ok (.getfield 13, 3) := by decide +kernel
theorem dX12_count_82 : decode cX12_count 82 = .ok (.iconst 5, 1) := by decide +kernel
theorem dX12_count_83 : decode cX12_count 83 = .ok (.iaload, 1) := by decide +kernel
theorem dX12_count_84 : decode cX12_count 84 = .ok (.ireturn, 1) := by decide +kernel
theorem dX12_count_85 : decode cX12_count 85 = .ok (.aload_n 0, 1) := by decide +kernel
theorem dX12_count_86 : decode cX12_count 86 = .ok (.getfield 13, 3) := by decide +kernel
theorem dX12_count_89 : decode cX12_count 89 = .ok (.bipush 6, 2) := by decide +kernel
theorem dX12_count_91 : decode cX12_count 91 = .ok (.iaload, 1) := by decide +kernel
theorem dX12_count_92 : decode cX12_count 92 = .ok (.ireturn, 1) := by decide +kernel
theorem dX12_count_93 : decode cX12_count 93 = .ok (.aload_n 0, 1) := by decide +kernel
theorem dX12_count_94 : decode cX12_count 94 = .ok (.getfield 13, 3) := by decide +kernel
theorem dX12_count_97 : decode cX12_count 97 = .ok (.bipush 7, 2) := by decide +kernel
theorem dX12_count_99 : decode cX12_count 99 = .ok (.iaload, 1) := by decide +kernel
theorem dX12_count_100 : decode cX12_count 100 = .ok (.ireturn, 1) := by decide +kernel
theorem dX12_count_101 : decode cX12_count 101 = .ok (.aload_n 0, 1) := by decide +kernel
theorem dX12_count_102 : decode cX12_count 102 = .ok (.getfield 13, 3) := by decide +kernel
theorem dX12_count_105 : decode cX12_count 105 = .ok (.iconst 0, 1) := by decide +kernel
theorem dX12_count_106 : decode cX12_count 106 = .ok (.iaload, 1) := by decide +kernel
theorem dX12_count_107 : decode cX12_count 107 = .ok (.ireturn, 1) := by decide +kernel
theorem dX12_count_108 : decode cX12_count 108 = .ok (.aload_n 0, 1) := by decide +kernel
theorem dX12_count_109 : decode cX12_count 109 = .ok (.getfield 102, 3) := by decide +kernel
theorem dX12_count_112 : decode cX12_count 112 = .ok (.ireturn, 1) := by decide +kernel
theorem dX12_count_113 : decode cX12_count 113 = .ok (.aload_n 0, 1) := by decide +kernel
theorem dX12_count_114 : decode cX12_count 114 = .ok (.getfield 13, 3) := by decide +kernel
theorem dX12_count_117 : decode cX12_count 117 = .ok (.iconst 2, 1) := by decide +kernel
theorem dX12_count_118 : decode cX12_count 118 = .ok (.iaload, 1) := by decide +kernel
theorem dX12_count_119 : decode cX12_count 119 = .ok (.ireturn, 1) := by decide +kernel
theorem dX12_count_120 : decode cX12_count 120 = .ok (.aload_n 0, 1) := by decide +kernel
theorem dX12_count_121 : decode cX12_count 121 = .ok (.getfield 13, 3) := by decide +kernel
theorem dX12_count_124 : decode cX12_count 124 = .ok (.iconst 3, 1) := by decide +kernel
theorem dX12_count_125 : decode cX12_count 125 = .ok (.iaload, 1) := by decide +kernel
theorem dX12_count_126 : decode cX12_count 126 = .ok (.ireturn, 1) := by decide +kernel
theorem dX12_count_127 : decode cX12_count 127 = .ok (.aload_n 0, 1) := by decide +kernel
theorem dX12_count_128 : decode cX12_count 128 = .ok (.getfield 13, 3) := by decide +kernel
theorem dX12_count_131 : decode cX12_count 131 = .ok (.bipush 19, 2) := by decide +kernel
theorem dX12_count_133 : decode cX12_count 133 = .ok (.iaload, 1) := by decide +kernel
theorem dX12_count_134 : decode cX12_count 134 = .ok (.ireturn, 1) := by decide +kernel
theorem dX12_count_135 : decode cX12_count 135 = .ok (.iconst 0, 1) := by decide +kernel
theorem dX12_count_136 : decode cX12_count 136 = .ok (.istore_n 3, 1) := by decide +kernel
theorem dX12_count_137 : decode cX12_count 137 = .ok (.iload_n 3, 1) := by decide +kernel
theorem dX12_count_138 : decode cX12_count 138 = .ok (.aload_n 0, 1) := by decide +kernel
theorem dX12_count_139 : decode cX12_count 139 = .ok (.getfield 13, 3) := by decide +kernel
theorem dX12_count_142 : decode cX12_count 142 = .ok (.iconst 5, 1) := by decide +kernel
theorem dX12_count_143 : decode cX12_count 143 = .ok (.iaload, 1) := by decide +kernel
theorem dX12_count_144 : decode cX12_count 144 = .ok (.if_icmp .ge 21, 3) := by decide +kernel
theorem dX12_count_147 : decode cX12_count 147 = .ok (.iload_n 2, 1) := by decide +kernel
theorem dX12_count_148 : decode cX12_count 148 = .ok (.aload_n 0, 1) := by decide +kernel
theorem dX12_count_149 : decode cX12_count 149 = .ok (.iload_n 3, 1) := by decide +kernel
theorem dX12_count_150 : decode cX12_count 150 = .ok (.bipush 6, 2) := by decide +kernel
theorem dX12_count_152 : decode cX12_count 152 = .ok (.invokevirtual 254, 3) := by decide +kernel
theorem dX12_count_155 : decode cX12_count 155 = .ok (.iload_n 3, 1) := by decide +kernel
theorem dX12_count_156 : decode cX12_count 156 = .ok (.ishl, 1) := by decide +kernel
theorem dX12_count_157 : decode cX12_count 157 = .ok (.ior, 1) := by decide +kernel
theorem dX12_count_158 : decode cX12_count 158 = .ok (.istore_n 2, 1) := by decide +kernel
theorem dX12_count_159 : decode cX12_count 159 = .ok (.iinc 3 1, 3) := by decide +kernel
theorem dX12_count_162 : decode cX12_count 162 = .ok (.goto (-25), 3) := by decide +kernel
theorem dX12_count_165 : decode cX12_count 165 = .ok (.iload_n 2, 1) := by decide +kernel
theorem dX12_count_166 : decode cX12_count 166 = .ok (.ireturn, 1) := by decide +kernel
theorem dX12_count_167 : decode cX12_count 167 = .ok (.iconst 0, 1) := by decide +kernel
theorem dX12_count_168 : decode cX12_count 168 = .ok (.istore_n 3, 1) := by decide +kernel
theorem dX12_count_169 : decode cX12_count 169 = .ok (.iload_n 3, 1) := by decide +kernel
theorem dX12_count_170 : decode cX12_count 170 = .ok (.iconst 4, 1) := by decide +kernel
theorem dX12_count_171 : decode cX12_count 171 = .ok (.if_icmp .ge 27, 3) := by decide +kernel
theorem dX12_count_174 : decode cX12_count 174 = .ok (.iload_n 2, 1) := by decide +kernel
theorem dX12_count_175 : decode cX12_count 175 = .ok (.aload_n 0, 1) := by decide +kernel
theorem dX12_count_176 : decode cX12_count 176 = .ok (.getfield 79, 3) := by decide +kernel
theorem dX12_count_179 : decode cX12_count 179 = .ok (.iload_n 3, 1) := by decide +kernel
theorem dX12_count_180 : decode cX12_count 180 = .ok (.iaload, 1) := by decide +kernel
theorem dX12_count_181 : decode cX12_count 181 = .ok (.iconst (-1), 1) := by decide +kernel
theorem dX12_count_182 : decode cX12_count 182 = .ok (.if_icmp .ne 7, 3) := by decide +kernel
theorem dX12_count_185 : decode cX12_count 185 = .ok (.iconst 0, 1) := by decide +kernel
theorem dX12_count_186 : decode cX12_count 186 = .ok (.goto 4, 3) := by decide +kernel
theorem dX12_count_189 : decode cX12_count 189 = .ok (.iconst 1, 1) := by decide +kernel
theorem dX12_count_190 : decode cX12_count 190 = .ok (.iadd, 1) := by decide +kernel
theorem dX12_count_191 : decode cX12_count 191 = .ok (.istore_n 2, 1) := by decide +kernel
theorem dX12_count_192 : decode cX12_count 192 = .ok (.iinc 3 1, 3) := by decide +kernel
theorem dX12_count_195 : decode cX12_count 195 = .ok (.goto (-26), 3) := by decide +kernel
theorem dX12_count_198 : decode cX12_count 198 = .ok (.iload_n 2, 1) := by decide +kernel
theorem dX12_count_199 : decode cX12_count 199 = .ok (.ireturn, 1) := by decide +kernel
theorem dX12_count_200 : decode cX12_count 200 = .ok (.iconst (-1), 1) := by decide +kernel
theorem dX12_count_201 : decode cX12_count 201 = .ok (.ireturn, 1) := by decide +kernel
set_option maxHeartbeats 4000000 in
set_option maxRecDepth 100000 in
theorem s_X12_count (l : Launch) (dC : Nat → ClassId) (dI : Nat → Nat → Nat) (cI cZ cB cJ cM cG : ClassId) (a0 a1 a2 a3 a4 a5 a6 a7 a8 a9 a10 a11 a12 a13 a14 a15 a16 a17 a18 a19 a20 a21 a22 a23 a24 : Nat) (i0 i1 i2 i3 i4 i5 i6 i7 i8 i9 i10 i11 i12 i13 i14 i15 i16 : Int32) (j0 : Int64) (xF0 xF20 : Nat → Int32) (p0 : Int32) (cp : Int) (sz : Nat) (p_0 : (0 : Int) ≤ i1.toInt ∧ i1.toInt ≤ 1600) (p_1 : (0 : Int) ≤ i2.toInt ∧ i2.toInt ≤ 1600) (p_2 : (0 : Int) ≤ i3.toInt ∧ i3.toInt ≤ 1600) (p_3 : (0 : Int) ≤ i4.toInt ∧ i4.toInt ≤ 1600) (p_4 : (0 : Int) ≤ i5.toInt ∧ i5.toInt ≤ 6) (p_5 : (0 : Int) ≤ i7.toInt ∧ i7.toInt ≤ 3) (p_6 : (0 : Int) ≤ i11.toInt ∧ i11.toInt ≤ 59) (p_7 : WI cp xF0) (p_8 : rng xF20 4 (-1) 60) (p_9 : MI xF20) (p_10 : 0 ≤ cp ∧ cp ≤ 2000000000) : Met l yX12_count (kw yX12_count cX12_count 4 (some .int)) ({ frames := 1, cells := 0, slots := 0, locals := 22 } : Room) (va_Pc [.ref a0, .int p0] (kPre dC dI [(cI, .int), (cZ, .boolean), (cB, .byte), (cJ, .long), (cM, .object RX2), (cG, .array .int)] [(a0, .inr (12, [.int i0, .ref a1, .ref a2, .ref a3, .ref a4, .int i1, .ref a5, .int i2, .int i3, .int i4, .int i5, .int i6, .int i7, .int i8, .ref a6, .ref a7, .ref a8, .ref a9, .ref a10, .ref a11, .ref a12, .int i9, .ref a13, .int i10, .ref a14, .ref a15, .int i11, .ref a16, .ref a17, .ref a18, .ref a19, .int i12, .int i13, .int i14, .int i15, .int i16, .ref a20, .long j0, .ref a21, .ref a22, .ref a23, .ref a24])), (a1, .inl (cI, 544, .inl xF0)), (a21, .inl (cI, 4, .inl xF20))] sz)) (va_Qi (fun (r : Int32) (u9 : Unit) => True) (fun u9 t => va_P (dC, dI) vwCl [(a0, .inr (12, [.int i0, .ref a1, .ref a2, .ref a3, .ref a4, .int i1, .ref a5, .int i2, .int i3, .int i4, .int i5, .int i6, .int i7, .int i8, .ref a6, .ref a7, .ref a8, .ref a9, .ref a10, .ref a11, .ref a12, .int i9, .ref a13, .int i10, .ref a14, .ref a15, .int i11, .ref a16, .ref a17, .ref a18, .ref a19, .int i12, .int i13, .int i14, .int i15, .int i16, .ref a20, .long j0, .ref a21, .ref a22, .ref a23, .ref a24])), (a1, .inl (cI, 544, .inl xF0)), (a21, .inl (cI, 4, .inl xF20))] t.heap ∧ va_D (va_A [(a0, .inr (12, [.int i0, .ref a1, .ref a2, .ref a3, .ref a4, .int i1, .ref a5, .int i2, .int i3, .int i4, .int i5, .int i6, .int i7, .int i8, .ref a6, .ref a7, .ref a8, .ref a9, .ref a10, .ref a11, .ref a12, .int i9, .ref a13, .int i10, .ref a14, .ref a15, .int i11, .ref a16, .ref a17, .ref a18, .ref a19, .int i12, .int i13, .int i14, .int i15, .int i16, .ref a20, .long j0, .ref a21, .ref a22, .ref a23, .ref a24])), (a1, .inl (cI, 544, .inl xF0)), (a21, .inl (cI, 4, .inl xF20))] sz) [(a0, .inr (12, [.int i0, .ref a1, .ref a2, .ref a3, .ref a4, .int i1, .ref a5, .int i2, .int i3, .int i4, .int i5, .int i6, .int i7, .int i8, .ref a6, .ref a7, .ref a8, .ref a9, .ref a10, .ref a11, .ref a12, .int i9, .ref a13, .int i10, .ref a14, .ref a15, .int i11, .ref a16, .ref a17, .ref a18, .ref a19, .int i12, .int i13, .int i14, .int i15, .int i16, .ref a20, .long j0, .ref a21, .ref a22, .ref a23, .ref a24])), (a1, .inl (cI, 544, .inl xF0)), (a21, .inl (cI, 4, .inl xF20))]) (va_A [(a0, .inr (12, [.int i0, .ref a1, .ref a2, .ref a3, .ref a4, .int i1, .ref a5, .int i2, .int i3, .int i4, .int i5, .int i6, .int i7, .int i8, .ref a6, .ref a7, .ref a8, .ref a9, .ref a10, .ref a11, .ref a12, .int i9, .ref a13, .int i10, .ref a14, .ref a15, .int i11, .ref a16, .ref a17, .ref a18, .ref a19, .int i12, .int i13, .int i14, .int i15, .int i16, .ref a20, .long j0, .ref a21, .ref a22, .ref a23, .ref a24])), (a1, .inl (cI, 544, .inl xF0)), (a21, .inl (cI, 4, .inl xF20))] sz)) 0 0 (va_A [(a0, .inr (12, [.int i0, .ref a1, .ref a2, .ref a3, .ref a4, .int i1, .ref a5, .int i2, .int i3, .int i4, .int i5, .int i6, .int i7, .int i8, .ref a6, .ref a7, .ref a8, .ref a9, .ref a10, .ref a11, .ref a12, .int i9, .ref a13, .int i10, .ref a14, .ref a15, .int i11, .ref a16, .ref a17, .ref a18, .ref a19, .int i12, .int i13, .int i14, .int i15, .int i16, .ref a20, .long j0, .ref a21, .ref a22, .ref a23, .ref a24])), (a1, .inl (cI, 544, .inl xF0)), (a21, .inl (cI, 4, .inl xF20))] sz) := by
  refine kEnter (by decide) (Nat.le_of_ble_eq_true rfl) ?_
  intro p e s m below meth c ls hx hb hr hml hown hlocks hin hwd hsz hP hK hD hl
  subst hsz
  generalize hAe : va_A [(a0, .inr (12, [.int i0, .ref a1, .ref a2, .ref a3, .ref a4, .int i1, .ref a5, .int i2, .int i3, .int i4, .int i5, .int i6, .int i7, .int i8, .ref a6, .ref a7, .ref a8, .ref a9, .ref a10, .ref a11, .ref a12, .int i9, .ref a13, .int i10, .ref a14, .ref a15, .int i11, .ref a16, .ref a17, .ref a18, .ref a19, .int i12, .int i13, .int i14, .int i15, .int i16, .ref a20, .long j0, .ref a21, .ref a22, .ref a23, .ref a24])), (a1, .inl (cI, 544, .inl xF0)), (a21, .inl (cI, 4, .inl xF20))] s.heap.size = A at hD ⊢
  have hA : ∀ q : Nat, s.heap.size ≤ q → A q := fun q h => by rw [← hAe]; exact Or.inr h
  have hS : va_S A s.heap s.heap [] := va_S.rf
  have hl : lv_has ls 4 [(0, .ref a0), (1, .int p0)] := hl
  obtain ⟨Q, hQ⟩ : ∃ Q, Q = MQ below (va_Qi (fun (r : Int32) (u9 : Unit) => True) (fun u9 t => va_P (dC, dI) vwCl [(a0, .inr (12, [.int i0, .ref a1, .ref a2, .ref a3, .ref a4, .int i1, .ref a5, .int i2, .int i3, .int i4, .int i5, .int i6, .int i7, .int i8, .ref a6, .ref a7, .ref a8, .ref a9, .ref a10, .ref a11, .ref a12, .int i9, .ref a13, .int i10, .ref a14, .ref a15, .int i11, .ref a16, .ref a17, .ref a18, .ref a19, .int i12, .int i13, .int i14, .int i15, .int i16, .ref a20, .long j0, .ref a21, .ref a22, .ref a23, .ref a24])), (a1, .inl (cI, 544, .inl xF0)), (a21, .inl (cI, 4, .inl xF20))] t.heap ∧ va_D A [(a0, .inr (12, [.int i0, .ref a1, .ref a2, .ref a3, .ref a4, .int i1, .ref a5, .int i2, .int i3, .int i4, .int i5, .int i6, .int i7, .int i8, .ref a6, .ref a7, .ref a8, .ref a9, .ref a10, .ref a11, .ref a12, .int i9, .ref a13, .int i10, .ref a14, .ref a15, .int i11, .ref a16, .ref a17, .ref a18, .ref a19, .int i12, .int i13, .int i14, .int i15, .int i16, .ref a20, .long j0, .ref a21, .ref a22, .ref a23, .ref a24])), (a1, .inl (cI, 544, .inl xF0)), (a21, .inl (cI, 4, .inl xF20))]) A) ([.ref a0, .int p0] : List Value).toArray s 0 0 A := ⟨_, rfl⟩
  rw [← hQ]
  have km1 : ((-1) : Int32).toInt = -1 := by decide
  have k0 : (0 : Int32).toInt = 0 := by decide
  have k1 : (1 : Int32).toInt = 1 := by decide
  have k2 : (2 : Int32).toInt = 2 := by decide
  have k3 : (3 : Int32).toInt = 3 := by decide
  have k4 : (4 : Int32).toInt = 4 := by decide
  have k5 : (5 : Int32).toInt = 5 := by decide
  have k6 : (6 : Int32).toInt = 6 := by decide
  have k7 : (7 : Int32).toInt = 7 := by decide
  have k19 : (19 : Int32).toInt = 19 := by decide
  refine lv_iconst (v := 0) hx hb dX12_count_0 (by decide) ?_
  refine lv_istore_n (lv' := [(2, .int 0), (0, .ref a0), (1, .int p0)]) hx hb dX12_count_1 rfl hl (by decide) rfl (fun ls hl => ?_)
  refine lv_iload_n hx hb dX12_count_2 rfl (lv_at hl 2 rfl) ?_
  by_cases c1 : p0.toInt < 0 ∨ 11 < p0.toInt
  · refine lv_tableOut (tgt := 200) hx hb dX12_count_3 c1 (by decide) ?_
    refine lv_iconst (v := (-1)) hx hb dX12_count_200 (by decide) ?_
    have hP9 := hP.sub (ws' := [(a0, .inr (12, [.int i0, .ref a1, .ref a2, .ref a3, .ref a4, .int i1, .ref a5, .int i2, .int i3, .int i4, .int i5, .int i6, .int i7, .int i8, .ref a6, .ref a7, .ref a8, .ref a9, .ref a10, .ref a11, .ref a12, .int i9, .ref a13, .int i10, .ref a14, .ref a15, .int i11, .ref a16, .ref a17, .ref a18, .ref a19, .int i12, .int i13, .int i14, .int i15, .int i16, .ref a20, .long j0, .ref a21, .ref a22, .ref a23, .ref a24])), (a1, .inl (cI, 544, .inl xF0)), (a21, .inl (cI, 4, .inl xF20))]) [0, 1, 2] rfl
    have hD9 := hD.sub (ws' := [(a0, .inr (12, [.int i0, .ref a1, .ref a2, .ref a3, .ref a4, .int i1, .ref a5, .int i2, .int i3, .int i4, .int i5, .int i6, .int i7, .int i8, .ref a6, .ref a7, .ref a8, .ref a9, .ref a10, .ref a11, .ref a12, .int i9, .ref a13, .int i10, .ref a14, .ref a15, .int i11, .ref a16, .ref a17, .ref a18, .ref a19, .int i12, .int i13, .int i14, .int i15, .int i16, .ref a20, .long j0, .ref a21, .ref a22, .ref a23, .ref a24])), (a1, .inl (cI, 544, .inl xF0)), (a21, .inl (cI, 4, .inl xF20))]) [0, 1, 2] (by decide) rfl
    rw [hQ]
    exact W.iret (v := (-1)) hx hb hr (fun t ht hW => ⟨⟨(-1), (), rfl, trivial, (by rw [ht]; exact hP9), hD9⟩, hS.F ht⟩) hS.2.2 dX12_count_201
  · have c10 : p0.toInt = 0 ∨ p0.toInt = 1 ∨ p0.toInt = 2 ∨ p0.toInt = 3 ∨ p0.toInt = 4 ∨ p0.toInt = 5 ∨ p0.toInt = 6 ∨ p0.toInt = 7 ∨ p0.toInt = 8 ∨ p0.toInt = 9 ∨ p0.toInt = 10 ∨ p0.toInt = 11 := by omega
    rcases c10 with c1h | c1h | c1h | c1h | c1h | c1h | c1h | c1h | c1h | c1h | c1h | c1h
    · refine lv_tableIn (off := 61) (tgt := 64) hx hb dX12_count_3 (by omega) (by omega) (by rw [c1h]; decide) (by decide) ?_
      refine lv_aload_n hx hb dX12_count_64 rfl (lv_at hl 1 rfl) ?_
      refine va_get (D := (dC, dI)) (ci := 12) (v := .ref a1) (C := RX12) (T := TX12) (N := 42) hx hb hwd inlX12 hown hK hP 0 rfl rfl 1 (by decide) (hwd _ kr49_2) (fun _ h9 => h9) rfl dX12_count_65 ?_
      refine lv_iconst (v := 1) hx hb dX12_count_68 (by decide) ?_
      have h2 : vp_in (1 : Int32) 544 := (vin (by decide))
      refine va_iald hx hb hK hP 1 0 rfl rfl h2 dX12_count_69 ?_
      refine lv_topi (fun x3 ex3 => ?_)
      have ix3 := wat_lit (k := 1) ex3 (by decide)
      have wh4 : whd cp xF0 := p_7.1
      unfold whd at wh4
      have hP9 := hP.sub (ws' := [(a0, .inr (12, [.int i0, .ref a1, .ref a2, .ref a3, .ref a4, .int i1, .ref a5, .int i2, .int i3, .int i4, .int i5, .int i6, .int i7, .int i8, .ref a6, .ref a7, .ref a8, .ref a9, .ref a10, .ref a11, .ref a12, .int i9, .ref a13, .int i10, .ref a14, .ref a15, .int i11, .ref a16, .ref a17, .ref a18, .ref a19, .int i12, .int i13, .int i14, .int i15, .int i16, .ref a20, .long j0, .ref a21, .ref a22, .ref a23, .ref a24])), (a1, .inl (cI, 544, .inl xF0)), (a21, .inl (cI, 4, .inl xF20))]) [0, 1, 2] rfl
      have hD9 := hD.sub (ws' := [(a0, .inr (12, [.int i0, .ref a1, .ref a2, .ref a3, .ref a4, .int i1, .ref a5, .int i2, .int i3, .int i4, .int i5, .int i6, .int i7, .int i8, .ref a6, .ref a7, .ref a8, .ref a9, .ref a10, .ref a11, .ref a12, .int i9, .ref a13, .int i10, .ref a14, .ref a15, .int i11, .ref a16, .ref a17, .ref a18, .ref a19, .int i12, .int i13, .int i14, .int i15, .int i16, .ref a20, .long j0, .ref a21, .ref a22, .ref a23, .ref a24])), (a1, .inl (cI, 544, .inl xF0)), (a21, .inl (cI, 4, .inl xF20))]) [0, 1, 2] (by decide) rfl
      rw [hQ]
      exact W.iret (v := x3) hx hb hr (fun t ht hW => ⟨⟨x3, (), rfl, trivial, (by rw [ht]; exact hP9), hD9⟩, hS.F ht⟩) hS.2.2 dX12_count_70
    · refine lv_tableIn (off := 68) (tgt := 71) hx hb dX12_count_3 (by omega) (by omega) (by rw [c1h]; decide) (by decide) ?_
      refine lv_aload_n hx hb dX12_count_71 rfl (lv_at hl 1 rfl) ?_
      refine va_get (D := (dC, dI)) (ci := 12) (v := .ref a1) (C := RX12) (T := TX12) (N := 42) hx hb hwd inlX12 hown hK hP 0 rfl rfl 1 (by decide) (hwd _ kr49_2) (fun _ h9 => h9) rfl dX12_count_72 ?_
      refine lv_iconst (v := 4) hx hb dX12_count_75 (by decide) ?_
      have h5 : vp_in (4 : Int32) 544 := (vin (by decide))
      refine va_iald hx hb hK hP 1 0 rfl rfl h5 dX12_count_76 ?_
      refine lv_topi (fun x6 ex6 => ?_)
      have ix6 := wat_lit (k := 4) ex6 (by decide)
      have wh7 : whd cp xF0 := p_7.1
      unfold whd at wh7
      have hP9 := hP.sub (ws' := [(a0, .inr (12, [.int i0, .ref a1, .ref a2, .ref a3, .ref a4, .int i1, .ref a5, .int i2, .int i3, .int i4, .int i5, .int i6, .int i7, .int i8, .ref a6, .ref a7, .ref a8, .ref a9, .ref a10, .ref a11, .ref a12, .int i9, .ref a13, .int i10, .ref a14, .ref a15, .int i11, .ref a16, .ref a17, .ref a18, .ref a19, .int i12, .int i13, .int i14, .int i15, .int i16, .ref a20, .long j0, .ref a21, .ref a22, .ref a23, .ref a24])), (a1, .inl (cI, 544, .inl xF0)), (a21, .inl (cI, 4, .inl xF20))]) [0, 1, 2] rfl
      have hD9 := hD.sub (ws' := [(a0, .inr (12, [.int i0, .ref a1, .ref a2, .ref a3, .ref a4, .int i1, .ref a5, .int i2, .int i3, .int i4, .int i5, .int i6, .int i7, .int i8, .ref a6, .ref a7, .ref a8, .ref a9, .ref a10, .ref a11, .ref a12, .int i9, .ref a13, .int i10, .ref a14, .ref a15, .int i11, .ref a16, .ref a17, .ref a18, .ref a19, .int i12, .int i13, .int i14, .int i15, .int i16, .ref a20, .long j0, .ref a21, .ref a22, .ref a23, .ref a24])), (a1, .inl (cI, 544, .inl xF0)), (a21, .inl (cI, 4, .inl xF20))]) [0, 1, 2] (by decide) rfl
      rw [hQ]
      exact W.iret (v := x6) hx hb hr (fun t ht hW => ⟨⟨x6, (), rfl, trivial, (by rw [ht]; exact hP9), hD9⟩, hS.F ht⟩) hS.2.2 dX12_count_77
    · refine lv_tableIn (off := 75) (tgt := 78) hx hb dX12_count_3 (by omega) (by omega) (by rw [c1h]; decide) (by decide) ?_
      refine lv_aload_n hx hb dX12_count_78 rfl (lv_at hl 1 rfl) ?_
      refine va_get (D := (dC, dI)) (ci := 12) (v := .ref a1) (C := RX12) (T := TX12) (N := 42) hx hb hwd inlX12 hown hK hP 0 rfl rfl 1 (by decide) (hwd _ kr49_2) (fun _ h9 => h9) rfl dX12_count_79 ?_
      refine lv_iconst (v := 5) hx hb dX12_count_82 (by decide) ?_
      have h8 : vp_in (5 : Int32) 544 := (vin (by decide))
      refine va_iald hx hb hK hP 1 0 rfl rfl h8 dX12_count_83 ?_
      refine lv_topi (fun x9 ex9 => ?_)
      have ix9 := wat_lit (k := 5) ex9 (by decide)
      have wh10 : whd cp xF0 := p_7.1
      unfold whd at wh10
      have hP9 := hP.sub (ws' := [(a0, .inr (12, [.int i0, .ref a1, .ref a2, .ref a3, .ref a4, .int i1, .ref a5, .int i2, .int i3, .int i4, .int i5, .int i6, .int i7, .int i8, .ref a6, .ref a7, .ref a8, .ref a9, .ref a10, .ref a11, .ref a12, .int i9, .ref a13, .int i10, .ref a14, .ref a15, .int i11, .ref a16, .ref a17, .ref a18, .ref a19, .int i12, .int i13, .int i14, .int i15, .int i16, .ref a20, .long j0, .ref a21, .ref a22, .ref a23, .ref a24])), (a1, .inl (cI, 544, .inl xF0)), (a21, .inl (cI, 4, .inl xF20))]) [0, 1, 2] rfl
      have hD9 := hD.sub (ws' := [(a0, .inr (12, [.int i0, .ref a1, .ref a2, .ref a3, .ref a4, .int i1, .ref a5, .int i2, .int i3, .int i4, .int i5, .int i6, .int i7, .int i8, .ref a6, .ref a7, .ref a8, .ref a9, .ref a10, .ref a11, .ref a12, .int i9, .ref a13, .int i10, .ref a14, .ref a15, .int i11, .ref a16, .ref a17, .ref a18, .ref a19, .int i12, .int i13, .int i14, .int i15, .int i16, .ref a20, .long j0, .ref a21, .ref a22, .ref a23, .ref a24])), (a1, .inl (cI, 544, .inl xF0)), (a21, .inl (cI, 4, .inl xF20))]) [0, 1, 2] (by decide) rfl
      rw [hQ]
      exact W.iret (v := x9) hx hb hr (fun t ht hW => ⟨⟨x9, (), rfl, trivial, (by rw [ht]; exact hP9), hD9⟩, hS.F ht⟩) hS.2.2 dX12_count_84
    · refine lv_tableIn (off := 82) (tgt := 85) hx hb dX12_count_3 (by omega) (by omega) (by rw [c1h]; decide) (by decide) ?_
      refine lv_aload_n hx hb dX12_count_85 rfl (lv_at hl 1 rfl) ?_
      refine va_get (D := (dC, dI)) (ci := 12) (v := .ref a1) (C := RX12) (T := TX12) (N := 42) hx hb hwd inlX12 hown hK hP 0 rfl rfl 1 (by decide) (hwd _ kr49_2) (fun _ h9 => h9) rfl dX12_count_86 ?_
      refine lv_bipush (v := 6) hx hb dX12_count_89 (by decide) ?_
      have h11 : vp_in (6 : Int32) 544 := (vin (by decide))
      refine va_iald hx hb hK hP 1 0 rfl rfl h11 dX12_count_91 ?_
      refine lv_topi (fun x12 ex12 => ?_)
      have ix12 := wat_lit (k := 6) ex12 (by decide)
      have wh13 : whd cp xF0 := p_7.1
      unfold whd at wh13
      have hP9 := hP.sub (ws' := [(a0, .inr (12, [.int i0, .ref a1, .ref a2, .ref a3, .ref a4, .int i1, .ref a5, .int i2, .int i3, .int i4, .int i5, .int i6, .int i7, .int i8, .ref a6, .ref a7, .ref a8, .ref a9, .ref a10, .ref a11, .ref a12, .int i9, .ref a13, .int i10, .ref a14, .ref a15, .int i11, .ref a16, .ref a17, .ref a18, .ref a19, .int i12, .int i13, .int i14, .int i15, .int i16, .ref a20, .long j0, .ref a21, .ref a22, .ref a23, .ref a24])), (a1, .inl (cI, 544, .inl xF0)), (a21, .inl (cI, 4, .inl xF20))]) [0, 1, 2] rfl
      have hD9 := hD.sub (ws' := [(a0, .inr (12, [.int i0, .ref a1, .ref a2, .ref a3, .ref a4, .int i1, .ref a5, .int i2, .int i3, .int i4, .int i5, .int i6, .int i7, .int i8, .ref a6, .ref a7, .ref a8, .ref a9, .ref a10, .ref a11, .ref a12, .int i9, .ref a13, .int i10, .ref a14, .ref a15, .int i11, .ref a16, .ref a17, .ref a18, .ref a19, .int i12, .int i13, .int i14, .int i15, .int i16, .ref a20, .long j0, .ref a21, .ref a22, .ref a23, .ref a24])), (a1, .inl (cI, 544, .inl xF0)), (a21, .inl (cI, 4, .inl xF20))]) [0, 1, 2] (by decide) rfl
      rw [hQ]
      exact W.iret (v := x12) hx hb hr (fun t ht hW => ⟨⟨x12, (), rfl, trivial, (by rw [ht]; exact hP9), hD9⟩, hS.F ht⟩) hS.2.2 dX12_count_92
    · refine lv_tableIn (off := 90) (tgt := 93) hx hb dX12_count_3 (by omega) (by omega) (by rw [c1h]; decide) (by decide) ?_
      refine lv_aload_n hx hb dX12_count_93 rfl (lv_at hl 1 rfl) ?_
      refine va_get (D := (dC, dI)) (ci := 12) (v := .ref a1) (C := RX12) (T := TX12) (N := 42) hx hb hwd inlX12 hown hK hP 0 rfl rfl 1 (by decide) (hwd _ kr49_2) (fun _ h9 => h9) rfl dX12_count_94 ?_
      refine lv_bipush (v := 7) hx hb dX12_count_97 (by decide) ?_
      have h14 : vp_in (7 : Int32) 544 := (vin (by decide))
      refine va_iald hx hb hK hP 1 0 rfl rfl h14 dX12_count_99 ?_
      refine lv_topi (fun x15 ex15 => ?_)
      have ix15 := wat_lit (k := 7) ex15 (by decide)
      have wh16 : whd cp xF0 := p_7.1
      unfold whd at wh16
      have hP9 := hP.sub (ws' := [(a0, .inr (12, [.int i0, .ref a1, .ref a2, .ref a3, .ref a4, .int i1, .ref a5, .int i2, .int i3, .int i4, .int i5, .int i6, .int i7, .int i8, .ref a6, .ref a7, .ref a8, .ref a9, .ref a10, .ref a11, .ref a12, .int i9, .ref a13, .int i10, .ref a14, .ref a15, .int i11, .ref a16, .ref a17, .ref a18, .ref a19, .int i12, .int i13, .int i14, .int i15, .int i16, .ref a20, .long j0, .ref a21, .ref a22, .ref a23, .ref a24])), (a1, .inl (cI, 544, .inl xF0)), (a21, .inl (cI, 4, .inl xF20))]) [0, 1, 2] rfl
      have hD9 := hD.sub (ws' := [(a0, .inr (12, [.int i0, .ref a1, .ref a2, .ref a3, .ref a4, .int i1, .ref a5, .int i2, .int i3, .int i4, .int i5, .int i6, .int i7, .int i8, .ref a6, .ref a7, .ref a8, .ref a9, .ref a10, .ref a11, .ref a12, .int i9, .ref a13, .int i10, .ref a14, .ref a15, .int i11, .ref a16, .ref a17, .ref a18, .ref a19, .int i12, .int i13, .int i14, .int i15, .int i16, .ref a20, .long j0, .ref a21, .ref a22, .ref a23, .ref a24])), (a1, .inl (cI, 544, .inl xF0)), (a21, .inl (cI, 4, .inl xF20))]) [0, 1, 2] (by decide) rfl
      rw [hQ]
      exact W.iret (v := x15) hx hb hr (fun t ht hW => ⟨⟨x15, (), rfl, trivial, (by rw [ht]; exact hP9), hD9⟩, hS.F ht⟩) hS.2.2 dX12_count_100
    · refine lv_tableIn (off := 98) (tgt := 101) hx hb dX12_count_3 (by omega) (by omega) (by rw [c1h]; decide) (by decide) ?_
      refine lv_aload_n hx hb dX12_count_101 rfl (lv_at hl 1 rfl) ?_
      refine va_get (D := (dC, dI)) (ci := 12) (v := .ref a1) (C := RX12) (T := TX12) (N := 42) hx hb hwd inlX12 hown hK hP 0 rfl rfl 1 (by decide) (hwd _ kr49_2) (fun _ h9 => h9) rfl dX12_count_102 ?_
      refine lv_iconst (v := 0) hx hb dX12_count_105 (by decide) ?_
      have h17 : vp_in (0 : Int32) 544 := (vin (by decide))
      refine va_iald hx hb hK hP 1 0 rfl rfl h17 dX12_count_106 ?_
      refine lv_topi (fun x18 ex18 => ?_)
      have ix18 := wat_lit (k := 0) ex18 (by decide)
      have wh19 : whd cp xF0 := p_7.1
      unfold whd at wh19
      have hP9 := hP.sub (ws' := [(a0, .inr (12, [.int i0, .ref a1, .ref a2, .ref a3, .ref a4, .int i1, .ref a5, .int i2, .int i3, .int i4, .int i5, .int i6, .int i7, .int i8, .ref a6, .ref a7, .ref a8, .ref a9, .ref a10, .ref a11, .ref a12, .int i9, .ref a13, .int i10, .ref a14, .ref a15, .int i11, .ref a16, .ref a17, .ref a18, .ref a19, .int i12, .int i13, .int i14, .int i15, .int i16, .ref a20, .long j0, .ref a21, .ref a22, .ref a23, .ref a24])), (a1, .inl (cI, 544, .inl xF0)), (a21, .inl (cI, 4, .inl xF20))]) [0, 1, 2] rfl
      have hD9 := hD.sub (ws' := [(a0, .inr (12, [.int i0, .ref a1, .ref a2, .ref a3, .ref a4, .int i1, .ref a5, .int i2, .int i3, .int i4, .int i5, .int i6, .int i7, .int i8, .ref a6, .ref a7, .ref a8, .ref a9, .ref a10, .ref a11, .ref a12, .int i9, .ref a13, .int i10, .ref a14, .ref a15, .int i11, .ref a16, .ref a17, .ref a18, .ref a19, .int i12, .int i13, .int i14, .int i15, .int i16, .ref a20, .long j0, .ref a21, .ref a22, .ref a23, .ref a24])), (a1, .inl (cI, 544, .inl xF0)), (a21, .inl (cI, 4, .inl xF20))]) [0, 1, 2] (by decide) rfl
      rw [hQ]
      exact W.iret (v := x18) hx hb hr (fun t ht hW => ⟨⟨x18, (), rfl, trivial, (by rw [ht]; exact hP9), hD9⟩, hS.F ht⟩) hS.2.2 dX12_count_107
    · refine lv_tableIn (off := 105) (tgt := 108) hx hb dX12_count_3 (by omega) (by omega) (by rw [c1h]; decide) (by decide) ?_
      refine lv_aload_n hx hb dX12_count_108 rfl (lv_at hl 1 rfl) ?_
      refine va_get (D := (dC, dI)) (ci := 12) (v := .int i1) (C := RX12) (T := TX12) (N := 42) hx hb hwd inlX12 hown hK hP 0 rfl rfl 5 (by decide) (hwd _ kr49_6) (fun _ h9 => h9) rfl dX12_count_109 ?_
      have hP9 := hP.sub (ws' := [(a0, .inr (12, [.int i0, .ref a1, .ref a2, .ref a3, .ref a4, .int i1, .ref a5, .int i2, .int i3, .int i4, .int i5, .int i6, .int i7, .int i8, .ref a6, .ref a7, .ref a8, .ref a9, .ref a10, .ref a11, .ref a12, .int i9, .ref a13, .int i10, .ref a14, .ref a15, .int i11, .ref a16, .ref a17, .ref a18, .ref a19, .int i12, .int i13, .int i14, .int i15, .int i16, .ref a20, .long j0, .ref a21, .ref a22, .ref a23, .ref a24])), (a1, .inl (cI, 544, .inl xF0)), (a21, .inl (cI, 4, .inl xF20))]) [0, 1, 2] rfl
      have hD9 := hD.sub (ws' := [(a0, .inr (12, [.int i0, .ref a1, .ref a2, .ref a3, .ref a4, .int i1, .ref a5, .int i2, .int i3, .int i4, .int i5, .int i6, .int i7, .int i8, .ref a6, .ref a7, .ref a8, .ref a9, .ref a10, .ref a11, .ref a12, .int i9, .ref a13, .int i10, .ref a14, .ref a15, .int i11, .ref a16, .ref a17, .ref a18, .ref a19, .int i12, .int i13, .int i14, .int i15, .int i16, .ref a20, .long j0, .ref a21, .ref a22, .ref a23, .ref a24])), (a1, .inl (cI, 544, .inl xF0)), (a21, .inl (cI, 4, .inl xF20))]) [0, 1, 2] (by decide) rfl
      rw [hQ]
      exact W.iret (v := i1) hx hb hr (fun t ht hW => ⟨⟨i1, (), rfl, trivial, (by rw [ht]; exact hP9), hD9⟩, hS.F ht⟩) hS.2.2 dX12_count_112
    · refine lv_tableIn (off := 110) (tgt := 113) hx hb dX12_count_3 (by omega) (by omega) (by rw [c1h]; decide) (by decide) ?_
      refine lv_aload_n hx hb dX12_count_113 rfl (lv_at hl 1 rfl) ?_
      refine va_get (D := (dC, dI)) (ci := 12) (v := .ref a1) (C := RX12) (T := TX12) (N := 42) hx hb hwd inlX12 hown hK hP 0 rfl rfl 1 (by decide) (hwd _ kr49_2) (fun _ h9 => h9) rfl dX12_count_114 ?_
      refine lv_iconst (v := 2) hx hb dX12_count_117 (by decide) ?_
      have h20 : vp_in (2 : Int32) 544 := (vin (by decide))
      refine va_iald hx hb hK hP 1 0 rfl rfl h20 dX12_count_118 ?_
      refine lv_topi (fun x21 ex21 => ?_)
      have ix21 := wat_lit (k := 2) ex21 (by decide)
      have wh22 : whd cp xF0 := p_7.1
      unfold whd at wh22
      have hP9 := hP.sub (ws' := [(a0, .inr (12, [.int i0, .ref a1, .ref a2, .ref a3, .ref a4, .int i1, .ref a5, .int i2, .int i3, .int i4, .int i5, .int i6, .int i7, .int i8, .ref a6, .ref a7, .ref a8, .ref a9, .ref a10, .ref a11, .ref a12, .int i9, .ref a13, .int i10, .ref a14, .ref a15, .int i11, .ref a16, .ref a17, .ref a18, .ref a19, .int i12, .int i13, .int i14, .int i15, .int i16, .ref a20, .long j0, .ref a21, .ref a22, .ref a23, .ref a24])), (a1, .inl (cI, 544, .inl xF0)), (a21, .inl (cI, 4, .inl xF20))]) [0, 1, 2] rfl
      have hD9 := hD.sub (ws' := [(a0, .inr (12, [.int i0, .ref a1, .ref a2, .ref a3, .ref a4, .int i1, .ref a5, .int i2, .int i3, .int i4, .int i5, .int i6, .int i7, .int i8, .ref a6, .ref a7, .ref a8, .ref a9, .ref a10, .ref a11, .ref a12, .int i9, .ref a13, .int i10, .ref a14, .ref a15, .int i11, .ref a16, .ref a17, .ref a18, .ref a19, .int i12, .int i13, .int i14, .int i15, .int i16, .ref a20, .long j0, .ref a21, .ref a22, .ref a23, .ref a24])), (a1, .inl (cI, 544, .inl xF0)), (a21, .inl (cI, 4, .inl xF20))]) [0, 1, 2] (by decide) rfl
      rw [hQ]
      exact W.iret (v := x21) hx hb hr (fun t ht hW => ⟨⟨x21, (), rfl, trivial, (by rw [ht]; exact hP9), hD9⟩, hS.F ht⟩) hS.2.2 dX12_count_119
    · refine lv_tableIn (off := 117) (tgt := 120) hx hb dX12_count_3 (by omega) (by omega) (by rw [c1h]; decide) (by decide) ?_
      refine lv_aload_n hx hb dX12_count_120 rfl (lv_at hl 1 rfl) ?_
      refine va_get (D := (dC, dI)) (ci := 12) (v := .ref a1) (C := RX12) (T := TX12) (N := 42) hx hb hwd inlX12 hown hK hP 0 rfl rfl 1 (by decide) (hwd _ kr49_2) (fun _ h9 => h9) rfl dX12_count_121 ?_
      refine lv_iconst (v := 3) hx hb dX12_count_124 (by decide) ?_
      have h23 : vp_in (3 : Int32) 544 := (vin (by decide))
      refine va_iald hx hb hK hP 1 0 rfl rfl h23 dX12_count_125 ?_
      refine lv_topi (fun x24 ex24 => ?_)
      have ix24 := wat_lit (k := 3) ex24 (by decide)
      have wh25 : whd cp xF0 := p_7.1
      unfold whd at wh25
      have hP9 := hP.sub (ws' := [(a0, .inr (12, [.int i0, .ref a1, .ref a2, .ref a3, .ref a4, .int i1, .ref a5, .int i2, .int i3, .int i4, .int i5, .int i6, .int i7, .int i8, .ref a6, .ref a7, .ref a8, .ref a9, .ref a10, .ref a11, .ref a12, .int i9, .ref a13, .int i10, .ref a14, .ref a15, .int i11, .ref a16, .ref a17, .ref a18, .ref a19, .int i12, .int i13, .int i14, .int i15, .int i16, .ref a20, .long j0, .ref a21, .ref a22, .ref a23, .ref a24])), (a1, .inl (cI, 544, .inl xF0)), (a21, .inl (cI, 4, .inl xF20))]) [0, 1, 2] rfl
      have hD9 := hD.sub (ws' := [(a0, .inr (12, [.int i0, .ref a1, .ref a2, .ref a3, .ref a4, .int i1, .ref a5, .int i2, .int i3, .int i4, .int i5, .int i6, .int i7, .int i8, .ref a6, .ref a7, .ref a8, .ref a9, .ref a10, .ref a11, .ref a12, .int i9, .ref a13, .int i10, .ref a14, .ref a15, .int i11, .ref a16, .ref a17, .ref a18, .ref a19, .int i12, .int i13, .int i14, .int i15, .int i16, .ref a20, .long j0, .ref a21, .ref a22, .ref a23, .ref a24])), (a1, .inl (cI, 544, .inl xF0)), (a21, .inl (cI, 4, .inl xF20))]) [0, 1, 2] (by decide) rfl
      rw [hQ]
      exact W.iret (v := x24) hx hb hr (fun t ht hW => ⟨⟨x24, (), rfl, trivial, (by rw [ht]; exact hP9), hD9⟩, hS.F ht⟩) hS.2.2 dX12_count_126
    · refine lv_tableIn (off := 124) (tgt := 127) hx hb dX12_count_3 (by omega) (by omega) (by rw [c1h]; decide) (by decide) ?_
      refine lv_aload_n hx hb dX12_count_127 rfl (lv_at hl 1 rfl) ?_
      refine va_get (D := (dC, dI)) (ci := 12) (v := .ref a1) (C := RX12) (T := TX12) (N := 42) hx hb hwd inlX12 hown hK hP 0 rfl rfl 1 (by decide) (hwd _ kr49_2) (fun _ h9 => h9) rfl dX12_count_128 ?_
      refine lv_bipush (v := 19) hx hb dX12_count_131 (by decide) ?_
      have h26 : vp_in (19 : Int32) 544 := (vin (by decide))
      refine va_iald hx hb hK hP 1 0 rfl rfl h26 dX12_count_133 ?_
      refine lv_topi (fun x27 ex27 => ?_)
      have ix27 := wat_lit (k := 19) ex27 (by decide)
      have wh28 : whd cp xF0 := p_7.1
      unfold whd at wh28
      have hP9 := hP.sub (ws' := [(a0, .inr (12, [.int i0, .ref a1, .ref a2, .ref a3, .ref a4, .int i1, .ref a5, .int i2, .int i3, .int i4, .int i5, .int i6, .int i7, .int i8, .ref a6, .ref a7, .ref a8, .ref a9, .ref a10, .ref a11, .ref a12, .int i9, .ref a13, .int i10, .ref a14, .ref a15, .int i11, .ref a16, .ref a17, .ref a18, .ref a19, .int i12, .int i13, .int i14, .int i15, .int i16, .ref a20, .long j0, .ref a21, .ref a22, .ref a23, .ref a24])), (a1, .inl (cI, 544, .inl xF0)), (a21, .inl (cI, 4, .inl xF20))]) [0, 1, 2] rfl
      have hD9 := hD.sub (ws' := [(a0, .inr (12, [.int i0, .ref a1, .ref a2, .ref a3, .ref a4, .int i1, .ref a5, .int i2, .int i3, .int i4, .int i5, .int i6, .int i7, .int i8, .ref a6, .ref a7, .ref a8, .ref a9, .ref a10, .ref a11, .ref a12, .int i9, .ref a13, .int i10, .ref a14, .ref a15, .int i11, .ref a16, .ref a17, .ref a18, .ref a19, .int i12, .int i13, .int i14, .int i15, .int i16, .ref a20, .long j0, .ref a21, .ref a22, .ref a23, .ref a24])), (a1, .inl (cI, 544, .inl xF0)), (a21, .inl (cI, 4, .inl xF20))]) [0, 1, 2] (by decide) rfl
      rw [hQ]
      exact W.iret (v := x27) hx hb hr (fun t ht hW => ⟨⟨x27, (), rfl, trivial, (by rw [ht]; exact hP9), hD9⟩, hS.F ht⟩) hS.2.2 dX12_count_134
    · refine lv_tableIn (off := 132) (tgt := 135) hx hb dX12_count_3 (by omega) (by omega) (by rw [c1h]; decide) (by decide) ?_
      refine lv_iconst (v := 0) hx hb dX12_count_135 (by decide) ?_
      refine lv_istore_n (lv' := [(3, .int 0), (2, .int 0), (0, .ref a0), (1, .int p0)]) hx hb dX12_count_136 rfl hl (by decide) rfl (fun ls hl => ?_)
      have lp1 : ∀ (d : Nat), ∀ (H : Heap) (locs : List Loc) (ls : Array Slot) (w2_1 : Int32) (w3_1 : Int32), ((0 : Int) ≤ w3_1.toInt ∧ w3_1.toInt ≤ 24) → (24 - w3_1.toInt).toNat < d → va_P (dC, dI) vwCl [(a0, .inr (12, [.int i0, .ref a1, .ref a2, .ref a3, .ref a4, .int i1, .ref a5, .int i2, .int i3, .int i4, .int i5, .int i6, .int i7, .int i8, .ref a6, .ref a7, .ref a8, .ref a9, .ref a10, .ref a11, .ref a12, .int i9, .ref a13, .int i10, .ref a14, .ref a15, .int i11, .ref a16, .ref a17, .ref a18, .ref a19, .int i12, .int i13, .int i14, .int i15, .int i16, .ref a20, .long j0, .ref a21, .ref a22, .ref a23, .ref a24])), (a1, .inl (cI, 544, .inl xF0)), (a21, .inl (cI, 4, .inl xF20))] H → va_D A [(a0, .inr (12, [.int i0, .ref a1, .ref a2, .ref a3, .ref a4, .int i1, .ref a5, .int i2, .int i3, .int i4, .int i5, .int i6, .int i7, .int i8, .ref a6, .ref a7, .ref a8, .ref a9, .ref a10, .ref a11, .ref a12, .int i9, .ref a13, .int i10, .ref a14, .ref a15, .int i11, .ref a16, .ref a17, .ref a18, .ref a19, .int i12, .int i13, .int i14, .int i15, .int i16, .ref a20, .long j0, .ref a21, .ref a22, .ref a23, .ref a24])), (a1, .inl (cI, 544, .inl xF0)), (a21, .inl (cI, 4, .inl xF20))] → va_S A s.heap H locs → lv_has ls 4 [(0, .ref a0), (1, .int p0), (2, .int w2_1), (3, .int w3_1)] → W p l e ({ frames := 1, cells := 0, slots := 0, locals := 22 } : Room) s m ([.ref a0, .int p0] : List Value).toArray below meth c H locs 0 0 Q (F0 m 137 ls []) := by
        intro d
        induction d with
        | zero =>
          intro H locs ls w2_1 w3_1 hr_w3_1 hm hP hD hS hl
          omega
        | succ d ih1 =>
          intro H locs ls w2_1 w3_1 hr_w3_1 hm hP hD hS hl
          refine lv_iload_n hx hb dX12_count_137 rfl (lv_at hl 3 rfl) ?_
          refine lv_aload_n hx hb dX12_count_138 rfl (lv_at hl 0 rfl) ?_
          refine va_get (D := (dC, dI)) (ci := 12) (v := .ref a1) (C := RX12) (T := TX12) (N := 42) hx hb hwd inlX12 hown hK hP 0 rfl rfl 1 (by decide) (hwd _ kr49_2) (fun _ h9 => h9) rfl dX12_count_139 ?_
          refine lv_iconst (v := 5) hx hb dX12_count_142 (by decide) ?_
          have h88 : vp_in (5 : Int32) 544 := (vin (by decide))
          refine va_iald hx hb hK hP 1 0 rfl rfl h88 dX12_count_143 ?_
          refine lv_topi (fun x89 ex89 => ?_)
          have ix89 := wat_lit (k := 5) ex89 (by decide)
          have wh90 : whd cp xF0 := p_7.1
          unfold whd at wh90
          refine lv_icmp_ge (tgt := 165) hx hb dX12_count_144 (by decide) (fun c91 => ?_) (fun c91 => ?_)
          · rw [ki_le] at c91
            refine lv_iload_n hx hb dX12_count_165 rfl (lv_at hl 2 rfl) ?_
            have hP9 := hP.sub (ws' := [(a0, .inr (12, [.int i0, .ref a1, .ref a2, .ref a3, .ref a4, .int i1, .ref a5, .int i2, .int i3, .int i4, .int i5, .int i6, .int i7, .int i8, .ref a6, .ref a7, .ref a8, .ref a9, .ref a10, .ref a11, .ref a12, .int i9, .ref a13, .int i10, .ref a14, .ref a15, .int i11, .ref a16, .ref a17, .ref a18, .ref a19, .int i12, .int i13, .int i14, .int i15, .int i16, .ref a20, .long j0, .ref a21, .ref a22, .ref a23, .ref a24])), (a1, .inl (cI, 544, .inl xF0)), (a21, .inl (cI, 4, .inl xF20))]) [0, 1, 2] rfl
            have hD9 := hD.sub (ws' := [(a0, .inr (12, [.int i0, .ref a1, .ref a2, .ref a3, .ref a4, .int i1, .ref a5, .int i2, .int i3, .int i4, .int i5, .int i6, .int i7, .int i8, .ref a6, .ref a7, .ref a8, .ref a9, .ref a10, .ref a11, .ref a12, .int i9, .ref a13, .int i10, .ref a14, .ref a15, .int i11, .ref a16, .ref a17, .ref a18, .ref a19, .int i12, .int i13, .int i14, .int i15, .int i16, .ref a20, .long j0, .ref a21, .ref a22, .ref a23, .ref a24])), (a1, .inl (cI, 544, .inl xF0)), (a21, .inl (cI, 4, .inl xF20))]) [0, 1, 2] (by decide) rfl
            rw [hQ]
            exact W.iret (v := w2_1) hx hb hr (fun t ht hW => ⟨⟨w2_1, (), rfl, trivial, (by rw [ht]; exact hP9), hD9⟩, hS.F ht⟩) hS.2.2 dX12_count_166
          · rw [ki_le] at c91
            refine lv_iload_n hx hb dX12_count_147 rfl (lv_at hl 2 rfl) ?_
            refine lv_aload_n hx hb dX12_count_148 rfl (lv_at hl 0 rfl) ?_
            refine lv_iload_n hx hb dX12_count_149 rfl (lv_at hl 3 rfl) ?_
            refine lv_bipush (v := 6) hx hb dX12_count_150 (by decide) ?_
            have hPc := hP.sub (ws' := [(a0, .inr (12, [.int i0, .ref a1, .ref a2, .ref a3, .ref a4, .int i1, .ref a5, .int i2, .int i3, .int i4, .int i5, .int i6, .int i7, .int i8, .ref a6, .ref a7, .ref a8, .ref a9, .ref a10, .ref a11, .ref a12, .int i9, .ref a13, .int i10, .ref a14, .ref a15, .int i11, .ref a16, .ref a17, .ref a18, .ref a19, .int i12, .int i13, .int i14, .int i15, .int i16, .ref a20, .long j0, .ref a21, .ref a22, .ref a23, .ref a24])), (a1, .inl (cI, 544, .inl xF0))]) [0, 1] rfl
            have hDc := hD.sub (ws' := [(a0, .inr (12, [.int i0, .ref a1, .ref a2, .ref a3, .ref a4, .int i1, .ref a5, .int i2, .int i3, .int i4, .int i5, .int i6, .int i7, .int i8, .ref a6, .ref a7, .ref a8, .ref a9, .ref a10, .ref a11, .ref a12, .int i9, .ref a13, .int i10, .ref a14, .ref a15, .int i11, .ref a16, .ref a17, .ref a18, .ref a19, .int i12, .int i13, .int i14, .int i15, .int i16, .ref a20, .long j0, .ref a21, .ref a22, .ref a23, .ref a24])), (a1, .inl (cI, 544, .inl xF0))]) [0, 1] (by decide) rfl
            have hFc := va_free (wc := [(a0, .inr (12, [.int i0, .ref a1, .ref a2, .ref a3, .ref a4, .int i1, .ref a5, .int i2, .int i3, .int i4, .int i5, .int i6, .int i7, .int i8, .ref a6, .ref a7, .ref a8, .ref a9, .ref a10, .ref a11, .ref a12, .int i9, .ref a13, .int i10, .ref a14, .ref a15, .int i11, .ref a16, .ref a17, .ref a18, .ref a19, .int i12, .int i13, .int i14, .int i15, .int i16, .ref a20, .long j0, .ref a21, .ref a22, .ref a23, .ref a24])), (a1, .inl (cI, 544, .inl xF0))]) hD hS hA [0, 1] rfl
            refine va_calli (va_runV (As := [.int w3_1, .int 6]) (rest := [.int w2_1]) ⟨hx, hb, hml, hown, hwd⟩ (s_X12_ofNose l dC dI cI cZ cB cJ cM cG a0 a1 a2 a3 a4 a5 a6 a7 a8 a9 a10 a11 a12 a13 a14 a15 a16 a17 a18 a19 a20 a21 a22 a23 a24 i0 i1 i2 i3 i4 i5 i6 i7 i8 i9 i10 i11 i12 i13 i14 i15 i16 j0 xF0 w3_1 6 cp H.size (show (0 : Int) ≤ i1.toInt ∧ i1.toInt ≤ 1600 from p_0) (show (0 : Int) ≤ i2.toInt ∧ i2.toInt ≤ 1600 from p_1) (show (0 : Int) ≤ i3.toInt ∧ i3.toInt ≤ 1600 from p_2) (show (0 : Int) ≤ i4.toInt ∧ i4.toInt ≤ 1600 from p_3) (show (0 : Int) ≤ i5.toInt ∧ i5.toInt ≤ 6 from p_4) (show (0 : Int) ≤ i7.toInt ∧ i7.toInt ≤ 3 from p_5) (show (0 : Int) ≤ i11.toInt ∧ i11.toInt ≤ 59 from p_6) (show WI cp xF0 from p_7) (show (0 : Int) ≤ w3_1.toInt ∧ w3_1.toInt ≤ 23 from ⟨by omega, by omega⟩) (show (0 : Int) ≤ (6 : Int32).toInt ∧ (6 : Int32).toInt ≤ 6 from ⟨by omega, by omega⟩) p_10) (cwV 2 hwd (gV kr55_1 kr55_2 kr3_12 kr5_23 kr55_3) rfl rfl rfl (by decide +kernel) ⟨Nat.le_of_ble_eq_true rfl, Nat.le_of_ble_eq_true rfl⟩) (kPreV hPc hK hDc (ci := 12) (q0 := 0) rfl rfl) rfl rfl hl.1 rfl (lv_room (Nat.le_of_ble_eq_true rfl)) dX12_count_152 ⟨Nat.le_of_ble_eq_true rfl, Nat.le_of_ble_eq_true rfl⟩) hS (fun q _ h => hFc q h) hFc (fun r92 u93 t H1 locs ht9 hvm hw hB hz1 hk1 hS => ?_)
            obtain ⟨hw94, -⟩ := hw
            replace hw94 : ((6 : Int32).toInt = 3 → 0 ≤ r92.toInt ∧ r92.toInt ≤ 60) := hw94
            clear hw94
            obtain ⟨hP1, hD1⟩ := hB
            rw [ht9] at hP1
            obtain ⟨hP, hD⟩ := va_join (wr := [(a21, .inl (cI, 4, .inl xF20))]) (w1 := [(a0, .inr (12, [.int i0, .ref a1, .ref a2, .ref a3, .ref a4, .int i1, .ref a5, .int i2, .int i3, .int i4, .int i5, .int i6, .int i7, .int i8, .ref a6, .ref a7, .ref a8, .ref a9, .ref a10, .ref a11, .ref a12, .int i9, .ref a13, .int i10, .ref a14, .ref a15, .int i11, .ref a16, .ref a17, .ref a18, .ref a19, .int i12, .int i13, .int i14, .int i15, .int i16, .ref a20, .long j0, .ref a21, .ref a22, .ref a23, .ref a24])), (a1, .inl (cI, 544, .inl xF0))]) hP hD [0, 1] [2] rfl rfl (by decide) (by decide) hk1 hFc hP1 hD1
            generalize H1 = H at hP hS ⊢
            replace hP : va_P (dC, dI) vwCl [(a21, .inl (cI, 4, .inl xF20)), (a0, .inr (12, [.int i0, .ref a1, .ref a2, .ref a3, .ref a4, .int i1, .ref a5, .int i2, .int i3, .int i4, .int i5, .int i6, .int i7, .int i8, .ref a6, .ref a7, .ref a8, .ref a9, .ref a10, .ref a11, .ref a12, .int i9, .ref a13, .int i10, .ref a14, .ref a15, .int i11, .ref a16, .ref a17, .ref a18, .ref a19, .int i12, .int i13, .int i14, .int i15, .int i16, .ref a20, .long j0, .ref a21, .ref a22, .ref a23, .ref a24])), (a1, .inl (cI, 544, .inl xF0))] H := hP
            replace hD : va_D A [(a21, .inl (cI, 4, .inl xF20)), (a0, .inr (12, [.int i0, .ref a1, .ref a2, .ref a3, .ref a4, .int i1, .ref a5, .int i2, .int i3, .int i4, .int i5, .int i6, .int i7, .int i8, .ref a6, .ref a7, .ref a8, .ref a9, .ref a10, .ref a11, .ref a12, .int i9, .ref a13, .int i10, .ref a14, .ref a15, .int i11, .ref a16, .ref a17, .ref a18, .ref a19, .int i12, .int i13, .int i14, .int i15, .int i16, .ref a20, .long j0, .ref a21, .ref a22, .ref a23, .ref a24])), (a1, .inl (cI, 544, .inl xF0))] := hD
            refine lv_iload_n hx hb dX12_count_155 rfl (lv_at hl 3 rfl) ?_
            refine lv_ishl hx hb dX12_count_156 ?_
            refine lv_topi (fun x95 ex95 => ?_)
            refine lv_ior hx hb dX12_count_157 ?_
            refine lv_topi (fun x96 ex96 => ?_)
            refine lv_istore_n (lv' := [(2, .int x96), (0, .ref a0), (1, .int p0), (3, .int w3_1)]) hx hb dX12_count_158 rfl hl (by decide) rfl (fun ls hl => ?_)
            obtain ⟨x97, ex97⟩ : ∃ y : Int32, y = w3_1 + 1 := ⟨_, rfl⟩
            refine lv_iinc (v := x97) (lv' := [(3, .int x97), (2, .int x96), (0, .ref a0), (1, .int p0)]) hx hb dX12_count_159 hl (k := 3) rfl (by rw [ex97]; rfl) (by decide) rfl (fun ls hl => ?_)
            have tx97 := ia_add (a := w3_1) (b := (1 : Int32)) (by omega) (by omega)
            rw [← ex97] at tx97
            refine lv_goto (tgt := 137) hx hb dX12_count_162 (by decide) ?_
            exact ih1 _ _ ls x96 x97 (show (0 : Int) ≤ x97.toInt ∧ x97.toInt ≤ 24 from ⟨by omega, by omega⟩) (by omega) (hP.sub (ws' := [(a0, .inr (12, [.int i0, .ref a1, .ref a2, .ref a3, .ref a4, .int i1, .ref a5, .int i2, .int i3, .int i4, .int i5, .int i6, .int i7, .int i8, .ref a6, .ref a7, .ref a8, .ref a9, .ref a10, .ref a11, .ref a12, .int i9, .ref a13, .int i10, .ref a14, .ref a15, .int i11, .ref a16, .ref a17, .ref a18, .ref a19, .int i12, .int i13, .int i14, .int i15, .int i16, .ref a20, .long j0, .ref a21, .ref a22, .ref a23, .ref a24])), (a1, .inl (cI, 544, .inl xF0)), (a21, .inl (cI, 4, .inl xF20))]) [1, 2, 0] rfl) (hD.sub (ws' := [(a0, .inr (12, [.int i0, .ref a1, .ref a2, .ref a3, .ref a4, .int i1, .ref a5, .int i2, .int i3, .int i4, .int i5, .int i6, .int i7, .int i8, .ref a6, .ref a7, .ref a8, .ref a9, .ref a10, .ref a11, .ref a12, .int i9, .ref a13, .int i10, .ref a14, .ref a15, .int i11, .ref a16, .ref a17, .ref a18, .ref a19, .int i12, .int i13, .int i14, .int i15, .int i16, .ref a20, .long j0, .ref a21, .ref a22, .ref a23, .ref a24])), (a1, .inl (cI, 544, .inl xF0)), (a21, .inl (cI, 4, .inl xF20))]) [1, 2, 0] (by decide) rfl) hS (lv_sub hl [2, 3, 1, 0] rfl)
      exact lp1 _ _ _ ls (0) (0) (show (0 : Int) ≤ (0 : Int32).toInt ∧ (0 : Int32).toInt ≤ 24 from ⟨by omega, by omega⟩) (Nat.lt_succ_self _) (hP.sub (ws' := [(a0, .inr (12, [.int i0, .ref a1, .ref a2, .ref a3, .ref a4, .int i1, .ref a5, .int i2, .int i3, .int i4, .int i5, .int i6, .int i7, .int i8, .ref a6, .ref a7, .ref a8, .ref a9, .ref a10, .ref a11, .ref a12, .int i9, .ref a13, .int i10, .ref a14, .ref a15, .int i11, .ref a16, .ref a17, .ref a18, .ref a19, .int i12, .int i13, .int i14, .int i15, .int i16, .ref a20, .long j0, .ref a21, .ref a22, .ref a23, .ref a24])), (a1, .inl (cI, 544, .inl xF0)), (a21, .inl (cI, 4, .inl xF20))]) [0, 1, 2] rfl) (hD.sub (ws' := [(a0, .inr (12, [.int i0, .ref a1, .ref a2, .ref a3, .ref a4, .int i1, .ref a5, .int i2, .int i3, .int i4, .int i5, .int i6, .int i7, .int i8, .ref a6, .ref a7, .ref a8, .ref a9, .ref a10, .ref a11, .ref a12, .int i9, .ref a13, .int i10, .ref a14, .ref a15, .int i11, .ref a16, .ref a17, .ref a18, .ref a19, .int i12, .int i13, .int i14, .int i15, .int i16, .ref a20, .long j0, .ref a21, .ref a22, .ref a23, .ref a24])), (a1, .inl (cI, 544, .inl xF0)), (a21, .inl (cI, 4, .inl xF20))]) [0, 1, 2] (by decide) rfl) hS (lv_sub hl [2, 3, 1, 0] rfl)
    · refine lv_tableIn (off := 164) (tgt := 167) hx hb dX12_count_3 (by omega) (by omega) (by rw [c1h]; decide) (by decide) ?_
      refine lv_iconst (v := 0) hx hb dX12_count_167 (by decide) ?_
      refine lv_istore_n (lv' := [(3, .int 0), (2, .int 0), (0, .ref a0), (1, .int p0)]) hx hb dX12_count_168 rfl hl (by decide) rfl (fun ls hl => ?_)
      have lp2 : ∀ (d : Nat), ∀ (H : Heap) (locs : List Loc) (ls : Array Slot) (w2_2 : Int32) (w3_2 : Int32), ((0 : Int) ≤ w3_2.toInt ∧ w3_2.toInt ≤ 4) → (4 - w3_2.toInt).toNat < d → va_P (dC, dI) vwCl [(a0, .inr (12, [.int i0, .ref a1, .ref a2, .ref a3, .ref a4, .int i1, .ref a5, .int i2, .int i3, .int i4, .int i5, .int i6, .int i7, .int i8, .ref a6, .ref a7, .ref a8, .ref a9, .ref a10, .ref a11, .ref a12, .int i9, .ref a13, .int i10, .ref a14, .ref a15, .int i11, .ref a16, .ref a17, .ref a18, .ref a19, .int i12, .int i13, .int i14, .int i15, .int i16, .ref a20, .long j0, .ref a21, .ref a22, .ref a23, .ref a24])), (a1, .inl (cI, 544, .inl xF0)), (a21, .inl (cI, 4, .inl xF20))] H → va_D A [(a0, .inr (12, [.int i0, .ref a1, .ref a2, .ref a3, .ref a4, .int i1, .ref a5, .int i2, .int i3, .int i4, .int i5, .int i6, .int i7, .int i8, .ref a6, .ref a7, .ref a8, .ref a9, .ref a10, .ref a11, .ref a12, .int i9, .ref a13, .int i10, .ref a14, .ref a15, .int i11, .ref a16, .ref a17, .ref a18, .ref a19, .int i12, .int i13, .int i14, .int i15, .int i16, .ref a20, .long j0, .ref a21, .ref a22, .ref a23, .ref a24])), (a1, .inl (cI, 544, .inl xF0)), (a21, .inl (cI, 4, .inl xF20))] → va_S A s.heap H locs → lv_has ls 4 [(0, .ref a0), (1, .int p0), (2, .int w2_2), (3, .int w3_2)] → W p l e ({ frames := 1, cells := 0, slots := 0, locals := 22 } : Room) s m ([.ref a0, .int p0] : List Value).toArray below meth c H locs 0 0 Q (F0 m 169 ls []) := by
        intro d
        induction d with
        | zero =>
          intro H locs ls w2_2 w3_2 hr_w3_2 hm hP hD hS hl
          omega
        | succ d ih2 =>
          intro H locs ls w2_2 w3_2 hr_w3_2 hm hP hD hS hl
          refine lv_iload_n hx hb dX12_count_169 rfl (lv_at hl 3 rfl) ?_
          refine lv_iconst (v := 4) hx hb dX12_count_170 (by decide) ?_
          refine lv_icmp_ge (tgt := 198) hx hb dX12_count_171 (by decide) (fun c170 => ?_) (fun c170 => ?_)
          · rw [ki_le] at c170
            refine lv_iload_n hx hb dX12_count_198 rfl (lv_at hl 2 rfl) ?_
            have hP9 := hP.sub (ws' := [(a0, .inr (12, [.int i0, .ref a1, .ref a2, .ref a3, .ref a4, .int i1, .ref a5, .int i2, .int i3, .int i4, .int i5, .int i6, .int i7, .int i8, .ref a6, .ref a7, .ref a8, .ref a9, .ref a10, .ref a11, .ref a12, .int i9, .ref a13, .int i10, .ref a14, .ref a15, .int i11, .ref a16, .ref a17, .ref a18, .ref a19, .int i12, .int i13, .int i14, .int i15, .int i16, .ref a20, .long j0, .ref a21, .ref a22, .ref a23, .ref a24])), (a1, .inl (cI, 544, .inl xF0)), (a21, .inl (cI, 4, .inl xF20))]) [0, 1, 2] rfl
            have hD9 := hD.sub (ws' := [(a0, .inr (12, [.int i0, .ref a1, .ref a2, .ref a3, .ref a4, .int i1, .ref a5, .int i2, .int i3, .int i4, .int i5, .int i6, .int i7, .int i8, .ref a6, .ref a7, .ref a8, .ref a9, .ref a10, .ref a11, .ref a12, .int i9, .ref a13, .int i10, .ref a14, .ref a15, .int i11, .ref a16, .ref a17, .ref a18, .ref a19, .int i12, .int i13, .int i14, .int i15, .int i16, .ref a20, .long j0, .ref a21, .ref a22, .ref a23, .ref a24])), (a1, .inl (cI, 544, .inl xF0)), (a21, .inl (cI, 4, .inl xF20))]) [0, 1, 2] (by decide) rfl
            rw [hQ]
            exact W.iret (v := w2_2) hx hb hr (fun t ht hW => ⟨⟨w2_2, (), rfl, trivial, (by rw [ht]; exact hP9), hD9⟩, hS.F ht⟩) hS.2.2 dX12_count_199
          · rw [ki_le] at c170
            refine lv_iload_n hx hb dX12_count_174 rfl (lv_at hl 2 rfl) ?_
            refine lv_aload_n hx hb dX12_count_175 rfl (lv_at hl 0 rfl) ?_
            refine va_get (D := (dC, dI)) (ci := 12) (v := .ref a21) (C := RX12) (T := TX12) (N := 42) hx hb hwd inlX12 hown hK hP 0 rfl rfl 38 (by decide) (hwd _ kr50_15) (fun _ h9 => h9) rfl dX12_count_176 ?_
            refine lv_iload_n hx hb dX12_count_179 rfl (lv_at hl 3 rfl) ?_
            have h171 : vp_in w3_2 4 := (vp_of (by omega) (by omega))
            refine va_iald hx hb hK hP 2 0 rfl rfl h171 dX12_count_180 ?_
            refine lv_topi (fun x172 ex172 => ?_)
            have ix172 : x172.toInt = (xF20 w3_2.toInt.toNat).toInt := by rw [ex172]; rfl
            have tx172 : (-1 : Int) ≤ x172.toInt ∧ x172.toInt ≤ 60 := by rw [ex172]; exact p_8 _ (vp_nat h171)
            refine lv_iconst (v := (-1)) hx hb dX12_count_181 (by decide) ?_
            refine lv_icmp_ne (tgt := 189) hx hb dX12_count_182 (by decide) (fun c173 => ?_) (fun c173 => ?_)
            · rw [ki_eq] at c173
              refine lv_iconst (v := 1) hx hb dX12_count_189 (by decide) ?_
              refine lv_iadd hx hb dX12_count_190 ?_
              refine lv_topi (fun x174 ex174 => ?_)
              refine lv_istore_n (lv' := [(2, .int x174), (0, .ref a0), (1, .int p0), (3, .int w3_2)]) hx hb dX12_count_191 rfl hl (by decide) rfl (fun ls hl => ?_)
              obtain ⟨x175, ex175⟩ : ∃ y : Int32, y = w3_2 + 1 := ⟨_, rfl⟩
              refine lv_iinc (v := x175) (lv' := [(3, .int x175), (2, .int x174), (0, .ref a0), (1, .int p0)]) hx hb dX12_count_192 hl (k := 3) rfl (by rw [ex175]; rfl) (by decide) rfl (fun ls hl => ?_)
              have tx175 := ia_add (a := w3_2) (b := (1 : Int32)) (by omega) (by omega)
              rw [← ex175] at tx175
              refine lv_goto (tgt := 169) hx hb dX12_count_195 (by decide) ?_
              exact ih2 _ _ ls x174 x175 (show (0 : Int) ≤ x175.toInt ∧ x175.toInt ≤ 4 from ⟨by omega, by omega⟩) (by omega) (hP.sub (ws' := [(a0, .inr (12, [.int i0, .ref a1, .ref a2, .ref a3, .ref a4, .int i1, .ref a5, .int i2, .int i3, .int i4, .int i5, .int i6, .int i7, .int i8, .ref a6, .ref a7, .ref a8, .ref a9, .ref a10, .ref a11, .ref a12, .int i9, .ref a13, .int i10, .ref a14, .ref a15, .int i11, .ref a16, .ref a17, .ref a18, .ref a19, .int i12, .int i13, .int i14, .int i15, .int i16, .ref a20, .long j0, .ref a21, .ref a22, .ref a23, .ref a24])), (a1, .inl (cI, 544, .inl xF0)), (a21, .inl (cI, 4, .inl xF20))]) [0, 1, 2] rfl) (hD.sub (ws' := [(a0, .inr (12, [.int i0, .ref a1, .ref a2, .ref a3, .ref a4, .int i1, .ref a5, .int i2, .int i3, .int i4, .int i5, .int i6, .int i7, .int i8, .ref a6, .ref a7, .ref a8, .ref a9, .ref a10, .ref a11, .ref a12, .int i9, .ref a13, .int i10, .ref a14, .ref a15, .int i11, .ref a16, .ref a17, .ref a18, .ref a19, .int i12, .int i13, .int i14, .int i15, .int i16, .ref a20, .long j0, .ref a21, .ref a22, .ref a23, .ref a24])), (a1, .inl (cI, 544, .inl xF0)), (a21, .inl (cI, 4, .inl xF20))]) [0, 1, 2] (by decide) rfl) hS (lv_sub hl [2, 3, 1, 0] rfl)
            · rw [ki_eq] at c173
              refine lv_iconst (v := 0) hx hb dX12_count_185 (by decide) ?_
              refine lv_goto (tgt := 190) hx hb dX12_count_186 (by decide) ?_
              refine lv_iadd hx hb dX12_count_190 ?_
              refine lv_topi (fun x176 ex176 => ?_)
              have b_b177 := i32_b w2_2
              have tx176 := ia_add (a := w2_2) (b := (0 : Int32)) (by omega) (by omega)
              rw [← ex176] at tx176
              refine lv_istore_n (lv' := [(2, .int x176), (0, .ref a0), (1, .int p0), (3, .int w3_2)]) hx hb dX12_count_191 rfl hl (by decide) rfl (fun ls hl => ?_)
              obtain ⟨x178, ex178⟩ : ∃ y : Int32, y = w3_2 + 1 := ⟨_, rfl⟩
              refine lv_iinc (v := x178) (lv' := [(3, .int x178), (2, .int x176), (0, .ref a0), (1, .int p0)]) hx hb dX12_count_192 hl (k := 3) rfl (by rw [ex178]; rfl) (by decide) rfl (fun ls hl => ?_)
              have tx178 := ia_add (a := w3_2) (b := (1 : Int32)) (by omega) (by omega)
              rw [← ex178] at tx178
              refine lv_goto (tgt := 169) hx hb dX12_count_195 (by decide) ?_
              exact ih2 _ _ ls x176 x178 (show (0 : Int) ≤ x178.toInt ∧ x178.toInt ≤ 4 from ⟨by omega, by omega⟩) (by omega) (hP.sub (ws' := [(a0, .inr (12, [.int i0, .ref a1, .ref a2, .ref a3, .ref a4, .int i1, .ref a5, .int i2, .int i3, .int i4, .int i5, .int i6, .int i7, .int i8, .ref a6, .ref a7, .ref a8, .ref a9, .ref a10, .ref a11, .ref a12, .int i9, .ref a13, .int i10, .ref a14, .ref a15, .int i11, .ref a16, .ref a17, .ref a18, .ref a19, .int i12, .int i13, .int i14, .int i15, .int i16, .ref a20, .long j0, .ref a21, .ref a22, .ref a23, .ref a24])), (a1, .inl (cI, 544, .inl xF0)), (a21, .inl (cI, 4, .inl xF20))]) [0, 1, 2] rfl) (hD.sub (ws' := [(a0, .inr (12, [.int i0, .ref a1, .ref a2, .ref a3, .ref a4, .int i1, .ref a5, .int i2, .int i3, .int i4, .int i5, .int i6, .int i7, .int i8, .ref a6, .ref a7, .ref a8, .ref a9, .ref a10, .ref a11, .ref a12, .int i9, .ref a13, .int i10, .ref a14, .ref a15, .int i11, .ref a16, .ref a17, .ref a18, .ref a19, .int i12, .int i13, .int i14, .int i15, .int i16, .ref a20, .long j0, .ref a21, .ref a22, .ref a23, .ref a24])), (a1, .inl (cI, 544, .inl xF0)), (a21, .inl (cI, 4, .inl xF20))]) [0, 1, 2] (by decide) rfl) hS (lv_sub hl [2, 3, 1, 0] rfl)
      exact lp2 _ _ _ ls (0) (0) (show (0 : Int) ≤ (0 : Int32).toInt ∧ (0 : Int32).toInt ≤ 4 from ⟨by omega, by omega⟩) (Nat.lt_succ_self _) (hP.sub (ws' := [(a0, .inr (12, [.int i0, .ref a1, .ref a2, .ref a3, .ref a4, .int i1, .ref a5, .int i2, .int i3, .int i4, .int i5, .int i6, .int i7, .int i8, .ref a6, .ref a7, .ref a8, .ref a9, .ref a10, .ref a11, .ref a12, .int i9, .ref a13, .int i10, .ref a14, .ref a15, .int i11, .ref a16, .ref a17, .ref a18, .ref a19, .int i12, .int i13, .int i14, .int i15, .int i16, .ref a20, .long j0, .ref a21, .ref a22, .ref a23, .ref a24])), (a1, .inl (cI, 544, .inl xF0)), (a21, .inl (cI, 4, .inl xF20))]) [0, 1, 2] rfl) (hD.sub (ws' := [(a0, .inr (12, [.int i0, .ref a1, .ref a2, .ref a3, .ref a4, .int i1, .ref a5, .int i2, .int i3, .int i4, .int i5, .int i6, .int i7, .int i8, .ref a6, .ref a7, .ref a8, .ref a9, .ref a10, .ref a11, .ref a12, .int i9, .ref a13, .int i10, .ref a14, .ref a15, .int i11, .ref a16, .ref a17, .ref a18, .ref a19, .int i12, .int i13, .int i14, .int i15, .int i16, .ref a20, .long j0, .ref a21, .ref a22, .ref a23, .ref a24])), (a1, .inl (cI, 544, .inl xF0)), (a21, .inl (cI, 4, .inl xF20))]) [0, 1, 2] (by decide) rfl) hS (lv_sub hl [2, 3, 1, 0] rfl)
theorem dX12_cut__0 : decode cX12_cut_ 0 = .ok (.bipush 64, 2) := by decide +kernel
theorem dX12_cut__2 : decode cX12_cut_ 2 = .ok (.bipush 8, 2) := by decide +kernel
theorem dX12_cut__4 : decode cX12_cut_ 4 = .ok (.iload_n 2, 1) := by decide +kernel
theorem dX12_cut__5 : decode cX12_cut_ 5 = .ok (.ishl, 1) := by decide +kernel
theorem dX12_cut__6 : decode cX12_cut_ 6 = .ok (.isub, 1) := by decide +kernel
theorem dX12_cut__7 : decode cX12_cut_ 7 = .ok (.istore_n 3, 1) := by decide +kernel
theorem dX12_cut__8 : decode cX12_cut_ 8 = .ok (.lload_n 0, 1) := by decide +kernel
theorem dX12_cut__9 : decode cX12_cut_ 9 = .ok (.iload_n 3, 1) := by decide +kernel
theorem dX12_cut__10 : decode cX12_cut_ 10 = .ok (.lshl, 1) := by decide +kernel
theorem dX12_cut__11 : decode cX12_cut_ 11 = .ok (.iload_n 3, 1) := by decide +kernel
theorem dX12_cut__12 : decode cX12_cut_ 12 = .ok (.lshr, 1) := by decide +kernel
theorem dX12_cut__13 : decode cX12_cut_ 13 = .ok (.lreturn, 1) := by decide +kernel
set_option maxHeartbeats 4000000 in
set_option maxRecDepth 100000 in
theorem s_X12_cut_ (l : Launch) (dC : Nat → ClassId) (dI : Nat → Nat → Nat) (cI cZ cB cJ cM cG : ClassId) (p1 : Int32) (y0 : Int64) (sz : Nat) : Met l yX12_cut_ (kw yX12_cut_ cX12_cut_ 4 (some .long)) ({ frames := 0, cells := 0, slots := 0, locals := 0 } : Room) (va_Pc [.long y0, .int p1] (kPre dC dI [(cI, .int), (cZ, .boolean), (cB, .byte), (cJ, .long), (cM, .object RX2), (cG, .array .int)] [] sz)) (va_Ql (fun (r : Int64) (u9 : Unit) => True) (fun u9 t => va_P (dC, dI) vwCl [] t.heap ∧ va_D (va_A [] sz) []) (va_A [] sz)) 0 0 (va_A [] sz) := by
  refine kEnter (by decide) (Nat.le_of_ble_eq_true rfl) ?_
  intro p e s m below meth c ls hx hb hr hml hown hlocks hin hwd hsz hP hK hD hl
  subst hsz
  generalize hAe : va_A [] s.heap.size = A at hD ⊢
  have hA : ∀ q : Nat, s.heap.size ≤ q → A q := fun q h => by rw [← hAe]; exact Or.inr h
  have hS : va_S A s.heap s.heap [] := va_S.rf
  have hl : lv_has ls 4 [(0, .long y0), (2, .int p1)] := hl
  obtain ⟨Q, hQ⟩ : ∃ Q, Q = MQ below (va_Ql (fun (r : Int64) (u9 : Unit) => True) (fun u9 t => va_P (dC, dI) vwCl [] t.heap ∧ va_D A []) A) ([.long y0, .int p1] : List Value).toArray s 0 0 A := ⟨_, rfl⟩
  rw [← hQ]
  refine lv_bipush (v := 64) hx hb dX12_cut__0 (by decide) ?_
  refine lv_bipush (v := 8) hx hb dX12_cut__2 (by decide) ?_
  refine lv_iload_n hx hb dX12_cut__4 rfl (lv_at hl 1 rfl) ?_
  refine lv_ishl hx hb dX12_cut__5 ?_
  refine lv_topi (fun x1 ex1 => ?_)
  refine lv_isub hx hb dX12_cut__6 ?_
  refine lv_topi (fun x2 ex2 => ?_)
  refine lv_istore_n (lv' := [(3, .int x2), (0, .long y0), (2, .int p1)]) hx hb dX12_cut__7 rfl hl (by decide) rfl (fun ls hl => ?_)
  refine lv_lload_n hx hb dX12_cut__8 rfl (lv_at hl 1 rfl) ?_
  refine lv_iload_n hx hb dX12_cut__9 rfl (lv_at hl 0 rfl) ?_
  refine lv_lshl hx hb dX12_cut__10 rfl ?_
  refine lv_topl (fun x3 ex3 => ?_)
  refine lv_iload_n hx hb dX12_cut__11 rfl (lv_at hl 0 rfl) ?_
  refine lv_lshr hx hb dX12_cut__12 rfl ?_
  refine lv_topl (fun x4 ex4 => ?_)
  have hP9 := hP.sub (ws' := []) [] rfl
  have hD9 := hD.sub (ws' := []) [] (by decide) rfl
  rw [hQ]
  exact W.lret (v := x4) hx hb hr (fun t ht hW => ⟨⟨x4, (), rfl, trivial, (by rw [ht]; exact hP9), hD9⟩, hS.F ht⟩) hS.2.2 dX12_cut__13
theorem dX12_row_0 : decode cX12_row 0 = .ok (.iload_n 1, 1) := by decide +kernel
theorem dX12_row_1 : decode cX12_row 1 = .ok (.invokestatic 414, 3) := by decide +kernel
theorem dX12_row_4 : decode cX12_row 4 = .ok (.ifCond .eq 21, 3) := by decide +kernel
theorem dX12_row_7 : decode cX12_row 7 = .ok (.iload_n 2, 1) := by decide +kernel
theorem dX12_row_8 : decode cX12_row 8 = .ok (.i2l, 1) := by decide +kernel
theorem dX12_row_9 : decode cX12_row 9 = .ok (.lconst 0, 1) := by decide +kernel
theorem dX12_row_10 : decode cX12_row 10 = .ok (.ldc2_w 464, 3) := by decide +kernel
theorem dX12_row_13 : decode cX12_row 13 = .ok (.invokestatic 98, 3) := by decide +kernel
theorem dX12_row_16 : decode cX12_row 16 = .ok (.ifCond .eq 9, 3) := by decide +kernel
theorem dX12_row_19 : decode cX12_row 19 = .ok (.iload_n 3, 1) := by decide +kernel
theorem dX12_row_20 : decode cX12_row 20 = .ok (.bipush 60, 2) := by decide +kernel
theorem dX12_row_22 : decode cX12_row 22 = .ok (.if_icmp .le 6, 3) := by decide +kernel
theorem dX12_row_25 : decode cX12_row 25 = .ok (.bipush (-2), 2) := by decide +kernel
theorem dX12_row_27 : decode cX12_row 27 = .ok (.ireturn, 1) := by decide +kernel
theorem dX12_row_28 : decode cX12_row 28 = .ok (.iload_n 3, 1) := by decide +kernel
theorem dX12_row_29 : decode cX12_row 29 = .ok (.ifCond .ge 6, 3) := by decide +kernel
theorem dX12_row_32 : decode cX12_row 32 = .ok (.bipush (-3), 2) := by decide +kernel
theorem dX12_row_34 : decode cX12_row 34 = .ok (.ireturn, 1) := by decide +kernel
theorem dX12_row_35 : decode cX12_row 35 = .ok (.aload_n 0, 1) := by decide +kernel
theorem dX12_row_36 : decode cX12_row 36 = .ok (.getfield 79, 3) := by decide +kernel
theorem dX12_row_39 : decode cX12_row 39 = .ok (.iload_n 1, 1) := by decide +kernel
theorem dX12_row_40 : decode cX12_row 40 = .ok (.iload_n 3, 1) := by decide +kernel
theorem dX12_row_41 : decode cX12_row 41 = .ok (.iastore, 1) := by decide +kernel
theorem dX12_row_42 : decode cX12_row 42 = .ok (.aload_n 0, 1) := by decide +kernel
theorem dX12_row_43 : decode cX12_row 43 = .ok (.getfield 82, 3) := by decide +kernel
theorem dX12_row_46 : decode cX12_row 46 = .ok (.iload_n 1, 1) := by decide +kernel
theorem dX12_row_47 : decode cX12_row 47 = .ok (.iload_n 2, 1) := by decide +kernel
theorem dX12_row_48 : decode cX12_row 48 = .ok (.iastore, 1) := by decide +kernel
theorem dX12_row_49 : decode cX12_row 49 = .ok (.iconst 0, 1) := by decide +kernel
theorem dX12_row_50 : decode cX12_row 50 = .ok (.istore 4, 2) := by decide +kernel
theorem dX12_row_52 : decode cX12_row 52 = .ok (.iload 4, 2) := by decide +kernel
theorem dX12_row_54 : decode cX12_row 54 = .ok (.bipush 60, 2) := by decide +kernel
theorem dX12_row_56 : decode cX12_row 56 = .ok (.if_icmp .ge 22, 3) := by decide +kernel
theorem dX12_row_59 : decode cX12_row 59 = .ok (.aload_n 0, 1) := by decide +kernel
theorem dX12_row_60 : decode cX12_row 60 = .ok (.getfield 85, 3) := by decide +kernel
theorem dX12_row_63 : decode cX12_row 63 = .ok (.bipush 60, 2) := by decide +kernel
theorem dX12_row_65 : decode cX12_row 65 = .ok (.iload_n 1, 1) := by decide +kernel
theorem dX12_row_66 : decode cX12_row 66 = .ok (.imul, 1) := by decide +kernel
theorem dX12_row_67 : decode cX12_row 67 = .ok (.iload 4, 2) := by decide +kernel
theorem dX12_row_69 : decode cX12_row 69 = .ok (.iadd, 1) := by decide +kernel
theorem dX12_row_70 : decode cX12_row 70 = .ok (.lconst 0, 1) := by decide +kernel
theorem dX12_row_71 : decode cX12_row 71 = .ok (.lastore, 1) := by decide +kernel
theorem dX12_row_72 : decode cX12_row 72 = .ok (.iinc 4 1, 3) := by decide +kernel
theorem dX12_row_75 : decode cX12_row 75 = .ok (.goto (-23), 3) := by decide +kernel
theorem dX12_row_78 : decode cX12_row 78 = .ok (.iconst 0, 1) := by decide +kernel
theorem dX12_row_79 : decode cX12_row 79 = .ok (.ireturn, 1) := by decide +kernel
set_option maxHeartbeats 4000000 in
set_option maxRecDepth 100000 in
theorem s_X12_row (l : Launch) (dC : Nat → ClassId) (dI : Nat → Nat → Nat) (cI cZ cB cJ cM cG : ClassId) (a0 a1 a2 a3 a4 a5 a6 a7 a8 a9 a10 a11 a12 a13 a14 a15 a16 a17 a18 a19 a20 a21 a22 a23 a24 : Nat) (i0 i1 i2 i3 i4 i5 i6 i7 i8 i9 i10 i11 i12 i13 i14 i15 i16 : Int32) (j0 : Int64) (xF20 xF21 : Nat → Int32) (xG22 : Nat → Int64) (p0 p1 p2 : Int32) (sz : Nat) (p_0 : (0 : Int) ≤ i1.toInt ∧ i1.toInt ≤ 1600) (p_1 : (0 : Int) ≤ i2.toInt ∧ i2.toInt ≤ 1600) (p_2 : (0 : Int) ≤ i3.toInt ∧ i3.toInt ≤ 1600) (p_3 : (0 : Int) ≤ i4.toInt ∧ i4.toInt ≤ 1600) (p_4 : (0 : Int) ≤ i5.toInt ∧ i5.toInt ≤ 6) (p_5 : (0 : Int) ≤ i7.toInt ∧ i7.toInt ≤ 3) (p_6 : (0 : Int) ≤ i11.toInt ∧ i11.toInt ≤ 59) (p_7 : rng xF20 4 (-1) 60) (p_8 : MI xF20) (p_9 : rng xF21 4 0 3) : Met l yX12_row (kw yX12_row cX12_row 5 (some .int)) ({ frames := 2, cells := 0, slots := 0, locals := 45 } : Room) (va_Pc [.ref a0, .int p0, .int p1, .int p2] (kPre dC dI [(cI, .int), (cZ, .boolean), (cB, .byte), (cJ, .long), (cM, .object RX2), (cG, .array .int)] [(a0, .inr (12, [.int i0, .ref a1, .ref a2, .ref a3, .ref a4, .int i1, .ref a5, .int i2, .int i3, .int i4, .int i5, .int i6, .int i7, .int i8, .ref a6, .ref a7, .ref a8, .ref a9, .ref a10, .ref a11, .ref a12, .int i9, .ref a13, .int i10, .ref a14, .ref a15, .int i11, .ref a16, .ref a17, .ref a18, .ref a19, .int i12, .int i13, .int i14, .int i15, .int i16, .ref a20, .long j0, .ref a21, .ref a22, .ref a23, .ref a24])), (a21, .inl (cI, 4, .inl xF20)), (a22, .inl (cI, 4, .inl xF21)), (a23, .inl (cJ, 240, .inr (.inl xG22)))] sz)) (va_Qi (fun (r : Int32) (u9 : (Nat → Int32) × (Nat → Nat → Int32) × (Nat → Nat → Int64)) => ((-3 : Int) ≤ r.toInt ∧ r.toInt ≤ 0) ∧ (rng (u9.2.1 0) 4 (-1) 60) ∧ (MI (u9.2.1 0)) ∧ (rng (u9.2.1 1) 4 0 3) ∧ True) (fun u9 t => va_P (dC, dI) vwCl [(a0, .inr (12, [.int i0, .ref a1, .ref a2, .ref a3, .ref a4, .int i1, .ref a5, .int i2, .int i3, .int i4, .int i5, .int i6, .int i7, .int i8, .ref a6, .ref a7, .ref a8, .ref a9, .ref a10, .ref a11, .ref a12, .int i9, .ref a13, .int i10, .ref a14, .ref a15, .int i11, .ref a16, .ref a17, .ref a18, .ref a19, .int i12, .int i13, .int i14, .int i15, .int i16, .ref a20, .long j0, .ref a21, .ref a22, .ref a23, .ref a24])), (a21, .inl (cI, 4, .inl (u9.2.1 0))), (a22, .inl (cI, 4, .inl (u9.2.1 1))), (a23, .inl (cJ, 240, .inr (.inl (u9.2.2 0))))] t.heap ∧ va_D (va_A [(a0, .inr (12, [.int i0, .ref a1, .ref a2, .ref a3, .ref a4, .int i1, .ref a5, .int i2, .int i3, .int i4, .int i5, .int i6, .int i7, .int i8, .ref a6, .ref a7, .ref a8, .ref a9, .ref a10, .ref a11, .ref a12, .int i9, .ref a13, .int i10, .ref a14, .ref a15, .int i11, .ref a16, .ref a17, .ref a18, .ref a19, .int i12, .int i13, .int i14, .int i15, .int i16, .ref a20, .long j0, .ref a21, .ref a22, .ref a23, .ref a24])), (a21, .inl (cI, 4, .inl xF20)), (a22, .inl (cI, 4, .inl xF21)), (a23, .inl (cJ, 240, .inr (.inl xG22)))] sz) [(a0, .inr (12, [.int i0, .ref a1, .ref a2, .ref a3, .ref a4, .int i1, .ref a5, .int i2, .int i3, .int i4, .int i5, .int i6, .int i7, .int i8, .ref a6, .ref a7, .ref a8, .ref a9, .ref a10, .ref a11, .ref a12, .int i9, .ref a13, .int i10, .ref a14, .ref a15, .int i11, .ref a16, .ref a17, .ref a18, .ref a19, .int i12, .int i13, .int i14, .int i15, .int i16, .ref a20, .long j0, .ref a21, .ref a22, .ref a23, .ref a24])), (a21, .inl (cI, 4, .inl (u9.2.1 0))), (a22, .inl (cI, 4, .inl (u9.2.1 1))), (a23, .inl (cJ, 240, .inr (.inl (u9.2.2 0))))]) (va_A [(a0, .inr (12, [.int i0, .ref a1, .ref a2, .ref a3, .ref a4, .int i1, .ref a5, .int i2, .int i3, .int i4, .int i5, .int i6, .int i7, .int i8, .ref a6, .ref a7, .ref a8, .ref a9, .ref a10, .ref a11, .ref a12, .int i9, .ref a13, .int i10, .ref a14, .ref a15, .int i11, .ref a16, .ref a17, .ref a18, .ref a19, .int i12, .int i13, .int i14, .int i15, .int i16, .ref a20, .long j0, .ref a21, .ref a22, .ref a23, .ref a24])), (a21, .inl (cI, 4, .inl xF20)), (a22, .inl (cI, 4, .inl xF21)), (a23, .inl (cJ, 240, .inr (.inl xG22)))] sz)) 0 0 (va_A [(a0, .inr (12, [.int i0, .ref a1, .ref a2, .ref a3, .ref a4, .int i1, .ref a5, .int i2, .int i3, .int i4, .int i5, .int i6, .int i7, .int i8, .ref a6, .ref a7, .ref a8, .ref a9, .ref a10, .ref a11, .ref a12, .int i9, .ref a13, .int i10, .ref a14, .ref a15, .int i11, .ref a16, .ref a17, .ref a18, .ref a19, .int i12, .int i13, .int i14, .int i15, .int i16, .ref a20, .long j0, .ref a21, .ref a22, .ref a23, .ref a24])), (a21, .inl (cI, 4, .inl xF20)), (a22, .inl (cI, 4, .inl xF21)), (a23, .inl (cJ, 240, .inr (.inl xG22)))] sz) := by
  refine kEnter (by decide) (Nat.le_of_ble_eq_true rfl) ?_
  intro p e s m below meth c ls hx hb hr hml hown hlocks hin hwd hsz hP hK hD hl
  subst hsz
  generalize hAe : va_A [(a0, .inr (12, [.int i0, .ref a1, .ref a2, .ref a3, .ref a4, .int i1, .ref a5, .int i2, .int i3, .int i4, .int i5, .int i6, .int i7, .int i8, .ref a6, .ref a7, .ref a8, .ref a9, .ref a10, .ref a11, .ref a12, .int i9, .ref a13, .int i10, .ref a14, .ref a15, .int i11, .ref a16, .ref a17, .ref a18, .ref a19, .int i12, .int i13, .int i14, .int i15, .int i16, .ref a20, .long j0, .ref a21, .ref a22, .ref a23, .ref a24])), (a21, .inl (cI, 4, .inl xF20)), (a22, .inl (cI, 4, .inl xF21)), (a23, .inl (cJ, 240, .inr (.inl xG22)))] s.heap.size = A at hD ⊢
  have hA : ∀ q : Nat, s.heap.size ≤ q → A q := fun q h => by rw [← hAe]; exact Or.inr h
  have hS : va_S A s.heap s.heap [] := va_S.rf
  have hl : lv_has ls 5 [(0, .ref a0), (1, .int p0), (2, .int p1), (3, .int p2)] := hl
  obtain ⟨Q, hQ⟩ : ∃ Q, Q = MQ below (va_Qi (fun (r : Int32) (u9 : (Nat → Int32) × (Nat → Nat → Int32) × (Nat → Nat → Int64)) => ((-3 : Int) ≤ r.toInt ∧ r.toInt ≤ 0) ∧ (rng (u9.2.1 0) 4 (-1) 60) ∧ (MI (u9.2.1 0)) ∧ (rng (u9.2.1 1) 4 0 3) ∧ True) (fun u9 t => va_P (dC, dI) vwCl [(a0, .inr (12, [.int i0, .ref a1, .ref a2, .ref a3, .ref a4, .int i1, .ref a5, .int i2, .int i3, .int i4, .int i5, .int i6, .int i7, .int i8, .ref a6, .ref a7, .ref a8, .ref a9, .ref a10, .ref a11, .ref a12, .int i9, .ref a13, .int i10, .ref a14, .ref a15, .int i11, .ref a16, .ref a17, .ref a18, .ref a19, .int i12, .int i13, .int i14, .int i15, .int i16, .ref a20, .long j0, .ref a21, .ref a22, .ref a23, .ref a24])), (a21, .inl (cI, 4, .inl (u9.2.1 0))), (a22, .inl (cI, 4, .inl (u9.2.1 1))), (a23, .inl (cJ, 240, .inr (.inl (u9.2.2 0))))] t.heap ∧ va_D A [(a0, .inr (12, [.int i0, .ref a1, .ref a2, .ref a3, .ref a4, .int i1, .ref a5, .int i2, .int i3, .int i4, .int i5, .int i6, .int i7, .int i8, .ref a6, .ref a7, .ref a8, .ref a9, .ref a10, .ref a11, .ref a12, .int i9, .ref a13, .int i10, .ref a14, .ref a15, .int i11, .ref a16, .ref a17, .ref a18, .ref a19, .int i12, .int i13, .int i14, .int i15, .int i16, .ref a20, .long j0, .ref a21, .ref a22, .ref a23, .ref a24])), (a21, .inl (cI, 4, .inl (u9.2.1 0))), (a22, .inl (cI, 4, .inl (u9.2.1 1))), (a23, .inl (cJ, 240, .inr (.inl (u9.2.2 0))))]) A) ([.ref a0, .int p0, .int p1, .int p2] : List Value).toArray s 0 0 A := ⟨_, rfl⟩
  rw [← hQ]
  have km3 : ((-3) : Int32).toInt = -3 := by decide
  have km2 : ((-2) : Int32).toInt = -2 := by decide
  have k0 : (0 : Int32).toInt = 0 := by decide
  have k1 : (1 : Int32).toInt = 1 := by decide
  have k3 : (3 : Int32).toInt = 3 := by decide
  have k60 : (60 : Int32).toInt = 60 := by decide
  refine lv_iload_n hx hb dX12_row_0 rfl (lv_at hl 1 rfl) ?_
  have hPc := hP.sub (ws' := []) [] rfl
  have hDc := hD.sub (ws' := []) [] (by decide) rfl
  have hFc := va_free (wc := []) hD hS hA [] rfl
  refine va_calli (va_runS (As := [.int p0]) (rest := []) ⟨hx, hb, hml, hown, hwd⟩ (s_X12_isSlot l dC dI cI cZ cB cJ cM cG p0 s.heap.size) (cwS 1 hwd (gS kr65_0 kr65_1 kr5_23 kr65_2) rfl rfl rfl (by decide +kernel) ⟨Nat.le_of_ble_eq_true rfl, Nat.le_of_ble_eq_true rfl⟩) (kPreS hPc hK hDc) rfl rfl hl.1 rfl (lv_room (Nat.le_of_ble_eq_true rfl)) dX12_row_1 ⟨Nat.le_of_ble_eq_true rfl, Nat.le_of_ble_eq_true rfl⟩) hS (fun q _ h => hFc q h) hFc (fun r1 u2 t H1 locs ht9 hvm hw hB hz1 hk1 hS => ?_)
  obtain ⟨hw3, hw4, -⟩ := hw
  replace hw3 : (0 : Int) ≤ r1.toInt ∧ r1.toInt ≤ 1 := hw3
  obtain ⟨hP1, hD1⟩ := hB
  rw [ht9] at hP1
  obtain ⟨hP, hD⟩ := va_join (wr := [(a0, .inr (12, [.int i0, .ref a1, .ref a2, .ref a3, .ref a4, .int i1, .ref a5, .int i2, .int i3, .int i4, .int i5, .int i6, .int i7, .int i8, .ref a6, .ref a7, .ref a8, .ref a9, .ref a10, .ref a11, .ref a12, .int i9, .ref a13, .int i10, .ref a14, .ref a15, .int i11, .ref a16, .ref a17, .ref a18, .ref a19, .int i12, .int i13, .int i14, .int i15, .int i16, .ref a20, .long j0, .ref a21, .ref a22, .ref a23, .ref a24])), (a21, .inl (cI, 4, .inl xF20)), (a22, .inl (cI, 4, .inl xF21)), (a23, .inl (cJ, 240, .inr (.inl xG22)))]) (w1 := []) hP hD [] [0, 1, 2, 3] rfl rfl (by decide) (by decide) hk1 hFc hP1 hD1
  generalize H1 = H at hP hS ⊢
  replace hP : va_P (dC, dI) vwCl [(a0, .inr (12, [.int i0, .ref a1, .ref a2, .ref a3, .ref a4, .int i1, .ref a5, .int i2, .int i3, .int i4, .int i5, .int i6, .int i7, .int i8, .ref a6, .ref a7, .ref a8, .ref a9, .ref a10, .ref a11, .ref a12, .int i9, .ref a13, .int i10, .ref a14, .ref a15, .int i11, .ref a16, .ref a17, .ref a18, .ref a19, .int i12, .int i13, .int i14, .int i15, .int i16, .ref a20, .long j0, .ref a21, .ref a22, .ref a23, .ref a24])), (a21, .inl (cI, 4, .inl xF20)), (a22, .inl (cI, 4, .inl xF21)), (a23, .inl (cJ, 240, .inr (.inl xG22)))] H := hP
  replace hD : va_D A [(a0, .inr (12, [.int i0, .ref a1, .ref a2, .ref a3, .ref a4, .int i1, .ref a5, .int i2, .int i3, .int i4, .int i5, .int i6, .int i7, .int i8, .ref a6, .ref a7, .ref a8, .ref a9, .ref a10, .ref a11, .ref a12, .int i9, .ref a13, .int i10, .ref a14, .ref a15, .int i11, .ref a16, .ref a17, .ref a18, .ref a19, .int i12, .int i13, .int i14, .int i15, .int i16, .ref a20, .long j0, .ref a21, .ref a22, .ref a23, .ref a24])), (a21, .inl (cI, 4, .inl xF20)), (a22, .inl (cI, 4, .inl xF21)), (a23, .inl (cJ, 240, .inr (.inl xG22)))] := hD
  refine lv_if_eq (tgt := 25) hx hb dX12_row_4 (by decide) (fun c5 => ?_) (fun c5 => ?_)
  · rw [ki_eq] at c5
    refine lv_bipush (v := (-2)) hx hb dX12_row_25 (by decide) ?_
    have hP9 := hP.sub (ws' := [(a0, .inr (12, [.int i0, .ref a1, .ref a2, .ref a3, .ref a4, .int i1, .ref a5, .int i2, .int i3, .int i4, .int i5, .int i6, .int i7, .int i8, .ref a6, .ref a7, .ref a8, .ref a9, .ref a10, .ref a11, .ref a12, .int i9, .ref a13, .int i10, .ref a14, .ref a15, .int i11, .ref a16, .ref a17, .ref a18, .ref a19, .int i12, .int i13, .int i14, .int i15, .int i16, .ref a20, .long j0, .ref a21, .ref a22, .ref a23, .ref a24])), (a21, .inl (cI, 4, .inl xF20)), (a22, .inl (cI, 4, .inl xF21)), (a23, .inl (cJ, 240, .inr (.inl xG22)))]) [0, 1, 2, 3] rfl
    have hD9 := hD.sub (ws' := [(a0, .inr (12, [.int i0, .ref a1, .ref a2, .ref a3, .ref a4, .int i1, .ref a5, .int i2, .int i3, .int i4, .int i5, .int i6, .int i7, .int i8, .ref a6, .ref a7, .ref a8, .ref a9, .ref a10, .ref a11, .ref a12, .int i9, .ref a13, .int i10, .ref a14, .ref a15, .int i11, .ref a16, .ref a17, .ref a18, .ref a19, .int i12, .int i13, .int i14, .int i15, .int i16, .ref a20, .long j0, .ref a21, .ref a22, .ref a23, .ref a24])), (a21, .inl (cI, 4, .inl xF20)), (a22, .inl (cI, 4, .inl xF21)), (a23, .inl (cJ, 240, .inr (.inl xG22)))]) [0, 1, 2, 3] (by decide) rfl
    rw [hQ]
    exact W.iret (v := (-2)) hx hb hr (fun t ht hW => ⟨⟨(-2), (pickG 0 [], pickG (fun _ => 0) [xF20, xF21], pickG (fun _ => 0) [xG22]), rfl, ⟨(show (-3 : Int) ≤ ((-2) : Int32).toInt ∧ ((-2) : Int32).toInt ≤ 0 from ⟨by omega, by omega⟩), (show rng xF20 4 (-1) 60 from p_7), (show MI xF20 from trivial), (show rng xF21 4 0 3 from p_9), trivial⟩, (by rw [ht]; exact hP9), hD9⟩, hS.F ht⟩) hS.2.2 dX12_row_27
  · rw [ki_eq] at c5
    have hw4q := hw4 (by omega)
    clear hw4
    refine lv_iload_n hx hb dX12_row_7 rfl (lv_at hl 2 rfl) ?_
    refine lv_i2l hx hb dX12_row_8 rfl ?_
    refine lv_lconst (v := 0) hx hb dX12_row_9 (by decide) ?_
    refine lv_ldc2 (v := 3) hx hb hown (hwd _ kr65_3) dX12_row_10 ?_
    have hPc := hP.sub (ws' := []) [] rfl
    have hDc := hD.sub (ws' := []) [] (by decide) rfl
    have hFc := va_free (wc := []) hD hS hA [] rfl
    refine va_calli (va_runS (As := [.long p1.toInt64, .long 0, .long 3]) (rest := []) ⟨hx, hb, hml, hown, hwd⟩ (s_X12_in l dC dI cI cZ cB cJ cM cG p1.toInt64 0 3 H.size) (cwS 3 hwd (gS kr51_0 kr51_1 kr5_23 kr51_2) rfl rfl rfl (by decide +kernel) ⟨Nat.le_of_ble_eq_true rfl, Nat.le_of_ble_eq_true rfl⟩) (kPreS hPc hK hDc) rfl rfl hl.1 rfl (lv_room (Nat.le_of_ble_eq_true rfl)) dX12_row_13 ⟨Nat.le_of_ble_eq_true rfl, Nat.le_of_ble_eq_true rfl⟩) hS (fun q _ h => hFc q h) hFc (fun r6 u7 t H1 locs ht9 hvm hw hB hz1 hk1 hS => ?_)
    obtain ⟨hw8, hw9, hw10, -⟩ := hw
    replace hw8 : (0 : Int) ≤ r6.toInt ∧ r6.toInt ≤ 1 := hw8
    have hw9 : r6.toInt ≠ 0 → (0 : Int) ≤ p1.toInt ∧ p1.toInt ≤ (3 : Int) := in_int (Int32.toInt_toInt64 _) (by decide) (by decide) hw9
    have hw10 : r6.toInt ≠ 1 → p1.toInt < (0 : Int) ∨ (3 : Int) < p1.toInt := in_int2 (Int32.toInt_toInt64 _) (by decide) (by decide) hw10
    obtain ⟨hP1, hD1⟩ := hB
    rw [ht9] at hP1
    obtain ⟨hP, hD⟩ := va_join (wr := [(a0, .inr (12, [.int i0, .ref a1, .ref a2, .ref a3, .ref a4, .int i1, .ref a5, .int i2, .int i3, .int i4, .int i5, .int i6, .int i7, .int i8, .ref a6, .ref a7, .ref a8, .ref a9, .ref a10, .ref a11, .ref a12, .int i9, .ref a13, .int i10, .ref a14, .ref a15, .int i11, .ref a16, .ref a17, .ref a18, .ref a19, .int i12, .int i13, .int i14, .int i15, .int i16, .ref a20, .long j0, .ref a21, .ref a22, .ref a23, .ref a24])), (a21, .inl (cI, 4, .inl xF20)), (a22, .inl (cI, 4, .inl xF21)), (a23, .inl (cJ, 240, .inr (.inl xG22)))]) (w1 := []) hP hD [] [0, 1, 2, 3] rfl rfl (by decide) (by decide) hk1 hFc hP1 hD1
    generalize H1 = H at hP hS ⊢
    replace hP : va_P (dC, dI) vwCl [(a0, .inr (12, [.int i0, .ref a1, .ref a2, .ref a3, .ref a4, .int i1, .ref a5, .int i2, .int i3, .int i4, .int i5, .int i6, .int i7, .int i8, .ref a6, .ref a7, .ref a8, .ref a9, .ref a10, .ref a11, .ref a12, .int i9, .ref a13, .int i10, .ref a14, .ref a15, .int i11, .ref a16, .ref a17, .ref a18, .ref a19, .int i12, .int i13, .int i14, .int i15, .int i16, .ref a20, .long j0, .ref a21, .ref a22, .ref a23, .ref a24])), (a21, .inl (cI, 4, .inl xF20)), (a22, .inl (cI, 4, .inl xF21)), (a23, .inl (cJ, 240, .inr (.inl xG22)))] H := hP
    replace hD : va_D A [(a0, .inr (12, [.int i0, .ref a1, .ref a2, .ref a3, .ref a4, .int i1, .ref a5, .int i2, .int i3, .int i4, .int i5, .int i6, .int i7, .int i8, .ref a6, .ref a7, .ref a8, .ref a9, .ref a10, .ref a11, .ref a12, .int i9, .ref a13, .int i10, .ref a14, .ref a15, .int i11, .ref a16, .ref a17, .ref a18, .ref a19, .int i12, .int i13, .int i14, .int i15, .int i16, .ref a20, .long j0, .ref a21, .ref a22, .ref a23, .ref a24])), (a21, .inl (cI, 4, .inl xF20)), (a22, .inl (cI, 4, .inl xF21)), (a23, .inl (cJ, 240, .inr (.inl xG22)))] := hD
    refine lv_if_eq (tgt := 25) hx hb dX12_row_16 (by decide) (fun c11 => ?_) (fun c11 => ?_)
    · rw [ki_eq] at c11
      have hw10q := hw10 (by omega)
      clear hw10
      refine lv_bipush (v := (-2)) hx hb dX12_row_25 (by decide) ?_
      have hP9 := hP.sub (ws' := [(a0, .inr (12, [.int i0, .ref a1, .ref a2, .ref a3, .ref a4, .int i1, .ref a5, .int i2, .int i3, .int i4, .int i5, .int i6, .int i7, .int i8, .ref a6, .ref a7, .ref a8, .ref a9, .ref a10, .ref a11, .ref a12, .int i9, .ref a13, .int i10, .ref a14, .ref a15, .int i11, .ref a16, .ref a17, .ref a18, .ref a19, .int i12, .int i13, .int i14, .int i15, .int i16, .ref a20, .long j0, .ref a21, .ref a22, .ref a23, .ref a24])), (a21, .inl (cI, 4, .inl xF20)), (a22, .inl (cI, 4, .inl xF21)), (a23, .inl (cJ, 240, .inr (.inl xG22)))]) [0, 1, 2, 3] rfl
      have hD9 := hD.sub (ws' := [(a0, .inr (12, [.int i0, .ref a1, .ref a2, .ref a3, .ref a4, .int i1, .ref a5, .int i2, .int i3, .int i4, .int i5, .int i6, .int i7, .int i8, .ref a6, .ref a7, .ref a8, .ref a9, .ref a10, .ref a11, .ref a12, .int i9, .ref a13, .int i10, .ref a14, .ref a15, .int i11, .ref a16, .ref a17, .ref a18, .ref a19, .int i12, .int i13, .int i14, .int i15, .int i16, .ref a20, .long j0, .ref a21, .ref a22, .ref a23, .ref a24])), (a21, .inl (cI, 4, .inl xF20)), (a22, .inl (cI, 4, .inl xF21)), (a23, .inl (cJ, 240, .inr (.inl xG22)))]) [0, 1, 2, 3] (by decide) rfl
      rw [hQ]
      exact W.iret (v := (-2)) hx hb hr (fun t ht hW => ⟨⟨(-2), (pickG 0 [], pickG (fun _ => 0) [xF20, xF21], pickG (fun _ => 0) [xG22]), rfl, ⟨(show (-3 : Int) ≤ ((-2) : Int32).toInt ∧ ((-2) : Int32).toInt ≤ 0 from ⟨by omega, by omega⟩), (show rng xF20 4 (-1) 60 from p_7), (show MI xF20 from trivial), (show rng xF21 4 0 3 from p_9), trivial⟩, (by rw [ht]; exact hP9), hD9⟩, hS.F ht⟩) hS.2.2 dX12_row_27
    · rw [ki_eq] at c11
      have hw9q := hw9 (by omega)
      clear hw9
      refine lv_iload_n hx hb dX12_row_19 rfl (lv_at hl 3 rfl) ?_
      refine lv_bipush (v := 60) hx hb dX12_row_20 (by decide) ?_
      refine lv_icmp_le (tgt := 28) hx hb dX12_row_22 (by decide) (fun c12 => ?_) (fun c12 => ?_)
      · rw [ki_le] at c12
        refine lv_iload_n hx hb dX12_row_28 rfl (lv_at hl 3 rfl) ?_
        refine lv_if_ge (tgt := 35) hx hb dX12_row_29 (by decide) (fun c13 => ?_) (fun c13 => ?_)
        · rw [ki_le] at c13
          refine lv_aload_n hx hb dX12_row_35 rfl (lv_at hl 0 rfl) ?_
          refine va_get (D := (dC, dI)) (ci := 12) (v := .ref a21) (C := RX12) (T := TX12) (N := 42) hx hb hwd inlX12 hown hK hP 0 rfl rfl 38 (by decide) (hwd _ kr50_15) (fun _ h9 => h9) rfl dX12_row_36 ?_
          refine lv_iload_n hx hb dX12_row_39 rfl (lv_at hl 1 rfl) ?_
          refine lv_iload_n hx hb dX12_row_40 rfl (lv_at hl 3 rfl) ?_
          refine va_iast hx hb hK hP hD hS 1 0 rfl rfl (vp_of (by omega) (by omega)) dX12_row_41 (fun H locs hP hD hS => ?_)
          obtain ⟨f14, ef14⟩ : ∃ f, f = upd xF20 p0.toNatClampNeg p2 := ⟨_, rfl⟩
          have rf14 : rng f14 4 (-1) 60 := by rw [ef14]; exact rng_upd (rng_mono p_7 (by omega) (by omega)) (by omega) (by omega)
          replace hP : va_P (dC, dI) vwCl [(a0, .inr (12, [.int i0, .ref a1, .ref a2, .ref a3, .ref a4, .int i1, .ref a5, .int i2, .int i3, .int i4, .int i5, .int i6, .int i7, .int i8, .ref a6, .ref a7, .ref a8, .ref a9, .ref a10, .ref a11, .ref a12, .int i9, .ref a13, .int i10, .ref a14, .ref a15, .int i11, .ref a16, .ref a17, .ref a18, .ref a19, .int i12, .int i13, .int i14, .int i15, .int i16, .ref a20, .long j0, .ref a21, .ref a22, .ref a23, .ref a24])), (a21, .inl (cI, 4, .inl f14)), (a22, .inl (cI, 4, .inl xF21)), (a23, .inl (cJ, 240, .inr (.inl xG22)))] H := by rw [ef14]; exact hP
          replace hD : va_D A [(a0, .inr (12, [.int i0, .ref a1, .ref a2, .ref a3, .ref a4, .int i1, .ref a5, .int i2, .int i3, .int i4, .int i5, .int i6, .int i7, .int i8, .ref a6, .ref a7, .ref a8, .ref a9, .ref a10, .ref a11, .ref a12, .int i9, .ref a13, .int i10, .ref a14, .ref a15, .int i11, .ref a16, .ref a17, .ref a18, .ref a19, .int i12, .int i13, .int i14, .int i15, .int i16, .ref a20, .long j0, .ref a21, .ref a22, .ref a23, .ref a24])), (a21, .inl (cI, 4, .inl f14)), (a22, .inl (cI, 4, .inl xF21)), (a23, .inl (cJ, 240, .inr (.inl xG22)))] := by rw [ef14]; exact hD
          refine lv_aload_n hx hb dX12_row_42 rfl (lv_at hl 0 rfl) ?_
          refine va_get (D := (dC, dI)) (ci := 12) (v := .ref a22) (C := RX12) (T := TX12) (N := 42) hx hb hwd inlX12 hown hK hP 0 rfl rfl 39 (by decide) (hwd _ kr50_16) (fun _ h9 => h9) rfl dX12_row_43 ?_
          refine lv_iload_n hx hb dX12_row_46 rfl (lv_at hl 1 rfl) ?_
          refine lv_iload_n hx hb dX12_row_47 rfl (lv_at hl 2 rfl) ?_
          refine va_iast hx hb hK hP hD hS 2 0 rfl rfl (vp_of (by omega) (by omega)) dX12_row_48 (fun H locs hP hD hS => ?_)
          obtain ⟨f15, ef15⟩ : ∃ f, f = upd xF21 p0.toNatClampNeg p1 := ⟨_, rfl⟩
          have rf15 : rng f15 4 0 3 := by rw [ef15]; exact rng_upd (rng_mono p_9 (by omega) (by omega)) (by omega) (by omega)
          replace hP : va_P (dC, dI) vwCl [(a0, .inr (12, [.int i0, .ref a1, .ref a2, .ref a3, .ref a4, .int i1, .ref a5, .int i2, .int i3, .int i4, .int i5, .int i6, .int i7, .int i8, .ref a6, .ref a7, .ref a8, .ref a9, .ref a10, .ref a11, .ref a12, .int i9, .ref a13, .int i10, .ref a14, .ref a15, .int i11, .ref a16, .ref a17, .ref a18, .ref a19, .int i12, .int i13, .int i14, .int i15, .int i16, .ref a20, .long j0, .ref a21, .ref a22, .ref a23, .ref a24])), (a21, .inl (cI, 4, .inl f14)), (a22, .inl (cI, 4, .inl f15)), (a23, .inl (cJ, 240, .inr (.inl xG22)))] H := by rw [ef15]; exact hP
          replace hD : va_D A [(a0, .inr (12, [.int i0, .ref a1, .ref a2, .ref a3, .ref a4, .int i1, .ref a5, .int i2, .int i3, .int i4, .int i5, .int i6, .int i7, .int i8, .ref a6, .ref a7, .ref a8, .ref a9, .ref a10, .ref a11, .ref a12, .int i9, .ref a13, .int i10, .ref a14, .ref a15, .int i11, .ref a16, .ref a17, .ref a18, .ref a19, .int i12, .int i13, .int i14, .int i15, .int i16, .ref a20, .long j0, .ref a21, .ref a22, .ref a23, .ref a24])), (a21, .inl (cI, 4, .inl f14)), (a22, .inl (cI, 4, .inl f15)), (a23, .inl (cJ, 240, .inr (.inl xG22)))] := by rw [ef15]; exact hD
          refine lv_iconst (v := 0) hx hb dX12_row_49 (by decide) ?_
          refine lv_istore (lv' := [(4, .int 0), (0, .ref a0), (1, .int p0), (2, .int p1), (3, .int p2)]) hx hb dX12_row_50 hl (by decide) rfl (fun ls hl => ?_)
          have lp1 : ∀ (d : Nat), ∀ (H : Heap) (locs : List Loc) (ls : Array Slot) (w4_1 : Int32) (g1_1 : Nat → Int64), ((0 : Int) ≤ w4_1.toInt ∧ w4_1.toInt ≤ 60) → (60 - w4_1.toInt).toNat < d → va_P (dC, dI) vwCl [(a0, .inr (12, [.int i0, .ref a1, .ref a2, .ref a3, .ref a4, .int i1, .ref a5, .int i2, .int i3, .int i4, .int i5, .int i6, .int i7, .int i8, .ref a6, .ref a7, .ref a8, .ref a9, .ref a10, .ref a11, .ref a12, .int i9, .ref a13, .int i10, .ref a14, .ref a15, .int i11, .ref a16, .ref a17, .ref a18, .ref a19, .int i12, .int i13, .int i14, .int i15, .int i16, .ref a20, .long j0, .ref a21, .ref a22, .ref a23, .ref a24])), (a21, .inl (cI, 4, .inl f14)), (a22, .inl (cI, 4, .inl f15)), (a23, .inl (cJ, 240, .inr (.inl g1_1)))] H → va_D A [(a0, .inr (12, [.int i0, .ref a1, .ref a2, .ref a3, .ref a4, .int i1, .ref a5, .int i2, .int i3, .int i4, .int i5, .int i6, .int i7, .int i8, .ref a6, .ref a7, .ref a8, .ref a9, .ref a10, .ref a11, .ref a12, .int i9, .ref a13, .int i10, .ref a14, .ref a15, .int i11, .ref a16, .ref a17, .ref a18, .ref a19, .int i12, .int i13, .int i14, .int i15, .int i16, .ref a20, .long j0, .ref a21, .ref a22, .ref a23, .ref a24])), (a21, .inl (cI, 4, .inl f14)), (a22, .inl (cI, 4, .inl f15)), (a23, .inl (cJ, 240, .inr (.inl g1_1)))] → va_S A s.heap H locs → lv_has ls 5 [(0, .ref a0), (1, .int p0), (2, .int p1), (3, .int p2), (4, .int w4_1)] → W p l e ({ frames := 2, cells := 0, slots := 0, locals := 45 } : Room) s m ([.ref a0, .int p0, .int p1, .int p2] : List Value).toArray below meth c H locs 0 0 Q (F0 m 52 ls []) := by
            intro d
            induction d with
            | zero =>
              intro H locs ls w4_1 g1_1 hr_w4_1 hm hP hD hS hl
              omega
            | succ d ih1 =>
              intro H locs ls w4_1 g1_1 hr_w4_1 hm hP hD hS hl
              refine lv_iload hx hb dX12_row_52 (lv_at hl 4 rfl) ?_
              refine lv_bipush (v := 60) hx hb dX12_row_54 (by decide) ?_
              refine lv_icmp_ge (tgt := 78) hx hb dX12_row_56 (by decide) (fun c45 => ?_) (fun c45 => ?_)
              · rw [ki_le] at c45
                refine lv_iconst (v := 0) hx hb dX12_row_78 (by decide) ?_
                have hP9 := hP.sub (ws' := [(a0, .inr (12, [.int i0, .ref a1, .ref a2, .ref a3, .ref a4, .int i1, .ref a5, .int i2, .int i3, .int i4, .int i5, .int i6, .int i7, .int i8, .ref a6, .ref a7, .ref a8, .ref a9, .ref a10, .ref a11, .ref a12, .int i9, .ref a13, .int i10, .ref a14, .ref a15, .int i11, .ref a16, .ref a17, .ref a18, .ref a19, .int i12, .int i13, .int i14, .int i15, .int i16, .ref a20, .long j0, .ref a21, .ref a22, .ref a23, .ref a24])), (a21, .inl (cI, 4, .inl f14)), (a22, .inl (cI, 4, .inl f15)), (a23, .inl (cJ, 240, .inr (.inl g1_1)))]) [0, 1, 2, 3] rfl
                have hD9 := hD.sub (ws' := [(a0, .inr (12, [.int i0, .ref a1, .ref a2, .ref a3, .ref a4, .int i1, .ref a5, .int i2, .int i3, .int i4, .int i5, .int i6, .int i7, .int i8, .ref a6, .ref a7, .ref a8, .ref a9, .ref a10, .ref a11, .ref a12, .int i9, .ref a13, .int i10, .ref a14, .ref a15, .int i11, .ref a16, .ref a17, .ref a18, .ref a19, .int i12, .int i13, .int i14, .int i15, .int i16, .ref a20, .long j0, .ref a21, .ref a22, .ref a23, .ref a24])), (a21, .inl (cI, 4, .inl f14)), (a22, .inl (cI, 4, .inl f15)), (a23, .inl (cJ, 240, .inr (.inl g1_1)))]) [0, 1, 2, 3] (by decide) rfl
                rw [hQ]
                exact W.iret (v := 0) hx hb hr (fun t ht hW => ⟨⟨0, (pickG 0 [], pickG (fun _ => 0) [f14, f15], pickG (fun _ => 0) [g1_1]), rfl, ⟨(show (-3 : Int) ≤ (0 : Int32).toInt ∧ (0 : Int32).toInt ≤ 0 from ⟨by omega, by omega⟩), (show rng f14 4 (-1) 60 from rf14), (show MI f14 from trivial), (show rng f15 4 0 3 from rf15), trivial⟩, (by rw [ht]; exact hP9), hD9⟩, hS.F ht⟩) hS.2.2 dX12_row_79
              · rw [ki_le] at c45
                refine lv_aload_n hx hb dX12_row_59 rfl (lv_at hl 0 rfl) ?_
                refine va_get (D := (dC, dI)) (ci := 12) (v := .ref a23) (C := RX12) (T := TX12) (N := 42) hx hb hwd inlX12 hown hK hP 0 rfl rfl 40 (by decide) (hwd _ kr50_17) (fun _ h9 => h9) rfl dX12_row_60 ?_
                refine lv_bipush (v := 60) hx hb dX12_row_63 (by decide) ?_
                refine lv_iload_n hx hb dX12_row_65 rfl (lv_at hl 1 rfl) ?_
                refine lv_imul hx hb dX12_row_66 ?_
                refine lv_topi (fun x46 ex46 => ?_)
                have tx46 := ia_mull (a := (60 : Int32)) (b := p0) 60 (by decide) (by omega) (by omega)
                rw [← ex46] at tx46
                refine lv_iload hx hb dX12_row_67 (lv_at hl 4 rfl) ?_
                refine lv_iadd hx hb dX12_row_69 ?_
                refine lv_topi (fun x47 ex47 => ?_)
                have tx47 := ia_add (a := x46) (b := w4_1) (by omega) (by omega)
                rw [← ex47] at tx47
                refine lv_lconst (v := 0) hx hb dX12_row_70 (by decide) ?_
                refine va_last hx hb hK hP hD hS 3 3 rfl rfl (vp_of (by omega) (by omega)) dX12_row_71 (fun H locs hP hD hS => ?_)
                obtain ⟨f48, ef48⟩ : ∃ f, f = vp_updL g1_1 x47.toNatClampNeg 0 := ⟨_, rfl⟩
                replace hP : va_P (dC, dI) vwCl [(a0, .inr (12, [.int i0, .ref a1, .ref a2, .ref a3, .ref a4, .int i1, .ref a5, .int i2, .int i3, .int i4, .int i5, .int i6, .int i7, .int i8, .ref a6, .ref a7, .ref a8, .ref a9, .ref a10, .ref a11, .ref a12, .int i9, .ref a13, .int i10, .ref a14, .ref a15, .int i11, .ref a16, .ref a17, .ref a18, .ref a19, .int i12, .int i13, .int i14, .int i15, .int i16, .ref a20, .long j0, .ref a21, .ref a22, .ref a23, .ref a24])), (a21, .inl (cI, 4, .inl f14)), (a22, .inl (cI, 4, .inl f15)), (a23, .inl (cJ, 240, .inr (.inl f48)))] H := by rw [ef48]; exact hP
                replace hD : va_D A [(a0, .inr (12, [.int i0, .ref a1, .ref a2, .ref a3, .ref a4, .int i1, .ref a5, .int i2, .int i3, .int i4, .int i5, .int i6, .int i7, .int i8, .ref a6, .ref a7, .ref a8, .ref a9, .ref a10, .ref a11, .ref a12, .int i9, .ref a13, .int i10, .ref a14, .ref a15, .int i11, .ref a16, .ref a17, .ref a18, .ref a19, .int i12, .int i13, .int i14, .int i15, .int i16, .ref a20, .long j0, .ref a21, .ref a22, .ref a23, .ref a24])), (a21, .inl (cI, 4, .inl f14)), (a22, .inl (cI, 4, .inl f15)), (a23, .inl (cJ, 240, .inr (.inl f48)))] := by rw [ef48]; exact hD
                obtain ⟨x49, ex49⟩ : ∃ y : Int32, y = w4_1 + 1 := ⟨_, rfl⟩
                refine lv_iinc (v := x49) (lv' := [(4, .int x49), (0, .ref a0), (1, .int p0), (2, .int p1), (3, .int p2)]) hx hb dX12_row_72 hl (k := 4) rfl (by rw [ex49]; rfl) (by decide) rfl (fun ls hl => ?_)
                have tx49 := ia_add (a := w4_1) (b := (1 : Int32)) (by omega) (by omega)
                rw [← ex49] at tx49
                refine lv_goto (tgt := 52) hx hb dX12_row_75 (by decide) ?_
                exact ih1 _ _ ls x49 f48 (show (0 : Int) ≤ x49.toInt ∧ x49.toInt ≤ 60 from ⟨by omega, by omega⟩) (by omega) (hP.sub (ws' := [(a0, .inr (12, [.int i0, .ref a1, .ref a2, .ref a3, .ref a4, .int i1, .ref a5, .int i2, .int i3, .int i4, .int i5, .int i6, .int i7, .int i8, .ref a6, .ref a7, .ref a8, .ref a9, .ref a10, .ref a11, .ref a12, .int i9, .ref a13, .int i10, .ref a14, .ref a15, .int i11, .ref a16, .ref a17, .ref a18, .ref a19, .int i12, .int i13, .int i14, .int i15, .int i16, .ref a20, .long j0, .ref a21, .ref a22, .ref a23, .ref a24])), (a21, .inl (cI, 4, .inl f14)), (a22, .inl (cI, 4, .inl f15)), (a23, .inl (cJ, 240, .inr (.inl f48)))]) [0, 1, 2, 3] rfl) (hD.sub (ws' := [(a0, .inr (12, [.int i0, .ref a1, .ref a2, .ref a3, .ref a4, .int i1, .ref a5, .int i2, .int i3, .int i4, .int i5, .int i6, .int i7, .int i8, .ref a6, .ref a7, .ref a8, .ref a9, .ref a10, .ref a11, .ref a12, .int i9, .ref a13, .int i10, .ref a14, .ref a15, .int i11, .ref a16, .ref a17, .ref a18, .ref a19, .int i12, .int i13, .int i14, .int i15, .int i16, .ref a20, .long j0, .ref a21, .ref a22, .ref a23, .ref a24])), (a21, .inl (cI, 4, .inl f14)), (a22, .inl (cI, 4, .inl f15)), (a23, .inl (cJ, 240, .inr (.inl f48)))]) [0, 1, 2, 3] (by decide) rfl) hS (lv_sub hl [1, 2, 3, 4, 0] rfl)
          exact lp1 _ _ _ ls (0) xG22 (show (0 : Int) ≤ (0 : Int32).toInt ∧ (0 : Int32).toInt ≤ 60 from ⟨by omega, by omega⟩) (Nat.lt_succ_self _) (hP.sub (ws' := [(a0, .inr (12, [.int i0, .ref a1, .ref a2, .ref a3, .ref a4, .int i1, .ref a5, .int i2, .int i3, .int i4, .int i5, .int i6, .int i7, .int i8, .ref a6, .ref a7, .ref a8, .ref a9, .ref a10, .ref a11, .ref a12, .int i9, .ref a13, .int i10, .ref a14, .ref a15, .int i11, .ref a16, .ref a17, .ref a18, .ref a19, .int i12, .int i13, .int i14, .int i15, .int i16, .ref a20, .long j0, .ref a21, .ref a22, .ref a23, .ref a24])), (a21, .inl (cI, 4, .inl f14)), (a22, .inl (cI, 4, .inl f15)), (a23, .inl (cJ, 240, .inr (.inl xG22)))]) [0, 1, 2, 3] rfl) (hD.sub (ws' := [(a0, .inr (12, [.int i0, .ref a1, .ref a2, .ref a3, .ref a4, .int i1, .ref a5, .int i2, .int i3, .int i4, .int i5, .int i6, .int i7, .int i8, .ref a6, .ref a7, .ref a8, .ref a9, .ref a10, .ref a11, .ref a12, .int i9, .ref a13, .int i10, .ref a14, .ref a15, .int i11, .ref a16, .ref a17, .ref a18, .ref a19, .int i12, .int i13, .int i14, .int i15, .int i16, .ref a20, .long j0, .ref a21, .ref a22, .ref a23, .ref a24])), (a21, .inl (cI, 4, .inl f14)), (a22, .inl (cI, 4, .inl f15)), (a23, .inl (cJ, 240, .inr (.inl xG22)))]) [0, 1, 2, 3] (by decide) rfl) hS (lv_sub hl [1, 2, 3, 4, 0] rfl)
        · rw [ki_le] at c13
          refine lv_bipush (v := (-3)) hx hb dX12_row_32 (by decide) ?_
          have hP9 := hP.sub (ws' := [(a0, .inr (12, [.int i0, .ref a1, .ref a2, .ref a3, .ref a4, .int i1, .ref a5, .int i2, .int i3, .int i4, .int i5, .int i6, .int i7, .int i8, .ref a6, .ref a7, .ref a8, .ref a9, .ref a10, .ref a11, .ref a12, .int i9, .ref a13, .int i10, .ref a14, .ref a15, .int i11, .ref a16, .ref a17, .ref a18, .ref a19, .int i12, .int i13, .int i14, .int i15, .int i16, .ref a20, .long j0, .ref a21, .ref a22, .ref a23, .ref a24])), (a21, .inl (cI, 4, .inl xF20)), (a22, .inl (cI, 4, .inl xF21)), (a23, .inl (cJ, 240, .inr (.inl xG22)))]) [0, 1, 2, 3] rfl
          have hD9 := hD.sub (ws' := [(a0, .inr (12, [.int i0, .ref a1, .ref a2, .ref a3, .ref a4, .int i1, .ref a5, .int i2, .int i3, .int i4, .int i5, .int i6, .int i7, .int i8, .ref a6, .ref a7, .ref a8, .ref a9, .ref a10, .ref a11, .ref a12, .int i9, .ref a13, .int i10, .ref a14, .ref a15, .int i11, .ref a16, .ref a17, .ref a18, .ref a19, .int i12, .int i13, .int i14, .int i15, .int i16, .ref a20, .long j0, .ref a21, .ref a22, .ref a23, .ref a24])), (a21, .inl (cI, 4, .inl xF20)), (a22, .inl (cI, 4, .inl xF21)), (a23, .inl (cJ, 240, .inr (.inl xG22)))]) [0, 1, 2, 3] (by decide) rfl
          rw [hQ]
          exact W.iret (v := (-3)) hx hb hr (fun t ht hW => ⟨⟨(-3), (pickG 0 [], pickG (fun _ => 0) [xF20, xF21], pickG (fun _ => 0) [xG22]), rfl, ⟨(show (-3 : Int) ≤ ((-3) : Int32).toInt ∧ ((-3) : Int32).toInt ≤ 0 from ⟨by omega, by omega⟩), (show rng xF20 4 (-1) 60 from p_7), (show MI xF20 from trivial), (show rng xF21 4 0 3 from p_9), trivial⟩, (by rw [ht]; exact hP9), hD9⟩, hS.F ht⟩) hS.2.2 dX12_row_34
      · rw [ki_le] at c12
        refine lv_bipush (v := (-2)) hx hb dX12_row_25 (by decide) ?_
        have hP9 := hP.sub (ws' := [(a0, .inr (12, [.int i0, .ref a1, .ref a2, .ref a3, .ref a4, .int i1, .ref a5, .int i2, .int i3, .int i4, .int i5, .int i6, .int i7, .int i8, .ref a6, .ref a7, .ref a8, .ref a9, .ref a10, .ref a11, .ref a12, .int i9, .ref a13, .int i10, .ref a14, .ref a15, .int i11, .ref a16, .ref a17, .ref a18, .ref a19, .int i12, .int i13, .int i14, .int i15, .int i16, .ref a20, .long j0, .ref a21, .ref a22, .ref a23, .ref a24])), (a21, .inl (cI, 4, .inl xF20)), (a22, .inl (cI, 4, .inl xF21)), (a23, .inl (cJ, 240, .inr (.inl xG22)))]) [0, 1, 2, 3] rfl
        have hD9 := hD.sub (ws' := [(a0, .inr (12, [.int i0, .ref a1, .ref a2, .ref a3, .ref a4, .int i1, .ref a5, .int i2, .int i3, .int i4, .int i5, .int i6, .int i7, .int i8, .ref a6, .ref a7, .ref a8, .ref a9, .ref a10, .ref a11, .ref a12, .int i9, .ref a13, .int i10, .ref a14, .ref a15, .int i11, .ref a16, .ref a17, .ref a18, .ref a19, .int i12, .int i13, .int i14, .int i15, .int i16, .ref a20, .long j0, .ref a21, .ref a22, .ref a23, .ref a24])), (a21, .inl (cI, 4, .inl xF20)), (a22, .inl (cI, 4, .inl xF21)), (a23, .inl (cJ, 240, .inr (.inl xG22)))]) [0, 1, 2, 3] (by decide) rfl
        rw [hQ]
        exact W.iret (v := (-2)) hx hb hr (fun t ht hW => ⟨⟨(-2), (pickG 0 [], pickG (fun _ => 0) [xF20, xF21], pickG (fun _ => 0) [xG22]), rfl, ⟨(show (-3 : Int) ≤ ((-2) : Int32).toInt ∧ ((-2) : Int32).toInt ≤ 0 from ⟨by omega, by omega⟩), (show rng xF20 4 (-1) 60 from p_7), (show MI xF20 from trivial), (show rng xF21 4 0 3 from p_9), trivial⟩, (by rw [ht]; exact hP9), hD9⟩, hS.F ht⟩) hS.2.2 dX12_row_27
theorem dX12_write_0 : decode cX12_write 0 = .ok (.iload_n 1, 1) := by decide +kernel
theorem dX12_write_1 : decode cX12_write 1 = .ok (.invokestatic 414, 3) := by decide +kernel
theorem dX12_write_4 : decode cX12_write 4 = .ok (.ifCond .ne 6, 3) := by decide +kernel
theorem dX12_write_7 : decode cX12_write 7 = .ok (.bipush (-2), 2) := by decide +kernel
theorem dX12_write_9 : decode cX12_write 9 = .ok (.ireturn, 1) := by decide +kernel
theorem dX12_write_10 : decode cX12_write 10 = .ok (.aload_n 0, 1) := by decide +kernel
theorem dX12_write_11 : decode cX12_write 11 = .ok (.getfield 79, 3) := by decide +kernel
theorem dX12_write_14 : decode cX12_write 14 = .ok (.iload_n 1, 1) := by decide +kernel
theorem dX12_write_15 : decode cX12_write 15 = .ok (.iaload, 1) := by decide +kernel
theorem dX12_write_16 : decode cX12_write 16 = .ok (.iconst (-1), 1) := by decide +kernel
theorem dX12_write_17 : decode cX12_write 17 = .ok (.if_icmp .ne 6, 3) := by decide +kernel
theorem dX12_write_20 : decode cX12_write 20 = .ok (.bipush (-6), 2) := by decide +kernel
theorem dX12_write_22 : decode cX12_write 22 = .ok (.ireturn, 1) := by decide +kernel
theorem dX12_write_23 : decode cX12_write 23 = .ok (.iload_n 2, 1) := by decide +kernel
theorem dX12_write_24 : decode cX12_write 24 = .ok (.i2l, 1) := by decide +kernel
theorem dX12_write_25 : decode cX12_write 25 = .ok (.lconst 0, 1) := by decide +kernel
theorem dX12_write_26 : decode cX12_write 26 = .ok (.aload_n 0, 1) := by decide +kernel
theorem dX12_write_27 : decode cX12_write 27 = .ok (.getfield 79, 3) := by decide +kernel
theorem dX12_write_30 : decode cX12_write 30 = .ok (.iload_n 1, 1) := by decide +kernel
theorem dX12_write_31 : decode cX12_write 31 = .ok (.iaload, 1) := by decide +kernel
theorem dX12_write_32 : decode cX12_write 32 = .ok (.iconst 1, 1) := by decide +kernel
theorem dX12_write_33 : decode cX12_write 33 = .ok (.isub, 1) := by decide +kernel
theorem dX12_write_34 : decode cX12_write 34 = .ok (.i2l, 1) := by decide +kernel
theorem dX12_write_35 : decode cX12_write 35 = .ok (.invokestatic 98, 3) := by decide +kernel
theorem dX12_write_38 : decode cX12_write 38 = .ok (.ifCond .ne 6, 3) := by decide +kernel
theorem dX12_write_41 : decode cX12_write 41 = .ok (.bipush (-7), 2) := by decide +kernel
theorem dX12_write_43 : decode cX12_write 43 = .ok (.ireturn, 1) := by decide +kernel
theorem dX12_write_44 : decode cX12_write 44 = .ok (.aload_n 0, 1) := by decide +kernel
theorem dX12_write_45 : decode cX12_write 45 = .ok (.getfield 85, 3) := by decide +kernel
theorem dX12_write_48 : decode cX12_write 48 = .ok (.bipush 60, 2) := by decide +kernel
theorem dX12_write_50 : decode cX12_write 50 = .ok (.iload_n 1, 1) := by decide +kernel
theorem dX12_write_51 : decode cX12_write 51 = .ok (.imul, 1) := by decide +kernel
theorem dX12_write_52 : decode cX12_write 52 = .ok (.iload_n 2, 1) := by decide +kernel
theorem dX12_write_53 : decode cX12_write 53 = .ok (.iadd, 1) := by decide +kernel
theorem dX12_write_54 : decode cX12_write 54 = .ok (.lload_n 3, 1) := by decide +kernel
theorem dX12_write_55 : decode cX12_write 55 = .ok (.aload_n 0, 1) := by decide +kernel
theorem dX12_write_56 : decode cX12_write 56 = .ok (.getfield 82, 3) := by decide +kernel
theorem dX12_write_59 : decode cX12_write 59 = .ok (.iload_n 1, 1) := by decide +kernel
theorem dX12_write_60 : decode cX12_write 60 = .ok (.iaload, 1) := by decide +kernel
theorem dX12_write_61 : decode cX12_write 61 = .ok (.invokestatic 491, 3) := by decide +kernel
theorem dX12_write_64 : decode cX12_write 64 = .ok (.lastore, 1) := by decide +kernel
theorem dX12_write_65 : decode cX12_write 65 = .ok (.iconst 0, 1) := by decide +kernel
theorem dX12_write_66 : decode cX12_write 66 = .ok (.ireturn, 1) := by decide +kernel
set_option maxHeartbeats 4000000 in
set_option maxRecDepth 100000 in
theorem s_X12_write (l : Launch) (dC : Nat → ClassId) (dI : Nat → Nat → Nat) (cI cZ cB cJ cM cG : ClassId) (a0 a1 a2 a3 a4 a5 a6 a7 a8 a9 a10 a11 a12 a13 a14 a15 a16 a17 a18 a19 a20 a21 a22 a23 a24 : Nat) (i0 i1 i2 i3 i4 i5 i6 i7 i8 i9 i10 i11 i12 i13 i14 i15 i16 : Int32) (j0 : Int64) (xF20 xF21 : Nat → Int32) (xG22 : Nat → Int64) (p0 p1 : Int32) (y2 : Int64) (sz : Nat) (p_0 : (0 : Int) ≤ i1.toInt ∧ i1.toInt ≤ 1600) (p_1 : (0 : Int) ≤ i2.toInt ∧ i2.toInt ≤ 1600) (p_2 : (0 : Int) ≤ i3.toInt ∧ i3.toInt ≤ 1600) (p_3 : (0 : Int) ≤ i4.toInt ∧ i4.toInt ≤ 1600) (p_4 : (0 : Int) ≤ i5.toInt ∧ i5.toInt ≤ 6) (p_5 : (0 : Int) ≤ i7.toInt ∧ i7.toInt ≤ 3) (p_6 : (0 : Int) ≤ i11.toInt ∧ i11.toInt ≤ 59) (p_7 : rng xF20 4 (-1) 60) (p_8 : MI xF20) (p_9 : rng xF21 4 0 3) : Met l yX12_write (kw yX12_write cX12_write 5 (some .int)) ({ frames := 2, cells := 0, slots := 0, locals := 45 } : Room) (va_Pc [.ref a0, .int p0, .int p1, .long y2] (kPre dC dI [(cI, .int), (cZ, .boolean), (cB, .byte), (cJ, .long), (cM, .object RX2), (cG, .array .int)] [(a0, .inr (12, [.int i0, .ref a1, .ref a2, .ref a3, .ref a4, .int i1, .ref a5, .int i2, .int i3, .int i4, .int i5, .int i6, .int i7, .int i8, .ref a6, .ref a7, .ref a8, .ref a9, .ref a10, .ref a11, .ref a12, .int i9, .ref a13, .int i10, .ref a14, .ref a15, .int i11, .ref a16, .ref a17, .ref a18, .ref a19, .int i12, .int i13, .int i14, .int i15, .int i16, .ref a20, .long j0, .ref a21, .ref a22, .ref a23, .ref a24])), (a21, .inl (cI, 4, .inl xF20)), (a22, .inl (cI, 4, .inl xF21)), (a23, .inl (cJ, 240, .inr (.inl xG22)))] sz)) (va_Qi (fun (r : Int32) (u9 : (Nat → Int32) × (Nat → Nat → Int32) × (Nat → Nat → Int64)) => ((-7 : Int) ≤ r.toInt ∧ r.toInt ≤ 0) ∧ True) (fun u9 t => va_P (dC, dI) vwCl [(a0, .inr (12, [.int i0, .ref a1, .ref a2, .ref a3, .ref a4, .int i1, .ref a5, .int i2, .int i3, .int i4, .int i5, .int i6, .int i7, .int i8, .ref a6, .ref a7, .ref a8, .ref a9, .ref a10, .ref a11, .ref a12, .int i9, .ref a13, .int i10, .ref a14, .ref a15, .int i11, .ref a16, .ref a17, .ref a18, .ref a19, .int i12, .int i13, .int i14, .int i15, .int i16, .ref a20, .long j0, .ref a21, .ref a22, .ref a23, .ref a24])), (a21, .inl (cI, 4, .inl xF20)), (a22, .inl (cI, 4, .inl xF21)), (a23, .inl (cJ, 240, .inr (.inl (u9.2.2 0))))] t.heap ∧ va_D (va_A [(a0, .inr (12, [.int i0, .ref a1, .ref a2, .ref a3, .ref a4, .int i1, .ref a5, .int i2, .int i3, .int i4, .int i5, .int i6, .int i7, .int i8, .ref a6, .ref a7, .ref a8, .ref a9, .ref a10, .ref a11, .ref a12, .int i9, .ref a13, .int i10, .ref a14, .ref a15, .int i11, .ref a16, .ref a17, .ref a18, .ref a19, .int i12, .int i13, .int i14, .int i15, .int i16, .ref a20, .long j0, .ref a21, .ref a22, .ref a23, .ref a24])), (a21, .inl (cI, 4, .inl xF20)), (a22, .inl (cI, 4, .inl xF21)), (a23, .inl (cJ, 240, .inr (.inl xG22)))] sz) [(a0, .inr (12, [.int i0, .ref a1, .ref a2, .ref a3, .ref a4, .int i1, .ref a5, .int i2, .int i3, .int i4, .int i5, .int i6, .int i7, .int i8, .ref a6, .ref a7, .ref a8, .ref a9, .ref a10, .ref a11, .ref a12, .int i9, .ref a13, .int i10, .ref a14, .ref a15, .int i11, .ref a16, .ref a17, .ref a18, .ref a19, .int i12, .int i13, .int i14, .int i15, .int i16, .ref a20, .long j0, .ref a21, .ref a22, .ref a23, .ref a24])), (a21, .inl (cI, 4, .inl xF20)), (a22, .inl (cI, 4, .inl xF21)), (a23, .inl (cJ, 240, .inr (.inl (u9.2.2 0))))]) (va_A [(a0, .inr (12, [.int i0, .ref a1, .ref a2, .ref a3, .ref a4, .int i1, .ref a5, .int i2, .int i3, .int i4, .int i5, .int i6, .int i7, .int i8, .ref a6, .ref a7, .ref a8, .ref a9, .ref a10, .ref a11, .ref a12, .int i9, .ref a13, .int i10, .ref a14, .ref a15, .int i11, .ref a16, .ref a17, .ref a18, .ref a19, .int i12, .int i13, .int i14, .int i15, .int i16, .ref a20, .long j0, .ref a21, .ref a22, .ref a23, .ref a24])), (a21, .inl (cI, 4, .inl xF20)), (a22, .inl (cI, 4, .inl xF21)), (a23, .inl (cJ, 240, .inr (.inl xG22)))] sz)) 0 0 (va_A [(a0, .inr (12, [.int i0, .ref a1, .ref a2, .ref a3, .ref a4, .int i1, .ref a5, .int i2, .int i3, .int i4, .int i5, .int i6, .int i7, .int i8, .ref a6, .ref a7, .ref a8, .ref a9, .ref a10, .ref a11, .ref a12, .int i9, .ref a13, .int i10, .ref a14, .ref a15, .int i11, .ref a16, .ref a17, .ref a18, .ref a19, .int i12, .int i13, .int i14, .int i15, .int i16, .ref a20, .long j0, .ref a21, .ref a22, .ref a23, .ref a24])), (a21, .inl (cI, 4, .inl xF20)), (a22, .inl (cI, 4, .inl xF21)), (a23, .inl (cJ, 240, .inr (.inl xG22)))] sz) := by
  refine kEnter (by decide) (Nat.le_of_ble_eq_true rfl) ?_
  intro p e s m below meth c ls hx hb hr hml hown hlocks hin hwd hsz hP hK hD hl
  subst hsz
  generalize hAe : va_A [(a0, .inr (12, [.int i0, .ref a1, .ref a2, .ref a3, .ref a4, .int i1, .ref a5, .int i2, .int i3, .int i4, .int i5, .int i6, .int i7, .int i8, .ref a6, .ref a7, .ref a8, .ref a9, .ref a10, .ref a11, .ref a12, .int i9, .ref a13, .int i10, .ref a14, .ref a15, .int i11, .ref a16, .ref a17, .ref a18, .ref a19, .int i12, .int i13, .int i14, .int i15, .int i16, .ref a20, .long j0, .ref a21, .ref a22, .ref a23, .ref a24])), (a21, .inl (cI, 4, .inl xF20)), (a22, .inl (cI, 4, .inl xF21)), (a23, .inl (cJ, 240, .inr (.inl xG22)))] s.heap.size = A at hD ⊢
  have hA : ∀ q : Nat, s.heap.size ≤ q → A q := fun q h => by rw [← hAe]; exact Or.inr h
  have hS : va_S A s.heap s.heap [] := va_S.rf
  have hl : lv_has ls 5 [(0, .ref a0), (1, .int p0), (2, .int p1), (3, .long y2)] := hl
  obtain ⟨Q, hQ⟩ : ∃ Q, Q = MQ below (va_Qi (fun (r : Int32) (u9 : (Nat → Int32) × (Nat → Nat → Int32) × (Nat → Nat → Int64)) => ((-7 : Int) ≤ r.toInt ∧ r.toInt ≤ 0) ∧ True) (fun u9 t => va_P (dC, dI) vwCl [(a0, .inr (12, [.int i0, .ref a1, .ref a2, .ref a3, .ref a4, .int i1, .ref a5, .int i2, .int i3, .int i4, .int i5, .int i6, .int i7, .int i8, .ref a6, .ref a7, .ref a8, .ref a9, .ref a10, .ref a11, .ref a12, .int i9, .ref a13, .int i10, .ref a14, .ref a15, .int i11, .ref a16, .ref a17, .ref a18, .ref a19, .int i12, .int i13, .int i14, .int i15, .int i16, .ref a20, .long j0, .ref a21, .ref a22, .ref a23, .ref a24])), (a21, .inl (cI, 4, .inl xF20)), (a22, .inl (cI, 4, .inl xF21)), (a23, .inl (cJ, 240, .inr (.inl (u9.2.2 0))))] t.heap ∧ va_D A [(a0, .inr (12, [.int i0, .ref a1, .ref a2, .ref a3, .ref a4, .int i1, .ref a5, .int i2, .int i3, .int i4, .int i5, .int i6, .int i7, .int i8, .ref a6, .ref a7, .ref a8, .ref a9, .ref a10, .ref a11, .ref a12, .int i9, .ref a13, .int i10, .ref a14, .ref a15, .int i11, .ref a16, .ref a17, .ref a18, .ref a19, .int i12, .int i13, .int i14, .int i15, .int i16, .ref a20, .long j0, .ref a21, .ref a22, .ref a23, .ref a24])), (a21, .inl (cI, 4, .inl xF20)), (a22, .inl (cI, 4, .inl xF21)), (a23, .inl (cJ, 240, .inr (.inl (u9.2.2 0))))]) A) ([.ref a0, .int p0, .int p1, .long y2] : List Value).toArray s 0 0 A := ⟨_, rfl⟩
  rw [← hQ]
  have km7 : ((-7) : Int32).toInt = -7 := by decide
  have km6 : ((-6) : Int32).toInt = -6 := by decide
  have km2 : ((-2) : Int32).toInt = -2 := by decide
  have km1 : ((-1) : Int32).toInt = -1 := by decide
  have k0 : (0 : Int32).toInt = 0 := by decide
  have k1 : (1 : Int32).toInt = 1 := by decide
  have k3 : (3 : Int32).toInt = 3 := by decide
  have k60 : (60 : Int32).toInt = 60 := by decide
  refine lv_iload_n hx hb dX12_write_0 rfl (lv_at hl 1 rfl) ?_
  have hPc := hP.sub (ws' := []) [] rfl
  have hDc := hD.sub (ws' := []) [] (by decide) rfl
  have hFc := va_free (wc := []) hD hS hA [] rfl
  refine va_calli (va_runS (As := [.int p0]) (rest := []) ⟨hx, hb, hml, hown, hwd⟩ (s_X12_isSlot l dC dI cI cZ cB cJ cM cG p0 s.heap.size) (cwS 1 hwd (gS kr65_0 kr65_1 kr5_23 kr65_2) rfl rfl rfl (by decide +kernel) ⟨Nat.le_of_ble_eq_true rfl, Nat.le_of_ble_eq_true rfl⟩) (kPreS hPc hK hDc) rfl rfl hl.1 rfl (lv_room (Nat.le_of_ble_eq_true rfl)) dX12_write_1 ⟨Nat.le_of_ble_eq_true rfl, Nat.le_of_ble_eq_true rfl⟩) hS (fun q _ h => hFc q h) hFc (fun r1 u2 t H1 locs ht9 hvm hw hB hz1 hk1 hS => ?_)
  obtain ⟨hw3, hw4, -⟩ := hw
  replace hw3 : (0 : Int) ≤ r1.toInt ∧ r1.toInt ≤ 1 := hw3
  obtain ⟨hP1, hD1⟩ := hB
  rw [ht9] at hP1
  obtain ⟨hP, hD⟩ := va_join (wr := [(a0, .inr (12, [.int i0, .ref a1, .ref a2, .ref a3, .ref a4, .int i1, .ref a5, .int i2, .int i3, .int i4, .int i5, .int i6, .int i7, .int i8, .ref a6, .ref a7, .ref a8, .ref a9, .ref a10, .ref a11, .ref a12, .int i9, .ref a13, .int i10, .ref a14, .ref a15, .int i11, .ref a16, .ref a17, .ref a18, .ref a19, .int i12, .int i13, .int i14, .int i15, .int i16, .ref a20, .long j0, .ref a21, .ref a22, .ref a23, .ref a24])), (a21, .inl (cI, 4, .inl xF20)), (a22, .inl (cI, 4, .inl xF21)), (a23, .inl (cJ, 240, .inr (.inl xG22)))]) (w1 := []) hP hD [] [0, 1, 2, 3] rfl rfl (by decide) (by decide) hk1 hFc hP1 hD1
  generalize H1 = H at hP hS ⊢
  replace hP : va_P (dC, dI) vwCl [(a0, .inr (12, [.int i0, .ref a1, .ref a2, .ref a3, .ref a4, .int i1, .ref a5, .int i2, .int i3, .int i4, .int i5, .int i6, .int i7, .int i8, .ref a6, .ref a7, .ref a8, .ref a9, .ref a10, .ref a11, .ref a12, .int i9, .ref a13, .int i10, .ref a14, .ref a15, .int i11, .ref a16, .ref a17, .ref a18, .ref a19, .int i12, .int i13, .int i14, .int i15, .int i16, .ref a20, .long j0, .ref a21, .ref a22, .ref a23, .ref a24])), (a21, .inl (cI, 4, .inl xF20)), (a22, .inl (cI, 4, .inl xF21)), (a23, .inl (cJ, 240, .inr (.inl xG22)))] H := hP
  replace hD : va_D A [(a0, .inr (12, [.int i0, .ref a1, .ref a2, .ref a3, .ref a4, .int i1, .ref a5, .int i2, .int i3, .int i4, .int i5, .int i6, .int i7, .int i8, .ref a6, .ref a7, .ref a8, .ref a9, .ref a10, .ref a11, .ref a12, .int i9, .ref a13, .int i10, .ref a14, .ref a15, .int i11, .ref a16, .ref a17, .ref a18, .ref a19, .int i12, .int i13, .int i14, .int i15, .int i16, .ref a20, .long j0, .ref a21, .ref a22, .ref a23, .ref a24])), (a21, .inl (cI, 4, .inl xF20)), (a22, .inl (cI, 4, .inl xF21)), (a23, .inl (cJ, 240, .inr (.inl xG22)))] := hD
  refine lv_if_ne (tgt := 10) hx hb dX12_write_4 (by decide) (fun c5 => ?_) (fun c5 => ?_)
  · rw [ki_eq] at c5
    have hw4q := hw4 (by omega)
    clear hw4
    refine lv_aload_n hx hb dX12_write_10 rfl (lv_at hl 0 rfl) ?_
    refine va_get (D := (dC, dI)) (ci := 12) (v := .ref a21) (C := RX12) (T := TX12) (N := 42) hx hb hwd inlX12 hown hK hP 0 rfl rfl 38 (by decide) (hwd _ kr50_15) (fun _ h9 => h9) rfl dX12_write_11 ?_
    refine lv_iload_n hx hb dX12_write_14 rfl (lv_at hl 1 rfl) ?_
    have h6 : vp_in p0 4 := (vp_of (by omega) (by omega))
    refine va_iald hx hb hK hP 1 0 rfl rfl h6 dX12_write_15 ?_
    refine lv_topi (fun x7 ex7 => ?_)
    have ix7 : x7.toInt = (xF20 p0.toInt.toNat).toInt := by rw [ex7]; rfl
    have tx7 : (-1 : Int) ≤ x7.toInt ∧ x7.toInt ≤ 60 := by rw [ex7]; exact p_7 _ (vp_nat h6)
    refine lv_iconst (v := (-1)) hx hb dX12_write_16 (by decide) ?_
    refine lv_icmp_ne (tgt := 23) hx hb dX12_write_17 (by decide) (fun c8 => ?_) (fun c8 => ?_)
    · rw [ki_eq] at c8
      refine lv_iload_n hx hb dX12_write_23 rfl (lv_at hl 2 rfl) ?_
      refine lv_i2l hx hb dX12_write_24 rfl ?_
      refine lv_lconst (v := 0) hx hb dX12_write_25 (by decide) ?_
      refine lv_aload_n hx hb dX12_write_26 rfl (lv_at hl 0 rfl) ?_
      refine va_get (D := (dC, dI)) (ci := 12) (v := .ref a21) (C := RX12) (T := TX12) (N := 42) hx hb hwd inlX12 hown hK hP 0 rfl rfl 38 (by decide) (hwd _ kr50_15) (fun _ h9 => h9) rfl dX12_write_27 ?_
      refine lv_iload_n hx hb dX12_write_30 rfl (lv_at hl 1 rfl) ?_
      have h9 : vp_in p0 4 := (vp_of (by omega) (by omega))
      refine va_iald hx hb hK hP 1 0 rfl rfl h9 dX12_write_31 ?_
      refine lv_topi (nm_r (e' := x7) ex7.symm ?_)
      refine lv_iconst (v := 1) hx hb dX12_write_32 (by decide) ?_
      refine lv_isub hx hb dX12_write_33 ?_
      refine lv_topi (fun x10 ex10 => ?_)
      have tx10 := ia_sub (a := x7) (b := (1 : Int32)) (by omega) (by omega)
      rw [← ex10] at tx10
      refine lv_i2l hx hb dX12_write_34 rfl ?_
      have hPc := hP.sub (ws' := []) [] rfl
      have hDc := hD.sub (ws' := []) [] (by decide) rfl
      have hFc := va_free (wc := []) hD hS hA [] rfl
      refine va_calli (va_runS (As := [.long p1.toInt64, .long 0, .long x10.toInt64]) (rest := []) ⟨hx, hb, hml, hown, hwd⟩ (s_X12_in l dC dI cI cZ cB cJ cM cG p1.toInt64 0 x10.toInt64 H.size) (cwS 3 hwd (gS kr51_0 kr51_1 kr5_23 kr51_2) rfl rfl rfl (by decide +kernel) ⟨Nat.le_of_ble_eq_true rfl, Nat.le_of_ble_eq_true rfl⟩) (kPreS hPc hK hDc) rfl rfl hl.1 rfl (lv_room (Nat.le_of_ble_eq_true rfl)) dX12_write_35 ⟨Nat.le_of_ble_eq_true rfl, Nat.le_of_ble_eq_true rfl⟩) hS (fun q _ h => hFc q h) hFc (fun r11 u12 t H1 locs ht9 hvm hw hB hz1 hk1 hS => ?_)
      obtain ⟨hw13, hw14, hw15, -⟩ := hw
      replace hw13 : (0 : Int) ≤ r11.toInt ∧ r11.toInt ≤ 1 := hw13
      have hw14 : r11.toInt ≠ 0 → (0 : Int) ≤ p1.toInt ∧ p1.toInt ≤ x10.toInt := in_int (Int32.toInt_toInt64 _) (by decide) (Int32.toInt_toInt64 _) hw14
      have hw15 : r11.toInt ≠ 1 → p1.toInt < (0 : Int) ∨ x10.toInt < p1.toInt := in_int2 (Int32.toInt_toInt64 _) (by decide) (Int32.toInt_toInt64 _) hw15
      obtain ⟨hP1, hD1⟩ := hB
      rw [ht9] at hP1
      obtain ⟨hP, hD⟩ := va_join (wr := [(a0, .inr (12, [.int i0, .ref a1, .ref a2, .ref a3, .ref a4, .int i1, .ref a5, .int i2, .int i3, .int i4, .int i5, .int i6, .int i7, .int i8, .ref a6, .ref a7, .ref a8, .ref a9, .ref a10, .ref a11, .ref a12, .int i9, .ref a13, .int i10, .ref a14, .ref a15, .int i11, .ref a16, .ref a17, .ref a18, .ref a19, .int i12, .int i13, .int i14, .int i15, .int i16, .ref a20, .long j0, .ref a21, .ref a22, .ref a23, .ref a24])), (a21, .inl (cI, 4, .inl xF20)), (a22, .inl (cI, 4, .inl xF21)), (a23, .inl (cJ, 240, .inr (.inl xG22)))]) (w1 := []) hP hD [] [0, 1, 2, 3] rfl rfl (by decide) (by decide) hk1 hFc hP1 hD1
      generalize H1 = H at hP hS ⊢
      replace hP : va_P (dC, dI) vwCl [(a0, .inr (12, [.int i0, .ref a1, .ref a2, .ref a3, .ref a4, .int i1, .ref a5, .int i2, .int i3, .int i4, .int i5, .int i6, .int i7, .int i8, .ref a6, .ref a7, .ref a8, .ref a9, .ref a10, .ref a11, .ref a12, .int i9, .ref a13, .int i10, .ref a14, .ref a15, .int i11, .ref a16, .ref a17, .ref a18, .ref a19, .int i12, .int i13, .int i14, .int i15, .int i16, .ref a20, .long j0, .ref a21, .ref a22, .ref a23, .ref a24])), (a21, .inl (cI, 4, .inl xF20)), (a22, .inl (cI, 4, .inl xF21)), (a23, .inl (cJ, 240, .inr (.inl xG22)))] H := hP
      replace hD : va_D A [(a0, .inr (12, [.int i0, .ref a1, .ref a2, .ref a3, .ref a4, .int i1, .ref a5, .int i2, .int i3, .int i4, .int i5, .int i6, .int i7, .int i8, .ref a6, .ref a7, .ref a8, .ref a9, .ref a10, .ref a11, .ref a12, .int i9, .ref a13, .int i10, .ref a14, .ref a15, .int i11, .ref a16, .ref a17, .ref a18, .ref a19, .int i12, .int i13, .int i14, .int i15, .int i16, .ref a20, .long j0, .ref a21, .ref a22, .ref a23, .ref a24])), (a21, .inl (cI, 4, .inl xF20)), (a22, .inl (cI, 4, .inl xF21)), (a23, .inl (cJ, 240, .inr (.inl xG22)))] := hD
      refine lv_if_ne (tgt := 44) hx hb dX12_write_38 (by decide) (fun c16 => ?_) (fun c16 => ?_)
      · rw [ki_eq] at c16
        have hw14q := hw14 (by omega)
        clear hw14
        refine lv_aload_n hx hb dX12_write_44 rfl (lv_at hl 0 rfl) ?_
        refine va_get (D := (dC, dI)) (ci := 12) (v := .ref a23) (C := RX12) (T := TX12) (N := 42) hx hb hwd inlX12 hown hK hP 0 rfl rfl 40 (by decide) (hwd _ kr50_17) (fun _ h9 => h9) rfl dX12_write_45 ?_
        refine lv_bipush (v := 60) hx hb dX12_write_48 (by decide) ?_
        refine lv_iload_n hx hb dX12_write_50 rfl (lv_at hl 1 rfl) ?_
        refine lv_imul hx hb dX12_write_51 ?_
        refine lv_topi (fun x17 ex17 => ?_)
        have tx17 := ia_mull (a := (60 : Int32)) (b := p0) 60 (by decide) (by omega) (by omega)
        rw [← ex17] at tx17
        refine lv_iload_n hx hb dX12_write_52 rfl (lv_at hl 2 rfl) ?_
        refine lv_iadd hx hb dX12_write_53 ?_
        refine lv_topi (fun x18 ex18 => ?_)
        have tx18 := ia_add (a := x17) (b := p1) (by omega) (by omega)
        rw [← ex18] at tx18
        refine lv_lload_n hx hb dX12_write_54 rfl (lv_at hl 3 rfl) ?_
        refine lv_aload_n hx hb dX12_write_55 rfl (lv_at hl 0 rfl) ?_
        refine va_get (D := (dC, dI)) (ci := 12) (v := .ref a22) (C := RX12) (T := TX12) (N := 42) hx hb hwd inlX12 hown hK hP 0 rfl rfl 39 (by decide) (hwd _ kr50_16) (fun _ h9 => h9) rfl dX12_write_56 ?_
        refine lv_iload_n hx hb dX12_write_59 rfl (lv_at hl 1 rfl) ?_
        have h19 : vp_in p0 4 := (vp_of (by omega) (by omega))
        refine va_iald hx hb hK hP 2 0 rfl rfl h19 dX12_write_60 ?_
        refine lv_topi (fun x20 ex20 => ?_)
        have tx20 : (0 : Int) ≤ x20.toInt ∧ x20.toInt ≤ 3 := by rw [ex20]; exact p_9 _ (vp_nat h19)
        have hPc := hP.sub (ws' := []) [] rfl
        have hDc := hD.sub (ws' := []) [] (by decide) rfl
        have hFc := va_free (wc := []) hD hS hA [] rfl
        refine va_calll (va_runS (As := [.long y2, .int x20]) (rest := [.int x18, .ref a23]) ⟨hx, hb, hml, hown, hwd⟩ (s_X12_cut_ l dC dI cI cZ cB cJ cM cG x20 y2 H.size) (cwS 2 hwd (gS kr68_14 kr68_15 kr5_23 kr68_16) rfl rfl rfl (by decide +kernel) ⟨Nat.le_of_ble_eq_true rfl, Nat.le_of_ble_eq_true rfl⟩) (kPreS hPc hK hDc) rfl rfl hl.1 rfl (lv_room (Nat.le_of_ble_eq_true rfl)) dX12_write_61 ⟨Nat.le_of_ble_eq_true rfl, Nat.le_of_ble_eq_true rfl⟩) hS (fun q _ h => hFc q h) hFc (fun r21 u22 t H1 locs ht9 hvm hw hB hz1 hk1 hS => ?_)
        obtain ⟨hP1, hD1⟩ := hB
        rw [ht9] at hP1
        obtain ⟨hP, hD⟩ := va_join (wr := [(a0, .inr (12, [.int i0, .ref a1, .ref a2, .ref a3, .ref a4, .int i1, .ref a5, .int i2, .int i3, .int i4, .int i5, .int i6, .int i7, .int i8, .ref a6, .ref a7, .ref a8, .ref a9, .ref a10, .ref a11, .ref a12, .int i9, .ref a13, .int i10, .ref a14, .ref a15, .int i11, .ref a16, .ref a17, .ref a18, .ref a19, .int i12, .int i13, .int i14, .int i15, .int i16, .ref a20, .long j0, .ref a21, .ref a22, .ref a23, .ref a24])), (a21, .inl (cI, 4, .inl xF20)), (a22, .inl (cI, 4, .inl xF21)), (a23, .inl (cJ, 240, .inr (.inl xG22)))]) (w1 := []) hP hD [] [0, 1, 2, 3] rfl rfl (by decide) (by decide) hk1 hFc hP1 hD1
        generalize H1 = H at hP hS ⊢
        replace hP : va_P (dC, dI) vwCl [(a0, .inr (12, [.int i0, .ref a1, .ref a2, .ref a3, .ref a4, .int i1, .ref a5, .int i2, .int i3, .int i4, .int i5, .int i6, .int i7, .int i8, .ref a6, .ref a7, .ref a8, .ref a9, .ref a10, .ref a11, .ref a12, .int i9, .ref a13, .int i10, .ref a14, .ref a15, .int i11, .ref a16, .ref a17, .ref a18, .ref a19, .int i12, .int i13, .int i14, .int i15, .int i16, .ref a20, .long j0, .ref a21, .ref a22, .ref a23, .ref a24])), (a21, .inl (cI, 4, .inl xF20)), (a22, .inl (cI, 4, .inl xF21)), (a23, .inl (cJ, 240, .inr (.inl xG22)))] H := hP
        replace hD : va_D A [(a0, .inr (12, [.int i0, .ref a1, .ref a2, .ref a3, .ref a4, .int i1, .ref a5, .int i2, .int i3, .int i4, .int i5, .int i6, .int i7, .int i8, .ref a6, .ref a7, .ref a8, .ref a9, .ref a10, .ref a11, .ref a12, .int i9, .ref a13, .int i10, .ref a14, .ref a15, .int i11, .ref a16, .ref a17, .ref a18, .ref a19, .int i12, .int i13, .int i14, .int i15, .int i16, .ref a20, .long j0, .ref a21, .ref a22, .ref a23, .ref a24])), (a21, .inl (cI, 4, .inl xF20)), (a22, .inl (cI, 4, .inl xF21)), (a23, .inl (cJ, 240, .inr (.inl xG22)))] := hD
        refine va_last hx hb hK hP hD hS 3 3 rfl rfl (vp_of (by omega) (by omega)) dX12_write_64 (fun H locs hP hD hS => ?_)
        obtain ⟨f23, ef23⟩ : ∃ f, f = vp_updL xG22 x18.toNatClampNeg r21 := ⟨_, rfl⟩
        replace hP : va_P (dC, dI) vwCl [(a0, .inr (12, [.int i0, .ref a1, .ref a2, .ref a3, .ref a4, .int i1, .ref a5, .int i2, .int i3, .int i4, .int i5, .int i6, .int i7, .int i8, .ref a6, .ref a7, .ref a8, .ref a9, .ref a10, .ref a11, .ref a12, .int i9, .ref a13, .int i10, .ref a14, .ref a15, .int i11, .ref a16, .ref a17, .ref a18, .ref a19, .int i12, .int i13, .int i14, .int i15, .int i16, .ref a20, .long j0, .ref a21, .ref a22, .ref a23, .ref a24])), (a21, .inl (cI, 4, .inl xF20)), (a22, .inl (cI, 4, .inl xF21)), (a23, .inl (cJ, 240, .inr (.inl f23)))] H := by rw [ef23]; exact hP
        replace hD : va_D A [(a0, .inr (12, [.int i0, .ref a1, .ref a2, .ref a3, .ref a4, .int i1, .ref a5, .int i2, .int i3, .int i4, .int i5, .int i6, .int i7, .int i8, .ref a6, .ref a7, .ref a8, .ref a9, .ref a10, .ref a11, .ref a12, .int i9, .ref a13, .int i10, .ref a14, .ref a15, .int i11, .ref a16, .ref a17, .ref a18, .ref a19, .int i12, .int i13, .int i14, .int i15, .int i16, .ref a20, .long j0, .ref a21, .ref a22, .ref a23, .ref a24])), (a21, .inl (cI, 4, .inl xF20)), (a22, .inl (cI, 4, .inl xF21)), (a23, .inl (cJ, 240, .inr (.inl f23)))] := by rw [ef23]; exact hD
        refine lv_iconst (v := 0) hx hb dX12_write_65 (by decide) ?_
        have hP9 := hP.sub (ws' := [(a0, .inr (12, [.int i0, .ref a1, .ref a2, .ref a3, .ref a4, .int i1, .ref a5, .int i2, .int i3, .int i4, .int i5, .int i6, .int i7, .int i8, .ref a6, .ref a7, .ref a8, .ref a9, .ref a10, .ref a11, .ref a12, .int i9, .ref a13, .int i10, .ref a14, .ref a15, .int i11, .ref a16, .ref a17, .ref a18, .ref a19, .int i12, .int i13, .int i14, .int i15, .int i16, .ref a20, .long j0, .ref a21, .ref a22, .ref a23, .ref a24])), (a21, .inl (cI, 4, .inl xF20)), (a22, .inl (cI, 4, .inl xF21)), (a23, .inl (cJ, 240, .inr (.inl f23)))]) [0, 1, 2, 3] rfl
        have hD9 := hD.sub (ws' := [(a0, .inr (12, [.int i0, .ref a1, .ref a2, .ref a3, .ref a4, .int i1, .ref a5, .int i2, .int i3, .int i4, .int i5, .int i6, .int i7, .int i8, .ref a6, .ref a7, .ref a8, .ref a9, .ref a10, .ref a11, .ref a12, .int i9, .ref a13, .int i10, .ref a14, .ref a15, .int i11, .ref a16, .ref a17, .ref a18, .ref a19, .int i12, .int i13, .int i14, .int i15, .int i16, .ref a20, .long j0, .ref a21, .ref a22, .ref a23, .ref a24])), (a21, .inl (cI, 4, .inl xF20)), (a22, .inl (cI, 4, .inl xF21)), (a23, .inl (cJ, 240, .inr (.inl f23)))]) [0, 1, 2, 3] (by decide) rfl
        rw [hQ]
        exact W.iret (v := 0) hx hb hr (fun t ht hW => ⟨⟨0, (pickG 0 [], pickG (fun _ => 0) [], pickG (fun _ => 0) [f23]), rfl, ⟨(show (-7 : Int) ≤ (0 : Int32).toInt ∧ (0 : Int32).toInt ≤ 0 from ⟨by omega, by omega⟩), trivial⟩, (by rw [ht]; exact hP9), hD9⟩, hS.F ht⟩) hS.2.2 dX12_write_66
      · rw [ki_eq] at c16
        have hw15q := hw15 (by omega)
        clear hw15
        refine lv_bipush (v := (-7)) hx hb dX12_write_41 (by decide) ?_
        have hP9 := hP.sub (ws' := [(a0, .inr (12, [.int i0, .ref a1, .ref a2, .ref a3, .ref a4, .int i1, .ref a5, .int i2, .int i3, .int i4, .int i5, .int i6, .int i7, .int i8, .ref a6, .ref a7, .ref a8, .ref a9, .ref a10, .ref a11, .ref a12, .int i9, .ref a13, .int i10, .ref a14, .ref a15, .int i11, .ref a16, .ref a17, .ref a18, .ref a19, .int i12, .int i13, .int i14, .int i15, .int i16, .ref a20, .long j0, .ref a21, .ref a22, .ref a23, .ref a24])), (a21, .inl (cI, 4, .inl xF20)), (a22, .inl (cI, 4, .inl xF21)), (a23, .inl (cJ, 240, .inr (.inl xG22)))]) [0, 1, 2, 3] rfl
        have hD9 := hD.sub (ws' := [(a0, .inr (12, [.int i0, .ref a1, .ref a2, .ref a3, .ref a4, .int i1, .ref a5, .int i2, .int i3, .int i4, .int i5, .int i6, .int i7, .int i8, .ref a6, .ref a7, .ref a8, .ref a9, .ref a10, .ref a11, .ref a12, .int i9, .ref a13, .int i10, .ref a14, .ref a15, .int i11, .ref a16, .ref a17, .ref a18, .ref a19, .int i12, .int i13, .int i14, .int i15, .int i16, .ref a20, .long j0, .ref a21, .ref a22, .ref a23, .ref a24])), (a21, .inl (cI, 4, .inl xF20)), (a22, .inl (cI, 4, .inl xF21)), (a23, .inl (cJ, 240, .inr (.inl xG22)))]) [0, 1, 2, 3] (by decide) rfl
        rw [hQ]
        exact W.iret (v := (-7)) hx hb hr (fun t ht hW => ⟨⟨(-7), (pickG 0 [], pickG (fun _ => 0) [], pickG (fun _ => 0) [xG22]), rfl, ⟨(show (-7 : Int) ≤ ((-7) : Int32).toInt ∧ ((-7) : Int32).toInt ≤ 0 from ⟨by omega, by omega⟩), trivial⟩, (by rw [ht]; exact hP9), hD9⟩, hS.F ht⟩) hS.2.2 dX12_write_43
    · rw [ki_eq] at c8
      refine lv_bipush (v := (-6)) hx hb dX12_write_20 (by decide) ?_
      have hP9 := hP.sub (ws' := [(a0, .inr (12, [.int i0, .ref a1, .ref a2, .ref a3, .ref a4, .int i1, .ref a5, .int i2, .int i3, .int i4, .int i5, .int i6, .int i7, .int i8, .ref a6, .ref a7, .ref a8, .ref a9, .ref a10, .ref a11, .ref a12, .int i9, .ref a13, .int i10, .ref a14, .ref a15, .int i11, .ref a16, .ref a17, .ref a18, .ref a19, .int i12, .int i13, .int i14, .int i15, .int i16, .ref a20, .long j0, .ref a21, .ref a22, .ref a23, .ref a24])), (a21, .inl (cI, 4, .inl xF20)), (a22, .inl (cI, 4, .inl xF21)), (a23, .inl (cJ, 240, .inr (.inl xG22)))]) [0, 1, 2, 3] rfl
      have hD9 := hD.sub (ws' := [(a0, .inr (12, [.int i0, .ref a1, .ref a2, .ref a3, .ref a4, .int i1, .ref a5, .int i2, .int i3, .int i4, .int i5, .int i6, .int i7, .int i8, .ref a6, .ref a7, .ref a8, .ref a9, .ref a10, .ref a11, .ref a12, .int i9, .ref a13, .int i10, .ref a14, .ref a15, .int i11, .ref a16, .ref a17, .ref a18, .ref a19, .int i12, .int i13, .int i14, .int i15, .int i16, .ref a20, .long j0, .ref a21, .ref a22, .ref a23, .ref a24])), (a21, .inl (cI, 4, .inl xF20)), (a22, .inl (cI, 4, .inl xF21)), (a23, .inl (cJ, 240, .inr (.inl xG22)))]) [0, 1, 2, 3] (by decide) rfl
      rw [hQ]
      exact W.iret (v := (-6)) hx hb hr (fun t ht hW => ⟨⟨(-6), (pickG 0 [], pickG (fun _ => 0) [], pickG (fun _ => 0) [xG22]), rfl, ⟨(show (-7 : Int) ≤ ((-6) : Int32).toInt ∧ ((-6) : Int32).toInt ≤ 0 from ⟨by omega, by omega⟩), trivial⟩, (by rw [ht]; exact hP9), hD9⟩, hS.F ht⟩) hS.2.2 dX12_write_22
  · rw [ki_eq] at c5
    refine lv_bipush (v := (-2)) hx hb dX12_write_7 (by decide) ?_
    have hP9 := hP.sub (ws' := [(a0, .inr (12, [.int i0, .ref a1, .ref a2, .ref a3, .ref a4, .int i1, .ref a5, .int i2, .int i3, .int i4, .int i5, .int i6, .int i7, .int i8, .ref a6, .ref a7, .ref a8, .ref a9, .ref a10, .ref a11, .ref a12, .int i9, .ref a13, .int i10, .ref a14, .ref a15, .int i11, .ref a16, .ref a17, .ref a18, .ref a19, .int i12, .int i13, .int i14, .int i15, .int i16, .ref a20, .long j0, .ref a21, .ref a22, .ref a23, .ref a24])), (a21, .inl (cI, 4, .inl xF20)), (a22, .inl (cI, 4, .inl xF21)), (a23, .inl (cJ, 240, .inr (.inl xG22)))]) [0, 1, 2, 3] rfl
    have hD9 := hD.sub (ws' := [(a0, .inr (12, [.int i0, .ref a1, .ref a2, .ref a3, .ref a4, .int i1, .ref a5, .int i2, .int i3, .int i4, .int i5, .int i6, .int i7, .int i8, .ref a6, .ref a7, .ref a8, .ref a9, .ref a10, .ref a11, .ref a12, .int i9, .ref a13, .int i10, .ref a14, .ref a15, .int i11, .ref a16, .ref a17, .ref a18, .ref a19, .int i12, .int i13, .int i14, .int i15, .int i16, .ref a20, .long j0, .ref a21, .ref a22, .ref a23, .ref a24])), (a21, .inl (cI, 4, .inl xF20)), (a22, .inl (cI, 4, .inl xF21)), (a23, .inl (cJ, 240, .inr (.inl xG22)))]) [0, 1, 2, 3] (by decide) rfl
    rw [hQ]
    exact W.iret (v := (-2)) hx hb hr (fun t ht hW => ⟨⟨(-2), (pickG 0 [], pickG (fun _ => 0) [], pickG (fun _ => 0) [xG22]), rfl, ⟨(show (-7 : Int) ≤ ((-2) : Int32).toInt ∧ ((-2) : Int32).toInt ≤ 0 from ⟨by omega, by omega⟩), trivial⟩, (by rw [ht]; exact hP9), hD9⟩, hS.F ht⟩) hS.2.2 dX12_write_9
theorem dX12_paste_0 : decode cX12_paste 0 = .ok (.iload_n 1, 1) := by decide +kernel
theorem dX12_paste_1 : decode cX12_paste 1 = .ok (.invokestatic 414, 3) := by decide +kernel
theorem dX12_paste_4 : decode cX12_paste 4 = .ok (.ifCond .eq 10, 3) := by decide +kernel
theorem dX12_paste_7 : decode cX12_paste 7 = .ok (.iload_n 3, 1) := by decide +kernel
theorem dX12_paste_8 : decode cX12_paste 8 = .ok (.invokestatic 414, 3) := by decide +kernel
theorem dX12_paste_11 : decode cX12_paste 11 = .ok (.ifCond .ne 6, 3) := by decide +kernel
theorem dX12_paste_14 : decode cX12_paste 14 = .ok (.bipush (-2), 2) := by decide +kernel
theorem dX12_paste_16 : decode cX12_paste 16 = .ok (.ireturn, 1) := by decide +kernel
theorem dX12_paste_17 : decode cX12_paste 17 = .ok (.aload_n 0, 1) := by decide +kernel
theorem dX12_paste_18 : decode cX12_paste 18 = .ok (.getfield 79, 3) := by decide +kernel
theorem dX12_paste_21 : decode cX12_paste 21 = .ok (.iload_n 1, 1) := by decide +kernel
theorem dX12_paste_22 : decode cX12_paste 22 = .ok (.iaload, 1) := by decide +kernel
theorem dX12_paste_23 : decode cX12_paste 23 = .ok (.iconst (-1), 1) := by decide +kernel
theorem dX12_paste_24 : decode cX12_paste 24 = .ok (.if_icmp .eq 13, 3) := by decide +kernel
theorem dX12_paste_27 : decode cX12_paste 27 = .ok (.aload_n 0, 1) := by decide +kernel
theorem dX12_paste_28 : decode cX12_paste 28 = .ok (.getfield 79, 3) := by decide +kernel
theorem dX12_paste_31 : decode cX12_paste 31 = .ok (.iload_n 3, 1) := by decide +kernel
theorem dX12_paste_32 : decode cX12_paste 32 = .ok (.iaload, 1) := by decide +kernel
theorem dX12_paste_33 : decode cX12_paste 33 = .ok (.iconst (-1), 1) := by decide +kernel
theorem dX12_paste_34 : decode cX12_paste 34 = .ok (.if_icmp .ne 6, 3) := by decide +kernel
theorem dX12_paste_37 : decode cX12_paste 37 = .ok (.bipush (-6), 2) := by decide +kernel
theorem dX12_paste_39 : decode cX12_paste 39 = .ok (.ireturn, 1) := by decide +kernel
theorem dX12_paste_40 : decode cX12_paste 40 = .ok (.aload_n 0, 1) := by decide +kernel
theorem dX12_paste_41 : decode cX12_paste 41 = .ok (.getfield 82, 3) := by decide +kernel
theorem dX12_paste_44 : decode cX12_paste 44 = .ok (.iload_n 1, 1) := by decide +kernel
theorem dX12_paste_45 : decode cX12_paste 45 = .ok (.iaload, 1) := by decide +kernel
theorem dX12_paste_46 : decode cX12_paste 46 = .ok (.aload_n 0, 1) := by decide +kernel
theorem dX12_paste_47 : decode cX12_paste 47 = .ok (.getfield 82, 3) := by decide +kernel
theorem dX12_paste_50 : decode cX12_paste 50 = .ok (.iload_n 3, 1) := by decide +kernel
theorem dX12_paste_51 : decode cX12_paste 51 = .ok (.iaload, 1) := by decide +kernel
theorem dX12_paste_52 : decode cX12_paste 52 = .ok (.if_icmp .eq 6, 3) := by decide +kernel
theorem dX12_paste_55 : decode cX12_paste 55 = .ok (.bipush (-8), 2) := by decide +kernel
theorem dX12_paste_57 : decode cX12_paste 57 = .ok (.ireturn, 1) := by decide +kernel
theorem dX12_paste_58 : decode cX12_paste 58 = .ok (.iload_n 2, 1) := by decide +kernel
theorem dX12_paste_59 : decode cX12_paste 59 = .ok (.ifCond .lt 48, 3) := by decide +kernel
theorem dX12_paste_62 : decode cX12_paste 62 = .ok (.iload 4, 2) := by decide +kernel
theorem dX12_paste_64 : decode cX12_paste 64 = .ok (.ifCond .lt 43, 3) := by decide +kernel
theorem dX12_paste_67 : decode cX12_paste 67 = .ok (.iload 5, 2) := by decide +kernel
theorem dX12_paste_69 : decode cX12_paste 69 = .ok (.ifCond .lt 38, 3) := by decide +kernel
theorem dX12_paste_72 : decode cX12_paste 72 = .ok (.iload_n 2, 1) := by decide +kernel
theorem dX12_paste_73 : decode cX12_paste 73 = .ok (.i2l, 1) := by decide +kernel
theorem dX12_paste_74 : decode cX12_paste 74 = .ok (.iload 5, 2) := by decide +kernel
theorem dX12_paste_76 : decode cX12_paste 76 = .ok (.i2l, 1) := by decide +kernel
theorem dX12_paste_77 : decode cX12_paste 77 = .ok (.ladd, 1) := by decide +kernel
theorem dX12_paste_78 : decode cX12_paste 78 = .ok (.aload_n 0, 1) := by decide +kernel
theorem dX12_paste_79 : decode cX12_paste 79 = .ok (.getfield 79, 3) := by decide +kernel
theorem dX12_paste_82 : decode cX12_paste 82 = .ok (.iload_n 1, 1) := by decide +kernel
theorem dX12_paste_83 : decode cX12_paste 83 = .ok (.iaload, 1) := by decide +kernel
theorem dX12_paste_84 : decode cX12_paste 84 = .ok (.i2l, 1) := by decide +kernel
theorem dX12_paste_85 : decode cX12_paste 85 = .ok (.lcmp, 1) := by decide +kernel
theorem dX12_paste_86 : decode cX12_paste 86 = .ok (.ifCond .gt 21, 3) := by decide +kernel
theorem dX12_paste_89 : decode cX12_paste 89 = .ok (.iload 4, 2) := by decide +kernel
theorem dX12_paste_91 : decode cX12_paste 91 = .ok (.i2l, 1) := by decide +kernel
theorem dX12_paste_92 : decode cX12_paste 92 = .ok (.iload 5, 2) := by decide +kernel
theorem dX12_paste_94 : decode cX12_paste 94 = .ok (.i2l, 1) := by decide +kernel
theorem dX12_paste_95 : decode cX12_paste 95 = .ok (.ladd, 1) := by decide +kernel
theorem dX12_paste_96 : decode cX12_paste 96 = .ok (.aload_n 0, 1) := by decide +kernel
theorem dX12_paste_97 : decode cX12_paste 97 = .ok (.getfield 79, 3) := by decide +kernel
theorem dX12_paste_100 : decode cX12_paste 100 = .ok (.iload_n 3, 1) := by decide +kernel
theorem dX12_paste_101 : decode cX12_paste 101 = .ok (.iaload, 1) := by decide +kernel
theorem dX12_paste_102 : decode cX12_paste 102 = .ok (.i2l, 1) := by decide +kernel
theorem dX12_paste_103 : decode cX12_paste 103 = .ok (.lcmp, 1) := by decide +kernel
theorem dX12_paste_104 : decode cX12_paste 104 = .ok (.ifCond .le 6, 3) := by decide +kernel
theorem dX12_paste_107 : decode cX12_paste 107 = .ok (.bipush (-7), 2) := by decide +kernel
theorem dX12_paste_109 : decode cX12_paste 109 = .ok (.ireturn, 1) := by decide +kernel
theorem dX12_paste_110 : decode cX12_paste 110 = .ok (.iconst 0, 1) := by decide +kernel
theorem dX12_paste_111 : decode cX12_paste 111 = .ok (.istore 6, 2) := by decide +kernel
theorem dX12_paste_113 : decode cX12_paste 113 = .ok (.iload 6, 2) := by decide +kernel
theorem dX12_paste_115 : decode cX12_paste 115 = .ok (.iload 5, 2) := by decide +kernel
theorem dX12_paste_117 : decode cX12_paste 117 = .ok (.if_icmp .ge 30, 3) := by decide +kernel
theorem dX12_paste_120 : decode cX12_paste 120 = .ok (.aload_n 0, 1) := by decide +kernel
theorem dX12_paste_121 : decode cX12_paste 121 = .ok (.getfield 89, 3) := by decide +kernel
theorem dX12_paste_124 : decode cX12_paste 124 = .ok (.iload 6, 2) := by decide +kernel
theorem dX12_paste_126 : decode cX12_paste 126 = .ok (.aload_n 0, 1) := by decide +kernel
theorem dX12_paste_127 : decode cX12_paste 127 = .ok (.getfield 85, 3) := by decide +kernel
theorem dX12_paste_130 : decode cX12_paste 130 = .ok (.bipush 60, 2) := by decide +kernel
theorem dX12_paste_132 : decode cX12_paste 132 = .ok (.iload_n 1, 1) := by decide +kernel
theorem dX12_paste_133 : decode cX12_paste 133 = .ok (.imul, 1) := by decide +kernel
theorem dX12_paste_134 : decode cX12_paste 134 = .ok (.iload_n 2, 1) := by decide +kernel
theorem dX12_paste_135 : decode cX12_paste 135 = .ok (.iadd, 1) := by decide +kernel
theorem dX12_paste_136 : decode cX12_paste 136 = .ok (.iload 6, 2) := by decide +kernel
theorem dX12_paste_138 : decode cX12_paste 138 = .ok (.iadd, 1) := by decide +kernel
theorem dX12_paste_139 : decode cX12_paste 139 = .ok (.laload, 1) := by decide +kernel
theorem dX12_paste_140 : decode cX12_paste 140 = .ok (.lastore, 1) := by decide +kernel
theorem dX12_paste_141 : decode cX12_paste 141 = .ok (.iinc 6 1, 3) := by decide +kernel
theorem dX12_paste_144 : decode cX12_paste 144 = .ok (.goto (-31), 3) := by decide +kernel
theorem dX12_paste_147 : decode cX12_paste 147 = .ok (.iconst 0, 1) := by decide +kernel
theorem dX12_paste_148 : decode cX12_paste 148 = .ok (.istore 6, 2) := by decide +kernel
theorem dX12_paste_150 : decode cX12_paste 150 = .ok (.iload 6, 2) := by decide +kernel
theorem dX12_paste_152 : decode cX12_paste 152 = .ok (.iload 5, 2) := by decide +kernel
theorem dX12_paste_154 : decode cX12_paste 154 = .ok (.if_icmp .ge 31, 3) := by decide +kernel
theorem dX12_paste_157 : decode cX12_paste 157 = .ok (.aload_n 0, 1) := by decide +kernel
theorem dX12_paste_158 : decode cX12_paste 158 = .ok (.getfield 85, 3) := by decide +kernel
theorem dX12_paste_161 : decode cX12_paste 161 = .ok (.bipush 60, 2) := by decide +kernel
theorem dX12_paste_163 : decode cX12_paste 163 = .ok (.iload_n 3, 1) := by decide +kernel
theorem dX12_paste_164 : decode cX12_paste 164 = .ok (.imul, 1) := by decide +kernel
theorem dX12_paste_165 : decode cX12_paste 165 = .ok (.iload 4, 2) := by decide +kernel
theorem dX12_paste_167 : decode cX12_paste 167 = .ok (.iadd, 1) := by decide +kernel
theorem dX12_paste_168 : decode cX12_paste 168 = .ok (.iload 6, 2) := by decide +kernel
theorem dX12_paste_170 : decode cX12_paste 170 = .ok (.iadd, 1) := by decide +kernel
theorem dX12_paste_171 : decode cX12_paste 171 = .ok (.aload_n 0, 1) := by decide +kernel
theorem dX12_paste_172 : decode cX12_paste 172 = .ok (.getfield 89, 3) := by decide +kernel
theorem dX12_paste_175 : decode cX12_paste 175 = .ok (.iload 6, 2) := by decide +kernel
theorem dX12_paste_177 : decode cX12_paste 177 = .ok (.laload, 1) := by decide +kernel
theorem dX12_paste_178 : decode cX12_paste 178 = .ok (.lastore, 1) := by decide +kernel
theorem dX12_paste_179 : decode cX12_paste 179 = .ok (.iinc 6 1, 3) := by decide +kernel
theorem dX12_paste_182 : decode cX12_paste 182 = .ok (.goto (-32), 3) := by decide +kernel
theorem dX12_paste_185 : decode cX12_paste 185 = .ok (.iconst 0, 1) := by decide +kernel
theorem dX12_paste_186 : decode cX12_paste 186 = .ok (.ireturn, 1) := by decide +kernel
set_option maxHeartbeats 4000000 in
set_option maxRecDepth 100000 in
theorem s_X12_paste (l : Launch) (dC : Nat → ClassId) (dI : Nat → Nat → Nat) (cI cZ cB cJ cM cG : ClassId) (a0 a1 a2 a3 a4 a5 a6 a7 a8 a9 a10 a11 a12 a13 a14 a15 a16 a17 a18 a19 a20 a21 a22 a23 a24 : Nat) (i0 i1 i2 i3 i4 i5 i6 i7 i8 i9 i10 i11 i12 i13 i14 i15 i16 : Int32) (j0 : Int64) (xF20 xF21 : Nat → Int32) (xG22 xG23 : Nat → Int64) (p0 p1 p2 p3 p4 : Int32) (sz : Nat) (p_0 : (0 : Int) ≤ i1.toInt ∧ i1.toInt ≤ 1600) (p_1 : (0 : Int) ≤ i2.toInt ∧ i2.toInt ≤ 1600) (p_2 : (0 : Int) ≤ i3.toInt ∧ i3.toInt ≤ 1600) (p_3 : (0 : Int) ≤ i4.toInt ∧ i4.toInt ≤ 1600) (p_4 : (0 : Int) ≤ i5.toInt ∧ i5.toInt ≤ 6) (p_5 : (0 : Int) ≤ i7.toInt ∧ i7.toInt ≤ 3) (p_6 : (0 : Int) ≤ i11.toInt ∧ i11.toInt ≤ 59) (p_7 : rng xF20 4 (-1) 60) (p_8 : MI xF20) (p_9 : rng xF21 4 0 3) : Met l yX12_paste (kw yX12_paste cX12_paste 7 (some .int)) ({ frames := 2, cells := 0, slots := 0, locals := 45 } : Room) (va_Pc [.ref a0, .int p0, .int p1, .int p2, .int p3, .int p4] (kPre dC dI [(cI, .int), (cZ, .boolean), (cB, .byte), (cJ, .long), (cM, .object RX2), (cG, .array .int)] [(a0, .inr (12, [.int i0, .ref a1, .ref a2, .ref a3, .ref a4, .int i1, .ref a5, .int i2, .int i3, .int i4, .int i5, .int i6, .int i7, .int i8, .ref a6, .ref a7, .ref a8, .ref a9, .ref a10, .ref a11, .ref a12, .int i9, .ref a13, .int i10, .ref a14, .ref a15, .int i11, .ref a16, .ref a17, .ref a18, .ref a19, .int i12, .int i13, .int i14, .int i15, .int i16, .ref a20, .long j0, .ref a21, .ref a22, .ref a23, .ref a24])), (a21, .inl (cI, 4, .inl xF20)), (a22, .inl (cI, 4, .inl xF21)), (a23, .inl (cJ, 240, .inr (.inl xG22))), (a24, .inl (cJ, 60, .inr (.inl xG23)))] sz)) (va_Qi (fun (r : Int32) (u9 : (Nat → Int32) × (Nat → Nat → Int32) × (Nat → Nat → Int64)) => ((-8 : Int) ≤ r.toInt ∧ r.toInt ≤ 0) ∧ True) (fun u9 t => va_P (dC, dI) vwCl [(a0, .inr (12, [.int i0, .ref a1, .ref a2, .ref a3, .ref a4, .int i1, .ref a5, .int i2, .int i3, .int i4, .int i5, .int i6, .int i7, .int i8, .ref a6, .ref a7, .ref a8, .ref a9, .ref a10, .ref a11, .ref a12, .int i9, .ref a13, .int i10, .ref a14, .ref a15, .int i11, .ref a16, .ref a17, .ref a18, .ref a19, .int i12, .int i13, .int i14, .int i15, .int i16, .ref a20, .long j0, .ref a21, .ref a22, .ref a23, .ref a24])), (a21, .inl (cI, 4, .inl xF20)), (a22, .inl (cI, 4, .inl xF21)), (a23, .inl (cJ, 240, .inr (.inl (u9.2.2 0)))), (a24, .inl (cJ, 60, .inr (.inl (u9.2.2 1))))] t.heap ∧ va_D (va_A [(a0, .inr (12, [.int i0, .ref a1, .ref a2, .ref a3, .ref a4, .int i1, .ref a5, .int i2, .int i3, .int i4, .int i5, .int i6, .int i7, .int i8, .ref a6, .ref a7, .ref a8, .ref a9, .ref a10, .ref a11, .ref a12, .int i9, .ref a13, .int i10, .ref a14, .ref a15, .int i11, .ref a16, .ref a17, .ref a18, .ref a19, .int i12, .int i13, .int i14, .int i15, .int i16, .ref a20, .long j0, .ref a21, .ref a22, .ref a23, .ref a24])), (a21, .inl (cI, 4, .inl xF20)), (a22, .inl (cI, 4, .inl xF21)), (a23, .inl (cJ, 240, .inr (.inl xG22))), (a24, .inl (cJ, 60, .inr (.inl xG23)))] sz) [(a0, .inr (12, [.int i0, .ref a1, .ref a2, .ref a3, .ref a4, .int i1, .ref a5, .int i2, .int i3, .int i4, .int i5, .int i6, .int i7, .int i8, .ref a6, .ref a7, .ref a8, .ref a9, .ref a10, .ref a11, .ref a12, .int i9, .ref a13, .int i10, .ref a14, .ref a15, .int i11, .ref a16, .ref a17, .ref a18, .ref a19, .int i12, .int i13, .int i14, .int i15, .int i16, .ref a20, .long j0, .ref a21, .ref a22, .ref a23, .ref a24])), (a21, .inl (cI, 4, .inl xF20)), (a22, .inl (cI, 4, .inl xF21)), (a23, .inl (cJ, 240, .inr (.inl (u9.2.2 0)))), (a24, .inl (cJ, 60, .inr (.inl (u9.2.2 1))))]) (va_A [(a0, .inr (12, [.int i0, .ref a1, .ref a2, .ref a3, .ref a4, .int i1, .ref a5, .int i2, .int i3, .int i4, .int i5, .int i6, .int i7, .int i8, .ref a6, .ref a7, .ref a8, .ref a9, .ref a10, .ref a11, .ref a12, .int i9, .ref a13, .int i10, .ref a14, .ref a15, .int i11, .ref a16, .ref a17, .ref a18, .ref a19, .int i12, .int i13, .int i14, .int i15, .int i16, .ref a20, .long j0, .ref a21, .ref a22, .ref a23, .ref a24])), (a21, .inl (cI, 4, .inl xF20)), (a22, .inl (cI, 4, .inl xF21)), (a23, .inl (cJ, 240, .inr (.inl xG22))), (a24, .inl (cJ, 60, .inr (.inl xG23)))] sz)) 0 0 (va_A [(a0, .inr (12, [.int i0, .ref a1, .ref a2, .ref a3, .ref a4, .int i1, .ref a5, .int i2, .int i3, .int i4, .int i5, .int i6, .int i7, .int i8, .ref a6, .ref a7, .ref a8, .ref a9, .ref a10, .ref a11, .ref a12, .int i9, .ref a13, .int i10, .ref a14, .ref a15, .int i11, .ref a16, .ref a17, .ref a18, .ref a19, .int i12, .int i13, .int i14, .int i15, .int i16, .ref a20, .long j0, .ref a21, .ref a22, .ref a23, .ref a24])), (a21, .inl (cI, 4, .inl xF20)), (a22, .inl (cI, 4, .inl xF21)), (a23, .inl (cJ, 240, .inr (.inl xG22))), (a24, .inl (cJ, 60, .inr (.inl xG23)))] sz) := by
  refine kEnter (by decide) (Nat.le_of_ble_eq_true rfl) ?_
  intro p e s m below meth c ls hx hb hr hml hown hlocks hin hwd hsz hP hK hD hl
  subst hsz
  generalize hAe : va_A [(a0, .inr (12, [.int i0, .ref a1, .ref a2, .ref a3, .ref a4, .int i1, .ref a5, .int i2, .int i3, .int i4, .int i5, .int i6, .int i7, .int i8, .ref a6, .ref a7, .ref a8, .ref a9, .ref a10, .ref a11, .ref a12, .int i9, .ref a13, .int i10, .ref a14, .ref a15, .int i11, .ref a16, .ref a17, .ref a18, .ref a19, .int i12, .int i13, .int i14, .int i15, .int i16, .ref a20, .long j0, .ref a21, .ref a22, .ref a23, .ref a24])), (a21, .inl (cI, 4, .inl xF20)), (a22, .inl (cI, 4, .inl xF21)), (a23, .inl (cJ, 240, .inr (.inl xG22))), (a24, .inl (cJ, 60, .inr (.inl xG23)))] s.heap.size = A at hD ⊢
  have hA : ∀ q : Nat, s.heap.size ≤ q → A q := fun q h => by rw [← hAe]; exact Or.inr h
  have hS : va_S A s.heap s.heap [] := va_S.rf
  have hl : lv_has ls 7 [(0, .ref a0), (1, .int p0), (2, .int p1), (3, .int p2), (4, .int p3), (5, .int p4)] := hl
  obtain ⟨Q, hQ⟩ : ∃ Q, Q = MQ below (va_Qi (fun (r : Int32) (u9 : (Nat → Int32) × (Nat → Nat → Int32) × (Nat → Nat → Int64)) => ((-8 : Int) ≤ r.toInt ∧ r.toInt ≤ 0) ∧ True) (fun u9 t => va_P (dC, dI) vwCl [(a0, .inr (12, [.int i0, .ref a1, .ref a2, .ref a3, .ref a4, .int i1, .ref a5, .int i2, .int i3, .int i4, .int i5, .int i6, .int i7, .int i8, .ref a6, .ref a7, .ref a8, .ref a9, .ref a10, .ref a11, .ref a12, .int i9, .ref a13, .int i10, .ref a14, .ref a15, .int i11, .ref a16, .ref a17, .ref a18, .ref a19, .int i12, .int i13, .int i14, .int i15, .int i16, .ref a20, .long j0, .ref a21, .ref a22, .ref a23, .ref a24])), (a21, .inl (cI, 4, .inl xF20)), (a22, .inl (cI, 4, .inl xF21)), (a23, .inl (cJ, 240, .inr (.inl (u9.2.2 0)))), (a24, .inl (cJ, 60, .inr (.inl (u9.2.2 1))))] t.heap ∧ va_D A [(a0, .inr (12, [.int i0, .ref a1, .ref a2, .ref a3, .ref a4, .int i1, .ref a5, .int i2, .int i3, .int i4, .int i5, .int i6, .int i7, .int i8, .ref a6, .ref a7, .ref a8, .ref a9, .ref a10, .ref a11, .ref a12, .int i9, .ref a13, .int i10, .ref a14, .ref a15, .int i11, .ref a16, .ref a17, .ref a18, .ref a19, .int i12, .int i13, .int i14, .int i15, .int i16, .ref a20, .long j0, .ref a21, .ref a22, .ref a23, .ref a24])), (a21, .inl (cI, 4, .inl xF20)), (a22, .inl (cI, 4, .inl xF21)), (a23, .inl (cJ, 240, .inr (.inl (u9.2.2 0)))), (a24, .inl (cJ, 60, .inr (.inl (u9.2.2 1))))]) A) ([.ref a0, .int p0, .int p1, .int p2, .int p3, .int p4] : List Value).toArray s 0 0 A := ⟨_, rfl⟩
  rw [← hQ]
  have km8 : ((-8) : Int32).toInt = -8 := by decide
  have km7 : ((-7) : Int32).toInt = -7 := by decide
  have km6 : ((-6) : Int32).toInt = -6 := by decide
  have km2 : ((-2) : Int32).toInt = -2 := by decide
  have km1 : ((-1) : Int32).toInt = -1 := by decide
  have k0 : (0 : Int32).toInt = 0 := by decide
  have k1 : (1 : Int32).toInt = 1 := by decide
  have k3 : (3 : Int32).toInt = 3 := by decide
  have k60 : (60 : Int32).toInt = 60 := by decide
  refine lv_iload_n hx hb dX12_paste_0 rfl (lv_at hl 1 rfl) ?_
  have hPc := hP.sub (ws' := []) [] rfl
  have hDc := hD.sub (ws' := []) [] (by decide) rfl
  have hFc := va_free (wc := []) hD hS hA [] rfl
  refine va_calli (va_runS (As := [.int p0]) (rest := []) ⟨hx, hb, hml, hown, hwd⟩ (s_X12_isSlot l dC dI cI cZ cB cJ cM cG p0 s.heap.size) (cwS 1 hwd (gS kr65_0 kr65_1 kr5_23 kr65_2) rfl rfl rfl (by decide +kernel) ⟨Nat.le_of_ble_eq_true rfl, Nat.le_of_ble_eq_true rfl⟩) (kPreS hPc hK hDc) rfl rfl hl.1 rfl (lv_room (Nat.le_of_ble_eq_true rfl)) dX12_paste_1 ⟨Nat.le_of_ble_eq_true rfl, Nat.le_of_ble_eq_true rfl⟩) hS (fun q _ h => hFc q h) hFc (fun r1 u2 t H1 locs ht9 hvm hw hB hz1 hk1 hS => ?_)
  obtain ⟨hw3, hw4, -⟩ := hw
  replace hw3 : (0 : Int) ≤ r1.toInt ∧ r1.toInt ≤ 1 := hw3
  obtain ⟨hP1, hD1⟩ := hB
  rw [ht9] at hP1
  obtain ⟨hP, hD⟩ := va_join (wr := [(a0, .inr (12, [.int i0, .ref a1, .ref a2, .ref a3, .ref a4, .int i1, .ref a5, .int i2, .int i3, .int i4, .int i5, .int i6, .int i7, .int i8, .ref a6, .ref a7, .ref a8, .ref a9, .ref a10, .ref a11, .ref a12, .int i9, .ref a13, .int i10, .ref a14, .ref a15, .int i11, .ref a16, .ref a17, .ref a18, .ref a19, .int i12, .int i13, .int i14, .int i15, .int i16, .ref a20, .long j0, .ref a21, .ref a22, .ref a23, .ref a24])), (a21, .inl (cI, 4, .inl xF20)), (a22, .inl (cI, 4, .inl xF21)), (a23, .inl (cJ, 240, .inr (.inl xG22))), (a24, .inl (cJ, 60, .inr (.inl xG23)))]) (w1 := []) hP hD [] [0, 1, 2, 3, 4] rfl rfl (by decide) (by decide) hk1 hFc hP1 hD1
  generalize H1 = H at hP hS ⊢
  replace hP : va_P (dC, dI) vwCl [(a0, .inr (12, [.int i0, .ref a1, .ref a2, .ref a3, .ref a4, .int i1, .ref a5, .int i2, .int i3, .int i4, .int i5, .int i6, .int i7, .int i8, .ref a6, .ref a7, .ref a8, .ref a9, .ref a10, .ref a11, .ref a12, .int i9, .ref a13, .int i10, .ref a14, .ref a15, .int i11, .ref a16, .ref a17, .ref a18, .ref a19, .int i12, .int i13, .int i14, .int i15, .int i16, .ref a20, .long j0, .ref a21, .ref a22, .ref a23, .ref a24])), (a21, .inl (cI, 4, .inl xF20)), (a22, .inl (cI, 4, .inl xF21)), (a23, .inl (cJ, 240, .inr (.inl xG22))), (a24, .inl (cJ, 60, .inr (.inl xG23)))] H := hP
  replace hD : va_D A [(a0, .inr (12, [.int i0, .ref a1, .ref a2, .ref a3, .ref a4, .int i1, .ref a5, .int i2, .int i3, .int i4, .int i5, .int i6, .int i7, .int i8, .ref a6, .ref a7, .ref a8, .ref a9, .ref a10, .ref a11, .ref a12, .int i9, .ref a13, .int i10, .ref a14, .ref a15, .int i11, .ref a16, .ref a17, .ref a18, .ref a19, .int i12, .int i13, .int i14, .int i15, .int i16, .ref a20, .long j0, .ref a21, .ref a22, .ref a23, .ref a24])), (a21, .inl (cI, 4, .inl xF20)), (a22, .inl (cI, 4, .inl xF21)), (a23, .inl (cJ, 240, .inr (.inl xG22))), (a24, .inl (cJ, 60, .inr (.inl xG23)))] := hD
  refine lv_if_eq (tgt := 14) hx hb dX12_paste_4 (by decide) (fun c5 => ?_) (fun c5 => ?_)
  · rw [ki_eq] at c5
    refine lv_bipush (v := (-2)) hx hb dX12_paste_14 (by decide) ?_
    have hP9 := hP.sub (ws' := [(a0, .inr (12, [.int i0, .ref a1, .ref a2, .ref a3, .ref a4, .int i1, .ref a5, .int i2, .int i3, .int i4, .int i5, .int i6, .int i7, .int i8, .ref a6, .ref a7, .ref a8, .ref a9, .ref a10, .ref a11, .ref a12, .int i9, .ref a13, .int i10, .ref a14, .ref a15, .int i11, .ref a16, .ref a17, .ref a18, .ref a19, .int i12, .int i13, .int i14, .int i15, .int i16, .ref a20, .long j0, .ref a21, .ref a22, .ref a23, .ref a24])), (a21, .inl (cI, 4, .inl xF20)), (a22, .inl (cI, 4, .inl xF21)), (a23, .inl (cJ, 240, .inr (.inl xG22))), (a24, .inl (cJ, 60, .inr (.inl xG23)))]) [0, 1, 2, 3, 4] rfl
    have hD9 := hD.sub (ws' := [(a0, .inr (12, [.int i0, .ref a1, .ref a2, .ref a3, .ref a4, .int i1, .ref a5, .int i2, .int i3, .int i4, .int i5, .int i6, .int i7, .int i8, .ref a6, .ref a7, .ref a8, .ref a9, .ref a10, .ref a11, .ref a12, .int i9, .ref a13, .int i10, .ref a14, .ref a15, .int i11, .ref a16, .ref a17, .ref a18, .ref a19, .int i12, .int i13, .int i14, .int i15, .int i16, .ref a20, .long j0, .ref a21, .ref a22, .ref a23, .ref a24])), (a21, .inl (cI, 4, .inl xF20)), (a22, .inl (cI, 4, .inl xF21)), (a23, .inl (cJ, 240, .inr (.inl xG22))), (a24, .inl (cJ, 60, .inr (.inl xG23)))]) [0, 1, 2, 3, 4] (by decide) rfl
    rw [hQ]
    exact W.iret (v := (-2)) hx hb hr (fun t ht hW => ⟨⟨(-2), (pickG 0 [], pickG (fun _ => 0) [], pickG (fun _ => 0) [xG22, xG23]), rfl, ⟨(show (-8 : Int) ≤ ((-2) : Int32).toInt ∧ ((-2) : Int32).toInt ≤ 0 from ⟨by omega, by omega⟩), trivial⟩, (by rw [ht]; exact hP9), hD9⟩, hS.F ht⟩) hS.2.2 dX12_paste_16
  · rw [ki_eq] at c5
    have hw4q := hw4 (by omega)
    clear hw4
    refine lv_iload_n hx hb dX12_paste_7 rfl (lv_at hl 3 rfl) ?_
    have hPc := hP.sub (ws' := []) [] rfl
    have hDc := hD.sub (ws' := []) [] (by decide) rfl
    have hFc := va_free (wc := []) hD hS hA [] rfl
    refine va_calli (va_runS (As := [.int p2]) (rest := []) ⟨hx, hb, hml, hown, hwd⟩ (s_X12_isSlot l dC dI cI cZ cB cJ cM cG p2 H.size) (cwS 1 hwd (gS kr65_0 kr65_1 kr5_23 kr65_2) rfl rfl rfl (by decide +kernel) ⟨Nat.le_of_ble_eq_true rfl, Nat.le_of_ble_eq_true rfl⟩) (kPreS hPc hK hDc) rfl rfl hl.1 rfl (lv_room (Nat.le_of_ble_eq_true rfl)) dX12_paste_8 ⟨Nat.le_of_ble_eq_true rfl, Nat.le_of_ble_eq_true rfl⟩) hS (fun q _ h => hFc q h) hFc (fun r6 u7 t H1 locs ht9 hvm hw hB hz1 hk1 hS => ?_)
    obtain ⟨hw8, hw9, -⟩ := hw
    replace hw8 : (0 : Int) ≤ r6.toInt ∧ r6.toInt ≤ 1 := hw8
    obtain ⟨hP1, hD1⟩ := hB
    rw [ht9] at hP1
    obtain ⟨hP, hD⟩ := va_join (wr := [(a0, .inr (12, [.int i0, .ref a1, .ref a2, .ref a3, .ref a4, .int i1, .ref a5, .int i2, .int i3, .int i4, .int i5, .int i6, .int i7, .int i8, .ref a6, .ref a7, .ref a8, .ref a9, .ref a10, .ref a11, .ref a12, .int i9, .ref a13, .int i10, .ref a14, .ref a15, .int i11, .ref a16, .ref a17, .ref a18, .ref a19, .int i12, .int i13, .int i14, .int i15, .int i16, .ref a20, .long j0, .ref a21, .ref a22, .ref a23, .ref a24])), (a21, .inl (cI, 4, .inl xF20)), (a22, .inl (cI, 4, .inl xF21)), (a23, .inl (cJ, 240, .inr (.inl xG22))), (a24, .inl (cJ, 60, .inr (.inl xG23)))]) (w1 := []) hP hD [] [0, 1, 2, 3, 4] rfl rfl (by decide) (by decide) hk1 hFc hP1 hD1
    generalize H1 = H at hP hS ⊢
    replace hP : va_P (dC, dI) vwCl [(a0, .inr (12, [.int i0, .ref a1, .ref a2, .ref a3, .ref a4, .int i1, .ref a5, .int i2, .int i3, .int i4, .int i5, .int i6, .int i7, .int i8, .ref a6, .ref a7, .ref a8, .ref a9, .ref a10, .ref a11, .ref a12, .int i9, .ref a13, .int i10, .ref a14, .ref a15, .int i11, .ref a16, .ref a17, .ref a18, .ref a19, .int i12, .int i13, .int i14, .int i15, .int i16, .ref a20, .long j0, .ref a21, .ref a22, .ref a23, .ref a24])), (a21, .inl (cI, 4, .inl xF20)), (a22, .inl (cI, 4, .inl xF21)), (a23, .inl (cJ, 240, .inr (.inl xG22))), (a24, .inl (cJ, 60, .inr (.inl xG23)))] H := hP
    replace hD : va_D A [(a0, .inr (12, [.int i0, .ref a1, .ref a2, .ref a3, .ref a4, .int i1, .ref a5, .int i2, .int i3, .int i4, .int i5, .int i6, .int i7, .int i8, .ref a6, .ref a7, .ref a8, .ref a9, .ref a10, .ref a11, .ref a12, .int i9, .ref a13, .int i10, .ref a14, .ref a15, .int i11, .ref a16, .ref a17, .ref a18, .ref a19, .int i12, .int i13, .int i14, .int i15, .int i16, .ref a20, .long j0, .ref a21, .ref a22, .ref a23, .ref a24])), (a21, .inl (cI, 4, .inl xF20)), (a22, .inl (cI, 4, .inl xF21)), (a23, .inl (cJ, 240, .inr (.inl xG22))), (a24, .inl (cJ, 60, .inr (.inl xG23)))] := hD
    refine lv_if_ne (tgt := 17) hx hb dX12_paste_11 (by decide) (fun c10 => ?_) (fun c10 => ?_)
    · rw [ki_eq] at c10
      have hw9q := hw9 (by omega)
      clear hw9
      refine lv_aload_n hx hb dX12_paste_17 rfl (lv_at hl 0 rfl) ?_
      refine va_get (D := (dC, dI)) (ci := 12) (v := .ref a21) (C := RX12) (T := TX12) (N := 42) hx hb hwd inlX12 hown hK hP 0 rfl rfl 38 (by decide) (hwd _ kr50_15) (fun _ h9 => h9) rfl dX12_paste_18 ?_
      refine lv_iload_n hx hb dX12_paste_21 rfl (lv_at hl 1 rfl) ?_
      have h11 : vp_in p0 4 := (vp_of (by omega) (by omega))
      refine va_iald hx hb hK hP 1 0 rfl rfl h11 dX12_paste_22 ?_
      refine lv_topi (fun x12 ex12 => ?_)
      have ix12 : x12.toInt = (xF20 p0.toInt.toNat).toInt := by rw [ex12]; rfl
      have tx12 : (-1 : Int) ≤ x12.toInt ∧ x12.toInt ≤ 60 := by rw [ex12]; exact p_7 _ (vp_nat h11)
      refine lv_iconst (v := (-1)) hx hb dX12_paste_23 (by decide) ?_
      refine lv_icmp_eq (tgt := 37) hx hb dX12_paste_24 (by decide) (fun c13 => ?_) (fun c13 => ?_)
      · rw [ki_eq] at c13
        refine lv_bipush (v := (-6)) hx hb dX12_paste_37 (by decide) ?_
        have hP9 := hP.sub (ws' := [(a0, .inr (12, [.int i0, .ref a1, .ref a2, .ref a3, .ref a4, .int i1, .ref a5, .int i2, .int i3, .int i4, .int i5, .int i6, .int i7, .int i8, .ref a6, .ref a7, .ref a8, .ref a9, .ref a10, .ref a11, .ref a12, .int i9, .ref a13, .int i10, .ref a14, .ref a15, .int i11, .ref a16, .ref a17, .ref a18, .ref a19, .int i12, .int i13, .int i14, .int i15, .int i16, .ref a20, .long j0, .ref a21, .ref a22, .ref a23, .ref a24])), (a21, .inl (cI, 4, .inl xF20)), (a22, .inl (cI, 4, .inl xF21)), (a23, .inl (cJ, 240, .inr (.inl xG22))), (a24, .inl (cJ, 60, .inr (.inl xG23)))]) [0, 1, 2, 3, 4] rfl
        have hD9 := hD.sub (ws' := [(a0, .inr (12, [.int i0, .ref a1, .ref a2, .ref a3, .ref a4, .int i1, .ref a5, .int i2, .int i3, .int i4, .int i5, .int i6, .int i7, .int i8, .ref a6, .ref a7, .ref a8, .ref a9, .ref a10, .ref a11, .ref a12, .int i9, .ref a13, .int i10, .ref a14, .ref a15, .int i11, .ref a16, .ref a17, .ref a18, .ref a19, .int i12, .int i13, .int i14, .int i15, .int i16, .ref a20, .long j0, .ref a21, .ref a22, .ref a23, .ref a24])), (a21, .inl (cI, 4, .inl xF20)), (a22, .inl (cI, 4, .inl xF21)), (a23, .inl (cJ, 240, .inr (.inl xG22))), (a24, .inl (cJ, 60, .inr (.inl xG23)))]) [0, 1, 2, 3, 4] (by decide) rfl
        rw [hQ]
        exact W.iret (v := (-6)) hx hb hr (fun t ht hW => ⟨⟨(-6), (pickG 0 [], pickG (fun _ => 0) [], pickG (fun _ => 0) [xG22, xG23]), rfl, ⟨(show (-8 : Int) ≤ ((-6) : Int32).toInt ∧ ((-6) : Int32).toInt ≤ 0 from ⟨by omega, by omega⟩), trivial⟩, (by rw [ht]; exact hP9), hD9⟩, hS.F ht⟩) hS.2.2 dX12_paste_39
      · rw [ki_eq] at c13
        refine lv_aload_n hx hb dX12_paste_27 rfl (lv_at hl 0 rfl) ?_
        refine va_get (D := (dC, dI)) (ci := 12) (v := .ref a21) (C := RX12) (T := TX12) (N := 42) hx hb hwd inlX12 hown hK hP 0 rfl rfl 38 (by decide) (hwd _ kr50_15) (fun _ h9 => h9) rfl dX12_paste_28 ?_
        refine lv_iload_n hx hb dX12_paste_31 rfl (lv_at hl 3 rfl) ?_
        have h14 : vp_in p2 4 := (vp_of (by omega) (by omega))
        refine va_iald hx hb hK hP 1 0 rfl rfl h14 dX12_paste_32 ?_
        refine lv_topi (fun x15 ex15 => ?_)
        have ix15 : x15.toInt = (xF20 p2.toInt.toNat).toInt := by rw [ex15]; rfl
        have tx15 : (-1 : Int) ≤ x15.toInt ∧ x15.toInt ≤ 60 := by rw [ex15]; exact p_7 _ (vp_nat h14)
        refine lv_iconst (v := (-1)) hx hb dX12_paste_33 (by decide) ?_
        refine lv_icmp_ne (tgt := 40) hx hb dX12_paste_34 (by decide) (fun c16 => ?_) (fun c16 => ?_)
        · rw [ki_eq] at c16
          refine lv_aload_n hx hb dX12_paste_40 rfl (lv_at hl 0 rfl) ?_
          refine va_get (D := (dC, dI)) (ci := 12) (v := .ref a22) (C := RX12) (T := TX12) (N := 42) hx hb hwd inlX12 hown hK hP 0 rfl rfl 39 (by decide) (hwd _ kr50_16) (fun _ h9 => h9) rfl dX12_paste_41 ?_
          refine lv_iload_n hx hb dX12_paste_44 rfl (lv_at hl 1 rfl) ?_
          have h17 : vp_in p0 4 := (vp_of (by omega) (by omega))
          refine va_iald hx hb hK hP 2 0 rfl rfl h17 dX12_paste_45 ?_
          refine lv_topi (fun x18 ex18 => ?_)
          have tx18 : (0 : Int) ≤ x18.toInt ∧ x18.toInt ≤ 3 := by rw [ex18]; exact p_9 _ (vp_nat h17)
          refine lv_aload_n hx hb dX12_paste_46 rfl (lv_at hl 0 rfl) ?_
          refine va_get (D := (dC, dI)) (ci := 12) (v := .ref a22) (C := RX12) (T := TX12) (N := 42) hx hb hwd inlX12 hown hK hP 0 rfl rfl 39 (by decide) (hwd _ kr50_16) (fun _ h9 => h9) rfl dX12_paste_47 ?_
          refine lv_iload_n hx hb dX12_paste_50 rfl (lv_at hl 3 rfl) ?_
          have h19 : vp_in p2 4 := (vp_of (by omega) (by omega))
          refine va_iald hx hb hK hP 2 0 rfl rfl h19 dX12_paste_51 ?_
          refine lv_topi (fun x20 ex20 => ?_)
          have tx20 : (0 : Int) ≤ x20.toInt ∧ x20.toInt ≤ 3 := by rw [ex20]; exact p_9 _ (vp_nat h19)
          refine lv_icmp_eq (tgt := 58) hx hb dX12_paste_52 (by decide) (fun c21 => ?_) (fun c21 => ?_)
          · rw [ki_eq] at c21
            refine lv_iload_n hx hb dX12_paste_58 rfl (lv_at hl 2 rfl) ?_
            refine lv_if_lt (tgt := 107) hx hb dX12_paste_59 (by decide) (fun c22 => ?_) (fun c22 => ?_)
            · rw [ki_lt] at c22
              refine lv_bipush (v := (-7)) hx hb dX12_paste_107 (by decide) ?_
              have hP9 := hP.sub (ws' := [(a0, .inr (12, [.int i0, .ref a1, .ref a2, .ref a3, .ref a4, .int i1, .ref a5, .int i2, .int i3, .int i4, .int i5, .int i6, .int i7, .int i8, .ref a6, .ref a7, .ref a8, .ref a9, .ref a10, .ref a11, .ref a12, .int i9, .ref a13, .int i10, .ref a14, .ref a15, .int i11, .ref a16, .ref a17, .ref a18, .ref a19, .int i12, .int i13, .int i14, .int i15, .int i16, .ref a20, .long j0, .ref a21, .ref a22, .ref a23, .ref a24])), (a21, .inl (cI, 4, .inl xF20)), (a22, .inl (cI, 4, .inl xF21)), (a23, .inl (cJ, 240, .inr (.inl xG22))), (a24, .inl (cJ, 60, .inr (.inl xG23)))]) [0, 1, 2, 3, 4] rfl
              have hD9 := hD.sub (ws' := [(a0, .inr (12, [.int i0, .ref a1, .ref a2, .ref a3, .ref a4, .int i1, .ref a5, .int i2, .int i3, .int i4, .int i5, .int i6, .int i7, .int i8, .ref a6, .ref a7, .ref a8, .ref a9, .ref a10, .ref a11, .ref a12, .int i9, .ref a13, .int i10, .ref a14, .ref a15, .int i11, .ref a16, .ref a17, .ref a18, .ref a19, .int i12, .int i13, .int i14, .int i15, .int i16, .ref a20, .long j0, .ref a21, .ref a22, .ref a23, .ref a24])), (a21, .inl (cI, 4, .inl xF20)), (a22, .inl (cI, 4, .inl xF21)), (a23, .inl (cJ, 240, .inr (.inl xG22))), (a24, .inl (cJ, 60, .inr (.inl xG23)))]) [0, 1, 2, 3, 4] (by decide) rfl
              rw [hQ]
              exact W.iret (v := (-7)) hx hb hr (fun t ht hW => ⟨⟨(-7), (pickG 0 [], pickG (fun _ => 0) [], pickG (fun _ => 0) [xG22, xG23]), rfl, ⟨(show (-8 : Int) ≤ ((-7) : Int32).toInt ∧ ((-7) : Int32).toInt ≤ 0 from ⟨by omega, by omega⟩), trivial⟩, (by rw [ht]; exact hP9), hD9⟩, hS.F ht⟩) hS.2.2 dX12_paste_109
            · rw [ki_lt] at c22
              refine lv_iload hx hb dX12_paste_62 (lv_at hl 4 rfl) ?_
              refine lv_if_lt (tgt := 107) hx hb dX12_paste_64 (by decide) (fun c23 => ?_) (fun c23 => ?_)
              · rw [ki_lt] at c23
                refine lv_bipush (v := (-7)) hx hb dX12_paste_107 (by decide) ?_
                have hP9 := hP.sub (ws' := [(a0, .inr (12, [.int i0, .ref a1, .ref a2, .ref a3, .ref a4, .int i1, .ref a5, .int i2, .int i3, .int i4, .int i5, .int i6, .int i7, .int i8, .ref a6, .ref a7, .ref a8, .ref a9, .ref a10, .ref a11, .ref a12, .int i9, .ref a13, .int i10, .ref a14, .ref a15, .int i11, .ref a16, .ref a17, .ref a18, .ref a19, .int i12, .int i13, .int i14, .int i15, .int i16, .ref a20, .long j0, .ref a21, .ref a22, .ref a23, .ref a24])), (a21, .inl (cI, 4, .inl xF20)), (a22, .inl (cI, 4, .inl xF21)), (a23, .inl (cJ, 240, .inr (.inl xG22))), (a24, .inl (cJ, 60, .inr (.inl xG23)))]) [0, 1, 2, 3, 4] rfl
                have hD9 := hD.sub (ws' := [(a0, .inr (12, [.int i0, .ref a1, .ref a2, .ref a3, .ref a4, .int i1, .ref a5, .int i2, .int i3, .int i4, .int i5, .int i6, .int i7, .int i8, .ref a6, .ref a7, .ref a8, .ref a9, .ref a10, .ref a11, .ref a12, .int i9, .ref a13, .int i10, .ref a14, .ref a15, .int i11, .ref a16, .ref a17, .ref a18, .ref a19, .int i12, .int i13, .int i14, .int i15, .int i16, .ref a20, .long j0, .ref a21, .ref a22, .ref a23, .ref a24])), (a21, .inl (cI, 4, .inl xF20)), (a22, .inl (cI, 4, .inl xF21)), (a23, .inl (cJ, 240, .inr (.inl xG22))), (a24, .inl (cJ, 60, .inr (.inl xG23)))]) [0, 1, 2, 3, 4] (by decide) rfl
                rw [hQ]
                exact W.iret (v := (-7)) hx hb hr (fun t ht hW => ⟨⟨(-7), (pickG 0 [], pickG (fun _ => 0) [], pickG (fun _ => 0) [xG22, xG23]), rfl, ⟨(show (-8 : Int) ≤ ((-7) : Int32).toInt ∧ ((-7) : Int32).toInt ≤ 0 from ⟨by omega, by omega⟩), trivial⟩, (by rw [ht]; exact hP9), hD9⟩, hS.F ht⟩) hS.2.2 dX12_paste_109
              · rw [ki_lt] at c23
                refine lv_iload hx hb dX12_paste_67 (lv_at hl 5 rfl) ?_
                refine lv_if_lt (tgt := 107) hx hb dX12_paste_69 (by decide) (fun c24 => ?_) (fun c24 => ?_)
                · rw [ki_lt] at c24
                  refine lv_bipush (v := (-7)) hx hb dX12_paste_107 (by decide) ?_
                  have hP9 := hP.sub (ws' := [(a0, .inr (12, [.int i0, .ref a1, .ref a2, .ref a3, .ref a4, .int i1, .ref a5, .int i2, .int i3, .int i4, .int i5, .int i6, .int i7, .int i8, .ref a6, .ref a7, .ref a8, .ref a9, .ref a10, .ref a11, .ref a12, .int i9, .ref a13, .int i10, .ref a14, .ref a15, .int i11, .ref a16, .ref a17, .ref a18, .ref a19, .int i12, .int i13, .int i14, .int i15, .int i16, .ref a20, .long j0, .ref a21, .ref a22, .ref a23, .ref a24])), (a21, .inl (cI, 4, .inl xF20)), (a22, .inl (cI, 4, .inl xF21)), (a23, .inl (cJ, 240, .inr (.inl xG22))), (a24, .inl (cJ, 60, .inr (.inl xG23)))]) [0, 1, 2, 3, 4] rfl
                  have hD9 := hD.sub (ws' := [(a0, .inr (12, [.int i0, .ref a1, .ref a2, .ref a3, .ref a4, .int i1, .ref a5, .int i2, .int i3, .int i4, .int i5, .int i6, .int i7, .int i8, .ref a6, .ref a7, .ref a8, .ref a9, .ref a10, .ref a11, .ref a12, .int i9, .ref a13, .int i10, .ref a14, .ref a15, .int i11, .ref a16, .ref a17, .ref a18, .ref a19, .int i12, .int i13, .int i14, .int i15, .int i16, .ref a20, .long j0, .ref a21, .ref a22, .ref a23, .ref a24])), (a21, .inl (cI, 4, .inl xF20)), (a22, .inl (cI, 4, .inl xF21)), (a23, .inl (cJ, 240, .inr (.inl xG22))), (a24, .inl (cJ, 60, .inr (.inl xG23)))]) [0, 1, 2, 3, 4] (by decide) rfl
                  rw [hQ]
                  exact W.iret (v := (-7)) hx hb hr (fun t ht hW => ⟨⟨(-7), (pickG 0 [], pickG (fun _ => 0) [], pickG (fun _ => 0) [xG22, xG23]), rfl, ⟨(show (-8 : Int) ≤ ((-7) : Int32).toInt ∧ ((-7) : Int32).toInt ≤ 0 from ⟨by omega, by omega⟩), trivial⟩, (by rw [ht]; exact hP9), hD9⟩, hS.F ht⟩) hS.2.2 dX12_paste_109
                · rw [ki_lt] at c24
                  refine lv_iload_n hx hb dX12_paste_72 rfl (lv_at hl 2 rfl) ?_
                  refine lv_i2l hx hb dX12_paste_73 rfl ?_
                  refine lv_iload hx hb dX12_paste_74 (lv_at hl 5 rfl) ?_
                  refine lv_i2l hx hb dX12_paste_76 rfl ?_
                  refine lv_ladd hx hb dX12_paste_77 ?_
                  refine lv_topl (fun x25 ex25 => ?_)
                  refine lv_aload_n hx hb dX12_paste_78 rfl (lv_at hl 0 rfl) ?_
                  refine va_get (D := (dC, dI)) (ci := 12) (v := .ref a21) (C := RX12) (T := TX12) (N := 42) hx hb hwd inlX12 hown hK hP 0 rfl rfl 38 (by decide) (hwd _ kr50_15) (fun _ h9 => h9) rfl dX12_paste_79 ?_
                  refine lv_iload_n hx hb dX12_paste_82 rfl (lv_at hl 1 rfl) ?_
                  have h26 : vp_in p0 4 := (vp_of (by omega) (by omega))
                  refine va_iald hx hb hK hP 1 0 rfl rfl h26 dX12_paste_83 ?_
                  refine lv_topi (nm_r (e' := x12) ex12.symm ?_)
                  refine lv_i2l hx hb dX12_paste_84 rfl ?_
                  refine W.lcmp hx hb dX12_paste_85 ?_
                  refine lv_if_gt (tgt := 107) hx hb dX12_paste_86 (by decide) (fun c27 => ?_) (fun c27 => ?_)
                  · rw [hl_gt ex25] at c27
                    refine lv_bipush (v := (-7)) hx hb dX12_paste_107 (by decide) ?_
                    have hP9 := hP.sub (ws' := [(a0, .inr (12, [.int i0, .ref a1, .ref a2, .ref a3, .ref a4, .int i1, .ref a5, .int i2, .int i3, .int i4, .int i5, .int i6, .int i7, .int i8, .ref a6, .ref a7, .ref a8, .ref a9, .ref a10, .ref a11, .ref a12, .int i9, .ref a13, .int i10, .ref a14, .ref a15, .int i11, .ref a16, .ref a17, .ref a18, .ref a19, .int i12, .int i13, .int i14, .int i15, .int i16, .ref a20, .long j0, .ref a21, .ref a22, .ref a23, .ref a24])), (a21, .inl (cI, 4, .inl xF20)), (a22, .inl (cI, 4, .inl xF21)), (a23, .inl (cJ, 240, .inr (.inl xG22))), (a24, .inl (cJ, 60, .inr (.inl xG23)))]) [0, 1, 2, 3, 4] rfl
                    have hD9 := hD.sub (ws' := [(a0, .inr (12, [.int i0, .ref a1, .ref a2, .ref a3, .ref a4, .int i1, .ref a5, .int i2, .int i3, .int i4, .int i5, .int i6, .int i7, .int i8, .ref a6, .ref a7, .ref a8, .ref a9, .ref a10, .ref a11, .ref a12, .int i9, .ref a13, .int i10, .ref a14, .ref a15, .int i11, .ref a16, .ref a17, .ref a18, .ref a19, .int i12, .int i13, .int i14, .int i15, .int i16, .ref a20, .long j0, .ref a21, .ref a22, .ref a23, .ref a24])), (a21, .inl (cI, 4, .inl xF20)), (a22, .inl (cI, 4, .inl xF21)), (a23, .inl (cJ, 240, .inr (.inl xG22))), (a24, .inl (cJ, 60, .inr (.inl xG23)))]) [0, 1, 2, 3, 4] (by decide) rfl
                    rw [hQ]
                    exact W.iret (v := (-7)) hx hb hr (fun t ht hW => ⟨⟨(-7), (pickG 0 [], pickG (fun _ => 0) [], pickG (fun _ => 0) [xG22, xG23]), rfl, ⟨(show (-8 : Int) ≤ ((-7) : Int32).toInt ∧ ((-7) : Int32).toInt ≤ 0 from ⟨by omega, by omega⟩), trivial⟩, (by rw [ht]; exact hP9), hD9⟩, hS.F ht⟩) hS.2.2 dX12_paste_109
                  · rw [hl_gt ex25] at c27
                    refine lv_iload hx hb dX12_paste_89 (lv_at hl 4 rfl) ?_
                    refine lv_i2l hx hb dX12_paste_91 rfl ?_
                    refine lv_iload hx hb dX12_paste_92 (lv_at hl 5 rfl) ?_
                    refine lv_i2l hx hb dX12_paste_94 rfl ?_
                    refine lv_ladd hx hb dX12_paste_95 ?_
                    refine lv_topl (fun x28 ex28 => ?_)
                    refine lv_aload_n hx hb dX12_paste_96 rfl (lv_at hl 0 rfl) ?_
                    refine va_get (D := (dC, dI)) (ci := 12) (v := .ref a21) (C := RX12) (T := TX12) (N := 42) hx hb hwd inlX12 hown hK hP 0 rfl rfl 38 (by decide) (hwd _ kr50_15) (fun _ h9 => h9) rfl dX12_paste_97 ?_
                    refine lv_iload_n hx hb dX12_paste_100 rfl (lv_at hl 3 rfl) ?_
                    have h29 : vp_in p2 4 := (vp_of (by omega) (by omega))
                    refine va_iald hx hb hK hP 1 0 rfl rfl h29 dX12_paste_101 ?_
                    refine lv_topi (nm_r (e' := x15) ex15.symm ?_)
                    refine lv_i2l hx hb dX12_paste_102 rfl ?_
                    refine W.lcmp hx hb dX12_paste_103 ?_
                    refine lv_if_le (tgt := 110) hx hb dX12_paste_104 (by decide) (fun c30 => ?_) (fun c30 => ?_)
                    · rw [← Int32.not_lt, hl_gt ex28] at c30
                      refine lv_iconst (v := 0) hx hb dX12_paste_110 (by decide) ?_
                      refine lv_istore (lv' := [(6, .int 0), (0, .ref a0), (1, .int p0), (2, .int p1), (3, .int p2), (4, .int p3), (5, .int p4)]) hx hb dX12_paste_111 hl (by decide) rfl (fun ls hl => ?_)
                      have lp1 : ∀ (d : Nat), ∀ (H : Heap) (locs : List Loc) (ls : Array Slot) (w6_1 : Int32) (g1_1 : Nat → Int64), ((0 : Int) ≤ w6_1.toInt ∧ w6_1.toInt ≤ 60) → (60 - w6_1.toInt).toNat < d → va_P (dC, dI) vwCl [(a0, .inr (12, [.int i0, .ref a1, .ref a2, .ref a3, .ref a4, .int i1, .ref a5, .int i2, .int i3, .int i4, .int i5, .int i6, .int i7, .int i8, .ref a6, .ref a7, .ref a8, .ref a9, .ref a10, .ref a11, .ref a12, .int i9, .ref a13, .int i10, .ref a14, .ref a15, .int i11, .ref a16, .ref a17, .ref a18, .ref a19, .int i12, .int i13, .int i14, .int i15, .int i16, .ref a20, .long j0, .ref a21, .ref a22, .ref a23, .ref a24])), (a21, .inl (cI, 4, .inl xF20)), (a22, .inl (cI, 4, .inl xF21)), (a23, .inl (cJ, 240, .inr (.inl xG22))), (a24, .inl (cJ, 60, .inr (.inl g1_1)))] H → va_D A [(a0, .inr (12, [.int i0, .ref a1, .ref a2, .ref a3, .ref a4, .int i1, .ref a5, .int i2, .int i3, .int i4, .int i5, .int i6, .int i7, .int i8, .ref a6, .ref a7, .ref a8, .ref a9, .ref a10, .ref a11, .ref a12, .int i9, .ref a13, .int i10, .ref a14, .ref a15, .int i11, .ref a16, .ref a17, .ref a18, .ref a19, .int i12, .int i13, .int i14, .int i15, .int i16, .ref a20, .long j0, .ref a21, .ref a22, .ref a23, .ref a24])), (a21, .inl (cI, 4, .inl xF20)), (a22, .inl (cI, 4, .inl xF21)), (a23, .inl (cJ, 240, .inr (.inl xG22))), (a24, .inl (cJ, 60, .inr (.inl g1_1)))] → va_S A s.heap H locs → lv_has ls 7 [(0, .ref a0), (1, .int p0), (2, .int p1), (3, .int p2), (4, .int p3), (5, .int p4), (6, .int w6_1)] → W p l e ({ frames := 2, cells := 0, slots := 0, locals := 45 } : Room) s m ([.ref a0, .int p0, .int p1, .int p2, .int p3, .int p4] : List Value).toArray below meth c H locs 0 0 Q (F0 m 113 ls []) := by
                        intro d
                        induction d with
                        | zero =>
                          intro H locs ls w6_1 g1_1 hr_w6_1 hm hP hD hS hl
                          omega
                        | succ d ih1 =>
                          intro H locs ls w6_1 g1_1 hr_w6_1 hm hP hD hS hl
                          refine lv_iload hx hb dX12_paste_113 (lv_at hl 6 rfl) ?_
                          refine lv_iload hx hb dX12_paste_115 (lv_at hl 5 rfl) ?_
                          refine lv_icmp_ge (tgt := 147) hx hb dX12_paste_117 (by decide) (fun c78 => ?_) (fun c78 => ?_)
                          · rw [ki_le] at c78
                            refine lv_iconst (v := 0) hx hb dX12_paste_147 (by decide) ?_
                            refine lv_istore (lv' := [(6, .int 0), (0, .ref a0), (1, .int p0), (2, .int p1), (3, .int p2), (4, .int p3), (5, .int p4)]) hx hb dX12_paste_148 hl (by decide) rfl (fun ls hl => ?_)
                            have lp2 : ∀ (d : Nat), ∀ (H : Heap) (locs : List Loc) (ls : Array Slot) (w6_2 : Int32) (g1_2 : Nat → Int64), ((0 : Int) ≤ w6_2.toInt ∧ w6_2.toInt ≤ 60) → (60 - w6_2.toInt).toNat < d → va_P (dC, dI) vwCl [(a0, .inr (12, [.int i0, .ref a1, .ref a2, .ref a3, .ref a4, .int i1, .ref a5, .int i2, .int i3, .int i4, .int i5, .int i6, .int i7, .int i8, .ref a6, .ref a7, .ref a8, .ref a9, .ref a10, .ref a11, .ref a12, .int i9, .ref a13, .int i10, .ref a14, .ref a15, .int i11, .ref a16, .ref a17, .ref a18, .ref a19, .int i12, .int i13, .int i14, .int i15, .int i16, .ref a20, .long j0, .ref a21, .ref a22, .ref a23, .ref a24])), (a21, .inl (cI, 4, .inl xF20)), (a22, .inl (cI, 4, .inl xF21)), (a23, .inl (cJ, 240, .inr (.inl g1_2))), (a24, .inl (cJ, 60, .inr (.inl g1_1)))] H → va_D A [(a0, .inr (12, [.int i0, .ref a1, .ref a2, .ref a3, .ref a4, .int i1, .ref a5, .int i2, .int i3, .int i4, .int i5, .int i6, .int i7, .int i8, .ref a6, .ref a7, .ref a8, .ref a9, .ref a10, .ref a11, .ref a12, .int i9, .ref a13, .int i10, .ref a14, .ref a15, .int i11, .ref a16, .ref a17, .ref a18, .ref a19, .int i12, .int i13, .int i14, .int i15, .int i16, .ref a20, .long j0, .ref a21, .ref a22, .ref a23, .ref a24])), (a21, .inl (cI, 4, .inl xF20)), (a22, .inl (cI, 4, .inl xF21)), (a23, .inl (cJ, 240, .inr (.inl g1_2))), (a24, .inl (cJ, 60, .inr (.inl g1_1)))] → va_S A s.heap H locs → lv_has ls 7 [(0, .ref a0), (1, .int p0), (2, .int p1), (3, .int p2), (4, .int p3), (5, .int p4), (6, .int w6_2)] → W p l e ({ frames := 2, cells := 0, slots := 0, locals := 45 } : Room) s m ([.ref a0, .int p0, .int p1, .int p2, .int p3, .int p4] : List Value).toArray below meth c H locs 0 0 Q (F0 m 150 ls []) := by
                              intro d
                              induction d with
                              | zero =>
                                intro H locs ls w6_2 g1_2 hr_w6_2 hm hP hD hS hl
                                omega
                              | succ d ih2 =>
                                intro H locs ls w6_2 g1_2 hr_w6_2 hm hP hD hS hl
                                refine lv_iload hx hb dX12_paste_150 (lv_at hl 6 rfl) ?_
                                refine lv_iload hx hb dX12_paste_152 (lv_at hl 5 rfl) ?_
                                refine lv_icmp_ge (tgt := 185) hx hb dX12_paste_154 (by decide) (fun c126 => ?_) (fun c126 => ?_)
                                · rw [ki_le] at c126
                                  refine lv_iconst (v := 0) hx hb dX12_paste_185 (by decide) ?_
                                  have hP9 := hP.sub (ws' := [(a0, .inr (12, [.int i0, .ref a1, .ref a2, .ref a3, .ref a4, .int i1, .ref a5, .int i2, .int i3, .int i4, .int i5, .int i6, .int i7, .int i8, .ref a6, .ref a7, .ref a8, .ref a9, .ref a10, .ref a11, .ref a12, .int i9, .ref a13, .int i10, .ref a14, .ref a15, .int i11, .ref a16, .ref a17, .ref a18, .ref a19, .int i12, .int i13, .int i14, .int i15, .int i16, .ref a20, .long j0, .ref a21, .ref a22, .ref a23, .ref a24])), (a21, .inl (cI, 4, .inl xF20)), (a22, .inl (cI, 4, .inl xF21)), (a23, .inl (cJ, 240, .inr (.inl g1_2))), (a24, .inl (cJ, 60, .inr (.inl g1_1)))]) [0, 1, 2, 3, 4] rfl
                                  have hD9 := hD.sub (ws' := [(a0, .inr (12, [.int i0, .ref a1, .ref a2, .ref a3, .ref a4, .int i1, .ref a5, .int i2, .int i3, .int i4, .int i5, .int i6, .int i7, .int i8, .ref a6, .ref a7, .ref a8, .ref a9, .ref a10, .ref a11, .ref a12, .int i9, .ref a13, .int i10, .ref a14, .ref a15, .int i11, .ref a16, .ref a17, .ref a18, .ref a19, .int i12, .int i13, .int i14, .int i15, .int i16, .ref a20, .long j0, .ref a21, .ref a22, .ref a23, .ref a24])), (a21, .inl (cI, 4, .inl xF20)), (a22, .inl (cI, 4, .inl xF21)), (a23, .inl (cJ, 240, .inr (.inl g1_2))), (a24, .inl (cJ, 60, .inr (.inl g1_1)))]) [0, 1, 2, 3, 4] (by decide) rfl
                                  rw [hQ]
                                  exact W.iret (v := 0) hx hb hr (fun t ht hW => ⟨⟨0, (pickG 0 [], pickG (fun _ => 0) [], pickG (fun _ => 0) [g1_2, g1_1]), rfl, ⟨(show (-8 : Int) ≤ (0 : Int32).toInt ∧ (0 : Int32).toInt ≤ 0 from ⟨by omega, by omega⟩), trivial⟩, (by rw [ht]; exact hP9), hD9⟩, hS.F ht⟩) hS.2.2 dX12_paste_186
                                · rw [ki_le] at c126
                                  refine lv_aload_n hx hb dX12_paste_157 rfl (lv_at hl 0 rfl) ?_
                                  refine va_get (D := (dC, dI)) (ci := 12) (v := .ref a23) (C := RX12) (T := TX12) (N := 42) hx hb hwd inlX12 hown hK hP 0 rfl rfl 40 (by decide) (hwd _ kr50_17) (fun _ h9 => h9) rfl dX12_paste_158 ?_
                                  refine lv_bipush (v := 60) hx hb dX12_paste_161 (by decide) ?_
                                  refine lv_iload_n hx hb dX12_paste_163 rfl (lv_at hl 3 rfl) ?_
                                  refine lv_imul hx hb dX12_paste_164 ?_
                                  refine lv_topi (fun x127 ex127 => ?_)
                                  have tx127 := ia_mull (a := (60 : Int32)) (b := p2) 60 (by decide) (by omega) (by omega)
                                  rw [← ex127] at tx127
                                  refine lv_iload hx hb dX12_paste_165 (lv_at hl 4 rfl) ?_
                                  refine lv_iadd hx hb dX12_paste_167 ?_
                                  refine lv_topi (fun x128 ex128 => ?_)
                                  have tx128 := ia_add (a := x127) (b := p3) (by omega) (by omega)
                                  rw [← ex128] at tx128
                                  refine lv_iload hx hb dX12_paste_168 (lv_at hl 6 rfl) ?_
                                  refine lv_iadd hx hb dX12_paste_170 ?_
                                  refine lv_topi (fun x129 ex129 => ?_)
                                  have tx129 := ia_add (a := x128) (b := w6_2) (by omega) (by omega)
                                  rw [← ex129] at tx129
                                  refine lv_aload_n hx hb dX12_paste_171 rfl (lv_at hl 0 rfl) ?_
                                  refine va_get (D := (dC, dI)) (ci := 12) (v := .ref a24) (C := RX12) (T := TX12) (N := 42) hx hb hwd inlX12 hown hK hP 0 rfl rfl 41 (by decide) (hwd _ kr50_18) (fun _ h9 => h9) rfl dX12_paste_172 ?_
                                  refine lv_iload hx hb dX12_paste_175 (lv_at hl 6 rfl) ?_
                                  have h130 : vp_in w6_2 60 := (vp_of (by omega) (by omega))
                                  refine va_lald hx hb hK hP 4 3 rfl rfl h130 dX12_paste_177 ?_
                                  refine lv_topl (fun x131 ex131 => ?_)
                                  refine va_last hx hb hK hP hD hS 3 3 rfl rfl (vp_of (by omega) (by omega)) dX12_paste_178 (fun H locs hP hD hS => ?_)
                                  obtain ⟨f132, ef132⟩ : ∃ f, f = vp_updL g1_2 x129.toNatClampNeg x131 := ⟨_, rfl⟩
                                  replace hP : va_P (dC, dI) vwCl [(a0, .inr (12, [.int i0, .ref a1, .ref a2, .ref a3, .ref a4, .int i1, .ref a5, .int i2, .int i3, .int i4, .int i5, .int i6, .int i7, .int i8, .ref a6, .ref a7, .ref a8, .ref a9, .ref a10, .ref a11, .ref a12, .int i9, .ref a13, .int i10, .ref a14, .ref a15, .int i11, .ref a16, .ref a17, .ref a18, .ref a19, .int i12, .int i13, .int i14, .int i15, .int i16, .ref a20, .long j0, .ref a21, .ref a22, .ref a23, .ref a24])), (a21, .inl (cI, 4, .inl xF20)), (a22, .inl (cI, 4, .inl xF21)), (a23, .inl (cJ, 240, .inr (.inl f132))), (a24, .inl (cJ, 60, .inr (.inl g1_1)))] H := by rw [ef132]; exact hP
                                  replace hD : va_D A [(a0, .inr (12, [.int i0, .ref a1, .ref a2, .ref a3, .ref a4, .int i1, .ref a5, .int i2, .int i3, .int i4, .int i5, .int i6, .int i7, .int i8, .ref a6, .ref a7, .ref a8, .ref a9, .ref a10, .ref a11, .ref a12, .int i9, .ref a13, .int i10, .ref a14, .ref a15, .int i11, .ref a16, .ref a17, .ref a18, .ref a19, .int i12, .int i13, .int i14, .int i15, .int i16, .ref a20, .long j0, .ref a21, .ref a22, .ref a23, .ref a24])), (a21, .inl (cI, 4, .inl xF20)), (a22, .inl (cI, 4, .inl xF21)), (a23, .inl (cJ, 240, .inr (.inl f132))), (a24, .inl (cJ, 60, .inr (.inl g1_1)))] := by rw [ef132]; exact hD
                                  obtain ⟨x133, ex133⟩ : ∃ y : Int32, y = w6_2 + 1 := ⟨_, rfl⟩
                                  refine lv_iinc (v := x133) (lv' := [(6, .int x133), (0, .ref a0), (1, .int p0), (2, .int p1), (3, .int p2), (4, .int p3), (5, .int p4)]) hx hb dX12_paste_179 hl (k := 6) rfl (by rw [ex133]; rfl) (by decide) rfl (fun ls hl => ?_)
                                  have tx133 := ia_add (a := w6_2) (b := (1 : Int32)) (by omega) (by omega)
                                  rw [← ex133] at tx133
                                  refine lv_goto (tgt := 150) hx hb dX12_paste_182 (by decide) ?_
                                  exact ih2 _ _ ls x133 f132 (show (0 : Int) ≤ x133.toInt ∧ x133.toInt ≤ 60 from ⟨by omega, by omega⟩) (by omega) (hP.sub (ws' := [(a0, .inr (12, [.int i0, .ref a1, .ref a2, .ref a3, .ref a4, .int i1, .ref a5, .int i2, .int i3, .int i4, .int i5, .int i6, .int i7, .int i8, .ref a6, .ref a7, .ref a8, .ref a9, .ref a10, .ref a11, .ref a12, .int i9, .ref a13, .int i10, .ref a14, .ref a15, .int i11, .ref a16, .ref a17, .ref a18, .ref a19, .int i12, .int i13, .int i14, .int i15, .int i16, .ref a20, .long j0, .ref a21, .ref a22, .ref a23, .ref a24])), (a21, .inl (cI, 4, .inl xF20)), (a22, .inl (cI, 4, .inl xF21)), (a23, .inl (cJ, 240, .inr (.inl f132))), (a24, .inl (cJ, 60, .inr (.inl g1_1)))]) [0, 1, 2, 3, 4] rfl) (hD.sub (ws' := [(a0, .inr (12, [.int i0, .ref a1, .ref a2, .ref a3, .ref a4, .int i1, .ref a5, .int i2, .int i3, .int i4, .int i5, .int i6, .int i7, .int i8, .ref a6, .ref a7, .ref a8, .ref a9, .ref a10, .ref a11, .ref a12, .int i9, .ref a13, .int i10, .ref a14, .ref a15, .int i11, .ref a16, .ref a17, .ref a18, .ref a19, .int i12, .int i13, .int i14, .int i15, .int i16, .ref a20, .long j0, .ref a21, .ref a22, .ref a23, .ref a24])), (a21, .inl (cI, 4, .inl xF20)), (a22, .inl (cI, 4, .inl xF21)), (a23, .inl (cJ, 240, .inr (.inl f132))), (a24, .inl (cJ, 60, .inr (.inl g1_1)))]) [0, 1, 2, 3, 4] (by decide) rfl) hS (lv_sub hl [1, 2, 3, 4, 5, 6, 0] rfl)
                            exact lp2 _ _ _ ls (0) xG22 (show (0 : Int) ≤ (0 : Int32).toInt ∧ (0 : Int32).toInt ≤ 60 from ⟨by omega, by omega⟩) (Nat.lt_succ_self _) (hP.sub (ws' := [(a0, .inr (12, [.int i0, .ref a1, .ref a2, .ref a3, .ref a4, .int i1, .ref a5, .int i2, .int i3, .int i4, .int i5, .int i6, .int i7, .int i8, .ref a6, .ref a7, .ref a8, .ref a9, .ref a10, .ref a11, .ref a12, .int i9, .ref a13, .int i10, .ref a14, .ref a15, .int i11, .ref a16, .ref a17, .ref a18, .ref a19, .int i12, .int i13, .int i14, .int i15, .int i16, .ref a20, .long j0, .ref a21, .ref a22, .ref a23, .ref a24])), (a21, .inl (cI, 4, .inl xF20)), (a22, .inl (cI, 4, .inl xF21)), (a23, .inl (cJ, 240, .inr (.inl xG22))), (a24, .inl (cJ, 60, .inr (.inl g1_1)))]) [0, 1, 2, 3, 4] rfl) (hD.sub (ws' := [(a0, .inr (12, [.int i0, .ref a1, .ref a2, .ref a3, .ref a4, .int i1, .ref a5, .int i2, .int i3, .int i4, .int i5, .int i6, .int i7, .int i8, .ref a6, .ref a7, .ref a8, .ref a9, .ref a10, .ref a11, .ref a12, .int i9, .ref a13, .int i10, .ref a14, .ref a15, .int i11, .ref a16, .ref a17, .ref a18, .ref a19, .int i12, .int i13, .int i14, .int i15, .int i16, .ref a20, .long j0, .ref a21, .ref a22, .ref a23, .ref a24])), (a21, .inl (cI, 4, .inl xF20)), (a22, .inl (cI, 4, .inl xF21)), (a23, .inl (cJ, 240, .inr (.inl xG22))), (a24, .inl (cJ, 60, .inr (.inl g1_1)))]) [0, 1, 2, 3, 4] (by decide) rfl) hS (lv_sub hl [1, 2, 3, 4, 5, 6, 0] rfl)
                          · rw [ki_le] at c78
                            refine lv_aload_n hx hb dX12_paste_120 rfl (lv_at hl 0 rfl) ?_
                            refine va_get (D := (dC, dI)) (ci := 12) (v := .ref a24) (C := RX12) (T := TX12) (N := 42) hx hb hwd inlX12 hown hK hP 0 rfl rfl 41 (by decide) (hwd _ kr50_18) (fun _ h9 => h9) rfl dX12_paste_121 ?_
                            refine lv_iload hx hb dX12_paste_124 (lv_at hl 6 rfl) ?_
                            refine lv_aload_n hx hb dX12_paste_126 rfl (lv_at hl 0 rfl) ?_
                            refine va_get (D := (dC, dI)) (ci := 12) (v := .ref a23) (C := RX12) (T := TX12) (N := 42) hx hb hwd inlX12 hown hK hP 0 rfl rfl 40 (by decide) (hwd _ kr50_17) (fun _ h9 => h9) rfl dX12_paste_127 ?_
                            refine lv_bipush (v := 60) hx hb dX12_paste_130 (by decide) ?_
                            refine lv_iload_n hx hb dX12_paste_132 rfl (lv_at hl 1 rfl) ?_
                            refine lv_imul hx hb dX12_paste_133 ?_
                            refine lv_topi (fun x134 ex134 => ?_)
                            have tx134 := ia_mull (a := (60 : Int32)) (b := p0) 60 (by decide) (by omega) (by omega)
                            rw [← ex134] at tx134
                            refine lv_iload_n hx hb dX12_paste_134 rfl (lv_at hl 2 rfl) ?_
                            refine lv_iadd hx hb dX12_paste_135 ?_
                            refine lv_topi (fun x135 ex135 => ?_)
                            have tx135 := ia_add (a := x134) (b := p1) (by omega) (by omega)
                            rw [← ex135] at tx135
                            refine lv_iload hx hb dX12_paste_136 (lv_at hl 6 rfl) ?_
                            refine lv_iadd hx hb dX12_paste_138 ?_
                            refine lv_topi (fun x136 ex136 => ?_)
                            have tx136 := ia_add (a := x135) (b := w6_1) (by omega) (by omega)
                            rw [← ex136] at tx136
                            have h137 : vp_in x136 240 := (vp_of (by omega) (by omega))
                            refine va_lald hx hb hK hP 3 3 rfl rfl h137 dX12_paste_139 ?_
                            refine lv_topl (fun x138 ex138 => ?_)
                            refine va_last hx hb hK hP hD hS 4 3 rfl rfl (vp_of (by omega) (by omega)) dX12_paste_140 (fun H locs hP hD hS => ?_)
                            obtain ⟨f139, ef139⟩ : ∃ f, f = vp_updL g1_1 w6_1.toNatClampNeg x138 := ⟨_, rfl⟩
                            replace hP : va_P (dC, dI) vwCl [(a0, .inr (12, [.int i0, .ref a1, .ref a2, .ref a3, .ref a4, .int i1, .ref a5, .int i2, .int i3, .int i4, .int i5, .int i6, .int i7, .int i8, .ref a6, .ref a7, .ref a8, .ref a9, .ref a10, .ref a11, .ref a12, .int i9, .ref a13, .int i10, .ref a14, .ref a15, .int i11, .ref a16, .ref a17, .ref a18, .ref a19, .int i12, .int i13, .int i14, .int i15, .int i16, .ref a20, .long j0, .ref a21, .ref a22, .ref a23, .ref a24])), (a21, .inl (cI, 4, .inl xF20)), (a22, .inl (cI, 4, .inl xF21)), (a23, .inl (cJ, 240, .inr (.inl xG22))), (a24, .inl (cJ, 60, .inr (.inl f139)))] H := by rw [ef139]; exact hP
                            replace hD : va_D A [(a0, .inr (12, [.int i0, .ref a1, .ref a2, .ref a3, .ref a4, .int i1, .ref a5, .int i2, .int i3, .int i4, .int i5, .int i6, .int i7, .int i8, .ref a6, .ref a7, .ref a8, .ref a9, .ref a10, .ref a11, .ref a12, .int i9, .ref a13, .int i10, .ref a14, .ref a15, .int i11, .ref a16, .ref a17, .ref a18, .ref a19, .int i12, .int i13, .int i14, .int i15, .int i16, .ref a20, .long j0, .ref a21, .ref a22, .ref a23, .ref a24])), (a21, .inl (cI, 4, .inl xF20)), (a22, .inl (cI, 4, .inl xF21)), (a23, .inl (cJ, 240, .inr (.inl xG22))), (a24, .inl (cJ, 60, .inr (.inl f139)))] := by rw [ef139]; exact hD
                            obtain ⟨x140, ex140⟩ : ∃ y : Int32, y = w6_1 + 1 := ⟨_, rfl⟩
                            refine lv_iinc (v := x140) (lv' := [(6, .int x140), (0, .ref a0), (1, .int p0), (2, .int p1), (3, .int p2), (4, .int p3), (5, .int p4)]) hx hb dX12_paste_141 hl (k := 6) rfl (by rw [ex140]; rfl) (by decide) rfl (fun ls hl => ?_)
                            have tx140 := ia_add (a := w6_1) (b := (1 : Int32)) (by omega) (by omega)
                            rw [← ex140] at tx140
                            refine lv_goto (tgt := 113) hx hb dX12_paste_144 (by decide) ?_
                            exact ih1 _ _ ls x140 f139 (show (0 : Int) ≤ x140.toInt ∧ x140.toInt ≤ 60 from ⟨by omega, by omega⟩) (by omega) (hP.sub (ws' := [(a0, .inr (12, [.int i0, .ref a1, .ref a2, .ref a3, .ref a4, .int i1, .ref a5, .int i2, .int i3, .int i4, .int i5, .int i6, .int i7, .int i8, .ref a6, .ref a7, .ref a8, .ref a9, .ref a10, .ref a11, .ref a12, .int i9, .ref a13, .int i10, .ref a14, .ref a15, .int i11, .ref a16, .ref a17, .ref a18, .ref a19, .int i12, .int i13, .int i14, .int i15, .int i16, .ref a20, .long j0, .ref a21, .ref a22, .ref a23, .ref a24])), (a21, .inl (cI, 4, .inl xF20)), (a22, .inl (cI, 4, .inl xF21)), (a23, .inl (cJ, 240, .inr (.inl xG22))), (a24, .inl (cJ, 60, .inr (.inl f139)))]) [0, 1, 2, 3, 4] rfl) (hD.sub (ws' := [(a0, .inr (12, [.int i0, .ref a1, .ref a2, .ref a3, .ref a4, .int i1, .ref a5, .int i2, .int i3, .int i4, .int i5, .int i6, .int i7, .int i8, .ref a6, .ref a7, .ref a8, .ref a9, .ref a10, .ref a11, .ref a12, .int i9, .ref a13, .int i10, .ref a14, .ref a15, .int i11, .ref a16, .ref a17, .ref a18, .ref a19, .int i12, .int i13, .int i14, .int i15, .int i16, .ref a20, .long j0, .ref a21, .ref a22, .ref a23, .ref a24])), (a21, .inl (cI, 4, .inl xF20)), (a22, .inl (cI, 4, .inl xF21)), (a23, .inl (cJ, 240, .inr (.inl xG22))), (a24, .inl (cJ, 60, .inr (.inl f139)))]) [0, 1, 2, 3, 4] (by decide) rfl) hS (lv_sub hl [1, 2, 3, 4, 5, 6, 0] rfl)
                      exact lp1 _ _ _ ls (0) xG23 (show (0 : Int) ≤ (0 : Int32).toInt ∧ (0 : Int32).toInt ≤ 60 from ⟨by omega, by omega⟩) (Nat.lt_succ_self _) (hP.sub (ws' := [(a0, .inr (12, [.int i0, .ref a1, .ref a2, .ref a3, .ref a4, .int i1, .ref a5, .int i2, .int i3, .int i4, .int i5, .int i6, .int i7, .int i8, .ref a6, .ref a7, .ref a8, .ref a9, .ref a10, .ref a11, .ref a12, .int i9, .ref a13, .int i10, .ref a14, .ref a15, .int i11, .ref a16, .ref a17, .ref a18, .ref a19, .int i12, .int i13, .int i14, .int i15, .int i16, .ref a20, .long j0, .ref a21, .ref a22, .ref a23, .ref a24])), (a21, .inl (cI, 4, .inl xF20)), (a22, .inl (cI, 4, .inl xF21)), (a23, .inl (cJ, 240, .inr (.inl xG22))), (a24, .inl (cJ, 60, .inr (.inl xG23)))]) [0, 1, 2, 3, 4] rfl) (hD.sub (ws' := [(a0, .inr (12, [.int i0, .ref a1, .ref a2, .ref a3, .ref a4, .int i1, .ref a5, .int i2, .int i3, .int i4, .int i5, .int i6, .int i7, .int i8, .ref a6, .ref a7, .ref a8, .ref a9, .ref a10, .ref a11, .ref a12, .int i9, .ref a13, .int i10, .ref a14, .ref a15, .int i11, .ref a16, .ref a17, .ref a18, .ref a19, .int i12, .int i13, .int i14, .int i15, .int i16, .ref a20, .long j0, .ref a21, .ref a22, .ref a23, .ref a24])), (a21, .inl (cI, 4, .inl xF20)), (a22, .inl (cI, 4, .inl xF21)), (a23, .inl (cJ, 240, .inr (.inl xG22))), (a24, .inl (cJ, 60, .inr (.inl xG23)))]) [0, 1, 2, 3, 4] (by decide) rfl) hS (lv_sub hl [1, 2, 3, 4, 5, 6, 0] rfl)
                    · rw [← Int32.not_lt, hl_gt ex28] at c30
                      refine lv_bipush (v := (-7)) hx hb dX12_paste_107 (by decide) ?_
                      have hP9 := hP.sub (ws' := [(a0, .inr (12, [.int i0, .ref a1, .ref a2, .ref a3, .ref a4, .int i1, .ref a5, .int i2, .int i3, .int i4, .int i5, .int i6, .int i7, .int i8, .ref a6, .ref a7, .ref a8, .ref a9, .ref a10, .ref a11, .ref a12, .int i9, .ref a13, .int i10, .ref a14, .ref a15, .int i11, .ref a16, .ref a17, .ref a18, .ref a19, .int i12, .int i13, .int i14, .int i15, .int i16, .ref a20, .long j0, .ref a21, .ref a22, .ref a23, .ref a24])), (a21, .inl (cI, 4, .inl xF20)), (a22, .inl (cI, 4, .inl xF21)), (a23, .inl (cJ, 240, .inr (.inl xG22))), (a24, .inl (cJ, 60, .inr (.inl xG23)))]) [0, 1, 2, 3, 4] rfl
                      have hD9 := hD.sub (ws' := [(a0, .inr (12, [.int i0, .ref a1, .ref a2, .ref a3, .ref a4, .int i1, .ref a5, .int i2, .int i3, .int i4, .int i5, .int i6, .int i7, .int i8, .ref a6, .ref a7, .ref a8, .ref a9, .ref a10, .ref a11, .ref a12, .int i9, .ref a13, .int i10, .ref a14, .ref a15, .int i11, .ref a16, .ref a17, .ref a18, .ref a19, .int i12, .int i13, .int i14, .int i15, .int i16, .ref a20, .long j0, .ref a21, .ref a22, .ref a23, .ref a24])), (a21, .inl (cI, 4, .inl xF20)), (a22, .inl (cI, 4, .inl xF21)), (a23, .inl (cJ, 240, .inr (.inl xG22))), (a24, .inl (cJ, 60, .inr (.inl xG23)))]) [0, 1, 2, 3, 4] (by decide) rfl
                      rw [hQ]
                      exact W.iret (v := (-7)) hx hb hr (fun t ht hW => ⟨⟨(-7), (pickG 0 [], pickG (fun _ => 0) [], pickG (fun _ => 0) [xG22, xG23]), rfl, ⟨(show (-8 : Int) ≤ ((-7) : Int32).toInt ∧ ((-7) : Int32).toInt ≤ 0 from ⟨by omega, by omega⟩), trivial⟩, (by rw [ht]; exact hP9), hD9⟩, hS.F ht⟩) hS.2.2 dX12_paste_109
          · rw [ki_eq] at c21
            refine lv_bipush (v := (-8)) hx hb dX12_paste_55 (by decide) ?_
            have hP9 := hP.sub (ws' := [(a0, .inr (12, [.int i0, .ref a1, .ref a2, .ref a3, .ref a4, .int i1, .ref a5, .int i2, .int i3, .int i4, .int i5, .int i6, .int i7, .int i8, .ref a6, .ref a7, .ref a8, .ref a9, .ref a10, .ref a11, .ref a12, .int i9, .ref a13, .int i10, .ref a14, .ref a15, .int i11, .ref a16, .ref a17, .ref a18, .ref a19, .int i12, .int i13, .int i14, .int i15, .int i16, .ref a20, .long j0, .ref a21, .ref a22, .ref a23, .ref a24])), (a21, .inl (cI, 4, .inl xF20)), (a22, .inl (cI, 4, .inl xF21)), (a23, .inl (cJ, 240, .inr (.inl xG22))), (a24, .inl (cJ, 60, .inr (.inl xG23)))]) [0, 1, 2, 3, 4] rfl
            have hD9 := hD.sub (ws' := [(a0, .inr (12, [.int i0, .ref a1, .ref a2, .ref a3, .ref a4, .int i1, .ref a5, .int i2, .int i3, .int i4, .int i5, .int i6, .int i7, .int i8, .ref a6, .ref a7, .ref a8, .ref a9, .ref a10, .ref a11, .ref a12, .int i9, .ref a13, .int i10, .ref a14, .ref a15, .int i11, .ref a16, .ref a17, .ref a18, .ref a19, .int i12, .int i13, .int i14, .int i15, .int i16, .ref a20, .long j0, .ref a21, .ref a22, .ref a23, .ref a24])), (a21, .inl (cI, 4, .inl xF20)), (a22, .inl (cI, 4, .inl xF21)), (a23, .inl (cJ, 240, .inr (.inl xG22))), (a24, .inl (cJ, 60, .inr (.inl xG23)))]) [0, 1, 2, 3, 4] (by decide) rfl
            rw [hQ]
            exact W.iret (v := (-8)) hx hb hr (fun t ht hW => ⟨⟨(-8), (pickG 0 [], pickG (fun _ => 0) [], pickG (fun _ => 0) [xG22, xG23]), rfl, ⟨(show (-8 : Int) ≤ ((-8) : Int32).toInt ∧ ((-8) : Int32).toInt ≤ 0 from ⟨by omega, by omega⟩), trivial⟩, (by rw [ht]; exact hP9), hD9⟩, hS.F ht⟩) hS.2.2 dX12_paste_57
        · rw [ki_eq] at c16
          refine lv_bipush (v := (-6)) hx hb dX12_paste_37 (by decide) ?_
          have hP9 := hP.sub (ws' := [(a0, .inr (12, [.int i0, .ref a1, .ref a2, .ref a3, .ref a4, .int i1, .ref a5, .int i2, .int i3, .int i4, .int i5, .int i6, .int i7, .int i8, .ref a6, .ref a7, .ref a8, .ref a9, .ref a10, .ref a11, .ref a12, .int i9, .ref a13, .int i10, .ref a14, .ref a15, .int i11, .ref a16, .ref a17, .ref a18, .ref a19, .int i12, .int i13, .int i14, .int i15, .int i16, .ref a20, .long j0, .ref a21, .ref a22, .ref a23, .ref a24])), (a21, .inl (cI, 4, .inl xF20)), (a22, .inl (cI, 4, .inl xF21)), (a23, .inl (cJ, 240, .inr (.inl xG22))), (a24, .inl (cJ, 60, .inr (.inl xG23)))]) [0, 1, 2, 3, 4] rfl
          have hD9 := hD.sub (ws' := [(a0, .inr (12, [.int i0, .ref a1, .ref a2, .ref a3, .ref a4, .int i1, .ref a5, .int i2, .int i3, .int i4, .int i5, .int i6, .int i7, .int i8, .ref a6, .ref a7, .ref a8, .ref a9, .ref a10, .ref a11, .ref a12, .int i9, .ref a13, .int i10, .ref a14, .ref a15, .int i11, .ref a16, .ref a17, .ref a18, .ref a19, .int i12, .int i13, .int i14, .int i15, .int i16, .ref a20, .long j0, .ref a21, .ref a22, .ref a23, .ref a24])), (a21, .inl (cI, 4, .inl xF20)), (a22, .inl (cI, 4, .inl xF21)), (a23, .inl (cJ, 240, .inr (.inl xG22))), (a24, .inl (cJ, 60, .inr (.inl xG23)))]) [0, 1, 2, 3, 4] (by decide) rfl
          rw [hQ]
          exact W.iret (v := (-6)) hx hb hr (fun t ht hW => ⟨⟨(-6), (pickG 0 [], pickG (fun _ => 0) [], pickG (fun _ => 0) [xG22, xG23]), rfl, ⟨(show (-8 : Int) ≤ ((-6) : Int32).toInt ∧ ((-6) : Int32).toInt ≤ 0 from ⟨by omega, by omega⟩), trivial⟩, (by rw [ht]; exact hP9), hD9⟩, hS.F ht⟩) hS.2.2 dX12_paste_39
    · rw [ki_eq] at c10
      refine lv_bipush (v := (-2)) hx hb dX12_paste_14 (by decide) ?_
      have hP9 := hP.sub (ws' := [(a0, .inr (12, [.int i0, .ref a1, .ref a2, .ref a3, .ref a4, .int i1, .ref a5, .int i2, .int i3, .int i4, .int i5, .int i6, .int i7, .int i8, .ref a6, .ref a7, .ref a8, .ref a9, .ref a10, .ref a11, .ref a12, .int i9, .ref a13, .int i10, .ref a14, .ref a15, .int i11, .ref a16, .ref a17, .ref a18, .ref a19, .int i12, .int i13, .int i14, .int i15, .int i16, .ref a20, .long j0, .ref a21, .ref a22, .ref a23, .ref a24])), (a21, .inl (cI, 4, .inl xF20)), (a22, .inl (cI, 4, .inl xF21)), (a23, .inl (cJ, 240, .inr (.inl xG22))), (a24, .inl (cJ, 60, .inr (.inl xG23)))]) [0, 1, 2, 3, 4] rfl
      have hD9 := hD.sub (ws' := [(a0, .inr (12, [.int i0, .ref a1, .ref a2, .ref a3, .ref a4, .int i1, .ref a5, .int i2, .int i3, .int i4, .int i5, .int i6, .int i7, .int i8, .ref a6, .ref a7, .ref a8, .ref a9, .ref a10, .ref a11, .ref a12, .int i9, .ref a13, .int i10, .ref a14, .ref a15, .int i11, .ref a16, .ref a17, .ref a18, .ref a19, .int i12, .int i13, .int i14, .int i15, .int i16, .ref a20, .long j0, .ref a21, .ref a22, .ref a23, .ref a24])), (a21, .inl (cI, 4, .inl xF20)), (a22, .inl (cI, 4, .inl xF21)), (a23, .inl (cJ, 240, .inr (.inl xG22))), (a24, .inl (cJ, 60, .inr (.inl xG23)))]) [0, 1, 2, 3, 4] (by decide) rfl
      rw [hQ]
      exact W.iret (v := (-2)) hx hb hr (fun t ht hW => ⟨⟨(-2), (pickG 0 [], pickG (fun _ => 0) [], pickG (fun _ => 0) [xG22, xG23]), rfl, ⟨(show (-8 : Int) ≤ ((-2) : Int32).toInt ∧ ((-2) : Int32).toInt ≤ 0 from ⟨by omega, by omega⟩), trivial⟩, (by rw [ht]; exact hP9), hD9⟩, hS.F ht⟩) hS.2.2 dX12_paste_16
theorem dX12_asksMotions_0 : decode cX12_asksMotions 0 = .ok (.iload_n 1, 1) := by decide +kernel
theorem dX12_asksMotions_1 : decode cX12_asksMotions 1 = .ok (.invokestatic 414, 3) := by decide +kernel
theorem dX12_asksMotions_4 : decode cX12_asksMotions 4 = .ok (.ifCond .eq 10, 3) := by decide +kernel
theorem dX12_asksMotions_7 : decode cX12_asksMotions 7 = .ok (.aload_n 0, 1) := by decide +kernel
theorem dX12_asksMotions_8 : decode cX12_asksMotions 8 = .ok (.invokevirtual 248, 3) := by decide +kernel
theorem dX12_asksMotions_11 : decode cX12_asksMotions 11 = .ok (.ifCond .ne 6, 3) := by decide +kernel
theorem dX12_asksMotions_14 : decode cX12_asksMotions 14 = .ok (.bipush (-2), 2) := by decide +kernel
theorem dX12_asksMotions_16 : decode cX12_asksMotions 16 = .ok (.ireturn, 1) := by decide +kernel
theorem dX12_asksMotions_17 : decode cX12_asksMotions 17 = .ok (.aload_n 0, 1) := by decide +kernel
theorem dX12_asksMotions_18 : decode cX12_asksMotions 18 = .ok (.getfield 79, 3) := by decide +kernel
theorem dX12_asksMotions_21 : decode cX12_asksMotions 21 = .ok (.iload_n 1, 1) := by decide +kernel
theorem dX12_asksMotions_22 : decode cX12_asksMotions 22 = .ok (.iaload, 1) := by decide +kernel
theorem dX12_asksMotions_23 : decode cX12_asksMotions 23 = .ok (.iconst 1, 1) := by decide +kernel
theorem dX12_asksMotions_24 : decode cX12_asksMotions 24 = .ok (.if_icmp .ge 6, 3) := by decide +kernel
theorem dX12_asksMotions_27 : decode cX12_asksMotions 27 = .ok (.bipush (-6), 2) := by decide +kernel
theorem dX12_asksMotions_29 : decode cX12_asksMotions 29 = .ok (.ireturn, 1) := by decide +kernel
theorem dX12_asksMotions_30 : decode cX12_asksMotions 30 = .ok (.aload_n 0, 1) := by decide +kernel
theorem dX12_asksMotions_31 : decode cX12_asksMotions 31 = .ok (.getfield 79, 3) := by decide +kernel
theorem dX12_asksMotions_34 : decode cX12_asksMotions 34 = .ok (.iload_n 1, 1) := by decide +kernel
theorem dX12_asksMotions_35 : decode cX12_asksMotions 35 = .ok (.iaload, 1) := by decide +kernel
theorem dX12_asksMotions_36 : decode cX12_asksMotions 36 = .ok (.bipush 8, 2) := by decide +kernel
theorem dX12_asksMotions_38 : decode cX12_asksMotions 38 = .ok (.if_icmp .le 6, 3) := by decide +kernel
theorem dX12_asksMotions_41 : decode cX12_asksMotions 41 = .ok (.bipush (-2), 2) := by decide +kernel
theorem dX12_asksMotions_43 : decode cX12_asksMotions 43 = .ok (.ireturn, 1) := by decide +kernel
theorem dX12_asksMotions_44 : decode cX12_asksMotions 44 = .ok (.iconst 0, 1) := by decide +kernel
theorem dX12_asksMotions_45 : decode cX12_asksMotions 45 = .ok (.istore_n 2, 1) := by decide +kernel
theorem dX12_asksMotions_46 : decode cX12_asksMotions 46 = .ok (.iload_n 2, 1) := by decide +kernel
theorem dX12_asksMotions_47 : decode cX12_asksMotions 47 = .ok (.aload_n 0, 1) := by decide +kernel
theorem dX12_asksMotions_48 : decode cX12_asksMotions 48 = .ok (.getfield 79, 3) := by decide +kernel
theorem dX12_asksMotions_51 : decode cX12_asksMotions 51 = .ok (.iload_n 1, 1) := by decide +kernel
theorem dX12_asksMotions_52 : decode cX12_asksMotions 52 = .ok (.iaload, 1) := by decide +kernel
theorem dX12_asksMotions_53 : decode cX12_asksMotions 53 = .ok (.if_icmp .ge 37, 3) := by decide +kernel
theorem dX12_asksMotions_56 : decode cX12_asksMotions 56 = .ok (.aload_n 0, 1) := by decide +kernel
theorem dX12_asksMotions_57 : decode cX12_asksMotions 57 = .ok (.getfield 85, 3) := by decide +kernel
theorem dX12_asksMotions_60 : decode cX12_asksMotions 60 = .ok (.bipush 60, 2) := by decide +kernel
theorem dX12_asksMotions_62 : decode cX12_asksMotions 62 = .ok (.iload_n 1, 1) := by decide +kernel
theorem dX12_asksMotions_63 : decode cX12_asksMotions 63 = .ok (.imul, 1) := by decide +kernel
theorem dX12_asksMotions_64 : decode cX12_asksMotions 64 = .ok (.iload_n 2, 1) := by decide +kernel
theorem dX12_asksMotions_65 : decode cX12_asksMotions 65 = .ok (.iadd, 1) := by decide +kernel
theorem dX12_asksMotions_66 : decode cX12_asksMotions 66 = .ok (.laload, 1) := by decide +kernel
theorem dX12_asksMotions_67 : decode cX12_asksMotions 67 = .ok (.lconst 1, 1) := by decide +kernel
theorem dX12_asksMotions_68 : decode cX12_asksMotions 68 = .ok (.aload_n 0, 1) := by decide +kernel
theorem dX12_asksMotions_69 : decode cX12_asksMotions 69 = .ok (.getfield 13, 3) := by decide +kernel
theorem dX12_asksMotions_72 : decode cX12_asksMotions 72 = .ok (.iconst 1, 1) := by decide +kernel
theorem dX12_asksMotions_73 : decode cX12_asksMotions 73 = .ok (.iaload, 1) := by decide +kernel
theorem dX12_asksMotions_74 : decode cX12_asksMotions 74 = .ok (.i2l, 1) := by decide +kernel
theorem dX12_asksMotions_75 : decode cX12_asksMotions 75 = .ok (.invokestatic 98, 3) := by decide +kernel
theorem dX12_asksMotions_78 : decode cX12_asksMotions 78 = .ok (.ifCond .ne 6, 3) := by decide +kernel
theorem dX12_asksMotions_81 : decode cX12_asksMotions 81 = .ok (.bipush (-2), 2) := by decide +kernel
theorem dX12_asksMotions_83 : decode cX12_asksMotions 83 = .ok (.ireturn, 1) := by decide +kernel
theorem dX12_asksMotions_84 : decode cX12_asksMotions 84 = .ok (.iinc 2 1, 3) := by decide +kernel
theorem dX12_asksMotions_87 : decode cX12_asksMotions 87 = .ok (.goto (-41), 3) := by decide +kernel
theorem dX12_asksMotions_90 : decode cX12_asksMotions 90 = .ok (.iconst 0, 1) := by decide +kernel
theorem dX12_asksMotions_91 : decode cX12_asksMotions 91 = .ok (.ireturn, 1) := by decide +kernel
set_option maxHeartbeats 4000000 in
set_option maxRecDepth 100000 in
theorem s_X12_asksMotions (l : Launch) (dC : Nat → ClassId) (dI : Nat → Nat → Nat) (cI cZ cB cJ cM cG : ClassId) (a0 a1 a2 a3 a4 a5 a6 a7 a8 a9 a10 a11 a12 a13 a14 a15 a16 a17 a18 a19 a20 a21 a22 a23 a24 : Nat) (i0 i1 i2 i3 i4 i5 i6 i7 i8 i9 i10 i11 i12 i13 i14 i15 i16 : Int32) (j0 : Int64) (xF0 xF20 : Nat → Int32) (xG22 : Nat → Int64) (p0 : Int32) (cp : Int) (sz : Nat) (p_0 : (0 : Int) ≤ i1.toInt ∧ i1.toInt ≤ 1600) (p_1 : (0 : Int) ≤ i2.toInt ∧ i2.toInt ≤ 1600) (p_2 : (0 : Int) ≤ i3.toInt ∧ i3.toInt ≤ 1600) (p_3 : (0 : Int) ≤ i4.toInt ∧ i4.toInt ≤ 1600) (p_4 : (0 : Int) ≤ i5.toInt ∧ i5.toInt ≤ 6) (p_5 : (0 : Int) ≤ i7.toInt ∧ i7.toInt ≤ 3) (p_6 : (0 : Int) ≤ i11.toInt ∧ i11.toInt ≤ 59) (p_7 : WI cp xF0) (p_8 : rng xF20 4 (-1) 60) (p_9 : MI xF20) (p_10 : 0 ≤ cp ∧ cp ≤ 2000000000) : Met l yX12_asksMotions (kw yX12_asksMotions cX12_asksMotions 3 (some .int)) ({ frames := 2, cells := 0, slots := 0, locals := 45 } : Room) (va_Pc [.ref a0, .int p0] (kPre dC dI [(cI, .int), (cZ, .boolean), (cB, .byte), (cJ, .long), (cM, .object RX2), (cG, .array .int)] [(a0, .inr (12, [.int i0, .ref a1, .ref a2, .ref a3, .ref a4, .int i1, .ref a5, .int i2, .int i3, .int i4, .int i5, .int i6, .int i7, .int i8, .ref a6, .ref a7, .ref a8, .ref a9, .ref a10, .ref a11, .ref a12, .int i9, .ref a13, .int i10, .ref a14, .ref a15, .int i11, .ref a16, .ref a17, .ref a18, .ref a19, .int i12, .int i13, .int i14, .int i15, .int i16, .ref a20, .long j0, .ref a21, .ref a22, .ref a23, .ref a24])), (a1, .inl (cI, 544, .inl xF0)), (a21, .inl (cI, 4, .inl xF20)), (a23, .inl (cJ, 240, .inr (.inl xG22)))] sz)) (va_Qi (fun (r : Int32) (u9 : Unit) => ((-6 : Int) ≤ r.toInt ∧ r.toInt ≤ 0) ∧ ((r.toInt ≥ 0 → p0.toInt ≥ 0 ∧ p0.toInt ≤ 3 ∧ 1 ≤ wat xF0 1 ∧ 1 ≤ (xF20 p0.toInt.toNat).toInt ∧ (xF20 p0.toInt.toNat).toInt ≤ 8 ∧ NB (wat xF0 1) xG22 p0.toInt (xF20 p0.toInt.toNat).toInt)) ∧ True) (fun u9 t => va_P (dC, dI) vwCl [(a0, .inr (12, [.int i0, .ref a1, .ref a2, .ref a3, .ref a4, .int i1, .ref a5, .int i2, .int i3, .int i4, .int i5, .int i6, .int i7, .int i8, .ref a6, .ref a7, .ref a8, .ref a9, .ref a10, .ref a11, .ref a12, .int i9, .ref a13, .int i10, .ref a14, .ref a15, .int i11, .ref a16, .ref a17, .ref a18, .ref a19, .int i12, .int i13, .int i14, .int i15, .int i16, .ref a20, .long j0, .ref a21, .ref a22, .ref a23, .ref a24])), (a1, .inl (cI, 544, .inl xF0)), (a21, .inl (cI, 4, .inl xF20)), (a23, .inl (cJ, 240, .inr (.inl xG22)))] t.heap ∧ va_D (va_A [(a0, .inr (12, [.int i0, .ref a1, .ref a2, .ref a3, .ref a4, .int i1, .ref a5, .int i2, .int i3, .int i4, .int i5, .int i6, .int i7, .int i8, .ref a6, .ref a7, .ref a8, .ref a9, .ref a10, .ref a11, .ref a12, .int i9, .ref a13, .int i10, .ref a14, .ref a15, .int i11, .ref a16, .ref a17, .ref a18, .ref a19, .int i12, .int i13, .int i14, .int i15, .int i16, .ref a20, .long j0, .ref a21, .ref a22, .ref a23, .ref a24])), (a1, .inl (cI, 544, .inl xF0)), (a21, .inl (cI, 4, .inl xF20)), (a23, .inl (cJ, 240, .inr (.inl xG22)))] sz) [(a0, .inr (12, [.int i0, .ref a1, .ref a2, .ref a3, .ref a4, .int i1, .ref a5, .int i2, .int i3, .int i4, .int i5, .int i6, .int i7, .int i8, .ref a6, .ref a7, .ref a8, .ref a9, .ref a10, .ref a11, .ref a12, .int i9, .ref a13, .int i10, .ref a14, .ref a15, .int i11, .ref a16, .ref a17, .ref a18, .ref a19, .int i12, .int i13, .int i14, .int i15, .int i16, .ref a20, .long j0, .ref a21, .ref a22, .ref a23, .ref a24])), (a1, .inl (cI, 544, .inl xF0)), (a21, .inl (cI, 4, .inl xF20)), (a23, .inl (cJ, 240, .inr (.inl xG22)))]) (va_A [(a0, .inr (12, [.int i0, .ref a1, .ref a2, .ref a3, .ref a4, .int i1, .ref a5, .int i2, .int i3, .int i4, .int i5, .int i6, .int i7, .int i8, .ref a6, .ref a7, .ref a8, .ref a9, .ref a10, .ref a11, .ref a12, .int i9, .ref a13, .int i10, .ref a14, .ref a15, .int i11, .ref a16, .ref a17, .ref a18, .ref a19, .int i12, .int i13, .int i14, .int i15, .int i16, .ref a20, .long j0, .ref a21, .ref a22, .ref a23, .ref a24])), (a1, .inl (cI, 544, .inl xF0)), (a21, .inl (cI, 4, .inl xF20)), (a23, .inl (cJ, 240, .inr (.inl xG22)))] sz)) 0 0 (va_A [(a0, .inr (12, [.int i0, .ref a1, .ref a2, .ref a3, .ref a4, .int i1, .ref a5, .int i2, .int i3, .int i4, .int i5, .int i6, .int i7, .int i8, .ref a6, .ref a7, .ref a8, .ref a9, .ref a10, .ref a11, .ref a12, .int i9, .ref a13, .int i10, .ref a14, .ref a15, .int i11, .ref a16, .ref a17, .ref a18, .ref a19, .int i12, .int i13, .int i14, .int i15, .int i16, .ref a20, .long j0, .ref a21, .ref a22, .ref a23, .ref a24])), (a1, .inl (cI, 544, .inl xF0)), (a21, .inl (cI, 4, .inl xF20)), (a23, .inl (cJ, 240, .inr (.inl xG22)))] sz) := by
  refine kEnter (by decide) (Nat.le_of_ble_eq_true rfl) ?_
  intro p e s m below meth c ls hx hb hr hml hown hlocks hin hwd hsz hP hK hD hl
  subst hsz
  generalize hAe : va_A [(a0, .inr (12, [.int i0, .ref a1, .ref a2, .ref a3, .ref a4, .int i1, .ref a5, .int i2, .int i3, .int i4, .int i5, .int i6, .int i7, .int i8, .ref a6, .ref a7, .ref a8, .ref a9, .ref a10, .ref a11, .ref a12, .int i9, .ref a13, .int i10, .ref a14, .ref a15, .int i11, .ref a16, .ref a17, .ref a18, .ref a19, .int i12, .int i13, .int i14, .int i15, .int i16, .ref a20, .long j0, .ref a21, .ref a22, .ref a23, .ref a24])), (a1, .inl (cI, 544, .inl xF0)), (a21, .inl (cI, 4, .inl xF20)), (a23, .inl (cJ, 240, .inr (.inl xG22)))] s.heap.size = A at hD ⊢
  have hA : ∀ q : Nat, s.heap.size ≤ q → A q := fun q h => by rw [← hAe]; exact Or.inr h
  have hS : va_S A s.heap s.heap [] := va_S.rf
  have hl : lv_has ls 3 [(0, .ref a0), (1, .int p0)] := hl
  obtain ⟨Q, hQ⟩ : ∃ Q, Q = MQ below (va_Qi (fun (r : Int32) (u9 : Unit) => ((-6 : Int) ≤ r.toInt ∧ r.toInt ≤ 0) ∧ ((r.toInt ≥ 0 → p0.toInt ≥ 0 ∧ p0.toInt ≤ 3 ∧ 1 ≤ wat xF0 1 ∧ 1 ≤ (xF20 p0.toInt.toNat).toInt ∧ (xF20 p0.toInt.toNat).toInt ≤ 8 ∧ NB (wat xF0 1) xG22 p0.toInt (xF20 p0.toInt.toNat).toInt)) ∧ True) (fun u9 t => va_P (dC, dI) vwCl [(a0, .inr (12, [.int i0, .ref a1, .ref a2, .ref a3, .ref a4, .int i1, .ref a5, .int i2, .int i3, .int i4, .int i5, .int i6, .int i7, .int i8, .ref a6, .ref a7, .ref a8, .ref a9, .ref a10, .ref a11, .ref a12, .int i9, .ref a13, .int i10, .ref a14, .ref a15, .int i11, .ref a16, .ref a17, .ref a18, .ref a19, .int i12, .int i13, .int i14, .int i15, .int i16, .ref a20, .long j0, .ref a21, .ref a22, .ref a23, .ref a24])), (a1, .inl (cI, 544, .inl xF0)), (a21, .inl (cI, 4, .inl xF20)), (a23, .inl (cJ, 240, .inr (.inl xG22)))] t.heap ∧ va_D A [(a0, .inr (12, [.int i0, .ref a1, .ref a2, .ref a3, .ref a4, .int i1, .ref a5, .int i2, .int i3, .int i4, .int i5, .int i6, .int i7, .int i8, .ref a6, .ref a7, .ref a8, .ref a9, .ref a10, .ref a11, .ref a12, .int i9, .ref a13, .int i10, .ref a14, .ref a15, .int i11, .ref a16, .ref a17, .ref a18, .ref a19, .int i12, .int i13, .int i14, .int i15, .int i16, .ref a20, .long j0, .ref a21, .ref a22, .ref a23, .ref a24])), (a1, .inl (cI, 544, .inl xF0)), (a21, .inl (cI, 4, .inl xF20)), (a23, .inl (cJ, 240, .inr (.inl xG22)))]) A) ([.ref a0, .int p0] : List Value).toArray s 0 0 A := ⟨_, rfl⟩
  rw [← hQ]
  have km6 : ((-6) : Int32).toInt = -6 := by decide
  have km2 : ((-2) : Int32).toInt = -2 := by decide
  have k0 : (0 : Int32).toInt = 0 := by decide
  have k1 : (1 : Int32).toInt = 1 := by decide
  have k3 : (3 : Int32).toInt = 3 := by decide
  have k8 : (8 : Int32).toInt = 8 := by decide
  have k60 : (60 : Int32).toInt = 60 := by decide
  refine lv_iload_n hx hb dX12_asksMotions_0 rfl (lv_at hl 1 rfl) ?_
  have hPc := hP.sub (ws' := []) [] rfl
  have hDc := hD.sub (ws' := []) [] (by decide) rfl
  have hFc := va_free (wc := []) hD hS hA [] rfl
  refine va_calli (va_runS (As := [.int p0]) (rest := []) ⟨hx, hb, hml, hown, hwd⟩ (s_X12_isSlot l dC dI cI cZ cB cJ cM cG p0 s.heap.size) (cwS 1 hwd (gS kr65_0 kr65_1 kr5_23 kr65_2) rfl rfl rfl (by decide +kernel) ⟨Nat.le_of_ble_eq_true rfl, Nat.le_of_ble_eq_true rfl⟩) (kPreS hPc hK hDc) rfl rfl hl.1 rfl (lv_room (Nat.le_of_ble_eq_true rfl)) dX12_asksMotions_1 ⟨Nat.le_of_ble_eq_true rfl, Nat.le_of_ble_eq_true rfl⟩) hS (fun q _ h => hFc q h) hFc (fun r1 u2 t H1 locs ht9 hvm hw hB hz1 hk1 hS => ?_)
  obtain ⟨hw3, hw4, -⟩ := hw
  replace hw3 : (0 : Int) ≤ r1.toInt ∧ r1.toInt ≤ 1 := hw3
  obtain ⟨hP1, hD1⟩ := hB
  rw [ht9] at hP1
  obtain ⟨hP, hD⟩ := va_join (wr := [(a0, .inr (12, [.int i0, .ref a1, .ref a2, .ref a3, .ref a4, .int i1, .ref a5, .int i2, .int i3, .int i4, .int i5, .int i6, .int i7, .int i8, .ref a6, .ref a7, .ref a8, .ref a9, .ref a10, .ref a11, .ref a12, .int i9, .ref a13, .int i10, .ref a14, .ref a15, .int i11, .ref a16, .ref a17, .ref a18, .ref a19, .int i12, .int i13, .int i14, .int i15, .int i16, .ref a20, .long j0, .ref a21, .ref a22, .ref a23, .ref a24])), (a1, .inl (cI, 544, .inl xF0)), (a21, .inl (cI, 4, .inl xF20)), (a23, .inl (cJ, 240, .inr (.inl xG22)))]) (w1 := []) hP hD [] [0, 1, 2, 3] rfl rfl (by decide) (by decide) hk1 hFc hP1 hD1
  generalize H1 = H at hP hS ⊢
  replace hP : va_P (dC, dI) vwCl [(a0, .inr (12, [.int i0, .ref a1, .ref a2, .ref a3, .ref a4, .int i1, .ref a5, .int i2, .int i3, .int i4, .int i5, .int i6, .int i7, .int i8, .ref a6, .ref a7, .ref a8, .ref a9, .ref a10, .ref a11, .ref a12, .int i9, .ref a13, .int i10, .ref a14, .ref a15, .int i11, .ref a16, .ref a17, .ref a18, .ref a19, .int i12, .int i13, .int i14, .int i15, .int i16, .ref a20, .long j0, .ref a21, .ref a22, .ref a23, .ref a24])), (a1, .inl (cI, 544, .inl xF0)), (a21, .inl (cI, 4, .inl xF20)), (a23, .inl (cJ, 240, .inr (.inl xG22)))] H := hP
  replace hD : va_D A [(a0, .inr (12, [.int i0, .ref a1, .ref a2, .ref a3, .ref a4, .int i1, .ref a5, .int i2, .int i3, .int i4, .int i5, .int i6, .int i7, .int i8, .ref a6, .ref a7, .ref a8, .ref a9, .ref a10, .ref a11, .ref a12, .int i9, .ref a13, .int i10, .ref a14, .ref a15, .int i11, .ref a16, .ref a17, .ref a18, .ref a19, .int i12, .int i13, .int i14, .int i15, .int i16, .ref a20, .long j0, .ref a21, .ref a22, .ref a23, .ref a24])), (a1, .inl (cI, 544, .inl xF0)), (a21, .inl (cI, 4, .inl xF20)), (a23, .inl (cJ, 240, .inr (.inl xG22)))] := hD
  refine lv_if_eq (tgt := 14) hx hb dX12_asksMotions_4 (by decide) (fun c5 => ?_) (fun c5 => ?_)
  · rw [ki_eq] at c5
    refine lv_bipush (v := (-2)) hx hb dX12_asksMotions_14 (by decide) ?_
    have hP9 := hP.sub (ws' := [(a0, .inr (12, [.int i0, .ref a1, .ref a2, .ref a3, .ref a4, .int i1, .ref a5, .int i2, .int i3, .int i4, .int i5, .int i6, .int i7, .int i8, .ref a6, .ref a7, .ref a8, .ref a9, .ref a10, .ref a11, .ref a12, .int i9, .ref a13, .int i10, .ref a14, .ref a15, .int i11, .ref a16, .ref a17, .ref a18, .ref a19, .int i12, .int i13, .int i14, .int i15, .int i16, .ref a20, .long j0, .ref a21, .ref a22, .ref a23, .ref a24])), (a1, .inl (cI, 544, .inl xF0)), (a21, .inl (cI, 4, .inl xF20)), (a23, .inl (cJ, 240, .inr (.inl xG22)))]) [0, 1, 2, 3] rfl
    have hD9 := hD.sub (ws' := [(a0, .inr (12, [.int i0, .ref a1, .ref a2, .ref a3, .ref a4, .int i1, .ref a5, .int i2, .int i3, .int i4, .int i5, .int i6, .int i7, .int i8, .ref a6, .ref a7, .ref a8, .ref a9, .ref a10, .ref a11, .ref a12, .int i9, .ref a13, .int i10, .ref a14, .ref a15, .int i11, .ref a16, .ref a17, .ref a18, .ref a19, .int i12, .int i13, .int i14, .int i15, .int i16, .ref a20, .long j0, .ref a21, .ref a22, .ref a23, .ref a24])), (a1, .inl (cI, 544, .inl xF0)), (a21, .inl (cI, 4, .inl xF20)), (a23, .inl (cJ, 240, .inr (.inl xG22)))]) [0, 1, 2, 3] (by decide) rfl
    rw [hQ]
    exact W.iret (v := (-2)) hx hb hr (fun t ht hW => ⟨⟨(-2), (), rfl, ⟨(show (-6 : Int) ≤ ((-2) : Int32).toInt ∧ ((-2) : Int32).toInt ≤ 0 from ⟨by omega, by omega⟩), (show (((-2) : Int32).toInt ≥ 0 → p0.toInt ≥ 0 ∧ p0.toInt ≤ 3 ∧ 1 ≤ wat xF0 1 ∧ 1 ≤ (xF20 p0.toInt.toNat).toInt ∧ (xF20 p0.toInt.toNat).toInt ≤ 8 ∧ NB (wat xF0 1) xG22 p0.toInt (xF20 p0.toInt.toNat).toInt) from fun h9 => by exfalso; omega), trivial⟩, (by rw [ht]; exact hP9), hD9⟩, hS.F ht⟩) hS.2.2 dX12_asksMotions_16
  · rw [ki_eq] at c5
    have hw4q := hw4 (by omega)
    clear hw4
    refine lv_aload_n hx hb dX12_asksMotions_7 rfl (lv_at hl 0 rfl) ?_
    have hPc := hP.sub (ws' := [(a0, .inr (12, [.int i0, .ref a1, .ref a2, .ref a3, .ref a4, .int i1, .ref a5, .int i2, .int i3, .int i4, .int i5, .int i6, .int i7, .int i8, .ref a6, .ref a7, .ref a8, .ref a9, .ref a10, .ref a11, .ref a12, .int i9, .ref a13, .int i10, .ref a14, .ref a15, .int i11, .ref a16, .ref a17, .ref a18, .ref a19, .int i12, .int i13, .int i14, .int i15, .int i16, .ref a20, .long j0, .ref a21, .ref a22, .ref a23, .ref a24])), (a1, .inl (cI, 544, .inl xF0))]) [0, 1] rfl
    have hDc := hD.sub (ws' := [(a0, .inr (12, [.int i0, .ref a1, .ref a2, .ref a3, .ref a4, .int i1, .ref a5, .int i2, .int i3, .int i4, .int i5, .int i6, .int i7, .int i8, .ref a6, .ref a7, .ref a8, .ref a9, .ref a10, .ref a11, .ref a12, .int i9, .ref a13, .int i10, .ref a14, .ref a15, .int i11, .ref a16, .ref a17, .ref a18, .ref a19, .int i12, .int i13, .int i14, .int i15, .int i16, .ref a20, .long j0, .ref a21, .ref a22, .ref a23, .ref a24])), (a1, .inl (cI, 544, .inl xF0))]) [0, 1] (by decide) rfl
    have hFc := va_free (wc := [(a0, .inr (12, [.int i0, .ref a1, .ref a2, .ref a3, .ref a4, .int i1, .ref a5, .int i2, .int i3, .int i4, .int i5, .int i6, .int i7, .int i8, .ref a6, .ref a7, .ref a8, .ref a9, .ref a10, .ref a11, .ref a12, .int i9, .ref a13, .int i10, .ref a14, .ref a15, .int i11, .ref a16, .ref a17, .ref a18, .ref a19, .int i12, .int i13, .int i14, .int i15, .int i16, .ref a20, .long j0, .ref a21, .ref a22, .ref a23, .ref a24])), (a1, .inl (cI, 544, .inl xF0))]) hD hS hA [0, 1] rfl
    refine va_calli (va_runV (As := []) (rest := []) ⟨hx, hb, hml, hown, hwd⟩ (s_X12_isDrum l dC dI cI cZ cB cJ cM cG a0 a1 a2 a3 a4 a5 a6 a7 a8 a9 a10 a11 a12 a13 a14 a15 a16 a17 a18 a19 a20 a21 a22 a23 a24 i0 i1 i2 i3 i4 i5 i6 i7 i8 i9 i10 i11 i12 i13 i14 i15 i16 j0 xF0 cp H.size (show (0 : Int) ≤ i1.toInt ∧ i1.toInt ≤ 1600 from p_0) (show (0 : Int) ≤ i2.toInt ∧ i2.toInt ≤ 1600 from p_1) (show (0 : Int) ≤ i3.toInt ∧ i3.toInt ≤ 1600 from p_2) (show (0 : Int) ≤ i4.toInt ∧ i4.toInt ≤ 1600 from p_3) (show (0 : Int) ≤ i5.toInt ∧ i5.toInt ≤ 6 from p_4) (show (0 : Int) ≤ i7.toInt ∧ i7.toInt ≤ 3 from p_5) (show (0 : Int) ≤ i11.toInt ∧ i11.toInt ≤ 59 from p_6) (show WI cp xF0 from p_7) p_10) (cwV 0 hwd (gV kr54_10 kr54_11 kr3_7 kr5_23 kr54_12) rfl rfl rfl (by decide +kernel) ⟨Nat.le_of_ble_eq_true rfl, Nat.le_of_ble_eq_true rfl⟩) (kPreV hPc hK hDc (ci := 12) (q0 := 0) rfl rfl) rfl rfl hl.1 rfl (lv_room (Nat.le_of_ble_eq_true rfl)) dX12_asksMotions_8 ⟨Nat.le_of_ble_eq_true rfl, Nat.le_of_ble_eq_true rfl⟩) hS (fun q _ h => hFc q h) hFc (fun r6 u7 t H1 locs ht9 hvm hw hB hz1 hk1 hS => ?_)
    obtain ⟨hw8, hw9, -⟩ := hw
    replace hw8 : (0 : Int) ≤ r6.toInt ∧ r6.toInt ≤ 1 := hw8
    obtain ⟨hP1, hD1⟩ := hB
    rw [ht9] at hP1
    obtain ⟨hP, hD⟩ := va_join (wr := [(a21, .inl (cI, 4, .inl xF20)), (a23, .inl (cJ, 240, .inr (.inl xG22)))]) (w1 := [(a0, .inr (12, [.int i0, .ref a1, .ref a2, .ref a3, .ref a4, .int i1, .ref a5, .int i2, .int i3, .int i4, .int i5, .int i6, .int i7, .int i8, .ref a6, .ref a7, .ref a8, .ref a9, .ref a10, .ref a11, .ref a12, .int i9, .ref a13, .int i10, .ref a14, .ref a15, .int i11, .ref a16, .ref a17, .ref a18, .ref a19, .int i12, .int i13, .int i14, .int i15, .int i16, .ref a20, .long j0, .ref a21, .ref a22, .ref a23, .ref a24])), (a1, .inl (cI, 544, .inl xF0))]) hP hD [0, 1] [2, 3] rfl rfl (by decide) (by decide) hk1 hFc hP1 hD1
    generalize H1 = H at hP hS ⊢
    replace hP : va_P (dC, dI) vwCl [(a21, .inl (cI, 4, .inl xF20)), (a23, .inl (cJ, 240, .inr (.inl xG22))), (a0, .inr (12, [.int i0, .ref a1, .ref a2, .ref a3, .ref a4, .int i1, .ref a5, .int i2, .int i3, .int i4, .int i5, .int i6, .int i7, .int i8, .ref a6, .ref a7, .ref a8, .ref a9, .ref a10, .ref a11, .ref a12, .int i9, .ref a13, .int i10, .ref a14, .ref a15, .int i11, .ref a16, .ref a17, .ref a18, .ref a19, .int i12, .int i13, .int i14, .int i15, .int i16, .ref a20, .long j0, .ref a21, .ref a22, .ref a23, .ref a24])), (a1, .inl (cI, 544, .inl xF0))] H := hP
    replace hD : va_D A [(a21, .inl (cI, 4, .inl xF20)), (a23, .inl (cJ, 240, .inr (.inl xG22))), (a0, .inr (12, [.int i0, .ref a1, .ref a2, .ref a3, .ref a4, .int i1, .ref a5, .int i2, .int i3, .int i4, .int i5, .int i6, .int i7, .int i8, .ref a6, .ref a7, .ref a8, .ref a9, .ref a10, .ref a11, .ref a12, .int i9, .ref a13, .int i10, .ref a14, .ref a15, .int i11, .ref a16, .ref a17, .ref a18, .ref a19, .int i12, .int i13, .int i14, .int i15, .int i16, .ref a20, .long j0, .ref a21, .ref a22, .ref a23, .ref a24])), (a1, .inl (cI, 544, .inl xF0))] := hD
    refine lv_if_ne (tgt := 17) hx hb dX12_asksMotions_11 (by decide) (fun c10 => ?_) (fun c10 => ?_)
    · rw [ki_eq] at c10
      have hw9q := hw9 (by omega)
      clear hw9
      refine lv_aload_n hx hb dX12_asksMotions_17 rfl (lv_at hl 0 rfl) ?_
      refine va_get (D := (dC, dI)) (ci := 12) (v := .ref a21) (C := RX12) (T := TX12) (N := 42) hx hb hwd inlX12 hown hK hP 2 rfl rfl 38 (by decide) (hwd _ kr50_15) (fun _ h9 => h9) rfl dX12_asksMotions_18 ?_
      refine lv_iload_n hx hb dX12_asksMotions_21 rfl (lv_at hl 1 rfl) ?_
      have h11 : vp_in p0 4 := (vp_of (by omega) (by omega))
      refine va_iald hx hb hK hP 0 0 rfl rfl h11 dX12_asksMotions_22 ?_
      refine lv_topi (fun x12 ex12 => ?_)
      have ix12 : x12.toInt = (xF20 p0.toInt.toNat).toInt := by rw [ex12]; rfl
      have tx12 : (-1 : Int) ≤ x12.toInt ∧ x12.toInt ≤ 60 := by rw [ex12]; exact p_8 _ (vp_nat h11)
      refine lv_iconst (v := 1) hx hb dX12_asksMotions_23 (by decide) ?_
      refine lv_icmp_ge (tgt := 30) hx hb dX12_asksMotions_24 (by decide) (fun c13 => ?_) (fun c13 => ?_)
      · rw [ki_le] at c13
        refine lv_aload_n hx hb dX12_asksMotions_30 rfl (lv_at hl 0 rfl) ?_
        refine va_get (D := (dC, dI)) (ci := 12) (v := .ref a21) (C := RX12) (T := TX12) (N := 42) hx hb hwd inlX12 hown hK hP 2 rfl rfl 38 (by decide) (hwd _ kr50_15) (fun _ h9 => h9) rfl dX12_asksMotions_31 ?_
        refine lv_iload_n hx hb dX12_asksMotions_34 rfl (lv_at hl 1 rfl) ?_
        have h14 : vp_in p0 4 := (vp_of (by omega) (by omega))
        refine va_iald hx hb hK hP 0 0 rfl rfl h14 dX12_asksMotions_35 ?_
        refine lv_topi (nm_r (e' := x12) ex12.symm ?_)
        refine lv_bipush (v := 8) hx hb dX12_asksMotions_36 (by decide) ?_
        refine lv_icmp_le (tgt := 44) hx hb dX12_asksMotions_38 (by decide) (fun c15 => ?_) (fun c15 => ?_)
        · rw [ki_le] at c15
          refine lv_iconst (v := 0) hx hb dX12_asksMotions_44 (by decide) ?_
          refine lv_istore_n (lv' := [(2, .int 0), (0, .ref a0), (1, .int p0)]) hx hb dX12_asksMotions_45 rfl hl (by decide) rfl (fun ls hl => ?_)
          have lp1 : ∀ (d : Nat), ∀ (H : Heap) (locs : List Loc) (ls : Array Slot) (w2_1 : Int32), ((0 : Int) ≤ w2_1.toInt ∧ w2_1.toInt ≤ 8) → (NB (wat xF0 1) xG22 p0.toInt w2_1.toInt) → (8 - w2_1.toInt).toNat < d → va_P (dC, dI) vwCl [(a21, .inl (cI, 4, .inl xF20)), (a23, .inl (cJ, 240, .inr (.inl xG22))), (a0, .inr (12, [.int i0, .ref a1, .ref a2, .ref a3, .ref a4, .int i1, .ref a5, .int i2, .int i3, .int i4, .int i5, .int i6, .int i7, .int i8, .ref a6, .ref a7, .ref a8, .ref a9, .ref a10, .ref a11, .ref a12, .int i9, .ref a13, .int i10, .ref a14, .ref a15, .int i11, .ref a16, .ref a17, .ref a18, .ref a19, .int i12, .int i13, .int i14, .int i15, .int i16, .ref a20, .long j0, .ref a21, .ref a22, .ref a23, .ref a24])), (a1, .inl (cI, 544, .inl xF0))] H → va_D A [(a21, .inl (cI, 4, .inl xF20)), (a23, .inl (cJ, 240, .inr (.inl xG22))), (a0, .inr (12, [.int i0, .ref a1, .ref a2, .ref a3, .ref a4, .int i1, .ref a5, .int i2, .int i3, .int i4, .int i5, .int i6, .int i7, .int i8, .ref a6, .ref a7, .ref a8, .ref a9, .ref a10, .ref a11, .ref a12, .int i9, .ref a13, .int i10, .ref a14, .ref a15, .int i11, .ref a16, .ref a17, .ref a18, .ref a19, .int i12, .int i13, .int i14, .int i15, .int i16, .ref a20, .long j0, .ref a21, .ref a22, .ref a23, .ref a24])), (a1, .inl (cI, 544, .inl xF0))] → va_S A s.heap H locs → lv_has ls 3 [(0, .ref a0), (1, .int p0), (2, .int w2_1)] → W p l e ({ frames := 2, cells := 0, slots := 0, locals := 45 } : Room) s m ([.ref a0, .int p0] : List Value).toArray below meth c H locs 0 0 Q (F0 m 46 ls []) := by
            intro d
            induction d with
            | zero =>
              intro H locs ls w2_1 hr_w2_1 hrl0_1 hm hP hD hS hl
              omega
            | succ d ih1 =>
              intro H locs ls w2_1 hr_w2_1 hrl0_1 hm hP hD hS hl
              refine lv_iload_n hx hb dX12_asksMotions_46 rfl (lv_at hl 2 rfl) ?_
              refine lv_aload_n hx hb dX12_asksMotions_47 rfl (lv_at hl 0 rfl) ?_
              refine va_get (D := (dC, dI)) (ci := 12) (v := .ref a21) (C := RX12) (T := TX12) (N := 42) hx hb hwd inlX12 hown hK hP 2 rfl rfl 38 (by decide) (hwd _ kr50_15) (fun _ h9 => h9) rfl dX12_asksMotions_48 ?_
              refine lv_iload_n hx hb dX12_asksMotions_51 rfl (lv_at hl 1 rfl) ?_
              have h95 : vp_in p0 4 := (vp_of (by omega) (by omega))
              refine va_iald hx hb hK hP 0 0 rfl rfl h95 dX12_asksMotions_52 ?_
              refine lv_topi (nm_r (e' := x12) ex12.symm ?_)
              refine lv_icmp_ge (tgt := 90) hx hb dX12_asksMotions_53 (by decide) (fun c96 => ?_) (fun c96 => ?_)
              · rw [ki_le] at c96
                refine lv_iconst (v := 0) hx hb dX12_asksMotions_90 (by decide) ?_
                have hP9 := hP.sub (ws' := [(a0, .inr (12, [.int i0, .ref a1, .ref a2, .ref a3, .ref a4, .int i1, .ref a5, .int i2, .int i3, .int i4, .int i5, .int i6, .int i7, .int i8, .ref a6, .ref a7, .ref a8, .ref a9, .ref a10, .ref a11, .ref a12, .int i9, .ref a13, .int i10, .ref a14, .ref a15, .int i11, .ref a16, .ref a17, .ref a18, .ref a19, .int i12, .int i13, .int i14, .int i15, .int i16, .ref a20, .long j0, .ref a21, .ref a22, .ref a23, .ref a24])), (a1, .inl (cI, 544, .inl xF0)), (a21, .inl (cI, 4, .inl xF20)), (a23, .inl (cJ, 240, .inr (.inl xG22)))]) [2, 3, 0, 1] rfl
                have hD9 := hD.sub (ws' := [(a0, .inr (12, [.int i0, .ref a1, .ref a2, .ref a3, .ref a4, .int i1, .ref a5, .int i2, .int i3, .int i4, .int i5, .int i6, .int i7, .int i8, .ref a6, .ref a7, .ref a8, .ref a9, .ref a10, .ref a11, .ref a12, .int i9, .ref a13, .int i10, .ref a14, .ref a15, .int i11, .ref a16, .ref a17, .ref a18, .ref a19, .int i12, .int i13, .int i14, .int i15, .int i16, .ref a20, .long j0, .ref a21, .ref a22, .ref a23, .ref a24])), (a1, .inl (cI, 544, .inl xF0)), (a21, .inl (cI, 4, .inl xF20)), (a23, .inl (cJ, 240, .inr (.inl xG22)))]) [2, 3, 0, 1] (by decide) rfl
                rw [hQ]
                exact W.iret (v := 0) hx hb hr (fun t ht hW => ⟨⟨0, (), rfl, ⟨(show (-6 : Int) ≤ (0 : Int32).toInt ∧ (0 : Int32).toInt ≤ 0 from ⟨by omega, by omega⟩), (show ((0 : Int32).toInt ≥ 0 → p0.toInt ≥ 0 ∧ p0.toInt ≤ 3 ∧ 1 ≤ wat xF0 1 ∧ 1 ≤ (xF20 p0.toInt.toNat).toInt ∧ (xF20 p0.toInt.toNat).toInt ≤ 8 ∧ NB (wat xF0 1) xG22 p0.toInt (xF20 p0.toInt.toNat).toInt) from fun h9 => ⟨by omega, by omega, by omega, by omega, by omega, NB_mono hrl0_1 (by omega)⟩), trivial⟩, (by rw [ht]; exact hP9), hD9⟩, hS.F ht⟩) hS.2.2 dX12_asksMotions_91
              · rw [ki_le] at c96
                refine lv_aload_n hx hb dX12_asksMotions_56 rfl (lv_at hl 0 rfl) ?_
                refine va_get (D := (dC, dI)) (ci := 12) (v := .ref a23) (C := RX12) (T := TX12) (N := 42) hx hb hwd inlX12 hown hK hP 2 rfl rfl 40 (by decide) (hwd _ kr50_17) (fun _ h9 => h9) rfl dX12_asksMotions_57 ?_
                refine lv_bipush (v := 60) hx hb dX12_asksMotions_60 (by decide) ?_
                refine lv_iload_n hx hb dX12_asksMotions_62 rfl (lv_at hl 1 rfl) ?_
                refine lv_imul hx hb dX12_asksMotions_63 ?_
                refine lv_topi (fun x97 ex97 => ?_)
                have tx97 := ia_mull (a := (60 : Int32)) (b := p0) 60 (by decide) (by omega) (by omega)
                rw [← ex97] at tx97
                refine lv_iload_n hx hb dX12_asksMotions_64 rfl (lv_at hl 2 rfl) ?_
                refine lv_iadd hx hb dX12_asksMotions_65 ?_
                refine lv_topi (fun x98 ex98 => ?_)
                have tx98 := ia_add (a := x97) (b := w2_1) (by omega) (by omega)
                rw [← ex98] at tx98
                have h99 : vp_in x98 240 := (vp_of (by omega) (by omega))
                refine va_lald hx hb hK hP 1 3 rfl rfl h99 dX12_asksMotions_66 ?_
                refine lv_topl (fun x100 ex100 => ?_)
                refine lv_lconst (v := 1) hx hb dX12_asksMotions_67 (by decide) ?_
                refine lv_aload_n hx hb dX12_asksMotions_68 rfl (lv_at hl 0 rfl) ?_
                refine va_get (D := (dC, dI)) (ci := 12) (v := .ref a1) (C := RX12) (T := TX12) (N := 42) hx hb hwd inlX12 hown hK hP 2 rfl rfl 1 (by decide) (hwd _ kr49_2) (fun _ h9 => h9) rfl dX12_asksMotions_69 ?_
                refine lv_iconst (v := 1) hx hb dX12_asksMotions_72 (by decide) ?_
                have h101 : vp_in (1 : Int32) 544 := (vin (by decide))
                refine va_iald hx hb hK hP 3 0 rfl rfl h101 dX12_asksMotions_73 ?_
                refine lv_topi (fun x102 ex102 => ?_)
                have ix102 := wat_lit (k := 1) ex102 (by decide)
                have wh103 : whd cp xF0 := p_7.1
                unfold whd at wh103
                refine lv_i2l hx hb dX12_asksMotions_74 rfl ?_
                have hPc := hP.sub (ws' := []) [] rfl
                have hDc := hD.sub (ws' := []) [] (by decide) rfl
                have hFc := va_free (wc := []) hD hS hA [] rfl
                refine va_calli (va_runS (As := [.long x100, .long 1, .long x102.toInt64]) (rest := []) ⟨hx, hb, hml, hown, hwd⟩ (s_X12_in l dC dI cI cZ cB cJ cM cG x100 1 x102.toInt64 H.size) (cwS 3 hwd (gS kr51_0 kr51_1 kr5_23 kr51_2) rfl rfl rfl (by decide +kernel) ⟨Nat.le_of_ble_eq_true rfl, Nat.le_of_ble_eq_true rfl⟩) (kPreS hPc hK hDc) rfl rfl hl.1 rfl (lv_room (Nat.le_of_ble_eq_true rfl)) dX12_asksMotions_75 ⟨Nat.le_of_ble_eq_true rfl, Nat.le_of_ble_eq_true rfl⟩) hS (fun q _ h => hFc q h) hFc (fun r104 u105 t H1 locs ht9 hvm hw hB hz1 hk1 hS => ?_)
                obtain ⟨hw106, hw107, hw108, -⟩ := hw
                replace hw106 : (0 : Int) ≤ r104.toInt ∧ r104.toInt ≤ 1 := hw106
                have hw107 : r104.toInt ≠ 0 → (1 : Int) ≤ x100.toInt ∧ x100.toInt ≤ x102.toInt := in_int rfl (by decide) (Int32.toInt_toInt64 _) hw107
                have hw108 : r104.toInt ≠ 1 → x100.toInt < (1 : Int) ∨ x102.toInt < x100.toInt := in_int2 rfl (by decide) (Int32.toInt_toInt64 _) hw108
                obtain ⟨hP1, hD1⟩ := hB
                rw [ht9] at hP1
                obtain ⟨hP, hD⟩ := va_join (wr := [(a21, .inl (cI, 4, .inl xF20)), (a23, .inl (cJ, 240, .inr (.inl xG22))), (a0, .inr (12, [.int i0, .ref a1, .ref a2, .ref a3, .ref a4, .int i1, .ref a5, .int i2, .int i3, .int i4, .int i5, .int i6, .int i7, .int i8, .ref a6, .ref a7, .ref a8, .ref a9, .ref a10, .ref a11, .ref a12, .int i9, .ref a13, .int i10, .ref a14, .ref a15, .int i11, .ref a16, .ref a17, .ref a18, .ref a19, .int i12, .int i13, .int i14, .int i15, .int i16, .ref a20, .long j0, .ref a21, .ref a22, .ref a23, .ref a24])), (a1, .inl (cI, 544, .inl xF0))]) (w1 := []) hP hD [] [0, 1, 2, 3] rfl rfl (by decide) (by decide) hk1 hFc hP1 hD1
                generalize H1 = H at hP hS ⊢
                replace hP : va_P (dC, dI) vwCl [(a21, .inl (cI, 4, .inl xF20)), (a23, .inl (cJ, 240, .inr (.inl xG22))), (a0, .inr (12, [.int i0, .ref a1, .ref a2, .ref a3, .ref a4, .int i1, .ref a5, .int i2, .int i3, .int i4, .int i5, .int i6, .int i7, .int i8, .ref a6, .ref a7, .ref a8, .ref a9, .ref a10, .ref a11, .ref a12, .int i9, .ref a13, .int i10, .ref a14, .ref a15, .int i11, .ref a16, .ref a17, .ref a18, .ref a19, .int i12, .int i13, .int i14, .int i15, .int i16, .ref a20, .long j0, .ref a21, .ref a22, .ref a23, .ref a24])), (a1, .inl (cI, 544, .inl xF0))] H := hP
                replace hD : va_D A [(a21, .inl (cI, 4, .inl xF20)), (a23, .inl (cJ, 240, .inr (.inl xG22))), (a0, .inr (12, [.int i0, .ref a1, .ref a2, .ref a3, .ref a4, .int i1, .ref a5, .int i2, .int i3, .int i4, .int i5, .int i6, .int i7, .int i8, .ref a6, .ref a7, .ref a8, .ref a9, .ref a10, .ref a11, .ref a12, .int i9, .ref a13, .int i10, .ref a14, .ref a15, .int i11, .ref a16, .ref a17, .ref a18, .ref a19, .int i12, .int i13, .int i14, .int i15, .int i16, .ref a20, .long j0, .ref a21, .ref a22, .ref a23, .ref a24])), (a1, .inl (cI, 544, .inl xF0))] := hD
                refine lv_if_ne (tgt := 84) hx hb dX12_asksMotions_78 (by decide) (fun c109 => ?_) (fun c109 => ?_)
                · rw [ki_eq] at c109
                  have hw107q := hw107 (by omega)
                  clear hw107
                  obtain ⟨x110, ex110⟩ : ∃ y : Int32, y = w2_1 + 1 := ⟨_, rfl⟩
                  refine lv_iinc (v := x110) (lv' := [(2, .int x110), (0, .ref a0), (1, .int p0)]) hx hb dX12_asksMotions_84 hl (k := 2) rfl (by rw [ex110]; rfl) (by decide) rfl (fun ls hl => ?_)
                  have tx110 := ia_add (a := w2_1) (b := (1 : Int32)) (by omega) (by omega)
                  rw [← ex110] at tx110
                  refine lv_goto (tgt := 46) hx hb dX12_asksMotions_87 (by decide) ?_
                  exact ih1 _ _ ls x110 (show (0 : Int) ≤ x110.toInt ∧ x110.toInt ≤ 8 from ⟨by omega, by omega⟩) (show NB (wat xF0 1) xG22 p0.toInt x110.toInt from NB_step hrl0_1 ex100 (by omega) (by omega) (by omega) ⟨by omega, by omega⟩ (by omega)) (by omega) (hP.sub (ws' := [(a21, .inl (cI, 4, .inl xF20)), (a23, .inl (cJ, 240, .inr (.inl xG22))), (a0, .inr (12, [.int i0, .ref a1, .ref a2, .ref a3, .ref a4, .int i1, .ref a5, .int i2, .int i3, .int i4, .int i5, .int i6, .int i7, .int i8, .ref a6, .ref a7, .ref a8, .ref a9, .ref a10, .ref a11, .ref a12, .int i9, .ref a13, .int i10, .ref a14, .ref a15, .int i11, .ref a16, .ref a17, .ref a18, .ref a19, .int i12, .int i13, .int i14, .int i15, .int i16, .ref a20, .long j0, .ref a21, .ref a22, .ref a23, .ref a24])), (a1, .inl (cI, 544, .inl xF0))]) [0, 1, 2, 3] rfl) (hD.sub (ws' := [(a21, .inl (cI, 4, .inl xF20)), (a23, .inl (cJ, 240, .inr (.inl xG22))), (a0, .inr (12, [.int i0, .ref a1, .ref a2, .ref a3, .ref a4, .int i1, .ref a5, .int i2, .int i3, .int i4, .int i5, .int i6, .int i7, .int i8, .ref a6, .ref a7, .ref a8, .ref a9, .ref a10, .ref a11, .ref a12, .int i9, .ref a13, .int i10, .ref a14, .ref a15, .int i11, .ref a16, .ref a17, .ref a18, .ref a19, .int i12, .int i13, .int i14, .int i15, .int i16, .ref a20, .long j0, .ref a21, .ref a22, .ref a23, .ref a24])), (a1, .inl (cI, 544, .inl xF0))]) [0, 1, 2, 3] (by decide) rfl) hS (lv_sub hl [1, 2, 0] rfl)
                · rw [ki_eq] at c109
                  have hw108q := hw108 (by omega)
                  clear hw108
                  refine lv_bipush (v := (-2)) hx hb dX12_asksMotions_81 (by decide) ?_
                  have hP9 := hP.sub (ws' := [(a0, .inr (12, [.int i0, .ref a1, .ref a2, .ref a3, .ref a4, .int i1, .ref a5, .int i2, .int i3, .int i4, .int i5, .int i6, .int i7, .int i8, .ref a6, .ref a7, .ref a8, .ref a9, .ref a10, .ref a11, .ref a12, .int i9, .ref a13, .int i10, .ref a14, .ref a15, .int i11, .ref a16, .ref a17, .ref a18, .ref a19, .int i12, .int i13, .int i14, .int i15, .int i16, .ref a20, .long j0, .ref a21, .ref a22, .ref a23, .ref a24])), (a1, .inl (cI, 544, .inl xF0)), (a21, .inl (cI, 4, .inl xF20)), (a23, .inl (cJ, 240, .inr (.inl xG22)))]) [2, 3, 0, 1] rfl
                  have hD9 := hD.sub (ws' := [(a0, .inr (12, [.int i0, .ref a1, .ref a2, .ref a3, .ref a4, .int i1, .ref a5, .int i2, .int i3, .int i4, .int i5, .int i6, .int i7, .int i8, .ref a6, .ref a7, .ref a8, .ref a9, .ref a10, .ref a11, .ref a12, .int i9, .ref a13, .int i10, .ref a14, .ref a15, .int i11, .ref a16, .ref a17, .ref a18, .ref a19, .int i12, .int i13, .int i14, .int i15, .int i16, .ref a20, .long j0, .ref a21, .ref a22, .ref a23, .ref a24])), (a1, .inl (cI, 544, .inl xF0)), (a21, .inl (cI, 4, .inl xF20)), (a23, .inl (cJ, 240, .inr (.inl xG22)))]) [2, 3, 0, 1] (by decide) rfl
                  rw [hQ]
                  exact W.iret (v := (-2)) hx hb hr (fun t ht hW => ⟨⟨(-2), (), rfl, ⟨(show (-6 : Int) ≤ ((-2) : Int32).toInt ∧ ((-2) : Int32).toInt ≤ 0 from ⟨by omega, by omega⟩), (show (((-2) : Int32).toInt ≥ 0 → p0.toInt ≥ 0 ∧ p0.toInt ≤ 3 ∧ 1 ≤ wat xF0 1 ∧ 1 ≤ (xF20 p0.toInt.toNat).toInt ∧ (xF20 p0.toInt.toNat).toInt ≤ 8 ∧ NB (wat xF0 1) xG22 p0.toInt (xF20 p0.toInt.toNat).toInt) from fun h9 => by exfalso; omega), trivial⟩, (by rw [ht]; exact hP9), hD9⟩, hS.F ht⟩) hS.2.2 dX12_asksMotions_83
          exact lp1 _ _ _ ls (0) (show (0 : Int) ≤ (0 : Int32).toInt ∧ (0 : Int32).toInt ≤ 8 from ⟨by omega, by omega⟩) (show NB (wat xF0 1) xG22 p0.toInt (0 : Int32).toInt from NB_0 (by decide)) (Nat.lt_succ_self _) (hP.sub (ws' := [(a21, .inl (cI, 4, .inl xF20)), (a23, .inl (cJ, 240, .inr (.inl xG22))), (a0, .inr (12, [.int i0, .ref a1, .ref a2, .ref a3, .ref a4, .int i1, .ref a5, .int i2, .int i3, .int i4, .int i5, .int i6, .int i7, .int i8, .ref a6, .ref a7, .ref a8, .ref a9, .ref a10, .ref a11, .ref a12, .int i9, .ref a13, .int i10, .ref a14, .ref a15, .int i11, .ref a16, .ref a17, .ref a18, .ref a19, .int i12, .int i13, .int i14, .int i15, .int i16, .ref a20, .long j0, .ref a21, .ref a22, .ref a23, .ref a24])), (a1, .inl (cI, 544, .inl xF0))]) [0, 1, 2, 3] rfl) (hD.sub (ws' := [(a21, .inl (cI, 4, .inl xF20)), (a23, .inl (cJ, 240, .inr (.inl xG22))), (a0, .inr (12, [.int i0, .ref a1, .ref a2, .ref a3, .ref a4, .int i1, .ref a5, .int i2, .int i3, .int i4, .int i5, .int i6, .int i7, .int i8, .ref a6, .ref a7, .ref a8, .ref a9, .ref a10, .ref a11, .ref a12, .int i9, .ref a13, .int i10, .ref a14, .ref a15, .int i11, .ref a16, .ref a17, .ref a18, .ref a19, .int i12, .int i13, .int i14, .int i15, .int i16, .ref a20, .long j0, .ref a21, .ref a22, .ref a23, .ref a24])), (a1, .inl (cI, 544, .inl xF0))]) [0, 1, 2, 3] (by decide) rfl) hS (lv_sub hl [1, 2, 0] rfl)
        · rw [ki_le] at c15
          refine lv_bipush (v := (-2)) hx hb dX12_asksMotions_41 (by decide) ?_
          have hP9 := hP.sub (ws' := [(a0, .inr (12, [.int i0, .ref a1, .ref a2, .ref a3, .ref a4, .int i1, .ref a5, .int i2, .int i3, .int i4, .int i5, .int i6, .int i7, .int i8, .ref a6, .ref a7, .ref a8, .ref a9, .ref a10, .ref a11, .ref a12, .int i9, .ref a13, .int i10, .ref a14, .ref a15, .int i11, .ref a16, .ref a17, .ref a18, .ref a19, .int i12, .int i13, .int i14, .int i15, .int i16, .ref a20, .long j0, .ref a21, .ref a22, .ref a23, .ref a24])), (a1, .inl (cI, 544, .inl xF0)), (a21, .inl (cI, 4, .inl xF20)), (a23, .inl (cJ, 240, .inr (.inl xG22)))]) [2, 3, 0, 1] rfl
          have hD9 := hD.sub (ws' := [(a0, .inr (12, [.int i0, .ref a1, .ref a2, .ref a3, .ref a4, .int i1, .ref a5, .int i2, .int i3, .int i4, .int i5, .int i6, .int i7, .int i8, .ref a6, .ref a7, .ref a8, .ref a9, .ref a10, .ref a11, .ref a12, .int i9, .ref a13, .int i10, .ref a14, .ref a15, .int i11, .ref a16, .ref a17, .ref a18, .ref a19, .int i12, .int i13, .int i14, .int i15, .int i16, .ref a20, .long j0, .ref a21, .ref a22, .ref a23, .ref a24])), (a1, .inl (cI, 544, .inl xF0)), (a21, .inl (cI, 4, .inl xF20)), (a23, .inl (cJ, 240, .inr (.inl xG22)))]) [2, 3, 0, 1] (by decide) rfl
          rw [hQ]
          exact W.iret (v := (-2)) hx hb hr (fun t ht hW => ⟨⟨(-2), (), rfl, ⟨(show (-6 : Int) ≤ ((-2) : Int32).toInt ∧ ((-2) : Int32).toInt ≤ 0 from ⟨by omega, by omega⟩), (show (((-2) : Int32).toInt ≥ 0 → p0.toInt ≥ 0 ∧ p0.toInt ≤ 3 ∧ 1 ≤ wat xF0 1 ∧ 1 ≤ (xF20 p0.toInt.toNat).toInt ∧ (xF20 p0.toInt.toNat).toInt ≤ 8 ∧ NB (wat xF0 1) xG22 p0.toInt (xF20 p0.toInt.toNat).toInt) from fun h9 => by exfalso; omega), trivial⟩, (by rw [ht]; exact hP9), hD9⟩, hS.F ht⟩) hS.2.2 dX12_asksMotions_43
      · rw [ki_le] at c13
        refine lv_bipush (v := (-6)) hx hb dX12_asksMotions_27 (by decide) ?_
        have hP9 := hP.sub (ws' := [(a0, .inr (12, [.int i0, .ref a1, .ref a2, .ref a3, .ref a4, .int i1, .ref a5, .int i2, .int i3, .int i4, .int i5, .int i6, .int i7, .int i8, .ref a6, .ref a7, .ref a8, .ref a9, .ref a10, .ref a11, .ref a12, .int i9, .ref a13, .int i10, .ref a14, .ref a15, .int i11, .ref a16, .ref a17, .ref a18, .ref a19, .int i12, .int i13, .int i14, .int i15, .int i16, .ref a20, .long j0, .ref a21, .ref a22, .ref a23, .ref a24])), (a1, .inl (cI, 544, .inl xF0)), (a21, .inl (cI, 4, .inl xF20)), (a23, .inl (cJ, 240, .inr (.inl xG22)))]) [2, 3, 0, 1] rfl
        have hD9 := hD.sub (ws' := [(a0, .inr (12, [.int i0, .ref a1, .ref a2, .ref a3, .ref a4, .int i1, .ref a5, .int i2, .int i3, .int i4, .int i5, .int i6, .int i7, .int i8, .ref a6, .ref a7, .ref a8, .ref a9, .ref a10, .ref a11, .ref a12, .int i9, .ref a13, .int i10, .ref a14, .ref a15, .int i11, .ref a16, .ref a17, .ref a18, .ref a19, .int i12, .int i13, .int i14, .int i15, .int i16, .ref a20, .long j0, .ref a21, .ref a22, .ref a23, .ref a24])), (a1, .inl (cI, 544, .inl xF0)), (a21, .inl (cI, 4, .inl xF20)), (a23, .inl (cJ, 240, .inr (.inl xG22)))]) [2, 3, 0, 1] (by decide) rfl
        rw [hQ]
        exact W.iret (v := (-6)) hx hb hr (fun t ht hW => ⟨⟨(-6), (), rfl, ⟨(show (-6 : Int) ≤ ((-6) : Int32).toInt ∧ ((-6) : Int32).toInt ≤ 0 from ⟨by omega, by omega⟩), (show (((-6) : Int32).toInt ≥ 0 → p0.toInt ≥ 0 ∧ p0.toInt ≤ 3 ∧ 1 ≤ wat xF0 1 ∧ 1 ≤ (xF20 p0.toInt.toNat).toInt ∧ (xF20 p0.toInt.toNat).toInt ≤ 8 ∧ NB (wat xF0 1) xG22 p0.toInt (xF20 p0.toInt.toNat).toInt) from fun h9 => by exfalso; omega), trivial⟩, (by rw [ht]; exact hP9), hD9⟩, hS.F ht⟩) hS.2.2 dX12_asksMotions_29
    · rw [ki_eq] at c10
      refine lv_bipush (v := (-2)) hx hb dX12_asksMotions_14 (by decide) ?_
      have hP9 := hP.sub (ws' := [(a0, .inr (12, [.int i0, .ref a1, .ref a2, .ref a3, .ref a4, .int i1, .ref a5, .int i2, .int i3, .int i4, .int i5, .int i6, .int i7, .int i8, .ref a6, .ref a7, .ref a8, .ref a9, .ref a10, .ref a11, .ref a12, .int i9, .ref a13, .int i10, .ref a14, .ref a15, .int i11, .ref a16, .ref a17, .ref a18, .ref a19, .int i12, .int i13, .int i14, .int i15, .int i16, .ref a20, .long j0, .ref a21, .ref a22, .ref a23, .ref a24])), (a1, .inl (cI, 544, .inl xF0)), (a21, .inl (cI, 4, .inl xF20)), (a23, .inl (cJ, 240, .inr (.inl xG22)))]) [2, 3, 0, 1] rfl
      have hD9 := hD.sub (ws' := [(a0, .inr (12, [.int i0, .ref a1, .ref a2, .ref a3, .ref a4, .int i1, .ref a5, .int i2, .int i3, .int i4, .int i5, .int i6, .int i7, .int i8, .ref a6, .ref a7, .ref a8, .ref a9, .ref a10, .ref a11, .ref a12, .int i9, .ref a13, .int i10, .ref a14, .ref a15, .int i11, .ref a16, .ref a17, .ref a18, .ref a19, .int i12, .int i13, .int i14, .int i15, .int i16, .ref a20, .long j0, .ref a21, .ref a22, .ref a23, .ref a24])), (a1, .inl (cI, 544, .inl xF0)), (a21, .inl (cI, 4, .inl xF20)), (a23, .inl (cJ, 240, .inr (.inl xG22)))]) [2, 3, 0, 1] (by decide) rfl
      rw [hQ]
      exact W.iret (v := (-2)) hx hb hr (fun t ht hW => ⟨⟨(-2), (), rfl, ⟨(show (-6 : Int) ≤ ((-2) : Int32).toInt ∧ ((-2) : Int32).toInt ≤ 0 from ⟨by omega, by omega⟩), (show (((-2) : Int32).toInt ≥ 0 → p0.toInt ≥ 0 ∧ p0.toInt ≤ 3 ∧ 1 ≤ wat xF0 1 ∧ 1 ≤ (xF20 p0.toInt.toNat).toInt ∧ (xF20 p0.toInt.toNat).toInt ≤ 8 ∧ NB (wat xF0 1) xG22 p0.toInt (xF20 p0.toInt.toNat).toInt) from fun h9 => by exfalso; omega), trivial⟩, (by rw [ht]; exact hP9), hD9⟩, hS.F ht⟩) hS.2.2 dX12_asksMotions_16
