theorem dX3_readLine_0 : decode cX3_readLine 0 = .ok (.aload_n 0, 1) := by decide +kernel
theorem dX3_readLine_1 : decode cX3_readLine 1 = .ok (.getfield 34, 3) := by decide +kernel
theorem dX3_readLine_4 : decode cX3_readLine 4 = .ok (.bipush 24, 2) := by decide +kernel
theorem dX3_readLine_6 : decode cX3_readLine 6 = .ok (.if_icmp .lt 9, 3) := by decide +kernel
theorem dX3_readLine_9 : decode cX3_readLine 9 = .ok (.aload_n 1, 1) := by decide +kernel
theorem dX3_readLine_10 : decode cX3_readLine 10 = .ok (.iconst 3, 1) := by decide +kernel
theorem dX3_readLine_11 : decode cX3_readLine 11 = .ok (.invokevirtual 40, 3) := by decide +kernel
theorem dX3_readLine_14 : decode cX3_readLine 14 = .ok (.return_, 1) := by decide +kernel
theorem dX3_readLine_15 : decode cX3_readLine 15 = .ok (.aload_n 1, 1) := by decide +kernel
theorem dX3_readLine_16 : decode cX3_readLine 16 = .ok (.invokevirtual 44, 3) := by decide +kernel
theorem dX3_readLine_19 : decode cX3_readLine 19 = .ok (.aload_n 1, 1) := by decide +kernel
theorem dX3_readLine_20 : decode cX3_readLine 20 = .ok (.ldc 47, 2) := by decide +kernel
theorem dX3_readLine_22 : decode cX3_readLine 22 = .ok (.invokevirtual 49, 3) := by decide +kernel
theorem dX3_readLine_25 : decode cX3_readLine 25 = .ok (.aload_n 0, 1) := by decide +kernel
theorem dX3_readLine_26 : decode cX3_readLine 26 = .ok (.getfield 9, 3) := by decide +kernel
theorem dX3_readLine_29 : decode cX3_readLine 29 = .ok (.aload_n 0, 1) := by decide +kernel
theorem dX3_readLine_30 : decode cX3_readLine 30 = .ok (.getfield 34, 3) := by decide +kernel
theorem dX3_readLine_33 : decode cX3_readLine 33 = .ok (.aload_n 1, 1) := by decide +kernel
theorem dX3_readLine_34 : decode cX3_readLine 34 = .ok (.iconst 0, 1) := by decide +kernel
theorem dX3_readLine_35 : decode cX3_readLine 35 = .ok (.iload_n 2, 1) := by decide +kernel
theorem dX3_readLine_36 : decode cX3_readLine 36 = .ok (.iconst 1, 1) := by decide +kernel
theorem dX3_readLine_37 : decode cX3_readLine 37 = .ok (.isub, 1) := by decide +kernel
theorem dX3_readLine_38 : decode cX3_readLine 38 = .ok (.invokevirtual 53, 3) := by decide +kernel
theorem dX3_readLine_41 : decode cX3_readLine 41 = .ok (.iastore, 1) := by decide +kernel
theorem dX3_readLine_42 : decode cX3_readLine 42 = .ok (.aload_n 1, 1) := by decide +kernel
theorem dX3_readLine_43 : decode cX3_readLine 43 = .ok (.ldc 57, 2) := by decide +kernel
theorem dX3_readLine_45 : decode cX3_readLine 45 = .ok (.invokevirtual 49, 3) := by decide +kernel
theorem dX3_readLine_48 : decode cX3_readLine 48 = .ok (.aload_n 0, 1) := by decide +kernel
theorem dX3_readLine_49 : decode cX3_readLine 49 = .ok (.getfield 15, 3) := by decide +kernel
theorem dX3_readLine_52 : decode cX3_readLine 52 = .ok (.aload_n 0, 1) := by decide +kernel
theorem dX3_readLine_53 : decode cX3_readLine 53 = .ok (.getfield 34, 3) := by decide +kernel
theorem dX3_readLine_56 : decode cX3_readLine 56 = .ok (.aload_n 1, 1) := by decide +kernel
theorem dX3_readLine_57 : decode cX3_readLine 57 = .ok (.iconst 0, 1) := by decide +kernel
theorem dX3_readLine_58 : decode cX3_readLine 58 = .ok (.iload_n 3, 1) := by decide +kernel
theorem dX3_readLine_59 : decode cX3_readLine 59 = .ok (.iconst 1, 1) := by decide +kernel
theorem dX3_readLine_60 : decode cX3_readLine 60 = .ok (.isub, 1) := by decide +kernel
theorem dX3_readLine_61 : decode cX3_readLine 61 = .ok (.invokevirtual 53, 3) := by decide +kernel
theorem dX3_readLine_64 : decode cX3_readLine 64 = .ok (.iastore, 1) := by decide +kernel
theorem dX3_readLine_65 : decode cX3_readLine 65 = .ok (.aload_n 1, 1) := by decide +kernel
theorem dX3_readLine_66 : decode cX3_readLine 66 = .ok (.ldc 58, 2) := by decide +kernel
theorem dX3_readLine_68 : decode cX3_readLine 68 = .ok (.invokevirtual 49, 3) := by decide +kernel
theorem dX3_readLine_71 : decode cX3_readLine 71 = .ok (.aload_n 0, 1) := by decide +kernel
theorem dX3_readLine_72 : decode cX3_readLine 72 = .ok (.getfield 18, 3) := by decide +kernel
theorem dX3_readLine_75 : decode cX3_readLine 75 = .ok (.aload_n 0, 1) := by decide +kernel
theorem dX3_readLine_76 : decode cX3_readLine 76 = .ok (.getfield 34, 3) := by decide +kernel
theorem dX3_readLine_79 : decode cX3_readLine 79 = .ok (.aload_n 1, 1) := by decide +kernel
theorem dX3_readLine_80 : decode cX3_readLine 80 = .ok (.iconst 1, 1) := by decide +kernel
theorem dX3_readLine_81 : decode cX3_readLine 81 = .ok (.iload_n 3, 1) := by decide +kernel
theorem dX3_readLine_82 : decode cX3_readLine 82 = .ok (.invokevirtual 53, 3) := by decide +kernel
theorem dX3_readLine_85 : decode cX3_readLine 85 = .ok (.iastore, 1) := by decide +kernel
theorem dX3_readLine_86 : decode cX3_readLine 86 = .ok (.aload_n 1, 1) := by decide +kernel
theorem dX3_readLine_87 : decode cX3_readLine 87 = .ok (.ldc 59, 2) := by decide +kernel
theorem dX3_readLine_89 : decode cX3_readLine 89 = .ok (.invokevirtual 49, 3) := by decide +kernel
theorem dX3_readLine_92 : decode cX3_readLine 92 = .ok (.aload_n 0, 1) := by decide +kernel
theorem dX3_readLine_93 : decode cX3_readLine 93 = .ok (.getfield 21, 3) := by decide +kernel
theorem dX3_readLine_96 : decode cX3_readLine 96 = .ok (.aload_n 0, 1) := by decide +kernel
theorem dX3_readLine_97 : decode cX3_readLine 97 = .ok (.getfield 34, 3) := by decide +kernel
theorem dX3_readLine_100 : decode cX3_readLine 100 = .ok (.aload_n 1, 1) := by decide +kernel
theorem dX3_readLine_101 : decode cX3_readLine 101 = .ok (.iconst 1, 1) := by decide +kernel
theorem dX3_readLine_102 : decode cX3_readLine 102 = .ok (.bipush 60, 2) := by decide +kernel
theorem dX3_readLine_104 : decode cX3_readLine 104 = .ok (.invokevirtual 53, 3) := by decide +kernel
theorem dX3_readLine_107 : decode cX3_readLine 107 = .ok (.iastore, 1) := by decide +kernel
theorem dX3_readLine_108 : decode cX3_readLine 108 = .ok (.aload_n 1, 1) := by decide +kernel
theorem dX3_readLine_109 : decode cX3_readLine 109 = .ok (.ldc 60, 2) := by decide +kernel
theorem dX3_readLine_111 : decode cX3_readLine 111 = .ok (.invokevirtual 49, 3) := by decide +kernel
theorem dX3_readLine_114 : decode cX3_readLine 114 = .ok (.aload_n 0, 1) := by decide +kernel
theorem dX3_readLine_115 : decode cX3_readLine 115 = .ok (.getfield 24, 3) := by decide +kernel
theorem dX3_readLine_118 : decode cX3_readLine 118 = .ok (.aload_n 0, 1) := by decide +kernel
theorem dX3_readLine_119 : decode cX3_readLine 119 = .ok (.getfield 34, 3) := by decide +kernel
theorem dX3_readLine_122 : decode cX3_readLine 122 = .ok (.aload_n 1, 1) := by decide +kernel
theorem dX3_readLine_123 : decode cX3_readLine 123 = .ok (.iconst 1, 1) := by decide +kernel
theorem dX3_readLine_124 : decode cX3_readLine 124 = .ok (.bipush 60, 2) := by decide +kernel
theorem dX3_readLine_126 : decode cX3_readLine 126 = .ok (.invokevirtual 53, 3) := by decide +kernel
theorem dX3_readLine_129 : decode cX3_readLine 129 = .ok (.iastore, 1) := by decide +kernel
theorem dX3_readLine_130 : decode cX3_readLine 130 = .ok (.aload_n 0, 1) := by decide +kernel
theorem dX3_readLine_131 : decode cX3_readLine 131 = .ok (.getfield 27, 3) := by decide +kernel
theorem dX3_readLine_134 : decode cX3_readLine 134 = .ok (.aload_n 0, 1) := by decide +kernel
theorem dX3_readLine_135 : decode cX3_readLine 135 = .ok (.getfield 34, 3) := by decide +kernel
theorem dX3_readLine_138 : decode cX3_readLine 138 = .ok (.iconst 0, 1) := by decide +kernel
theorem dX3_readLine_139 : decode cX3_readLine 139 = .ok (.iastore, 1) := by decide +kernel
theorem dX3_readLine_140 : decode cX3_readLine 140 = .ok (.aload_n 0, 1) := by decide +kernel
theorem dX3_readLine_141 : decode cX3_readLine 141 = .ok (.getfield 30, 3) := by decide +kernel
theorem dX3_readLine_144 : decode cX3_readLine 144 = .ok (.aload_n 0, 1) := by decide +kernel
theorem dX3_readLine_145 : decode cX3_readLine 145 = .ok (.getfield 34, 3) := by decide +kernel
theorem dX3_readLine_148 : decode cX3_readLine 148 = .ok (.iconst 0, 1) := by decide +kernel
theorem dX3_readLine_149 : decode cX3_readLine 149 = .ok (.bastore, 1) := by decide +kernel
theorem dX3_readLine_150 : decode cX3_readLine 150 = .ok (.aload_n 0, 1) := by decide +kernel
theorem dX3_readLine_151 : decode cX3_readLine 151 = .ok (.dup, 1) := by decide +kernel
theorem dX3_readLine_152 : decode cX3_readLine 152 = .ok (.getfield 34, 3) := by decide +kernel
theorem dX3_readLine_155 : decode cX3_readLine 155 = .ok (.iconst 1, 1) := by decide +kernel
theorem dX3_readLine_156 : decode cX3_readLine 156 = .ok (.iadd, 1) := by decide +kernel
theorem dX3_readLine_157 : decode cX3_readLine 157 = .ok (.putfield 34, 3) := by decide +kernel
theorem dX3_readLine_160 : decode cX3_readLine 160 = .ok (.return_, 1) := by decide +kernel
set_option maxHeartbeats 4000000 in
set_option maxRecDepth 100000 in
theorem s_X3_readLine (l : Launch) (dC : Nat → ClassId) (dI : Nat → Nat → Nat) (cI cZ cB cJ cM cG : ClassId) (a0 a1 a2 a3 a4 a5 a6 a7 a8 a9 : Nat) (i0 i1 i2 i3 i4 i5 i6 i7 : Int32) (xF0 xF1 xF2 xF3 xF4 xF5 xF6 xF7 : Nat → Int32) (p1 p2 : Int32) (sz : Nat) (p_0 : (0 : Int) ≤ i0.toInt ∧ i0.toInt ≤ 24) (p_1 : rng xF3 24 0 60) (p_2 : rng xF6 24 0 1) (p_3 : (0 : Int) ≤ i1.toInt ∧ i1.toInt ≤ 1600) (p_4 : (0 : Int) ≤ i5.toInt ∧ i5.toInt ≤ 1600) (p_5 : (0 : Int) ≤ i6.toInt ∧ i6.toInt ≤ 1600) (p_6 : (0 : Int) ≤ p2.toInt ∧ p2.toInt ≤ 60) : Met l yX3_readLine (kw yX3_readLine cX3_readLine 4 none) ({ frames := 6, cells := 0, slots := 0, locals := 128 } : Room) (va_Pc [.ref a0, .ref a8, .int p1, .int p2] (kPreX dC dI [(cI, .int), (cZ, .boolean), (cB, .byte), (cJ, .long), (cM, .object RX2), (cG, .array .int)] [(a0, .inr (3, [.int i0, .ref a1, .ref a2, .ref a3, .ref a4, .ref a5, .ref a6, .ref a7])), (a1, .inl (cI, 24, .inl xF0)), (a2, .inl (cI, 24, .inl xF1)), (a3, .inl (cI, 24, .inl xF2)), (a4, .inl (cI, 24, .inl xF3)), (a5, .inl (cI, 24, .inl xF4)), (a6, .inl (cI, 24, .inl xF5)), (a7, .inl (cZ, 24, .inl xF6)), (a8, .inr (10, [.ref a9, .int i1, .int i2, .int i3, .int i4, .int i5, .int i6, .int i7])), (a9, .inl (cB, 1600, .inl xF7))] sz NT)) (va_Qv (fun (u9 : (Nat → Int32) × (Nat → Nat → Int32) × (Nat → Nat → Int64)) => ((0 : Int) ≤ (u9.1 0).toInt ∧ (u9.1 0).toInt ≤ 24) ∧ (rng (u9.2.1 3) 24 0 60) ∧ (rng (u9.2.1 6) 24 0 1) ∧ ((0 : Int) ≤ (u9.1 4).toInt ∧ (u9.1 4).toInt ≤ 1600) ∧ ((0 : Int) ≤ (u9.1 5).toInt ∧ (u9.1 5).toInt ≤ 1600) ∧ True) (fun u9 t => va_P (dC, dI) vwCl [(a0, .inr (3, [.int (u9.1 0), .ref a1, .ref a2, .ref a3, .ref a4, .ref a5, .ref a6, .ref a7])), (a1, .inl (cI, 24, .inl (u9.2.1 0))), (a2, .inl (cI, 24, .inl (u9.2.1 1))), (a3, .inl (cI, 24, .inl (u9.2.1 2))), (a4, .inl (cI, 24, .inl (u9.2.1 3))), (a5, .inl (cI, 24, .inl (u9.2.1 4))), (a6, .inl (cI, 24, .inl (u9.2.1 5))), (a7, .inl (cZ, 24, .inl (u9.2.1 6))), (a8, .inr (10, [.ref a9, .int i1, .int (u9.1 1), .int (u9.1 2), .int (u9.1 3), .int (u9.1 4), .int (u9.1 5), .int (u9.1 6)])), (a9, .inl (cB, 1600, .inl xF7))] t.heap ∧ va_D (va_A [(a0, .inr (3, [.int i0, .ref a1, .ref a2, .ref a3, .ref a4, .ref a5, .ref a6, .ref a7])), (a1, .inl (cI, 24, .inl xF0)), (a2, .inl (cI, 24, .inl xF1)), (a3, .inl (cI, 24, .inl xF2)), (a4, .inl (cI, 24, .inl xF3)), (a5, .inl (cI, 24, .inl xF4)), (a6, .inl (cI, 24, .inl xF5)), (a7, .inl (cZ, 24, .inl xF6)), (a8, .inr (10, [.ref a9, .int i1, .int i2, .int i3, .int i4, .int i5, .int i6, .int i7])), (a9, .inl (cB, 1600, .inl xF7))] sz) [(a0, .inr (3, [.int (u9.1 0), .ref a1, .ref a2, .ref a3, .ref a4, .ref a5, .ref a6, .ref a7])), (a1, .inl (cI, 24, .inl (u9.2.1 0))), (a2, .inl (cI, 24, .inl (u9.2.1 1))), (a3, .inl (cI, 24, .inl (u9.2.1 2))), (a4, .inl (cI, 24, .inl (u9.2.1 3))), (a5, .inl (cI, 24, .inl (u9.2.1 4))), (a6, .inl (cI, 24, .inl (u9.2.1 5))), (a7, .inl (cZ, 24, .inl (u9.2.1 6))), (a8, .inr (10, [.ref a9, .int i1, .int (u9.1 1), .int (u9.1 2), .int (u9.1 3), .int (u9.1 4), .int (u9.1 5), .int (u9.1 6)])), (a9, .inl (cB, 1600, .inl xF7))]) (va_A [(a0, .inr (3, [.int i0, .ref a1, .ref a2, .ref a3, .ref a4, .ref a5, .ref a6, .ref a7])), (a1, .inl (cI, 24, .inl xF0)), (a2, .inl (cI, 24, .inl xF1)), (a3, .inl (cI, 24, .inl xF2)), (a4, .inl (cI, 24, .inl xF3)), (a5, .inl (cI, 24, .inl xF4)), (a6, .inl (cI, 24, .inl xF5)), (a7, .inl (cZ, 24, .inl xF6)), (a8, .inr (10, [.ref a9, .int i1, .int i2, .int i3, .int i4, .int i5, .int i6, .int i7])), (a9, .inl (cB, 1600, .inl xF7))] sz)) 0 0 (va_A [(a0, .inr (3, [.int i0, .ref a1, .ref a2, .ref a3, .ref a4, .ref a5, .ref a6, .ref a7])), (a1, .inl (cI, 24, .inl xF0)), (a2, .inl (cI, 24, .inl xF1)), (a3, .inl (cI, 24, .inl xF2)), (a4, .inl (cI, 24, .inl xF3)), (a5, .inl (cI, 24, .inl xF4)), (a6, .inl (cI, 24, .inl xF5)), (a7, .inl (cZ, 24, .inl xF6)), (a8, .inr (10, [.ref a9, .int i1, .int i2, .int i3, .int i4, .int i5, .int i6, .int i7])), (a9, .inl (cB, 1600, .inl xF7))] sz) := by
  refine kEnterX (by decide) (Nat.le_of_ble_eq_true rfl) ?_
  intro p e s m below meth c ls hx hb hr hml hown hlocks hin hwd hsz hP hK hD hN hl
  subst hsz
  generalize hAe : va_A [(a0, .inr (3, [.int i0, .ref a1, .ref a2, .ref a3, .ref a4, .ref a5, .ref a6, .ref a7])), (a1, .inl (cI, 24, .inl xF0)), (a2, .inl (cI, 24, .inl xF1)), (a3, .inl (cI, 24, .inl xF2)), (a4, .inl (cI, 24, .inl xF3)), (a5, .inl (cI, 24, .inl xF4)), (a6, .inl (cI, 24, .inl xF5)), (a7, .inl (cZ, 24, .inl xF6)), (a8, .inr (10, [.ref a9, .int i1, .int i2, .int i3, .int i4, .int i5, .int i6, .int i7])), (a9, .inl (cB, 1600, .inl xF7))] s.heap.size = A at hD hN ⊢
  have hA : ∀ q : Nat, s.heap.size ≤ q → A q := fun q h => by rw [← hAe]; exact Or.inr h
  have hS : va_S A s.heap s.heap [] := va_S.rf
  have hl : lv_has ls 4 [(0, .ref a0), (1, .ref a8), (2, .int p1), (3, .int p2)] := hl
  obtain ⟨Q, hQ⟩ : ∃ Q, Q = MQ below (va_Qv (fun (u9 : (Nat → Int32) × (Nat → Nat → Int32) × (Nat → Nat → Int64)) => ((0 : Int) ≤ (u9.1 0).toInt ∧ (u9.1 0).toInt ≤ 24) ∧ (rng (u9.2.1 3) 24 0 60) ∧ (rng (u9.2.1 6) 24 0 1) ∧ ((0 : Int) ≤ (u9.1 4).toInt ∧ (u9.1 4).toInt ≤ 1600) ∧ ((0 : Int) ≤ (u9.1 5).toInt ∧ (u9.1 5).toInt ≤ 1600) ∧ True) (fun u9 t => va_P (dC, dI) vwCl [(a0, .inr (3, [.int (u9.1 0), .ref a1, .ref a2, .ref a3, .ref a4, .ref a5, .ref a6, .ref a7])), (a1, .inl (cI, 24, .inl (u9.2.1 0))), (a2, .inl (cI, 24, .inl (u9.2.1 1))), (a3, .inl (cI, 24, .inl (u9.2.1 2))), (a4, .inl (cI, 24, .inl (u9.2.1 3))), (a5, .inl (cI, 24, .inl (u9.2.1 4))), (a6, .inl (cI, 24, .inl (u9.2.1 5))), (a7, .inl (cZ, 24, .inl (u9.2.1 6))), (a8, .inr (10, [.ref a9, .int i1, .int (u9.1 1), .int (u9.1 2), .int (u9.1 3), .int (u9.1 4), .int (u9.1 5), .int (u9.1 6)])), (a9, .inl (cB, 1600, .inl xF7))] t.heap ∧ va_D A [(a0, .inr (3, [.int (u9.1 0), .ref a1, .ref a2, .ref a3, .ref a4, .ref a5, .ref a6, .ref a7])), (a1, .inl (cI, 24, .inl (u9.2.1 0))), (a2, .inl (cI, 24, .inl (u9.2.1 1))), (a3, .inl (cI, 24, .inl (u9.2.1 2))), (a4, .inl (cI, 24, .inl (u9.2.1 3))), (a5, .inl (cI, 24, .inl (u9.2.1 4))), (a6, .inl (cI, 24, .inl (u9.2.1 5))), (a7, .inl (cZ, 24, .inl (u9.2.1 6))), (a8, .inr (10, [.ref a9, .int i1, .int (u9.1 1), .int (u9.1 2), .int (u9.1 3), .int (u9.1 4), .int (u9.1 5), .int (u9.1 6)])), (a9, .inl (cB, 1600, .inl xF7))]) A) ([.ref a0, .ref a8, .int p1, .int p2] : List Value).toArray s 0 0 A := ⟨_, rfl⟩
  rw [← hQ]
  have k0 : (0 : Int32).toInt = 0 := by decide
  have k1 : (1 : Int32).toInt = 1 := by decide
  have k24 : (24 : Int32).toInt = 24 := by decide
  have k60 : (60 : Int32).toInt = 60 := by decide
  obtain ⟨sa47, sav47, sn47, sf47, hsn47, hR47, hks47⟩ := hN.2 _ rf_RX3_47
  have hN47 : NS sa47 sav47 sn47 sf47 A s := ⟨hN.1, hsn47.1, hks47⟩
  obtain ⟨sa57, sav57, sn57, sf57, hsn57, hR57, hks57⟩ := hN.2 _ rf_RX3_57
  have hN57 : NS sa57 sav57 sn57 sf57 A s := ⟨hN.1, hsn57.1, hks57⟩
  obtain ⟨sa58, sav58, sn58, sf58, hsn58, hR58, hks58⟩ := hN.2 _ rf_RX3_58
  have hN58 : NS sa58 sav58 sn58 sf58 A s := ⟨hN.1, hsn58.1, hks58⟩
  obtain ⟨sa59, sav59, sn59, sf59, hsn59, hR59, hks59⟩ := hN.2 _ rf_RX3_59
  have hN59 : NS sa59 sav59 sn59 sf59 A s := ⟨hN.1, hsn59.1, hks59⟩
  obtain ⟨sa60, sav60, sn60, sf60, hsn60, hR60, hks60⟩ := hN.2 _ rf_RX3_60
  have hN60 : NS sa60 sav60 sn60 sf60 A s := ⟨hN.1, hsn60.1, hks60⟩
  refine lv_aload_n hx hb dX3_readLine_0 rfl (lv_at hl 0 rfl) ?_
  refine va_get (D := (dC, dI)) (ci := 3) (v := .int i0) (C := RX3) (T := TX3) (N := 8) hx hb hwd inlX3 hown hK hP 0 rfl rfl 0 (by decide) (hwd _ kr11_1) (fun _ h9 => h9) rfl dX3_readLine_1 ?_
  refine lv_bipush (v := 24) hx hb dX3_readLine_4 (by decide) ?_
  refine lv_icmp_lt (tgt := 15) hx hb dX3_readLine_6 (by decide) (fun c1 => ?_) (fun c1 => ?_)
  · rw [ki_lt] at c1
    refine lv_aload_n hx hb dX3_readLine_15 rfl (lv_at hl 1 rfl) ?_
    have hPc := hP.sub (ws' := [(a8, .inr (10, [.ref a9, .int i1, .int i2, .int i3, .int i4, .int i5, .int i6, .int i7])), (a9, .inl (cB, 1600, .inl xF7))]) [8, 9] rfl
    have hDc := hD.sub (ws' := [(a8, .inr (10, [.ref a9, .int i1, .int i2, .int i3, .int i4, .int i5, .int i6, .int i7])), (a9, .inl (cB, 1600, .inl xF7))]) [8, 9] (by decide) rfl
    have hFc := va_free (wc := [(a8, .inr (10, [.ref a9, .int i1, .int i2, .int i3, .int i4, .int i5, .int i6, .int i7])), (a9, .inl (cB, 1600, .inl xF7))]) hD hS hA [8, 9] rfl
    refine va_callv (va_runV (As := []) (rest := []) ⟨hx, hb, hml, hown, hwd⟩ (s_X10_readToken l dC dI cI cZ cB cJ cM cG a8 a9 i1 i2 i3 i4 i5 i6 i7 xF7 s.heap.size (show (0 : Int) ≤ i1.toInt ∧ i1.toInt ≤ 1600 from p_3) (show (0 : Int) ≤ i5.toInt ∧ i5.toInt ≤ 1600 from p_4) (show (0 : Int) ≤ i6.toInt ∧ i6.toInt ≤ 1600 from p_5)) (cwV 0 hwd (gV kr22_12 kr18_2 kr18_3 kr5_12 kr18_4) rfl rfl rfl (by decide +kernel) ⟨Nat.le_of_ble_eq_true rfl, Nat.le_of_ble_eq_true rfl⟩) (kPreV hPc hK hDc (ci := 10) (q0 := 0) rfl rfl) rfl rfl hl.1 rfl (lv_room (Nat.le_of_ble_eq_true rfl)) dX3_readLine_16 ⟨Nat.le_of_ble_eq_true rfl, Nat.le_of_ble_eq_true rfl⟩) hS (fun q _ h => hFc q h) hFc (fun u3 t H1 locs ht9 hvm hw hB hz1 hk1 hS => ?_)
    obtain ⟨u4, U4, V4⟩ := u3
    obtain ⟨hw5, hw6, -⟩ := hw
    replace hw5 : (0 : Int) ≤ (u4 1).toInt ∧ (u4 1).toInt ≤ 1600 := hw5
    replace hw6 : (0 : Int) ≤ (u4 2).toInt ∧ (u4 2).toInt ≤ 1600 := hw6
    obtain ⟨hP1, hD1⟩ := hB
    rw [ht9] at hP1
    obtain ⟨hP, hD⟩ := va_join (wr := [(a0, .inr (3, [.int i0, .ref a1, .ref a2, .ref a3, .ref a4, .ref a5, .ref a6, .ref a7])), (a1, .inl (cI, 24, .inl xF0)), (a2, .inl (cI, 24, .inl xF1)), (a3, .inl (cI, 24, .inl xF2)), (a4, .inl (cI, 24, .inl xF3)), (a5, .inl (cI, 24, .inl xF4)), (a6, .inl (cI, 24, .inl xF5)), (a7, .inl (cZ, 24, .inl xF6))]) (w1 := [(a8, .inr (10, [.ref a9, .int i1, .int i2, .int i3, .int (u4 0), .int (u4 1), .int (u4 2), .int (u4 3)])), (a9, .inl (cB, 1600, .inl xF7))]) hP hD [8, 9] [0, 1, 2, 3, 4, 5, 6, 7] rfl rfl (by decide) (by decide) hk1 hFc hP1 hD1
    generalize H1 = H at hP hS ⊢
    replace hP : va_P (dC, dI) vwCl [(a0, .inr (3, [.int i0, .ref a1, .ref a2, .ref a3, .ref a4, .ref a5, .ref a6, .ref a7])), (a1, .inl (cI, 24, .inl xF0)), (a2, .inl (cI, 24, .inl xF1)), (a3, .inl (cI, 24, .inl xF2)), (a4, .inl (cI, 24, .inl xF3)), (a5, .inl (cI, 24, .inl xF4)), (a6, .inl (cI, 24, .inl xF5)), (a7, .inl (cZ, 24, .inl xF6)), (a8, .inr (10, [.ref a9, .int i1, .int i2, .int i3, .int (u4 0), .int (u4 1), .int (u4 2), .int (u4 3)])), (a9, .inl (cB, 1600, .inl xF7))] H := hP
    replace hD : va_D A [(a0, .inr (3, [.int i0, .ref a1, .ref a2, .ref a3, .ref a4, .ref a5, .ref a6, .ref a7])), (a1, .inl (cI, 24, .inl xF0)), (a2, .inl (cI, 24, .inl xF1)), (a3, .inl (cI, 24, .inl xF2)), (a4, .inl (cI, 24, .inl xF3)), (a5, .inl (cI, 24, .inl xF4)), (a6, .inl (cI, 24, .inl xF5)), (a7, .inl (cZ, 24, .inl xF6)), (a8, .inr (10, [.ref a9, .int i1, .int i2, .int i3, .int (u4 0), .int (u4 1), .int (u4 2), .int (u4 3)])), (a9, .inl (cB, 1600, .inl xF7))] := hD
    refine lv_aload_n hx hb dX3_readLine_19 rfl (lv_at hl 1 rfl) ?_
    refine va_ldcS hx hb hown hR47 dX3_readLine_20 ?_
    have hPc := hP.sub (ws' := [(a8, .inr (10, [.ref a9, .int i1, .int i2, .int i3, .int (u4 0), .int (u4 1), .int (u4 2), .int (u4 3)])), (a9, .inl (cB, 1600, .inl xF7))]) [8, 9] rfl
    have hDc := hD.sub (ws' := [(a8, .inr (10, [.ref a9, .int i1, .int i2, .int i3, .int (u4 0), .int (u4 1), .int (u4 2), .int (u4 3)])), (a9, .inl (cB, 1600, .inl xF7))]) [8, 9] (by decide) rfl
    have hFc := va_free (wc := [(a8, .inr (10, [.ref a9, .int i1, .int i2, .int i3, .int (u4 0), .int (u4 1), .int (u4 2), .int (u4 3)])), (a9, .inl (cB, 1600, .inl xF7))]) hD hS hA [8, 9] rfl
    refine va_callv (va_runV (As := [.ref sa47]) (rest := []) ⟨hx, hb, hml, hown, hwd⟩ (s_X10_takeWord l dC dI cI cZ cB cJ cM cG a8 a9 i1 i2 i3 (u4 0) (u4 1) (u4 2) (u4 3) xF7 sa47 sav47 sn47 sf47 H.size (show (0 : Int) ≤ i1.toInt ∧ i1.toInt ≤ 1600 from p_3) (show (0 : Int) ≤ (u4 1).toInt ∧ (u4 1).toInt ≤ 1600 from hw5) (show (0 : Int) ≤ (u4 2).toInt ∧ (u4 2).toInt ≤ 1600 from hw6)) (cwV 1 hwd (gV kr22_13 kr19_15 kr19_16 kr5_12 kr19_17) rfl rfl rfl (by decide +kernel) ⟨Nat.le_of_ble_eq_true rfl, Nat.le_of_ble_eq_true rfl⟩) (kPreVX hPc hK hDc (NS_st _ _ _ _) hN47 hS hFc (ci := 10) (q0 := 0) rfl rfl) rfl rfl hl.1 rfl (lv_room (Nat.le_of_ble_eq_true rfl)) dX3_readLine_22 ⟨Nat.le_of_ble_eq_true rfl, Nat.le_of_ble_eq_true rfl⟩) hS (fun q _ h => hFc q h) hFc (fun u8 t H1 locs ht9 hvm hw hB hz1 hk1 hS => ?_)
    obtain ⟨u9, U9, V9⟩ := u8
    obtain ⟨hw10, hw11, -⟩ := hw
    replace hw10 : (0 : Int) ≤ (u9 3).toInt ∧ (u9 3).toInt ≤ 1600 := hw10
    replace hw11 : (0 : Int) ≤ (u9 4).toInt ∧ (u9 4).toInt ≤ 1600 := hw11
    obtain ⟨hP1, hD1⟩ := hB
    rw [ht9] at hP1
    obtain ⟨hP, hD⟩ := va_join (wr := [(a0, .inr (3, [.int i0, .ref a1, .ref a2, .ref a3, .ref a4, .ref a5, .ref a6, .ref a7])), (a1, .inl (cI, 24, .inl xF0)), (a2, .inl (cI, 24, .inl xF1)), (a3, .inl (cI, 24, .inl xF2)), (a4, .inl (cI, 24, .inl xF3)), (a5, .inl (cI, 24, .inl xF4)), (a6, .inl (cI, 24, .inl xF5)), (a7, .inl (cZ, 24, .inl xF6))]) (w1 := [(a8, .inr (10, [.ref a9, .int i1, .int (u9 0), .int (u9 1), .int (u9 2), .int (u9 3), .int (u9 4), .int (u9 5)])), (a9, .inl (cB, 1600, .inl xF7))]) hP hD [8, 9] [0, 1, 2, 3, 4, 5, 6, 7] rfl rfl (by decide) (by decide) hk1 hFc hP1 hD1
    generalize H1 = H at hP hS ⊢
    replace hP : va_P (dC, dI) vwCl [(a0, .inr (3, [.int i0, .ref a1, .ref a2, .ref a3, .ref a4, .ref a5, .ref a6, .ref a7])), (a1, .inl (cI, 24, .inl xF0)), (a2, .inl (cI, 24, .inl xF1)), (a3, .inl (cI, 24, .inl xF2)), (a4, .inl (cI, 24, .inl xF3)), (a5, .inl (cI, 24, .inl xF4)), (a6, .inl (cI, 24, .inl xF5)), (a7, .inl (cZ, 24, .inl xF6)), (a8, .inr (10, [.ref a9, .int i1, .int (u9 0), .int (u9 1), .int (u9 2), .int (u9 3), .int (u9 4), .int (u9 5)])), (a9, .inl (cB, 1600, .inl xF7))] H := hP
    replace hD : va_D A [(a0, .inr (3, [.int i0, .ref a1, .ref a2, .ref a3, .ref a4, .ref a5, .ref a6, .ref a7])), (a1, .inl (cI, 24, .inl xF0)), (a2, .inl (cI, 24, .inl xF1)), (a3, .inl (cI, 24, .inl xF2)), (a4, .inl (cI, 24, .inl xF3)), (a5, .inl (cI, 24, .inl xF4)), (a6, .inl (cI, 24, .inl xF5)), (a7, .inl (cZ, 24, .inl xF6)), (a8, .inr (10, [.ref a9, .int i1, .int (u9 0), .int (u9 1), .int (u9 2), .int (u9 3), .int (u9 4), .int (u9 5)])), (a9, .inl (cB, 1600, .inl xF7))] := hD
    refine lv_aload_n hx hb dX3_readLine_25 rfl (lv_at hl 0 rfl) ?_
    refine va_get (D := (dC, dI)) (ci := 3) (v := .ref a1) (C := RX3) (T := TX3) (N := 8) hx hb hwd inlX3 hown hK hP 0 rfl rfl 1 (by decide) (hwd _ kr11_6) (fun _ h9 => h9) rfl dX3_readLine_26 ?_
    refine lv_aload_n hx hb dX3_readLine_29 rfl (lv_at hl 0 rfl) ?_
    refine va_get (D := (dC, dI)) (ci := 3) (v := .int i0) (C := RX3) (T := TX3) (N := 8) hx hb hwd inlX3 hown hK hP 0 rfl rfl 0 (by decide) (hwd _ kr11_1) (fun _ h9 => h9) rfl dX3_readLine_30 ?_
    refine lv_aload_n hx hb dX3_readLine_33 rfl (lv_at hl 1 rfl) ?_
    refine lv_iconst (v := 0) hx hb dX3_readLine_34 (by decide) ?_
    refine lv_iload_n hx hb dX3_readLine_35 rfl (lv_at hl 2 rfl) ?_
    refine lv_iconst (v := 1) hx hb dX3_readLine_36 (by decide) ?_
    refine lv_isub hx hb dX3_readLine_37 ?_
    refine lv_topi (fun x12 ex12 => ?_)
    have hPc := hP.sub (ws' := [(a8, .inr (10, [.ref a9, .int i1, .int (u9 0), .int (u9 1), .int (u9 2), .int (u9 3), .int (u9 4), .int (u9 5)])), (a9, .inl (cB, 1600, .inl xF7))]) [8, 9] rfl
    have hDc := hD.sub (ws' := [(a8, .inr (10, [.ref a9, .int i1, .int (u9 0), .int (u9 1), .int (u9 2), .int (u9 3), .int (u9 4), .int (u9 5)])), (a9, .inl (cB, 1600, .inl xF7))]) [8, 9] (by decide) rfl
    have hFc := va_free (wc := [(a8, .inr (10, [.ref a9, .int i1, .int (u9 0), .int (u9 1), .int (u9 2), .int (u9 3), .int (u9 4), .int (u9 5)])), (a9, .inl (cB, 1600, .inl xF7))]) hD hS hA [8, 9] rfl
    refine va_calli (va_runV (As := [.int 0, .int x12]) (rest := [.int i0, .ref a1]) ⟨hx, hb, hml, hown, hwd⟩ (s_X10_takeNumber l dC dI cI cZ cB cJ cM cG a8 a9 i1 (u9 0) (u9 1) (u9 2) (u9 3) (u9 4) (u9 5) xF7 0 x12 H.size (show (0 : Int) ≤ i1.toInt ∧ i1.toInt ≤ 1600 from p_3) (show (0 : Int) ≤ (u9 3).toInt ∧ (u9 3).toInt ≤ 1600 from hw10) (show (0 : Int) ≤ (u9 4).toInt ∧ (u9 4).toInt ≤ 1600 from hw11)) (cwV 2 hwd (gV kr22_14 kr21_22 kr21_23 kr5_12 kr22_0) rfl rfl rfl (by decide +kernel) ⟨Nat.le_of_ble_eq_true rfl, Nat.le_of_ble_eq_true rfl⟩) (kPreV hPc hK hDc (ci := 10) (q0 := 0) rfl rfl) rfl rfl hl.1 rfl (lv_room (Nat.le_of_ble_eq_true rfl)) dX3_readLine_38 ⟨Nat.le_of_ble_eq_true rfl, Nat.le_of_ble_eq_true rfl⟩) hS (fun q _ h => hFc q h) hFc (fun r13 u14 t H1 locs ht9 hvm hw hB hz1 hk1 hS => ?_)
    obtain ⟨u15, U15, V15⟩ := u14
    obtain ⟨hw16, hw17, hw18, -⟩ := hw
    replace hw16 : (0 : Int32).toInt ≤ r13.toInt ∧ (r13.toInt ≤ (0 : Int32).toInt ∨ r13.toInt ≤ x12.toInt) := hw16
    replace hw17 : (0 : Int) ≤ (u15 3).toInt ∧ (u15 3).toInt ≤ 1600 := hw17
    replace hw18 : (0 : Int) ≤ (u15 4).toInt ∧ (u15 4).toInt ≤ 1600 := hw18
    obtain ⟨hP1, hD1⟩ := hB
    rw [ht9] at hP1
    obtain ⟨hP, hD⟩ := va_join (wr := [(a0, .inr (3, [.int i0, .ref a1, .ref a2, .ref a3, .ref a4, .ref a5, .ref a6, .ref a7])), (a1, .inl (cI, 24, .inl xF0)), (a2, .inl (cI, 24, .inl xF1)), (a3, .inl (cI, 24, .inl xF2)), (a4, .inl (cI, 24, .inl xF3)), (a5, .inl (cI, 24, .inl xF4)), (a6, .inl (cI, 24, .inl xF5)), (a7, .inl (cZ, 24, .inl xF6))]) (w1 := [(a8, .inr (10, [.ref a9, .int i1, .int (u15 0), .int (u15 1), .int (u15 2), .int (u15 3), .int (u15 4), .int (u15 5)])), (a9, .inl (cB, 1600, .inl xF7))]) hP hD [8, 9] [0, 1, 2, 3, 4, 5, 6, 7] rfl rfl (by decide) (by decide) hk1 hFc hP1 hD1
    generalize H1 = H at hP hS ⊢
    replace hP : va_P (dC, dI) vwCl [(a0, .inr (3, [.int i0, .ref a1, .ref a2, .ref a3, .ref a4, .ref a5, .ref a6, .ref a7])), (a1, .inl (cI, 24, .inl xF0)), (a2, .inl (cI, 24, .inl xF1)), (a3, .inl (cI, 24, .inl xF2)), (a4, .inl (cI, 24, .inl xF3)), (a5, .inl (cI, 24, .inl xF4)), (a6, .inl (cI, 24, .inl xF5)), (a7, .inl (cZ, 24, .inl xF6)), (a8, .inr (10, [.ref a9, .int i1, .int (u15 0), .int (u15 1), .int (u15 2), .int (u15 3), .int (u15 4), .int (u15 5)])), (a9, .inl (cB, 1600, .inl xF7))] H := hP
    replace hD : va_D A [(a0, .inr (3, [.int i0, .ref a1, .ref a2, .ref a3, .ref a4, .ref a5, .ref a6, .ref a7])), (a1, .inl (cI, 24, .inl xF0)), (a2, .inl (cI, 24, .inl xF1)), (a3, .inl (cI, 24, .inl xF2)), (a4, .inl (cI, 24, .inl xF3)), (a5, .inl (cI, 24, .inl xF4)), (a6, .inl (cI, 24, .inl xF5)), (a7, .inl (cZ, 24, .inl xF6)), (a8, .inr (10, [.ref a9, .int i1, .int (u15 0), .int (u15 1), .int (u15 2), .int (u15 3), .int (u15 4), .int (u15 5)])), (a9, .inl (cB, 1600, .inl xF7))] := hD
    refine va_iast hx hb hK hP hD hS 1 0 rfl rfl (vp_of (by omega) (by omega)) dX3_readLine_41 (fun H locs hP hD hS => ?_)
    obtain ⟨f19, ef19⟩ : ∃ f, f = upd xF0 i0.toNatClampNeg r13 := ⟨_, rfl⟩
    replace hP : va_P (dC, dI) vwCl [(a0, .inr (3, [.int i0, .ref a1, .ref a2, .ref a3, .ref a4, .ref a5, .ref a6, .ref a7])), (a1, .inl (cI, 24, .inl f19)), (a2, .inl (cI, 24, .inl xF1)), (a3, .inl (cI, 24, .inl xF2)), (a4, .inl (cI, 24, .inl xF3)), (a5, .inl (cI, 24, .inl xF4)), (a6, .inl (cI, 24, .inl xF5)), (a7, .inl (cZ, 24, .inl xF6)), (a8, .inr (10, [.ref a9, .int i1, .int (u15 0), .int (u15 1), .int (u15 2), .int (u15 3), .int (u15 4), .int (u15 5)])), (a9, .inl (cB, 1600, .inl xF7))] H := by rw [ef19]; exact hP
    replace hD : va_D A [(a0, .inr (3, [.int i0, .ref a1, .ref a2, .ref a3, .ref a4, .ref a5, .ref a6, .ref a7])), (a1, .inl (cI, 24, .inl f19)), (a2, .inl (cI, 24, .inl xF1)), (a3, .inl (cI, 24, .inl xF2)), (a4, .inl (cI, 24, .inl xF3)), (a5, .inl (cI, 24, .inl xF4)), (a6, .inl (cI, 24, .inl xF5)), (a7, .inl (cZ, 24, .inl xF6)), (a8, .inr (10, [.ref a9, .int i1, .int (u15 0), .int (u15 1), .int (u15 2), .int (u15 3), .int (u15 4), .int (u15 5)])), (a9, .inl (cB, 1600, .inl xF7))] := by rw [ef19]; exact hD
    refine lv_aload_n hx hb dX3_readLine_42 rfl (lv_at hl 1 rfl) ?_
    refine va_ldcS hx hb hown hR57 dX3_readLine_43 ?_
    have hPc := hP.sub (ws' := [(a8, .inr (10, [.ref a9, .int i1, .int (u15 0), .int (u15 1), .int (u15 2), .int (u15 3), .int (u15 4), .int (u15 5)])), (a9, .inl (cB, 1600, .inl xF7))]) [8, 9] rfl
    have hDc := hD.sub (ws' := [(a8, .inr (10, [.ref a9, .int i1, .int (u15 0), .int (u15 1), .int (u15 2), .int (u15 3), .int (u15 4), .int (u15 5)])), (a9, .inl (cB, 1600, .inl xF7))]) [8, 9] (by decide) rfl
    have hFc := va_free (wc := [(a8, .inr (10, [.ref a9, .int i1, .int (u15 0), .int (u15 1), .int (u15 2), .int (u15 3), .int (u15 4), .int (u15 5)])), (a9, .inl (cB, 1600, .inl xF7))]) hD hS hA [8, 9] rfl
    refine va_callv (va_runV (As := [.ref sa57]) (rest := []) ⟨hx, hb, hml, hown, hwd⟩ (s_X10_takeWord l dC dI cI cZ cB cJ cM cG a8 a9 i1 (u15 0) (u15 1) (u15 2) (u15 3) (u15 4) (u15 5) xF7 sa57 sav57 sn57 sf57 H.size (show (0 : Int) ≤ i1.toInt ∧ i1.toInt ≤ 1600 from p_3) (show (0 : Int) ≤ (u15 3).toInt ∧ (u15 3).toInt ≤ 1600 from hw17) (show (0 : Int) ≤ (u15 4).toInt ∧ (u15 4).toInt ≤ 1600 from hw18)) (cwV 1 hwd (gV kr22_13 kr19_15 kr19_16 kr5_12 kr19_17) rfl rfl rfl (by decide +kernel) ⟨Nat.le_of_ble_eq_true rfl, Nat.le_of_ble_eq_true rfl⟩) (kPreVX hPc hK hDc (NS_st _ _ _ _) hN57 hS hFc (ci := 10) (q0 := 0) rfl rfl) rfl rfl hl.1 rfl (lv_room (Nat.le_of_ble_eq_true rfl)) dX3_readLine_45 ⟨Nat.le_of_ble_eq_true rfl, Nat.le_of_ble_eq_true rfl⟩) hS (fun q _ h => hFc q h) hFc (fun u21 t H1 locs ht9 hvm hw hB hz1 hk1 hS => ?_)
    obtain ⟨u22, U22, V22⟩ := u21
    obtain ⟨hw23, hw24, -⟩ := hw
    replace hw23 : (0 : Int) ≤ (u22 3).toInt ∧ (u22 3).toInt ≤ 1600 := hw23
    replace hw24 : (0 : Int) ≤ (u22 4).toInt ∧ (u22 4).toInt ≤ 1600 := hw24
    obtain ⟨hP1, hD1⟩ := hB
    rw [ht9] at hP1
    obtain ⟨hP, hD⟩ := va_join (wr := [(a0, .inr (3, [.int i0, .ref a1, .ref a2, .ref a3, .ref a4, .ref a5, .ref a6, .ref a7])), (a1, .inl (cI, 24, .inl f19)), (a2, .inl (cI, 24, .inl xF1)), (a3, .inl (cI, 24, .inl xF2)), (a4, .inl (cI, 24, .inl xF3)), (a5, .inl (cI, 24, .inl xF4)), (a6, .inl (cI, 24, .inl xF5)), (a7, .inl (cZ, 24, .inl xF6))]) (w1 := [(a8, .inr (10, [.ref a9, .int i1, .int (u22 0), .int (u22 1), .int (u22 2), .int (u22 3), .int (u22 4), .int (u22 5)])), (a9, .inl (cB, 1600, .inl xF7))]) hP hD [8, 9] [0, 1, 2, 3, 4, 5, 6, 7] rfl rfl (by decide) (by decide) hk1 hFc hP1 hD1
    generalize H1 = H at hP hS ⊢
    replace hP : va_P (dC, dI) vwCl [(a0, .inr (3, [.int i0, .ref a1, .ref a2, .ref a3, .ref a4, .ref a5, .ref a6, .ref a7])), (a1, .inl (cI, 24, .inl f19)), (a2, .inl (cI, 24, .inl xF1)), (a3, .inl (cI, 24, .inl xF2)), (a4, .inl (cI, 24, .inl xF3)), (a5, .inl (cI, 24, .inl xF4)), (a6, .inl (cI, 24, .inl xF5)), (a7, .inl (cZ, 24, .inl xF6)), (a8, .inr (10, [.ref a9, .int i1, .int (u22 0), .int (u22 1), .int (u22 2), .int (u22 3), .int (u22 4), .int (u22 5)])), (a9, .inl (cB, 1600, .inl xF7))] H := hP
    replace hD : va_D A [(a0, .inr (3, [.int i0, .ref a1, .ref a2, .ref a3, .ref a4, .ref a5, .ref a6, .ref a7])), (a1, .inl (cI, 24, .inl f19)), (a2, .inl (cI, 24, .inl xF1)), (a3, .inl (cI, 24, .inl xF2)), (a4, .inl (cI, 24, .inl xF3)), (a5, .inl (cI, 24, .inl xF4)), (a6, .inl (cI, 24, .inl xF5)), (a7, .inl (cZ, 24, .inl xF6)), (a8, .inr (10, [.ref a9, .int i1, .int (u22 0), .int (u22 1), .int (u22 2), .int (u22 3), .int (u22 4), .int (u22 5)])), (a9, .inl (cB, 1600, .inl xF7))] := hD
    refine lv_aload_n hx hb dX3_readLine_48 rfl (lv_at hl 0 rfl) ?_
    refine va_get (D := (dC, dI)) (ci := 3) (v := .ref a2) (C := RX3) (T := TX3) (N := 8) hx hb hwd inlX3 hown hK hP 0 rfl rfl 2 (by decide) (hwd _ kr11_10) (fun _ h9 => h9) rfl dX3_readLine_49 ?_
    refine lv_aload_n hx hb dX3_readLine_52 rfl (lv_at hl 0 rfl) ?_
    refine va_get (D := (dC, dI)) (ci := 3) (v := .int i0) (C := RX3) (T := TX3) (N := 8) hx hb hwd inlX3 hown hK hP 0 rfl rfl 0 (by decide) (hwd _ kr11_1) (fun _ h9 => h9) rfl dX3_readLine_53 ?_
    refine lv_aload_n hx hb dX3_readLine_56 rfl (lv_at hl 1 rfl) ?_
    refine lv_iconst (v := 0) hx hb dX3_readLine_57 (by decide) ?_
    refine lv_iload_n hx hb dX3_readLine_58 rfl (lv_at hl 3 rfl) ?_
    refine lv_iconst (v := 1) hx hb dX3_readLine_59 (by decide) ?_
    refine lv_isub hx hb dX3_readLine_60 ?_
    refine lv_topi (fun x25 ex25 => ?_)
    have tx25 := ia_sub (a := p2) (b := (1 : Int32)) (by omega) (by omega)
    rw [← ex25] at tx25
    have hPc := hP.sub (ws' := [(a8, .inr (10, [.ref a9, .int i1, .int (u22 0), .int (u22 1), .int (u22 2), .int (u22 3), .int (u22 4), .int (u22 5)])), (a9, .inl (cB, 1600, .inl xF7))]) [8, 9] rfl
    have hDc := hD.sub (ws' := [(a8, .inr (10, [.ref a9, .int i1, .int (u22 0), .int (u22 1), .int (u22 2), .int (u22 3), .int (u22 4), .int (u22 5)])), (a9, .inl (cB, 1600, .inl xF7))]) [8, 9] (by decide) rfl
    have hFc := va_free (wc := [(a8, .inr (10, [.ref a9, .int i1, .int (u22 0), .int (u22 1), .int (u22 2), .int (u22 3), .int (u22 4), .int (u22 5)])), (a9, .inl (cB, 1600, .inl xF7))]) hD hS hA [8, 9] rfl
    refine va_calli (va_runV (As := [.int 0, .int x25]) (rest := [.int i0, .ref a2]) ⟨hx, hb, hml, hown, hwd⟩ (s_X10_takeNumber l dC dI cI cZ cB cJ cM cG a8 a9 i1 (u22 0) (u22 1) (u22 2) (u22 3) (u22 4) (u22 5) xF7 0 x25 H.size (show (0 : Int) ≤ i1.toInt ∧ i1.toInt ≤ 1600 from p_3) (show (0 : Int) ≤ (u22 3).toInt ∧ (u22 3).toInt ≤ 1600 from hw23) (show (0 : Int) ≤ (u22 4).toInt ∧ (u22 4).toInt ≤ 1600 from hw24)) (cwV 2 hwd (gV kr22_14 kr21_22 kr21_23 kr5_12 kr22_0) rfl rfl rfl (by decide +kernel) ⟨Nat.le_of_ble_eq_true rfl, Nat.le_of_ble_eq_true rfl⟩) (kPreV hPc hK hDc (ci := 10) (q0 := 0) rfl rfl) rfl rfl hl.1 rfl (lv_room (Nat.le_of_ble_eq_true rfl)) dX3_readLine_61 ⟨Nat.le_of_ble_eq_true rfl, Nat.le_of_ble_eq_true rfl⟩) hS (fun q _ h => hFc q h) hFc (fun r26 u27 t H1 locs ht9 hvm hw hB hz1 hk1 hS => ?_)
    obtain ⟨u28, U28, V28⟩ := u27
    obtain ⟨hw29, hw30, hw31, -⟩ := hw
    replace hw29 : (0 : Int32).toInt ≤ r26.toInt ∧ (r26.toInt ≤ (0 : Int32).toInt ∨ r26.toInt ≤ x25.toInt) := hw29
    replace hw30 : (0 : Int) ≤ (u28 3).toInt ∧ (u28 3).toInt ≤ 1600 := hw30
    replace hw31 : (0 : Int) ≤ (u28 4).toInt ∧ (u28 4).toInt ≤ 1600 := hw31
    obtain ⟨hP1, hD1⟩ := hB
    rw [ht9] at hP1
    obtain ⟨hP, hD⟩ := va_join (wr := [(a0, .inr (3, [.int i0, .ref a1, .ref a2, .ref a3, .ref a4, .ref a5, .ref a6, .ref a7])), (a1, .inl (cI, 24, .inl f19)), (a2, .inl (cI, 24, .inl xF1)), (a3, .inl (cI, 24, .inl xF2)), (a4, .inl (cI, 24, .inl xF3)), (a5, .inl (cI, 24, .inl xF4)), (a6, .inl (cI, 24, .inl xF5)), (a7, .inl (cZ, 24, .inl xF6))]) (w1 := [(a8, .inr (10, [.ref a9, .int i1, .int (u28 0), .int (u28 1), .int (u28 2), .int (u28 3), .int (u28 4), .int (u28 5)])), (a9, .inl (cB, 1600, .inl xF7))]) hP hD [8, 9] [0, 1, 2, 3, 4, 5, 6, 7] rfl rfl (by decide) (by decide) hk1 hFc hP1 hD1
    generalize H1 = H at hP hS ⊢
    replace hP : va_P (dC, dI) vwCl [(a0, .inr (3, [.int i0, .ref a1, .ref a2, .ref a3, .ref a4, .ref a5, .ref a6, .ref a7])), (a1, .inl (cI, 24, .inl f19)), (a2, .inl (cI, 24, .inl xF1)), (a3, .inl (cI, 24, .inl xF2)), (a4, .inl (cI, 24, .inl xF3)), (a5, .inl (cI, 24, .inl xF4)), (a6, .inl (cI, 24, .inl xF5)), (a7, .inl (cZ, 24, .inl xF6)), (a8, .inr (10, [.ref a9, .int i1, .int (u28 0), .int (u28 1), .int (u28 2), .int (u28 3), .int (u28 4), .int (u28 5)])), (a9, .inl (cB, 1600, .inl xF7))] H := hP
    replace hD : va_D A [(a0, .inr (3, [.int i0, .ref a1, .ref a2, .ref a3, .ref a4, .ref a5, .ref a6, .ref a7])), (a1, .inl (cI, 24, .inl f19)), (a2, .inl (cI, 24, .inl xF1)), (a3, .inl (cI, 24, .inl xF2)), (a4, .inl (cI, 24, .inl xF3)), (a5, .inl (cI, 24, .inl xF4)), (a6, .inl (cI, 24, .inl xF5)), (a7, .inl (cZ, 24, .inl xF6)), (a8, .inr (10, [.ref a9, .int i1, .int (u28 0), .int (u28 1), .int (u28 2), .int (u28 3), .int (u28 4), .int (u28 5)])), (a9, .inl (cB, 1600, .inl xF7))] := hD
    refine va_iast hx hb hK hP hD hS 2 0 rfl rfl (vp_of (by omega) (by omega)) dX3_readLine_64 (fun H locs hP hD hS => ?_)
    obtain ⟨f32, ef32⟩ : ∃ f, f = upd xF1 i0.toNatClampNeg r26 := ⟨_, rfl⟩
    replace hP : va_P (dC, dI) vwCl [(a0, .inr (3, [.int i0, .ref a1, .ref a2, .ref a3, .ref a4, .ref a5, .ref a6, .ref a7])), (a1, .inl (cI, 24, .inl f19)), (a2, .inl (cI, 24, .inl f32)), (a3, .inl (cI, 24, .inl xF2)), (a4, .inl (cI, 24, .inl xF3)), (a5, .inl (cI, 24, .inl xF4)), (a6, .inl (cI, 24, .inl xF5)), (a7, .inl (cZ, 24, .inl xF6)), (a8, .inr (10, [.ref a9, .int i1, .int (u28 0), .int (u28 1), .int (u28 2), .int (u28 3), .int (u28 4), .int (u28 5)])), (a9, .inl (cB, 1600, .inl xF7))] H := by rw [ef32]; exact hP
    replace hD : va_D A [(a0, .inr (3, [.int i0, .ref a1, .ref a2, .ref a3, .ref a4, .ref a5, .ref a6, .ref a7])), (a1, .inl (cI, 24, .inl f19)), (a2, .inl (cI, 24, .inl f32)), (a3, .inl (cI, 24, .inl xF2)), (a4, .inl (cI, 24, .inl xF3)), (a5, .inl (cI, 24, .inl xF4)), (a6, .inl (cI, 24, .inl xF5)), (a7, .inl (cZ, 24, .inl xF6)), (a8, .inr (10, [.ref a9, .int i1, .int (u28 0), .int (u28 1), .int (u28 2), .int (u28 3), .int (u28 4), .int (u28 5)])), (a9, .inl (cB, 1600, .inl xF7))] := by rw [ef32]; exact hD
    refine lv_aload_n hx hb dX3_readLine_65 rfl (lv_at hl 1 rfl) ?_
    refine va_ldcS hx hb hown hR58 dX3_readLine_66 ?_
    have hPc := hP.sub (ws' := [(a8, .inr (10, [.ref a9, .int i1, .int (u28 0), .int (u28 1), .int (u28 2), .int (u28 3), .int (u28 4), .int (u28 5)])), (a9, .inl (cB, 1600, .inl xF7))]) [8, 9] rfl
    have hDc := hD.sub (ws' := [(a8, .inr (10, [.ref a9, .int i1, .int (u28 0), .int (u28 1), .int (u28 2), .int (u28 3), .int (u28 4), .int (u28 5)])), (a9, .inl (cB, 1600, .inl xF7))]) [8, 9] (by decide) rfl
    have hFc := va_free (wc := [(a8, .inr (10, [.ref a9, .int i1, .int (u28 0), .int (u28 1), .int (u28 2), .int (u28 3), .int (u28 4), .int (u28 5)])), (a9, .inl (cB, 1600, .inl xF7))]) hD hS hA [8, 9] rfl
    refine va_callv (va_runV (As := [.ref sa58]) (rest := []) ⟨hx, hb, hml, hown, hwd⟩ (s_X10_takeWord l dC dI cI cZ cB cJ cM cG a8 a9 i1 (u28 0) (u28 1) (u28 2) (u28 3) (u28 4) (u28 5) xF7 sa58 sav58 sn58 sf58 H.size (show (0 : Int) ≤ i1.toInt ∧ i1.toInt ≤ 1600 from p_3) (show (0 : Int) ≤ (u28 3).toInt ∧ (u28 3).toInt ≤ 1600 from hw30) (show (0 : Int) ≤ (u28 4).toInt ∧ (u28 4).toInt ≤ 1600 from hw31)) (cwV 1 hwd (gV kr22_13 kr19_15 kr19_16 kr5_12 kr19_17) rfl rfl rfl (by decide +kernel) ⟨Nat.le_of_ble_eq_true rfl, Nat.le_of_ble_eq_true rfl⟩) (kPreVX hPc hK hDc (NS_st _ _ _ _) hN58 hS hFc (ci := 10) (q0 := 0) rfl rfl) rfl rfl hl.1 rfl (lv_room (Nat.le_of_ble_eq_true rfl)) dX3_readLine_68 ⟨Nat.le_of_ble_eq_true rfl, Nat.le_of_ble_eq_true rfl⟩) hS (fun q _ h => hFc q h) hFc (fun u34 t H1 locs ht9 hvm hw hB hz1 hk1 hS => ?_)
    obtain ⟨u35, U35, V35⟩ := u34
    obtain ⟨hw36, hw37, -⟩ := hw
    replace hw36 : (0 : Int) ≤ (u35 3).toInt ∧ (u35 3).toInt ≤ 1600 := hw36
    replace hw37 : (0 : Int) ≤ (u35 4).toInt ∧ (u35 4).toInt ≤ 1600 := hw37
    obtain ⟨hP1, hD1⟩ := hB
    rw [ht9] at hP1
    obtain ⟨hP, hD⟩ := va_join (wr := [(a0, .inr (3, [.int i0, .ref a1, .ref a2, .ref a3, .ref a4, .ref a5, .ref a6, .ref a7])), (a1, .inl (cI, 24, .inl f19)), (a2, .inl (cI, 24, .inl f32)), (a3, .inl (cI, 24, .inl xF2)), (a4, .inl (cI, 24, .inl xF3)), (a5, .inl (cI, 24, .inl xF4)), (a6, .inl (cI, 24, .inl xF5)), (a7, .inl (cZ, 24, .inl xF6))]) (w1 := [(a8, .inr (10, [.ref a9, .int i1, .int (u35 0), .int (u35 1), .int (u35 2), .int (u35 3), .int (u35 4), .int (u35 5)])), (a9, .inl (cB, 1600, .inl xF7))]) hP hD [8, 9] [0, 1, 2, 3, 4, 5, 6, 7] rfl rfl (by decide) (by decide) hk1 hFc hP1 hD1
    generalize H1 = H at hP hS ⊢
    replace hP : va_P (dC, dI) vwCl [(a0, .inr (3, [.int i0, .ref a1, .ref a2, .ref a3, .ref a4, .ref a5, .ref a6, .ref a7])), (a1, .inl (cI, 24, .inl f19)), (a2, .inl (cI, 24, .inl f32)), (a3, .inl (cI, 24, .inl xF2)), (a4, .inl (cI, 24, .inl xF3)), (a5, .inl (cI, 24, .inl xF4)), (a6, .inl (cI, 24, .inl xF5)), (a7, .inl (cZ, 24, .inl xF6)), (a8, .inr (10, [.ref a9, .int i1, .int (u35 0), .int (u35 1), .int (u35 2), .int (u35 3), .int (u35 4), .int (u35 5)])), (a9, .inl (cB, 1600, .inl xF7))] H := hP
    replace hD : va_D A [(a0, .inr (3, [.int i0, .ref a1, .ref a2, .ref a3, .ref a4, .ref a5, .ref a6, .ref a7])), (a1, .inl (cI, 24, .inl f19)), (a2, .inl (cI, 24, .inl f32)), (a3, .inl (cI, 24, .inl xF2)), (a4, .inl (cI, 24, .inl xF3)), (a5, .inl (cI, 24, .inl xF4)), (a6, .inl (cI, 24, .inl xF5)), (a7, .inl (cZ, 24, .inl xF6)), (a8, .inr (10, [.ref a9, .int i1, .int (u35 0), .int (u35 1), .int (u35 2), .int (u35 3), .int (u35 4), .int (u35 5)])), (a9, .inl (cB, 1600, .inl xF7))] := hD
    refine lv_aload_n hx hb dX3_readLine_71 rfl (lv_at hl 0 rfl) ?_
    refine va_get (D := (dC, dI)) (ci := 3) (v := .ref a3) (C := RX3) (T := TX3) (N := 8) hx hb hwd inlX3 hown hK hP 0 rfl rfl 3 (by decide) (hwd _ kr11_13) (fun _ h9 => h9) rfl dX3_readLine_72 ?_
    refine lv_aload_n hx hb dX3_readLine_75 rfl (lv_at hl 0 rfl) ?_
    refine va_get (D := (dC, dI)) (ci := 3) (v := .int i0) (C := RX3) (T := TX3) (N := 8) hx hb hwd inlX3 hown hK hP 0 rfl rfl 0 (by decide) (hwd _ kr11_1) (fun _ h9 => h9) rfl dX3_readLine_76 ?_
    refine lv_aload_n hx hb dX3_readLine_79 rfl (lv_at hl 1 rfl) ?_
    refine lv_iconst (v := 1) hx hb dX3_readLine_80 (by decide) ?_
    refine lv_iload_n hx hb dX3_readLine_81 rfl (lv_at hl 3 rfl) ?_
    have hPc := hP.sub (ws' := [(a8, .inr (10, [.ref a9, .int i1, .int (u35 0), .int (u35 1), .int (u35 2), .int (u35 3), .int (u35 4), .int (u35 5)])), (a9, .inl (cB, 1600, .inl xF7))]) [8, 9] rfl
    have hDc := hD.sub (ws' := [(a8, .inr (10, [.ref a9, .int i1, .int (u35 0), .int (u35 1), .int (u35 2), .int (u35 3), .int (u35 4), .int (u35 5)])), (a9, .inl (cB, 1600, .inl xF7))]) [8, 9] (by decide) rfl
    have hFc := va_free (wc := [(a8, .inr (10, [.ref a9, .int i1, .int (u35 0), .int (u35 1), .int (u35 2), .int (u35 3), .int (u35 4), .int (u35 5)])), (a9, .inl (cB, 1600, .inl xF7))]) hD hS hA [8, 9] rfl
    refine va_calli (va_runV (As := [.int 1, .int p2]) (rest := [.int i0, .ref a3]) ⟨hx, hb, hml, hown, hwd⟩ (s_X10_takeNumber l dC dI cI cZ cB cJ cM cG a8 a9 i1 (u35 0) (u35 1) (u35 2) (u35 3) (u35 4) (u35 5) xF7 1 p2 H.size (show (0 : Int) ≤ i1.toInt ∧ i1.toInt ≤ 1600 from p_3) (show (0 : Int) ≤ (u35 3).toInt ∧ (u35 3).toInt ≤ 1600 from hw36) (show (0 : Int) ≤ (u35 4).toInt ∧ (u35 4).toInt ≤ 1600 from hw37)) (cwV 2 hwd (gV kr22_14 kr21_22 kr21_23 kr5_12 kr22_0) rfl rfl rfl (by decide +kernel) ⟨Nat.le_of_ble_eq_true rfl, Nat.le_of_ble_eq_true rfl⟩) (kPreV hPc hK hDc (ci := 10) (q0 := 0) rfl rfl) rfl rfl hl.1 rfl (lv_room (Nat.le_of_ble_eq_true rfl)) dX3_readLine_82 ⟨Nat.le_of_ble_eq_true rfl, Nat.le_of_ble_eq_true rfl⟩) hS (fun q _ h => hFc q h) hFc (fun r38 u39 t H1 locs ht9 hvm hw hB hz1 hk1 hS => ?_)
    obtain ⟨u40, U40, V40⟩ := u39
    obtain ⟨hw41, hw42, hw43, -⟩ := hw
    replace hw41 : (1 : Int32).toInt ≤ r38.toInt ∧ (r38.toInt ≤ (1 : Int32).toInt ∨ r38.toInt ≤ p2.toInt) := hw41
    replace hw42 : (0 : Int) ≤ (u40 3).toInt ∧ (u40 3).toInt ≤ 1600 := hw42
    replace hw43 : (0 : Int) ≤ (u40 4).toInt ∧ (u40 4).toInt ≤ 1600 := hw43
    obtain ⟨hP1, hD1⟩ := hB
    rw [ht9] at hP1
    obtain ⟨hP, hD⟩ := va_join (wr := [(a0, .inr (3, [.int i0, .ref a1, .ref a2, .ref a3, .ref a4, .ref a5, .ref a6, .ref a7])), (a1, .inl (cI, 24, .inl f19)), (a2, .inl (cI, 24, .inl f32)), (a3, .inl (cI, 24, .inl xF2)), (a4, .inl (cI, 24, .inl xF3)), (a5, .inl (cI, 24, .inl xF4)), (a6, .inl (cI, 24, .inl xF5)), (a7, .inl (cZ, 24, .inl xF6))]) (w1 := [(a8, .inr (10, [.ref a9, .int i1, .int (u40 0), .int (u40 1), .int (u40 2), .int (u40 3), .int (u40 4), .int (u40 5)])), (a9, .inl (cB, 1600, .inl xF7))]) hP hD [8, 9] [0, 1, 2, 3, 4, 5, 6, 7] rfl rfl (by decide) (by decide) hk1 hFc hP1 hD1
    generalize H1 = H at hP hS ⊢
    replace hP : va_P (dC, dI) vwCl [(a0, .inr (3, [.int i0, .ref a1, .ref a2, .ref a3, .ref a4, .ref a5, .ref a6, .ref a7])), (a1, .inl (cI, 24, .inl f19)), (a2, .inl (cI, 24, .inl f32)), (a3, .inl (cI, 24, .inl xF2)), (a4, .inl (cI, 24, .inl xF3)), (a5, .inl (cI, 24, .inl xF4)), (a6, .inl (cI, 24, .inl xF5)), (a7, .inl (cZ, 24, .inl xF6)), (a8, .inr (10, [.ref a9, .int i1, .int (u40 0), .int (u40 1), .int (u40 2), .int (u40 3), .int (u40 4), .int (u40 5)])), (a9, .inl (cB, 1600, .inl xF7))] H := hP
    replace hD : va_D A [(a0, .inr (3, [.int i0, .ref a1, .ref a2, .ref a3, .ref a4, .ref a5, .ref a6, .ref a7])), (a1, .inl (cI, 24, .inl f19)), (a2, .inl (cI, 24, .inl f32)), (a3, .inl (cI, 24, .inl xF2)), (a4, .inl (cI, 24, .inl xF3)), (a5, .inl (cI, 24, .inl xF4)), (a6, .inl (cI, 24, .inl xF5)), (a7, .inl (cZ, 24, .inl xF6)), (a8, .inr (10, [.ref a9, .int i1, .int (u40 0), .int (u40 1), .int (u40 2), .int (u40 3), .int (u40 4), .int (u40 5)])), (a9, .inl (cB, 1600, .inl xF7))] := hD
    refine va_iast hx hb hK hP hD hS 3 0 rfl rfl (vp_of (by omega) (by omega)) dX3_readLine_85 (fun H locs hP hD hS => ?_)
    obtain ⟨f44, ef44⟩ : ∃ f, f = upd xF2 i0.toNatClampNeg r38 := ⟨_, rfl⟩
    replace hP : va_P (dC, dI) vwCl [(a0, .inr (3, [.int i0, .ref a1, .ref a2, .ref a3, .ref a4, .ref a5, .ref a6, .ref a7])), (a1, .inl (cI, 24, .inl f19)), (a2, .inl (cI, 24, .inl f32)), (a3, .inl (cI, 24, .inl f44)), (a4, .inl (cI, 24, .inl xF3)), (a5, .inl (cI, 24, .inl xF4)), (a6, .inl (cI, 24, .inl xF5)), (a7, .inl (cZ, 24, .inl xF6)), (a8, .inr (10, [.ref a9, .int i1, .int (u40 0), .int (u40 1), .int (u40 2), .int (u40 3), .int (u40 4), .int (u40 5)])), (a9, .inl (cB, 1600, .inl xF7))] H := by rw [ef44]; exact hP
    replace hD : va_D A [(a0, .inr (3, [.int i0, .ref a1, .ref a2, .ref a3, .ref a4, .ref a5, .ref a6, .ref a7])), (a1, .inl (cI, 24, .inl f19)), (a2, .inl (cI, 24, .inl f32)), (a3, .inl (cI, 24, .inl f44)), (a4, .inl (cI, 24, .inl xF3)), (a5, .inl (cI, 24, .inl xF4)), (a6, .inl (cI, 24, .inl xF5)), (a7, .inl (cZ, 24, .inl xF6)), (a8, .inr (10, [.ref a9, .int i1, .int (u40 0), .int (u40 1), .int (u40 2), .int (u40 3), .int (u40 4), .int (u40 5)])), (a9, .inl (cB, 1600, .inl xF7))] := by rw [ef44]; exact hD
    refine lv_aload_n hx hb dX3_readLine_86 rfl (lv_at hl 1 rfl) ?_
    refine va_ldcS hx hb hown hR59 dX3_readLine_87 ?_
    have hPc := hP.sub (ws' := [(a8, .inr (10, [.ref a9, .int i1, .int (u40 0), .int (u40 1), .int (u40 2), .int (u40 3), .int (u40 4), .int (u40 5)])), (a9, .inl (cB, 1600, .inl xF7))]) [8, 9] rfl
    have hDc := hD.sub (ws' := [(a8, .inr (10, [.ref a9, .int i1, .int (u40 0), .int (u40 1), .int (u40 2), .int (u40 3), .int (u40 4), .int (u40 5)])), (a9, .inl (cB, 1600, .inl xF7))]) [8, 9] (by decide) rfl
    have hFc := va_free (wc := [(a8, .inr (10, [.ref a9, .int i1, .int (u40 0), .int (u40 1), .int (u40 2), .int (u40 3), .int (u40 4), .int (u40 5)])), (a9, .inl (cB, 1600, .inl xF7))]) hD hS hA [8, 9] rfl
    refine va_callv (va_runV (As := [.ref sa59]) (rest := []) ⟨hx, hb, hml, hown, hwd⟩ (s_X10_takeWord l dC dI cI cZ cB cJ cM cG a8 a9 i1 (u40 0) (u40 1) (u40 2) (u40 3) (u40 4) (u40 5) xF7 sa59 sav59 sn59 sf59 H.size (show (0 : Int) ≤ i1.toInt ∧ i1.toInt ≤ 1600 from p_3) (show (0 : Int) ≤ (u40 3).toInt ∧ (u40 3).toInt ≤ 1600 from hw42) (show (0 : Int) ≤ (u40 4).toInt ∧ (u40 4).toInt ≤ 1600 from hw43)) (cwV 1 hwd (gV kr22_13 kr19_15 kr19_16 kr5_12 kr19_17) rfl rfl rfl (by decide +kernel) ⟨Nat.le_of_ble_eq_true rfl, Nat.le_of_ble_eq_true rfl⟩) (kPreVX hPc hK hDc (NS_st _ _ _ _) hN59 hS hFc (ci := 10) (q0 := 0) rfl rfl) rfl rfl hl.1 rfl (lv_room (Nat.le_of_ble_eq_true rfl)) dX3_readLine_89 ⟨Nat.le_of_ble_eq_true rfl, Nat.le_of_ble_eq_true rfl⟩) hS (fun q _ h => hFc q h) hFc (fun u46 t H1 locs ht9 hvm hw hB hz1 hk1 hS => ?_)
    obtain ⟨u47, U47, V47⟩ := u46
    obtain ⟨hw48, hw49, -⟩ := hw
    replace hw48 : (0 : Int) ≤ (u47 3).toInt ∧ (u47 3).toInt ≤ 1600 := hw48
    replace hw49 : (0 : Int) ≤ (u47 4).toInt ∧ (u47 4).toInt ≤ 1600 := hw49
    obtain ⟨hP1, hD1⟩ := hB
    rw [ht9] at hP1
    obtain ⟨hP, hD⟩ := va_join (wr := [(a0, .inr (3, [.int i0, .ref a1, .ref a2, .ref a3, .ref a4, .ref a5, .ref a6, .ref a7])), (a1, .inl (cI, 24, .inl f19)), (a2, .inl (cI, 24, .inl f32)), (a3, .inl (cI, 24, .inl f44)), (a4, .inl (cI, 24, .inl xF3)), (a5, .inl (cI, 24, .inl xF4)), (a6, .inl (cI, 24, .inl xF5)), (a7, .inl (cZ, 24, .inl xF6))]) (w1 := [(a8, .inr (10, [.ref a9, .int i1, .int (u47 0), .int (u47 1), .int (u47 2), .int (u47 3), .int (u47 4), .int (u47 5)])), (a9, .inl (cB, 1600, .inl xF7))]) hP hD [8, 9] [0, 1, 2, 3, 4, 5, 6, 7] rfl rfl (by decide) (by decide) hk1 hFc hP1 hD1
    generalize H1 = H at hP hS ⊢
    replace hP : va_P (dC, dI) vwCl [(a0, .inr (3, [.int i0, .ref a1, .ref a2, .ref a3, .ref a4, .ref a5, .ref a6, .ref a7])), (a1, .inl (cI, 24, .inl f19)), (a2, .inl (cI, 24, .inl f32)), (a3, .inl (cI, 24, .inl f44)), (a4, .inl (cI, 24, .inl xF3)), (a5, .inl (cI, 24, .inl xF4)), (a6, .inl (cI, 24, .inl xF5)), (a7, .inl (cZ, 24, .inl xF6)), (a8, .inr (10, [.ref a9, .int i1, .int (u47 0), .int (u47 1), .int (u47 2), .int (u47 3), .int (u47 4), .int (u47 5)])), (a9, .inl (cB, 1600, .inl xF7))] H := hP
    replace hD : va_D A [(a0, .inr (3, [.int i0, .ref a1, .ref a2, .ref a3, .ref a4, .ref a5, .ref a6, .ref a7])), (a1, .inl (cI, 24, .inl f19)), (a2, .inl (cI, 24, .inl f32)), (a3, .inl (cI, 24, .inl f44)), (a4, .inl (cI, 24, .inl xF3)), (a5, .inl (cI, 24, .inl xF4)), (a6, .inl (cI, 24, .inl xF5)), (a7, .inl (cZ, 24, .inl xF6)), (a8, .inr (10, [.ref a9, .int i1, .int (u47 0), .int (u47 1), .int (u47 2), .int (u47 3), .int (u47 4), .int (u47 5)])), (a9, .inl (cB, 1600, .inl xF7))] := hD
    refine lv_aload_n hx hb dX3_readLine_92 rfl (lv_at hl 0 rfl) ?_
    refine va_get (D := (dC, dI)) (ci := 3) (v := .ref a4) (C := RX3) (T := TX3) (N := 8) hx hb hwd inlX3 hown hK hP 0 rfl rfl 4 (by decide) (hwd _ kr11_16) (fun _ h9 => h9) rfl dX3_readLine_93 ?_
    refine lv_aload_n hx hb dX3_readLine_96 rfl (lv_at hl 0 rfl) ?_
    refine va_get (D := (dC, dI)) (ci := 3) (v := .int i0) (C := RX3) (T := TX3) (N := 8) hx hb hwd inlX3 hown hK hP 0 rfl rfl 0 (by decide) (hwd _ kr11_1) (fun _ h9 => h9) rfl dX3_readLine_97 ?_
    refine lv_aload_n hx hb dX3_readLine_100 rfl (lv_at hl 1 rfl) ?_
    refine lv_iconst (v := 1) hx hb dX3_readLine_101 (by decide) ?_
    refine lv_bipush (v := 60) hx hb dX3_readLine_102 (by decide) ?_
    have hPc := hP.sub (ws' := [(a8, .inr (10, [.ref a9, .int i1, .int (u47 0), .int (u47 1), .int (u47 2), .int (u47 3), .int (u47 4), .int (u47 5)])), (a9, .inl (cB, 1600, .inl xF7))]) [8, 9] rfl
    have hDc := hD.sub (ws' := [(a8, .inr (10, [.ref a9, .int i1, .int (u47 0), .int (u47 1), .int (u47 2), .int (u47 3), .int (u47 4), .int (u47 5)])), (a9, .inl (cB, 1600, .inl xF7))]) [8, 9] (by decide) rfl
    have hFc := va_free (wc := [(a8, .inr (10, [.ref a9, .int i1, .int (u47 0), .int (u47 1), .int (u47 2), .int (u47 3), .int (u47 4), .int (u47 5)])), (a9, .inl (cB, 1600, .inl xF7))]) hD hS hA [8, 9] rfl
    refine va_calli (va_runV (As := [.int 1, .int 60]) (rest := [.int i0, .ref a4]) ⟨hx, hb, hml, hown, hwd⟩ (s_X10_takeNumber l dC dI cI cZ cB cJ cM cG a8 a9 i1 (u47 0) (u47 1) (u47 2) (u47 3) (u47 4) (u47 5) xF7 1 60 H.size (show (0 : Int) ≤ i1.toInt ∧ i1.toInt ≤ 1600 from p_3) (show (0 : Int) ≤ (u47 3).toInt ∧ (u47 3).toInt ≤ 1600 from hw48) (show (0 : Int) ≤ (u47 4).toInt ∧ (u47 4).toInt ≤ 1600 from hw49)) (cwV 2 hwd (gV kr22_14 kr21_22 kr21_23 kr5_12 kr22_0) rfl rfl rfl (by decide +kernel) ⟨Nat.le_of_ble_eq_true rfl, Nat.le_of_ble_eq_true rfl⟩) (kPreV hPc hK hDc (ci := 10) (q0 := 0) rfl rfl) rfl rfl hl.1 rfl (lv_room (Nat.le_of_ble_eq_true rfl)) dX3_readLine_104 ⟨Nat.le_of_ble_eq_true rfl, Nat.le_of_ble_eq_true rfl⟩) hS (fun q _ h => hFc q h) hFc (fun r50 u51 t H1 locs ht9 hvm hw hB hz1 hk1 hS => ?_)
    obtain ⟨u52, U52, V52⟩ := u51
    obtain ⟨hw53, hw54, hw55, -⟩ := hw
    replace hw53 : (1 : Int32).toInt ≤ r50.toInt ∧ (r50.toInt ≤ (1 : Int32).toInt ∨ r50.toInt ≤ (60 : Int32).toInt) := hw53
    replace hw54 : (0 : Int) ≤ (u52 3).toInt ∧ (u52 3).toInt ≤ 1600 := hw54
    replace hw55 : (0 : Int) ≤ (u52 4).toInt ∧ (u52 4).toInt ≤ 1600 := hw55
    obtain ⟨hP1, hD1⟩ := hB
    rw [ht9] at hP1
    obtain ⟨hP, hD⟩ := va_join (wr := [(a0, .inr (3, [.int i0, .ref a1, .ref a2, .ref a3, .ref a4, .ref a5, .ref a6, .ref a7])), (a1, .inl (cI, 24, .inl f19)), (a2, .inl (cI, 24, .inl f32)), (a3, .inl (cI, 24, .inl f44)), (a4, .inl (cI, 24, .inl xF3)), (a5, .inl (cI, 24, .inl xF4)), (a6, .inl (cI, 24, .inl xF5)), (a7, .inl (cZ, 24, .inl xF6))]) (w1 := [(a8, .inr (10, [.ref a9, .int i1, .int (u52 0), .int (u52 1), .int (u52 2), .int (u52 3), .int (u52 4), .int (u52 5)])), (a9, .inl (cB, 1600, .inl xF7))]) hP hD [8, 9] [0, 1, 2, 3, 4, 5, 6, 7] rfl rfl (by decide) (by decide) hk1 hFc hP1 hD1
    generalize H1 = H at hP hS ⊢
    replace hP : va_P (dC, dI) vwCl [(a0, .inr (3, [.int i0, .ref a1, .ref a2, .ref a3, .ref a4, .ref a5, .ref a6, .ref a7])), (a1, .inl (cI, 24, .inl f19)), (a2, .inl (cI, 24, .inl f32)), (a3, .inl (cI, 24, .inl f44)), (a4, .inl (cI, 24, .inl xF3)), (a5, .inl (cI, 24, .inl xF4)), (a6, .inl (cI, 24, .inl xF5)), (a7, .inl (cZ, 24, .inl xF6)), (a8, .inr (10, [.ref a9, .int i1, .int (u52 0), .int (u52 1), .int (u52 2), .int (u52 3), .int (u52 4), .int (u52 5)])), (a9, .inl (cB, 1600, .inl xF7))] H := hP
    replace hD : va_D A [(a0, .inr (3, [.int i0, .ref a1, .ref a2, .ref a3, .ref a4, .ref a5, .ref a6, .ref a7])), (a1, .inl (cI, 24, .inl f19)), (a2, .inl (cI, 24, .inl f32)), (a3, .inl (cI, 24, .inl f44)), (a4, .inl (cI, 24, .inl xF3)), (a5, .inl (cI, 24, .inl xF4)), (a6, .inl (cI, 24, .inl xF5)), (a7, .inl (cZ, 24, .inl xF6)), (a8, .inr (10, [.ref a9, .int i1, .int (u52 0), .int (u52 1), .int (u52 2), .int (u52 3), .int (u52 4), .int (u52 5)])), (a9, .inl (cB, 1600, .inl xF7))] := hD
    refine va_iast hx hb hK hP hD hS 4 0 rfl rfl (vp_of (by omega) (by omega)) dX3_readLine_107 (fun H locs hP hD hS => ?_)
    obtain ⟨f56, ef56⟩ : ∃ f, f = upd xF3 i0.toNatClampNeg r50 := ⟨_, rfl⟩
    have rf56 : rng f56 24 0 60 := by rw [ef56]; exact rng_upd (rng_mono p_1 (by omega) (by omega)) (by omega) (by omega)
    replace hP : va_P (dC, dI) vwCl [(a0, .inr (3, [.int i0, .ref a1, .ref a2, .ref a3, .ref a4, .ref a5, .ref a6, .ref a7])), (a1, .inl (cI, 24, .inl f19)), (a2, .inl (cI, 24, .inl f32)), (a3, .inl (cI, 24, .inl f44)), (a4, .inl (cI, 24, .inl f56)), (a5, .inl (cI, 24, .inl xF4)), (a6, .inl (cI, 24, .inl xF5)), (a7, .inl (cZ, 24, .inl xF6)), (a8, .inr (10, [.ref a9, .int i1, .int (u52 0), .int (u52 1), .int (u52 2), .int (u52 3), .int (u52 4), .int (u52 5)])), (a9, .inl (cB, 1600, .inl xF7))] H := by rw [ef56]; exact hP
    replace hD : va_D A [(a0, .inr (3, [.int i0, .ref a1, .ref a2, .ref a3, .ref a4, .ref a5, .ref a6, .ref a7])), (a1, .inl (cI, 24, .inl f19)), (a2, .inl (cI, 24, .inl f32)), (a3, .inl (cI, 24, .inl f44)), (a4, .inl (cI, 24, .inl f56)), (a5, .inl (cI, 24, .inl xF4)), (a6, .inl (cI, 24, .inl xF5)), (a7, .inl (cZ, 24, .inl xF6)), (a8, .inr (10, [.ref a9, .int i1, .int (u52 0), .int (u52 1), .int (u52 2), .int (u52 3), .int (u52 4), .int (u52 5)])), (a9, .inl (cB, 1600, .inl xF7))] := by rw [ef56]; exact hD
    refine lv_aload_n hx hb dX3_readLine_108 rfl (lv_at hl 1 rfl) ?_
    refine va_ldcS hx hb hown hR60 dX3_readLine_109 ?_
    have hPc := hP.sub (ws' := [(a8, .inr (10, [.ref a9, .int i1, .int (u52 0), .int (u52 1), .int (u52 2), .int (u52 3), .int (u52 4), .int (u52 5)])), (a9, .inl (cB, 1600, .inl xF7))]) [8, 9] rfl
    have hDc := hD.sub (ws' := [(a8, .inr (10, [.ref a9, .int i1, .int (u52 0), .int (u52 1), .int (u52 2), .int (u52 3), .int (u52 4), .int (u52 5)])), (a9, .inl (cB, 1600, .inl xF7))]) [8, 9] (by decide) rfl
    have hFc := va_free (wc := [(a8, .inr (10, [.ref a9, .int i1, .int (u52 0), .int (u52 1), .int (u52 2), .int (u52 3), .int (u52 4), .int (u52 5)])), (a9, .inl (cB, 1600, .inl xF7))]) hD hS hA [8, 9] rfl
    refine va_callv (va_runV (As := [.ref sa60]) (rest := []) ⟨hx, hb, hml, hown, hwd⟩ (s_X10_takeWord l dC dI cI cZ cB cJ cM cG a8 a9 i1 (u52 0) (u52 1) (u52 2) (u52 3) (u52 4) (u52 5) xF7 sa60 sav60 sn60 sf60 H.size (show (0 : Int) ≤ i1.toInt ∧ i1.toInt ≤ 1600 from p_3) (show (0 : Int) ≤ (u52 3).toInt ∧ (u52 3).toInt ≤ 1600 from hw54) (show (0 : Int) ≤ (u52 4).toInt ∧ (u52 4).toInt ≤ 1600 from hw55)) (cwV 1 hwd (gV kr22_13 kr19_15 kr19_16 kr5_12 kr19_17) rfl rfl rfl (by decide +kernel) ⟨Nat.le_of_ble_eq_true rfl, Nat.le_of_ble_eq_true rfl⟩) (kPreVX hPc hK hDc (NS_st _ _ _ _) hN60 hS hFc (ci := 10) (q0 := 0) rfl rfl) rfl rfl hl.1 rfl (lv_room (Nat.le_of_ble_eq_true rfl)) dX3_readLine_111 ⟨Nat.le_of_ble_eq_true rfl, Nat.le_of_ble_eq_true rfl⟩) hS (fun q _ h => hFc q h) hFc (fun u58 t H1 locs ht9 hvm hw hB hz1 hk1 hS => ?_)
    obtain ⟨u59, U59, V59⟩ := u58
    obtain ⟨hw60, hw61, -⟩ := hw
    replace hw60 : (0 : Int) ≤ (u59 3).toInt ∧ (u59 3).toInt ≤ 1600 := hw60
    replace hw61 : (0 : Int) ≤ (u59 4).toInt ∧ (u59 4).toInt ≤ 1600 := hw61
    obtain ⟨hP1, hD1⟩ := hB
    rw [ht9] at hP1
    obtain ⟨hP, hD⟩ := va_join (wr := [(a0, .inr (3, [.int i0, .ref a1, .ref a2, .ref a3, .ref a4, .ref a5, .ref a6, .ref a7])), (a1, .inl (cI, 24, .inl f19)), (a2, .inl (cI, 24, .inl f32)), (a3, .inl (cI, 24, .inl f44)), (a4, .inl (cI, 24, .inl f56)), (a5, .inl (cI, 24, .inl xF4)), (a6, .inl (cI, 24, .inl xF5)), (a7, .inl (cZ, 24, .inl xF6))]) (w1 := [(a8, .inr (10, [.ref a9, .int i1, .int (u59 0), .int (u59 1), .int (u59 2), .int (u59 3), .int (u59 4), .int (u59 5)])), (a9, .inl (cB, 1600, .inl xF7))]) hP hD [8, 9] [0, 1, 2, 3, 4, 5, 6, 7] rfl rfl (by decide) (by decide) hk1 hFc hP1 hD1
    generalize H1 = H at hP hS ⊢
    replace hP : va_P (dC, dI) vwCl [(a0, .inr (3, [.int i0, .ref a1, .ref a2, .ref a3, .ref a4, .ref a5, .ref a6, .ref a7])), (a1, .inl (cI, 24, .inl f19)), (a2, .inl (cI, 24, .inl f32)), (a3, .inl (cI, 24, .inl f44)), (a4, .inl (cI, 24, .inl f56)), (a5, .inl (cI, 24, .inl xF4)), (a6, .inl (cI, 24, .inl xF5)), (a7, .inl (cZ, 24, .inl xF6)), (a8, .inr (10, [.ref a9, .int i1, .int (u59 0), .int (u59 1), .int (u59 2), .int (u59 3), .int (u59 4), .int (u59 5)])), (a9, .inl (cB, 1600, .inl xF7))] H := hP
    replace hD : va_D A [(a0, .inr (3, [.int i0, .ref a1, .ref a2, .ref a3, .ref a4, .ref a5, .ref a6, .ref a7])), (a1, .inl (cI, 24, .inl f19)), (a2, .inl (cI, 24, .inl f32)), (a3, .inl (cI, 24, .inl f44)), (a4, .inl (cI, 24, .inl f56)), (a5, .inl (cI, 24, .inl xF4)), (a6, .inl (cI, 24, .inl xF5)), (a7, .inl (cZ, 24, .inl xF6)), (a8, .inr (10, [.ref a9, .int i1, .int (u59 0), .int (u59 1), .int (u59 2), .int (u59 3), .int (u59 4), .int (u59 5)])), (a9, .inl (cB, 1600, .inl xF7))] := hD
    refine lv_aload_n hx hb dX3_readLine_114 rfl (lv_at hl 0 rfl) ?_
    refine va_get (D := (dC, dI)) (ci := 3) (v := .ref a5) (C := RX3) (T := TX3) (N := 8) hx hb hwd inlX3 hown hK hP 0 rfl rfl 5 (by decide) (hwd _ kr11_20) (fun _ h9 => h9) rfl dX3_readLine_115 ?_
    refine lv_aload_n hx hb dX3_readLine_118 rfl (lv_at hl 0 rfl) ?_
    refine va_get (D := (dC, dI)) (ci := 3) (v := .int i0) (C := RX3) (T := TX3) (N := 8) hx hb hwd inlX3 hown hK hP 0 rfl rfl 0 (by decide) (hwd _ kr11_1) (fun _ h9 => h9) rfl dX3_readLine_119 ?_
    refine lv_aload_n hx hb dX3_readLine_122 rfl (lv_at hl 1 rfl) ?_
    refine lv_iconst (v := 1) hx hb dX3_readLine_123 (by decide) ?_
    refine lv_bipush (v := 60) hx hb dX3_readLine_124 (by decide) ?_
    have hPc := hP.sub (ws' := [(a8, .inr (10, [.ref a9, .int i1, .int (u59 0), .int (u59 1), .int (u59 2), .int (u59 3), .int (u59 4), .int (u59 5)])), (a9, .inl (cB, 1600, .inl xF7))]) [8, 9] rfl
    have hDc := hD.sub (ws' := [(a8, .inr (10, [.ref a9, .int i1, .int (u59 0), .int (u59 1), .int (u59 2), .int (u59 3), .int (u59 4), .int (u59 5)])), (a9, .inl (cB, 1600, .inl xF7))]) [8, 9] (by decide) rfl
    have hFc := va_free (wc := [(a8, .inr (10, [.ref a9, .int i1, .int (u59 0), .int (u59 1), .int (u59 2), .int (u59 3), .int (u59 4), .int (u59 5)])), (a9, .inl (cB, 1600, .inl xF7))]) hD hS hA [8, 9] rfl
    refine va_calli (va_runV (As := [.int 1, .int 60]) (rest := [.int i0, .ref a5]) ⟨hx, hb, hml, hown, hwd⟩ (s_X10_takeNumber l dC dI cI cZ cB cJ cM cG a8 a9 i1 (u59 0) (u59 1) (u59 2) (u59 3) (u59 4) (u59 5) xF7 1 60 H.size (show (0 : Int) ≤ i1.toInt ∧ i1.toInt ≤ 1600 from p_3) (show (0 : Int) ≤ (u59 3).toInt ∧ (u59 3).toInt ≤ 1600 from hw60) (show (0 : Int) ≤ (u59 4).toInt ∧ (u59 4).toInt ≤ 1600 from hw61)) (cwV 2 hwd (gV kr22_14 kr21_22 kr21_23 kr5_12 kr22_0) rfl rfl rfl (by decide +kernel) ⟨Nat.le_of_ble_eq_true rfl, Nat.le_of_ble_eq_true rfl⟩) (kPreV hPc hK hDc (ci := 10) (q0 := 0) rfl rfl) rfl rfl hl.1 rfl (lv_room (Nat.le_of_ble_eq_true rfl)) dX3_readLine_126 ⟨Nat.le_of_ble_eq_true rfl, Nat.le_of_ble_eq_true rfl⟩) hS (fun q _ h => hFc q h) hFc (fun r62 u63 t H1 locs ht9 hvm hw hB hz1 hk1 hS => ?_)
    obtain ⟨u64, U64, V64⟩ := u63
    obtain ⟨hw65, hw66, hw67, -⟩ := hw
    replace hw65 : (1 : Int32).toInt ≤ r62.toInt ∧ (r62.toInt ≤ (1 : Int32).toInt ∨ r62.toInt ≤ (60 : Int32).toInt) := hw65
    replace hw66 : (0 : Int) ≤ (u64 3).toInt ∧ (u64 3).toInt ≤ 1600 := hw66
    replace hw67 : (0 : Int) ≤ (u64 4).toInt ∧ (u64 4).toInt ≤ 1600 := hw67
    obtain ⟨hP1, hD1⟩ := hB
    rw [ht9] at hP1
    obtain ⟨hP, hD⟩ := va_join (wr := [(a0, .inr (3, [.int i0, .ref a1, .ref a2, .ref a3, .ref a4, .ref a5, .ref a6, .ref a7])), (a1, .inl (cI, 24, .inl f19)), (a2, .inl (cI, 24, .inl f32)), (a3, .inl (cI, 24, .inl f44)), (a4, .inl (cI, 24, .inl f56)), (a5, .inl (cI, 24, .inl xF4)), (a6, .inl (cI, 24, .inl xF5)), (a7, .inl (cZ, 24, .inl xF6))]) (w1 := [(a8, .inr (10, [.ref a9, .int i1, .int (u64 0), .int (u64 1), .int (u64 2), .int (u64 3), .int (u64 4), .int (u64 5)])), (a9, .inl (cB, 1600, .inl xF7))]) hP hD [8, 9] [0, 1, 2, 3, 4, 5, 6, 7] rfl rfl (by decide) (by decide) hk1 hFc hP1 hD1
    generalize H1 = H at hP hS ⊢
    replace hP : va_P (dC, dI) vwCl [(a0, .inr (3, [.int i0, .ref a1, .ref a2, .ref a3, .ref a4, .ref a5, .ref a6, .ref a7])), (a1, .inl (cI, 24, .inl f19)), (a2, .inl (cI, 24, .inl f32)), (a3, .inl (cI, 24, .inl f44)), (a4, .inl (cI, 24, .inl f56)), (a5, .inl (cI, 24, .inl xF4)), (a6, .inl (cI, 24, .inl xF5)), (a7, .inl (cZ, 24, .inl xF6)), (a8, .inr (10, [.ref a9, .int i1, .int (u64 0), .int (u64 1), .int (u64 2), .int (u64 3), .int (u64 4), .int (u64 5)])), (a9, .inl (cB, 1600, .inl xF7))] H := hP
    replace hD : va_D A [(a0, .inr (3, [.int i0, .ref a1, .ref a2, .ref a3, .ref a4, .ref a5, .ref a6, .ref a7])), (a1, .inl (cI, 24, .inl f19)), (a2, .inl (cI, 24, .inl f32)), (a3, .inl (cI, 24, .inl f44)), (a4, .inl (cI, 24, .inl f56)), (a5, .inl (cI, 24, .inl xF4)), (a6, .inl (cI, 24, .inl xF5)), (a7, .inl (cZ, 24, .inl xF6)), (a8, .inr (10, [.ref a9, .int i1, .int (u64 0), .int (u64 1), .int (u64 2), .int (u64 3), .int (u64 4), .int (u64 5)])), (a9, .inl (cB, 1600, .inl xF7))] := hD
    refine va_iast hx hb hK hP hD hS 5 0 rfl rfl (vp_of (by omega) (by omega)) dX3_readLine_129 (fun H locs hP hD hS => ?_)
    obtain ⟨f68, ef68⟩ : ∃ f, f = upd xF4 i0.toNatClampNeg r62 := ⟨_, rfl⟩
    replace hP : va_P (dC, dI) vwCl [(a0, .inr (3, [.int i0, .ref a1, .ref a2, .ref a3, .ref a4, .ref a5, .ref a6, .ref a7])), (a1, .inl (cI, 24, .inl f19)), (a2, .inl (cI, 24, .inl f32)), (a3, .inl (cI, 24, .inl f44)), (a4, .inl (cI, 24, .inl f56)), (a5, .inl (cI, 24, .inl f68)), (a6, .inl (cI, 24, .inl xF5)), (a7, .inl (cZ, 24, .inl xF6)), (a8, .inr (10, [.ref a9, .int i1, .int (u64 0), .int (u64 1), .int (u64 2), .int (u64 3), .int (u64 4), .int (u64 5)])), (a9, .inl (cB, 1600, .inl xF7))] H := by rw [ef68]; exact hP
    replace hD : va_D A [(a0, .inr (3, [.int i0, .ref a1, .ref a2, .ref a3, .ref a4, .ref a5, .ref a6, .ref a7])), (a1, .inl (cI, 24, .inl f19)), (a2, .inl (cI, 24, .inl f32)), (a3, .inl (cI, 24, .inl f44)), (a4, .inl (cI, 24, .inl f56)), (a5, .inl (cI, 24, .inl f68)), (a6, .inl (cI, 24, .inl xF5)), (a7, .inl (cZ, 24, .inl xF6)), (a8, .inr (10, [.ref a9, .int i1, .int (u64 0), .int (u64 1), .int (u64 2), .int (u64 3), .int (u64 4), .int (u64 5)])), (a9, .inl (cB, 1600, .inl xF7))] := by rw [ef68]; exact hD
    refine lv_aload_n hx hb dX3_readLine_130 rfl (lv_at hl 0 rfl) ?_
    refine va_get (D := (dC, dI)) (ci := 3) (v := .ref a6) (C := RX3) (T := TX3) (N := 8) hx hb hwd inlX3 hown hK hP 0 rfl rfl 6 (by decide) (hwd _ kr11_23) (fun _ h9 => h9) rfl dX3_readLine_131 ?_
    refine lv_aload_n hx hb dX3_readLine_134 rfl (lv_at hl 0 rfl) ?_
    refine va_get (D := (dC, dI)) (ci := 3) (v := .int i0) (C := RX3) (T := TX3) (N := 8) hx hb hwd inlX3 hown hK hP 0 rfl rfl 0 (by decide) (hwd _ kr11_1) (fun _ h9 => h9) rfl dX3_readLine_135 ?_
    refine lv_iconst (v := 0) hx hb dX3_readLine_138 (by decide) ?_
    refine va_iast hx hb hK hP hD hS 6 0 rfl rfl (vp_of (by omega) (by omega)) dX3_readLine_139 (fun H locs hP hD hS => ?_)
    obtain ⟨f69, ef69⟩ : ∃ f, f = upd xF5 i0.toNatClampNeg (0 : Int32) := ⟨_, rfl⟩
    replace hP : va_P (dC, dI) vwCl [(a0, .inr (3, [.int i0, .ref a1, .ref a2, .ref a3, .ref a4, .ref a5, .ref a6, .ref a7])), (a1, .inl (cI, 24, .inl f19)), (a2, .inl (cI, 24, .inl f32)), (a3, .inl (cI, 24, .inl f44)), (a4, .inl (cI, 24, .inl f56)), (a5, .inl (cI, 24, .inl f68)), (a6, .inl (cI, 24, .inl f69)), (a7, .inl (cZ, 24, .inl xF6)), (a8, .inr (10, [.ref a9, .int i1, .int (u64 0), .int (u64 1), .int (u64 2), .int (u64 3), .int (u64 4), .int (u64 5)])), (a9, .inl (cB, 1600, .inl xF7))] H := by rw [ef69]; exact hP
    replace hD : va_D A [(a0, .inr (3, [.int i0, .ref a1, .ref a2, .ref a3, .ref a4, .ref a5, .ref a6, .ref a7])), (a1, .inl (cI, 24, .inl f19)), (a2, .inl (cI, 24, .inl f32)), (a3, .inl (cI, 24, .inl f44)), (a4, .inl (cI, 24, .inl f56)), (a5, .inl (cI, 24, .inl f68)), (a6, .inl (cI, 24, .inl f69)), (a7, .inl (cZ, 24, .inl xF6)), (a8, .inr (10, [.ref a9, .int i1, .int (u64 0), .int (u64 1), .int (u64 2), .int (u64 3), .int (u64 4), .int (u64 5)])), (a9, .inl (cB, 1600, .inl xF7))] := by rw [ef69]; exact hD
    refine lv_aload_n hx hb dX3_readLine_140 rfl (lv_at hl 0 rfl) ?_
    refine va_get (D := (dC, dI)) (ci := 3) (v := .ref a7) (C := RX3) (T := TX3) (N := 8) hx hb hwd inlX3 hown hK hP 0 rfl rfl 7 (by decide) (hwd _ kr12_2) (fun _ h9 => h9) rfl dX3_readLine_141 ?_
    refine lv_aload_n hx hb dX3_readLine_144 rfl (lv_at hl 0 rfl) ?_
    refine va_get (D := (dC, dI)) (ci := 3) (v := .int i0) (C := RX3) (T := TX3) (N := 8) hx hb hwd inlX3 hown hK hP 0 rfl rfl 0 (by decide) (hwd _ kr11_1) (fun _ h9 => h9) rfl dX3_readLine_145 ?_
    refine lv_iconst (v := 0) hx hb dX3_readLine_148 (by decide) ?_
    refine va_zast hx hb hK hP hD hS 7 1 rfl rfl (vp_of (by omega) (by omega)) dX3_readLine_149 (fun H locs hP hD hS => ?_)
    obtain ⟨f70, ef70⟩ : ∃ f, f = upd xF6 i0.toNatClampNeg (vp_nar .boolean (0 : Int32)) := ⟨_, rfl⟩
    have rf70 : rng f70 24 0 1 := by rw [ef70]; exact rng_upd (rng_mono p_2 (by omega) (by omega)) (nar_z _).1 (nar_z _).2
    replace hP : va_P (dC, dI) vwCl [(a0, .inr (3, [.int i0, .ref a1, .ref a2, .ref a3, .ref a4, .ref a5, .ref a6, .ref a7])), (a1, .inl (cI, 24, .inl f19)), (a2, .inl (cI, 24, .inl f32)), (a3, .inl (cI, 24, .inl f44)), (a4, .inl (cI, 24, .inl f56)), (a5, .inl (cI, 24, .inl f68)), (a6, .inl (cI, 24, .inl f69)), (a7, .inl (cZ, 24, .inl f70)), (a8, .inr (10, [.ref a9, .int i1, .int (u64 0), .int (u64 1), .int (u64 2), .int (u64 3), .int (u64 4), .int (u64 5)])), (a9, .inl (cB, 1600, .inl xF7))] H := by rw [ef70]; exact hP
    replace hD : va_D A [(a0, .inr (3, [.int i0, .ref a1, .ref a2, .ref a3, .ref a4, .ref a5, .ref a6, .ref a7])), (a1, .inl (cI, 24, .inl f19)), (a2, .inl (cI, 24, .inl f32)), (a3, .inl (cI, 24, .inl f44)), (a4, .inl (cI, 24, .inl f56)), (a5, .inl (cI, 24, .inl f68)), (a6, .inl (cI, 24, .inl f69)), (a7, .inl (cZ, 24, .inl f70)), (a8, .inr (10, [.ref a9, .int i1, .int (u64 0), .int (u64 1), .int (u64 2), .int (u64 3), .int (u64 4), .int (u64 5)])), (a9, .inl (cB, 1600, .inl xF7))] := by rw [ef70]; exact hD
    refine lv_aload_n hx hb dX3_readLine_150 rfl (lv_at hl 0 rfl) ?_
    refine lv_dup hx hb dX3_readLine_151 rfl ?_
    refine va_get (D := (dC, dI)) (ci := 3) (v := .int i0) (C := RX3) (T := TX3) (N := 8) hx hb hwd inlX3 hown hK hP 0 rfl rfl 0 (by decide) (hwd _ kr11_1) (fun _ h9 => h9) rfl dX3_readLine_152 ?_
    refine lv_iconst (v := 1) hx hb dX3_readLine_155 (by decide) ?_
    refine lv_iadd hx hb dX3_readLine_156 ?_
    refine lv_topi (fun x71 ex71 => ?_)
    have tx71 := ia_add (a := i0) (b := (1 : Int32)) (by omega) (by omega)
    rw [← ex71] at tx71
    refine va_put (D := (dC, dI)) (ci := 3) (v := .int x71) (ty := .int) (C := RX3) (T := TX3) (N := 8) hx hb hwd inlX3 tyX3 tyX3_ok nmX3 hown hK hP hD hS 0 rfl rfl 0 (by decide) (hwd _ kr11_1) (fun _ h9 => h9) rfl (by decide +kernel) rfl rfl (Nat.le_of_ble_eq_true rfl) dX3_readLine_157 (fun H locs hP hD hS => ?_)
    replace hP : va_P (dC, dI) vwCl [(a0, .inr (3, [.int x71, .ref a1, .ref a2, .ref a3, .ref a4, .ref a5, .ref a6, .ref a7])), (a1, .inl (cI, 24, .inl f19)), (a2, .inl (cI, 24, .inl f32)), (a3, .inl (cI, 24, .inl f44)), (a4, .inl (cI, 24, .inl f56)), (a5, .inl (cI, 24, .inl f68)), (a6, .inl (cI, 24, .inl f69)), (a7, .inl (cZ, 24, .inl f70)), (a8, .inr (10, [.ref a9, .int i1, .int (u64 0), .int (u64 1), .int (u64 2), .int (u64 3), .int (u64 4), .int (u64 5)])), (a9, .inl (cB, 1600, .inl xF7))] H := hP
    replace hD : va_D A [(a0, .inr (3, [.int x71, .ref a1, .ref a2, .ref a3, .ref a4, .ref a5, .ref a6, .ref a7])), (a1, .inl (cI, 24, .inl f19)), (a2, .inl (cI, 24, .inl f32)), (a3, .inl (cI, 24, .inl f44)), (a4, .inl (cI, 24, .inl f56)), (a5, .inl (cI, 24, .inl f68)), (a6, .inl (cI, 24, .inl f69)), (a7, .inl (cZ, 24, .inl f70)), (a8, .inr (10, [.ref a9, .int i1, .int (u64 0), .int (u64 1), .int (u64 2), .int (u64 3), .int (u64 4), .int (u64 5)])), (a9, .inl (cB, 1600, .inl xF7))] := hD
    have hP9 := hP.sub (ws' := [(a0, .inr (3, [.int x71, .ref a1, .ref a2, .ref a3, .ref a4, .ref a5, .ref a6, .ref a7])), (a1, .inl (cI, 24, .inl f19)), (a2, .inl (cI, 24, .inl f32)), (a3, .inl (cI, 24, .inl f44)), (a4, .inl (cI, 24, .inl f56)), (a5, .inl (cI, 24, .inl f68)), (a6, .inl (cI, 24, .inl f69)), (a7, .inl (cZ, 24, .inl f70)), (a8, .inr (10, [.ref a9, .int i1, .int (u64 0), .int (u64 1), .int (u64 2), .int (u64 3), .int (u64 4), .int (u64 5)])), (a9, .inl (cB, 1600, .inl xF7))]) [0, 1, 2, 3, 4, 5, 6, 7, 8, 9] rfl
    have hD9 := hD.sub (ws' := [(a0, .inr (3, [.int x71, .ref a1, .ref a2, .ref a3, .ref a4, .ref a5, .ref a6, .ref a7])), (a1, .inl (cI, 24, .inl f19)), (a2, .inl (cI, 24, .inl f32)), (a3, .inl (cI, 24, .inl f44)), (a4, .inl (cI, 24, .inl f56)), (a5, .inl (cI, 24, .inl f68)), (a6, .inl (cI, 24, .inl f69)), (a7, .inl (cZ, 24, .inl f70)), (a8, .inr (10, [.ref a9, .int i1, .int (u64 0), .int (u64 1), .int (u64 2), .int (u64 3), .int (u64 4), .int (u64 5)])), (a9, .inl (cB, 1600, .inl xF7))]) [0, 1, 2, 3, 4, 5, 6, 7, 8, 9] (by decide) rfl
    rw [hQ]
    exact W.vret hx hb hr (fun t ht hW => ⟨⟨(pickG 0 [x71, (u64 0), (u64 1), (u64 2), (u64 3), (u64 4), (u64 5)], pickG (fun _ => 0) [f19, f32, f44, f56, f68, f69, f70], pickG (fun _ => 0) []), rfl, ⟨(show (0 : Int) ≤ x71.toInt ∧ x71.toInt ≤ 24 from ⟨by omega, by omega⟩), (show rng f56 24 0 60 from rf56), (show rng f70 24 0 1 from rf70), (show (0 : Int) ≤ (u64 3).toInt ∧ (u64 3).toInt ≤ 1600 from hw66), (show (0 : Int) ≤ (u64 4).toInt ∧ (u64 4).toInt ≤ 1600 from hw67), trivial⟩, (by rw [ht]; exact hP9), hD9⟩, hS.F ht⟩) hS.2.2 dX3_readLine_160
  · rw [ki_lt] at c1
    refine lv_aload_n hx hb dX3_readLine_9 rfl (lv_at hl 1 rfl) ?_
    refine lv_iconst (v := 3) hx hb dX3_readLine_10 (by decide) ?_
    have hPc := hP.sub (ws' := [(a8, .inr (10, [.ref a9, .int i1, .int i2, .int i3, .int i4, .int i5, .int i6, .int i7]))]) [8] rfl
    have hDc := hD.sub (ws' := [(a8, .inr (10, [.ref a9, .int i1, .int i2, .int i3, .int i4, .int i5, .int i6, .int i7]))]) [8] (by decide) rfl
    have hFc := va_free (wc := [(a8, .inr (10, [.ref a9, .int i1, .int i2, .int i3, .int i4, .int i5, .int i6, .int i7]))]) hD hS hA [8] rfl
    refine va_callv (va_runV (As := [.int 3]) (rest := []) ⟨hx, hb, hml, hown, hwd⟩ (s_X10_blame l dC dI cI cZ cB cJ cM cG a8 a9 i1 i2 i3 i4 i5 i6 i7 3 s.heap.size (show (0 : Int) ≤ i1.toInt ∧ i1.toInt ≤ 1600 from p_3) (show (0 : Int) ≤ i5.toInt ∧ i5.toInt ≤ 1600 from p_4) (show (0 : Int) ≤ i6.toInt ∧ i6.toInt ≤ 1600 from p_5)) (cwV 1 hwd (gV kr22_11 kr21_18 kr21_19 kr5_12 kr21_20) rfl rfl rfl (by decide +kernel) ⟨Nat.le_of_ble_eq_true rfl, Nat.le_of_ble_eq_true rfl⟩) (kPreV hPc hK hDc (ci := 10) (q0 := 0) rfl rfl) rfl rfl hl.1 rfl (lv_room (Nat.le_of_ble_eq_true rfl)) dX3_readLine_11 ⟨Nat.le_of_ble_eq_true rfl, Nat.le_of_ble_eq_true rfl⟩) hS (fun q _ h => hFc q h) hFc (fun u73 t H1 locs ht9 hvm hw hB hz1 hk1 hS => ?_)
    obtain ⟨u74, U74, V74⟩ := u73
    obtain ⟨hP1, hD1⟩ := hB
    rw [ht9] at hP1
    obtain ⟨hP, hD⟩ := va_join (wr := [(a0, .inr (3, [.int i0, .ref a1, .ref a2, .ref a3, .ref a4, .ref a5, .ref a6, .ref a7])), (a1, .inl (cI, 24, .inl xF0)), (a2, .inl (cI, 24, .inl xF1)), (a3, .inl (cI, 24, .inl xF2)), (a4, .inl (cI, 24, .inl xF3)), (a5, .inl (cI, 24, .inl xF4)), (a6, .inl (cI, 24, .inl xF5)), (a7, .inl (cZ, 24, .inl xF6)), (a9, .inl (cB, 1600, .inl xF7))]) (w1 := [(a8, .inr (10, [.ref a9, .int i1, .int (u74 0), .int (u74 1), .int i4, .int i5, .int i6, .int i7]))]) hP hD [8] [0, 1, 2, 3, 4, 5, 6, 7, 9] rfl rfl (by decide) (by decide) hk1 hFc hP1 hD1
    generalize H1 = H at hP hS ⊢
    replace hP : va_P (dC, dI) vwCl [(a0, .inr (3, [.int i0, .ref a1, .ref a2, .ref a3, .ref a4, .ref a5, .ref a6, .ref a7])), (a1, .inl (cI, 24, .inl xF0)), (a2, .inl (cI, 24, .inl xF1)), (a3, .inl (cI, 24, .inl xF2)), (a4, .inl (cI, 24, .inl xF3)), (a5, .inl (cI, 24, .inl xF4)), (a6, .inl (cI, 24, .inl xF5)), (a7, .inl (cZ, 24, .inl xF6)), (a9, .inl (cB, 1600, .inl xF7)), (a8, .inr (10, [.ref a9, .int i1, .int (u74 0), .int (u74 1), .int i4, .int i5, .int i6, .int i7]))] H := hP
    replace hD : va_D A [(a0, .inr (3, [.int i0, .ref a1, .ref a2, .ref a3, .ref a4, .ref a5, .ref a6, .ref a7])), (a1, .inl (cI, 24, .inl xF0)), (a2, .inl (cI, 24, .inl xF1)), (a3, .inl (cI, 24, .inl xF2)), (a4, .inl (cI, 24, .inl xF3)), (a5, .inl (cI, 24, .inl xF4)), (a6, .inl (cI, 24, .inl xF5)), (a7, .inl (cZ, 24, .inl xF6)), (a9, .inl (cB, 1600, .inl xF7)), (a8, .inr (10, [.ref a9, .int i1, .int (u74 0), .int (u74 1), .int i4, .int i5, .int i6, .int i7]))] := hD
    have hP9 := hP.sub (ws' := [(a0, .inr (3, [.int i0, .ref a1, .ref a2, .ref a3, .ref a4, .ref a5, .ref a6, .ref a7])), (a1, .inl (cI, 24, .inl xF0)), (a2, .inl (cI, 24, .inl xF1)), (a3, .inl (cI, 24, .inl xF2)), (a4, .inl (cI, 24, .inl xF3)), (a5, .inl (cI, 24, .inl xF4)), (a6, .inl (cI, 24, .inl xF5)), (a7, .inl (cZ, 24, .inl xF6)), (a8, .inr (10, [.ref a9, .int i1, .int (u74 0), .int (u74 1), .int i4, .int i5, .int i6, .int i7])), (a9, .inl (cB, 1600, .inl xF7))]) [0, 1, 2, 3, 4, 5, 6, 7, 9, 8] rfl
    have hD9 := hD.sub (ws' := [(a0, .inr (3, [.int i0, .ref a1, .ref a2, .ref a3, .ref a4, .ref a5, .ref a6, .ref a7])), (a1, .inl (cI, 24, .inl xF0)), (a2, .inl (cI, 24, .inl xF1)), (a3, .inl (cI, 24, .inl xF2)), (a4, .inl (cI, 24, .inl xF3)), (a5, .inl (cI, 24, .inl xF4)), (a6, .inl (cI, 24, .inl xF5)), (a7, .inl (cZ, 24, .inl xF6)), (a8, .inr (10, [.ref a9, .int i1, .int (u74 0), .int (u74 1), .int i4, .int i5, .int i6, .int i7])), (a9, .inl (cB, 1600, .inl xF7))]) [0, 1, 2, 3, 4, 5, 6, 7, 9, 8] (by decide) rfl
    rw [hQ]
    exact W.vret hx hb hr (fun t ht hW => ⟨⟨(pickG 0 [i0, (u74 0), (u74 1), i4, i5, i6, i7], pickG (fun _ => 0) [xF0, xF1, xF2, xF3, xF4, xF5, xF6], pickG (fun _ => 0) []), rfl, ⟨(show (0 : Int) ≤ i0.toInt ∧ i0.toInt ≤ 24 from p_0), (show rng xF3 24 0 60 from p_1), (show rng xF6 24 0 1 from p_2), (show (0 : Int) ≤ i5.toInt ∧ i5.toInt ≤ 1600 from p_4), (show (0 : Int) ≤ i6.toInt ∧ i6.toInt ≤ 1600 from p_5), trivial⟩, (by rw [ht]; exact hP9), hD9⟩, hS.F ht⟩) hS.2.2 dX3_readLine_14
theorem dX4_readLine_0 : decode cX4_readLine 0 = .ok (.aload_n 0, 1) := by decide +kernel
theorem dX4_readLine_1 : decode cX4_readLine 1 = .ok (.getfield 24, 3) := by decide +kernel
theorem dX4_readLine_4 : decode cX4_readLine 4 = .ok (.iconst 4, 1) := by decide +kernel
theorem dX4_readLine_5 : decode cX4_readLine 5 = .ok (.if_icmp .lt 9, 3) := by decide +kernel
theorem dX4_readLine_8 : decode cX4_readLine 8 = .ok (.aload_n 1, 1) := by decide +kernel
theorem dX4_readLine_9 : decode cX4_readLine 9 = .ok (.iconst 3, 1) := by decide +kernel
theorem dX4_readLine_10 : decode cX4_readLine 10 = .ok (.invokevirtual 30, 3) := by decide +kernel
theorem dX4_readLine_13 : decode cX4_readLine 13 = .ok (.return_, 1) := by decide +kernel
theorem dX4_readLine_14 : decode cX4_readLine 14 = .ok (.aload_n 1, 1) := by decide +kernel
theorem dX4_readLine_15 : decode cX4_readLine 15 = .ok (.invokevirtual 34, 3) := by decide +kernel
theorem dX4_readLine_18 : decode cX4_readLine 18 = .ok (.aload_n 1, 1) := by decide +kernel
theorem dX4_readLine_19 : decode cX4_readLine 19 = .ok (.ldc 37, 2) := by decide +kernel
theorem dX4_readLine_21 : decode cX4_readLine 21 = .ok (.invokevirtual 38, 3) := by decide +kernel
theorem dX4_readLine_24 : decode cX4_readLine 24 = .ok (.aload_n 0, 1) := by decide +kernel
theorem dX4_readLine_25 : decode cX4_readLine 25 = .ok (.getfield 9, 3) := by decide +kernel
theorem dX4_readLine_28 : decode cX4_readLine 28 = .ok (.aload_n 0, 1) := by decide +kernel
theorem dX4_readLine_29 : decode cX4_readLine 29 = .ok (.getfield 24, 3) := by decide +kernel
theorem dX4_readLine_32 : decode cX4_readLine 32 = .ok (.aload_n 1, 1) := by decide +kernel
theorem dX4_readLine_33 : decode cX4_readLine 33 = .ok (.iconst 0, 1) := by decide +kernel
theorem dX4_readLine_34 : decode cX4_readLine 34 = .ok (.iload_n 2, 1) := by decide +kernel
theorem dX4_readLine_35 : decode cX4_readLine 35 = .ok (.iconst 1, 1) := by decide +kernel
theorem dX4_readLine_36 : decode cX4_readLine 36 = .ok (.isub, 1) := by decide +kernel
theorem dX4_readLine_37 : decode cX4_readLine 37 = .ok (.invokevirtual 42, 3) := by decide +kernel
theorem dX4_readLine_40 : decode cX4_readLine 40 = .ok (.iastore, 1) := by decide +kernel
theorem dX4_readLine_41 : decode cX4_readLine 41 = .ok (.aload_n 1, 1) := by decide +kernel
theorem dX4_readLine_42 : decode cX4_readLine 42 = .ok (.ldc 46, 2) := by decide +kernel
theorem dX4_readLine_44 : decode cX4_readLine 44 = .ok (.invokevirtual 38, 3) := by decide +kernel
theorem dX4_readLine_47 : decode cX4_readLine 47 = .ok (.aload_n 0, 1) := by decide +kernel
theorem dX4_readLine_48 : decode cX4_readLine 48 = .ok (.getfield 15, 3) := by decide +kernel
theorem dX4_readLine_51 : decode cX4_readLine 51 = .ok (.aload_n 0, 1) := by decide +kernel
theorem dX4_readLine_52 : decode cX4_readLine 52 = .ok (.getfield 24, 3) := by decide +kernel
theorem dX4_readLine_55 : decode cX4_readLine 55 = .ok (.aload_n 1, 1) := by decide +kernel
theorem dX4_readLine_56 : decode cX4_readLine 56 = .ok (.iconst 1, 1) := by decide +kernel
theorem dX4_readLine_57 : decode cX4_readLine 57 = .ok (.bipush 99, 2) := by decide +kernel
theorem dX4_readLine_59 : decode cX4_readLine 59 = .ok (.invokevirtual 42, 3) := by decide +kernel
theorem dX4_readLine_62 : decode cX4_readLine 62 = .ok (.iastore, 1) := by decide +kernel
theorem dX4_readLine_63 : decode cX4_readLine 63 = .ok (.aload_n 1, 1) := by decide +kernel
theorem dX4_readLine_64 : decode cX4_readLine 64 = .ok (.ldc 47, 2) := by decide +kernel
theorem dX4_readLine_66 : decode cX4_readLine 66 = .ok (.invokevirtual 38, 3) := by decide +kernel
theorem dX4_readLine_69 : decode cX4_readLine 69 = .ok (.aload_n 0, 1) := by decide +kernel
theorem dX4_readLine_70 : decode cX4_readLine 70 = .ok (.getfield 18, 3) := by decide +kernel
theorem dX4_readLine_73 : decode cX4_readLine 73 = .ok (.aload_n 0, 1) := by decide +kernel
theorem dX4_readLine_74 : decode cX4_readLine 74 = .ok (.getfield 24, 3) := by decide +kernel
theorem dX4_readLine_77 : decode cX4_readLine 77 = .ok (.aload_n 1, 1) := by decide +kernel
theorem dX4_readLine_78 : decode cX4_readLine 78 = .ok (.iconst 2, 1) := by decide +kernel
theorem dX4_readLine_79 : decode cX4_readLine 79 = .ok (.bipush 30, 2) := by decide +kernel
theorem dX4_readLine_81 : decode cX4_readLine 81 = .ok (.invokevirtual 42, 3) := by decide +kernel
theorem dX4_readLine_84 : decode cX4_readLine 84 = .ok (.iastore, 1) := by decide +kernel
theorem dX4_readLine_85 : decode cX4_readLine 85 = .ok (.aload_n 0, 1) := by decide +kernel
theorem dX4_readLine_86 : decode cX4_readLine 86 = .ok (.getfield 21, 3) := by decide +kernel
theorem dX4_readLine_89 : decode cX4_readLine 89 = .ok (.aload_n 0, 1) := by decide +kernel
theorem dX4_readLine_90 : decode cX4_readLine 90 = .ok (.getfield 24, 3) := by decide +kernel
theorem dX4_readLine_93 : decode cX4_readLine 93 = .ok (.iconst 0, 1) := by decide +kernel
theorem dX4_readLine_94 : decode cX4_readLine 94 = .ok (.iastore, 1) := by decide +kernel
theorem dX4_readLine_95 : decode cX4_readLine 95 = .ok (.aload_n 0, 1) := by decide +kernel
theorem dX4_readLine_96 : decode cX4_readLine 96 = .ok (.dup, 1) := by decide +kernel
theorem dX4_readLine_97 : decode cX4_readLine 97 = .ok (.getfield 24, 3) := by decide +kernel
theorem dX4_readLine_100 : decode cX4_readLine 100 = .ok (.iconst 1, 1) := by decide +kernel
theorem dX4_readLine_101 : decode cX4_readLine 101 = .ok (.iadd, 1) := by decide +kernel
theorem dX4_readLine_102 : decode cX4_readLine 102 = .ok (.putfield 24, 3) := by decide +kernel
theorem dX4_readLine_105 : decode cX4_readLine 105 = .ok (.return_, 1) := by decide +kernel
set_option maxHeartbeats 4000000 in
set_option maxRecDepth 100000 in
theorem s_X4_readLine (l : Launch) (dC : Nat → ClassId) (dI : Nat → Nat → Nat) (cI cZ cB cJ cM cG : ClassId) (a0 a1 a2 a3 a4 a5 a6 : Nat) (i0 i1 i2 i3 i4 i5 i6 i7 : Int32) (xF0 xF1 xF2 xF3 xF4 : Nat → Int32) (p1 : Int32) (sz : Nat) (p_0 : (0 : Int) ≤ i0.toInt ∧ i0.toInt ≤ 4) (p_1 : (0 : Int) ≤ i1.toInt ∧ i1.toInt ≤ 1600) (p_2 : (0 : Int) ≤ i5.toInt ∧ i5.toInt ≤ 1600) (p_3 : (0 : Int) ≤ i6.toInt ∧ i6.toInt ≤ 1600) : Met l yX4_readLine (kw yX4_readLine cX4_readLine 3 none) ({ frames := 6, cells := 0, slots := 0, locals := 128 } : Room) (va_Pc [.ref a0, .ref a5, .int p1] (kPreX dC dI [(cI, .int), (cZ, .boolean), (cB, .byte), (cJ, .long), (cM, .object RX2), (cG, .array .int)] [(a0, .inr (4, [.int i0, .ref a1, .ref a2, .ref a3, .ref a4])), (a1, .inl (cI, 4, .inl xF0)), (a2, .inl (cI, 4, .inl xF1)), (a3, .inl (cI, 4, .inl xF2)), (a4, .inl (cI, 4, .inl xF3)), (a5, .inr (10, [.ref a6, .int i1, .int i2, .int i3, .int i4, .int i5, .int i6, .int i7])), (a6, .inl (cB, 1600, .inl xF4))] sz NT)) (va_Qv (fun (u9 : (Nat → Int32) × (Nat → Nat → Int32) × (Nat → Nat → Int64)) => ((0 : Int) ≤ (u9.1 0).toInt ∧ (u9.1 0).toInt ≤ 4) ∧ ((0 : Int) ≤ (u9.1 4).toInt ∧ (u9.1 4).toInt ≤ 1600) ∧ ((0 : Int) ≤ (u9.1 5).toInt ∧ (u9.1 5).toInt ≤ 1600) ∧ True) (fun u9 t => va_P (dC, dI) vwCl [(a0, .inr (4, [.int (u9.1 0), .ref a1, .ref a2, .ref a3, .ref a4])), (a1, .inl (cI, 4, .inl (u9.2.1 0))), (a2, .inl (cI, 4, .inl (u9.2.1 1))), (a3, .inl (cI, 4, .inl (u9.2.1 2))), (a4, .inl (cI, 4, .inl (u9.2.1 3))), (a5, .inr (10, [.ref a6, .int i1, .int (u9.1 1), .int (u9.1 2), .int (u9.1 3), .int (u9.1 4), .int (u9.1 5), .int (u9.1 6)])), (a6, .inl (cB, 1600, .inl xF4))] t.heap ∧ va_D (va_A [(a0, .inr (4, [.int i0, .ref a1, .ref a2, .ref a3, .ref a4])), (a1, .inl (cI, 4, .inl xF0)), (a2, .inl (cI, 4, .inl xF1)), (a3, .inl (cI, 4, .inl xF2)), (a4, .inl (cI, 4, .inl xF3)), (a5, .inr (10, [.ref a6, .int i1, .int i2, .int i3, .int i4, .int i5, .int i6, .int i7])), (a6, .inl (cB, 1600, .inl xF4))] sz) [(a0, .inr (4, [.int (u9.1 0), .ref a1, .ref a2, .ref a3, .ref a4])), (a1, .inl (cI, 4, .inl (u9.2.1 0))), (a2, .inl (cI, 4, .inl (u9.2.1 1))), (a3, .inl (cI, 4, .inl (u9.2.1 2))), (a4, .inl (cI, 4, .inl (u9.2.1 3))), (a5, .inr (10, [.ref a6, .int i1, .int (u9.1 1), .int (u9.1 2), .int (u9.1 3), .int (u9.1 4), .int (u9.1 5), .int (u9.1 6)])), (a6, .inl (cB, 1600, .inl xF4))]) (va_A [(a0, .inr (4, [.int i0, .ref a1, .ref a2, .ref a3, .ref a4])), (a1, .inl (cI, 4, .inl xF0)), (a2, .inl (cI, 4, .inl xF1)), (a3, .inl (cI, 4, .inl xF2)), (a4, .inl (cI, 4, .inl xF3)), (a5, .inr (10, [.ref a6, .int i1, .int i2, .int i3, .int i4, .int i5, .int i6, .int i7])), (a6, .inl (cB, 1600, .inl xF4))] sz)) 0 0 (va_A [(a0, .inr (4, [.int i0, .ref a1, .ref a2, .ref a3, .ref a4])), (a1, .inl (cI, 4, .inl xF0)), (a2, .inl (cI, 4, .inl xF1)), (a3, .inl (cI, 4, .inl xF2)), (a4, .inl (cI, 4, .inl xF3)), (a5, .inr (10, [.ref a6, .int i1, .int i2, .int i3, .int i4, .int i5, .int i6, .int i7])), (a6, .inl (cB, 1600, .inl xF4))] sz) := by
  refine kEnterX (by decide) (Nat.le_of_ble_eq_true rfl) ?_
  intro p e s m below meth c ls hx hb hr hml hown hlocks hin hwd hsz hP hK hD hN hl
  subst hsz
  generalize hAe : va_A [(a0, .inr (4, [.int i0, .ref a1, .ref a2, .ref a3, .ref a4])), (a1, .inl (cI, 4, .inl xF0)), (a2, .inl (cI, 4, .inl xF1)), (a3, .inl (cI, 4, .inl xF2)), (a4, .inl (cI, 4, .inl xF3)), (a5, .inr (10, [.ref a6, .int i1, .int i2, .int i3, .int i4, .int i5, .int i6, .int i7])), (a6, .inl (cB, 1600, .inl xF4))] s.heap.size = A at hD hN ⊢
  have hA : ∀ q : Nat, s.heap.size ≤ q → A q := fun q h => by rw [← hAe]; exact Or.inr h
  have hS : va_S A s.heap s.heap [] := va_S.rf
  have hl : lv_has ls 3 [(0, .ref a0), (1, .ref a5), (2, .int p1)] := hl
  obtain ⟨Q, hQ⟩ : ∃ Q, Q = MQ below (va_Qv (fun (u9 : (Nat → Int32) × (Nat → Nat → Int32) × (Nat → Nat → Int64)) => ((0 : Int) ≤ (u9.1 0).toInt ∧ (u9.1 0).toInt ≤ 4) ∧ ((0 : Int) ≤ (u9.1 4).toInt ∧ (u9.1 4).toInt ≤ 1600) ∧ ((0 : Int) ≤ (u9.1 5).toInt ∧ (u9.1 5).toInt ≤ 1600) ∧ True) (fun u9 t => va_P (dC, dI) vwCl [(a0, .inr (4, [.int (u9.1 0), .ref a1, .ref a2, .ref a3, .ref a4])), (a1, .inl (cI, 4, .inl (u9.2.1 0))), (a2, .inl (cI, 4, .inl (u9.2.1 1))), (a3, .inl (cI, 4, .inl (u9.2.1 2))), (a4, .inl (cI, 4, .inl (u9.2.1 3))), (a5, .inr (10, [.ref a6, .int i1, .int (u9.1 1), .int (u9.1 2), .int (u9.1 3), .int (u9.1 4), .int (u9.1 5), .int (u9.1 6)])), (a6, .inl (cB, 1600, .inl xF4))] t.heap ∧ va_D A [(a0, .inr (4, [.int (u9.1 0), .ref a1, .ref a2, .ref a3, .ref a4])), (a1, .inl (cI, 4, .inl (u9.2.1 0))), (a2, .inl (cI, 4, .inl (u9.2.1 1))), (a3, .inl (cI, 4, .inl (u9.2.1 2))), (a4, .inl (cI, 4, .inl (u9.2.1 3))), (a5, .inr (10, [.ref a6, .int i1, .int (u9.1 1), .int (u9.1 2), .int (u9.1 3), .int (u9.1 4), .int (u9.1 5), .int (u9.1 6)])), (a6, .inl (cB, 1600, .inl xF4))]) A) ([.ref a0, .ref a5, .int p1] : List Value).toArray s 0 0 A := ⟨_, rfl⟩
  rw [← hQ]
  have k0 : (0 : Int32).toInt = 0 := by decide
  have k1 : (1 : Int32).toInt = 1 := by decide
  have k2 : (2 : Int32).toInt = 2 := by decide
  have k4 : (4 : Int32).toInt = 4 := by decide
  have k30 : (30 : Int32).toInt = 30 := by decide
  have k99 : (99 : Int32).toInt = 99 := by decide
  obtain ⟨sa37, sav37, sn37, sf37, hsn37, hR37, hks37⟩ := hN.2 _ rf_RX4_37
  have hN37 : NS sa37 sav37 sn37 sf37 A s := ⟨hN.1, hsn37.1, hks37⟩
  obtain ⟨sa46, sav46, sn46, sf46, hsn46, hR46, hks46⟩ := hN.2 _ rf_RX4_46
  have hN46 : NS sa46 sav46 sn46 sf46 A s := ⟨hN.1, hsn46.1, hks46⟩
  obtain ⟨sa47, sav47, sn47, sf47, hsn47, hR47, hks47⟩ := hN.2 _ rf_RX4_47
  have hN47 : NS sa47 sav47 sn47 sf47 A s := ⟨hN.1, hsn47.1, hks47⟩
  refine lv_aload_n hx hb dX4_readLine_0 rfl (lv_at hl 0 rfl) ?_
  refine va_get (D := (dC, dI)) (ci := 4) (v := .int i0) (C := RX4) (T := TX4) (N := 5) hx hb hwd inlX4 hown hK hP 0 rfl rfl 0 (by decide) (hwd _ kr13_13) (fun _ h9 => h9) rfl dX4_readLine_1 ?_
  refine lv_iconst (v := 4) hx hb dX4_readLine_4 (by decide) ?_
  refine lv_icmp_lt (tgt := 14) hx hb dX4_readLine_5 (by decide) (fun c1 => ?_) (fun c1 => ?_)
  · rw [ki_lt] at c1
    refine lv_aload_n hx hb dX4_readLine_14 rfl (lv_at hl 1 rfl) ?_
    have hPc := hP.sub (ws' := [(a5, .inr (10, [.ref a6, .int i1, .int i2, .int i3, .int i4, .int i5, .int i6, .int i7])), (a6, .inl (cB, 1600, .inl xF4))]) [5, 6] rfl
    have hDc := hD.sub (ws' := [(a5, .inr (10, [.ref a6, .int i1, .int i2, .int i3, .int i4, .int i5, .int i6, .int i7])), (a6, .inl (cB, 1600, .inl xF4))]) [5, 6] (by decide) rfl
    have hFc := va_free (wc := [(a5, .inr (10, [.ref a6, .int i1, .int i2, .int i3, .int i4, .int i5, .int i6, .int i7])), (a6, .inl (cB, 1600, .inl xF4))]) hD hS hA [5, 6] rfl
    refine va_callv (va_runV (As := []) (rest := []) ⟨hx, hb, hml, hown, hwd⟩ (s_X10_readToken l dC dI cI cZ cB cJ cM cG a5 a6 i1 i2 i3 i4 i5 i6 i7 xF4 s.heap.size (show (0 : Int) ≤ i1.toInt ∧ i1.toInt ≤ 1600 from p_1) (show (0 : Int) ≤ i5.toInt ∧ i5.toInt ≤ 1600 from p_2) (show (0 : Int) ≤ i6.toInt ∧ i6.toInt ≤ 1600 from p_3)) (cwV 0 hwd (gV kr22_20 kr18_2 kr18_3 kr5_12 kr18_4) rfl rfl rfl (by decide +kernel) ⟨Nat.le_of_ble_eq_true rfl, Nat.le_of_ble_eq_true rfl⟩) (kPreV hPc hK hDc (ci := 10) (q0 := 0) rfl rfl) rfl rfl hl.1 rfl (lv_room (Nat.le_of_ble_eq_true rfl)) dX4_readLine_15 ⟨Nat.le_of_ble_eq_true rfl, Nat.le_of_ble_eq_true rfl⟩) hS (fun q _ h => hFc q h) hFc (fun u3 t H1 locs ht9 hvm hw hB hz1 hk1 hS => ?_)
    obtain ⟨u4, U4, V4⟩ := u3
    obtain ⟨hw5, hw6, -⟩ := hw
    replace hw5 : (0 : Int) ≤ (u4 1).toInt ∧ (u4 1).toInt ≤ 1600 := hw5
    replace hw6 : (0 : Int) ≤ (u4 2).toInt ∧ (u4 2).toInt ≤ 1600 := hw6
    obtain ⟨hP1, hD1⟩ := hB
    rw [ht9] at hP1
    obtain ⟨hP, hD⟩ := va_join (wr := [(a0, .inr (4, [.int i0, .ref a1, .ref a2, .ref a3, .ref a4])), (a1, .inl (cI, 4, .inl xF0)), (a2, .inl (cI, 4, .inl xF1)), (a3, .inl (cI, 4, .inl xF2)), (a4, .inl (cI, 4, .inl xF3))]) (w1 := [(a5, .inr (10, [.ref a6, .int i1, .int i2, .int i3, .int (u4 0), .int (u4 1), .int (u4 2), .int (u4 3)])), (a6, .inl (cB, 1600, .inl xF4))]) hP hD [5, 6] [0, 1, 2, 3, 4] rfl rfl (by decide) (by decide) hk1 hFc hP1 hD1
    generalize H1 = H at hP hS ⊢
    replace hP : va_P (dC, dI) vwCl [(a0, .inr (4, [.int i0, .ref a1, .ref a2, .ref a3, .ref a4])), (a1, .inl (cI, 4, .inl xF0)), (a2, .inl (cI, 4, .inl xF1)), (a3, .inl (cI, 4, .inl xF2)), (a4, .inl (cI, 4, .inl xF3)), (a5, .inr (10, [.ref a6, .int i1, .int i2, .int i3, .int (u4 0), .int (u4 1), .int (u4 2), .int (u4 3)])), (a6, .inl (cB, 1600, .inl xF4))] H := hP
    replace hD : va_D A [(a0, .inr (4, [.int i0, .ref a1, .ref a2, .ref a3, .ref a4])), (a1, .inl (cI, 4, .inl xF0)), (a2, .inl (cI, 4, .inl xF1)), (a3, .inl (cI, 4, .inl xF2)), (a4, .inl (cI, 4, .inl xF3)), (a5, .inr (10, [.ref a6, .int i1, .int i2, .int i3, .int (u4 0), .int (u4 1), .int (u4 2), .int (u4 3)])), (a6, .inl (cB, 1600, .inl xF4))] := hD
    refine lv_aload_n hx hb dX4_readLine_18 rfl (lv_at hl 1 rfl) ?_
    refine va_ldcS hx hb hown hR37 dX4_readLine_19 ?_
    have hPc := hP.sub (ws' := [(a5, .inr (10, [.ref a6, .int i1, .int i2, .int i3, .int (u4 0), .int (u4 1), .int (u4 2), .int (u4 3)])), (a6, .inl (cB, 1600, .inl xF4))]) [5, 6] rfl
    have hDc := hD.sub (ws' := [(a5, .inr (10, [.ref a6, .int i1, .int i2, .int i3, .int (u4 0), .int (u4 1), .int (u4 2), .int (u4 3)])), (a6, .inl (cB, 1600, .inl xF4))]) [5, 6] (by decide) rfl
    have hFc := va_free (wc := [(a5, .inr (10, [.ref a6, .int i1, .int i2, .int i3, .int (u4 0), .int (u4 1), .int (u4 2), .int (u4 3)])), (a6, .inl (cB, 1600, .inl xF4))]) hD hS hA [5, 6] rfl
    refine va_callv (va_runV (As := [.ref sa37]) (rest := []) ⟨hx, hb, hml, hown, hwd⟩ (s_X10_takeWord l dC dI cI cZ cB cJ cM cG a5 a6 i1 i2 i3 (u4 0) (u4 1) (u4 2) (u4 3) xF4 sa37 sav37 sn37 sf37 H.size (show (0 : Int) ≤ i1.toInt ∧ i1.toInt ≤ 1600 from p_1) (show (0 : Int) ≤ (u4 1).toInt ∧ (u4 1).toInt ≤ 1600 from hw5) (show (0 : Int) ≤ (u4 2).toInt ∧ (u4 2).toInt ≤ 1600 from hw6)) (cwV 1 hwd (gV kr22_21 kr19_15 kr19_16 kr5_12 kr19_17) rfl rfl rfl (by decide +kernel) ⟨Nat.le_of_ble_eq_true rfl, Nat.le_of_ble_eq_true rfl⟩) (kPreVX hPc hK hDc (NS_st _ _ _ _) hN37 hS hFc (ci := 10) (q0 := 0) rfl rfl) rfl rfl hl.1 rfl (lv_room (Nat.le_of_ble_eq_true rfl)) dX4_readLine_21 ⟨Nat.le_of_ble_eq_true rfl, Nat.le_of_ble_eq_true rfl⟩) hS (fun q _ h => hFc q h) hFc (fun u8 t H1 locs ht9 hvm hw hB hz1 hk1 hS => ?_)
    obtain ⟨u9, U9, V9⟩ := u8
    obtain ⟨hw10, hw11, -⟩ := hw
    replace hw10 : (0 : Int) ≤ (u9 3).toInt ∧ (u9 3).toInt ≤ 1600 := hw10
    replace hw11 : (0 : Int) ≤ (u9 4).toInt ∧ (u9 4).toInt ≤ 1600 := hw11
    obtain ⟨hP1, hD1⟩ := hB
    rw [ht9] at hP1
    obtain ⟨hP, hD⟩ := va_join (wr := [(a0, .inr (4, [.int i0, .ref a1, .ref a2, .ref a3, .ref a4])), (a1, .inl (cI, 4, .inl xF0)), (a2, .inl (cI, 4, .inl xF1)), (a3, .inl (cI, 4, .inl xF2)), (a4, .inl (cI, 4, .inl xF3))]) (w1 := [(a5, .inr (10, [.ref a6, .int i1, .int (u9 0), .int (u9 1), .int (u9 2), .int (u9 3), .int (u9 4), .int (u9 5)])), (a6, .inl (cB, 1600, .inl xF4))]) hP hD [5, 6] [0, 1, 2, 3, 4] rfl rfl (by decide) (by decide) hk1 hFc hP1 hD1
    generalize H1 = H at hP hS ⊢
    replace hP : va_P (dC, dI) vwCl [(a0, .inr (4, [.int i0, .ref a1, .ref a2, .ref a3, .ref a4])), (a1, .inl (cI, 4, .inl xF0)), (a2, .inl (cI, 4, .inl xF1)), (a3, .inl (cI, 4, .inl xF2)), (a4, .inl (cI, 4, .inl xF3)), (a5, .inr (10, [.ref a6, .int i1, .int (u9 0), .int (u9 1), .int (u9 2), .int (u9 3), .int (u9 4), .int (u9 5)])), (a6, .inl (cB, 1600, .inl xF4))] H := hP
    replace hD : va_D A [(a0, .inr (4, [.int i0, .ref a1, .ref a2, .ref a3, .ref a4])), (a1, .inl (cI, 4, .inl xF0)), (a2, .inl (cI, 4, .inl xF1)), (a3, .inl (cI, 4, .inl xF2)), (a4, .inl (cI, 4, .inl xF3)), (a5, .inr (10, [.ref a6, .int i1, .int (u9 0), .int (u9 1), .int (u9 2), .int (u9 3), .int (u9 4), .int (u9 5)])), (a6, .inl (cB, 1600, .inl xF4))] := hD
    refine lv_aload_n hx hb dX4_readLine_24 rfl (lv_at hl 0 rfl) ?_
    refine va_get (D := (dC, dI)) (ci := 4) (v := .ref a1) (C := RX4) (T := TX4) (N := 5) hx hb hwd inlX4 hown hK hP 0 rfl rfl 1 (by decide) (hwd _ kr13_16) (fun _ h9 => h9) rfl dX4_readLine_25 ?_
    refine lv_aload_n hx hb dX4_readLine_28 rfl (lv_at hl 0 rfl) ?_
    refine va_get (D := (dC, dI)) (ci := 4) (v := .int i0) (C := RX4) (T := TX4) (N := 5) hx hb hwd inlX4 hown hK hP 0 rfl rfl 0 (by decide) (hwd _ kr13_13) (fun _ h9 => h9) rfl dX4_readLine_29 ?_
    refine lv_aload_n hx hb dX4_readLine_32 rfl (lv_at hl 1 rfl) ?_
    refine lv_iconst (v := 0) hx hb dX4_readLine_33 (by decide) ?_
    refine lv_iload_n hx hb dX4_readLine_34 rfl (lv_at hl 2 rfl) ?_
    refine lv_iconst (v := 1) hx hb dX4_readLine_35 (by decide) ?_
    refine lv_isub hx hb dX4_readLine_36 ?_
    refine lv_topi (fun x12 ex12 => ?_)
    have hPc := hP.sub (ws' := [(a5, .inr (10, [.ref a6, .int i1, .int (u9 0), .int (u9 1), .int (u9 2), .int (u9 3), .int (u9 4), .int (u9 5)])), (a6, .inl (cB, 1600, .inl xF4))]) [5, 6] rfl
    have hDc := hD.sub (ws' := [(a5, .inr (10, [.ref a6, .int i1, .int (u9 0), .int (u9 1), .int (u9 2), .int (u9 3), .int (u9 4), .int (u9 5)])), (a6, .inl (cB, 1600, .inl xF4))]) [5, 6] (by decide) rfl
    have hFc := va_free (wc := [(a5, .inr (10, [.ref a6, .int i1, .int (u9 0), .int (u9 1), .int (u9 2), .int (u9 3), .int (u9 4), .int (u9 5)])), (a6, .inl (cB, 1600, .inl xF4))]) hD hS hA [5, 6] rfl
    refine va_calli (va_runV (As := [.int 0, .int x12]) (rest := [.int i0, .ref a1]) ⟨hx, hb, hml, hown, hwd⟩ (s_X10_takeNumber l dC dI cI cZ cB cJ cM cG a5 a6 i1 (u9 0) (u9 1) (u9 2) (u9 3) (u9 4) (u9 5) xF4 0 x12 H.size (show (0 : Int) ≤ i1.toInt ∧ i1.toInt ≤ 1600 from p_1) (show (0 : Int) ≤ (u9 3).toInt ∧ (u9 3).toInt ≤ 1600 from hw10) (show (0 : Int) ≤ (u9 4).toInt ∧ (u9 4).toInt ≤ 1600 from hw11)) (cwV 2 hwd (gV kr22_22 kr21_22 kr21_23 kr5_12 kr22_0) rfl rfl rfl (by decide +kernel) ⟨Nat.le_of_ble_eq_true rfl, Nat.le_of_ble_eq_true rfl⟩) (kPreV hPc hK hDc (ci := 10) (q0 := 0) rfl rfl) rfl rfl hl.1 rfl (lv_room (Nat.le_of_ble_eq_true rfl)) dX4_readLine_37 ⟨Nat.le_of_ble_eq_true rfl, Nat.le_of_ble_eq_true rfl⟩) hS (fun q _ h => hFc q h) hFc (fun r13 u14 t H1 locs ht9 hvm hw hB hz1 hk1 hS => ?_)
    obtain ⟨u15, U15, V15⟩ := u14
    obtain ⟨hw16, hw17, hw18, -⟩ := hw
    replace hw16 : (0 : Int32).toInt ≤ r13.toInt ∧ (r13.toInt ≤ (0 : Int32).toInt ∨ r13.toInt ≤ x12.toInt) := hw16
    replace hw17 : (0 : Int) ≤ (u15 3).toInt ∧ (u15 3).toInt ≤ 1600 := hw17
    replace hw18 : (0 : Int) ≤ (u15 4).toInt ∧ (u15 4).toInt ≤ 1600 := hw18
    obtain ⟨hP1, hD1⟩ := hB
    rw [ht9] at hP1
    obtain ⟨hP, hD⟩ := va_join (wr := [(a0, .inr (4, [.int i0, .ref a1, .ref a2, .ref a3, .ref a4])), (a1, .inl (cI, 4, .inl xF0)), (a2, .inl (cI, 4, .inl xF1)), (a3, .inl (cI, 4, .inl xF2)), (a4, .inl (cI, 4, .inl xF3))]) (w1 := [(a5, .inr (10, [.ref a6, .int i1, .int (u15 0), .int (u15 1), .int (u15 2), .int (u15 3), .int (u15 4), .int (u15 5)])), (a6, .inl (cB, 1600, .inl xF4))]) hP hD [5, 6] [0, 1, 2, 3, 4] rfl rfl (by decide) (by decide) hk1 hFc hP1 hD1
    generalize H1 = H at hP hS ⊢
    replace hP : va_P (dC, dI) vwCl [(a0, .inr (4, [.int i0, .ref a1, .ref a2, .ref a3, .ref a4])), (a1, .inl (cI, 4, .inl xF0)), (a2, .inl (cI, 4, .inl xF1)), (a3, .inl (cI, 4, .inl xF2)), (a4, .inl (cI, 4, .inl xF3)), (a5, .inr (10, [.ref a6, .int i1, .int (u15 0), .int (u15 1), .int (u15 2), .int (u15 3), .int (u15 4), .int (u15 5)])), (a6, .inl (cB, 1600, .inl xF4))] H := hP
    replace hD : va_D A [(a0, .inr (4, [.int i0, .ref a1, .ref a2, .ref a3, .ref a4])), (a1, .inl (cI, 4, .inl xF0)), (a2, .inl (cI, 4, .inl xF1)), (a3, .inl (cI, 4, .inl xF2)), (a4, .inl (cI, 4, .inl xF3)), (a5, .inr (10, [.ref a6, .int i1, .int (u15 0), .int (u15 1), .int (u15 2), .int (u15 3), .int (u15 4), .int (u15 5)])), (a6, .inl (cB, 1600, .inl xF4))] := hD
    refine va_iast hx hb hK hP hD hS 1 0 rfl rfl (vp_of (by omega) (by omega)) dX4_readLine_40 (fun H locs hP hD hS => ?_)
    obtain ⟨f19, ef19⟩ : ∃ f, f = upd xF0 i0.toNatClampNeg r13 := ⟨_, rfl⟩
    replace hP : va_P (dC, dI) vwCl [(a0, .inr (4, [.int i0, .ref a1, .ref a2, .ref a3, .ref a4])), (a1, .inl (cI, 4, .inl f19)), (a2, .inl (cI, 4, .inl xF1)), (a3, .inl (cI, 4, .inl xF2)), (a4, .inl (cI, 4, .inl xF3)), (a5, .inr (10, [.ref a6, .int i1, .int (u15 0), .int (u15 1), .int (u15 2), .int (u15 3), .int (u15 4), .int (u15 5)])), (a6, .inl (cB, 1600, .inl xF4))] H := by rw [ef19]; exact hP
    replace hD : va_D A [(a0, .inr (4, [.int i0, .ref a1, .ref a2, .ref a3, .ref a4])), (a1, .inl (cI, 4, .inl f19)), (a2, .inl (cI, 4, .inl xF1)), (a3, .inl (cI, 4, .inl xF2)), (a4, .inl (cI, 4, .inl xF3)), (a5, .inr (10, [.ref a6, .int i1, .int (u15 0), .int (u15 1), .int (u15 2), .int (u15 3), .int (u15 4), .int (u15 5)])), (a6, .inl (cB, 1600, .inl xF4))] := by rw [ef19]; exact hD
    refine lv_aload_n hx hb dX4_readLine_41 rfl (lv_at hl 1 rfl) ?_
    refine va_ldcS hx hb hown hR46 dX4_readLine_42 ?_
    have hPc := hP.sub (ws' := [(a5, .inr (10, [.ref a6, .int i1, .int (u15 0), .int (u15 1), .int (u15 2), .int (u15 3), .int (u15 4), .int (u15 5)])), (a6, .inl (cB, 1600, .inl xF4))]) [5, 6] rfl
    have hDc := hD.sub (ws' := [(a5, .inr (10, [.ref a6, .int i1, .int (u15 0), .int (u15 1), .int (u15 2), .int (u15 3), .int (u15 4), .int (u15 5)])), (a6, .inl (cB, 1600, .inl xF4))]) [5, 6] (by decide) rfl
    have hFc := va_free (wc := [(a5, .inr (10, [.ref a6, .int i1, .int (u15 0), .int (u15 1), .int (u15 2), .int (u15 3), .int (u15 4), .int (u15 5)])), (a6, .inl (cB, 1600, .inl xF4))]) hD hS hA [5, 6] rfl
    refine va_callv (va_runV (As := [.ref sa46]) (rest := []) ⟨hx, hb, hml, hown, hwd⟩ (s_X10_takeWord l dC dI cI cZ cB cJ cM cG a5 a6 i1 (u15 0) (u15 1) (u15 2) (u15 3) (u15 4) (u15 5) xF4 sa46 sav46 sn46 sf46 H.size (show (0 : Int) ≤ i1.toInt ∧ i1.toInt ≤ 1600 from p_1) (show (0 : Int) ≤ (u15 3).toInt ∧ (u15 3).toInt ≤ 1600 from hw17) (show (0 : Int) ≤ (u15 4).toInt ∧ (u15 4).toInt ≤ 1600 from hw18)) (cwV 1 hwd (gV kr22_21 kr19_15 kr19_16 kr5_12 kr19_17) rfl rfl rfl (by decide +kernel) ⟨Nat.le_of_ble_eq_true rfl, Nat.le_of_ble_eq_true rfl⟩) (kPreVX hPc hK hDc (NS_st _ _ _ _) hN46 hS hFc (ci := 10) (q0 := 0) rfl rfl) rfl rfl hl.1 rfl (lv_room (Nat.le_of_ble_eq_true rfl)) dX4_readLine_44 ⟨Nat.le_of_ble_eq_true rfl, Nat.le_of_ble_eq_true rfl⟩) hS (fun q _ h => hFc q h) hFc (fun u21 t H1 locs ht9 hvm hw hB hz1 hk1 hS => ?_)
    obtain ⟨u22, U22, V22⟩ := u21
    obtain ⟨hw23, hw24, -⟩ := hw
    replace hw23 : (0 : Int) ≤ (u22 3).toInt ∧ (u22 3).toInt ≤ 1600 := hw23
    replace hw24 : (0 : Int) ≤ (u22 4).toInt ∧ (u22 4).toInt ≤ 1600 := hw24
    obtain ⟨hP1, hD1⟩ := hB
    rw [ht9] at hP1
    obtain ⟨hP, hD⟩ := va_join (wr := [(a0, .inr (4, [.int i0, .ref a1, .ref a2, .ref a3, .ref a4])), (a1, .inl (cI, 4, .inl f19)), (a2, .inl (cI, 4, .inl xF1)), (a3, .inl (cI, 4, .inl xF2)), (a4, .inl (cI, 4, .inl xF3))]) (w1 := [(a5, .inr (10, [.ref a6, .int i1, .int (u22 0), .int (u22 1), .int (u22 2), .int (u22 3), .int (u22 4), .int (u22 5)])), (a6, .inl (cB, 1600, .inl xF4))]) hP hD [5, 6] [0, 1, 2, 3, 4] rfl rfl (by decide) (by decide) hk1 hFc hP1 hD1
    generalize H1 = H at hP hS ⊢
    replace hP : va_P (dC, dI) vwCl [(a0, .inr (4, [.int i0, .ref a1, .ref a2, .ref a3, .ref a4])), (a1, .inl (cI, 4, .inl f19)), (a2, .inl (cI, 4, .inl xF1)), (a3, .inl (cI, 4, .inl xF2)), (a4, .inl (cI, 4, .inl xF3)), (a5, .inr (10, [.ref a6, .int i1, .int (u22 0), .int (u22 1), .int (u22 2), .int (u22 3), .int (u22 4), .int (u22 5)])), (a6, .inl (cB, 1600, .inl xF4))] H := hP
    replace hD : va_D A [(a0, .inr (4, [.int i0, .ref a1, .ref a2, .ref a3, .ref a4])), (a1, .inl (cI, 4, .inl f19)), (a2, .inl (cI, 4, .inl xF1)), (a3, .inl (cI, 4, .inl xF2)), (a4, .inl (cI, 4, .inl xF3)), (a5, .inr (10, [.ref a6, .int i1, .int (u22 0), .int (u22 1), .int (u22 2), .int (u22 3), .int (u22 4), .int (u22 5)])), (a6, .inl (cB, 1600, .inl xF4))] := hD
    refine lv_aload_n hx hb dX4_readLine_47 rfl (lv_at hl 0 rfl) ?_
    refine va_get (D := (dC, dI)) (ci := 4) (v := .ref a2) (C := RX4) (T := TX4) (N := 5) hx hb hwd inlX4 hown hK hP 0 rfl rfl 2 (by decide) (hwd _ kr13_18) (fun _ h9 => h9) rfl dX4_readLine_48 ?_
    refine lv_aload_n hx hb dX4_readLine_51 rfl (lv_at hl 0 rfl) ?_
    refine va_get (D := (dC, dI)) (ci := 4) (v := .int i0) (C := RX4) (T := TX4) (N := 5) hx hb hwd inlX4 hown hK hP 0 rfl rfl 0 (by decide) (hwd _ kr13_13) (fun _ h9 => h9) rfl dX4_readLine_52 ?_
    refine lv_aload_n hx hb dX4_readLine_55 rfl (lv_at hl 1 rfl) ?_
    refine lv_iconst (v := 1) hx hb dX4_readLine_56 (by decide) ?_
    refine lv_bipush (v := 99) hx hb dX4_readLine_57 (by decide) ?_
    have hPc := hP.sub (ws' := [(a5, .inr (10, [.ref a6, .int i1, .int (u22 0), .int (u22 1), .int (u22 2), .int (u22 3), .int (u22 4), .int (u22 5)])), (a6, .inl (cB, 1600, .inl xF4))]) [5, 6] rfl
    have hDc := hD.sub (ws' := [(a5, .inr (10, [.ref a6, .int i1, .int (u22 0), .int (u22 1), .int (u22 2), .int (u22 3), .int (u22 4), .int (u22 5)])), (a6, .inl (cB, 1600, .inl xF4))]) [5, 6] (by decide) rfl
    have hFc := va_free (wc := [(a5, .inr (10, [.ref a6, .int i1, .int (u22 0), .int (u22 1), .int (u22 2), .int (u22 3), .int (u22 4), .int (u22 5)])), (a6, .inl (cB, 1600, .inl xF4))]) hD hS hA [5, 6] rfl
    refine va_calli (va_runV (As := [.int 1, .int 99]) (rest := [.int i0, .ref a2]) ⟨hx, hb, hml, hown, hwd⟩ (s_X10_takeNumber l dC dI cI cZ cB cJ cM cG a5 a6 i1 (u22 0) (u22 1) (u22 2) (u22 3) (u22 4) (u22 5) xF4 1 99 H.size (show (0 : Int) ≤ i1.toInt ∧ i1.toInt ≤ 1600 from p_1) (show (0 : Int) ≤ (u22 3).toInt ∧ (u22 3).toInt ≤ 1600 from hw23) (show (0 : Int) ≤ (u22 4).toInt ∧ (u22 4).toInt ≤ 1600 from hw24)) (cwV 2 hwd (gV kr22_22 kr21_22 kr21_23 kr5_12 kr22_0) rfl rfl rfl (by decide +kernel) ⟨Nat.le_of_ble_eq_true rfl, Nat.le_of_ble_eq_true rfl⟩) (kPreV hPc hK hDc (ci := 10) (q0 := 0) rfl rfl) rfl rfl hl.1 rfl (lv_room (Nat.le_of_ble_eq_true rfl)) dX4_readLine_59 ⟨Nat.le_of_ble_eq_true rfl, Nat.le_of_ble_eq_true rfl⟩) hS (fun q _ h => hFc q h) hFc (fun r25 u26 t H1 locs ht9 hvm hw hB hz1 hk1 hS => ?_)
    obtain ⟨u27, U27, V27⟩ := u26
    obtain ⟨hw28, hw29, hw30, -⟩ := hw
    replace hw28 : (1 : Int32).toInt ≤ r25.toInt ∧ (r25.toInt ≤ (1 : Int32).toInt ∨ r25.toInt ≤ (99 : Int32).toInt) := hw28
    replace hw29 : (0 : Int) ≤ (u27 3).toInt ∧ (u27 3).toInt ≤ 1600 := hw29
    replace hw30 : (0 : Int) ≤ (u27 4).toInt ∧ (u27 4).toInt ≤ 1600 := hw30
    obtain ⟨hP1, hD1⟩ := hB
    rw [ht9] at hP1
    obtain ⟨hP, hD⟩ := va_join (wr := [(a0, .inr (4, [.int i0, .ref a1, .ref a2, .ref a3, .ref a4])), (a1, .inl (cI, 4, .inl f19)), (a2, .inl (cI, 4, .inl xF1)), (a3, .inl (cI, 4, .inl xF2)), (a4, .inl (cI, 4, .inl xF3))]) (w1 := [(a5, .inr (10, [.ref a6, .int i1, .int (u27 0), .int (u27 1), .int (u27 2), .int (u27 3), .int (u27 4), .int (u27 5)])), (a6, .inl (cB, 1600, .inl xF4))]) hP hD [5, 6] [0, 1, 2, 3, 4] rfl rfl (by decide) (by decide) hk1 hFc hP1 hD1
    generalize H1 = H at hP hS ⊢
    replace hP : va_P (dC, dI) vwCl [(a0, .inr (4, [.int i0, .ref a1, .ref a2, .ref a3, .ref a4])), (a1, .inl (cI, 4, .inl f19)), (a2, .inl (cI, 4, .inl xF1)), (a3, .inl (cI, 4, .inl xF2)), (a4, .inl (cI, 4, .inl xF3)), (a5, .inr (10, [.ref a6, .int i1, .int (u27 0), .int (u27 1), .int (u27 2), .int (u27 3), .int (u27 4), .int (u27 5)])), (a6, .inl (cB, 1600, .inl xF4))] H := hP
    replace hD : va_D A [(a0, .inr (4, [.int i0, .ref a1, .ref a2, .ref a3, .ref a4])), (a1, .inl (cI, 4, .inl f19)), (a2, .inl (cI, 4, .inl xF1)), (a3, .inl (cI, 4, .inl xF2)), (a4, .inl (cI, 4, .inl xF3)), (a5, .inr (10, [.ref a6, .int i1, .int (u27 0), .int (u27 1), .int (u27 2), .int (u27 3), .int (u27 4), .int (u27 5)])), (a6, .inl (cB, 1600, .inl xF4))] := hD
    refine va_iast hx hb hK hP hD hS 2 0 rfl rfl (vp_of (by omega) (by omega)) dX4_readLine_62 (fun H locs hP hD hS => ?_)
    obtain ⟨f31, ef31⟩ : ∃ f, f = upd xF1 i0.toNatClampNeg r25 := ⟨_, rfl⟩
    replace hP : va_P (dC, dI) vwCl [(a0, .inr (4, [.int i0, .ref a1, .ref a2, .ref a3, .ref a4])), (a1, .inl (cI, 4, .inl f19)), (a2, .inl (cI, 4, .inl f31)), (a3, .inl (cI, 4, .inl xF2)), (a4, .inl (cI, 4, .inl xF3)), (a5, .inr (10, [.ref a6, .int i1, .int (u27 0), .int (u27 1), .int (u27 2), .int (u27 3), .int (u27 4), .int (u27 5)])), (a6, .inl (cB, 1600, .inl xF4))] H := by rw [ef31]; exact hP
    replace hD : va_D A [(a0, .inr (4, [.int i0, .ref a1, .ref a2, .ref a3, .ref a4])), (a1, .inl (cI, 4, .inl f19)), (a2, .inl (cI, 4, .inl f31)), (a3, .inl (cI, 4, .inl xF2)), (a4, .inl (cI, 4, .inl xF3)), (a5, .inr (10, [.ref a6, .int i1, .int (u27 0), .int (u27 1), .int (u27 2), .int (u27 3), .int (u27 4), .int (u27 5)])), (a6, .inl (cB, 1600, .inl xF4))] := by rw [ef31]; exact hD
    refine lv_aload_n hx hb dX4_readLine_63 rfl (lv_at hl 1 rfl) ?_
    refine va_ldcS hx hb hown hR47 dX4_readLine_64 ?_
    have hPc := hP.sub (ws' := [(a5, .inr (10, [.ref a6, .int i1, .int (u27 0), .int (u27 1), .int (u27 2), .int (u27 3), .int (u27 4), .int (u27 5)])), (a6, .inl (cB, 1600, .inl xF4))]) [5, 6] rfl
    have hDc := hD.sub (ws' := [(a5, .inr (10, [.ref a6, .int i1, .int (u27 0), .int (u27 1), .int (u27 2), .int (u27 3), .int (u27 4), .int (u27 5)])), (a6, .inl (cB, 1600, .inl xF4))]) [5, 6] (by decide) rfl
    have hFc := va_free (wc := [(a5, .inr (10, [.ref a6, .int i1, .int (u27 0), .int (u27 1), .int (u27 2), .int (u27 3), .int (u27 4), .int (u27 5)])), (a6, .inl (cB, 1600, .inl xF4))]) hD hS hA [5, 6] rfl
    refine va_callv (va_runV (As := [.ref sa47]) (rest := []) ⟨hx, hb, hml, hown, hwd⟩ (s_X10_takeWord l dC dI cI cZ cB cJ cM cG a5 a6 i1 (u27 0) (u27 1) (u27 2) (u27 3) (u27 4) (u27 5) xF4 sa47 sav47 sn47 sf47 H.size (show (0 : Int) ≤ i1.toInt ∧ i1.toInt ≤ 1600 from p_1) (show (0 : Int) ≤ (u27 3).toInt ∧ (u27 3).toInt ≤ 1600 from hw29) (show (0 : Int) ≤ (u27 4).toInt ∧ (u27 4).toInt ≤ 1600 from hw30)) (cwV 1 hwd (gV kr22_21 kr19_15 kr19_16 kr5_12 kr19_17) rfl rfl rfl (by decide +kernel) ⟨Nat.le_of_ble_eq_true rfl, Nat.le_of_ble_eq_true rfl⟩) (kPreVX hPc hK hDc (NS_st _ _ _ _) hN47 hS hFc (ci := 10) (q0 := 0) rfl rfl) rfl rfl hl.1 rfl (lv_room (Nat.le_of_ble_eq_true rfl)) dX4_readLine_66 ⟨Nat.le_of_ble_eq_true rfl, Nat.le_of_ble_eq_true rfl⟩) hS (fun q _ h => hFc q h) hFc (fun u33 t H1 locs ht9 hvm hw hB hz1 hk1 hS => ?_)
    obtain ⟨u34, U34, V34⟩ := u33
    obtain ⟨hw35, hw36, -⟩ := hw
    replace hw35 : (0 : Int) ≤ (u34 3).toInt ∧ (u34 3).toInt ≤ 1600 := hw35
    replace hw36 : (0 : Int) ≤ (u34 4).toInt ∧ (u34 4).toInt ≤ 1600 := hw36
    obtain ⟨hP1, hD1⟩ := hB
    rw [ht9] at hP1
    obtain ⟨hP, hD⟩ := va_join (wr := [(a0, .inr (4, [.int i0, .ref a1, .ref a2, .ref a3, .ref a4])), (a1, .inl (cI, 4, .inl f19)), (a2, .inl (cI, 4, .inl f31)), (a3, .inl (cI, 4, .inl xF2)), (a4, .inl (cI, 4, .inl xF3))]) (w1 := [(a5, .inr (10, [.ref a6, .int i1, .int (u34 0), .int (u34 1), .int (u34 2), .int (u34 3), .int (u34 4), .int (u34 5)])), (a6, .inl (cB, 1600, .inl xF4))]) hP hD [5, 6] [0, 1, 2, 3, 4] rfl rfl (by decide) (by decide) hk1 hFc hP1 hD1
    generalize H1 = H at hP hS ⊢
    replace hP : va_P (dC, dI) vwCl [(a0, .inr (4, [.int i0, .ref a1, .ref a2, .ref a3, .ref a4])), (a1, .inl (cI, 4, .inl f19)), (a2, .inl (cI, 4, .inl f31)), (a3, .inl (cI, 4, .inl xF2)), (a4, .inl (cI, 4, .inl xF3)), (a5, .inr (10, [.ref a6, .int i1, .int (u34 0), .int (u34 1), .int (u34 2), .int (u34 3), .int (u34 4), .int (u34 5)])), (a6, .inl (cB, 1600, .inl xF4))] H := hP
    replace hD : va_D A [(a0, .inr (4, [.int i0, .ref a1, .ref a2, .ref a3, .ref a4])), (a1, .inl (cI, 4, .inl f19)), (a2, .inl (cI, 4, .inl f31)), (a3, .inl (cI, 4, .inl xF2)), (a4, .inl (cI, 4, .inl xF3)), (a5, .inr (10, [.ref a6, .int i1, .int (u34 0), .int (u34 1), .int (u34 2), .int (u34 3), .int (u34 4), .int (u34 5)])), (a6, .inl (cB, 1600, .inl xF4))] := hD
    refine lv_aload_n hx hb dX4_readLine_69 rfl (lv_at hl 0 rfl) ?_
    refine va_get (D := (dC, dI)) (ci := 4) (v := .ref a3) (C := RX4) (T := TX4) (N := 5) hx hb hwd inlX4 hown hK hP 0 rfl rfl 3 (by decide) (hwd _ kr13_20) (fun _ h9 => h9) rfl dX4_readLine_70 ?_
    refine lv_aload_n hx hb dX4_readLine_73 rfl (lv_at hl 0 rfl) ?_
    refine va_get (D := (dC, dI)) (ci := 4) (v := .int i0) (C := RX4) (T := TX4) (N := 5) hx hb hwd inlX4 hown hK hP 0 rfl rfl 0 (by decide) (hwd _ kr13_13) (fun _ h9 => h9) rfl dX4_readLine_74 ?_
    refine lv_aload_n hx hb dX4_readLine_77 rfl (lv_at hl 1 rfl) ?_
    refine lv_iconst (v := 2) hx hb dX4_readLine_78 (by decide) ?_
    refine lv_bipush (v := 30) hx hb dX4_readLine_79 (by decide) ?_
    have hPc := hP.sub (ws' := [(a5, .inr (10, [.ref a6, .int i1, .int (u34 0), .int (u34 1), .int (u34 2), .int (u34 3), .int (u34 4), .int (u34 5)])), (a6, .inl (cB, 1600, .inl xF4))]) [5, 6] rfl
    have hDc := hD.sub (ws' := [(a5, .inr (10, [.ref a6, .int i1, .int (u34 0), .int (u34 1), .int (u34 2), .int (u34 3), .int (u34 4), .int (u34 5)])), (a6, .inl (cB, 1600, .inl xF4))]) [5, 6] (by decide) rfl
    have hFc := va_free (wc := [(a5, .inr (10, [.ref a6, .int i1, .int (u34 0), .int (u34 1), .int (u34 2), .int (u34 3), .int (u34 4), .int (u34 5)])), (a6, .inl (cB, 1600, .inl xF4))]) hD hS hA [5, 6] rfl
    refine va_calli (va_runV (As := [.int 2, .int 30]) (rest := [.int i0, .ref a3]) ⟨hx, hb, hml, hown, hwd⟩ (s_X10_takeNumber l dC dI cI cZ cB cJ cM cG a5 a6 i1 (u34 0) (u34 1) (u34 2) (u34 3) (u34 4) (u34 5) xF4 2 30 H.size (show (0 : Int) ≤ i1.toInt ∧ i1.toInt ≤ 1600 from p_1) (show (0 : Int) ≤ (u34 3).toInt ∧ (u34 3).toInt ≤ 1600 from hw35) (show (0 : Int) ≤ (u34 4).toInt ∧ (u34 4).toInt ≤ 1600 from hw36)) (cwV 2 hwd (gV kr22_22 kr21_22 kr21_23 kr5_12 kr22_0) rfl rfl rfl (by decide +kernel) ⟨Nat.le_of_ble_eq_true rfl, Nat.le_of_ble_eq_true rfl⟩) (kPreV hPc hK hDc (ci := 10) (q0 := 0) rfl rfl) rfl rfl hl.1 rfl (lv_room (Nat.le_of_ble_eq_true rfl)) dX4_readLine_81 ⟨Nat.le_of_ble_eq_true rfl, Nat.le_of_ble_eq_true rfl⟩) hS (fun q _ h => hFc q h) hFc (fun r37 u38 t H1 locs ht9 hvm hw hB hz1 hk1 hS => ?_)
    obtain ⟨u39, U39, V39⟩ := u38
    obtain ⟨hw40, hw41, hw42, -⟩ := hw
    replace hw40 : (2 : Int32).toInt ≤ r37.toInt ∧ (r37.toInt ≤ (2 : Int32).toInt ∨ r37.toInt ≤ (30 : Int32).toInt) := hw40
    replace hw41 : (0 : Int) ≤ (u39 3).toInt ∧ (u39 3).toInt ≤ 1600 := hw41
    replace hw42 : (0 : Int) ≤ (u39 4).toInt ∧ (u39 4).toInt ≤ 1600 := hw42
    obtain ⟨hP1, hD1⟩ := hB
    rw [ht9] at hP1
    obtain ⟨hP, hD⟩ := va_join (wr := [(a0, .inr (4, [.int i0, .ref a1, .ref a2, .ref a3, .ref a4])), (a1, .inl (cI, 4, .inl f19)), (a2, .inl (cI, 4, .inl f31)), (a3, .inl (cI, 4, .inl xF2)), (a4, .inl (cI, 4, .inl xF3))]) (w1 := [(a5, .inr (10, [.ref a6, .int i1, .int (u39 0), .int (u39 1), .int (u39 2), .int (u39 3), .int (u39 4), .int (u39 5)])), (a6, .inl (cB, 1600, .inl xF4))]) hP hD [5, 6] [0, 1, 2, 3, 4] rfl rfl (by decide) (by decide) hk1 hFc hP1 hD1
    generalize H1 = H at hP hS ⊢
    replace hP : va_P (dC, dI) vwCl [(a0, .inr (4, [.int i0, .ref a1, .ref a2, .ref a3, .ref a4])), (a1, .inl (cI, 4, .inl f19)), (a2, .inl (cI, 4, .inl f31)), (a3, .inl (cI, 4, .inl xF2)), (a4, .inl (cI, 4, .inl xF3)), (a5, .inr (10, [.ref a6, .int i1, .int (u39 0), .int (u39 1), .int (u39 2), .int (u39 3), .int (u39 4), .int (u39 5)])), (a6, .inl (cB, 1600, .inl xF4))] H := hP
    replace hD : va_D A [(a0, .inr (4, [.int i0, .ref a1, .ref a2, .ref a3, .ref a4])), (a1, .inl (cI, 4, .inl f19)), (a2, .inl (cI, 4, .inl f31)), (a3, .inl (cI, 4, .inl xF2)), (a4, .inl (cI, 4, .inl xF3)), (a5, .inr (10, [.ref a6, .int i1, .int (u39 0), .int (u39 1), .int (u39 2), .int (u39 3), .int (u39 4), .int (u39 5)])), (a6, .inl (cB, 1600, .inl xF4))] := hD
    refine va_iast hx hb hK hP hD hS 3 0 rfl rfl (vp_of (by omega) (by omega)) dX4_readLine_84 (fun H locs hP hD hS => ?_)
    obtain ⟨f43, ef43⟩ : ∃ f, f = upd xF2 i0.toNatClampNeg r37 := ⟨_, rfl⟩
    replace hP : va_P (dC, dI) vwCl [(a0, .inr (4, [.int i0, .ref a1, .ref a2, .ref a3, .ref a4])), (a1, .inl (cI, 4, .inl f19)), (a2, .inl (cI, 4, .inl f31)), (a3, .inl (cI, 4, .inl f43)), (a4, .inl (cI, 4, .inl xF3)), (a5, .inr (10, [.ref a6, .int i1, .int (u39 0), .int (u39 1), .int (u39 2), .int (u39 3), .int (u39 4), .int (u39 5)])), (a6, .inl (cB, 1600, .inl xF4))] H := by rw [ef43]; exact hP
    replace hD : va_D A [(a0, .inr (4, [.int i0, .ref a1, .ref a2, .ref a3, .ref a4])), (a1, .inl (cI, 4, .inl f19)), (a2, .inl (cI, 4, .inl f31)), (a3, .inl (cI, 4, .inl f43)), (a4, .inl (cI, 4, .inl xF3)), (a5, .inr (10, [.ref a6, .int i1, .int (u39 0), .int (u39 1), .int (u39 2), .int (u39 3), .int (u39 4), .int (u39 5)])), (a6, .inl (cB, 1600, .inl xF4))] := by rw [ef43]; exact hD
    refine lv_aload_n hx hb dX4_readLine_85 rfl (lv_at hl 0 rfl) ?_
    refine va_get (D := (dC, dI)) (ci := 4) (v := .ref a4) (C := RX4) (T := TX4) (N := 5) hx hb hwd inlX4 hown hK hP 0 rfl rfl 4 (by decide) (hwd _ kr13_21) (fun _ h9 => h9) rfl dX4_readLine_86 ?_
    refine lv_aload_n hx hb dX4_readLine_89 rfl (lv_at hl 0 rfl) ?_
    refine va_get (D := (dC, dI)) (ci := 4) (v := .int i0) (C := RX4) (T := TX4) (N := 5) hx hb hwd inlX4 hown hK hP 0 rfl rfl 0 (by decide) (hwd _ kr13_13) (fun _ h9 => h9) rfl dX4_readLine_90 ?_
    refine lv_iconst (v := 0) hx hb dX4_readLine_93 (by decide) ?_
    refine va_iast hx hb hK hP hD hS 4 0 rfl rfl (vp_of (by omega) (by omega)) dX4_readLine_94 (fun H locs hP hD hS => ?_)
    obtain ⟨f44, ef44⟩ : ∃ f, f = upd xF3 i0.toNatClampNeg (0 : Int32) := ⟨_, rfl⟩
    replace hP : va_P (dC, dI) vwCl [(a0, .inr (4, [.int i0, .ref a1, .ref a2, .ref a3, .ref a4])), (a1, .inl (cI, 4, .inl f19)), (a2, .inl (cI, 4, .inl f31)), (a3, .inl (cI, 4, .inl f43)), (a4, .inl (cI, 4, .inl f44)), (a5, .inr (10, [.ref a6, .int i1, .int (u39 0), .int (u39 1), .int (u39 2), .int (u39 3), .int (u39 4), .int (u39 5)])), (a6, .inl (cB, 1600, .inl xF4))] H := by rw [ef44]; exact hP
    replace hD : va_D A [(a0, .inr (4, [.int i0, .ref a1, .ref a2, .ref a3, .ref a4])), (a1, .inl (cI, 4, .inl f19)), (a2, .inl (cI, 4, .inl f31)), (a3, .inl (cI, 4, .inl f43)), (a4, .inl (cI, 4, .inl f44)), (a5, .inr (10, [.ref a6, .int i1, .int (u39 0), .int (u39 1), .int (u39 2), .int (u39 3), .int (u39 4), .int (u39 5)])), (a6, .inl (cB, 1600, .inl xF4))] := by rw [ef44]; exact hD
    refine lv_aload_n hx hb dX4_readLine_95 rfl (lv_at hl 0 rfl) ?_
    refine lv_dup hx hb dX4_readLine_96 rfl ?_
    refine va_get (D := (dC, dI)) (ci := 4) (v := .int i0) (C := RX4) (T := TX4) (N := 5) hx hb hwd inlX4 hown hK hP 0 rfl rfl 0 (by decide) (hwd _ kr13_13) (fun _ h9 => h9) rfl dX4_readLine_97 ?_
    refine lv_iconst (v := 1) hx hb dX4_readLine_100 (by decide) ?_
    refine lv_iadd hx hb dX4_readLine_101 ?_
    refine lv_topi (fun x45 ex45 => ?_)
    have tx45 := ia_add (a := i0) (b := (1 : Int32)) (by omega) (by omega)
    rw [← ex45] at tx45
    refine va_put (D := (dC, dI)) (ci := 4) (v := .int x45) (ty := .int) (C := RX4) (T := TX4) (N := 5) hx hb hwd inlX4 tyX4 tyX4_ok nmX4 hown hK hP hD hS 0 rfl rfl 0 (by decide) (hwd _ kr13_13) (fun _ h9 => h9) rfl (by decide +kernel) rfl rfl (Nat.le_of_ble_eq_true rfl) dX4_readLine_102 (fun H locs hP hD hS => ?_)
    replace hP : va_P (dC, dI) vwCl [(a0, .inr (4, [.int x45, .ref a1, .ref a2, .ref a3, .ref a4])), (a1, .inl (cI, 4, .inl f19)), (a2, .inl (cI, 4, .inl f31)), (a3, .inl (cI, 4, .inl f43)), (a4, .inl (cI, 4, .inl f44)), (a5, .inr (10, [.ref a6, .int i1, .int (u39 0), .int (u39 1), .int (u39 2), .int (u39 3), .int (u39 4), .int (u39 5)])), (a6, .inl (cB, 1600, .inl xF4))] H := hP
    replace hD : va_D A [(a0, .inr (4, [.int x45, .ref a1, .ref a2, .ref a3, .ref a4])), (a1, .inl (cI, 4, .inl f19)), (a2, .inl (cI, 4, .inl f31)), (a3, .inl (cI, 4, .inl f43)), (a4, .inl (cI, 4, .inl f44)), (a5, .inr (10, [.ref a6, .int i1, .int (u39 0), .int (u39 1), .int (u39 2), .int (u39 3), .int (u39 4), .int (u39 5)])), (a6, .inl (cB, 1600, .inl xF4))] := hD
    have hP9 := hP.sub (ws' := [(a0, .inr (4, [.int x45, .ref a1, .ref a2, .ref a3, .ref a4])), (a1, .inl (cI, 4, .inl f19)), (a2, .inl (cI, 4, .inl f31)), (a3, .inl (cI, 4, .inl f43)), (a4, .inl (cI, 4, .inl f44)), (a5, .inr (10, [.ref a6, .int i1, .int (u39 0), .int (u39 1), .int (u39 2), .int (u39 3), .int (u39 4), .int (u39 5)])), (a6, .inl (cB, 1600, .inl xF4))]) [0, 1, 2, 3, 4, 5, 6] rfl
    have hD9 := hD.sub (ws' := [(a0, .inr (4, [.int x45, .ref a1, .ref a2, .ref a3, .ref a4])), (a1, .inl (cI, 4, .inl f19)), (a2, .inl (cI, 4, .inl f31)), (a3, .inl (cI, 4, .inl f43)), (a4, .inl (cI, 4, .inl f44)), (a5, .inr (10, [.ref a6, .int i1, .int (u39 0), .int (u39 1), .int (u39 2), .int (u39 3), .int (u39 4), .int (u39 5)])), (a6, .inl (cB, 1600, .inl xF4))]) [0, 1, 2, 3, 4, 5, 6] (by decide) rfl
    rw [hQ]
    exact W.vret hx hb hr (fun t ht hW => ⟨⟨(pickG 0 [x45, (u39 0), (u39 1), (u39 2), (u39 3), (u39 4), (u39 5)], pickG (fun _ => 0) [f19, f31, f43, f44], pickG (fun _ => 0) []), rfl, ⟨(show (0 : Int) ≤ x45.toInt ∧ x45.toInt ≤ 4 from ⟨by omega, by omega⟩), (show (0 : Int) ≤ (u39 3).toInt ∧ (u39 3).toInt ≤ 1600 from hw41), (show (0 : Int) ≤ (u39 4).toInt ∧ (u39 4).toInt ≤ 1600 from hw42), trivial⟩, (by rw [ht]; exact hP9), hD9⟩, hS.F ht⟩) hS.2.2 dX4_readLine_105
  · rw [ki_lt] at c1
    refine lv_aload_n hx hb dX4_readLine_8 rfl (lv_at hl 1 rfl) ?_
    refine lv_iconst (v := 3) hx hb dX4_readLine_9 (by decide) ?_
    have hPc := hP.sub (ws' := [(a5, .inr (10, [.ref a6, .int i1, .int i2, .int i3, .int i4, .int i5, .int i6, .int i7]))]) [5] rfl
    have hDc := hD.sub (ws' := [(a5, .inr (10, [.ref a6, .int i1, .int i2, .int i3, .int i4, .int i5, .int i6, .int i7]))]) [5] (by decide) rfl
    have hFc := va_free (wc := [(a5, .inr (10, [.ref a6, .int i1, .int i2, .int i3, .int i4, .int i5, .int i6, .int i7]))]) hD hS hA [5] rfl
    refine va_callv (va_runV (As := [.int 3]) (rest := []) ⟨hx, hb, hml, hown, hwd⟩ (s_X10_blame l dC dI cI cZ cB cJ cM cG a5 a6 i1 i2 i3 i4 i5 i6 i7 3 s.heap.size (show (0 : Int) ≤ i1.toInt ∧ i1.toInt ≤ 1600 from p_1) (show (0 : Int) ≤ i5.toInt ∧ i5.toInt ≤ 1600 from p_2) (show (0 : Int) ≤ i6.toInt ∧ i6.toInt ≤ 1600 from p_3)) (cwV 1 hwd (gV kr22_19 kr21_18 kr21_19 kr5_12 kr21_20) rfl rfl rfl (by decide +kernel) ⟨Nat.le_of_ble_eq_true rfl, Nat.le_of_ble_eq_true rfl⟩) (kPreV hPc hK hDc (ci := 10) (q0 := 0) rfl rfl) rfl rfl hl.1 rfl (lv_room (Nat.le_of_ble_eq_true rfl)) dX4_readLine_10 ⟨Nat.le_of_ble_eq_true rfl, Nat.le_of_ble_eq_true rfl⟩) hS (fun q _ h => hFc q h) hFc (fun u47 t H1 locs ht9 hvm hw hB hz1 hk1 hS => ?_)
    obtain ⟨u48, U48, V48⟩ := u47
    obtain ⟨hP1, hD1⟩ := hB
    rw [ht9] at hP1
    obtain ⟨hP, hD⟩ := va_join (wr := [(a0, .inr (4, [.int i0, .ref a1, .ref a2, .ref a3, .ref a4])), (a1, .inl (cI, 4, .inl xF0)), (a2, .inl (cI, 4, .inl xF1)), (a3, .inl (cI, 4, .inl xF2)), (a4, .inl (cI, 4, .inl xF3)), (a6, .inl (cB, 1600, .inl xF4))]) (w1 := [(a5, .inr (10, [.ref a6, .int i1, .int (u48 0), .int (u48 1), .int i4, .int i5, .int i6, .int i7]))]) hP hD [5] [0, 1, 2, 3, 4, 6] rfl rfl (by decide) (by decide) hk1 hFc hP1 hD1
    generalize H1 = H at hP hS ⊢
    replace hP : va_P (dC, dI) vwCl [(a0, .inr (4, [.int i0, .ref a1, .ref a2, .ref a3, .ref a4])), (a1, .inl (cI, 4, .inl xF0)), (a2, .inl (cI, 4, .inl xF1)), (a3, .inl (cI, 4, .inl xF2)), (a4, .inl (cI, 4, .inl xF3)), (a6, .inl (cB, 1600, .inl xF4)), (a5, .inr (10, [.ref a6, .int i1, .int (u48 0), .int (u48 1), .int i4, .int i5, .int i6, .int i7]))] H := hP
    replace hD : va_D A [(a0, .inr (4, [.int i0, .ref a1, .ref a2, .ref a3, .ref a4])), (a1, .inl (cI, 4, .inl xF0)), (a2, .inl (cI, 4, .inl xF1)), (a3, .inl (cI, 4, .inl xF2)), (a4, .inl (cI, 4, .inl xF3)), (a6, .inl (cB, 1600, .inl xF4)), (a5, .inr (10, [.ref a6, .int i1, .int (u48 0), .int (u48 1), .int i4, .int i5, .int i6, .int i7]))] := hD
    have hP9 := hP.sub (ws' := [(a0, .inr (4, [.int i0, .ref a1, .ref a2, .ref a3, .ref a4])), (a1, .inl (cI, 4, .inl xF0)), (a2, .inl (cI, 4, .inl xF1)), (a3, .inl (cI, 4, .inl xF2)), (a4, .inl (cI, 4, .inl xF3)), (a5, .inr (10, [.ref a6, .int i1, .int (u48 0), .int (u48 1), .int i4, .int i5, .int i6, .int i7])), (a6, .inl (cB, 1600, .inl xF4))]) [0, 1, 2, 3, 4, 6, 5] rfl
    have hD9 := hD.sub (ws' := [(a0, .inr (4, [.int i0, .ref a1, .ref a2, .ref a3, .ref a4])), (a1, .inl (cI, 4, .inl xF0)), (a2, .inl (cI, 4, .inl xF1)), (a3, .inl (cI, 4, .inl xF2)), (a4, .inl (cI, 4, .inl xF3)), (a5, .inr (10, [.ref a6, .int i1, .int (u48 0), .int (u48 1), .int i4, .int i5, .int i6, .int i7])), (a6, .inl (cB, 1600, .inl xF4))]) [0, 1, 2, 3, 4, 6, 5] (by decide) rfl
    rw [hQ]
    exact W.vret hx hb hr (fun t ht hW => ⟨⟨(pickG 0 [i0, (u48 0), (u48 1), i4, i5, i6, i7], pickG (fun _ => 0) [xF0, xF1, xF2, xF3], pickG (fun _ => 0) []), rfl, ⟨(show (0 : Int) ≤ i0.toInt ∧ i0.toInt ≤ 4 from p_0), (show (0 : Int) ≤ i5.toInt ∧ i5.toInt ≤ 1600 from p_2), (show (0 : Int) ≤ i6.toInt ∧ i6.toInt ≤ 1600 from p_3), trivial⟩, (by rw [ht]; exact hP9), hD9⟩, hS.F ht⟩) hS.2.2 dX4_readLine_13
theorem dX1_sortHere_0 : decode cX1_sortHere 0 = .ok (.aload_n 0, 1) := by decide +kernel
theorem dX1_sortHere_1 : decode cX1_sortHere 1 = .ok (.ldc 64, 2) := by decide +kernel
theorem dX1_sortHere_3 : decode cX1_sortHere 3 = .ok (.invokevirtual 66, 3) := by decide +kernel
theorem dX1_sortHere_6 : decode cX1_sortHere 6 = .ok (.ifCond .eq 5, 3) := by decide +kernel
theorem dX1_sortHere_9 : decode cX1_sortHere 9 = .ok (.iconst 0, 1) := by decide +kernel
theorem dX1_sortHere_10 : decode cX1_sortHere 10 = .ok (.ireturn, 1) := by decide +kernel
theorem dX1_sortHere_11 : decode cX1_sortHere 11 = .ok (.aload_n 0, 1) := by decide +kernel
theorem dX1_sortHere_12 : decode cX1_sortHere 12 = .ok (.ldc 70, 2) := by decide +kernel
theorem dX1_sortHere_14 : decode cX1_sortHere 14 = .ok (.invokevirtual 66, 3) := by decide +kernel
theorem dX1_sortHere_17 : decode cX1_sortHere 17 = .ok (.ifCond .eq 5, 3) := by decide +kernel
theorem dX1_sortHere_20 : decode cX1_sortHere 20 = .ok (.iconst 1, 1) := by decide +kernel
theorem dX1_sortHere_21 : decode cX1_sortHere 21 = .ok (.ireturn, 1) := by decide +kernel
theorem dX1_sortHere_22 : decode cX1_sortHere 22 = .ok (.aload_n 0, 1) := by decide +kernel
theorem dX1_sortHere_23 : decode cX1_sortHere 23 = .ok (.ldc 72, 2) := by decide +kernel
theorem dX1_sortHere_25 : decode cX1_sortHere 25 = .ok (.invokevirtual 66, 3) := by decide +kernel
theorem dX1_sortHere_28 : decode cX1_sortHere 28 = .ok (.ifCond .eq 5, 3) := by decide +kernel
theorem dX1_sortHere_31 : decode cX1_sortHere 31 = .ok (.iconst 2, 1) := by decide +kernel
theorem dX1_sortHere_32 : decode cX1_sortHere 32 = .ok (.ireturn, 1) := by decide +kernel
theorem dX1_sortHere_33 : decode cX1_sortHere 33 = .ok (.aload_n 0, 1) := by decide +kernel
theorem dX1_sortHere_34 : decode cX1_sortHere 34 = .ok (.ldc 74, 2) := by decide +kernel
theorem dX1_sortHere_36 : decode cX1_sortHere 36 = .ok (.invokevirtual 66, 3) := by decide +kernel
theorem dX1_sortHere_39 : decode cX1_sortHere 39 = .ok (.ifCond .eq 7, 3) := by decide +kernel
theorem dX1_sortHere_42 : decode cX1_sortHere 42 = .ok (.iconst 3, 1) := by decide +kernel
theorem dX1_sortHere_43 : decode cX1_sortHere 43 = .ok (.goto 4, 3) := by decide +kernel
theorem dX1_sortHere_46 : decode cX1_sortHere 46 = .ok (.iconst (-1), 1) := by decide +kernel
theorem dX1_sortHere_47 : decode cX1_sortHere 47 = .ok (.ireturn, 1) := by decide +kernel
set_option maxHeartbeats 4000000 in
set_option maxRecDepth 100000 in
theorem s_X1_sortHere (l : Launch) (dC : Nat → ClassId) (dI : Nat → Nat → Nat) (cI cZ cB cJ cM cG : ClassId) (a0 a1 : Nat) (i0 i1 i2 i3 i4 i5 i6 : Int32) (xF0 : Nat → Int32) (sz : Nat) (p_0 : (0 : Int) ≤ i0.toInt ∧ i0.toInt ≤ 1600) (p_1 : (0 : Int) ≤ i4.toInt ∧ i4.toInt ≤ 1600) (p_2 : (0 : Int) ≤ i5.toInt ∧ i5.toInt ≤ 1600) : Met l yX1_sortHere (kw yX1_sortHere cX1_sortHere 1 (some .int)) ({ frames := 5, cells := 0, slots := 0, locals := 107 } : Room) (va_Pc [.ref a0] (kPreX dC dI [(cI, .int), (cZ, .boolean), (cB, .byte), (cJ, .long), (cM, .object RX2), (cG, .array .int)] [(a0, .inr (10, [.ref a1, .int i0, .int i1, .int i2, .int i3, .int i4, .int i5, .int i6])), (a1, .inl (cB, 1600, .inl xF0))] sz NT)) (va_Qi (fun (r : Int32) (u9 : Unit) => ((-1 : Int) ≤ r.toInt ∧ r.toInt ≤ 3) ∧ True) (fun u9 t => va_P (dC, dI) vwCl [(a0, .inr (10, [.ref a1, .int i0, .int i1, .int i2, .int i3, .int i4, .int i5, .int i6])), (a1, .inl (cB, 1600, .inl xF0))] t.heap ∧ va_D (va_A [(a0, .inr (10, [.ref a1, .int i0, .int i1, .int i2, .int i3, .int i4, .int i5, .int i6])), (a1, .inl (cB, 1600, .inl xF0))] sz) [(a0, .inr (10, [.ref a1, .int i0, .int i1, .int i2, .int i3, .int i4, .int i5, .int i6])), (a1, .inl (cB, 1600, .inl xF0))]) (va_A [(a0, .inr (10, [.ref a1, .int i0, .int i1, .int i2, .int i3, .int i4, .int i5, .int i6])), (a1, .inl (cB, 1600, .inl xF0))] sz)) 0 0 (va_A [(a0, .inr (10, [.ref a1, .int i0, .int i1, .int i2, .int i3, .int i4, .int i5, .int i6])), (a1, .inl (cB, 1600, .inl xF0))] sz) := by
  refine kEnterX (by decide) (Nat.le_of_ble_eq_true rfl) ?_
  intro p e s m below meth c ls hx hb hr hml hown hlocks hin hwd hsz hP hK hD hN hl
  subst hsz
  generalize hAe : va_A [(a0, .inr (10, [.ref a1, .int i0, .int i1, .int i2, .int i3, .int i4, .int i5, .int i6])), (a1, .inl (cB, 1600, .inl xF0))] s.heap.size = A at hD hN ⊢
  have hA : ∀ q : Nat, s.heap.size ≤ q → A q := fun q h => by rw [← hAe]; exact Or.inr h
  have hS : va_S A s.heap s.heap [] := va_S.rf
  have hl : lv_has ls 1 [(0, .ref a0)] := hl
  obtain ⟨Q, hQ⟩ : ∃ Q, Q = MQ below (va_Qi (fun (r : Int32) (u9 : Unit) => ((-1 : Int) ≤ r.toInt ∧ r.toInt ≤ 3) ∧ True) (fun u9 t => va_P (dC, dI) vwCl [(a0, .inr (10, [.ref a1, .int i0, .int i1, .int i2, .int i3, .int i4, .int i5, .int i6])), (a1, .inl (cB, 1600, .inl xF0))] t.heap ∧ va_D A [(a0, .inr (10, [.ref a1, .int i0, .int i1, .int i2, .int i3, .int i4, .int i5, .int i6])), (a1, .inl (cB, 1600, .inl xF0))]) A) ([.ref a0] : List Value).toArray s 0 0 A := ⟨_, rfl⟩
  rw [← hQ]
  have km1 : ((-1) : Int32).toInt = -1 := by decide
  have k0 : (0 : Int32).toInt = 0 := by decide
  have k1 : (1 : Int32).toInt = 1 := by decide
  have k2 : (2 : Int32).toInt = 2 := by decide
  have k3 : (3 : Int32).toInt = 3 := by decide
  obtain ⟨sa64, sav64, sn64, sf64, hsn64, hR64, hks64⟩ := hN.2 _ rf_RX1_64
  have hN64 : NS sa64 sav64 sn64 sf64 A s := ⟨hN.1, hsn64.1, hks64⟩
  obtain ⟨sa70, sav70, sn70, sf70, hsn70, hR70, hks70⟩ := hN.2 _ rf_RX1_70
  have hN70 : NS sa70 sav70 sn70 sf70 A s := ⟨hN.1, hsn70.1, hks70⟩
  obtain ⟨sa72, sav72, sn72, sf72, hsn72, hR72, hks72⟩ := hN.2 _ rf_RX1_72
  have hN72 : NS sa72 sav72 sn72 sf72 A s := ⟨hN.1, hsn72.1, hks72⟩
  obtain ⟨sa74, sav74, sn74, sf74, hsn74, hR74, hks74⟩ := hN.2 _ rf_RX1_74
  have hN74 : NS sa74 sav74 sn74 sf74 A s := ⟨hN.1, hsn74.1, hks74⟩
  refine lv_aload_n hx hb dX1_sortHere_0 rfl (lv_at hl 0 rfl) ?_
  refine va_ldcS hx hb hown hR64 dX1_sortHere_1 ?_
  have hPc := hP.sub (ws' := [(a0, .inr (10, [.ref a1, .int i0, .int i1, .int i2, .int i3, .int i4, .int i5, .int i6])), (a1, .inl (cB, 1600, .inl xF0))]) [0, 1] rfl
  have hDc := hD.sub (ws' := [(a0, .inr (10, [.ref a1, .int i0, .int i1, .int i2, .int i3, .int i4, .int i5, .int i6])), (a1, .inl (cB, 1600, .inl xF0))]) [0, 1] (by decide) rfl
  have hFc := va_free (wc := [(a0, .inr (10, [.ref a1, .int i0, .int i1, .int i2, .int i3, .int i4, .int i5, .int i6])), (a1, .inl (cB, 1600, .inl xF0))]) hD hS hA [0, 1] rfl
  refine va_calli (va_runV (As := [.ref sa64]) (rest := []) ⟨hx, hb, hml, hown, hwd⟩ (s_X10_isWord l dC dI cI cZ cB cJ cM cG a0 a1 i0 i1 i2 i3 i4 i5 i6 xF0 sa64 sav64 sn64 sf64 s.heap.size (show (0 : Int) ≤ i0.toInt ∧ i0.toInt ≤ 1600 from p_0) (show (0 : Int) ≤ i4.toInt ∧ i4.toInt ≤ 1600 from p_1) (show (0 : Int) ≤ i5.toInt ∧ i5.toInt ≤ 1600 from p_2)) (cwV 1 hwd (gV kr23_9 kr19_19 kr19_20 kr5_12 kr19_21) rfl rfl rfl (by decide +kernel) ⟨Nat.le_of_ble_eq_true rfl, Nat.le_of_ble_eq_true rfl⟩) (kPreVX hPc hK hDc (NS_st _ _ _ _) hN64 hS hFc (ci := 10) (q0 := 0) rfl rfl) rfl rfl hl.1 rfl (lv_room (Nat.le_of_ble_eq_true rfl)) dX1_sortHere_3 ⟨Nat.le_of_ble_eq_true rfl, Nat.le_of_ble_eq_true rfl⟩) hS (fun q _ h => hFc q h) hFc (fun r1 u2 t H1 locs ht9 hvm hw hB hz1 hk1 hS => ?_)
  obtain ⟨hw3, -⟩ := hw
  replace hw3 : (0 : Int) ≤ r1.toInt ∧ r1.toInt ≤ 1 := hw3
  obtain ⟨hP1, hD1⟩ := hB
  rw [ht9] at hP1
  obtain ⟨hP, hD⟩ := va_join (wr := []) (w1 := [(a0, .inr (10, [.ref a1, .int i0, .int i1, .int i2, .int i3, .int i4, .int i5, .int i6])), (a1, .inl (cB, 1600, .inl xF0))]) hP hD [0, 1] [] rfl rfl (by decide) (by decide) hk1 hFc hP1 hD1
  generalize H1 = H at hP hS ⊢
  replace hP : va_P (dC, dI) vwCl [(a0, .inr (10, [.ref a1, .int i0, .int i1, .int i2, .int i3, .int i4, .int i5, .int i6])), (a1, .inl (cB, 1600, .inl xF0))] H := hP
  replace hD : va_D A [(a0, .inr (10, [.ref a1, .int i0, .int i1, .int i2, .int i3, .int i4, .int i5, .int i6])), (a1, .inl (cB, 1600, .inl xF0))] := hD
  refine lv_if_eq (tgt := 11) hx hb dX1_sortHere_6 (by decide) (fun c4 => ?_) (fun c4 => ?_)
  · rw [ki_eq] at c4
    refine lv_aload_n hx hb dX1_sortHere_11 rfl (lv_at hl 0 rfl) ?_
    refine va_ldcS hx hb hown hR70 dX1_sortHere_12 ?_
    have hPc := hP.sub (ws' := [(a0, .inr (10, [.ref a1, .int i0, .int i1, .int i2, .int i3, .int i4, .int i5, .int i6])), (a1, .inl (cB, 1600, .inl xF0))]) [0, 1] rfl
    have hDc := hD.sub (ws' := [(a0, .inr (10, [.ref a1, .int i0, .int i1, .int i2, .int i3, .int i4, .int i5, .int i6])), (a1, .inl (cB, 1600, .inl xF0))]) [0, 1] (by decide) rfl
    have hFc := va_free (wc := [(a0, .inr (10, [.ref a1, .int i0, .int i1, .int i2, .int i3, .int i4, .int i5, .int i6])), (a1, .inl (cB, 1600, .inl xF0))]) hD hS hA [0, 1] rfl
    refine va_calli (va_runV (As := [.ref sa70]) (rest := []) ⟨hx, hb, hml, hown, hwd⟩ (s_X10_isWord l dC dI cI cZ cB cJ cM cG a0 a1 i0 i1 i2 i3 i4 i5 i6 xF0 sa70 sav70 sn70 sf70 H.size (show (0 : Int) ≤ i0.toInt ∧ i0.toInt ≤ 1600 from p_0) (show (0 : Int) ≤ i4.toInt ∧ i4.toInt ≤ 1600 from p_1) (show (0 : Int) ≤ i5.toInt ∧ i5.toInt ≤ 1600 from p_2)) (cwV 1 hwd (gV kr23_9 kr19_19 kr19_20 kr5_12 kr19_21) rfl rfl rfl (by decide +kernel) ⟨Nat.le_of_ble_eq_true rfl, Nat.le_of_ble_eq_true rfl⟩) (kPreVX hPc hK hDc (NS_st _ _ _ _) hN70 hS hFc (ci := 10) (q0 := 0) rfl rfl) rfl rfl hl.1 rfl (lv_room (Nat.le_of_ble_eq_true rfl)) dX1_sortHere_14 ⟨Nat.le_of_ble_eq_true rfl, Nat.le_of_ble_eq_true rfl⟩) hS (fun q _ h => hFc q h) hFc (fun r5 u6 t H1 locs ht9 hvm hw hB hz1 hk1 hS => ?_)
    obtain ⟨hw7, -⟩ := hw
    replace hw7 : (0 : Int) ≤ r5.toInt ∧ r5.toInt ≤ 1 := hw7
    obtain ⟨hP1, hD1⟩ := hB
    rw [ht9] at hP1
    obtain ⟨hP, hD⟩ := va_join (wr := []) (w1 := [(a0, .inr (10, [.ref a1, .int i0, .int i1, .int i2, .int i3, .int i4, .int i5, .int i6])), (a1, .inl (cB, 1600, .inl xF0))]) hP hD [0, 1] [] rfl rfl (by decide) (by decide) hk1 hFc hP1 hD1
    generalize H1 = H at hP hS ⊢
    replace hP : va_P (dC, dI) vwCl [(a0, .inr (10, [.ref a1, .int i0, .int i1, .int i2, .int i3, .int i4, .int i5, .int i6])), (a1, .inl (cB, 1600, .inl xF0))] H := hP
    replace hD : va_D A [(a0, .inr (10, [.ref a1, .int i0, .int i1, .int i2, .int i3, .int i4, .int i5, .int i6])), (a1, .inl (cB, 1600, .inl xF0))] := hD
    refine lv_if_eq (tgt := 22) hx hb dX1_sortHere_17 (by decide) (fun c8 => ?_) (fun c8 => ?_)
    · rw [ki_eq] at c8
      refine lv_aload_n hx hb dX1_sortHere_22 rfl (lv_at hl 0 rfl) ?_
      refine va_ldcS hx hb hown hR72 dX1_sortHere_23 ?_
      have hPc := hP.sub (ws' := [(a0, .inr (10, [.ref a1, .int i0, .int i1, .int i2, .int i3, .int i4, .int i5, .int i6])), (a1, .inl (cB, 1600, .inl xF0))]) [0, 1] rfl
      have hDc := hD.sub (ws' := [(a0, .inr (10, [.ref a1, .int i0, .int i1, .int i2, .int i3, .int i4, .int i5, .int i6])), (a1, .inl (cB, 1600, .inl xF0))]) [0, 1] (by decide) rfl
      have hFc := va_free (wc := [(a0, .inr (10, [.ref a1, .int i0, .int i1, .int i2, .int i3, .int i4, .int i5, .int i6])), (a1, .inl (cB, 1600, .inl xF0))]) hD hS hA [0, 1] rfl
      refine va_calli (va_runV (As := [.ref sa72]) (rest := []) ⟨hx, hb, hml, hown, hwd⟩ (s_X10_isWord l dC dI cI cZ cB cJ cM cG a0 a1 i0 i1 i2 i3 i4 i5 i6 xF0 sa72 sav72 sn72 sf72 H.size (show (0 : Int) ≤ i0.toInt ∧ i0.toInt ≤ 1600 from p_0) (show (0 : Int) ≤ i4.toInt ∧ i4.toInt ≤ 1600 from p_1) (show (0 : Int) ≤ i5.toInt ∧ i5.toInt ≤ 1600 from p_2)) (cwV 1 hwd (gV kr23_9 kr19_19 kr19_20 kr5_12 kr19_21) rfl rfl rfl (by decide +kernel) ⟨Nat.le_of_ble_eq_true rfl, Nat.le_of_ble_eq_true rfl⟩) (kPreVX hPc hK hDc (NS_st _ _ _ _) hN72 hS hFc (ci := 10) (q0 := 0) rfl rfl) rfl rfl hl.1 rfl (lv_room (Nat.le_of_ble_eq_true rfl)) dX1_sortHere_25 ⟨Nat.le_of_ble_eq_true rfl, Nat.le_of_ble_eq_true rfl⟩) hS (fun q _ h => hFc q h) hFc (fun r9 u10 t H1 locs ht9 hvm hw hB hz1 hk1 hS => ?_)
      obtain ⟨hw11, -⟩ := hw
      replace hw11 : (0 : Int) ≤ r9.toInt ∧ r9.toInt ≤ 1 := hw11
      obtain ⟨hP1, hD1⟩ := hB
      rw [ht9] at hP1
      obtain ⟨hP, hD⟩ := va_join (wr := []) (w1 := [(a0, .inr (10, [.ref a1, .int i0, .int i1, .int i2, .int i3, .int i4, .int i5, .int i6])), (a1, .inl (cB, 1600, .inl xF0))]) hP hD [0, 1] [] rfl rfl (by decide) (by decide) hk1 hFc hP1 hD1
      generalize H1 = H at hP hS ⊢
      replace hP : va_P (dC, dI) vwCl [(a0, .inr (10, [.ref a1, .int i0, .int i1, .int i2, .int i3, .int i4, .int i5, .int i6])), (a1, .inl (cB, 1600, .inl xF0))] H := hP
      replace hD : va_D A [(a0, .inr (10, [.ref a1, .int i0, .int i1, .int i2, .int i3, .int i4, .int i5, .int i6])), (a1, .inl (cB, 1600, .inl xF0))] := hD
      refine lv_if_eq (tgt := 33) hx hb dX1_sortHere_28 (by decide) (fun c12 => ?_) (fun c12 => ?_)
      · rw [ki_eq] at c12
        refine lv_aload_n hx hb dX1_sortHere_33 rfl (lv_at hl 0 rfl) ?_
        refine va_ldcS hx hb hown hR74 dX1_sortHere_34 ?_
        have hPc := hP.sub (ws' := [(a0, .inr (10, [.ref a1, .int i0, .int i1, .int i2, .int i3, .int i4, .int i5, .int i6])), (a1, .inl (cB, 1600, .inl xF0))]) [0, 1] rfl
        have hDc := hD.sub (ws' := [(a0, .inr (10, [.ref a1, .int i0, .int i1, .int i2, .int i3, .int i4, .int i5, .int i6])), (a1, .inl (cB, 1600, .inl xF0))]) [0, 1] (by decide) rfl
        have hFc := va_free (wc := [(a0, .inr (10, [.ref a1, .int i0, .int i1, .int i2, .int i3, .int i4, .int i5, .int i6])), (a1, .inl (cB, 1600, .inl xF0))]) hD hS hA [0, 1] rfl
        refine va_calli (va_runV (As := [.ref sa74]) (rest := []) ⟨hx, hb, hml, hown, hwd⟩ (s_X10_isWord l dC dI cI cZ cB cJ cM cG a0 a1 i0 i1 i2 i3 i4 i5 i6 xF0 sa74 sav74 sn74 sf74 H.size (show (0 : Int) ≤ i0.toInt ∧ i0.toInt ≤ 1600 from p_0) (show (0 : Int) ≤ i4.toInt ∧ i4.toInt ≤ 1600 from p_1) (show (0 : Int) ≤ i5.toInt ∧ i5.toInt ≤ 1600 from p_2)) (cwV 1 hwd (gV kr23_9 kr19_19 kr19_20 kr5_12 kr19_21) rfl rfl rfl (by decide +kernel) ⟨Nat.le_of_ble_eq_true rfl, Nat.le_of_ble_eq_true rfl⟩) (kPreVX hPc hK hDc (NS_st _ _ _ _) hN74 hS hFc (ci := 10) (q0 := 0) rfl rfl) rfl rfl hl.1 rfl (lv_room (Nat.le_of_ble_eq_true rfl)) dX1_sortHere_36 ⟨Nat.le_of_ble_eq_true rfl, Nat.le_of_ble_eq_true rfl⟩) hS (fun q _ h => hFc q h) hFc (fun r13 u14 t H1 locs ht9 hvm hw hB hz1 hk1 hS => ?_)
        obtain ⟨hw15, -⟩ := hw
        replace hw15 : (0 : Int) ≤ r13.toInt ∧ r13.toInt ≤ 1 := hw15
        obtain ⟨hP1, hD1⟩ := hB
        rw [ht9] at hP1
        obtain ⟨hP, hD⟩ := va_join (wr := []) (w1 := [(a0, .inr (10, [.ref a1, .int i0, .int i1, .int i2, .int i3, .int i4, .int i5, .int i6])), (a1, .inl (cB, 1600, .inl xF0))]) hP hD [0, 1] [] rfl rfl (by decide) (by decide) hk1 hFc hP1 hD1
        generalize H1 = H at hP hS ⊢
        replace hP : va_P (dC, dI) vwCl [(a0, .inr (10, [.ref a1, .int i0, .int i1, .int i2, .int i3, .int i4, .int i5, .int i6])), (a1, .inl (cB, 1600, .inl xF0))] H := hP
        replace hD : va_D A [(a0, .inr (10, [.ref a1, .int i0, .int i1, .int i2, .int i3, .int i4, .int i5, .int i6])), (a1, .inl (cB, 1600, .inl xF0))] := hD
        refine lv_if_eq (tgt := 46) hx hb dX1_sortHere_39 (by decide) (fun c16 => ?_) (fun c16 => ?_)
        · rw [ki_eq] at c16
          refine lv_iconst (v := (-1)) hx hb dX1_sortHere_46 (by decide) ?_
          have hP9 := hP.sub (ws' := [(a0, .inr (10, [.ref a1, .int i0, .int i1, .int i2, .int i3, .int i4, .int i5, .int i6])), (a1, .inl (cB, 1600, .inl xF0))]) [0, 1] rfl
          have hD9 := hD.sub (ws' := [(a0, .inr (10, [.ref a1, .int i0, .int i1, .int i2, .int i3, .int i4, .int i5, .int i6])), (a1, .inl (cB, 1600, .inl xF0))]) [0, 1] (by decide) rfl
          rw [hQ]
          exact W.iret (v := (-1)) hx hb hr (fun t ht hW => ⟨⟨(-1), (), rfl, ⟨(show (-1 : Int) ≤ ((-1) : Int32).toInt ∧ ((-1) : Int32).toInt ≤ 3 from ⟨by omega, by omega⟩), trivial⟩, (by rw [ht]; exact hP9), hD9⟩, hS.F ht⟩) hS.2.2 dX1_sortHere_47
        · rw [ki_eq] at c16
          refine lv_iconst (v := 3) hx hb dX1_sortHere_42 (by decide) ?_
          refine lv_goto (tgt := 47) hx hb dX1_sortHere_43 (by decide) ?_
          have hP9 := hP.sub (ws' := [(a0, .inr (10, [.ref a1, .int i0, .int i1, .int i2, .int i3, .int i4, .int i5, .int i6])), (a1, .inl (cB, 1600, .inl xF0))]) [0, 1] rfl
          have hD9 := hD.sub (ws' := [(a0, .inr (10, [.ref a1, .int i0, .int i1, .int i2, .int i3, .int i4, .int i5, .int i6])), (a1, .inl (cB, 1600, .inl xF0))]) [0, 1] (by decide) rfl
          rw [hQ]
          exact W.iret (v := 3) hx hb hr (fun t ht hW => ⟨⟨3, (), rfl, ⟨(show (-1 : Int) ≤ (3 : Int32).toInt ∧ (3 : Int32).toInt ≤ 3 from ⟨by omega, by omega⟩), trivial⟩, (by rw [ht]; exact hP9), hD9⟩, hS.F ht⟩) hS.2.2 dX1_sortHere_47
      · rw [ki_eq] at c12
        refine lv_iconst (v := 2) hx hb dX1_sortHere_31 (by decide) ?_
        have hP9 := hP.sub (ws' := [(a0, .inr (10, [.ref a1, .int i0, .int i1, .int i2, .int i3, .int i4, .int i5, .int i6])), (a1, .inl (cB, 1600, .inl xF0))]) [0, 1] rfl
        have hD9 := hD.sub (ws' := [(a0, .inr (10, [.ref a1, .int i0, .int i1, .int i2, .int i3, .int i4, .int i5, .int i6])), (a1, .inl (cB, 1600, .inl xF0))]) [0, 1] (by decide) rfl
        rw [hQ]
        exact W.iret (v := 2) hx hb hr (fun t ht hW => ⟨⟨2, (), rfl, ⟨(show (-1 : Int) ≤ (2 : Int32).toInt ∧ (2 : Int32).toInt ≤ 3 from ⟨by omega, by omega⟩), trivial⟩, (by rw [ht]; exact hP9), hD9⟩, hS.F ht⟩) hS.2.2 dX1_sortHere_32
    · rw [ki_eq] at c8
      refine lv_iconst (v := 1) hx hb dX1_sortHere_20 (by decide) ?_
      have hP9 := hP.sub (ws' := [(a0, .inr (10, [.ref a1, .int i0, .int i1, .int i2, .int i3, .int i4, .int i5, .int i6])), (a1, .inl (cB, 1600, .inl xF0))]) [0, 1] rfl
      have hD9 := hD.sub (ws' := [(a0, .inr (10, [.ref a1, .int i0, .int i1, .int i2, .int i3, .int i4, .int i5, .int i6])), (a1, .inl (cB, 1600, .inl xF0))]) [0, 1] (by decide) rfl
      rw [hQ]
      exact W.iret (v := 1) hx hb hr (fun t ht hW => ⟨⟨1, (), rfl, ⟨(show (-1 : Int) ≤ (1 : Int32).toInt ∧ (1 : Int32).toInt ≤ 3 from ⟨by omega, by omega⟩), trivial⟩, (by rw [ht]; exact hP9), hD9⟩, hS.F ht⟩) hS.2.2 dX1_sortHere_21
  · rw [ki_eq] at c4
    refine lv_iconst (v := 0) hx hb dX1_sortHere_9 (by decide) ?_
    have hP9 := hP.sub (ws' := [(a0, .inr (10, [.ref a1, .int i0, .int i1, .int i2, .int i3, .int i4, .int i5, .int i6])), (a1, .inl (cB, 1600, .inl xF0))]) [0, 1] rfl
    have hD9 := hD.sub (ws' := [(a0, .inr (10, [.ref a1, .int i0, .int i1, .int i2, .int i3, .int i4, .int i5, .int i6])), (a1, .inl (cB, 1600, .inl xF0))]) [0, 1] (by decide) rfl
    rw [hQ]
    exact W.iret (v := 0) hx hb hr (fun t ht hW => ⟨⟨0, (), rfl, ⟨(show (-1 : Int) ≤ (0 : Int32).toInt ∧ (0 : Int32).toInt ≤ 3 from ⟨by omega, by omega⟩), trivial⟩, (by rw [ht]; exact hP9), hD9⟩, hS.F ht⟩) hS.2.2 dX1_sortHere_10
theorem dX1_readSprung_0 : decode cX1_readSprung 0 = .ok (.aload_n 0, 1) := by decide +kernel
theorem dX1_readSprung_1 : decode cX1_readSprung 1 = .ok (.getfield 18, 3) := by decide +kernel
theorem dX1_readSprung_4 : decode cX1_readSprung 4 = .ok (.aload_n 0, 1) := by decide +kernel
theorem dX1_readSprung_5 : decode cX1_readSprung 5 = .ok (.getfield 49, 3) := by decide +kernel
theorem dX1_readSprung_8 : decode cX1_readSprung 8 = .ok (.iload_n 2, 1) := by decide +kernel
theorem dX1_readSprung_9 : decode cX1_readSprung 9 = .ok (.ifCond .ne 7, 3) := by decide +kernel
theorem dX1_readSprung_12 : decode cX1_readSprung 12 = .ok (.iconst 0, 1) := by decide +kernel
theorem dX1_readSprung_13 : decode cX1_readSprung 13 = .ok (.goto 10, 3) := by decide +kernel
theorem dX1_readSprung_16 : decode cX1_readSprung 16 = .ok (.aload_n 1, 1) := by decide +kernel
theorem dX1_readSprung_17 : decode cX1_readSprung 17 = .ok (.iconst 0, 1) := by decide +kernel
theorem dX1_readSprung_18 : decode cX1_readSprung 18 = .ok (.bipush 9, 2) := by decide +kernel
theorem dX1_readSprung_20 : decode cX1_readSprung 20 = .ok (.invokevirtual 76, 3) := by decide +kernel
theorem dX1_readSprung_23 : decode cX1_readSprung 23 = .ok (.iastore, 1) := by decide +kernel
theorem dX1_readSprung_24 : decode cX1_readSprung 24 = .ok (.aload_n 0, 1) := by decide +kernel
theorem dX1_readSprung_25 : decode cX1_readSprung 25 = .ok (.getfield 21, 3) := by decide +kernel
theorem dX1_readSprung_28 : decode cX1_readSprung 28 = .ok (.aload_n 0, 1) := by decide +kernel
theorem dX1_readSprung_29 : decode cX1_readSprung 29 = .ok (.getfield 49, 3) := by decide +kernel
theorem dX1_readSprung_32 : decode cX1_readSprung 32 = .ok (.iconst 1, 1) := by decide +kernel
theorem dX1_readSprung_33 : decode cX1_readSprung 33 = .ok (.iastore, 1) := by decide +kernel
theorem dX1_readSprung_34 : decode cX1_readSprung 34 = .ok (.aload_n 1, 1) := by decide +kernel
theorem dX1_readSprung_35 : decode cX1_readSprung 35 = .ok (.ldc 80, 2) := by decide +kernel
theorem dX1_readSprung_37 : decode cX1_readSprung 37 = .ok (.invokevirtual 81, 3) := by decide +kernel
theorem dX1_readSprung_40 : decode cX1_readSprung 40 = .ok (.aload_n 0, 1) := by decide +kernel
theorem dX1_readSprung_41 : decode cX1_readSprung 41 = .ok (.getfield 15, 3) := by decide +kernel
theorem dX1_readSprung_44 : decode cX1_readSprung 44 = .ok (.aload_n 0, 1) := by decide +kernel
theorem dX1_readSprung_45 : decode cX1_readSprung 45 = .ok (.getfield 49, 3) := by decide +kernel
theorem dX1_readSprung_48 : decode cX1_readSprung 48 = .ok (.aload_n 1, 1) := by decide +kernel
theorem dX1_readSprung_49 : decode cX1_readSprung 49 = .ok (.iconst 0, 1) := by decide +kernel
theorem dX1_readSprung_50 : decode cX1_readSprung 50 = .ok (.iload_n 3, 1) := by decide +kernel
theorem dX1_readSprung_51 : decode cX1_readSprung 51 = .ok (.iconst 1, 1) := by decide +kernel
theorem dX1_readSprung_52 : decode cX1_readSprung 52 = .ok (.isub, 1) := by decide +kernel
theorem dX1_readSprung_53 : decode cX1_readSprung 53 = .ok (.invokevirtual 76, 3) := by decide +kernel
theorem dX1_readSprung_56 : decode cX1_readSprung 56 = .ok (.iastore, 1) := by decide +kernel
theorem dX1_readSprung_57 : decode cX1_readSprung 57 = .ok (.aload_n 1, 1) := by decide +kernel
theorem dX1_readSprung_58 : decode cX1_readSprung 58 = .ok (.ldc 85, 2) := by decide +kernel
theorem dX1_readSprung_60 : decode cX1_readSprung 60 = .ok (.invokevirtual 81, 3) := by decide +kernel
theorem dX1_readSprung_63 : decode cX1_readSprung 63 = .ok (.aload_n 0, 1) := by decide +kernel
theorem dX1_readSprung_64 : decode cX1_readSprung 64 = .ok (.getfield 24, 3) := by decide +kernel
theorem dX1_readSprung_67 : decode cX1_readSprung 67 = .ok (.aload_n 0, 1) := by decide +kernel
theorem dX1_readSprung_68 : decode cX1_readSprung 68 = .ok (.getfield 49, 3) := by decide +kernel
theorem dX1_readSprung_71 : decode cX1_readSprung 71 = .ok (.aload_n 1, 1) := by decide +kernel
theorem dX1_readSprung_72 : decode cX1_readSprung 72 = .ok (.iconst 1, 1) := by decide +kernel
theorem dX1_readSprung_73 : decode cX1_readSprung 73 = .ok (.bipush 60, 2) := by decide +kernel
theorem dX1_readSprung_75 : decode cX1_readSprung 75 = .ok (.invokevirtual 76, 3) := by decide +kernel
theorem dX1_readSprung_78 : decode cX1_readSprung 78 = .ok (.iastore, 1) := by decide +kernel
theorem dX1_readSprung_79 : decode cX1_readSprung 79 = .ok (.aload_n 1, 1) := by decide +kernel
theorem dX1_readSprung_80 : decode cX1_readSprung 80 = .ok (.ldc 86, 2) := by decide +kernel
theorem dX1_readSprung_82 : decode cX1_readSprung 82 = .ok (.invokevirtual 81, 3) := by decide +kernel
theorem dX1_readSprung_85 : decode cX1_readSprung 85 = .ok (.aload_n 0, 1) := by decide +kernel
theorem dX1_readSprung_86 : decode cX1_readSprung 86 = .ok (.getfield 27, 3) := by decide +kernel
theorem dX1_readSprung_89 : decode cX1_readSprung 89 = .ok (.aload_n 0, 1) := by decide +kernel
theorem dX1_readSprung_90 : decode cX1_readSprung 90 = .ok (.getfield 49, 3) := by decide +kernel
theorem dX1_readSprung_93 : decode cX1_readSprung 93 = .ok (.aload_n 1, 1) := by decide +kernel
theorem dX1_readSprung_94 : decode cX1_readSprung 94 = .ok (.iconst 0, 1) := by decide +kernel
theorem dX1_readSprung_95 : decode cX1_readSprung 95 = .ok (.bipush 20, 2) := by decide +kernel
theorem dX1_readSprung_97 : decode cX1_readSprung 97 = .ok (.invokevirtual 76, 3) := by decide +kernel
theorem dX1_readSprung_100 : decode cX1_readSprung 100 = .ok (.iastore, 1) := by decide +kernel
theorem dX1_readSprung_101 : decode cX1_readSprung 101 = .ok (.return_, 1) := by decide +kernel
set_option maxHeartbeats 4000000 in
set_option maxRecDepth 100000 in
theorem s_X1_readSprung (l : Launch) (dC : Nat → ClassId) (dI : Nat → Nat → Nat) (cI cZ cB cJ cM cG : ClassId) (a0 a1 a2 a3 a4 a5 a6 a7 a8 a9 a10 a11 : Nat) (i0 i1 i2 i3 i4 i5 i6 i7 : Int32) (xF1 xF2 xF3 xF4 xF5 xF9 : Nat → Int32) (p1 p2 : Int32) (sz : Nat) (p_0 : rng xF2 10 0 9) (p_1 : (0 : Int) ≤ i1.toInt ∧ i1.toInt ≤ 1600) (p_2 : (0 : Int) ≤ i5.toInt ∧ i5.toInt ≤ 1600) (p_3 : (0 : Int) ≤ i6.toInt ∧ i6.toInt ≤ 1600) (p_4 : (0 : Int) ≤ i0.toInt ∧ i0.toInt ≤ 9) : Met l yX1_readSprung (kw yX1_readSprung cX1_readSprung 4 none) ({ frames := 6, cells := 0, slots := 0, locals := 128 } : Room) (va_Pc [.ref a0, .ref a10, .int p1, .int p2] (kPreX dC dI [(cI, .int), (cZ, .boolean), (cB, .byte), (cJ, .long), (cM, .object RX2), (cG, .array .int)] [(a0, .inr (1, [.int i0, .ref a1, .ref a2, .ref a3, .ref a4, .ref a5, .ref a6, .ref a7, .ref a8, .ref a9])), (a2, .inl (cI, 10, .inl xF1)), (a3, .inl (cI, 10, .inl xF2)), (a4, .inl (cI, 10, .inl xF3)), (a5, .inl (cI, 10, .inl xF4)), (a6, .inl (cI, 10, .inl xF5)), (a10, .inr (10, [.ref a11, .int i1, .int i2, .int i3, .int i4, .int i5, .int i6, .int i7])), (a11, .inl (cB, 1600, .inl xF9))] sz NT)) (va_Qv (fun (u9 : (Nat → Int32) × (Nat → Nat → Int32) × (Nat → Nat → Int64)) => (rng (u9.2.1 1) 10 0 9) ∧ ((0 : Int) ≤ (u9.1 3).toInt ∧ (u9.1 3).toInt ≤ 1600) ∧ ((0 : Int) ≤ (u9.1 4).toInt ∧ (u9.1 4).toInt ≤ 1600) ∧ True) (fun u9 t => va_P (dC, dI) vwCl [(a0, .inr (1, [.int i0, .ref a1, .ref a2, .ref a3, .ref a4, .ref a5, .ref a6, .ref a7, .ref a8, .ref a9])), (a2, .inl (cI, 10, .inl (u9.2.1 0))), (a3, .inl (cI, 10, .inl (u9.2.1 1))), (a4, .inl (cI, 10, .inl (u9.2.1 2))), (a5, .inl (cI, 10, .inl (u9.2.1 3))), (a6, .inl (cI, 10, .inl (u9.2.1 4))), (a10, .inr (10, [.ref a11, .int i1, .int (u9.1 0), .int (u9.1 1), .int (u9.1 2), .int (u9.1 3), .int (u9.1 4), .int (u9.1 5)])), (a11, .inl (cB, 1600, .inl xF9))] t.heap ∧ va_D (va_A [(a0, .inr (1, [.int i0, .ref a1, .ref a2, .ref a3, .ref a4, .ref a5, .ref a6, .ref a7, .ref a8, .ref a9])), (a2, .inl (cI, 10, .inl xF1)), (a3, .inl (cI, 10, .inl xF2)), (a4, .inl (cI, 10, .inl xF3)), (a5, .inl (cI, 10, .inl xF4)), (a6, .inl (cI, 10, .inl xF5)), (a10, .inr (10, [.ref a11, .int i1, .int i2, .int i3, .int i4, .int i5, .int i6, .int i7])), (a11, .inl (cB, 1600, .inl xF9))] sz) [(a0, .inr (1, [.int i0, .ref a1, .ref a2, .ref a3, .ref a4, .ref a5, .ref a6, .ref a7, .ref a8, .ref a9])), (a2, .inl (cI, 10, .inl (u9.2.1 0))), (a3, .inl (cI, 10, .inl (u9.2.1 1))), (a4, .inl (cI, 10, .inl (u9.2.1 2))), (a5, .inl (cI, 10, .inl (u9.2.1 3))), (a6, .inl (cI, 10, .inl (u9.2.1 4))), (a10, .inr (10, [.ref a11, .int i1, .int (u9.1 0), .int (u9.1 1), .int (u9.1 2), .int (u9.1 3), .int (u9.1 4), .int (u9.1 5)])), (a11, .inl (cB, 1600, .inl xF9))]) (va_A [(a0, .inr (1, [.int i0, .ref a1, .ref a2, .ref a3, .ref a4, .ref a5, .ref a6, .ref a7, .ref a8, .ref a9])), (a2, .inl (cI, 10, .inl xF1)), (a3, .inl (cI, 10, .inl xF2)), (a4, .inl (cI, 10, .inl xF3)), (a5, .inl (cI, 10, .inl xF4)), (a6, .inl (cI, 10, .inl xF5)), (a10, .inr (10, [.ref a11, .int i1, .int i2, .int i3, .int i4, .int i5, .int i6, .int i7])), (a11, .inl (cB, 1600, .inl xF9))] sz)) 0 0 (va_A [(a0, .inr (1, [.int i0, .ref a1, .ref a2, .ref a3, .ref a4, .ref a5, .ref a6, .ref a7, .ref a8, .ref a9])), (a2, .inl (cI, 10, .inl xF1)), (a3, .inl (cI, 10, .inl xF2)), (a4, .inl (cI, 10, .inl xF3)), (a5, .inl (cI, 10, .inl xF4)), (a6, .inl (cI, 10, .inl xF5)), (a10, .inr (10, [.ref a11, .int i1, .int i2, .int i3, .int i4, .int i5, .int i6, .int i7])), (a11, .inl (cB, 1600, .inl xF9))] sz) := by
  refine kEnterX (by decide) (Nat.le_of_ble_eq_true rfl) ?_
  intro p e s m below meth c ls hx hb hr hml hown hlocks hin hwd hsz hP hK hD hN hl
  subst hsz
  generalize hAe : va_A [(a0, .inr (1, [.int i0, .ref a1, .ref a2, .ref a3, .ref a4, .ref a5, .ref a6, .ref a7, .ref a8, .ref a9])), (a2, .inl (cI, 10, .inl xF1)), (a3, .inl (cI, 10, .inl xF2)), (a4, .inl (cI, 10, .inl xF3)), (a5, .inl (cI, 10, .inl xF4)), (a6, .inl (cI, 10, .inl xF5)), (a10, .inr (10, [.ref a11, .int i1, .int i2, .int i3, .int i4, .int i5, .int i6, .int i7])), (a11, .inl (cB, 1600, .inl xF9))] s.heap.size = A at hD hN ⊢
  have hA : ∀ q : Nat, s.heap.size ≤ q → A q := fun q h => by rw [← hAe]; exact Or.inr h
  have hS : va_S A s.heap s.heap [] := va_S.rf
  have hl : lv_has ls 4 [(0, .ref a0), (1, .ref a10), (2, .int p1), (3, .int p2)] := hl
  obtain ⟨Q, hQ⟩ : ∃ Q, Q = MQ below (va_Qv (fun (u9 : (Nat → Int32) × (Nat → Nat → Int32) × (Nat → Nat → Int64)) => (rng (u9.2.1 1) 10 0 9) ∧ ((0 : Int) ≤ (u9.1 3).toInt ∧ (u9.1 3).toInt ≤ 1600) ∧ ((0 : Int) ≤ (u9.1 4).toInt ∧ (u9.1 4).toInt ≤ 1600) ∧ True) (fun u9 t => va_P (dC, dI) vwCl [(a0, .inr (1, [.int i0, .ref a1, .ref a2, .ref a3, .ref a4, .ref a5, .ref a6, .ref a7, .ref a8, .ref a9])), (a2, .inl (cI, 10, .inl (u9.2.1 0))), (a3, .inl (cI, 10, .inl (u9.2.1 1))), (a4, .inl (cI, 10, .inl (u9.2.1 2))), (a5, .inl (cI, 10, .inl (u9.2.1 3))), (a6, .inl (cI, 10, .inl (u9.2.1 4))), (a10, .inr (10, [.ref a11, .int i1, .int (u9.1 0), .int (u9.1 1), .int (u9.1 2), .int (u9.1 3), .int (u9.1 4), .int (u9.1 5)])), (a11, .inl (cB, 1600, .inl xF9))] t.heap ∧ va_D A [(a0, .inr (1, [.int i0, .ref a1, .ref a2, .ref a3, .ref a4, .ref a5, .ref a6, .ref a7, .ref a8, .ref a9])), (a2, .inl (cI, 10, .inl (u9.2.1 0))), (a3, .inl (cI, 10, .inl (u9.2.1 1))), (a4, .inl (cI, 10, .inl (u9.2.1 2))), (a5, .inl (cI, 10, .inl (u9.2.1 3))), (a6, .inl (cI, 10, .inl (u9.2.1 4))), (a10, .inr (10, [.ref a11, .int i1, .int (u9.1 0), .int (u9.1 1), .int (u9.1 2), .int (u9.1 3), .int (u9.1 4), .int (u9.1 5)])), (a11, .inl (cB, 1600, .inl xF9))]) A) ([.ref a0, .ref a10, .int p1, .int p2] : List Value).toArray s 0 0 A := ⟨_, rfl⟩
  rw [← hQ]
  have k0 : (0 : Int32).toInt = 0 := by decide
  have k1 : (1 : Int32).toInt = 1 := by decide
  have k9 : (9 : Int32).toInt = 9 := by decide
  have k20 : (20 : Int32).toInt = 20 := by decide
  have k60 : (60 : Int32).toInt = 60 := by decide
  obtain ⟨sa80, sav80, sn80, sf80, hsn80, hR80, hks80⟩ := hN.2 _ rf_RX1_80
  have hN80 : NS sa80 sav80 sn80 sf80 A s := ⟨hN.1, hsn80.1, hks80⟩
  obtain ⟨sa85, sav85, sn85, sf85, hsn85, hR85, hks85⟩ := hN.2 _ rf_RX1_85
  have hN85 : NS sa85 sav85 sn85 sf85 A s := ⟨hN.1, hsn85.1, hks85⟩
  obtain ⟨sa86, sav86, sn86, sf86, hsn86, hR86, hks86⟩ := hN.2 _ rf_RX1_86
  have hN86 : NS sa86 sav86 sn86 sf86 A s := ⟨hN.1, hsn86.1, hks86⟩
  refine lv_aload_n hx hb dX1_readSprung_0 rfl (lv_at hl 0 rfl) ?_
  refine va_get (D := (dC, dI)) (ci := 1) (v := .ref a3) (C := RX1) (T := TX1) (N := 10) hx hb hwd inlX1 hown hK hP 0 rfl rfl 3 (by decide) (hwd _ kr12_20) (fun _ h9 => h9) rfl dX1_readSprung_1 ?_
  refine lv_aload_n hx hb dX1_readSprung_4 rfl (lv_at hl 0 rfl) ?_
  refine va_get (D := (dC, dI)) (ci := 1) (v := .int i0) (C := RX1) (T := TX1) (N := 10) hx hb hwd inlX1 hown hK hP 0 rfl rfl 0 (by decide) (hwd _ kr12_9) (fun _ h9 => h9) rfl dX1_readSprung_5 ?_
  refine lv_iload_n hx hb dX1_readSprung_8 rfl (lv_at hl 2 rfl) ?_
  have jp1 : ∀ (H : Heap) (locs : List Loc) (ls : Array Slot) (z2_1 : Int32) (v1_1 : Int32) (v2_1 : Int32) (v3_1 : Int32) (v4_1 : Int32) (v5_1 : Int32) (v6_1 : Int32), ((0 : Int) ≤ z2_1.toInt ∧ z2_1.toInt ≤ 9) → ((0 : Int) ≤ v4_1.toInt ∧ v4_1.toInt ≤ 1600) → ((0 : Int) ≤ v5_1.toInt ∧ v5_1.toInt ≤ 1600) → va_P (dC, dI) vwCl [(a0, .inr (1, [.int i0, .ref a1, .ref a2, .ref a3, .ref a4, .ref a5, .ref a6, .ref a7, .ref a8, .ref a9])), (a2, .inl (cI, 10, .inl xF1)), (a3, .inl (cI, 10, .inl xF2)), (a4, .inl (cI, 10, .inl xF3)), (a5, .inl (cI, 10, .inl xF4)), (a6, .inl (cI, 10, .inl xF5)), (a10, .inr (10, [.ref a11, .int i1, .int v1_1, .int v2_1, .int v3_1, .int v4_1, .int v5_1, .int v6_1])), (a11, .inl (cB, 1600, .inl xF9))] H → va_D A [(a0, .inr (1, [.int i0, .ref a1, .ref a2, .ref a3, .ref a4, .ref a5, .ref a6, .ref a7, .ref a8, .ref a9])), (a2, .inl (cI, 10, .inl xF1)), (a3, .inl (cI, 10, .inl xF2)), (a4, .inl (cI, 10, .inl xF3)), (a5, .inl (cI, 10, .inl xF4)), (a6, .inl (cI, 10, .inl xF5)), (a10, .inr (10, [.ref a11, .int i1, .int v1_1, .int v2_1, .int v3_1, .int v4_1, .int v5_1, .int v6_1])), (a11, .inl (cB, 1600, .inl xF9))] → va_S A s.heap H locs → lv_has ls 4 [(0, .ref a0), (1, .ref a10), (2, .int p1), (3, .int p2)] → W p l e ({ frames := 6, cells := 0, slots := 0, locals := 128 } : Room) s m ([.ref a0, .ref a10, .int p1, .int p2] : List Value).toArray below meth c H locs 0 0 Q (F0 m 23 ls [.int z2_1, .int i0, .ref a3]) := by
    intro H locs ls z2_1 v1_1 v2_1 v3_1 v4_1 v5_1 v6_1 hr_z2_1 hr_v4_1 hr_v5_1 hP hD hS hl
    refine va_iast hx hb hK hP hD hS 2 0 rfl rfl (vp_of (by omega) (by omega)) dX1_readSprung_23 (fun H locs hP hD hS => ?_)
    obtain ⟨f9, ef9⟩ : ∃ f, f = upd xF2 i0.toNatClampNeg z2_1 := ⟨_, rfl⟩
    have rf9 : rng f9 10 0 9 := by rw [ef9]; exact rng_upd (rng_mono p_0 (by omega) (by omega)) (by omega) (by omega)
    replace hP : va_P (dC, dI) vwCl [(a0, .inr (1, [.int i0, .ref a1, .ref a2, .ref a3, .ref a4, .ref a5, .ref a6, .ref a7, .ref a8, .ref a9])), (a2, .inl (cI, 10, .inl xF1)), (a3, .inl (cI, 10, .inl f9)), (a4, .inl (cI, 10, .inl xF3)), (a5, .inl (cI, 10, .inl xF4)), (a6, .inl (cI, 10, .inl xF5)), (a10, .inr (10, [.ref a11, .int i1, .int v1_1, .int v2_1, .int v3_1, .int v4_1, .int v5_1, .int v6_1])), (a11, .inl (cB, 1600, .inl xF9))] H := by rw [ef9]; exact hP
    replace hD : va_D A [(a0, .inr (1, [.int i0, .ref a1, .ref a2, .ref a3, .ref a4, .ref a5, .ref a6, .ref a7, .ref a8, .ref a9])), (a2, .inl (cI, 10, .inl xF1)), (a3, .inl (cI, 10, .inl f9)), (a4, .inl (cI, 10, .inl xF3)), (a5, .inl (cI, 10, .inl xF4)), (a6, .inl (cI, 10, .inl xF5)), (a10, .inr (10, [.ref a11, .int i1, .int v1_1, .int v2_1, .int v3_1, .int v4_1, .int v5_1, .int v6_1])), (a11, .inl (cB, 1600, .inl xF9))] := by rw [ef9]; exact hD
    refine lv_aload_n hx hb dX1_readSprung_24 rfl (lv_at hl 0 rfl) ?_
    refine va_get (D := (dC, dI)) (ci := 1) (v := .ref a4) (C := RX1) (T := TX1) (N := 10) hx hb hwd inlX1 hown hK hP 0 rfl rfl 4 (by decide) (hwd _ kr12_22) (fun _ h9 => h9) rfl dX1_readSprung_25 ?_
    refine lv_aload_n hx hb dX1_readSprung_28 rfl (lv_at hl 0 rfl) ?_
    refine va_get (D := (dC, dI)) (ci := 1) (v := .int i0) (C := RX1) (T := TX1) (N := 10) hx hb hwd inlX1 hown hK hP 0 rfl rfl 0 (by decide) (hwd _ kr12_9) (fun _ h9 => h9) rfl dX1_readSprung_29 ?_
    refine lv_iconst (v := 1) hx hb dX1_readSprung_32 (by decide) ?_
    refine va_iast hx hb hK hP hD hS 3 0 rfl rfl (vp_of (by omega) (by omega)) dX1_readSprung_33 (fun H locs hP hD hS => ?_)
    obtain ⟨f10, ef10⟩ : ∃ f, f = upd xF3 i0.toNatClampNeg (1 : Int32) := ⟨_, rfl⟩
    replace hP : va_P (dC, dI) vwCl [(a0, .inr (1, [.int i0, .ref a1, .ref a2, .ref a3, .ref a4, .ref a5, .ref a6, .ref a7, .ref a8, .ref a9])), (a2, .inl (cI, 10, .inl xF1)), (a3, .inl (cI, 10, .inl f9)), (a4, .inl (cI, 10, .inl f10)), (a5, .inl (cI, 10, .inl xF4)), (a6, .inl (cI, 10, .inl xF5)), (a10, .inr (10, [.ref a11, .int i1, .int v1_1, .int v2_1, .int v3_1, .int v4_1, .int v5_1, .int v6_1])), (a11, .inl (cB, 1600, .inl xF9))] H := by rw [ef10]; exact hP
    replace hD : va_D A [(a0, .inr (1, [.int i0, .ref a1, .ref a2, .ref a3, .ref a4, .ref a5, .ref a6, .ref a7, .ref a8, .ref a9])), (a2, .inl (cI, 10, .inl xF1)), (a3, .inl (cI, 10, .inl f9)), (a4, .inl (cI, 10, .inl f10)), (a5, .inl (cI, 10, .inl xF4)), (a6, .inl (cI, 10, .inl xF5)), (a10, .inr (10, [.ref a11, .int i1, .int v1_1, .int v2_1, .int v3_1, .int v4_1, .int v5_1, .int v6_1])), (a11, .inl (cB, 1600, .inl xF9))] := by rw [ef10]; exact hD
    refine lv_aload_n hx hb dX1_readSprung_34 rfl (lv_at hl 1 rfl) ?_
    refine va_ldcS hx hb hown hR80 dX1_readSprung_35 ?_
    have hPc := hP.sub (ws' := [(a10, .inr (10, [.ref a11, .int i1, .int v1_1, .int v2_1, .int v3_1, .int v4_1, .int v5_1, .int v6_1])), (a11, .inl (cB, 1600, .inl xF9))]) [6, 7] rfl
    have hDc := hD.sub (ws' := [(a10, .inr (10, [.ref a11, .int i1, .int v1_1, .int v2_1, .int v3_1, .int v4_1, .int v5_1, .int v6_1])), (a11, .inl (cB, 1600, .inl xF9))]) [6, 7] (by decide) rfl
    have hFc := va_free (wc := [(a10, .inr (10, [.ref a11, .int i1, .int v1_1, .int v2_1, .int v3_1, .int v4_1, .int v5_1, .int v6_1])), (a11, .inl (cB, 1600, .inl xF9))]) hD hS hA [6, 7] rfl
    refine va_callv (va_runV (As := [.ref sa80]) (rest := []) ⟨hx, hb, hml, hown, hwd⟩ (s_X10_takeWord l dC dI cI cZ cB cJ cM cG a10 a11 i1 v1_1 v2_1 v3_1 v4_1 v5_1 v6_1 xF9 sa80 sav80 sn80 sf80 H.size (show (0 : Int) ≤ i1.toInt ∧ i1.toInt ≤ 1600 from p_1) (show (0 : Int) ≤ v4_1.toInt ∧ v4_1.toInt ≤ 1600 from ⟨by omega, by omega⟩) (show (0 : Int) ≤ v5_1.toInt ∧ v5_1.toInt ≤ 1600 from ⟨by omega, by omega⟩)) (cwV 1 hwd (gV kr23_15 kr19_15 kr19_16 kr5_12 kr19_17) rfl rfl rfl (by decide +kernel) ⟨Nat.le_of_ble_eq_true rfl, Nat.le_of_ble_eq_true rfl⟩) (kPreVX hPc hK hDc (NS_st _ _ _ _) hN80 hS hFc (ci := 10) (q0 := 0) rfl rfl) rfl rfl hl.1 rfl (lv_room (Nat.le_of_ble_eq_true rfl)) dX1_readSprung_37 ⟨Nat.le_of_ble_eq_true rfl, Nat.le_of_ble_eq_true rfl⟩) hS (fun q _ h => hFc q h) hFc (fun u12 t H1 locs ht9 hvm hw hB hz1 hk1 hS => ?_)
    obtain ⟨u13, U13, V13⟩ := u12
    obtain ⟨hw14, hw15, -⟩ := hw
    replace hw14 : (0 : Int) ≤ (u13 3).toInt ∧ (u13 3).toInt ≤ 1600 := hw14
    replace hw15 : (0 : Int) ≤ (u13 4).toInt ∧ (u13 4).toInt ≤ 1600 := hw15
    obtain ⟨hP1, hD1⟩ := hB
    rw [ht9] at hP1
    obtain ⟨hP, hD⟩ := va_join (wr := [(a0, .inr (1, [.int i0, .ref a1, .ref a2, .ref a3, .ref a4, .ref a5, .ref a6, .ref a7, .ref a8, .ref a9])), (a2, .inl (cI, 10, .inl xF1)), (a3, .inl (cI, 10, .inl f9)), (a4, .inl (cI, 10, .inl f10)), (a5, .inl (cI, 10, .inl xF4)), (a6, .inl (cI, 10, .inl xF5))]) (w1 := [(a10, .inr (10, [.ref a11, .int i1, .int (u13 0), .int (u13 1), .int (u13 2), .int (u13 3), .int (u13 4), .int (u13 5)])), (a11, .inl (cB, 1600, .inl xF9))]) hP hD [6, 7] [0, 1, 2, 3, 4, 5] rfl rfl (by decide) (by decide) hk1 hFc hP1 hD1
    generalize H1 = H at hP hS ⊢
    replace hP : va_P (dC, dI) vwCl [(a0, .inr (1, [.int i0, .ref a1, .ref a2, .ref a3, .ref a4, .ref a5, .ref a6, .ref a7, .ref a8, .ref a9])), (a2, .inl (cI, 10, .inl xF1)), (a3, .inl (cI, 10, .inl f9)), (a4, .inl (cI, 10, .inl f10)), (a5, .inl (cI, 10, .inl xF4)), (a6, .inl (cI, 10, .inl xF5)), (a10, .inr (10, [.ref a11, .int i1, .int (u13 0), .int (u13 1), .int (u13 2), .int (u13 3), .int (u13 4), .int (u13 5)])), (a11, .inl (cB, 1600, .inl xF9))] H := hP
    replace hD : va_D A [(a0, .inr (1, [.int i0, .ref a1, .ref a2, .ref a3, .ref a4, .ref a5, .ref a6, .ref a7, .ref a8, .ref a9])), (a2, .inl (cI, 10, .inl xF1)), (a3, .inl (cI, 10, .inl f9)), (a4, .inl (cI, 10, .inl f10)), (a5, .inl (cI, 10, .inl xF4)), (a6, .inl (cI, 10, .inl xF5)), (a10, .inr (10, [.ref a11, .int i1, .int (u13 0), .int (u13 1), .int (u13 2), .int (u13 3), .int (u13 4), .int (u13 5)])), (a11, .inl (cB, 1600, .inl xF9))] := hD
    refine lv_aload_n hx hb dX1_readSprung_40 rfl (lv_at hl 0 rfl) ?_
    refine va_get (D := (dC, dI)) (ci := 1) (v := .ref a2) (C := RX1) (T := TX1) (N := 10) hx hb hwd inlX1 hown hK hP 0 rfl rfl 2 (by decide) (hwd _ kr12_17) (fun _ h9 => h9) rfl dX1_readSprung_41 ?_
    refine lv_aload_n hx hb dX1_readSprung_44 rfl (lv_at hl 0 rfl) ?_
    refine va_get (D := (dC, dI)) (ci := 1) (v := .int i0) (C := RX1) (T := TX1) (N := 10) hx hb hwd inlX1 hown hK hP 0 rfl rfl 0 (by decide) (hwd _ kr12_9) (fun _ h9 => h9) rfl dX1_readSprung_45 ?_
    refine lv_aload_n hx hb dX1_readSprung_48 rfl (lv_at hl 1 rfl) ?_
    refine lv_iconst (v := 0) hx hb dX1_readSprung_49 (by decide) ?_
    refine lv_iload_n hx hb dX1_readSprung_50 rfl (lv_at hl 3 rfl) ?_
    refine lv_iconst (v := 1) hx hb dX1_readSprung_51 (by decide) ?_
    refine lv_isub hx hb dX1_readSprung_52 ?_
    refine lv_topi (fun x16 ex16 => ?_)
    have hPc := hP.sub (ws' := [(a10, .inr (10, [.ref a11, .int i1, .int (u13 0), .int (u13 1), .int (u13 2), .int (u13 3), .int (u13 4), .int (u13 5)])), (a11, .inl (cB, 1600, .inl xF9))]) [6, 7] rfl
    have hDc := hD.sub (ws' := [(a10, .inr (10, [.ref a11, .int i1, .int (u13 0), .int (u13 1), .int (u13 2), .int (u13 3), .int (u13 4), .int (u13 5)])), (a11, .inl (cB, 1600, .inl xF9))]) [6, 7] (by decide) rfl
    have hFc := va_free (wc := [(a10, .inr (10, [.ref a11, .int i1, .int (u13 0), .int (u13 1), .int (u13 2), .int (u13 3), .int (u13 4), .int (u13 5)])), (a11, .inl (cB, 1600, .inl xF9))]) hD hS hA [6, 7] rfl
    refine va_calli (va_runV (As := [.int 0, .int x16]) (rest := [.int i0, .ref a2]) ⟨hx, hb, hml, hown, hwd⟩ (s_X10_takeNumber l dC dI cI cZ cB cJ cM cG a10 a11 i1 (u13 0) (u13 1) (u13 2) (u13 3) (u13 4) (u13 5) xF9 0 x16 H.size (show (0 : Int) ≤ i1.toInt ∧ i1.toInt ≤ 1600 from p_1) (show (0 : Int) ≤ (u13 3).toInt ∧ (u13 3).toInt ≤ 1600 from hw14) (show (0 : Int) ≤ (u13 4).toInt ∧ (u13 4).toInt ≤ 1600 from hw15)) (cwV 2 hwd (gV kr23_16 kr21_22 kr21_23 kr5_12 kr22_0) rfl rfl rfl (by decide +kernel) ⟨Nat.le_of_ble_eq_true rfl, Nat.le_of_ble_eq_true rfl⟩) (kPreV hPc hK hDc (ci := 10) (q0 := 0) rfl rfl) rfl rfl hl.1 rfl (lv_room (Nat.le_of_ble_eq_true rfl)) dX1_readSprung_53 ⟨Nat.le_of_ble_eq_true rfl, Nat.le_of_ble_eq_true rfl⟩) hS (fun q _ h => hFc q h) hFc (fun r17 u18 t H1 locs ht9 hvm hw hB hz1 hk1 hS => ?_)
    obtain ⟨u19, U19, V19⟩ := u18
    obtain ⟨hw20, hw21, hw22, -⟩ := hw
    replace hw20 : (0 : Int32).toInt ≤ r17.toInt ∧ (r17.toInt ≤ (0 : Int32).toInt ∨ r17.toInt ≤ x16.toInt) := hw20
    replace hw21 : (0 : Int) ≤ (u19 3).toInt ∧ (u19 3).toInt ≤ 1600 := hw21
    replace hw22 : (0 : Int) ≤ (u19 4).toInt ∧ (u19 4).toInt ≤ 1600 := hw22
    obtain ⟨hP1, hD1⟩ := hB
    rw [ht9] at hP1
    obtain ⟨hP, hD⟩ := va_join (wr := [(a0, .inr (1, [.int i0, .ref a1, .ref a2, .ref a3, .ref a4, .ref a5, .ref a6, .ref a7, .ref a8, .ref a9])), (a2, .inl (cI, 10, .inl xF1)), (a3, .inl (cI, 10, .inl f9)), (a4, .inl (cI, 10, .inl f10)), (a5, .inl (cI, 10, .inl xF4)), (a6, .inl (cI, 10, .inl xF5))]) (w1 := [(a10, .inr (10, [.ref a11, .int i1, .int (u19 0), .int (u19 1), .int (u19 2), .int (u19 3), .int (u19 4), .int (u19 5)])), (a11, .inl (cB, 1600, .inl xF9))]) hP hD [6, 7] [0, 1, 2, 3, 4, 5] rfl rfl (by decide) (by decide) hk1 hFc hP1 hD1
    generalize H1 = H at hP hS ⊢
    replace hP : va_P (dC, dI) vwCl [(a0, .inr (1, [.int i0, .ref a1, .ref a2, .ref a3, .ref a4, .ref a5, .ref a6, .ref a7, .ref a8, .ref a9])), (a2, .inl (cI, 10, .inl xF1)), (a3, .inl (cI, 10, .inl f9)), (a4, .inl (cI, 10, .inl f10)), (a5, .inl (cI, 10, .inl xF4)), (a6, .inl (cI, 10, .inl xF5)), (a10, .inr (10, [.ref a11, .int i1, .int (u19 0), .int (u19 1), .int (u19 2), .int (u19 3), .int (u19 4), .int (u19 5)])), (a11, .inl (cB, 1600, .inl xF9))] H := hP
    replace hD : va_D A [(a0, .inr (1, [.int i0, .ref a1, .ref a2, .ref a3, .ref a4, .ref a5, .ref a6, .ref a7, .ref a8, .ref a9])), (a2, .inl (cI, 10, .inl xF1)), (a3, .inl (cI, 10, .inl f9)), (a4, .inl (cI, 10, .inl f10)), (a5, .inl (cI, 10, .inl xF4)), (a6, .inl (cI, 10, .inl xF5)), (a10, .inr (10, [.ref a11, .int i1, .int (u19 0), .int (u19 1), .int (u19 2), .int (u19 3), .int (u19 4), .int (u19 5)])), (a11, .inl (cB, 1600, .inl xF9))] := hD
    refine va_iast hx hb hK hP hD hS 1 0 rfl rfl (vp_of (by omega) (by omega)) dX1_readSprung_56 (fun H locs hP hD hS => ?_)
    obtain ⟨f23, ef23⟩ : ∃ f, f = upd xF1 i0.toNatClampNeg r17 := ⟨_, rfl⟩
    replace hP : va_P (dC, dI) vwCl [(a0, .inr (1, [.int i0, .ref a1, .ref a2, .ref a3, .ref a4, .ref a5, .ref a6, .ref a7, .ref a8, .ref a9])), (a2, .inl (cI, 10, .inl f23)), (a3, .inl (cI, 10, .inl f9)), (a4, .inl (cI, 10, .inl f10)), (a5, .inl (cI, 10, .inl xF4)), (a6, .inl (cI, 10, .inl xF5)), (a10, .inr (10, [.ref a11, .int i1, .int (u19 0), .int (u19 1), .int (u19 2), .int (u19 3), .int (u19 4), .int (u19 5)])), (a11, .inl (cB, 1600, .inl xF9))] H := by rw [ef23]; exact hP
    replace hD : va_D A [(a0, .inr (1, [.int i0, .ref a1, .ref a2, .ref a3, .ref a4, .ref a5, .ref a6, .ref a7, .ref a8, .ref a9])), (a2, .inl (cI, 10, .inl f23)), (a3, .inl (cI, 10, .inl f9)), (a4, .inl (cI, 10, .inl f10)), (a5, .inl (cI, 10, .inl xF4)), (a6, .inl (cI, 10, .inl xF5)), (a10, .inr (10, [.ref a11, .int i1, .int (u19 0), .int (u19 1), .int (u19 2), .int (u19 3), .int (u19 4), .int (u19 5)])), (a11, .inl (cB, 1600, .inl xF9))] := by rw [ef23]; exact hD
    refine lv_aload_n hx hb dX1_readSprung_57 rfl (lv_at hl 1 rfl) ?_
    refine va_ldcS hx hb hown hR85 dX1_readSprung_58 ?_
    have hPc := hP.sub (ws' := [(a10, .inr (10, [.ref a11, .int i1, .int (u19 0), .int (u19 1), .int (u19 2), .int (u19 3), .int (u19 4), .int (u19 5)])), (a11, .inl (cB, 1600, .inl xF9))]) [6, 7] rfl
    have hDc := hD.sub (ws' := [(a10, .inr (10, [.ref a11, .int i1, .int (u19 0), .int (u19 1), .int (u19 2), .int (u19 3), .int (u19 4), .int (u19 5)])), (a11, .inl (cB, 1600, .inl xF9))]) [6, 7] (by decide) rfl
    have hFc := va_free (wc := [(a10, .inr (10, [.ref a11, .int i1, .int (u19 0), .int (u19 1), .int (u19 2), .int (u19 3), .int (u19 4), .int (u19 5)])), (a11, .inl (cB, 1600, .inl xF9))]) hD hS hA [6, 7] rfl
    refine va_callv (va_runV (As := [.ref sa85]) (rest := []) ⟨hx, hb, hml, hown, hwd⟩ (s_X10_takeWord l dC dI cI cZ cB cJ cM cG a10 a11 i1 (u19 0) (u19 1) (u19 2) (u19 3) (u19 4) (u19 5) xF9 sa85 sav85 sn85 sf85 H.size (show (0 : Int) ≤ i1.toInt ∧ i1.toInt ≤ 1600 from p_1) (show (0 : Int) ≤ (u19 3).toInt ∧ (u19 3).toInt ≤ 1600 from hw21) (show (0 : Int) ≤ (u19 4).toInt ∧ (u19 4).toInt ≤ 1600 from hw22)) (cwV 1 hwd (gV kr23_15 kr19_15 kr19_16 kr5_12 kr19_17) rfl rfl rfl (by decide +kernel) ⟨Nat.le_of_ble_eq_true rfl, Nat.le_of_ble_eq_true rfl⟩) (kPreVX hPc hK hDc (NS_st _ _ _ _) hN85 hS hFc (ci := 10) (q0 := 0) rfl rfl) rfl rfl hl.1 rfl (lv_room (Nat.le_of_ble_eq_true rfl)) dX1_readSprung_60 ⟨Nat.le_of_ble_eq_true rfl, Nat.le_of_ble_eq_true rfl⟩) hS (fun q _ h => hFc q h) hFc (fun u25 t H1 locs ht9 hvm hw hB hz1 hk1 hS => ?_)
    obtain ⟨u26, U26, V26⟩ := u25
    obtain ⟨hw27, hw28, -⟩ := hw
    replace hw27 : (0 : Int) ≤ (u26 3).toInt ∧ (u26 3).toInt ≤ 1600 := hw27
    replace hw28 : (0 : Int) ≤ (u26 4).toInt ∧ (u26 4).toInt ≤ 1600 := hw28
    obtain ⟨hP1, hD1⟩ := hB
    rw [ht9] at hP1
    obtain ⟨hP, hD⟩ := va_join (wr := [(a0, .inr (1, [.int i0, .ref a1, .ref a2, .ref a3, .ref a4, .ref a5, .ref a6, .ref a7, .ref a8, .ref a9])), (a2, .inl (cI, 10, .inl f23)), (a3, .inl (cI, 10, .inl f9)), (a4, .inl (cI, 10, .inl f10)), (a5, .inl (cI, 10, .inl xF4)), (a6, .inl (cI, 10, .inl xF5))]) (w1 := [(a10, .inr (10, [.ref a11, .int i1, .int (u26 0), .int (u26 1), .int (u26 2), .int (u26 3), .int (u26 4), .int (u26 5)])), (a11, .inl (cB, 1600, .inl xF9))]) hP hD [6, 7] [0, 1, 2, 3, 4, 5] rfl rfl (by decide) (by decide) hk1 hFc hP1 hD1
    generalize H1 = H at hP hS ⊢
    replace hP : va_P (dC, dI) vwCl [(a0, .inr (1, [.int i0, .ref a1, .ref a2, .ref a3, .ref a4, .ref a5, .ref a6, .ref a7, .ref a8, .ref a9])), (a2, .inl (cI, 10, .inl f23)), (a3, .inl (cI, 10, .inl f9)), (a4, .inl (cI, 10, .inl f10)), (a5, .inl (cI, 10, .inl xF4)), (a6, .inl (cI, 10, .inl xF5)), (a10, .inr (10, [.ref a11, .int i1, .int (u26 0), .int (u26 1), .int (u26 2), .int (u26 3), .int (u26 4), .int (u26 5)])), (a11, .inl (cB, 1600, .inl xF9))] H := hP
    replace hD : va_D A [(a0, .inr (1, [.int i0, .ref a1, .ref a2, .ref a3, .ref a4, .ref a5, .ref a6, .ref a7, .ref a8, .ref a9])), (a2, .inl (cI, 10, .inl f23)), (a3, .inl (cI, 10, .inl f9)), (a4, .inl (cI, 10, .inl f10)), (a5, .inl (cI, 10, .inl xF4)), (a6, .inl (cI, 10, .inl xF5)), (a10, .inr (10, [.ref a11, .int i1, .int (u26 0), .int (u26 1), .int (u26 2), .int (u26 3), .int (u26 4), .int (u26 5)])), (a11, .inl (cB, 1600, .inl xF9))] := hD
    refine lv_aload_n hx hb dX1_readSprung_63 rfl (lv_at hl 0 rfl) ?_
    refine va_get (D := (dC, dI)) (ci := 1) (v := .ref a5) (C := RX1) (T := TX1) (N := 10) hx hb hwd inlX1 hown hK hP 0 rfl rfl 5 (by decide) (hwd _ kr12_23) (fun _ h9 => h9) rfl dX1_readSprung_64 ?_
    refine lv_aload_n hx hb dX1_readSprung_67 rfl (lv_at hl 0 rfl) ?_
    refine va_get (D := (dC, dI)) (ci := 1) (v := .int i0) (C := RX1) (T := TX1) (N := 10) hx hb hwd inlX1 hown hK hP 0 rfl rfl 0 (by decide) (hwd _ kr12_9) (fun _ h9 => h9) rfl dX1_readSprung_68 ?_
    refine lv_aload_n hx hb dX1_readSprung_71 rfl (lv_at hl 1 rfl) ?_
    refine lv_iconst (v := 1) hx hb dX1_readSprung_72 (by decide) ?_
    refine lv_bipush (v := 60) hx hb dX1_readSprung_73 (by decide) ?_
    have hPc := hP.sub (ws' := [(a10, .inr (10, [.ref a11, .int i1, .int (u26 0), .int (u26 1), .int (u26 2), .int (u26 3), .int (u26 4), .int (u26 5)])), (a11, .inl (cB, 1600, .inl xF9))]) [6, 7] rfl
    have hDc := hD.sub (ws' := [(a10, .inr (10, [.ref a11, .int i1, .int (u26 0), .int (u26 1), .int (u26 2), .int (u26 3), .int (u26 4), .int (u26 5)])), (a11, .inl (cB, 1600, .inl xF9))]) [6, 7] (by decide) rfl
    have hFc := va_free (wc := [(a10, .inr (10, [.ref a11, .int i1, .int (u26 0), .int (u26 1), .int (u26 2), .int (u26 3), .int (u26 4), .int (u26 5)])), (a11, .inl (cB, 1600, .inl xF9))]) hD hS hA [6, 7] rfl
    refine va_calli (va_runV (As := [.int 1, .int 60]) (rest := [.int i0, .ref a5]) ⟨hx, hb, hml, hown, hwd⟩ (s_X10_takeNumber l dC dI cI cZ cB cJ cM cG a10 a11 i1 (u26 0) (u26 1) (u26 2) (u26 3) (u26 4) (u26 5) xF9 1 60 H.size (show (0 : Int) ≤ i1.toInt ∧ i1.toInt ≤ 1600 from p_1) (show (0 : Int) ≤ (u26 3).toInt ∧ (u26 3).toInt ≤ 1600 from hw27) (show (0 : Int) ≤ (u26 4).toInt ∧ (u26 4).toInt ≤ 1600 from hw28)) (cwV 2 hwd (gV kr23_16 kr21_22 kr21_23 kr5_12 kr22_0) rfl rfl rfl (by decide +kernel) ⟨Nat.le_of_ble_eq_true rfl, Nat.le_of_ble_eq_true rfl⟩) (kPreV hPc hK hDc (ci := 10) (q0 := 0) rfl rfl) rfl rfl hl.1 rfl (lv_room (Nat.le_of_ble_eq_true rfl)) dX1_readSprung_75 ⟨Nat.le_of_ble_eq_true rfl, Nat.le_of_ble_eq_true rfl⟩) hS (fun q _ h => hFc q h) hFc (fun r29 u30 t H1 locs ht9 hvm hw hB hz1 hk1 hS => ?_)
    obtain ⟨u31, U31, V31⟩ := u30
    obtain ⟨hw32, hw33, hw34, -⟩ := hw
    replace hw32 : (1 : Int32).toInt ≤ r29.toInt ∧ (r29.toInt ≤ (1 : Int32).toInt ∨ r29.toInt ≤ (60 : Int32).toInt) := hw32
    replace hw33 : (0 : Int) ≤ (u31 3).toInt ∧ (u31 3).toInt ≤ 1600 := hw33
    replace hw34 : (0 : Int) ≤ (u31 4).toInt ∧ (u31 4).toInt ≤ 1600 := hw34
    obtain ⟨hP1, hD1⟩ := hB
    rw [ht9] at hP1
    obtain ⟨hP, hD⟩ := va_join (wr := [(a0, .inr (1, [.int i0, .ref a1, .ref a2, .ref a3, .ref a4, .ref a5, .ref a6, .ref a7, .ref a8, .ref a9])), (a2, .inl (cI, 10, .inl f23)), (a3, .inl (cI, 10, .inl f9)), (a4, .inl (cI, 10, .inl f10)), (a5, .inl (cI, 10, .inl xF4)), (a6, .inl (cI, 10, .inl xF5))]) (w1 := [(a10, .inr (10, [.ref a11, .int i1, .int (u31 0), .int (u31 1), .int (u31 2), .int (u31 3), .int (u31 4), .int (u31 5)])), (a11, .inl (cB, 1600, .inl xF9))]) hP hD [6, 7] [0, 1, 2, 3, 4, 5] rfl rfl (by decide) (by decide) hk1 hFc hP1 hD1
    generalize H1 = H at hP hS ⊢
    replace hP : va_P (dC, dI) vwCl [(a0, .inr (1, [.int i0, .ref a1, .ref a2, .ref a3, .ref a4, .ref a5, .ref a6, .ref a7, .ref a8, .ref a9])), (a2, .inl (cI, 10, .inl f23)), (a3, .inl (cI, 10, .inl f9)), (a4, .inl (cI, 10, .inl f10)), (a5, .inl (cI, 10, .inl xF4)), (a6, .inl (cI, 10, .inl xF5)), (a10, .inr (10, [.ref a11, .int i1, .int (u31 0), .int (u31 1), .int (u31 2), .int (u31 3), .int (u31 4), .int (u31 5)])), (a11, .inl (cB, 1600, .inl xF9))] H := hP
    replace hD : va_D A [(a0, .inr (1, [.int i0, .ref a1, .ref a2, .ref a3, .ref a4, .ref a5, .ref a6, .ref a7, .ref a8, .ref a9])), (a2, .inl (cI, 10, .inl f23)), (a3, .inl (cI, 10, .inl f9)), (a4, .inl (cI, 10, .inl f10)), (a5, .inl (cI, 10, .inl xF4)), (a6, .inl (cI, 10, .inl xF5)), (a10, .inr (10, [.ref a11, .int i1, .int (u31 0), .int (u31 1), .int (u31 2), .int (u31 3), .int (u31 4), .int (u31 5)])), (a11, .inl (cB, 1600, .inl xF9))] := hD
    refine va_iast hx hb hK hP hD hS 4 0 rfl rfl (vp_of (by omega) (by omega)) dX1_readSprung_78 (fun H locs hP hD hS => ?_)
    obtain ⟨f35, ef35⟩ : ∃ f, f = upd xF4 i0.toNatClampNeg r29 := ⟨_, rfl⟩
    replace hP : va_P (dC, dI) vwCl [(a0, .inr (1, [.int i0, .ref a1, .ref a2, .ref a3, .ref a4, .ref a5, .ref a6, .ref a7, .ref a8, .ref a9])), (a2, .inl (cI, 10, .inl f23)), (a3, .inl (cI, 10, .inl f9)), (a4, .inl (cI, 10, .inl f10)), (a5, .inl (cI, 10, .inl f35)), (a6, .inl (cI, 10, .inl xF5)), (a10, .inr (10, [.ref a11, .int i1, .int (u31 0), .int (u31 1), .int (u31 2), .int (u31 3), .int (u31 4), .int (u31 5)])), (a11, .inl (cB, 1600, .inl xF9))] H := by rw [ef35]; exact hP
    replace hD : va_D A [(a0, .inr (1, [.int i0, .ref a1, .ref a2, .ref a3, .ref a4, .ref a5, .ref a6, .ref a7, .ref a8, .ref a9])), (a2, .inl (cI, 10, .inl f23)), (a3, .inl (cI, 10, .inl f9)), (a4, .inl (cI, 10, .inl f10)), (a5, .inl (cI, 10, .inl f35)), (a6, .inl (cI, 10, .inl xF5)), (a10, .inr (10, [.ref a11, .int i1, .int (u31 0), .int (u31 1), .int (u31 2), .int (u31 3), .int (u31 4), .int (u31 5)])), (a11, .inl (cB, 1600, .inl xF9))] := by rw [ef35]; exact hD
    refine lv_aload_n hx hb dX1_readSprung_79 rfl (lv_at hl 1 rfl) ?_
    refine va_ldcS hx hb hown hR86 dX1_readSprung_80 ?_
    have hPc := hP.sub (ws' := [(a10, .inr (10, [.ref a11, .int i1, .int (u31 0), .int (u31 1), .int (u31 2), .int (u31 3), .int (u31 4), .int (u31 5)])), (a11, .inl (cB, 1600, .inl xF9))]) [6, 7] rfl
    have hDc := hD.sub (ws' := [(a10, .inr (10, [.ref a11, .int i1, .int (u31 0), .int (u31 1), .int (u31 2), .int (u31 3), .int (u31 4), .int (u31 5)])), (a11, .inl (cB, 1600, .inl xF9))]) [6, 7] (by decide) rfl
    have hFc := va_free (wc := [(a10, .inr (10, [.ref a11, .int i1, .int (u31 0), .int (u31 1), .int (u31 2), .int (u31 3), .int (u31 4), .int (u31 5)])), (a11, .inl (cB, 1600, .inl xF9))]) hD hS hA [6, 7] rfl
    refine va_callv (va_runV (As := [.ref sa86]) (rest := []) ⟨hx, hb, hml, hown, hwd⟩ (s_X10_takeWord l dC dI cI cZ cB cJ cM cG a10 a11 i1 (u31 0) (u31 1) (u31 2) (u31 3) (u31 4) (u31 5) xF9 sa86 sav86 sn86 sf86 H.size (show (0 : Int) ≤ i1.toInt ∧ i1.toInt ≤ 1600 from p_1) (show (0 : Int) ≤ (u31 3).toInt ∧ (u31 3).toInt ≤ 1600 from hw33) (show (0 : Int) ≤ (u31 4).toInt ∧ (u31 4).toInt ≤ 1600 from hw34)) (cwV 1 hwd (gV kr23_15 kr19_15 kr19_16 kr5_12 kr19_17) rfl rfl rfl (by decide +kernel) ⟨Nat.le_of_ble_eq_true rfl, Nat.le_of_ble_eq_true rfl⟩) (kPreVX hPc hK hDc (NS_st _ _ _ _) hN86 hS hFc (ci := 10) (q0 := 0) rfl rfl) rfl rfl hl.1 rfl (lv_room (Nat.le_of_ble_eq_true rfl)) dX1_readSprung_82 ⟨Nat.le_of_ble_eq_true rfl, Nat.le_of_ble_eq_true rfl⟩) hS (fun q _ h => hFc q h) hFc (fun u37 t H1 locs ht9 hvm hw hB hz1 hk1 hS => ?_)
    obtain ⟨u38, U38, V38⟩ := u37
    obtain ⟨hw39, hw40, -⟩ := hw
    replace hw39 : (0 : Int) ≤ (u38 3).toInt ∧ (u38 3).toInt ≤ 1600 := hw39
    replace hw40 : (0 : Int) ≤ (u38 4).toInt ∧ (u38 4).toInt ≤ 1600 := hw40
    obtain ⟨hP1, hD1⟩ := hB
    rw [ht9] at hP1
    obtain ⟨hP, hD⟩ := va_join (wr := [(a0, .inr (1, [.int i0, .ref a1, .ref a2, .ref a3, .ref a4, .ref a5, .ref a6, .ref a7, .ref a8, .ref a9])), (a2, .inl (cI, 10, .inl f23)), (a3, .inl (cI, 10, .inl f9)), (a4, .inl (cI, 10, .inl f10)), (a5, .inl (cI, 10, .inl f35)), (a6, .inl (cI, 10, .inl xF5))]) (w1 := [(a10, .inr (10, [.ref a11, .int i1, .int (u38 0), .int (u38 1), .int (u38 2), .int (u38 3), .int (u38 4), .int (u38 5)])), (a11, .inl (cB, 1600, .inl xF9))]) hP hD [6, 7] [0, 1, 2, 3, 4, 5] rfl rfl (by decide) (by decide) hk1 hFc hP1 hD1
    generalize H1 = H at hP hS ⊢
    replace hP : va_P (dC, dI) vwCl [(a0, .inr (1, [.int i0, .ref a1, .ref a2, .ref a3, .ref a4, .ref a5, .ref a6, .ref a7, .ref a8, .ref a9])), (a2, .inl (cI, 10, .inl f23)), (a3, .inl (cI, 10, .inl f9)), (a4, .inl (cI, 10, .inl f10)), (a5, .inl (cI, 10, .inl f35)), (a6, .inl (cI, 10, .inl xF5)), (a10, .inr (10, [.ref a11, .int i1, .int (u38 0), .int (u38 1), .int (u38 2), .int (u38 3), .int (u38 4), .int (u38 5)])), (a11, .inl (cB, 1600, .inl xF9))] H := hP
    replace hD : va_D A [(a0, .inr (1, [.int i0, .ref a1, .ref a2, .ref a3, .ref a4, .ref a5, .ref a6, .ref a7, .ref a8, .ref a9])), (a2, .inl (cI, 10, .inl f23)), (a3, .inl (cI, 10, .inl f9)), (a4, .inl (cI, 10, .inl f10)), (a5, .inl (cI, 10, .inl f35)), (a6, .inl (cI, 10, .inl xF5)), (a10, .inr (10, [.ref a11, .int i1, .int (u38 0), .int (u38 1), .int (u38 2), .int (u38 3), .int (u38 4), .int (u38 5)])), (a11, .inl (cB, 1600, .inl xF9))] := hD
    refine lv_aload_n hx hb dX1_readSprung_85 rfl (lv_at hl 0 rfl) ?_
    refine va_get (D := (dC, dI)) (ci := 1) (v := .ref a6) (C := RX1) (T := TX1) (N := 10) hx hb hwd inlX1 hown hK hP 0 rfl rfl 6 (by decide) (hwd _ kr13_1) (fun _ h9 => h9) rfl dX1_readSprung_86 ?_
    refine lv_aload_n hx hb dX1_readSprung_89 rfl (lv_at hl 0 rfl) ?_
    refine va_get (D := (dC, dI)) (ci := 1) (v := .int i0) (C := RX1) (T := TX1) (N := 10) hx hb hwd inlX1 hown hK hP 0 rfl rfl 0 (by decide) (hwd _ kr12_9) (fun _ h9 => h9) rfl dX1_readSprung_90 ?_
    refine lv_aload_n hx hb dX1_readSprung_93 rfl (lv_at hl 1 rfl) ?_
    refine lv_iconst (v := 0) hx hb dX1_readSprung_94 (by decide) ?_
    refine lv_bipush (v := 20) hx hb dX1_readSprung_95 (by decide) ?_
    have hPc := hP.sub (ws' := [(a10, .inr (10, [.ref a11, .int i1, .int (u38 0), .int (u38 1), .int (u38 2), .int (u38 3), .int (u38 4), .int (u38 5)])), (a11, .inl (cB, 1600, .inl xF9))]) [6, 7] rfl
    have hDc := hD.sub (ws' := [(a10, .inr (10, [.ref a11, .int i1, .int (u38 0), .int (u38 1), .int (u38 2), .int (u38 3), .int (u38 4), .int (u38 5)])), (a11, .inl (cB, 1600, .inl xF9))]) [6, 7] (by decide) rfl
    have hFc := va_free (wc := [(a10, .inr (10, [.ref a11, .int i1, .int (u38 0), .int (u38 1), .int (u38 2), .int (u38 3), .int (u38 4), .int (u38 5)])), (a11, .inl (cB, 1600, .inl xF9))]) hD hS hA [6, 7] rfl
    refine va_calli (va_runV (As := [.int 0, .int 20]) (rest := [.int i0, .ref a6]) ⟨hx, hb, hml, hown, hwd⟩ (s_X10_takeNumber l dC dI cI cZ cB cJ cM cG a10 a11 i1 (u38 0) (u38 1) (u38 2) (u38 3) (u38 4) (u38 5) xF9 0 20 H.size (show (0 : Int) ≤ i1.toInt ∧ i1.toInt ≤ 1600 from p_1) (show (0 : Int) ≤ (u38 3).toInt ∧ (u38 3).toInt ≤ 1600 from hw39) (show (0 : Int) ≤ (u38 4).toInt ∧ (u38 4).toInt ≤ 1600 from hw40)) (cwV 2 hwd (gV kr23_16 kr21_22 kr21_23 kr5_12 kr22_0) rfl rfl rfl (by decide +kernel) ⟨Nat.le_of_ble_eq_true rfl, Nat.le_of_ble_eq_true rfl⟩) (kPreV hPc hK hDc (ci := 10) (q0 := 0) rfl rfl) rfl rfl hl.1 rfl (lv_room (Nat.le_of_ble_eq_true rfl)) dX1_readSprung_97 ⟨Nat.le_of_ble_eq_true rfl, Nat.le_of_ble_eq_true rfl⟩) hS (fun q _ h => hFc q h) hFc (fun r41 u42 t H1 locs ht9 hvm hw hB hz1 hk1 hS => ?_)
    obtain ⟨u43, U43, V43⟩ := u42
    obtain ⟨hw44, hw45, hw46, -⟩ := hw
    replace hw44 : (0 : Int32).toInt ≤ r41.toInt ∧ (r41.toInt ≤ (0 : Int32).toInt ∨ r41.toInt ≤ (20 : Int32).toInt) := hw44
    replace hw45 : (0 : Int) ≤ (u43 3).toInt ∧ (u43 3).toInt ≤ 1600 := hw45
    replace hw46 : (0 : Int) ≤ (u43 4).toInt ∧ (u43 4).toInt ≤ 1600 := hw46
    obtain ⟨hP1, hD1⟩ := hB
    rw [ht9] at hP1
    obtain ⟨hP, hD⟩ := va_join (wr := [(a0, .inr (1, [.int i0, .ref a1, .ref a2, .ref a3, .ref a4, .ref a5, .ref a6, .ref a7, .ref a8, .ref a9])), (a2, .inl (cI, 10, .inl f23)), (a3, .inl (cI, 10, .inl f9)), (a4, .inl (cI, 10, .inl f10)), (a5, .inl (cI, 10, .inl f35)), (a6, .inl (cI, 10, .inl xF5))]) (w1 := [(a10, .inr (10, [.ref a11, .int i1, .int (u43 0), .int (u43 1), .int (u43 2), .int (u43 3), .int (u43 4), .int (u43 5)])), (a11, .inl (cB, 1600, .inl xF9))]) hP hD [6, 7] [0, 1, 2, 3, 4, 5] rfl rfl (by decide) (by decide) hk1 hFc hP1 hD1
    generalize H1 = H at hP hS ⊢
    replace hP : va_P (dC, dI) vwCl [(a0, .inr (1, [.int i0, .ref a1, .ref a2, .ref a3, .ref a4, .ref a5, .ref a6, .ref a7, .ref a8, .ref a9])), (a2, .inl (cI, 10, .inl f23)), (a3, .inl (cI, 10, .inl f9)), (a4, .inl (cI, 10, .inl f10)), (a5, .inl (cI, 10, .inl f35)), (a6, .inl (cI, 10, .inl xF5)), (a10, .inr (10, [.ref a11, .int i1, .int (u43 0), .int (u43 1), .int (u43 2), .int (u43 3), .int (u43 4), .int (u43 5)])), (a11, .inl (cB, 1600, .inl xF9))] H := hP
    replace hD : va_D A [(a0, .inr (1, [.int i0, .ref a1, .ref a2, .ref a3, .ref a4, .ref a5, .ref a6, .ref a7, .ref a8, .ref a9])), (a2, .inl (cI, 10, .inl f23)), (a3, .inl (cI, 10, .inl f9)), (a4, .inl (cI, 10, .inl f10)), (a5, .inl (cI, 10, .inl f35)), (a6, .inl (cI, 10, .inl xF5)), (a10, .inr (10, [.ref a11, .int i1, .int (u43 0), .int (u43 1), .int (u43 2), .int (u43 3), .int (u43 4), .int (u43 5)])), (a11, .inl (cB, 1600, .inl xF9))] := hD
    refine va_iast hx hb hK hP hD hS 5 0 rfl rfl (vp_of (by omega) (by omega)) dX1_readSprung_100 (fun H locs hP hD hS => ?_)
    obtain ⟨f47, ef47⟩ : ∃ f, f = upd xF5 i0.toNatClampNeg r41 := ⟨_, rfl⟩
    replace hP : va_P (dC, dI) vwCl [(a0, .inr (1, [.int i0, .ref a1, .ref a2, .ref a3, .ref a4, .ref a5, .ref a6, .ref a7, .ref a8, .ref a9])), (a2, .inl (cI, 10, .inl f23)), (a3, .inl (cI, 10, .inl f9)), (a4, .inl (cI, 10, .inl f10)), (a5, .inl (cI, 10, .inl f35)), (a6, .inl (cI, 10, .inl f47)), (a10, .inr (10, [.ref a11, .int i1, .int (u43 0), .int (u43 1), .int (u43 2), .int (u43 3), .int (u43 4), .int (u43 5)])), (a11, .inl (cB, 1600, .inl xF9))] H := by rw [ef47]; exact hP
    replace hD : va_D A [(a0, .inr (1, [.int i0, .ref a1, .ref a2, .ref a3, .ref a4, .ref a5, .ref a6, .ref a7, .ref a8, .ref a9])), (a2, .inl (cI, 10, .inl f23)), (a3, .inl (cI, 10, .inl f9)), (a4, .inl (cI, 10, .inl f10)), (a5, .inl (cI, 10, .inl f35)), (a6, .inl (cI, 10, .inl f47)), (a10, .inr (10, [.ref a11, .int i1, .int (u43 0), .int (u43 1), .int (u43 2), .int (u43 3), .int (u43 4), .int (u43 5)])), (a11, .inl (cB, 1600, .inl xF9))] := by rw [ef47]; exact hD
    have hP9 := hP.sub (ws' := [(a0, .inr (1, [.int i0, .ref a1, .ref a2, .ref a3, .ref a4, .ref a5, .ref a6, .ref a7, .ref a8, .ref a9])), (a2, .inl (cI, 10, .inl f23)), (a3, .inl (cI, 10, .inl f9)), (a4, .inl (cI, 10, .inl f10)), (a5, .inl (cI, 10, .inl f35)), (a6, .inl (cI, 10, .inl f47)), (a10, .inr (10, [.ref a11, .int i1, .int (u43 0), .int (u43 1), .int (u43 2), .int (u43 3), .int (u43 4), .int (u43 5)])), (a11, .inl (cB, 1600, .inl xF9))]) [0, 1, 2, 3, 4, 5, 6, 7] rfl
    have hD9 := hD.sub (ws' := [(a0, .inr (1, [.int i0, .ref a1, .ref a2, .ref a3, .ref a4, .ref a5, .ref a6, .ref a7, .ref a8, .ref a9])), (a2, .inl (cI, 10, .inl f23)), (a3, .inl (cI, 10, .inl f9)), (a4, .inl (cI, 10, .inl f10)), (a5, .inl (cI, 10, .inl f35)), (a6, .inl (cI, 10, .inl f47)), (a10, .inr (10, [.ref a11, .int i1, .int (u43 0), .int (u43 1), .int (u43 2), .int (u43 3), .int (u43 4), .int (u43 5)])), (a11, .inl (cB, 1600, .inl xF9))]) [0, 1, 2, 3, 4, 5, 6, 7] (by decide) rfl
    rw [hQ]
    exact W.vret hx hb hr (fun t ht hW => ⟨⟨(pickG 0 [(u43 0), (u43 1), (u43 2), (u43 3), (u43 4), (u43 5)], pickG (fun _ => 0) [f23, f9, f10, f35, f47], pickG (fun _ => 0) []), rfl, ⟨(show rng f9 10 0 9 from rf9), (show (0 : Int) ≤ (u43 3).toInt ∧ (u43 3).toInt ≤ 1600 from hw45), (show (0 : Int) ≤ (u43 4).toInt ∧ (u43 4).toInt ≤ 1600 from hw46), trivial⟩, (by rw [ht]; exact hP9), hD9⟩, hS.F ht⟩) hS.2.2 dX1_readSprung_101
  refine lv_if_ne (tgt := 16) hx hb dX1_readSprung_9 (by decide) (fun c48 => ?_) (fun c48 => ?_)
  · rw [ki_eq] at c48
    refine lv_aload_n hx hb dX1_readSprung_16 rfl (lv_at hl 1 rfl) ?_
    refine lv_iconst (v := 0) hx hb dX1_readSprung_17 (by decide) ?_
    refine lv_bipush (v := 9) hx hb dX1_readSprung_18 (by decide) ?_
    have hPc := hP.sub (ws' := [(a10, .inr (10, [.ref a11, .int i1, .int i2, .int i3, .int i4, .int i5, .int i6, .int i7])), (a11, .inl (cB, 1600, .inl xF9))]) [6, 7] rfl
    have hDc := hD.sub (ws' := [(a10, .inr (10, [.ref a11, .int i1, .int i2, .int i3, .int i4, .int i5, .int i6, .int i7])), (a11, .inl (cB, 1600, .inl xF9))]) [6, 7] (by decide) rfl
    have hFc := va_free (wc := [(a10, .inr (10, [.ref a11, .int i1, .int i2, .int i3, .int i4, .int i5, .int i6, .int i7])), (a11, .inl (cB, 1600, .inl xF9))]) hD hS hA [6, 7] rfl
    refine va_calli (va_runV (As := [.int 0, .int 9]) (rest := [.int i0, .ref a3]) ⟨hx, hb, hml, hown, hwd⟩ (s_X10_takeNumber l dC dI cI cZ cB cJ cM cG a10 a11 i1 i2 i3 i4 i5 i6 i7 xF9 0 9 s.heap.size (show (0 : Int) ≤ i1.toInt ∧ i1.toInt ≤ 1600 from p_1) (show (0 : Int) ≤ i5.toInt ∧ i5.toInt ≤ 1600 from p_2) (show (0 : Int) ≤ i6.toInt ∧ i6.toInt ≤ 1600 from p_3)) (cwV 2 hwd (gV kr23_16 kr21_22 kr21_23 kr5_12 kr22_0) rfl rfl rfl (by decide +kernel) ⟨Nat.le_of_ble_eq_true rfl, Nat.le_of_ble_eq_true rfl⟩) (kPreV hPc hK hDc (ci := 10) (q0 := 0) rfl rfl) rfl rfl hl.1 rfl (lv_room (Nat.le_of_ble_eq_true rfl)) dX1_readSprung_20 ⟨Nat.le_of_ble_eq_true rfl, Nat.le_of_ble_eq_true rfl⟩) hS (fun q _ h => hFc q h) hFc (fun r49 u50 t H1 locs ht9 hvm hw hB hz1 hk1 hS => ?_)
    obtain ⟨u51, U51, V51⟩ := u50
    obtain ⟨hw52, hw53, hw54, -⟩ := hw
    replace hw52 : (0 : Int32).toInt ≤ r49.toInt ∧ (r49.toInt ≤ (0 : Int32).toInt ∨ r49.toInt ≤ (9 : Int32).toInt) := hw52
    replace hw53 : (0 : Int) ≤ (u51 3).toInt ∧ (u51 3).toInt ≤ 1600 := hw53
    replace hw54 : (0 : Int) ≤ (u51 4).toInt ∧ (u51 4).toInt ≤ 1600 := hw54
    obtain ⟨hP1, hD1⟩ := hB
    rw [ht9] at hP1
    obtain ⟨hP, hD⟩ := va_join (wr := [(a0, .inr (1, [.int i0, .ref a1, .ref a2, .ref a3, .ref a4, .ref a5, .ref a6, .ref a7, .ref a8, .ref a9])), (a2, .inl (cI, 10, .inl xF1)), (a3, .inl (cI, 10, .inl xF2)), (a4, .inl (cI, 10, .inl xF3)), (a5, .inl (cI, 10, .inl xF4)), (a6, .inl (cI, 10, .inl xF5))]) (w1 := [(a10, .inr (10, [.ref a11, .int i1, .int (u51 0), .int (u51 1), .int (u51 2), .int (u51 3), .int (u51 4), .int (u51 5)])), (a11, .inl (cB, 1600, .inl xF9))]) hP hD [6, 7] [0, 1, 2, 3, 4, 5] rfl rfl (by decide) (by decide) hk1 hFc hP1 hD1
    generalize H1 = H at hP hS ⊢
    replace hP : va_P (dC, dI) vwCl [(a0, .inr (1, [.int i0, .ref a1, .ref a2, .ref a3, .ref a4, .ref a5, .ref a6, .ref a7, .ref a8, .ref a9])), (a2, .inl (cI, 10, .inl xF1)), (a3, .inl (cI, 10, .inl xF2)), (a4, .inl (cI, 10, .inl xF3)), (a5, .inl (cI, 10, .inl xF4)), (a6, .inl (cI, 10, .inl xF5)), (a10, .inr (10, [.ref a11, .int i1, .int (u51 0), .int (u51 1), .int (u51 2), .int (u51 3), .int (u51 4), .int (u51 5)])), (a11, .inl (cB, 1600, .inl xF9))] H := hP
    replace hD : va_D A [(a0, .inr (1, [.int i0, .ref a1, .ref a2, .ref a3, .ref a4, .ref a5, .ref a6, .ref a7, .ref a8, .ref a9])), (a2, .inl (cI, 10, .inl xF1)), (a3, .inl (cI, 10, .inl xF2)), (a4, .inl (cI, 10, .inl xF3)), (a5, .inl (cI, 10, .inl xF4)), (a6, .inl (cI, 10, .inl xF5)), (a10, .inr (10, [.ref a11, .int i1, .int (u51 0), .int (u51 1), .int (u51 2), .int (u51 3), .int (u51 4), .int (u51 5)])), (a11, .inl (cB, 1600, .inl xF9))] := hD
    exact jp1 _ _ ls r49 (u51 0) (u51 1) (u51 2) (u51 3) (u51 4) (u51 5) (show (0 : Int) ≤ r49.toInt ∧ r49.toInt ≤ 9 from ⟨by omega, by omega⟩) (show (0 : Int) ≤ (u51 3).toInt ∧ (u51 3).toInt ≤ 1600 from hw53) (show (0 : Int) ≤ (u51 4).toInt ∧ (u51 4).toInt ≤ 1600 from hw54) (hP.sub (ws' := [(a0, .inr (1, [.int i0, .ref a1, .ref a2, .ref a3, .ref a4, .ref a5, .ref a6, .ref a7, .ref a8, .ref a9])), (a2, .inl (cI, 10, .inl xF1)), (a3, .inl (cI, 10, .inl xF2)), (a4, .inl (cI, 10, .inl xF3)), (a5, .inl (cI, 10, .inl xF4)), (a6, .inl (cI, 10, .inl xF5)), (a10, .inr (10, [.ref a11, .int i1, .int (u51 0), .int (u51 1), .int (u51 2), .int (u51 3), .int (u51 4), .int (u51 5)])), (a11, .inl (cB, 1600, .inl xF9))]) [0, 1, 2, 3, 4, 5, 6, 7] rfl) (hD.sub (ws' := [(a0, .inr (1, [.int i0, .ref a1, .ref a2, .ref a3, .ref a4, .ref a5, .ref a6, .ref a7, .ref a8, .ref a9])), (a2, .inl (cI, 10, .inl xF1)), (a3, .inl (cI, 10, .inl xF2)), (a4, .inl (cI, 10, .inl xF3)), (a5, .inl (cI, 10, .inl xF4)), (a6, .inl (cI, 10, .inl xF5)), (a10, .inr (10, [.ref a11, .int i1, .int (u51 0), .int (u51 1), .int (u51 2), .int (u51 3), .int (u51 4), .int (u51 5)])), (a11, .inl (cB, 1600, .inl xF9))]) [0, 1, 2, 3, 4, 5, 6, 7] (by decide) rfl) hS (lv_sub hl [0, 1, 2, 3] rfl)
  · rw [ki_eq] at c48
    refine lv_iconst (v := 0) hx hb dX1_readSprung_12 (by decide) ?_
    refine lv_goto (tgt := 23) hx hb dX1_readSprung_13 (by decide) ?_
    exact jp1 _ _ ls (0) i2 i3 i4 i5 i6 i7 (show (0 : Int) ≤ (0 : Int32).toInt ∧ (0 : Int32).toInt ≤ 9 from ⟨by omega, by omega⟩) (show (0 : Int) ≤ i5.toInt ∧ i5.toInt ≤ 1600 from p_2) (show (0 : Int) ≤ i6.toInt ∧ i6.toInt ≤ 1600 from p_3) (hP.sub (ws' := [(a0, .inr (1, [.int i0, .ref a1, .ref a2, .ref a3, .ref a4, .ref a5, .ref a6, .ref a7, .ref a8, .ref a9])), (a2, .inl (cI, 10, .inl xF1)), (a3, .inl (cI, 10, .inl xF2)), (a4, .inl (cI, 10, .inl xF3)), (a5, .inl (cI, 10, .inl xF4)), (a6, .inl (cI, 10, .inl xF5)), (a10, .inr (10, [.ref a11, .int i1, .int i2, .int i3, .int i4, .int i5, .int i6, .int i7])), (a11, .inl (cB, 1600, .inl xF9))]) [0, 1, 2, 3, 4, 5, 6, 7] rfl) (hD.sub (ws' := [(a0, .inr (1, [.int i0, .ref a1, .ref a2, .ref a3, .ref a4, .ref a5, .ref a6, .ref a7, .ref a8, .ref a9])), (a2, .inl (cI, 10, .inl xF1)), (a3, .inl (cI, 10, .inl xF2)), (a4, .inl (cI, 10, .inl xF3)), (a5, .inl (cI, 10, .inl xF4)), (a6, .inl (cI, 10, .inl xF5)), (a10, .inr (10, [.ref a11, .int i1, .int i2, .int i3, .int i4, .int i5, .int i6, .int i7])), (a11, .inl (cB, 1600, .inl xF9))]) [0, 1, 2, 3, 4, 5, 6, 7] (by decide) rfl) hS (lv_sub hl [0, 1, 2, 3] rfl)
theorem dX1_readLever_0 : decode cX1_readLever 0 = .ok (.aload_n 1, 1) := by decide +kernel
theorem dX1_readLever_1 : decode cX1_readLever 1 = .ok (.ldc 80, 2) := by decide +kernel
theorem dX1_readLever_3 : decode cX1_readLever 3 = .ok (.invokevirtual 81, 3) := by decide +kernel
theorem dX1_readLever_6 : decode cX1_readLever 6 = .ok (.aload_n 0, 1) := by decide +kernel
theorem dX1_readLever_7 : decode cX1_readLever 7 = .ok (.getfield 15, 3) := by decide +kernel
theorem dX1_readLever_10 : decode cX1_readLever 10 = .ok (.aload_n 0, 1) := by decide +kernel
theorem dX1_readLever_11 : decode cX1_readLever 11 = .ok (.getfield 49, 3) := by decide +kernel
theorem dX1_readLever_14 : decode cX1_readLever 14 = .ok (.aload_n 1, 1) := by decide +kernel
theorem dX1_readLever_15 : decode cX1_readLever 15 = .ok (.iconst 0, 1) := by decide +kernel
theorem dX1_readLever_16 : decode cX1_readLever 16 = .ok (.aload_n 0, 1) := by decide +kernel
theorem dX1_readLever_17 : decode cX1_readLever 17 = .ok (.getfield 49, 3) := by decide +kernel
theorem dX1_readLever_20 : decode cX1_readLever 20 = .ok (.iconst 1, 1) := by decide +kernel
theorem dX1_readLever_21 : decode cX1_readLever 21 = .ok (.isub, 1) := by decide +kernel
theorem dX1_readLever_22 : decode cX1_readLever 22 = .ok (.invokevirtual 76, 3) := by decide +kernel
theorem dX1_readLever_25 : decode cX1_readLever 25 = .ok (.iastore, 1) := by decide +kernel
theorem dX1_readLever_26 : decode cX1_readLever 26 = .ok (.aload_n 0, 1) := by decide +kernel
theorem dX1_readLever_27 : decode cX1_readLever 27 = .ok (.getfield 18, 3) := by decide +kernel
theorem dX1_readLever_30 : decode cX1_readLever 30 = .ok (.aload_n 0, 1) := by decide +kernel
theorem dX1_readLever_31 : decode cX1_readLever 31 = .ok (.getfield 49, 3) := by decide +kernel
theorem dX1_readLever_34 : decode cX1_readLever 34 = .ok (.aload_n 1, 1) := by decide +kernel
theorem dX1_readLever_35 : decode cX1_readLever 35 = .ok (.iconst 1, 1) := by decide +kernel
theorem dX1_readLever_36 : decode cX1_readLever 36 = .ok (.bipush 9, 2) := by decide +kernel
theorem dX1_readLever_38 : decode cX1_readLever 38 = .ok (.invokevirtual 76, 3) := by decide +kernel
theorem dX1_readLever_41 : decode cX1_readLever 41 = .ok (.iastore, 1) := by decide +kernel
theorem dX1_readLever_42 : decode cX1_readLever 42 = .ok (.aload_n 1, 1) := by decide +kernel
theorem dX1_readLever_43 : decode cX1_readLever 43 = .ok (.ldc 87, 2) := by decide +kernel
theorem dX1_readLever_45 : decode cX1_readLever 45 = .ok (.invokevirtual 81, 3) := by decide +kernel
theorem dX1_readLever_48 : decode cX1_readLever 48 = .ok (.aload_n 0, 1) := by decide +kernel
theorem dX1_readLever_49 : decode cX1_readLever 49 = .ok (.getfield 21, 3) := by decide +kernel
theorem dX1_readLever_52 : decode cX1_readLever 52 = .ok (.aload_n 0, 1) := by decide +kernel
theorem dX1_readLever_53 : decode cX1_readLever 53 = .ok (.getfield 49, 3) := by decide +kernel
theorem dX1_readLever_56 : decode cX1_readLever 56 = .ok (.aload_n 1, 1) := by decide +kernel
theorem dX1_readLever_57 : decode cX1_readLever 57 = .ok (.iconst 1, 1) := by decide +kernel
theorem dX1_readLever_58 : decode cX1_readLever 58 = .ok (.bipush 9, 2) := by decide +kernel
theorem dX1_readLever_60 : decode cX1_readLever 60 = .ok (.invokevirtual 76, 3) := by decide +kernel
theorem dX1_readLever_63 : decode cX1_readLever 63 = .ok (.iastore, 1) := by decide +kernel
theorem dX1_readLever_64 : decode cX1_readLever 64 = .ok (.aload_n 0, 1) := by decide +kernel
theorem dX1_readLever_65 : decode cX1_readLever 65 = .ok (.getfield 24, 3) := by decide +kernel
theorem dX1_readLever_68 : decode cX1_readLever 68 = .ok (.aload_n 0, 1) := by decide +kernel
theorem dX1_readLever_69 : decode cX1_readLever 69 = .ok (.getfield 49, 3) := by decide +kernel
theorem dX1_readLever_72 : decode cX1_readLever 72 = .ok (.iconst 1, 1) := by decide +kernel
theorem dX1_readLever_73 : decode cX1_readLever 73 = .ok (.iastore, 1) := by decide +kernel
theorem dX1_readLever_74 : decode cX1_readLever 74 = .ok (.aload_n 0, 1) := by decide +kernel
theorem dX1_readLever_75 : decode cX1_readLever 75 = .ok (.getfield 27, 3) := by decide +kernel
theorem dX1_readLever_78 : decode cX1_readLever 78 = .ok (.aload_n 0, 1) := by decide +kernel
theorem dX1_readLever_79 : decode cX1_readLever 79 = .ok (.getfield 49, 3) := by decide +kernel
theorem dX1_readLever_82 : decode cX1_readLever 82 = .ok (.iconst 0, 1) := by decide +kernel
theorem dX1_readLever_83 : decode cX1_readLever 83 = .ok (.iastore, 1) := by decide +kernel
theorem dX1_readLever_84 : decode cX1_readLever 84 = .ok (.return_, 1) := by decide +kernel
set_option maxHeartbeats 4000000 in
set_option maxRecDepth 100000 in
theorem s_X1_readLever (l : Launch) (dC : Nat → ClassId) (dI : Nat → Nat → Nat) (cI cZ cB cJ cM cG : ClassId) (a0 a1 a2 a3 a4 a5 a6 a7 a8 a9 a10 a11 : Nat) (i0 i1 i2 i3 i4 i5 i6 i7 : Int32) (xF1 xF2 xF3 xF4 xF5 xF9 : Nat → Int32) (sz : Nat) (p_0 : rng xF2 10 0 9) (p_1 : (0 : Int) ≤ i1.toInt ∧ i1.toInt ≤ 1600) (p_2 : (0 : Int) ≤ i5.toInt ∧ i5.toInt ≤ 1600) (p_3 : (0 : Int) ≤ i6.toInt ∧ i6.toInt ≤ 1600) (p_4 : (0 : Int) ≤ i0.toInt ∧ i0.toInt ≤ 9) : Met l yX1_readLever (kw yX1_readLever cX1_readLever 2 none) ({ frames := 6, cells := 0, slots := 0, locals := 128 } : Room) (va_Pc [.ref a0, .ref a10] (kPreX dC dI [(cI, .int), (cZ, .boolean), (cB, .byte), (cJ, .long), (cM, .object RX2), (cG, .array .int)] [(a0, .inr (1, [.int i0, .ref a1, .ref a2, .ref a3, .ref a4, .ref a5, .ref a6, .ref a7, .ref a8, .ref a9])), (a2, .inl (cI, 10, .inl xF1)), (a3, .inl (cI, 10, .inl xF2)), (a4, .inl (cI, 10, .inl xF3)), (a5, .inl (cI, 10, .inl xF4)), (a6, .inl (cI, 10, .inl xF5)), (a10, .inr (10, [.ref a11, .int i1, .int i2, .int i3, .int i4, .int i5, .int i6, .int i7])), (a11, .inl (cB, 1600, .inl xF9))] sz NT)) (va_Qv (fun (u9 : (Nat → Int32) × (Nat → Nat → Int32) × (Nat → Nat → Int64)) => (rng (u9.2.1 1) 10 0 9) ∧ ((0 : Int) ≤ (u9.1 3).toInt ∧ (u9.1 3).toInt ≤ 1600) ∧ ((0 : Int) ≤ (u9.1 4).toInt ∧ (u9.1 4).toInt ≤ 1600) ∧ True) (fun u9 t => va_P (dC, dI) vwCl [(a0, .inr (1, [.int i0, .ref a1, .ref a2, .ref a3, .ref a4, .ref a5, .ref a6, .ref a7, .ref a8, .ref a9])), (a2, .inl (cI, 10, .inl (u9.2.1 0))), (a3, .inl (cI, 10, .inl (u9.2.1 1))), (a4, .inl (cI, 10, .inl (u9.2.1 2))), (a5, .inl (cI, 10, .inl (u9.2.1 3))), (a6, .inl (cI, 10, .inl (u9.2.1 4))), (a10, .inr (10, [.ref a11, .int i1, .int (u9.1 0), .int (u9.1 1), .int (u9.1 2), .int (u9.1 3), .int (u9.1 4), .int (u9.1 5)])), (a11, .inl (cB, 1600, .inl xF9))] t.heap ∧ va_D (va_A [(a0, .inr (1, [.int i0, .ref a1, .ref a2, .ref a3, .ref a4, .ref a5, .ref a6, .ref a7, .ref a8, .ref a9])), (a2, .inl (cI, 10, .inl xF1)), (a3, .inl (cI, 10, .inl xF2)), (a4, .inl (cI, 10, .inl xF3)), (a5, .inl (cI, 10, .inl xF4)), (a6, .inl (cI, 10, .inl xF5)), (a10, .inr (10, [.ref a11, .int i1, .int i2, .int i3, .int i4, .int i5, .int i6, .int i7])), (a11, .inl (cB, 1600, .inl xF9))] sz) [(a0, .inr (1, [.int i0, .ref a1, .ref a2, .ref a3, .ref a4, .ref a5, .ref a6, .ref a7, .ref a8, .ref a9])), (a2, .inl (cI, 10, .inl (u9.2.1 0))), (a3, .inl (cI, 10, .inl (u9.2.1 1))), (a4, .inl (cI, 10, .inl (u9.2.1 2))), (a5, .inl (cI, 10, .inl (u9.2.1 3))), (a6, .inl (cI, 10, .inl (u9.2.1 4))), (a10, .inr (10, [.ref a11, .int i1, .int (u9.1 0), .int (u9.1 1), .int (u9.1 2), .int (u9.1 3), .int (u9.1 4), .int (u9.1 5)])), (a11, .inl (cB, 1600, .inl xF9))]) (va_A [(a0, .inr (1, [.int i0, .ref a1, .ref a2, .ref a3, .ref a4, .ref a5, .ref a6, .ref a7, .ref a8, .ref a9])), (a2, .inl (cI, 10, .inl xF1)), (a3, .inl (cI, 10, .inl xF2)), (a4, .inl (cI, 10, .inl xF3)), (a5, .inl (cI, 10, .inl xF4)), (a6, .inl (cI, 10, .inl xF5)), (a10, .inr (10, [.ref a11, .int i1, .int i2, .int i3, .int i4, .int i5, .int i6, .int i7])), (a11, .inl (cB, 1600, .inl xF9))] sz)) 0 0 (va_A [(a0, .inr (1, [.int i0, .ref a1, .ref a2, .ref a3, .ref a4, .ref a5, .ref a6, .ref a7, .ref a8, .ref a9])), (a2, .inl (cI, 10, .inl xF1)), (a3, .inl (cI, 10, .inl xF2)), (a4, .inl (cI, 10, .inl xF3)), (a5, .inl (cI, 10, .inl xF4)), (a6, .inl (cI, 10, .inl xF5)), (a10, .inr (10, [.ref a11, .int i1, .int i2, .int i3, .int i4, .int i5, .int i6, .int i7])), (a11, .inl (cB, 1600, .inl xF9))] sz) := by
  refine kEnterX (by decide) (Nat.le_of_ble_eq_true rfl) ?_
  intro p e s m below meth c ls hx hb hr hml hown hlocks hin hwd hsz hP hK hD hN hl
  subst hsz
  generalize hAe : va_A [(a0, .inr (1, [.int i0, .ref a1, .ref a2, .ref a3, .ref a4, .ref a5, .ref a6, .ref a7, .ref a8, .ref a9])), (a2, .inl (cI, 10, .inl xF1)), (a3, .inl (cI, 10, .inl xF2)), (a4, .inl (cI, 10, .inl xF3)), (a5, .inl (cI, 10, .inl xF4)), (a6, .inl (cI, 10, .inl xF5)), (a10, .inr (10, [.ref a11, .int i1, .int i2, .int i3, .int i4, .int i5, .int i6, .int i7])), (a11, .inl (cB, 1600, .inl xF9))] s.heap.size = A at hD hN ⊢
  have hA : ∀ q : Nat, s.heap.size ≤ q → A q := fun q h => by rw [← hAe]; exact Or.inr h
  have hS : va_S A s.heap s.heap [] := va_S.rf
  have hl : lv_has ls 2 [(0, .ref a0), (1, .ref a10)] := hl
  obtain ⟨Q, hQ⟩ : ∃ Q, Q = MQ below (va_Qv (fun (u9 : (Nat → Int32) × (Nat → Nat → Int32) × (Nat → Nat → Int64)) => (rng (u9.2.1 1) 10 0 9) ∧ ((0 : Int) ≤ (u9.1 3).toInt ∧ (u9.1 3).toInt ≤ 1600) ∧ ((0 : Int) ≤ (u9.1 4).toInt ∧ (u9.1 4).toInt ≤ 1600) ∧ True) (fun u9 t => va_P (dC, dI) vwCl [(a0, .inr (1, [.int i0, .ref a1, .ref a2, .ref a3, .ref a4, .ref a5, .ref a6, .ref a7, .ref a8, .ref a9])), (a2, .inl (cI, 10, .inl (u9.2.1 0))), (a3, .inl (cI, 10, .inl (u9.2.1 1))), (a4, .inl (cI, 10, .inl (u9.2.1 2))), (a5, .inl (cI, 10, .inl (u9.2.1 3))), (a6, .inl (cI, 10, .inl (u9.2.1 4))), (a10, .inr (10, [.ref a11, .int i1, .int (u9.1 0), .int (u9.1 1), .int (u9.1 2), .int (u9.1 3), .int (u9.1 4), .int (u9.1 5)])), (a11, .inl (cB, 1600, .inl xF9))] t.heap ∧ va_D A [(a0, .inr (1, [.int i0, .ref a1, .ref a2, .ref a3, .ref a4, .ref a5, .ref a6, .ref a7, .ref a8, .ref a9])), (a2, .inl (cI, 10, .inl (u9.2.1 0))), (a3, .inl (cI, 10, .inl (u9.2.1 1))), (a4, .inl (cI, 10, .inl (u9.2.1 2))), (a5, .inl (cI, 10, .inl (u9.2.1 3))), (a6, .inl (cI, 10, .inl (u9.2.1 4))), (a10, .inr (10, [.ref a11, .int i1, .int (u9.1 0), .int (u9.1 1), .int (u9.1 2), .int (u9.1 3), .int (u9.1 4), .int (u9.1 5)])), (a11, .inl (cB, 1600, .inl xF9))]) A) ([.ref a0, .ref a10] : List Value).toArray s 0 0 A := ⟨_, rfl⟩
  rw [← hQ]
  have k0 : (0 : Int32).toInt = 0 := by decide
  have k1 : (1 : Int32).toInt = 1 := by decide
  have k9 : (9 : Int32).toInt = 9 := by decide
  obtain ⟨sa80, sav80, sn80, sf80, hsn80, hR80, hks80⟩ := hN.2 _ rf_RX1_80
  have hN80 : NS sa80 sav80 sn80 sf80 A s := ⟨hN.1, hsn80.1, hks80⟩
  obtain ⟨sa87, sav87, sn87, sf87, hsn87, hR87, hks87⟩ := hN.2 _ rf_RX1_87
  have hN87 : NS sa87 sav87 sn87 sf87 A s := ⟨hN.1, hsn87.1, hks87⟩
  refine lv_aload_n hx hb dX1_readLever_0 rfl (lv_at hl 1 rfl) ?_
  refine va_ldcS hx hb hown hR80 dX1_readLever_1 ?_
  have hPc := hP.sub (ws' := [(a10, .inr (10, [.ref a11, .int i1, .int i2, .int i3, .int i4, .int i5, .int i6, .int i7])), (a11, .inl (cB, 1600, .inl xF9))]) [6, 7] rfl
  have hDc := hD.sub (ws' := [(a10, .inr (10, [.ref a11, .int i1, .int i2, .int i3, .int i4, .int i5, .int i6, .int i7])), (a11, .inl (cB, 1600, .inl xF9))]) [6, 7] (by decide) rfl
  have hFc := va_free (wc := [(a10, .inr (10, [.ref a11, .int i1, .int i2, .int i3, .int i4, .int i5, .int i6, .int i7])), (a11, .inl (cB, 1600, .inl xF9))]) hD hS hA [6, 7] rfl
  refine va_callv (va_runV (As := [.ref sa80]) (rest := []) ⟨hx, hb, hml, hown, hwd⟩ (s_X10_takeWord l dC dI cI cZ cB cJ cM cG a10 a11 i1 i2 i3 i4 i5 i6 i7 xF9 sa80 sav80 sn80 sf80 s.heap.size (show (0 : Int) ≤ i1.toInt ∧ i1.toInt ≤ 1600 from p_1) (show (0 : Int) ≤ i5.toInt ∧ i5.toInt ≤ 1600 from p_2) (show (0 : Int) ≤ i6.toInt ∧ i6.toInt ≤ 1600 from p_3)) (cwV 1 hwd (gV kr23_15 kr19_15 kr19_16 kr5_12 kr19_17) rfl rfl rfl (by decide +kernel) ⟨Nat.le_of_ble_eq_true rfl, Nat.le_of_ble_eq_true rfl⟩) (kPreVX hPc hK hDc (NS_st _ _ _ _) hN80 hS hFc (ci := 10) (q0 := 0) rfl rfl) rfl rfl hl.1 rfl (lv_room (Nat.le_of_ble_eq_true rfl)) dX1_readLever_3 ⟨Nat.le_of_ble_eq_true rfl, Nat.le_of_ble_eq_true rfl⟩) hS (fun q _ h => hFc q h) hFc (fun u2 t H1 locs ht9 hvm hw hB hz1 hk1 hS => ?_)
  obtain ⟨u3, U3, V3⟩ := u2
  obtain ⟨hw4, hw5, -⟩ := hw
  replace hw4 : (0 : Int) ≤ (u3 3).toInt ∧ (u3 3).toInt ≤ 1600 := hw4
  replace hw5 : (0 : Int) ≤ (u3 4).toInt ∧ (u3 4).toInt ≤ 1600 := hw5
  obtain ⟨hP1, hD1⟩ := hB
  rw [ht9] at hP1
  obtain ⟨hP, hD⟩ := va_join (wr := [(a0, .inr (1, [.int i0, .ref a1, .ref a2, .ref a3, .ref a4, .ref a5, .ref a6, .ref a7, .ref a8, .ref a9])), (a2, .inl (cI, 10, .inl xF1)), (a3, .inl (cI, 10, .inl xF2)), (a4, .inl (cI, 10, .inl xF3)), (a5, .inl (cI, 10, .inl xF4)), (a6, .inl (cI, 10, .inl xF5))]) (w1 := [(a10, .inr (10, [.ref a11, .int i1, .int (u3 0), .int (u3 1), .int (u3 2), .int (u3 3), .int (u3 4), .int (u3 5)])), (a11, .inl (cB, 1600, .inl xF9))]) hP hD [6, 7] [0, 1, 2, 3, 4, 5] rfl rfl (by decide) (by decide) hk1 hFc hP1 hD1
  generalize H1 = H at hP hS ⊢
  replace hP : va_P (dC, dI) vwCl [(a0, .inr (1, [.int i0, .ref a1, .ref a2, .ref a3, .ref a4, .ref a5, .ref a6, .ref a7, .ref a8, .ref a9])), (a2, .inl (cI, 10, .inl xF1)), (a3, .inl (cI, 10, .inl xF2)), (a4, .inl (cI, 10, .inl xF3)), (a5, .inl (cI, 10, .inl xF4)), (a6, .inl (cI, 10, .inl xF5)), (a10, .inr (10, [.ref a11, .int i1, .int (u3 0), .int (u3 1), .int (u3 2), .int (u3 3), .int (u3 4), .int (u3 5)])), (a11, .inl (cB, 1600, .inl xF9))] H := hP
  replace hD : va_D A [(a0, .inr (1, [.int i0, .ref a1, .ref a2, .ref a3, .ref a4, .ref a5, .ref a6, .ref a7, .ref a8, .ref a9])), (a2, .inl (cI, 10, .inl xF1)), (a3, .inl (cI, 10, .inl xF2)), (a4, .inl (cI, 10, .inl xF3)), (a5, .inl (cI, 10, .inl xF4)), (a6, .inl (cI, 10, .inl xF5)), (a10, .inr (10, [.ref a11, .int i1, .int (u3 0), .int (u3 1), .int (u3 2), .int (u3 3), .int (u3 4), .int (u3 5)])), (a11, .inl (cB, 1600, .inl xF9))] := hD
  refine lv_aload_n hx hb dX1_readLever_6 rfl (lv_at hl 0 rfl) ?_
  refine va_get (D := (dC, dI)) (ci := 1) (v := .ref a2) (C := RX1) (T := TX1) (N := 10) hx hb hwd inlX1 hown hK hP 0 rfl rfl 2 (by decide) (hwd _ kr12_17) (fun _ h9 => h9) rfl dX1_readLever_7 ?_
  refine lv_aload_n hx hb dX1_readLever_10 rfl (lv_at hl 0 rfl) ?_
  refine va_get (D := (dC, dI)) (ci := 1) (v := .int i0) (C := RX1) (T := TX1) (N := 10) hx hb hwd inlX1 hown hK hP 0 rfl rfl 0 (by decide) (hwd _ kr12_9) (fun _ h9 => h9) rfl dX1_readLever_11 ?_
  refine lv_aload_n hx hb dX1_readLever_14 rfl (lv_at hl 1 rfl) ?_
  refine lv_iconst (v := 0) hx hb dX1_readLever_15 (by decide) ?_
  refine lv_aload_n hx hb dX1_readLever_16 rfl (lv_at hl 0 rfl) ?_
  refine va_get (D := (dC, dI)) (ci := 1) (v := .int i0) (C := RX1) (T := TX1) (N := 10) hx hb hwd inlX1 hown hK hP 0 rfl rfl 0 (by decide) (hwd _ kr12_9) (fun _ h9 => h9) rfl dX1_readLever_17 ?_
  refine lv_iconst (v := 1) hx hb dX1_readLever_20 (by decide) ?_
  refine lv_isub hx hb dX1_readLever_21 ?_
  refine lv_topi (fun x6 ex6 => ?_)
  have tx6 := ia_sub (a := i0) (b := (1 : Int32)) (by omega) (by omega)
  rw [← ex6] at tx6
  have hPc := hP.sub (ws' := [(a10, .inr (10, [.ref a11, .int i1, .int (u3 0), .int (u3 1), .int (u3 2), .int (u3 3), .int (u3 4), .int (u3 5)])), (a11, .inl (cB, 1600, .inl xF9))]) [6, 7] rfl
  have hDc := hD.sub (ws' := [(a10, .inr (10, [.ref a11, .int i1, .int (u3 0), .int (u3 1), .int (u3 2), .int (u3 3), .int (u3 4), .int (u3 5)])), (a11, .inl (cB, 1600, .inl xF9))]) [6, 7] (by decide) rfl
  have hFc := va_free (wc := [(a10, .inr (10, [.ref a11, .int i1, .int (u3 0), .int (u3 1), .int (u3 2), .int (u3 3), .int (u3 4), .int (u3 5)])), (a11, .inl (cB, 1600, .inl xF9))]) hD hS hA [6, 7] rfl
  refine va_calli (va_runV (As := [.int 0, .int x6]) (rest := [.int i0, .ref a2]) ⟨hx, hb, hml, hown, hwd⟩ (s_X10_takeNumber l dC dI cI cZ cB cJ cM cG a10 a11 i1 (u3 0) (u3 1) (u3 2) (u3 3) (u3 4) (u3 5) xF9 0 x6 H.size (show (0 : Int) ≤ i1.toInt ∧ i1.toInt ≤ 1600 from p_1) (show (0 : Int) ≤ (u3 3).toInt ∧ (u3 3).toInt ≤ 1600 from hw4) (show (0 : Int) ≤ (u3 4).toInt ∧ (u3 4).toInt ≤ 1600 from hw5)) (cwV 2 hwd (gV kr23_16 kr21_22 kr21_23 kr5_12 kr22_0) rfl rfl rfl (by decide +kernel) ⟨Nat.le_of_ble_eq_true rfl, Nat.le_of_ble_eq_true rfl⟩) (kPreV hPc hK hDc (ci := 10) (q0 := 0) rfl rfl) rfl rfl hl.1 rfl (lv_room (Nat.le_of_ble_eq_true rfl)) dX1_readLever_22 ⟨Nat.le_of_ble_eq_true rfl, Nat.le_of_ble_eq_true rfl⟩) hS (fun q _ h => hFc q h) hFc (fun r7 u8 t H1 locs ht9 hvm hw hB hz1 hk1 hS => ?_)
  obtain ⟨u9, U9, V9⟩ := u8
  obtain ⟨hw10, hw11, hw12, -⟩ := hw
  replace hw10 : (0 : Int32).toInt ≤ r7.toInt ∧ (r7.toInt ≤ (0 : Int32).toInt ∨ r7.toInt ≤ x6.toInt) := hw10
  replace hw11 : (0 : Int) ≤ (u9 3).toInt ∧ (u9 3).toInt ≤ 1600 := hw11
  replace hw12 : (0 : Int) ≤ (u9 4).toInt ∧ (u9 4).toInt ≤ 1600 := hw12
  obtain ⟨hP1, hD1⟩ := hB
  rw [ht9] at hP1
  obtain ⟨hP, hD⟩ := va_join (wr := [(a0, .inr (1, [.int i0, .ref a1, .ref a2, .ref a3, .ref a4, .ref a5, .ref a6, .ref a7, .ref a8, .ref a9])), (a2, .inl (cI, 10, .inl xF1)), (a3, .inl (cI, 10, .inl xF2)), (a4, .inl (cI, 10, .inl xF3)), (a5, .inl (cI, 10, .inl xF4)), (a6, .inl (cI, 10, .inl xF5))]) (w1 := [(a10, .inr (10, [.ref a11, .int i1, .int (u9 0), .int (u9 1), .int (u9 2), .int (u9 3), .int (u9 4), .int (u9 5)])), (a11, .inl (cB, 1600, .inl xF9))]) hP hD [6, 7] [0, 1, 2, 3, 4, 5] rfl rfl (by decide) (by decide) hk1 hFc hP1 hD1
  generalize H1 = H at hP hS ⊢
  replace hP : va_P (dC, dI) vwCl [(a0, .inr (1, [.int i0, .ref a1, .ref a2, .ref a3, .ref a4, .ref a5, .ref a6, .ref a7, .ref a8, .ref a9])), (a2, .inl (cI, 10, .inl xF1)), (a3, .inl (cI, 10, .inl xF2)), (a4, .inl (cI, 10, .inl xF3)), (a5, .inl (cI, 10, .inl xF4)), (a6, .inl (cI, 10, .inl xF5)), (a10, .inr (10, [.ref a11, .int i1, .int (u9 0), .int (u9 1), .int (u9 2), .int (u9 3), .int (u9 4), .int (u9 5)])), (a11, .inl (cB, 1600, .inl xF9))] H := hP
  replace hD : va_D A [(a0, .inr (1, [.int i0, .ref a1, .ref a2, .ref a3, .ref a4, .ref a5, .ref a6, .ref a7, .ref a8, .ref a9])), (a2, .inl (cI, 10, .inl xF1)), (a3, .inl (cI, 10, .inl xF2)), (a4, .inl (cI, 10, .inl xF3)), (a5, .inl (cI, 10, .inl xF4)), (a6, .inl (cI, 10, .inl xF5)), (a10, .inr (10, [.ref a11, .int i1, .int (u9 0), .int (u9 1), .int (u9 2), .int (u9 3), .int (u9 4), .int (u9 5)])), (a11, .inl (cB, 1600, .inl xF9))] := hD
  refine va_iast hx hb hK hP hD hS 1 0 rfl rfl (vp_of (by omega) (by omega)) dX1_readLever_25 (fun H locs hP hD hS => ?_)
  obtain ⟨f13, ef13⟩ : ∃ f, f = upd xF1 i0.toNatClampNeg r7 := ⟨_, rfl⟩
  replace hP : va_P (dC, dI) vwCl [(a0, .inr (1, [.int i0, .ref a1, .ref a2, .ref a3, .ref a4, .ref a5, .ref a6, .ref a7, .ref a8, .ref a9])), (a2, .inl (cI, 10, .inl f13)), (a3, .inl (cI, 10, .inl xF2)), (a4, .inl (cI, 10, .inl xF3)), (a5, .inl (cI, 10, .inl xF4)), (a6, .inl (cI, 10, .inl xF5)), (a10, .inr (10, [.ref a11, .int i1, .int (u9 0), .int (u9 1), .int (u9 2), .int (u9 3), .int (u9 4), .int (u9 5)])), (a11, .inl (cB, 1600, .inl xF9))] H := by rw [ef13]; exact hP
  replace hD : va_D A [(a0, .inr (1, [.int i0, .ref a1, .ref a2, .ref a3, .ref a4, .ref a5, .ref a6, .ref a7, .ref a8, .ref a9])), (a2, .inl (cI, 10, .inl f13)), (a3, .inl (cI, 10, .inl xF2)), (a4, .inl (cI, 10, .inl xF3)), (a5, .inl (cI, 10, .inl xF4)), (a6, .inl (cI, 10, .inl xF5)), (a10, .inr (10, [.ref a11, .int i1, .int (u9 0), .int (u9 1), .int (u9 2), .int (u9 3), .int (u9 4), .int (u9 5)])), (a11, .inl (cB, 1600, .inl xF9))] := by rw [ef13]; exact hD
  refine lv_aload_n hx hb dX1_readLever_26 rfl (lv_at hl 0 rfl) ?_
  refine va_get (D := (dC, dI)) (ci := 1) (v := .ref a3) (C := RX1) (T := TX1) (N := 10) hx hb hwd inlX1 hown hK hP 0 rfl rfl 3 (by decide) (hwd _ kr12_20) (fun _ h9 => h9) rfl dX1_readLever_27 ?_
  refine lv_aload_n hx hb dX1_readLever_30 rfl (lv_at hl 0 rfl) ?_
  refine va_get (D := (dC, dI)) (ci := 1) (v := .int i0) (C := RX1) (T := TX1) (N := 10) hx hb hwd inlX1 hown hK hP 0 rfl rfl 0 (by decide) (hwd _ kr12_9) (fun _ h9 => h9) rfl dX1_readLever_31 ?_
  refine lv_aload_n hx hb dX1_readLever_34 rfl (lv_at hl 1 rfl) ?_
  refine lv_iconst (v := 1) hx hb dX1_readLever_35 (by decide) ?_
  refine lv_bipush (v := 9) hx hb dX1_readLever_36 (by decide) ?_
  have hPc := hP.sub (ws' := [(a10, .inr (10, [.ref a11, .int i1, .int (u9 0), .int (u9 1), .int (u9 2), .int (u9 3), .int (u9 4), .int (u9 5)])), (a11, .inl (cB, 1600, .inl xF9))]) [6, 7] rfl
  have hDc := hD.sub (ws' := [(a10, .inr (10, [.ref a11, .int i1, .int (u9 0), .int (u9 1), .int (u9 2), .int (u9 3), .int (u9 4), .int (u9 5)])), (a11, .inl (cB, 1600, .inl xF9))]) [6, 7] (by decide) rfl
  have hFc := va_free (wc := [(a10, .inr (10, [.ref a11, .int i1, .int (u9 0), .int (u9 1), .int (u9 2), .int (u9 3), .int (u9 4), .int (u9 5)])), (a11, .inl (cB, 1600, .inl xF9))]) hD hS hA [6, 7] rfl
  refine va_calli (va_runV (As := [.int 1, .int 9]) (rest := [.int i0, .ref a3]) ⟨hx, hb, hml, hown, hwd⟩ (s_X10_takeNumber l dC dI cI cZ cB cJ cM cG a10 a11 i1 (u9 0) (u9 1) (u9 2) (u9 3) (u9 4) (u9 5) xF9 1 9 H.size (show (0 : Int) ≤ i1.toInt ∧ i1.toInt ≤ 1600 from p_1) (show (0 : Int) ≤ (u9 3).toInt ∧ (u9 3).toInt ≤ 1600 from hw11) (show (0 : Int) ≤ (u9 4).toInt ∧ (u9 4).toInt ≤ 1600 from hw12)) (cwV 2 hwd (gV kr23_16 kr21_22 kr21_23 kr5_12 kr22_0) rfl rfl rfl (by decide +kernel) ⟨Nat.le_of_ble_eq_true rfl, Nat.le_of_ble_eq_true rfl⟩) (kPreV hPc hK hDc (ci := 10) (q0 := 0) rfl rfl) rfl rfl hl.1 rfl (lv_room (Nat.le_of_ble_eq_true rfl)) dX1_readLever_38 ⟨Nat.le_of_ble_eq_true rfl, Nat.le_of_ble_eq_true rfl⟩) hS (fun q _ h => hFc q h) hFc (fun r14 u15 t H1 locs ht9 hvm hw hB hz1 hk1 hS => ?_)
  obtain ⟨u16, U16, V16⟩ := u15
  obtain ⟨hw17, hw18, hw19, -⟩ := hw
  replace hw17 : (1 : Int32).toInt ≤ r14.toInt ∧ (r14.toInt ≤ (1 : Int32).toInt ∨ r14.toInt ≤ (9 : Int32).toInt) := hw17
  replace hw18 : (0 : Int) ≤ (u16 3).toInt ∧ (u16 3).toInt ≤ 1600 := hw18
  replace hw19 : (0 : Int) ≤ (u16 4).toInt ∧ (u16 4).toInt ≤ 1600 := hw19
  obtain ⟨hP1, hD1⟩ := hB
  rw [ht9] at hP1
  obtain ⟨hP, hD⟩ := va_join (wr := [(a0, .inr (1, [.int i0, .ref a1, .ref a2, .ref a3, .ref a4, .ref a5, .ref a6, .ref a7, .ref a8, .ref a9])), (a2, .inl (cI, 10, .inl f13)), (a3, .inl (cI, 10, .inl xF2)), (a4, .inl (cI, 10, .inl xF3)), (a5, .inl (cI, 10, .inl xF4)), (a6, .inl (cI, 10, .inl xF5))]) (w1 := [(a10, .inr (10, [.ref a11, .int i1, .int (u16 0), .int (u16 1), .int (u16 2), .int (u16 3), .int (u16 4), .int (u16 5)])), (a11, .inl (cB, 1600, .inl xF9))]) hP hD [6, 7] [0, 1, 2, 3, 4, 5] rfl rfl (by decide) (by decide) hk1 hFc hP1 hD1
  generalize H1 = H at hP hS ⊢
  replace hP : va_P (dC, dI) vwCl [(a0, .inr (1, [.int i0, .ref a1, .ref a2, .ref a3, .ref a4, .ref a5, .ref a6, .ref a7, .ref a8, .ref a9])), (a2, .inl (cI, 10, .inl f13)), (a3, .inl (cI, 10, .inl xF2)), (a4, .inl (cI, 10, .inl xF3)), (a5, .inl (cI, 10, .inl xF4)), (a6, .inl (cI, 10, .inl xF5)), (a10, .inr (10, [.ref a11, .int i1, .int (u16 0), .int (u16 1), .int (u16 2), .int (u16 3), .int (u16 4), .int (u16 5)])), (a11, .inl (cB, 1600, .inl xF9))] H := hP
  replace hD : va_D A [(a0, .inr (1, [.int i0, .ref a1, .ref a2, .ref a3, .ref a4, .ref a5, .ref a6, .ref a7, .ref a8, .ref a9])), (a2, .inl (cI, 10, .inl f13)), (a3, .inl (cI, 10, .inl xF2)), (a4, .inl (cI, 10, .inl xF3)), (a5, .inl (cI, 10, .inl xF4)), (a6, .inl (cI, 10, .inl xF5)), (a10, .inr (10, [.ref a11, .int i1, .int (u16 0), .int (u16 1), .int (u16 2), .int (u16 3), .int (u16 4), .int (u16 5)])), (a11, .inl (cB, 1600, .inl xF9))] := hD
  refine va_iast hx hb hK hP hD hS 2 0 rfl rfl (vp_of (by omega) (by omega)) dX1_readLever_41 (fun H locs hP hD hS => ?_)
  obtain ⟨f20, ef20⟩ : ∃ f, f = upd xF2 i0.toNatClampNeg r14 := ⟨_, rfl⟩
  have rf20 : rng f20 10 0 9 := by rw [ef20]; exact rng_upd (rng_mono p_0 (by omega) (by omega)) (by omega) (by omega)
  replace hP : va_P (dC, dI) vwCl [(a0, .inr (1, [.int i0, .ref a1, .ref a2, .ref a3, .ref a4, .ref a5, .ref a6, .ref a7, .ref a8, .ref a9])), (a2, .inl (cI, 10, .inl f13)), (a3, .inl (cI, 10, .inl f20)), (a4, .inl (cI, 10, .inl xF3)), (a5, .inl (cI, 10, .inl xF4)), (a6, .inl (cI, 10, .inl xF5)), (a10, .inr (10, [.ref a11, .int i1, .int (u16 0), .int (u16 1), .int (u16 2), .int (u16 3), .int (u16 4), .int (u16 5)])), (a11, .inl (cB, 1600, .inl xF9))] H := by rw [ef20]; exact hP
  replace hD : va_D A [(a0, .inr (1, [.int i0, .ref a1, .ref a2, .ref a3, .ref a4, .ref a5, .ref a6, .ref a7, .ref a8, .ref a9])), (a2, .inl (cI, 10, .inl f13)), (a3, .inl (cI, 10, .inl f20)), (a4, .inl (cI, 10, .inl xF3)), (a5, .inl (cI, 10, .inl xF4)), (a6, .inl (cI, 10, .inl xF5)), (a10, .inr (10, [.ref a11, .int i1, .int (u16 0), .int (u16 1), .int (u16 2), .int (u16 3), .int (u16 4), .int (u16 5)])), (a11, .inl (cB, 1600, .inl xF9))] := by rw [ef20]; exact hD
  refine lv_aload_n hx hb dX1_readLever_42 rfl (lv_at hl 1 rfl) ?_
  refine va_ldcS hx hb hown hR87 dX1_readLever_43 ?_
  have hPc := hP.sub (ws' := [(a10, .inr (10, [.ref a11, .int i1, .int (u16 0), .int (u16 1), .int (u16 2), .int (u16 3), .int (u16 4), .int (u16 5)])), (a11, .inl (cB, 1600, .inl xF9))]) [6, 7] rfl
  have hDc := hD.sub (ws' := [(a10, .inr (10, [.ref a11, .int i1, .int (u16 0), .int (u16 1), .int (u16 2), .int (u16 3), .int (u16 4), .int (u16 5)])), (a11, .inl (cB, 1600, .inl xF9))]) [6, 7] (by decide) rfl
  have hFc := va_free (wc := [(a10, .inr (10, [.ref a11, .int i1, .int (u16 0), .int (u16 1), .int (u16 2), .int (u16 3), .int (u16 4), .int (u16 5)])), (a11, .inl (cB, 1600, .inl xF9))]) hD hS hA [6, 7] rfl
  refine va_callv (va_runV (As := [.ref sa87]) (rest := []) ⟨hx, hb, hml, hown, hwd⟩ (s_X10_takeWord l dC dI cI cZ cB cJ cM cG a10 a11 i1 (u16 0) (u16 1) (u16 2) (u16 3) (u16 4) (u16 5) xF9 sa87 sav87 sn87 sf87 H.size (show (0 : Int) ≤ i1.toInt ∧ i1.toInt ≤ 1600 from p_1) (show (0 : Int) ≤ (u16 3).toInt ∧ (u16 3).toInt ≤ 1600 from hw18) (show (0 : Int) ≤ (u16 4).toInt ∧ (u16 4).toInt ≤ 1600 from hw19)) (cwV 1 hwd (gV kr23_15 kr19_15 kr19_16 kr5_12 kr19_17) rfl rfl rfl (by decide +kernel) ⟨Nat.le_of_ble_eq_true rfl, Nat.le_of_ble_eq_true rfl⟩) (kPreVX hPc hK hDc (NS_st _ _ _ _) hN87 hS hFc (ci := 10) (q0 := 0) rfl rfl) rfl rfl hl.1 rfl (lv_room (Nat.le_of_ble_eq_true rfl)) dX1_readLever_45 ⟨Nat.le_of_ble_eq_true rfl, Nat.le_of_ble_eq_true rfl⟩) hS (fun q _ h => hFc q h) hFc (fun u22 t H1 locs ht9 hvm hw hB hz1 hk1 hS => ?_)
  obtain ⟨u23, U23, V23⟩ := u22
  obtain ⟨hw24, hw25, -⟩ := hw
  replace hw24 : (0 : Int) ≤ (u23 3).toInt ∧ (u23 3).toInt ≤ 1600 := hw24
  replace hw25 : (0 : Int) ≤ (u23 4).toInt ∧ (u23 4).toInt ≤ 1600 := hw25
  obtain ⟨hP1, hD1⟩ := hB
  rw [ht9] at hP1
  obtain ⟨hP, hD⟩ := va_join (wr := [(a0, .inr (1, [.int i0, .ref a1, .ref a2, .ref a3, .ref a4, .ref a5, .ref a6, .ref a7, .ref a8, .ref a9])), (a2, .inl (cI, 10, .inl f13)), (a3, .inl (cI, 10, .inl f20)), (a4, .inl (cI, 10, .inl xF3)), (a5, .inl (cI, 10, .inl xF4)), (a6, .inl (cI, 10, .inl xF5))]) (w1 := [(a10, .inr (10, [.ref a11, .int i1, .int (u23 0), .int (u23 1), .int (u23 2), .int (u23 3), .int (u23 4), .int (u23 5)])), (a11, .inl (cB, 1600, .inl xF9))]) hP hD [6, 7] [0, 1, 2, 3, 4, 5] rfl rfl (by decide) (by decide) hk1 hFc hP1 hD1
  generalize H1 = H at hP hS ⊢
  replace hP : va_P (dC, dI) vwCl [(a0, .inr (1, [.int i0, .ref a1, .ref a2, .ref a3, .ref a4, .ref a5, .ref a6, .ref a7, .ref a8, .ref a9])), (a2, .inl (cI, 10, .inl f13)), (a3, .inl (cI, 10, .inl f20)), (a4, .inl (cI, 10, .inl xF3)), (a5, .inl (cI, 10, .inl xF4)), (a6, .inl (cI, 10, .inl xF5)), (a10, .inr (10, [.ref a11, .int i1, .int (u23 0), .int (u23 1), .int (u23 2), .int (u23 3), .int (u23 4), .int (u23 5)])), (a11, .inl (cB, 1600, .inl xF9))] H := hP
  replace hD : va_D A [(a0, .inr (1, [.int i0, .ref a1, .ref a2, .ref a3, .ref a4, .ref a5, .ref a6, .ref a7, .ref a8, .ref a9])), (a2, .inl (cI, 10, .inl f13)), (a3, .inl (cI, 10, .inl f20)), (a4, .inl (cI, 10, .inl xF3)), (a5, .inl (cI, 10, .inl xF4)), (a6, .inl (cI, 10, .inl xF5)), (a10, .inr (10, [.ref a11, .int i1, .int (u23 0), .int (u23 1), .int (u23 2), .int (u23 3), .int (u23 4), .int (u23 5)])), (a11, .inl (cB, 1600, .inl xF9))] := hD
  refine lv_aload_n hx hb dX1_readLever_48 rfl (lv_at hl 0 rfl) ?_
  refine va_get (D := (dC, dI)) (ci := 1) (v := .ref a4) (C := RX1) (T := TX1) (N := 10) hx hb hwd inlX1 hown hK hP 0 rfl rfl 4 (by decide) (hwd _ kr12_22) (fun _ h9 => h9) rfl dX1_readLever_49 ?_
  refine lv_aload_n hx hb dX1_readLever_52 rfl (lv_at hl 0 rfl) ?_
  refine va_get (D := (dC, dI)) (ci := 1) (v := .int i0) (C := RX1) (T := TX1) (N := 10) hx hb hwd inlX1 hown hK hP 0 rfl rfl 0 (by decide) (hwd _ kr12_9) (fun _ h9 => h9) rfl dX1_readLever_53 ?_
  refine lv_aload_n hx hb dX1_readLever_56 rfl (lv_at hl 1 rfl) ?_
  refine lv_iconst (v := 1) hx hb dX1_readLever_57 (by decide) ?_
  refine lv_bipush (v := 9) hx hb dX1_readLever_58 (by decide) ?_
  have hPc := hP.sub (ws' := [(a10, .inr (10, [.ref a11, .int i1, .int (u23 0), .int (u23 1), .int (u23 2), .int (u23 3), .int (u23 4), .int (u23 5)])), (a11, .inl (cB, 1600, .inl xF9))]) [6, 7] rfl
  have hDc := hD.sub (ws' := [(a10, .inr (10, [.ref a11, .int i1, .int (u23 0), .int (u23 1), .int (u23 2), .int (u23 3), .int (u23 4), .int (u23 5)])), (a11, .inl (cB, 1600, .inl xF9))]) [6, 7] (by decide) rfl
  have hFc := va_free (wc := [(a10, .inr (10, [.ref a11, .int i1, .int (u23 0), .int (u23 1), .int (u23 2), .int (u23 3), .int (u23 4), .int (u23 5)])), (a11, .inl (cB, 1600, .inl xF9))]) hD hS hA [6, 7] rfl
  refine va_calli (va_runV (As := [.int 1, .int 9]) (rest := [.int i0, .ref a4]) ⟨hx, hb, hml, hown, hwd⟩ (s_X10_takeNumber l dC dI cI cZ cB cJ cM cG a10 a11 i1 (u23 0) (u23 1) (u23 2) (u23 3) (u23 4) (u23 5) xF9 1 9 H.size (show (0 : Int) ≤ i1.toInt ∧ i1.toInt ≤ 1600 from p_1) (show (0 : Int) ≤ (u23 3).toInt ∧ (u23 3).toInt ≤ 1600 from hw24) (show (0 : Int) ≤ (u23 4).toInt ∧ (u23 4).toInt ≤ 1600 from hw25)) (cwV 2 hwd (gV kr23_16 kr21_22 kr21_23 kr5_12 kr22_0) rfl rfl rfl (by decide +kernel) ⟨Nat.le_of_ble_eq_true rfl, Nat.le_of_ble_eq_true rfl⟩) (kPreV hPc hK hDc (ci := 10) (q0 := 0) rfl rfl) rfl rfl hl.1 rfl (lv_room (Nat.le_of_ble_eq_true rfl)) dX1_readLever_60 ⟨Nat.le_of_ble_eq_true rfl, Nat.le_of_ble_eq_true rfl⟩) hS (fun q _ h => hFc q h) hFc (fun r26 u27 t H1 locs ht9 hvm hw hB hz1 hk1 hS => ?_)
  obtain ⟨u28, U28, V28⟩ := u27
  obtain ⟨hw29, hw30, hw31, -⟩ := hw
  replace hw29 : (1 : Int32).toInt ≤ r26.toInt ∧ (r26.toInt ≤ (1 : Int32).toInt ∨ r26.toInt ≤ (9 : Int32).toInt) := hw29
  replace hw30 : (0 : Int) ≤ (u28 3).toInt ∧ (u28 3).toInt ≤ 1600 := hw30
  replace hw31 : (0 : Int) ≤ (u28 4).toInt ∧ (u28 4).toInt ≤ 1600 := hw31
  obtain ⟨hP1, hD1⟩ := hB
  rw [ht9] at hP1
  obtain ⟨hP, hD⟩ := va_join (wr := [(a0, .inr (1, [.int i0, .ref a1, .ref a2, .ref a3, .ref a4, .ref a5, .ref a6, .ref a7, .ref a8, .ref a9])), (a2, .inl (cI, 10, .inl f13)), (a3, .inl (cI, 10, .inl f20)), (a4, .inl (cI, 10, .inl xF3)), (a5, .inl (cI, 10, .inl xF4)), (a6, .inl (cI, 10, .inl xF5))]) (w1 := [(a10, .inr (10, [.ref a11, .int i1, .int (u28 0), .int (u28 1), .int (u28 2), .int (u28 3), .int (u28 4), .int (u28 5)])), (a11, .inl (cB, 1600, .inl xF9))]) hP hD [6, 7] [0, 1, 2, 3, 4, 5] rfl rfl (by decide) (by decide) hk1 hFc hP1 hD1
  generalize H1 = H at hP hS ⊢
  replace hP : va_P (dC, dI) vwCl [(a0, .inr (1, [.int i0, .ref a1, .ref a2, .ref a3, .ref a4, .ref a5, .ref a6, .ref a7, .ref a8, .ref a9])), (a2, .inl (cI, 10, .inl f13)), (a3, .inl (cI, 10, .inl f20)), (a4, .inl (cI, 10, .inl xF3)), (a5, .inl (cI, 10, .inl xF4)), (a6, .inl (cI, 10, .inl xF5)), (a10, .inr (10, [.ref a11, .int i1, .int (u28 0), .int (u28 1), .int (u28 2), .int (u28 3), .int (u28 4), .int (u28 5)])), (a11, .inl (cB, 1600, .inl xF9))] H := hP
  replace hD : va_D A [(a0, .inr (1, [.int i0, .ref a1, .ref a2, .ref a3, .ref a4, .ref a5, .ref a6, .ref a7, .ref a8, .ref a9])), (a2, .inl (cI, 10, .inl f13)), (a3, .inl (cI, 10, .inl f20)), (a4, .inl (cI, 10, .inl xF3)), (a5, .inl (cI, 10, .inl xF4)), (a6, .inl (cI, 10, .inl xF5)), (a10, .inr (10, [.ref a11, .int i1, .int (u28 0), .int (u28 1), .int (u28 2), .int (u28 3), .int (u28 4), .int (u28 5)])), (a11, .inl (cB, 1600, .inl xF9))] := hD
  refine va_iast hx hb hK hP hD hS 3 0 rfl rfl (vp_of (by omega) (by omega)) dX1_readLever_63 (fun H locs hP hD hS => ?_)
  obtain ⟨f32, ef32⟩ : ∃ f, f = upd xF3 i0.toNatClampNeg r26 := ⟨_, rfl⟩
  replace hP : va_P (dC, dI) vwCl [(a0, .inr (1, [.int i0, .ref a1, .ref a2, .ref a3, .ref a4, .ref a5, .ref a6, .ref a7, .ref a8, .ref a9])), (a2, .inl (cI, 10, .inl f13)), (a3, .inl (cI, 10, .inl f20)), (a4, .inl (cI, 10, .inl f32)), (a5, .inl (cI, 10, .inl xF4)), (a6, .inl (cI, 10, .inl xF5)), (a10, .inr (10, [.ref a11, .int i1, .int (u28 0), .int (u28 1), .int (u28 2), .int (u28 3), .int (u28 4), .int (u28 5)])), (a11, .inl (cB, 1600, .inl xF9))] H := by rw [ef32]; exact hP
  replace hD : va_D A [(a0, .inr (1, [.int i0, .ref a1, .ref a2, .ref a3, .ref a4, .ref a5, .ref a6, .ref a7, .ref a8, .ref a9])), (a2, .inl (cI, 10, .inl f13)), (a3, .inl (cI, 10, .inl f20)), (a4, .inl (cI, 10, .inl f32)), (a5, .inl (cI, 10, .inl xF4)), (a6, .inl (cI, 10, .inl xF5)), (a10, .inr (10, [.ref a11, .int i1, .int (u28 0), .int (u28 1), .int (u28 2), .int (u28 3), .int (u28 4), .int (u28 5)])), (a11, .inl (cB, 1600, .inl xF9))] := by rw [ef32]; exact hD
  refine lv_aload_n hx hb dX1_readLever_64 rfl (lv_at hl 0 rfl) ?_
  refine va_get (D := (dC, dI)) (ci := 1) (v := .ref a5) (C := RX1) (T := TX1) (N := 10) hx hb hwd inlX1 hown hK hP 0 rfl rfl 5 (by decide) (hwd _ kr12_23) (fun _ h9 => h9) rfl dX1_readLever_65 ?_
  refine lv_aload_n hx hb dX1_readLever_68 rfl (lv_at hl 0 rfl) ?_
  refine va_get (D := (dC, dI)) (ci := 1) (v := .int i0) (C := RX1) (T := TX1) (N := 10) hx hb hwd inlX1 hown hK hP 0 rfl rfl 0 (by decide) (hwd _ kr12_9) (fun _ h9 => h9) rfl dX1_readLever_69 ?_
  refine lv_iconst (v := 1) hx hb dX1_readLever_72 (by decide) ?_
  refine va_iast hx hb hK hP hD hS 4 0 rfl rfl (vp_of (by omega) (by omega)) dX1_readLever_73 (fun H locs hP hD hS => ?_)
  obtain ⟨f33, ef33⟩ : ∃ f, f = upd xF4 i0.toNatClampNeg (1 : Int32) := ⟨_, rfl⟩
  replace hP : va_P (dC, dI) vwCl [(a0, .inr (1, [.int i0, .ref a1, .ref a2, .ref a3, .ref a4, .ref a5, .ref a6, .ref a7, .ref a8, .ref a9])), (a2, .inl (cI, 10, .inl f13)), (a3, .inl (cI, 10, .inl f20)), (a4, .inl (cI, 10, .inl f32)), (a5, .inl (cI, 10, .inl f33)), (a6, .inl (cI, 10, .inl xF5)), (a10, .inr (10, [.ref a11, .int i1, .int (u28 0), .int (u28 1), .int (u28 2), .int (u28 3), .int (u28 4), .int (u28 5)])), (a11, .inl (cB, 1600, .inl xF9))] H := by rw [ef33]; exact hP
  replace hD : va_D A [(a0, .inr (1, [.int i0, .ref a1, .ref a2, .ref a3, .ref a4, .ref a5, .ref a6, .ref a7, .ref a8, .ref a9])), (a2, .inl (cI, 10, .inl f13)), (a3, .inl (cI, 10, .inl f20)), (a4, .inl (cI, 10, .inl f32)), (a5, .inl (cI, 10, .inl f33)), (a6, .inl (cI, 10, .inl xF5)), (a10, .inr (10, [.ref a11, .int i1, .int (u28 0), .int (u28 1), .int (u28 2), .int (u28 3), .int (u28 4), .int (u28 5)])), (a11, .inl (cB, 1600, .inl xF9))] := by rw [ef33]; exact hD
  refine lv_aload_n hx hb dX1_readLever_74 rfl (lv_at hl 0 rfl) ?_
  refine va_get (D := (dC, dI)) (ci := 1) (v := .ref a6) (C := RX1) (T := TX1) (N := 10) hx hb hwd inlX1 hown hK hP 0 rfl rfl 6 (by decide) (hwd _ kr13_1) (fun _ h9 => h9) rfl dX1_readLever_75 ?_
  refine lv_aload_n hx hb dX1_readLever_78 rfl (lv_at hl 0 rfl) ?_
  refine va_get (D := (dC, dI)) (ci := 1) (v := .int i0) (C := RX1) (T := TX1) (N := 10) hx hb hwd inlX1 hown hK hP 0 rfl rfl 0 (by decide) (hwd _ kr12_9) (fun _ h9 => h9) rfl dX1_readLever_79 ?_
  refine lv_iconst (v := 0) hx hb dX1_readLever_82 (by decide) ?_
  refine va_iast hx hb hK hP hD hS 5 0 rfl rfl (vp_of (by omega) (by omega)) dX1_readLever_83 (fun H locs hP hD hS => ?_)
  obtain ⟨f34, ef34⟩ : ∃ f, f = upd xF5 i0.toNatClampNeg (0 : Int32) := ⟨_, rfl⟩
  replace hP : va_P (dC, dI) vwCl [(a0, .inr (1, [.int i0, .ref a1, .ref a2, .ref a3, .ref a4, .ref a5, .ref a6, .ref a7, .ref a8, .ref a9])), (a2, .inl (cI, 10, .inl f13)), (a3, .inl (cI, 10, .inl f20)), (a4, .inl (cI, 10, .inl f32)), (a5, .inl (cI, 10, .inl f33)), (a6, .inl (cI, 10, .inl f34)), (a10, .inr (10, [.ref a11, .int i1, .int (u28 0), .int (u28 1), .int (u28 2), .int (u28 3), .int (u28 4), .int (u28 5)])), (a11, .inl (cB, 1600, .inl xF9))] H := by rw [ef34]; exact hP
  replace hD : va_D A [(a0, .inr (1, [.int i0, .ref a1, .ref a2, .ref a3, .ref a4, .ref a5, .ref a6, .ref a7, .ref a8, .ref a9])), (a2, .inl (cI, 10, .inl f13)), (a3, .inl (cI, 10, .inl f20)), (a4, .inl (cI, 10, .inl f32)), (a5, .inl (cI, 10, .inl f33)), (a6, .inl (cI, 10, .inl f34)), (a10, .inr (10, [.ref a11, .int i1, .int (u28 0), .int (u28 1), .int (u28 2), .int (u28 3), .int (u28 4), .int (u28 5)])), (a11, .inl (cB, 1600, .inl xF9))] := by rw [ef34]; exact hD
  have hP9 := hP.sub (ws' := [(a0, .inr (1, [.int i0, .ref a1, .ref a2, .ref a3, .ref a4, .ref a5, .ref a6, .ref a7, .ref a8, .ref a9])), (a2, .inl (cI, 10, .inl f13)), (a3, .inl (cI, 10, .inl f20)), (a4, .inl (cI, 10, .inl f32)), (a5, .inl (cI, 10, .inl f33)), (a6, .inl (cI, 10, .inl f34)), (a10, .inr (10, [.ref a11, .int i1, .int (u28 0), .int (u28 1), .int (u28 2), .int (u28 3), .int (u28 4), .int (u28 5)])), (a11, .inl (cB, 1600, .inl xF9))]) [0, 1, 2, 3, 4, 5, 6, 7] rfl
  have hD9 := hD.sub (ws' := [(a0, .inr (1, [.int i0, .ref a1, .ref a2, .ref a3, .ref a4, .ref a5, .ref a6, .ref a7, .ref a8, .ref a9])), (a2, .inl (cI, 10, .inl f13)), (a3, .inl (cI, 10, .inl f20)), (a4, .inl (cI, 10, .inl f32)), (a5, .inl (cI, 10, .inl f33)), (a6, .inl (cI, 10, .inl f34)), (a10, .inr (10, [.ref a11, .int i1, .int (u28 0), .int (u28 1), .int (u28 2), .int (u28 3), .int (u28 4), .int (u28 5)])), (a11, .inl (cB, 1600, .inl xF9))]) [0, 1, 2, 3, 4, 5, 6, 7] (by decide) rfl
  rw [hQ]
  exact W.vret hx hb hr (fun t ht hW => ⟨⟨(pickG 0 [(u28 0), (u28 1), (u28 2), (u28 3), (u28 4), (u28 5)], pickG (fun _ => 0) [f13, f20, f32, f33, f34], pickG (fun _ => 0) []), rfl, ⟨(show rng f20 10 0 9 from rf20), (show (0 : Int) ≤ (u28 3).toInt ∧ (u28 3).toInt ≤ 1600 from hw30), (show (0 : Int) ≤ (u28 4).toInt ∧ (u28 4).toInt ≤ 1600 from hw31), trivial⟩, (by rw [ht]; exact hP9), hD9⟩, hS.F ht⟩) hS.2.2 dX1_readLever_84
theorem dX1_readLine_0 : decode cX1_readLine 0 = .ok (.aload_n 1, 1) := by decide +kernel
theorem dX1_readLine_1 : decode cX1_readLine 1 = .ok (.invokestatic 39, 3) := by decide +kernel
theorem dX1_readLine_4 : decode cX1_readLine 4 = .ok (.istore_n 3, 1) := by decide +kernel
theorem dX1_readLine_5 : decode cX1_readLine 5 = .ok (.iload_n 3, 1) := by decide +kernel
theorem dX1_readLine_6 : decode cX1_readLine 6 = .ok (.iconst (-1), 1) := by decide +kernel
theorem dX1_readLine_7 : decode cX1_readLine 7 = .ok (.if_icmp .ne 9, 3) := by decide +kernel
theorem dX1_readLine_10 : decode cX1_readLine 10 = .ok (.aload_n 1, 1) := by decide +kernel
theorem dX1_readLine_11 : decode cX1_readLine 11 = .ok (.iconst 1, 1) := by decide +kernel
theorem dX1_readLine_12 : decode cX1_readLine 12 = .ok (.invokevirtual 45, 3) := by decide +kernel
theorem dX1_readLine_15 : decode cX1_readLine 15 = .ok (.return_, 1) := by decide +kernel
theorem dX1_readLine_16 : decode cX1_readLine 16 = .ok (.aload_n 0, 1) := by decide +kernel
theorem dX1_readLine_17 : decode cX1_readLine 17 = .ok (.getfield 49, 3) := by decide +kernel
theorem dX1_readLine_20 : decode cX1_readLine 20 = .ok (.bipush 10, 2) := by decide +kernel
theorem dX1_readLine_22 : decode cX1_readLine 22 = .ok (.if_icmp .lt 9, 3) := by decide +kernel
theorem dX1_readLine_25 : decode cX1_readLine 25 = .ok (.aload_n 1, 1) := by decide +kernel
theorem dX1_readLine_26 : decode cX1_readLine 26 = .ok (.iconst 3, 1) := by decide +kernel
theorem dX1_readLine_27 : decode cX1_readLine 27 = .ok (.invokevirtual 45, 3) := by decide +kernel
theorem dX1_readLine_30 : decode cX1_readLine 30 = .ok (.return_, 1) := by decide +kernel
theorem dX1_readLine_31 : decode cX1_readLine 31 = .ok (.aload_n 1, 1) := by decide +kernel
theorem dX1_readLine_32 : decode cX1_readLine 32 = .ok (.invokevirtual 53, 3) := by decide +kernel
theorem dX1_readLine_35 : decode cX1_readLine 35 = .ok (.aload_n 0, 1) := by decide +kernel
theorem dX1_readLine_36 : decode cX1_readLine 36 = .ok (.getfield 9, 3) := by decide +kernel
theorem dX1_readLine_39 : decode cX1_readLine 39 = .ok (.aload_n 0, 1) := by decide +kernel
theorem dX1_readLine_40 : decode cX1_readLine 40 = .ok (.getfield 49, 3) := by decide +kernel
theorem dX1_readLine_43 : decode cX1_readLine 43 = .ok (.iload_n 3, 1) := by decide +kernel
theorem dX1_readLine_44 : decode cX1_readLine 44 = .ok (.iastore, 1) := by decide +kernel
theorem dX1_readLine_45 : decode cX1_readLine 45 = .ok (.iload_n 3, 1) := by decide +kernel
theorem dX1_readLine_46 : decode cX1_readLine 46 = .ok (.iconst 3, 1) := by decide +kernel
theorem dX1_readLine_47 : decode cX1_readLine 47 = .ok (.if_icmp .ne 11, 3) := by decide +kernel
theorem dX1_readLine_50 : decode cX1_readLine 50 = .ok (.aload_n 0, 1) := by decide +kernel
theorem dX1_readLine_51 : decode cX1_readLine 51 = .ok (.aload_n 1, 1) := by decide +kernel
theorem dX1_readLine_52 : decode cX1_readLine 52 = .ok (.invokevirtual 56, 3) := by decide +kernel
theorem dX1_readLine_55 : decode cX1_readLine 55 = .ok (.goto 10, 3) := by decide +kernel
theorem dX1_readLine_58 : decode cX1_readLine 58 = .ok (.aload_n 0, 1) := by decide +kernel
theorem dX1_readLine_59 : decode cX1_readLine 59 = .ok (.aload_n 1, 1) := by decide +kernel
theorem dX1_readLine_60 : decode cX1_readLine 60 = .ok (.iload_n 3, 1) := by decide +kernel
theorem dX1_readLine_61 : decode cX1_readLine 61 = .ok (.iload_n 2, 1) := by decide +kernel
theorem dX1_readLine_62 : decode cX1_readLine 62 = .ok (.invokevirtual 60, 3) := by decide +kernel
theorem dX1_readLine_65 : decode cX1_readLine 65 = .ok (.aload_n 0, 1) := by decide +kernel
theorem dX1_readLine_66 : decode cX1_readLine 66 = .ok (.dup, 1) := by decide +kernel
theorem dX1_readLine_67 : decode cX1_readLine 67 = .ok (.getfield 49, 3) := by decide +kernel
theorem dX1_readLine_70 : decode cX1_readLine 70 = .ok (.iconst 1, 1) := by decide +kernel
theorem dX1_readLine_71 : decode cX1_readLine 71 = .ok (.iadd, 1) := by decide +kernel
theorem dX1_readLine_72 : decode cX1_readLine 72 = .ok (.putfield 49, 3) := by decide +kernel
theorem dX1_readLine_75 : decode cX1_readLine 75 = .ok (.return_, 1) := by decide +kernel
set_option maxHeartbeats 4000000 in
set_option maxRecDepth 100000 in
theorem s_X1_readLine (l : Launch) (dC : Nat → ClassId) (dI : Nat → Nat → Nat) (cI cZ cB cJ cM cG : ClassId) (a0 a1 a2 a3 a4 a5 a6 a7 a8 a9 a10 a11 : Nat) (i0 i1 i2 i3 i4 i5 i6 i7 : Int32) (xF0 xF1 xF2 xF3 xF4 xF5 xF9 : Nat → Int32) (p1 : Int32) (sz : Nat) (p_0 : (0 : Int) ≤ i0.toInt ∧ i0.toInt ≤ 10) (p_1 : rng xF2 10 0 9) (p_2 : (0 : Int) ≤ i1.toInt ∧ i1.toInt ≤ 1600) (p_3 : (0 : Int) ≤ i5.toInt ∧ i5.toInt ≤ 1600) (p_4 : (0 : Int) ≤ i6.toInt ∧ i6.toInt ≤ 1600) : Met l yX1_readLine (kw yX1_readLine cX1_readLine 4 none) ({ frames := 7, cells := 0, slots := 0, locals := 151 } : Room) (va_Pc [.ref a0, .ref a10, .int p1] (kPreX dC dI [(cI, .int), (cZ, .boolean), (cB, .byte), (cJ, .long), (cM, .object RX2), (cG, .array .int)] [(a0, .inr (1, [.int i0, .ref a1, .ref a2, .ref a3, .ref a4, .ref a5, .ref a6, .ref a7, .ref a8, .ref a9])), (a1, .inl (cI, 10, .inl xF0)), (a2, .inl (cI, 10, .inl xF1)), (a3, .inl (cI, 10, .inl xF2)), (a4, .inl (cI, 10, .inl xF3)), (a5, .inl (cI, 10, .inl xF4)), (a6, .inl (cI, 10, .inl xF5)), (a10, .inr (10, [.ref a11, .int i1, .int i2, .int i3, .int i4, .int i5, .int i6, .int i7])), (a11, .inl (cB, 1600, .inl xF9))] sz NT)) (va_Qv (fun (u9 : (Nat → Int32) × (Nat → Nat → Int32) × (Nat → Nat → Int64)) => ((0 : Int) ≤ (u9.1 0).toInt ∧ (u9.1 0).toInt ≤ 10) ∧ (rng (u9.2.1 2) 10 0 9) ∧ ((0 : Int) ≤ (u9.1 4).toInt ∧ (u9.1 4).toInt ≤ 1600) ∧ ((0 : Int) ≤ (u9.1 5).toInt ∧ (u9.1 5).toInt ≤ 1600) ∧ True) (fun u9 t => va_P (dC, dI) vwCl [(a0, .inr (1, [.int (u9.1 0), .ref a1, .ref a2, .ref a3, .ref a4, .ref a5, .ref a6, .ref a7, .ref a8, .ref a9])), (a1, .inl (cI, 10, .inl (u9.2.1 0))), (a2, .inl (cI, 10, .inl (u9.2.1 1))), (a3, .inl (cI, 10, .inl (u9.2.1 2))), (a4, .inl (cI, 10, .inl (u9.2.1 3))), (a5, .inl (cI, 10, .inl (u9.2.1 4))), (a6, .inl (cI, 10, .inl (u9.2.1 5))), (a10, .inr (10, [.ref a11, .int i1, .int (u9.1 1), .int (u9.1 2), .int (u9.1 3), .int (u9.1 4), .int (u9.1 5), .int (u9.1 6)])), (a11, .inl (cB, 1600, .inl xF9))] t.heap ∧ va_D (va_A [(a0, .inr (1, [.int i0, .ref a1, .ref a2, .ref a3, .ref a4, .ref a5, .ref a6, .ref a7, .ref a8, .ref a9])), (a1, .inl (cI, 10, .inl xF0)), (a2, .inl (cI, 10, .inl xF1)), (a3, .inl (cI, 10, .inl xF2)), (a4, .inl (cI, 10, .inl xF3)), (a5, .inl (cI, 10, .inl xF4)), (a6, .inl (cI, 10, .inl xF5)), (a10, .inr (10, [.ref a11, .int i1, .int i2, .int i3, .int i4, .int i5, .int i6, .int i7])), (a11, .inl (cB, 1600, .inl xF9))] sz) [(a0, .inr (1, [.int (u9.1 0), .ref a1, .ref a2, .ref a3, .ref a4, .ref a5, .ref a6, .ref a7, .ref a8, .ref a9])), (a1, .inl (cI, 10, .inl (u9.2.1 0))), (a2, .inl (cI, 10, .inl (u9.2.1 1))), (a3, .inl (cI, 10, .inl (u9.2.1 2))), (a4, .inl (cI, 10, .inl (u9.2.1 3))), (a5, .inl (cI, 10, .inl (u9.2.1 4))), (a6, .inl (cI, 10, .inl (u9.2.1 5))), (a10, .inr (10, [.ref a11, .int i1, .int (u9.1 1), .int (u9.1 2), .int (u9.1 3), .int (u9.1 4), .int (u9.1 5), .int (u9.1 6)])), (a11, .inl (cB, 1600, .inl xF9))]) (va_A [(a0, .inr (1, [.int i0, .ref a1, .ref a2, .ref a3, .ref a4, .ref a5, .ref a6, .ref a7, .ref a8, .ref a9])), (a1, .inl (cI, 10, .inl xF0)), (a2, .inl (cI, 10, .inl xF1)), (a3, .inl (cI, 10, .inl xF2)), (a4, .inl (cI, 10, .inl xF3)), (a5, .inl (cI, 10, .inl xF4)), (a6, .inl (cI, 10, .inl xF5)), (a10, .inr (10, [.ref a11, .int i1, .int i2, .int i3, .int i4, .int i5, .int i6, .int i7])), (a11, .inl (cB, 1600, .inl xF9))] sz)) 0 0 (va_A [(a0, .inr (1, [.int i0, .ref a1, .ref a2, .ref a3, .ref a4, .ref a5, .ref a6, .ref a7, .ref a8, .ref a9])), (a1, .inl (cI, 10, .inl xF0)), (a2, .inl (cI, 10, .inl xF1)), (a3, .inl (cI, 10, .inl xF2)), (a4, .inl (cI, 10, .inl xF3)), (a5, .inl (cI, 10, .inl xF4)), (a6, .inl (cI, 10, .inl xF5)), (a10, .inr (10, [.ref a11, .int i1, .int i2, .int i3, .int i4, .int i5, .int i6, .int i7])), (a11, .inl (cB, 1600, .inl xF9))] sz) := by
  refine kEnterX (by decide) (Nat.le_of_ble_eq_true rfl) ?_
  intro p e s m below meth c ls hx hb hr hml hown hlocks hin hwd hsz hP hK hD hN hl
  subst hsz
  generalize hAe : va_A [(a0, .inr (1, [.int i0, .ref a1, .ref a2, .ref a3, .ref a4, .ref a5, .ref a6, .ref a7, .ref a8, .ref a9])), (a1, .inl (cI, 10, .inl xF0)), (a2, .inl (cI, 10, .inl xF1)), (a3, .inl (cI, 10, .inl xF2)), (a4, .inl (cI, 10, .inl xF3)), (a5, .inl (cI, 10, .inl xF4)), (a6, .inl (cI, 10, .inl xF5)), (a10, .inr (10, [.ref a11, .int i1, .int i2, .int i3, .int i4, .int i5, .int i6, .int i7])), (a11, .inl (cB, 1600, .inl xF9))] s.heap.size = A at hD hN ⊢
  have hA : ∀ q : Nat, s.heap.size ≤ q → A q := fun q h => by rw [← hAe]; exact Or.inr h
  have hS : va_S A s.heap s.heap [] := va_S.rf
  have hl : lv_has ls 4 [(0, .ref a0), (1, .ref a10), (2, .int p1)] := hl
  obtain ⟨Q, hQ⟩ : ∃ Q, Q = MQ below (va_Qv (fun (u9 : (Nat → Int32) × (Nat → Nat → Int32) × (Nat → Nat → Int64)) => ((0 : Int) ≤ (u9.1 0).toInt ∧ (u9.1 0).toInt ≤ 10) ∧ (rng (u9.2.1 2) 10 0 9) ∧ ((0 : Int) ≤ (u9.1 4).toInt ∧ (u9.1 4).toInt ≤ 1600) ∧ ((0 : Int) ≤ (u9.1 5).toInt ∧ (u9.1 5).toInt ≤ 1600) ∧ True) (fun u9 t => va_P (dC, dI) vwCl [(a0, .inr (1, [.int (u9.1 0), .ref a1, .ref a2, .ref a3, .ref a4, .ref a5, .ref a6, .ref a7, .ref a8, .ref a9])), (a1, .inl (cI, 10, .inl (u9.2.1 0))), (a2, .inl (cI, 10, .inl (u9.2.1 1))), (a3, .inl (cI, 10, .inl (u9.2.1 2))), (a4, .inl (cI, 10, .inl (u9.2.1 3))), (a5, .inl (cI, 10, .inl (u9.2.1 4))), (a6, .inl (cI, 10, .inl (u9.2.1 5))), (a10, .inr (10, [.ref a11, .int i1, .int (u9.1 1), .int (u9.1 2), .int (u9.1 3), .int (u9.1 4), .int (u9.1 5), .int (u9.1 6)])), (a11, .inl (cB, 1600, .inl xF9))] t.heap ∧ va_D A [(a0, .inr (1, [.int (u9.1 0), .ref a1, .ref a2, .ref a3, .ref a4, .ref a5, .ref a6, .ref a7, .ref a8, .ref a9])), (a1, .inl (cI, 10, .inl (u9.2.1 0))), (a2, .inl (cI, 10, .inl (u9.2.1 1))), (a3, .inl (cI, 10, .inl (u9.2.1 2))), (a4, .inl (cI, 10, .inl (u9.2.1 3))), (a5, .inl (cI, 10, .inl (u9.2.1 4))), (a6, .inl (cI, 10, .inl (u9.2.1 5))), (a10, .inr (10, [.ref a11, .int i1, .int (u9.1 1), .int (u9.1 2), .int (u9.1 3), .int (u9.1 4), .int (u9.1 5), .int (u9.1 6)])), (a11, .inl (cB, 1600, .inl xF9))]) A) ([.ref a0, .ref a10, .int p1] : List Value).toArray s 0 0 A := ⟨_, rfl⟩
  rw [← hQ]
  have km1 : ((-1) : Int32).toInt = -1 := by decide
  have k1 : (1 : Int32).toInt = 1 := by decide
  have k3 : (3 : Int32).toInt = 3 := by decide
  have k10 : (10 : Int32).toInt = 10 := by decide
  refine lv_aload_n hx hb dX1_readLine_0 rfl (lv_at hl 1 rfl) ?_
  have hPc := hP.sub (ws' := [(a10, .inr (10, [.ref a11, .int i1, .int i2, .int i3, .int i4, .int i5, .int i6, .int i7])), (a11, .inl (cB, 1600, .inl xF9))]) [7, 8] rfl
  have hDc := hD.sub (ws' := [(a10, .inr (10, [.ref a11, .int i1, .int i2, .int i3, .int i4, .int i5, .int i6, .int i7])), (a11, .inl (cB, 1600, .inl xF9))]) [7, 8] (by decide) rfl
  have hFc := va_free (wc := [(a10, .inr (10, [.ref a11, .int i1, .int i2, .int i3, .int i4, .int i5, .int i6, .int i7])), (a11, .inl (cB, 1600, .inl xF9))]) hD hS hA [7, 8] rfl
  refine va_calli (va_runS (As := [.ref a10]) (rest := []) ⟨hx, hb, hml, hown, hwd⟩ (s_X1_sortHere l dC dI cI cZ cB cJ cM cG a10 a11 i1 i2 i3 i4 i5 i6 i7 xF9 s.heap.size (show (0 : Int) ≤ i1.toInt ∧ i1.toInt ≤ 1600 from p_2) (show (0 : Int) ≤ i5.toInt ∧ i5.toInt ≤ 1600 from p_3) (show (0 : Int) ≤ i6.toInt ∧ i6.toInt ≤ 1600 from p_4)) (cwS 1 hwd (gS kr23_6 kr23_7 kr5_20 kr23_8) rfl rfl rfl (by decide +kernel) ⟨Nat.le_of_ble_eq_true rfl, Nat.le_of_ble_eq_true rfl⟩) (kPreSX hPc hK hDc NT_st hN hS hFc) rfl rfl hl.1 rfl (lv_room (Nat.le_of_ble_eq_true rfl)) dX1_readLine_1 ⟨Nat.le_of_ble_eq_true rfl, Nat.le_of_ble_eq_true rfl⟩) hS (fun q _ h => hFc q h) hFc (fun r1 u2 t H1 locs ht9 hvm hw hB hz1 hk1 hS => ?_)
  obtain ⟨hw3, -⟩ := hw
  replace hw3 : (-1 : Int) ≤ r1.toInt ∧ r1.toInt ≤ 3 := hw3
  obtain ⟨hP1, hD1⟩ := hB
  rw [ht9] at hP1
  obtain ⟨hP, hD⟩ := va_join (wr := [(a0, .inr (1, [.int i0, .ref a1, .ref a2, .ref a3, .ref a4, .ref a5, .ref a6, .ref a7, .ref a8, .ref a9])), (a1, .inl (cI, 10, .inl xF0)), (a2, .inl (cI, 10, .inl xF1)), (a3, .inl (cI, 10, .inl xF2)), (a4, .inl (cI, 10, .inl xF3)), (a5, .inl (cI, 10, .inl xF4)), (a6, .inl (cI, 10, .inl xF5))]) (w1 := [(a10, .inr (10, [.ref a11, .int i1, .int i2, .int i3, .int i4, .int i5, .int i6, .int i7])), (a11, .inl (cB, 1600, .inl xF9))]) hP hD [7, 8] [0, 1, 2, 3, 4, 5, 6] rfl rfl (by decide) (by decide) hk1 hFc hP1 hD1
  generalize H1 = H at hP hS ⊢
  replace hP : va_P (dC, dI) vwCl [(a0, .inr (1, [.int i0, .ref a1, .ref a2, .ref a3, .ref a4, .ref a5, .ref a6, .ref a7, .ref a8, .ref a9])), (a1, .inl (cI, 10, .inl xF0)), (a2, .inl (cI, 10, .inl xF1)), (a3, .inl (cI, 10, .inl xF2)), (a4, .inl (cI, 10, .inl xF3)), (a5, .inl (cI, 10, .inl xF4)), (a6, .inl (cI, 10, .inl xF5)), (a10, .inr (10, [.ref a11, .int i1, .int i2, .int i3, .int i4, .int i5, .int i6, .int i7])), (a11, .inl (cB, 1600, .inl xF9))] H := hP
  replace hD : va_D A [(a0, .inr (1, [.int i0, .ref a1, .ref a2, .ref a3, .ref a4, .ref a5, .ref a6, .ref a7, .ref a8, .ref a9])), (a1, .inl (cI, 10, .inl xF0)), (a2, .inl (cI, 10, .inl xF1)), (a3, .inl (cI, 10, .inl xF2)), (a4, .inl (cI, 10, .inl xF3)), (a5, .inl (cI, 10, .inl xF4)), (a6, .inl (cI, 10, .inl xF5)), (a10, .inr (10, [.ref a11, .int i1, .int i2, .int i3, .int i4, .int i5, .int i6, .int i7])), (a11, .inl (cB, 1600, .inl xF9))] := hD
  refine lv_istore_n (lv' := [(3, .int r1), (0, .ref a0), (1, .ref a10), (2, .int p1)]) hx hb dX1_readLine_4 rfl hl (by decide) rfl (fun ls hl => ?_)
  refine lv_iload_n hx hb dX1_readLine_5 rfl (lv_at hl 0 rfl) ?_
  refine lv_iconst (v := (-1)) hx hb dX1_readLine_6 (by decide) ?_
  refine lv_icmp_ne (tgt := 16) hx hb dX1_readLine_7 (by decide) (fun c4 => ?_) (fun c4 => ?_)
  · rw [ki_eq] at c4
    refine lv_aload_n hx hb dX1_readLine_16 rfl (lv_at hl 1 rfl) ?_
    refine va_get (D := (dC, dI)) (ci := 1) (v := .int i0) (C := RX1) (T := TX1) (N := 10) hx hb hwd inlX1 hown hK hP 0 rfl rfl 0 (by decide) (hwd _ kr12_9) (fun _ h9 => h9) rfl dX1_readLine_17 ?_
    refine lv_bipush (v := 10) hx hb dX1_readLine_20 (by decide) ?_
    refine lv_icmp_lt (tgt := 31) hx hb dX1_readLine_22 (by decide) (fun c5 => ?_) (fun c5 => ?_)
    · rw [ki_lt] at c5
      refine lv_aload_n hx hb dX1_readLine_31 rfl (lv_at hl 2 rfl) ?_
      have hPc := hP.sub (ws' := [(a10, .inr (10, [.ref a11, .int i1, .int i2, .int i3, .int i4, .int i5, .int i6, .int i7])), (a11, .inl (cB, 1600, .inl xF9))]) [7, 8] rfl
      have hDc := hD.sub (ws' := [(a10, .inr (10, [.ref a11, .int i1, .int i2, .int i3, .int i4, .int i5, .int i6, .int i7])), (a11, .inl (cB, 1600, .inl xF9))]) [7, 8] (by decide) rfl
      have hFc := va_free (wc := [(a10, .inr (10, [.ref a11, .int i1, .int i2, .int i3, .int i4, .int i5, .int i6, .int i7])), (a11, .inl (cB, 1600, .inl xF9))]) hD hS hA [7, 8] rfl
      refine va_callv (va_runV (As := []) (rest := []) ⟨hx, hb, hml, hown, hwd⟩ (s_X10_readToken l dC dI cI cZ cB cJ cM cG a10 a11 i1 i2 i3 i4 i5 i6 i7 xF9 H.size (show (0 : Int) ≤ i1.toInt ∧ i1.toInt ≤ 1600 from p_2) (show (0 : Int) ≤ i5.toInt ∧ i5.toInt ≤ 1600 from p_3) (show (0 : Int) ≤ i6.toInt ∧ i6.toInt ≤ 1600 from p_4)) (cwV 0 hwd (gV kr23_11 kr18_2 kr18_3 kr5_12 kr18_4) rfl rfl rfl (by decide +kernel) ⟨Nat.le_of_ble_eq_true rfl, Nat.le_of_ble_eq_true rfl⟩) (kPreV hPc hK hDc (ci := 10) (q0 := 0) rfl rfl) rfl rfl hl.1 rfl (lv_room (Nat.le_of_ble_eq_true rfl)) dX1_readLine_32 ⟨Nat.le_of_ble_eq_true rfl, Nat.le_of_ble_eq_true rfl⟩) hS (fun q _ h => hFc q h) hFc (fun u7 t H1 locs ht9 hvm hw hB hz1 hk1 hS => ?_)
      obtain ⟨u8, U8, V8⟩ := u7
      obtain ⟨hw9, hw10, -⟩ := hw
      replace hw9 : (0 : Int) ≤ (u8 1).toInt ∧ (u8 1).toInt ≤ 1600 := hw9
      replace hw10 : (0 : Int) ≤ (u8 2).toInt ∧ (u8 2).toInt ≤ 1600 := hw10
      obtain ⟨hP1, hD1⟩ := hB
      rw [ht9] at hP1
      obtain ⟨hP, hD⟩ := va_join (wr := [(a0, .inr (1, [.int i0, .ref a1, .ref a2, .ref a3, .ref a4, .ref a5, .ref a6, .ref a7, .ref a8, .ref a9])), (a1, .inl (cI, 10, .inl xF0)), (a2, .inl (cI, 10, .inl xF1)), (a3, .inl (cI, 10, .inl xF2)), (a4, .inl (cI, 10, .inl xF3)), (a5, .inl (cI, 10, .inl xF4)), (a6, .inl (cI, 10, .inl xF5))]) (w1 := [(a10, .inr (10, [.ref a11, .int i1, .int i2, .int i3, .int (u8 0), .int (u8 1), .int (u8 2), .int (u8 3)])), (a11, .inl (cB, 1600, .inl xF9))]) hP hD [7, 8] [0, 1, 2, 3, 4, 5, 6] rfl rfl (by decide) (by decide) hk1 hFc hP1 hD1
      generalize H1 = H at hP hS ⊢
      replace hP : va_P (dC, dI) vwCl [(a0, .inr (1, [.int i0, .ref a1, .ref a2, .ref a3, .ref a4, .ref a5, .ref a6, .ref a7, .ref a8, .ref a9])), (a1, .inl (cI, 10, .inl xF0)), (a2, .inl (cI, 10, .inl xF1)), (a3, .inl (cI, 10, .inl xF2)), (a4, .inl (cI, 10, .inl xF3)), (a5, .inl (cI, 10, .inl xF4)), (a6, .inl (cI, 10, .inl xF5)), (a10, .inr (10, [.ref a11, .int i1, .int i2, .int i3, .int (u8 0), .int (u8 1), .int (u8 2), .int (u8 3)])), (a11, .inl (cB, 1600, .inl xF9))] H := hP
      replace hD : va_D A [(a0, .inr (1, [.int i0, .ref a1, .ref a2, .ref a3, .ref a4, .ref a5, .ref a6, .ref a7, .ref a8, .ref a9])), (a1, .inl (cI, 10, .inl xF0)), (a2, .inl (cI, 10, .inl xF1)), (a3, .inl (cI, 10, .inl xF2)), (a4, .inl (cI, 10, .inl xF3)), (a5, .inl (cI, 10, .inl xF4)), (a6, .inl (cI, 10, .inl xF5)), (a10, .inr (10, [.ref a11, .int i1, .int i2, .int i3, .int (u8 0), .int (u8 1), .int (u8 2), .int (u8 3)])), (a11, .inl (cB, 1600, .inl xF9))] := hD
      refine lv_aload_n hx hb dX1_readLine_35 rfl (lv_at hl 1 rfl) ?_
      refine va_get (D := (dC, dI)) (ci := 1) (v := .ref a1) (C := RX1) (T := TX1) (N := 10) hx hb hwd inlX1 hown hK hP 0 rfl rfl 1 (by decide) (hwd _ kr12_14) (fun _ h9 => h9) rfl dX1_readLine_36 ?_
      refine lv_aload_n hx hb dX1_readLine_39 rfl (lv_at hl 1 rfl) ?_
      refine va_get (D := (dC, dI)) (ci := 1) (v := .int i0) (C := RX1) (T := TX1) (N := 10) hx hb hwd inlX1 hown hK hP 0 rfl rfl 0 (by decide) (hwd _ kr12_9) (fun _ h9 => h9) rfl dX1_readLine_40 ?_
      refine lv_iload_n hx hb dX1_readLine_43 rfl (lv_at hl 0 rfl) ?_
      refine va_iast hx hb hK hP hD hS 1 0 rfl rfl (vp_of (by omega) (by omega)) dX1_readLine_44 (fun H locs hP hD hS => ?_)
      obtain ⟨f11, ef11⟩ : ∃ f, f = upd xF0 i0.toNatClampNeg r1 := ⟨_, rfl⟩
      replace hP : va_P (dC, dI) vwCl [(a0, .inr (1, [.int i0, .ref a1, .ref a2, .ref a3, .ref a4, .ref a5, .ref a6, .ref a7, .ref a8, .ref a9])), (a1, .inl (cI, 10, .inl f11)), (a2, .inl (cI, 10, .inl xF1)), (a3, .inl (cI, 10, .inl xF2)), (a4, .inl (cI, 10, .inl xF3)), (a5, .inl (cI, 10, .inl xF4)), (a6, .inl (cI, 10, .inl xF5)), (a10, .inr (10, [.ref a11, .int i1, .int i2, .int i3, .int (u8 0), .int (u8 1), .int (u8 2), .int (u8 3)])), (a11, .inl (cB, 1600, .inl xF9))] H := by rw [ef11]; exact hP
      replace hD : va_D A [(a0, .inr (1, [.int i0, .ref a1, .ref a2, .ref a3, .ref a4, .ref a5, .ref a6, .ref a7, .ref a8, .ref a9])), (a1, .inl (cI, 10, .inl f11)), (a2, .inl (cI, 10, .inl xF1)), (a3, .inl (cI, 10, .inl xF2)), (a4, .inl (cI, 10, .inl xF3)), (a5, .inl (cI, 10, .inl xF4)), (a6, .inl (cI, 10, .inl xF5)), (a10, .inr (10, [.ref a11, .int i1, .int i2, .int i3, .int (u8 0), .int (u8 1), .int (u8 2), .int (u8 3)])), (a11, .inl (cB, 1600, .inl xF9))] := by rw [ef11]; exact hD
      refine lv_iload_n hx hb dX1_readLine_45 rfl (lv_at hl 0 rfl) ?_
      refine lv_iconst (v := 3) hx hb dX1_readLine_46 (by decide) ?_
      have jp1 : ∀ (H : Heap) (locs : List Loc) (ls : Array Slot) (g0_1 : Nat → Int32) (g1_1 : Nat → Int32) (g2_1 : Nat → Int32) (g3_1 : Nat → Int32) (g4_1 : Nat → Int32) (v5_1 : Int32) (v6_1 : Int32) (v7_1 : Int32) (v8_1 : Int32) (v9_1 : Int32) (v10_1 : Int32), (rng g1_1 10 0 9) → ((0 : Int) ≤ v8_1.toInt ∧ v8_1.toInt ≤ 1600) → ((0 : Int) ≤ v9_1.toInt ∧ v9_1.toInt ≤ 1600) → va_P (dC, dI) vwCl [(a0, .inr (1, [.int i0, .ref a1, .ref a2, .ref a3, .ref a4, .ref a5, .ref a6, .ref a7, .ref a8, .ref a9])), (a1, .inl (cI, 10, .inl f11)), (a2, .inl (cI, 10, .inl g0_1)), (a3, .inl (cI, 10, .inl g1_1)), (a4, .inl (cI, 10, .inl g2_1)), (a5, .inl (cI, 10, .inl g3_1)), (a6, .inl (cI, 10, .inl g4_1)), (a10, .inr (10, [.ref a11, .int i1, .int v5_1, .int v6_1, .int v7_1, .int v8_1, .int v9_1, .int v10_1])), (a11, .inl (cB, 1600, .inl xF9))] H → va_D A [(a0, .inr (1, [.int i0, .ref a1, .ref a2, .ref a3, .ref a4, .ref a5, .ref a6, .ref a7, .ref a8, .ref a9])), (a1, .inl (cI, 10, .inl f11)), (a2, .inl (cI, 10, .inl g0_1)), (a3, .inl (cI, 10, .inl g1_1)), (a4, .inl (cI, 10, .inl g2_1)), (a5, .inl (cI, 10, .inl g3_1)), (a6, .inl (cI, 10, .inl g4_1)), (a10, .inr (10, [.ref a11, .int i1, .int v5_1, .int v6_1, .int v7_1, .int v8_1, .int v9_1, .int v10_1])), (a11, .inl (cB, 1600, .inl xF9))] → va_S A s.heap H locs → lv_has ls 4 [(0, .ref a0), (1, .ref a10), (2, .int p1), (3, .int r1)] → W p l e ({ frames := 7, cells := 0, slots := 0, locals := 151 } : Room) s m ([.ref a0, .ref a10, .int p1] : List Value).toArray below meth c H locs 0 0 Q (F0 m 65 ls []) := by
        intro H locs ls g0_1 g1_1 g2_1 g3_1 g4_1 v5_1 v6_1 v7_1 v8_1 v9_1 v10_1 hr_g1_1 hr_v8_1 hr_v9_1 hP hD hS hl
        refine lv_aload_n hx hb dX1_readLine_65 rfl (lv_at hl 0 rfl) ?_
        refine lv_dup hx hb dX1_readLine_66 rfl ?_
        refine va_get (D := (dC, dI)) (ci := 1) (v := .int i0) (C := RX1) (T := TX1) (N := 10) hx hb hwd inlX1 hown hK hP 0 rfl rfl 0 (by decide) (hwd _ kr12_9) (fun _ h9 => h9) rfl dX1_readLine_67 ?_
        refine lv_iconst (v := 1) hx hb dX1_readLine_70 (by decide) ?_
        refine lv_iadd hx hb dX1_readLine_71 ?_
        refine lv_topi (fun x25 ex25 => ?_)
        have tx25 := ia_add (a := i0) (b := (1 : Int32)) (by omega) (by omega)
        rw [← ex25] at tx25
        refine va_put (D := (dC, dI)) (ci := 1) (v := .int x25) (ty := .int) (C := RX1) (T := TX1) (N := 10) hx hb hwd inlX1 tyX1 tyX1_ok nmX1 hown hK hP hD hS 0 rfl rfl 0 (by decide) (hwd _ kr12_9) (fun _ h9 => h9) rfl (by decide +kernel) rfl rfl (Nat.le_of_ble_eq_true rfl) dX1_readLine_72 (fun H locs hP hD hS => ?_)
        replace hP : va_P (dC, dI) vwCl [(a0, .inr (1, [.int x25, .ref a1, .ref a2, .ref a3, .ref a4, .ref a5, .ref a6, .ref a7, .ref a8, .ref a9])), (a1, .inl (cI, 10, .inl f11)), (a2, .inl (cI, 10, .inl g0_1)), (a3, .inl (cI, 10, .inl g1_1)), (a4, .inl (cI, 10, .inl g2_1)), (a5, .inl (cI, 10, .inl g3_1)), (a6, .inl (cI, 10, .inl g4_1)), (a10, .inr (10, [.ref a11, .int i1, .int v5_1, .int v6_1, .int v7_1, .int v8_1, .int v9_1, .int v10_1])), (a11, .inl (cB, 1600, .inl xF9))] H := hP
        replace hD : va_D A [(a0, .inr (1, [.int x25, .ref a1, .ref a2, .ref a3, .ref a4, .ref a5, .ref a6, .ref a7, .ref a8, .ref a9])), (a1, .inl (cI, 10, .inl f11)), (a2, .inl (cI, 10, .inl g0_1)), (a3, .inl (cI, 10, .inl g1_1)), (a4, .inl (cI, 10, .inl g2_1)), (a5, .inl (cI, 10, .inl g3_1)), (a6, .inl (cI, 10, .inl g4_1)), (a10, .inr (10, [.ref a11, .int i1, .int v5_1, .int v6_1, .int v7_1, .int v8_1, .int v9_1, .int v10_1])), (a11, .inl (cB, 1600, .inl xF9))] := hD
        have hP9 := hP.sub (ws' := [(a0, .inr (1, [.int x25, .ref a1, .ref a2, .ref a3, .ref a4, .ref a5, .ref a6, .ref a7, .ref a8, .ref a9])), (a1, .inl (cI, 10, .inl f11)), (a2, .inl (cI, 10, .inl g0_1)), (a3, .inl (cI, 10, .inl g1_1)), (a4, .inl (cI, 10, .inl g2_1)), (a5, .inl (cI, 10, .inl g3_1)), (a6, .inl (cI, 10, .inl g4_1)), (a10, .inr (10, [.ref a11, .int i1, .int v5_1, .int v6_1, .int v7_1, .int v8_1, .int v9_1, .int v10_1])), (a11, .inl (cB, 1600, .inl xF9))]) [0, 1, 2, 3, 4, 5, 6, 7, 8] rfl
        have hD9 := hD.sub (ws' := [(a0, .inr (1, [.int x25, .ref a1, .ref a2, .ref a3, .ref a4, .ref a5, .ref a6, .ref a7, .ref a8, .ref a9])), (a1, .inl (cI, 10, .inl f11)), (a2, .inl (cI, 10, .inl g0_1)), (a3, .inl (cI, 10, .inl g1_1)), (a4, .inl (cI, 10, .inl g2_1)), (a5, .inl (cI, 10, .inl g3_1)), (a6, .inl (cI, 10, .inl g4_1)), (a10, .inr (10, [.ref a11, .int i1, .int v5_1, .int v6_1, .int v7_1, .int v8_1, .int v9_1, .int v10_1])), (a11, .inl (cB, 1600, .inl xF9))]) [0, 1, 2, 3, 4, 5, 6, 7, 8] (by decide) rfl
        rw [hQ]
        exact W.vret hx hb hr (fun t ht hW => ⟨⟨(pickG 0 [x25, v5_1, v6_1, v7_1, v8_1, v9_1, v10_1], pickG (fun _ => 0) [f11, g0_1, g1_1, g2_1, g3_1, g4_1], pickG (fun _ => 0) []), rfl, ⟨(show (0 : Int) ≤ x25.toInt ∧ x25.toInt ≤ 10 from ⟨by omega, by omega⟩), (show rng g1_1 10 0 9 from hr_g1_1), (show (0 : Int) ≤ v8_1.toInt ∧ v8_1.toInt ≤ 1600 from ⟨by omega, by omega⟩), (show (0 : Int) ≤ v9_1.toInt ∧ v9_1.toInt ≤ 1600 from ⟨by omega, by omega⟩), trivial⟩, (by rw [ht]; exact hP9), hD9⟩, hS.F ht⟩) hS.2.2 dX1_readLine_75
      refine lv_icmp_ne (tgt := 58) hx hb dX1_readLine_47 (by decide) (fun c26 => ?_) (fun c26 => ?_)
      · rw [ki_eq] at c26
        refine lv_aload_n hx hb dX1_readLine_58 rfl (lv_at hl 1 rfl) ?_
        refine lv_aload_n hx hb dX1_readLine_59 rfl (lv_at hl 2 rfl) ?_
        refine lv_iload_n hx hb dX1_readLine_60 rfl (lv_at hl 0 rfl) ?_
        refine lv_iload_n hx hb dX1_readLine_61 rfl (lv_at hl 3 rfl) ?_
        have hPc := hP.sub (ws' := [(a0, .inr (1, [.int i0, .ref a1, .ref a2, .ref a3, .ref a4, .ref a5, .ref a6, .ref a7, .ref a8, .ref a9])), (a2, .inl (cI, 10, .inl xF1)), (a3, .inl (cI, 10, .inl xF2)), (a4, .inl (cI, 10, .inl xF3)), (a5, .inl (cI, 10, .inl xF4)), (a6, .inl (cI, 10, .inl xF5)), (a10, .inr (10, [.ref a11, .int i1, .int i2, .int i3, .int (u8 0), .int (u8 1), .int (u8 2), .int (u8 3)])), (a11, .inl (cB, 1600, .inl xF9))]) [0, 2, 3, 4, 5, 6, 7, 8] rfl
        have hDc := hD.sub (ws' := [(a0, .inr (1, [.int i0, .ref a1, .ref a2, .ref a3, .ref a4, .ref a5, .ref a6, .ref a7, .ref a8, .ref a9])), (a2, .inl (cI, 10, .inl xF1)), (a3, .inl (cI, 10, .inl xF2)), (a4, .inl (cI, 10, .inl xF3)), (a5, .inl (cI, 10, .inl xF4)), (a6, .inl (cI, 10, .inl xF5)), (a10, .inr (10, [.ref a11, .int i1, .int i2, .int i3, .int (u8 0), .int (u8 1), .int (u8 2), .int (u8 3)])), (a11, .inl (cB, 1600, .inl xF9))]) [0, 2, 3, 4, 5, 6, 7, 8] (by decide) rfl
        have hFc := va_free (wc := [(a0, .inr (1, [.int i0, .ref a1, .ref a2, .ref a3, .ref a4, .ref a5, .ref a6, .ref a7, .ref a8, .ref a9])), (a2, .inl (cI, 10, .inl xF1)), (a3, .inl (cI, 10, .inl xF2)), (a4, .inl (cI, 10, .inl xF3)), (a5, .inl (cI, 10, .inl xF4)), (a6, .inl (cI, 10, .inl xF5)), (a10, .inr (10, [.ref a11, .int i1, .int i2, .int i3, .int (u8 0), .int (u8 1), .int (u8 2), .int (u8 3)])), (a11, .inl (cB, 1600, .inl xF9))]) hD hS hA [0, 2, 3, 4, 5, 6, 7, 8] rfl
        refine va_callv (va_runV (As := [.ref a10, .int r1, .int p1]) (rest := []) ⟨hx, hb, hml, hown, hwd⟩ (s_X1_readSprung l dC dI cI cZ cB cJ cM cG a0 a1 a2 a3 a4 a5 a6 a7 a8 a9 a10 a11 i0 i1 i2 i3 (u8 0) (u8 1) (u8 2) (u8 3) xF1 xF2 xF3 xF4 xF5 xF9 r1 p1 H.size (show rng xF2 10 0 9 from p_1) (show (0 : Int) ≤ i1.toInt ∧ i1.toInt ≤ 1600 from p_2) (show (0 : Int) ≤ (u8 1).toInt ∧ (u8 1).toInt ≤ 1600 from hw9) (show (0 : Int) ≤ (u8 2).toInt ∧ (u8 2).toInt ≤ 1600 from hw10) (show (0 : Int) ≤ i0.toInt ∧ i0.toInt ≤ 9 from ⟨by omega, by omega⟩)) (cwV 3 hwd (gV kr23_17 kr23_18 kr1_9 kr5_20 kr23_19) rfl rfl rfl (by decide +kernel) ⟨Nat.le_of_ble_eq_true rfl, Nat.le_of_ble_eq_true rfl⟩) (kPreVX hPc hK hDc NT_st hN hS hFc (ci := 1) (q0 := 0) rfl rfl) rfl rfl hl.1 rfl (lv_room (Nat.le_of_ble_eq_true rfl)) dX1_readLine_62 ⟨Nat.le_of_ble_eq_true rfl, Nat.le_of_ble_eq_true rfl⟩) hS (fun q _ h => hFc q h) hFc (fun u28 t H1 locs ht9 hvm hw hB hz1 hk1 hS => ?_)
        obtain ⟨u29, U29, V29⟩ := u28
        obtain ⟨hw30, hw31, hw32, -⟩ := hw
        replace hw30 : rng (U29 1) 10 0 9 := hw30
        replace hw31 : (0 : Int) ≤ (u29 3).toInt ∧ (u29 3).toInt ≤ 1600 := hw31
        replace hw32 : (0 : Int) ≤ (u29 4).toInt ∧ (u29 4).toInt ≤ 1600 := hw32
        obtain ⟨hP1, hD1⟩ := hB
        rw [ht9] at hP1
        obtain ⟨hP, hD⟩ := va_join (wr := [(a1, .inl (cI, 10, .inl f11))]) (w1 := [(a0, .inr (1, [.int i0, .ref a1, .ref a2, .ref a3, .ref a4, .ref a5, .ref a6, .ref a7, .ref a8, .ref a9])), (a2, .inl (cI, 10, .inl (U29 0))), (a3, .inl (cI, 10, .inl (U29 1))), (a4, .inl (cI, 10, .inl (U29 2))), (a5, .inl (cI, 10, .inl (U29 3))), (a6, .inl (cI, 10, .inl (U29 4))), (a10, .inr (10, [.ref a11, .int i1, .int (u29 0), .int (u29 1), .int (u29 2), .int (u29 3), .int (u29 4), .int (u29 5)])), (a11, .inl (cB, 1600, .inl xF9))]) hP hD [0, 2, 3, 4, 5, 6, 7, 8] [1] rfl rfl (by decide) (by decide) hk1 hFc hP1 hD1
        generalize H1 = H at hP hS ⊢
        replace hP : va_P (dC, dI) vwCl [(a1, .inl (cI, 10, .inl f11)), (a0, .inr (1, [.int i0, .ref a1, .ref a2, .ref a3, .ref a4, .ref a5, .ref a6, .ref a7, .ref a8, .ref a9])), (a2, .inl (cI, 10, .inl (U29 0))), (a3, .inl (cI, 10, .inl (U29 1))), (a4, .inl (cI, 10, .inl (U29 2))), (a5, .inl (cI, 10, .inl (U29 3))), (a6, .inl (cI, 10, .inl (U29 4))), (a10, .inr (10, [.ref a11, .int i1, .int (u29 0), .int (u29 1), .int (u29 2), .int (u29 3), .int (u29 4), .int (u29 5)])), (a11, .inl (cB, 1600, .inl xF9))] H := hP
        replace hD : va_D A [(a1, .inl (cI, 10, .inl f11)), (a0, .inr (1, [.int i0, .ref a1, .ref a2, .ref a3, .ref a4, .ref a5, .ref a6, .ref a7, .ref a8, .ref a9])), (a2, .inl (cI, 10, .inl (U29 0))), (a3, .inl (cI, 10, .inl (U29 1))), (a4, .inl (cI, 10, .inl (U29 2))), (a5, .inl (cI, 10, .inl (U29 3))), (a6, .inl (cI, 10, .inl (U29 4))), (a10, .inr (10, [.ref a11, .int i1, .int (u29 0), .int (u29 1), .int (u29 2), .int (u29 3), .int (u29 4), .int (u29 5)])), (a11, .inl (cB, 1600, .inl xF9))] := hD
        exact jp1 _ _ ls (U29 0) (U29 1) (U29 2) (U29 3) (U29 4) (u29 0) (u29 1) (u29 2) (u29 3) (u29 4) (u29 5) (show rng (U29 1) 10 0 9 from hw30) (show (0 : Int) ≤ (u29 3).toInt ∧ (u29 3).toInt ≤ 1600 from hw31) (show (0 : Int) ≤ (u29 4).toInt ∧ (u29 4).toInt ≤ 1600 from hw32) (hP.sub (ws' := [(a0, .inr (1, [.int i0, .ref a1, .ref a2, .ref a3, .ref a4, .ref a5, .ref a6, .ref a7, .ref a8, .ref a9])), (a1, .inl (cI, 10, .inl f11)), (a2, .inl (cI, 10, .inl (U29 0))), (a3, .inl (cI, 10, .inl (U29 1))), (a4, .inl (cI, 10, .inl (U29 2))), (a5, .inl (cI, 10, .inl (U29 3))), (a6, .inl (cI, 10, .inl (U29 4))), (a10, .inr (10, [.ref a11, .int i1, .int (u29 0), .int (u29 1), .int (u29 2), .int (u29 3), .int (u29 4), .int (u29 5)])), (a11, .inl (cB, 1600, .inl xF9))]) [1, 0, 2, 3, 4, 5, 6, 7, 8] rfl) (hD.sub (ws' := [(a0, .inr (1, [.int i0, .ref a1, .ref a2, .ref a3, .ref a4, .ref a5, .ref a6, .ref a7, .ref a8, .ref a9])), (a1, .inl (cI, 10, .inl f11)), (a2, .inl (cI, 10, .inl (U29 0))), (a3, .inl (cI, 10, .inl (U29 1))), (a4, .inl (cI, 10, .inl (U29 2))), (a5, .inl (cI, 10, .inl (U29 3))), (a6, .inl (cI, 10, .inl (U29 4))), (a10, .inr (10, [.ref a11, .int i1, .int (u29 0), .int (u29 1), .int (u29 2), .int (u29 3), .int (u29 4), .int (u29 5)])), (a11, .inl (cB, 1600, .inl xF9))]) [1, 0, 2, 3, 4, 5, 6, 7, 8] (by decide) rfl) hS (lv_sub hl [1, 2, 3, 0] rfl)
      · rw [ki_eq] at c26
        refine lv_aload_n hx hb dX1_readLine_50 rfl (lv_at hl 1 rfl) ?_
        refine lv_aload_n hx hb dX1_readLine_51 rfl (lv_at hl 2 rfl) ?_
        have hPc := hP.sub (ws' := [(a0, .inr (1, [.int i0, .ref a1, .ref a2, .ref a3, .ref a4, .ref a5, .ref a6, .ref a7, .ref a8, .ref a9])), (a2, .inl (cI, 10, .inl xF1)), (a3, .inl (cI, 10, .inl xF2)), (a4, .inl (cI, 10, .inl xF3)), (a5, .inl (cI, 10, .inl xF4)), (a6, .inl (cI, 10, .inl xF5)), (a10, .inr (10, [.ref a11, .int i1, .int i2, .int i3, .int (u8 0), .int (u8 1), .int (u8 2), .int (u8 3)])), (a11, .inl (cB, 1600, .inl xF9))]) [0, 2, 3, 4, 5, 6, 7, 8] rfl
        have hDc := hD.sub (ws' := [(a0, .inr (1, [.int i0, .ref a1, .ref a2, .ref a3, .ref a4, .ref a5, .ref a6, .ref a7, .ref a8, .ref a9])), (a2, .inl (cI, 10, .inl xF1)), (a3, .inl (cI, 10, .inl xF2)), (a4, .inl (cI, 10, .inl xF3)), (a5, .inl (cI, 10, .inl xF4)), (a6, .inl (cI, 10, .inl xF5)), (a10, .inr (10, [.ref a11, .int i1, .int i2, .int i3, .int (u8 0), .int (u8 1), .int (u8 2), .int (u8 3)])), (a11, .inl (cB, 1600, .inl xF9))]) [0, 2, 3, 4, 5, 6, 7, 8] (by decide) rfl
        have hFc := va_free (wc := [(a0, .inr (1, [.int i0, .ref a1, .ref a2, .ref a3, .ref a4, .ref a5, .ref a6, .ref a7, .ref a8, .ref a9])), (a2, .inl (cI, 10, .inl xF1)), (a3, .inl (cI, 10, .inl xF2)), (a4, .inl (cI, 10, .inl xF3)), (a5, .inl (cI, 10, .inl xF4)), (a6, .inl (cI, 10, .inl xF5)), (a10, .inr (10, [.ref a11, .int i1, .int i2, .int i3, .int (u8 0), .int (u8 1), .int (u8 2), .int (u8 3)])), (a11, .inl (cB, 1600, .inl xF9))]) hD hS hA [0, 2, 3, 4, 5, 6, 7, 8] rfl
        refine va_callv (va_runV (As := [.ref a10]) (rest := []) ⟨hx, hb, hml, hown, hwd⟩ (s_X1_readLever l dC dI cI cZ cB cJ cM cG a0 a1 a2 a3 a4 a5 a6 a7 a8 a9 a10 a11 i0 i1 i2 i3 (u8 0) (u8 1) (u8 2) (u8 3) xF1 xF2 xF3 xF4 xF5 xF9 H.size (show rng xF2 10 0 9 from p_1) (show (0 : Int) ≤ i1.toInt ∧ i1.toInt ≤ 1600 from p_2) (show (0 : Int) ≤ (u8 1).toInt ∧ (u8 1).toInt ≤ 1600 from hw9) (show (0 : Int) ≤ (u8 2).toInt ∧ (u8 2).toInt ≤ 1600 from hw10) (show (0 : Int) ≤ i0.toInt ∧ i0.toInt ≤ 9 from ⟨by omega, by omega⟩)) (cwV 1 hwd (gV kr23_12 kr23_13 kr1_8 kr5_20 kr23_14) rfl rfl rfl (by decide +kernel) ⟨Nat.le_of_ble_eq_true rfl, Nat.le_of_ble_eq_true rfl⟩) (kPreVX hPc hK hDc NT_st hN hS hFc (ci := 1) (q0 := 0) rfl rfl) rfl rfl hl.1 rfl (lv_room (Nat.le_of_ble_eq_true rfl)) dX1_readLine_52 ⟨Nat.le_of_ble_eq_true rfl, Nat.le_of_ble_eq_true rfl⟩) hS (fun q _ h => hFc q h) hFc (fun u34 t H1 locs ht9 hvm hw hB hz1 hk1 hS => ?_)
        obtain ⟨u35, U35, V35⟩ := u34
        obtain ⟨hw36, hw37, hw38, -⟩ := hw
        replace hw36 : rng (U35 1) 10 0 9 := hw36
        replace hw37 : (0 : Int) ≤ (u35 3).toInt ∧ (u35 3).toInt ≤ 1600 := hw37
        replace hw38 : (0 : Int) ≤ (u35 4).toInt ∧ (u35 4).toInt ≤ 1600 := hw38
        obtain ⟨hP1, hD1⟩ := hB
        rw [ht9] at hP1
        obtain ⟨hP, hD⟩ := va_join (wr := [(a1, .inl (cI, 10, .inl f11))]) (w1 := [(a0, .inr (1, [.int i0, .ref a1, .ref a2, .ref a3, .ref a4, .ref a5, .ref a6, .ref a7, .ref a8, .ref a9])), (a2, .inl (cI, 10, .inl (U35 0))), (a3, .inl (cI, 10, .inl (U35 1))), (a4, .inl (cI, 10, .inl (U35 2))), (a5, .inl (cI, 10, .inl (U35 3))), (a6, .inl (cI, 10, .inl (U35 4))), (a10, .inr (10, [.ref a11, .int i1, .int (u35 0), .int (u35 1), .int (u35 2), .int (u35 3), .int (u35 4), .int (u35 5)])), (a11, .inl (cB, 1600, .inl xF9))]) hP hD [0, 2, 3, 4, 5, 6, 7, 8] [1] rfl rfl (by decide) (by decide) hk1 hFc hP1 hD1
        generalize H1 = H at hP hS ⊢
        replace hP : va_P (dC, dI) vwCl [(a1, .inl (cI, 10, .inl f11)), (a0, .inr (1, [.int i0, .ref a1, .ref a2, .ref a3, .ref a4, .ref a5, .ref a6, .ref a7, .ref a8, .ref a9])), (a2, .inl (cI, 10, .inl (U35 0))), (a3, .inl (cI, 10, .inl (U35 1))), (a4, .inl (cI, 10, .inl (U35 2))), (a5, .inl (cI, 10, .inl (U35 3))), (a6, .inl (cI, 10, .inl (U35 4))), (a10, .inr (10, [.ref a11, .int i1, .int (u35 0), .int (u35 1), .int (u35 2), .int (u35 3), .int (u35 4), .int (u35 5)])), (a11, .inl (cB, 1600, .inl xF9))] H := hP
        replace hD : va_D A [(a1, .inl (cI, 10, .inl f11)), (a0, .inr (1, [.int i0, .ref a1, .ref a2, .ref a3, .ref a4, .ref a5, .ref a6, .ref a7, .ref a8, .ref a9])), (a2, .inl (cI, 10, .inl (U35 0))), (a3, .inl (cI, 10, .inl (U35 1))), (a4, .inl (cI, 10, .inl (U35 2))), (a5, .inl (cI, 10, .inl (U35 3))), (a6, .inl (cI, 10, .inl (U35 4))), (a10, .inr (10, [.ref a11, .int i1, .int (u35 0), .int (u35 1), .int (u35 2), .int (u35 3), .int (u35 4), .int (u35 5)])), (a11, .inl (cB, 1600, .inl xF9))] := hD
        refine lv_goto (tgt := 65) hx hb dX1_readLine_55 (by decide) ?_
        exact jp1 _ _ ls (U35 0) (U35 1) (U35 2) (U35 3) (U35 4) (u35 0) (u35 1) (u35 2) (u35 3) (u35 4) (u35 5) (show rng (U35 1) 10 0 9 from hw36) (show (0 : Int) ≤ (u35 3).toInt ∧ (u35 3).toInt ≤ 1600 from hw37) (show (0 : Int) ≤ (u35 4).toInt ∧ (u35 4).toInt ≤ 1600 from hw38) (hP.sub (ws' := [(a0, .inr (1, [.int i0, .ref a1, .ref a2, .ref a3, .ref a4, .ref a5, .ref a6, .ref a7, .ref a8, .ref a9])), (a1, .inl (cI, 10, .inl f11)), (a2, .inl (cI, 10, .inl (U35 0))), (a3, .inl (cI, 10, .inl (U35 1))), (a4, .inl (cI, 10, .inl (U35 2))), (a5, .inl (cI, 10, .inl (U35 3))), (a6, .inl (cI, 10, .inl (U35 4))), (a10, .inr (10, [.ref a11, .int i1, .int (u35 0), .int (u35 1), .int (u35 2), .int (u35 3), .int (u35 4), .int (u35 5)])), (a11, .inl (cB, 1600, .inl xF9))]) [1, 0, 2, 3, 4, 5, 6, 7, 8] rfl) (hD.sub (ws' := [(a0, .inr (1, [.int i0, .ref a1, .ref a2, .ref a3, .ref a4, .ref a5, .ref a6, .ref a7, .ref a8, .ref a9])), (a1, .inl (cI, 10, .inl f11)), (a2, .inl (cI, 10, .inl (U35 0))), (a3, .inl (cI, 10, .inl (U35 1))), (a4, .inl (cI, 10, .inl (U35 2))), (a5, .inl (cI, 10, .inl (U35 3))), (a6, .inl (cI, 10, .inl (U35 4))), (a10, .inr (10, [.ref a11, .int i1, .int (u35 0), .int (u35 1), .int (u35 2), .int (u35 3), .int (u35 4), .int (u35 5)])), (a11, .inl (cB, 1600, .inl xF9))]) [1, 0, 2, 3, 4, 5, 6, 7, 8] (by decide) rfl) hS (lv_sub hl [1, 2, 3, 0] rfl)
    · rw [ki_lt] at c5
      refine lv_aload_n hx hb dX1_readLine_25 rfl (lv_at hl 2 rfl) ?_
      refine lv_iconst (v := 3) hx hb dX1_readLine_26 (by decide) ?_
      have hPc := hP.sub (ws' := [(a10, .inr (10, [.ref a11, .int i1, .int i2, .int i3, .int i4, .int i5, .int i6, .int i7]))]) [7] rfl
      have hDc := hD.sub (ws' := [(a10, .inr (10, [.ref a11, .int i1, .int i2, .int i3, .int i4, .int i5, .int i6, .int i7]))]) [7] (by decide) rfl
      have hFc := va_free (wc := [(a10, .inr (10, [.ref a11, .int i1, .int i2, .int i3, .int i4, .int i5, .int i6, .int i7]))]) hD hS hA [7] rfl
      refine va_callv (va_runV (As := [.int 3]) (rest := []) ⟨hx, hb, hml, hown, hwd⟩ (s_X10_blame l dC dI cI cZ cB cJ cM cG a10 a11 i1 i2 i3 i4 i5 i6 i7 3 H.size (show (0 : Int) ≤ i1.toInt ∧ i1.toInt ≤ 1600 from p_2) (show (0 : Int) ≤ i5.toInt ∧ i5.toInt ≤ 1600 from p_3) (show (0 : Int) ≤ i6.toInt ∧ i6.toInt ≤ 1600 from p_4)) (cwV 1 hwd (gV kr23_10 kr21_18 kr21_19 kr5_12 kr21_20) rfl rfl rfl (by decide +kernel) ⟨Nat.le_of_ble_eq_true rfl, Nat.le_of_ble_eq_true rfl⟩) (kPreV hPc hK hDc (ci := 10) (q0 := 0) rfl rfl) rfl rfl hl.1 rfl (lv_room (Nat.le_of_ble_eq_true rfl)) dX1_readLine_27 ⟨Nat.le_of_ble_eq_true rfl, Nat.le_of_ble_eq_true rfl⟩) hS (fun q _ h => hFc q h) hFc (fun u40 t H1 locs ht9 hvm hw hB hz1 hk1 hS => ?_)
      obtain ⟨u41, U41, V41⟩ := u40
      obtain ⟨hP1, hD1⟩ := hB
      rw [ht9] at hP1
      obtain ⟨hP, hD⟩ := va_join (wr := [(a0, .inr (1, [.int i0, .ref a1, .ref a2, .ref a3, .ref a4, .ref a5, .ref a6, .ref a7, .ref a8, .ref a9])), (a1, .inl (cI, 10, .inl xF0)), (a2, .inl (cI, 10, .inl xF1)), (a3, .inl (cI, 10, .inl xF2)), (a4, .inl (cI, 10, .inl xF3)), (a5, .inl (cI, 10, .inl xF4)), (a6, .inl (cI, 10, .inl xF5)), (a11, .inl (cB, 1600, .inl xF9))]) (w1 := [(a10, .inr (10, [.ref a11, .int i1, .int (u41 0), .int (u41 1), .int i4, .int i5, .int i6, .int i7]))]) hP hD [7] [0, 1, 2, 3, 4, 5, 6, 8] rfl rfl (by decide) (by decide) hk1 hFc hP1 hD1
      generalize H1 = H at hP hS ⊢
      replace hP : va_P (dC, dI) vwCl [(a0, .inr (1, [.int i0, .ref a1, .ref a2, .ref a3, .ref a4, .ref a5, .ref a6, .ref a7, .ref a8, .ref a9])), (a1, .inl (cI, 10, .inl xF0)), (a2, .inl (cI, 10, .inl xF1)), (a3, .inl (cI, 10, .inl xF2)), (a4, .inl (cI, 10, .inl xF3)), (a5, .inl (cI, 10, .inl xF4)), (a6, .inl (cI, 10, .inl xF5)), (a11, .inl (cB, 1600, .inl xF9)), (a10, .inr (10, [.ref a11, .int i1, .int (u41 0), .int (u41 1), .int i4, .int i5, .int i6, .int i7]))] H := hP
      replace hD : va_D A [(a0, .inr (1, [.int i0, .ref a1, .ref a2, .ref a3, .ref a4, .ref a5, .ref a6, .ref a7, .ref a8, .ref a9])), (a1, .inl (cI, 10, .inl xF0)), (a2, .inl (cI, 10, .inl xF1)), (a3, .inl (cI, 10, .inl xF2)), (a4, .inl (cI, 10, .inl xF3)), (a5, .inl (cI, 10, .inl xF4)), (a6, .inl (cI, 10, .inl xF5)), (a11, .inl (cB, 1600, .inl xF9)), (a10, .inr (10, [.ref a11, .int i1, .int (u41 0), .int (u41 1), .int i4, .int i5, .int i6, .int i7]))] := hD
      have hP9 := hP.sub (ws' := [(a0, .inr (1, [.int i0, .ref a1, .ref a2, .ref a3, .ref a4, .ref a5, .ref a6, .ref a7, .ref a8, .ref a9])), (a1, .inl (cI, 10, .inl xF0)), (a2, .inl (cI, 10, .inl xF1)), (a3, .inl (cI, 10, .inl xF2)), (a4, .inl (cI, 10, .inl xF3)), (a5, .inl (cI, 10, .inl xF4)), (a6, .inl (cI, 10, .inl xF5)), (a10, .inr (10, [.ref a11, .int i1, .int (u41 0), .int (u41 1), .int i4, .int i5, .int i6, .int i7])), (a11, .inl (cB, 1600, .inl xF9))]) [0, 1, 2, 3, 4, 5, 6, 8, 7] rfl
      have hD9 := hD.sub (ws' := [(a0, .inr (1, [.int i0, .ref a1, .ref a2, .ref a3, .ref a4, .ref a5, .ref a6, .ref a7, .ref a8, .ref a9])), (a1, .inl (cI, 10, .inl xF0)), (a2, .inl (cI, 10, .inl xF1)), (a3, .inl (cI, 10, .inl xF2)), (a4, .inl (cI, 10, .inl xF3)), (a5, .inl (cI, 10, .inl xF4)), (a6, .inl (cI, 10, .inl xF5)), (a10, .inr (10, [.ref a11, .int i1, .int (u41 0), .int (u41 1), .int i4, .int i5, .int i6, .int i7])), (a11, .inl (cB, 1600, .inl xF9))]) [0, 1, 2, 3, 4, 5, 6, 8, 7] (by decide) rfl
      rw [hQ]
      exact W.vret hx hb hr (fun t ht hW => ⟨⟨(pickG 0 [i0, (u41 0), (u41 1), i4, i5, i6, i7], pickG (fun _ => 0) [xF0, xF1, xF2, xF3, xF4, xF5], pickG (fun _ => 0) []), rfl, ⟨(show (0 : Int) ≤ i0.toInt ∧ i0.toInt ≤ 10 from p_0), (show rng xF2 10 0 9 from p_1), (show (0 : Int) ≤ i5.toInt ∧ i5.toInt ≤ 1600 from p_3), (show (0 : Int) ≤ i6.toInt ∧ i6.toInt ≤ 1600 from p_4), trivial⟩, (by rw [ht]; exact hP9), hD9⟩, hS.F ht⟩) hS.2.2 dX1_readLine_30
  · rw [ki_eq] at c4
    refine lv_aload_n hx hb dX1_readLine_10 rfl (lv_at hl 2 rfl) ?_
    refine lv_iconst (v := 1) hx hb dX1_readLine_11 (by decide) ?_
    have hPc := hP.sub (ws' := [(a10, .inr (10, [.ref a11, .int i1, .int i2, .int i3, .int i4, .int i5, .int i6, .int i7]))]) [7] rfl
    have hDc := hD.sub (ws' := [(a10, .inr (10, [.ref a11, .int i1, .int i2, .int i3, .int i4, .int i5, .int i6, .int i7]))]) [7] (by decide) rfl
    have hFc := va_free (wc := [(a10, .inr (10, [.ref a11, .int i1, .int i2, .int i3, .int i4, .int i5, .int i6, .int i7]))]) hD hS hA [7] rfl
    refine va_callv (va_runV (As := [.int 1]) (rest := []) ⟨hx, hb, hml, hown, hwd⟩ (s_X10_blame l dC dI cI cZ cB cJ cM cG a10 a11 i1 i2 i3 i4 i5 i6 i7 1 H.size (show (0 : Int) ≤ i1.toInt ∧ i1.toInt ≤ 1600 from p_2) (show (0 : Int) ≤ i5.toInt ∧ i5.toInt ≤ 1600 from p_3) (show (0 : Int) ≤ i6.toInt ∧ i6.toInt ≤ 1600 from p_4)) (cwV 1 hwd (gV kr23_10 kr21_18 kr21_19 kr5_12 kr21_20) rfl rfl rfl (by decide +kernel) ⟨Nat.le_of_ble_eq_true rfl, Nat.le_of_ble_eq_true rfl⟩) (kPreV hPc hK hDc (ci := 10) (q0 := 0) rfl rfl) rfl rfl hl.1 rfl (lv_room (Nat.le_of_ble_eq_true rfl)) dX1_readLine_12 ⟨Nat.le_of_ble_eq_true rfl, Nat.le_of_ble_eq_true rfl⟩) hS (fun q _ h => hFc q h) hFc (fun u43 t H1 locs ht9 hvm hw hB hz1 hk1 hS => ?_)
    obtain ⟨u44, U44, V44⟩ := u43
    obtain ⟨hP1, hD1⟩ := hB
    rw [ht9] at hP1
    obtain ⟨hP, hD⟩ := va_join (wr := [(a0, .inr (1, [.int i0, .ref a1, .ref a2, .ref a3, .ref a4, .ref a5, .ref a6, .ref a7, .ref a8, .ref a9])), (a1, .inl (cI, 10, .inl xF0)), (a2, .inl (cI, 10, .inl xF1)), (a3, .inl (cI, 10, .inl xF2)), (a4, .inl (cI, 10, .inl xF3)), (a5, .inl (cI, 10, .inl xF4)), (a6, .inl (cI, 10, .inl xF5)), (a11, .inl (cB, 1600, .inl xF9))]) (w1 := [(a10, .inr (10, [.ref a11, .int i1, .int (u44 0), .int (u44 1), .int i4, .int i5, .int i6, .int i7]))]) hP hD [7] [0, 1, 2, 3, 4, 5, 6, 8] rfl rfl (by decide) (by decide) hk1 hFc hP1 hD1
    generalize H1 = H at hP hS ⊢
    replace hP : va_P (dC, dI) vwCl [(a0, .inr (1, [.int i0, .ref a1, .ref a2, .ref a3, .ref a4, .ref a5, .ref a6, .ref a7, .ref a8, .ref a9])), (a1, .inl (cI, 10, .inl xF0)), (a2, .inl (cI, 10, .inl xF1)), (a3, .inl (cI, 10, .inl xF2)), (a4, .inl (cI, 10, .inl xF3)), (a5, .inl (cI, 10, .inl xF4)), (a6, .inl (cI, 10, .inl xF5)), (a11, .inl (cB, 1600, .inl xF9)), (a10, .inr (10, [.ref a11, .int i1, .int (u44 0), .int (u44 1), .int i4, .int i5, .int i6, .int i7]))] H := hP
    replace hD : va_D A [(a0, .inr (1, [.int i0, .ref a1, .ref a2, .ref a3, .ref a4, .ref a5, .ref a6, .ref a7, .ref a8, .ref a9])), (a1, .inl (cI, 10, .inl xF0)), (a2, .inl (cI, 10, .inl xF1)), (a3, .inl (cI, 10, .inl xF2)), (a4, .inl (cI, 10, .inl xF3)), (a5, .inl (cI, 10, .inl xF4)), (a6, .inl (cI, 10, .inl xF5)), (a11, .inl (cB, 1600, .inl xF9)), (a10, .inr (10, [.ref a11, .int i1, .int (u44 0), .int (u44 1), .int i4, .int i5, .int i6, .int i7]))] := hD
    have hP9 := hP.sub (ws' := [(a0, .inr (1, [.int i0, .ref a1, .ref a2, .ref a3, .ref a4, .ref a5, .ref a6, .ref a7, .ref a8, .ref a9])), (a1, .inl (cI, 10, .inl xF0)), (a2, .inl (cI, 10, .inl xF1)), (a3, .inl (cI, 10, .inl xF2)), (a4, .inl (cI, 10, .inl xF3)), (a5, .inl (cI, 10, .inl xF4)), (a6, .inl (cI, 10, .inl xF5)), (a10, .inr (10, [.ref a11, .int i1, .int (u44 0), .int (u44 1), .int i4, .int i5, .int i6, .int i7])), (a11, .inl (cB, 1600, .inl xF9))]) [0, 1, 2, 3, 4, 5, 6, 8, 7] rfl
    have hD9 := hD.sub (ws' := [(a0, .inr (1, [.int i0, .ref a1, .ref a2, .ref a3, .ref a4, .ref a5, .ref a6, .ref a7, .ref a8, .ref a9])), (a1, .inl (cI, 10, .inl xF0)), (a2, .inl (cI, 10, .inl xF1)), (a3, .inl (cI, 10, .inl xF2)), (a4, .inl (cI, 10, .inl xF3)), (a5, .inl (cI, 10, .inl xF4)), (a6, .inl (cI, 10, .inl xF5)), (a10, .inr (10, [.ref a11, .int i1, .int (u44 0), .int (u44 1), .int i4, .int i5, .int i6, .int i7])), (a11, .inl (cB, 1600, .inl xF9))]) [0, 1, 2, 3, 4, 5, 6, 8, 7] (by decide) rfl
    rw [hQ]
    exact W.vret hx hb hr (fun t ht hW => ⟨⟨(pickG 0 [i0, (u44 0), (u44 1), i4, i5, i6, i7], pickG (fun _ => 0) [xF0, xF1, xF2, xF3, xF4, xF5], pickG (fun _ => 0) []), rfl, ⟨(show (0 : Int) ≤ i0.toInt ∧ i0.toInt ≤ 10 from p_0), (show rng xF2 10 0 9 from p_1), (show (0 : Int) ≤ i5.toInt ∧ i5.toInt ≤ 1600 from p_3), (show (0 : Int) ≤ i6.toInt ∧ i6.toInt ≤ 1600 from p_4), trivial⟩, (by rw [ht]; exact hP9), hD9⟩, hS.F ht⟩) hS.2.2 dX1_readLine_15
theorem dX2_readDrumLine_0 : decode cX2_readDrumLine 0 = .ok (.aload_n 1, 1) := by decide +kernel
theorem dX2_readDrumLine_1 : decode cX2_readDrumLine 1 = .ok (.ldc 151, 2) := by decide +kernel
theorem dX2_readDrumLine_3 : decode cX2_readDrumLine 3 = .ok (.invokevirtual 153, 3) := by decide +kernel
theorem dX2_readDrumLine_6 : decode cX2_readDrumLine 6 = .ok (.aload_n 1, 1) := by decide +kernel
theorem dX2_readDrumLine_7 : decode cX2_readDrumLine 7 = .ok (.ldc 157, 2) := by decide +kernel
theorem dX2_readDrumLine_9 : decode cX2_readDrumLine 9 = .ok (.invokevirtual 153, 3) := by decide +kernel
theorem dX2_readDrumLine_12 : decode cX2_readDrumLine 12 = .ok (.aload_n 0, 1) := by decide +kernel
theorem dX2_readDrumLine_13 : decode cX2_readDrumLine 13 = .ok (.aload_n 1, 1) := by decide +kernel
theorem dX2_readDrumLine_14 : decode cX2_readDrumLine 14 = .ok (.iconst 4, 1) := by decide +kernel
theorem dX2_readDrumLine_15 : decode cX2_readDrumLine 15 = .ok (.bipush 60, 2) := by decide +kernel
theorem dX2_readDrumLine_17 : decode cX2_readDrumLine 17 = .ok (.invokevirtual 158, 3) := by decide +kernel
theorem dX2_readDrumLine_20 : decode cX2_readDrumLine 20 = .ok (.putfield 43, 3) := by decide +kernel
theorem dX2_readDrumLine_23 : decode cX2_readDrumLine 23 = .ok (.aload_n 1, 1) := by decide +kernel
theorem dX2_readDrumLine_24 : decode cX2_readDrumLine 24 = .ok (.ldc 161, 2) := by decide +kernel
theorem dX2_readDrumLine_26 : decode cX2_readDrumLine 26 = .ok (.invokevirtual 153, 3) := by decide +kernel
theorem dX2_readDrumLine_29 : decode cX2_readDrumLine 29 = .ok (.aload_n 0, 1) := by decide +kernel
theorem dX2_readDrumLine_30 : decode cX2_readDrumLine 30 = .ok (.aload_n 1, 1) := by decide +kernel
theorem dX2_readDrumLine_31 : decode cX2_readDrumLine 31 = .ok (.iconst 1, 1) := by decide +kernel
theorem dX2_readDrumLine_32 : decode cX2_readDrumLine 32 = .ok (.bipush 60, 2) := by decide +kernel
theorem dX2_readDrumLine_34 : decode cX2_readDrumLine 34 = .ok (.invokevirtual 158, 3) := by decide +kernel
theorem dX2_readDrumLine_37 : decode cX2_readDrumLine 37 = .ok (.putfield 71, 3) := by decide +kernel
theorem dX2_readDrumLine_40 : decode cX2_readDrumLine 40 = .ok (.aload_n 1, 1) := by decide +kernel
theorem dX2_readDrumLine_41 : decode cX2_readDrumLine 41 = .ok (.ldc 162, 2) := by decide +kernel
theorem dX2_readDrumLine_43 : decode cX2_readDrumLine 43 = .ok (.invokevirtual 153, 3) := by decide +kernel
theorem dX2_readDrumLine_46 : decode cX2_readDrumLine 46 = .ok (.aload_n 0, 1) := by decide +kernel
theorem dX2_readDrumLine_47 : decode cX2_readDrumLine 47 = .ok (.aload_n 1, 1) := by decide +kernel
theorem dX2_readDrumLine_48 : decode cX2_readDrumLine 48 = .ok (.iconst 0, 1) := by decide +kernel
theorem dX2_readDrumLine_49 : decode cX2_readDrumLine 49 = .ok (.bipush 9, 2) := by decide +kernel
theorem dX2_readDrumLine_51 : decode cX2_readDrumLine 51 = .ok (.invokevirtual 158, 3) := by decide +kernel
theorem dX2_readDrumLine_54 : decode cX2_readDrumLine 54 = .ok (.putfield 74, 3) := by decide +kernel
theorem dX2_readDrumLine_57 : decode cX2_readDrumLine 57 = .ok (.return_, 1) := by decide +kernel
set_option maxHeartbeats 4000000 in
set_option maxRecDepth 100000 in
theorem s_X2_readDrumLine (l : Launch) (dC : Nat → ClassId) (dI : Nat → Nat → Nat) (cI cZ cB cJ cM cG : ClassId) (a0 a1 a2 a3 a4 a5 a26 a27 : Nat) (i0 i1 i2 i3 i4 i5 i6 i7 i8 i20 i21 i22 i23 i24 i25 i26 : Int32) (xF21 : Nat → Int32) (sz : Nat) (p_0 : (0 : Int) ≤ i0.toInt ∧ i0.toInt ≤ 60) (p_1 : (0 : Int) ≤ i3.toInt ∧ i3.toInt ≤ 6) (p_2 : (0 : Int) ≤ i5.toInt ∧ i5.toInt ≤ 1) (p_3 : (0 : Int) ≤ i8.toInt ∧ i8.toInt ≤ 1) (p_4 : (0 : Int) ≤ i20.toInt ∧ i20.toInt ≤ 1600) (p_5 : (0 : Int) ≤ i24.toInt ∧ i24.toInt ≤ 1600) (p_6 : (0 : Int) ≤ i25.toInt ∧ i25.toInt ≤ 1600) : Met l yX2_readDrumLine (kw yX2_readDrumLine cX2_readDrumLine 2 none) ({ frames := 6, cells := 0, slots := 0, locals := 128 } : Room) (va_Pc [.ref a0, .ref a26] (kPreX dC dI [(cI, .int), (cZ, .boolean), (cB, .byte), (cJ, .long), (cM, .object RX2), (cG, .array .int)] [(a0, .inr (2, [.int i0, .int i1, .int i2, .int i3, .int i4, .int i5, .int i6, .int i7, .int i8, .ref a1, .ref a2, .ref a3, .ref a4, .ref a5])), (a26, .inr (10, [.ref a27, .int i20, .int i21, .int i22, .int i23, .int i24, .int i25, .int i26])), (a27, .inl (cB, 1600, .inl xF21))] sz NT)) (va_Qv (fun (u9 : (Nat → Int32) × (Nat → Nat → Int32) × (Nat → Nat → Int64)) => ((0 : Int) ≤ (u9.1 0).toInt ∧ (u9.1 0).toInt ≤ 60) ∧ ((0 : Int) ≤ (u9.1 6).toInt ∧ (u9.1 6).toInt ≤ 1600) ∧ ((0 : Int) ≤ (u9.1 7).toInt ∧ (u9.1 7).toInt ≤ 1600) ∧ True) (fun u9 t => va_P (dC, dI) vwCl [(a0, .inr (2, [.int (u9.1 0), .int (u9.1 1), .int (u9.1 2), .int i3, .int i4, .int i5, .int i6, .int i7, .int i8, .ref a1, .ref a2, .ref a3, .ref a4, .ref a5])), (a26, .inr (10, [.ref a27, .int i20, .int (u9.1 3), .int (u9.1 4), .int (u9.1 5), .int (u9.1 6), .int (u9.1 7), .int (u9.1 8)])), (a27, .inl (cB, 1600, .inl xF21))] t.heap ∧ va_D (va_A [(a0, .inr (2, [.int i0, .int i1, .int i2, .int i3, .int i4, .int i5, .int i6, .int i7, .int i8, .ref a1, .ref a2, .ref a3, .ref a4, .ref a5])), (a26, .inr (10, [.ref a27, .int i20, .int i21, .int i22, .int i23, .int i24, .int i25, .int i26])), (a27, .inl (cB, 1600, .inl xF21))] sz) [(a0, .inr (2, [.int (u9.1 0), .int (u9.1 1), .int (u9.1 2), .int i3, .int i4, .int i5, .int i6, .int i7, .int i8, .ref a1, .ref a2, .ref a3, .ref a4, .ref a5])), (a26, .inr (10, [.ref a27, .int i20, .int (u9.1 3), .int (u9.1 4), .int (u9.1 5), .int (u9.1 6), .int (u9.1 7), .int (u9.1 8)])), (a27, .inl (cB, 1600, .inl xF21))]) (va_A [(a0, .inr (2, [.int i0, .int i1, .int i2, .int i3, .int i4, .int i5, .int i6, .int i7, .int i8, .ref a1, .ref a2, .ref a3, .ref a4, .ref a5])), (a26, .inr (10, [.ref a27, .int i20, .int i21, .int i22, .int i23, .int i24, .int i25, .int i26])), (a27, .inl (cB, 1600, .inl xF21))] sz)) 0 0 (va_A [(a0, .inr (2, [.int i0, .int i1, .int i2, .int i3, .int i4, .int i5, .int i6, .int i7, .int i8, .ref a1, .ref a2, .ref a3, .ref a4, .ref a5])), (a26, .inr (10, [.ref a27, .int i20, .int i21, .int i22, .int i23, .int i24, .int i25, .int i26])), (a27, .inl (cB, 1600, .inl xF21))] sz) := by
  refine kEnterX (by decide) (Nat.le_of_ble_eq_true rfl) ?_
  intro p e s m below meth c ls hx hb hr hml hown hlocks hin hwd hsz hP hK hD hN hl
  subst hsz
  generalize hAe : va_A [(a0, .inr (2, [.int i0, .int i1, .int i2, .int i3, .int i4, .int i5, .int i6, .int i7, .int i8, .ref a1, .ref a2, .ref a3, .ref a4, .ref a5])), (a26, .inr (10, [.ref a27, .int i20, .int i21, .int i22, .int i23, .int i24, .int i25, .int i26])), (a27, .inl (cB, 1600, .inl xF21))] s.heap.size = A at hD hN ⊢
  have hA : ∀ q : Nat, s.heap.size ≤ q → A q := fun q h => by rw [← hAe]; exact Or.inr h
  have hS : va_S A s.heap s.heap [] := va_S.rf
  have hl : lv_has ls 2 [(0, .ref a0), (1, .ref a26)] := hl
  obtain ⟨Q, hQ⟩ : ∃ Q, Q = MQ below (va_Qv (fun (u9 : (Nat → Int32) × (Nat → Nat → Int32) × (Nat → Nat → Int64)) => ((0 : Int) ≤ (u9.1 0).toInt ∧ (u9.1 0).toInt ≤ 60) ∧ ((0 : Int) ≤ (u9.1 6).toInt ∧ (u9.1 6).toInt ≤ 1600) ∧ ((0 : Int) ≤ (u9.1 7).toInt ∧ (u9.1 7).toInt ≤ 1600) ∧ True) (fun u9 t => va_P (dC, dI) vwCl [(a0, .inr (2, [.int (u9.1 0), .int (u9.1 1), .int (u9.1 2), .int i3, .int i4, .int i5, .int i6, .int i7, .int i8, .ref a1, .ref a2, .ref a3, .ref a4, .ref a5])), (a26, .inr (10, [.ref a27, .int i20, .int (u9.1 3), .int (u9.1 4), .int (u9.1 5), .int (u9.1 6), .int (u9.1 7), .int (u9.1 8)])), (a27, .inl (cB, 1600, .inl xF21))] t.heap ∧ va_D A [(a0, .inr (2, [.int (u9.1 0), .int (u9.1 1), .int (u9.1 2), .int i3, .int i4, .int i5, .int i6, .int i7, .int i8, .ref a1, .ref a2, .ref a3, .ref a4, .ref a5])), (a26, .inr (10, [.ref a27, .int i20, .int (u9.1 3), .int (u9.1 4), .int (u9.1 5), .int (u9.1 6), .int (u9.1 7), .int (u9.1 8)])), (a27, .inl (cB, 1600, .inl xF21))]) A) ([.ref a0, .ref a26] : List Value).toArray s 0 0 A := ⟨_, rfl⟩
  rw [← hQ]
  have k0 : (0 : Int32).toInt = 0 := by decide
  have k1 : (1 : Int32).toInt = 1 := by decide
  have k4 : (4 : Int32).toInt = 4 := by decide
  have k9 : (9 : Int32).toInt = 9 := by decide
  have k60 : (60 : Int32).toInt = 60 := by decide
  obtain ⟨sa151, sav151, sn151, sf151, hsn151, hR151, hks151⟩ := hN.2 _ rf_RX2_151
  have hN151 : NS sa151 sav151 sn151 sf151 A s := ⟨hN.1, hsn151.1, hks151⟩
  obtain ⟨sa157, sav157, sn157, sf157, hsn157, hR157, hks157⟩ := hN.2 _ rf_RX2_157
  have hN157 : NS sa157 sav157 sn157 sf157 A s := ⟨hN.1, hsn157.1, hks157⟩
  obtain ⟨sa161, sav161, sn161, sf161, hsn161, hR161, hks161⟩ := hN.2 _ rf_RX2_161
  have hN161 : NS sa161 sav161 sn161 sf161 A s := ⟨hN.1, hsn161.1, hks161⟩
  obtain ⟨sa162, sav162, sn162, sf162, hsn162, hR162, hks162⟩ := hN.2 _ rf_RX2_162
  have hN162 : NS sa162 sav162 sn162 sf162 A s := ⟨hN.1, hsn162.1, hks162⟩
  refine lv_aload_n hx hb dX2_readDrumLine_0 rfl (lv_at hl 1 rfl) ?_
  refine va_ldcS hx hb hown hR151 dX2_readDrumLine_1 ?_
  have hPc := hP.sub (ws' := [(a26, .inr (10, [.ref a27, .int i20, .int i21, .int i22, .int i23, .int i24, .int i25, .int i26])), (a27, .inl (cB, 1600, .inl xF21))]) [1, 2] rfl
  have hDc := hD.sub (ws' := [(a26, .inr (10, [.ref a27, .int i20, .int i21, .int i22, .int i23, .int i24, .int i25, .int i26])), (a27, .inl (cB, 1600, .inl xF21))]) [1, 2] (by decide) rfl
  have hFc := va_free (wc := [(a26, .inr (10, [.ref a27, .int i20, .int i21, .int i22, .int i23, .int i24, .int i25, .int i26])), (a27, .inl (cB, 1600, .inl xF21))]) hD hS hA [1, 2] rfl
  refine va_callv (va_runV (As := [.ref sa151]) (rest := []) ⟨hx, hb, hml, hown, hwd⟩ (s_X10_takeWord l dC dI cI cZ cB cJ cM cG a26 a27 i20 i21 i22 i23 i24 i25 i26 xF21 sa151 sav151 sn151 sf151 s.heap.size (show (0 : Int) ≤ i20.toInt ∧ i20.toInt ≤ 1600 from p_4) (show (0 : Int) ≤ i24.toInt ∧ i24.toInt ≤ 1600 from p_5) (show (0 : Int) ≤ i25.toInt ∧ i25.toInt ≤ 1600 from p_6)) (cwV 1 hwd (gV kr19_14 kr19_15 kr19_16 kr5_12 kr19_17) rfl rfl rfl (by decide +kernel) ⟨Nat.le_of_ble_eq_true rfl, Nat.le_of_ble_eq_true rfl⟩) (kPreVX hPc hK hDc (NS_st _ _ _ _) hN151 hS hFc (ci := 10) (q0 := 0) rfl rfl) rfl rfl hl.1 rfl (lv_room (Nat.le_of_ble_eq_true rfl)) dX2_readDrumLine_3 ⟨Nat.le_of_ble_eq_true rfl, Nat.le_of_ble_eq_true rfl⟩) hS (fun q _ h => hFc q h) hFc (fun u2 t H1 locs ht9 hvm hw hB hz1 hk1 hS => ?_)
  obtain ⟨u3, U3, V3⟩ := u2
  obtain ⟨hw4, hw5, -⟩ := hw
  replace hw4 : (0 : Int) ≤ (u3 3).toInt ∧ (u3 3).toInt ≤ 1600 := hw4
  replace hw5 : (0 : Int) ≤ (u3 4).toInt ∧ (u3 4).toInt ≤ 1600 := hw5
  obtain ⟨hP1, hD1⟩ := hB
  rw [ht9] at hP1
  obtain ⟨hP, hD⟩ := va_join (wr := [(a0, .inr (2, [.int i0, .int i1, .int i2, .int i3, .int i4, .int i5, .int i6, .int i7, .int i8, .ref a1, .ref a2, .ref a3, .ref a4, .ref a5]))]) (w1 := [(a26, .inr (10, [.ref a27, .int i20, .int (u3 0), .int (u3 1), .int (u3 2), .int (u3 3), .int (u3 4), .int (u3 5)])), (a27, .inl (cB, 1600, .inl xF21))]) hP hD [1, 2] [0] rfl rfl (by decide) (by decide) hk1 hFc hP1 hD1
  generalize H1 = H at hP hS ⊢
  replace hP : va_P (dC, dI) vwCl [(a0, .inr (2, [.int i0, .int i1, .int i2, .int i3, .int i4, .int i5, .int i6, .int i7, .int i8, .ref a1, .ref a2, .ref a3, .ref a4, .ref a5])), (a26, .inr (10, [.ref a27, .int i20, .int (u3 0), .int (u3 1), .int (u3 2), .int (u3 3), .int (u3 4), .int (u3 5)])), (a27, .inl (cB, 1600, .inl xF21))] H := hP
  replace hD : va_D A [(a0, .inr (2, [.int i0, .int i1, .int i2, .int i3, .int i4, .int i5, .int i6, .int i7, .int i8, .ref a1, .ref a2, .ref a3, .ref a4, .ref a5])), (a26, .inr (10, [.ref a27, .int i20, .int (u3 0), .int (u3 1), .int (u3 2), .int (u3 3), .int (u3 4), .int (u3 5)])), (a27, .inl (cB, 1600, .inl xF21))] := hD
  refine lv_aload_n hx hb dX2_readDrumLine_6 rfl (lv_at hl 1 rfl) ?_
  refine va_ldcS hx hb hown hR157 dX2_readDrumLine_7 ?_
  have hPc := hP.sub (ws' := [(a26, .inr (10, [.ref a27, .int i20, .int (u3 0), .int (u3 1), .int (u3 2), .int (u3 3), .int (u3 4), .int (u3 5)])), (a27, .inl (cB, 1600, .inl xF21))]) [1, 2] rfl
  have hDc := hD.sub (ws' := [(a26, .inr (10, [.ref a27, .int i20, .int (u3 0), .int (u3 1), .int (u3 2), .int (u3 3), .int (u3 4), .int (u3 5)])), (a27, .inl (cB, 1600, .inl xF21))]) [1, 2] (by decide) rfl
  have hFc := va_free (wc := [(a26, .inr (10, [.ref a27, .int i20, .int (u3 0), .int (u3 1), .int (u3 2), .int (u3 3), .int (u3 4), .int (u3 5)])), (a27, .inl (cB, 1600, .inl xF21))]) hD hS hA [1, 2] rfl
  refine va_callv (va_runV (As := [.ref sa157]) (rest := []) ⟨hx, hb, hml, hown, hwd⟩ (s_X10_takeWord l dC dI cI cZ cB cJ cM cG a26 a27 i20 (u3 0) (u3 1) (u3 2) (u3 3) (u3 4) (u3 5) xF21 sa157 sav157 sn157 sf157 H.size (show (0 : Int) ≤ i20.toInt ∧ i20.toInt ≤ 1600 from p_4) (show (0 : Int) ≤ (u3 3).toInt ∧ (u3 3).toInt ≤ 1600 from hw4) (show (0 : Int) ≤ (u3 4).toInt ∧ (u3 4).toInt ≤ 1600 from hw5)) (cwV 1 hwd (gV kr19_14 kr19_15 kr19_16 kr5_12 kr19_17) rfl rfl rfl (by decide +kernel) ⟨Nat.le_of_ble_eq_true rfl, Nat.le_of_ble_eq_true rfl⟩) (kPreVX hPc hK hDc (NS_st _ _ _ _) hN157 hS hFc (ci := 10) (q0 := 0) rfl rfl) rfl rfl hl.1 rfl (lv_room (Nat.le_of_ble_eq_true rfl)) dX2_readDrumLine_9 ⟨Nat.le_of_ble_eq_true rfl, Nat.le_of_ble_eq_true rfl⟩) hS (fun q _ h => hFc q h) hFc (fun u7 t H1 locs ht9 hvm hw hB hz1 hk1 hS => ?_)
  obtain ⟨u8, U8, V8⟩ := u7
  obtain ⟨hw9, hw10, -⟩ := hw
  replace hw9 : (0 : Int) ≤ (u8 3).toInt ∧ (u8 3).toInt ≤ 1600 := hw9
  replace hw10 : (0 : Int) ≤ (u8 4).toInt ∧ (u8 4).toInt ≤ 1600 := hw10
  obtain ⟨hP1, hD1⟩ := hB
  rw [ht9] at hP1
  obtain ⟨hP, hD⟩ := va_join (wr := [(a0, .inr (2, [.int i0, .int i1, .int i2, .int i3, .int i4, .int i5, .int i6, .int i7, .int i8, .ref a1, .ref a2, .ref a3, .ref a4, .ref a5]))]) (w1 := [(a26, .inr (10, [.ref a27, .int i20, .int (u8 0), .int (u8 1), .int (u8 2), .int (u8 3), .int (u8 4), .int (u8 5)])), (a27, .inl (cB, 1600, .inl xF21))]) hP hD [1, 2] [0] rfl rfl (by decide) (by decide) hk1 hFc hP1 hD1
  generalize H1 = H at hP hS ⊢
  replace hP : va_P (dC, dI) vwCl [(a0, .inr (2, [.int i0, .int i1, .int i2, .int i3, .int i4, .int i5, .int i6, .int i7, .int i8, .ref a1, .ref a2, .ref a3, .ref a4, .ref a5])), (a26, .inr (10, [.ref a27, .int i20, .int (u8 0), .int (u8 1), .int (u8 2), .int (u8 3), .int (u8 4), .int (u8 5)])), (a27, .inl (cB, 1600, .inl xF21))] H := hP
  replace hD : va_D A [(a0, .inr (2, [.int i0, .int i1, .int i2, .int i3, .int i4, .int i5, .int i6, .int i7, .int i8, .ref a1, .ref a2, .ref a3, .ref a4, .ref a5])), (a26, .inr (10, [.ref a27, .int i20, .int (u8 0), .int (u8 1), .int (u8 2), .int (u8 3), .int (u8 4), .int (u8 5)])), (a27, .inl (cB, 1600, .inl xF21))] := hD
  refine lv_aload_n hx hb dX2_readDrumLine_12 rfl (lv_at hl 0 rfl) ?_
  refine lv_aload_n hx hb dX2_readDrumLine_13 rfl (lv_at hl 1 rfl) ?_
  refine lv_iconst (v := 4) hx hb dX2_readDrumLine_14 (by decide) ?_
  refine lv_bipush (v := 60) hx hb dX2_readDrumLine_15 (by decide) ?_
  have hPc := hP.sub (ws' := [(a26, .inr (10, [.ref a27, .int i20, .int (u8 0), .int (u8 1), .int (u8 2), .int (u8 3), .int (u8 4), .int (u8 5)])), (a27, .inl (cB, 1600, .inl xF21))]) [1, 2] rfl
  have hDc := hD.sub (ws' := [(a26, .inr (10, [.ref a27, .int i20, .int (u8 0), .int (u8 1), .int (u8 2), .int (u8 3), .int (u8 4), .int (u8 5)])), (a27, .inl (cB, 1600, .inl xF21))]) [1, 2] (by decide) rfl
  have hFc := va_free (wc := [(a26, .inr (10, [.ref a27, .int i20, .int (u8 0), .int (u8 1), .int (u8 2), .int (u8 3), .int (u8 4), .int (u8 5)])), (a27, .inl (cB, 1600, .inl xF21))]) hD hS hA [1, 2] rfl
  refine va_calli (va_runV (As := [.int 4, .int 60]) (rest := [.ref a0]) ⟨hx, hb, hml, hown, hwd⟩ (s_X10_takeNumber l dC dI cI cZ cB cJ cM cG a26 a27 i20 (u8 0) (u8 1) (u8 2) (u8 3) (u8 4) (u8 5) xF21 4 60 H.size (show (0 : Int) ≤ i20.toInt ∧ i20.toInt ≤ 1600 from p_4) (show (0 : Int) ≤ (u8 3).toInt ∧ (u8 3).toInt ≤ 1600 from hw9) (show (0 : Int) ≤ (u8 4).toInt ∧ (u8 4).toInt ≤ 1600 from hw10)) (cwV 2 hwd (gV kr21_21 kr21_22 kr21_23 kr5_12 kr22_0) rfl rfl rfl (by decide +kernel) ⟨Nat.le_of_ble_eq_true rfl, Nat.le_of_ble_eq_true rfl⟩) (kPreV hPc hK hDc (ci := 10) (q0 := 0) rfl rfl) rfl rfl hl.1 rfl (lv_room (Nat.le_of_ble_eq_true rfl)) dX2_readDrumLine_17 ⟨Nat.le_of_ble_eq_true rfl, Nat.le_of_ble_eq_true rfl⟩) hS (fun q _ h => hFc q h) hFc (fun r11 u12 t H1 locs ht9 hvm hw hB hz1 hk1 hS => ?_)
  obtain ⟨u13, U13, V13⟩ := u12
  obtain ⟨hw14, hw15, hw16, -⟩ := hw
  replace hw14 : (4 : Int32).toInt ≤ r11.toInt ∧ (r11.toInt ≤ (4 : Int32).toInt ∨ r11.toInt ≤ (60 : Int32).toInt) := hw14
  replace hw15 : (0 : Int) ≤ (u13 3).toInt ∧ (u13 3).toInt ≤ 1600 := hw15
  replace hw16 : (0 : Int) ≤ (u13 4).toInt ∧ (u13 4).toInt ≤ 1600 := hw16
  obtain ⟨hP1, hD1⟩ := hB
  rw [ht9] at hP1
  obtain ⟨hP, hD⟩ := va_join (wr := [(a0, .inr (2, [.int i0, .int i1, .int i2, .int i3, .int i4, .int i5, .int i6, .int i7, .int i8, .ref a1, .ref a2, .ref a3, .ref a4, .ref a5]))]) (w1 := [(a26, .inr (10, [.ref a27, .int i20, .int (u13 0), .int (u13 1), .int (u13 2), .int (u13 3), .int (u13 4), .int (u13 5)])), (a27, .inl (cB, 1600, .inl xF21))]) hP hD [1, 2] [0] rfl rfl (by decide) (by decide) hk1 hFc hP1 hD1
  generalize H1 = H at hP hS ⊢
  replace hP : va_P (dC, dI) vwCl [(a0, .inr (2, [.int i0, .int i1, .int i2, .int i3, .int i4, .int i5, .int i6, .int i7, .int i8, .ref a1, .ref a2, .ref a3, .ref a4, .ref a5])), (a26, .inr (10, [.ref a27, .int i20, .int (u13 0), .int (u13 1), .int (u13 2), .int (u13 3), .int (u13 4), .int (u13 5)])), (a27, .inl (cB, 1600, .inl xF21))] H := hP
  replace hD : va_D A [(a0, .inr (2, [.int i0, .int i1, .int i2, .int i3, .int i4, .int i5, .int i6, .int i7, .int i8, .ref a1, .ref a2, .ref a3, .ref a4, .ref a5])), (a26, .inr (10, [.ref a27, .int i20, .int (u13 0), .int (u13 1), .int (u13 2), .int (u13 3), .int (u13 4), .int (u13 5)])), (a27, .inl (cB, 1600, .inl xF21))] := hD
  refine va_put (D := (dC, dI)) (ci := 2) (v := .int r11) (ty := .int) (C := RX2) (T := TX2) (N := 14) hx hb hwd inlX2 tyX2 tyX2_ok nmX2 hown hK hP hD hS 0 rfl rfl 0 (by decide) (hwd _ kr14_22) (fun _ h9 => h9) rfl (by decide +kernel) rfl rfl (Nat.le_of_ble_eq_true rfl) dX2_readDrumLine_20 (fun H locs hP hD hS => ?_)
  replace hP : va_P (dC, dI) vwCl [(a0, .inr (2, [.int r11, .int i1, .int i2, .int i3, .int i4, .int i5, .int i6, .int i7, .int i8, .ref a1, .ref a2, .ref a3, .ref a4, .ref a5])), (a26, .inr (10, [.ref a27, .int i20, .int (u13 0), .int (u13 1), .int (u13 2), .int (u13 3), .int (u13 4), .int (u13 5)])), (a27, .inl (cB, 1600, .inl xF21))] H := hP
  replace hD : va_D A [(a0, .inr (2, [.int r11, .int i1, .int i2, .int i3, .int i4, .int i5, .int i6, .int i7, .int i8, .ref a1, .ref a2, .ref a3, .ref a4, .ref a5])), (a26, .inr (10, [.ref a27, .int i20, .int (u13 0), .int (u13 1), .int (u13 2), .int (u13 3), .int (u13 4), .int (u13 5)])), (a27, .inl (cB, 1600, .inl xF21))] := hD
  refine lv_aload_n hx hb dX2_readDrumLine_23 rfl (lv_at hl 1 rfl) ?_
  refine va_ldcS hx hb hown hR161 dX2_readDrumLine_24 ?_
  have hPc := hP.sub (ws' := [(a26, .inr (10, [.ref a27, .int i20, .int (u13 0), .int (u13 1), .int (u13 2), .int (u13 3), .int (u13 4), .int (u13 5)])), (a27, .inl (cB, 1600, .inl xF21))]) [1, 2] rfl
  have hDc := hD.sub (ws' := [(a26, .inr (10, [.ref a27, .int i20, .int (u13 0), .int (u13 1), .int (u13 2), .int (u13 3), .int (u13 4), .int (u13 5)])), (a27, .inl (cB, 1600, .inl xF21))]) [1, 2] (by decide) rfl
  have hFc := va_free (wc := [(a26, .inr (10, [.ref a27, .int i20, .int (u13 0), .int (u13 1), .int (u13 2), .int (u13 3), .int (u13 4), .int (u13 5)])), (a27, .inl (cB, 1600, .inl xF21))]) hD hS hA [1, 2] rfl
  refine va_callv (va_runV (As := [.ref sa161]) (rest := []) ⟨hx, hb, hml, hown, hwd⟩ (s_X10_takeWord l dC dI cI cZ cB cJ cM cG a26 a27 i20 (u13 0) (u13 1) (u13 2) (u13 3) (u13 4) (u13 5) xF21 sa161 sav161 sn161 sf161 H.size (show (0 : Int) ≤ i20.toInt ∧ i20.toInt ≤ 1600 from p_4) (show (0 : Int) ≤ (u13 3).toInt ∧ (u13 3).toInt ≤ 1600 from hw15) (show (0 : Int) ≤ (u13 4).toInt ∧ (u13 4).toInt ≤ 1600 from hw16)) (cwV 1 hwd (gV kr19_14 kr19_15 kr19_16 kr5_12 kr19_17) rfl rfl rfl (by decide +kernel) ⟨Nat.le_of_ble_eq_true rfl, Nat.le_of_ble_eq_true rfl⟩) (kPreVX hPc hK hDc (NS_st _ _ _ _) hN161 hS hFc (ci := 10) (q0 := 0) rfl rfl) rfl rfl hl.1 rfl (lv_room (Nat.le_of_ble_eq_true rfl)) dX2_readDrumLine_26 ⟨Nat.le_of_ble_eq_true rfl, Nat.le_of_ble_eq_true rfl⟩) hS (fun q _ h => hFc q h) hFc (fun u18 t H1 locs ht9 hvm hw hB hz1 hk1 hS => ?_)
  obtain ⟨u19, U19, V19⟩ := u18
  obtain ⟨hw20, hw21, -⟩ := hw
  replace hw20 : (0 : Int) ≤ (u19 3).toInt ∧ (u19 3).toInt ≤ 1600 := hw20
  replace hw21 : (0 : Int) ≤ (u19 4).toInt ∧ (u19 4).toInt ≤ 1600 := hw21
  obtain ⟨hP1, hD1⟩ := hB
  rw [ht9] at hP1
  obtain ⟨hP, hD⟩ := va_join (wr := [(a0, .inr (2, [.int r11, .int i1, .int i2, .int i3, .int i4, .int i5, .int i6, .int i7, .int i8, .ref a1, .ref a2, .ref a3, .ref a4, .ref a5]))]) (w1 := [(a26, .inr (10, [.ref a27, .int i20, .int (u19 0), .int (u19 1), .int (u19 2), .int (u19 3), .int (u19 4), .int (u19 5)])), (a27, .inl (cB, 1600, .inl xF21))]) hP hD [1, 2] [0] rfl rfl (by decide) (by decide) hk1 hFc hP1 hD1
  generalize H1 = H at hP hS ⊢
  replace hP : va_P (dC, dI) vwCl [(a0, .inr (2, [.int r11, .int i1, .int i2, .int i3, .int i4, .int i5, .int i6, .int i7, .int i8, .ref a1, .ref a2, .ref a3, .ref a4, .ref a5])), (a26, .inr (10, [.ref a27, .int i20, .int (u19 0), .int (u19 1), .int (u19 2), .int (u19 3), .int (u19 4), .int (u19 5)])), (a27, .inl (cB, 1600, .inl xF21))] H := hP
  replace hD : va_D A [(a0, .inr (2, [.int r11, .int i1, .int i2, .int i3, .int i4, .int i5, .int i6, .int i7, .int i8, .ref a1, .ref a2, .ref a3, .ref a4, .ref a5])), (a26, .inr (10, [.ref a27, .int i20, .int (u19 0), .int (u19 1), .int (u19 2), .int (u19 3), .int (u19 4), .int (u19 5)])), (a27, .inl (cB, 1600, .inl xF21))] := hD
  refine lv_aload_n hx hb dX2_readDrumLine_29 rfl (lv_at hl 0 rfl) ?_
  refine lv_aload_n hx hb dX2_readDrumLine_30 rfl (lv_at hl 1 rfl) ?_
  refine lv_iconst (v := 1) hx hb dX2_readDrumLine_31 (by decide) ?_
  refine lv_bipush (v := 60) hx hb dX2_readDrumLine_32 (by decide) ?_
  have hPc := hP.sub (ws' := [(a26, .inr (10, [.ref a27, .int i20, .int (u19 0), .int (u19 1), .int (u19 2), .int (u19 3), .int (u19 4), .int (u19 5)])), (a27, .inl (cB, 1600, .inl xF21))]) [1, 2] rfl
  have hDc := hD.sub (ws' := [(a26, .inr (10, [.ref a27, .int i20, .int (u19 0), .int (u19 1), .int (u19 2), .int (u19 3), .int (u19 4), .int (u19 5)])), (a27, .inl (cB, 1600, .inl xF21))]) [1, 2] (by decide) rfl
  have hFc := va_free (wc := [(a26, .inr (10, [.ref a27, .int i20, .int (u19 0), .int (u19 1), .int (u19 2), .int (u19 3), .int (u19 4), .int (u19 5)])), (a27, .inl (cB, 1600, .inl xF21))]) hD hS hA [1, 2] rfl
  refine va_calli (va_runV (As := [.int 1, .int 60]) (rest := [.ref a0]) ⟨hx, hb, hml, hown, hwd⟩ (s_X10_takeNumber l dC dI cI cZ cB cJ cM cG a26 a27 i20 (u19 0) (u19 1) (u19 2) (u19 3) (u19 4) (u19 5) xF21 1 60 H.size (show (0 : Int) ≤ i20.toInt ∧ i20.toInt ≤ 1600 from p_4) (show (0 : Int) ≤ (u19 3).toInt ∧ (u19 3).toInt ≤ 1600 from hw20) (show (0 : Int) ≤ (u19 4).toInt ∧ (u19 4).toInt ≤ 1600 from hw21)) (cwV 2 hwd (gV kr21_21 kr21_22 kr21_23 kr5_12 kr22_0) rfl rfl rfl (by decide +kernel) ⟨Nat.le_of_ble_eq_true rfl, Nat.le_of_ble_eq_true rfl⟩) (kPreV hPc hK hDc (ci := 10) (q0 := 0) rfl rfl) rfl rfl hl.1 rfl (lv_room (Nat.le_of_ble_eq_true rfl)) dX2_readDrumLine_34 ⟨Nat.le_of_ble_eq_true rfl, Nat.le_of_ble_eq_true rfl⟩) hS (fun q _ h => hFc q h) hFc (fun r22 u23 t H1 locs ht9 hvm hw hB hz1 hk1 hS => ?_)
  obtain ⟨u24, U24, V24⟩ := u23
  obtain ⟨hw25, hw26, hw27, -⟩ := hw
  replace hw25 : (1 : Int32).toInt ≤ r22.toInt ∧ (r22.toInt ≤ (1 : Int32).toInt ∨ r22.toInt ≤ (60 : Int32).toInt) := hw25
  replace hw26 : (0 : Int) ≤ (u24 3).toInt ∧ (u24 3).toInt ≤ 1600 := hw26
  replace hw27 : (0 : Int) ≤ (u24 4).toInt ∧ (u24 4).toInt ≤ 1600 := hw27
  obtain ⟨hP1, hD1⟩ := hB
  rw [ht9] at hP1
  obtain ⟨hP, hD⟩ := va_join (wr := [(a0, .inr (2, [.int r11, .int i1, .int i2, .int i3, .int i4, .int i5, .int i6, .int i7, .int i8, .ref a1, .ref a2, .ref a3, .ref a4, .ref a5]))]) (w1 := [(a26, .inr (10, [.ref a27, .int i20, .int (u24 0), .int (u24 1), .int (u24 2), .int (u24 3), .int (u24 4), .int (u24 5)])), (a27, .inl (cB, 1600, .inl xF21))]) hP hD [1, 2] [0] rfl rfl (by decide) (by decide) hk1 hFc hP1 hD1
  generalize H1 = H at hP hS ⊢
  replace hP : va_P (dC, dI) vwCl [(a0, .inr (2, [.int r11, .int i1, .int i2, .int i3, .int i4, .int i5, .int i6, .int i7, .int i8, .ref a1, .ref a2, .ref a3, .ref a4, .ref a5])), (a26, .inr (10, [.ref a27, .int i20, .int (u24 0), .int (u24 1), .int (u24 2), .int (u24 3), .int (u24 4), .int (u24 5)])), (a27, .inl (cB, 1600, .inl xF21))] H := hP
  replace hD : va_D A [(a0, .inr (2, [.int r11, .int i1, .int i2, .int i3, .int i4, .int i5, .int i6, .int i7, .int i8, .ref a1, .ref a2, .ref a3, .ref a4, .ref a5])), (a26, .inr (10, [.ref a27, .int i20, .int (u24 0), .int (u24 1), .int (u24 2), .int (u24 3), .int (u24 4), .int (u24 5)])), (a27, .inl (cB, 1600, .inl xF21))] := hD
  refine va_put (D := (dC, dI)) (ci := 2) (v := .int r22) (ty := .int) (C := RX2) (T := TX2) (N := 14) hx hb hwd inlX2 tyX2 tyX2_ok nmX2 hown hK hP hD hS 0 rfl rfl 1 (by decide) (hwd _ kr15_2) (fun _ h9 => h9) rfl (by decide +kernel) rfl rfl (Nat.le_of_ble_eq_true rfl) dX2_readDrumLine_37 (fun H locs hP hD hS => ?_)
  replace hP : va_P (dC, dI) vwCl [(a0, .inr (2, [.int r11, .int r22, .int i2, .int i3, .int i4, .int i5, .int i6, .int i7, .int i8, .ref a1, .ref a2, .ref a3, .ref a4, .ref a5])), (a26, .inr (10, [.ref a27, .int i20, .int (u24 0), .int (u24 1), .int (u24 2), .int (u24 3), .int (u24 4), .int (u24 5)])), (a27, .inl (cB, 1600, .inl xF21))] H := hP
  replace hD : va_D A [(a0, .inr (2, [.int r11, .int r22, .int i2, .int i3, .int i4, .int i5, .int i6, .int i7, .int i8, .ref a1, .ref a2, .ref a3, .ref a4, .ref a5])), (a26, .inr (10, [.ref a27, .int i20, .int (u24 0), .int (u24 1), .int (u24 2), .int (u24 3), .int (u24 4), .int (u24 5)])), (a27, .inl (cB, 1600, .inl xF21))] := hD
  refine lv_aload_n hx hb dX2_readDrumLine_40 rfl (lv_at hl 1 rfl) ?_
  refine va_ldcS hx hb hown hR162 dX2_readDrumLine_41 ?_
  have hPc := hP.sub (ws' := [(a26, .inr (10, [.ref a27, .int i20, .int (u24 0), .int (u24 1), .int (u24 2), .int (u24 3), .int (u24 4), .int (u24 5)])), (a27, .inl (cB, 1600, .inl xF21))]) [1, 2] rfl
  have hDc := hD.sub (ws' := [(a26, .inr (10, [.ref a27, .int i20, .int (u24 0), .int (u24 1), .int (u24 2), .int (u24 3), .int (u24 4), .int (u24 5)])), (a27, .inl (cB, 1600, .inl xF21))]) [1, 2] (by decide) rfl
  have hFc := va_free (wc := [(a26, .inr (10, [.ref a27, .int i20, .int (u24 0), .int (u24 1), .int (u24 2), .int (u24 3), .int (u24 4), .int (u24 5)])), (a27, .inl (cB, 1600, .inl xF21))]) hD hS hA [1, 2] rfl
  refine va_callv (va_runV (As := [.ref sa162]) (rest := []) ⟨hx, hb, hml, hown, hwd⟩ (s_X10_takeWord l dC dI cI cZ cB cJ cM cG a26 a27 i20 (u24 0) (u24 1) (u24 2) (u24 3) (u24 4) (u24 5) xF21 sa162 sav162 sn162 sf162 H.size (show (0 : Int) ≤ i20.toInt ∧ i20.toInt ≤ 1600 from p_4) (show (0 : Int) ≤ (u24 3).toInt ∧ (u24 3).toInt ≤ 1600 from hw26) (show (0 : Int) ≤ (u24 4).toInt ∧ (u24 4).toInt ≤ 1600 from hw27)) (cwV 1 hwd (gV kr19_14 kr19_15 kr19_16 kr5_12 kr19_17) rfl rfl rfl (by decide +kernel) ⟨Nat.le_of_ble_eq_true rfl, Nat.le_of_ble_eq_true rfl⟩) (kPreVX hPc hK hDc (NS_st _ _ _ _) hN162 hS hFc (ci := 10) (q0 := 0) rfl rfl) rfl rfl hl.1 rfl (lv_room (Nat.le_of_ble_eq_true rfl)) dX2_readDrumLine_43 ⟨Nat.le_of_ble_eq_true rfl, Nat.le_of_ble_eq_true rfl⟩) hS (fun q _ h => hFc q h) hFc (fun u29 t H1 locs ht9 hvm hw hB hz1 hk1 hS => ?_)
  obtain ⟨u30, U30, V30⟩ := u29
  obtain ⟨hw31, hw32, -⟩ := hw
  replace hw31 : (0 : Int) ≤ (u30 3).toInt ∧ (u30 3).toInt ≤ 1600 := hw31
  replace hw32 : (0 : Int) ≤ (u30 4).toInt ∧ (u30 4).toInt ≤ 1600 := hw32
  obtain ⟨hP1, hD1⟩ := hB
  rw [ht9] at hP1
  obtain ⟨hP, hD⟩ := va_join (wr := [(a0, .inr (2, [.int r11, .int r22, .int i2, .int i3, .int i4, .int i5, .int i6, .int i7, .int i8, .ref a1, .ref a2, .ref a3, .ref a4, .ref a5]))]) (w1 := [(a26, .inr (10, [.ref a27, .int i20, .int (u30 0), .int (u30 1), .int (u30 2), .int (u30 3), .int (u30 4), .int (u30 5)])), (a27, .inl (cB, 1600, .inl xF21))]) hP hD [1, 2] [0] rfl rfl (by decide) (by decide) hk1 hFc hP1 hD1
  generalize H1 = H at hP hS ⊢
  replace hP : va_P (dC, dI) vwCl [(a0, .inr (2, [.int r11, .int r22, .int i2, .int i3, .int i4, .int i5, .int i6, .int i7, .int i8, .ref a1, .ref a2, .ref a3, .ref a4, .ref a5])), (a26, .inr (10, [.ref a27, .int i20, .int (u30 0), .int (u30 1), .int (u30 2), .int (u30 3), .int (u30 4), .int (u30 5)])), (a27, .inl (cB, 1600, .inl xF21))] H := hP
  replace hD : va_D A [(a0, .inr (2, [.int r11, .int r22, .int i2, .int i3, .int i4, .int i5, .int i6, .int i7, .int i8, .ref a1, .ref a2, .ref a3, .ref a4, .ref a5])), (a26, .inr (10, [.ref a27, .int i20, .int (u30 0), .int (u30 1), .int (u30 2), .int (u30 3), .int (u30 4), .int (u30 5)])), (a27, .inl (cB, 1600, .inl xF21))] := hD
  refine lv_aload_n hx hb dX2_readDrumLine_46 rfl (lv_at hl 0 rfl) ?_
  refine lv_aload_n hx hb dX2_readDrumLine_47 rfl (lv_at hl 1 rfl) ?_
  refine lv_iconst (v := 0) hx hb dX2_readDrumLine_48 (by decide) ?_
  refine lv_bipush (v := 9) hx hb dX2_readDrumLine_49 (by decide) ?_
  have hPc := hP.sub (ws' := [(a26, .inr (10, [.ref a27, .int i20, .int (u30 0), .int (u30 1), .int (u30 2), .int (u30 3), .int (u30 4), .int (u30 5)])), (a27, .inl (cB, 1600, .inl xF21))]) [1, 2] rfl
  have hDc := hD.sub (ws' := [(a26, .inr (10, [.ref a27, .int i20, .int (u30 0), .int (u30 1), .int (u30 2), .int (u30 3), .int (u30 4), .int (u30 5)])), (a27, .inl (cB, 1600, .inl xF21))]) [1, 2] (by decide) rfl
  have hFc := va_free (wc := [(a26, .inr (10, [.ref a27, .int i20, .int (u30 0), .int (u30 1), .int (u30 2), .int (u30 3), .int (u30 4), .int (u30 5)])), (a27, .inl (cB, 1600, .inl xF21))]) hD hS hA [1, 2] rfl
  refine va_calli (va_runV (As := [.int 0, .int 9]) (rest := [.ref a0]) ⟨hx, hb, hml, hown, hwd⟩ (s_X10_takeNumber l dC dI cI cZ cB cJ cM cG a26 a27 i20 (u30 0) (u30 1) (u30 2) (u30 3) (u30 4) (u30 5) xF21 0 9 H.size (show (0 : Int) ≤ i20.toInt ∧ i20.toInt ≤ 1600 from p_4) (show (0 : Int) ≤ (u30 3).toInt ∧ (u30 3).toInt ≤ 1600 from hw31) (show (0 : Int) ≤ (u30 4).toInt ∧ (u30 4).toInt ≤ 1600 from hw32)) (cwV 2 hwd (gV kr21_21 kr21_22 kr21_23 kr5_12 kr22_0) rfl rfl rfl (by decide +kernel) ⟨Nat.le_of_ble_eq_true rfl, Nat.le_of_ble_eq_true rfl⟩) (kPreV hPc hK hDc (ci := 10) (q0 := 0) rfl rfl) rfl rfl hl.1 rfl (lv_room (Nat.le_of_ble_eq_true rfl)) dX2_readDrumLine_51 ⟨Nat.le_of_ble_eq_true rfl, Nat.le_of_ble_eq_true rfl⟩) hS (fun q _ h => hFc q h) hFc (fun r33 u34 t H1 locs ht9 hvm hw hB hz1 hk1 hS => ?_)
  obtain ⟨u35, U35, V35⟩ := u34
  obtain ⟨hw36, hw37, hw38, -⟩ := hw
  replace hw36 : (0 : Int32).toInt ≤ r33.toInt ∧ (r33.toInt ≤ (0 : Int32).toInt ∨ r33.toInt ≤ (9 : Int32).toInt) := hw36
  replace hw37 : (0 : Int) ≤ (u35 3).toInt ∧ (u35 3).toInt ≤ 1600 := hw37
  replace hw38 : (0 : Int) ≤ (u35 4).toInt ∧ (u35 4).toInt ≤ 1600 := hw38
  obtain ⟨hP1, hD1⟩ := hB
  rw [ht9] at hP1
  obtain ⟨hP, hD⟩ := va_join (wr := [(a0, .inr (2, [.int r11, .int r22, .int i2, .int i3, .int i4, .int i5, .int i6, .int i7, .int i8, .ref a1, .ref a2, .ref a3, .ref a4, .ref a5]))]) (w1 := [(a26, .inr (10, [.ref a27, .int i20, .int (u35 0), .int (u35 1), .int (u35 2), .int (u35 3), .int (u35 4), .int (u35 5)])), (a27, .inl (cB, 1600, .inl xF21))]) hP hD [1, 2] [0] rfl rfl (by decide) (by decide) hk1 hFc hP1 hD1
  generalize H1 = H at hP hS ⊢
  replace hP : va_P (dC, dI) vwCl [(a0, .inr (2, [.int r11, .int r22, .int i2, .int i3, .int i4, .int i5, .int i6, .int i7, .int i8, .ref a1, .ref a2, .ref a3, .ref a4, .ref a5])), (a26, .inr (10, [.ref a27, .int i20, .int (u35 0), .int (u35 1), .int (u35 2), .int (u35 3), .int (u35 4), .int (u35 5)])), (a27, .inl (cB, 1600, .inl xF21))] H := hP
  replace hD : va_D A [(a0, .inr (2, [.int r11, .int r22, .int i2, .int i3, .int i4, .int i5, .int i6, .int i7, .int i8, .ref a1, .ref a2, .ref a3, .ref a4, .ref a5])), (a26, .inr (10, [.ref a27, .int i20, .int (u35 0), .int (u35 1), .int (u35 2), .int (u35 3), .int (u35 4), .int (u35 5)])), (a27, .inl (cB, 1600, .inl xF21))] := hD
  refine va_put (D := (dC, dI)) (ci := 2) (v := .int r33) (ty := .int) (C := RX2) (T := TX2) (N := 14) hx hb hwd inlX2 tyX2 tyX2_ok nmX2 hown hK hP hD hS 0 rfl rfl 2 (by decide) (hwd _ kr15_4) (fun _ h9 => h9) rfl (by decide +kernel) rfl rfl (Nat.le_of_ble_eq_true rfl) dX2_readDrumLine_54 (fun H locs hP hD hS => ?_)
  replace hP : va_P (dC, dI) vwCl [(a0, .inr (2, [.int r11, .int r22, .int r33, .int i3, .int i4, .int i5, .int i6, .int i7, .int i8, .ref a1, .ref a2, .ref a3, .ref a4, .ref a5])), (a26, .inr (10, [.ref a27, .int i20, .int (u35 0), .int (u35 1), .int (u35 2), .int (u35 3), .int (u35 4), .int (u35 5)])), (a27, .inl (cB, 1600, .inl xF21))] H := hP
  replace hD : va_D A [(a0, .inr (2, [.int r11, .int r22, .int r33, .int i3, .int i4, .int i5, .int i6, .int i7, .int i8, .ref a1, .ref a2, .ref a3, .ref a4, .ref a5])), (a26, .inr (10, [.ref a27, .int i20, .int (u35 0), .int (u35 1), .int (u35 2), .int (u35 3), .int (u35 4), .int (u35 5)])), (a27, .inl (cB, 1600, .inl xF21))] := hD
  have hP9 := hP.sub (ws' := [(a0, .inr (2, [.int r11, .int r22, .int r33, .int i3, .int i4, .int i5, .int i6, .int i7, .int i8, .ref a1, .ref a2, .ref a3, .ref a4, .ref a5])), (a26, .inr (10, [.ref a27, .int i20, .int (u35 0), .int (u35 1), .int (u35 2), .int (u35 3), .int (u35 4), .int (u35 5)])), (a27, .inl (cB, 1600, .inl xF21))]) [0, 1, 2] rfl
  have hD9 := hD.sub (ws' := [(a0, .inr (2, [.int r11, .int r22, .int r33, .int i3, .int i4, .int i5, .int i6, .int i7, .int i8, .ref a1, .ref a2, .ref a3, .ref a4, .ref a5])), (a26, .inr (10, [.ref a27, .int i20, .int (u35 0), .int (u35 1), .int (u35 2), .int (u35 3), .int (u35 4), .int (u35 5)])), (a27, .inl (cB, 1600, .inl xF21))]) [0, 1, 2] (by decide) rfl
  rw [hQ]
  exact W.vret hx hb hr (fun t ht hW => ⟨⟨(pickG 0 [r11, r22, r33, (u35 0), (u35 1), (u35 2), (u35 3), (u35 4), (u35 5)], pickG (fun _ => 0) [], pickG (fun _ => 0) []), rfl, ⟨(show (0 : Int) ≤ r11.toInt ∧ r11.toInt ≤ 60 from ⟨by omega, by omega⟩), (show (0 : Int) ≤ (u35 3).toInt ∧ (u35 3).toInt ≤ 1600 from hw37), (show (0 : Int) ≤ (u35 4).toInt ∧ (u35 4).toInt ≤ 1600 from hw38), trivial⟩, (by rw [ht]; exact hP9), hD9⟩, hS.F ht⟩) hS.2.2 dX2_readDrumLine_57
theorem dX2_readTrackLine_0 : decode cX2_readTrackLine 0 = .ok (.aload_n 0, 1) := by decide +kernel
theorem dX2_readTrackLine_1 : decode cX2_readTrackLine 1 = .ok (.getfield 47, 3) := by decide +kernel
theorem dX2_readTrackLine_4 : decode cX2_readTrackLine 4 = .ok (.bipush 6, 2) := by decide +kernel
theorem dX2_readTrackLine_6 : decode cX2_readTrackLine 6 = .ok (.if_icmp .lt 9, 3) := by decide +kernel
theorem dX2_readTrackLine_9 : decode cX2_readTrackLine 9 = .ok (.aload_n 1, 1) := by decide +kernel
theorem dX2_readTrackLine_10 : decode cX2_readTrackLine 10 = .ok (.iconst 3, 1) := by decide +kernel
theorem dX2_readTrackLine_11 : decode cX2_readTrackLine 11 = .ok (.invokevirtual 163, 3) := by decide +kernel
theorem dX2_readTrackLine_14 : decode cX2_readTrackLine 14 = .ok (.return_, 1) := by decide +kernel
theorem dX2_readTrackLine_15 : decode cX2_readTrackLine 15 = .ok (.aload_n 1, 1) := by decide +kernel
theorem dX2_readTrackLine_16 : decode cX2_readTrackLine 16 = .ok (.invokevirtual 167, 3) := by decide +kernel
theorem dX2_readTrackLine_19 : decode cX2_readTrackLine 19 = .ok (.aload_n 0, 1) := by decide +kernel
theorem dX2_readTrackLine_20 : decode cX2_readTrackLine 20 = .ok (.dup, 1) := by decide +kernel
theorem dX2_readTrackLine_21 : decode cX2_readTrackLine 21 = .ok (.getfield 47, 3) := by decide +kernel
theorem dX2_readTrackLine_24 : decode cX2_readTrackLine 24 = .ok (.iconst 1, 1) := by decide +kernel
theorem dX2_readTrackLine_25 : decode cX2_readTrackLine 25 = .ok (.iadd, 1) := by decide +kernel
theorem dX2_readTrackLine_26 : decode cX2_readTrackLine 26 = .ok (.putfield 47, 3) := by decide +kernel
theorem dX2_readTrackLine_29 : decode cX2_readTrackLine 29 = .ok (.return_, 1) := by decide +kernel
set_option maxHeartbeats 4000000 in
set_option maxRecDepth 100000 in
theorem s_X2_readTrackLine (l : Launch) (dC : Nat → ClassId) (dI : Nat → Nat → Nat) (cI cZ cB cJ cM cG : ClassId) (a0 a1 a2 a3 a4 a5 a26 a27 : Nat) (i0 i1 i2 i3 i4 i5 i6 i7 i8 i20 i21 i22 i23 i24 i25 i26 : Int32) (xF21 : Nat → Int32) (sz : Nat) (p_0 : (0 : Int) ≤ i0.toInt ∧ i0.toInt ≤ 60) (p_1 : (0 : Int) ≤ i3.toInt ∧ i3.toInt ≤ 6) (p_2 : (0 : Int) ≤ i5.toInt ∧ i5.toInt ≤ 1) (p_3 : (0 : Int) ≤ i8.toInt ∧ i8.toInt ≤ 1) (p_4 : (0 : Int) ≤ i20.toInt ∧ i20.toInt ≤ 1600) (p_5 : (0 : Int) ≤ i24.toInt ∧ i24.toInt ≤ 1600) (p_6 : (0 : Int) ≤ i25.toInt ∧ i25.toInt ≤ 1600) : Met l yX2_readTrackLine (kw yX2_readTrackLine cX2_readTrackLine 2 none) ({ frames := 2, cells := 0, slots := 0, locals := 43 } : Room) (va_Pc [.ref a0, .ref a26] (kPreX dC dI [(cI, .int), (cZ, .boolean), (cB, .byte), (cJ, .long), (cM, .object RX2), (cG, .array .int)] [(a0, .inr (2, [.int i0, .int i1, .int i2, .int i3, .int i4, .int i5, .int i6, .int i7, .int i8, .ref a1, .ref a2, .ref a3, .ref a4, .ref a5])), (a26, .inr (10, [.ref a27, .int i20, .int i21, .int i22, .int i23, .int i24, .int i25, .int i26])), (a27, .inl (cB, 1600, .inl xF21))] sz NT)) (va_Qv (fun (u9 : (Nat → Int32) × (Nat → Nat → Int32) × (Nat → Nat → Int64)) => ((0 : Int) ≤ (u9.1 0).toInt ∧ (u9.1 0).toInt ≤ 6) ∧ ((0 : Int) ≤ (u9.1 4).toInt ∧ (u9.1 4).toInt ≤ 1600) ∧ ((0 : Int) ≤ (u9.1 5).toInt ∧ (u9.1 5).toInt ≤ 1600) ∧ True) (fun u9 t => va_P (dC, dI) vwCl [(a0, .inr (2, [.int i0, .int i1, .int i2, .int (u9.1 0), .int i4, .int i5, .int i6, .int i7, .int i8, .ref a1, .ref a2, .ref a3, .ref a4, .ref a5])), (a26, .inr (10, [.ref a27, .int i20, .int (u9.1 1), .int (u9.1 2), .int (u9.1 3), .int (u9.1 4), .int (u9.1 5), .int (u9.1 6)])), (a27, .inl (cB, 1600, .inl xF21))] t.heap ∧ va_D (va_A [(a0, .inr (2, [.int i0, .int i1, .int i2, .int i3, .int i4, .int i5, .int i6, .int i7, .int i8, .ref a1, .ref a2, .ref a3, .ref a4, .ref a5])), (a26, .inr (10, [.ref a27, .int i20, .int i21, .int i22, .int i23, .int i24, .int i25, .int i26])), (a27, .inl (cB, 1600, .inl xF21))] sz) [(a0, .inr (2, [.int i0, .int i1, .int i2, .int (u9.1 0), .int i4, .int i5, .int i6, .int i7, .int i8, .ref a1, .ref a2, .ref a3, .ref a4, .ref a5])), (a26, .inr (10, [.ref a27, .int i20, .int (u9.1 1), .int (u9.1 2), .int (u9.1 3), .int (u9.1 4), .int (u9.1 5), .int (u9.1 6)])), (a27, .inl (cB, 1600, .inl xF21))]) (va_A [(a0, .inr (2, [.int i0, .int i1, .int i2, .int i3, .int i4, .int i5, .int i6, .int i7, .int i8, .ref a1, .ref a2, .ref a3, .ref a4, .ref a5])), (a26, .inr (10, [.ref a27, .int i20, .int i21, .int i22, .int i23, .int i24, .int i25, .int i26])), (a27, .inl (cB, 1600, .inl xF21))] sz)) 0 0 (va_A [(a0, .inr (2, [.int i0, .int i1, .int i2, .int i3, .int i4, .int i5, .int i6, .int i7, .int i8, .ref a1, .ref a2, .ref a3, .ref a4, .ref a5])), (a26, .inr (10, [.ref a27, .int i20, .int i21, .int i22, .int i23, .int i24, .int i25, .int i26])), (a27, .inl (cB, 1600, .inl xF21))] sz) := by
  refine kEnterX (by decide) (Nat.le_of_ble_eq_true rfl) ?_
  intro p e s m below meth c ls hx hb hr hml hown hlocks hin hwd hsz hP hK hD hN hl
  subst hsz
  generalize hAe : va_A [(a0, .inr (2, [.int i0, .int i1, .int i2, .int i3, .int i4, .int i5, .int i6, .int i7, .int i8, .ref a1, .ref a2, .ref a3, .ref a4, .ref a5])), (a26, .inr (10, [.ref a27, .int i20, .int i21, .int i22, .int i23, .int i24, .int i25, .int i26])), (a27, .inl (cB, 1600, .inl xF21))] s.heap.size = A at hD hN ⊢
  have hA : ∀ q : Nat, s.heap.size ≤ q → A q := fun q h => by rw [← hAe]; exact Or.inr h
  have hS : va_S A s.heap s.heap [] := va_S.rf
  have hl : lv_has ls 2 [(0, .ref a0), (1, .ref a26)] := hl
  obtain ⟨Q, hQ⟩ : ∃ Q, Q = MQ below (va_Qv (fun (u9 : (Nat → Int32) × (Nat → Nat → Int32) × (Nat → Nat → Int64)) => ((0 : Int) ≤ (u9.1 0).toInt ∧ (u9.1 0).toInt ≤ 6) ∧ ((0 : Int) ≤ (u9.1 4).toInt ∧ (u9.1 4).toInt ≤ 1600) ∧ ((0 : Int) ≤ (u9.1 5).toInt ∧ (u9.1 5).toInt ≤ 1600) ∧ True) (fun u9 t => va_P (dC, dI) vwCl [(a0, .inr (2, [.int i0, .int i1, .int i2, .int (u9.1 0), .int i4, .int i5, .int i6, .int i7, .int i8, .ref a1, .ref a2, .ref a3, .ref a4, .ref a5])), (a26, .inr (10, [.ref a27, .int i20, .int (u9.1 1), .int (u9.1 2), .int (u9.1 3), .int (u9.1 4), .int (u9.1 5), .int (u9.1 6)])), (a27, .inl (cB, 1600, .inl xF21))] t.heap ∧ va_D A [(a0, .inr (2, [.int i0, .int i1, .int i2, .int (u9.1 0), .int i4, .int i5, .int i6, .int i7, .int i8, .ref a1, .ref a2, .ref a3, .ref a4, .ref a5])), (a26, .inr (10, [.ref a27, .int i20, .int (u9.1 1), .int (u9.1 2), .int (u9.1 3), .int (u9.1 4), .int (u9.1 5), .int (u9.1 6)])), (a27, .inl (cB, 1600, .inl xF21))]) A) ([.ref a0, .ref a26] : List Value).toArray s 0 0 A := ⟨_, rfl⟩
  rw [← hQ]
  have k1 : (1 : Int32).toInt = 1 := by decide
  have k6 : (6 : Int32).toInt = 6 := by decide
  refine lv_aload_n hx hb dX2_readTrackLine_0 rfl (lv_at hl 0 rfl) ?_
  refine va_get (D := (dC, dI)) (ci := 2) (v := .int i3) (C := RX2) (T := TX2) (N := 14) hx hb hwd inlX2 hown hK hP 0 rfl rfl 3 (by decide) (hwd _ kr15_6) (fun _ h9 => h9) rfl dX2_readTrackLine_1 ?_
  refine lv_bipush (v := 6) hx hb dX2_readTrackLine_4 (by decide) ?_
  refine lv_icmp_lt (tgt := 15) hx hb dX2_readTrackLine_6 (by decide) (fun c1 => ?_) (fun c1 => ?_)
  · rw [ki_lt] at c1
    refine lv_aload_n hx hb dX2_readTrackLine_15 rfl (lv_at hl 1 rfl) ?_
    have hPc := hP.sub (ws' := [(a26, .inr (10, [.ref a27, .int i20, .int i21, .int i22, .int i23, .int i24, .int i25, .int i26])), (a27, .inl (cB, 1600, .inl xF21))]) [1, 2] rfl
    have hDc := hD.sub (ws' := [(a26, .inr (10, [.ref a27, .int i20, .int i21, .int i22, .int i23, .int i24, .int i25, .int i26])), (a27, .inl (cB, 1600, .inl xF21))]) [1, 2] (by decide) rfl
    have hFc := va_free (wc := [(a26, .inr (10, [.ref a27, .int i20, .int i21, .int i22, .int i23, .int i24, .int i25, .int i26])), (a27, .inl (cB, 1600, .inl xF21))]) hD hS hA [1, 2] rfl
    refine va_callv (va_runV (As := []) (rest := []) ⟨hx, hb, hml, hown, hwd⟩ (s_X10_readToken l dC dI cI cZ cB cJ cM cG a26 a27 i20 i21 i22 i23 i24 i25 i26 xF21 s.heap.size (show (0 : Int) ≤ i20.toInt ∧ i20.toInt ≤ 1600 from p_4) (show (0 : Int) ≤ i24.toInt ∧ i24.toInt ≤ 1600 from p_5) (show (0 : Int) ≤ i25.toInt ∧ i25.toInt ≤ 1600 from p_6)) (cwV 0 hwd (gV kr22_6 kr18_2 kr18_3 kr5_12 kr18_4) rfl rfl rfl (by decide +kernel) ⟨Nat.le_of_ble_eq_true rfl, Nat.le_of_ble_eq_true rfl⟩) (kPreV hPc hK hDc (ci := 10) (q0 := 0) rfl rfl) rfl rfl hl.1 rfl (lv_room (Nat.le_of_ble_eq_true rfl)) dX2_readTrackLine_16 ⟨Nat.le_of_ble_eq_true rfl, Nat.le_of_ble_eq_true rfl⟩) hS (fun q _ h => hFc q h) hFc (fun u3 t H1 locs ht9 hvm hw hB hz1 hk1 hS => ?_)
    obtain ⟨u4, U4, V4⟩ := u3
    obtain ⟨hw5, hw6, -⟩ := hw
    replace hw5 : (0 : Int) ≤ (u4 1).toInt ∧ (u4 1).toInt ≤ 1600 := hw5
    replace hw6 : (0 : Int) ≤ (u4 2).toInt ∧ (u4 2).toInt ≤ 1600 := hw6
    obtain ⟨hP1, hD1⟩ := hB
    rw [ht9] at hP1
    obtain ⟨hP, hD⟩ := va_join (wr := [(a0, .inr (2, [.int i0, .int i1, .int i2, .int i3, .int i4, .int i5, .int i6, .int i7, .int i8, .ref a1, .ref a2, .ref a3, .ref a4, .ref a5]))]) (w1 := [(a26, .inr (10, [.ref a27, .int i20, .int i21, .int i22, .int (u4 0), .int (u4 1), .int (u4 2), .int (u4 3)])), (a27, .inl (cB, 1600, .inl xF21))]) hP hD [1, 2] [0] rfl rfl (by decide) (by decide) hk1 hFc hP1 hD1
    generalize H1 = H at hP hS ⊢
    replace hP : va_P (dC, dI) vwCl [(a0, .inr (2, [.int i0, .int i1, .int i2, .int i3, .int i4, .int i5, .int i6, .int i7, .int i8, .ref a1, .ref a2, .ref a3, .ref a4, .ref a5])), (a26, .inr (10, [.ref a27, .int i20, .int i21, .int i22, .int (u4 0), .int (u4 1), .int (u4 2), .int (u4 3)])), (a27, .inl (cB, 1600, .inl xF21))] H := hP
    replace hD : va_D A [(a0, .inr (2, [.int i0, .int i1, .int i2, .int i3, .int i4, .int i5, .int i6, .int i7, .int i8, .ref a1, .ref a2, .ref a3, .ref a4, .ref a5])), (a26, .inr (10, [.ref a27, .int i20, .int i21, .int i22, .int (u4 0), .int (u4 1), .int (u4 2), .int (u4 3)])), (a27, .inl (cB, 1600, .inl xF21))] := hD
    refine lv_aload_n hx hb dX2_readTrackLine_19 rfl (lv_at hl 0 rfl) ?_
    refine lv_dup hx hb dX2_readTrackLine_20 rfl ?_
    refine va_get (D := (dC, dI)) (ci := 2) (v := .int i3) (C := RX2) (T := TX2) (N := 14) hx hb hwd inlX2 hown hK hP 0 rfl rfl 3 (by decide) (hwd _ kr15_6) (fun _ h9 => h9) rfl dX2_readTrackLine_21 ?_
    refine lv_iconst (v := 1) hx hb dX2_readTrackLine_24 (by decide) ?_
    refine lv_iadd hx hb dX2_readTrackLine_25 ?_
    refine lv_topi (fun x7 ex7 => ?_)
    have tx7 := ia_add (a := i3) (b := (1 : Int32)) (by omega) (by omega)
    rw [← ex7] at tx7
    refine va_put (D := (dC, dI)) (ci := 2) (v := .int x7) (ty := .int) (C := RX2) (T := TX2) (N := 14) hx hb hwd inlX2 tyX2 tyX2_ok nmX2 hown hK hP hD hS 0 rfl rfl 3 (by decide) (hwd _ kr15_6) (fun _ h9 => h9) rfl (by decide +kernel) rfl rfl (Nat.le_of_ble_eq_true rfl) dX2_readTrackLine_26 (fun H locs hP hD hS => ?_)
    replace hP : va_P (dC, dI) vwCl [(a0, .inr (2, [.int i0, .int i1, .int i2, .int x7, .int i4, .int i5, .int i6, .int i7, .int i8, .ref a1, .ref a2, .ref a3, .ref a4, .ref a5])), (a26, .inr (10, [.ref a27, .int i20, .int i21, .int i22, .int (u4 0), .int (u4 1), .int (u4 2), .int (u4 3)])), (a27, .inl (cB, 1600, .inl xF21))] H := hP
    replace hD : va_D A [(a0, .inr (2, [.int i0, .int i1, .int i2, .int x7, .int i4, .int i5, .int i6, .int i7, .int i8, .ref a1, .ref a2, .ref a3, .ref a4, .ref a5])), (a26, .inr (10, [.ref a27, .int i20, .int i21, .int i22, .int (u4 0), .int (u4 1), .int (u4 2), .int (u4 3)])), (a27, .inl (cB, 1600, .inl xF21))] := hD
    have hP9 := hP.sub (ws' := [(a0, .inr (2, [.int i0, .int i1, .int i2, .int x7, .int i4, .int i5, .int i6, .int i7, .int i8, .ref a1, .ref a2, .ref a3, .ref a4, .ref a5])), (a26, .inr (10, [.ref a27, .int i20, .int i21, .int i22, .int (u4 0), .int (u4 1), .int (u4 2), .int (u4 3)])), (a27, .inl (cB, 1600, .inl xF21))]) [0, 1, 2] rfl
    have hD9 := hD.sub (ws' := [(a0, .inr (2, [.int i0, .int i1, .int i2, .int x7, .int i4, .int i5, .int i6, .int i7, .int i8, .ref a1, .ref a2, .ref a3, .ref a4, .ref a5])), (a26, .inr (10, [.ref a27, .int i20, .int i21, .int i22, .int (u4 0), .int (u4 1), .int (u4 2), .int (u4 3)])), (a27, .inl (cB, 1600, .inl xF21))]) [0, 1, 2] (by decide) rfl
    rw [hQ]
    exact W.vret hx hb hr (fun t ht hW => ⟨⟨(pickG 0 [x7, i21, i22, (u4 0), (u4 1), (u4 2), (u4 3)], pickG (fun _ => 0) [], pickG (fun _ => 0) []), rfl, ⟨(show (0 : Int) ≤ x7.toInt ∧ x7.toInt ≤ 6 from ⟨by omega, by omega⟩), (show (0 : Int) ≤ (u4 1).toInt ∧ (u4 1).toInt ≤ 1600 from hw5), (show (0 : Int) ≤ (u4 2).toInt ∧ (u4 2).toInt ≤ 1600 from hw6), trivial⟩, (by rw [ht]; exact hP9), hD9⟩, hS.F ht⟩) hS.2.2 dX2_readTrackLine_29
  · rw [ki_lt] at c1
    refine lv_aload_n hx hb dX2_readTrackLine_9 rfl (lv_at hl 1 rfl) ?_
    refine lv_iconst (v := 3) hx hb dX2_readTrackLine_10 (by decide) ?_
    have hPc := hP.sub (ws' := [(a26, .inr (10, [.ref a27, .int i20, .int i21, .int i22, .int i23, .int i24, .int i25, .int i26]))]) [1] rfl
    have hDc := hD.sub (ws' := [(a26, .inr (10, [.ref a27, .int i20, .int i21, .int i22, .int i23, .int i24, .int i25, .int i26]))]) [1] (by decide) rfl
    have hFc := va_free (wc := [(a26, .inr (10, [.ref a27, .int i20, .int i21, .int i22, .int i23, .int i24, .int i25, .int i26]))]) hD hS hA [1] rfl
    refine va_callv (va_runV (As := [.int 3]) (rest := []) ⟨hx, hb, hml, hown, hwd⟩ (s_X10_blame l dC dI cI cZ cB cJ cM cG a26 a27 i20 i21 i22 i23 i24 i25 i26 3 s.heap.size (show (0 : Int) ≤ i20.toInt ∧ i20.toInt ≤ 1600 from p_4) (show (0 : Int) ≤ i24.toInt ∧ i24.toInt ≤ 1600 from p_5) (show (0 : Int) ≤ i25.toInt ∧ i25.toInt ≤ 1600 from p_6)) (cwV 1 hwd (gV kr22_5 kr21_18 kr21_19 kr5_12 kr21_20) rfl rfl rfl (by decide +kernel) ⟨Nat.le_of_ble_eq_true rfl, Nat.le_of_ble_eq_true rfl⟩) (kPreV hPc hK hDc (ci := 10) (q0 := 0) rfl rfl) rfl rfl hl.1 rfl (lv_room (Nat.le_of_ble_eq_true rfl)) dX2_readTrackLine_11 ⟨Nat.le_of_ble_eq_true rfl, Nat.le_of_ble_eq_true rfl⟩) hS (fun q _ h => hFc q h) hFc (fun u9 t H1 locs ht9 hvm hw hB hz1 hk1 hS => ?_)
    obtain ⟨u10, U10, V10⟩ := u9
    obtain ⟨hP1, hD1⟩ := hB
    rw [ht9] at hP1
    obtain ⟨hP, hD⟩ := va_join (wr := [(a0, .inr (2, [.int i0, .int i1, .int i2, .int i3, .int i4, .int i5, .int i6, .int i7, .int i8, .ref a1, .ref a2, .ref a3, .ref a4, .ref a5])), (a27, .inl (cB, 1600, .inl xF21))]) (w1 := [(a26, .inr (10, [.ref a27, .int i20, .int (u10 0), .int (u10 1), .int i23, .int i24, .int i25, .int i26]))]) hP hD [1] [0, 2] rfl rfl (by decide) (by decide) hk1 hFc hP1 hD1
    generalize H1 = H at hP hS ⊢
    replace hP : va_P (dC, dI) vwCl [(a0, .inr (2, [.int i0, .int i1, .int i2, .int i3, .int i4, .int i5, .int i6, .int i7, .int i8, .ref a1, .ref a2, .ref a3, .ref a4, .ref a5])), (a27, .inl (cB, 1600, .inl xF21)), (a26, .inr (10, [.ref a27, .int i20, .int (u10 0), .int (u10 1), .int i23, .int i24, .int i25, .int i26]))] H := hP
    replace hD : va_D A [(a0, .inr (2, [.int i0, .int i1, .int i2, .int i3, .int i4, .int i5, .int i6, .int i7, .int i8, .ref a1, .ref a2, .ref a3, .ref a4, .ref a5])), (a27, .inl (cB, 1600, .inl xF21)), (a26, .inr (10, [.ref a27, .int i20, .int (u10 0), .int (u10 1), .int i23, .int i24, .int i25, .int i26]))] := hD
    have hP9 := hP.sub (ws' := [(a0, .inr (2, [.int i0, .int i1, .int i2, .int i3, .int i4, .int i5, .int i6, .int i7, .int i8, .ref a1, .ref a2, .ref a3, .ref a4, .ref a5])), (a26, .inr (10, [.ref a27, .int i20, .int (u10 0), .int (u10 1), .int i23, .int i24, .int i25, .int i26])), (a27, .inl (cB, 1600, .inl xF21))]) [0, 2, 1] rfl
    have hD9 := hD.sub (ws' := [(a0, .inr (2, [.int i0, .int i1, .int i2, .int i3, .int i4, .int i5, .int i6, .int i7, .int i8, .ref a1, .ref a2, .ref a3, .ref a4, .ref a5])), (a26, .inr (10, [.ref a27, .int i20, .int (u10 0), .int (u10 1), .int i23, .int i24, .int i25, .int i26])), (a27, .inl (cB, 1600, .inl xF21))]) [0, 2, 1] (by decide) rfl
    rw [hQ]
    exact W.vret hx hb hr (fun t ht hW => ⟨⟨(pickG 0 [i3, (u10 0), (u10 1), i23, i24, i25, i26], pickG (fun _ => 0) [], pickG (fun _ => 0) []), rfl, ⟨(show (0 : Int) ≤ i3.toInt ∧ i3.toInt ≤ 6 from p_1), (show (0 : Int) ≤ i24.toInt ∧ i24.toInt ≤ 1600 from p_5), (show (0 : Int) ≤ i25.toInt ∧ i25.toInt ≤ 1600 from p_6), trivial⟩, (by rw [ht]; exact hP9), hD9⟩, hS.F ht⟩) hS.2.2 dX2_readTrackLine_14
theorem dX2_readGearLine_0 : decode cX2_readGearLine 0 = .ok (.aload_n 0, 1) := by decide +kernel
theorem dX2_readGearLine_1 : decode cX2_readGearLine 1 = .ok (.getfield 84, 3) := by decide +kernel
theorem dX2_readGearLine_4 : decode cX2_readGearLine 4 = .ok (.ifCond .eq 9, 3) := by decide +kernel
theorem dX2_readGearLine_7 : decode cX2_readGearLine 7 = .ok (.aload_n 1, 1) := by decide +kernel
theorem dX2_readGearLine_8 : decode cX2_readGearLine 8 = .ok (.iconst 2, 1) := by decide +kernel
theorem dX2_readGearLine_9 : decode cX2_readGearLine 9 = .ok (.invokevirtual 163, 3) := by decide +kernel
theorem dX2_readGearLine_12 : decode cX2_readGearLine 12 = .ok (.return_, 1) := by decide +kernel
theorem dX2_readGearLine_13 : decode cX2_readGearLine 13 = .ok (.aload_n 1, 1) := by decide +kernel
theorem dX2_readGearLine_14 : decode cX2_readGearLine 14 = .ok (.invokevirtual 167, 3) := by decide +kernel
theorem dX2_readGearLine_17 : decode cX2_readGearLine 17 = .ok (.aload_n 0, 1) := by decide +kernel
theorem dX2_readGearLine_18 : decode cX2_readGearLine 18 = .ok (.aload_n 1, 1) := by decide +kernel
theorem dX2_readGearLine_19 : decode cX2_readGearLine 19 = .ok (.iconst 1, 1) := by decide +kernel
theorem dX2_readGearLine_20 : decode cX2_readGearLine 20 = .ok (.bipush 60, 2) := by decide +kernel
theorem dX2_readGearLine_22 : decode cX2_readGearLine 22 = .ok (.invokevirtual 158, 3) := by decide +kernel
theorem dX2_readGearLine_25 : decode cX2_readGearLine 25 = .ok (.putfield 64, 3) := by decide +kernel
theorem dX2_readGearLine_28 : decode cX2_readGearLine 28 = .ok (.aload_n 1, 1) := by decide +kernel
theorem dX2_readGearLine_29 : decode cX2_readGearLine 29 = .ok (.ldc 170, 2) := by decide +kernel
theorem dX2_readGearLine_31 : decode cX2_readGearLine 31 = .ok (.invokevirtual 153, 3) := by decide +kernel
theorem dX2_readGearLine_34 : decode cX2_readGearLine 34 = .ok (.aload_n 0, 1) := by decide +kernel
theorem dX2_readGearLine_35 : decode cX2_readGearLine 35 = .ok (.aload_n 1, 1) := by decide +kernel
theorem dX2_readGearLine_36 : decode cX2_readGearLine 36 = .ok (.iconst 1, 1) := by decide +kernel
theorem dX2_readGearLine_37 : decode cX2_readGearLine 37 = .ok (.bipush 60, 2) := by decide +kernel
theorem dX2_readGearLine_39 : decode cX2_readGearLine 39 = .ok (.invokevirtual 158, 3) := by decide +kernel
theorem dX2_readGearLine_42 : decode cX2_readGearLine 42 = .ok (.putfield 61, 3) := by decide +kernel
theorem dX2_readGearLine_45 : decode cX2_readGearLine 45 = .ok (.aload_n 0, 1) := by decide +kernel
theorem dX2_readGearLine_46 : decode cX2_readGearLine 46 = .ok (.iconst 1, 1) := by decide +kernel
theorem dX2_readGearLine_47 : decode cX2_readGearLine 47 = .ok (.putfield 84, 3) := by decide +kernel
theorem dX2_readGearLine_50 : decode cX2_readGearLine 50 = .ok (.return_, 1) := by decide +kernel
set_option maxHeartbeats 4000000 in
set_option maxRecDepth 100000 in
theorem s_X2_readGearLine (l : Launch) (dC : Nat → ClassId) (dI : Nat → Nat → Nat) (cI cZ cB cJ cM cG : ClassId) (a0 a1 a2 a3 a4 a5 a26 a27 : Nat) (i0 i1 i2 i3 i4 i5 i6 i7 i8 i20 i21 i22 i23 i24 i25 i26 : Int32) (xF21 : Nat → Int32) (sz : Nat) (p_0 : (0 : Int) ≤ i0.toInt ∧ i0.toInt ≤ 60) (p_1 : (0 : Int) ≤ i3.toInt ∧ i3.toInt ≤ 6) (p_2 : (0 : Int) ≤ i5.toInt ∧ i5.toInt ≤ 1) (p_3 : (0 : Int) ≤ i8.toInt ∧ i8.toInt ≤ 1) (p_4 : (0 : Int) ≤ i20.toInt ∧ i20.toInt ≤ 1600) (p_5 : (0 : Int) ≤ i24.toInt ∧ i24.toInt ≤ 1600) (p_6 : (0 : Int) ≤ i25.toInt ∧ i25.toInt ≤ 1600) : Met l yX2_readGearLine (kw yX2_readGearLine cX2_readGearLine 2 none) ({ frames := 6, cells := 0, slots := 0, locals := 128 } : Room) (va_Pc [.ref a0, .ref a26] (kPreX dC dI [(cI, .int), (cZ, .boolean), (cB, .byte), (cJ, .long), (cM, .object RX2), (cG, .array .int)] [(a0, .inr (2, [.int i0, .int i1, .int i2, .int i3, .int i4, .int i5, .int i6, .int i7, .int i8, .ref a1, .ref a2, .ref a3, .ref a4, .ref a5])), (a26, .inr (10, [.ref a27, .int i20, .int i21, .int i22, .int i23, .int i24, .int i25, .int i26])), (a27, .inl (cB, 1600, .inl xF21))] sz NT)) (va_Qv (fun (u9 : (Nat → Int32) × (Nat → Nat → Int32) × (Nat → Nat → Int64)) => ((0 : Int) ≤ (u9.1 2).toInt ∧ (u9.1 2).toInt ≤ 1) ∧ ((0 : Int) ≤ (u9.1 6).toInt ∧ (u9.1 6).toInt ≤ 1600) ∧ ((0 : Int) ≤ (u9.1 7).toInt ∧ (u9.1 7).toInt ≤ 1600) ∧ True) (fun u9 t => va_P (dC, dI) vwCl [(a0, .inr (2, [.int i0, .int i1, .int i2, .int i3, .int i4, .int i5, .int (u9.1 0), .int (u9.1 1), .int (u9.1 2), .ref a1, .ref a2, .ref a3, .ref a4, .ref a5])), (a26, .inr (10, [.ref a27, .int i20, .int (u9.1 3), .int (u9.1 4), .int (u9.1 5), .int (u9.1 6), .int (u9.1 7), .int (u9.1 8)])), (a27, .inl (cB, 1600, .inl xF21))] t.heap ∧ va_D (va_A [(a0, .inr (2, [.int i0, .int i1, .int i2, .int i3, .int i4, .int i5, .int i6, .int i7, .int i8, .ref a1, .ref a2, .ref a3, .ref a4, .ref a5])), (a26, .inr (10, [.ref a27, .int i20, .int i21, .int i22, .int i23, .int i24, .int i25, .int i26])), (a27, .inl (cB, 1600, .inl xF21))] sz) [(a0, .inr (2, [.int i0, .int i1, .int i2, .int i3, .int i4, .int i5, .int (u9.1 0), .int (u9.1 1), .int (u9.1 2), .ref a1, .ref a2, .ref a3, .ref a4, .ref a5])), (a26, .inr (10, [.ref a27, .int i20, .int (u9.1 3), .int (u9.1 4), .int (u9.1 5), .int (u9.1 6), .int (u9.1 7), .int (u9.1 8)])), (a27, .inl (cB, 1600, .inl xF21))]) (va_A [(a0, .inr (2, [.int i0, .int i1, .int i2, .int i3, .int i4, .int i5, .int i6, .int i7, .int i8, .ref a1, .ref a2, .ref a3, .ref a4, .ref a5])), (a26, .inr (10, [.ref a27, .int i20, .int i21, .int i22, .int i23, .int i24, .int i25, .int i26])), (a27, .inl (cB, 1600, .inl xF21))] sz)) 0 0 (va_A [(a0, .inr (2, [.int i0, .int i1, .int i2, .int i3, .int i4, .int i5, .int i6, .int i7, .int i8, .ref a1, .ref a2, .ref a3, .ref a4, .ref a5])), (a26, .inr (10, [.ref a27, .int i20, .int i21, .int i22, .int i23, .int i24, .int i25, .int i26])), (a27, .inl (cB, 1600, .inl xF21))] sz) := by
  refine kEnterX (by decide) (Nat.le_of_ble_eq_true rfl) ?_
  intro p e s m below meth c ls hx hb hr hml hown hlocks hin hwd hsz hP hK hD hN hl
  subst hsz
  generalize hAe : va_A [(a0, .inr (2, [.int i0, .int i1, .int i2, .int i3, .int i4, .int i5, .int i6, .int i7, .int i8, .ref a1, .ref a2, .ref a3, .ref a4, .ref a5])), (a26, .inr (10, [.ref a27, .int i20, .int i21, .int i22, .int i23, .int i24, .int i25, .int i26])), (a27, .inl (cB, 1600, .inl xF21))] s.heap.size = A at hD hN ⊢
  have hA : ∀ q : Nat, s.heap.size ≤ q → A q := fun q h => by rw [← hAe]; exact Or.inr h
  have hS : va_S A s.heap s.heap [] := va_S.rf
  have hl : lv_has ls 2 [(0, .ref a0), (1, .ref a26)] := hl
  obtain ⟨Q, hQ⟩ : ∃ Q, Q = MQ below (va_Qv (fun (u9 : (Nat → Int32) × (Nat → Nat → Int32) × (Nat → Nat → Int64)) => ((0 : Int) ≤ (u9.1 2).toInt ∧ (u9.1 2).toInt ≤ 1) ∧ ((0 : Int) ≤ (u9.1 6).toInt ∧ (u9.1 6).toInt ≤ 1600) ∧ ((0 : Int) ≤ (u9.1 7).toInt ∧ (u9.1 7).toInt ≤ 1600) ∧ True) (fun u9 t => va_P (dC, dI) vwCl [(a0, .inr (2, [.int i0, .int i1, .int i2, .int i3, .int i4, .int i5, .int (u9.1 0), .int (u9.1 1), .int (u9.1 2), .ref a1, .ref a2, .ref a3, .ref a4, .ref a5])), (a26, .inr (10, [.ref a27, .int i20, .int (u9.1 3), .int (u9.1 4), .int (u9.1 5), .int (u9.1 6), .int (u9.1 7), .int (u9.1 8)])), (a27, .inl (cB, 1600, .inl xF21))] t.heap ∧ va_D A [(a0, .inr (2, [.int i0, .int i1, .int i2, .int i3, .int i4, .int i5, .int (u9.1 0), .int (u9.1 1), .int (u9.1 2), .ref a1, .ref a2, .ref a3, .ref a4, .ref a5])), (a26, .inr (10, [.ref a27, .int i20, .int (u9.1 3), .int (u9.1 4), .int (u9.1 5), .int (u9.1 6), .int (u9.1 7), .int (u9.1 8)])), (a27, .inl (cB, 1600, .inl xF21))]) A) ([.ref a0, .ref a26] : List Value).toArray s 0 0 A := ⟨_, rfl⟩
  rw [← hQ]
  have k0 : (0 : Int32).toInt = 0 := by decide
  have k1 : (1 : Int32).toInt = 1 := by decide
  have k60 : (60 : Int32).toInt = 60 := by decide
  obtain ⟨sa170, sav170, sn170, sf170, hsn170, hR170, hks170⟩ := hN.2 _ rf_RX2_170
  have hN170 : NS sa170 sav170 sn170 sf170 A s := ⟨hN.1, hsn170.1, hks170⟩
  refine lv_aload_n hx hb dX2_readGearLine_0 rfl (lv_at hl 0 rfl) ?_
  refine va_get (D := (dC, dI)) (ci := 2) (v := .int i8) (C := RX2) (T := TX2) (N := 14) hx hb hwd inlX2 hown hK hP 0 rfl rfl 8 (by decide) (hwd _ kr15_14) (fun _ h9 => h9) rfl dX2_readGearLine_1 ?_
  refine lv_if_eq (tgt := 13) hx hb dX2_readGearLine_4 (by decide) (fun c1 => ?_) (fun c1 => ?_)
  · rw [ki_eq] at c1
    refine lv_aload_n hx hb dX2_readGearLine_13 rfl (lv_at hl 1 rfl) ?_
    have hPc := hP.sub (ws' := [(a26, .inr (10, [.ref a27, .int i20, .int i21, .int i22, .int i23, .int i24, .int i25, .int i26])), (a27, .inl (cB, 1600, .inl xF21))]) [1, 2] rfl
    have hDc := hD.sub (ws' := [(a26, .inr (10, [.ref a27, .int i20, .int i21, .int i22, .int i23, .int i24, .int i25, .int i26])), (a27, .inl (cB, 1600, .inl xF21))]) [1, 2] (by decide) rfl
    have hFc := va_free (wc := [(a26, .inr (10, [.ref a27, .int i20, .int i21, .int i22, .int i23, .int i24, .int i25, .int i26])), (a27, .inl (cB, 1600, .inl xF21))]) hD hS hA [1, 2] rfl
    refine va_callv (va_runV (As := []) (rest := []) ⟨hx, hb, hml, hown, hwd⟩ (s_X10_readToken l dC dI cI cZ cB cJ cM cG a26 a27 i20 i21 i22 i23 i24 i25 i26 xF21 s.heap.size (show (0 : Int) ≤ i20.toInt ∧ i20.toInt ≤ 1600 from p_4) (show (0 : Int) ≤ i24.toInt ∧ i24.toInt ≤ 1600 from p_5) (show (0 : Int) ≤ i25.toInt ∧ i25.toInt ≤ 1600 from p_6)) (cwV 0 hwd (gV kr22_6 kr18_2 kr18_3 kr5_12 kr18_4) rfl rfl rfl (by decide +kernel) ⟨Nat.le_of_ble_eq_true rfl, Nat.le_of_ble_eq_true rfl⟩) (kPreV hPc hK hDc (ci := 10) (q0 := 0) rfl rfl) rfl rfl hl.1 rfl (lv_room (Nat.le_of_ble_eq_true rfl)) dX2_readGearLine_14 ⟨Nat.le_of_ble_eq_true rfl, Nat.le_of_ble_eq_true rfl⟩) hS (fun q _ h => hFc q h) hFc (fun u3 t H1 locs ht9 hvm hw hB hz1 hk1 hS => ?_)
    obtain ⟨u4, U4, V4⟩ := u3
    obtain ⟨hw5, hw6, -⟩ := hw
    replace hw5 : (0 : Int) ≤ (u4 1).toInt ∧ (u4 1).toInt ≤ 1600 := hw5
    replace hw6 : (0 : Int) ≤ (u4 2).toInt ∧ (u4 2).toInt ≤ 1600 := hw6
    obtain ⟨hP1, hD1⟩ := hB
    rw [ht9] at hP1
    obtain ⟨hP, hD⟩ := va_join (wr := [(a0, .inr (2, [.int i0, .int i1, .int i2, .int i3, .int i4, .int i5, .int i6, .int i7, .int i8, .ref a1, .ref a2, .ref a3, .ref a4, .ref a5]))]) (w1 := [(a26, .inr (10, [.ref a27, .int i20, .int i21, .int i22, .int (u4 0), .int (u4 1), .int (u4 2), .int (u4 3)])), (a27, .inl (cB, 1600, .inl xF21))]) hP hD [1, 2] [0] rfl rfl (by decide) (by decide) hk1 hFc hP1 hD1
    generalize H1 = H at hP hS ⊢
    replace hP : va_P (dC, dI) vwCl [(a0, .inr (2, [.int i0, .int i1, .int i2, .int i3, .int i4, .int i5, .int i6, .int i7, .int i8, .ref a1, .ref a2, .ref a3, .ref a4, .ref a5])), (a26, .inr (10, [.ref a27, .int i20, .int i21, .int i22, .int (u4 0), .int (u4 1), .int (u4 2), .int (u4 3)])), (a27, .inl (cB, 1600, .inl xF21))] H := hP
    replace hD : va_D A [(a0, .inr (2, [.int i0, .int i1, .int i2, .int i3, .int i4, .int i5, .int i6, .int i7, .int i8, .ref a1, .ref a2, .ref a3, .ref a4, .ref a5])), (a26, .inr (10, [.ref a27, .int i20, .int i21, .int i22, .int (u4 0), .int (u4 1), .int (u4 2), .int (u4 3)])), (a27, .inl (cB, 1600, .inl xF21))] := hD
    refine lv_aload_n hx hb dX2_readGearLine_17 rfl (lv_at hl 0 rfl) ?_
    refine lv_aload_n hx hb dX2_readGearLine_18 rfl (lv_at hl 1 rfl) ?_
    refine lv_iconst (v := 1) hx hb dX2_readGearLine_19 (by decide) ?_
    refine lv_bipush (v := 60) hx hb dX2_readGearLine_20 (by decide) ?_
    have hPc := hP.sub (ws' := [(a26, .inr (10, [.ref a27, .int i20, .int i21, .int i22, .int (u4 0), .int (u4 1), .int (u4 2), .int (u4 3)])), (a27, .inl (cB, 1600, .inl xF21))]) [1, 2] rfl
    have hDc := hD.sub (ws' := [(a26, .inr (10, [.ref a27, .int i20, .int i21, .int i22, .int (u4 0), .int (u4 1), .int (u4 2), .int (u4 3)])), (a27, .inl (cB, 1600, .inl xF21))]) [1, 2] (by decide) rfl
    have hFc := va_free (wc := [(a26, .inr (10, [.ref a27, .int i20, .int i21, .int i22, .int (u4 0), .int (u4 1), .int (u4 2), .int (u4 3)])), (a27, .inl (cB, 1600, .inl xF21))]) hD hS hA [1, 2] rfl
    refine va_calli (va_runV (As := [.int 1, .int 60]) (rest := [.ref a0]) ⟨hx, hb, hml, hown, hwd⟩ (s_X10_takeNumber l dC dI cI cZ cB cJ cM cG a26 a27 i20 i21 i22 (u4 0) (u4 1) (u4 2) (u4 3) xF21 1 60 H.size (show (0 : Int) ≤ i20.toInt ∧ i20.toInt ≤ 1600 from p_4) (show (0 : Int) ≤ (u4 1).toInt ∧ (u4 1).toInt ≤ 1600 from hw5) (show (0 : Int) ≤ (u4 2).toInt ∧ (u4 2).toInt ≤ 1600 from hw6)) (cwV 2 hwd (gV kr21_21 kr21_22 kr21_23 kr5_12 kr22_0) rfl rfl rfl (by decide +kernel) ⟨Nat.le_of_ble_eq_true rfl, Nat.le_of_ble_eq_true rfl⟩) (kPreV hPc hK hDc (ci := 10) (q0 := 0) rfl rfl) rfl rfl hl.1 rfl (lv_room (Nat.le_of_ble_eq_true rfl)) dX2_readGearLine_22 ⟨Nat.le_of_ble_eq_true rfl, Nat.le_of_ble_eq_true rfl⟩) hS (fun q _ h => hFc q h) hFc (fun r7 u8 t H1 locs ht9 hvm hw hB hz1 hk1 hS => ?_)
    obtain ⟨u9, U9, V9⟩ := u8
    obtain ⟨hw10, hw11, hw12, -⟩ := hw
    replace hw10 : (1 : Int32).toInt ≤ r7.toInt ∧ (r7.toInt ≤ (1 : Int32).toInt ∨ r7.toInt ≤ (60 : Int32).toInt) := hw10
    replace hw11 : (0 : Int) ≤ (u9 3).toInt ∧ (u9 3).toInt ≤ 1600 := hw11
    replace hw12 : (0 : Int) ≤ (u9 4).toInt ∧ (u9 4).toInt ≤ 1600 := hw12
    obtain ⟨hP1, hD1⟩ := hB
    rw [ht9] at hP1
    obtain ⟨hP, hD⟩ := va_join (wr := [(a0, .inr (2, [.int i0, .int i1, .int i2, .int i3, .int i4, .int i5, .int i6, .int i7, .int i8, .ref a1, .ref a2, .ref a3, .ref a4, .ref a5]))]) (w1 := [(a26, .inr (10, [.ref a27, .int i20, .int (u9 0), .int (u9 1), .int (u9 2), .int (u9 3), .int (u9 4), .int (u9 5)])), (a27, .inl (cB, 1600, .inl xF21))]) hP hD [1, 2] [0] rfl rfl (by decide) (by decide) hk1 hFc hP1 hD1
    generalize H1 = H at hP hS ⊢
    replace hP : va_P (dC, dI) vwCl [(a0, .inr (2, [.int i0, .int i1, .int i2, .int i3, .int i4, .int i5, .int i6, .int i7, .int i8, .ref a1, .ref a2, .ref a3, .ref a4, .ref a5])), (a26, .inr (10, [.ref a27, .int i20, .int (u9 0), .int (u9 1), .int (u9 2), .int (u9 3), .int (u9 4), .int (u9 5)])), (a27, .inl (cB, 1600, .inl xF21))] H := hP
    replace hD : va_D A [(a0, .inr (2, [.int i0, .int i1, .int i2, .int i3, .int i4, .int i5, .int i6, .int i7, .int i8, .ref a1, .ref a2, .ref a3, .ref a4, .ref a5])), (a26, .inr (10, [.ref a27, .int i20, .int (u9 0), .int (u9 1), .int (u9 2), .int (u9 3), .int (u9 4), .int (u9 5)])), (a27, .inl (cB, 1600, .inl xF21))] := hD
    refine va_put (D := (dC, dI)) (ci := 2) (v := .int r7) (ty := .int) (C := RX2) (T := TX2) (N := 14) hx hb hwd inlX2 tyX2 tyX2_ok nmX2 hown hK hP hD hS 0 rfl rfl 6 (by decide) (hwd _ kr15_12) (fun _ h9 => h9) rfl (by decide +kernel) rfl rfl (Nat.le_of_ble_eq_true rfl) dX2_readGearLine_25 (fun H locs hP hD hS => ?_)
    replace hP : va_P (dC, dI) vwCl [(a0, .inr (2, [.int i0, .int i1, .int i2, .int i3, .int i4, .int i5, .int r7, .int i7, .int i8, .ref a1, .ref a2, .ref a3, .ref a4, .ref a5])), (a26, .inr (10, [.ref a27, .int i20, .int (u9 0), .int (u9 1), .int (u9 2), .int (u9 3), .int (u9 4), .int (u9 5)])), (a27, .inl (cB, 1600, .inl xF21))] H := hP
    replace hD : va_D A [(a0, .inr (2, [.int i0, .int i1, .int i2, .int i3, .int i4, .int i5, .int r7, .int i7, .int i8, .ref a1, .ref a2, .ref a3, .ref a4, .ref a5])), (a26, .inr (10, [.ref a27, .int i20, .int (u9 0), .int (u9 1), .int (u9 2), .int (u9 3), .int (u9 4), .int (u9 5)])), (a27, .inl (cB, 1600, .inl xF21))] := hD
    refine lv_aload_n hx hb dX2_readGearLine_28 rfl (lv_at hl 1 rfl) ?_
    refine va_ldcS hx hb hown hR170 dX2_readGearLine_29 ?_
    have hPc := hP.sub (ws' := [(a26, .inr (10, [.ref a27, .int i20, .int (u9 0), .int (u9 1), .int (u9 2), .int (u9 3), .int (u9 4), .int (u9 5)])), (a27, .inl (cB, 1600, .inl xF21))]) [1, 2] rfl
    have hDc := hD.sub (ws' := [(a26, .inr (10, [.ref a27, .int i20, .int (u9 0), .int (u9 1), .int (u9 2), .int (u9 3), .int (u9 4), .int (u9 5)])), (a27, .inl (cB, 1600, .inl xF21))]) [1, 2] (by decide) rfl
    have hFc := va_free (wc := [(a26, .inr (10, [.ref a27, .int i20, .int (u9 0), .int (u9 1), .int (u9 2), .int (u9 3), .int (u9 4), .int (u9 5)])), (a27, .inl (cB, 1600, .inl xF21))]) hD hS hA [1, 2] rfl
    refine va_callv (va_runV (As := [.ref sa170]) (rest := []) ⟨hx, hb, hml, hown, hwd⟩ (s_X10_takeWord l dC dI cI cZ cB cJ cM cG a26 a27 i20 (u9 0) (u9 1) (u9 2) (u9 3) (u9 4) (u9 5) xF21 sa170 sav170 sn170 sf170 H.size (show (0 : Int) ≤ i20.toInt ∧ i20.toInt ≤ 1600 from p_4) (show (0 : Int) ≤ (u9 3).toInt ∧ (u9 3).toInt ≤ 1600 from hw11) (show (0 : Int) ≤ (u9 4).toInt ∧ (u9 4).toInt ≤ 1600 from hw12)) (cwV 1 hwd (gV kr19_14 kr19_15 kr19_16 kr5_12 kr19_17) rfl rfl rfl (by decide +kernel) ⟨Nat.le_of_ble_eq_true rfl, Nat.le_of_ble_eq_true rfl⟩) (kPreVX hPc hK hDc (NS_st _ _ _ _) hN170 hS hFc (ci := 10) (q0 := 0) rfl rfl) rfl rfl hl.1 rfl (lv_room (Nat.le_of_ble_eq_true rfl)) dX2_readGearLine_31 ⟨Nat.le_of_ble_eq_true rfl, Nat.le_of_ble_eq_true rfl⟩) hS (fun q _ h => hFc q h) hFc (fun u14 t H1 locs ht9 hvm hw hB hz1 hk1 hS => ?_)
    obtain ⟨u15, U15, V15⟩ := u14
    obtain ⟨hw16, hw17, -⟩ := hw
    replace hw16 : (0 : Int) ≤ (u15 3).toInt ∧ (u15 3).toInt ≤ 1600 := hw16
    replace hw17 : (0 : Int) ≤ (u15 4).toInt ∧ (u15 4).toInt ≤ 1600 := hw17
    obtain ⟨hP1, hD1⟩ := hB
    rw [ht9] at hP1
    obtain ⟨hP, hD⟩ := va_join (wr := [(a0, .inr (2, [.int i0, .int i1, .int i2, .int i3, .int i4, .int i5, .int r7, .int i7, .int i8, .ref a1, .ref a2, .ref a3, .ref a4, .ref a5]))]) (w1 := [(a26, .inr (10, [.ref a27, .int i20, .int (u15 0), .int (u15 1), .int (u15 2), .int (u15 3), .int (u15 4), .int (u15 5)])), (a27, .inl (cB, 1600, .inl xF21))]) hP hD [1, 2] [0] rfl rfl (by decide) (by decide) hk1 hFc hP1 hD1
    generalize H1 = H at hP hS ⊢
    replace hP : va_P (dC, dI) vwCl [(a0, .inr (2, [.int i0, .int i1, .int i2, .int i3, .int i4, .int i5, .int r7, .int i7, .int i8, .ref a1, .ref a2, .ref a3, .ref a4, .ref a5])), (a26, .inr (10, [.ref a27, .int i20, .int (u15 0), .int (u15 1), .int (u15 2), .int (u15 3), .int (u15 4), .int (u15 5)])), (a27, .inl (cB, 1600, .inl xF21))] H := hP
    replace hD : va_D A [(a0, .inr (2, [.int i0, .int i1, .int i2, .int i3, .int i4, .int i5, .int r7, .int i7, .int i8, .ref a1, .ref a2, .ref a3, .ref a4, .ref a5])), (a26, .inr (10, [.ref a27, .int i20, .int (u15 0), .int (u15 1), .int (u15 2), .int (u15 3), .int (u15 4), .int (u15 5)])), (a27, .inl (cB, 1600, .inl xF21))] := hD
    refine lv_aload_n hx hb dX2_readGearLine_34 rfl (lv_at hl 0 rfl) ?_
    refine lv_aload_n hx hb dX2_readGearLine_35 rfl (lv_at hl 1 rfl) ?_
    refine lv_iconst (v := 1) hx hb dX2_readGearLine_36 (by decide) ?_
    refine lv_bipush (v := 60) hx hb dX2_readGearLine_37 (by decide) ?_
    have hPc := hP.sub (ws' := [(a26, .inr (10, [.ref a27, .int i20, .int (u15 0), .int (u15 1), .int (u15 2), .int (u15 3), .int (u15 4), .int (u15 5)])), (a27, .inl (cB, 1600, .inl xF21))]) [1, 2] rfl
    have hDc := hD.sub (ws' := [(a26, .inr (10, [.ref a27, .int i20, .int (u15 0), .int (u15 1), .int (u15 2), .int (u15 3), .int (u15 4), .int (u15 5)])), (a27, .inl (cB, 1600, .inl xF21))]) [1, 2] (by decide) rfl
    have hFc := va_free (wc := [(a26, .inr (10, [.ref a27, .int i20, .int (u15 0), .int (u15 1), .int (u15 2), .int (u15 3), .int (u15 4), .int (u15 5)])), (a27, .inl (cB, 1600, .inl xF21))]) hD hS hA [1, 2] rfl
    refine va_calli (va_runV (As := [.int 1, .int 60]) (rest := [.ref a0]) ⟨hx, hb, hml, hown, hwd⟩ (s_X10_takeNumber l dC dI cI cZ cB cJ cM cG a26 a27 i20 (u15 0) (u15 1) (u15 2) (u15 3) (u15 4) (u15 5) xF21 1 60 H.size (show (0 : Int) ≤ i20.toInt ∧ i20.toInt ≤ 1600 from p_4) (show (0 : Int) ≤ (u15 3).toInt ∧ (u15 3).toInt ≤ 1600 from hw16) (show (0 : Int) ≤ (u15 4).toInt ∧ (u15 4).toInt ≤ 1600 from hw17)) (cwV 2 hwd (gV kr21_21 kr21_22 kr21_23 kr5_12 kr22_0) rfl rfl rfl (by decide +kernel) ⟨Nat.le_of_ble_eq_true rfl, Nat.le_of_ble_eq_true rfl⟩) (kPreV hPc hK hDc (ci := 10) (q0 := 0) rfl rfl) rfl rfl hl.1 rfl (lv_room (Nat.le_of_ble_eq_true rfl)) dX2_readGearLine_39 ⟨Nat.le_of_ble_eq_true rfl, Nat.le_of_ble_eq_true rfl⟩) hS (fun q _ h => hFc q h) hFc (fun r18 u19 t H1 locs ht9 hvm hw hB hz1 hk1 hS => ?_)
    obtain ⟨u20, U20, V20⟩ := u19
    obtain ⟨hw21, hw22, hw23, -⟩ := hw
    replace hw21 : (1 : Int32).toInt ≤ r18.toInt ∧ (r18.toInt ≤ (1 : Int32).toInt ∨ r18.toInt ≤ (60 : Int32).toInt) := hw21
    replace hw22 : (0 : Int) ≤ (u20 3).toInt ∧ (u20 3).toInt ≤ 1600 := hw22
    replace hw23 : (0 : Int) ≤ (u20 4).toInt ∧ (u20 4).toInt ≤ 1600 := hw23
    obtain ⟨hP1, hD1⟩ := hB
    rw [ht9] at hP1
    obtain ⟨hP, hD⟩ := va_join (wr := [(a0, .inr (2, [.int i0, .int i1, .int i2, .int i3, .int i4, .int i5, .int r7, .int i7, .int i8, .ref a1, .ref a2, .ref a3, .ref a4, .ref a5]))]) (w1 := [(a26, .inr (10, [.ref a27, .int i20, .int (u20 0), .int (u20 1), .int (u20 2), .int (u20 3), .int (u20 4), .int (u20 5)])), (a27, .inl (cB, 1600, .inl xF21))]) hP hD [1, 2] [0] rfl rfl (by decide) (by decide) hk1 hFc hP1 hD1
    generalize H1 = H at hP hS ⊢
    replace hP : va_P (dC, dI) vwCl [(a0, .inr (2, [.int i0, .int i1, .int i2, .int i3, .int i4, .int i5, .int r7, .int i7, .int i8, .ref a1, .ref a2, .ref a3, .ref a4, .ref a5])), (a26, .inr (10, [.ref a27, .int i20, .int (u20 0), .int (u20 1), .int (u20 2), .int (u20 3), .int (u20 4), .int (u20 5)])), (a27, .inl (cB, 1600, .inl xF21))] H := hP
    replace hD : va_D A [(a0, .inr (2, [.int i0, .int i1, .int i2, .int i3, .int i4, .int i5, .int r7, .int i7, .int i8, .ref a1, .ref a2, .ref a3, .ref a4, .ref a5])), (a26, .inr (10, [.ref a27, .int i20, .int (u20 0), .int (u20 1), .int (u20 2), .int (u20 3), .int (u20 4), .int (u20 5)])), (a27, .inl (cB, 1600, .inl xF21))] := hD
    refine va_put (D := (dC, dI)) (ci := 2) (v := .int r18) (ty := .int) (C := RX2) (T := TX2) (N := 14) hx hb hwd inlX2 tyX2 tyX2_ok nmX2 hown hK hP hD hS 0 rfl rfl 7 (by decide) (hwd _ kr15_13) (fun _ h9 => h9) rfl (by decide +kernel) rfl rfl (Nat.le_of_ble_eq_true rfl) dX2_readGearLine_42 (fun H locs hP hD hS => ?_)
    replace hP : va_P (dC, dI) vwCl [(a0, .inr (2, [.int i0, .int i1, .int i2, .int i3, .int i4, .int i5, .int r7, .int r18, .int i8, .ref a1, .ref a2, .ref a3, .ref a4, .ref a5])), (a26, .inr (10, [.ref a27, .int i20, .int (u20 0), .int (u20 1), .int (u20 2), .int (u20 3), .int (u20 4), .int (u20 5)])), (a27, .inl (cB, 1600, .inl xF21))] H := hP
    replace hD : va_D A [(a0, .inr (2, [.int i0, .int i1, .int i2, .int i3, .int i4, .int i5, .int r7, .int r18, .int i8, .ref a1, .ref a2, .ref a3, .ref a4, .ref a5])), (a26, .inr (10, [.ref a27, .int i20, .int (u20 0), .int (u20 1), .int (u20 2), .int (u20 3), .int (u20 4), .int (u20 5)])), (a27, .inl (cB, 1600, .inl xF21))] := hD
    refine lv_aload_n hx hb dX2_readGearLine_45 rfl (lv_at hl 0 rfl) ?_
    refine lv_iconst (v := 1) hx hb dX2_readGearLine_46 (by decide) ?_
    refine va_put (D := (dC, dI)) (ci := 2) (v := .int 1) (ty := .boolean) (C := RX2) (T := TX2) (N := 14) hx hb hwd inlX2 tyX2 tyX2_ok nmX2 hown hK hP hD hS 0 rfl rfl 8 (by decide) (hwd _ kr15_14) (fun _ h9 => h9) rfl (by decide +kernel) rfl rfl (Nat.le_of_ble_eq_true rfl) dX2_readGearLine_47 (fun H locs hP hD hS => ?_)
    replace hP : va_P (dC, dI) vwCl [(a0, .inr (2, [.int i0, .int i1, .int i2, .int i3, .int i4, .int i5, .int r7, .int r18, .int 1, .ref a1, .ref a2, .ref a3, .ref a4, .ref a5])), (a26, .inr (10, [.ref a27, .int i20, .int (u20 0), .int (u20 1), .int (u20 2), .int (u20 3), .int (u20 4), .int (u20 5)])), (a27, .inl (cB, 1600, .inl xF21))] H := hP
    replace hD : va_D A [(a0, .inr (2, [.int i0, .int i1, .int i2, .int i3, .int i4, .int i5, .int r7, .int r18, .int 1, .ref a1, .ref a2, .ref a3, .ref a4, .ref a5])), (a26, .inr (10, [.ref a27, .int i20, .int (u20 0), .int (u20 1), .int (u20 2), .int (u20 3), .int (u20 4), .int (u20 5)])), (a27, .inl (cB, 1600, .inl xF21))] := hD
    have hP9 := hP.sub (ws' := [(a0, .inr (2, [.int i0, .int i1, .int i2, .int i3, .int i4, .int i5, .int r7, .int r18, .int 1, .ref a1, .ref a2, .ref a3, .ref a4, .ref a5])), (a26, .inr (10, [.ref a27, .int i20, .int (u20 0), .int (u20 1), .int (u20 2), .int (u20 3), .int (u20 4), .int (u20 5)])), (a27, .inl (cB, 1600, .inl xF21))]) [0, 1, 2] rfl
    have hD9 := hD.sub (ws' := [(a0, .inr (2, [.int i0, .int i1, .int i2, .int i3, .int i4, .int i5, .int r7, .int r18, .int 1, .ref a1, .ref a2, .ref a3, .ref a4, .ref a5])), (a26, .inr (10, [.ref a27, .int i20, .int (u20 0), .int (u20 1), .int (u20 2), .int (u20 3), .int (u20 4), .int (u20 5)])), (a27, .inl (cB, 1600, .inl xF21))]) [0, 1, 2] (by decide) rfl
    rw [hQ]
    exact W.vret hx hb hr (fun t ht hW => ⟨⟨(pickG 0 [r7, r18, 1, (u20 0), (u20 1), (u20 2), (u20 3), (u20 4), (u20 5)], pickG (fun _ => 0) [], pickG (fun _ => 0) []), rfl, ⟨(show (0 : Int) ≤ (1 : Int32).toInt ∧ (1 : Int32).toInt ≤ 1 from ⟨by omega, by omega⟩), (show (0 : Int) ≤ (u20 3).toInt ∧ (u20 3).toInt ≤ 1600 from hw22), (show (0 : Int) ≤ (u20 4).toInt ∧ (u20 4).toInt ≤ 1600 from hw23), trivial⟩, (by rw [ht]; exact hP9), hD9⟩, hS.F ht⟩) hS.2.2 dX2_readGearLine_50
  · rw [ki_eq] at c1
    refine lv_aload_n hx hb dX2_readGearLine_7 rfl (lv_at hl 1 rfl) ?_
    refine lv_iconst (v := 2) hx hb dX2_readGearLine_8 (by decide) ?_
    have hPc := hP.sub (ws' := [(a26, .inr (10, [.ref a27, .int i20, .int i21, .int i22, .int i23, .int i24, .int i25, .int i26]))]) [1] rfl
    have hDc := hD.sub (ws' := [(a26, .inr (10, [.ref a27, .int i20, .int i21, .int i22, .int i23, .int i24, .int i25, .int i26]))]) [1] (by decide) rfl
    have hFc := va_free (wc := [(a26, .inr (10, [.ref a27, .int i20, .int i21, .int i22, .int i23, .int i24, .int i25, .int i26]))]) hD hS hA [1] rfl
    refine va_callv (va_runV (As := [.int 2]) (rest := []) ⟨hx, hb, hml, hown, hwd⟩ (s_X10_blame l dC dI cI cZ cB cJ cM cG a26 a27 i20 i21 i22 i23 i24 i25 i26 2 s.heap.size (show (0 : Int) ≤ i20.toInt ∧ i20.toInt ≤ 1600 from p_4) (show (0 : Int) ≤ i24.toInt ∧ i24.toInt ≤ 1600 from p_5) (show (0 : Int) ≤ i25.toInt ∧ i25.toInt ≤ 1600 from p_6)) (cwV 1 hwd (gV kr22_5 kr21_18 kr21_19 kr5_12 kr21_20) rfl rfl rfl (by decide +kernel) ⟨Nat.le_of_ble_eq_true rfl, Nat.le_of_ble_eq_true rfl⟩) (kPreV hPc hK hDc (ci := 10) (q0 := 0) rfl rfl) rfl rfl hl.1 rfl (lv_room (Nat.le_of_ble_eq_true rfl)) dX2_readGearLine_9 ⟨Nat.le_of_ble_eq_true rfl, Nat.le_of_ble_eq_true rfl⟩) hS (fun q _ h => hFc q h) hFc (fun u25 t H1 locs ht9 hvm hw hB hz1 hk1 hS => ?_)
    obtain ⟨u26, U26, V26⟩ := u25
    obtain ⟨hP1, hD1⟩ := hB
    rw [ht9] at hP1
    obtain ⟨hP, hD⟩ := va_join (wr := [(a0, .inr (2, [.int i0, .int i1, .int i2, .int i3, .int i4, .int i5, .int i6, .int i7, .int i8, .ref a1, .ref a2, .ref a3, .ref a4, .ref a5])), (a27, .inl (cB, 1600, .inl xF21))]) (w1 := [(a26, .inr (10, [.ref a27, .int i20, .int (u26 0), .int (u26 1), .int i23, .int i24, .int i25, .int i26]))]) hP hD [1] [0, 2] rfl rfl (by decide) (by decide) hk1 hFc hP1 hD1
    generalize H1 = H at hP hS ⊢
    replace hP : va_P (dC, dI) vwCl [(a0, .inr (2, [.int i0, .int i1, .int i2, .int i3, .int i4, .int i5, .int i6, .int i7, .int i8, .ref a1, .ref a2, .ref a3, .ref a4, .ref a5])), (a27, .inl (cB, 1600, .inl xF21)), (a26, .inr (10, [.ref a27, .int i20, .int (u26 0), .int (u26 1), .int i23, .int i24, .int i25, .int i26]))] H := hP
    replace hD : va_D A [(a0, .inr (2, [.int i0, .int i1, .int i2, .int i3, .int i4, .int i5, .int i6, .int i7, .int i8, .ref a1, .ref a2, .ref a3, .ref a4, .ref a5])), (a27, .inl (cB, 1600, .inl xF21)), (a26, .inr (10, [.ref a27, .int i20, .int (u26 0), .int (u26 1), .int i23, .int i24, .int i25, .int i26]))] := hD
    have hP9 := hP.sub (ws' := [(a0, .inr (2, [.int i0, .int i1, .int i2, .int i3, .int i4, .int i5, .int i6, .int i7, .int i8, .ref a1, .ref a2, .ref a3, .ref a4, .ref a5])), (a26, .inr (10, [.ref a27, .int i20, .int (u26 0), .int (u26 1), .int i23, .int i24, .int i25, .int i26])), (a27, .inl (cB, 1600, .inl xF21))]) [0, 2, 1] rfl
    have hD9 := hD.sub (ws' := [(a0, .inr (2, [.int i0, .int i1, .int i2, .int i3, .int i4, .int i5, .int i6, .int i7, .int i8, .ref a1, .ref a2, .ref a3, .ref a4, .ref a5])), (a26, .inr (10, [.ref a27, .int i20, .int (u26 0), .int (u26 1), .int i23, .int i24, .int i25, .int i26])), (a27, .inl (cB, 1600, .inl xF21))]) [0, 2, 1] (by decide) rfl
    rw [hQ]
    exact W.vret hx hb hr (fun t ht hW => ⟨⟨(pickG 0 [i6, i7, i8, (u26 0), (u26 1), i23, i24, i25, i26], pickG (fun _ => 0) [], pickG (fun _ => 0) []), rfl, ⟨(show (0 : Int) ≤ i8.toInt ∧ i8.toInt ≤ 1 from p_3), (show (0 : Int) ≤ i24.toInt ∧ i24.toInt ≤ 1600 from p_5), (show (0 : Int) ≤ i25.toInt ∧ i25.toInt ≤ 1600 from p_6), trivial⟩, (by rw [ht]; exact hP9), hD9⟩, hS.F ht⟩) hS.2.2 dX2_readGearLine_12
