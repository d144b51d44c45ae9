theorem dX12_asksMotions_0 : decode cX12_asksMotions 0 = .ok (.iload_n 1, 1) := by decide +kernel
theorem dX12_asksMotions_1 : decode cX12_asksMotions 1 = .ok (.invokestatic 414, 3) := by decide +kernel
theorem dX12_asksMotions_4 : decode cX12_asksMotions 4 = .ok (.ifCond .eq 10, 3) := by decide +kernel
theorem dX12_asksMotions_7 : decode cX12_asksMotions 7 = .ok (.aload_n 0, 1) := by decide +kernel
theorem dX12_asksMotions_8 : decode cX12_asksMotions 8 = .ok (.invokevirtual 248, 3) := by decide +kernel
theorem dX12_asksMotions_11 : decode cX12_asksMotions 11 = .ok (.ifCond .ne 6, 3) := by decide +kernel
theorem dX12_asksMotions_14 : decode cX12_asksMotions 14 = .ok (.bipush (-2), 2) := by decide +kernel
theorem dX12_asksMotions_16 : decode cX12_asksMotions 16 = .ok (.ireturn, 1) := by decide +kernel
theorem dX12_asksMotions_17 : decode cX12_asksMotions 17 = .ok (.aload_n 0, 1) := by decide +kernel
theorem dX12_asksMotions_18 : decode cX12_asksMotions 18 = .ok (.getfield 79, 3) := by decide +kernel
theorem dX12_asksMotions_21 : decode cX12_asksMotions 21 = .ok (.iload_n 1, 1) := by decide +kernel
theorem dX12_asksMotions_22 : decode cX12_asksMotions 22 = .ok (.iaload, 1) := by decide +kernel
theorem dX12_asksMotions_23 : decode cX12_asksMotions 23 = .ok (.iconst 1, 1) := by decide +kernel
theorem dX12_asksMotions_24 : decode cX12_asksMotions 24 = .ok (.if_icmp .ge 6, 3) := by decide +kernel
theorem dX12_asksMotions_27 : decode cX12_asksMotions 27 = .ok (.bipush (-6), 2) := by decide +kernel
theorem dX12_asksMotions_29 : decode cX12_asksMotions 29 = .ok (.ireturn, 1) := by decide +kernel
theorem dX12_asksMotions_30 : decode cX12_asksMotions 30 = .ok (.aload_n 0, 1) := by decide +kernel
theorem dX12_asksMotions_31 : decode cX12_asksMotions 31 = .ok (.getfield 79, 3) := by decide +kernel
theorem dX12_asksMotions_34 : decode cX12_asksMotions 34 = .ok (.iload_n 1, 1) := by decide +kernel
theorem dX12_asksMotions_35 : decode cX12_asksMotions 35 = .ok (.iaload, 1) := by decide +kernel
theorem dX12_asksMotions_36 : decode cX12_asksMotions 36 = .ok (.bipush 8, 2) := by decide +kernel
theorem dX12_asksMotions_38 : decode cX12_asksMotions 38 = .ok (.if_icmp .le 6, 3) := by decide +kernel
theorem dX12_asksMotions_41 : decode cX12_asksMotions 41 = .ok (.bipush (-2), 2) := by decide +kernel
theorem dX12_asksMotions_43 : decode cX12_asksMotions 43 = .ok (.ireturn, 1) := by decide +kernel
theorem dX12_asksMotions_44 : decode cX12_asksMotions 44 = .ok (.iconst 0, 1) := by decide +kernel
theorem dX12_asksMotions_45 : decode cX12_asksMotions 45 = .ok (.istore_n 2, 1) := by decide +kernel
theorem dX12_asksMotions_46 : decode cX12_asksMotions 46 = .ok (.iload_n 2, 1) := by decide +kernel
theorem dX12_asksMotions_47 : decode cX12_asksMotions 47 = .ok (.aload_n 0, 1) := by decide +kernel
theorem dX12_asksMotions_48 : decode cX12_asksMotions 48 = .ok (.getfield 79, 3) := by decide +kernel
theorem dX12_asksMotions_51 : decode cX12_asksMotions 51 = .ok (.iload_n 1, 1) := by decide +kernel
theorem dX12_asksMotions_52 : decode cX12_asksMotions 52 = .ok (.iaload, 1) := by decide +kernel
theorem dX12_asksMotions_53 : decode cX12_asksMotions 53 = .ok (.if_icmp .ge 37, 3) := by decide +kernel
theorem dX12_asksMotions_56 : decode cX12_asksMotions 56 = .ok (.aload_n 0, 1) := by decide +kernel
theorem dX12_asksMotions_57 : decode cX12_asksMotions 57 = .ok (.getfield 85, 3) := by decide +kernel
theorem dX12_asksMotions_60 : decode cX12_asksMotions 60 = .ok (.bipush 60, 2) := by decide +kernel
theorem dX12_asksMotions_62 : decode cX12_asksMotions 62 = .ok (.iload_n 1, 1) := by decide +kernel
theorem dX12_asksMotions_63 : decode cX12_asksMotions 63 = .ok (.imul, 1) := by decide +kernel
theorem dX12_asksMotions_64 : decode cX12_asksMotions 64 = .ok (.iload_n 2, 1) := by decide +kernel
theorem dX12_asksMotions_65 : decode cX12_asksMotions 65 = .ok (.iadd, 1) := by decide +kernel
theorem dX12_asksMotions_66 : decode cX12_asksMotions 66 = .ok (.laload, 1) := by decide +kernel
theorem dX12_asksMotions_67 : decode cX12_asksMotions 67 = .ok (.lconst 1, 1) := by decide +kernel
theorem dX12_asksMotions_68 : decode cX12_asksMotions 68 = .ok (.aload_n 0, 1) := by decide +kernel
theorem dX12_asksMotions_69 : decode cX12_asksMotions 69 = .ok (.getfield 13, 3) := by decide +kernel
theorem dX12_asksMotions_72 : decode cX12_asksMotions 72 = .ok (.iconst 1, 1) := by decide +kernel
theorem dX12_asksMotions_73 : decode cX12_asksMotions 73 = .ok (.iaload, 1) := by decide +kernel
theorem dX12_asksMotions_74 : decode cX12_asksMotions 74 = .ok (.i2l, 1) := by decide +kernel
theorem dX12_asksMotions_75 : decode cX12_asksMotions 75 = .ok (.invokestatic 98, 3) := by decide +kernel
theorem dX12_asksMotions_78 : decode cX12_asksMotions 78 = .ok (.ifCond .ne 6, 3) := by decide +kernel
theorem dX12_asksMotions_81 : decode cX12_asksMotions 81 = .ok (.bipush (-2), 2) := by decide +kernel
theorem dX12_asksMotions_83 : decode cX12_asksMotions 83 = .ok (.ireturn, 1) := by decide +kernel
theorem dX12_asksMotions_84 : decode cX12_asksMotions 84 = .ok (.iinc 2 1, 3) := by decide +kernel
theorem dX12_asksMotions_87 : decode cX12_asksMotions 87 = .ok (.goto (-41), 3) := by decide +kernel
theorem dX12_asksMotions_90 : decode cX12_asksMotions 90 = .ok (.iconst 0, 1) := by decide +kernel
theorem dX12_asksMotions_91 : decode cX12_asksMotions 91 = .ok (.ireturn, 1) := by decide +kernel
set_option maxHeartbeats 4000000 in
set_option maxRecDepth 100000 in
theorem s_X12_asksMotions (l : Launch) (dC : Nat → ClassId) (dI : Nat → Nat → Nat) (cI cZ cB cJ cM cG : ClassId) (a0 a1 a2 a3 a4 a5 a6 a7 a8 a9 a10 a11 a12 a13 a14 a15 a16 a17 a18 a19 a20 a21 a22 a23 a24 : Nat) (i0 i1 i2 i3 i4 i5 i6 i7 i8 i9 i10 i11 i12 i13 i14 i15 i16 : Int32) (j0 : Int64) (xF0 xF20 : Nat → Int32) (xG22 : Nat → Int64) (p0 : Int32) (cp : Int) (sz : Nat) (p_0 : (0 : Int) ≤ i1.toInt ∧ i1.toInt ≤ 1600) (p_1 : (0 : Int) ≤ i2.toInt ∧ i2.toInt ≤ 1600) (p_2 : (0 : Int) ≤ i3.toInt ∧ i3.toInt ≤ 1600) (p_3 : (0 : Int) ≤ i4.toInt ∧ i4.toInt ≤ 1600) (p_4 : (0 : Int) ≤ i5.toInt ∧ i5.toInt ≤ 6) (p_5 : (0 : Int) ≤ i7.toInt ∧ i7.toInt ≤ 3) (p_6 : (0 : Int) ≤ i11.toInt ∧ i11.toInt ≤ 59) (p_7 : WI cp xF0) (p_8 : rng xF20 4 (-1) 60) (p_9 : MI xF20) (p_10 : 0 ≤ cp ∧ cp ≤ 2000000000) : Met l yX12_asksMotions (kw yX12_asksMotions cX12_asksMotions 3 (some .int)) ({ frames := 2, cells := 0, slots := 0, locals := 45 } : Room) (va_Pc [.ref a0, .int p0] (kPre dC dI [(cI, .int), (cZ, .boolean), (cB, .byte), (cJ, .long), (cM, .object RX2), (cG, .array .int)] [(a0, .inr (12, [.int i0, .ref a1, .ref a2, .ref a3, .ref a4, .int i1, .ref a5, .int i2, .int i3, .int i4, .int i5, .int i6, .int i7, .int i8, .ref a6, .ref a7, .ref a8, .ref a9, .ref a10, .ref a11, .ref a12, .int i9, .ref a13, .int i10, .ref a14, .ref a15, .int i11, .ref a16, .ref a17, .ref a18, .ref a19, .int i12, .int i13, .int i14, .int i15, .int i16, .ref a20, .long j0, .ref a21, .ref a22, .ref a23, .ref a24])), (a1, .inl (cI, 544, .inl xF0)), (a21, .inl (cI, 4, .inl xF20)), (a23, .inl (cJ, 240, .inr (.inl xG22)))] sz)) (va_Qi (fun (r : Int32) (u9 : Unit) => ((-6 : Int) ≤ r.toInt ∧ r.toInt ≤ 0) ∧ ((r.toInt ≥ 0 → p0.toInt ≥ 0 ∧ p0.toInt ≤ 3 ∧ 1 ≤ wat xF0 1 ∧ 1 ≤ (xF20 p0.toInt.toNat).toInt ∧ (xF20 p0.toInt.toNat).toInt ≤ 8 ∧ NB (wat xF0 1) xG22 p0.toInt (xF20 p0.toInt.toNat).toInt)) ∧ True) (fun u9 t => va_P (dC, dI) vwCl [(a0, .inr (12, [.int i0, .ref a1, .ref a2, .ref a3, .ref a4, .int i1, .ref a5, .int i2, .int i3, .int i4, .int i5, .int i6, .int i7, .int i8, .ref a6, .ref a7, .ref a8, .ref a9, .ref a10, .ref a11, .ref a12, .int i9, .ref a13, .int i10, .ref a14, .ref a15, .int i11, .ref a16, .ref a17, .ref a18, .ref a19, .int i12, .int i13, .int i14, .int i15, .int i16, .ref a20, .long j0, .ref a21, .ref a22, .ref a23, .ref a24])), (a1, .inl (cI, 544, .inl xF0)), (a21, .inl (cI, 4, .inl xF20)), (a23, .inl (cJ, 240, .inr (.inl xG22)))] t.heap ∧ va_D (va_A [(a0, .inr (12, [.int i0, .ref a1, .ref a2, .ref a3, .ref a4, .int i1, .ref a5, .int i2, .int i3, .int i4, .int i5, .int i6, .int i7, .int i8, .ref a6, .ref a7, .ref a8, .ref a9, .ref a10, .ref a11, .ref a12, .int i9, .ref a13, .int i10, .ref a14, .ref a15, .int i11, .ref a16, .ref a17, .ref a18, .ref a19, .int i12, .int i13, .int i14, .int i15, .int i16, .ref a20, .long j0, .ref a21, .ref a22, .ref a23, .ref a24])), (a1, .inl (cI, 544, .inl xF0)), (a21, .inl (cI, 4, .inl xF20)), (a23, .inl (cJ, 240, .inr (.inl xG22)))] sz) [(a0, .inr (12, [.int i0, .ref a1, .ref a2, .ref a3, .ref a4, .int i1, .ref a5, .int i2, .int i3, .int i4, .int i5, .int i6, .int i7, .int i8, .ref a6, .ref a7, .ref a8, .ref a9, .ref a10, .ref a11, .ref a12, .int i9, .ref a13, .int i10, .ref a14, .ref a15, .int i11, .ref a16, .ref a17, .ref a18, .ref a19, .int i12, .int i13, .int i14, .int i15, .int i16, .ref a20, .long j0, .ref a21, .ref a22, .ref a23, .ref a24])), (a1, .inl (cI, 544, .inl xF0)), (a21, .inl (cI, 4, .inl xF20)), (a23, .inl (cJ, 240, .inr (.inl xG22)))]) (va_A [(a0, .inr (12, [.int i0, .ref a1, .ref a2, .ref a3, .ref a4, .int i1, .ref a5, .int i2, .int i3, .int i4, .int i5, .int i6, .int i7, .int i8, .ref a6, .ref a7, .ref a8, .ref a9, .ref a10, .ref a11, .ref a12, .int i9, .ref a13, .int i10, .ref a14, .ref a15, .int i11, .ref a16, .ref a17, .ref a18, .ref a19, .int i12, .int i13, .int i14, .int i15, .int i16, .ref a20, .long j0, .ref a21, .ref a22, .ref a23, .ref a24])), (a1, .inl (cI, 544, .inl xF0)), (a21, .inl (cI, 4, .inl xF20)), (a23, .inl (cJ, 240, .inr (.inl xG22)))] sz)) 0 0 (va_A [(a0, .inr (12, [.int i0, .ref a1, .ref a2, .ref a3, .ref a4, .int i1, .ref a5, .int i2, .int i3, .int i4, .int i5, .int i6, .int i7, .int i8, .ref a6, .ref a7, .ref a8, .ref a9, .ref a10, .ref a11, .ref a12, .int i9, .ref a13, .int i10, .ref a14, .ref a15, .int i11, .ref a16, .ref a17, .ref a18, .ref a19, .int i12, .int i13, .int i14, .int i15, .int i16, .ref a20, .long j0, .ref a21, .ref a22, .ref a23, .ref a24])), (a1, .inl (cI, 544, .inl xF0)), (a21, .inl (cI, 4, .inl xF20)), (a23, .inl (cJ, 240, .inr (.inl xG22)))] sz) := by
  refine kEnter (by decide) (Nat.le_of_ble_eq_true rfl) ?_
  intro p e s m below meth c ls hx hb hr hml hown hlocks hin hwd hsz hP hK hD hl
  subst hsz
  generalize hAe : va_A [(a0, .inr (12, [.int i0, .ref a1, .ref a2, .ref a3, .ref a4, .int i1, .ref a5, .int i2, .int i3, .int i4, .int i5, .int i6, .int i7, .int i8, .ref a6, .ref a7, .ref a8, .ref a9, .ref a10, .ref a11, .ref a12, .int i9, .ref a13, .int i10, .ref a14, .ref a15, .int i11, .ref a16, .ref a17, .ref a18, .ref a19, .int i12, .int i13, .int i14, .int i15, .int i16, .ref a20, .long j0, .ref a21, .ref a22, .ref a23, .ref a24])), (a1, .inl (cI, 544, .inl xF0)), (a21, .inl (cI, 4, .inl xF20)), (a23, .inl (cJ, 240, .inr (.inl xG22)))] s.heap.size = A at hD ⊢
  have hA : ∀ q : Nat, s.heap.size ≤ q → A q := fun q h => by rw [← hAe]; exact Or.inr h
  have hS : va_S A s.heap s.heap [] := va_S.rf
  have hl : lv_has ls 3 [(0, .ref a0), (1, .int p0)] := hl
  obtain ⟨Q, hQ⟩ : ∃ Q, Q = MQ below (va_Qi (fun (r : Int32) (u9 : Unit) => ((-6 : Int) ≤ r.toInt ∧ r.toInt ≤ 0) ∧ ((r.toInt ≥ 0 → p0.toInt ≥ 0 ∧ p0.toInt ≤ 3 ∧ 1 ≤ wat xF0 1 ∧ 1 ≤ (xF20 p0.toInt.toNat).toInt ∧ (xF20 p0.toInt.toNat).toInt ≤ 8 ∧ NB (wat xF0 1) xG22 p0.toInt (xF20 p0.toInt.toNat).toInt)) ∧ True) (fun u9 t => va_P (dC, dI) vwCl [(a0, .inr (12, [.int i0, .ref a1, .ref a2, .ref a3, .ref a4, .int i1, .ref a5, .int i2, .int i3, .int i4, .int i5, .int i6, .int i7, .int i8, .ref a6, .ref a7, .ref a8, .ref a9, .ref a10, .ref a11, .ref a12, .int i9, .ref a13, .int i10, .ref a14, .ref a15, .int i11, .ref a16, .ref a17, .ref a18, .ref a19, .int i12, .int i13, .int i14, .int i15, .int i16, .ref a20, .long j0, .ref a21, .ref a22, .ref a23, .ref a24])), (a1, .inl (cI, 544, .inl xF0)), (a21, .inl (cI, 4, .inl xF20)), (a23, .inl (cJ, 240, .inr (.inl xG22)))] t.heap ∧ va_D A [(a0, .inr (12, [.int i0, .ref a1, .ref a2, .ref a3, .ref a4, .int i1, .ref a5, .int i2, .int i3, .int i4, .int i5, .int i6, .int i7, .int i8, .ref a6, .ref a7, .ref a8, .ref a9, .ref a10, .ref a11, .ref a12, .int i9, .ref a13, .int i10, .ref a14, .ref a15, .int i11, .ref a16, .ref a17, .ref a18, .ref a19, .int i12, .int i13, .int i14, .int i15, .int i16, .ref a20, .long j0, .ref a21, .ref a22, .ref a23, .ref a24])), (a1, .inl (cI, 544, .inl xF0)), (a21, .inl (cI, 4, .inl xF20)), (a23, .inl (cJ, 240, .inr (.inl xG22)))]) A) ([.ref a0, .int p0] : List Value).toArray s 0 0 A := ⟨_, rfl⟩
  rw [← hQ]
  have km6 : ((-6) : Int32).toInt = -6 := by decide
  have km2 : ((-2) : Int32).toInt = -2 := by decide
  have k0 : (0 : Int32).toInt = 0 := by decide
  have k1 : (1 : Int32).toInt = 1 := by decide
  have k3 : (3 : Int32).toInt = 3 := by decide
  have k8 : (8 : Int32).toInt = 8 := by decide
  have k60 : (60 : Int32).toInt = 60 := by decide
  refine lv_iload_n hx hb dX12_asksMotions_0 rfl (lv_at hl 1 rfl) ?_
  have hPc := hP.sub (ws' := []) [] rfl
  have hDc := hD.sub (ws' := []) [] (by decide) rfl
  have hFc := va_free (wc := []) hD hS hA [] rfl
  refine va_calli (va_runS (As := [.int p0]) (rest := []) ⟨hx, hb, hml, hown, hwd⟩ (s_X12_isSlot l dC dI cI cZ cB cJ cM cG p0 s.heap.size) (cwS 1 hwd (gS kr55_12 kr55_13 kr1_5 kr55_14) rfl rfl rfl (by decide +kernel) ⟨Nat.le_of_ble_eq_true rfl, Nat.le_of_ble_eq_true rfl⟩) (kPreS hPc hK hDc) rfl rfl hl.1 rfl (lv_room (Nat.le_of_ble_eq_true rfl)) dX12_asksMotions_1 ⟨Nat.le_of_ble_eq_true rfl, Nat.le_of_ble_eq_true rfl⟩) hS (fun q _ h => hFc q h) hFc (fun r1 u2 t H1 locs ht9 hvm hw hB hz1 hk1 hS => ?_)
  obtain ⟨hw3, hw4, -⟩ := hw
  have hw3 : (0 : Int) ≤ r1.toInt ∧ r1.toInt ≤ 1 := hw3
  obtain ⟨hP1, hD1⟩ := hB
  rw [ht9] at hP1
  obtain ⟨hP, hD⟩ := va_join (wr := [(a0, .inr (12, [.int i0, .ref a1, .ref a2, .ref a3, .ref a4, .int i1, .ref a5, .int i2, .int i3, .int i4, .int i5, .int i6, .int i7, .int i8, .ref a6, .ref a7, .ref a8, .ref a9, .ref a10, .ref a11, .ref a12, .int i9, .ref a13, .int i10, .ref a14, .ref a15, .int i11, .ref a16, .ref a17, .ref a18, .ref a19, .int i12, .int i13, .int i14, .int i15, .int i16, .ref a20, .long j0, .ref a21, .ref a22, .ref a23, .ref a24])), (a1, .inl (cI, 544, .inl xF0)), (a21, .inl (cI, 4, .inl xF20)), (a23, .inl (cJ, 240, .inr (.inl xG22)))]) (w1 := []) hP hD [] [0, 1, 2, 3] rfl rfl (by decide) (by decide) hk1 hFc hP1 hD1
  generalize H1 = H at hP hS ⊢
  have hP : va_P (dC, dI) vwCl [(a0, .inr (12, [.int i0, .ref a1, .ref a2, .ref a3, .ref a4, .int i1, .ref a5, .int i2, .int i3, .int i4, .int i5, .int i6, .int i7, .int i8, .ref a6, .ref a7, .ref a8, .ref a9, .ref a10, .ref a11, .ref a12, .int i9, .ref a13, .int i10, .ref a14, .ref a15, .int i11, .ref a16, .ref a17, .ref a18, .ref a19, .int i12, .int i13, .int i14, .int i15, .int i16, .ref a20, .long j0, .ref a21, .ref a22, .ref a23, .ref a24])), (a1, .inl (cI, 544, .inl xF0)), (a21, .inl (cI, 4, .inl xF20)), (a23, .inl (cJ, 240, .inr (.inl xG22)))] H := hP
  have hD : va_D A [(a0, .inr (12, [.int i0, .ref a1, .ref a2, .ref a3, .ref a4, .int i1, .ref a5, .int i2, .int i3, .int i4, .int i5, .int i6, .int i7, .int i8, .ref a6, .ref a7, .ref a8, .ref a9, .ref a10, .ref a11, .ref a12, .int i9, .ref a13, .int i10, .ref a14, .ref a15, .int i11, .ref a16, .ref a17, .ref a18, .ref a19, .int i12, .int i13, .int i14, .int i15, .int i16, .ref a20, .long j0, .ref a21, .ref a22, .ref a23, .ref a24])), (a1, .inl (cI, 544, .inl xF0)), (a21, .inl (cI, 4, .inl xF20)), (a23, .inl (cJ, 240, .inr (.inl xG22)))] := hD
  refine lv_if_eq (tgt := 14) hx hb dX12_asksMotions_4 (by decide) (fun c5 => ?_) (fun c5 => ?_)
  · rw [ki_eq] at c5
    refine lv_bipush (v := (-2)) hx hb dX12_asksMotions_14 (by decide) ?_
    have hP9 := hP.sub (ws' := [(a0, .inr (12, [.int i0, .ref a1, .ref a2, .ref a3, .ref a4, .int i1, .ref a5, .int i2, .int i3, .int i4, .int i5, .int i6, .int i7, .int i8, .ref a6, .ref a7, .ref a8, .ref a9, .ref a10, .ref a11, .ref a12, .int i9, .ref a13, .int i10, .ref a14, .ref a15, .int i11, .ref a16, .ref a17, .ref a18, .ref a19, .int i12, .int i13, .int i14, .int i15, .int i16, .ref a20, .long j0, .ref a21, .ref a22, .ref a23, .ref a24])), (a1, .inl (cI, 544, .inl xF0)), (a21, .inl (cI, 4, .inl xF20)), (a23, .inl (cJ, 240, .inr (.inl xG22)))]) [0, 1, 2, 3] rfl
    have hD9 := hD.sub (ws' := [(a0, .inr (12, [.int i0, .ref a1, .ref a2, .ref a3, .ref a4, .int i1, .ref a5, .int i2, .int i3, .int i4, .int i5, .int i6, .int i7, .int i8, .ref a6, .ref a7, .ref a8, .ref a9, .ref a10, .ref a11, .ref a12, .int i9, .ref a13, .int i10, .ref a14, .ref a15, .int i11, .ref a16, .ref a17, .ref a18, .ref a19, .int i12, .int i13, .int i14, .int i15, .int i16, .ref a20, .long j0, .ref a21, .ref a22, .ref a23, .ref a24])), (a1, .inl (cI, 544, .inl xF0)), (a21, .inl (cI, 4, .inl xF20)), (a23, .inl (cJ, 240, .inr (.inl xG22)))]) [0, 1, 2, 3] (by decide) rfl
    rw [hQ]
    exact W.iret (v := (-2)) hx hb hr (fun t ht hW => ⟨⟨(-2), (), rfl, ⟨(show (-6 : Int) ≤ ((-2) : Int32).toInt ∧ ((-2) : Int32).toInt ≤ 0 from ⟨by omega, by omega⟩), (show (((-2) : Int32).toInt ≥ 0 → p0.toInt ≥ 0 ∧ p0.toInt ≤ 3 ∧ 1 ≤ wat xF0 1 ∧ 1 ≤ (xF20 p0.toInt.toNat).toInt ∧ (xF20 p0.toInt.toNat).toInt ≤ 8 ∧ NB (wat xF0 1) xG22 p0.toInt (xF20 p0.toInt.toNat).toInt) from fun h9 => by exfalso; omega), trivial⟩, (by rw [ht]; exact hP9), hD9⟩, hS.F ht⟩) hS.2.2 dX12_asksMotions_16
  · rw [ki_eq] at c5
    have hw4q := hw4 (by omega)
    clear hw4
    refine lv_aload_n hx hb dX12_asksMotions_7 rfl (lv_at hl 0 rfl) ?_
    have hPc := hP.sub (ws' := [(a0, .inr (12, [.int i0, .ref a1, .ref a2, .ref a3, .ref a4, .int i1, .ref a5, .int i2, .int i3, .int i4, .int i5, .int i6, .int i7, .int i8, .ref a6, .ref a7, .ref a8, .ref a9, .ref a10, .ref a11, .ref a12, .int i9, .ref a13, .int i10, .ref a14, .ref a15, .int i11, .ref a16, .ref a17, .ref a18, .ref a19, .int i12, .int i13, .int i14, .int i15, .int i16, .ref a20, .long j0, .ref a21, .ref a22, .ref a23, .ref a24])), (a1, .inl (cI, 544, .inl xF0))]) [0, 1] rfl
    have hDc := hD.sub (ws' := [(a0, .inr (12, [.int i0, .ref a1, .ref a2, .ref a3, .ref a4, .int i1, .ref a5, .int i2, .int i3, .int i4, .int i5, .int i6, .int i7, .int i8, .ref a6, .ref a7, .ref a8, .ref a9, .ref a10, .ref a11, .ref a12, .int i9, .ref a13, .int i10, .ref a14, .ref a15, .int i11, .ref a16, .ref a17, .ref a18, .ref a19, .int i12, .int i13, .int i14, .int i15, .int i16, .ref a20, .long j0, .ref a21, .ref a22, .ref a23, .ref a24])), (a1, .inl (cI, 544, .inl xF0))]) [0, 1] (by decide) rfl
    have hFc := va_free (wc := [(a0, .inr (12, [.int i0, .ref a1, .ref a2, .ref a3, .ref a4, .int i1, .ref a5, .int i2, .int i3, .int i4, .int i5, .int i6, .int i7, .int i8, .ref a6, .ref a7, .ref a8, .ref a9, .ref a10, .ref a11, .ref a12, .int i9, .ref a13, .int i10, .ref a14, .ref a15, .int i11, .ref a16, .ref a17, .ref a18, .ref a19, .int i12, .int i13, .int i14, .int i15, .int i16, .ref a20, .long j0, .ref a21, .ref a22, .ref a23, .ref a24])), (a1, .inl (cI, 544, .inl xF0))]) hD hS hA [0, 1] rfl
    refine va_calli (va_runV (As := []) (rest := []) ⟨hx, hb, hml, hown, hwd⟩ (s_X12_isDrum l dC dI cI cZ cB cJ cM cG a0 a1 a2 a3 a4 a5 a6 a7 a8 a9 a10 a11 a12 a13 a14 a15 a16 a17 a18 a19 a20 a21 a22 a23 a24 i0 i1 i2 i3 i4 i5 i6 i7 i8 i9 i10 i11 i12 i13 i14 i15 i16 j0 xF0 cp H.size (show (0 : Int) ≤ i1.toInt ∧ i1.toInt ≤ 1600 from ⟨by omega, by omega⟩) (show (0 : Int) ≤ i2.toInt ∧ i2.toInt ≤ 1600 from ⟨by omega, by omega⟩) (show (0 : Int) ≤ i3.toInt ∧ i3.toInt ≤ 1600 from ⟨by omega, by omega⟩) (show (0 : Int) ≤ i4.toInt ∧ i4.toInt ≤ 1600 from ⟨by omega, by omega⟩) (show (0 : Int) ≤ i5.toInt ∧ i5.toInt ≤ 6 from ⟨by omega, by omega⟩) (show (0 : Int) ≤ i7.toInt ∧ i7.toInt ≤ 3 from ⟨by omega, by omega⟩) (show (0 : Int) ≤ i11.toInt ∧ i11.toInt ≤ 59 from ⟨by omega, by omega⟩) (show WI cp xF0 from p_7) p_10) (cwV 0 hwd (gV kr26_9 kr26_10 kr26_11 kr1_5 kr26_12) rfl rfl rfl (by decide +kernel) ⟨Nat.le_of_ble_eq_true rfl, Nat.le_of_ble_eq_true rfl⟩) (kPreV hPc hK hDc (ci := 12) (q0 := 0) rfl rfl) rfl rfl hl.1 rfl (lv_room (Nat.le_of_ble_eq_true rfl)) dX12_asksMotions_8 ⟨Nat.le_of_ble_eq_true rfl, Nat.le_of_ble_eq_true rfl⟩) hS (fun q _ h => hFc q h) hFc (fun r6 u7 t H1 locs ht9 hvm hw hB hz1 hk1 hS => ?_)
    obtain ⟨hw8, hw9, -⟩ := hw
    have hw8 : (0 : Int) ≤ r6.toInt ∧ r6.toInt ≤ 1 := hw8
    obtain ⟨hP1, hD1⟩ := hB
    rw [ht9] at hP1
    obtain ⟨hP, hD⟩ := va_join (wr := [(a21, .inl (cI, 4, .inl xF20)), (a23, .inl (cJ, 240, .inr (.inl xG22)))]) (w1 := [(a0, .inr (12, [.int i0, .ref a1, .ref a2, .ref a3, .ref a4, .int i1, .ref a5, .int i2, .int i3, .int i4, .int i5, .int i6, .int i7, .int i8, .ref a6, .ref a7, .ref a8, .ref a9, .ref a10, .ref a11, .ref a12, .int i9, .ref a13, .int i10, .ref a14, .ref a15, .int i11, .ref a16, .ref a17, .ref a18, .ref a19, .int i12, .int i13, .int i14, .int i15, .int i16, .ref a20, .long j0, .ref a21, .ref a22, .ref a23, .ref a24])), (a1, .inl (cI, 544, .inl xF0))]) hP hD [0, 1] [2, 3] rfl rfl (by decide) (by decide) hk1 hFc hP1 hD1
    generalize H1 = H at hP hS ⊢
    have hP : va_P (dC, dI) vwCl [(a21, .inl (cI, 4, .inl xF20)), (a23, .inl (cJ, 240, .inr (.inl xG22))), (a0, .inr (12, [.int i0, .ref a1, .ref a2, .ref a3, .ref a4, .int i1, .ref a5, .int i2, .int i3, .int i4, .int i5, .int i6, .int i7, .int i8, .ref a6, .ref a7, .ref a8, .ref a9, .ref a10, .ref a11, .ref a12, .int i9, .ref a13, .int i10, .ref a14, .ref a15, .int i11, .ref a16, .ref a17, .ref a18, .ref a19, .int i12, .int i13, .int i14, .int i15, .int i16, .ref a20, .long j0, .ref a21, .ref a22, .ref a23, .ref a24])), (a1, .inl (cI, 544, .inl xF0))] H := hP
    have hD : va_D A [(a21, .inl (cI, 4, .inl xF20)), (a23, .inl (cJ, 240, .inr (.inl xG22))), (a0, .inr (12, [.int i0, .ref a1, .ref a2, .ref a3, .ref a4, .int i1, .ref a5, .int i2, .int i3, .int i4, .int i5, .int i6, .int i7, .int i8, .ref a6, .ref a7, .ref a8, .ref a9, .ref a10, .ref a11, .ref a12, .int i9, .ref a13, .int i10, .ref a14, .ref a15, .int i11, .ref a16, .ref a17, .ref a18, .ref a19, .int i12, .int i13, .int i14, .int i15, .int i16, .ref a20, .long j0, .ref a21, .ref a22, .ref a23, .ref a24])), (a1, .inl (cI, 544, .inl xF0))] := hD
    refine lv_if_ne (tgt := 17) hx hb dX12_asksMotions_11 (by decide) (fun c10 => ?_) (fun c10 => ?_)
    · rw [ki_eq] at c10
      have hw9q := hw9 (by omega)
      clear hw9
      refine lv_aload_n hx hb dX12_asksMotions_17 rfl (lv_at hl 0 rfl) ?_
      refine va_get (D := (dC, dI)) (ci := 12) (v := .ref a21) (C := RX12) (T := TX12) (N := 42) hx hb hwd inlX12 hown hK hP 2 rfl rfl 38 (by decide) (hwd _ kr8_0) (fun _ h9 => h9) rfl dX12_asksMotions_18 ?_
      refine lv_iload_n hx hb dX12_asksMotions_21 rfl (lv_at hl 1 rfl) ?_
      have h11 : vp_in p0 4 := (vp_of (by omega) (by omega))
      refine va_iald hx hb hK hP 0 0 rfl rfl h11 dX12_asksMotions_22 ?_
      refine lv_topi (fun x12 ex12 => ?_)
      have ix12 : x12.toInt = (xF20 p0.toInt.toNat).toInt := by rw [ex12]; rfl
      have tx12 : (-1 : Int) ≤ x12.toInt ∧ x12.toInt ≤ 60 := by rw [ex12]; exact p_8 _ (vp_nat h11)
      refine lv_iconst (v := 1) hx hb dX12_asksMotions_23 (by decide) ?_
      refine lv_icmp_ge (tgt := 30) hx hb dX12_asksMotions_24 (by decide) (fun c13 => ?_) (fun c13 => ?_)
      · rw [ki_le] at c13
        refine lv_aload_n hx hb dX12_asksMotions_30 rfl (lv_at hl 0 rfl) ?_
        refine va_get (D := (dC, dI)) (ci := 12) (v := .ref a21) (C := RX12) (T := TX12) (N := 42) hx hb hwd inlX12 hown hK hP 2 rfl rfl 38 (by decide) (hwd _ kr8_0) (fun _ h9 => h9) rfl dX12_asksMotions_31 ?_
        refine lv_iload_n hx hb dX12_asksMotions_34 rfl (lv_at hl 1 rfl) ?_
        have h14 : vp_in p0 4 := (vp_of (by omega) (by omega))
        refine va_iald hx hb hK hP 0 0 rfl rfl h14 dX12_asksMotions_35 ?_
        refine lv_topi (nm_r (e' := x12) ex12.symm ?_)
        refine lv_bipush (v := 8) hx hb dX12_asksMotions_36 (by decide) ?_
        refine lv_icmp_le (tgt := 44) hx hb dX12_asksMotions_38 (by decide) (fun c15 => ?_) (fun c15 => ?_)
        · rw [ki_le] at c15
          refine lv_iconst (v := 0) hx hb dX12_asksMotions_44 (by decide) ?_
          refine lv_istore_n (lv' := [(2, .int 0), (0, .ref a0), (1, .int p0)]) hx hb dX12_asksMotions_45 rfl hl (by decide) rfl (fun ls hl => ?_)
          have lp1 : ∀ (d : Nat), ∀ (H : Heap) (locs : List Loc) (ls : Array Slot) (w2_1 : Int32), ((0 : Int) ≤ w2_1.toInt ∧ w2_1.toInt ≤ 8) → (NB (wat xF0 1) xG22 p0.toInt w2_1.toInt) → (8 - w2_1.toInt).toNat < d → va_P (dC, dI) vwCl [(a21, .inl (cI, 4, .inl xF20)), (a23, .inl (cJ, 240, .inr (.inl xG22))), (a0, .inr (12, [.int i0, .ref a1, .ref a2, .ref a3, .ref a4, .int i1, .ref a5, .int i2, .int i3, .int i4, .int i5, .int i6, .int i7, .int i8, .ref a6, .ref a7, .ref a8, .ref a9, .ref a10, .ref a11, .ref a12, .int i9, .ref a13, .int i10, .ref a14, .ref a15, .int i11, .ref a16, .ref a17, .ref a18, .ref a19, .int i12, .int i13, .int i14, .int i15, .int i16, .ref a20, .long j0, .ref a21, .ref a22, .ref a23, .ref a24])), (a1, .inl (cI, 544, .inl xF0))] H → va_D A [(a21, .inl (cI, 4, .inl xF20)), (a23, .inl (cJ, 240, .inr (.inl xG22))), (a0, .inr (12, [.int i0, .ref a1, .ref a2, .ref a3, .ref a4, .int i1, .ref a5, .int i2, .int i3, .int i4, .int i5, .int i6, .int i7, .int i8, .ref a6, .ref a7, .ref a8, .ref a9, .ref a10, .ref a11, .ref a12, .int i9, .ref a13, .int i10, .ref a14, .ref a15, .int i11, .ref a16, .ref a17, .ref a18, .ref a19, .int i12, .int i13, .int i14, .int i15, .int i16, .ref a20, .long j0, .ref a21, .ref a22, .ref a23, .ref a24])), (a1, .inl (cI, 544, .inl xF0))] → va_S A s.heap H locs → lv_has ls 3 [(0, .ref a0), (1, .int p0), (2, .int w2_1)] → W p l e ({ frames := 2, cells := 0, slots := 0, locals := 45 } : Room) s m ([.ref a0, .int p0] : List Value).toArray below meth c H locs 0 0 Q (F0 m 46 ls []) := by
            intro d
            induction d with
            | zero =>
              intro H locs ls w2_1 hr_w2_1 hrl0_1 hm hP hD hS hl
              omega
            | succ d ih1 =>
              intro H locs ls w2_1 hr_w2_1 hrl0_1 hm hP hD hS hl
              refine lv_iload_n hx hb dX12_asksMotions_46 rfl (lv_at hl 2 rfl) ?_
              refine lv_aload_n hx hb dX12_asksMotions_47 rfl (lv_at hl 0 rfl) ?_
              refine va_get (D := (dC, dI)) (ci := 12) (v := .ref a21) (C := RX12) (T := TX12) (N := 42) hx hb hwd inlX12 hown hK hP 2 rfl rfl 38 (by decide) (hwd _ kr8_0) (fun _ h9 => h9) rfl dX12_asksMotions_48 ?_
              refine lv_iload_n hx hb dX12_asksMotions_51 rfl (lv_at hl 1 rfl) ?_
              have h95 : vp_in p0 4 := (vp_of (by omega) (by omega))
              refine va_iald hx hb hK hP 0 0 rfl rfl h95 dX12_asksMotions_52 ?_
              refine lv_topi (nm_r (e' := x12) ex12.symm ?_)
              refine lv_icmp_ge (tgt := 90) hx hb dX12_asksMotions_53 (by decide) (fun c96 => ?_) (fun c96 => ?_)
              · rw [ki_le] at c96
                refine lv_iconst (v := 0) hx hb dX12_asksMotions_90 (by decide) ?_
                have hP9 := hP.sub (ws' := [(a0, .inr (12, [.int i0, .ref a1, .ref a2, .ref a3, .ref a4, .int i1, .ref a5, .int i2, .int i3, .int i4, .int i5, .int i6, .int i7, .int i8, .ref a6, .ref a7, .ref a8, .ref a9, .ref a10, .ref a11, .ref a12, .int i9, .ref a13, .int i10, .ref a14, .ref a15, .int i11, .ref a16, .ref a17, .ref a18, .ref a19, .int i12, .int i13, .int i14, .int i15, .int i16, .ref a20, .long j0, .ref a21, .ref a22, .ref a23, .ref a24])), (a1, .inl (cI, 544, .inl xF0)), (a21, .inl (cI, 4, .inl xF20)), (a23, .inl (cJ, 240, .inr (.inl xG22)))]) [2, 3, 0, 1] rfl
                have hD9 := hD.sub (ws' := [(a0, .inr (12, [.int i0, .ref a1, .ref a2, .ref a3, .ref a4, .int i1, .ref a5, .int i2, .int i3, .int i4, .int i5, .int i6, .int i7, .int i8, .ref a6, .ref a7, .ref a8, .ref a9, .ref a10, .ref a11, .ref a12, .int i9, .ref a13, .int i10, .ref a14, .ref a15, .int i11, .ref a16, .ref a17, .ref a18, .ref a19, .int i12, .int i13, .int i14, .int i15, .int i16, .ref a20, .long j0, .ref a21, .ref a22, .ref a23, .ref a24])), (a1, .inl (cI, 544, .inl xF0)), (a21, .inl (cI, 4, .inl xF20)), (a23, .inl (cJ, 240, .inr (.inl xG22)))]) [2, 3, 0, 1] (by decide) rfl
                rw [hQ]
                exact W.iret (v := 0) hx hb hr (fun t ht hW => ⟨⟨0, (), rfl, ⟨(show (-6 : Int) ≤ (0 : Int32).toInt ∧ (0 : Int32).toInt ≤ 0 from ⟨by omega, by omega⟩), (show ((0 : Int32).toInt ≥ 0 → p0.toInt ≥ 0 ∧ p0.toInt ≤ 3 ∧ 1 ≤ wat xF0 1 ∧ 1 ≤ (xF20 p0.toInt.toNat).toInt ∧ (xF20 p0.toInt.toNat).toInt ≤ 8 ∧ NB (wat xF0 1) xG22 p0.toInt (xF20 p0.toInt.toNat).toInt) from fun h9 => ⟨by omega, by omega, by omega, by omega, by omega, NB_mono hrl0_1 (by omega)⟩), trivial⟩, (by rw [ht]; exact hP9), hD9⟩, hS.F ht⟩) hS.2.2 dX12_asksMotions_91
              · rw [ki_le] at c96
                refine lv_aload_n hx hb dX12_asksMotions_56 rfl (lv_at hl 0 rfl) ?_
                refine va_get (D := (dC, dI)) (ci := 12) (v := .ref a23) (C := RX12) (T := TX12) (N := 42) hx hb hwd inlX12 hown hK hP 2 rfl rfl 40 (by decide) (hwd _ kr8_2) (fun _ h9 => h9) rfl dX12_asksMotions_57 ?_
                refine lv_bipush (v := 60) hx hb dX12_asksMotions_60 (by decide) ?_
                refine lv_iload_n hx hb dX12_asksMotions_62 rfl (lv_at hl 1 rfl) ?_
                refine lv_imul hx hb dX12_asksMotions_63 ?_
                refine lv_topi (fun x97 ex97 => ?_)
                have tx97 := ia_mull (a := (60 : Int32)) (b := p0) 60 (by decide) (by omega) (by omega)
                rw [← ex97] at tx97
                refine lv_iload_n hx hb dX12_asksMotions_64 rfl (lv_at hl 2 rfl) ?_
                refine lv_iadd hx hb dX12_asksMotions_65 ?_
                refine lv_topi (fun x98 ex98 => ?_)
                have tx98 := ia_add (a := x97) (b := w2_1) (by omega) (by omega)
                rw [← ex98] at tx98
                have h99 : vp_in x98 240 := (vp_of (by omega) (by omega))
                refine va_lald hx hb hK hP 1 3 rfl rfl h99 dX12_asksMotions_66 ?_
                refine lv_topl (fun x100 ex100 => ?_)
                refine lv_lconst (v := 1) hx hb dX12_asksMotions_67 (by decide) ?_
                refine lv_aload_n hx hb dX12_asksMotions_68 rfl (lv_at hl 0 rfl) ?_
                refine va_get (D := (dC, dI)) (ci := 12) (v := .ref a1) (C := RX12) (T := TX12) (N := 42) hx hb hwd inlX12 hown hK hP 2 rfl rfl 1 (by decide) (hwd _ kr7_3) (fun _ h9 => h9) rfl dX12_asksMotions_69 ?_
                refine lv_iconst (v := 1) hx hb dX12_asksMotions_72 (by decide) ?_
                have h101 : vp_in (1 : Int32) 544 := (vin (by decide))
                refine va_iald hx hb hK hP 3 0 rfl rfl h101 dX12_asksMotions_73 ?_
                refine lv_topi (fun x102 ex102 => ?_)
                have ix102 := wat_lit (k := 1) ex102 (by decide)
                have wh103 : whd cp xF0 := p_7.1
                unfold whd at wh103
                refine lv_i2l hx hb dX12_asksMotions_74 rfl ?_
                have hPc := hP.sub (ws' := []) [] rfl
                have hDc := hD.sub (ws' := []) [] (by decide) rfl
                have hFc := va_free (wc := []) hD hS hA [] rfl
                refine va_calli (va_runS (As := [.long x100, .long 1, .long x102.toInt64]) (rest := []) ⟨hx, hb, hml, hown, hwd⟩ (s_X12_in l dC dI cI cZ cB cJ cM cG x100 1 x102.toInt64 H.size) (cwS 3 hwd (gS kr9_10 kr9_11 kr1_5 kr9_12) rfl rfl rfl (by decide +kernel) ⟨Nat.le_of_ble_eq_true rfl, Nat.le_of_ble_eq_true rfl⟩) (kPreS hPc hK hDc) rfl rfl hl.1 rfl (lv_room (Nat.le_of_ble_eq_true rfl)) dX12_asksMotions_75 ⟨Nat.le_of_ble_eq_true rfl, Nat.le_of_ble_eq_true rfl⟩) hS (fun q _ h => hFc q h) hFc (fun r104 u105 t H1 locs ht9 hvm hw hB hz1 hk1 hS => ?_)
                obtain ⟨hw106, hw107, hw108, -⟩ := hw
                have hw106 : (0 : Int) ≤ r104.toInt ∧ r104.toInt ≤ 1 := hw106
                have hw107 : r104.toInt ≠ 0 → (1 : Int) ≤ x100.toInt ∧ x100.toInt ≤ x102.toInt := in_int rfl (by decide) (Int32.toInt_toInt64 _) hw107
                have hw108 : r104.toInt ≠ 1 → x100.toInt < (1 : Int) ∨ x102.toInt < x100.toInt := in_int2 rfl (by decide) (Int32.toInt_toInt64 _) hw108
                obtain ⟨hP1, hD1⟩ := hB
                rw [ht9] at hP1
                obtain ⟨hP, hD⟩ := va_join (wr := [(a21, .inl (cI, 4, .inl xF20)), (a23, .inl (cJ, 240, .inr (.inl xG22))), (a0, .inr (12, [.int i0, .ref a1, .ref a2, .ref a3, .ref a4, .int i1, .ref a5, .int i2, .int i3, .int i4, .int i5, .int i6, .int i7, .int i8, .ref a6, .ref a7, .ref a8, .ref a9, .ref a10, .ref a11, .ref a12, .int i9, .ref a13, .int i10, .ref a14, .ref a15, .int i11, .ref a16, .ref a17, .ref a18, .ref a19, .int i12, .int i13, .int i14, .int i15, .int i16, .ref a20, .long j0, .ref a21, .ref a22, .ref a23, .ref a24])), (a1, .inl (cI, 544, .inl xF0))]) (w1 := []) hP hD [] [0, 1, 2, 3] rfl rfl (by decide) (by decide) hk1 hFc hP1 hD1
                generalize H1 = H at hP hS ⊢
                have hP : va_P (dC, dI) vwCl [(a21, .inl (cI, 4, .inl xF20)), (a23, .inl (cJ, 240, .inr (.inl xG22))), (a0, .inr (12, [.int i0, .ref a1, .ref a2, .ref a3, .ref a4, .int i1, .ref a5, .int i2, .int i3, .int i4, .int i5, .int i6, .int i7, .int i8, .ref a6, .ref a7, .ref a8, .ref a9, .ref a10, .ref a11, .ref a12, .int i9, .ref a13, .int i10, .ref a14, .ref a15, .int i11, .ref a16, .ref a17, .ref a18, .ref a19, .int i12, .int i13, .int i14, .int i15, .int i16, .ref a20, .long j0, .ref a21, .ref a22, .ref a23, .ref a24])), (a1, .inl (cI, 544, .inl xF0))] H := hP
                have hD : va_D A [(a21, .inl (cI, 4, .inl xF20)), (a23, .inl (cJ, 240, .inr (.inl xG22))), (a0, .inr (12, [.int i0, .ref a1, .ref a2, .ref a3, .ref a4, .int i1, .ref a5, .int i2, .int i3, .int i4, .int i5, .int i6, .int i7, .int i8, .ref a6, .ref a7, .ref a8, .ref a9, .ref a10, .ref a11, .ref a12, .int i9, .ref a13, .int i10, .ref a14, .ref a15, .int i11, .ref a16, .ref a17, .ref a18, .ref a19, .int i12, .int i13, .int i14, .int i15, .int i16, .ref a20, .long j0, .ref a21, .ref a22, .ref a23, .ref a24])), (a1, .inl (cI, 544, .inl xF0))] := hD
                refine lv_if_ne (tgt := 84) hx hb dX12_asksMotions_78 (by decide) (fun c109 => ?_) (fun c109 => ?_)
                · rw [ki_eq] at c109
                  have hw107q := hw107 (by omega)
                  clear hw107
                  obtain ⟨x110, ex110⟩ : ∃ y : Int32, y = w2_1 + 1 := ⟨_, rfl⟩
                  refine lv_iinc (v := x110) (lv' := [(2, .int x110), (0, .ref a0), (1, .int p0)]) hx hb dX12_asksMotions_84 hl (k := 2) rfl (by rw [ex110]; rfl) (by decide) rfl (fun ls hl => ?_)
                  have tx110 := ia_add (a := w2_1) (b := (1 : Int32)) (by omega) (by omega)
                  rw [← ex110] at tx110
                  refine lv_goto (tgt := 46) hx hb dX12_asksMotions_87 (by decide) ?_
                  exact ih1 _ _ ls x110 (show (0 : Int) ≤ x110.toInt ∧ x110.toInt ≤ 8 from ⟨by omega, by omega⟩) (show NB (wat xF0 1) xG22 p0.toInt x110.toInt from NB_step hrl0_1 ex100 (by omega) (by omega) (by omega) ⟨by omega, by omega⟩ (by omega)) (by omega) (hP.sub (ws' := [(a21, .inl (cI, 4, .inl xF20)), (a23, .inl (cJ, 240, .inr (.inl xG22))), (a0, .inr (12, [.int i0, .ref a1, .ref a2, .ref a3, .ref a4, .int i1, .ref a5, .int i2, .int i3, .int i4, .int i5, .int i6, .int i7, .int i8, .ref a6, .ref a7, .ref a8, .ref a9, .ref a10, .ref a11, .ref a12, .int i9, .ref a13, .int i10, .ref a14, .ref a15, .int i11, .ref a16, .ref a17, .ref a18, .ref a19, .int i12, .int i13, .int i14, .int i15, .int i16, .ref a20, .long j0, .ref a21, .ref a22, .ref a23, .ref a24])), (a1, .inl (cI, 544, .inl xF0))]) [0, 1, 2, 3] rfl) (hD.sub (ws' := [(a21, .inl (cI, 4, .inl xF20)), (a23, .inl (cJ, 240, .inr (.inl xG22))), (a0, .inr (12, [.int i0, .ref a1, .ref a2, .ref a3, .ref a4, .int i1, .ref a5, .int i2, .int i3, .int i4, .int i5, .int i6, .int i7, .int i8, .ref a6, .ref a7, .ref a8, .ref a9, .ref a10, .ref a11, .ref a12, .int i9, .ref a13, .int i10, .ref a14, .ref a15, .int i11, .ref a16, .ref a17, .ref a18, .ref a19, .int i12, .int i13, .int i14, .int i15, .int i16, .ref a20, .long j0, .ref a21, .ref a22, .ref a23, .ref a24])), (a1, .inl (cI, 544, .inl xF0))]) [0, 1, 2, 3] (by decide) rfl) hS (lv_sub hl [1, 2, 0] rfl)
                · rw [ki_eq] at c109
                  have hw108q := hw108 (by omega)
                  clear hw108
                  refine lv_bipush (v := (-2)) hx hb dX12_asksMotions_81 (by decide) ?_
                  have hP9 := hP.sub (ws' := [(a0, .inr (12, [.int i0, .ref a1, .ref a2, .ref a3, .ref a4, .int i1, .ref a5, .int i2, .int i3, .int i4, .int i5, .int i6, .int i7, .int i8, .ref a6, .ref a7, .ref a8, .ref a9, .ref a10, .ref a11, .ref a12, .int i9, .ref a13, .int i10, .ref a14, .ref a15, .int i11, .ref a16, .ref a17, .ref a18, .ref a19, .int i12, .int i13, .int i14, .int i15, .int i16, .ref a20, .long j0, .ref a21, .ref a22, .ref a23, .ref a24])), (a1, .inl (cI, 544, .inl xF0)), (a21, .inl (cI, 4, .inl xF20)), (a23, .inl (cJ, 240, .inr (.inl xG22)))]) [2, 3, 0, 1] rfl
                  have hD9 := hD.sub (ws' := [(a0, .inr (12, [.int i0, .ref a1, .ref a2, .ref a3, .ref a4, .int i1, .ref a5, .int i2, .int i3, .int i4, .int i5, .int i6, .int i7, .int i8, .ref a6, .ref a7, .ref a8, .ref a9, .ref a10, .ref a11, .ref a12, .int i9, .ref a13, .int i10, .ref a14, .ref a15, .int i11, .ref a16, .ref a17, .ref a18, .ref a19, .int i12, .int i13, .int i14, .int i15, .int i16, .ref a20, .long j0, .ref a21, .ref a22, .ref a23, .ref a24])), (a1, .inl (cI, 544, .inl xF0)), (a21, .inl (cI, 4, .inl xF20)), (a23, .inl (cJ, 240, .inr (.inl xG22)))]) [2, 3, 0, 1] (by decide) rfl
                  rw [hQ]
                  exact W.iret (v := (-2)) hx hb hr (fun t ht hW => ⟨⟨(-2), (), rfl, ⟨(show (-6 : Int) ≤ ((-2) : Int32).toInt ∧ ((-2) : Int32).toInt ≤ 0 from ⟨by omega, by omega⟩), (show (((-2) : Int32).toInt ≥ 0 → p0.toInt ≥ 0 ∧ p0.toInt ≤ 3 ∧ 1 ≤ wat xF0 1 ∧ 1 ≤ (xF20 p0.toInt.toNat).toInt ∧ (xF20 p0.toInt.toNat).toInt ≤ 8 ∧ NB (wat xF0 1) xG22 p0.toInt (xF20 p0.toInt.toNat).toInt) from fun h9 => by exfalso; omega), trivial⟩, (by rw [ht]; exact hP9), hD9⟩, hS.F ht⟩) hS.2.2 dX12_asksMotions_83
          exact lp1 _ _ _ ls (0) (show (0 : Int) ≤ (0 : Int32).toInt ∧ (0 : Int32).toInt ≤ 8 from ⟨by omega, by omega⟩) (show NB (wat xF0 1) xG22 p0.toInt (0 : Int32).toInt from NB_0 (by decide)) (Nat.lt_succ_self _) (hP.sub (ws' := [(a21, .inl (cI, 4, .inl xF20)), (a23, .inl (cJ, 240, .inr (.inl xG22))), (a0, .inr (12, [.int i0, .ref a1, .ref a2, .ref a3, .ref a4, .int i1, .ref a5, .int i2, .int i3, .int i4, .int i5, .int i6, .int i7, .int i8, .ref a6, .ref a7, .ref a8, .ref a9, .ref a10, .ref a11, .ref a12, .int i9, .ref a13, .int i10, .ref a14, .ref a15, .int i11, .ref a16, .ref a17, .ref a18, .ref a19, .int i12, .int i13, .int i14, .int i15, .int i16, .ref a20, .long j0, .ref a21, .ref a22, .ref a23, .ref a24])), (a1, .inl (cI, 544, .inl xF0))]) [0, 1, 2, 3] rfl) (hD.sub (ws' := [(a21, .inl (cI, 4, .inl xF20)), (a23, .inl (cJ, 240, .inr (.inl xG22))), (a0, .inr (12, [.int i0, .ref a1, .ref a2, .ref a3, .ref a4, .int i1, .ref a5, .int i2, .int i3, .int i4, .int i5, .int i6, .int i7, .int i8, .ref a6, .ref a7, .ref a8, .ref a9, .ref a10, .ref a11, .ref a12, .int i9, .ref a13, .int i10, .ref a14, .ref a15, .int i11, .ref a16, .ref a17, .ref a18, .ref a19, .int i12, .int i13, .int i14, .int i15, .int i16, .ref a20, .long j0, .ref a21, .ref a22, .ref a23, .ref a24])), (a1, .inl (cI, 544, .inl xF0))]) [0, 1, 2, 3] (by decide) rfl) hS (lv_sub hl [1, 2, 0] rfl)
        · rw [ki_le] at c15
          refine lv_bipush (v := (-2)) hx hb dX12_asksMotions_41 (by decide) ?_
          have hP9 := hP.sub (ws' := [(a0, .inr (12, [.int i0, .ref a1, .ref a2, .ref a3, .ref a4, .int i1, .ref a5, .int i2, .int i3, .int i4, .int i5, .int i6, .int i7, .int i8, .ref a6, .ref a7, .ref a8, .ref a9, .ref a10, .ref a11, .ref a12, .int i9, .ref a13, .int i10, .ref a14, .ref a15, .int i11, .ref a16, .ref a17, .ref a18, .ref a19, .int i12, .int i13, .int i14, .int i15, .int i16, .ref a20, .long j0, .ref a21, .ref a22, .ref a23, .ref a24])), (a1, .inl (cI, 544, .inl xF0)), (a21, .inl (cI, 4, .inl xF20)), (a23, .inl (cJ, 240, .inr (.inl xG22)))]) [2, 3, 0, 1] rfl
          have hD9 := hD.sub (ws' := [(a0, .inr (12, [.int i0, .ref a1, .ref a2, .ref a3, .ref a4, .int i1, .ref a5, .int i2, .int i3, .int i4, .int i5, .int i6, .int i7, .int i8, .ref a6, .ref a7, .ref a8, .ref a9, .ref a10, .ref a11, .ref a12, .int i9, .ref a13, .int i10, .ref a14, .ref a15, .int i11, .ref a16, .ref a17, .ref a18, .ref a19, .int i12, .int i13, .int i14, .int i15, .int i16, .ref a20, .long j0, .ref a21, .ref a22, .ref a23, .ref a24])), (a1, .inl (cI, 544, .inl xF0)), (a21, .inl (cI, 4, .inl xF20)), (a23, .inl (cJ, 240, .inr (.inl xG22)))]) [2, 3, 0, 1] (by decide) rfl
          rw [hQ]
          exact W.iret (v := (-2)) hx hb hr (fun t ht hW => ⟨⟨(-2), (), rfl, ⟨(show (-6 : Int) ≤ ((-2) : Int32).toInt ∧ ((-2) : Int32).toInt ≤ 0 from ⟨by omega, by omega⟩), (show (((-2) : Int32).toInt ≥ 0 → p0.toInt ≥ 0 ∧ p0.toInt ≤ 3 ∧ 1 ≤ wat xF0 1 ∧ 1 ≤ (xF20 p0.toInt.toNat).toInt ∧ (xF20 p0.toInt.toNat).toInt ≤ 8 ∧ NB (wat xF0 1) xG22 p0.toInt (xF20 p0.toInt.toNat).toInt) from fun h9 => by exfalso; omega), trivial⟩, (by rw [ht]; exact hP9), hD9⟩, hS.F ht⟩) hS.2.2 dX12_asksMotions_43
      · rw [ki_le] at c13
        refine lv_bipush (v := (-6)) hx hb dX12_asksMotions_27 (by decide) ?_
        have hP9 := hP.sub (ws' := [(a0, .inr (12, [.int i0, .ref a1, .ref a2, .ref a3, .ref a4, .int i1, .ref a5, .int i2, .int i3, .int i4, .int i5, .int i6, .int i7, .int i8, .ref a6, .ref a7, .ref a8, .ref a9, .ref a10, .ref a11, .ref a12, .int i9, .ref a13, .int i10, .ref a14, .ref a15, .int i11, .ref a16, .ref a17, .ref a18, .ref a19, .int i12, .int i13, .int i14, .int i15, .int i16, .ref a20, .long j0, .ref a21, .ref a22, .ref a23, .ref a24])), (a1, .inl (cI, 544, .inl xF0)), (a21, .inl (cI, 4, .inl xF20)), (a23, .inl (cJ, 240, .inr (.inl xG22)))]) [2, 3, 0, 1] rfl
        have hD9 := hD.sub (ws' := [(a0, .inr (12, [.int i0, .ref a1, .ref a2, .ref a3, .ref a4, .int i1, .ref a5, .int i2, .int i3, .int i4, .int i5, .int i6, .int i7, .int i8, .ref a6, .ref a7, .ref a8, .ref a9, .ref a10, .ref a11, .ref a12, .int i9, .ref a13, .int i10, .ref a14, .ref a15, .int i11, .ref a16, .ref a17, .ref a18, .ref a19, .int i12, .int i13, .int i14, .int i15, .int i16, .ref a20, .long j0, .ref a21, .ref a22, .ref a23, .ref a24])), (a1, .inl (cI, 544, .inl xF0)), (a21, .inl (cI, 4, .inl xF20)), (a23, .inl (cJ, 240, .inr (.inl xG22)))]) [2, 3, 0, 1] (by decide) rfl
        rw [hQ]
        exact W.iret (v := (-6)) hx hb hr (fun t ht hW => ⟨⟨(-6), (), rfl, ⟨(show (-6 : Int) ≤ ((-6) : Int32).toInt ∧ ((-6) : Int32).toInt ≤ 0 from ⟨by omega, by omega⟩), (show (((-6) : Int32).toInt ≥ 0 → p0.toInt ≥ 0 ∧ p0.toInt ≤ 3 ∧ 1 ≤ wat xF0 1 ∧ 1 ≤ (xF20 p0.toInt.toNat).toInt ∧ (xF20 p0.toInt.toNat).toInt ≤ 8 ∧ NB (wat xF0 1) xG22 p0.toInt (xF20 p0.toInt.toNat).toInt) from fun h9 => by exfalso; omega), trivial⟩, (by rw [ht]; exact hP9), hD9⟩, hS.F ht⟩) hS.2.2 dX12_asksMotions_29
    · rw [ki_eq] at c10
      refine lv_bipush (v := (-2)) hx hb dX12_asksMotions_14 (by decide) ?_
      have hP9 := hP.sub (ws' := [(a0, .inr (12, [.int i0, .ref a1, .ref a2, .ref a3, .ref a4, .int i1, .ref a5, .int i2, .int i3, .int i4, .int i5, .int i6, .int i7, .int i8, .ref a6, .ref a7, .ref a8, .ref a9, .ref a10, .ref a11, .ref a12, .int i9, .ref a13, .int i10, .ref a14, .ref a15, .int i11, .ref a16, .ref a17, .ref a18, .ref a19, .int i12, .int i13, .int i14, .int i15, .int i16, .ref a20, .long j0, .ref a21, .ref a22, .ref a23, .ref a24])), (a1, .inl (cI, 544, .inl xF0)), (a21, .inl (cI, 4, .inl xF20)), (a23, .inl (cJ, 240, .inr (.inl xG22)))]) [2, 3, 0, 1] rfl
      have hD9 := hD.sub (ws' := [(a0, .inr (12, [.int i0, .ref a1, .ref a2, .ref a3, .ref a4, .int i1, .ref a5, .int i2, .int i3, .int i4, .int i5, .int i6, .int i7, .int i8, .ref a6, .ref a7, .ref a8, .ref a9, .ref a10, .ref a11, .ref a12, .int i9, .ref a13, .int i10, .ref a14, .ref a15, .int i11, .ref a16, .ref a17, .ref a18, .ref a19, .int i12, .int i13, .int i14, .int i15, .int i16, .ref a20, .long j0, .ref a21, .ref a22, .ref a23, .ref a24])), (a1, .inl (cI, 544, .inl xF0)), (a21, .inl (cI, 4, .inl xF20)), (a23, .inl (cJ, 240, .inr (.inl xG22)))]) [2, 3, 0, 1] (by decide) rfl
      rw [hQ]
      exact W.iret (v := (-2)) hx hb hr (fun t ht hW => ⟨⟨(-2), (), rfl, ⟨(show (-6 : Int) ≤ ((-2) : Int32).toInt ∧ ((-2) : Int32).toInt ≤ 0 from ⟨by omega, by omega⟩), (show (((-2) : Int32).toInt ≥ 0 → p0.toInt ≥ 0 ∧ p0.toInt ≤ 3 ∧ 1 ≤ wat xF0 1 ∧ 1 ≤ (xF20 p0.toInt.toNat).toInt ∧ (xF20 p0.toInt.toNat).toInt ≤ 8 ∧ NB (wat xF0 1) xG22 p0.toInt (xF20 p0.toInt.toNat).toInt) from fun h9 => by exfalso; omega), trivial⟩, (by rw [ht]; exact hP9), hD9⟩, hS.F ht⟩) hS.2.2 dX12_asksMotions_16
theorem dX12_clash_0 : decode cX12_clash 0 = .ok (.aload_n 0, 1) := by decide +kernel
theorem dX12_clash_1 : decode cX12_clash 1 = .ok (.iload_n 1, 1) := by decide +kernel
theorem dX12_clash_2 : decode cX12_clash 2 = .ok (.invokevirtual 417, 3) := by decide +kernel
theorem dX12_clash_5 : decode cX12_clash 5 = .ok (.istore_n 2, 1) := by decide +kernel
theorem dX12_clash_6 : decode cX12_clash 6 = .ok (.iload_n 2, 1) := by decide +kernel
theorem dX12_clash_7 : decode cX12_clash 7 = .ok (.ifCond .ge 5, 3) := by decide +kernel
theorem dX12_clash_10 : decode cX12_clash 10 = .ok (.iload_n 2, 1) := by decide +kernel
theorem dX12_clash_11 : decode cX12_clash 11 = .ok (.ireturn, 1) := by decide +kernel
theorem dX12_clash_12 : decode cX12_clash 12 = .ok (.iconst 0, 1) := by decide +kernel
theorem dX12_clash_13 : decode cX12_clash 13 = .ok (.istore_n 3, 1) := by decide +kernel
theorem dX12_clash_14 : decode cX12_clash 14 = .ok (.iconst 1, 1) := by decide +kernel
theorem dX12_clash_15 : decode cX12_clash 15 = .ok (.istore 4, 2) := by decide +kernel
theorem dX12_clash_17 : decode cX12_clash 17 = .ok (.iload 4, 2) := by decide +kernel
theorem dX12_clash_19 : decode cX12_clash 19 = .ok (.iconst 1, 1) := by decide +kernel
theorem dX12_clash_20 : decode cX12_clash 20 = .ok (.aload_n 0, 1) := by decide +kernel
theorem dX12_clash_21 : decode cX12_clash 21 = .ok (.getfield 79, 3) := by decide +kernel
theorem dX12_clash_24 : decode cX12_clash 24 = .ok (.iload_n 1, 1) := by decide +kernel
theorem dX12_clash_25 : decode cX12_clash 25 = .ok (.iaload, 1) := by decide +kernel
theorem dX12_clash_26 : decode cX12_clash 26 = .ok (.ishl, 1) := by decide +kernel
theorem dX12_clash_27 : decode cX12_clash 27 = .ok (.if_icmp .ge 143, 3) := by decide +kernel
theorem dX12_clash_30 : decode cX12_clash 30 = .ok (.iconst 0, 1) := by decide +kernel
theorem dX12_clash_31 : decode cX12_clash 31 = .ok (.istore 5, 2) := by decide +kernel
theorem dX12_clash_33 : decode cX12_clash 33 = .ok (.iconst 1, 1) := by decide +kernel
theorem dX12_clash_34 : decode cX12_clash 34 = .ok (.istore 6, 2) := by decide +kernel
theorem dX12_clash_36 : decode cX12_clash 36 = .ok (.iconst 0, 1) := by decide +kernel
theorem dX12_clash_37 : decode cX12_clash 37 = .ok (.istore 7, 2) := by decide +kernel
theorem dX12_clash_39 : decode cX12_clash 39 = .ok (.iload 7, 2) := by decide +kernel
theorem dX12_clash_41 : decode cX12_clash 41 = .ok (.aload_n 0, 1) := by decide +kernel
theorem dX12_clash_42 : decode cX12_clash 42 = .ok (.getfield 79, 3) := by decide +kernel
theorem dX12_clash_45 : decode cX12_clash 45 = .ok (.iload_n 1, 1) := by decide +kernel
theorem dX12_clash_46 : decode cX12_clash 46 = .ok (.iaload, 1) := by decide +kernel
theorem dX12_clash_47 : decode cX12_clash 47 = .ok (.if_icmp .ge 101, 3) := by decide +kernel
theorem dX12_clash_50 : decode cX12_clash 50 = .ok (.iload 5, 2) := by decide +kernel
theorem dX12_clash_52 : decode cX12_clash 52 = .ok (.iload 4, 2) := by decide +kernel
theorem dX12_clash_54 : decode cX12_clash 54 = .ok (.iload 7, 2) := by decide +kernel
theorem dX12_clash_56 : decode cX12_clash 56 = .ok (.ishr, 1) := by decide +kernel
theorem dX12_clash_57 : decode cX12_clash 57 = .ok (.iconst 1, 1) := by decide +kernel
theorem dX12_clash_58 : decode cX12_clash 58 = .ok (.iand, 1) := by decide +kernel
theorem dX12_clash_59 : decode cX12_clash 59 = .ok (.iadd, 1) := by decide +kernel
theorem dX12_clash_60 : decode cX12_clash 60 = .ok (.istore 5, 2) := by decide +kernel
theorem dX12_clash_62 : decode cX12_clash 62 = .ok (.iconst 0, 1) := by decide +kernel
theorem dX12_clash_63 : decode cX12_clash 63 = .ok (.istore 8, 2) := by decide +kernel
theorem dX12_clash_65 : decode cX12_clash 65 = .ok (.iload 8, 2) := by decide +kernel
theorem dX12_clash_67 : decode cX12_clash 67 = .ok (.iload 7, 2) := by decide +kernel
theorem dX12_clash_69 : decode cX12_clash 69 = .ok (.if_icmp .ge 73, 3) := by decide +kernel
theorem dX12_clash_72 : decode cX12_clash 72 = .ok (.iload 6, 2) := by decide +kernel
theorem dX12_clash_74 : decode cX12_clash 74 = .ok (.ifCond .eq 59, 3) := by decide +kernel
theorem dX12_clash_77 : decode cX12_clash 77 = .ok (.iload 4, 2) := by decide +kernel
theorem dX12_clash_79 : decode cX12_clash 79 = .ok (.iload 7, 2) := by decide +kernel
theorem dX12_clash_81 : decode cX12_clash 81 = .ok (.ishr, 1) := by decide +kernel
theorem dX12_clash_82 : decode cX12_clash 82 = .ok (.iload 4, 2) := by decide +kernel
theorem dX12_clash_84 : decode cX12_clash 84 = .ok (.iload 8, 2) := by decide +kernel
theorem dX12_clash_86 : decode cX12_clash 86 = .ok (.ishr, 1) := by decide +kernel
theorem dX12_clash_87 : decode cX12_clash 87 = .ok (.iand, 1) := by decide +kernel
theorem dX12_clash_88 : decode cX12_clash 88 = .ok (.iconst 1, 1) := by decide +kernel
theorem dX12_clash_89 : decode cX12_clash 89 = .ok (.iand, 1) := by decide +kernel
theorem dX12_clash_90 : decode cX12_clash 90 = .ok (.ifCond .eq 39, 3) := by decide +kernel
theorem dX12_clash_93 : decode cX12_clash 93 = .ok (.aload_n 0, 1) := by decide +kernel
theorem dX12_clash_94 : decode cX12_clash 94 = .ok (.getfield 85, 3) := by decide +kernel
theorem dX12_clash_97 : decode cX12_clash 97 = .ok (.bipush 60, 2) := by decide +kernel
theorem dX12_clash_99 : decode cX12_clash 99 = .ok (.iload_n 1, 1) := by decide +kernel
theorem dX12_clash_100 : decode cX12_clash 100 = .ok (.imul, 1) := by decide +kernel
theorem dX12_clash_101 : decode cX12_clash 101 = .ok (.iload 7, 2) := by decide +kernel
theorem dX12_clash_103 : decode cX12_clash 103 = .ok (.iadd, 1) := by decide +kernel
theorem dX12_clash_104 : decode cX12_clash 104 = .ok (.laload, 1) := by decide +kernel
theorem dX12_clash_105 : decode cX12_clash 105 = .ok (.aload_n 0, 1) := by decide +kernel
theorem dX12_clash_106 : decode cX12_clash 106 = .ok (.getfield 85, 3) := by decide +kernel
theorem dX12_clash_109 : decode cX12_clash 109 = .ok (.bipush 60, 2) := by decide +kernel
theorem dX12_clash_111 : decode cX12_clash 111 = .ok (.iload_n 1, 1) := by decide +kernel
theorem dX12_clash_112 : decode cX12_clash 112 = .ok (.imul, 1) := by decide +kernel
theorem dX12_clash_113 : decode cX12_clash 113 = .ok (.iload 8, 2) := by decide +kernel
theorem dX12_clash_115 : decode cX12_clash 115 = .ok (.iadd, 1) := by decide +kernel
theorem dX12_clash_116 : decode cX12_clash 116 = .ok (.laload, 1) := by decide +kernel
theorem dX12_clash_117 : decode cX12_clash 117 = .ok (.ladd, 1) := by decide +kernel
theorem dX12_clash_118 : decode cX12_clash 118 = .ok (.aload_n 0, 1) := by decide +kernel
theorem dX12_clash_119 : decode cX12_clash 119 = .ok (.getfield 13, 3) := by decide +kernel
theorem dX12_clash_122 : decode cX12_clash 122 = .ok (.iconst 1, 1) := by decide +kernel
theorem dX12_clash_123 : decode cX12_clash 123 = .ok (.iaload, 1) := by decide +kernel
theorem dX12_clash_124 : decode cX12_clash 124 = .ok (.i2l, 1) := by decide +kernel
theorem dX12_clash_125 : decode cX12_clash 125 = .ok (.lcmp, 1) := by decide +kernel
theorem dX12_clash_126 : decode cX12_clash 126 = .ok (.ifCond .le 7, 3) := by decide +kernel
theorem dX12_clash_129 : decode cX12_clash 129 = .ok (.iconst 1, 1) := by decide +kernel
theorem dX12_clash_130 : decode cX12_clash 130 = .ok (.goto 4, 3) := by decide +kernel
theorem dX12_clash_133 : decode cX12_clash 133 = .ok (.iconst 0, 1) := by decide +kernel
theorem dX12_clash_134 : decode cX12_clash 134 = .ok (.istore 6, 2) := by decide +kernel
theorem dX12_clash_136 : decode cX12_clash 136 = .ok (.iinc 8 1, 3) := by decide +kernel
theorem dX12_clash_139 : decode cX12_clash 139 = .ok (.goto (-74), 3) := by decide +kernel
theorem dX12_clash_142 : decode cX12_clash 142 = .ok (.iinc 7 1, 3) := by decide +kernel
theorem dX12_clash_145 : decode cX12_clash 145 = .ok (.goto (-106), 3) := by decide +kernel
theorem dX12_clash_148 : decode cX12_clash 148 = .ok (.iload 6, 2) := by decide +kernel
theorem dX12_clash_150 : decode cX12_clash 150 = .ok (.ifCond .eq 12, 3) := by decide +kernel
theorem dX12_clash_153 : decode cX12_clash 153 = .ok (.iload_n 3, 1) := by decide +kernel
theorem dX12_clash_154 : decode cX12_clash 154 = .ok (.iload 5, 2) := by decide +kernel
theorem dX12_clash_156 : decode cX12_clash 156 = .ok (.invokestatic 257, 3) := by decide +kernel
theorem dX12_clash_159 : decode cX12_clash 159 = .ok (.goto 4, 3) := by decide +kernel
theorem dX12_clash_162 : decode cX12_clash 162 = .ok (.iload_n 3, 1) := by decide +kernel
theorem dX12_clash_163 : decode cX12_clash 163 = .ok (.istore_n 3, 1) := by decide +kernel
theorem dX12_clash_164 : decode cX12_clash 164 = .ok (.iinc 4 1, 3) := by decide +kernel
theorem dX12_clash_167 : decode cX12_clash 167 = .ok (.goto (-150), 3) := by decide +kernel
theorem dX12_clash_170 : decode cX12_clash 170 = .ok (.iload_n 3, 1) := by decide +kernel
theorem dX12_clash_171 : decode cX12_clash 171 = .ok (.ireturn, 1) := by decide +kernel
set_option maxHeartbeats 4000000 in
set_option maxRecDepth 100000 in
theorem s_X12_clash (l : Launch) (dC : Nat → ClassId) (dI : Nat → Nat → Nat) (cI cZ cB cJ cM cG : ClassId) (a0 a1 a2 a3 a4 a5 a6 a7 a8 a9 a10 a11 a12 a13 a14 a15 a16 a17 a18 a19 a20 a21 a22 a23 a24 : Nat) (i0 i1 i2 i3 i4 i5 i6 i7 i8 i9 i10 i11 i12 i13 i14 i15 i16 : Int32) (j0 : Int64) (xF0 xF20 : Nat → Int32) (xG22 : Nat → Int64) (p0 : Int32) (cp : Int) (sz : Nat) (p_0 : (0 : Int) ≤ i1.toInt ∧ i1.toInt ≤ 1600) (p_1 : (0 : Int) ≤ i2.toInt ∧ i2.toInt ≤ 1600) (p_2 : (0 : Int) ≤ i3.toInt ∧ i3.toInt ≤ 1600) (p_3 : (0 : Int) ≤ i4.toInt ∧ i4.toInt ≤ 1600) (p_4 : (0 : Int) ≤ i5.toInt ∧ i5.toInt ≤ 6) (p_5 : (0 : Int) ≤ i7.toInt ∧ i7.toInt ≤ 3) (p_6 : (0 : Int) ≤ i11.toInt ∧ i11.toInt ≤ 59) (p_7 : WI cp xF0) (p_8 : rng xF20 4 (-1) 60) (p_9 : MI xF20) (p_10 : 0 ≤ cp ∧ cp ≤ 2000000000) : Met l yX12_clash (kw yX12_clash cX12_clash 9 (some .int)) ({ frames := 3, cells := 0, slots := 0, locals := 67 } : Room) (va_Pc [.ref a0, .int p0] (kPre dC dI [(cI, .int), (cZ, .boolean), (cB, .byte), (cJ, .long), (cM, .object RX2), (cG, .array .int)] [(a0, .inr (12, [.int i0, .ref a1, .ref a2, .ref a3, .ref a4, .int i1, .ref a5, .int i2, .int i3, .int i4, .int i5, .int i6, .int i7, .int i8, .ref a6, .ref a7, .ref a8, .ref a9, .ref a10, .ref a11, .ref a12, .int i9, .ref a13, .int i10, .ref a14, .ref a15, .int i11, .ref a16, .ref a17, .ref a18, .ref a19, .int i12, .int i13, .int i14, .int i15, .int i16, .ref a20, .long j0, .ref a21, .ref a22, .ref a23, .ref a24])), (a1, .inl (cI, 544, .inl xF0)), (a21, .inl (cI, 4, .inl xF20)), (a23, .inl (cJ, 240, .inr (.inl xG22)))] sz)) (va_Qi (fun (r : Int32) (u9 : Unit) => ((-6 : Int) ≤ r.toInt ∧ r.toInt ≤ 2147483647) ∧ True) (fun u9 t => va_P (dC, dI) vwCl [(a0, .inr (12, [.int i0, .ref a1, .ref a2, .ref a3, .ref a4, .int i1, .ref a5, .int i2, .int i3, .int i4, .int i5, .int i6, .int i7, .int i8, .ref a6, .ref a7, .ref a8, .ref a9, .ref a10, .ref a11, .ref a12, .int i9, .ref a13, .int i10, .ref a14, .ref a15, .int i11, .ref a16, .ref a17, .ref a18, .ref a19, .int i12, .int i13, .int i14, .int i15, .int i16, .ref a20, .long j0, .ref a21, .ref a22, .ref a23, .ref a24])), (a1, .inl (cI, 544, .inl xF0)), (a21, .inl (cI, 4, .inl xF20)), (a23, .inl (cJ, 240, .inr (.inl xG22)))] t.heap ∧ va_D (va_A [(a0, .inr (12, [.int i0, .ref a1, .ref a2, .ref a3, .ref a4, .int i1, .ref a5, .int i2, .int i3, .int i4, .int i5, .int i6, .int i7, .int i8, .ref a6, .ref a7, .ref a8, .ref a9, .ref a10, .ref a11, .ref a12, .int i9, .ref a13, .int i10, .ref a14, .ref a15, .int i11, .ref a16, .ref a17, .ref a18, .ref a19, .int i12, .int i13, .int i14, .int i15, .int i16, .ref a20, .long j0, .ref a21, .ref a22, .ref a23, .ref a24])), (a1, .inl (cI, 544, .inl xF0)), (a21, .inl (cI, 4, .inl xF20)), (a23, .inl (cJ, 240, .inr (.inl xG22)))] sz) [(a0, .inr (12, [.int i0, .ref a1, .ref a2, .ref a3, .ref a4, .int i1, .ref a5, .int i2, .int i3, .int i4, .int i5, .int i6, .int i7, .int i8, .ref a6, .ref a7, .ref a8, .ref a9, .ref a10, .ref a11, .ref a12, .int i9, .ref a13, .int i10, .ref a14, .ref a15, .int i11, .ref a16, .ref a17, .ref a18, .ref a19, .int i12, .int i13, .int i14, .int i15, .int i16, .ref a20, .long j0, .ref a21, .ref a22, .ref a23, .ref a24])), (a1, .inl (cI, 544, .inl xF0)), (a21, .inl (cI, 4, .inl xF20)), (a23, .inl (cJ, 240, .inr (.inl xG22)))]) (va_A [(a0, .inr (12, [.int i0, .ref a1, .ref a2, .ref a3, .ref a4, .int i1, .ref a5, .int i2, .int i3, .int i4, .int i5, .int i6, .int i7, .int i8, .ref a6, .ref a7, .ref a8, .ref a9, .ref a10, .ref a11, .ref a12, .int i9, .ref a13, .int i10, .ref a14, .ref a15, .int i11, .ref a16, .ref a17, .ref a18, .ref a19, .int i12, .int i13, .int i14, .int i15, .int i16, .ref a20, .long j0, .ref a21, .ref a22, .ref a23, .ref a24])), (a1, .inl (cI, 544, .inl xF0)), (a21, .inl (cI, 4, .inl xF20)), (a23, .inl (cJ, 240, .inr (.inl xG22)))] sz)) 0 0 (va_A [(a0, .inr (12, [.int i0, .ref a1, .ref a2, .ref a3, .ref a4, .int i1, .ref a5, .int i2, .int i3, .int i4, .int i5, .int i6, .int i7, .int i8, .ref a6, .ref a7, .ref a8, .ref a9, .ref a10, .ref a11, .ref a12, .int i9, .ref a13, .int i10, .ref a14, .ref a15, .int i11, .ref a16, .ref a17, .ref a18, .ref a19, .int i12, .int i13, .int i14, .int i15, .int i16, .ref a20, .long j0, .ref a21, .ref a22, .ref a23, .ref a24])), (a1, .inl (cI, 544, .inl xF0)), (a21, .inl (cI, 4, .inl xF20)), (a23, .inl (cJ, 240, .inr (.inl xG22)))] sz) := by
  refine kEnter (by decide) (Nat.le_of_ble_eq_true rfl) ?_
  intro p e s m below meth c ls hx hb hr hml hown hlocks hin hwd hsz hP hK hD hl
  subst hsz
  generalize hAe : va_A [(a0, .inr (12, [.int i0, .ref a1, .ref a2, .ref a3, .ref a4, .int i1, .ref a5, .int i2, .int i3, .int i4, .int i5, .int i6, .int i7, .int i8, .ref a6, .ref a7, .ref a8, .ref a9, .ref a10, .ref a11, .ref a12, .int i9, .ref a13, .int i10, .ref a14, .ref a15, .int i11, .ref a16, .ref a17, .ref a18, .ref a19, .int i12, .int i13, .int i14, .int i15, .int i16, .ref a20, .long j0, .ref a21, .ref a22, .ref a23, .ref a24])), (a1, .inl (cI, 544, .inl xF0)), (a21, .inl (cI, 4, .inl xF20)), (a23, .inl (cJ, 240, .inr (.inl xG22)))] s.heap.size = A at hD ⊢
  have hA : ∀ q : Nat, s.heap.size ≤ q → A q := fun q h => by rw [← hAe]; exact Or.inr h
  have hS : va_S A s.heap s.heap [] := va_S.rf
  have hl : lv_has ls 9 [(0, .ref a0), (1, .int p0)] := hl
  obtain ⟨Q, hQ⟩ : ∃ Q, Q = MQ below (va_Qi (fun (r : Int32) (u9 : Unit) => ((-6 : Int) ≤ r.toInt ∧ r.toInt ≤ 2147483647) ∧ True) (fun u9 t => va_P (dC, dI) vwCl [(a0, .inr (12, [.int i0, .ref a1, .ref a2, .ref a3, .ref a4, .int i1, .ref a5, .int i2, .int i3, .int i4, .int i5, .int i6, .int i7, .int i8, .ref a6, .ref a7, .ref a8, .ref a9, .ref a10, .ref a11, .ref a12, .int i9, .ref a13, .int i10, .ref a14, .ref a15, .int i11, .ref a16, .ref a17, .ref a18, .ref a19, .int i12, .int i13, .int i14, .int i15, .int i16, .ref a20, .long j0, .ref a21, .ref a22, .ref a23, .ref a24])), (a1, .inl (cI, 544, .inl xF0)), (a21, .inl (cI, 4, .inl xF20)), (a23, .inl (cJ, 240, .inr (.inl xG22)))] t.heap ∧ va_D A [(a0, .inr (12, [.int i0, .ref a1, .ref a2, .ref a3, .ref a4, .int i1, .ref a5, .int i2, .int i3, .int i4, .int i5, .int i6, .int i7, .int i8, .ref a6, .ref a7, .ref a8, .ref a9, .ref a10, .ref a11, .ref a12, .int i9, .ref a13, .int i10, .ref a14, .ref a15, .int i11, .ref a16, .ref a17, .ref a18, .ref a19, .int i12, .int i13, .int i14, .int i15, .int i16, .ref a20, .long j0, .ref a21, .ref a22, .ref a23, .ref a24])), (a1, .inl (cI, 544, .inl xF0)), (a21, .inl (cI, 4, .inl xF20)), (a23, .inl (cJ, 240, .inr (.inl xG22)))]) A) ([.ref a0, .int p0] : List Value).toArray s 0 0 A := ⟨_, rfl⟩
  rw [← hQ]
  have k0 : (0 : Int32).toInt = 0 := by decide
  have k1 : (1 : Int32).toInt = 1 := by decide
  have k3 : (3 : Int32).toInt = 3 := by decide
  have k60 : (60 : Int32).toInt = 60 := by decide
  refine lv_aload_n hx hb dX12_clash_0 rfl (lv_at hl 0 rfl) ?_
  refine lv_iload_n hx hb dX12_clash_1 rfl (lv_at hl 1 rfl) ?_
  have hPc := hP.sub (ws' := [(a0, .inr (12, [.int i0, .ref a1, .ref a2, .ref a3, .ref a4, .int i1, .ref a5, .int i2, .int i3, .int i4, .int i5, .int i6, .int i7, .int i8, .ref a6, .ref a7, .ref a8, .ref a9, .ref a10, .ref a11, .ref a12, .int i9, .ref a13, .int i10, .ref a14, .ref a15, .int i11, .ref a16, .ref a17, .ref a18, .ref a19, .int i12, .int i13, .int i14, .int i15, .int i16, .ref a20, .long j0, .ref a21, .ref a22, .ref a23, .ref a24])), (a1, .inl (cI, 544, .inl xF0)), (a21, .inl (cI, 4, .inl xF20)), (a23, .inl (cJ, 240, .inr (.inl xG22)))]) [0, 1, 2, 3] rfl
  have hDc := hD.sub (ws' := [(a0, .inr (12, [.int i0, .ref a1, .ref a2, .ref a3, .ref a4, .int i1, .ref a5, .int i2, .int i3, .int i4, .int i5, .int i6, .int i7, .int i8, .ref a6, .ref a7, .ref a8, .ref a9, .ref a10, .ref a11, .ref a12, .int i9, .ref a13, .int i10, .ref a14, .ref a15, .int i11, .ref a16, .ref a17, .ref a18, .ref a19, .int i12, .int i13, .int i14, .int i15, .int i16, .ref a20, .long j0, .ref a21, .ref a22, .ref a23, .ref a24])), (a1, .inl (cI, 544, .inl xF0)), (a21, .inl (cI, 4, .inl xF20)), (a23, .inl (cJ, 240, .inr (.inl xG22)))]) [0, 1, 2, 3] (by decide) rfl
  have hFc := va_free (wc := [(a0, .inr (12, [.int i0, .ref a1, .ref a2, .ref a3, .ref a4, .int i1, .ref a5, .int i2, .int i3, .int i4, .int i5, .int i6, .int i7, .int i8, .ref a6, .ref a7, .ref a8, .ref a9, .ref a10, .ref a11, .ref a12, .int i9, .ref a13, .int i10, .ref a14, .ref a15, .int i11, .ref a16, .ref a17, .ref a18, .ref a19, .int i12, .int i13, .int i14, .int i15, .int i16, .ref a20, .long j0, .ref a21, .ref a22, .ref a23, .ref a24])), (a1, .inl (cI, 544, .inl xF0)), (a21, .inl (cI, 4, .inl xF20)), (a23, .inl (cJ, 240, .inr (.inl xG22)))]) hD hS hA [0, 1, 2, 3] rfl
  refine va_calli (va_runV (As := [.int p0]) (rest := []) ⟨hx, hb, hml, hown, hwd⟩ (s_X12_asksMotions l dC dI cI cZ cB cJ cM cG a0 a1 a2 a3 a4 a5 a6 a7 a8 a9 a10 a11 a12 a13 a14 a15 a16 a17 a18 a19 a20 a21 a22 a23 a24 i0 i1 i2 i3 i4 i5 i6 i7 i8 i9 i10 i11 i12 i13 i14 i15 i16 j0 xF0 xF20 xG22 p0 cp s.heap.size (show (0 : Int) ≤ i1.toInt ∧ i1.toInt ≤ 1600 from ⟨by omega, by omega⟩) (show (0 : Int) ≤ i2.toInt ∧ i2.toInt ≤ 1600 from ⟨by omega, by omega⟩) (show (0 : Int) ≤ i3.toInt ∧ i3.toInt ≤ 1600 from ⟨by omega, by omega⟩) (show (0 : Int) ≤ i4.toInt ∧ i4.toInt ≤ 1600 from ⟨by omega, by omega⟩) (show (0 : Int) ≤ i5.toInt ∧ i5.toInt ≤ 6 from ⟨by omega, by omega⟩) (show (0 : Int) ≤ i7.toInt ∧ i7.toInt ≤ 3 from ⟨by omega, by omega⟩) (show (0 : Int) ≤ i11.toInt ∧ i11.toInt ≤ 59 from ⟨by omega, by omega⟩) (show WI cp xF0 from p_7) (show rng xF20 4 (-1) 60 from p_8) (show MI xF20 from trivial) p_10) (cwV 1 hwd (gV kr55_8 kr55_9 kr55_10 kr1_5 kr55_11) rfl rfl rfl (by decide +kernel) ⟨Nat.le_of_ble_eq_true rfl, Nat.le_of_ble_eq_true rfl⟩) (kPreV hPc hK hDc (ci := 12) (q0 := 0) rfl rfl) rfl rfl hl.1 rfl (lv_room (Nat.le_of_ble_eq_true rfl)) dX12_clash_2 ⟨Nat.le_of_ble_eq_true rfl, Nat.le_of_ble_eq_true rfl⟩) hS (fun q _ h => hFc q h) hFc (fun r1 u2 t H1 locs ht9 hvm hw hB hz1 hk1 hS => ?_)
  obtain ⟨hw3, hw4, -⟩ := hw
  have hw3 : (-6 : Int) ≤ r1.toInt ∧ r1.toInt ≤ 0 := hw3
  obtain ⟨hP1, hD1⟩ := hB
  rw [ht9] at hP1
  obtain ⟨hP, hD⟩ := va_join (wr := []) (w1 := [(a0, .inr (12, [.int i0, .ref a1, .ref a2, .ref a3, .ref a4, .int i1, .ref a5, .int i2, .int i3, .int i4, .int i5, .int i6, .int i7, .int i8, .ref a6, .ref a7, .ref a8, .ref a9, .ref a10, .ref a11, .ref a12, .int i9, .ref a13, .int i10, .ref a14, .ref a15, .int i11, .ref a16, .ref a17, .ref a18, .ref a19, .int i12, .int i13, .int i14, .int i15, .int i16, .ref a20, .long j0, .ref a21, .ref a22, .ref a23, .ref a24])), (a1, .inl (cI, 544, .inl xF0)), (a21, .inl (cI, 4, .inl xF20)), (a23, .inl (cJ, 240, .inr (.inl xG22)))]) hP hD [0, 1, 2, 3] [] rfl rfl (by decide) (by decide) hk1 hFc hP1 hD1
  generalize H1 = H at hP hS ⊢
  have hP : va_P (dC, dI) vwCl [(a0, .inr (12, [.int i0, .ref a1, .ref a2, .ref a3, .ref a4, .int i1, .ref a5, .int i2, .int i3, .int i4, .int i5, .int i6, .int i7, .int i8, .ref a6, .ref a7, .ref a8, .ref a9, .ref a10, .ref a11, .ref a12, .int i9, .ref a13, .int i10, .ref a14, .ref a15, .int i11, .ref a16, .ref a17, .ref a18, .ref a19, .int i12, .int i13, .int i14, .int i15, .int i16, .ref a20, .long j0, .ref a21, .ref a22, .ref a23, .ref a24])), (a1, .inl (cI, 544, .inl xF0)), (a21, .inl (cI, 4, .inl xF20)), (a23, .inl (cJ, 240, .inr (.inl xG22)))] H := hP
  have hD : va_D A [(a0, .inr (12, [.int i0, .ref a1, .ref a2, .ref a3, .ref a4, .int i1, .ref a5, .int i2, .int i3, .int i4, .int i5, .int i6, .int i7, .int i8, .ref a6, .ref a7, .ref a8, .ref a9, .ref a10, .ref a11, .ref a12, .int i9, .ref a13, .int i10, .ref a14, .ref a15, .int i11, .ref a16, .ref a17, .ref a18, .ref a19, .int i12, .int i13, .int i14, .int i15, .int i16, .ref a20, .long j0, .ref a21, .ref a22, .ref a23, .ref a24])), (a1, .inl (cI, 544, .inl xF0)), (a21, .inl (cI, 4, .inl xF20)), (a23, .inl (cJ, 240, .inr (.inl xG22)))] := hD
  refine lv_istore_n (lv' := [(2, .int r1), (0, .ref a0), (1, .int p0)]) hx hb dX12_clash_5 rfl hl (by decide) rfl (fun ls hl => ?_)
  refine lv_iload_n hx hb dX12_clash_6 rfl (lv_at hl 0 rfl) ?_
  refine lv_if_ge (tgt := 12) hx hb dX12_clash_7 (by decide) (fun c5 => ?_) (fun c5 => ?_)
  · rw [ki_le] at c5
    have hw4q := hw4 (by omega)
    clear hw4
    refine lv_iconst (v := 0) hx hb dX12_clash_12 (by decide) ?_
    refine lv_istore_n (lv' := [(3, .int 0), (2, .int r1), (0, .ref a0), (1, .int p0)]) hx hb dX12_clash_13 rfl hl (by decide) rfl (fun ls hl => ?_)
    refine lv_iconst (v := 1) hx hb dX12_clash_14 (by decide) ?_
    refine lv_istore (lv' := [(4, .int 1), (3, .int 0), (2, .int r1), (0, .ref a0), (1, .int p0)]) hx hb dX12_clash_15 hl (by decide) rfl (fun ls hl => ?_)
    have lp1 : ∀ (d : Nat), ∀ (H : Heap) (locs : List Loc) (ls : Array Slot) (w3_1 : Int32) (w4_1 : Int32), ((0 : Int) ≤ w3_1.toInt ∧ w3_1.toInt ≤ 2147483647) → ((1 : Int) ≤ w4_1.toInt ∧ w4_1.toInt ≤ 256) → (256 - w4_1.toInt).toNat < d → va_P (dC, dI) vwCl [(a0, .inr (12, [.int i0, .ref a1, .ref a2, .ref a3, .ref a4, .int i1, .ref a5, .int i2, .int i3, .int i4, .int i5, .int i6, .int i7, .int i8, .ref a6, .ref a7, .ref a8, .ref a9, .ref a10, .ref a11, .ref a12, .int i9, .ref a13, .int i10, .ref a14, .ref a15, .int i11, .ref a16, .ref a17, .ref a18, .ref a19, .int i12, .int i13, .int i14, .int i15, .int i16, .ref a20, .long j0, .ref a21, .ref a22, .ref a23, .ref a24])), (a1, .inl (cI, 544, .inl xF0)), (a21, .inl (cI, 4, .inl xF20)), (a23, .inl (cJ, 240, .inr (.inl xG22)))] H → va_D A [(a0, .inr (12, [.int i0, .ref a1, .ref a2, .ref a3, .ref a4, .int i1, .ref a5, .int i2, .int i3, .int i4, .int i5, .int i6, .int i7, .int i8, .ref a6, .ref a7, .ref a8, .ref a9, .ref a10, .ref a11, .ref a12, .int i9, .ref a13, .int i10, .ref a14, .ref a15, .int i11, .ref a16, .ref a17, .ref a18, .ref a19, .int i12, .int i13, .int i14, .int i15, .int i16, .ref a20, .long j0, .ref a21, .ref a22, .ref a23, .ref a24])), (a1, .inl (cI, 544, .inl xF0)), (a21, .inl (cI, 4, .inl xF20)), (a23, .inl (cJ, 240, .inr (.inl xG22)))] → va_S A s.heap H locs → lv_has ls 9 [(0, .ref a0), (1, .int p0), (2, .int r1), (3, .int w3_1), (4, .int w4_1)] → W p l e ({ frames := 3, cells := 0, slots := 0, locals := 67 } : Room) s m ([.ref a0, .int p0] : List Value).toArray below meth c H locs 0 0 Q (F0 m 17 ls []) := by
      intro d
      induction d with
      | zero =>
        intro H locs ls w3_1 w4_1 hr_w3_1 hr_w4_1 hm hP hD hS hl
        omega
      | succ d ih1 =>
        intro H locs ls w3_1 w4_1 hr_w3_1 hr_w4_1 hm hP hD hS hl
        refine lv_iload hx hb dX12_clash_17 (lv_at hl 4 rfl) ?_
        refine lv_iconst (v := 1) hx hb dX12_clash_19 (by decide) ?_
        refine lv_aload_n hx hb dX12_clash_20 rfl (lv_at hl 0 rfl) ?_
        refine va_get (D := (dC, dI)) (ci := 12) (v := .ref a21) (C := RX12) (T := TX12) (N := 42) hx hb hwd inlX12 hown hK hP 0 rfl rfl 38 (by decide) (hwd _ kr8_0) (fun _ h9 => h9) rfl dX12_clash_21 ?_
        refine lv_iload_n hx hb dX12_clash_24 rfl (lv_at hl 1 rfl) ?_
        have h10918 : vp_in p0 4 := (vp_of (by omega) (by omega))
        refine va_iald hx hb hK hP 2 0 rfl rfl h10918 dX12_clash_25 ?_
        refine lv_topi (fun x10919 ex10919 => ?_)
        have ix10919 : x10919.toInt = (xF20 p0.toInt.toNat).toInt := by rw [ex10919]; rfl
        have tx10919 : (-1 : Int) ≤ x10919.toInt ∧ x10919.toInt ≤ 60 := by rw [ex10919]; exact p_8 _ (vp_nat h10918)
        refine lv_ishl hx hb dX12_clash_26 ?_
        refine lv_topi (fun x10920 ex10920 => ?_)
        have tx10920 := is_8 (b := x10919) (by omega) (by omega)
        rw [← ex10920] at tx10920
        refine lv_icmp_ge (tgt := 170) hx hb dX12_clash_27 (by decide) (fun c10921 => ?_) (fun c10921 => ?_)
        · rw [ki_le] at c10921
          refine lv_iload_n hx hb dX12_clash_170 rfl (lv_at hl 3 rfl) ?_
          have hP9 := hP.sub (ws' := [(a0, .inr (12, [.int i0, .ref a1, .ref a2, .ref a3, .ref a4, .int i1, .ref a5, .int i2, .int i3, .int i4, .int i5, .int i6, .int i7, .int i8, .ref a6, .ref a7, .ref a8, .ref a9, .ref a10, .ref a11, .ref a12, .int i9, .ref a13, .int i10, .ref a14, .ref a15, .int i11, .ref a16, .ref a17, .ref a18, .ref a19, .int i12, .int i13, .int i14, .int i15, .int i16, .ref a20, .long j0, .ref a21, .ref a22, .ref a23, .ref a24])), (a1, .inl (cI, 544, .inl xF0)), (a21, .inl (cI, 4, .inl xF20)), (a23, .inl (cJ, 240, .inr (.inl xG22)))]) [0, 1, 2, 3] rfl
          have hD9 := hD.sub (ws' := [(a0, .inr (12, [.int i0, .ref a1, .ref a2, .ref a3, .ref a4, .int i1, .ref a5, .int i2, .int i3, .int i4, .int i5, .int i6, .int i7, .int i8, .ref a6, .ref a7, .ref a8, .ref a9, .ref a10, .ref a11, .ref a12, .int i9, .ref a13, .int i10, .ref a14, .ref a15, .int i11, .ref a16, .ref a17, .ref a18, .ref a19, .int i12, .int i13, .int i14, .int i15, .int i16, .ref a20, .long j0, .ref a21, .ref a22, .ref a23, .ref a24])), (a1, .inl (cI, 544, .inl xF0)), (a21, .inl (cI, 4, .inl xF20)), (a23, .inl (cJ, 240, .inr (.inl xG22)))]) [0, 1, 2, 3] (by decide) rfl
          rw [hQ]
          exact W.iret (v := w3_1) hx hb hr (fun t ht hW => ⟨⟨w3_1, (), rfl, ⟨(show (-6 : Int) ≤ w3_1.toInt ∧ w3_1.toInt ≤ 2147483647 from ⟨by omega, i32_hi⟩), trivial⟩, (by rw [ht]; exact hP9), hD9⟩, hS.F ht⟩) hS.2.2 dX12_clash_171
        · rw [ki_le] at c10921
          refine lv_iconst (v := 0) hx hb dX12_clash_30 (by decide) ?_
          refine lv_istore (lv' := [(5, .int 0), (0, .ref a0), (1, .int p0), (2, .int r1), (3, .int w3_1), (4, .int w4_1)]) hx hb dX12_clash_31 hl (by decide) rfl (fun ls hl => ?_)
          refine lv_iconst (v := 1) hx hb dX12_clash_33 (by decide) ?_
          refine lv_istore (lv' := [(6, .int 1), (5, .int 0), (0, .ref a0), (1, .int p0), (2, .int r1), (3, .int w3_1), (4, .int w4_1)]) hx hb dX12_clash_34 hl (by decide) rfl (fun ls hl => ?_)
          refine lv_iconst (v := 0) hx hb dX12_clash_36 (by decide) ?_
          refine lv_istore (lv' := [(7, .int 0), (6, .int 1), (5, .int 0), (0, .ref a0), (1, .int p0), (2, .int r1), (3, .int w3_1), (4, .int w4_1)]) hx hb dX12_clash_37 hl (by decide) rfl (fun ls hl => ?_)
          have lp79 : ∀ (d : Nat), ∀ (H : Heap) (locs : List Loc) (ls : Array Slot) (w5_79 : Int32) (w6_79 : Int32) (w7_79 : Int32), ((0 : Int) ≤ w6_79.toInt ∧ w6_79.toInt ≤ 1) → ((0 : Int) ≤ w7_79.toInt ∧ w7_79.toInt ≤ 60) → (60 - w7_79.toInt).toNat < d → va_P (dC, dI) vwCl [(a0, .inr (12, [.int i0, .ref a1, .ref a2, .ref a3, .ref a4, .int i1, .ref a5, .int i2, .int i3, .int i4, .int i5, .int i6, .int i7, .int i8, .ref a6, .ref a7, .ref a8, .ref a9, .ref a10, .ref a11, .ref a12, .int i9, .ref a13, .int i10, .ref a14, .ref a15, .int i11, .ref a16, .ref a17, .ref a18, .ref a19, .int i12, .int i13, .int i14, .int i15, .int i16, .ref a20, .long j0, .ref a21, .ref a22, .ref a23, .ref a24])), (a1, .inl (cI, 544, .inl xF0)), (a21, .inl (cI, 4, .inl xF20)), (a23, .inl (cJ, 240, .inr (.inl xG22)))] H → va_D A [(a0, .inr (12, [.int i0, .ref a1, .ref a2, .ref a3, .ref a4, .int i1, .ref a5, .int i2, .int i3, .int i4, .int i5, .int i6, .int i7, .int i8, .ref a6, .ref a7, .ref a8, .ref a9, .ref a10, .ref a11, .ref a12, .int i9, .ref a13, .int i10, .ref a14, .ref a15, .int i11, .ref a16, .ref a17, .ref a18, .ref a19, .int i12, .int i13, .int i14, .int i15, .int i16, .ref a20, .long j0, .ref a21, .ref a22, .ref a23, .ref a24])), (a1, .inl (cI, 544, .inl xF0)), (a21, .inl (cI, 4, .inl xF20)), (a23, .inl (cJ, 240, .inr (.inl xG22)))] → va_S A s.heap H locs → lv_has ls 9 [(0, .ref a0), (1, .int p0), (2, .int r1), (3, .int w3_1), (4, .int w4_1), (5, .int w5_79), (6, .int w6_79), (7, .int w7_79)] → W p l e ({ frames := 3, cells := 0, slots := 0, locals := 67 } : Room) s m ([.ref a0, .int p0] : List Value).toArray below meth c H locs 0 0 Q (F0 m 39 ls []) := by
            intro d
            induction d with
            | zero =>
              intro H locs ls w5_79 w6_79 w7_79 hr_w6_79 hr_w7_79 hm hP hD hS hl
              omega
            | succ d ih79 =>
              intro H locs ls w5_79 w6_79 w7_79 hr_w6_79 hr_w7_79 hm hP hD hS hl
              refine lv_iload hx hb dX12_clash_39 (lv_at hl 7 rfl) ?_
              refine lv_aload_n hx hb dX12_clash_41 rfl (lv_at hl 0 rfl) ?_
              refine va_get (D := (dC, dI)) (ci := 12) (v := .ref a21) (C := RX12) (T := TX12) (N := 42) hx hb hwd inlX12 hown hK hP 0 rfl rfl 38 (by decide) (hwd _ kr8_0) (fun _ h9 => h9) rfl dX12_clash_42 ?_
              refine lv_iload_n hx hb dX12_clash_45 rfl (lv_at hl 1 rfl) ?_
              have h12298 : vp_in p0 4 := (vp_of (by omega) (by omega))
              refine va_iald hx hb hK hP 2 0 rfl rfl h12298 dX12_clash_46 ?_
              refine lv_topi (fun x12299 ex12299 => ?_)
              have ix12299 : x12299.toInt = (xF20 p0.toInt.toNat).toInt := by rw [ex12299]; rfl
              have tx12299 : (-1 : Int) ≤ x12299.toInt ∧ x12299.toInt ≤ 60 := by rw [ex12299]; exact p_8 _ (vp_nat h12298)
              refine lv_icmp_ge (tgt := 148) hx hb dX12_clash_47 (by decide) (fun c12300 => ?_) (fun c12300 => ?_)
              · rw [ki_le] at c12300
                refine lv_iload hx hb dX12_clash_148 (lv_at hl 6 rfl) ?_
                refine lv_if_eq (tgt := 162) hx hb dX12_clash_150 (by decide) (fun c12301 => ?_) (fun c12301 => ?_)
                · rw [ki_eq] at c12301
                  refine lv_iload_n hx hb dX12_clash_162 rfl (lv_at hl 3 rfl) ?_
                  refine lv_istore_n (lv' := [(3, .int w3_1), (0, .ref a0), (1, .int p0), (2, .int r1), (4, .int w4_1), (5, .int w5_79), (6, .int w6_79), (7, .int w7_79)]) hx hb dX12_clash_163 rfl hl (by decide) rfl (fun ls hl => ?_)
                  obtain ⟨x12302, ex12302⟩ : ∃ y : Int32, y = w4_1 + 1 := ⟨_, rfl⟩
                  refine lv_iinc (v := x12302) (lv' := [(4, .int x12302), (3, .int w3_1), (0, .ref a0), (1, .int p0), (2, .int r1), (5, .int w5_79), (6, .int w6_79), (7, .int w7_79)]) hx hb dX12_clash_164 hl (k := 4) rfl (by rw [ex12302]; rfl) (by decide) rfl (fun ls hl => ?_)
                  have tx12302 := ia_add (a := w4_1) (b := (1 : Int32)) (by omega) (by omega)
                  rw [← ex12302] at tx12302
                  refine lv_goto (tgt := 17) hx hb dX12_clash_167 (by decide) ?_
                  exact ih1 _ _ ls w3_1 x12302 (show (0 : Int) ≤ w3_1.toInt ∧ w3_1.toInt ≤ 2147483647 from ⟨by omega, i32_hi⟩) (show (1 : Int) ≤ x12302.toInt ∧ x12302.toInt ≤ 256 from ⟨by omega, by omega⟩) (by omega) (hP.sub (ws' := [(a0, .inr (12, [.int i0, .ref a1, .ref a2, .ref a3, .ref a4, .int i1, .ref a5, .int i2, .int i3, .int i4, .int i5, .int i6, .int i7, .int i8, .ref a6, .ref a7, .ref a8, .ref a9, .ref a10, .ref a11, .ref a12, .int i9, .ref a13, .int i10, .ref a14, .ref a15, .int i11, .ref a16, .ref a17, .ref a18, .ref a19, .int i12, .int i13, .int i14, .int i15, .int i16, .ref a20, .long j0, .ref a21, .ref a22, .ref a23, .ref a24])), (a1, .inl (cI, 544, .inl xF0)), (a21, .inl (cI, 4, .inl xF20)), (a23, .inl (cJ, 240, .inr (.inl xG22)))]) [0, 1, 2, 3] rfl) (hD.sub (ws' := [(a0, .inr (12, [.int i0, .ref a1, .ref a2, .ref a3, .ref a4, .int i1, .ref a5, .int i2, .int i3, .int i4, .int i5, .int i6, .int i7, .int i8, .ref a6, .ref a7, .ref a8, .ref a9, .ref a10, .ref a11, .ref a12, .int i9, .ref a13, .int i10, .ref a14, .ref a15, .int i11, .ref a16, .ref a17, .ref a18, .ref a19, .int i12, .int i13, .int i14, .int i15, .int i16, .ref a20, .long j0, .ref a21, .ref a22, .ref a23, .ref a24])), (a1, .inl (cI, 544, .inl xF0)), (a21, .inl (cI, 4, .inl xF20)), (a23, .inl (cJ, 240, .inr (.inl xG22)))]) [0, 1, 2, 3] (by decide) rfl) hS (lv_sub hl [2, 3, 4, 1, 0] rfl)
                · rw [ki_eq] at c12301
                  refine lv_iload_n hx hb dX12_clash_153 rfl (lv_at hl 3 rfl) ?_
                  refine lv_iload hx hb dX12_clash_154 (lv_at hl 5 rfl) ?_
                  refine va_mmax hx hb (by rw [hml]; exact hl.1.symm) hown (hwd _ kr27_5) (hwd _ kr19_3) (hwd _ kr19_4) (hwd _ kr19_5) (Nat.le_of_ble_eq_true rfl) (Nat.le_of_ble_eq_true rfl) (Nat.le_of_ble_eq_true rfl) (Nat.le_of_ble_eq_true rfl) dX12_clash_156 ?_
                  refine lv_topi (fun x12303 ex12303 => ?_)
                  have tx12303 := mx_max w3_1 w5_79
                  rw [← ex12303] at tx12303
                  refine lv_goto (tgt := 163) hx hb dX12_clash_159 (by decide) ?_
                  refine lv_istore_n (lv' := [(3, .int x12303), (0, .ref a0), (1, .int p0), (2, .int r1), (4, .int w4_1), (5, .int w5_79), (6, .int w6_79), (7, .int w7_79)]) hx hb dX12_clash_163 rfl hl (by decide) rfl (fun ls hl => ?_)
                  obtain ⟨x12304, ex12304⟩ : ∃ y : Int32, y = w4_1 + 1 := ⟨_, rfl⟩
                  refine lv_iinc (v := x12304) (lv' := [(4, .int x12304), (3, .int x12303), (0, .ref a0), (1, .int p0), (2, .int r1), (5, .int w5_79), (6, .int w6_79), (7, .int w7_79)]) hx hb dX12_clash_164 hl (k := 4) rfl (by rw [ex12304]; rfl) (by decide) rfl (fun ls hl => ?_)
                  have tx12304 := ia_add (a := w4_1) (b := (1 : Int32)) (by omega) (by omega)
                  rw [← ex12304] at tx12304
                  refine lv_goto (tgt := 17) hx hb dX12_clash_167 (by decide) ?_
                  exact ih1 _ _ ls x12303 x12304 (show (0 : Int) ≤ x12303.toInt ∧ x12303.toInt ≤ 2147483647 from ⟨by omega, i32_hi⟩) (show (1 : Int) ≤ x12304.toInt ∧ x12304.toInt ≤ 256 from ⟨by omega, by omega⟩) (by omega) (hP.sub (ws' := [(a0, .inr (12, [.int i0, .ref a1, .ref a2, .ref a3, .ref a4, .int i1, .ref a5, .int i2, .int i3, .int i4, .int i5, .int i6, .int i7, .int i8, .ref a6, .ref a7, .ref a8, .ref a9, .ref a10, .ref a11, .ref a12, .int i9, .ref a13, .int i10, .ref a14, .ref a15, .int i11, .ref a16, .ref a17, .ref a18, .ref a19, .int i12, .int i13, .int i14, .int i15, .int i16, .ref a20, .long j0, .ref a21, .ref a22, .ref a23, .ref a24])), (a1, .inl (cI, 544, .inl xF0)), (a21, .inl (cI, 4, .inl xF20)), (a23, .inl (cJ, 240, .inr (.inl xG22)))]) [0, 1, 2, 3] rfl) (hD.sub (ws' := [(a0, .inr (12, [.int i0, .ref a1, .ref a2, .ref a3, .ref a4, .int i1, .ref a5, .int i2, .int i3, .int i4, .int i5, .int i6, .int i7, .int i8, .ref a6, .ref a7, .ref a8, .ref a9, .ref a10, .ref a11, .ref a12, .int i9, .ref a13, .int i10, .ref a14, .ref a15, .int i11, .ref a16, .ref a17, .ref a18, .ref a19, .int i12, .int i13, .int i14, .int i15, .int i16, .ref a20, .long j0, .ref a21, .ref a22, .ref a23, .ref a24])), (a1, .inl (cI, 544, .inl xF0)), (a21, .inl (cI, 4, .inl xF20)), (a23, .inl (cJ, 240, .inr (.inl xG22)))]) [0, 1, 2, 3] (by decide) rfl) hS (lv_sub hl [2, 3, 4, 1, 0] rfl)
              · rw [ki_le] at c12300
                refine lv_iload hx hb dX12_clash_50 (lv_at hl 5 rfl) ?_
                refine lv_iload hx hb dX12_clash_52 (lv_at hl 4 rfl) ?_
                refine lv_iload hx hb dX12_clash_54 (lv_at hl 7 rfl) ?_
                refine lv_ishr hx hb dX12_clash_56 ?_
                refine lv_topi (fun x12305 ex12305 => ?_)
                refine lv_iconst (v := 1) hx hb dX12_clash_57 (by decide) ?_
                refine lv_iand hx hb dX12_clash_58 ?_
                refine lv_topi (fun x12306 ex12306 => ?_)
                have tx12306 := ia_and (a := x12305) (m := (1 : Int32)) (by decide)
                rw [← ex12306] at tx12306
                refine lv_iadd hx hb dX12_clash_59 ?_
                refine lv_topi (fun x12307 ex12307 => ?_)
                refine lv_istore (lv' := [(5, .int x12307), (0, .ref a0), (1, .int p0), (2, .int r1), (3, .int w3_1), (4, .int w4_1), (6, .int w6_79), (7, .int w7_79)]) hx hb dX12_clash_60 hl (by decide) rfl (fun ls hl => ?_)
                refine lv_iconst (v := 0) hx hb dX12_clash_62 (by decide) ?_
                refine lv_istore (lv' := [(8, .int 0), (5, .int x12307), (0, .ref a0), (1, .int p0), (2, .int r1), (3, .int w3_1), (4, .int w4_1), (6, .int w6_79), (7, .int w7_79)]) hx hb dX12_clash_63 hl (by decide) rfl (fun ls hl => ?_)
                have lp89 : ∀ (d : Nat), ∀ (H : Heap) (locs : List Loc) (ls : Array Slot) (w6_89 : Int32) (w8_89 : Int32), ((0 : Int) ≤ w6_89.toInt ∧ w6_89.toInt ≤ 1) → ((0 : Int) ≤ w8_89.toInt ∧ w8_89.toInt ≤ 59) → (59 - w8_89.toInt).toNat < d → va_P (dC, dI) vwCl [(a0, .inr (12, [.int i0, .ref a1, .ref a2, .ref a3, .ref a4, .int i1, .ref a5, .int i2, .int i3, .int i4, .int i5, .int i6, .int i7, .int i8, .ref a6, .ref a7, .ref a8, .ref a9, .ref a10, .ref a11, .ref a12, .int i9, .ref a13, .int i10, .ref a14, .ref a15, .int i11, .ref a16, .ref a17, .ref a18, .ref a19, .int i12, .int i13, .int i14, .int i15, .int i16, .ref a20, .long j0, .ref a21, .ref a22, .ref a23, .ref a24])), (a1, .inl (cI, 544, .inl xF0)), (a21, .inl (cI, 4, .inl xF20)), (a23, .inl (cJ, 240, .inr (.inl xG22)))] H → va_D A [(a0, .inr (12, [.int i0, .ref a1, .ref a2, .ref a3, .ref a4, .int i1, .ref a5, .int i2, .int i3, .int i4, .int i5, .int i6, .int i7, .int i8, .ref a6, .ref a7, .ref a8, .ref a9, .ref a10, .ref a11, .ref a12, .int i9, .ref a13, .int i10, .ref a14, .ref a15, .int i11, .ref a16, .ref a17, .ref a18, .ref a19, .int i12, .int i13, .int i14, .int i15, .int i16, .ref a20, .long j0, .ref a21, .ref a22, .ref a23, .ref a24])), (a1, .inl (cI, 544, .inl xF0)), (a21, .inl (cI, 4, .inl xF20)), (a23, .inl (cJ, 240, .inr (.inl xG22)))] → va_S A s.heap H locs → lv_has ls 9 [(0, .ref a0), (1, .int p0), (2, .int r1), (3, .int w3_1), (4, .int w4_1), (5, .int x12307), (6, .int w6_89), (7, .int w7_79), (8, .int w8_89)] → W p l e ({ frames := 3, cells := 0, slots := 0, locals := 67 } : Room) s m ([.ref a0, .int p0] : List Value).toArray below meth c H locs 0 0 Q (F0 m 65 ls []) := by
                  intro d
                  induction d with
                  | zero =>
                    intro H locs ls w6_89 w8_89 hr_w6_89 hr_w8_89 hm hP hD hS hl
                    omega
                  | succ d ih89 =>
                    intro H locs ls w6_89 w8_89 hr_w6_89 hr_w8_89 hm hP hD hS hl
                    refine lv_iload hx hb dX12_clash_65 (lv_at hl 8 rfl) ?_
                    refine lv_iload hx hb dX12_clash_67 (lv_at hl 7 rfl) ?_
                    refine lv_icmp_ge (tgt := 142) hx hb dX12_clash_69 (by decide) (fun c12453 => ?_) (fun c12453 => ?_)
                    · rw [ki_le] at c12453
                      obtain ⟨x12454, ex12454⟩ : ∃ y : Int32, y = w7_79 + 1 := ⟨_, rfl⟩
                      refine lv_iinc (v := x12454) (lv' := [(7, .int x12454), (0, .ref a0), (1, .int p0), (2, .int r1), (3, .int w3_1), (4, .int w4_1), (5, .int x12307), (6, .int w6_89), (8, .int w8_89)]) hx hb dX12_clash_142 hl (k := 7) rfl (by rw [ex12454]; rfl) (by decide) rfl (fun ls hl => ?_)
                      have tx12454 := ia_add (a := w7_79) (b := (1 : Int32)) (by omega) (by omega)
                      rw [← ex12454] at tx12454
                      refine lv_goto (tgt := 39) hx hb dX12_clash_145 (by decide) ?_
                      exact ih79 _ _ ls x12307 w6_89 x12454 (show (0 : Int) ≤ w6_89.toInt ∧ w6_89.toInt ≤ 1 from ⟨by omega, by omega⟩) (show (0 : Int) ≤ x12454.toInt ∧ x12454.toInt ≤ 60 from ⟨by omega, by omega⟩) (by omega) (hP.sub (ws' := [(a0, .inr (12, [.int i0, .ref a1, .ref a2, .ref a3, .ref a4, .int i1, .ref a5, .int i2, .int i3, .int i4, .int i5, .int i6, .int i7, .int i8, .ref a6, .ref a7, .ref a8, .ref a9, .ref a10, .ref a11, .ref a12, .int i9, .ref a13, .int i10, .ref a14, .ref a15, .int i11, .ref a16, .ref a17, .ref a18, .ref a19, .int i12, .int i13, .int i14, .int i15, .int i16, .ref a20, .long j0, .ref a21, .ref a22, .ref a23, .ref a24])), (a1, .inl (cI, 544, .inl xF0)), (a21, .inl (cI, 4, .inl xF20)), (a23, .inl (cJ, 240, .inr (.inl xG22)))]) [0, 1, 2, 3] rfl) (hD.sub (ws' := [(a0, .inr (12, [.int i0, .ref a1, .ref a2, .ref a3, .ref a4, .int i1, .ref a5, .int i2, .int i3, .int i4, .int i5, .int i6, .int i7, .int i8, .ref a6, .ref a7, .ref a8, .ref a9, .ref a10, .ref a11, .ref a12, .int i9, .ref a13, .int i10, .ref a14, .ref a15, .int i11, .ref a16, .ref a17, .ref a18, .ref a19, .int i12, .int i13, .int i14, .int i15, .int i16, .ref a20, .long j0, .ref a21, .ref a22, .ref a23, .ref a24])), (a1, .inl (cI, 544, .inl xF0)), (a21, .inl (cI, 4, .inl xF20)), (a23, .inl (cJ, 240, .inr (.inl xG22)))]) [0, 1, 2, 3] (by decide) rfl) hS (lv_sub hl [1, 2, 3, 4, 5, 6, 7, 0] rfl)
                    · rw [ki_le] at c12453
                      refine lv_iload hx hb dX12_clash_72 (lv_at hl 6 rfl) ?_
                      refine lv_if_eq (tgt := 133) hx hb dX12_clash_74 (by decide) (fun c12455 => ?_) (fun c12455 => ?_)
                      · rw [ki_eq] at c12455
                        refine lv_iconst (v := 0) hx hb dX12_clash_133 (by decide) ?_
                        refine lv_istore (lv' := [(6, .int 0), (0, .ref a0), (1, .int p0), (2, .int r1), (3, .int w3_1), (4, .int w4_1), (5, .int x12307), (7, .int w7_79), (8, .int w8_89)]) hx hb dX12_clash_134 hl (by decide) rfl (fun ls hl => ?_)
                        obtain ⟨x12456, ex12456⟩ : ∃ y : Int32, y = w8_89 + 1 := ⟨_, rfl⟩
                        refine lv_iinc (v := x12456) (lv' := [(8, .int x12456), (6, .int 0), (0, .ref a0), (1, .int p0), (2, .int r1), (3, .int w3_1), (4, .int w4_1), (5, .int x12307), (7, .int w7_79)]) hx hb dX12_clash_136 hl (k := 8) rfl (by rw [ex12456]; rfl) (by decide) rfl (fun ls hl => ?_)
                        have tx12456 := ia_add (a := w8_89) (b := (1 : Int32)) (by omega) (by omega)
                        rw [← ex12456] at tx12456
                        refine lv_goto (tgt := 65) hx hb dX12_clash_139 (by decide) ?_
                        exact ih89 _ _ ls (0) x12456 (show (0 : Int) ≤ (0 : Int32).toInt ∧ (0 : Int32).toInt ≤ 1 from ⟨by omega, by omega⟩) (show (0 : Int) ≤ x12456.toInt ∧ x12456.toInt ≤ 59 from ⟨by omega, by omega⟩) (by omega) (hP.sub (ws' := [(a0, .inr (12, [.int i0, .ref a1, .ref a2, .ref a3, .ref a4, .int i1, .ref a5, .int i2, .int i3, .int i4, .int i5, .int i6, .int i7, .int i8, .ref a6, .ref a7, .ref a8, .ref a9, .ref a10, .ref a11, .ref a12, .int i9, .ref a13, .int i10, .ref a14, .ref a15, .int i11, .ref a16, .ref a17, .ref a18, .ref a19, .int i12, .int i13, .int i14, .int i15, .int i16, .ref a20, .long j0, .ref a21, .ref a22, .ref a23, .ref a24])), (a1, .inl (cI, 544, .inl xF0)), (a21, .inl (cI, 4, .inl xF20)), (a23, .inl (cJ, 240, .inr (.inl xG22)))]) [0, 1, 2, 3] rfl) (hD.sub (ws' := [(a0, .inr (12, [.int i0, .ref a1, .ref a2, .ref a3, .ref a4, .int i1, .ref a5, .int i2, .int i3, .int i4, .int i5, .int i6, .int i7, .int i8, .ref a6, .ref a7, .ref a8, .ref a9, .ref a10, .ref a11, .ref a12, .int i9, .ref a13, .int i10, .ref a14, .ref a15, .int i11, .ref a16, .ref a17, .ref a18, .ref a19, .int i12, .int i13, .int i14, .int i15, .int i16, .ref a20, .long j0, .ref a21, .ref a22, .ref a23, .ref a24])), (a1, .inl (cI, 544, .inl xF0)), (a21, .inl (cI, 4, .inl xF20)), (a23, .inl (cJ, 240, .inr (.inl xG22)))]) [0, 1, 2, 3] (by decide) rfl) hS (lv_sub hl [2, 3, 4, 5, 6, 7, 1, 8, 0] rfl)
                      · rw [ki_eq] at c12455
                        refine lv_iload hx hb dX12_clash_77 (lv_at hl 4 rfl) ?_
                        refine lv_iload hx hb dX12_clash_79 (lv_at hl 7 rfl) ?_
                        refine lv_ishr hx hb dX12_clash_81 ?_
                        refine lv_topi (fun x12457 ex12457 => ?_)
                        refine lv_iload hx hb dX12_clash_82 (lv_at hl 4 rfl) ?_
                        refine lv_iload hx hb dX12_clash_84 (lv_at hl 8 rfl) ?_
                        refine lv_ishr hx hb dX12_clash_86 ?_
                        refine lv_topi (fun x12458 ex12458 => ?_)
                        refine lv_iand hx hb dX12_clash_87 ?_
                        refine lv_topi (fun x12459 ex12459 => ?_)
                        refine lv_iconst (v := 1) hx hb dX12_clash_88 (by decide) ?_
                        refine lv_iand hx hb dX12_clash_89 ?_
                        refine lv_topi (fun x12460 ex12460 => ?_)
                        have tx12460 := ia_and (a := x12459) (m := (1 : Int32)) (by decide)
                        rw [← ex12460] at tx12460
                        refine lv_if_eq (tgt := 129) hx hb dX12_clash_90 (by decide) (fun c12461 => ?_) (fun c12461 => ?_)
                        · rw [ki_eq] at c12461
                          refine lv_iconst (v := 1) hx hb dX12_clash_129 (by decide) ?_
                          refine lv_goto (tgt := 134) hx hb dX12_clash_130 (by decide) ?_
                          refine lv_istore (lv' := [(6, .int 1), (0, .ref a0), (1, .int p0), (2, .int r1), (3, .int w3_1), (4, .int w4_1), (5, .int x12307), (7, .int w7_79), (8, .int w8_89)]) hx hb dX12_clash_134 hl (by decide) rfl (fun ls hl => ?_)
                          obtain ⟨x12462, ex12462⟩ : ∃ y : Int32, y = w8_89 + 1 := ⟨_, rfl⟩
                          refine lv_iinc (v := x12462) (lv' := [(8, .int x12462), (6, .int 1), (0, .ref a0), (1, .int p0), (2, .int r1), (3, .int w3_1), (4, .int w4_1), (5, .int x12307), (7, .int w7_79)]) hx hb dX12_clash_136 hl (k := 8) rfl (by rw [ex12462]; rfl) (by decide) rfl (fun ls hl => ?_)
                          have tx12462 := ia_add (a := w8_89) (b := (1 : Int32)) (by omega) (by omega)
                          rw [← ex12462] at tx12462
                          refine lv_goto (tgt := 65) hx hb dX12_clash_139 (by decide) ?_
                          exact ih89 _ _ ls (1) x12462 (show (0 : Int) ≤ (1 : Int32).toInt ∧ (1 : Int32).toInt ≤ 1 from ⟨by omega, by omega⟩) (show (0 : Int) ≤ x12462.toInt ∧ x12462.toInt ≤ 59 from ⟨by omega, by omega⟩) (by omega) (hP.sub (ws' := [(a0, .inr (12, [.int i0, .ref a1, .ref a2, .ref a3, .ref a4, .int i1, .ref a5, .int i2, .int i3, .int i4, .int i5, .int i6, .int i7, .int i8, .ref a6, .ref a7, .ref a8, .ref a9, .ref a10, .ref a11, .ref a12, .int i9, .ref a13, .int i10, .ref a14, .ref a15, .int i11, .ref a16, .ref a17, .ref a18, .ref a19, .int i12, .int i13, .int i14, .int i15, .int i16, .ref a20, .long j0, .ref a21, .ref a22, .ref a23, .ref a24])), (a1, .inl (cI, 544, .inl xF0)), (a21, .inl (cI, 4, .inl xF20)), (a23, .inl (cJ, 240, .inr (.inl xG22)))]) [0, 1, 2, 3] rfl) (hD.sub (ws' := [(a0, .inr (12, [.int i0, .ref a1, .ref a2, .ref a3, .ref a4, .int i1, .ref a5, .int i2, .int i3, .int i4, .int i5, .int i6, .int i7, .int i8, .ref a6, .ref a7, .ref a8, .ref a9, .ref a10, .ref a11, .ref a12, .int i9, .ref a13, .int i10, .ref a14, .ref a15, .int i11, .ref a16, .ref a17, .ref a18, .ref a19, .int i12, .int i13, .int i14, .int i15, .int i16, .ref a20, .long j0, .ref a21, .ref a22, .ref a23, .ref a24])), (a1, .inl (cI, 544, .inl xF0)), (a21, .inl (cI, 4, .inl xF20)), (a23, .inl (cJ, 240, .inr (.inl xG22)))]) [0, 1, 2, 3] (by decide) rfl) hS (lv_sub hl [2, 3, 4, 5, 6, 7, 1, 8, 0] rfl)
                        · rw [ki_eq] at c12461
                          refine lv_aload_n hx hb dX12_clash_93 rfl (lv_at hl 0 rfl) ?_
                          refine va_get (D := (dC, dI)) (ci := 12) (v := .ref a23) (C := RX12) (T := TX12) (N := 42) hx hb hwd inlX12 hown hK hP 0 rfl rfl 40 (by decide) (hwd _ kr8_2) (fun _ h9 => h9) rfl dX12_clash_94 ?_
                          refine lv_bipush (v := 60) hx hb dX12_clash_97 (by decide) ?_
                          refine lv_iload_n hx hb dX12_clash_99 rfl (lv_at hl 1 rfl) ?_
                          refine lv_imul hx hb dX12_clash_100 ?_
                          refine lv_topi (fun x12463 ex12463 => ?_)
                          have tx12463 := ia_mull (a := (60 : Int32)) (b := p0) 60 (by decide) (by omega) (by omega)
                          rw [← ex12463] at tx12463
                          refine lv_iload hx hb dX12_clash_101 (lv_at hl 7 rfl) ?_
                          refine lv_iadd hx hb dX12_clash_103 ?_
                          refine lv_topi (fun x12464 ex12464 => ?_)
                          have tx12464 := ia_add (a := x12463) (b := w7_79) (by omega) (by omega)
                          rw [← ex12464] at tx12464
                          have h12465 : vp_in x12464 240 := (vp_of (by omega) (by omega))
                          refine va_lald hx hb hK hP 3 3 rfl rfl h12465 dX12_clash_104 ?_
                          refine lv_topl (fun x12466 ex12466 => ?_)
                          refine lv_aload_n hx hb dX12_clash_105 rfl (lv_at hl 0 rfl) ?_
                          refine va_get (D := (dC, dI)) (ci := 12) (v := .ref a23) (C := RX12) (T := TX12) (N := 42) hx hb hwd inlX12 hown hK hP 0 rfl rfl 40 (by decide) (hwd _ kr8_2) (fun _ h9 => h9) rfl dX12_clash_106 ?_
                          refine lv_bipush (v := 60) hx hb dX12_clash_109 (by decide) ?_
                          refine lv_iload_n hx hb dX12_clash_111 rfl (lv_at hl 1 rfl) ?_
                          refine lv_imul hx hb dX12_clash_112 ?_
                          refine lv_topi (fun x12467 ex12467 => ?_)
                          have tx12467 := ia_mull (a := (60 : Int32)) (b := p0) 60 (by decide) (by omega) (by omega)
                          rw [← ex12467] at tx12467
                          refine lv_iload hx hb dX12_clash_113 (lv_at hl 8 rfl) ?_
                          refine lv_iadd hx hb dX12_clash_115 ?_
                          refine lv_topi (fun x12468 ex12468 => ?_)
                          have tx12468 := ia_add (a := x12467) (b := w8_89) (by omega) (by omega)
                          rw [← ex12468] at tx12468
                          have h12469 : vp_in x12468 240 := (vp_of (by omega) (by omega))
                          refine va_lald hx hb hK hP 3 3 rfl rfl h12469 dX12_clash_116 ?_
                          refine lv_topl (fun x12470 ex12470 => ?_)
                          refine lv_ladd hx hb dX12_clash_117 ?_
                          refine lv_topl (fun x12471 ex12471 => ?_)
                          refine lv_aload_n hx hb dX12_clash_118 rfl (lv_at hl 0 rfl) ?_
                          refine va_get (D := (dC, dI)) (ci := 12) (v := .ref a1) (C := RX12) (T := TX12) (N := 42) hx hb hwd inlX12 hown hK hP 0 rfl rfl 1 (by decide) (hwd _ kr7_3) (fun _ h9 => h9) rfl dX12_clash_119 ?_
                          refine lv_iconst (v := 1) hx hb dX12_clash_122 (by decide) ?_
                          have h12472 : vp_in (1 : Int32) 544 := (vin (by decide))
                          refine va_iald hx hb hK hP 1 0 rfl rfl h12472 dX12_clash_123 ?_
                          refine lv_topi (fun x12473 ex12473 => ?_)
                          have ix12473 := wat_lit (k := 1) ex12473 (by decide)
                          have wh12474 : whd cp xF0 := p_7.1
                          unfold whd at wh12474
                          refine lv_i2l hx hb dX12_clash_124 rfl ?_
                          refine W.lcmp hx hb dX12_clash_125 ?_
                          refine lv_if_le (tgt := 133) hx hb dX12_clash_126 (by decide) (fun c12475 => ?_) (fun c12475 => ?_)
                          · clear c12475
                            refine lv_iconst (v := 0) hx hb dX12_clash_133 (by decide) ?_
                            refine lv_istore (lv' := [(6, .int 0), (0, .ref a0), (1, .int p0), (2, .int r1), (3, .int w3_1), (4, .int w4_1), (5, .int x12307), (7, .int w7_79), (8, .int w8_89)]) hx hb dX12_clash_134 hl (by decide) rfl (fun ls hl => ?_)
                            obtain ⟨x12476, ex12476⟩ : ∃ y : Int32, y = w8_89 + 1 := ⟨_, rfl⟩
                            refine lv_iinc (v := x12476) (lv' := [(8, .int x12476), (6, .int 0), (0, .ref a0), (1, .int p0), (2, .int r1), (3, .int w3_1), (4, .int w4_1), (5, .int x12307), (7, .int w7_79)]) hx hb dX12_clash_136 hl (k := 8) rfl (by rw [ex12476]; rfl) (by decide) rfl (fun ls hl => ?_)
                            have tx12476 := ia_add (a := w8_89) (b := (1 : Int32)) (by omega) (by omega)
                            rw [← ex12476] at tx12476
                            refine lv_goto (tgt := 65) hx hb dX12_clash_139 (by decide) ?_
                            exact ih89 _ _ ls (0) x12476 (show (0 : Int) ≤ (0 : Int32).toInt ∧ (0 : Int32).toInt ≤ 1 from ⟨by omega, by omega⟩) (show (0 : Int) ≤ x12476.toInt ∧ x12476.toInt ≤ 59 from ⟨by omega, by omega⟩) (by omega) (hP.sub (ws' := [(a0, .inr (12, [.int i0, .ref a1, .ref a2, .ref a3, .ref a4, .int i1, .ref a5, .int i2, .int i3, .int i4, .int i5, .int i6, .int i7, .int i8, .ref a6, .ref a7, .ref a8, .ref a9, .ref a10, .ref a11, .ref a12, .int i9, .ref a13, .int i10, .ref a14, .ref a15, .int i11, .ref a16, .ref a17, .ref a18, .ref a19, .int i12, .int i13, .int i14, .int i15, .int i16, .ref a20, .long j0, .ref a21, .ref a22, .ref a23, .ref a24])), (a1, .inl (cI, 544, .inl xF0)), (a21, .inl (cI, 4, .inl xF20)), (a23, .inl (cJ, 240, .inr (.inl xG22)))]) [0, 1, 2, 3] rfl) (hD.sub (ws' := [(a0, .inr (12, [.int i0, .ref a1, .ref a2, .ref a3, .ref a4, .int i1, .ref a5, .int i2, .int i3, .int i4, .int i5, .int i6, .int i7, .int i8, .ref a6, .ref a7, .ref a8, .ref a9, .ref a10, .ref a11, .ref a12, .int i9, .ref a13, .int i10, .ref a14, .ref a15, .int i11, .ref a16, .ref a17, .ref a18, .ref a19, .int i12, .int i13, .int i14, .int i15, .int i16, .ref a20, .long j0, .ref a21, .ref a22, .ref a23, .ref a24])), (a1, .inl (cI, 544, .inl xF0)), (a21, .inl (cI, 4, .inl xF20)), (a23, .inl (cJ, 240, .inr (.inl xG22)))]) [0, 1, 2, 3] (by decide) rfl) hS (lv_sub hl [2, 3, 4, 5, 6, 7, 1, 8, 0] rfl)
                          · clear c12475
                            refine lv_iconst (v := 1) hx hb dX12_clash_129 (by decide) ?_
                            refine lv_goto (tgt := 134) hx hb dX12_clash_130 (by decide) ?_
                            refine lv_istore (lv' := [(6, .int 1), (0, .ref a0), (1, .int p0), (2, .int r1), (3, .int w3_1), (4, .int w4_1), (5, .int x12307), (7, .int w7_79), (8, .int w8_89)]) hx hb dX12_clash_134 hl (by decide) rfl (fun ls hl => ?_)
                            obtain ⟨x12477, ex12477⟩ : ∃ y : Int32, y = w8_89 + 1 := ⟨_, rfl⟩
                            refine lv_iinc (v := x12477) (lv' := [(8, .int x12477), (6, .int 1), (0, .ref a0), (1, .int p0), (2, .int r1), (3, .int w3_1), (4, .int w4_1), (5, .int x12307), (7, .int w7_79)]) hx hb dX12_clash_136 hl (k := 8) rfl (by rw [ex12477]; rfl) (by decide) rfl (fun ls hl => ?_)
                            have tx12477 := ia_add (a := w8_89) (b := (1 : Int32)) (by omega) (by omega)
                            rw [← ex12477] at tx12477
                            refine lv_goto (tgt := 65) hx hb dX12_clash_139 (by decide) ?_
                            exact ih89 _ _ ls (1) x12477 (show (0 : Int) ≤ (1 : Int32).toInt ∧ (1 : Int32).toInt ≤ 1 from ⟨by omega, by omega⟩) (show (0 : Int) ≤ x12477.toInt ∧ x12477.toInt ≤ 59 from ⟨by omega, by omega⟩) (by omega) (hP.sub (ws' := [(a0, .inr (12, [.int i0, .ref a1, .ref a2, .ref a3, .ref a4, .int i1, .ref a5, .int i2, .int i3, .int i4, .int i5, .int i6, .int i7, .int i8, .ref a6, .ref a7, .ref a8, .ref a9, .ref a10, .ref a11, .ref a12, .int i9, .ref a13, .int i10, .ref a14, .ref a15, .int i11, .ref a16, .ref a17, .ref a18, .ref a19, .int i12, .int i13, .int i14, .int i15, .int i16, .ref a20, .long j0, .ref a21, .ref a22, .ref a23, .ref a24])), (a1, .inl (cI, 544, .inl xF0)), (a21, .inl (cI, 4, .inl xF20)), (a23, .inl (cJ, 240, .inr (.inl xG22)))]) [0, 1, 2, 3] rfl) (hD.sub (ws' := [(a0, .inr (12, [.int i0, .ref a1, .ref a2, .ref a3, .ref a4, .int i1, .ref a5, .int i2, .int i3, .int i4, .int i5, .int i6, .int i7, .int i8, .ref a6, .ref a7, .ref a8, .ref a9, .ref a10, .ref a11, .ref a12, .int i9, .ref a13, .int i10, .ref a14, .ref a15, .int i11, .ref a16, .ref a17, .ref a18, .ref a19, .int i12, .int i13, .int i14, .int i15, .int i16, .ref a20, .long j0, .ref a21, .ref a22, .ref a23, .ref a24])), (a1, .inl (cI, 544, .inl xF0)), (a21, .inl (cI, 4, .inl xF20)), (a23, .inl (cJ, 240, .inr (.inl xG22)))]) [0, 1, 2, 3] (by decide) rfl) hS (lv_sub hl [2, 3, 4, 5, 6, 7, 1, 8, 0] rfl)
                exact lp89 _ _ _ ls w6_79 (0) (show (0 : Int) ≤ w6_79.toInt ∧ w6_79.toInt ≤ 1 from ⟨by omega, by omega⟩) (show (0 : Int) ≤ (0 : Int32).toInt ∧ (0 : Int32).toInt ≤ 59 from ⟨by omega, by omega⟩) (Nat.lt_succ_self _) (hP.sub (ws' := [(a0, .inr (12, [.int i0, .ref a1, .ref a2, .ref a3, .ref a4, .int i1, .ref a5, .int i2, .int i3, .int i4, .int i5, .int i6, .int i7, .int i8, .ref a6, .ref a7, .ref a8, .ref a9, .ref a10, .ref a11, .ref a12, .int i9, .ref a13, .int i10, .ref a14, .ref a15, .int i11, .ref a16, .ref a17, .ref a18, .ref a19, .int i12, .int i13, .int i14, .int i15, .int i16, .ref a20, .long j0, .ref a21, .ref a22, .ref a23, .ref a24])), (a1, .inl (cI, 544, .inl xF0)), (a21, .inl (cI, 4, .inl xF20)), (a23, .inl (cJ, 240, .inr (.inl xG22)))]) [0, 1, 2, 3] rfl) (hD.sub (ws' := [(a0, .inr (12, [.int i0, .ref a1, .ref a2, .ref a3, .ref a4, .int i1, .ref a5, .int i2, .int i3, .int i4, .int i5, .int i6, .int i7, .int i8, .ref a6, .ref a7, .ref a8, .ref a9, .ref a10, .ref a11, .ref a12, .int i9, .ref a13, .int i10, .ref a14, .ref a15, .int i11, .ref a16, .ref a17, .ref a18, .ref a19, .int i12, .int i13, .int i14, .int i15, .int i16, .ref a20, .long j0, .ref a21, .ref a22, .ref a23, .ref a24])), (a1, .inl (cI, 544, .inl xF0)), (a21, .inl (cI, 4, .inl xF20)), (a23, .inl (cJ, 240, .inr (.inl xG22)))]) [0, 1, 2, 3] (by decide) rfl) hS (lv_sub hl [2, 3, 4, 5, 6, 1, 7, 8, 0] rfl)
          exact lp79 _ _ _ ls (0) (1) (0) (show (0 : Int) ≤ (1 : Int32).toInt ∧ (1 : Int32).toInt ≤ 1 from ⟨by omega, by omega⟩) (show (0 : Int) ≤ (0 : Int32).toInt ∧ (0 : Int32).toInt ≤ 60 from ⟨by omega, by omega⟩) (Nat.lt_succ_self _) (hP.sub (ws' := [(a0, .inr (12, [.int i0, .ref a1, .ref a2, .ref a3, .ref a4, .int i1, .ref a5, .int i2, .int i3, .int i4, .int i5, .int i6, .int i7, .int i8, .ref a6, .ref a7, .ref a8, .ref a9, .ref a10, .ref a11, .ref a12, .int i9, .ref a13, .int i10, .ref a14, .ref a15, .int i11, .ref a16, .ref a17, .ref a18, .ref a19, .int i12, .int i13, .int i14, .int i15, .int i16, .ref a20, .long j0, .ref a21, .ref a22, .ref a23, .ref a24])), (a1, .inl (cI, 544, .inl xF0)), (a21, .inl (cI, 4, .inl xF20)), (a23, .inl (cJ, 240, .inr (.inl xG22)))]) [0, 1, 2, 3] rfl) (hD.sub (ws' := [(a0, .inr (12, [.int i0, .ref a1, .ref a2, .ref a3, .ref a4, .int i1, .ref a5, .int i2, .int i3, .int i4, .int i5, .int i6, .int i7, .int i8, .ref a6, .ref a7, .ref a8, .ref a9, .ref a10, .ref a11, .ref a12, .int i9, .ref a13, .int i10, .ref a14, .ref a15, .int i11, .ref a16, .ref a17, .ref a18, .ref a19, .int i12, .int i13, .int i14, .int i15, .int i16, .ref a20, .long j0, .ref a21, .ref a22, .ref a23, .ref a24])), (a1, .inl (cI, 544, .inl xF0)), (a21, .inl (cI, 4, .inl xF20)), (a23, .inl (cJ, 240, .inr (.inl xG22)))]) [0, 1, 2, 3] (by decide) rfl) hS (lv_sub hl [3, 4, 5, 6, 7, 2, 1, 0] rfl)
    exact lp1 _ _ _ ls (0) (1) (show (0 : Int) ≤ (0 : Int32).toInt ∧ (0 : Int32).toInt ≤ 2147483647 from ⟨by omega, i32_hi⟩) (show (1 : Int) ≤ (1 : Int32).toInt ∧ (1 : Int32).toInt ≤ 256 from ⟨by omega, by omega⟩) (Nat.lt_succ_self _) (hP.sub (ws' := [(a0, .inr (12, [.int i0, .ref a1, .ref a2, .ref a3, .ref a4, .int i1, .ref a5, .int i2, .int i3, .int i4, .int i5, .int i6, .int i7, .int i8, .ref a6, .ref a7, .ref a8, .ref a9, .ref a10, .ref a11, .ref a12, .int i9, .ref a13, .int i10, .ref a14, .ref a15, .int i11, .ref a16, .ref a17, .ref a18, .ref a19, .int i12, .int i13, .int i14, .int i15, .int i16, .ref a20, .long j0, .ref a21, .ref a22, .ref a23, .ref a24])), (a1, .inl (cI, 544, .inl xF0)), (a21, .inl (cI, 4, .inl xF20)), (a23, .inl (cJ, 240, .inr (.inl xG22)))]) [0, 1, 2, 3] rfl) (hD.sub (ws' := [(a0, .inr (12, [.int i0, .ref a1, .ref a2, .ref a3, .ref a4, .int i1, .ref a5, .int i2, .int i3, .int i4, .int i5, .int i6, .int i7, .int i8, .ref a6, .ref a7, .ref a8, .ref a9, .ref a10, .ref a11, .ref a12, .int i9, .ref a13, .int i10, .ref a14, .ref a15, .int i11, .ref a16, .ref a17, .ref a18, .ref a19, .int i12, .int i13, .int i14, .int i15, .int i16, .ref a20, .long j0, .ref a21, .ref a22, .ref a23, .ref a24])), (a1, .inl (cI, 544, .inl xF0)), (a21, .inl (cI, 4, .inl xF20)), (a23, .inl (cJ, 240, .inr (.inl xG22)))]) [0, 1, 2, 3] (by decide) rfl) hS (lv_sub hl [3, 4, 2, 1, 0] rfl)
  · rw [ki_le] at c5
    refine lv_iload_n hx hb dX12_clash_10 rfl (lv_at hl 0 rfl) ?_
    have hP9 := hP.sub (ws' := [(a0, .inr (12, [.int i0, .ref a1, .ref a2, .ref a3, .ref a4, .int i1, .ref a5, .int i2, .int i3, .int i4, .int i5, .int i6, .int i7, .int i8, .ref a6, .ref a7, .ref a8, .ref a9, .ref a10, .ref a11, .ref a12, .int i9, .ref a13, .int i10, .ref a14, .ref a15, .int i11, .ref a16, .ref a17, .ref a18, .ref a19, .int i12, .int i13, .int i14, .int i15, .int i16, .ref a20, .long j0, .ref a21, .ref a22, .ref a23, .ref a24])), (a1, .inl (cI, 544, .inl xF0)), (a21, .inl (cI, 4, .inl xF20)), (a23, .inl (cJ, 240, .inr (.inl xG22)))]) [0, 1, 2, 3] rfl
    have hD9 := hD.sub (ws' := [(a0, .inr (12, [.int i0, .ref a1, .ref a2, .ref a3, .ref a4, .int i1, .ref a5, .int i2, .int i3, .int i4, .int i5, .int i6, .int i7, .int i8, .ref a6, .ref a7, .ref a8, .ref a9, .ref a10, .ref a11, .ref a12, .int i9, .ref a13, .int i10, .ref a14, .ref a15, .int i11, .ref a16, .ref a17, .ref a18, .ref a19, .int i12, .int i13, .int i14, .int i15, .int i16, .ref a20, .long j0, .ref a21, .ref a22, .ref a23, .ref a24])), (a1, .inl (cI, 544, .inl xF0)), (a21, .inl (cI, 4, .inl xF20)), (a23, .inl (cJ, 240, .inr (.inl xG22)))]) [0, 1, 2, 3] (by decide) rfl
    rw [hQ]
    exact W.iret (v := r1) hx hb hr (fun t ht hW => ⟨⟨r1, (), rfl, ⟨(show (-6 : Int) ≤ r1.toInt ∧ r1.toInt ≤ 2147483647 from ⟨by omega, i32_hi⟩), trivial⟩, (by rw [ht]; exact hP9), hD9⟩, hS.F ht⟩) hS.2.2 dX12_clash_11
