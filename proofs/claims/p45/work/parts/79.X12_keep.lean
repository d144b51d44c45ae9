theorem dX12_keep_0 : decode cX12_keep 0 = .ok (.iload_n 1, 1) := by decide +kernel
theorem dX12_keep_1 : decode cX12_keep 1 = .ok (.i2l, 1) := by decide +kernel
theorem dX12_keep_2 : decode cX12_keep 2 = .ok (.lconst 0, 1) := by decide +kernel
theorem dX12_keep_3 : decode cX12_keep 3 = .ok (.ldc2_w 96, 3) := by decide +kernel
theorem dX12_keep_6 : decode cX12_keep 6 = .ok (.invokestatic 98, 3) := by decide +kernel
theorem dX12_keep_9 : decode cX12_keep 9 = .ok (.ifCond .ne 6, 3) := by decide +kernel
theorem dX12_keep_12 : decode cX12_keep 12 = .ok (.bipush (-2), 2) := by decide +kernel
theorem dX12_keep_14 : decode cX12_keep 14 = .ok (.ireturn, 1) := by decide +kernel
theorem dX12_keep_15 : decode cX12_keep 15 = .ok (.iconst 0, 1) := by decide +kernel
theorem dX12_keep_16 : decode cX12_keep 16 = .ok (.istore_n 2, 1) := by decide +kernel
theorem dX12_keep_17 : decode cX12_keep 17 = .ok (.iload_n 2, 1) := by decide +kernel
theorem dX12_keep_18 : decode cX12_keep 18 = .ok (.sipush 544, 3) := by decide +kernel
theorem dX12_keep_21 : decode cX12_keep 21 = .ok (.if_icmp .ge 27, 3) := by decide +kernel
theorem dX12_keep_24 : decode cX12_keep 24 = .ok (.aload_n 0, 1) := by decide +kernel
theorem dX12_keep_25 : decode cX12_keep 25 = .ok (.getfield 17, 3) := by decide +kernel
theorem dX12_keep_28 : decode cX12_keep 28 = .ok (.sipush 544, 3) := by decide +kernel
theorem dX12_keep_31 : decode cX12_keep 31 = .ok (.iload_n 1, 1) := by decide +kernel
theorem dX12_keep_32 : decode cX12_keep 32 = .ok (.imul, 1) := by decide +kernel
theorem dX12_keep_33 : decode cX12_keep 33 = .ok (.iload_n 2, 1) := by decide +kernel
theorem dX12_keep_34 : decode cX12_keep 34 = .ok (.iadd, 1) := by decide +kernel
theorem dX12_keep_35 : decode cX12_keep 35 = .ok (.aload_n 0, 1) := by decide +kernel
theorem dX12_keep_36 : decode cX12_keep 36 = .ok (.getfield 13, 3) := by decide +kernel
theorem dX12_keep_39 : decode cX12_keep 39 = .ok (.iload_n 2, 1) := by decide +kernel
theorem dX12_keep_40 : decode cX12_keep 40 = .ok (.iaload, 1) := by decide +kernel
theorem dX12_keep_41 : decode cX12_keep 41 = .ok (.iastore, 1) := by decide +kernel
theorem dX12_keep_42 : decode cX12_keep 42 = .ok (.iinc 2 1, 3) := by decide +kernel
theorem dX12_keep_45 : decode cX12_keep 45 = .ok (.goto (-28), 3) := by decide +kernel
theorem dX12_keep_48 : decode cX12_keep 48 = .ok (.aload_n 0, 1) := by decide +kernel
theorem dX12_keep_49 : decode cX12_keep 49 = .ok (.getfield 20, 3) := by decide +kernel
theorem dX12_keep_52 : decode cX12_keep 52 = .ok (.iload_n 1, 1) := by decide +kernel
theorem dX12_keep_53 : decode cX12_keep 53 = .ok (.iconst 1, 1) := by decide +kernel
theorem dX12_keep_54 : decode cX12_keep 54 = .ok (.bastore, 1) := by decide +kernel
theorem dX12_keep_55 : decode cX12_keep 55 = .ok (.iconst 0, 1) := by decide +kernel
theorem dX12_keep_56 : decode cX12_keep 56 = .ok (.ireturn, 1) := by decide +kernel
set_option maxHeartbeats 4000000 in
set_option maxRecDepth 100000 in
theorem s_X12_keep (l : Launch) (dC : Nat → ClassId) (dI : Nat → Nat → Nat) (cI cZ cB cJ cM cG : ClassId) (a0 a1 a2 a3 a4 a5 a6 a7 a8 a9 a10 a11 a12 a13 a14 a15 a16 a17 a18 a19 a20 a21 a22 a23 a24 : Nat) (i0 i1 i2 i3 i4 i5 i6 i7 i8 i9 i10 i11 i12 i13 i14 i15 i16 : Int32) (j0 : Int64) (xF0 xF1 xF2 : Nat → Int32) (p0 : Int32) (cp : Int) (sz : Nat) (p_0 : (0 : Int) ≤ i1.toInt ∧ i1.toInt ≤ 1600) (p_1 : (0 : Int) ≤ i2.toInt ∧ i2.toInt ≤ 1600) (p_2 : (0 : Int) ≤ i3.toInt ∧ i3.toInt ≤ 1600) (p_3 : (0 : Int) ≤ i4.toInt ∧ i4.toInt ≤ 1600) (p_4 : (0 : Int) ≤ i5.toInt ∧ i5.toInt ≤ 6) (p_5 : (0 : Int) ≤ i11.toInt ∧ i11.toInt ≤ 59) (p_6 : WI cp xF0) (p_7 : rng xF2 3 0 1) (p_8 : MI xF2) (p_9 : IMG cp xF1 xF2) (p_10 : 0 ≤ cp ∧ cp ≤ 2000000000) : Met l yX12_keep (kw yX12_keep cX12_keep 3 (some .int)) ({ frames := 1, cells := 0, slots := 0, locals := 25 } : Room) (va_Pc [.ref a0, .int p0] (kPre dC dI [(cI, .int), (cZ, .boolean), (cB, .byte), (cJ, .long), (cM, .object RX2), (cG, .array .int)] [(a0, .inr (12, [.int i0, .ref a1, .ref a2, .ref a3, .ref a4, .int i1, .ref a5, .int i2, .int i3, .int i4, .int i5, .int i6, .int i7, .int i8, .ref a6, .ref a7, .ref a8, .ref a9, .ref a10, .ref a11, .ref a12, .int i9, .ref a13, .int i10, .ref a14, .ref a15, .int i11, .ref a16, .ref a17, .ref a18, .ref a19, .int i12, .int i13, .int i14, .int i15, .int i16, .ref a20, .long j0, .ref a21, .ref a22, .ref a23, .ref a24])), (a1, .inl (cI, 544, .inl xF0)), (a2, .inl (cI, 1632, .inl xF1)), (a3, .inl (cZ, 3, .inl xF2))] sz)) (va_Qi (fun (r : Int32) (u9 : (Nat → Int32) × (Nat → Nat → Int32) × (Nat → Nat → Int64)) => ((-2 : Int) ≤ r.toInt ∧ r.toInt ≤ 0) ∧ (rng (u9.2.1 1) 3 0 1) ∧ (MI (u9.2.1 1)) ∧ (IMG cp (u9.2.1 0) (u9.2.1 1)) ∧ True) (fun u9 t => va_P (dC, dI) vwCl [(a0, .inr (12, [.int i0, .ref a1, .ref a2, .ref a3, .ref a4, .int i1, .ref a5, .int i2, .int i3, .int i4, .int i5, .int i6, .int i7, .int i8, .ref a6, .ref a7, .ref a8, .ref a9, .ref a10, .ref a11, .ref a12, .int i9, .ref a13, .int i10, .ref a14, .ref a15, .int i11, .ref a16, .ref a17, .ref a18, .ref a19, .int i12, .int i13, .int i14, .int i15, .int i16, .ref a20, .long j0, .ref a21, .ref a22, .ref a23, .ref a24])), (a1, .inl (cI, 544, .inl xF0)), (a2, .inl (cI, 1632, .inl (u9.2.1 0))), (a3, .inl (cZ, 3, .inl (u9.2.1 1)))] t.heap ∧ va_D (va_A [(a0, .inr (12, [.int i0, .ref a1, .ref a2, .ref a3, .ref a4, .int i1, .ref a5, .int i2, .int i3, .int i4, .int i5, .int i6, .int i7, .int i8, .ref a6, .ref a7, .ref a8, .ref a9, .ref a10, .ref a11, .ref a12, .int i9, .ref a13, .int i10, .ref a14, .ref a15, .int i11, .ref a16, .ref a17, .ref a18, .ref a19, .int i12, .int i13, .int i14, .int i15, .int i16, .ref a20, .long j0, .ref a21, .ref a22, .ref a23, .ref a24])), (a1, .inl (cI, 544, .inl xF0)), (a2, .inl (cI, 1632, .inl xF1)), (a3, .inl (cZ, 3, .inl xF2))] sz) [(a0, .inr (12, [.int i0, .ref a1, .ref a2, .ref a3, .ref a4, .int i1, .ref a5, .int i2, .int i3, .int i4, .int i5, .int i6, .int i7, .int i8, .ref a6, .ref a7, .ref a8, .ref a9, .ref a10, .ref a11, .ref a12, .int i9, .ref a13, .int i10, .ref a14, .ref a15, .int i11, .ref a16, .ref a17, .ref a18, .ref a19, .int i12, .int i13, .int i14, .int i15, .int i16, .ref a20, .long j0, .ref a21, .ref a22, .ref a23, .ref a24])), (a1, .inl (cI, 544, .inl xF0)), (a2, .inl (cI, 1632, .inl (u9.2.1 0))), (a3, .inl (cZ, 3, .inl (u9.2.1 1)))]) (va_A [(a0, .inr (12, [.int i0, .ref a1, .ref a2, .ref a3, .ref a4, .int i1, .ref a5, .int i2, .int i3, .int i4, .int i5, .int i6, .int i7, .int i8, .ref a6, .ref a7, .ref a8, .ref a9, .ref a10, .ref a11, .ref a12, .int i9, .ref a13, .int i10, .ref a14, .ref a15, .int i11, .ref a16, .ref a17, .ref a18, .ref a19, .int i12, .int i13, .int i14, .int i15, .int i16, .ref a20, .long j0, .ref a21, .ref a22, .ref a23, .ref a24])), (a1, .inl (cI, 544, .inl xF0)), (a2, .inl (cI, 1632, .inl xF1)), (a3, .inl (cZ, 3, .inl xF2))] sz)) 0 0 (va_A [(a0, .inr (12, [.int i0, .ref a1, .ref a2, .ref a3, .ref a4, .int i1, .ref a5, .int i2, .int i3, .int i4, .int i5, .int i6, .int i7, .int i8, .ref a6, .ref a7, .ref a8, .ref a9, .ref a10, .ref a11, .ref a12, .int i9, .ref a13, .int i10, .ref a14, .ref a15, .int i11, .ref a16, .ref a17, .ref a18, .ref a19, .int i12, .int i13, .int i14, .int i15, .int i16, .ref a20, .long j0, .ref a21, .ref a22, .ref a23, .ref a24])), (a1, .inl (cI, 544, .inl xF0)), (a2, .inl (cI, 1632, .inl xF1)), (a3, .inl (cZ, 3, .inl xF2))] sz) := by
  refine kEnter (by decide) (Nat.le_of_ble_eq_true rfl) ?_
  intro p e s m below meth c ls hx hb hr hml hown hlocks hin hwd hsz hP hK hD hl
  subst hsz
  generalize hAe : va_A [(a0, .inr (12, [.int i0, .ref a1, .ref a2, .ref a3, .ref a4, .int i1, .ref a5, .int i2, .int i3, .int i4, .int i5, .int i6, .int i7, .int i8, .ref a6, .ref a7, .ref a8, .ref a9, .ref a10, .ref a11, .ref a12, .int i9, .ref a13, .int i10, .ref a14, .ref a15, .int i11, .ref a16, .ref a17, .ref a18, .ref a19, .int i12, .int i13, .int i14, .int i15, .int i16, .ref a20, .long j0, .ref a21, .ref a22, .ref a23, .ref a24])), (a1, .inl (cI, 544, .inl xF0)), (a2, .inl (cI, 1632, .inl xF1)), (a3, .inl (cZ, 3, .inl xF2))] s.heap.size = A at hD ⊢
  have hA : ∀ q : Nat, s.heap.size ≤ q → A q := fun q h => by rw [← hAe]; exact Or.inr h
  have hS : va_S A s.heap s.heap [] := va_S.rf
  have hl : lv_has ls 3 [(0, .ref a0), (1, .int p0)] := hl
  obtain ⟨Q, hQ⟩ : ∃ Q, Q = MQ below (va_Qi (fun (r : Int32) (u9 : (Nat → Int32) × (Nat → Nat → Int32) × (Nat → Nat → Int64)) => ((-2 : Int) ≤ r.toInt ∧ r.toInt ≤ 0) ∧ (rng (u9.2.1 1) 3 0 1) ∧ (MI (u9.2.1 1)) ∧ (IMG cp (u9.2.1 0) (u9.2.1 1)) ∧ True) (fun u9 t => va_P (dC, dI) vwCl [(a0, .inr (12, [.int i0, .ref a1, .ref a2, .ref a3, .ref a4, .int i1, .ref a5, .int i2, .int i3, .int i4, .int i5, .int i6, .int i7, .int i8, .ref a6, .ref a7, .ref a8, .ref a9, .ref a10, .ref a11, .ref a12, .int i9, .ref a13, .int i10, .ref a14, .ref a15, .int i11, .ref a16, .ref a17, .ref a18, .ref a19, .int i12, .int i13, .int i14, .int i15, .int i16, .ref a20, .long j0, .ref a21, .ref a22, .ref a23, .ref a24])), (a1, .inl (cI, 544, .inl xF0)), (a2, .inl (cI, 1632, .inl (u9.2.1 0))), (a3, .inl (cZ, 3, .inl (u9.2.1 1)))] t.heap ∧ va_D A [(a0, .inr (12, [.int i0, .ref a1, .ref a2, .ref a3, .ref a4, .int i1, .ref a5, .int i2, .int i3, .int i4, .int i5, .int i6, .int i7, .int i8, .ref a6, .ref a7, .ref a8, .ref a9, .ref a10, .ref a11, .ref a12, .int i9, .ref a13, .int i10, .ref a14, .ref a15, .int i11, .ref a16, .ref a17, .ref a18, .ref a19, .int i12, .int i13, .int i14, .int i15, .int i16, .ref a20, .long j0, .ref a21, .ref a22, .ref a23, .ref a24])), (a1, .inl (cI, 544, .inl xF0)), (a2, .inl (cI, 1632, .inl (u9.2.1 0))), (a3, .inl (cZ, 3, .inl (u9.2.1 1)))]) A) ([.ref a0, .int p0] : List Value).toArray s 0 0 A := ⟨_, rfl⟩
  rw [← hQ]
  have km2 : ((-2) : Int32).toInt = -2 := by decide
  have k0 : (0 : Int32).toInt = 0 := by decide
  have k1 : (1 : Int32).toInt = 1 := by decide
  have k2 : (2 : Int32).toInt = 2 := by decide
  have k544 : (544 : Int32).toInt = 544 := by decide
  refine lv_iload_n hx hb dX12_keep_0 rfl (lv_at hl 1 rfl) ?_
  refine lv_i2l hx hb dX12_keep_1 rfl ?_
  refine lv_lconst (v := 0) hx hb dX12_keep_2 (by decide) ?_
  refine lv_ldc2 (v := 2) hx hb hown (hwd _ kr50_4) dX12_keep_3 ?_
  have hPc := hP.sub (ws' := []) [] rfl
  have hDc := hD.sub (ws' := []) [] (by decide) rfl
  have hFc := va_free (wc := []) hD hS hA [] rfl
  refine va_calli (va_runS (As := [.long p0.toInt64, .long 0, .long 2]) (rest := []) ⟨hx, hb, hml, hown, hwd⟩ (s_X12_in l dC dI cI cZ cB cJ cM cG p0.toInt64 0 2 s.heap.size) (cwS 3 hwd (gS kr9_10 kr9_11 kr1_5 kr9_12) rfl rfl rfl (by decide +kernel) ⟨Nat.le_of_ble_eq_true rfl, Nat.le_of_ble_eq_true rfl⟩) (kPreS hPc hK hDc) rfl rfl hl.1 rfl (lv_room (Nat.le_of_ble_eq_true rfl)) dX12_keep_6 ⟨Nat.le_of_ble_eq_true rfl, Nat.le_of_ble_eq_true rfl⟩) hS (fun q _ h => hFc q h) hFc (fun r1 u2 t H1 locs ht9 hvm hw hB hz1 hk1 hS => ?_)
  obtain ⟨hw3, hw4, hw5, -⟩ := hw
  have hw3 : (0 : Int) ≤ r1.toInt ∧ r1.toInt ≤ 1 := hw3
  have hw4 : r1.toInt ≠ 0 → (0 : Int) ≤ p0.toInt ∧ p0.toInt ≤ (2 : Int) := in_int (Int32.toInt_toInt64 _) (by decide) (by decide) hw4
  have hw5 : r1.toInt ≠ 1 → p0.toInt < (0 : Int) ∨ (2 : Int) < p0.toInt := in_int2 (Int32.toInt_toInt64 _) (by decide) (by decide) hw5
  obtain ⟨hP1, hD1⟩ := hB
  rw [ht9] at hP1
  obtain ⟨hP, hD⟩ := va_join (wr := [(a0, .inr (12, [.int i0, .ref a1, .ref a2, .ref a3, .ref a4, .int i1, .ref a5, .int i2, .int i3, .int i4, .int i5, .int i6, .int i7, .int i8, .ref a6, .ref a7, .ref a8, .ref a9, .ref a10, .ref a11, .ref a12, .int i9, .ref a13, .int i10, .ref a14, .ref a15, .int i11, .ref a16, .ref a17, .ref a18, .ref a19, .int i12, .int i13, .int i14, .int i15, .int i16, .ref a20, .long j0, .ref a21, .ref a22, .ref a23, .ref a24])), (a1, .inl (cI, 544, .inl xF0)), (a2, .inl (cI, 1632, .inl xF1)), (a3, .inl (cZ, 3, .inl xF2))]) (w1 := []) hP hD [] [0, 1, 2, 3] rfl rfl (by decide) (by decide) hk1 hFc hP1 hD1
  generalize H1 = H at hP hS ⊢
  have hP : va_P (dC, dI) vwCl [(a0, .inr (12, [.int i0, .ref a1, .ref a2, .ref a3, .ref a4, .int i1, .ref a5, .int i2, .int i3, .int i4, .int i5, .int i6, .int i7, .int i8, .ref a6, .ref a7, .ref a8, .ref a9, .ref a10, .ref a11, .ref a12, .int i9, .ref a13, .int i10, .ref a14, .ref a15, .int i11, .ref a16, .ref a17, .ref a18, .ref a19, .int i12, .int i13, .int i14, .int i15, .int i16, .ref a20, .long j0, .ref a21, .ref a22, .ref a23, .ref a24])), (a1, .inl (cI, 544, .inl xF0)), (a2, .inl (cI, 1632, .inl xF1)), (a3, .inl (cZ, 3, .inl xF2))] H := hP
  have hD : va_D A [(a0, .inr (12, [.int i0, .ref a1, .ref a2, .ref a3, .ref a4, .int i1, .ref a5, .int i2, .int i3, .int i4, .int i5, .int i6, .int i7, .int i8, .ref a6, .ref a7, .ref a8, .ref a9, .ref a10, .ref a11, .ref a12, .int i9, .ref a13, .int i10, .ref a14, .ref a15, .int i11, .ref a16, .ref a17, .ref a18, .ref a19, .int i12, .int i13, .int i14, .int i15, .int i16, .ref a20, .long j0, .ref a21, .ref a22, .ref a23, .ref a24])), (a1, .inl (cI, 544, .inl xF0)), (a2, .inl (cI, 1632, .inl xF1)), (a3, .inl (cZ, 3, .inl xF2))] := hD
  refine lv_if_ne (tgt := 15) hx hb dX12_keep_9 (by decide) (fun c6 => ?_) (fun c6 => ?_)
  · rw [ki_eq] at c6
    have hw4q := hw4 (by omega)
    clear hw4
    refine lv_iconst (v := 0) hx hb dX12_keep_15 (by decide) ?_
    refine lv_istore_n (lv' := [(2, .int 0), (0, .ref a0), (1, .int p0)]) hx hb dX12_keep_16 rfl hl (by decide) rfl (fun ls hl => ?_)
    have lp1 : ∀ (d : Nat), ∀ (H : Heap) (locs : List Loc) (ls : Array Slot) (w2_1 : Int32) (g1_1 : Nat → Int32), ((0 : Int) ≤ w2_1.toInt ∧ w2_1.toInt ≤ 544) → (CP xF0 xF1 0 (544 * p0.toInt) w2_1.toInt g1_1) → (544 - w2_1.toInt).toNat < d → va_P (dC, dI) vwCl [(a0, .inr (12, [.int i0, .ref a1, .ref a2, .ref a3, .ref a4, .int i1, .ref a5, .int i2, .int i3, .int i4, .int i5, .int i6, .int i7, .int i8, .ref a6, .ref a7, .ref a8, .ref a9, .ref a10, .ref a11, .ref a12, .int i9, .ref a13, .int i10, .ref a14, .ref a15, .int i11, .ref a16, .ref a17, .ref a18, .ref a19, .int i12, .int i13, .int i14, .int i15, .int i16, .ref a20, .long j0, .ref a21, .ref a22, .ref a23, .ref a24])), (a1, .inl (cI, 544, .inl xF0)), (a2, .inl (cI, 1632, .inl g1_1)), (a3, .inl (cZ, 3, .inl xF2))] H → va_D A [(a0, .inr (12, [.int i0, .ref a1, .ref a2, .ref a3, .ref a4, .int i1, .ref a5, .int i2, .int i3, .int i4, .int i5, .int i6, .int i7, .int i8, .ref a6, .ref a7, .ref a8, .ref a9, .ref a10, .ref a11, .ref a12, .int i9, .ref a13, .int i10, .ref a14, .ref a15, .int i11, .ref a16, .ref a17, .ref a18, .ref a19, .int i12, .int i13, .int i14, .int i15, .int i16, .ref a20, .long j0, .ref a21, .ref a22, .ref a23, .ref a24])), (a1, .inl (cI, 544, .inl xF0)), (a2, .inl (cI, 1632, .inl g1_1)), (a3, .inl (cZ, 3, .inl xF2))] → va_S A s.heap H locs → lv_has ls 3 [(0, .ref a0), (1, .int p0), (2, .int w2_1)] → W p l e ({ frames := 1, cells := 0, slots := 0, locals := 25 } : Room) s m ([.ref a0, .int p0] : List Value).toArray below meth c H locs 0 0 Q (F0 m 17 ls []) := by
      intro d
      induction d with
      | zero =>
        intro H locs ls w2_1 g1_1 hr_w2_1 hd_g1_1 hm hP hD hS hl
        omega
      | succ d ih1 =>
        intro H locs ls w2_1 g1_1 hr_w2_1 hd_g1_1 hm hP hD hS hl
        refine lv_iload_n hx hb dX12_keep_17 rfl (lv_at hl 2 rfl) ?_
        refine lv_sipush (v := 544) hx hb dX12_keep_18 (by decide) ?_
        refine lv_icmp_ge (tgt := 48) hx hb dX12_keep_21 (by decide) (fun c56 => ?_) (fun c56 => ?_)
        · rw [ki_le] at c56
          refine lv_aload_n hx hb dX12_keep_48 rfl (lv_at hl 0 rfl) ?_
          refine va_get (D := (dC, dI)) (ci := 12) (v := .ref a3) (C := RX12) (T := TX12) (N := 42) hx hb hwd inlX12 hown hK hP 0 rfl rfl 3 (by decide) (hwd _ kr7_5) (fun _ h9 => h9) rfl dX12_keep_49 ?_
          refine lv_iload_n hx hb dX12_keep_52 rfl (lv_at hl 1 rfl) ?_
          refine lv_iconst (v := 1) hx hb dX12_keep_53 (by decide) ?_
          refine va_zast hx hb hK hP hD hS 3 1 rfl rfl (vp_of (by omega) (by omega)) dX12_keep_54 (fun H locs hP hD hS => ?_)
          obtain ⟨f57, ef57⟩ : ∃ f, f = upd xF2 p0.toNatClampNeg (vp_nar .boolean (1 : Int32)) := ⟨_, rfl⟩
          have rf57 : rng f57 3 0 1 := by rw [ef57]; exact rng_upd (rng_mono p_7 (by omega) (by omega)) (nar_z _).1 (nar_z _).2
          have hP : va_P (dC, dI) vwCl [(a0, .inr (12, [.int i0, .ref a1, .ref a2, .ref a3, .ref a4, .int i1, .ref a5, .int i2, .int i3, .int i4, .int i5, .int i6, .int i7, .int i8, .ref a6, .ref a7, .ref a8, .ref a9, .ref a10, .ref a11, .ref a12, .int i9, .ref a13, .int i10, .ref a14, .ref a15, .int i11, .ref a16, .ref a17, .ref a18, .ref a19, .int i12, .int i13, .int i14, .int i15, .int i16, .ref a20, .long j0, .ref a21, .ref a22, .ref a23, .ref a24])), (a1, .inl (cI, 544, .inl xF0)), (a2, .inl (cI, 1632, .inl g1_1)), (a3, .inl (cZ, 3, .inl f57))] H := by rw [ef57]; exact hP
          have hD : va_D A [(a0, .inr (12, [.int i0, .ref a1, .ref a2, .ref a3, .ref a4, .int i1, .ref a5, .int i2, .int i3, .int i4, .int i5, .int i6, .int i7, .int i8, .ref a6, .ref a7, .ref a8, .ref a9, .ref a10, .ref a11, .ref a12, .int i9, .ref a13, .int i10, .ref a14, .ref a15, .int i11, .ref a16, .ref a17, .ref a18, .ref a19, .int i12, .int i13, .int i14, .int i15, .int i16, .ref a20, .long j0, .ref a21, .ref a22, .ref a23, .ref a24])), (a1, .inl (cI, 544, .inl xF0)), (a2, .inl (cI, 1632, .inl g1_1)), (a3, .inl (cZ, 3, .inl f57))] := by rw [ef57]; exact hD
          refine lv_iconst (v := 0) hx hb dX12_keep_55 (by decide) ?_
          have hP9 := hP.sub (ws' := [(a0, .inr (12, [.int i0, .ref a1, .ref a2, .ref a3, .ref a4, .int i1, .ref a5, .int i2, .int i3, .int i4, .int i5, .int i6, .int i7, .int i8, .ref a6, .ref a7, .ref a8, .ref a9, .ref a10, .ref a11, .ref a12, .int i9, .ref a13, .int i10, .ref a14, .ref a15, .int i11, .ref a16, .ref a17, .ref a18, .ref a19, .int i12, .int i13, .int i14, .int i15, .int i16, .ref a20, .long j0, .ref a21, .ref a22, .ref a23, .ref a24])), (a1, .inl (cI, 544, .inl xF0)), (a2, .inl (cI, 1632, .inl g1_1)), (a3, .inl (cZ, 3, .inl f57))]) [0, 1, 2, 3] rfl
          have hD9 := hD.sub (ws' := [(a0, .inr (12, [.int i0, .ref a1, .ref a2, .ref a3, .ref a4, .int i1, .ref a5, .int i2, .int i3, .int i4, .int i5, .int i6, .int i7, .int i8, .ref a6, .ref a7, .ref a8, .ref a9, .ref a10, .ref a11, .ref a12, .int i9, .ref a13, .int i10, .ref a14, .ref a15, .int i11, .ref a16, .ref a17, .ref a18, .ref a19, .int i12, .int i13, .int i14, .int i15, .int i16, .ref a20, .long j0, .ref a21, .ref a22, .ref a23, .ref a24])), (a1, .inl (cI, 544, .inl xF0)), (a2, .inl (cI, 1632, .inl g1_1)), (a3, .inl (cZ, 3, .inl f57))]) [0, 1, 2, 3] (by decide) rfl
          rw [hQ]
          exact W.iret (v := 0) hx hb hr (fun t ht hW => ⟨⟨0, (pickG 0 [], pickG (fun _ => 0) [g1_1, f57], pickG (fun _ => 0) []), rfl, ⟨(show (-2 : Int) ≤ (0 : Int32).toInt ∧ (0 : Int32).toInt ≤ 0 from ⟨by omega, by omega⟩), (show rng f57 3 0 1 from rf57), (show MI f57 from trivial), (show IMG cp g1_1 f57 from by rw [ef57]; exact IMG_keep p_9 p_6 (by omega) (by omega) hd_g1_1 (by omega) _), trivial⟩, (by rw [ht]; exact hP9), hD9⟩, hS.F ht⟩) hS.2.2 dX12_keep_56
        · rw [ki_le] at c56
          refine lv_aload_n hx hb dX12_keep_24 rfl (lv_at hl 0 rfl) ?_
          refine va_get (D := (dC, dI)) (ci := 12) (v := .ref a2) (C := RX12) (T := TX12) (N := 42) hx hb hwd inlX12 hown hK hP 0 rfl rfl 2 (by decide) (hwd _ kr7_4) (fun _ h9 => h9) rfl dX12_keep_25 ?_
          refine lv_sipush (v := 544) hx hb dX12_keep_28 (by decide) ?_
          refine lv_iload_n hx hb dX12_keep_31 rfl (lv_at hl 1 rfl) ?_
          refine lv_imul hx hb dX12_keep_32 ?_
          refine lv_topi (fun x58 ex58 => ?_)
          have tx58 := ia_mull (a := (544 : Int32)) (b := p0) 544 (by decide) (by omega) (by omega)
          rw [← ex58] at tx58
          refine lv_iload_n hx hb dX12_keep_33 rfl (lv_at hl 2 rfl) ?_
          refine lv_iadd hx hb dX12_keep_34 ?_
          refine lv_topi (fun x59 ex59 => ?_)
          have tx59 := ia_add (a := x58) (b := w2_1) (by omega) (by omega)
          rw [← ex59] at tx59
          refine lv_aload_n hx hb dX12_keep_35 rfl (lv_at hl 0 rfl) ?_
          refine va_get (D := (dC, dI)) (ci := 12) (v := .ref a1) (C := RX12) (T := TX12) (N := 42) hx hb hwd inlX12 hown hK hP 0 rfl rfl 1 (by decide) (hwd _ kr7_3) (fun _ h9 => h9) rfl dX12_keep_36 ?_
          refine lv_iload_n hx hb dX12_keep_39 rfl (lv_at hl 2 rfl) ?_
          have h60 : vp_in w2_1 544 := (vp_of (by omega) (by omega))
          refine va_iald hx hb hK hP 1 0 rfl rfl h60 dX12_keep_40 ?_
          refine lv_topi (fun x61 ex61 => ?_)
          have ix61 : x61.toInt = (xF0 w2_1.toInt.toNat).toInt := by rw [ex61]; rfl
          refine va_iast hx hb hK hP hD hS 2 0 rfl rfl (vp_of (by omega) (by omega)) dX12_keep_41 (fun H locs hP hD hS => ?_)
          obtain ⟨f62, ef62⟩ : ∃ f, f = upd g1_1 x59.toNatClampNeg x61 := ⟨_, rfl⟩
          have df62 : CP xF0 xF1 0 (544 * p0.toInt) (w2_1.toInt + 1) f62 := by rw [ef62]; exact CP_step hd_g1_1 ex61 (by omega) (by omega) (by omega) (by omega) (by omega)
          have hP : va_P (dC, dI) vwCl [(a0, .inr (12, [.int i0, .ref a1, .ref a2, .ref a3, .ref a4, .int i1, .ref a5, .int i2, .int i3, .int i4, .int i5, .int i6, .int i7, .int i8, .ref a6, .ref a7, .ref a8, .ref a9, .ref a10, .ref a11, .ref a12, .int i9, .ref a13, .int i10, .ref a14, .ref a15, .int i11, .ref a16, .ref a17, .ref a18, .ref a19, .int i12, .int i13, .int i14, .int i15, .int i16, .ref a20, .long j0, .ref a21, .ref a22, .ref a23, .ref a24])), (a1, .inl (cI, 544, .inl xF0)), (a2, .inl (cI, 1632, .inl f62)), (a3, .inl (cZ, 3, .inl xF2))] H := by rw [ef62]; exact hP
          have hD : va_D A [(a0, .inr (12, [.int i0, .ref a1, .ref a2, .ref a3, .ref a4, .int i1, .ref a5, .int i2, .int i3, .int i4, .int i5, .int i6, .int i7, .int i8, .ref a6, .ref a7, .ref a8, .ref a9, .ref a10, .ref a11, .ref a12, .int i9, .ref a13, .int i10, .ref a14, .ref a15, .int i11, .ref a16, .ref a17, .ref a18, .ref a19, .int i12, .int i13, .int i14, .int i15, .int i16, .ref a20, .long j0, .ref a21, .ref a22, .ref a23, .ref a24])), (a1, .inl (cI, 544, .inl xF0)), (a2, .inl (cI, 1632, .inl f62)), (a3, .inl (cZ, 3, .inl xF2))] := by rw [ef62]; exact hD
          obtain ⟨x63, ex63⟩ : ∃ y : Int32, y = w2_1 + 1 := ⟨_, rfl⟩
          refine lv_iinc (v := x63) (lv' := [(2, .int x63), (0, .ref a0), (1, .int p0)]) hx hb dX12_keep_42 hl (k := 2) rfl (by rw [ex63]; rfl) (by decide) rfl (fun ls hl => ?_)
          have tx63 := ia_add (a := w2_1) (b := (1 : Int32)) (by omega) (by omega)
          rw [← ex63] at tx63
          refine lv_goto (tgt := 17) hx hb dX12_keep_45 (by decide) ?_
          exact ih1 _ _ ls x63 f62 (show (0 : Int) ≤ x63.toInt ∧ x63.toInt ≤ 544 from ⟨by omega, by omega⟩) (show CP xF0 xF1 0 (544 * p0.toInt) x63.toInt f62 from by rw [show x63.toInt = (w2_1.toInt + 1) by omega]; exact df62) (by omega) (hP.sub (ws' := [(a0, .inr (12, [.int i0, .ref a1, .ref a2, .ref a3, .ref a4, .int i1, .ref a5, .int i2, .int i3, .int i4, .int i5, .int i6, .int i7, .int i8, .ref a6, .ref a7, .ref a8, .ref a9, .ref a10, .ref a11, .ref a12, .int i9, .ref a13, .int i10, .ref a14, .ref a15, .int i11, .ref a16, .ref a17, .ref a18, .ref a19, .int i12, .int i13, .int i14, .int i15, .int i16, .ref a20, .long j0, .ref a21, .ref a22, .ref a23, .ref a24])), (a1, .inl (cI, 544, .inl xF0)), (a2, .inl (cI, 1632, .inl f62)), (a3, .inl (cZ, 3, .inl xF2))]) [0, 1, 2, 3] rfl) (hD.sub (ws' := [(a0, .inr (12, [.int i0, .ref a1, .ref a2, .ref a3, .ref a4, .int i1, .ref a5, .int i2, .int i3, .int i4, .int i5, .int i6, .int i7, .int i8, .ref a6, .ref a7, .ref a8, .ref a9, .ref a10, .ref a11, .ref a12, .int i9, .ref a13, .int i10, .ref a14, .ref a15, .int i11, .ref a16, .ref a17, .ref a18, .ref a19, .int i12, .int i13, .int i14, .int i15, .int i16, .ref a20, .long j0, .ref a21, .ref a22, .ref a23, .ref a24])), (a1, .inl (cI, 544, .inl xF0)), (a2, .inl (cI, 1632, .inl f62)), (a3, .inl (cZ, 3, .inl xF2))]) [0, 1, 2, 3] (by decide) rfl) hS (lv_sub hl [1, 2, 0] rfl)
    exact lp1 _ _ _ ls (0) xF1 (show (0 : Int) ≤ (0 : Int32).toInt ∧ (0 : Int32).toInt ≤ 544 from ⟨by omega, by omega⟩) (show CP xF0 xF1 0 (544 * p0.toInt) (0 : Int32).toInt xF1 from CP_0 (by omega)) (Nat.lt_succ_self _) (hP.sub (ws' := [(a0, .inr (12, [.int i0, .ref a1, .ref a2, .ref a3, .ref a4, .int i1, .ref a5, .int i2, .int i3, .int i4, .int i5, .int i6, .int i7, .int i8, .ref a6, .ref a7, .ref a8, .ref a9, .ref a10, .ref a11, .ref a12, .int i9, .ref a13, .int i10, .ref a14, .ref a15, .int i11, .ref a16, .ref a17, .ref a18, .ref a19, .int i12, .int i13, .int i14, .int i15, .int i16, .ref a20, .long j0, .ref a21, .ref a22, .ref a23, .ref a24])), (a1, .inl (cI, 544, .inl xF0)), (a2, .inl (cI, 1632, .inl xF1)), (a3, .inl (cZ, 3, .inl xF2))]) [0, 1, 2, 3] rfl) (hD.sub (ws' := [(a0, .inr (12, [.int i0, .ref a1, .ref a2, .ref a3, .ref a4, .int i1, .ref a5, .int i2, .int i3, .int i4, .int i5, .int i6, .int i7, .int i8, .ref a6, .ref a7, .ref a8, .ref a9, .ref a10, .ref a11, .ref a12, .int i9, .ref a13, .int i10, .ref a14, .ref a15, .int i11, .ref a16, .ref a17, .ref a18, .ref a19, .int i12, .int i13, .int i14, .int i15, .int i16, .ref a20, .long j0, .ref a21, .ref a22, .ref a23, .ref a24])), (a1, .inl (cI, 544, .inl xF0)), (a2, .inl (cI, 1632, .inl xF1)), (a3, .inl (cZ, 3, .inl xF2))]) [0, 1, 2, 3] (by decide) rfl) hS (lv_sub hl [1, 2, 0] rfl)
  · rw [ki_eq] at c6
    have hw5q := hw5 (by omega)
    clear hw5
    refine lv_bipush (v := (-2)) hx hb dX12_keep_12 (by decide) ?_
    have hP9 := hP.sub (ws' := [(a0, .inr (12, [.int i0, .ref a1, .ref a2, .ref a3, .ref a4, .int i1, .ref a5, .int i2, .int i3, .int i4, .int i5, .int i6, .int i7, .int i8, .ref a6, .ref a7, .ref a8, .ref a9, .ref a10, .ref a11, .ref a12, .int i9, .ref a13, .int i10, .ref a14, .ref a15, .int i11, .ref a16, .ref a17, .ref a18, .ref a19, .int i12, .int i13, .int i14, .int i15, .int i16, .ref a20, .long j0, .ref a21, .ref a22, .ref a23, .ref a24])), (a1, .inl (cI, 544, .inl xF0)), (a2, .inl (cI, 1632, .inl xF1)), (a3, .inl (cZ, 3, .inl xF2))]) [0, 1, 2, 3] rfl
    have hD9 := hD.sub (ws' := [(a0, .inr (12, [.int i0, .ref a1, .ref a2, .ref a3, .ref a4, .int i1, .ref a5, .int i2, .int i3, .int i4, .int i5, .int i6, .int i7, .int i8, .ref a6, .ref a7, .ref a8, .ref a9, .ref a10, .ref a11, .ref a12, .int i9, .ref a13, .int i10, .ref a14, .ref a15, .int i11, .ref a16, .ref a17, .ref a18, .ref a19, .int i12, .int i13, .int i14, .int i15, .int i16, .ref a20, .long j0, .ref a21, .ref a22, .ref a23, .ref a24])), (a1, .inl (cI, 544, .inl xF0)), (a2, .inl (cI, 1632, .inl xF1)), (a3, .inl (cZ, 3, .inl xF2))]) [0, 1, 2, 3] (by decide) rfl
    rw [hQ]
    exact W.iret (v := (-2)) hx hb hr (fun t ht hW => ⟨⟨(-2), (pickG 0 [], pickG (fun _ => 0) [xF1, xF2], pickG (fun _ => 0) []), rfl, ⟨(show (-2 : Int) ≤ ((-2) : Int32).toInt ∧ ((-2) : Int32).toInt ≤ 0 from ⟨by omega, by omega⟩), (show rng xF2 3 0 1 from p_7), (show MI xF2 from trivial), (show IMG cp xF1 xF2 from p_9), trivial⟩, (by rw [ht]; exact hP9), hD9⟩, hS.F ht⟩) hS.2.2 dX12_keep_14
theorem dX12_back_0 : decode cX12_back 0 = .ok (.iload_n 1, 1) := by decide +kernel
theorem dX12_back_1 : decode cX12_back 1 = .ok (.i2l, 1) := by decide +kernel
theorem dX12_back_2 : decode cX12_back 2 = .ok (.lconst 0, 1) := by decide +kernel
theorem dX12_back_3 : decode cX12_back 3 = .ok (.ldc2_w 96, 3) := by decide +kernel
theorem dX12_back_6 : decode cX12_back 6 = .ok (.invokestatic 98, 3) := by decide +kernel
theorem dX12_back_9 : decode cX12_back 9 = .ok (.ifCond .ne 6, 3) := by decide +kernel
theorem dX12_back_12 : decode cX12_back 12 = .ok (.bipush (-2), 2) := by decide +kernel
theorem dX12_back_14 : decode cX12_back 14 = .ok (.ireturn, 1) := by decide +kernel
theorem dX12_back_15 : decode cX12_back 15 = .ok (.aload_n 0, 1) := by decide +kernel
theorem dX12_back_16 : decode cX12_back 16 = .ok (.getfield 20, 3) := by decide +kernel
theorem dX12_back_19 : decode cX12_back 19 = .ok (.iload_n 1, 1) := by decide +kernel
theorem dX12_back_20 : decode cX12_back 20 = .ok (.baload, 1) := by decide +kernel
theorem dX12_back_21 : decode cX12_back 21 = .ok (.ifCond .ne 6, 3) := by decide +kernel
theorem dX12_back_24 : decode cX12_back 24 = .ok (.bipush (-6), 2) := by decide +kernel
theorem dX12_back_26 : decode cX12_back 26 = .ok (.ireturn, 1) := by decide +kernel
theorem dX12_back_27 : decode cX12_back 27 = .ok (.iconst 0, 1) := by decide +kernel
theorem dX12_back_28 : decode cX12_back 28 = .ok (.istore_n 2, 1) := by decide +kernel
theorem dX12_back_29 : decode cX12_back 29 = .ok (.iload_n 2, 1) := by decide +kernel
theorem dX12_back_30 : decode cX12_back 30 = .ok (.sipush 544, 3) := by decide +kernel
theorem dX12_back_33 : decode cX12_back 33 = .ok (.if_icmp .ge 27, 3) := by decide +kernel
theorem dX12_back_36 : decode cX12_back 36 = .ok (.aload_n 0, 1) := by decide +kernel
theorem dX12_back_37 : decode cX12_back 37 = .ok (.getfield 13, 3) := by decide +kernel
theorem dX12_back_40 : decode cX12_back 40 = .ok (.iload_n 2, 1) := by decide +kernel
theorem dX12_back_41 : decode cX12_back 41 = .ok (.aload_n 0, 1) := by decide +kernel
theorem dX12_back_42 : decode cX12_back 42 = .ok (.getfield 17, 3) := by decide +kernel
theorem dX12_back_45 : decode cX12_back 45 = .ok (.sipush 544, 3) := by decide +kernel
theorem dX12_back_48 : decode cX12_back 48 = .ok (.iload_n 1, 1) := by decide +kernel
theorem dX12_back_49 : decode cX12_back 49 = .ok (.imul, 1) := by decide +kernel
theorem dX12_back_50 : decode cX12_back 50 = .ok (.iload_n 2, 1) := by decide +kernel
theorem dX12_back_51 : decode cX12_back 51 = .ok (.iadd, 1) := by decide +kernel
theorem dX12_back_52 : decode cX12_back 52 = .ok (.iaload, 1) := by decide +kernel
theorem dX12_back_53 : decode cX12_back 53 = .ok (.iastore, 1) := by decide +kernel
theorem dX12_back_54 : decode cX12_back 54 = .ok (.iinc 2 1, 3) := by decide +kernel
theorem dX12_back_57 : decode cX12_back 57 = .ok (.goto (-28), 3) := by decide +kernel
theorem dX12_back_60 : decode cX12_back 60 = .ok (.iconst 0, 1) := by decide +kernel
theorem dX12_back_61 : decode cX12_back 61 = .ok (.ireturn, 1) := by decide +kernel
set_option maxHeartbeats 4000000 in
set_option maxRecDepth 100000 in
theorem s_X12_back (l : Launch) (dC : Nat → ClassId) (dI : Nat → Nat → Nat) (cI cZ cB cJ cM cG : ClassId) (a0 a1 a2 a3 a4 a5 a6 a7 a8 a9 a10 a11 a12 a13 a14 a15 a16 a17 a18 a19 a20 a21 a22 a23 a24 : Nat) (i0 i1 i2 i3 i4 i5 i6 i7 i8 i9 i10 i11 i12 i13 i14 i15 i16 : Int32) (j0 : Int64) (xF0 xF1 xF2 : Nat → Int32) (p0 : Int32) (cp : Int) (sz : Nat) (p_0 : (0 : Int) ≤ i1.toInt ∧ i1.toInt ≤ 1600) (p_1 : (0 : Int) ≤ i2.toInt ∧ i2.toInt ≤ 1600) (p_2 : (0 : Int) ≤ i3.toInt ∧ i3.toInt ≤ 1600) (p_3 : (0 : Int) ≤ i4.toInt ∧ i4.toInt ≤ 1600) (p_4 : (0 : Int) ≤ i5.toInt ∧ i5.toInt ≤ 6) (p_5 : (0 : Int) ≤ i11.toInt ∧ i11.toInt ≤ 59) (p_6 : WI cp xF0) (p_7 : rng xF2 3 0 1) (p_8 : MI xF2) (p_9 : IMG cp xF1 xF2) (p_10 : 0 ≤ cp ∧ cp ≤ 2000000000) : Met l yX12_back (kw yX12_back cX12_back 3 (some .int)) ({ frames := 1, cells := 0, slots := 0, locals := 25 } : Room) (va_Pc [.ref a0, .int p0] (kPre dC dI [(cI, .int), (cZ, .boolean), (cB, .byte), (cJ, .long), (cM, .object RX2), (cG, .array .int)] [(a0, .inr (12, [.int i0, .ref a1, .ref a2, .ref a3, .ref a4, .int i1, .ref a5, .int i2, .int i3, .int i4, .int i5, .int i6, .int i7, .int i8, .ref a6, .ref a7, .ref a8, .ref a9, .ref a10, .ref a11, .ref a12, .int i9, .ref a13, .int i10, .ref a14, .ref a15, .int i11, .ref a16, .ref a17, .ref a18, .ref a19, .int i12, .int i13, .int i14, .int i15, .int i16, .ref a20, .long j0, .ref a21, .ref a22, .ref a23, .ref a24])), (a1, .inl (cI, 544, .inl xF0)), (a2, .inl (cI, 1632, .inl xF1)), (a3, .inl (cZ, 3, .inl xF2))] sz)) (va_Qi (fun (r : Int32) (u9 : (Nat → Int32) × (Nat → Nat → Int32) × (Nat → Nat → Int64)) => ((-6 : Int) ≤ r.toInt ∧ r.toInt ≤ 0) ∧ (WI cp (u9.2.1 0)) ∧ True) (fun u9 t => va_P (dC, dI) vwCl [(a0, .inr (12, [.int i0, .ref a1, .ref a2, .ref a3, .ref a4, .int i1, .ref a5, .int i2, .int i3, .int i4, .int i5, .int i6, .int i7, .int i8, .ref a6, .ref a7, .ref a8, .ref a9, .ref a10, .ref a11, .ref a12, .int i9, .ref a13, .int i10, .ref a14, .ref a15, .int i11, .ref a16, .ref a17, .ref a18, .ref a19, .int i12, .int i13, .int i14, .int i15, .int i16, .ref a20, .long j0, .ref a21, .ref a22, .ref a23, .ref a24])), (a1, .inl (cI, 544, .inl (u9.2.1 0))), (a2, .inl (cI, 1632, .inl xF1)), (a3, .inl (cZ, 3, .inl xF2))] t.heap ∧ va_D (va_A [(a0, .inr (12, [.int i0, .ref a1, .ref a2, .ref a3, .ref a4, .int i1, .ref a5, .int i2, .int i3, .int i4, .int i5, .int i6, .int i7, .int i8, .ref a6, .ref a7, .ref a8, .ref a9, .ref a10, .ref a11, .ref a12, .int i9, .ref a13, .int i10, .ref a14, .ref a15, .int i11, .ref a16, .ref a17, .ref a18, .ref a19, .int i12, .int i13, .int i14, .int i15, .int i16, .ref a20, .long j0, .ref a21, .ref a22, .ref a23, .ref a24])), (a1, .inl (cI, 544, .inl xF0)), (a2, .inl (cI, 1632, .inl xF1)), (a3, .inl (cZ, 3, .inl xF2))] sz) [(a0, .inr (12, [.int i0, .ref a1, .ref a2, .ref a3, .ref a4, .int i1, .ref a5, .int i2, .int i3, .int i4, .int i5, .int i6, .int i7, .int i8, .ref a6, .ref a7, .ref a8, .ref a9, .ref a10, .ref a11, .ref a12, .int i9, .ref a13, .int i10, .ref a14, .ref a15, .int i11, .ref a16, .ref a17, .ref a18, .ref a19, .int i12, .int i13, .int i14, .int i15, .int i16, .ref a20, .long j0, .ref a21, .ref a22, .ref a23, .ref a24])), (a1, .inl (cI, 544, .inl (u9.2.1 0))), (a2, .inl (cI, 1632, .inl xF1)), (a3, .inl (cZ, 3, .inl xF2))]) (va_A [(a0, .inr (12, [.int i0, .ref a1, .ref a2, .ref a3, .ref a4, .int i1, .ref a5, .int i2, .int i3, .int i4, .int i5, .int i6, .int i7, .int i8, .ref a6, .ref a7, .ref a8, .ref a9, .ref a10, .ref a11, .ref a12, .int i9, .ref a13, .int i10, .ref a14, .ref a15, .int i11, .ref a16, .ref a17, .ref a18, .ref a19, .int i12, .int i13, .int i14, .int i15, .int i16, .ref a20, .long j0, .ref a21, .ref a22, .ref a23, .ref a24])), (a1, .inl (cI, 544, .inl xF0)), (a2, .inl (cI, 1632, .inl xF1)), (a3, .inl (cZ, 3, .inl xF2))] sz)) 0 0 (va_A [(a0, .inr (12, [.int i0, .ref a1, .ref a2, .ref a3, .ref a4, .int i1, .ref a5, .int i2, .int i3, .int i4, .int i5, .int i6, .int i7, .int i8, .ref a6, .ref a7, .ref a8, .ref a9, .ref a10, .ref a11, .ref a12, .int i9, .ref a13, .int i10, .ref a14, .ref a15, .int i11, .ref a16, .ref a17, .ref a18, .ref a19, .int i12, .int i13, .int i14, .int i15, .int i16, .ref a20, .long j0, .ref a21, .ref a22, .ref a23, .ref a24])), (a1, .inl (cI, 544, .inl xF0)), (a2, .inl (cI, 1632, .inl xF1)), (a3, .inl (cZ, 3, .inl xF2))] sz) := by
  refine kEnter (by decide) (Nat.le_of_ble_eq_true rfl) ?_
  intro p e s m below meth c ls hx hb hr hml hown hlocks hin hwd hsz hP hK hD hl
  subst hsz
  generalize hAe : va_A [(a0, .inr (12, [.int i0, .ref a1, .ref a2, .ref a3, .ref a4, .int i1, .ref a5, .int i2, .int i3, .int i4, .int i5, .int i6, .int i7, .int i8, .ref a6, .ref a7, .ref a8, .ref a9, .ref a10, .ref a11, .ref a12, .int i9, .ref a13, .int i10, .ref a14, .ref a15, .int i11, .ref a16, .ref a17, .ref a18, .ref a19, .int i12, .int i13, .int i14, .int i15, .int i16, .ref a20, .long j0, .ref a21, .ref a22, .ref a23, .ref a24])), (a1, .inl (cI, 544, .inl xF0)), (a2, .inl (cI, 1632, .inl xF1)), (a3, .inl (cZ, 3, .inl xF2))] s.heap.size = A at hD ⊢
  have hA : ∀ q : Nat, s.heap.size ≤ q → A q := fun q h => by rw [← hAe]; exact Or.inr h
  have hS : va_S A s.heap s.heap [] := va_S.rf
  have hl : lv_has ls 3 [(0, .ref a0), (1, .int p0)] := hl
  obtain ⟨Q, hQ⟩ : ∃ Q, Q = MQ below (va_Qi (fun (r : Int32) (u9 : (Nat → Int32) × (Nat → Nat → Int32) × (Nat → Nat → Int64)) => ((-6 : Int) ≤ r.toInt ∧ r.toInt ≤ 0) ∧ (WI cp (u9.2.1 0)) ∧ True) (fun u9 t => va_P (dC, dI) vwCl [(a0, .inr (12, [.int i0, .ref a1, .ref a2, .ref a3, .ref a4, .int i1, .ref a5, .int i2, .int i3, .int i4, .int i5, .int i6, .int i7, .int i8, .ref a6, .ref a7, .ref a8, .ref a9, .ref a10, .ref a11, .ref a12, .int i9, .ref a13, .int i10, .ref a14, .ref a15, .int i11, .ref a16, .ref a17, .ref a18, .ref a19, .int i12, .int i13, .int i14, .int i15, .int i16, .ref a20, .long j0, .ref a21, .ref a22, .ref a23, .ref a24])), (a1, .inl (cI, 544, .inl (u9.2.1 0))), (a2, .inl (cI, 1632, .inl xF1)), (a3, .inl (cZ, 3, .inl xF2))] t.heap ∧ va_D A [(a0, .inr (12, [.int i0, .ref a1, .ref a2, .ref a3, .ref a4, .int i1, .ref a5, .int i2, .int i3, .int i4, .int i5, .int i6, .int i7, .int i8, .ref a6, .ref a7, .ref a8, .ref a9, .ref a10, .ref a11, .ref a12, .int i9, .ref a13, .int i10, .ref a14, .ref a15, .int i11, .ref a16, .ref a17, .ref a18, .ref a19, .int i12, .int i13, .int i14, .int i15, .int i16, .ref a20, .long j0, .ref a21, .ref a22, .ref a23, .ref a24])), (a1, .inl (cI, 544, .inl (u9.2.1 0))), (a2, .inl (cI, 1632, .inl xF1)), (a3, .inl (cZ, 3, .inl xF2))]) A) ([.ref a0, .int p0] : List Value).toArray s 0 0 A := ⟨_, rfl⟩
  rw [← hQ]
  have km6 : ((-6) : Int32).toInt = -6 := by decide
  have km2 : ((-2) : Int32).toInt = -2 := by decide
  have k0 : (0 : Int32).toInt = 0 := by decide
  have k1 : (1 : Int32).toInt = 1 := by decide
  have k2 : (2 : Int32).toInt = 2 := by decide
  have k544 : (544 : Int32).toInt = 544 := by decide
  refine lv_iload_n hx hb dX12_back_0 rfl (lv_at hl 1 rfl) ?_
  refine lv_i2l hx hb dX12_back_1 rfl ?_
  refine lv_lconst (v := 0) hx hb dX12_back_2 (by decide) ?_
  refine lv_ldc2 (v := 2) hx hb hown (hwd _ kr50_4) dX12_back_3 ?_
  have hPc := hP.sub (ws' := []) [] rfl
  have hDc := hD.sub (ws' := []) [] (by decide) rfl
  have hFc := va_free (wc := []) hD hS hA [] rfl
  refine va_calli (va_runS (As := [.long p0.toInt64, .long 0, .long 2]) (rest := []) ⟨hx, hb, hml, hown, hwd⟩ (s_X12_in l dC dI cI cZ cB cJ cM cG p0.toInt64 0 2 s.heap.size) (cwS 3 hwd (gS kr9_10 kr9_11 kr1_5 kr9_12) rfl rfl rfl (by decide +kernel) ⟨Nat.le_of_ble_eq_true rfl, Nat.le_of_ble_eq_true rfl⟩) (kPreS hPc hK hDc) rfl rfl hl.1 rfl (lv_room (Nat.le_of_ble_eq_true rfl)) dX12_back_6 ⟨Nat.le_of_ble_eq_true rfl, Nat.le_of_ble_eq_true rfl⟩) hS (fun q _ h => hFc q h) hFc (fun r1 u2 t H1 locs ht9 hvm hw hB hz1 hk1 hS => ?_)
  obtain ⟨hw3, hw4, hw5, -⟩ := hw
  have hw3 : (0 : Int) ≤ r1.toInt ∧ r1.toInt ≤ 1 := hw3
  have hw4 : r1.toInt ≠ 0 → (0 : Int) ≤ p0.toInt ∧ p0.toInt ≤ (2 : Int) := in_int (Int32.toInt_toInt64 _) (by decide) (by decide) hw4
  have hw5 : r1.toInt ≠ 1 → p0.toInt < (0 : Int) ∨ (2 : Int) < p0.toInt := in_int2 (Int32.toInt_toInt64 _) (by decide) (by decide) hw5
  obtain ⟨hP1, hD1⟩ := hB
  rw [ht9] at hP1
  obtain ⟨hP, hD⟩ := va_join (wr := [(a0, .inr (12, [.int i0, .ref a1, .ref a2, .ref a3, .ref a4, .int i1, .ref a5, .int i2, .int i3, .int i4, .int i5, .int i6, .int i7, .int i8, .ref a6, .ref a7, .ref a8, .ref a9, .ref a10, .ref a11, .ref a12, .int i9, .ref a13, .int i10, .ref a14, .ref a15, .int i11, .ref a16, .ref a17, .ref a18, .ref a19, .int i12, .int i13, .int i14, .int i15, .int i16, .ref a20, .long j0, .ref a21, .ref a22, .ref a23, .ref a24])), (a1, .inl (cI, 544, .inl xF0)), (a2, .inl (cI, 1632, .inl xF1)), (a3, .inl (cZ, 3, .inl xF2))]) (w1 := []) hP hD [] [0, 1, 2, 3] rfl rfl (by decide) (by decide) hk1 hFc hP1 hD1
  generalize H1 = H at hP hS ⊢
  have hP : va_P (dC, dI) vwCl [(a0, .inr (12, [.int i0, .ref a1, .ref a2, .ref a3, .ref a4, .int i1, .ref a5, .int i2, .int i3, .int i4, .int i5, .int i6, .int i7, .int i8, .ref a6, .ref a7, .ref a8, .ref a9, .ref a10, .ref a11, .ref a12, .int i9, .ref a13, .int i10, .ref a14, .ref a15, .int i11, .ref a16, .ref a17, .ref a18, .ref a19, .int i12, .int i13, .int i14, .int i15, .int i16, .ref a20, .long j0, .ref a21, .ref a22, .ref a23, .ref a24])), (a1, .inl (cI, 544, .inl xF0)), (a2, .inl (cI, 1632, .inl xF1)), (a3, .inl (cZ, 3, .inl xF2))] H := hP
  have hD : va_D A [(a0, .inr (12, [.int i0, .ref a1, .ref a2, .ref a3, .ref a4, .int i1, .ref a5, .int i2, .int i3, .int i4, .int i5, .int i6, .int i7, .int i8, .ref a6, .ref a7, .ref a8, .ref a9, .ref a10, .ref a11, .ref a12, .int i9, .ref a13, .int i10, .ref a14, .ref a15, .int i11, .ref a16, .ref a17, .ref a18, .ref a19, .int i12, .int i13, .int i14, .int i15, .int i16, .ref a20, .long j0, .ref a21, .ref a22, .ref a23, .ref a24])), (a1, .inl (cI, 544, .inl xF0)), (a2, .inl (cI, 1632, .inl xF1)), (a3, .inl (cZ, 3, .inl xF2))] := hD
  refine lv_if_ne (tgt := 15) hx hb dX12_back_9 (by decide) (fun c6 => ?_) (fun c6 => ?_)
  · rw [ki_eq] at c6
    have hw4q := hw4 (by omega)
    clear hw4
    refine lv_aload_n hx hb dX12_back_15 rfl (lv_at hl 0 rfl) ?_
    refine va_get (D := (dC, dI)) (ci := 12) (v := .ref a3) (C := RX12) (T := TX12) (N := 42) hx hb hwd inlX12 hown hK hP 0 rfl rfl 3 (by decide) (hwd _ kr7_5) (fun _ h9 => h9) rfl dX12_back_16 ?_
    refine lv_iload_n hx hb dX12_back_19 rfl (lv_at hl 1 rfl) ?_
    have h7 : vp_in p0 3 := (vp_of (by omega) (by omega))
    refine va_zald hx hb hK hP 3 1 rfl rfl h7 dX12_back_20 ?_
    refine lv_topi (fun x8 ex8 => ?_)
    have ix8 : x8.toInt = (xF2 p0.toInt.toNat).toInt := by rw [ex8]; rfl
    have tx8 : (0 : Int) ≤ x8.toInt ∧ x8.toInt ≤ 1 := by rw [ex8]; exact p_7 _ (vp_nat h7)
    refine lv_if_ne (tgt := 27) hx hb dX12_back_21 (by decide) (fun c9 => ?_) (fun c9 => ?_)
    · rw [ki_eq] at c9
      refine lv_iconst (v := 0) hx hb dX12_back_27 (by decide) ?_
      refine lv_istore_n (lv' := [(2, .int 0), (0, .ref a0), (1, .int p0)]) hx hb dX12_back_28 rfl hl (by decide) rfl (fun ls hl => ?_)
      have lp1 : ∀ (d : Nat), ∀ (H : Heap) (locs : List Loc) (ls : Array Slot) (w2_1 : Int32) (g1_1 : Nat → Int32), ((0 : Int) ≤ w2_1.toInt ∧ w2_1.toInt ≤ 544) → (CP xF1 xF0 (544 * p0.toInt) 0 w2_1.toInt g1_1) → (544 - w2_1.toInt).toNat < d → va_P (dC, dI) vwCl [(a0, .inr (12, [.int i0, .ref a1, .ref a2, .ref a3, .ref a4, .int i1, .ref a5, .int i2, .int i3, .int i4, .int i5, .int i6, .int i7, .int i8, .ref a6, .ref a7, .ref a8, .ref a9, .ref a10, .ref a11, .ref a12, .int i9, .ref a13, .int i10, .ref a14, .ref a15, .int i11, .ref a16, .ref a17, .ref a18, .ref a19, .int i12, .int i13, .int i14, .int i15, .int i16, .ref a20, .long j0, .ref a21, .ref a22, .ref a23, .ref a24])), (a1, .inl (cI, 544, .inl g1_1)), (a2, .inl (cI, 1632, .inl xF1)), (a3, .inl (cZ, 3, .inl xF2))] H → va_D A [(a0, .inr (12, [.int i0, .ref a1, .ref a2, .ref a3, .ref a4, .int i1, .ref a5, .int i2, .int i3, .int i4, .int i5, .int i6, .int i7, .int i8, .ref a6, .ref a7, .ref a8, .ref a9, .ref a10, .ref a11, .ref a12, .int i9, .ref a13, .int i10, .ref a14, .ref a15, .int i11, .ref a16, .ref a17, .ref a18, .ref a19, .int i12, .int i13, .int i14, .int i15, .int i16, .ref a20, .long j0, .ref a21, .ref a22, .ref a23, .ref a24])), (a1, .inl (cI, 544, .inl g1_1)), (a2, .inl (cI, 1632, .inl xF1)), (a3, .inl (cZ, 3, .inl xF2))] → va_S A s.heap H locs → lv_has ls 3 [(0, .ref a0), (1, .int p0), (2, .int w2_1)] → W p l e ({ frames := 1, cells := 0, slots := 0, locals := 25 } : Room) s m ([.ref a0, .int p0] : List Value).toArray below meth c H locs 0 0 Q (F0 m 29 ls []) := by
        intro d
        induction d with
        | zero =>
          intro H locs ls w2_1 g1_1 hr_w2_1 hd_g1_1 hm hP hD hS hl
          omega
        | succ d ih1 =>
          intro H locs ls w2_1 g1_1 hr_w2_1 hd_g1_1 hm hP hD hS hl
          refine lv_iload_n hx hb dX12_back_29 rfl (lv_at hl 2 rfl) ?_
          refine lv_sipush (v := 544) hx hb dX12_back_30 (by decide) ?_
          refine lv_icmp_ge (tgt := 60) hx hb dX12_back_33 (by decide) (fun c58 => ?_) (fun c58 => ?_)
          · rw [ki_le] at c58
            refine lv_iconst (v := 0) hx hb dX12_back_60 (by decide) ?_
            have hP9 := hP.sub (ws' := [(a0, .inr (12, [.int i0, .ref a1, .ref a2, .ref a3, .ref a4, .int i1, .ref a5, .int i2, .int i3, .int i4, .int i5, .int i6, .int i7, .int i8, .ref a6, .ref a7, .ref a8, .ref a9, .ref a10, .ref a11, .ref a12, .int i9, .ref a13, .int i10, .ref a14, .ref a15, .int i11, .ref a16, .ref a17, .ref a18, .ref a19, .int i12, .int i13, .int i14, .int i15, .int i16, .ref a20, .long j0, .ref a21, .ref a22, .ref a23, .ref a24])), (a1, .inl (cI, 544, .inl g1_1)), (a2, .inl (cI, 1632, .inl xF1)), (a3, .inl (cZ, 3, .inl xF2))]) [0, 1, 2, 3] rfl
            have hD9 := hD.sub (ws' := [(a0, .inr (12, [.int i0, .ref a1, .ref a2, .ref a3, .ref a4, .int i1, .ref a5, .int i2, .int i3, .int i4, .int i5, .int i6, .int i7, .int i8, .ref a6, .ref a7, .ref a8, .ref a9, .ref a10, .ref a11, .ref a12, .int i9, .ref a13, .int i10, .ref a14, .ref a15, .int i11, .ref a16, .ref a17, .ref a18, .ref a19, .int i12, .int i13, .int i14, .int i15, .int i16, .ref a20, .long j0, .ref a21, .ref a22, .ref a23, .ref a24])), (a1, .inl (cI, 544, .inl g1_1)), (a2, .inl (cI, 1632, .inl xF1)), (a3, .inl (cZ, 3, .inl xF2))]) [0, 1, 2, 3] (by decide) rfl
            rw [hQ]
            exact W.iret (v := 0) hx hb hr (fun t ht hW => ⟨⟨0, (pickG 0 [], pickG (fun _ => 0) [g1_1], pickG (fun _ => 0) []), rfl, ⟨(show (-6 : Int) ≤ (0 : Int32).toInt ∧ (0 : Int32).toInt ≤ 0 from ⟨by omega, by omega⟩), (show WI cp g1_1 from IMG_back p_9 (by omega) (by omega) (by omega) hd_g1_1 (by omega)), trivial⟩, (by rw [ht]; exact hP9), hD9⟩, hS.F ht⟩) hS.2.2 dX12_back_61
          · rw [ki_le] at c58
            refine lv_aload_n hx hb dX12_back_36 rfl (lv_at hl 0 rfl) ?_
            refine va_get (D := (dC, dI)) (ci := 12) (v := .ref a1) (C := RX12) (T := TX12) (N := 42) hx hb hwd inlX12 hown hK hP 0 rfl rfl 1 (by decide) (hwd _ kr7_3) (fun _ h9 => h9) rfl dX12_back_37 ?_
            refine lv_iload_n hx hb dX12_back_40 rfl (lv_at hl 2 rfl) ?_
            refine lv_aload_n hx hb dX12_back_41 rfl (lv_at hl 0 rfl) ?_
            refine va_get (D := (dC, dI)) (ci := 12) (v := .ref a2) (C := RX12) (T := TX12) (N := 42) hx hb hwd inlX12 hown hK hP 0 rfl rfl 2 (by decide) (hwd _ kr7_4) (fun _ h9 => h9) rfl dX12_back_42 ?_
            refine lv_sipush (v := 544) hx hb dX12_back_45 (by decide) ?_
            refine lv_iload_n hx hb dX12_back_48 rfl (lv_at hl 1 rfl) ?_
            refine lv_imul hx hb dX12_back_49 ?_
            refine lv_topi (fun x59 ex59 => ?_)
            have tx59 := ia_mull (a := (544 : Int32)) (b := p0) 544 (by decide) (by omega) (by omega)
            rw [← ex59] at tx59
            refine lv_iload_n hx hb dX12_back_50 rfl (lv_at hl 2 rfl) ?_
            refine lv_iadd hx hb dX12_back_51 ?_
            refine lv_topi (fun x60 ex60 => ?_)
            have tx60 := ia_add (a := x59) (b := w2_1) (by omega) (by omega)
            rw [← ex60] at tx60
            have h61 : vp_in x60 1632 := (vp_of (by omega) (by omega))
            refine va_iald hx hb hK hP 2 0 rfl rfl h61 dX12_back_52 ?_
            refine lv_topi (fun x62 ex62 => ?_)
            refine va_iast hx hb hK hP hD hS 1 0 rfl rfl (vp_of (by omega) (by omega)) dX12_back_53 (fun H locs hP hD hS => ?_)
            obtain ⟨f63, ef63⟩ : ∃ f, f = upd g1_1 w2_1.toNatClampNeg x62 := ⟨_, rfl⟩
            have df63 : CP xF1 xF0 (544 * p0.toInt) 0 (w2_1.toInt + 1) f63 := by rw [ef63]; exact CP_step hd_g1_1 ex62 (by omega) (by omega) (by omega) (by omega) (by omega)
            have hP : va_P (dC, dI) vwCl [(a0, .inr (12, [.int i0, .ref a1, .ref a2, .ref a3, .ref a4, .int i1, .ref a5, .int i2, .int i3, .int i4, .int i5, .int i6, .int i7, .int i8, .ref a6, .ref a7, .ref a8, .ref a9, .ref a10, .ref a11, .ref a12, .int i9, .ref a13, .int i10, .ref a14, .ref a15, .int i11, .ref a16, .ref a17, .ref a18, .ref a19, .int i12, .int i13, .int i14, .int i15, .int i16, .ref a20, .long j0, .ref a21, .ref a22, .ref a23, .ref a24])), (a1, .inl (cI, 544, .inl f63)), (a2, .inl (cI, 1632, .inl xF1)), (a3, .inl (cZ, 3, .inl xF2))] H := by rw [ef63]; exact hP
            have hD : va_D A [(a0, .inr (12, [.int i0, .ref a1, .ref a2, .ref a3, .ref a4, .int i1, .ref a5, .int i2, .int i3, .int i4, .int i5, .int i6, .int i7, .int i8, .ref a6, .ref a7, .ref a8, .ref a9, .ref a10, .ref a11, .ref a12, .int i9, .ref a13, .int i10, .ref a14, .ref a15, .int i11, .ref a16, .ref a17, .ref a18, .ref a19, .int i12, .int i13, .int i14, .int i15, .int i16, .ref a20, .long j0, .ref a21, .ref a22, .ref a23, .ref a24])), (a1, .inl (cI, 544, .inl f63)), (a2, .inl (cI, 1632, .inl xF1)), (a3, .inl (cZ, 3, .inl xF2))] := by rw [ef63]; exact hD
            obtain ⟨x64, ex64⟩ : ∃ y : Int32, y = w2_1 + 1 := ⟨_, rfl⟩
            refine lv_iinc (v := x64) (lv' := [(2, .int x64), (0, .ref a0), (1, .int p0)]) hx hb dX12_back_54 hl (k := 2) rfl (by rw [ex64]; rfl) (by decide) rfl (fun ls hl => ?_)
            have tx64 := ia_add (a := w2_1) (b := (1 : Int32)) (by omega) (by omega)
            rw [← ex64] at tx64
            refine lv_goto (tgt := 29) hx hb dX12_back_57 (by decide) ?_
            exact ih1 _ _ ls x64 f63 (show (0 : Int) ≤ x64.toInt ∧ x64.toInt ≤ 544 from ⟨by omega, by omega⟩) (show CP xF1 xF0 (544 * p0.toInt) 0 x64.toInt f63 from by rw [show x64.toInt = (w2_1.toInt + 1) by omega]; exact df63) (by omega) (hP.sub (ws' := [(a0, .inr (12, [.int i0, .ref a1, .ref a2, .ref a3, .ref a4, .int i1, .ref a5, .int i2, .int i3, .int i4, .int i5, .int i6, .int i7, .int i8, .ref a6, .ref a7, .ref a8, .ref a9, .ref a10, .ref a11, .ref a12, .int i9, .ref a13, .int i10, .ref a14, .ref a15, .int i11, .ref a16, .ref a17, .ref a18, .ref a19, .int i12, .int i13, .int i14, .int i15, .int i16, .ref a20, .long j0, .ref a21, .ref a22, .ref a23, .ref a24])), (a1, .inl (cI, 544, .inl f63)), (a2, .inl (cI, 1632, .inl xF1)), (a3, .inl (cZ, 3, .inl xF2))]) [0, 1, 2, 3] rfl) (hD.sub (ws' := [(a0, .inr (12, [.int i0, .ref a1, .ref a2, .ref a3, .ref a4, .int i1, .ref a5, .int i2, .int i3, .int i4, .int i5, .int i6, .int i7, .int i8, .ref a6, .ref a7, .ref a8, .ref a9, .ref a10, .ref a11, .ref a12, .int i9, .ref a13, .int i10, .ref a14, .ref a15, .int i11, .ref a16, .ref a17, .ref a18, .ref a19, .int i12, .int i13, .int i14, .int i15, .int i16, .ref a20, .long j0, .ref a21, .ref a22, .ref a23, .ref a24])), (a1, .inl (cI, 544, .inl f63)), (a2, .inl (cI, 1632, .inl xF1)), (a3, .inl (cZ, 3, .inl xF2))]) [0, 1, 2, 3] (by decide) rfl) hS (lv_sub hl [1, 2, 0] rfl)
      exact lp1 _ _ _ ls (0) xF0 (show (0 : Int) ≤ (0 : Int32).toInt ∧ (0 : Int32).toInt ≤ 544 from ⟨by omega, by omega⟩) (show CP xF1 xF0 (544 * p0.toInt) 0 (0 : Int32).toInt xF0 from CP_0 (by omega)) (Nat.lt_succ_self _) (hP.sub (ws' := [(a0, .inr (12, [.int i0, .ref a1, .ref a2, .ref a3, .ref a4, .int i1, .ref a5, .int i2, .int i3, .int i4, .int i5, .int i6, .int i7, .int i8, .ref a6, .ref a7, .ref a8, .ref a9, .ref a10, .ref a11, .ref a12, .int i9, .ref a13, .int i10, .ref a14, .ref a15, .int i11, .ref a16, .ref a17, .ref a18, .ref a19, .int i12, .int i13, .int i14, .int i15, .int i16, .ref a20, .long j0, .ref a21, .ref a22, .ref a23, .ref a24])), (a1, .inl (cI, 544, .inl xF0)), (a2, .inl (cI, 1632, .inl xF1)), (a3, .inl (cZ, 3, .inl xF2))]) [0, 1, 2, 3] rfl) (hD.sub (ws' := [(a0, .inr (12, [.int i0, .ref a1, .ref a2, .ref a3, .ref a4, .int i1, .ref a5, .int i2, .int i3, .int i4, .int i5, .int i6, .int i7, .int i8, .ref a6, .ref a7, .ref a8, .ref a9, .ref a10, .ref a11, .ref a12, .int i9, .ref a13, .int i10, .ref a14, .ref a15, .int i11, .ref a16, .ref a17, .ref a18, .ref a19, .int i12, .int i13, .int i14, .int i15, .int i16, .ref a20, .long j0, .ref a21, .ref a22, .ref a23, .ref a24])), (a1, .inl (cI, 544, .inl xF0)), (a2, .inl (cI, 1632, .inl xF1)), (a3, .inl (cZ, 3, .inl xF2))]) [0, 1, 2, 3] (by decide) rfl) hS (lv_sub hl [1, 2, 0] rfl)
    · rw [ki_eq] at c9
      refine lv_bipush (v := (-6)) hx hb dX12_back_24 (by decide) ?_
      have hP9 := hP.sub (ws' := [(a0, .inr (12, [.int i0, .ref a1, .ref a2, .ref a3, .ref a4, .int i1, .ref a5, .int i2, .int i3, .int i4, .int i5, .int i6, .int i7, .int i8, .ref a6, .ref a7, .ref a8, .ref a9, .ref a10, .ref a11, .ref a12, .int i9, .ref a13, .int i10, .ref a14, .ref a15, .int i11, .ref a16, .ref a17, .ref a18, .ref a19, .int i12, .int i13, .int i14, .int i15, .int i16, .ref a20, .long j0, .ref a21, .ref a22, .ref a23, .ref a24])), (a1, .inl (cI, 544, .inl xF0)), (a2, .inl (cI, 1632, .inl xF1)), (a3, .inl (cZ, 3, .inl xF2))]) [0, 1, 2, 3] rfl
      have hD9 := hD.sub (ws' := [(a0, .inr (12, [.int i0, .ref a1, .ref a2, .ref a3, .ref a4, .int i1, .ref a5, .int i2, .int i3, .int i4, .int i5, .int i6, .int i7, .int i8, .ref a6, .ref a7, .ref a8, .ref a9, .ref a10, .ref a11, .ref a12, .int i9, .ref a13, .int i10, .ref a14, .ref a15, .int i11, .ref a16, .ref a17, .ref a18, .ref a19, .int i12, .int i13, .int i14, .int i15, .int i16, .ref a20, .long j0, .ref a21, .ref a22, .ref a23, .ref a24])), (a1, .inl (cI, 544, .inl xF0)), (a2, .inl (cI, 1632, .inl xF1)), (a3, .inl (cZ, 3, .inl xF2))]) [0, 1, 2, 3] (by decide) rfl
      rw [hQ]
      exact W.iret (v := (-6)) hx hb hr (fun t ht hW => ⟨⟨(-6), (pickG 0 [], pickG (fun _ => 0) [xF0], pickG (fun _ => 0) []), rfl, ⟨(show (-6 : Int) ≤ ((-6) : Int32).toInt ∧ ((-6) : Int32).toInt ≤ 0 from ⟨by omega, by omega⟩), (show WI cp xF0 from p_6), trivial⟩, (by rw [ht]; exact hP9), hD9⟩, hS.F ht⟩) hS.2.2 dX12_back_26
  · rw [ki_eq] at c6
    have hw5q := hw5 (by omega)
    clear hw5
    refine lv_bipush (v := (-2)) hx hb dX12_back_12 (by decide) ?_
    have hP9 := hP.sub (ws' := [(a0, .inr (12, [.int i0, .ref a1, .ref a2, .ref a3, .ref a4, .int i1, .ref a5, .int i2, .int i3, .int i4, .int i5, .int i6, .int i7, .int i8, .ref a6, .ref a7, .ref a8, .ref a9, .ref a10, .ref a11, .ref a12, .int i9, .ref a13, .int i10, .ref a14, .ref a15, .int i11, .ref a16, .ref a17, .ref a18, .ref a19, .int i12, .int i13, .int i14, .int i15, .int i16, .ref a20, .long j0, .ref a21, .ref a22, .ref a23, .ref a24])), (a1, .inl (cI, 544, .inl xF0)), (a2, .inl (cI, 1632, .inl xF1)), (a3, .inl (cZ, 3, .inl xF2))]) [0, 1, 2, 3] rfl
    have hD9 := hD.sub (ws' := [(a0, .inr (12, [.int i0, .ref a1, .ref a2, .ref a3, .ref a4, .int i1, .ref a5, .int i2, .int i3, .int i4, .int i5, .int i6, .int i7, .int i8, .ref a6, .ref a7, .ref a8, .ref a9, .ref a10, .ref a11, .ref a12, .int i9, .ref a13, .int i10, .ref a14, .ref a15, .int i11, .ref a16, .ref a17, .ref a18, .ref a19, .int i12, .int i13, .int i14, .int i15, .int i16, .ref a20, .long j0, .ref a21, .ref a22, .ref a23, .ref a24])), (a1, .inl (cI, 544, .inl xF0)), (a2, .inl (cI, 1632, .inl xF1)), (a3, .inl (cZ, 3, .inl xF2))]) [0, 1, 2, 3] (by decide) rfl
    rw [hQ]
    exact W.iret (v := (-2)) hx hb hr (fun t ht hW => ⟨⟨(-2), (pickG 0 [], pickG (fun _ => 0) [xF0], pickG (fun _ => 0) []), rfl, ⟨(show (-6 : Int) ≤ ((-2) : Int32).toInt ∧ ((-2) : Int32).toInt ≤ 0 from ⟨by omega, by omega⟩), (show WI cp xF0 from p_6), trivial⟩, (by rw [ht]; exact hP9), hD9⟩, hS.F ht⟩) hS.2.2 dX12_back_14
theorem dX12_see_0 : decode cX12_see 0 = .ok (.iload_n 1, 1) := by decide +kernel
theorem dX12_see_1 : decode cX12_see 1 = .ok (.aload_n 0, 1) := by decide +kernel
theorem dX12_see_2 : decode cX12_see 2 = .ok (.getfield 105, 3) := by decide +kernel
theorem dX12_see_5 : decode cX12_see 5 = .ok (.if_icmp .ge 16, 3) := by decide +kernel
theorem dX12_see_8 : decode cX12_see 8 = .ok (.aload_n 0, 1) := by decide +kernel
theorem dX12_see_9 : decode cX12_see 9 = .ok (.getfield 24, 3) := by decide +kernel
theorem dX12_see_12 : decode cX12_see 12 = .ok (.iload_n 1, 1) := by decide +kernel
theorem dX12_see_13 : decode cX12_see 13 = .ok (.baload, 1) := by decide +kernel
theorem dX12_see_14 : decode cX12_see 14 = .ok (.sipush 255, 3) := by decide +kernel
theorem dX12_see_17 : decode cX12_see 17 = .ok (.iand, 1) := by decide +kernel
theorem dX12_see_18 : decode cX12_see 18 = .ok (.goto 4, 3) := by decide +kernel
theorem dX12_see_21 : decode cX12_see 21 = .ok (.iconst (-1), 1) := by decide +kernel
theorem dX12_see_22 : decode cX12_see 22 = .ok (.ireturn, 1) := by decide +kernel
set_option maxHeartbeats 4000000 in
set_option maxRecDepth 100000 in
theorem s_X12_see (l : Launch) (dC : Nat → ClassId) (dI : Nat → Nat → Nat) (cI cZ cB cJ cM cG : ClassId) (a0 a1 a2 a3 a4 a5 a6 a7 a8 a9 a10 a11 a12 a13 a14 a15 a16 a17 a18 a19 a20 a21 a22 a23 a24 : Nat) (i0 i1 i2 i3 i4 i5 i6 i7 i8 i9 i10 i11 i12 i13 i14 i15 i16 : Int32) (j0 : Int64) (xF3 : Nat → Int32) (p0 : Int32) (sz : Nat) (p_0 : (0 : Int) ≤ i1.toInt ∧ i1.toInt ≤ 1600) (p_1 : (0 : Int) ≤ i2.toInt ∧ i2.toInt ≤ 1600) (p_2 : (0 : Int) ≤ i3.toInt ∧ i3.toInt ≤ 1600) (p_3 : (0 : Int) ≤ i4.toInt ∧ i4.toInt ≤ 1600) (p_4 : (0 : Int) ≤ i5.toInt ∧ i5.toInt ≤ 6) (p_5 : (0 : Int) ≤ i11.toInt ∧ i11.toInt ≤ 59) (p_6 : (0 : Int) ≤ p0.toInt ∧ p0.toInt ≤ 1600) : Met l yX12_see (kw yX12_see cX12_see 2 (some .int)) ({ frames := 0, cells := 0, slots := 0, locals := 0 } : Room) (va_Pc [.ref a0, .int p0] (kPre dC dI [(cI, .int), (cZ, .boolean), (cB, .byte), (cJ, .long), (cM, .object RX2), (cG, .array .int)] [(a0, .inr (12, [.int i0, .ref a1, .ref a2, .ref a3, .ref a4, .int i1, .ref a5, .int i2, .int i3, .int i4, .int i5, .int i6, .int i7, .int i8, .ref a6, .ref a7, .ref a8, .ref a9, .ref a10, .ref a11, .ref a12, .int i9, .ref a13, .int i10, .ref a14, .ref a15, .int i11, .ref a16, .ref a17, .ref a18, .ref a19, .int i12, .int i13, .int i14, .int i15, .int i16, .ref a20, .long j0, .ref a21, .ref a22, .ref a23, .ref a24])), (a4, .inl (cB, 1600, .inl xF3))] sz)) (va_Qi (fun (r : Int32) (u9 : Unit) => ((-1 : Int) ≤ r.toInt ∧ r.toInt ≤ 255) ∧ (r.toInt = seeF xF3 i2.toInt p0.toInt) ∧ ((r.toInt ≠ -1 → p0.toInt < i2.toInt)) ∧ True) (fun u9 t => va_P (dC, dI) vwCl [(a0, .inr (12, [.int i0, .ref a1, .ref a2, .ref a3, .ref a4, .int i1, .ref a5, .int i2, .int i3, .int i4, .int i5, .int i6, .int i7, .int i8, .ref a6, .ref a7, .ref a8, .ref a9, .ref a10, .ref a11, .ref a12, .int i9, .ref a13, .int i10, .ref a14, .ref a15, .int i11, .ref a16, .ref a17, .ref a18, .ref a19, .int i12, .int i13, .int i14, .int i15, .int i16, .ref a20, .long j0, .ref a21, .ref a22, .ref a23, .ref a24])), (a4, .inl (cB, 1600, .inl xF3))] t.heap ∧ va_D (va_A [(a0, .inr (12, [.int i0, .ref a1, .ref a2, .ref a3, .ref a4, .int i1, .ref a5, .int i2, .int i3, .int i4, .int i5, .int i6, .int i7, .int i8, .ref a6, .ref a7, .ref a8, .ref a9, .ref a10, .ref a11, .ref a12, .int i9, .ref a13, .int i10, .ref a14, .ref a15, .int i11, .ref a16, .ref a17, .ref a18, .ref a19, .int i12, .int i13, .int i14, .int i15, .int i16, .ref a20, .long j0, .ref a21, .ref a22, .ref a23, .ref a24])), (a4, .inl (cB, 1600, .inl xF3))] sz) [(a0, .inr (12, [.int i0, .ref a1, .ref a2, .ref a3, .ref a4, .int i1, .ref a5, .int i2, .int i3, .int i4, .int i5, .int i6, .int i7, .int i8, .ref a6, .ref a7, .ref a8, .ref a9, .ref a10, .ref a11, .ref a12, .int i9, .ref a13, .int i10, .ref a14, .ref a15, .int i11, .ref a16, .ref a17, .ref a18, .ref a19, .int i12, .int i13, .int i14, .int i15, .int i16, .ref a20, .long j0, .ref a21, .ref a22, .ref a23, .ref a24])), (a4, .inl (cB, 1600, .inl xF3))]) (va_A [(a0, .inr (12, [.int i0, .ref a1, .ref a2, .ref a3, .ref a4, .int i1, .ref a5, .int i2, .int i3, .int i4, .int i5, .int i6, .int i7, .int i8, .ref a6, .ref a7, .ref a8, .ref a9, .ref a10, .ref a11, .ref a12, .int i9, .ref a13, .int i10, .ref a14, .ref a15, .int i11, .ref a16, .ref a17, .ref a18, .ref a19, .int i12, .int i13, .int i14, .int i15, .int i16, .ref a20, .long j0, .ref a21, .ref a22, .ref a23, .ref a24])), (a4, .inl (cB, 1600, .inl xF3))] sz)) 0 0 (va_A [(a0, .inr (12, [.int i0, .ref a1, .ref a2, .ref a3, .ref a4, .int i1, .ref a5, .int i2, .int i3, .int i4, .int i5, .int i6, .int i7, .int i8, .ref a6, .ref a7, .ref a8, .ref a9, .ref a10, .ref a11, .ref a12, .int i9, .ref a13, .int i10, .ref a14, .ref a15, .int i11, .ref a16, .ref a17, .ref a18, .ref a19, .int i12, .int i13, .int i14, .int i15, .int i16, .ref a20, .long j0, .ref a21, .ref a22, .ref a23, .ref a24])), (a4, .inl (cB, 1600, .inl xF3))] sz) := by
  refine kEnter (by decide) (Nat.le_of_ble_eq_true rfl) ?_
  intro p e s m below meth c ls hx hb hr hml hown hlocks hin hwd hsz hP hK hD hl
  subst hsz
  generalize hAe : va_A [(a0, .inr (12, [.int i0, .ref a1, .ref a2, .ref a3, .ref a4, .int i1, .ref a5, .int i2, .int i3, .int i4, .int i5, .int i6, .int i7, .int i8, .ref a6, .ref a7, .ref a8, .ref a9, .ref a10, .ref a11, .ref a12, .int i9, .ref a13, .int i10, .ref a14, .ref a15, .int i11, .ref a16, .ref a17, .ref a18, .ref a19, .int i12, .int i13, .int i14, .int i15, .int i16, .ref a20, .long j0, .ref a21, .ref a22, .ref a23, .ref a24])), (a4, .inl (cB, 1600, .inl xF3))] s.heap.size = A at hD ⊢
  have hA : ∀ q : Nat, s.heap.size ≤ q → A q := fun q h => by rw [← hAe]; exact Or.inr h
  have hS : va_S A s.heap s.heap [] := va_S.rf
  have hl : lv_has ls 2 [(0, .ref a0), (1, .int p0)] := hl
  obtain ⟨Q, hQ⟩ : ∃ Q, Q = MQ below (va_Qi (fun (r : Int32) (u9 : Unit) => ((-1 : Int) ≤ r.toInt ∧ r.toInt ≤ 255) ∧ (r.toInt = seeF xF3 i2.toInt p0.toInt) ∧ ((r.toInt ≠ -1 → p0.toInt < i2.toInt)) ∧ True) (fun u9 t => va_P (dC, dI) vwCl [(a0, .inr (12, [.int i0, .ref a1, .ref a2, .ref a3, .ref a4, .int i1, .ref a5, .int i2, .int i3, .int i4, .int i5, .int i6, .int i7, .int i8, .ref a6, .ref a7, .ref a8, .ref a9, .ref a10, .ref a11, .ref a12, .int i9, .ref a13, .int i10, .ref a14, .ref a15, .int i11, .ref a16, .ref a17, .ref a18, .ref a19, .int i12, .int i13, .int i14, .int i15, .int i16, .ref a20, .long j0, .ref a21, .ref a22, .ref a23, .ref a24])), (a4, .inl (cB, 1600, .inl xF3))] t.heap ∧ va_D A [(a0, .inr (12, [.int i0, .ref a1, .ref a2, .ref a3, .ref a4, .int i1, .ref a5, .int i2, .int i3, .int i4, .int i5, .int i6, .int i7, .int i8, .ref a6, .ref a7, .ref a8, .ref a9, .ref a10, .ref a11, .ref a12, .int i9, .ref a13, .int i10, .ref a14, .ref a15, .int i11, .ref a16, .ref a17, .ref a18, .ref a19, .int i12, .int i13, .int i14, .int i15, .int i16, .ref a20, .long j0, .ref a21, .ref a22, .ref a23, .ref a24])), (a4, .inl (cB, 1600, .inl xF3))]) A) ([.ref a0, .int p0] : List Value).toArray s 0 0 A := ⟨_, rfl⟩
  rw [← hQ]
  have km1 : ((-1) : Int32).toInt = -1 := by decide
  have k255 : (255 : Int32).toInt = 255 := by decide
  refine lv_iload_n hx hb dX12_see_0 rfl (lv_at hl 1 rfl) ?_
  refine lv_aload_n hx hb dX12_see_1 rfl (lv_at hl 0 rfl) ?_
  refine va_get (D := (dC, dI)) (ci := 12) (v := .int i2) (C := RX12) (T := TX12) (N := 42) hx hb hwd inlX12 hown hK hP 0 rfl rfl 7 (by decide) (hwd _ kr23_4) (fun _ h9 => h9) rfl dX12_see_2 ?_
  refine lv_icmp_ge (tgt := 21) hx hb dX12_see_5 (by decide) (fun c1 => ?_) (fun c1 => ?_)
  · rw [ki_le] at c1
    refine lv_iconst (v := (-1)) hx hb dX12_see_21 (by decide) ?_
    have hP9 := hP.sub (ws' := [(a0, .inr (12, [.int i0, .ref a1, .ref a2, .ref a3, .ref a4, .int i1, .ref a5, .int i2, .int i3, .int i4, .int i5, .int i6, .int i7, .int i8, .ref a6, .ref a7, .ref a8, .ref a9, .ref a10, .ref a11, .ref a12, .int i9, .ref a13, .int i10, .ref a14, .ref a15, .int i11, .ref a16, .ref a17, .ref a18, .ref a19, .int i12, .int i13, .int i14, .int i15, .int i16, .ref a20, .long j0, .ref a21, .ref a22, .ref a23, .ref a24])), (a4, .inl (cB, 1600, .inl xF3))]) [0, 1] rfl
    have hD9 := hD.sub (ws' := [(a0, .inr (12, [.int i0, .ref a1, .ref a2, .ref a3, .ref a4, .int i1, .ref a5, .int i2, .int i3, .int i4, .int i5, .int i6, .int i7, .int i8, .ref a6, .ref a7, .ref a8, .ref a9, .ref a10, .ref a11, .ref a12, .int i9, .ref a13, .int i10, .ref a14, .ref a15, .int i11, .ref a16, .ref a17, .ref a18, .ref a19, .int i12, .int i13, .int i14, .int i15, .int i16, .ref a20, .long j0, .ref a21, .ref a22, .ref a23, .ref a24])), (a4, .inl (cB, 1600, .inl xF3))]) [0, 1] (by decide) rfl
    rw [hQ]
    exact W.iret (v := (-1)) hx hb hr (fun t ht hW => ⟨⟨(-1), (), rfl, ⟨(show (-1 : Int) ≤ ((-1) : Int32).toInt ∧ ((-1) : Int32).toInt ≤ 255 from ⟨by omega, by omega⟩), (show ((-1) : Int32).toInt = seeF xF3 i2.toInt p0.toInt from by unfold seeF; rw [if_neg (by omega)]; decide), (show (((-1) : Int32).toInt ≠ -1 → p0.toInt < i2.toInt) from by omega), trivial⟩, (by rw [ht]; exact hP9), hD9⟩, hS.F ht⟩) hS.2.2 dX12_see_22
  · rw [ki_le] at c1
    refine lv_aload_n hx hb dX12_see_8 rfl (lv_at hl 0 rfl) ?_
    refine va_get (D := (dC, dI)) (ci := 12) (v := .ref a4) (C := RX12) (T := TX12) (N := 42) hx hb hwd inlX12 hown hK hP 0 rfl rfl 4 (by decide) (hwd _ kr7_6) (fun _ h9 => h9) rfl dX12_see_9 ?_
    refine lv_iload_n hx hb dX12_see_12 rfl (lv_at hl 1 rfl) ?_
    have h2 : vp_in p0 1600 := (vp_of (by omega) (by omega))
    refine va_bald hx hb hK hP 1 2 rfl rfl h2 dX12_see_13 ?_
    refine lv_topi (fun x3 ex3 => ?_)
    refine lv_sipush (v := 255) hx hb dX12_see_14 (by decide) ?_
    refine lv_iand hx hb dX12_see_17 ?_
    refine lv_topi (fun x4 ex4 => ?_)
    have tx4 := ia_and (a := x3) (m := (255 : Int32)) (by decide)
    rw [← ex4] at tx4
    refine lv_goto (tgt := 22) hx hb dX12_see_18 (by decide) ?_
    have hP9 := hP.sub (ws' := [(a0, .inr (12, [.int i0, .ref a1, .ref a2, .ref a3, .ref a4, .int i1, .ref a5, .int i2, .int i3, .int i4, .int i5, .int i6, .int i7, .int i8, .ref a6, .ref a7, .ref a8, .ref a9, .ref a10, .ref a11, .ref a12, .int i9, .ref a13, .int i10, .ref a14, .ref a15, .int i11, .ref a16, .ref a17, .ref a18, .ref a19, .int i12, .int i13, .int i14, .int i15, .int i16, .ref a20, .long j0, .ref a21, .ref a22, .ref a23, .ref a24])), (a4, .inl (cB, 1600, .inl xF3))]) [0, 1] rfl
    have hD9 := hD.sub (ws' := [(a0, .inr (12, [.int i0, .ref a1, .ref a2, .ref a3, .ref a4, .int i1, .ref a5, .int i2, .int i3, .int i4, .int i5, .int i6, .int i7, .int i8, .ref a6, .ref a7, .ref a8, .ref a9, .ref a10, .ref a11, .ref a12, .int i9, .ref a13, .int i10, .ref a14, .ref a15, .int i11, .ref a16, .ref a17, .ref a18, .ref a19, .int i12, .int i13, .int i14, .int i15, .int i16, .ref a20, .long j0, .ref a21, .ref a22, .ref a23, .ref a24])), (a4, .inl (cB, 1600, .inl xF3))]) [0, 1] (by decide) rfl
    rw [hQ]
    exact W.iret (v := x4) hx hb hr (fun t ht hW => ⟨⟨x4, (), rfl, ⟨(show (-1 : Int) ≤ x4.toInt ∧ x4.toInt ≤ 255 from ⟨by omega, by omega⟩), (show x4.toInt = seeF xF3 i2.toInt p0.toInt from by rw [ex4, ex3]; unfold seeF; rw [if_pos (by omega)]; rfl), (show (x4.toInt ≠ -1 → p0.toInt < i2.toInt) from by omega), trivial⟩, (by rw [ht]; exact hP9), hD9⟩, hS.F ht⟩) hS.2.2 dX12_see_22
theorem dX12_advance_0 : decode cX12_advance 0 = .ok (.aload_n 0, 1) := by decide +kernel
theorem dX12_advance_1 : decode cX12_advance 1 = .ok (.aload_n 0, 1) := by decide +kernel
theorem dX12_advance_2 : decode cX12_advance 2 = .ok (.getfield 108, 3) := by decide +kernel
theorem dX12_advance_5 : decode cX12_advance 5 = .ok (.invokevirtual 111, 3) := by decide +kernel
theorem dX12_advance_8 : decode cX12_advance 8 = .ok (.bipush 32, 2) := by decide +kernel
theorem dX12_advance_10 : decode cX12_advance 10 = .ok (.if_icmp .eq 16, 3) := by decide +kernel
theorem dX12_advance_13 : decode cX12_advance 13 = .ok (.aload_n 0, 1) := by decide +kernel
theorem dX12_advance_14 : decode cX12_advance 14 = .ok (.aload_n 0, 1) := by decide +kernel
theorem dX12_advance_15 : decode cX12_advance 15 = .ok (.getfield 108, 3) := by decide +kernel
theorem dX12_advance_18 : decode cX12_advance 18 = .ok (.invokevirtual 111, 3) := by decide +kernel
theorem dX12_advance_21 : decode cX12_advance 21 = .ok (.bipush 10, 2) := by decide +kernel
theorem dX12_advance_23 : decode cX12_advance 23 = .ok (.if_icmp .ne 16, 3) := by decide +kernel
theorem dX12_advance_26 : decode cX12_advance 26 = .ok (.aload_n 0, 1) := by decide +kernel
theorem dX12_advance_27 : decode cX12_advance 27 = .ok (.dup, 1) := by decide +kernel
theorem dX12_advance_28 : decode cX12_advance 28 = .ok (.getfield 108, 3) := by decide +kernel
theorem dX12_advance_31 : decode cX12_advance 31 = .ok (.iconst 1, 1) := by decide +kernel
theorem dX12_advance_32 : decode cX12_advance 32 = .ok (.iadd, 1) := by decide +kernel
theorem dX12_advance_33 : decode cX12_advance 33 = .ok (.putfield 108, 3) := by decide +kernel
theorem dX12_advance_36 : decode cX12_advance 36 = .ok (.goto (-36), 3) := by decide +kernel
theorem dX12_advance_39 : decode cX12_advance 39 = .ok (.aload_n 0, 1) := by decide +kernel
theorem dX12_advance_40 : decode cX12_advance 40 = .ok (.aload_n 0, 1) := by decide +kernel
theorem dX12_advance_41 : decode cX12_advance 41 = .ok (.getfield 108, 3) := by decide +kernel
theorem dX12_advance_44 : decode cX12_advance 44 = .ok (.putfield 115, 3) := by decide +kernel
theorem dX12_advance_47 : decode cX12_advance 47 = .ok (.aload_n 0, 1) := by decide +kernel
theorem dX12_advance_48 : decode cX12_advance 48 = .ok (.aload_n 0, 1) := by decide +kernel
theorem dX12_advance_49 : decode cX12_advance 49 = .ok (.getfield 108, 3) := by decide +kernel
theorem dX12_advance_52 : decode cX12_advance 52 = .ok (.invokevirtual 111, 3) := by decide +kernel
theorem dX12_advance_55 : decode cX12_advance 55 = .ok (.istore_n 1, 1) := by decide +kernel
theorem dX12_advance_56 : decode cX12_advance 56 = .ok (.iload_n 1, 1) := by decide +kernel
theorem dX12_advance_57 : decode cX12_advance 57 = .ok (.iconst (-1), 1) := by decide +kernel
theorem dX12_advance_58 : decode cX12_advance 58 = .ok (.if_icmp .ne 11, 3) := by decide +kernel
theorem dX12_advance_61 : decode cX12_advance 61 = .ok (.aload_n 0, 1) := by decide +kernel
theorem dX12_advance_62 : decode cX12_advance 62 = .ok (.iconst 0, 1) := by decide +kernel
theorem dX12_advance_63 : decode cX12_advance 63 = .ok (.putfield 118, 3) := by decide +kernel
theorem dX12_advance_66 : decode cX12_advance 66 = .ok (.goto 194, 3) := by decide +kernel
theorem dX12_advance_69 : decode cX12_advance 69 = .ok (.iload_n 1, 1) := by decide +kernel
theorem dX12_advance_70 : decode cX12_advance 70 = .ok (.i2l, 1) := by decide +kernel
theorem dX12_advance_71 : decode cX12_advance 71 = .ok (.ldc2_w 121, 3) := by decide +kernel
theorem dX12_advance_74 : decode cX12_advance 74 = .ok (.ldc2_w 123, 3) := by decide +kernel
theorem dX12_advance_77 : decode cX12_advance 77 = .ok (.invokestatic 98, 3) := by decide +kernel
theorem dX12_advance_80 : decode cX12_advance 80 = .ok (.ifCond .eq 45, 3) := by decide +kernel
theorem dX12_advance_83 : decode cX12_advance 83 = .ok (.aload_n 0, 1) := by decide +kernel
theorem dX12_advance_84 : decode cX12_advance 84 = .ok (.aload_n 0, 1) := by decide +kernel
theorem dX12_advance_85 : decode cX12_advance 85 = .ok (.getfield 108, 3) := by decide +kernel
theorem dX12_advance_88 : decode cX12_advance 88 = .ok (.invokevirtual 111, 3) := by decide +kernel
theorem dX12_advance_91 : decode cX12_advance 91 = .ok (.i2l, 1) := by decide +kernel
theorem dX12_advance_92 : decode cX12_advance 92 = .ok (.ldc2_w 121, 3) := by decide +kernel
theorem dX12_advance_95 : decode cX12_advance 95 = .ok (.ldc2_w 123, 3) := by decide +kernel
theorem dX12_advance_98 : decode cX12_advance 98 = .ok (.invokestatic 98, 3) := by decide +kernel
theorem dX12_advance_101 : decode cX12_advance 101 = .ok (.ifCond .eq 16, 3) := by decide +kernel
theorem dX12_advance_104 : decode cX12_advance 104 = .ok (.aload_n 0, 1) := by decide +kernel
theorem dX12_advance_105 : decode cX12_advance 105 = .ok (.dup, 1) := by decide +kernel
theorem dX12_advance_106 : decode cX12_advance 106 = .ok (.getfield 108, 3) := by decide +kernel
theorem dX12_advance_109 : decode cX12_advance 109 = .ok (.iconst 1, 1) := by decide +kernel
theorem dX12_advance_110 : decode cX12_advance 110 = .ok (.iadd, 1) := by decide +kernel
theorem dX12_advance_111 : decode cX12_advance 111 = .ok (.putfield 108, 3) := by decide +kernel
theorem dX12_advance_114 : decode cX12_advance 114 = .ok (.goto (-31), 3) := by decide +kernel
theorem dX12_advance_117 : decode cX12_advance 117 = .ok (.aload_n 0, 1) := by decide +kernel
theorem dX12_advance_118 : decode cX12_advance 118 = .ok (.iconst 1, 1) := by decide +kernel
theorem dX12_advance_119 : decode cX12_advance 119 = .ok (.putfield 118, 3) := by decide +kernel
theorem dX12_advance_122 : decode cX12_advance 122 = .ok (.goto 138, 3) := by decide +kernel
theorem dX12_advance_125 : decode cX12_advance 125 = .ok (.iload_n 1, 1) := by decide +kernel
theorem dX12_advance_126 : decode cX12_advance 126 = .ok (.i2l, 1) := by decide +kernel
theorem dX12_advance_127 : decode cX12_advance 127 = .ok (.ldc2_w 125, 3) := by decide +kernel
theorem dX12_advance_130 : decode cX12_advance 130 = .ok (.ldc2_w 127, 3) := by decide +kernel
theorem dX12_advance_133 : decode cX12_advance 133 = .ok (.invokestatic 98, 3) := by decide +kernel
theorem dX12_advance_136 : decode cX12_advance 136 = .ok (.ifCond .eq 78, 3) := by decide +kernel
theorem dX12_advance_139 : decode cX12_advance 139 = .ok (.aload_n 0, 1) := by decide +kernel
theorem dX12_advance_140 : decode cX12_advance 140 = .ok (.iconst 0, 1) := by decide +kernel
theorem dX12_advance_141 : decode cX12_advance 141 = .ok (.putfield 129, 3) := by decide +kernel
theorem dX12_advance_144 : decode cX12_advance 144 = .ok (.aload_n 0, 1) := by decide +kernel
theorem dX12_advance_145 : decode cX12_advance 145 = .ok (.aload_n 0, 1) := by decide +kernel
theorem dX12_advance_146 : decode cX12_advance 146 = .ok (.getfield 108, 3) := by decide +kernel
theorem dX12_advance_149 : decode cX12_advance 149 = .ok (.invokevirtual 111, 3) := by decide +kernel
theorem dX12_advance_152 : decode cX12_advance 152 = .ok (.i2l, 1) := by decide +kernel
theorem dX12_advance_153 : decode cX12_advance 153 = .ok (.ldc2_w 125, 3) := by decide +kernel
theorem dX12_advance_156 : decode cX12_advance 156 = .ok (.ldc2_w 127, 3) := by decide +kernel
theorem dX12_advance_159 : decode cX12_advance 159 = .ok (.invokestatic 98, 3) := by decide +kernel
theorem dX12_advance_162 : decode cX12_advance 162 = .ok (.ifCond .eq 44, 3) := by decide +kernel
theorem dX12_advance_165 : decode cX12_advance 165 = .ok (.aload_n 0, 1) := by decide +kernel
theorem dX12_advance_166 : decode cX12_advance 166 = .ok (.ldc 132, 2) := by decide +kernel
theorem dX12_advance_168 : decode cX12_advance 168 = .ok (.bipush 10, 2) := by decide +kernel
theorem dX12_advance_170 : decode cX12_advance 170 = .ok (.aload_n 0, 1) := by decide +kernel
theorem dX12_advance_171 : decode cX12_advance 171 = .ok (.getfield 129, 3) := by decide +kernel
theorem dX12_advance_174 : decode cX12_advance 174 = .ok (.imul, 1) := by decide +kernel
theorem dX12_advance_175 : decode cX12_advance 175 = .ok (.aload_n 0, 1) := by decide +kernel
theorem dX12_advance_176 : decode cX12_advance 176 = .ok (.aload_n 0, 1) := by decide +kernel
theorem dX12_advance_177 : decode cX12_advance 177 = .ok (.getfield 108, 3) := by decide +kernel
theorem dX12_advance_180 : decode cX12_advance 180 = .ok (.invokevirtual 111, 3) := by decide +kernel
theorem dX12_advance_183 : decode cX12_advance 183 = .ok (.iadd, 1) := by decide +kernel
theorem dX12_advance_184 : decode cX12_advance 184 = .ok (.bipush 48, 2) := by decide +kernel
theorem dX12_advance_186 : decode cX12_advance 186 = .ok (.isub, 1) := by decide +kernel
theorem dX12_advance_187 : decode cX12_advance 187 = .ok (.invokestatic 133, 3) := by decide +kernel
theorem dX12_advance_190 : decode cX12_advance 190 = .ok (.putfield 129, 3) := by decide +kernel
theorem dX12_advance_193 : decode cX12_advance 193 = .ok (.aload_n 0, 1) := by decide +kernel
theorem dX12_advance_194 : decode cX12_advance 194 = .ok (.dup, 1) := by decide +kernel
theorem dX12_advance_195 : decode cX12_advance 195 = .ok (.getfield 108, 3) := by decide +kernel
theorem dX12_advance_198 : decode cX12_advance 198 = .ok (.iconst 1, 1) := by decide +kernel
theorem dX12_advance_199 : decode cX12_advance 199 = .ok (.iadd, 1) := by decide +kernel
theorem dX12_advance_200 : decode cX12_advance 200 = .ok (.putfield 108, 3) := by decide +kernel
theorem dX12_advance_203 : decode cX12_advance 203 = .ok (.goto (-59), 3) := by decide +kernel
theorem dX12_advance_206 : decode cX12_advance 206 = .ok (.aload_n 0, 1) := by decide +kernel
theorem dX12_advance_207 : decode cX12_advance 207 = .ok (.iconst 2, 1) := by decide +kernel
theorem dX12_advance_208 : decode cX12_advance 208 = .ok (.putfield 118, 3) := by decide +kernel
theorem dX12_advance_211 : decode cX12_advance 211 = .ok (.goto 49, 3) := by decide +kernel
theorem dX12_advance_214 : decode cX12_advance 214 = .ok (.aload_n 0, 1) := by decide +kernel
theorem dX12_advance_215 : decode cX12_advance 215 = .ok (.iload_n 1, 1) := by decide +kernel
theorem dX12_advance_216 : decode cX12_advance 216 = .ok (.bipush 59, 2) := by decide +kernel
theorem dX12_advance_218 : decode cX12_advance 218 = .ok (.if_icmp .ne 7, 3) := by decide +kernel
theorem dX12_advance_221 : decode cX12_advance 221 = .ok (.iconst 3, 1) := by decide +kernel
theorem dX12_advance_222 : decode cX12_advance 222 = .ok (.goto 25, 3) := by decide +kernel
theorem dX12_advance_225 : decode cX12_advance 225 = .ok (.iload_n 1, 1) := by decide +kernel
theorem dX12_advance_226 : decode cX12_advance 226 = .ok (.bipush 123, 2) := by decide +kernel
theorem dX12_advance_228 : decode cX12_advance 228 = .ok (.if_icmp .ne 7, 3) := by decide +kernel
theorem dX12_advance_231 : decode cX12_advance 231 = .ok (.iconst 4, 1) := by decide +kernel
theorem dX12_advance_232 : decode cX12_advance 232 = .ok (.goto 15, 3) := by decide +kernel
theorem dX12_advance_235 : decode cX12_advance 235 = .ok (.iload_n 1, 1) := by decide +kernel
theorem dX12_advance_236 : decode cX12_advance 236 = .ok (.bipush 125, 2) := by decide +kernel
theorem dX12_advance_238 : decode cX12_advance 238 = .ok (.if_icmp .ne 7, 3) := by decide +kernel
theorem dX12_advance_241 : decode cX12_advance 241 = .ok (.iconst 5, 1) := by decide +kernel
theorem dX12_advance_242 : decode cX12_advance 242 = .ok (.goto 5, 3) := by decide +kernel
theorem dX12_advance_245 : decode cX12_advance 245 = .ok (.bipush 6, 2) := by decide +kernel
theorem dX12_advance_247 : decode cX12_advance 247 = .ok (.putfield 118, 3) := by decide +kernel
theorem dX12_advance_250 : decode cX12_advance 250 = .ok (.aload_n 0, 1) := by decide +kernel
theorem dX12_advance_251 : decode cX12_advance 251 = .ok (.dup, 1) := by decide +kernel
theorem dX12_advance_252 : decode cX12_advance 252 = .ok (.getfield 108, 3) := by decide +kernel
theorem dX12_advance_255 : decode cX12_advance 255 = .ok (.iconst 1, 1) := by decide +kernel
theorem dX12_advance_256 : decode cX12_advance 256 = .ok (.iadd, 1) := by decide +kernel
theorem dX12_advance_257 : decode cX12_advance 257 = .ok (.putfield 108, 3) := by decide +kernel
theorem dX12_advance_260 : decode cX12_advance 260 = .ok (.return_, 1) := by decide +kernel
set_option maxHeartbeats 4000000 in
set_option maxRecDepth 100000 in
theorem s_X12_advance (l : Launch) (dC : Nat → ClassId) (dI : Nat → Nat → Nat) (cI cZ cB cJ cM cG : ClassId) (a0 a1 a2 a3 a4 a5 a6 a7 a8 a9 a10 a11 a12 a13 a14 a15 a16 a17 a18 a19 a20 a21 a22 a23 a24 : Nat) (i0 i1 i2 i3 i4 i5 i6 i7 i8 i9 i10 i11 i12 i13 i14 i15 i16 : Int32) (j0 : Int64) (xF3 : Nat → Int32) (sz : Nat) (p_0 : (0 : Int) ≤ i1.toInt ∧ i1.toInt ≤ 1600) (p_1 : (0 : Int) ≤ i2.toInt ∧ i2.toInt ≤ 1600) (p_2 : (0 : Int) ≤ i3.toInt ∧ i3.toInt ≤ 1600) (p_3 : (0 : Int) ≤ i4.toInt ∧ i4.toInt ≤ 1600) (p_4 : (0 : Int) ≤ i5.toInt ∧ i5.toInt ≤ 6) (p_5 : (0 : Int) ≤ i11.toInt ∧ i11.toInt ≤ 59) : Met l yX12_advance (kw yX12_advance cX12_advance 2 none) ({ frames := 1, cells := 0, slots := 0, locals := 25 } : Room) (va_Pc [.ref a0] (kPre dC dI [(cI, .int), (cZ, .boolean), (cB, .byte), (cJ, .long), (cM, .object RX2), (cG, .array .int)] [(a0, .inr (12, [.int i0, .ref a1, .ref a2, .ref a3, .ref a4, .int i1, .ref a5, .int i2, .int i3, .int i4, .int i5, .int i6, .int i7, .int i8, .ref a6, .ref a7, .ref a8, .ref a9, .ref a10, .ref a11, .ref a12, .int i9, .ref a13, .int i10, .ref a14, .ref a15, .int i11, .ref a16, .ref a17, .ref a18, .ref a19, .int i12, .int i13, .int i14, .int i15, .int i16, .ref a20, .long j0, .ref a21, .ref a22, .ref a23, .ref a24])), (a4, .inl (cB, 1600, .inl xF3))] sz)) (va_Qv (fun (u9 : (Nat → Int32) × (Nat → Nat → Int32) × (Nat → Nat → Int64)) => ((0 : Int) ≤ (u9.1 0).toInt ∧ (u9.1 0).toInt ≤ 1600) ∧ ((0 : Int) ≤ (u9.1 1).toInt ∧ (u9.1 1).toInt ≤ 1600) ∧ ((0 : Int) ≤ (u9.1 2).toInt ∧ (u9.1 2).toInt ≤ 6) ∧ (i3.toInt ≤ (u9.1 1).toInt) ∧ ((u9.1 1).toInt ≤ (u9.1 0).toInt ∧ (2 ≤ (u9.1 2).toInt → (u9.1 1).toInt + 1 ≤ (u9.1 0).toInt)) ∧ True) (fun u9 t => va_P (dC, dI) vwCl [(a0, .inr (12, [.int i0, .ref a1, .ref a2, .ref a3, .ref a4, .int i1, .ref a5, .int i2, .int (u9.1 0), .int (u9.1 1), .int (u9.1 2), .int (u9.1 3), .int i7, .int i8, .ref a6, .ref a7, .ref a8, .ref a9, .ref a10, .ref a11, .ref a12, .int i9, .ref a13, .int i10, .ref a14, .ref a15, .int i11, .ref a16, .ref a17, .ref a18, .ref a19, .int i12, .int i13, .int i14, .int i15, .int i16, .ref a20, .long j0, .ref a21, .ref a22, .ref a23, .ref a24])), (a4, .inl (cB, 1600, .inl xF3))] t.heap ∧ va_D (va_A [(a0, .inr (12, [.int i0, .ref a1, .ref a2, .ref a3, .ref a4, .int i1, .ref a5, .int i2, .int i3, .int i4, .int i5, .int i6, .int i7, .int i8, .ref a6, .ref a7, .ref a8, .ref a9, .ref a10, .ref a11, .ref a12, .int i9, .ref a13, .int i10, .ref a14, .ref a15, .int i11, .ref a16, .ref a17, .ref a18, .ref a19, .int i12, .int i13, .int i14, .int i15, .int i16, .ref a20, .long j0, .ref a21, .ref a22, .ref a23, .ref a24])), (a4, .inl (cB, 1600, .inl xF3))] sz) [(a0, .inr (12, [.int i0, .ref a1, .ref a2, .ref a3, .ref a4, .int i1, .ref a5, .int i2, .int (u9.1 0), .int (u9.1 1), .int (u9.1 2), .int (u9.1 3), .int i7, .int i8, .ref a6, .ref a7, .ref a8, .ref a9, .ref a10, .ref a11, .ref a12, .int i9, .ref a13, .int i10, .ref a14, .ref a15, .int i11, .ref a16, .ref a17, .ref a18, .ref a19, .int i12, .int i13, .int i14, .int i15, .int i16, .ref a20, .long j0, .ref a21, .ref a22, .ref a23, .ref a24])), (a4, .inl (cB, 1600, .inl xF3))]) (va_A [(a0, .inr (12, [.int i0, .ref a1, .ref a2, .ref a3, .ref a4, .int i1, .ref a5, .int i2, .int i3, .int i4, .int i5, .int i6, .int i7, .int i8, .ref a6, .ref a7, .ref a8, .ref a9, .ref a10, .ref a11, .ref a12, .int i9, .ref a13, .int i10, .ref a14, .ref a15, .int i11, .ref a16, .ref a17, .ref a18, .ref a19, .int i12, .int i13, .int i14, .int i15, .int i16, .ref a20, .long j0, .ref a21, .ref a22, .ref a23, .ref a24])), (a4, .inl (cB, 1600, .inl xF3))] sz)) 0 0 (va_A [(a0, .inr (12, [.int i0, .ref a1, .ref a2, .ref a3, .ref a4, .int i1, .ref a5, .int i2, .int i3, .int i4, .int i5, .int i6, .int i7, .int i8, .ref a6, .ref a7, .ref a8, .ref a9, .ref a10, .ref a11, .ref a12, .int i9, .ref a13, .int i10, .ref a14, .ref a15, .int i11, .ref a16, .ref a17, .ref a18, .ref a19, .int i12, .int i13, .int i14, .int i15, .int i16, .ref a20, .long j0, .ref a21, .ref a22, .ref a23, .ref a24])), (a4, .inl (cB, 1600, .inl xF3))] sz) := by
  refine kEnter (by decide) (Nat.le_of_ble_eq_true rfl) ?_
  intro p e s m below meth c ls hx hb hr hml hown hlocks hin hwd hsz hP hK hD hl
  subst hsz
  generalize hAe : va_A [(a0, .inr (12, [.int i0, .ref a1, .ref a2, .ref a3, .ref a4, .int i1, .ref a5, .int i2, .int i3, .int i4, .int i5, .int i6, .int i7, .int i8, .ref a6, .ref a7, .ref a8, .ref a9, .ref a10, .ref a11, .ref a12, .int i9, .ref a13, .int i10, .ref a14, .ref a15, .int i11, .ref a16, .ref a17, .ref a18, .ref a19, .int i12, .int i13, .int i14, .int i15, .int i16, .ref a20, .long j0, .ref a21, .ref a22, .ref a23, .ref a24])), (a4, .inl (cB, 1600, .inl xF3))] s.heap.size = A at hD ⊢
  have hA : ∀ q : Nat, s.heap.size ≤ q → A q := fun q h => by rw [← hAe]; exact Or.inr h
  have hS : va_S A s.heap s.heap [] := va_S.rf
  have hl : lv_has ls 2 [(0, .ref a0)] := hl
  obtain ⟨Q, hQ⟩ : ∃ Q, Q = MQ below (va_Qv (fun (u9 : (Nat → Int32) × (Nat → Nat → Int32) × (Nat → Nat → Int64)) => ((0 : Int) ≤ (u9.1 0).toInt ∧ (u9.1 0).toInt ≤ 1600) ∧ ((0 : Int) ≤ (u9.1 1).toInt ∧ (u9.1 1).toInt ≤ 1600) ∧ ((0 : Int) ≤ (u9.1 2).toInt ∧ (u9.1 2).toInt ≤ 6) ∧ (i3.toInt ≤ (u9.1 1).toInt) ∧ ((u9.1 1).toInt ≤ (u9.1 0).toInt ∧ (2 ≤ (u9.1 2).toInt → (u9.1 1).toInt + 1 ≤ (u9.1 0).toInt)) ∧ True) (fun u9 t => va_P (dC, dI) vwCl [(a0, .inr (12, [.int i0, .ref a1, .ref a2, .ref a3, .ref a4, .int i1, .ref a5, .int i2, .int (u9.1 0), .int (u9.1 1), .int (u9.1 2), .int (u9.1 3), .int i7, .int i8, .ref a6, .ref a7, .ref a8, .ref a9, .ref a10, .ref a11, .ref a12, .int i9, .ref a13, .int i10, .ref a14, .ref a15, .int i11, .ref a16, .ref a17, .ref a18, .ref a19, .int i12, .int i13, .int i14, .int i15, .int i16, .ref a20, .long j0, .ref a21, .ref a22, .ref a23, .ref a24])), (a4, .inl (cB, 1600, .inl xF3))] t.heap ∧ va_D A [(a0, .inr (12, [.int i0, .ref a1, .ref a2, .ref a3, .ref a4, .int i1, .ref a5, .int i2, .int (u9.1 0), .int (u9.1 1), .int (u9.1 2), .int (u9.1 3), .int i7, .int i8, .ref a6, .ref a7, .ref a8, .ref a9, .ref a10, .ref a11, .ref a12, .int i9, .ref a13, .int i10, .ref a14, .ref a15, .int i11, .ref a16, .ref a17, .ref a18, .ref a19, .int i12, .int i13, .int i14, .int i15, .int i16, .ref a20, .long j0, .ref a21, .ref a22, .ref a23, .ref a24])), (a4, .inl (cB, 1600, .inl xF3))]) A) ([.ref a0] : List Value).toArray s 0 0 A := ⟨_, rfl⟩
  rw [← hQ]
  have km1 : ((-1) : Int32).toInt = -1 := by decide
  have k0 : (0 : Int32).toInt = 0 := by decide
  have k1 : (1 : Int32).toInt = 1 := by decide
  have k2 : (2 : Int32).toInt = 2 := by decide
  have k3 : (3 : Int32).toInt = 3 := by decide
  have k4 : (4 : Int32).toInt = 4 := by decide
  have k5 : (5 : Int32).toInt = 5 := by decide
  have k6 : (6 : Int32).toInt = 6 := by decide
  have k10 : (10 : Int32).toInt = 10 := by decide
  have k32 : (32 : Int32).toInt = 32 := by decide
  have k48 : (48 : Int32).toInt = 48 := by decide
  have k57 : (57 : Int32).toInt = 57 := by decide
  have k59 : (59 : Int32).toInt = 59 := by decide
  have k97 : (97 : Int32).toInt = 97 := by decide
  have k122 : (122 : Int32).toInt = 122 := by decide
  have k123 : (123 : Int32).toInt = 123 := by decide
  have k125 : (125 : Int32).toInt = 125 := by decide
  have k99999 : (99999 : Int32).toInt = 99999 := by decide
  have lp1 : ∀ (d : Nat), ∀ (H : Heap) (locs : List Loc) (ls : Array Slot) (v0_1 : Int32), ((0 : Int) ≤ v0_1.toInt ∧ v0_1.toInt ≤ 1600) → (i3.toInt ≤ v0_1.toInt) → (1600 - v0_1.toInt).toNat < d → va_P (dC, dI) vwCl [(a0, .inr (12, [.int i0, .ref a1, .ref a2, .ref a3, .ref a4, .int i1, .ref a5, .int i2, .int v0_1, .int i4, .int i5, .int i6, .int i7, .int i8, .ref a6, .ref a7, .ref a8, .ref a9, .ref a10, .ref a11, .ref a12, .int i9, .ref a13, .int i10, .ref a14, .ref a15, .int i11, .ref a16, .ref a17, .ref a18, .ref a19, .int i12, .int i13, .int i14, .int i15, .int i16, .ref a20, .long j0, .ref a21, .ref a22, .ref a23, .ref a24])), (a4, .inl (cB, 1600, .inl xF3))] H → va_D A [(a0, .inr (12, [.int i0, .ref a1, .ref a2, .ref a3, .ref a4, .int i1, .ref a5, .int i2, .int v0_1, .int i4, .int i5, .int i6, .int i7, .int i8, .ref a6, .ref a7, .ref a8, .ref a9, .ref a10, .ref a11, .ref a12, .int i9, .ref a13, .int i10, .ref a14, .ref a15, .int i11, .ref a16, .ref a17, .ref a18, .ref a19, .int i12, .int i13, .int i14, .int i15, .int i16, .ref a20, .long j0, .ref a21, .ref a22, .ref a23, .ref a24])), (a4, .inl (cB, 1600, .inl xF3))] → va_S A s.heap H locs → lv_has ls 2 [(0, .ref a0)] → W p l e ({ frames := 1, cells := 0, slots := 0, locals := 25 } : Room) s m ([.ref a0] : List Value).toArray below meth c H locs 0 0 Q (F0 m 0 ls []) := by
    intro d
    induction d with
    | zero =>
      intro H locs ls v0_1 hr_v0_1 hrl0_1 hm hP hD hS hl
      omega
    | succ d ih1 =>
      intro H locs ls v0_1 hr_v0_1 hrl0_1 hm hP hD hS hl
      refine lv_aload_n hx hb dX12_advance_0 rfl (lv_at hl 0 rfl) ?_
      refine lv_aload_n hx hb dX12_advance_1 rfl (lv_at hl 0 rfl) ?_
      refine va_get (D := (dC, dI)) (ci := 12) (v := .int v0_1) (C := RX12) (T := TX12) (N := 42) hx hb hwd inlX12 hown hK hP 0 rfl rfl 8 (by decide) (hwd _ kr23_5) (fun _ h9 => h9) rfl dX12_advance_2 ?_
      have hPc := hP.sub (ws' := [(a0, .inr (12, [.int i0, .ref a1, .ref a2, .ref a3, .ref a4, .int i1, .ref a5, .int i2, .int v0_1, .int i4, .int i5, .int i6, .int i7, .int i8, .ref a6, .ref a7, .ref a8, .ref a9, .ref a10, .ref a11, .ref a12, .int i9, .ref a13, .int i10, .ref a14, .ref a15, .int i11, .ref a16, .ref a17, .ref a18, .ref a19, .int i12, .int i13, .int i14, .int i15, .int i16, .ref a20, .long j0, .ref a21, .ref a22, .ref a23, .ref a24])), (a4, .inl (cB, 1600, .inl xF3))]) [0, 1] rfl
      have hDc := hD.sub (ws' := [(a0, .inr (12, [.int i0, .ref a1, .ref a2, .ref a3, .ref a4, .int i1, .ref a5, .int i2, .int v0_1, .int i4, .int i5, .int i6, .int i7, .int i8, .ref a6, .ref a7, .ref a8, .ref a9, .ref a10, .ref a11, .ref a12, .int i9, .ref a13, .int i10, .ref a14, .ref a15, .int i11, .ref a16, .ref a17, .ref a18, .ref a19, .int i12, .int i13, .int i14, .int i15, .int i16, .ref a20, .long j0, .ref a21, .ref a22, .ref a23, .ref a24])), (a4, .inl (cB, 1600, .inl xF3))]) [0, 1] (by decide) rfl
      have hFc := va_free (wc := [(a0, .inr (12, [.int i0, .ref a1, .ref a2, .ref a3, .ref a4, .int i1, .ref a5, .int i2, .int v0_1, .int i4, .int i5, .int i6, .int i7, .int i8, .ref a6, .ref a7, .ref a8, .ref a9, .ref a10, .ref a11, .ref a12, .int i9, .ref a13, .int i10, .ref a14, .ref a15, .int i11, .ref a16, .ref a17, .ref a18, .ref a19, .int i12, .int i13, .int i14, .int i15, .int i16, .ref a20, .long j0, .ref a21, .ref a22, .ref a23, .ref a24])), (a4, .inl (cB, 1600, .inl xF3))]) hD hS hA [0, 1] rfl
      refine va_calli (va_runV (As := [.int v0_1]) (rest := []) ⟨hx, hb, hml, hown, hwd⟩ (s_X12_see l dC dI cI cZ cB cJ cM cG a0 a1 a2 a3 a4 a5 a6 a7 a8 a9 a10 a11 a12 a13 a14 a15 a16 a17 a18 a19 a20 a21 a22 a23 a24 i0 i1 i2 v0_1 i4 i5 i6 i7 i8 i9 i10 i11 i12 i13 i14 i15 i16 j0 xF3 v0_1 H.size (show (0 : Int) ≤ i1.toInt ∧ i1.toInt ≤ 1600 from ⟨by omega, by omega⟩) (show (0 : Int) ≤ i2.toInt ∧ i2.toInt ≤ 1600 from ⟨by omega, by omega⟩) (show (0 : Int) ≤ v0_1.toInt ∧ v0_1.toInt ≤ 1600 from ⟨by omega, by omega⟩) (show (0 : Int) ≤ i4.toInt ∧ i4.toInt ≤ 1600 from ⟨by omega, by omega⟩) (show (0 : Int) ≤ i5.toInt ∧ i5.toInt ≤ 6 from ⟨by omega, by omega⟩) (show (0 : Int) ≤ i11.toInt ∧ i11.toInt ≤ 59 from ⟨by omega, by omega⟩) (show (0 : Int) ≤ v0_1.toInt ∧ v0_1.toInt ≤ 1600 from ⟨by omega, by omega⟩)) (cwV 1 hwd (gV kr23_19 kr23_20 kr23_21 kr1_5 kr23_22) rfl rfl rfl (by decide +kernel) ⟨Nat.le_of_ble_eq_true rfl, Nat.le_of_ble_eq_true rfl⟩) (kPreV hPc hK hDc (ci := 12) (q0 := 0) rfl rfl) rfl rfl hl.1 rfl (lv_room (Nat.le_of_ble_eq_true rfl)) dX12_advance_5 ⟨Nat.le_of_ble_eq_true rfl, Nat.le_of_ble_eq_true rfl⟩) hS (fun q _ h => hFc q h) hFc (fun r57 u58 t H1 locs ht9 hvm hw hB hz1 hk1 hS => ?_)
      obtain ⟨hw59, hw60, hw61, -⟩ := hw
      have hw59 : (-1 : Int) ≤ r57.toInt ∧ r57.toInt ≤ 255 := hw59
      have hw60 : r57.toInt = seeF xF3 i2.toInt v0_1.toInt := hw60
      obtain ⟨hP1, hD1⟩ := hB
      rw [ht9] at hP1
      obtain ⟨hP, hD⟩ := va_join (wr := []) (w1 := [(a0, .inr (12, [.int i0, .ref a1, .ref a2, .ref a3, .ref a4, .int i1, .ref a5, .int i2, .int v0_1, .int i4, .int i5, .int i6, .int i7, .int i8, .ref a6, .ref a7, .ref a8, .ref a9, .ref a10, .ref a11, .ref a12, .int i9, .ref a13, .int i10, .ref a14, .ref a15, .int i11, .ref a16, .ref a17, .ref a18, .ref a19, .int i12, .int i13, .int i14, .int i15, .int i16, .ref a20, .long j0, .ref a21, .ref a22, .ref a23, .ref a24])), (a4, .inl (cB, 1600, .inl xF3))]) hP hD [0, 1] [] rfl rfl (by decide) (by decide) hk1 hFc hP1 hD1
      generalize H1 = H at hP hS ⊢
      have hP : va_P (dC, dI) vwCl [(a0, .inr (12, [.int i0, .ref a1, .ref a2, .ref a3, .ref a4, .int i1, .ref a5, .int i2, .int v0_1, .int i4, .int i5, .int i6, .int i7, .int i8, .ref a6, .ref a7, .ref a8, .ref a9, .ref a10, .ref a11, .ref a12, .int i9, .ref a13, .int i10, .ref a14, .ref a15, .int i11, .ref a16, .ref a17, .ref a18, .ref a19, .int i12, .int i13, .int i14, .int i15, .int i16, .ref a20, .long j0, .ref a21, .ref a22, .ref a23, .ref a24])), (a4, .inl (cB, 1600, .inl xF3))] H := hP
      have hD : va_D A [(a0, .inr (12, [.int i0, .ref a1, .ref a2, .ref a3, .ref a4, .int i1, .ref a5, .int i2, .int v0_1, .int i4, .int i5, .int i6, .int i7, .int i8, .ref a6, .ref a7, .ref a8, .ref a9, .ref a10, .ref a11, .ref a12, .int i9, .ref a13, .int i10, .ref a14, .ref a15, .int i11, .ref a16, .ref a17, .ref a18, .ref a19, .int i12, .int i13, .int i14, .int i15, .int i16, .ref a20, .long j0, .ref a21, .ref a22, .ref a23, .ref a24])), (a4, .inl (cB, 1600, .inl xF3))] := hD
      refine lv_bipush (v := 32) hx hb dX12_advance_8 (by decide) ?_
      refine lv_icmp_eq (tgt := 26) hx hb dX12_advance_10 (by decide) (fun c62 => ?_) (fun c62 => ?_)
      · rw [ki_eq] at c62
        have hw61q := hw61 (by omega)
        clear hw61
        refine lv_aload_n hx hb dX12_advance_26 rfl (lv_at hl 0 rfl) ?_
        refine lv_dup hx hb dX12_advance_27 rfl ?_
        refine va_get (D := (dC, dI)) (ci := 12) (v := .int v0_1) (C := RX12) (T := TX12) (N := 42) hx hb hwd inlX12 hown hK hP 0 rfl rfl 8 (by decide) (hwd _ kr23_5) (fun _ h9 => h9) rfl dX12_advance_28 ?_
        refine lv_iconst (v := 1) hx hb dX12_advance_31 (by decide) ?_
        refine lv_iadd hx hb dX12_advance_32 ?_
        refine lv_topi (fun x63 ex63 => ?_)
        have tx63 := ia_add (a := v0_1) (b := (1 : Int32)) (by omega) (by omega)
        rw [← ex63] at tx63
        refine va_put (D := (dC, dI)) (ci := 12) (v := .int x63) (ty := .int) (C := RX12) (T := TX12) (N := 42) hx hb hwd inlX12 tyX12 tyX12_ok nmX12 hown hK hP hD hS 0 rfl rfl 8 (by decide) (hwd _ kr23_5) (fun _ h9 => h9) rfl (by decide +kernel) rfl rfl (Nat.le_of_ble_eq_true rfl) dX12_advance_33 (fun H locs hP hD hS => ?_)
        have hP : va_P (dC, dI) vwCl [(a0, .inr (12, [.int i0, .ref a1, .ref a2, .ref a3, .ref a4, .int i1, .ref a5, .int i2, .int x63, .int i4, .int i5, .int i6, .int i7, .int i8, .ref a6, .ref a7, .ref a8, .ref a9, .ref a10, .ref a11, .ref a12, .int i9, .ref a13, .int i10, .ref a14, .ref a15, .int i11, .ref a16, .ref a17, .ref a18, .ref a19, .int i12, .int i13, .int i14, .int i15, .int i16, .ref a20, .long j0, .ref a21, .ref a22, .ref a23, .ref a24])), (a4, .inl (cB, 1600, .inl xF3))] H := hP
        have hD : va_D A [(a0, .inr (12, [.int i0, .ref a1, .ref a2, .ref a3, .ref a4, .int i1, .ref a5, .int i2, .int x63, .int i4, .int i5, .int i6, .int i7, .int i8, .ref a6, .ref a7, .ref a8, .ref a9, .ref a10, .ref a11, .ref a12, .int i9, .ref a13, .int i10, .ref a14, .ref a15, .int i11, .ref a16, .ref a17, .ref a18, .ref a19, .int i12, .int i13, .int i14, .int i15, .int i16, .ref a20, .long j0, .ref a21, .ref a22, .ref a23, .ref a24])), (a4, .inl (cB, 1600, .inl xF3))] := hD
        refine lv_goto (tgt := 0) hx hb dX12_advance_36 (by decide) ?_
        exact ih1 _ _ ls x63 (show (0 : Int) ≤ x63.toInt ∧ x63.toInt ≤ 1600 from ⟨by omega, by omega⟩) (show i3.toInt ≤ x63.toInt from by omega) (by omega) (hP.sub (ws' := [(a0, .inr (12, [.int i0, .ref a1, .ref a2, .ref a3, .ref a4, .int i1, .ref a5, .int i2, .int x63, .int i4, .int i5, .int i6, .int i7, .int i8, .ref a6, .ref a7, .ref a8, .ref a9, .ref a10, .ref a11, .ref a12, .int i9, .ref a13, .int i10, .ref a14, .ref a15, .int i11, .ref a16, .ref a17, .ref a18, .ref a19, .int i12, .int i13, .int i14, .int i15, .int i16, .ref a20, .long j0, .ref a21, .ref a22, .ref a23, .ref a24])), (a4, .inl (cB, 1600, .inl xF3))]) [0, 1] rfl) (hD.sub (ws' := [(a0, .inr (12, [.int i0, .ref a1, .ref a2, .ref a3, .ref a4, .int i1, .ref a5, .int i2, .int x63, .int i4, .int i5, .int i6, .int i7, .int i8, .ref a6, .ref a7, .ref a8, .ref a9, .ref a10, .ref a11, .ref a12, .int i9, .ref a13, .int i10, .ref a14, .ref a15, .int i11, .ref a16, .ref a17, .ref a18, .ref a19, .int i12, .int i13, .int i14, .int i15, .int i16, .ref a20, .long j0, .ref a21, .ref a22, .ref a23, .ref a24])), (a4, .inl (cB, 1600, .inl xF3))]) [0, 1] (by decide) rfl) hS (lv_sub hl [0] rfl)
      · rw [ki_eq] at c62
        refine lv_aload_n hx hb dX12_advance_13 rfl (lv_at hl 0 rfl) ?_
        refine lv_aload_n hx hb dX12_advance_14 rfl (lv_at hl 0 rfl) ?_
        refine va_get (D := (dC, dI)) (ci := 12) (v := .int v0_1) (C := RX12) (T := TX12) (N := 42) hx hb hwd inlX12 hown hK hP 0 rfl rfl 8 (by decide) (hwd _ kr23_5) (fun _ h9 => h9) rfl dX12_advance_15 ?_
        have hPc := hP.sub (ws' := [(a0, .inr (12, [.int i0, .ref a1, .ref a2, .ref a3, .ref a4, .int i1, .ref a5, .int i2, .int v0_1, .int i4, .int i5, .int i6, .int i7, .int i8, .ref a6, .ref a7, .ref a8, .ref a9, .ref a10, .ref a11, .ref a12, .int i9, .ref a13, .int i10, .ref a14, .ref a15, .int i11, .ref a16, .ref a17, .ref a18, .ref a19, .int i12, .int i13, .int i14, .int i15, .int i16, .ref a20, .long j0, .ref a21, .ref a22, .ref a23, .ref a24])), (a4, .inl (cB, 1600, .inl xF3))]) [0, 1] rfl
        have hDc := hD.sub (ws' := [(a0, .inr (12, [.int i0, .ref a1, .ref a2, .ref a3, .ref a4, .int i1, .ref a5, .int i2, .int v0_1, .int i4, .int i5, .int i6, .int i7, .int i8, .ref a6, .ref a7, .ref a8, .ref a9, .ref a10, .ref a11, .ref a12, .int i9, .ref a13, .int i10, .ref a14, .ref a15, .int i11, .ref a16, .ref a17, .ref a18, .ref a19, .int i12, .int i13, .int i14, .int i15, .int i16, .ref a20, .long j0, .ref a21, .ref a22, .ref a23, .ref a24])), (a4, .inl (cB, 1600, .inl xF3))]) [0, 1] (by decide) rfl
        have hFc := va_free (wc := [(a0, .inr (12, [.int i0, .ref a1, .ref a2, .ref a3, .ref a4, .int i1, .ref a5, .int i2, .int v0_1, .int i4, .int i5, .int i6, .int i7, .int i8, .ref a6, .ref a7, .ref a8, .ref a9, .ref a10, .ref a11, .ref a12, .int i9, .ref a13, .int i10, .ref a14, .ref a15, .int i11, .ref a16, .ref a17, .ref a18, .ref a19, .int i12, .int i13, .int i14, .int i15, .int i16, .ref a20, .long j0, .ref a21, .ref a22, .ref a23, .ref a24])), (a4, .inl (cB, 1600, .inl xF3))]) hD hS hA [0, 1] rfl
        refine va_calli (va_runV (As := [.int v0_1]) (rest := []) ⟨hx, hb, hml, hown, hwd⟩ (s_X12_see l dC dI cI cZ cB cJ cM cG a0 a1 a2 a3 a4 a5 a6 a7 a8 a9 a10 a11 a12 a13 a14 a15 a16 a17 a18 a19 a20 a21 a22 a23 a24 i0 i1 i2 v0_1 i4 i5 i6 i7 i8 i9 i10 i11 i12 i13 i14 i15 i16 j0 xF3 v0_1 H.size (show (0 : Int) ≤ i1.toInt ∧ i1.toInt ≤ 1600 from ⟨by omega, by omega⟩) (show (0 : Int) ≤ i2.toInt ∧ i2.toInt ≤ 1600 from ⟨by omega, by omega⟩) (show (0 : Int) ≤ v0_1.toInt ∧ v0_1.toInt ≤ 1600 from ⟨by omega, by omega⟩) (show (0 : Int) ≤ i4.toInt ∧ i4.toInt ≤ 1600 from ⟨by omega, by omega⟩) (show (0 : Int) ≤ i5.toInt ∧ i5.toInt ≤ 6 from ⟨by omega, by omega⟩) (show (0 : Int) ≤ i11.toInt ∧ i11.toInt ≤ 59 from ⟨by omega, by omega⟩) (show (0 : Int) ≤ v0_1.toInt ∧ v0_1.toInt ≤ 1600 from ⟨by omega, by omega⟩)) (cwV 1 hwd (gV kr23_19 kr23_20 kr23_21 kr1_5 kr23_22) rfl rfl rfl (by decide +kernel) ⟨Nat.le_of_ble_eq_true rfl, Nat.le_of_ble_eq_true rfl⟩) (kPreV hPc hK hDc (ci := 12) (q0 := 0) rfl rfl) rfl rfl hl.1 rfl (lv_room (Nat.le_of_ble_eq_true rfl)) dX12_advance_18 ⟨Nat.le_of_ble_eq_true rfl, Nat.le_of_ble_eq_true rfl⟩) hS (fun q _ h => hFc q h) hFc (fun r64 u65 t H1 locs ht9 hvm hw hB hz1 hk1 hS => ?_)
        obtain ⟨hw66, hw67, hw68, -⟩ := hw
        have hw66 : (-1 : Int) ≤ r64.toInt ∧ r64.toInt ≤ 255 := hw66
        have hw67 : r64.toInt = seeF xF3 i2.toInt v0_1.toInt := hw67
        obtain ⟨hP1, hD1⟩ := hB
        rw [ht9] at hP1
        obtain ⟨hP, hD⟩ := va_join (wr := []) (w1 := [(a0, .inr (12, [.int i0, .ref a1, .ref a2, .ref a3, .ref a4, .int i1, .ref a5, .int i2, .int v0_1, .int i4, .int i5, .int i6, .int i7, .int i8, .ref a6, .ref a7, .ref a8, .ref a9, .ref a10, .ref a11, .ref a12, .int i9, .ref a13, .int i10, .ref a14, .ref a15, .int i11, .ref a16, .ref a17, .ref a18, .ref a19, .int i12, .int i13, .int i14, .int i15, .int i16, .ref a20, .long j0, .ref a21, .ref a22, .ref a23, .ref a24])), (a4, .inl (cB, 1600, .inl xF3))]) hP hD [0, 1] [] rfl rfl (by decide) (by decide) hk1 hFc hP1 hD1
        generalize H1 = H at hP hS ⊢
        have hP : va_P (dC, dI) vwCl [(a0, .inr (12, [.int i0, .ref a1, .ref a2, .ref a3, .ref a4, .int i1, .ref a5, .int i2, .int v0_1, .int i4, .int i5, .int i6, .int i7, .int i8, .ref a6, .ref a7, .ref a8, .ref a9, .ref a10, .ref a11, .ref a12, .int i9, .ref a13, .int i10, .ref a14, .ref a15, .int i11, .ref a16, .ref a17, .ref a18, .ref a19, .int i12, .int i13, .int i14, .int i15, .int i16, .ref a20, .long j0, .ref a21, .ref a22, .ref a23, .ref a24])), (a4, .inl (cB, 1600, .inl xF3))] H := hP
        have hD : va_D A [(a0, .inr (12, [.int i0, .ref a1, .ref a2, .ref a3, .ref a4, .int i1, .ref a5, .int i2, .int v0_1, .int i4, .int i5, .int i6, .int i7, .int i8, .ref a6, .ref a7, .ref a8, .ref a9, .ref a10, .ref a11, .ref a12, .int i9, .ref a13, .int i10, .ref a14, .ref a15, .int i11, .ref a16, .ref a17, .ref a18, .ref a19, .int i12, .int i13, .int i14, .int i15, .int i16, .ref a20, .long j0, .ref a21, .ref a22, .ref a23, .ref a24])), (a4, .inl (cB, 1600, .inl xF3))] := hD
        refine lv_bipush (v := 10) hx hb dX12_advance_21 (by decide) ?_
        refine lv_icmp_ne (tgt := 39) hx hb dX12_advance_23 (by decide) (fun c69 => ?_) (fun c69 => ?_)
        · rw [ki_eq] at c69
          refine lv_aload_n hx hb dX12_advance_39 rfl (lv_at hl 0 rfl) ?_
          refine lv_aload_n hx hb dX12_advance_40 rfl (lv_at hl 0 rfl) ?_
          refine va_get (D := (dC, dI)) (ci := 12) (v := .int v0_1) (C := RX12) (T := TX12) (N := 42) hx hb hwd inlX12 hown hK hP 0 rfl rfl 8 (by decide) (hwd _ kr23_5) (fun _ h9 => h9) rfl dX12_advance_41 ?_
          refine va_put (D := (dC, dI)) (ci := 12) (v := .int v0_1) (ty := .int) (C := RX12) (T := TX12) (N := 42) hx hb hwd inlX12 tyX12 tyX12_ok nmX12 hown hK hP hD hS 0 rfl rfl 9 (by decide) (hwd _ kr23_11) (fun _ h9 => h9) rfl (by decide +kernel) rfl rfl (Nat.le_of_ble_eq_true rfl) dX12_advance_44 (fun H locs hP hD hS => ?_)
          have hP : va_P (dC, dI) vwCl [(a0, .inr (12, [.int i0, .ref a1, .ref a2, .ref a3, .ref a4, .int i1, .ref a5, .int i2, .int v0_1, .int v0_1, .int i5, .int i6, .int i7, .int i8, .ref a6, .ref a7, .ref a8, .ref a9, .ref a10, .ref a11, .ref a12, .int i9, .ref a13, .int i10, .ref a14, .ref a15, .int i11, .ref a16, .ref a17, .ref a18, .ref a19, .int i12, .int i13, .int i14, .int i15, .int i16, .ref a20, .long j0, .ref a21, .ref a22, .ref a23, .ref a24])), (a4, .inl (cB, 1600, .inl xF3))] H := hP
          have hD : va_D A [(a0, .inr (12, [.int i0, .ref a1, .ref a2, .ref a3, .ref a4, .int i1, .ref a5, .int i2, .int v0_1, .int v0_1, .int i5, .int i6, .int i7, .int i8, .ref a6, .ref a7, .ref a8, .ref a9, .ref a10, .ref a11, .ref a12, .int i9, .ref a13, .int i10, .ref a14, .ref a15, .int i11, .ref a16, .ref a17, .ref a18, .ref a19, .int i12, .int i13, .int i14, .int i15, .int i16, .ref a20, .long j0, .ref a21, .ref a22, .ref a23, .ref a24])), (a4, .inl (cB, 1600, .inl xF3))] := hD
          refine lv_aload_n hx hb dX12_advance_47 rfl (lv_at hl 0 rfl) ?_
          refine lv_aload_n hx hb dX12_advance_48 rfl (lv_at hl 0 rfl) ?_
          refine va_get (D := (dC, dI)) (ci := 12) (v := .int v0_1) (C := RX12) (T := TX12) (N := 42) hx hb hwd inlX12 hown hK hP 0 rfl rfl 8 (by decide) (hwd _ kr23_5) (fun _ h9 => h9) rfl dX12_advance_49 ?_
          have hPc := hP.sub (ws' := [(a0, .inr (12, [.int i0, .ref a1, .ref a2, .ref a3, .ref a4, .int i1, .ref a5, .int i2, .int v0_1, .int v0_1, .int i5, .int i6, .int i7, .int i8, .ref a6, .ref a7, .ref a8, .ref a9, .ref a10, .ref a11, .ref a12, .int i9, .ref a13, .int i10, .ref a14, .ref a15, .int i11, .ref a16, .ref a17, .ref a18, .ref a19, .int i12, .int i13, .int i14, .int i15, .int i16, .ref a20, .long j0, .ref a21, .ref a22, .ref a23, .ref a24])), (a4, .inl (cB, 1600, .inl xF3))]) [0, 1] rfl
          have hDc := hD.sub (ws' := [(a0, .inr (12, [.int i0, .ref a1, .ref a2, .ref a3, .ref a4, .int i1, .ref a5, .int i2, .int v0_1, .int v0_1, .int i5, .int i6, .int i7, .int i8, .ref a6, .ref a7, .ref a8, .ref a9, .ref a10, .ref a11, .ref a12, .int i9, .ref a13, .int i10, .ref a14, .ref a15, .int i11, .ref a16, .ref a17, .ref a18, .ref a19, .int i12, .int i13, .int i14, .int i15, .int i16, .ref a20, .long j0, .ref a21, .ref a22, .ref a23, .ref a24])), (a4, .inl (cB, 1600, .inl xF3))]) [0, 1] (by decide) rfl
          have hFc := va_free (wc := [(a0, .inr (12, [.int i0, .ref a1, .ref a2, .ref a3, .ref a4, .int i1, .ref a5, .int i2, .int v0_1, .int v0_1, .int i5, .int i6, .int i7, .int i8, .ref a6, .ref a7, .ref a8, .ref a9, .ref a10, .ref a11, .ref a12, .int i9, .ref a13, .int i10, .ref a14, .ref a15, .int i11, .ref a16, .ref a17, .ref a18, .ref a19, .int i12, .int i13, .int i14, .int i15, .int i16, .ref a20, .long j0, .ref a21, .ref a22, .ref a23, .ref a24])), (a4, .inl (cB, 1600, .inl xF3))]) hD hS hA [0, 1] rfl
          refine va_calli (va_runV (As := [.int v0_1]) (rest := []) ⟨hx, hb, hml, hown, hwd⟩ (s_X12_see l dC dI cI cZ cB cJ cM cG a0 a1 a2 a3 a4 a5 a6 a7 a8 a9 a10 a11 a12 a13 a14 a15 a16 a17 a18 a19 a20 a21 a22 a23 a24 i0 i1 i2 v0_1 v0_1 i5 i6 i7 i8 i9 i10 i11 i12 i13 i14 i15 i16 j0 xF3 v0_1 H.size (show (0 : Int) ≤ i1.toInt ∧ i1.toInt ≤ 1600 from ⟨by omega, by omega⟩) (show (0 : Int) ≤ i2.toInt ∧ i2.toInt ≤ 1600 from ⟨by omega, by omega⟩) (show (0 : Int) ≤ v0_1.toInt ∧ v0_1.toInt ≤ 1600 from ⟨by omega, by omega⟩) (show (0 : Int) ≤ v0_1.toInt ∧ v0_1.toInt ≤ 1600 from ⟨by omega, by omega⟩) (show (0 : Int) ≤ i5.toInt ∧ i5.toInt ≤ 6 from ⟨by omega, by omega⟩) (show (0 : Int) ≤ i11.toInt ∧ i11.toInt ≤ 59 from ⟨by omega, by omega⟩) (show (0 : Int) ≤ v0_1.toInt ∧ v0_1.toInt ≤ 1600 from ⟨by omega, by omega⟩)) (cwV 1 hwd (gV kr23_19 kr23_20 kr23_21 kr1_5 kr23_22) rfl rfl rfl (by decide +kernel) ⟨Nat.le_of_ble_eq_true rfl, Nat.le_of_ble_eq_true rfl⟩) (kPreV hPc hK hDc (ci := 12) (q0 := 0) rfl rfl) rfl rfl hl.1 rfl (lv_room (Nat.le_of_ble_eq_true rfl)) dX12_advance_52 ⟨Nat.le_of_ble_eq_true rfl, Nat.le_of_ble_eq_true rfl⟩) hS (fun q _ h => hFc q h) hFc (fun r70 u71 t H1 locs ht9 hvm hw hB hz1 hk1 hS => ?_)
          obtain ⟨hw72, hw73, hw74, -⟩ := hw
          have hw72 : (-1 : Int) ≤ r70.toInt ∧ r70.toInt ≤ 255 := hw72
          have hw73 : r70.toInt = seeF xF3 i2.toInt v0_1.toInt := hw73
          obtain ⟨hP1, hD1⟩ := hB
          rw [ht9] at hP1
          obtain ⟨hP, hD⟩ := va_join (wr := []) (w1 := [(a0, .inr (12, [.int i0, .ref a1, .ref a2, .ref a3, .ref a4, .int i1, .ref a5, .int i2, .int v0_1, .int v0_1, .int i5, .int i6, .int i7, .int i8, .ref a6, .ref a7, .ref a8, .ref a9, .ref a10, .ref a11, .ref a12, .int i9, .ref a13, .int i10, .ref a14, .ref a15, .int i11, .ref a16, .ref a17, .ref a18, .ref a19, .int i12, .int i13, .int i14, .int i15, .int i16, .ref a20, .long j0, .ref a21, .ref a22, .ref a23, .ref a24])), (a4, .inl (cB, 1600, .inl xF3))]) hP hD [0, 1] [] rfl rfl (by decide) (by decide) hk1 hFc hP1 hD1
          generalize H1 = H at hP hS ⊢
          have hP : va_P (dC, dI) vwCl [(a0, .inr (12, [.int i0, .ref a1, .ref a2, .ref a3, .ref a4, .int i1, .ref a5, .int i2, .int v0_1, .int v0_1, .int i5, .int i6, .int i7, .int i8, .ref a6, .ref a7, .ref a8, .ref a9, .ref a10, .ref a11, .ref a12, .int i9, .ref a13, .int i10, .ref a14, .ref a15, .int i11, .ref a16, .ref a17, .ref a18, .ref a19, .int i12, .int i13, .int i14, .int i15, .int i16, .ref a20, .long j0, .ref a21, .ref a22, .ref a23, .ref a24])), (a4, .inl (cB, 1600, .inl xF3))] H := hP
          have hD : va_D A [(a0, .inr (12, [.int i0, .ref a1, .ref a2, .ref a3, .ref a4, .int i1, .ref a5, .int i2, .int v0_1, .int v0_1, .int i5, .int i6, .int i7, .int i8, .ref a6, .ref a7, .ref a8, .ref a9, .ref a10, .ref a11, .ref a12, .int i9, .ref a13, .int i10, .ref a14, .ref a15, .int i11, .ref a16, .ref a17, .ref a18, .ref a19, .int i12, .int i13, .int i14, .int i15, .int i16, .ref a20, .long j0, .ref a21, .ref a22, .ref a23, .ref a24])), (a4, .inl (cB, 1600, .inl xF3))] := hD
          refine lv_istore_n (lv' := [(1, .int r70), (0, .ref a0)]) hx hb dX12_advance_55 rfl hl (by decide) rfl (fun ls hl => ?_)
          refine lv_iload_n hx hb dX12_advance_56 rfl (lv_at hl 0 rfl) ?_
          refine lv_iconst (v := (-1)) hx hb dX12_advance_57 (by decide) ?_
          refine lv_icmp_ne (tgt := 69) hx hb dX12_advance_58 (by decide) (fun c75 => ?_) (fun c75 => ?_)
          · rw [ki_eq] at c75
            have hw74q := hw74 (by omega)
            clear hw74
            refine lv_iload_n hx hb dX12_advance_69 rfl (lv_at hl 0 rfl) ?_
            refine lv_i2l hx hb dX12_advance_70 rfl ?_
            refine lv_ldc2 (v := 97) hx hb hown (hwd _ kr23_12) dX12_advance_71 ?_
            refine lv_ldc2 (v := 122) hx hb hown (hwd _ kr23_13) dX12_advance_74 ?_
            have hPc := hP.sub (ws' := []) [] rfl
            have hDc := hD.sub (ws' := []) [] (by decide) rfl
            have hFc := va_free (wc := []) hD hS hA [] rfl
            refine va_calli (va_runS (As := [.long r70.toInt64, .long 97, .long 122]) (rest := []) ⟨hx, hb, hml, hown, hwd⟩ (s_X12_in l dC dI cI cZ cB cJ cM cG r70.toInt64 97 122 H.size) (cwS 3 hwd (gS kr9_10 kr9_11 kr1_5 kr9_12) rfl rfl rfl (by decide +kernel) ⟨Nat.le_of_ble_eq_true rfl, Nat.le_of_ble_eq_true rfl⟩) (kPreS hPc hK hDc) rfl rfl hl.1 rfl (lv_room (Nat.le_of_ble_eq_true rfl)) dX12_advance_77 ⟨Nat.le_of_ble_eq_true rfl, Nat.le_of_ble_eq_true rfl⟩) hS (fun q _ h => hFc q h) hFc (fun r76 u77 t H1 locs ht9 hvm hw hB hz1 hk1 hS => ?_)
            obtain ⟨hw78, hw79, hw80, -⟩ := hw
            have hw78 : (0 : Int) ≤ r76.toInt ∧ r76.toInt ≤ 1 := hw78
            have hw79 : r76.toInt ≠ 0 → (97 : Int) ≤ r70.toInt ∧ r70.toInt ≤ (122 : Int) := in_int (Int32.toInt_toInt64 _) (by decide) (by decide) hw79
            have hw80 : r76.toInt ≠ 1 → r70.toInt < (97 : Int) ∨ (122 : Int) < r70.toInt := in_int2 (Int32.toInt_toInt64 _) (by decide) (by decide) hw80
            obtain ⟨hP1, hD1⟩ := hB
            rw [ht9] at hP1
            obtain ⟨hP, hD⟩ := va_join (wr := [(a0, .inr (12, [.int i0, .ref a1, .ref a2, .ref a3, .ref a4, .int i1, .ref a5, .int i2, .int v0_1, .int v0_1, .int i5, .int i6, .int i7, .int i8, .ref a6, .ref a7, .ref a8, .ref a9, .ref a10, .ref a11, .ref a12, .int i9, .ref a13, .int i10, .ref a14, .ref a15, .int i11, .ref a16, .ref a17, .ref a18, .ref a19, .int i12, .int i13, .int i14, .int i15, .int i16, .ref a20, .long j0, .ref a21, .ref a22, .ref a23, .ref a24])), (a4, .inl (cB, 1600, .inl xF3))]) (w1 := []) hP hD [] [0, 1] rfl rfl (by decide) (by decide) hk1 hFc hP1 hD1
            generalize H1 = H at hP hS ⊢
            have hP : va_P (dC, dI) vwCl [(a0, .inr (12, [.int i0, .ref a1, .ref a2, .ref a3, .ref a4, .int i1, .ref a5, .int i2, .int v0_1, .int v0_1, .int i5, .int i6, .int i7, .int i8, .ref a6, .ref a7, .ref a8, .ref a9, .ref a10, .ref a11, .ref a12, .int i9, .ref a13, .int i10, .ref a14, .ref a15, .int i11, .ref a16, .ref a17, .ref a18, .ref a19, .int i12, .int i13, .int i14, .int i15, .int i16, .ref a20, .long j0, .ref a21, .ref a22, .ref a23, .ref a24])), (a4, .inl (cB, 1600, .inl xF3))] H := hP
            have hD : va_D A [(a0, .inr (12, [.int i0, .ref a1, .ref a2, .ref a3, .ref a4, .int i1, .ref a5, .int i2, .int v0_1, .int v0_1, .int i5, .int i6, .int i7, .int i8, .ref a6, .ref a7, .ref a8, .ref a9, .ref a10, .ref a11, .ref a12, .int i9, .ref a13, .int i10, .ref a14, .ref a15, .int i11, .ref a16, .ref a17, .ref a18, .ref a19, .int i12, .int i13, .int i14, .int i15, .int i16, .ref a20, .long j0, .ref a21, .ref a22, .ref a23, .ref a24])), (a4, .inl (cB, 1600, .inl xF3))] := hD
            refine lv_if_eq (tgt := 125) hx hb dX12_advance_80 (by decide) (fun c81 => ?_) (fun c81 => ?_)
            · rw [ki_eq] at c81
              have hw80q := hw80 (by omega)
              clear hw80
              refine lv_iload_n hx hb dX12_advance_125 rfl (lv_at hl 0 rfl) ?_
              refine lv_i2l hx hb dX12_advance_126 rfl ?_
              refine lv_ldc2 (v := 48) hx hb hown (hwd _ kr23_14) dX12_advance_127 ?_
              refine lv_ldc2 (v := 57) hx hb hown (hwd _ kr23_15) dX12_advance_130 ?_
              have hPc := hP.sub (ws' := []) [] rfl
              have hDc := hD.sub (ws' := []) [] (by decide) rfl
              have hFc := va_free (wc := []) hD hS hA [] rfl
              refine va_calli (va_runS (As := [.long r70.toInt64, .long 48, .long 57]) (rest := []) ⟨hx, hb, hml, hown, hwd⟩ (s_X12_in l dC dI cI cZ cB cJ cM cG r70.toInt64 48 57 H.size) (cwS 3 hwd (gS kr9_10 kr9_11 kr1_5 kr9_12) rfl rfl rfl (by decide +kernel) ⟨Nat.le_of_ble_eq_true rfl, Nat.le_of_ble_eq_true rfl⟩) (kPreS hPc hK hDc) rfl rfl hl.1 rfl (lv_room (Nat.le_of_ble_eq_true rfl)) dX12_advance_133 ⟨Nat.le_of_ble_eq_true rfl, Nat.le_of_ble_eq_true rfl⟩) hS (fun q _ h => hFc q h) hFc (fun r82 u83 t H1 locs ht9 hvm hw hB hz1 hk1 hS => ?_)
              obtain ⟨hw84, hw85, hw86, -⟩ := hw
              have hw84 : (0 : Int) ≤ r82.toInt ∧ r82.toInt ≤ 1 := hw84
              have hw85 : r82.toInt ≠ 0 → (48 : Int) ≤ r70.toInt ∧ r70.toInt ≤ (57 : Int) := in_int (Int32.toInt_toInt64 _) (by decide) (by decide) hw85
              have hw86 : r82.toInt ≠ 1 → r70.toInt < (48 : Int) ∨ (57 : Int) < r70.toInt := in_int2 (Int32.toInt_toInt64 _) (by decide) (by decide) hw86
              obtain ⟨hP1, hD1⟩ := hB
              rw [ht9] at hP1
              obtain ⟨hP, hD⟩ := va_join (wr := [(a0, .inr (12, [.int i0, .ref a1, .ref a2, .ref a3, .ref a4, .int i1, .ref a5, .int i2, .int v0_1, .int v0_1, .int i5, .int i6, .int i7, .int i8, .ref a6, .ref a7, .ref a8, .ref a9, .ref a10, .ref a11, .ref a12, .int i9, .ref a13, .int i10, .ref a14, .ref a15, .int i11, .ref a16, .ref a17, .ref a18, .ref a19, .int i12, .int i13, .int i14, .int i15, .int i16, .ref a20, .long j0, .ref a21, .ref a22, .ref a23, .ref a24])), (a4, .inl (cB, 1600, .inl xF3))]) (w1 := []) hP hD [] [0, 1] rfl rfl (by decide) (by decide) hk1 hFc hP1 hD1
              generalize H1 = H at hP hS ⊢
              have hP : va_P (dC, dI) vwCl [(a0, .inr (12, [.int i0, .ref a1, .ref a2, .ref a3, .ref a4, .int i1, .ref a5, .int i2, .int v0_1, .int v0_1, .int i5, .int i6, .int i7, .int i8, .ref a6, .ref a7, .ref a8, .ref a9, .ref a10, .ref a11, .ref a12, .int i9, .ref a13, .int i10, .ref a14, .ref a15, .int i11, .ref a16, .ref a17, .ref a18, .ref a19, .int i12, .int i13, .int i14, .int i15, .int i16, .ref a20, .long j0, .ref a21, .ref a22, .ref a23, .ref a24])), (a4, .inl (cB, 1600, .inl xF3))] H := hP
              have hD : va_D A [(a0, .inr (12, [.int i0, .ref a1, .ref a2, .ref a3, .ref a4, .int i1, .ref a5, .int i2, .int v0_1, .int v0_1, .int i5, .int i6, .int i7, .int i8, .ref a6, .ref a7, .ref a8, .ref a9, .ref a10, .ref a11, .ref a12, .int i9, .ref a13, .int i10, .ref a14, .ref a15, .int i11, .ref a16, .ref a17, .ref a18, .ref a19, .int i12, .int i13, .int i14, .int i15, .int i16, .ref a20, .long j0, .ref a21, .ref a22, .ref a23, .ref a24])), (a4, .inl (cB, 1600, .inl xF3))] := hD
              refine lv_if_eq (tgt := 214) hx hb dX12_advance_136 (by decide) (fun c87 => ?_) (fun c87 => ?_)
              · rw [ki_eq] at c87
                have hw86q := hw86 (by omega)
                clear hw86
                refine lv_aload_n hx hb dX12_advance_214 rfl (lv_at hl 1 rfl) ?_
                refine lv_iload_n hx hb dX12_advance_215 rfl (lv_at hl 0 rfl) ?_
                refine lv_bipush (v := 59) hx hb dX12_advance_216 (by decide) ?_
                have jp2 : ∀ (H : Heap) (locs : List Loc) (ls : Array Slot) (z1_2 : Int32), ((3 : Int) ≤ z1_2.toInt ∧ z1_2.toInt ≤ 6) → va_P (dC, dI) vwCl [(a0, .inr (12, [.int i0, .ref a1, .ref a2, .ref a3, .ref a4, .int i1, .ref a5, .int i2, .int v0_1, .int v0_1, .int i5, .int i6, .int i7, .int i8, .ref a6, .ref a7, .ref a8, .ref a9, .ref a10, .ref a11, .ref a12, .int i9, .ref a13, .int i10, .ref a14, .ref a15, .int i11, .ref a16, .ref a17, .ref a18, .ref a19, .int i12, .int i13, .int i14, .int i15, .int i16, .ref a20, .long j0, .ref a21, .ref a22, .ref a23, .ref a24])), (a4, .inl (cB, 1600, .inl xF3))] H → va_D A [(a0, .inr (12, [.int i0, .ref a1, .ref a2, .ref a3, .ref a4, .int i1, .ref a5, .int i2, .int v0_1, .int v0_1, .int i5, .int i6, .int i7, .int i8, .ref a6, .ref a7, .ref a8, .ref a9, .ref a10, .ref a11, .ref a12, .int i9, .ref a13, .int i10, .ref a14, .ref a15, .int i11, .ref a16, .ref a17, .ref a18, .ref a19, .int i12, .int i13, .int i14, .int i15, .int i16, .ref a20, .long j0, .ref a21, .ref a22, .ref a23, .ref a24])), (a4, .inl (cB, 1600, .inl xF3))] → va_S A s.heap H locs → lv_has ls 2 [(0, .ref a0), (1, .int r70)] → W p l e ({ frames := 1, cells := 0, slots := 0, locals := 25 } : Room) s m ([.ref a0] : List Value).toArray below meth c H locs 0 0 Q (F0 m 247 ls [.int z1_2, .ref a0]) := by
                  intro H locs ls z1_2 hr_z1_2 hP hD hS hl
                  refine va_put (D := (dC, dI)) (ci := 12) (v := .int z1_2) (ty := .int) (C := RX12) (T := TX12) (N := 42) hx hb hwd inlX12 tyX12 tyX12_ok nmX12 hown hK hP hD hS 0 rfl rfl 10 (by decide) (hwd _ kr22_23) (fun _ h9 => h9) rfl (by decide +kernel) rfl rfl (Nat.le_of_ble_eq_true rfl) dX12_advance_247 (fun H locs hP hD hS => ?_)
                  have hP : va_P (dC, dI) vwCl [(a0, .inr (12, [.int i0, .ref a1, .ref a2, .ref a3, .ref a4, .int i1, .ref a5, .int i2, .int v0_1, .int v0_1, .int z1_2, .int i6, .int i7, .int i8, .ref a6, .ref a7, .ref a8, .ref a9, .ref a10, .ref a11, .ref a12, .int i9, .ref a13, .int i10, .ref a14, .ref a15, .int i11, .ref a16, .ref a17, .ref a18, .ref a19, .int i12, .int i13, .int i14, .int i15, .int i16, .ref a20, .long j0, .ref a21, .ref a22, .ref a23, .ref a24])), (a4, .inl (cB, 1600, .inl xF3))] H := hP
                  have hD : va_D A [(a0, .inr (12, [.int i0, .ref a1, .ref a2, .ref a3, .ref a4, .int i1, .ref a5, .int i2, .int v0_1, .int v0_1, .int z1_2, .int i6, .int i7, .int i8, .ref a6, .ref a7, .ref a8, .ref a9, .ref a10, .ref a11, .ref a12, .int i9, .ref a13, .int i10, .ref a14, .ref a15, .int i11, .ref a16, .ref a17, .ref a18, .ref a19, .int i12, .int i13, .int i14, .int i15, .int i16, .ref a20, .long j0, .ref a21, .ref a22, .ref a23, .ref a24])), (a4, .inl (cB, 1600, .inl xF3))] := hD
                  refine lv_aload_n hx hb dX12_advance_250 rfl (lv_at hl 0 rfl) ?_
                  refine lv_dup hx hb dX12_advance_251 rfl ?_
                  refine va_get (D := (dC, dI)) (ci := 12) (v := .int v0_1) (C := RX12) (T := TX12) (N := 42) hx hb hwd inlX12 hown hK hP 0 rfl rfl 8 (by decide) (hwd _ kr23_5) (fun _ h9 => h9) rfl dX12_advance_252 ?_
                  refine lv_iconst (v := 1) hx hb dX12_advance_255 (by decide) ?_
                  refine lv_iadd hx hb dX12_advance_256 ?_
                  refine lv_topi (fun x91 ex91 => ?_)
                  have tx91 := ia_add (a := v0_1) (b := (1 : Int32)) (by omega) (by omega)
                  rw [← ex91] at tx91
                  refine va_put (D := (dC, dI)) (ci := 12) (v := .int x91) (ty := .int) (C := RX12) (T := TX12) (N := 42) hx hb hwd inlX12 tyX12 tyX12_ok nmX12 hown hK hP hD hS 0 rfl rfl 8 (by decide) (hwd _ kr23_5) (fun _ h9 => h9) rfl (by decide +kernel) rfl rfl (Nat.le_of_ble_eq_true rfl) dX12_advance_257 (fun H locs hP hD hS => ?_)
                  have hP : va_P (dC, dI) vwCl [(a0, .inr (12, [.int i0, .ref a1, .ref a2, .ref a3, .ref a4, .int i1, .ref a5, .int i2, .int x91, .int v0_1, .int z1_2, .int i6, .int i7, .int i8, .ref a6, .ref a7, .ref a8, .ref a9, .ref a10, .ref a11, .ref a12, .int i9, .ref a13, .int i10, .ref a14, .ref a15, .int i11, .ref a16, .ref a17, .ref a18, .ref a19, .int i12, .int i13, .int i14, .int i15, .int i16, .ref a20, .long j0, .ref a21, .ref a22, .ref a23, .ref a24])), (a4, .inl (cB, 1600, .inl xF3))] H := hP
                  have hD : va_D A [(a0, .inr (12, [.int i0, .ref a1, .ref a2, .ref a3, .ref a4, .int i1, .ref a5, .int i2, .int x91, .int v0_1, .int z1_2, .int i6, .int i7, .int i8, .ref a6, .ref a7, .ref a8, .ref a9, .ref a10, .ref a11, .ref a12, .int i9, .ref a13, .int i10, .ref a14, .ref a15, .int i11, .ref a16, .ref a17, .ref a18, .ref a19, .int i12, .int i13, .int i14, .int i15, .int i16, .ref a20, .long j0, .ref a21, .ref a22, .ref a23, .ref a24])), (a4, .inl (cB, 1600, .inl xF3))] := hD
                  have hP9 := hP.sub (ws' := [(a0, .inr (12, [.int i0, .ref a1, .ref a2, .ref a3, .ref a4, .int i1, .ref a5, .int i2, .int x91, .int v0_1, .int z1_2, .int i6, .int i7, .int i8, .ref a6, .ref a7, .ref a8, .ref a9, .ref a10, .ref a11, .ref a12, .int i9, .ref a13, .int i10, .ref a14, .ref a15, .int i11, .ref a16, .ref a17, .ref a18, .ref a19, .int i12, .int i13, .int i14, .int i15, .int i16, .ref a20, .long j0, .ref a21, .ref a22, .ref a23, .ref a24])), (a4, .inl (cB, 1600, .inl xF3))]) [0, 1] rfl
                  have hD9 := hD.sub (ws' := [(a0, .inr (12, [.int i0, .ref a1, .ref a2, .ref a3, .ref a4, .int i1, .ref a5, .int i2, .int x91, .int v0_1, .int z1_2, .int i6, .int i7, .int i8, .ref a6, .ref a7, .ref a8, .ref a9, .ref a10, .ref a11, .ref a12, .int i9, .ref a13, .int i10, .ref a14, .ref a15, .int i11, .ref a16, .ref a17, .ref a18, .ref a19, .int i12, .int i13, .int i14, .int i15, .int i16, .ref a20, .long j0, .ref a21, .ref a22, .ref a23, .ref a24])), (a4, .inl (cB, 1600, .inl xF3))]) [0, 1] (by decide) rfl
                  rw [hQ]
                  exact W.vret hx hb hr (fun t ht hW => ⟨⟨(pickG 0 [x91, v0_1, z1_2, i6], pickG (fun _ => 0) [], pickG (fun _ => 0) []), rfl, ⟨(show (0 : Int) ≤ x91.toInt ∧ x91.toInt ≤ 1600 from ⟨by omega, by omega⟩), (show (0 : Int) ≤ v0_1.toInt ∧ v0_1.toInt ≤ 1600 from ⟨by omega, by omega⟩), (show (0 : Int) ≤ z1_2.toInt ∧ z1_2.toInt ≤ 6 from ⟨by omega, by omega⟩), (show i3.toInt ≤ v0_1.toInt from by omega), (show v0_1.toInt ≤ x91.toInt ∧ (2 ≤ z1_2.toInt → v0_1.toInt + 1 ≤ x91.toInt) from by omega), trivial⟩, (by rw [ht]; exact hP9), hD9⟩, hS.F ht⟩) hS.2.2 dX12_advance_260
                refine lv_icmp_ne (tgt := 225) hx hb dX12_advance_218 (by decide) (fun c92 => ?_) (fun c92 => ?_)
                · rw [ki_eq] at c92
                  refine lv_iload_n hx hb dX12_advance_225 rfl (lv_at hl 0 rfl) ?_
                  refine lv_bipush (v := 123) hx hb dX12_advance_226 (by decide) ?_
                  refine lv_icmp_ne (tgt := 235) hx hb dX12_advance_228 (by decide) (fun c93 => ?_) (fun c93 => ?_)
                  · rw [ki_eq] at c93
                    refine lv_iload_n hx hb dX12_advance_235 rfl (lv_at hl 0 rfl) ?_
                    refine lv_bipush (v := 125) hx hb dX12_advance_236 (by decide) ?_
                    refine lv_icmp_ne (tgt := 245) hx hb dX12_advance_238 (by decide) (fun c94 => ?_) (fun c94 => ?_)
                    · rw [ki_eq] at c94
                      refine lv_bipush (v := 6) hx hb dX12_advance_245 (by decide) ?_
                      exact jp2 _ _ ls (6) (show (3 : Int) ≤ (6 : Int32).toInt ∧ (6 : Int32).toInt ≤ 6 from ⟨by omega, by omega⟩) (hP.sub (ws' := [(a0, .inr (12, [.int i0, .ref a1, .ref a2, .ref a3, .ref a4, .int i1, .ref a5, .int i2, .int v0_1, .int v0_1, .int i5, .int i6, .int i7, .int i8, .ref a6, .ref a7, .ref a8, .ref a9, .ref a10, .ref a11, .ref a12, .int i9, .ref a13, .int i10, .ref a14, .ref a15, .int i11, .ref a16, .ref a17, .ref a18, .ref a19, .int i12, .int i13, .int i14, .int i15, .int i16, .ref a20, .long j0, .ref a21, .ref a22, .ref a23, .ref a24])), (a4, .inl (cB, 1600, .inl xF3))]) [0, 1] rfl) (hD.sub (ws' := [(a0, .inr (12, [.int i0, .ref a1, .ref a2, .ref a3, .ref a4, .int i1, .ref a5, .int i2, .int v0_1, .int v0_1, .int i5, .int i6, .int i7, .int i8, .ref a6, .ref a7, .ref a8, .ref a9, .ref a10, .ref a11, .ref a12, .int i9, .ref a13, .int i10, .ref a14, .ref a15, .int i11, .ref a16, .ref a17, .ref a18, .ref a19, .int i12, .int i13, .int i14, .int i15, .int i16, .ref a20, .long j0, .ref a21, .ref a22, .ref a23, .ref a24])), (a4, .inl (cB, 1600, .inl xF3))]) [0, 1] (by decide) rfl) hS (lv_sub hl [1, 0] rfl)
                    · rw [ki_eq] at c94
                      refine lv_iconst (v := 5) hx hb dX12_advance_241 (by decide) ?_
                      refine lv_goto (tgt := 247) hx hb dX12_advance_242 (by decide) ?_
                      exact jp2 _ _ ls (5) (show (3 : Int) ≤ (5 : Int32).toInt ∧ (5 : Int32).toInt ≤ 6 from ⟨by omega, by omega⟩) (hP.sub (ws' := [(a0, .inr (12, [.int i0, .ref a1, .ref a2, .ref a3, .ref a4, .int i1, .ref a5, .int i2, .int v0_1, .int v0_1, .int i5, .int i6, .int i7, .int i8, .ref a6, .ref a7, .ref a8, .ref a9, .ref a10, .ref a11, .ref a12, .int i9, .ref a13, .int i10, .ref a14, .ref a15, .int i11, .ref a16, .ref a17, .ref a18, .ref a19, .int i12, .int i13, .int i14, .int i15, .int i16, .ref a20, .long j0, .ref a21, .ref a22, .ref a23, .ref a24])), (a4, .inl (cB, 1600, .inl xF3))]) [0, 1] rfl) (hD.sub (ws' := [(a0, .inr (12, [.int i0, .ref a1, .ref a2, .ref a3, .ref a4, .int i1, .ref a5, .int i2, .int v0_1, .int v0_1, .int i5, .int i6, .int i7, .int i8, .ref a6, .ref a7, .ref a8, .ref a9, .ref a10, .ref a11, .ref a12, .int i9, .ref a13, .int i10, .ref a14, .ref a15, .int i11, .ref a16, .ref a17, .ref a18, .ref a19, .int i12, .int i13, .int i14, .int i15, .int i16, .ref a20, .long j0, .ref a21, .ref a22, .ref a23, .ref a24])), (a4, .inl (cB, 1600, .inl xF3))]) [0, 1] (by decide) rfl) hS (lv_sub hl [1, 0] rfl)
                  · rw [ki_eq] at c93
                    refine lv_iconst (v := 4) hx hb dX12_advance_231 (by decide) ?_
                    refine lv_goto (tgt := 247) hx hb dX12_advance_232 (by decide) ?_
                    exact jp2 _ _ ls (4) (show (3 : Int) ≤ (4 : Int32).toInt ∧ (4 : Int32).toInt ≤ 6 from ⟨by omega, by omega⟩) (hP.sub (ws' := [(a0, .inr (12, [.int i0, .ref a1, .ref a2, .ref a3, .ref a4, .int i1, .ref a5, .int i2, .int v0_1, .int v0_1, .int i5, .int i6, .int i7, .int i8, .ref a6, .ref a7, .ref a8, .ref a9, .ref a10, .ref a11, .ref a12, .int i9, .ref a13, .int i10, .ref a14, .ref a15, .int i11, .ref a16, .ref a17, .ref a18, .ref a19, .int i12, .int i13, .int i14, .int i15, .int i16, .ref a20, .long j0, .ref a21, .ref a22, .ref a23, .ref a24])), (a4, .inl (cB, 1600, .inl xF3))]) [0, 1] rfl) (hD.sub (ws' := [(a0, .inr (12, [.int i0, .ref a1, .ref a2, .ref a3, .ref a4, .int i1, .ref a5, .int i2, .int v0_1, .int v0_1, .int i5, .int i6, .int i7, .int i8, .ref a6, .ref a7, .ref a8, .ref a9, .ref a10, .ref a11, .ref a12, .int i9, .ref a13, .int i10, .ref a14, .ref a15, .int i11, .ref a16, .ref a17, .ref a18, .ref a19, .int i12, .int i13, .int i14, .int i15, .int i16, .ref a20, .long j0, .ref a21, .ref a22, .ref a23, .ref a24])), (a4, .inl (cB, 1600, .inl xF3))]) [0, 1] (by decide) rfl) hS (lv_sub hl [1, 0] rfl)
                · rw [ki_eq] at c92
                  refine lv_iconst (v := 3) hx hb dX12_advance_221 (by decide) ?_
                  refine lv_goto (tgt := 247) hx hb dX12_advance_222 (by decide) ?_
                  exact jp2 _ _ ls (3) (show (3 : Int) ≤ (3 : Int32).toInt ∧ (3 : Int32).toInt ≤ 6 from ⟨by omega, by omega⟩) (hP.sub (ws' := [(a0, .inr (12, [.int i0, .ref a1, .ref a2, .ref a3, .ref a4, .int i1, .ref a5, .int i2, .int v0_1, .int v0_1, .int i5, .int i6, .int i7, .int i8, .ref a6, .ref a7, .ref a8, .ref a9, .ref a10, .ref a11, .ref a12, .int i9, .ref a13, .int i10, .ref a14, .ref a15, .int i11, .ref a16, .ref a17, .ref a18, .ref a19, .int i12, .int i13, .int i14, .int i15, .int i16, .ref a20, .long j0, .ref a21, .ref a22, .ref a23, .ref a24])), (a4, .inl (cB, 1600, .inl xF3))]) [0, 1] rfl) (hD.sub (ws' := [(a0, .inr (12, [.int i0, .ref a1, .ref a2, .ref a3, .ref a4, .int i1, .ref a5, .int i2, .int v0_1, .int v0_1, .int i5, .int i6, .int i7, .int i8, .ref a6, .ref a7, .ref a8, .ref a9, .ref a10, .ref a11, .ref a12, .int i9, .ref a13, .int i10, .ref a14, .ref a15, .int i11, .ref a16, .ref a17, .ref a18, .ref a19, .int i12, .int i13, .int i14, .int i15, .int i16, .ref a20, .long j0, .ref a21, .ref a22, .ref a23, .ref a24])), (a4, .inl (cB, 1600, .inl xF3))]) [0, 1] (by decide) rfl) hS (lv_sub hl [1, 0] rfl)
              · rw [ki_eq] at c87
                have hw85q := hw85 (by omega)
                clear hw85
                refine lv_aload_n hx hb dX12_advance_139 rfl (lv_at hl 1 rfl) ?_
                refine lv_iconst (v := 0) hx hb dX12_advance_140 (by decide) ?_
                refine va_put (D := (dC, dI)) (ci := 12) (v := .int 0) (ty := .int) (C := RX12) (T := TX12) (N := 42) hx hb hwd inlX12 tyX12 tyX12_ok nmX12 hown hK hP hD hS 0 rfl rfl 11 (by decide) (hwd _ kr23_16) (fun _ h9 => h9) rfl (by decide +kernel) rfl rfl (Nat.le_of_ble_eq_true rfl) dX12_advance_141 (fun H locs hP hD hS => ?_)
                have hP : va_P (dC, dI) vwCl [(a0, .inr (12, [.int i0, .ref a1, .ref a2, .ref a3, .ref a4, .int i1, .ref a5, .int i2, .int v0_1, .int v0_1, .int i5, .int 0, .int i7, .int i8, .ref a6, .ref a7, .ref a8, .ref a9, .ref a10, .ref a11, .ref a12, .int i9, .ref a13, .int i10, .ref a14, .ref a15, .int i11, .ref a16, .ref a17, .ref a18, .ref a19, .int i12, .int i13, .int i14, .int i15, .int i16, .ref a20, .long j0, .ref a21, .ref a22, .ref a23, .ref a24])), (a4, .inl (cB, 1600, .inl xF3))] H := hP
                have hD : va_D A [(a0, .inr (12, [.int i0, .ref a1, .ref a2, .ref a3, .ref a4, .int i1, .ref a5, .int i2, .int v0_1, .int v0_1, .int i5, .int 0, .int i7, .int i8, .ref a6, .ref a7, .ref a8, .ref a9, .ref a10, .ref a11, .ref a12, .int i9, .ref a13, .int i10, .ref a14, .ref a15, .int i11, .ref a16, .ref a17, .ref a18, .ref a19, .int i12, .int i13, .int i14, .int i15, .int i16, .ref a20, .long j0, .ref a21, .ref a22, .ref a23, .ref a24])), (a4, .inl (cB, 1600, .inl xF3))] := hD
                have lp3 : ∀ (d : Nat), ∀ (H : Heap) (locs : List Loc) (ls : Array Slot) (v0_3 : Int32) (v1_3 : Int32), ((0 : Int) ≤ v0_3.toInt ∧ v0_3.toInt ≤ 1600) → ((-2147483648 : Int) ≤ v1_3.toInt ∧ v1_3.toInt ≤ 99999) → (v0_1.toInt ≤ v0_3.toInt) → (i3.toInt ≤ v0_1.toInt) → ((v0_3.toInt = v0_1.toInt → 48 ≤ seeF xF3 i2.toInt v0_3.toInt ∧ seeF xF3 i2.toInt v0_3.toInt ≤ 57)) → (1600 - v0_3.toInt).toNat < d → va_P (dC, dI) vwCl [(a0, .inr (12, [.int i0, .ref a1, .ref a2, .ref a3, .ref a4, .int i1, .ref a5, .int i2, .int v0_3, .int v0_1, .int i5, .int v1_3, .int i7, .int i8, .ref a6, .ref a7, .ref a8, .ref a9, .ref a10, .ref a11, .ref a12, .int i9, .ref a13, .int i10, .ref a14, .ref a15, .int i11, .ref a16, .ref a17, .ref a18, .ref a19, .int i12, .int i13, .int i14, .int i15, .int i16, .ref a20, .long j0, .ref a21, .ref a22, .ref a23, .ref a24])), (a4, .inl (cB, 1600, .inl xF3))] H → va_D A [(a0, .inr (12, [.int i0, .ref a1, .ref a2, .ref a3, .ref a4, .int i1, .ref a5, .int i2, .int v0_3, .int v0_1, .int i5, .int v1_3, .int i7, .int i8, .ref a6, .ref a7, .ref a8, .ref a9, .ref a10, .ref a11, .ref a12, .int i9, .ref a13, .int i10, .ref a14, .ref a15, .int i11, .ref a16, .ref a17, .ref a18, .ref a19, .int i12, .int i13, .int i14, .int i15, .int i16, .ref a20, .long j0, .ref a21, .ref a22, .ref a23, .ref a24])), (a4, .inl (cB, 1600, .inl xF3))] → va_S A s.heap H locs → lv_has ls 2 [(0, .ref a0), (1, .int r70)] → W p l e ({ frames := 1, cells := 0, slots := 0, locals := 25 } : Room) s m ([.ref a0] : List Value).toArray below meth c H locs 0 0 Q (F0 m 144 ls []) := by
                  intro d
                  induction d with
                  | zero =>
                    intro H locs ls v0_3 v1_3 hr_v0_3 hr_v1_3 hrl0_3 hrl1_3 hrl2_3 hm hP hD hS hl
                    omega
                  | succ d ih3 =>
                    intro H locs ls v0_3 v1_3 hr_v0_3 hr_v1_3 hrl0_3 hrl1_3 hrl2_3 hm hP hD hS hl
                    refine lv_aload_n hx hb dX12_advance_144 rfl (lv_at hl 0 rfl) ?_
                    refine lv_aload_n hx hb dX12_advance_145 rfl (lv_at hl 0 rfl) ?_
                    refine va_get (D := (dC, dI)) (ci := 12) (v := .int v0_3) (C := RX12) (T := TX12) (N := 42) hx hb hwd inlX12 hown hK hP 0 rfl rfl 8 (by decide) (hwd _ kr23_5) (fun _ h9 => h9) rfl dX12_advance_146 ?_
                    have hPc := hP.sub (ws' := [(a0, .inr (12, [.int i0, .ref a1, .ref a2, .ref a3, .ref a4, .int i1, .ref a5, .int i2, .int v0_3, .int v0_1, .int i5, .int v1_3, .int i7, .int i8, .ref a6, .ref a7, .ref a8, .ref a9, .ref a10, .ref a11, .ref a12, .int i9, .ref a13, .int i10, .ref a14, .ref a15, .int i11, .ref a16, .ref a17, .ref a18, .ref a19, .int i12, .int i13, .int i14, .int i15, .int i16, .ref a20, .long j0, .ref a21, .ref a22, .ref a23, .ref a24])), (a4, .inl (cB, 1600, .inl xF3))]) [0, 1] rfl
                    have hDc := hD.sub (ws' := [(a0, .inr (12, [.int i0, .ref a1, .ref a2, .ref a3, .ref a4, .int i1, .ref a5, .int i2, .int v0_3, .int v0_1, .int i5, .int v1_3, .int i7, .int i8, .ref a6, .ref a7, .ref a8, .ref a9, .ref a10, .ref a11, .ref a12, .int i9, .ref a13, .int i10, .ref a14, .ref a15, .int i11, .ref a16, .ref a17, .ref a18, .ref a19, .int i12, .int i13, .int i14, .int i15, .int i16, .ref a20, .long j0, .ref a21, .ref a22, .ref a23, .ref a24])), (a4, .inl (cB, 1600, .inl xF3))]) [0, 1] (by decide) rfl
                    have hFc := va_free (wc := [(a0, .inr (12, [.int i0, .ref a1, .ref a2, .ref a3, .ref a4, .int i1, .ref a5, .int i2, .int v0_3, .int v0_1, .int i5, .int v1_3, .int i7, .int i8, .ref a6, .ref a7, .ref a8, .ref a9, .ref a10, .ref a11, .ref a12, .int i9, .ref a13, .int i10, .ref a14, .ref a15, .int i11, .ref a16, .ref a17, .ref a18, .ref a19, .int i12, .int i13, .int i14, .int i15, .int i16, .ref a20, .long j0, .ref a21, .ref a22, .ref a23, .ref a24])), (a4, .inl (cB, 1600, .inl xF3))]) hD hS hA [0, 1] rfl
                    refine va_calli (va_runV (As := [.int v0_3]) (rest := []) ⟨hx, hb, hml, hown, hwd⟩ (s_X12_see l dC dI cI cZ cB cJ cM cG a0 a1 a2 a3 a4 a5 a6 a7 a8 a9 a10 a11 a12 a13 a14 a15 a16 a17 a18 a19 a20 a21 a22 a23 a24 i0 i1 i2 v0_3 v0_1 i5 v1_3 i7 i8 i9 i10 i11 i12 i13 i14 i15 i16 j0 xF3 v0_3 H.size (show (0 : Int) ≤ i1.toInt ∧ i1.toInt ≤ 1600 from ⟨by omega, by omega⟩) (show (0 : Int) ≤ i2.toInt ∧ i2.toInt ≤ 1600 from ⟨by omega, by omega⟩) (show (0 : Int) ≤ v0_3.toInt ∧ v0_3.toInt ≤ 1600 from ⟨by omega, by omega⟩) (show (0 : Int) ≤ v0_1.toInt ∧ v0_1.toInt ≤ 1600 from ⟨by omega, by omega⟩) (show (0 : Int) ≤ i5.toInt ∧ i5.toInt ≤ 6 from ⟨by omega, by omega⟩) (show (0 : Int) ≤ i11.toInt ∧ i11.toInt ≤ 59 from ⟨by omega, by omega⟩) (show (0 : Int) ≤ v0_3.toInt ∧ v0_3.toInt ≤ 1600 from ⟨by omega, by omega⟩)) (cwV 1 hwd (gV kr23_19 kr23_20 kr23_21 kr1_5 kr23_22) rfl rfl rfl (by decide +kernel) ⟨Nat.le_of_ble_eq_true rfl, Nat.le_of_ble_eq_true rfl⟩) (kPreV hPc hK hDc (ci := 12) (q0 := 0) rfl rfl) rfl rfl hl.1 rfl (lv_room (Nat.le_of_ble_eq_true rfl)) dX12_advance_149 ⟨Nat.le_of_ble_eq_true rfl, Nat.le_of_ble_eq_true rfl⟩) hS (fun q _ h => hFc q h) hFc (fun r199 u200 t H1 locs ht9 hvm hw hB hz1 hk1 hS => ?_)
                    obtain ⟨hw201, hw202, hw203, -⟩ := hw
                    have hw201 : (-1 : Int) ≤ r199.toInt ∧ r199.toInt ≤ 255 := hw201
                    have hw202 : r199.toInt = seeF xF3 i2.toInt v0_3.toInt := hw202
                    obtain ⟨hP1, hD1⟩ := hB
                    rw [ht9] at hP1
                    obtain ⟨hP, hD⟩ := va_join (wr := []) (w1 := [(a0, .inr (12, [.int i0, .ref a1, .ref a2, .ref a3, .ref a4, .int i1, .ref a5, .int i2, .int v0_3, .int v0_1, .int i5, .int v1_3, .int i7, .int i8, .ref a6, .ref a7, .ref a8, .ref a9, .ref a10, .ref a11, .ref a12, .int i9, .ref a13, .int i10, .ref a14, .ref a15, .int i11, .ref a16, .ref a17, .ref a18, .ref a19, .int i12, .int i13, .int i14, .int i15, .int i16, .ref a20, .long j0, .ref a21, .ref a22, .ref a23, .ref a24])), (a4, .inl (cB, 1600, .inl xF3))]) hP hD [0, 1] [] rfl rfl (by decide) (by decide) hk1 hFc hP1 hD1
                    generalize H1 = H at hP hS ⊢
                    have hP : va_P (dC, dI) vwCl [(a0, .inr (12, [.int i0, .ref a1, .ref a2, .ref a3, .ref a4, .int i1, .ref a5, .int i2, .int v0_3, .int v0_1, .int i5, .int v1_3, .int i7, .int i8, .ref a6, .ref a7, .ref a8, .ref a9, .ref a10, .ref a11, .ref a12, .int i9, .ref a13, .int i10, .ref a14, .ref a15, .int i11, .ref a16, .ref a17, .ref a18, .ref a19, .int i12, .int i13, .int i14, .int i15, .int i16, .ref a20, .long j0, .ref a21, .ref a22, .ref a23, .ref a24])), (a4, .inl (cB, 1600, .inl xF3))] H := hP
                    have hD : va_D A [(a0, .inr (12, [.int i0, .ref a1, .ref a2, .ref a3, .ref a4, .int i1, .ref a5, .int i2, .int v0_3, .int v0_1, .int i5, .int v1_3, .int i7, .int i8, .ref a6, .ref a7, .ref a8, .ref a9, .ref a10, .ref a11, .ref a12, .int i9, .ref a13, .int i10, .ref a14, .ref a15, .int i11, .ref a16, .ref a17, .ref a18, .ref a19, .int i12, .int i13, .int i14, .int i15, .int i16, .ref a20, .long j0, .ref a21, .ref a22, .ref a23, .ref a24])), (a4, .inl (cB, 1600, .inl xF3))] := hD
                    refine lv_i2l hx hb dX12_advance_152 rfl ?_
                    refine lv_ldc2 (v := 48) hx hb hown (hwd _ kr23_14) dX12_advance_153 ?_
                    refine lv_ldc2 (v := 57) hx hb hown (hwd _ kr23_15) dX12_advance_156 ?_
                    have hPc := hP.sub (ws' := []) [] rfl
                    have hDc := hD.sub (ws' := []) [] (by decide) rfl
                    have hFc := va_free (wc := []) hD hS hA [] rfl
                    refine va_calli (va_runS (As := [.long r199.toInt64, .long 48, .long 57]) (rest := []) ⟨hx, hb, hml, hown, hwd⟩ (s_X12_in l dC dI cI cZ cB cJ cM cG r199.toInt64 48 57 H.size) (cwS 3 hwd (gS kr9_10 kr9_11 kr1_5 kr9_12) rfl rfl rfl (by decide +kernel) ⟨Nat.le_of_ble_eq_true rfl, Nat.le_of_ble_eq_true rfl⟩) (kPreS hPc hK hDc) rfl rfl hl.1 rfl (lv_room (Nat.le_of_ble_eq_true rfl)) dX12_advance_159 ⟨Nat.le_of_ble_eq_true rfl, Nat.le_of_ble_eq_true rfl⟩) hS (fun q _ h => hFc q h) hFc (fun r204 u205 t H1 locs ht9 hvm hw hB hz1 hk1 hS => ?_)
                    obtain ⟨hw206, hw207, hw208, -⟩ := hw
                    have hw206 : (0 : Int) ≤ r204.toInt ∧ r204.toInt ≤ 1 := hw206
                    have hw207 : r204.toInt ≠ 0 → (48 : Int) ≤ r199.toInt ∧ r199.toInt ≤ (57 : Int) := in_int (Int32.toInt_toInt64 _) (by decide) (by decide) hw207
                    have hw208 : r204.toInt ≠ 1 → r199.toInt < (48 : Int) ∨ (57 : Int) < r199.toInt := in_int2 (Int32.toInt_toInt64 _) (by decide) (by decide) hw208
                    obtain ⟨hP1, hD1⟩ := hB
                    rw [ht9] at hP1
                    obtain ⟨hP, hD⟩ := va_join (wr := [(a0, .inr (12, [.int i0, .ref a1, .ref a2, .ref a3, .ref a4, .int i1, .ref a5, .int i2, .int v0_3, .int v0_1, .int i5, .int v1_3, .int i7, .int i8, .ref a6, .ref a7, .ref a8, .ref a9, .ref a10, .ref a11, .ref a12, .int i9, .ref a13, .int i10, .ref a14, .ref a15, .int i11, .ref a16, .ref a17, .ref a18, .ref a19, .int i12, .int i13, .int i14, .int i15, .int i16, .ref a20, .long j0, .ref a21, .ref a22, .ref a23, .ref a24])), (a4, .inl (cB, 1600, .inl xF3))]) (w1 := []) hP hD [] [0, 1] rfl rfl (by decide) (by decide) hk1 hFc hP1 hD1
                    generalize H1 = H at hP hS ⊢
                    have hP : va_P (dC, dI) vwCl [(a0, .inr (12, [.int i0, .ref a1, .ref a2, .ref a3, .ref a4, .int i1, .ref a5, .int i2, .int v0_3, .int v0_1, .int i5, .int v1_3, .int i7, .int i8, .ref a6, .ref a7, .ref a8, .ref a9, .ref a10, .ref a11, .ref a12, .int i9, .ref a13, .int i10, .ref a14, .ref a15, .int i11, .ref a16, .ref a17, .ref a18, .ref a19, .int i12, .int i13, .int i14, .int i15, .int i16, .ref a20, .long j0, .ref a21, .ref a22, .ref a23, .ref a24])), (a4, .inl (cB, 1600, .inl xF3))] H := hP
                    have hD : va_D A [(a0, .inr (12, [.int i0, .ref a1, .ref a2, .ref a3, .ref a4, .int i1, .ref a5, .int i2, .int v0_3, .int v0_1, .int i5, .int v1_3, .int i7, .int i8, .ref a6, .ref a7, .ref a8, .ref a9, .ref a10, .ref a11, .ref a12, .int i9, .ref a13, .int i10, .ref a14, .ref a15, .int i11, .ref a16, .ref a17, .ref a18, .ref a19, .int i12, .int i13, .int i14, .int i15, .int i16, .ref a20, .long j0, .ref a21, .ref a22, .ref a23, .ref a24])), (a4, .inl (cB, 1600, .inl xF3))] := hD
                    refine lv_if_eq (tgt := 206) hx hb dX12_advance_162 (by decide) (fun c209 => ?_) (fun c209 => ?_)
                    · rw [ki_eq] at c209
                      have hw208q := hw208 (by omega)
                      clear hw208
                      refine lv_aload_n hx hb dX12_advance_206 rfl (lv_at hl 0 rfl) ?_
                      refine lv_iconst (v := 2) hx hb dX12_advance_207 (by decide) ?_
                      refine va_put (D := (dC, dI)) (ci := 12) (v := .int 2) (ty := .int) (C := RX12) (T := TX12) (N := 42) hx hb hwd inlX12 tyX12 tyX12_ok nmX12 hown hK hP hD hS 0 rfl rfl 10 (by decide) (hwd _ kr22_23) (fun _ h9 => h9) rfl (by decide +kernel) rfl rfl (Nat.le_of_ble_eq_true rfl) dX12_advance_208 (fun H locs hP hD hS => ?_)
                      have hP : va_P (dC, dI) vwCl [(a0, .inr (12, [.int i0, .ref a1, .ref a2, .ref a3, .ref a4, .int i1, .ref a5, .int i2, .int v0_3, .int v0_1, .int 2, .int v1_3, .int i7, .int i8, .ref a6, .ref a7, .ref a8, .ref a9, .ref a10, .ref a11, .ref a12, .int i9, .ref a13, .int i10, .ref a14, .ref a15, .int i11, .ref a16, .ref a17, .ref a18, .ref a19, .int i12, .int i13, .int i14, .int i15, .int i16, .ref a20, .long j0, .ref a21, .ref a22, .ref a23, .ref a24])), (a4, .inl (cB, 1600, .inl xF3))] H := hP
                      have hD : va_D A [(a0, .inr (12, [.int i0, .ref a1, .ref a2, .ref a3, .ref a4, .int i1, .ref a5, .int i2, .int v0_3, .int v0_1, .int 2, .int v1_3, .int i7, .int i8, .ref a6, .ref a7, .ref a8, .ref a9, .ref a10, .ref a11, .ref a12, .int i9, .ref a13, .int i10, .ref a14, .ref a15, .int i11, .ref a16, .ref a17, .ref a18, .ref a19, .int i12, .int i13, .int i14, .int i15, .int i16, .ref a20, .long j0, .ref a21, .ref a22, .ref a23, .ref a24])), (a4, .inl (cB, 1600, .inl xF3))] := hD
                      refine lv_goto (tgt := 260) hx hb dX12_advance_211 (by decide) ?_
                      have hP9 := hP.sub (ws' := [(a0, .inr (12, [.int i0, .ref a1, .ref a2, .ref a3, .ref a4, .int i1, .ref a5, .int i2, .int v0_3, .int v0_1, .int 2, .int v1_3, .int i7, .int i8, .ref a6, .ref a7, .ref a8, .ref a9, .ref a10, .ref a11, .ref a12, .int i9, .ref a13, .int i10, .ref a14, .ref a15, .int i11, .ref a16, .ref a17, .ref a18, .ref a19, .int i12, .int i13, .int i14, .int i15, .int i16, .ref a20, .long j0, .ref a21, .ref a22, .ref a23, .ref a24])), (a4, .inl (cB, 1600, .inl xF3))]) [0, 1] rfl
                      have hD9 := hD.sub (ws' := [(a0, .inr (12, [.int i0, .ref a1, .ref a2, .ref a3, .ref a4, .int i1, .ref a5, .int i2, .int v0_3, .int v0_1, .int 2, .int v1_3, .int i7, .int i8, .ref a6, .ref a7, .ref a8, .ref a9, .ref a10, .ref a11, .ref a12, .int i9, .ref a13, .int i10, .ref a14, .ref a15, .int i11, .ref a16, .ref a17, .ref a18, .ref a19, .int i12, .int i13, .int i14, .int i15, .int i16, .ref a20, .long j0, .ref a21, .ref a22, .ref a23, .ref a24])), (a4, .inl (cB, 1600, .inl xF3))]) [0, 1] (by decide) rfl
                      rw [hQ]
                      exact W.vret hx hb hr (fun t ht hW => ⟨⟨(pickG 0 [v0_3, v0_1, 2, v1_3], pickG (fun _ => 0) [], pickG (fun _ => 0) []), rfl, ⟨(show (0 : Int) ≤ v0_3.toInt ∧ v0_3.toInt ≤ 1600 from ⟨by omega, by omega⟩), (show (0 : Int) ≤ v0_1.toInt ∧ v0_1.toInt ≤ 1600 from ⟨by omega, by omega⟩), (show (0 : Int) ≤ (2 : Int32).toInt ∧ (2 : Int32).toInt ≤ 6 from ⟨by omega, by omega⟩), (show i3.toInt ≤ v0_1.toInt from by omega), (show v0_1.toInt ≤ v0_3.toInt ∧ (2 ≤ (2 : Int32).toInt → v0_1.toInt + 1 ≤ v0_3.toInt) from by omega), trivial⟩, (by rw [ht]; exact hP9), hD9⟩, hS.F ht⟩) hS.2.2 dX12_advance_260
                    · rw [ki_eq] at c209
                      have hw207q := hw207 (by omega)
                      clear hw207
                      have hw203q := hw203 (by omega)
                      clear hw203
                      refine lv_aload_n hx hb dX12_advance_165 rfl (lv_at hl 0 rfl) ?_
                      refine lv_ldc (v := 99999) hx hb hown (hwd _ kr23_17) dX12_advance_166 ?_
                      refine lv_bipush (v := 10) hx hb dX12_advance_168 (by decide) ?_
                      refine lv_aload_n hx hb dX12_advance_170 rfl (lv_at hl 0 rfl) ?_
                      refine va_get (D := (dC, dI)) (ci := 12) (v := .int v1_3) (C := RX12) (T := TX12) (N := 42) hx hb hwd inlX12 hown hK hP 0 rfl rfl 11 (by decide) (hwd _ kr23_16) (fun _ h9 => h9) rfl dX12_advance_171 ?_
                      refine lv_imul hx hb dX12_advance_174 ?_
                      refine lv_topi (fun x210 ex210 => ?_)
                      refine lv_aload_n hx hb dX12_advance_175 rfl (lv_at hl 0 rfl) ?_
                      refine lv_aload_n hx hb dX12_advance_176 rfl (lv_at hl 0 rfl) ?_
                      refine va_get (D := (dC, dI)) (ci := 12) (v := .int v0_3) (C := RX12) (T := TX12) (N := 42) hx hb hwd inlX12 hown hK hP 0 rfl rfl 8 (by decide) (hwd _ kr23_5) (fun _ h9 => h9) rfl dX12_advance_177 ?_
                      have hPc := hP.sub (ws' := [(a0, .inr (12, [.int i0, .ref a1, .ref a2, .ref a3, .ref a4, .int i1, .ref a5, .int i2, .int v0_3, .int v0_1, .int i5, .int v1_3, .int i7, .int i8, .ref a6, .ref a7, .ref a8, .ref a9, .ref a10, .ref a11, .ref a12, .int i9, .ref a13, .int i10, .ref a14, .ref a15, .int i11, .ref a16, .ref a17, .ref a18, .ref a19, .int i12, .int i13, .int i14, .int i15, .int i16, .ref a20, .long j0, .ref a21, .ref a22, .ref a23, .ref a24])), (a4, .inl (cB, 1600, .inl xF3))]) [0, 1] rfl
                      have hDc := hD.sub (ws' := [(a0, .inr (12, [.int i0, .ref a1, .ref a2, .ref a3, .ref a4, .int i1, .ref a5, .int i2, .int v0_3, .int v0_1, .int i5, .int v1_3, .int i7, .int i8, .ref a6, .ref a7, .ref a8, .ref a9, .ref a10, .ref a11, .ref a12, .int i9, .ref a13, .int i10, .ref a14, .ref a15, .int i11, .ref a16, .ref a17, .ref a18, .ref a19, .int i12, .int i13, .int i14, .int i15, .int i16, .ref a20, .long j0, .ref a21, .ref a22, .ref a23, .ref a24])), (a4, .inl (cB, 1600, .inl xF3))]) [0, 1] (by decide) rfl
                      have hFc := va_free (wc := [(a0, .inr (12, [.int i0, .ref a1, .ref a2, .ref a3, .ref a4, .int i1, .ref a5, .int i2, .int v0_3, .int v0_1, .int i5, .int v1_3, .int i7, .int i8, .ref a6, .ref a7, .ref a8, .ref a9, .ref a10, .ref a11, .ref a12, .int i9, .ref a13, .int i10, .ref a14, .ref a15, .int i11, .ref a16, .ref a17, .ref a18, .ref a19, .int i12, .int i13, .int i14, .int i15, .int i16, .ref a20, .long j0, .ref a21, .ref a22, .ref a23, .ref a24])), (a4, .inl (cB, 1600, .inl xF3))]) hD hS hA [0, 1] rfl
                      refine va_calli (va_runV (As := [.int v0_3]) (rest := [.int x210, .int 99999, .ref a0]) ⟨hx, hb, hml, hown, hwd⟩ (s_X12_see l dC dI cI cZ cB cJ cM cG a0 a1 a2 a3 a4 a5 a6 a7 a8 a9 a10 a11 a12 a13 a14 a15 a16 a17 a18 a19 a20 a21 a22 a23 a24 i0 i1 i2 v0_3 v0_1 i5 v1_3 i7 i8 i9 i10 i11 i12 i13 i14 i15 i16 j0 xF3 v0_3 H.size (show (0 : Int) ≤ i1.toInt ∧ i1.toInt ≤ 1600 from ⟨by omega, by omega⟩) (show (0 : Int) ≤ i2.toInt ∧ i2.toInt ≤ 1600 from ⟨by omega, by omega⟩) (show (0 : Int) ≤ v0_3.toInt ∧ v0_3.toInt ≤ 1600 from ⟨by omega, by omega⟩) (show (0 : Int) ≤ v0_1.toInt ∧ v0_1.toInt ≤ 1600 from ⟨by omega, by omega⟩) (show (0 : Int) ≤ i5.toInt ∧ i5.toInt ≤ 6 from ⟨by omega, by omega⟩) (show (0 : Int) ≤ i11.toInt ∧ i11.toInt ≤ 59 from ⟨by omega, by omega⟩) (show (0 : Int) ≤ v0_3.toInt ∧ v0_3.toInt ≤ 1600 from ⟨by omega, by omega⟩)) (cwV 1 hwd (gV kr23_19 kr23_20 kr23_21 kr1_5 kr23_22) rfl rfl rfl (by decide +kernel) ⟨Nat.le_of_ble_eq_true rfl, Nat.le_of_ble_eq_true rfl⟩) (kPreV hPc hK hDc (ci := 12) (q0 := 0) rfl rfl) rfl rfl hl.1 rfl (lv_room (Nat.le_of_ble_eq_true rfl)) dX12_advance_180 ⟨Nat.le_of_ble_eq_true rfl, Nat.le_of_ble_eq_true rfl⟩) hS (fun q _ h => hFc q h) hFc (fun r211 u212 t H1 locs ht9 hvm hw hB hz1 hk1 hS => ?_)
                      obtain ⟨hw213, hw214, hw215, -⟩ := hw
                      have hw213 : (-1 : Int) ≤ r211.toInt ∧ r211.toInt ≤ 255 := hw213
                      have hw214 : r211.toInt = seeF xF3 i2.toInt v0_3.toInt := hw214
                      obtain ⟨hP1, hD1⟩ := hB
                      rw [ht9] at hP1
                      obtain ⟨hP, hD⟩ := va_join (wr := []) (w1 := [(a0, .inr (12, [.int i0, .ref a1, .ref a2, .ref a3, .ref a4, .int i1, .ref a5, .int i2, .int v0_3, .int v0_1, .int i5, .int v1_3, .int i7, .int i8, .ref a6, .ref a7, .ref a8, .ref a9, .ref a10, .ref a11, .ref a12, .int i9, .ref a13, .int i10, .ref a14, .ref a15, .int i11, .ref a16, .ref a17, .ref a18, .ref a19, .int i12, .int i13, .int i14, .int i15, .int i16, .ref a20, .long j0, .ref a21, .ref a22, .ref a23, .ref a24])), (a4, .inl (cB, 1600, .inl xF3))]) hP hD [0, 1] [] rfl rfl (by decide) (by decide) hk1 hFc hP1 hD1
                      generalize H1 = H at hP hS ⊢
                      have hP : va_P (dC, dI) vwCl [(a0, .inr (12, [.int i0, .ref a1, .ref a2, .ref a3, .ref a4, .int i1, .ref a5, .int i2, .int v0_3, .int v0_1, .int i5, .int v1_3, .int i7, .int i8, .ref a6, .ref a7, .ref a8, .ref a9, .ref a10, .ref a11, .ref a12, .int i9, .ref a13, .int i10, .ref a14, .ref a15, .int i11, .ref a16, .ref a17, .ref a18, .ref a19, .int i12, .int i13, .int i14, .int i15, .int i16, .ref a20, .long j0, .ref a21, .ref a22, .ref a23, .ref a24])), (a4, .inl (cB, 1600, .inl xF3))] H := hP
                      have hD : va_D A [(a0, .inr (12, [.int i0, .ref a1, .ref a2, .ref a3, .ref a4, .int i1, .ref a5, .int i2, .int v0_3, .int v0_1, .int i5, .int v1_3, .int i7, .int i8, .ref a6, .ref a7, .ref a8, .ref a9, .ref a10, .ref a11, .ref a12, .int i9, .ref a13, .int i10, .ref a14, .ref a15, .int i11, .ref a16, .ref a17, .ref a18, .ref a19, .int i12, .int i13, .int i14, .int i15, .int i16, .ref a20, .long j0, .ref a21, .ref a22, .ref a23, .ref a24])), (a4, .inl (cB, 1600, .inl xF3))] := hD
                      refine lv_iadd hx hb dX12_advance_183 ?_
                      refine lv_topi (fun x216 ex216 => ?_)
                      refine lv_bipush (v := 48) hx hb dX12_advance_184 (by decide) ?_
                      refine lv_isub hx hb dX12_advance_186 ?_
                      refine lv_topi (fun x217 ex217 => ?_)
                      refine va_mmin hx hb (by rw [hml]; exact hl.1.symm) hown (hwd _ kr23_18) (hwd _ kr22_5) (hwd _ kr19_4) (hwd _ kr22_6) (Nat.le_of_ble_eq_true rfl) (Nat.le_of_ble_eq_true rfl) (Nat.le_of_ble_eq_true rfl) (Nat.le_of_ble_eq_true rfl) dX12_advance_187 ?_
                      refine lv_topi (fun x218 ex218 => ?_)
                      have tx218 := mx_min (99999 : Int32) x217
                      rw [← ex218] at tx218
                      refine va_put (D := (dC, dI)) (ci := 12) (v := .int x218) (ty := .int) (C := RX12) (T := TX12) (N := 42) hx hb hwd inlX12 tyX12 tyX12_ok nmX12 hown hK hP hD hS 0 rfl rfl 11 (by decide) (hwd _ kr23_16) (fun _ h9 => h9) rfl (by decide +kernel) rfl rfl (Nat.le_of_ble_eq_true rfl) dX12_advance_190 (fun H locs hP hD hS => ?_)
                      have hP : va_P (dC, dI) vwCl [(a0, .inr (12, [.int i0, .ref a1, .ref a2, .ref a3, .ref a4, .int i1, .ref a5, .int i2, .int v0_3, .int v0_1, .int i5, .int x218, .int i7, .int i8, .ref a6, .ref a7, .ref a8, .ref a9, .ref a10, .ref a11, .ref a12, .int i9, .ref a13, .int i10, .ref a14, .ref a15, .int i11, .ref a16, .ref a17, .ref a18, .ref a19, .int i12, .int i13, .int i14, .int i15, .int i16, .ref a20, .long j0, .ref a21, .ref a22, .ref a23, .ref a24])), (a4, .inl (cB, 1600, .inl xF3))] H := hP
                      have hD : va_D A [(a0, .inr (12, [.int i0, .ref a1, .ref a2, .ref a3, .ref a4, .int i1, .ref a5, .int i2, .int v0_3, .int v0_1, .int i5, .int x218, .int i7, .int i8, .ref a6, .ref a7, .ref a8, .ref a9, .ref a10, .ref a11, .ref a12, .int i9, .ref a13, .int i10, .ref a14, .ref a15, .int i11, .ref a16, .ref a17, .ref a18, .ref a19, .int i12, .int i13, .int i14, .int i15, .int i16, .ref a20, .long j0, .ref a21, .ref a22, .ref a23, .ref a24])), (a4, .inl (cB, 1600, .inl xF3))] := hD
                      refine lv_aload_n hx hb dX12_advance_193 rfl (lv_at hl 0 rfl) ?_
                      refine lv_dup hx hb dX12_advance_194 rfl ?_
                      refine va_get (D := (dC, dI)) (ci := 12) (v := .int v0_3) (C := RX12) (T := TX12) (N := 42) hx hb hwd inlX12 hown hK hP 0 rfl rfl 8 (by decide) (hwd _ kr23_5) (fun _ h9 => h9) rfl dX12_advance_195 ?_
                      refine lv_iconst (v := 1) hx hb dX12_advance_198 (by decide) ?_
                      refine lv_iadd hx hb dX12_advance_199 ?_
                      refine lv_topi (fun x219 ex219 => ?_)
                      have tx219 := ia_add (a := v0_3) (b := (1 : Int32)) (by omega) (by omega)
                      rw [← ex219] at tx219
                      refine va_put (D := (dC, dI)) (ci := 12) (v := .int x219) (ty := .int) (C := RX12) (T := TX12) (N := 42) hx hb hwd inlX12 tyX12 tyX12_ok nmX12 hown hK hP hD hS 0 rfl rfl 8 (by decide) (hwd _ kr23_5) (fun _ h9 => h9) rfl (by decide +kernel) rfl rfl (Nat.le_of_ble_eq_true rfl) dX12_advance_200 (fun H locs hP hD hS => ?_)
                      have hP : va_P (dC, dI) vwCl [(a0, .inr (12, [.int i0, .ref a1, .ref a2, .ref a3, .ref a4, .int i1, .ref a5, .int i2, .int x219, .int v0_1, .int i5, .int x218, .int i7, .int i8, .ref a6, .ref a7, .ref a8, .ref a9, .ref a10, .ref a11, .ref a12, .int i9, .ref a13, .int i10, .ref a14, .ref a15, .int i11, .ref a16, .ref a17, .ref a18, .ref a19, .int i12, .int i13, .int i14, .int i15, .int i16, .ref a20, .long j0, .ref a21, .ref a22, .ref a23, .ref a24])), (a4, .inl (cB, 1600, .inl xF3))] H := hP
                      have hD : va_D A [(a0, .inr (12, [.int i0, .ref a1, .ref a2, .ref a3, .ref a4, .int i1, .ref a5, .int i2, .int x219, .int v0_1, .int i5, .int x218, .int i7, .int i8, .ref a6, .ref a7, .ref a8, .ref a9, .ref a10, .ref a11, .ref a12, .int i9, .ref a13, .int i10, .ref a14, .ref a15, .int i11, .ref a16, .ref a17, .ref a18, .ref a19, .int i12, .int i13, .int i14, .int i15, .int i16, .ref a20, .long j0, .ref a21, .ref a22, .ref a23, .ref a24])), (a4, .inl (cB, 1600, .inl xF3))] := hD
                      refine lv_goto (tgt := 144) hx hb dX12_advance_203 (by decide) ?_
                      exact ih3 _ _ ls x219 x218 (show (0 : Int) ≤ x219.toInt ∧ x219.toInt ≤ 1600 from ⟨by omega, by omega⟩) (show (-2147483648 : Int) ≤ x218.toInt ∧ x218.toInt ≤ 99999 from ⟨i32_lo, by omega⟩) (show v0_1.toInt ≤ x219.toInt from by omega) (show i3.toInt ≤ v0_1.toInt from by omega) (show (x219.toInt = v0_1.toInt → 48 ≤ seeF xF3 i2.toInt x219.toInt ∧ seeF xF3 i2.toInt x219.toInt ≤ 57) from by omega) (by omega) (hP.sub (ws' := [(a0, .inr (12, [.int i0, .ref a1, .ref a2, .ref a3, .ref a4, .int i1, .ref a5, .int i2, .int x219, .int v0_1, .int i5, .int x218, .int i7, .int i8, .ref a6, .ref a7, .ref a8, .ref a9, .ref a10, .ref a11, .ref a12, .int i9, .ref a13, .int i10, .ref a14, .ref a15, .int i11, .ref a16, .ref a17, .ref a18, .ref a19, .int i12, .int i13, .int i14, .int i15, .int i16, .ref a20, .long j0, .ref a21, .ref a22, .ref a23, .ref a24])), (a4, .inl (cB, 1600, .inl xF3))]) [0, 1] rfl) (hD.sub (ws' := [(a0, .inr (12, [.int i0, .ref a1, .ref a2, .ref a3, .ref a4, .int i1, .ref a5, .int i2, .int x219, .int v0_1, .int i5, .int x218, .int i7, .int i8, .ref a6, .ref a7, .ref a8, .ref a9, .ref a10, .ref a11, .ref a12, .int i9, .ref a13, .int i10, .ref a14, .ref a15, .int i11, .ref a16, .ref a17, .ref a18, .ref a19, .int i12, .int i13, .int i14, .int i15, .int i16, .ref a20, .long j0, .ref a21, .ref a22, .ref a23, .ref a24])), (a4, .inl (cB, 1600, .inl xF3))]) [0, 1] (by decide) rfl) hS (lv_sub hl [0, 1] rfl)
                exact lp3 _ _ _ ls v0_1 (0) (show (0 : Int) ≤ v0_1.toInt ∧ v0_1.toInt ≤ 1600 from ⟨by omega, by omega⟩) (show (-2147483648 : Int) ≤ (0 : Int32).toInt ∧ (0 : Int32).toInt ≤ 99999 from ⟨i32_lo, by omega⟩) (show v0_1.toInt ≤ v0_1.toInt from by omega) (show i3.toInt ≤ v0_1.toInt from by omega) (show (v0_1.toInt = v0_1.toInt → 48 ≤ seeF xF3 i2.toInt v0_1.toInt ∧ seeF xF3 i2.toInt v0_1.toInt ≤ 57) from by omega) (Nat.lt_succ_self _) (hP.sub (ws' := [(a0, .inr (12, [.int i0, .ref a1, .ref a2, .ref a3, .ref a4, .int i1, .ref a5, .int i2, .int v0_1, .int v0_1, .int i5, .int 0, .int i7, .int i8, .ref a6, .ref a7, .ref a8, .ref a9, .ref a10, .ref a11, .ref a12, .int i9, .ref a13, .int i10, .ref a14, .ref a15, .int i11, .ref a16, .ref a17, .ref a18, .ref a19, .int i12, .int i13, .int i14, .int i15, .int i16, .ref a20, .long j0, .ref a21, .ref a22, .ref a23, .ref a24])), (a4, .inl (cB, 1600, .inl xF3))]) [0, 1] rfl) (hD.sub (ws' := [(a0, .inr (12, [.int i0, .ref a1, .ref a2, .ref a3, .ref a4, .int i1, .ref a5, .int i2, .int v0_1, .int v0_1, .int i5, .int 0, .int i7, .int i8, .ref a6, .ref a7, .ref a8, .ref a9, .ref a10, .ref a11, .ref a12, .int i9, .ref a13, .int i10, .ref a14, .ref a15, .int i11, .ref a16, .ref a17, .ref a18, .ref a19, .int i12, .int i13, .int i14, .int i15, .int i16, .ref a20, .long j0, .ref a21, .ref a22, .ref a23, .ref a24])), (a4, .inl (cB, 1600, .inl xF3))]) [0, 1] (by decide) rfl) hS (lv_sub hl [1, 0] rfl)
            · rw [ki_eq] at c81
              have hw79q := hw79 (by omega)
              clear hw79
              have lp4 : ∀ (d : Nat), ∀ (H : Heap) (locs : List Loc) (ls : Array Slot) (v0_4 : Int32), ((0 : Int) ≤ v0_4.toInt ∧ v0_4.toInt ≤ 1600) → (v0_1.toInt ≤ v0_4.toInt) → (i3.toInt ≤ v0_1.toInt) → (1600 - v0_4.toInt).toNat < d → va_P (dC, dI) vwCl [(a0, .inr (12, [.int i0, .ref a1, .ref a2, .ref a3, .ref a4, .int i1, .ref a5, .int i2, .int v0_4, .int v0_1, .int i5, .int i6, .int i7, .int i8, .ref a6, .ref a7, .ref a8, .ref a9, .ref a10, .ref a11, .ref a12, .int i9, .ref a13, .int i10, .ref a14, .ref a15, .int i11, .ref a16, .ref a17, .ref a18, .ref a19, .int i12, .int i13, .int i14, .int i15, .int i16, .ref a20, .long j0, .ref a21, .ref a22, .ref a23, .ref a24])), (a4, .inl (cB, 1600, .inl xF3))] H → va_D A [(a0, .inr (12, [.int i0, .ref a1, .ref a2, .ref a3, .ref a4, .int i1, .ref a5, .int i2, .int v0_4, .int v0_1, .int i5, .int i6, .int i7, .int i8, .ref a6, .ref a7, .ref a8, .ref a9, .ref a10, .ref a11, .ref a12, .int i9, .ref a13, .int i10, .ref a14, .ref a15, .int i11, .ref a16, .ref a17, .ref a18, .ref a19, .int i12, .int i13, .int i14, .int i15, .int i16, .ref a20, .long j0, .ref a21, .ref a22, .ref a23, .ref a24])), (a4, .inl (cB, 1600, .inl xF3))] → va_S A s.heap H locs → lv_has ls 2 [(0, .ref a0), (1, .int r70)] → W p l e ({ frames := 1, cells := 0, slots := 0, locals := 25 } : Room) s m ([.ref a0] : List Value).toArray below meth c H locs 0 0 Q (F0 m 83 ls []) := by
                intro d
                induction d with
                | zero =>
                  intro H locs ls v0_4 hr_v0_4 hrl0_4 hrl1_4 hm hP hD hS hl
                  omega
                | succ d ih4 =>
                  intro H locs ls v0_4 hr_v0_4 hrl0_4 hrl1_4 hm hP hD hS hl
                  refine lv_aload_n hx hb dX12_advance_83 rfl (lv_at hl 0 rfl) ?_
                  refine lv_aload_n hx hb dX12_advance_84 rfl (lv_at hl 0 rfl) ?_
                  refine va_get (D := (dC, dI)) (ci := 12) (v := .int v0_4) (C := RX12) (T := TX12) (N := 42) hx hb hwd inlX12 hown hK hP 0 rfl rfl 8 (by decide) (hwd _ kr23_5) (fun _ h9 => h9) rfl dX12_advance_85 ?_
                  have hPc := hP.sub (ws' := [(a0, .inr (12, [.int i0, .ref a1, .ref a2, .ref a3, .ref a4, .int i1, .ref a5, .int i2, .int v0_4, .int v0_1, .int i5, .int i6, .int i7, .int i8, .ref a6, .ref a7, .ref a8, .ref a9, .ref a10, .ref a11, .ref a12, .int i9, .ref a13, .int i10, .ref a14, .ref a15, .int i11, .ref a16, .ref a17, .ref a18, .ref a19, .int i12, .int i13, .int i14, .int i15, .int i16, .ref a20, .long j0, .ref a21, .ref a22, .ref a23, .ref a24])), (a4, .inl (cB, 1600, .inl xF3))]) [0, 1] rfl
                  have hDc := hD.sub (ws' := [(a0, .inr (12, [.int i0, .ref a1, .ref a2, .ref a3, .ref a4, .int i1, .ref a5, .int i2, .int v0_4, .int v0_1, .int i5, .int i6, .int i7, .int i8, .ref a6, .ref a7, .ref a8, .ref a9, .ref a10, .ref a11, .ref a12, .int i9, .ref a13, .int i10, .ref a14, .ref a15, .int i11, .ref a16, .ref a17, .ref a18, .ref a19, .int i12, .int i13, .int i14, .int i15, .int i16, .ref a20, .long j0, .ref a21, .ref a22, .ref a23, .ref a24])), (a4, .inl (cB, 1600, .inl xF3))]) [0, 1] (by decide) rfl
                  have hFc := va_free (wc := [(a0, .inr (12, [.int i0, .ref a1, .ref a2, .ref a3, .ref a4, .int i1, .ref a5, .int i2, .int v0_4, .int v0_1, .int i5, .int i6, .int i7, .int i8, .ref a6, .ref a7, .ref a8, .ref a9, .ref a10, .ref a11, .ref a12, .int i9, .ref a13, .int i10, .ref a14, .ref a15, .int i11, .ref a16, .ref a17, .ref a18, .ref a19, .int i12, .int i13, .int i14, .int i15, .int i16, .ref a20, .long j0, .ref a21, .ref a22, .ref a23, .ref a24])), (a4, .inl (cB, 1600, .inl xF3))]) hD hS hA [0, 1] rfl
                  refine va_calli (va_runV (As := [.int v0_4]) (rest := []) ⟨hx, hb, hml, hown, hwd⟩ (s_X12_see l dC dI cI cZ cB cJ cM cG a0 a1 a2 a3 a4 a5 a6 a7 a8 a9 a10 a11 a12 a13 a14 a15 a16 a17 a18 a19 a20 a21 a22 a23 a24 i0 i1 i2 v0_4 v0_1 i5 i6 i7 i8 i9 i10 i11 i12 i13 i14 i15 i16 j0 xF3 v0_4 H.size (show (0 : Int) ≤ i1.toInt ∧ i1.toInt ≤ 1600 from ⟨by omega, by omega⟩) (show (0 : Int) ≤ i2.toInt ∧ i2.toInt ≤ 1600 from ⟨by omega, by omega⟩) (show (0 : Int) ≤ v0_4.toInt ∧ v0_4.toInt ≤ 1600 from ⟨by omega, by omega⟩) (show (0 : Int) ≤ v0_1.toInt ∧ v0_1.toInt ≤ 1600 from ⟨by omega, by omega⟩) (show (0 : Int) ≤ i5.toInt ∧ i5.toInt ≤ 6 from ⟨by omega, by omega⟩) (show (0 : Int) ≤ i11.toInt ∧ i11.toInt ≤ 59 from ⟨by omega, by omega⟩) (show (0 : Int) ≤ v0_4.toInt ∧ v0_4.toInt ≤ 1600 from ⟨by omega, by omega⟩)) (cwV 1 hwd (gV kr23_19 kr23_20 kr23_21 kr1_5 kr23_22) rfl rfl rfl (by decide +kernel) ⟨Nat.le_of_ble_eq_true rfl, Nat.le_of_ble_eq_true rfl⟩) (kPreV hPc hK hDc (ci := 12) (q0 := 0) rfl rfl) rfl rfl hl.1 rfl (lv_room (Nat.le_of_ble_eq_true rfl)) dX12_advance_88 ⟨Nat.le_of_ble_eq_true rfl, Nat.le_of_ble_eq_true rfl⟩) hS (fun q _ h => hFc q h) hFc (fun r268 u269 t H1 locs ht9 hvm hw hB hz1 hk1 hS => ?_)
                  obtain ⟨hw270, hw271, hw272, -⟩ := hw
                  have hw270 : (-1 : Int) ≤ r268.toInt ∧ r268.toInt ≤ 255 := hw270
                  have hw271 : r268.toInt = seeF xF3 i2.toInt v0_4.toInt := hw271
                  obtain ⟨hP1, hD1⟩ := hB
                  rw [ht9] at hP1
                  obtain ⟨hP, hD⟩ := va_join (wr := []) (w1 := [(a0, .inr (12, [.int i0, .ref a1, .ref a2, .ref a3, .ref a4, .int i1, .ref a5, .int i2, .int v0_4, .int v0_1, .int i5, .int i6, .int i7, .int i8, .ref a6, .ref a7, .ref a8, .ref a9, .ref a10, .ref a11, .ref a12, .int i9, .ref a13, .int i10, .ref a14, .ref a15, .int i11, .ref a16, .ref a17, .ref a18, .ref a19, .int i12, .int i13, .int i14, .int i15, .int i16, .ref a20, .long j0, .ref a21, .ref a22, .ref a23, .ref a24])), (a4, .inl (cB, 1600, .inl xF3))]) hP hD [0, 1] [] rfl rfl (by decide) (by decide) hk1 hFc hP1 hD1
                  generalize H1 = H at hP hS ⊢
                  have hP : va_P (dC, dI) vwCl [(a0, .inr (12, [.int i0, .ref a1, .ref a2, .ref a3, .ref a4, .int i1, .ref a5, .int i2, .int v0_4, .int v0_1, .int i5, .int i6, .int i7, .int i8, .ref a6, .ref a7, .ref a8, .ref a9, .ref a10, .ref a11, .ref a12, .int i9, .ref a13, .int i10, .ref a14, .ref a15, .int i11, .ref a16, .ref a17, .ref a18, .ref a19, .int i12, .int i13, .int i14, .int i15, .int i16, .ref a20, .long j0, .ref a21, .ref a22, .ref a23, .ref a24])), (a4, .inl (cB, 1600, .inl xF3))] H := hP
                  have hD : va_D A [(a0, .inr (12, [.int i0, .ref a1, .ref a2, .ref a3, .ref a4, .int i1, .ref a5, .int i2, .int v0_4, .int v0_1, .int i5, .int i6, .int i7, .int i8, .ref a6, .ref a7, .ref a8, .ref a9, .ref a10, .ref a11, .ref a12, .int i9, .ref a13, .int i10, .ref a14, .ref a15, .int i11, .ref a16, .ref a17, .ref a18, .ref a19, .int i12, .int i13, .int i14, .int i15, .int i16, .ref a20, .long j0, .ref a21, .ref a22, .ref a23, .ref a24])), (a4, .inl (cB, 1600, .inl xF3))] := hD
                  refine lv_i2l hx hb dX12_advance_91 rfl ?_
                  refine lv_ldc2 (v := 97) hx hb hown (hwd _ kr23_12) dX12_advance_92 ?_
                  refine lv_ldc2 (v := 122) hx hb hown (hwd _ kr23_13) dX12_advance_95 ?_
                  have hPc := hP.sub (ws' := []) [] rfl
                  have hDc := hD.sub (ws' := []) [] (by decide) rfl
                  have hFc := va_free (wc := []) hD hS hA [] rfl
                  refine va_calli (va_runS (As := [.long r268.toInt64, .long 97, .long 122]) (rest := []) ⟨hx, hb, hml, hown, hwd⟩ (s_X12_in l dC dI cI cZ cB cJ cM cG r268.toInt64 97 122 H.size) (cwS 3 hwd (gS kr9_10 kr9_11 kr1_5 kr9_12) rfl rfl rfl (by decide +kernel) ⟨Nat.le_of_ble_eq_true rfl, Nat.le_of_ble_eq_true rfl⟩) (kPreS hPc hK hDc) rfl rfl hl.1 rfl (lv_room (Nat.le_of_ble_eq_true rfl)) dX12_advance_98 ⟨Nat.le_of_ble_eq_true rfl, Nat.le_of_ble_eq_true rfl⟩) hS (fun q _ h => hFc q h) hFc (fun r273 u274 t H1 locs ht9 hvm hw hB hz1 hk1 hS => ?_)
                  obtain ⟨hw275, hw276, hw277, -⟩ := hw
                  have hw275 : (0 : Int) ≤ r273.toInt ∧ r273.toInt ≤ 1 := hw275
                  have hw276 : r273.toInt ≠ 0 → (97 : Int) ≤ r268.toInt ∧ r268.toInt ≤ (122 : Int) := in_int (Int32.toInt_toInt64 _) (by decide) (by decide) hw276
                  have hw277 : r273.toInt ≠ 1 → r268.toInt < (97 : Int) ∨ (122 : Int) < r268.toInt := in_int2 (Int32.toInt_toInt64 _) (by decide) (by decide) hw277
                  obtain ⟨hP1, hD1⟩ := hB
                  rw [ht9] at hP1
                  obtain ⟨hP, hD⟩ := va_join (wr := [(a0, .inr (12, [.int i0, .ref a1, .ref a2, .ref a3, .ref a4, .int i1, .ref a5, .int i2, .int v0_4, .int v0_1, .int i5, .int i6, .int i7, .int i8, .ref a6, .ref a7, .ref a8, .ref a9, .ref a10, .ref a11, .ref a12, .int i9, .ref a13, .int i10, .ref a14, .ref a15, .int i11, .ref a16, .ref a17, .ref a18, .ref a19, .int i12, .int i13, .int i14, .int i15, .int i16, .ref a20, .long j0, .ref a21, .ref a22, .ref a23, .ref a24])), (a4, .inl (cB, 1600, .inl xF3))]) (w1 := []) hP hD [] [0, 1] rfl rfl (by decide) (by decide) hk1 hFc hP1 hD1
                  generalize H1 = H at hP hS ⊢
                  have hP : va_P (dC, dI) vwCl [(a0, .inr (12, [.int i0, .ref a1, .ref a2, .ref a3, .ref a4, .int i1, .ref a5, .int i2, .int v0_4, .int v0_1, .int i5, .int i6, .int i7, .int i8, .ref a6, .ref a7, .ref a8, .ref a9, .ref a10, .ref a11, .ref a12, .int i9, .ref a13, .int i10, .ref a14, .ref a15, .int i11, .ref a16, .ref a17, .ref a18, .ref a19, .int i12, .int i13, .int i14, .int i15, .int i16, .ref a20, .long j0, .ref a21, .ref a22, .ref a23, .ref a24])), (a4, .inl (cB, 1600, .inl xF3))] H := hP
                  have hD : va_D A [(a0, .inr (12, [.int i0, .ref a1, .ref a2, .ref a3, .ref a4, .int i1, .ref a5, .int i2, .int v0_4, .int v0_1, .int i5, .int i6, .int i7, .int i8, .ref a6, .ref a7, .ref a8, .ref a9, .ref a10, .ref a11, .ref a12, .int i9, .ref a13, .int i10, .ref a14, .ref a15, .int i11, .ref a16, .ref a17, .ref a18, .ref a19, .int i12, .int i13, .int i14, .int i15, .int i16, .ref a20, .long j0, .ref a21, .ref a22, .ref a23, .ref a24])), (a4, .inl (cB, 1600, .inl xF3))] := hD
                  refine lv_if_eq (tgt := 117) hx hb dX12_advance_101 (by decide) (fun c278 => ?_) (fun c278 => ?_)
                  · rw [ki_eq] at c278
                    have hw277q := hw277 (by omega)
                    clear hw277
                    refine lv_aload_n hx hb dX12_advance_117 rfl (lv_at hl 0 rfl) ?_
                    refine lv_iconst (v := 1) hx hb dX12_advance_118 (by decide) ?_
                    refine va_put (D := (dC, dI)) (ci := 12) (v := .int 1) (ty := .int) (C := RX12) (T := TX12) (N := 42) hx hb hwd inlX12 tyX12 tyX12_ok nmX12 hown hK hP hD hS 0 rfl rfl 10 (by decide) (hwd _ kr22_23) (fun _ h9 => h9) rfl (by decide +kernel) rfl rfl (Nat.le_of_ble_eq_true rfl) dX12_advance_119 (fun H locs hP hD hS => ?_)
                    have hP : va_P (dC, dI) vwCl [(a0, .inr (12, [.int i0, .ref a1, .ref a2, .ref a3, .ref a4, .int i1, .ref a5, .int i2, .int v0_4, .int v0_1, .int 1, .int i6, .int i7, .int i8, .ref a6, .ref a7, .ref a8, .ref a9, .ref a10, .ref a11, .ref a12, .int i9, .ref a13, .int i10, .ref a14, .ref a15, .int i11, .ref a16, .ref a17, .ref a18, .ref a19, .int i12, .int i13, .int i14, .int i15, .int i16, .ref a20, .long j0, .ref a21, .ref a22, .ref a23, .ref a24])), (a4, .inl (cB, 1600, .inl xF3))] H := hP
                    have hD : va_D A [(a0, .inr (12, [.int i0, .ref a1, .ref a2, .ref a3, .ref a4, .int i1, .ref a5, .int i2, .int v0_4, .int v0_1, .int 1, .int i6, .int i7, .int i8, .ref a6, .ref a7, .ref a8, .ref a9, .ref a10, .ref a11, .ref a12, .int i9, .ref a13, .int i10, .ref a14, .ref a15, .int i11, .ref a16, .ref a17, .ref a18, .ref a19, .int i12, .int i13, .int i14, .int i15, .int i16, .ref a20, .long j0, .ref a21, .ref a22, .ref a23, .ref a24])), (a4, .inl (cB, 1600, .inl xF3))] := hD
                    refine lv_goto (tgt := 260) hx hb dX12_advance_122 (by decide) ?_
                    have hP9 := hP.sub (ws' := [(a0, .inr (12, [.int i0, .ref a1, .ref a2, .ref a3, .ref a4, .int i1, .ref a5, .int i2, .int v0_4, .int v0_1, .int 1, .int i6, .int i7, .int i8, .ref a6, .ref a7, .ref a8, .ref a9, .ref a10, .ref a11, .ref a12, .int i9, .ref a13, .int i10, .ref a14, .ref a15, .int i11, .ref a16, .ref a17, .ref a18, .ref a19, .int i12, .int i13, .int i14, .int i15, .int i16, .ref a20, .long j0, .ref a21, .ref a22, .ref a23, .ref a24])), (a4, .inl (cB, 1600, .inl xF3))]) [0, 1] rfl
                    have hD9 := hD.sub (ws' := [(a0, .inr (12, [.int i0, .ref a1, .ref a2, .ref a3, .ref a4, .int i1, .ref a5, .int i2, .int v0_4, .int v0_1, .int 1, .int i6, .int i7, .int i8, .ref a6, .ref a7, .ref a8, .ref a9, .ref a10, .ref a11, .ref a12, .int i9, .ref a13, .int i10, .ref a14, .ref a15, .int i11, .ref a16, .ref a17, .ref a18, .ref a19, .int i12, .int i13, .int i14, .int i15, .int i16, .ref a20, .long j0, .ref a21, .ref a22, .ref a23, .ref a24])), (a4, .inl (cB, 1600, .inl xF3))]) [0, 1] (by decide) rfl
                    rw [hQ]
                    exact W.vret hx hb hr (fun t ht hW => ⟨⟨(pickG 0 [v0_4, v0_1, 1, i6], pickG (fun _ => 0) [], pickG (fun _ => 0) []), rfl, ⟨(show (0 : Int) ≤ v0_4.toInt ∧ v0_4.toInt ≤ 1600 from ⟨by omega, by omega⟩), (show (0 : Int) ≤ v0_1.toInt ∧ v0_1.toInt ≤ 1600 from ⟨by omega, by omega⟩), (show (0 : Int) ≤ (1 : Int32).toInt ∧ (1 : Int32).toInt ≤ 6 from ⟨by omega, by omega⟩), (show i3.toInt ≤ v0_1.toInt from by omega), (show v0_1.toInt ≤ v0_4.toInt ∧ (2 ≤ (1 : Int32).toInt → v0_1.toInt + 1 ≤ v0_4.toInt) from by omega), trivial⟩, (by rw [ht]; exact hP9), hD9⟩, hS.F ht⟩) hS.2.2 dX12_advance_260
                  · rw [ki_eq] at c278
                    have hw276q := hw276 (by omega)
                    clear hw276
                    have hw272q := hw272 (by omega)
                    clear hw272
                    refine lv_aload_n hx hb dX12_advance_104 rfl (lv_at hl 0 rfl) ?_
                    refine lv_dup hx hb dX12_advance_105 rfl ?_
                    refine va_get (D := (dC, dI)) (ci := 12) (v := .int v0_4) (C := RX12) (T := TX12) (N := 42) hx hb hwd inlX12 hown hK hP 0 rfl rfl 8 (by decide) (hwd _ kr23_5) (fun _ h9 => h9) rfl dX12_advance_106 ?_
                    refine lv_iconst (v := 1) hx hb dX12_advance_109 (by decide) ?_
                    refine lv_iadd hx hb dX12_advance_110 ?_
                    refine lv_topi (fun x279 ex279 => ?_)
                    have tx279 := ia_add (a := v0_4) (b := (1 : Int32)) (by omega) (by omega)
                    rw [← ex279] at tx279
                    refine va_put (D := (dC, dI)) (ci := 12) (v := .int x279) (ty := .int) (C := RX12) (T := TX12) (N := 42) hx hb hwd inlX12 tyX12 tyX12_ok nmX12 hown hK hP hD hS 0 rfl rfl 8 (by decide) (hwd _ kr23_5) (fun _ h9 => h9) rfl (by decide +kernel) rfl rfl (Nat.le_of_ble_eq_true rfl) dX12_advance_111 (fun H locs hP hD hS => ?_)
                    have hP : va_P (dC, dI) vwCl [(a0, .inr (12, [.int i0, .ref a1, .ref a2, .ref a3, .ref a4, .int i1, .ref a5, .int i2, .int x279, .int v0_1, .int i5, .int i6, .int i7, .int i8, .ref a6, .ref a7, .ref a8, .ref a9, .ref a10, .ref a11, .ref a12, .int i9, .ref a13, .int i10, .ref a14, .ref a15, .int i11, .ref a16, .ref a17, .ref a18, .ref a19, .int i12, .int i13, .int i14, .int i15, .int i16, .ref a20, .long j0, .ref a21, .ref a22, .ref a23, .ref a24])), (a4, .inl (cB, 1600, .inl xF3))] H := hP
                    have hD : va_D A [(a0, .inr (12, [.int i0, .ref a1, .ref a2, .ref a3, .ref a4, .int i1, .ref a5, .int i2, .int x279, .int v0_1, .int i5, .int i6, .int i7, .int i8, .ref a6, .ref a7, .ref a8, .ref a9, .ref a10, .ref a11, .ref a12, .int i9, .ref a13, .int i10, .ref a14, .ref a15, .int i11, .ref a16, .ref a17, .ref a18, .ref a19, .int i12, .int i13, .int i14, .int i15, .int i16, .ref a20, .long j0, .ref a21, .ref a22, .ref a23, .ref a24])), (a4, .inl (cB, 1600, .inl xF3))] := hD
                    refine lv_goto (tgt := 83) hx hb dX12_advance_114 (by decide) ?_
                    exact ih4 _ _ ls x279 (show (0 : Int) ≤ x279.toInt ∧ x279.toInt ≤ 1600 from ⟨by omega, by omega⟩) (show v0_1.toInt ≤ x279.toInt from by omega) (show i3.toInt ≤ v0_1.toInt from by omega) (by omega) (hP.sub (ws' := [(a0, .inr (12, [.int i0, .ref a1, .ref a2, .ref a3, .ref a4, .int i1, .ref a5, .int i2, .int x279, .int v0_1, .int i5, .int i6, .int i7, .int i8, .ref a6, .ref a7, .ref a8, .ref a9, .ref a10, .ref a11, .ref a12, .int i9, .ref a13, .int i10, .ref a14, .ref a15, .int i11, .ref a16, .ref a17, .ref a18, .ref a19, .int i12, .int i13, .int i14, .int i15, .int i16, .ref a20, .long j0, .ref a21, .ref a22, .ref a23, .ref a24])), (a4, .inl (cB, 1600, .inl xF3))]) [0, 1] rfl) (hD.sub (ws' := [(a0, .inr (12, [.int i0, .ref a1, .ref a2, .ref a3, .ref a4, .int i1, .ref a5, .int i2, .int x279, .int v0_1, .int i5, .int i6, .int i7, .int i8, .ref a6, .ref a7, .ref a8, .ref a9, .ref a10, .ref a11, .ref a12, .int i9, .ref a13, .int i10, .ref a14, .ref a15, .int i11, .ref a16, .ref a17, .ref a18, .ref a19, .int i12, .int i13, .int i14, .int i15, .int i16, .ref a20, .long j0, .ref a21, .ref a22, .ref a23, .ref a24])), (a4, .inl (cB, 1600, .inl xF3))]) [0, 1] (by decide) rfl) hS (lv_sub hl [0, 1] rfl)
              exact lp4 _ _ _ ls v0_1 (show (0 : Int) ≤ v0_1.toInt ∧ v0_1.toInt ≤ 1600 from ⟨by omega, by omega⟩) (show v0_1.toInt ≤ v0_1.toInt from by omega) (show i3.toInt ≤ v0_1.toInt from by omega) (Nat.lt_succ_self _) (hP.sub (ws' := [(a0, .inr (12, [.int i0, .ref a1, .ref a2, .ref a3, .ref a4, .int i1, .ref a5, .int i2, .int v0_1, .int v0_1, .int i5, .int i6, .int i7, .int i8, .ref a6, .ref a7, .ref a8, .ref a9, .ref a10, .ref a11, .ref a12, .int i9, .ref a13, .int i10, .ref a14, .ref a15, .int i11, .ref a16, .ref a17, .ref a18, .ref a19, .int i12, .int i13, .int i14, .int i15, .int i16, .ref a20, .long j0, .ref a21, .ref a22, .ref a23, .ref a24])), (a4, .inl (cB, 1600, .inl xF3))]) [0, 1] rfl) (hD.sub (ws' := [(a0, .inr (12, [.int i0, .ref a1, .ref a2, .ref a3, .ref a4, .int i1, .ref a5, .int i2, .int v0_1, .int v0_1, .int i5, .int i6, .int i7, .int i8, .ref a6, .ref a7, .ref a8, .ref a9, .ref a10, .ref a11, .ref a12, .int i9, .ref a13, .int i10, .ref a14, .ref a15, .int i11, .ref a16, .ref a17, .ref a18, .ref a19, .int i12, .int i13, .int i14, .int i15, .int i16, .ref a20, .long j0, .ref a21, .ref a22, .ref a23, .ref a24])), (a4, .inl (cB, 1600, .inl xF3))]) [0, 1] (by decide) rfl) hS (lv_sub hl [1, 0] rfl)
          · rw [ki_eq] at c75
            refine lv_aload_n hx hb dX12_advance_61 rfl (lv_at hl 1 rfl) ?_
            refine lv_iconst (v := 0) hx hb dX12_advance_62 (by decide) ?_
            refine va_put (D := (dC, dI)) (ci := 12) (v := .int 0) (ty := .int) (C := RX12) (T := TX12) (N := 42) hx hb hwd inlX12 tyX12 tyX12_ok nmX12 hown hK hP hD hS 0 rfl rfl 10 (by decide) (hwd _ kr22_23) (fun _ h9 => h9) rfl (by decide +kernel) rfl rfl (Nat.le_of_ble_eq_true rfl) dX12_advance_63 (fun H locs hP hD hS => ?_)
            have hP : va_P (dC, dI) vwCl [(a0, .inr (12, [.int i0, .ref a1, .ref a2, .ref a3, .ref a4, .int i1, .ref a5, .int i2, .int v0_1, .int v0_1, .int 0, .int i6, .int i7, .int i8, .ref a6, .ref a7, .ref a8, .ref a9, .ref a10, .ref a11, .ref a12, .int i9, .ref a13, .int i10, .ref a14, .ref a15, .int i11, .ref a16, .ref a17, .ref a18, .ref a19, .int i12, .int i13, .int i14, .int i15, .int i16, .ref a20, .long j0, .ref a21, .ref a22, .ref a23, .ref a24])), (a4, .inl (cB, 1600, .inl xF3))] H := hP
            have hD : va_D A [(a0, .inr (12, [.int i0, .ref a1, .ref a2, .ref a3, .ref a4, .int i1, .ref a5, .int i2, .int v0_1, .int v0_1, .int 0, .int i6, .int i7, .int i8, .ref a6, .ref a7, .ref a8, .ref a9, .ref a10, .ref a11, .ref a12, .int i9, .ref a13, .int i10, .ref a14, .ref a15, .int i11, .ref a16, .ref a17, .ref a18, .ref a19, .int i12, .int i13, .int i14, .int i15, .int i16, .ref a20, .long j0, .ref a21, .ref a22, .ref a23, .ref a24])), (a4, .inl (cB, 1600, .inl xF3))] := hD
            refine lv_goto (tgt := 260) hx hb dX12_advance_66 (by decide) ?_
            have hP9 := hP.sub (ws' := [(a0, .inr (12, [.int i0, .ref a1, .ref a2, .ref a3, .ref a4, .int i1, .ref a5, .int i2, .int v0_1, .int v0_1, .int 0, .int i6, .int i7, .int i8, .ref a6, .ref a7, .ref a8, .ref a9, .ref a10, .ref a11, .ref a12, .int i9, .ref a13, .int i10, .ref a14, .ref a15, .int i11, .ref a16, .ref a17, .ref a18, .ref a19, .int i12, .int i13, .int i14, .int i15, .int i16, .ref a20, .long j0, .ref a21, .ref a22, .ref a23, .ref a24])), (a4, .inl (cB, 1600, .inl xF3))]) [0, 1] rfl
            have hD9 := hD.sub (ws' := [(a0, .inr (12, [.int i0, .ref a1, .ref a2, .ref a3, .ref a4, .int i1, .ref a5, .int i2, .int v0_1, .int v0_1, .int 0, .int i6, .int i7, .int i8, .ref a6, .ref a7, .ref a8, .ref a9, .ref a10, .ref a11, .ref a12, .int i9, .ref a13, .int i10, .ref a14, .ref a15, .int i11, .ref a16, .ref a17, .ref a18, .ref a19, .int i12, .int i13, .int i14, .int i15, .int i16, .ref a20, .long j0, .ref a21, .ref a22, .ref a23, .ref a24])), (a4, .inl (cB, 1600, .inl xF3))]) [0, 1] (by decide) rfl
            rw [hQ]
            exact W.vret hx hb hr (fun t ht hW => ⟨⟨(pickG 0 [v0_1, v0_1, 0, i6], pickG (fun _ => 0) [], pickG (fun _ => 0) []), rfl, ⟨(show (0 : Int) ≤ v0_1.toInt ∧ v0_1.toInt ≤ 1600 from ⟨by omega, by omega⟩), (show (0 : Int) ≤ v0_1.toInt ∧ v0_1.toInt ≤ 1600 from ⟨by omega, by omega⟩), (show (0 : Int) ≤ (0 : Int32).toInt ∧ (0 : Int32).toInt ≤ 6 from ⟨by omega, by omega⟩), (show i3.toInt ≤ v0_1.toInt from by omega), (show v0_1.toInt ≤ v0_1.toInt ∧ (2 ≤ (0 : Int32).toInt → v0_1.toInt + 1 ≤ v0_1.toInt) from by omega), trivial⟩, (by rw [ht]; exact hP9), hD9⟩, hS.F ht⟩) hS.2.2 dX12_advance_260
        · rw [ki_eq] at c69
          have hw68q := hw68 (by omega)
          clear hw68
          refine lv_aload_n hx hb dX12_advance_26 rfl (lv_at hl 0 rfl) ?_
          refine lv_dup hx hb dX12_advance_27 rfl ?_
          refine va_get (D := (dC, dI)) (ci := 12) (v := .int v0_1) (C := RX12) (T := TX12) (N := 42) hx hb hwd inlX12 hown hK hP 0 rfl rfl 8 (by decide) (hwd _ kr23_5) (fun _ h9 => h9) rfl dX12_advance_28 ?_
          refine lv_iconst (v := 1) hx hb dX12_advance_31 (by decide) ?_
          refine lv_iadd hx hb dX12_advance_32 ?_
          refine lv_topi (fun x280 ex280 => ?_)
          have tx280 := ia_add (a := v0_1) (b := (1 : Int32)) (by omega) (by omega)
          rw [← ex280] at tx280
          refine va_put (D := (dC, dI)) (ci := 12) (v := .int x280) (ty := .int) (C := RX12) (T := TX12) (N := 42) hx hb hwd inlX12 tyX12 tyX12_ok nmX12 hown hK hP hD hS 0 rfl rfl 8 (by decide) (hwd _ kr23_5) (fun _ h9 => h9) rfl (by decide +kernel) rfl rfl (Nat.le_of_ble_eq_true rfl) dX12_advance_33 (fun H locs hP hD hS => ?_)
          have hP : va_P (dC, dI) vwCl [(a0, .inr (12, [.int i0, .ref a1, .ref a2, .ref a3, .ref a4, .int i1, .ref a5, .int i2, .int x280, .int i4, .int i5, .int i6, .int i7, .int i8, .ref a6, .ref a7, .ref a8, .ref a9, .ref a10, .ref a11, .ref a12, .int i9, .ref a13, .int i10, .ref a14, .ref a15, .int i11, .ref a16, .ref a17, .ref a18, .ref a19, .int i12, .int i13, .int i14, .int i15, .int i16, .ref a20, .long j0, .ref a21, .ref a22, .ref a23, .ref a24])), (a4, .inl (cB, 1600, .inl xF3))] H := hP
          have hD : va_D A [(a0, .inr (12, [.int i0, .ref a1, .ref a2, .ref a3, .ref a4, .int i1, .ref a5, .int i2, .int x280, .int i4, .int i5, .int i6, .int i7, .int i8, .ref a6, .ref a7, .ref a8, .ref a9, .ref a10, .ref a11, .ref a12, .int i9, .ref a13, .int i10, .ref a14, .ref a15, .int i11, .ref a16, .ref a17, .ref a18, .ref a19, .int i12, .int i13, .int i14, .int i15, .int i16, .ref a20, .long j0, .ref a21, .ref a22, .ref a23, .ref a24])), (a4, .inl (cB, 1600, .inl xF3))] := hD
          refine lv_goto (tgt := 0) hx hb dX12_advance_36 (by decide) ?_
          exact ih1 _ _ ls x280 (show (0 : Int) ≤ x280.toInt ∧ x280.toInt ≤ 1600 from ⟨by omega, by omega⟩) (show i3.toInt ≤ x280.toInt from by omega) (by omega) (hP.sub (ws' := [(a0, .inr (12, [.int i0, .ref a1, .ref a2, .ref a3, .ref a4, .int i1, .ref a5, .int i2, .int x280, .int i4, .int i5, .int i6, .int i7, .int i8, .ref a6, .ref a7, .ref a8, .ref a9, .ref a10, .ref a11, .ref a12, .int i9, .ref a13, .int i10, .ref a14, .ref a15, .int i11, .ref a16, .ref a17, .ref a18, .ref a19, .int i12, .int i13, .int i14, .int i15, .int i16, .ref a20, .long j0, .ref a21, .ref a22, .ref a23, .ref a24])), (a4, .inl (cB, 1600, .inl xF3))]) [0, 1] rfl) (hD.sub (ws' := [(a0, .inr (12, [.int i0, .ref a1, .ref a2, .ref a3, .ref a4, .int i1, .ref a5, .int i2, .int x280, .int i4, .int i5, .int i6, .int i7, .int i8, .ref a6, .ref a7, .ref a8, .ref a9, .ref a10, .ref a11, .ref a12, .int i9, .ref a13, .int i10, .ref a14, .ref a15, .int i11, .ref a16, .ref a17, .ref a18, .ref a19, .int i12, .int i13, .int i14, .int i15, .int i16, .ref a20, .long j0, .ref a21, .ref a22, .ref a23, .ref a24])), (a4, .inl (cB, 1600, .inl xF3))]) [0, 1] (by decide) rfl) hS (lv_sub hl [0] rfl)
  exact lp1 _ _ _ ls i3 (show (0 : Int) ≤ i3.toInt ∧ i3.toInt ≤ 1600 from ⟨by omega, by omega⟩) (show i3.toInt ≤ i3.toInt from by omega) (Nat.lt_succ_self _) (hP.sub (ws' := [(a0, .inr (12, [.int i0, .ref a1, .ref a2, .ref a3, .ref a4, .int i1, .ref a5, .int i2, .int i3, .int i4, .int i5, .int i6, .int i7, .int i8, .ref a6, .ref a7, .ref a8, .ref a9, .ref a10, .ref a11, .ref a12, .int i9, .ref a13, .int i10, .ref a14, .ref a15, .int i11, .ref a16, .ref a17, .ref a18, .ref a19, .int i12, .int i13, .int i14, .int i15, .int i16, .ref a20, .long j0, .ref a21, .ref a22, .ref a23, .ref a24])), (a4, .inl (cB, 1600, .inl xF3))]) [0, 1] rfl) (hD.sub (ws' := [(a0, .inr (12, [.int i0, .ref a1, .ref a2, .ref a3, .ref a4, .int i1, .ref a5, .int i2, .int i3, .int i4, .int i5, .int i6, .int i7, .int i8, .ref a6, .ref a7, .ref a8, .ref a9, .ref a10, .ref a11, .ref a12, .int i9, .ref a13, .int i10, .ref a14, .ref a15, .int i11, .ref a16, .ref a17, .ref a18, .ref a19, .int i12, .int i13, .int i14, .int i15, .int i16, .ref a20, .long j0, .ref a21, .ref a22, .ref a23, .ref a24])), (a4, .inl (cB, 1600, .inl xF3))]) [0, 1] (by decide) rfl) hS (lv_sub hl [0] rfl)
