theorem dX12_write_0 : decode cX12_write 0 = .ok (.iload_n 1, 1) := by decide +kernel
theorem dX12_write_1 : decode cX12_write 1 = .ok (.invokestatic 414, 3) := by decide +kernel
theorem dX12_write_4 : decode cX12_write 4 = .ok (.ifCond .ne 6, 3) := by decide +kernel
theorem dX12_write_7 : decode cX12_write 7 = .ok (.bipush (-2), 2) := by decide +kernel
theorem dX12_write_9 : decode cX12_write 9 = .ok (.ireturn, 1) := by decide +kernel
theorem dX12_write_10 : decode cX12_write 10 = .ok (.aload_n 0, 1) := by decide +kernel
theorem dX12_write_11 : decode cX12_write 11 = .ok (.getfield 79, 3) := by decide +kernel
theorem dX12_write_14 : decode cX12_write 14 = .ok (.iload_n 1, 1) := by decide +kernel
theorem dX12_write_15 : decode cX12_write 15 = .ok (.iaload, 1) := by decide +kernel
theorem dX12_write_16 : decode cX12_write 16 = .ok (.iconst (-1), 1) := by decide +kernel
theorem dX12_write_17 : decode cX12_write 17 = .ok (.if_icmp .ne 6, 3) := by decide +kernel
theorem dX12_write_20 : decode cX12_write 20 = .ok (.bipush (-6), 2) := by decide +kernel
theorem dX12_write_22 : decode cX12_write 22 = .ok (.ireturn, 1) := by decide +kernel
theorem dX12_write_23 : decode cX12_write 23 = .ok (.iload_n 2, 1) := by decide +kernel
theorem dX12_write_24 : decode cX12_write 24 = .ok (.i2l, 1) := by decide +kernel
theorem dX12_write_25 : decode cX12_write 25 = .ok (.lconst 0, 1) := by decide +kernel
theorem dX12_write_26 : decode cX12_write 26 = .ok (.aload_n 0, 1) := by decide +kernel
theorem dX12_write_27 : decode cX12_write 27 = .ok (.getfield 79, 3) := by decide +kernel
theorem dX12_write_30 : decode cX12_write 30 = .ok (.iload_n 1, 1) := by decide +kernel
theorem dX12_write_31 : decode cX12_write 31 = .ok (.iaload, 1) := by decide +kernel
theorem dX12_write_32 : decode cX12_write 32 = .ok (.iconst 1, 1) := by decide +kernel
theorem dX12_write_33 : decode cX12_write 33 = .ok (.isub, 1) := by decide +kernel
theorem dX12_write_34 : decode cX12_write 34 = .ok (.i2l, 1) := by decide +kernel
theorem dX12_write_35 : decode cX12_write 35 = .ok (.invokestatic 98, 3) := by decide +kernel
theorem dX12_write_38 : decode cX12_write 38 = .ok (.ifCond .ne 6, 3) := by decide +kernel
theorem dX12_write_41 : decode cX12_write 41 = .ok (.bipush (-7), 2) := by decide +kernel
theorem dX12_write_43 : decode cX12_write 43 = .ok (.ireturn, 1) := by decide +kernel
theorem dX12_write_44 : decode cX12_write 44 = .ok (.aload_n 0, 1) := by decide +kernel
theorem dX12_write_45 : decode cX12_write 45 = .ok (.getfield 85, 3) := by decide +kernel
theorem dX12_write_48 : decode cX12_write 48 = .ok (.bipush 60, 2) := by decide +kernel
theorem dX12_write_50 : decode cX12_write 50 = .ok (.iload_n 1, 1) := by decide +kernel
theorem dX12_write_51 : decode cX12_write 51 = .ok (.imul, 1) := by decide +kernel
theorem dX12_write_52 : decode cX12_write 52 = .ok (.iload_n 2, 1) := by decide +kernel
theorem dX12_write_53 : decode cX12_write 53 = .ok (.iadd, 1) := by decide +kernel
theorem dX12_write_54 : decode cX12_write 54 = .ok (.lload_n 3, 1) := by decide +kernel
theorem dX12_write_55 : decode cX12_write 55 = .ok (.aload_n 0, 1) := by decide +kernel
theorem dX12_write_56 : decode cX12_write 56 = .ok (.getfield 82, 3) := by decide +kernel
theorem dX12_write_59 : decode cX12_write 59 = .ok (.iload_n 1, 1) := by decide +kernel
theorem dX12_write_60 : decode cX12_write 60 = .ok (.iaload, 1) := by decide +kernel
theorem dX12_write_61 : decode cX12_write 61 = .ok (.invokestatic 491, 3) := by decide +kernel
theorem dX12_write_64 : decode cX12_write 64 = .ok (.lastore, 1) := by decide +kernel
theorem dX12_write_65 : decode cX12_write 65 = .ok (.iconst 0, 1) := by decide +kernel
theorem dX12_write_66 : decode cX12_write 66 = .ok (.ireturn, 1) := by decide +kernel
set_option maxHeartbeats 4000000 in
set_option maxRecDepth 100000 in
theorem s_X12_write (l : Launch) (dC : Nat → ClassId) (dI : Nat → Nat → Nat) (cI cZ cB cJ cM cG : ClassId) (a0 a1 a2 a3 a4 a5 a6 a7 a8 a9 a10 a11 a12 a13 a14 a15 a16 a17 a18 a19 a20 a21 a22 a23 a24 : Nat) (i0 i1 i2 i3 i4 i5 i6 i7 i8 i9 i10 i11 i12 i13 i14 i15 i16 : Int32) (j0 : Int64) (xF20 xF21 : Nat → Int32) (xG22 : Nat → Int64) (p0 p1 : Int32) (y2 : Int64) (sz : Nat) (p_0 : (0 : Int) ≤ i1.toInt ∧ i1.toInt ≤ 1600) (p_1 : (0 : Int) ≤ i2.toInt ∧ i2.toInt ≤ 1600) (p_2 : (0 : Int) ≤ i3.toInt ∧ i3.toInt ≤ 1600) (p_3 : (0 : Int) ≤ i4.toInt ∧ i4.toInt ≤ 1600) (p_4 : (0 : Int) ≤ i5.toInt ∧ i5.toInt ≤ 6) (p_5 : (0 : Int) ≤ i11.toInt ∧ i11.toInt ≤ 59) (p_6 : rng xF20 4 (-1) 60) (p_7 : MI xF20) (p_8 : rng xF21 4 0 3) : Met l yX12_write (kw yX12_write cX12_write 5 (some .int)) ({ frames := 2, cells := 0, slots := 0, locals := 45 } : Room) (va_Pc [.ref a0, .int p0, .int p1, .long y2] (kPre dC dI [(cI, .int), (cZ, .boolean), (cB, .byte), (cJ, .long), (cM, .object RX2), (cG, .array .int)] [(a0, .inr (12, [.int i0, .ref a1, .ref a2, .ref a3, .ref a4, .int i1, .ref a5, .int i2, .int i3, .int i4, .int i5, .int i6, .int i7, .int i8, .ref a6, .ref a7, .ref a8, .ref a9, .ref a10, .ref a11, .ref a12, .int i9, .ref a13, .int i10, .ref a14, .ref a15, .int i11, .ref a16, .ref a17, .ref a18, .ref a19, .int i12, .int i13, .int i14, .int i15, .int i16, .ref a20, .long j0, .ref a21, .ref a22, .ref a23, .ref a24])), (a21, .inl (cI, 4, .inl xF20)), (a22, .inl (cI, 4, .inl xF21)), (a23, .inl (cJ, 240, .inr (.inl xG22)))] sz)) (va_Qi (fun (r : Int32) (u9 : (Nat → Int32) × (Nat → Nat → Int32) × (Nat → Nat → Int64)) => ((-7 : Int) ≤ r.toInt ∧ r.toInt ≤ 0) ∧ True) (fun u9 t => va_P (dC, dI) vwCl [(a0, .inr (12, [.int i0, .ref a1, .ref a2, .ref a3, .ref a4, .int i1, .ref a5, .int i2, .int i3, .int i4, .int i5, .int i6, .int i7, .int i8, .ref a6, .ref a7, .ref a8, .ref a9, .ref a10, .ref a11, .ref a12, .int i9, .ref a13, .int i10, .ref a14, .ref a15, .int i11, .ref a16, .ref a17, .ref a18, .ref a19, .int i12, .int i13, .int i14, .int i15, .int i16, .ref a20, .long j0, .ref a21, .ref a22, .ref a23, .ref a24])), (a21, .inl (cI, 4, .inl xF20)), (a22, .inl (cI, 4, .inl xF21)), (a23, .inl (cJ, 240, .inr (.inl (u9.2.2 0))))] t.heap ∧ va_D (va_A [(a0, .inr (12, [.int i0, .ref a1, .ref a2, .ref a3, .ref a4, .int i1, .ref a5, .int i2, .int i3, .int i4, .int i5, .int i6, .int i7, .int i8, .ref a6, .ref a7, .ref a8, .ref a9, .ref a10, .ref a11, .ref a12, .int i9, .ref a13, .int i10, .ref a14, .ref a15, .int i11, .ref a16, .ref a17, .ref a18, .ref a19, .int i12, .int i13, .int i14, .int i15, .int i16, .ref a20, .long j0, .ref a21, .ref a22, .ref a23, .ref a24])), (a21, .inl (cI, 4, .inl xF20)), (a22, .inl (cI, 4, .inl xF21)), (a23, .inl (cJ, 240, .inr (.inl xG22)))] sz) [(a0, .inr (12, [.int i0, .ref a1, .ref a2, .ref a3, .ref a4, .int i1, .ref a5, .int i2, .int i3, .int i4, .int i5, .int i6, .int i7, .int i8, .ref a6, .ref a7, .ref a8, .ref a9, .ref a10, .ref a11, .ref a12, .int i9, .ref a13, .int i10, .ref a14, .ref a15, .int i11, .ref a16, .ref a17, .ref a18, .ref a19, .int i12, .int i13, .int i14, .int i15, .int i16, .ref a20, .long j0, .ref a21, .ref a22, .ref a23, .ref a24])), (a21, .inl (cI, 4, .inl xF20)), (a22, .inl (cI, 4, .inl xF21)), (a23, .inl (cJ, 240, .inr (.inl (u9.2.2 0))))]) (va_A [(a0, .inr (12, [.int i0, .ref a1, .ref a2, .ref a3, .ref a4, .int i1, .ref a5, .int i2, .int i3, .int i4, .int i5, .int i6, .int i7, .int i8, .ref a6, .ref a7, .ref a8, .ref a9, .ref a10, .ref a11, .ref a12, .int i9, .ref a13, .int i10, .ref a14, .ref a15, .int i11, .ref a16, .ref a17, .ref a18, .ref a19, .int i12, .int i13, .int i14, .int i15, .int i16, .ref a20, .long j0, .ref a21, .ref a22, .ref a23, .ref a24])), (a21, .inl (cI, 4, .inl xF20)), (a22, .inl (cI, 4, .inl xF21)), (a23, .inl (cJ, 240, .inr (.inl xG22)))] sz)) 0 0 (va_A [(a0, .inr (12, [.int i0, .ref a1, .ref a2, .ref a3, .ref a4, .int i1, .ref a5, .int i2, .int i3, .int i4, .int i5, .int i6, .int i7, .int i8, .ref a6, .ref a7, .ref a8, .ref a9, .ref a10, .ref a11, .ref a12, .int i9, .ref a13, .int i10, .ref a14, .ref a15, .int i11, .ref a16, .ref a17, .ref a18, .ref a19, .int i12, .int i13, .int i14, .int i15, .int i16, .ref a20, .long j0, .ref a21, .ref a22, .ref a23, .ref a24])), (a21, .inl (cI, 4, .inl xF20)), (a22, .inl (cI, 4, .inl xF21)), (a23, .inl (cJ, 240, .inr (.inl xG22)))] sz) := by
  refine kEnter (by decide) (Nat.le_of_ble_eq_true rfl) ?_
  intro p e s m below meth c ls hx hb hr hml hown hlocks hin hwd hsz hP hK hD hl
  subst hsz
  generalize hAe : va_A [(a0, .inr (12, [.int i0, .ref a1, .ref a2, .ref a3, .ref a4, .int i1, .ref a5, .int i2, .int i3, .int i4, .int i5, .int i6, .int i7, .int i8, .ref a6, .ref a7, .ref a8, .ref a9, .ref a10, .ref a11, .ref a12, .int i9, .ref a13, .int i10, .ref a14, .ref a15, .int i11, .ref a16, .ref a17, .ref a18, .ref a19, .int i12, .int i13, .int i14, .int i15, .int i16, .ref a20, .long j0, .ref a21, .ref a22, .ref a23, .ref a24])), (a21, .inl (cI, 4, .inl xF20)), (a22, .inl (cI, 4, .inl xF21)), (a23, .inl (cJ, 240, .inr (.inl xG22)))] s.heap.size = A at hD ⊢
  have hA : ∀ q : Nat, s.heap.size ≤ q → A q := fun q h => by rw [← hAe]; exact Or.inr h
  have hS : va_S A s.heap s.heap [] := va_S.rf
  have hl : lv_has ls 5 [(0, .ref a0), (1, .int p0), (2, .int p1), (3, .long y2)] := hl
  obtain ⟨Q, hQ⟩ : ∃ Q, Q = MQ below (va_Qi (fun (r : Int32) (u9 : (Nat → Int32) × (Nat → Nat → Int32) × (Nat → Nat → Int64)) => ((-7 : Int) ≤ r.toInt ∧ r.toInt ≤ 0) ∧ True) (fun u9 t => va_P (dC, dI) vwCl [(a0, .inr (12, [.int i0, .ref a1, .ref a2, .ref a3, .ref a4, .int i1, .ref a5, .int i2, .int i3, .int i4, .int i5, .int i6, .int i7, .int i8, .ref a6, .ref a7, .ref a8, .ref a9, .ref a10, .ref a11, .ref a12, .int i9, .ref a13, .int i10, .ref a14, .ref a15, .int i11, .ref a16, .ref a17, .ref a18, .ref a19, .int i12, .int i13, .int i14, .int i15, .int i16, .ref a20, .long j0, .ref a21, .ref a22, .ref a23, .ref a24])), (a21, .inl (cI, 4, .inl xF20)), (a22, .inl (cI, 4, .inl xF21)), (a23, .inl (cJ, 240, .inr (.inl (u9.2.2 0))))] t.heap ∧ va_D A [(a0, .inr (12, [.int i0, .ref a1, .ref a2, .ref a3, .ref a4, .int i1, .ref a5, .int i2, .int i3, .int i4, .int i5, .int i6, .int i7, .int i8, .ref a6, .ref a7, .ref a8, .ref a9, .ref a10, .ref a11, .ref a12, .int i9, .ref a13, .int i10, .ref a14, .ref a15, .int i11, .ref a16, .ref a17, .ref a18, .ref a19, .int i12, .int i13, .int i14, .int i15, .int i16, .ref a20, .long j0, .ref a21, .ref a22, .ref a23, .ref a24])), (a21, .inl (cI, 4, .inl xF20)), (a22, .inl (cI, 4, .inl xF21)), (a23, .inl (cJ, 240, .inr (.inl (u9.2.2 0))))]) A) ([.ref a0, .int p0, .int p1, .long y2] : List Value).toArray s 0 0 A := ⟨_, rfl⟩
  rw [← hQ]
  have km7 : ((-7) : Int32).toInt = -7 := by decide
  have km6 : ((-6) : Int32).toInt = -6 := by decide
  have km2 : ((-2) : Int32).toInt = -2 := by decide
  have km1 : ((-1) : Int32).toInt = -1 := by decide
  have k0 : (0 : Int32).toInt = 0 := by decide
  have k1 : (1 : Int32).toInt = 1 := by decide
  have k3 : (3 : Int32).toInt = 3 := by decide
  have k60 : (60 : Int32).toInt = 60 := by decide
  refine lv_iload_n hx hb dX12_write_0 rfl (lv_at hl 1 rfl) ?_
  have hPc := hP.sub (ws' := []) [] rfl
  have hDc := hD.sub (ws' := []) [] (by decide) rfl
  have hFc := va_free (wc := []) hD hS hA [] rfl
  refine va_calli (va_runS (As := [.int p0]) (rest := []) ⟨hx, hb, hml, hown, hwd⟩ (s_X12_isSlot l dC dI cI cZ cB cJ cM cG p0 s.heap.size) (cwS 1 hwd (gS kr55_12 kr55_13 kr1_5 kr55_14) rfl rfl rfl (by decide +kernel) ⟨Nat.le_of_ble_eq_true rfl, Nat.le_of_ble_eq_true rfl⟩) (kPreS hPc hK hDc) rfl rfl hl.1 rfl (lv_room (Nat.le_of_ble_eq_true rfl)) dX12_write_1 ⟨Nat.le_of_ble_eq_true rfl, Nat.le_of_ble_eq_true rfl⟩) hS (fun q _ h => hFc q h) hFc (fun r1 u2 t H1 locs ht9 hvm hw hB hz1 hk1 hS => ?_)
  obtain ⟨hw3, hw4, -⟩ := hw
  have hw3 : (0 : Int) ≤ r1.toInt ∧ r1.toInt ≤ 1 := hw3
  obtain ⟨hP1, hD1⟩ := hB
  rw [ht9] at hP1
  obtain ⟨hP, hD⟩ := va_join (wr := [(a0, .inr (12, [.int i0, .ref a1, .ref a2, .ref a3, .ref a4, .int i1, .ref a5, .int i2, .int i3, .int i4, .int i5, .int i6, .int i7, .int i8, .ref a6, .ref a7, .ref a8, .ref a9, .ref a10, .ref a11, .ref a12, .int i9, .ref a13, .int i10, .ref a14, .ref a15, .int i11, .ref a16, .ref a17, .ref a18, .ref a19, .int i12, .int i13, .int i14, .int i15, .int i16, .ref a20, .long j0, .ref a21, .ref a22, .ref a23, .ref a24])), (a21, .inl (cI, 4, .inl xF20)), (a22, .inl (cI, 4, .inl xF21)), (a23, .inl (cJ, 240, .inr (.inl xG22)))]) (w1 := []) hP hD [] [0, 1, 2, 3] rfl rfl (by decide) (by decide) hk1 hFc hP1 hD1
  generalize H1 = H at hP hS ⊢
  have hP : va_P (dC, dI) vwCl [(a0, .inr (12, [.int i0, .ref a1, .ref a2, .ref a3, .ref a4, .int i1, .ref a5, .int i2, .int i3, .int i4, .int i5, .int i6, .int i7, .int i8, .ref a6, .ref a7, .ref a8, .ref a9, .ref a10, .ref a11, .ref a12, .int i9, .ref a13, .int i10, .ref a14, .ref a15, .int i11, .ref a16, .ref a17, .ref a18, .ref a19, .int i12, .int i13, .int i14, .int i15, .int i16, .ref a20, .long j0, .ref a21, .ref a22, .ref a23, .ref a24])), (a21, .inl (cI, 4, .inl xF20)), (a22, .inl (cI, 4, .inl xF21)), (a23, .inl (cJ, 240, .inr (.inl xG22)))] H := hP
  have hD : va_D A [(a0, .inr (12, [.int i0, .ref a1, .ref a2, .ref a3, .ref a4, .int i1, .ref a5, .int i2, .int i3, .int i4, .int i5, .int i6, .int i7, .int i8, .ref a6, .ref a7, .ref a8, .ref a9, .ref a10, .ref a11, .ref a12, .int i9, .ref a13, .int i10, .ref a14, .ref a15, .int i11, .ref a16, .ref a17, .ref a18, .ref a19, .int i12, .int i13, .int i14, .int i15, .int i16, .ref a20, .long j0, .ref a21, .ref a22, .ref a23, .ref a24])), (a21, .inl (cI, 4, .inl xF20)), (a22, .inl (cI, 4, .inl xF21)), (a23, .inl (cJ, 240, .inr (.inl xG22)))] := hD
  refine lv_if_ne (tgt := 10) hx hb dX12_write_4 (by decide) (fun c5 => ?_) (fun c5 => ?_)
  · rw [ki_eq] at c5
    have hw4q := hw4 (by omega)
    clear hw4
    refine lv_aload_n hx hb dX12_write_10 rfl (lv_at hl 0 rfl) ?_
    refine va_get (D := (dC, dI)) (ci := 12) (v := .ref a21) (C := RX12) (T := TX12) (N := 42) hx hb hwd inlX12 hown hK hP 0 rfl rfl 38 (by decide) (hwd _ kr8_0) (fun _ h9 => h9) rfl dX12_write_11 ?_
    refine lv_iload_n hx hb dX12_write_14 rfl (lv_at hl 1 rfl) ?_
    have h6 : vp_in p0 4 := (vp_of (by omega) (by omega))
    refine va_iald hx hb hK hP 1 0 rfl rfl h6 dX12_write_15 ?_
    refine lv_topi (fun x7 ex7 => ?_)
    have ix7 : x7.toInt = (xF20 p0.toInt.toNat).toInt := by rw [ex7]; rfl
    have tx7 : (-1 : Int) ≤ x7.toInt ∧ x7.toInt ≤ 60 := by rw [ex7]; exact p_6 _ (vp_nat h6)
    refine lv_iconst (v := (-1)) hx hb dX12_write_16 (by decide) ?_
    refine lv_icmp_ne (tgt := 23) hx hb dX12_write_17 (by decide) (fun c8 => ?_) (fun c8 => ?_)
    · rw [ki_eq] at c8
      refine lv_iload_n hx hb dX12_write_23 rfl (lv_at hl 2 rfl) ?_
      refine lv_i2l hx hb dX12_write_24 rfl ?_
      refine lv_lconst (v := 0) hx hb dX12_write_25 (by decide) ?_
      refine lv_aload_n hx hb dX12_write_26 rfl (lv_at hl 0 rfl) ?_
      refine va_get (D := (dC, dI)) (ci := 12) (v := .ref a21) (C := RX12) (T := TX12) (N := 42) hx hb hwd inlX12 hown hK hP 0 rfl rfl 38 (by decide) (hwd _ kr8_0) (fun _ h9 => h9) rfl dX12_write_27 ?_
      refine lv_iload_n hx hb dX12_write_30 rfl (lv_at hl 1 rfl) ?_
      have h9 : vp_in p0 4 := (vp_of (by omega) (by omega))
      refine va_iald hx hb hK hP 1 0 rfl rfl h9 dX12_write_31 ?_
      refine lv_topi (nm_r (e' := x7) ex7.symm ?_)
      refine lv_iconst (v := 1) hx hb dX12_write_32 (by decide) ?_
      refine lv_isub hx hb dX12_write_33 ?_
      refine lv_topi (fun x10 ex10 => ?_)
      have tx10 := ia_sub (a := x7) (b := (1 : Int32)) (by omega) (by omega)
      rw [← ex10] at tx10
      refine lv_i2l hx hb dX12_write_34 rfl ?_
      have hPc := hP.sub (ws' := []) [] rfl
      have hDc := hD.sub (ws' := []) [] (by decide) rfl
      have hFc := va_free (wc := []) hD hS hA [] rfl
      refine va_calli (va_runS (As := [.long p1.toInt64, .long 0, .long x10.toInt64]) (rest := []) ⟨hx, hb, hml, hown, hwd⟩ (s_X12_in l dC dI cI cZ cB cJ cM cG p1.toInt64 0 x10.toInt64 H.size) (cwS 3 hwd (gS kr9_10 kr9_11 kr1_5 kr9_12) rfl rfl rfl (by decide +kernel) ⟨Nat.le_of_ble_eq_true rfl, Nat.le_of_ble_eq_true rfl⟩) (kPreS hPc hK hDc) rfl rfl hl.1 rfl (lv_room (Nat.le_of_ble_eq_true rfl)) dX12_write_35 ⟨Nat.le_of_ble_eq_true rfl, Nat.le_of_ble_eq_true rfl⟩) hS (fun q _ h => hFc q h) hFc (fun r11 u12 t H1 locs ht9 hvm hw hB hz1 hk1 hS => ?_)
      obtain ⟨hw13, hw14, hw15, -⟩ := hw
      have hw13 : (0 : Int) ≤ r11.toInt ∧ r11.toInt ≤ 1 := hw13
      have hw14 : r11.toInt ≠ 0 → (0 : Int) ≤ p1.toInt ∧ p1.toInt ≤ x10.toInt := in_int (Int32.toInt_toInt64 _) (by decide) (Int32.toInt_toInt64 _) hw14
      have hw15 : r11.toInt ≠ 1 → p1.toInt < (0 : Int) ∨ x10.toInt < p1.toInt := in_int2 (Int32.toInt_toInt64 _) (by decide) (Int32.toInt_toInt64 _) hw15
      obtain ⟨hP1, hD1⟩ := hB
      rw [ht9] at hP1
      obtain ⟨hP, hD⟩ := va_join (wr := [(a0, .inr (12, [.int i0, .ref a1, .ref a2, .ref a3, .ref a4, .int i1, .ref a5, .int i2, .int i3, .int i4, .int i5, .int i6, .int i7, .int i8, .ref a6, .ref a7, .ref a8, .ref a9, .ref a10, .ref a11, .ref a12, .int i9, .ref a13, .int i10, .ref a14, .ref a15, .int i11, .ref a16, .ref a17, .ref a18, .ref a19, .int i12, .int i13, .int i14, .int i15, .int i16, .ref a20, .long j0, .ref a21, .ref a22, .ref a23, .ref a24])), (a21, .inl (cI, 4, .inl xF20)), (a22, .inl (cI, 4, .inl xF21)), (a23, .inl (cJ, 240, .inr (.inl xG22)))]) (w1 := []) hP hD [] [0, 1, 2, 3] rfl rfl (by decide) (by decide) hk1 hFc hP1 hD1
      generalize H1 = H at hP hS ⊢
      have hP : va_P (dC, dI) vwCl [(a0, .inr (12, [.int i0, .ref a1, .ref a2, .ref a3, .ref a4, .int i1, .ref a5, .int i2, .int i3, .int i4, .int i5, .int i6, .int i7, .int i8, .ref a6, .ref a7, .ref a8, .ref a9, .ref a10, .ref a11, .ref a12, .int i9, .ref a13, .int i10, .ref a14, .ref a15, .int i11, .ref a16, .ref a17, .ref a18, .ref a19, .int i12, .int i13, .int i14, .int i15, .int i16, .ref a20, .long j0, .ref a21, .ref a22, .ref a23, .ref a24])), (a21, .inl (cI, 4, .inl xF20)), (a22, .inl (cI, 4, .inl xF21)), (a23, .inl (cJ, 240, .inr (.inl xG22)))] H := hP
      have hD : va_D A [(a0, .inr (12, [.int i0, .ref a1, .ref a2, .ref a3, .ref a4, .int i1, .ref a5, .int i2, .int i3, .int i4, .int i5, .int i6, .int i7, .int i8, .ref a6, .ref a7, .ref a8, .ref a9, .ref a10, .ref a11, .ref a12, .int i9, .ref a13, .int i10, .ref a14, .ref a15, .int i11, .ref a16, .ref a17, .ref a18, .ref a19, .int i12, .int i13, .int i14, .int i15, .int i16, .ref a20, .long j0, .ref a21, .ref a22, .ref a23, .ref a24])), (a21, .inl (cI, 4, .inl xF20)), (a22, .inl (cI, 4, .inl xF21)), (a23, .inl (cJ, 240, .inr (.inl xG22)))] := hD
      refine lv_if_ne (tgt := 44) hx hb dX12_write_38 (by decide) (fun c16 => ?_) (fun c16 => ?_)
      · rw [ki_eq] at c16
        have hw14q := hw14 (by omega)
        clear hw14
        refine lv_aload_n hx hb dX12_write_44 rfl (lv_at hl 0 rfl) ?_
        refine va_get (D := (dC, dI)) (ci := 12) (v := .ref a23) (C := RX12) (T := TX12) (N := 42) hx hb hwd inlX12 hown hK hP 0 rfl rfl 40 (by decide) (hwd _ kr8_2) (fun _ h9 => h9) rfl dX12_write_45 ?_
        refine lv_bipush (v := 60) hx hb dX12_write_48 (by decide) ?_
        refine lv_iload_n hx hb dX12_write_50 rfl (lv_at hl 1 rfl) ?_
        refine lv_imul hx hb dX12_write_51 ?_
        refine lv_topi (fun x17 ex17 => ?_)
        have tx17 := ia_mull (a := (60 : Int32)) (b := p0) 60 (by decide) (by omega) (by omega)
        rw [← ex17] at tx17
        refine lv_iload_n hx hb dX12_write_52 rfl (lv_at hl 2 rfl) ?_
        refine lv_iadd hx hb dX12_write_53 ?_
        refine lv_topi (fun x18 ex18 => ?_)
        have tx18 := ia_add (a := x17) (b := p1) (by omega) (by omega)
        rw [← ex18] at tx18
        refine lv_lload_n hx hb dX12_write_54 rfl (lv_at hl 3 rfl) ?_
        refine lv_aload_n hx hb dX12_write_55 rfl (lv_at hl 0 rfl) ?_
        refine va_get (D := (dC, dI)) (ci := 12) (v := .ref a22) (C := RX12) (T := TX12) (N := 42) hx hb hwd inlX12 hown hK hP 0 rfl rfl 39 (by decide) (hwd _ kr8_1) (fun _ h9 => h9) rfl dX12_write_56 ?_
        refine lv_iload_n hx hb dX12_write_59 rfl (lv_at hl 1 rfl) ?_
        have h19 : vp_in p0 4 := (vp_of (by omega) (by omega))
        refine va_iald hx hb hK hP 2 0 rfl rfl h19 dX12_write_60 ?_
        refine lv_topi (fun x20 ex20 => ?_)
        have tx20 : (0 : Int) ≤ x20.toInt ∧ x20.toInt ≤ 3 := by rw [ex20]; exact p_8 _ (vp_nat h19)
        have hPc := hP.sub (ws' := []) [] rfl
        have hDc := hD.sub (ws' := []) [] (by decide) rfl
        have hFc := va_free (wc := []) hD hS hA [] rfl
        refine va_calll (va_runS (As := [.long y2, .int x20]) (rest := [.int x18, .ref a23]) ⟨hx, hb, hml, hown, hwd⟩ (s_X12_cut_ l dC dI cI cZ cB cJ cM cG x20 y2 H.size) (cwS 2 hwd (gS kr68_3 kr68_4 kr1_5 kr68_5) rfl rfl rfl (by decide +kernel) ⟨Nat.le_of_ble_eq_true rfl, Nat.le_of_ble_eq_true rfl⟩) (kPreS hPc hK hDc) rfl rfl hl.1 rfl (lv_room (Nat.le_of_ble_eq_true rfl)) dX12_write_61 ⟨Nat.le_of_ble_eq_true rfl, Nat.le_of_ble_eq_true rfl⟩) hS (fun q _ h => hFc q h) hFc (fun r21 u22 t H1 locs ht9 hvm hw hB hz1 hk1 hS => ?_)
        obtain ⟨hP1, hD1⟩ := hB
        rw [ht9] at hP1
        obtain ⟨hP, hD⟩ := va_join (wr := [(a0, .inr (12, [.int i0, .ref a1, .ref a2, .ref a3, .ref a4, .int i1, .ref a5, .int i2, .int i3, .int i4, .int i5, .int i6, .int i7, .int i8, .ref a6, .ref a7, .ref a8, .ref a9, .ref a10, .ref a11, .ref a12, .int i9, .ref a13, .int i10, .ref a14, .ref a15, .int i11, .ref a16, .ref a17, .ref a18, .ref a19, .int i12, .int i13, .int i14, .int i15, .int i16, .ref a20, .long j0, .ref a21, .ref a22, .ref a23, .ref a24])), (a21, .inl (cI, 4, .inl xF20)), (a22, .inl (cI, 4, .inl xF21)), (a23, .inl (cJ, 240, .inr (.inl xG22)))]) (w1 := []) hP hD [] [0, 1, 2, 3] rfl rfl (by decide) (by decide) hk1 hFc hP1 hD1
        generalize H1 = H at hP hS ⊢
        have hP : va_P (dC, dI) vwCl [(a0, .inr (12, [.int i0, .ref a1, .ref a2, .ref a3, .ref a4, .int i1, .ref a5, .int i2, .int i3, .int i4, .int i5, .int i6, .int i7, .int i8, .ref a6, .ref a7, .ref a8, .ref a9, .ref a10, .ref a11, .ref a12, .int i9, .ref a13, .int i10, .ref a14, .ref a15, .int i11, .ref a16, .ref a17, .ref a18, .ref a19, .int i12, .int i13, .int i14, .int i15, .int i16, .ref a20, .long j0, .ref a21, .ref a22, .ref a23, .ref a24])), (a21, .inl (cI, 4, .inl xF20)), (a22, .inl (cI, 4, .inl xF21)), (a23, .inl (cJ, 240, .inr (.inl xG22)))] H := hP
        have hD : va_D A [(a0, .inr (12, [.int i0, .ref a1, .ref a2, .ref a3, .ref a4, .int i1, .ref a5, .int i2, .int i3, .int i4, .int i5, .int i6, .int i7, .int i8, .ref a6, .ref a7, .ref a8, .ref a9, .ref a10, .ref a11, .ref a12, .int i9, .ref a13, .int i10, .ref a14, .ref a15, .int i11, .ref a16, .ref a17, .ref a18, .ref a19, .int i12, .int i13, .int i14, .int i15, .int i16, .ref a20, .long j0, .ref a21, .ref a22, .ref a23, .ref a24])), (a21, .inl (cI, 4, .inl xF20)), (a22, .inl (cI, 4, .inl xF21)), (a23, .inl (cJ, 240, .inr (.inl xG22)))] := hD
        refine va_last hx hb hK hP hD hS 3 3 rfl rfl (vp_of (by omega) (by omega)) dX12_write_64 (fun H locs hP hD hS => ?_)
        obtain ⟨f23, ef23⟩ : ∃ f, f = vp_updL xG22 x18.toNatClampNeg r21 := ⟨_, rfl⟩
        have hP : va_P (dC, dI) vwCl [(a0, .inr (12, [.int i0, .ref a1, .ref a2, .ref a3, .ref a4, .int i1, .ref a5, .int i2, .int i3, .int i4, .int i5, .int i6, .int i7, .int i8, .ref a6, .ref a7, .ref a8, .ref a9, .ref a10, .ref a11, .ref a12, .int i9, .ref a13, .int i10, .ref a14, .ref a15, .int i11, .ref a16, .ref a17, .ref a18, .ref a19, .int i12, .int i13, .int i14, .int i15, .int i16, .ref a20, .long j0, .ref a21, .ref a22, .ref a23, .ref a24])), (a21, .inl (cI, 4, .inl xF20)), (a22, .inl (cI, 4, .inl xF21)), (a23, .inl (cJ, 240, .inr (.inl f23)))] H := by rw [ef23]; exact hP
        have hD : va_D A [(a0, .inr (12, [.int i0, .ref a1, .ref a2, .ref a3, .ref a4, .int i1, .ref a5, .int i2, .int i3, .int i4, .int i5, .int i6, .int i7, .int i8, .ref a6, .ref a7, .ref a8, .ref a9, .ref a10, .ref a11, .ref a12, .int i9, .ref a13, .int i10, .ref a14, .ref a15, .int i11, .ref a16, .ref a17, .ref a18, .ref a19, .int i12, .int i13, .int i14, .int i15, .int i16, .ref a20, .long j0, .ref a21, .ref a22, .ref a23, .ref a24])), (a21, .inl (cI, 4, .inl xF20)), (a22, .inl (cI, 4, .inl xF21)), (a23, .inl (cJ, 240, .inr (.inl f23)))] := by rw [ef23]; exact hD
        refine lv_iconst (v := 0) hx hb dX12_write_65 (by decide) ?_
        have hP9 := hP.sub (ws' := [(a0, .inr (12, [.int i0, .ref a1, .ref a2, .ref a3, .ref a4, .int i1, .ref a5, .int i2, .int i3, .int i4, .int i5, .int i6, .int i7, .int i8, .ref a6, .ref a7, .ref a8, .ref a9, .ref a10, .ref a11, .ref a12, .int i9, .ref a13, .int i10, .ref a14, .ref a15, .int i11, .ref a16, .ref a17, .ref a18, .ref a19, .int i12, .int i13, .int i14, .int i15, .int i16, .ref a20, .long j0, .ref a21, .ref a22, .ref a23, .ref a24])), (a21, .inl (cI, 4, .inl xF20)), (a22, .inl (cI, 4, .inl xF21)), (a23, .inl (cJ, 240, .inr (.inl f23)))]) [0, 1, 2, 3] rfl
        have hD9 := hD.sub (ws' := [(a0, .inr (12, [.int i0, .ref a1, .ref a2, .ref a3, .ref a4, .int i1, .ref a5, .int i2, .int i3, .int i4, .int i5, .int i6, .int i7, .int i8, .ref a6, .ref a7, .ref a8, .ref a9, .ref a10, .ref a11, .ref a12, .int i9, .ref a13, .int i10, .ref a14, .ref a15, .int i11, .ref a16, .ref a17, .ref a18, .ref a19, .int i12, .int i13, .int i14, .int i15, .int i16, .ref a20, .long j0, .ref a21, .ref a22, .ref a23, .ref a24])), (a21, .inl (cI, 4, .inl xF20)), (a22, .inl (cI, 4, .inl xF21)), (a23, .inl (cJ, 240, .inr (.inl f23)))]) [0, 1, 2, 3] (by decide) rfl
        rw [hQ]
        exact W.iret (v := 0) hx hb hr (fun t ht hW => ⟨⟨0, (pickG 0 [], pickG (fun _ => 0) [], pickG (fun _ => 0) [f23]), rfl, ⟨(show (-7 : Int) ≤ (0 : Int32).toInt ∧ (0 : Int32).toInt ≤ 0 from ⟨by omega, by omega⟩), trivial⟩, (by rw [ht]; exact hP9), hD9⟩, hS.F ht⟩) hS.2.2 dX12_write_66
      · rw [ki_eq] at c16
        have hw15q := hw15 (by omega)
        clear hw15
        refine lv_bipush (v := (-7)) hx hb dX12_write_41 (by decide) ?_
        have hP9 := hP.sub (ws' := [(a0, .inr (12, [.int i0, .ref a1, .ref a2, .ref a3, .ref a4, .int i1, .ref a5, .int i2, .int i3, .int i4, .int i5, .int i6, .int i7, .int i8, .ref a6, .ref a7, .ref a8, .ref a9, .ref a10, .ref a11, .ref a12, .int i9, .ref a13, .int i10, .ref a14, .ref a15, .int i11, .ref a16, .ref a17, .ref a18, .ref a19, .int i12, .int i13, .int i14, .int i15, .int i16, .ref a20, .long j0, .ref a21, .ref a22, .ref a23, .ref a24])), (a21, .inl (cI, 4, .inl xF20)), (a22, .inl (cI, 4, .inl xF21)), (a23, .inl (cJ, 240, .inr (.inl xG22)))]) [0, 1, 2, 3] rfl
        have hD9 := hD.sub (ws' := [(a0, .inr (12, [.int i0, .ref a1, .ref a2, .ref a3, .ref a4, .int i1, .ref a5, .int i2, .int i3, .int i4, .int i5, .int i6, .int i7, .int i8, .ref a6, .ref a7, .ref a8, .ref a9, .ref a10, .ref a11, .ref a12, .int i9, .ref a13, .int i10, .ref a14, .ref a15, .int i11, .ref a16, .ref a17, .ref a18, .ref a19, .int i12, .int i13, .int i14, .int i15, .int i16, .ref a20, .long j0, .ref a21, .ref a22, .ref a23, .ref a24])), (a21, .inl (cI, 4, .inl xF20)), (a22, .inl (cI, 4, .inl xF21)), (a23, .inl (cJ, 240, .inr (.inl xG22)))]) [0, 1, 2, 3] (by decide) rfl
        rw [hQ]
        exact W.iret (v := (-7)) hx hb hr (fun t ht hW => ⟨⟨(-7), (pickG 0 [], pickG (fun _ => 0) [], pickG (fun _ => 0) [xG22]), rfl, ⟨(show (-7 : Int) ≤ ((-7) : Int32).toInt ∧ ((-7) : Int32).toInt ≤ 0 from ⟨by omega, by omega⟩), trivial⟩, (by rw [ht]; exact hP9), hD9⟩, hS.F ht⟩) hS.2.2 dX12_write_43
    · rw [ki_eq] at c8
      refine lv_bipush (v := (-6)) hx hb dX12_write_20 (by decide) ?_
      have hP9 := hP.sub (ws' := [(a0, .inr (12, [.int i0, .ref a1, .ref a2, .ref a3, .ref a4, .int i1, .ref a5, .int i2, .int i3, .int i4, .int i5, .int i6, .int i7, .int i8, .ref a6, .ref a7, .ref a8, .ref a9, .ref a10, .ref a11, .ref a12, .int i9, .ref a13, .int i10, .ref a14, .ref a15, .int i11, .ref a16, .ref a17, .ref a18, .ref a19, .int i12, .int i13, .int i14, .int i15, .int i16, .ref a20, .long j0, .ref a21, .ref a22, .ref a23, .ref a24])), (a21, .inl (cI, 4, .inl xF20)), (a22, .inl (cI, 4, .inl xF21)), (a23, .inl (cJ, 240, .inr (.inl xG22)))]) [0, 1, 2, 3] rfl
      have hD9 := hD.sub (ws' := [(a0, .inr (12, [.int i0, .ref a1, .ref a2, .ref a3, .ref a4, .int i1, .ref a5, .int i2, .int i3, .int i4, .int i5, .int i6, .int i7, .int i8, .ref a6, .ref a7, .ref a8, .ref a9, .ref a10, .ref a11, .ref a12, .int i9, .ref a13, .int i10, .ref a14, .ref a15, .int i11, .ref a16, .ref a17, .ref a18, .ref a19, .int i12, .int i13, .int i14, .int i15, .int i16, .ref a20, .long j0, .ref a21, .ref a22, .ref a23, .ref a24])), (a21, .inl (cI, 4, .inl xF20)), (a22, .inl (cI, 4, .inl xF21)), (a23, .inl (cJ, 240, .inr (.inl xG22)))]) [0, 1, 2, 3] (by decide) rfl
      rw [hQ]
      exact W.iret (v := (-6)) hx hb hr (fun t ht hW => ⟨⟨(-6), (pickG 0 [], pickG (fun _ => 0) [], pickG (fun _ => 0) [xG22]), rfl, ⟨(show (-7 : Int) ≤ ((-6) : Int32).toInt ∧ ((-6) : Int32).toInt ≤ 0 from ⟨by omega, by omega⟩), trivial⟩, (by rw [ht]; exact hP9), hD9⟩, hS.F ht⟩) hS.2.2 dX12_write_22
  · rw [ki_eq] at c5
    refine lv_bipush (v := (-2)) hx hb dX12_write_7 (by decide) ?_
    have hP9 := hP.sub (ws' := [(a0, .inr (12, [.int i0, .ref a1, .ref a2, .ref a3, .ref a4, .int i1, .ref a5, .int i2, .int i3, .int i4, .int i5, .int i6, .int i7, .int i8, .ref a6, .ref a7, .ref a8, .ref a9, .ref a10, .ref a11, .ref a12, .int i9, .ref a13, .int i10, .ref a14, .ref a15, .int i11, .ref a16, .ref a17, .ref a18, .ref a19, .int i12, .int i13, .int i14, .int i15, .int i16, .ref a20, .long j0, .ref a21, .ref a22, .ref a23, .ref a24])), (a21, .inl (cI, 4, .inl xF20)), (a22, .inl (cI, 4, .inl xF21)), (a23, .inl (cJ, 240, .inr (.inl xG22)))]) [0, 1, 2, 3] rfl
    have hD9 := hD.sub (ws' := [(a0, .inr (12, [.int i0, .ref a1, .ref a2, .ref a3, .ref a4, .int i1, .ref a5, .int i2, .int i3, .int i4, .int i5, .int i6, .int i7, .int i8, .ref a6, .ref a7, .ref a8, .ref a9, .ref a10, .ref a11, .ref a12, .int i9, .ref a13, .int i10, .ref a14, .ref a15, .int i11, .ref a16, .ref a17, .ref a18, .ref a19, .int i12, .int i13, .int i14, .int i15, .int i16, .ref a20, .long j0, .ref a21, .ref a22, .ref a23, .ref a24])), (a21, .inl (cI, 4, .inl xF20)), (a22, .inl (cI, 4, .inl xF21)), (a23, .inl (cJ, 240, .inr (.inl xG22)))]) [0, 1, 2, 3] (by decide) rfl
    rw [hQ]
    exact W.iret (v := (-2)) hx hb hr (fun t ht hW => ⟨⟨(-2), (pickG 0 [], pickG (fun _ => 0) [], pickG (fun _ => 0) [xG22]), rfl, ⟨(show (-7 : Int) ≤ ((-2) : Int32).toInt ∧ ((-2) : Int32).toInt ≤ 0 from ⟨by omega, by omega⟩), trivial⟩, (by rw [ht]; exact hP9), hD9⟩, hS.F ht⟩) hS.2.2 dX12_write_9
theorem dX12_paste_0 : decode cX12_paste 0 = .ok (.iload_n 1, 1) := by decide +kernel
theorem dX12_paste_1 : decode cX12_paste 1 = .ok (.invokestatic 414, 3) := by decide +kernel
theorem dX12_paste_4 : decode cX12_paste 4 = .ok (.ifCond .eq 10, 3) := by decide +kernel
theorem dX12_paste_7 : decode cX12_paste 7 = .ok (.iload_n 3, 1) := by decide +kernel
theorem dX12_paste_8 : decode cX12_paste 8 = .ok (.invokestatic 414, 3) := by decide +kernel
theorem dX12_paste_11 : decode cX12_paste 11 = .ok (.ifCond .ne 6, 3) := by decide +kernel
theorem dX12_paste_14 : decode cX12_paste 14 = .ok (.bipush (-2), 2) := by decide +kernel
theorem dX12_paste_16 : decode cX12_paste 16 = .ok (.ireturn, 1) := by decide +kernel
theorem dX12_paste_17 : decode cX12_paste 17 = .ok (.aload_n 0, 1) := by decide +kernel
theorem dX12_paste_18 : decode cX12_paste 18 = .ok (.getfield 79, 3) := by decide +kernel
theorem dX12_paste_21 : decode cX12_paste 21 = .ok (.iload_n 1, 1) := by decide +kernel
theorem dX12_paste_22 : decode cX12_paste 22 = .ok (.iaload, 1) := by decide +kernel
theorem dX12_paste_23 : decode cX12_paste 23 = .ok (.iconst (-1), 1) := by decide +kernel
theorem dX12_paste_24 : decode cX12_paste 24 = .ok (.if_icmp .eq 13, 3) := by decide +kernel
theorem dX12_paste_27 : decode cX12_paste 27 = .ok (.aload_n 0, 1) := by decide +kernel
theorem dX12_paste_28 : decode cX12_paste 28 = .ok (.getfield 79, 3) := by decide +kernel
theorem dX12_paste_31 : decode cX12_paste 31 = .ok (.iload_n 3, 1) := by decide +kernel
theorem dX12_paste_32 : decode cX12_paste 32 = .ok (.iaload, 1) := by decide +kernel
theorem dX12_paste_33 : decode cX12_paste 33 = .ok (.iconst (-1), 1) := by decide +kernel
theorem dX12_paste_34 : decode cX12_paste 34 = .ok (.if_icmp .ne 6, 3) := by decide +kernel
theorem dX12_paste_37 : decode cX12_paste 37 = .ok (.bipush (-6), 2) := by decide +kernel
theorem dX12_paste_39 : decode cX12_paste 39 = .ok (.ireturn, 1) := by decide +kernel
theorem dX12_paste_40 : decode cX12_paste 40 = .ok (.aload_n 0, 1) := by decide +kernel
theorem dX12_paste_41 : decode cX12_paste 41 = .ok (.getfield 82, 3) := by decide +kernel
theorem dX12_paste_44 : decode cX12_paste 44 = .ok (.iload_n 1, 1) := by decide +kernel
theorem dX12_paste_45 : decode cX12_paste 45 = .ok (.iaload, 1) := by decide +kernel
theorem dX12_paste_46 : decode cX12_paste 46 = .ok (.aload_n 0, 1) := by decide +kernel
theorem dX12_paste_47 : decode cX12_paste 47 = .ok (.getfield 82, 3) := by decide +kernel
theorem dX12_paste_50 : decode cX12_paste 50 = .ok (.iload_n 3, 1) := by decide +kernel
theorem dX12_paste_51 : decode cX12_paste 51 = .ok (.iaload, 1) := by decide +kernel
theorem dX12_paste_52 : decode cX12_paste 52 = .ok (.if_icmp .eq 6, 3) := by decide +kernel
theorem dX12_paste_55 : decode cX12_paste 55 = .ok (.bipush (-8), 2) := by decide +kernel
theorem dX12_paste_57 : decode cX12_paste 57 = .ok (.ireturn, 1) := by decide +kernel
theorem dX12_paste_58 : decode cX12_paste 58 = .ok (.iload_n 2, 1) := by decide +kernel
theorem dX12_paste_59 : decode cX12_paste 59 = .ok (.ifCond .lt 48, 3) := by decide +kernel
theorem dX12_paste_62 : decode cX12_paste 62 = .ok (.iload 4, 2) := by decide +kernel
theorem dX12_paste_64 : decode cX12_paste 64 = .ok (.ifCond .lt 43, 3) := by decide +kernel
theorem dX12_paste_67 : decode cX12_paste 67 = .ok (.iload 5, 2) := by decide +kernel
theorem dX12_paste_69 : decode cX12_paste 69 = .ok (.ifCond .lt 38, 3) := by decide +kernel
theorem dX12_paste_72 : decode cX12_paste 72 = .ok (.iload_n 2, 1) := by decide +kernel
theorem dX12_paste_73 : decode cX12_paste 73 = .ok (.i2l, 1) := by decide +kernel
theorem dX12_paste_74 : decode cX12_paste 74 = .ok (.iload 5, 2) := by decide +kernel
theorem dX12_paste_76 : decode cX12_paste 76 = .ok (.i2l, 1) := by decide +kernel
theorem dX12_paste_77 : decode cX12_paste 77 = .ok (.ladd, 1) := by decide +kernel
theorem dX12_paste_78 : decode cX12_paste 78 = .ok (.aload_n 0, 1) := by decide +kernel
theorem dX12_paste_79 : decode cX12_paste 79 = .ok (.getfield 79, 3) := by decide +kernel
theorem dX12_paste_82 : decode cX12_paste 82 = .ok (.iload_n 1, 1) := by decide +kernel
theorem dX12_paste_83 : decode cX12_paste 83 = .ok (.iaload, 1) := by decide +kernel
theorem dX12_paste_84 : decode cX12_paste 84 = .ok (.i2l, 1) := by decide +kernel
theorem dX12_paste_85 : decode cX12_paste 85 = .ok (.lcmp, 1) := by decide +kernel
theorem dX12_paste_86 : decode cX12_paste 86 = .ok (.ifCond .gt 21, 3) := by decide +kernel
theorem dX12_paste_89 : decode cX12_paste 89 = .ok (.iload 4, 2) := by decide +kernel
theorem dX12_paste_91 : decode cX12_paste 91 = .ok (.i2l, 1) := by decide +kernel
theorem dX12_paste_92 : decode cX12_paste 92 = .ok (.iload 5, 2) := by decide +kernel
theorem dX12_paste_94 : decode cX12_paste 94 = .ok (.i2l, 1) := by decide +kernel
theorem dX12_paste_95 : decode cX12_paste 95 = .ok (.ladd, 1) := by decide +kernel
theorem dX12_paste_96 : decode cX12_paste 96 = .ok (.aload_n 0, 1) := by decide +kernel
theorem dX12_paste_97 : decode cX12_paste 97 = .ok (.getfield 79, 3) := by decide +kernel
theorem dX12_paste_100 : decode cX12_paste 100 = .ok (.iload_n 3, 1) := by decide +kernel
theorem dX12_paste_101 : decode cX12_paste 101 = .ok (.iaload, 1) := by decide +kernel
theorem dX12_paste_102 : decode cX12_paste 102 = .ok (.i2l, 1) := by decide +kernel
theorem dX12_paste_103 : decode cX12_paste 103 = .ok (.lcmp, 1) := by decide +kernel
theorem dX12_paste_104 : decode cX12_paste 104 = .ok (.ifCond .le 6, 3) := by decide +kernel
theorem dX12_paste_107 : decode cX12_paste 107 = .ok (.bipush (-7), 2) := by decide +kernel
theorem dX12_paste_109 : decode cX12_paste 109 = .ok (.ireturn, 1) := by decide +kernel
theorem dX12_paste_110 : decode cX12_paste 110 = .ok (.iconst 0, 1) := by decide +kernel
theorem dX12_paste_111 : decode cX12_paste 111 = .ok (.istore 6, 2) := by decide +kernel
theorem dX12_paste_113 : decode cX12_paste 113 = .ok (.iload 6, 2) := by decide +kernel
theorem dX12_paste_115 : decode cX12_paste 115 = .ok (.iload 5, 2) := by decide +kernel
theorem dX12_paste_117 : decode cX12_paste 117 = .ok (.if_icmp .ge 30, 3) := by decide +kernel
theorem dX12_paste_120 : decode cX12_paste 120 = .ok (.aload_n 0, 1) := by decide +kernel
theorem dX12_paste_121 : decode cX12_paste 121 = .ok (.getfield 89, 3) := by decide +kernel
theorem dX12_paste_124 : decode cX12_paste 124 = .ok (.iload 6, 2) := by decide +kernel
theorem dX12_paste_126 : decode cX12_paste 126 = .ok (.aload_n 0, 1) := by decide +kernel
theorem dX12_paste_127 : decode cX12_paste 127 = .ok (.getfield 85, 3) := by decide +kernel
theorem dX12_paste_130 : decode cX12_paste 130 = .ok (.bipush 60, 2) := by decide +kernel
theorem dX12_paste_132 : decode cX12_paste 132 = .ok (.iload_n 1, 1) := by decide +kernel
theorem dX12_paste_133 : decode cX12_paste 133 = .ok (.imul, 1) := by decide +kernel
theorem dX12_paste_134 : decode cX12_paste 134 = .ok (.iload_n 2, 1) := by decide +kernel
theorem dX12_paste_135 : decode cX12_paste 135 = .ok (.iadd, 1) := by decide +kernel
theorem dX12_paste_136 : decode cX12_paste 136 = .ok (.iload 6, 2) := by decide +kernel
theorem dX12_paste_138 : decode cX12_paste 138 = .ok (.iadd, 1) := by decide +kernel
theorem dX12_paste_139 : decode cX12_paste 139 = .ok (.laload, 1) := by decide +kernel
theorem dX12_paste_140 : decode cX12_paste 140 = .ok (.lastore, 1) := by decide +kernel
theorem dX12_paste_141 : decode cX12_paste 141 = .ok (.iinc 6 1, 3) := by decide +kernel
theorem dX12_paste_144 : decode cX12_paste 144 = .ok (.goto (-31), 3) := by decide +kernel
theorem dX12_paste_147 : decode cX12_paste 147 = .ok (.iconst 0, 1) := by decide +kernel
theorem dX12_paste_148 : decode cX12_paste 148 = .ok (.istore 6, 2) := by decide +kernel
theorem dX12_paste_150 : decode cX12_paste 150 = .ok (.iload 6, 2) := by decide +kernel
theorem dX12_paste_152 : decode cX12_paste 152 = .ok (.iload 5, 2) := by decide +kernel
theorem dX12_paste_154 : decode cX12_paste 154 = .ok (.if_icmp .ge 31, 3) := by decide +kernel
theorem dX12_paste_157 : decode cX12_paste 157 = .ok (.aload_n 0, 1) := by decide +kernel
theorem dX12_paste_158 : decode cX12_paste 158 = .ok (.getfield 85, 3) := by decide +kernel
theorem dX12_paste_161 : decode cX12_paste 161 = .ok (.bipush 60, 2) := by decide +kernel
theorem dX12_paste_163 : decode cX12_paste 163 = .ok (.iload_n 3, 1) := by decide +kernel
theorem dX12_paste_164 : decode cX12_paste 164 = .ok (.imul, 1) := by decide +kernel
theorem dX12_paste_165 : decode cX12_paste 165 = .ok (.iload 4, 2) := by decide +kernel
theorem dX12_paste_167 : decode cX12_paste 167 = .ok (.iadd, 1) := by decide +kernel
theorem dX12_paste_168 : decode cX12_paste 168 = .ok (.iload 6, 2) := by decide +kernel
theorem dX12_paste_170 : decode cX12_paste 170 = .ok (.iadd, 1) := by decide +kernel
theorem dX12_paste_171 : decode cX12_paste 171 = .ok (.aload_n 0, 1) := by decide +kernel
theorem dX12_paste_172 : decode cX12_paste 172 = .ok (.getfield 89, 3) := by decide +kernel
theorem dX12_paste_175 : decode cX12_paste 175 = .ok (.iload 6, 2) := by decide +kernel
theorem dX12_paste_177 : decode cX12_paste 177 = .ok (.laload, 1) := by decide +kernel
theorem dX12_paste_178 : decode cX12_paste 178 = .ok (.lastore, 1) := by decide +kernel
theorem dX12_paste_179 : decode cX12_paste 179 = .ok (.iinc 6 1, 3) := by decide +kernel
theorem dX12_paste_182 : decode cX12_paste 182 = .ok (.goto (-32), 3) := by decide +kernel
theorem dX12_paste_185 : decode cX12_paste 185 = .ok (.iconst 0, 1) := by decide +kernel
theorem dX12_paste_186 : decode cX12_paste 186 = .ok (.ireturn, 1) := by decide +kernel
set_option maxHeartbeats 4000000 in
set_option maxRecDepth 100000 in
theorem s_X12_paste (l : Launch) (dC : Nat → ClassId) (dI : Nat → Nat → Nat) (cI cZ cB cJ cM cG : ClassId) (a0 a1 a2 a3 a4 a5 a6 a7 a8 a9 a10 a11 a12 a13 a14 a15 a16 a17 a18 a19 a20 a21 a22 a23 a24 : Nat) (i0 i1 i2 i3 i4 i5 i6 i7 i8 i9 i10 i11 i12 i13 i14 i15 i16 : Int32) (j0 : Int64) (xF20 xF21 : Nat → Int32) (xG22 xG23 : Nat → Int64) (p0 p1 p2 p3 p4 : Int32) (sz : Nat) (p_0 : (0 : Int) ≤ i1.toInt ∧ i1.toInt ≤ 1600) (p_1 : (0 : Int) ≤ i2.toInt ∧ i2.toInt ≤ 1600) (p_2 : (0 : Int) ≤ i3.toInt ∧ i3.toInt ≤ 1600) (p_3 : (0 : Int) ≤ i4.toInt ∧ i4.toInt ≤ 1600) (p_4 : (0 : Int) ≤ i5.toInt ∧ i5.toInt ≤ 6) (p_5 : (0 : Int) ≤ i11.toInt ∧ i11.toInt ≤ 59) (p_6 : rng xF20 4 (-1) 60) (p_7 : MI xF20) (p_8 : rng xF21 4 0 3) : Met l yX12_paste (kw yX12_paste cX12_paste 7 (some .int)) ({ frames := 2, cells := 0, slots := 0, locals := 45 } : Room) (va_Pc [.ref a0, .int p0, .int p1, .int p2, .int p3, .int p4] (kPre dC dI [(cI, .int), (cZ, .boolean), (cB, .byte), (cJ, .long), (cM, .object RX2), (cG, .array .int)] [(a0, .inr (12, [.int i0, .ref a1, .ref a2, .ref a3, .ref a4, .int i1, .ref a5, .int i2, .int i3, .int i4, .int i5, .int i6, .int i7, .int i8, .ref a6, .ref a7, .ref a8, .ref a9, .ref a10, .ref a11, .ref a12, .int i9, .ref a13, .int i10, .ref a14, .ref a15, .int i11, .ref a16, .ref a17, .ref a18, .ref a19, .int i12, .int i13, .int i14, .int i15, .int i16, .ref a20, .long j0, .ref a21, .ref a22, .ref a23, .ref a24])), (a21, .inl (cI, 4, .inl xF20)), (a22, .inl (cI, 4, .inl xF21)), (a23, .inl (cJ, 240, .inr (.inl xG22))), (a24, .inl (cJ, 60, .inr (.inl xG23)))] sz)) (va_Qi (fun (r : Int32) (u9 : (Nat → Int32) × (Nat → Nat → Int32) × (Nat → Nat → Int64)) => ((-8 : Int) ≤ r.toInt ∧ r.toInt ≤ 0) ∧ True) (fun u9 t => va_P (dC, dI) vwCl [(a0, .inr (12, [.int i0, .ref a1, .ref a2, .ref a3, .ref a4, .int i1, .ref a5, .int i2, .int i3, .int i4, .int i5, .int i6, .int i7, .int i8, .ref a6, .ref a7, .ref a8, .ref a9, .ref a10, .ref a11, .ref a12, .int i9, .ref a13, .int i10, .ref a14, .ref a15, .int i11, .ref a16, .ref a17, .ref a18, .ref a19, .int i12, .int i13, .int i14, .int i15, .int i16, .ref a20, .long j0, .ref a21, .ref a22, .ref a23, .ref a24])), (a21, .inl (cI, 4, .inl xF20)), (a22, .inl (cI, 4, .inl xF21)), (a23, .inl (cJ, 240, .inr (.inl (u9.2.2 0)))), (a24, .inl (cJ, 60, .inr (.inl (u9.2.2 1))))] t.heap ∧ va_D (va_A [(a0, .inr (12, [.int i0, .ref a1, .ref a2, .ref a3, .ref a4, .int i1, .ref a5, .int i2, .int i3, .int i4, .int i5, .int i6, .int i7, .int i8, .ref a6, .ref a7, .ref a8, .ref a9, .ref a10, .ref a11, .ref a12, .int i9, .ref a13, .int i10, .ref a14, .ref a15, .int i11, .ref a16, .ref a17, .ref a18, .ref a19, .int i12, .int i13, .int i14, .int i15, .int i16, .ref a20, .long j0, .ref a21, .ref a22, .ref a23, .ref a24])), (a21, .inl (cI, 4, .inl xF20)), (a22, .inl (cI, 4, .inl xF21)), (a23, .inl (cJ, 240, .inr (.inl xG22))), (a24, .inl (cJ, 60, .inr (.inl xG23)))] sz) [(a0, .inr (12, [.int i0, .ref a1, .ref a2, .ref a3, .ref a4, .int i1, .ref a5, .int i2, .int i3, .int i4, .int i5, .int i6, .int i7, .int i8, .ref a6, .ref a7, .ref a8, .ref a9, .ref a10, .ref a11, .ref a12, .int i9, .ref a13, .int i10, .ref a14, .ref a15, .int i11, .ref a16, .ref a17, .ref a18, .ref a19, .int i12, .int i13, .int i14, .int i15, .int i16, .ref a20, .long j0, .ref a21, .ref a22, .ref a23, .ref a24])), (a21, .inl (cI, 4, .inl xF20)), (a22, .inl (cI, 4, .inl xF21)), (a23, .inl (cJ, 240, .inr (.inl (u9.2.2 0)))), (a24, .inl (cJ, 60, .inr (.inl (u9.2.2 1))))]) (va_A [(a0, .inr (12, [.int i0, .ref a1, .ref a2, .ref a3, .ref a4, .int i1, .ref a5, .int i2, .int i3, .int i4, .int i5, .int i6, .int i7, .int i8, .ref a6, .ref a7, .ref a8, .ref a9, .ref a10, .ref a11, .ref a12, .int i9, .ref a13, .int i10, .ref a14, .ref a15, .int i11, .ref a16, .ref a17, .ref a18, .ref a19, .int i12, .int i13, .int i14, .int i15, .int i16, .ref a20, .long j0, .ref a21, .ref a22, .ref a23, .ref a24])), (a21, .inl (cI, 4, .inl xF20)), (a22, .inl (cI, 4, .inl xF21)), (a23, .inl (cJ, 240, .inr (.inl xG22))), (a24, .inl (cJ, 60, .inr (.inl xG23)))] sz)) 0 0 (va_A [(a0, .inr (12, [.int i0, .ref a1, .ref a2, .ref a3, .ref a4, .int i1, .ref a5, .int i2, .int i3, .int i4, .int i5, .int i6, .int i7, .int i8, .ref a6, .ref a7, .ref a8, .ref a9, .ref a10, .ref a11, .ref a12, .int i9, .ref a13, .int i10, .ref a14, .ref a15, .int i11, .ref a16, .ref a17, .ref a18, .ref a19, .int i12, .int i13, .int i14, .int i15, .int i16, .ref a20, .long j0, .ref a21, .ref a22, .ref a23, .ref a24])), (a21, .inl (cI, 4, .inl xF20)), (a22, .inl (cI, 4, .inl xF21)), (a23, .inl (cJ, 240, .inr (.inl xG22))), (a24, .inl (cJ, 60, .inr (.inl xG23)))] sz) := by
  refine kEnter (by decide) (Nat.le_of_ble_eq_true rfl) ?_
  intro p e s m below meth c ls hx hb hr hml hown hlocks hin hwd hsz hP hK hD hl
  subst hsz
  generalize hAe : va_A [(a0, .inr (12, [.int i0, .ref a1, .ref a2, .ref a3, .ref a4, .int i1, .ref a5, .int i2, .int i3, .int i4, .int i5, .int i6, .int i7, .int i8, .ref a6, .ref a7, .ref a8, .ref a9, .ref a10, .ref a11, .ref a12, .int i9, .ref a13, .int i10, .ref a14, .ref a15, .int i11, .ref a16, .ref a17, .ref a18, .ref a19, .int i12, .int i13, .int i14, .int i15, .int i16, .ref a20, .long j0, .ref a21, .ref a22, .ref a23, .ref a24])), (a21, .inl (cI, 4, .inl xF20)), (a22, .inl (cI, 4, .inl xF21)), (a23, .inl (cJ, 240, .inr (.inl xG22))), (a24, .inl (cJ, 60, .inr (.inl xG23)))] s.heap.size = A at hD ⊢
  have hA : ∀ q : Nat, s.heap.size ≤ q → A q := fun q h => by rw [← hAe]; exact Or.inr h
  have hS : va_S A s.heap s.heap [] := va_S.rf
  have hl : lv_has ls 7 [(0, .ref a0), (1, .int p0), (2, .int p1), (3, .int p2), (4, .int p3), (5, .int p4)] := hl
  obtain ⟨Q, hQ⟩ : ∃ Q, Q = MQ below (va_Qi (fun (r : Int32) (u9 : (Nat → Int32) × (Nat → Nat → Int32) × (Nat → Nat → Int64)) => ((-8 : Int) ≤ r.toInt ∧ r.toInt ≤ 0) ∧ True) (fun u9 t => va_P (dC, dI) vwCl [(a0, .inr (12, [.int i0, .ref a1, .ref a2, .ref a3, .ref a4, .int i1, .ref a5, .int i2, .int i3, .int i4, .int i5, .int i6, .int i7, .int i8, .ref a6, .ref a7, .ref a8, .ref a9, .ref a10, .ref a11, .ref a12, .int i9, .ref a13, .int i10, .ref a14, .ref a15, .int i11, .ref a16, .ref a17, .ref a18, .ref a19, .int i12, .int i13, .int i14, .int i15, .int i16, .ref a20, .long j0, .ref a21, .ref a22, .ref a23, .ref a24])), (a21, .inl (cI, 4, .inl xF20)), (a22, .inl (cI, 4, .inl xF21)), (a23, .inl (cJ, 240, .inr (.inl (u9.2.2 0)))), (a24, .inl (cJ, 60, .inr (.inl (u9.2.2 1))))] t.heap ∧ va_D A [(a0, .inr (12, [.int i0, .ref a1, .ref a2, .ref a3, .ref a4, .int i1, .ref a5, .int i2, .int i3, .int i4, .int i5, .int i6, .int i7, .int i8, .ref a6, .ref a7, .ref a8, .ref a9, .ref a10, .ref a11, .ref a12, .int i9, .ref a13, .int i10, .ref a14, .ref a15, .int i11, .ref a16, .ref a17, .ref a18, .ref a19, .int i12, .int i13, .int i14, .int i15, .int i16, .ref a20, .long j0, .ref a21, .ref a22, .ref a23, .ref a24])), (a21, .inl (cI, 4, .inl xF20)), (a22, .inl (cI, 4, .inl xF21)), (a23, .inl (cJ, 240, .inr (.inl (u9.2.2 0)))), (a24, .inl (cJ, 60, .inr (.inl (u9.2.2 1))))]) A) ([.ref a0, .int p0, .int p1, .int p2, .int p3, .int p4] : List Value).toArray s 0 0 A := ⟨_, rfl⟩
  rw [← hQ]
  have km8 : ((-8) : Int32).toInt = -8 := by decide
  have km7 : ((-7) : Int32).toInt = -7 := by decide
  have km6 : ((-6) : Int32).toInt = -6 := by decide
  have km2 : ((-2) : Int32).toInt = -2 := by decide
  have km1 : ((-1) : Int32).toInt = -1 := by decide
  have k0 : (0 : Int32).toInt = 0 := by decide
  have k1 : (1 : Int32).toInt = 1 := by decide
  have k3 : (3 : Int32).toInt = 3 := by decide
  have k60 : (60 : Int32).toInt = 60 := by decide
  refine lv_iload_n hx hb dX12_paste_0 rfl (lv_at hl 1 rfl) ?_
  have hPc := hP.sub (ws' := []) [] rfl
  have hDc := hD.sub (ws' := []) [] (by decide) rfl
  have hFc := va_free (wc := []) hD hS hA [] rfl
  refine va_calli (va_runS (As := [.int p0]) (rest := []) ⟨hx, hb, hml, hown, hwd⟩ (s_X12_isSlot l dC dI cI cZ cB cJ cM cG p0 s.heap.size) (cwS 1 hwd (gS kr55_12 kr55_13 kr1_5 kr55_14) rfl rfl rfl (by decide +kernel) ⟨Nat.le_of_ble_eq_true rfl, Nat.le_of_ble_eq_true rfl⟩) (kPreS hPc hK hDc) rfl rfl hl.1 rfl (lv_room (Nat.le_of_ble_eq_true rfl)) dX12_paste_1 ⟨Nat.le_of_ble_eq_true rfl, Nat.le_of_ble_eq_true rfl⟩) hS (fun q _ h => hFc q h) hFc (fun r1 u2 t H1 locs ht9 hvm hw hB hz1 hk1 hS => ?_)
  obtain ⟨hw3, hw4, -⟩ := hw
  have hw3 : (0 : Int) ≤ r1.toInt ∧ r1.toInt ≤ 1 := hw3
  obtain ⟨hP1, hD1⟩ := hB
  rw [ht9] at hP1
  obtain ⟨hP, hD⟩ := va_join (wr := [(a0, .inr (12, [.int i0, .ref a1, .ref a2, .ref a3, .ref a4, .int i1, .ref a5, .int i2, .int i3, .int i4, .int i5, .int i6, .int i7, .int i8, .ref a6, .ref a7, .ref a8, .ref a9, .ref a10, .ref a11, .ref a12, .int i9, .ref a13, .int i10, .ref a14, .ref a15, .int i11, .ref a16, .ref a17, .ref a18, .ref a19, .int i12, .int i13, .int i14, .int i15, .int i16, .ref a20, .long j0, .ref a21, .ref a22, .ref a23, .ref a24])), (a21, .inl (cI, 4, .inl xF20)), (a22, .inl (cI, 4, .inl xF21)), (a23, .inl (cJ, 240, .inr (.inl xG22))), (a24, .inl (cJ, 60, .inr (.inl xG23)))]) (w1 := []) hP hD [] [0, 1, 2, 3, 4] rfl rfl (by decide) (by decide) hk1 hFc hP1 hD1
  generalize H1 = H at hP hS ⊢
  have hP : va_P (dC, dI) vwCl [(a0, .inr (12, [.int i0, .ref a1, .ref a2, .ref a3, .ref a4, .int i1, .ref a5, .int i2, .int i3, .int i4, .int i5, .int i6, .int i7, .int i8, .ref a6, .ref a7, .ref a8, .ref a9, .ref a10, .ref a11, .ref a12, .int i9, .ref a13, .int i10, .ref a14, .ref a15, .int i11, .ref a16, .ref a17, .ref a18, .ref a19, .int i12, .int i13, .int i14, .int i15, .int i16, .ref a20, .long j0, .ref a21, .ref a22, .ref a23, .ref a24])), (a21, .inl (cI, 4, .inl xF20)), (a22, .inl (cI, 4, .inl xF21)), (a23, .inl (cJ, 240, .inr (.inl xG22))), (a24, .inl (cJ, 60, .inr (.inl xG23)))] H := hP
  have hD : va_D A [(a0, .inr (12, [.int i0, .ref a1, .ref a2, .ref a3, .ref a4, .int i1, .ref a5, .int i2, .int i3, .int i4, .int i5, .int i6, .int i7, .int i8, .ref a6, .ref a7, .ref a8, .ref a9, .ref a10, .ref a11, .ref a12, .int i9, .ref a13, .int i10, .ref a14, .ref a15, .int i11, .ref a16, .ref a17, .ref a18, .ref a19, .int i12, .int i13, .int i14, .int i15, .int i16, .ref a20, .long j0, .ref a21, .ref a22, .ref a23, .ref a24])), (a21, .inl (cI, 4, .inl xF20)), (a22, .inl (cI, 4, .inl xF21)), (a23, .inl (cJ, 240, .inr (.inl xG22))), (a24, .inl (cJ, 60, .inr (.inl xG23)))] := hD
  refine lv_if_eq (tgt := 14) hx hb dX12_paste_4 (by decide) (fun c5 => ?_) (fun c5 => ?_)
  · rw [ki_eq] at c5
    refine lv_bipush (v := (-2)) hx hb dX12_paste_14 (by decide) ?_
    have hP9 := hP.sub (ws' := [(a0, .inr (12, [.int i0, .ref a1, .ref a2, .ref a3, .ref a4, .int i1, .ref a5, .int i2, .int i3, .int i4, .int i5, .int i6, .int i7, .int i8, .ref a6, .ref a7, .ref a8, .ref a9, .ref a10, .ref a11, .ref a12, .int i9, .ref a13, .int i10, .ref a14, .ref a15, .int i11, .ref a16, .ref a17, .ref a18, .ref a19, .int i12, .int i13, .int i14, .int i15, .int i16, .ref a20, .long j0, .ref a21, .ref a22, .ref a23, .ref a24])), (a21, .inl (cI, 4, .inl xF20)), (a22, .inl (cI, 4, .inl xF21)), (a23, .inl (cJ, 240, .inr (.inl xG22))), (a24, .inl (cJ, 60, .inr (.inl xG23)))]) [0, 1, 2, 3, 4] rfl
    have hD9 := hD.sub (ws' := [(a0, .inr (12, [.int i0, .ref a1, .ref a2, .ref a3, .ref a4, .int i1, .ref a5, .int i2, .int i3, .int i4, .int i5, .int i6, .int i7, .int i8, .ref a6, .ref a7, .ref a8, .ref a9, .ref a10, .ref a11, .ref a12, .int i9, .ref a13, .int i10, .ref a14, .ref a15, .int i11, .ref a16, .ref a17, .ref a18, .ref a19, .int i12, .int i13, .int i14, .int i15, .int i16, .ref a20, .long j0, .ref a21, .ref a22, .ref a23, .ref a24])), (a21, .inl (cI, 4, .inl xF20)), (a22, .inl (cI, 4, .inl xF21)), (a23, .inl (cJ, 240, .inr (.inl xG22))), (a24, .inl (cJ, 60, .inr (.inl xG23)))]) [0, 1, 2, 3, 4] (by decide) rfl
    rw [hQ]
    exact W.iret (v := (-2)) hx hb hr (fun t ht hW => ⟨⟨(-2), (pickG 0 [], pickG (fun _ => 0) [], pickG (fun _ => 0) [xG22, xG23]), rfl, ⟨(show (-8 : Int) ≤ ((-2) : Int32).toInt ∧ ((-2) : Int32).toInt ≤ 0 from ⟨by omega, by omega⟩), trivial⟩, (by rw [ht]; exact hP9), hD9⟩, hS.F ht⟩) hS.2.2 dX12_paste_16
  · rw [ki_eq] at c5
    have hw4q := hw4 (by omega)
    clear hw4
    refine lv_iload_n hx hb dX12_paste_7 rfl (lv_at hl 3 rfl) ?_
    have hPc := hP.sub (ws' := []) [] rfl
    have hDc := hD.sub (ws' := []) [] (by decide) rfl
    have hFc := va_free (wc := []) hD hS hA [] rfl
    refine va_calli (va_runS (As := [.int p2]) (rest := []) ⟨hx, hb, hml, hown, hwd⟩ (s_X12_isSlot l dC dI cI cZ cB cJ cM cG p2 H.size) (cwS 1 hwd (gS kr55_12 kr55_13 kr1_5 kr55_14) rfl rfl rfl (by decide +kernel) ⟨Nat.le_of_ble_eq_true rfl, Nat.le_of_ble_eq_true rfl⟩) (kPreS hPc hK hDc) rfl rfl hl.1 rfl (lv_room (Nat.le_of_ble_eq_true rfl)) dX12_paste_8 ⟨Nat.le_of_ble_eq_true rfl, Nat.le_of_ble_eq_true rfl⟩) hS (fun q _ h => hFc q h) hFc (fun r6 u7 t H1 locs ht9 hvm hw hB hz1 hk1 hS => ?_)
    obtain ⟨hw8, hw9, -⟩ := hw
    have hw8 : (0 : Int) ≤ r6.toInt ∧ r6.toInt ≤ 1 := hw8
    obtain ⟨hP1, hD1⟩ := hB
    rw [ht9] at hP1
    obtain ⟨hP, hD⟩ := va_join (wr := [(a0, .inr (12, [.int i0, .ref a1, .ref a2, .ref a3, .ref a4, .int i1, .ref a5, .int i2, .int i3, .int i4, .int i5, .int i6, .int i7, .int i8, .ref a6, .ref a7, .ref a8, .ref a9, .ref a10, .ref a11, .ref a12, .int i9, .ref a13, .int i10, .ref a14, .ref a15, .int i11, .ref a16, .ref a17, .ref a18, .ref a19, .int i12, .int i13, .int i14, .int i15, .int i16, .ref a20, .long j0, .ref a21, .ref a22, .ref a23, .ref a24])), (a21, .inl (cI, 4, .inl xF20)), (a22, .inl (cI, 4, .inl xF21)), (a23, .inl (cJ, 240, .inr (.inl xG22))), (a24, .inl (cJ, 60, .inr (.inl xG23)))]) (w1 := []) hP hD [] [0, 1, 2, 3, 4] rfl rfl (by decide) (by decide) hk1 hFc hP1 hD1
    generalize H1 = H at hP hS ⊢
    have hP : va_P (dC, dI) vwCl [(a0, .inr (12, [.int i0, .ref a1, .ref a2, .ref a3, .ref a4, .int i1, .ref a5, .int i2, .int i3, .int i4, .int i5, .int i6, .int i7, .int i8, .ref a6, .ref a7, .ref a8, .ref a9, .ref a10, .ref a11, .ref a12, .int i9, .ref a13, .int i10, .ref a14, .ref a15, .int i11, .ref a16, .ref a17, .ref a18, .ref a19, .int i12, .int i13, .int i14, .int i15, .int i16, .ref a20, .long j0, .ref a21, .ref a22, .ref a23, .ref a24])), (a21, .inl (cI, 4, .inl xF20)), (a22, .inl (cI, 4, .inl xF21)), (a23, .inl (cJ, 240, .inr (.inl xG22))), (a24, .inl (cJ, 60, .inr (.inl xG23)))] H := hP
    have hD : va_D A [(a0, .inr (12, [.int i0, .ref a1, .ref a2, .ref a3, .ref a4, .int i1, .ref a5, .int i2, .int i3, .int i4, .int i5, .int i6, .int i7, .int i8, .ref a6, .ref a7, .ref a8, .ref a9, .ref a10, .ref a11, .ref a12, .int i9, .ref a13, .int i10, .ref a14, .ref a15, .int i11, .ref a16, .ref a17, .ref a18, .ref a19, .int i12, .int i13, .int i14, .int i15, .int i16, .ref a20, .long j0, .ref a21, .ref a22, .ref a23, .ref a24])), (a21, .inl (cI, 4, .inl xF20)), (a22, .inl (cI, 4, .inl xF21)), (a23, .inl (cJ, 240, .inr (.inl xG22))), (a24, .inl (cJ, 60, .inr (.inl xG23)))] := hD
    refine lv_if_ne (tgt := 17) hx hb dX12_paste_11 (by decide) (fun c10 => ?_) (fun c10 => ?_)
    · rw [ki_eq] at c10
      have hw9q := hw9 (by omega)
      clear hw9
      refine lv_aload_n hx hb dX12_paste_17 rfl (lv_at hl 0 rfl) ?_
      refine va_get (D := (dC, dI)) (ci := 12) (v := .ref a21) (C := RX12) (T := TX12) (N := 42) hx hb hwd inlX12 hown hK hP 0 rfl rfl 38 (by decide) (hwd _ kr8_0) (fun _ h9 => h9) rfl dX12_paste_18 ?_
      refine lv_iload_n hx hb dX12_paste_21 rfl (lv_at hl 1 rfl) ?_
      have h11 : vp_in p0 4 := (vp_of (by omega) (by omega))
      refine va_iald hx hb hK hP 1 0 rfl rfl h11 dX12_paste_22 ?_
      refine lv_topi (fun x12 ex12 => ?_)
      have ix12 : x12.toInt = (xF20 p0.toInt.toNat).toInt := by rw [ex12]; rfl
      have tx12 : (-1 : Int) ≤ x12.toInt ∧ x12.toInt ≤ 60 := by rw [ex12]; exact p_6 _ (vp_nat h11)
      refine lv_iconst (v := (-1)) hx hb dX12_paste_23 (by decide) ?_
      refine lv_icmp_eq (tgt := 37) hx hb dX12_paste_24 (by decide) (fun c13 => ?_) (fun c13 => ?_)
      · rw [ki_eq] at c13
        refine lv_bipush (v := (-6)) hx hb dX12_paste_37 (by decide) ?_
        have hP9 := hP.sub (ws' := [(a0, .inr (12, [.int i0, .ref a1, .ref a2, .ref a3, .ref a4, .int i1, .ref a5, .int i2, .int i3, .int i4, .int i5, .int i6, .int i7, .int i8, .ref a6, .ref a7, .ref a8, .ref a9, .ref a10, .ref a11, .ref a12, .int i9, .ref a13, .int i10, .ref a14, .ref a15, .int i11, .ref a16, .ref a17, .ref a18, .ref a19, .int i12, .int i13, .int i14, .int i15, .int i16, .ref a20, .long j0, .ref a21, .ref a22, .ref a23, .ref a24])), (a21, .inl (cI, 4, .inl xF20)), (a22, .inl (cI, 4, .inl xF21)), (a23, .inl (cJ, 240, .inr (.inl xG22))), (a24, .inl (cJ, 60, .inr (.inl xG23)))]) [0, 1, 2, 3, 4] rfl
        have hD9 := hD.sub (ws' := [(a0, .inr (12, [.int i0, .ref a1, .ref a2, .ref a3, .ref a4, .int i1, .ref a5, .int i2, .int i3, .int i4, .int i5, .int i6, .int i7, .int i8, .ref a6, .ref a7, .ref a8, .ref a9, .ref a10, .ref a11, .ref a12, .int i9, .ref a13, .int i10, .ref a14, .ref a15, .int i11, .ref a16, .ref a17, .ref a18, .ref a19, .int i12, .int i13, .int i14, .int i15, .int i16, .ref a20, .long j0, .ref a21, .ref a22, .ref a23, .ref a24])), (a21, .inl (cI, 4, .inl xF20)), (a22, .inl (cI, 4, .inl xF21)), (a23, .inl (cJ, 240, .inr (.inl xG22))), (a24, .inl (cJ, 60, .inr (.inl xG23)))]) [0, 1, 2, 3, 4] (by decide) rfl
        rw [hQ]
        exact W.iret (v := (-6)) hx hb hr (fun t ht hW => ⟨⟨(-6), (pickG 0 [], pickG (fun _ => 0) [], pickG (fun _ => 0) [xG22, xG23]), rfl, ⟨(show (-8 : Int) ≤ ((-6) : Int32).toInt ∧ ((-6) : Int32).toInt ≤ 0 from ⟨by omega, by omega⟩), trivial⟩, (by rw [ht]; exact hP9), hD9⟩, hS.F ht⟩) hS.2.2 dX12_paste_39
      · rw [ki_eq] at c13
        refine lv_aload_n hx hb dX12_paste_27 rfl (lv_at hl 0 rfl) ?_
        refine va_get (D := (dC, dI)) (ci := 12) (v := .ref a21) (C := RX12) (T := TX12) (N := 42) hx hb hwd inlX12 hown hK hP 0 rfl rfl 38 (by decide) (hwd _ kr8_0) (fun _ h9 => h9) rfl dX12_paste_28 ?_
        refine lv_iload_n hx hb dX12_paste_31 rfl (lv_at hl 3 rfl) ?_
        have h14 : vp_in p2 4 := (vp_of (by omega) (by omega))
        refine va_iald hx hb hK hP 1 0 rfl rfl h14 dX12_paste_32 ?_
        refine lv_topi (fun x15 ex15 => ?_)
        have ix15 : x15.toInt = (xF20 p2.toInt.toNat).toInt := by rw [ex15]; rfl
        have tx15 : (-1 : Int) ≤ x15.toInt ∧ x15.toInt ≤ 60 := by rw [ex15]; exact p_6 _ (vp_nat h14)
        refine lv_iconst (v := (-1)) hx hb dX12_paste_33 (by decide) ?_
        refine lv_icmp_ne (tgt := 40) hx hb dX12_paste_34 (by decide) (fun c16 => ?_) (fun c16 => ?_)
        · rw [ki_eq] at c16
          refine lv_aload_n hx hb dX12_paste_40 rfl (lv_at hl 0 rfl) ?_
          refine va_get (D := (dC, dI)) (ci := 12) (v := .ref a22) (C := RX12) (T := TX12) (N := 42) hx hb hwd inlX12 hown hK hP 0 rfl rfl 39 (by decide) (hwd _ kr8_1) (fun _ h9 => h9) rfl dX12_paste_41 ?_
          refine lv_iload_n hx hb dX12_paste_44 rfl (lv_at hl 1 rfl) ?_
          have h17 : vp_in p0 4 := (vp_of (by omega) (by omega))
          refine va_iald hx hb hK hP 2 0 rfl rfl h17 dX12_paste_45 ?_
          refine lv_topi (fun x18 ex18 => ?_)
          have tx18 : (0 : Int) ≤ x18.toInt ∧ x18.toInt ≤ 3 := by rw [ex18]; exact p_8 _ (vp_nat h17)
          refine lv_aload_n hx hb dX12_paste_46 rfl (lv_at hl 0 rfl) ?_
          refine va_get (D := (dC, dI)) (ci := 12) (v := .ref a22) (C := RX12) (T := TX12) (N := 42) hx hb hwd inlX12 hown hK hP 0 rfl rfl 39 (by decide) (hwd _ kr8_1) (fun _ h9 => h9) rfl dX12_paste_47 ?_
          refine lv_iload_n hx hb dX12_paste_50 rfl (lv_at hl 3 rfl) ?_
          have h19 : vp_in p2 4 := (vp_of (by omega) (by omega))
          refine va_iald hx hb hK hP 2 0 rfl rfl h19 dX12_paste_51 ?_
          refine lv_topi (fun x20 ex20 => ?_)
          have tx20 : (0 : Int) ≤ x20.toInt ∧ x20.toInt ≤ 3 := by rw [ex20]; exact p_8 _ (vp_nat h19)
          refine lv_icmp_eq (tgt := 58) hx hb dX12_paste_52 (by decide) (fun c21 => ?_) (fun c21 => ?_)
          · rw [ki_eq] at c21
            refine lv_iload_n hx hb dX12_paste_58 rfl (lv_at hl 2 rfl) ?_
            refine lv_if_lt (tgt := 107) hx hb dX12_paste_59 (by decide) (fun c22 => ?_) (fun c22 => ?_)
            · rw [ki_lt] at c22
              refine lv_bipush (v := (-7)) hx hb dX12_paste_107 (by decide) ?_
              have hP9 := hP.sub (ws' := [(a0, .inr (12, [.int i0, .ref a1, .ref a2, .ref a3, .ref a4, .int i1, .ref a5, .int i2, .int i3, .int i4, .int i5, .int i6, .int i7, .int i8, .ref a6, .ref a7, .ref a8, .ref a9, .ref a10, .ref a11, .ref a12, .int i9, .ref a13, .int i10, .ref a14, .ref a15, .int i11, .ref a16, .ref a17, .ref a18, .ref a19, .int i12, .int i13, .int i14, .int i15, .int i16, .ref a20, .long j0, .ref a21, .ref a22, .ref a23, .ref a24])), (a21, .inl (cI, 4, .inl xF20)), (a22, .inl (cI, 4, .inl xF21)), (a23, .inl (cJ, 240, .inr (.inl xG22))), (a24, .inl (cJ, 60, .inr (.inl xG23)))]) [0, 1, 2, 3, 4] rfl
              have hD9 := hD.sub (ws' := [(a0, .inr (12, [.int i0, .ref a1, .ref a2, .ref a3, .ref a4, .int i1, .ref a5, .int i2, .int i3, .int i4, .int i5, .int i6, .int i7, .int i8, .ref a6, .ref a7, .ref a8, .ref a9, .ref a10, .ref a11, .ref a12, .int i9, .ref a13, .int i10, .ref a14, .ref a15, .int i11, .ref a16, .ref a17, .ref a18, .ref a19, .int i12, .int i13, .int i14, .int i15, .int i16, .ref a20, .long j0, .ref a21, .ref a22, .ref a23, .ref a24])), (a21, .inl (cI, 4, .inl xF20)), (a22, .inl (cI, 4, .inl xF21)), (a23, .inl (cJ, 240, .inr (.inl xG22))), (a24, .inl (cJ, 60, .inr (.inl xG23)))]) [0, 1, 2, 3, 4] (by decide) rfl
              rw [hQ]
              exact W.iret (v := (-7)) hx hb hr (fun t ht hW => ⟨⟨(-7), (pickG 0 [], pickG (fun _ => 0) [], pickG (fun _ => 0) [xG22, xG23]), rfl, ⟨(show (-8 : Int) ≤ ((-7) : Int32).toInt ∧ ((-7) : Int32).toInt ≤ 0 from ⟨by omega, by omega⟩), trivial⟩, (by rw [ht]; exact hP9), hD9⟩, hS.F ht⟩) hS.2.2 dX12_paste_109
            · rw [ki_lt] at c22
              refine lv_iload hx hb dX12_paste_62 (lv_at hl 4 rfl) ?_
              refine lv_if_lt (tgt := 107) hx hb dX12_paste_64 (by decide) (fun c23 => ?_) (fun c23 => ?_)
              · rw [ki_lt] at c23
                refine lv_bipush (v := (-7)) hx hb dX12_paste_107 (by decide) ?_
                have hP9 := hP.sub (ws' := [(a0, .inr (12, [.int i0, .ref a1, .ref a2, .ref a3, .ref a4, .int i1, .ref a5, .int i2, .int i3, .int i4, .int i5, .int i6, .int i7, .int i8, .ref a6, .ref a7, .ref a8, .ref a9, .ref a10, .ref a11, .ref a12, .int i9, .ref a13, .int i10, .ref a14, .ref a15, .int i11, .ref a16, .ref a17, .ref a18, .ref a19, .int i12, .int i13, .int i14, .int i15, .int i16, .ref a20, .long j0, .ref a21, .ref a22, .ref a23, .ref a24])), (a21, .inl (cI, 4, .inl xF20)), (a22, .inl (cI, 4, .inl xF21)), (a23, .inl (cJ, 240, .inr (.inl xG22))), (a24, .inl (cJ, 60, .inr (.inl xG23)))]) [0, 1, 2, 3, 4] rfl
                have hD9 := hD.sub (ws' := [(a0, .inr (12, [.int i0, .ref a1, .ref a2, .ref a3, .ref a4, .int i1, .ref a5, .int i2, .int i3, .int i4, .int i5, .int i6, .int i7, .int i8, .ref a6, .ref a7, .ref a8, .ref a9, .ref a10, .ref a11, .ref a12, .int i9, .ref a13, .int i10, .ref a14, .ref a15, .int i11, .ref a16, .ref a17, .ref a18, .ref a19, .int i12, .int i13, .int i14, .int i15, .int i16, .ref a20, .long j0, .ref a21, .ref a22, .ref a23, .ref a24])), (a21, .inl (cI, 4, .inl xF20)), (a22, .inl (cI, 4, .inl xF21)), (a23, .inl (cJ, 240, .inr (.inl xG22))), (a24, .inl (cJ, 60, .inr (.inl xG23)))]) [0, 1, 2, 3, 4] (by decide) rfl
                rw [hQ]
                exact W.iret (v := (-7)) hx hb hr (fun t ht hW => ⟨⟨(-7), (pickG 0 [], pickG (fun _ => 0) [], pickG (fun _ => 0) [xG22, xG23]), rfl, ⟨(show (-8 : Int) ≤ ((-7) : Int32).toInt ∧ ((-7) : Int32).toInt ≤ 0 from ⟨by omega, by omega⟩), trivial⟩, (by rw [ht]; exact hP9), hD9⟩, hS.F ht⟩) hS.2.2 dX12_paste_109
              · rw [ki_lt] at c23
                refine lv_iload hx hb dX12_paste_67 (lv_at hl 5 rfl) ?_
                refine lv_if_lt (tgt := 107) hx hb dX12_paste_69 (by decide) (fun c24 => ?_) (fun c24 => ?_)
                · rw [ki_lt] at c24
                  refine lv_bipush (v := (-7)) hx hb dX12_paste_107 (by decide) ?_
                  have hP9 := hP.sub (ws' := [(a0, .inr (12, [.int i0, .ref a1, .ref a2, .ref a3, .ref a4, .int i1, .ref a5, .int i2, .int i3, .int i4, .int i5, .int i6, .int i7, .int i8, .ref a6, .ref a7, .ref a8, .ref a9, .ref a10, .ref a11, .ref a12, .int i9, .ref a13, .int i10, .ref a14, .ref a15, .int i11, .ref a16, .ref a17, .ref a18, .ref a19, .int i12, .int i13, .int i14, .int i15, .int i16, .ref a20, .long j0, .ref a21, .ref a22, .ref a23, .ref a24])), (a21, .inl (cI, 4, .inl xF20)), (a22, .inl (cI, 4, .inl xF21)), (a23, .inl (cJ, 240, .inr (.inl xG22))), (a24, .inl (cJ, 60, .inr (.inl xG23)))]) [0, 1, 2, 3, 4] rfl
                  have hD9 := hD.sub (ws' := [(a0, .inr (12, [.int i0, .ref a1, .ref a2, .ref a3, .ref a4, .int i1, .ref a5, .int i2, .int i3, .int i4, .int i5, .int i6, .int i7, .int i8, .ref a6, .ref a7, .ref a8, .ref a9, .ref a10, .ref a11, .ref a12, .int i9, .ref a13, .int i10, .ref a14, .ref a15, .int i11, .ref a16, .ref a17, .ref a18, .ref a19, .int i12, .int i13, .int i14, .int i15, .int i16, .ref a20, .long j0, .ref a21, .ref a22, .ref a23, .ref a24])), (a21, .inl (cI, 4, .inl xF20)), (a22, .inl (cI, 4, .inl xF21)), (a23, .inl (cJ, 240, .inr (.inl xG22))), (a24, .inl (cJ, 60, .inr (.inl xG23)))]) [0, 1, 2, 3, 4] (by decide) rfl
                  rw [hQ]
                  exact W.iret (v := (-7)) hx hb hr (fun t ht hW => ⟨⟨(-7), (pickG 0 [], pickG (fun _ => 0) [], pickG (fun _ => 0) [xG22, xG23]), rfl, ⟨(show (-8 : Int) ≤ ((-7) : Int32).toInt ∧ ((-7) : Int32).toInt ≤ 0 from ⟨by omega, by omega⟩), trivial⟩, (by rw [ht]; exact hP9), hD9⟩, hS.F ht⟩) hS.2.2 dX12_paste_109
                · rw [ki_lt] at c24
                  refine lv_iload_n hx hb dX12_paste_72 rfl (lv_at hl 2 rfl) ?_
                  refine lv_i2l hx hb dX12_paste_73 rfl ?_
                  refine lv_iload hx hb dX12_paste_74 (lv_at hl 5 rfl) ?_
                  refine lv_i2l hx hb dX12_paste_76 rfl ?_
                  refine lv_ladd hx hb dX12_paste_77 ?_
                  refine lv_topl (fun x25 ex25 => ?_)
                  refine lv_aload_n hx hb dX12_paste_78 rfl (lv_at hl 0 rfl) ?_
                  refine va_get (D := (dC, dI)) (ci := 12) (v := .ref a21) (C := RX12) (T := TX12) (N := 42) hx hb hwd inlX12 hown hK hP 0 rfl rfl 38 (by decide) (hwd _ kr8_0) (fun _ h9 => h9) rfl dX12_paste_79 ?_
                  refine lv_iload_n hx hb dX12_paste_82 rfl (lv_at hl 1 rfl) ?_
                  have h26 : vp_in p0 4 := (vp_of (by omega) (by omega))
                  refine va_iald hx hb hK hP 1 0 rfl rfl h26 dX12_paste_83 ?_
                  refine lv_topi (nm_r (e' := x12) ex12.symm ?_)
                  refine lv_i2l hx hb dX12_paste_84 rfl ?_
                  refine W.lcmp hx hb dX12_paste_85 ?_
                  refine lv_if_gt (tgt := 107) hx hb dX12_paste_86 (by decide) (fun c27 => ?_) (fun c27 => ?_)
                  · rw [hl_gt ex25] at c27
                    refine lv_bipush (v := (-7)) hx hb dX12_paste_107 (by decide) ?_
                    have hP9 := hP.sub (ws' := [(a0, .inr (12, [.int i0, .ref a1, .ref a2, .ref a3, .ref a4, .int i1, .ref a5, .int i2, .int i3, .int i4, .int i5, .int i6, .int i7, .int i8, .ref a6, .ref a7, .ref a8, .ref a9, .ref a10, .ref a11, .ref a12, .int i9, .ref a13, .int i10, .ref a14, .ref a15, .int i11, .ref a16, .ref a17, .ref a18, .ref a19, .int i12, .int i13, .int i14, .int i15, .int i16, .ref a20, .long j0, .ref a21, .ref a22, .ref a23, .ref a24])), (a21, .inl (cI, 4, .inl xF20)), (a22, .inl (cI, 4, .inl xF21)), (a23, .inl (cJ, 240, .inr (.inl xG22))), (a24, .inl (cJ, 60, .inr (.inl xG23)))]) [0, 1, 2, 3, 4] rfl
                    have hD9 := hD.sub (ws' := [(a0, .inr (12, [.int i0, .ref a1, .ref a2, .ref a3, .ref a4, .int i1, .ref a5, .int i2, .int i3, .int i4, .int i5, .int i6, .int i7, .int i8, .ref a6, .ref a7, .ref a8, .ref a9, .ref a10, .ref a11, .ref a12, .int i9, .ref a13, .int i10, .ref a14, .ref a15, .int i11, .ref a16, .ref a17, .ref a18, .ref a19, .int i12, .int i13, .int i14, .int i15, .int i16, .ref a20, .long j0, .ref a21, .ref a22, .ref a23, .ref a24])), (a21, .inl (cI, 4, .inl xF20)), (a22, .inl (cI, 4, .inl xF21)), (a23, .inl (cJ, 240, .inr (.inl xG22))), (a24, .inl (cJ, 60, .inr (.inl xG23)))]) [0, 1, 2, 3, 4] (by decide) rfl
                    rw [hQ]
                    exact W.iret (v := (-7)) hx hb hr (fun t ht hW => ⟨⟨(-7), (pickG 0 [], pickG (fun _ => 0) [], pickG (fun _ => 0) [xG22, xG23]), rfl, ⟨(show (-8 : Int) ≤ ((-7) : Int32).toInt ∧ ((-7) : Int32).toInt ≤ 0 from ⟨by omega, by omega⟩), trivial⟩, (by rw [ht]; exact hP9), hD9⟩, hS.F ht⟩) hS.2.2 dX12_paste_109
                  · rw [hl_gt ex25] at c27
                    refine lv_iload hx hb dX12_paste_89 (lv_at hl 4 rfl) ?_
                    refine lv_i2l hx hb dX12_paste_91 rfl ?_
                    refine lv_iload hx hb dX12_paste_92 (lv_at hl 5 rfl) ?_
                    refine lv_i2l hx hb dX12_paste_94 rfl ?_
                    refine lv_ladd hx hb dX12_paste_95 ?_
                    refine lv_topl (fun x28 ex28 => ?_)
                    refine lv_aload_n hx hb dX12_paste_96 rfl (lv_at hl 0 rfl) ?_
                    refine va_get (D := (dC, dI)) (ci := 12) (v := .ref a21) (C := RX12) (T := TX12) (N := 42) hx hb hwd inlX12 hown hK hP 0 rfl rfl 38 (by decide) (hwd _ kr8_0) (fun _ h9 => h9) rfl dX12_paste_97 ?_
                    refine lv_iload_n hx hb dX12_paste_100 rfl (lv_at hl 3 rfl) ?_
                    have h29 : vp_in p2 4 := (vp_of (by omega) (by omega))
                    refine va_iald hx hb hK hP 1 0 rfl rfl h29 dX12_paste_101 ?_
                    refine lv_topi (nm_r (e' := x15) ex15.symm ?_)
                    refine lv_i2l hx hb dX12_paste_102 rfl ?_
                    refine W.lcmp hx hb dX12_paste_103 ?_
                    refine lv_if_le (tgt := 110) hx hb dX12_paste_104 (by decide) (fun c30 => ?_) (fun c30 => ?_)
                    · clear c30
                      refine lv_iconst (v := 0) hx hb dX12_paste_110 (by decide) ?_
                      refine lv_istore (lv' := [(6, .int 0), (0, .ref a0), (1, .int p0), (2, .int p1), (3, .int p2), (4, .int p3), (5, .int p4)]) hx hb dX12_paste_111 hl (by decide) rfl (fun ls hl => ?_)
                      have lp1 : ∀ (d : Nat), ∀ (H : Heap) (locs : List Loc) (ls : Array Slot) (w6_1 : Int32) (g1_1 : Nat → Int64), ((0 : Int) ≤ w6_1.toInt ∧ w6_1.toInt ≤ 60) → (60 - w6_1.toInt).toNat < d → va_P (dC, dI) vwCl [(a0, .inr (12, [.int i0, .ref a1, .ref a2, .ref a3, .ref a4, .int i1, .ref a5, .int i2, .int i3, .int i4, .int i5, .int i6, .int i7, .int i8, .ref a6, .ref a7, .ref a8, .ref a9, .ref a10, .ref a11, .ref a12, .int i9, .ref a13, .int i10, .ref a14, .ref a15, .int i11, .ref a16, .ref a17, .ref a18, .ref a19, .int i12, .int i13, .int i14, .int i15, .int i16, .ref a20, .long j0, .ref a21, .ref a22, .ref a23, .ref a24])), (a21, .inl (cI, 4, .inl xF20)), (a22, .inl (cI, 4, .inl xF21)), (a23, .inl (cJ, 240, .inr (.inl xG22))), (a24, .inl (cJ, 60, .inr (.inl g1_1)))] H → va_D A [(a0, .inr (12, [.int i0, .ref a1, .ref a2, .ref a3, .ref a4, .int i1, .ref a5, .int i2, .int i3, .int i4, .int i5, .int i6, .int i7, .int i8, .ref a6, .ref a7, .ref a8, .ref a9, .ref a10, .ref a11, .ref a12, .int i9, .ref a13, .int i10, .ref a14, .ref a15, .int i11, .ref a16, .ref a17, .ref a18, .ref a19, .int i12, .int i13, .int i14, .int i15, .int i16, .ref a20, .long j0, .ref a21, .ref a22, .ref a23, .ref a24])), (a21, .inl (cI, 4, .inl xF20)), (a22, .inl (cI, 4, .inl xF21)), (a23, .inl (cJ, 240, .inr (.inl xG22))), (a24, .inl (cJ, 60, .inr (.inl g1_1)))] → va_S A s.heap H locs → lv_has ls 7 [(0, .ref a0), (1, .int p0), (2, .int p1), (3, .int p2), (4, .int p3), (5, .int p4), (6, .int w6_1)] → W p l e ({ frames := 2, cells := 0, slots := 0, locals := 45 } : Room) s m ([.ref a0, .int p0, .int p1, .int p2, .int p3, .int p4] : List Value).toArray below meth c H locs 0 0 Q (F0 m 113 ls []) := by
                        intro d
                        induction d with
                        | zero =>
                          intro H locs ls w6_1 g1_1 hr_w6_1 hm hP hD hS hl
                          omega
                        | succ d ih1 =>
                          intro H locs ls w6_1 g1_1 hr_w6_1 hm hP hD hS hl
                          refine lv_iload hx hb dX12_paste_113 (lv_at hl 6 rfl) ?_
                          refine lv_iload hx hb dX12_paste_115 (lv_at hl 5 rfl) ?_
                          refine lv_icmp_ge (tgt := 147) hx hb dX12_paste_117 (by decide) (fun c78 => ?_) (fun c78 => ?_)
                          · rw [ki_le] at c78
                            refine lv_iconst (v := 0) hx hb dX12_paste_147 (by decide) ?_
                            refine lv_istore (lv' := [(6, .int 0), (0, .ref a0), (1, .int p0), (2, .int p1), (3, .int p2), (4, .int p3), (5, .int p4)]) hx hb dX12_paste_148 hl (by decide) rfl (fun ls hl => ?_)
                            have lp2 : ∀ (d : Nat), ∀ (H : Heap) (locs : List Loc) (ls : Array Slot) (w6_2 : Int32) (g1_2 : Nat → Int64), ((0 : Int) ≤ w6_2.toInt ∧ w6_2.toInt ≤ 60) → (60 - w6_2.toInt).toNat < d → va_P (dC, dI) vwCl [(a0, .inr (12, [.int i0, .ref a1, .ref a2, .ref a3, .ref a4, .int i1, .ref a5, .int i2, .int i3, .int i4, .int i5, .int i6, .int i7, .int i8, .ref a6, .ref a7, .ref a8, .ref a9, .ref a10, .ref a11, .ref a12, .int i9, .ref a13, .int i10, .ref a14, .ref a15, .int i11, .ref a16, .ref a17, .ref a18, .ref a19, .int i12, .int i13, .int i14, .int i15, .int i16, .ref a20, .long j0, .ref a21, .ref a22, .ref a23, .ref a24])), (a21, .inl (cI, 4, .inl xF20)), (a22, .inl (cI, 4, .inl xF21)), (a23, .inl (cJ, 240, .inr (.inl g1_2))), (a24, .inl (cJ, 60, .inr (.inl g1_1)))] H → va_D A [(a0, .inr (12, [.int i0, .ref a1, .ref a2, .ref a3, .ref a4, .int i1, .ref a5, .int i2, .int i3, .int i4, .int i5, .int i6, .int i7, .int i8, .ref a6, .ref a7, .ref a8, .ref a9, .ref a10, .ref a11, .ref a12, .int i9, .ref a13, .int i10, .ref a14, .ref a15, .int i11, .ref a16, .ref a17, .ref a18, .ref a19, .int i12, .int i13, .int i14, .int i15, .int i16, .ref a20, .long j0, .ref a21, .ref a22, .ref a23, .ref a24])), (a21, .inl (cI, 4, .inl xF20)), (a22, .inl (cI, 4, .inl xF21)), (a23, .inl (cJ, 240, .inr (.inl g1_2))), (a24, .inl (cJ, 60, .inr (.inl g1_1)))] → va_S A s.heap H locs → lv_has ls 7 [(0, .ref a0), (1, .int p0), (2, .int p1), (3, .int p2), (4, .int p3), (5, .int p4), (6, .int w6_2)] → W p l e ({ frames := 2, cells := 0, slots := 0, locals := 45 } : Room) s m ([.ref a0, .int p0, .int p1, .int p2, .int p3, .int p4] : List Value).toArray below meth c H locs 0 0 Q (F0 m 150 ls []) := by
                              intro d
                              induction d with
                              | zero =>
                                intro H locs ls w6_2 g1_2 hr_w6_2 hm hP hD hS hl
                                omega
                              | succ d ih2 =>
                                intro H locs ls w6_2 g1_2 hr_w6_2 hm hP hD hS hl
                                refine lv_iload hx hb dX12_paste_150 (lv_at hl 6 rfl) ?_
                                refine lv_iload hx hb dX12_paste_152 (lv_at hl 5 rfl) ?_
                                refine lv_icmp_ge (tgt := 185) hx hb dX12_paste_154 (by decide) (fun c126 => ?_) (fun c126 => ?_)
                                · rw [ki_le] at c126
                                  refine lv_iconst (v := 0) hx hb dX12_paste_185 (by decide) ?_
                                  have hP9 := hP.sub (ws' := [(a0, .inr (12, [.int i0, .ref a1, .ref a2, .ref a3, .ref a4, .int i1, .ref a5, .int i2, .int i3, .int i4, .int i5, .int i6, .int i7, .int i8, .ref a6, .ref a7, .ref a8, .ref a9, .ref a10, .ref a11, .ref a12, .int i9, .ref a13, .int i10, .ref a14, .ref a15, .int i11, .ref a16, .ref a17, .ref a18, .ref a19, .int i12, .int i13, .int i14, .int i15, .int i16, .ref a20, .long j0, .ref a21, .ref a22, .ref a23, .ref a24])), (a21, .inl (cI, 4, .inl xF20)), (a22, .inl (cI, 4, .inl xF21)), (a23, .inl (cJ, 240, .inr (.inl g1_2))), (a24, .inl (cJ, 60, .inr (.inl g1_1)))]) [0, 1, 2, 3, 4] rfl
                                  have hD9 := hD.sub (ws' := [(a0, .inr (12, [.int i0, .ref a1, .ref a2, .ref a3, .ref a4, .int i1, .ref a5, .int i2, .int i3, .int i4, .int i5, .int i6, .int i7, .int i8, .ref a6, .ref a7, .ref a8, .ref a9, .ref a10, .ref a11, .ref a12, .int i9, .ref a13, .int i10, .ref a14, .ref a15, .int i11, .ref a16, .ref a17, .ref a18, .ref a19, .int i12, .int i13, .int i14, .int i15, .int i16, .ref a20, .long j0, .ref a21, .ref a22, .ref a23, .ref a24])), (a21, .inl (cI, 4, .inl xF20)), (a22, .inl (cI, 4, .inl xF21)), (a23, .inl (cJ, 240, .inr (.inl g1_2))), (a24, .inl (cJ, 60, .inr (.inl g1_1)))]) [0, 1, 2, 3, 4] (by decide) rfl
                                  rw [hQ]
                                  exact W.iret (v := 0) hx hb hr (fun t ht hW => ⟨⟨0, (pickG 0 [], pickG (fun _ => 0) [], pickG (fun _ => 0) [g1_2, g1_1]), rfl, ⟨(show (-8 : Int) ≤ (0 : Int32).toInt ∧ (0 : Int32).toInt ≤ 0 from ⟨by omega, by omega⟩), trivial⟩, (by rw [ht]; exact hP9), hD9⟩, hS.F ht⟩) hS.2.2 dX12_paste_186
                                · rw [ki_le] at c126
                                  refine lv_aload_n hx hb dX12_paste_157 rfl (lv_at hl 0 rfl) ?_
                                  refine va_get (D := (dC, dI)) (ci := 12) (v := .ref a23) (C := RX12) (T := TX12) (N := 42) hx hb hwd inlX12 hown hK hP 0 rfl rfl 40 (by decide) (hwd _ kr8_2) (fun _ h9 => h9) rfl dX12_paste_158 ?_
                                  refine lv_bipush (v := 60) hx hb dX12_paste_161 (by decide) ?_
                                  refine lv_iload_n hx hb dX12_paste_163 rfl (lv_at hl 3 rfl) ?_
                                  refine lv_imul hx hb dX12_paste_164 ?_
                                  refine lv_topi (fun x127 ex127 => ?_)
                                  have tx127 := ia_mull (a := (60 : Int32)) (b := p2) 60 (by decide) (by omega) (by omega)
                                  rw [← ex127] at tx127
                                  refine lv_iload hx hb dX12_paste_165 (lv_at hl 4 rfl) ?_
                                  refine lv_iadd hx hb dX12_paste_167 ?_
                                  refine lv_topi (fun x128 ex128 => ?_)
                                  have tx128 := ia_add (a := x127) (b := p3) (by omega) (by omega)
                                  rw [← ex128] at tx128
                                  refine lv_iload hx hb dX12_paste_168 (lv_at hl 6 rfl) ?_
                                  refine lv_iadd hx hb dX12_paste_170 ?_
                                  refine lv_topi (fun x129 ex129 => ?_)
                                  have tx129 := ia_add (a := x128) (b := w6_2) (by omega) (by omega)
                                  rw [← ex129] at tx129
                                  refine lv_aload_n hx hb dX12_paste_171 rfl (lv_at hl 0 rfl) ?_
                                  refine va_get (D := (dC, dI)) (ci := 12) (v := .ref a24) (C := RX12) (T := TX12) (N := 42) hx hb hwd inlX12 hown hK hP 0 rfl rfl 41 (by decide) (hwd _ kr8_3) (fun _ h9 => h9) rfl dX12_paste_172 ?_
                                  refine lv_iload hx hb dX12_paste_175 (lv_at hl 6 rfl) ?_
                                  have h130 : vp_in w6_2 60 := (vp_of (by omega) (by omega))
                                  refine va_lald hx hb hK hP 4 3 rfl rfl h130 dX12_paste_177 ?_
                                  refine lv_topl (fun x131 ex131 => ?_)
                                  refine va_last hx hb hK hP hD hS 3 3 rfl rfl (vp_of (by omega) (by omega)) dX12_paste_178 (fun H locs hP hD hS => ?_)
                                  obtain ⟨f132, ef132⟩ : ∃ f, f = vp_updL g1_2 x129.toNatClampNeg x131 := ⟨_, rfl⟩
                                  have hP : va_P (dC, dI) vwCl [(a0, .inr (12, [.int i0, .ref a1, .ref a2, .ref a3, .ref a4, .int i1, .ref a5, .int i2, .int i3, .int i4, .int i5, .int i6, .int i7, .int i8, .ref a6, .ref a7, .ref a8, .ref a9, .ref a10, .ref a11, .ref a12, .int i9, .ref a13, .int i10, .ref a14, .ref a15, .int i11, .ref a16, .ref a17, .ref a18, .ref a19, .int i12, .int i13, .int i14, .int i15, .int i16, .ref a20, .long j0, .ref a21, .ref a22, .ref a23, .ref a24])), (a21, .inl (cI, 4, .inl xF20)), (a22, .inl (cI, 4, .inl xF21)), (a23, .inl (cJ, 240, .inr (.inl f132))), (a24, .inl (cJ, 60, .inr (.inl g1_1)))] H := by rw [ef132]; exact hP
                                  have hD : va_D A [(a0, .inr (12, [.int i0, .ref a1, .ref a2, .ref a3, .ref a4, .int i1, .ref a5, .int i2, .int i3, .int i4, .int i5, .int i6, .int i7, .int i8, .ref a6, .ref a7, .ref a8, .ref a9, .ref a10, .ref a11, .ref a12, .int i9, .ref a13, .int i10, .ref a14, .ref a15, .int i11, .ref a16, .ref a17, .ref a18, .ref a19, .int i12, .int i13, .int i14, .int i15, .int i16, .ref a20, .long j0, .ref a21, .ref a22, .ref a23, .ref a24])), (a21, .inl (cI, 4, .inl xF20)), (a22, .inl (cI, 4, .inl xF21)), (a23, .inl (cJ, 240, .inr (.inl f132))), (a24, .inl (cJ, 60, .inr (.inl g1_1)))] := by rw [ef132]; exact hD
                                  obtain ⟨x133, ex133⟩ : ∃ y : Int32, y = w6_2 + 1 := ⟨_, rfl⟩
                                  refine lv_iinc (v := x133) (lv' := [(6, .int x133), (0, .ref a0), (1, .int p0), (2, .int p1), (3, .int p2), (4, .int p3), (5, .int p4)]) hx hb dX12_paste_179 hl (k := 6) rfl (by rw [ex133]; rfl) (by decide) rfl (fun ls hl => ?_)
                                  have tx133 := ia_add (a := w6_2) (b := (1 : Int32)) (by omega) (by omega)
                                  rw [← ex133] at tx133
                                  refine lv_goto (tgt := 150) hx hb dX12_paste_182 (by decide) ?_
                                  exact ih2 _ _ ls x133 f132 (show (0 : Int) ≤ x133.toInt ∧ x133.toInt ≤ 60 from ⟨by omega, by omega⟩) (by omega) (hP.sub (ws' := [(a0, .inr (12, [.int i0, .ref a1, .ref a2, .ref a3, .ref a4, .int i1, .ref a5, .int i2, .int i3, .int i4, .int i5, .int i6, .int i7, .int i8, .ref a6, .ref a7, .ref a8, .ref a9, .ref a10, .ref a11, .ref a12, .int i9, .ref a13, .int i10, .ref a14, .ref a15, .int i11, .ref a16, .ref a17, .ref a18, .ref a19, .int i12, .int i13, .int i14, .int i15, .int i16, .ref a20, .long j0, .ref a21, .ref a22, .ref a23, .ref a24])), (a21, .inl (cI, 4, .inl xF20)), (a22, .inl (cI, 4, .inl xF21)), (a23, .inl (cJ, 240, .inr (.inl f132))), (a24, .inl (cJ, 60, .inr (.inl g1_1)))]) [0, 1, 2, 3, 4] rfl) (hD.sub (ws' := [(a0, .inr (12, [.int i0, .ref a1, .ref a2, .ref a3, .ref a4, .int i1, .ref a5, .int i2, .int i3, .int i4, .int i5, .int i6, .int i7, .int i8, .ref a6, .ref a7, .ref a8, .ref a9, .ref a10, .ref a11, .ref a12, .int i9, .ref a13, .int i10, .ref a14, .ref a15, .int i11, .ref a16, .ref a17, .ref a18, .ref a19, .int i12, .int i13, .int i14, .int i15, .int i16, .ref a20, .long j0, .ref a21, .ref a22, .ref a23, .ref a24])), (a21, .inl (cI, 4, .inl xF20)), (a22, .inl (cI, 4, .inl xF21)), (a23, .inl (cJ, 240, .inr (.inl f132))), (a24, .inl (cJ, 60, .inr (.inl g1_1)))]) [0, 1, 2, 3, 4] (by decide) rfl) hS (lv_sub hl [1, 2, 3, 4, 5, 6, 0] rfl)
                            exact lp2 _ _ _ ls (0) xG22 (show (0 : Int) ≤ (0 : Int32).toInt ∧ (0 : Int32).toInt ≤ 60 from ⟨by omega, by omega⟩) (Nat.lt_succ_self _) (hP.sub (ws' := [(a0, .inr (12, [.int i0, .ref a1, .ref a2, .ref a3, .ref a4, .int i1, .ref a5, .int i2, .int i3, .int i4, .int i5, .int i6, .int i7, .int i8, .ref a6, .ref a7, .ref a8, .ref a9, .ref a10, .ref a11, .ref a12, .int i9, .ref a13, .int i10, .ref a14, .ref a15, .int i11, .ref a16, .ref a17, .ref a18, .ref a19, .int i12, .int i13, .int i14, .int i15, .int i16, .ref a20, .long j0, .ref a21, .ref a22, .ref a23, .ref a24])), (a21, .inl (cI, 4, .inl xF20)), (a22, .inl (cI, 4, .inl xF21)), (a23, .inl (cJ, 240, .inr (.inl xG22))), (a24, .inl (cJ, 60, .inr (.inl g1_1)))]) [0, 1, 2, 3, 4] rfl) (hD.sub (ws' := [(a0, .inr (12, [.int i0, .ref a1, .ref a2, .ref a3, .ref a4, .int i1, .ref a5, .int i2, .int i3, .int i4, .int i5, .int i6, .int i7, .int i8, .ref a6, .ref a7, .ref a8, .ref a9, .ref a10, .ref a11, .ref a12, .int i9, .ref a13, .int i10, .ref a14, .ref a15, .int i11, .ref a16, .ref a17, .ref a18, .ref a19, .int i12, .int i13, .int i14, .int i15, .int i16, .ref a20, .long j0, .ref a21, .ref a22, .ref a23, .ref a24])), (a21, .inl (cI, 4, .inl xF20)), (a22, .inl (cI, 4, .inl xF21)), (a23, .inl (cJ, 240, .inr (.inl xG22))), (a24, .inl (cJ, 60, .inr (.inl g1_1)))]) [0, 1, 2, 3, 4] (by decide) rfl) hS (lv_sub hl [1, 2, 3, 4, 5, 6, 0] rfl)
                          · rw [ki_le] at c78
                            refine lv_aload_n hx hb dX12_paste_120 rfl (lv_at hl 0 rfl) ?_
                            refine va_get (D := (dC, dI)) (ci := 12) (v := .ref a24) (C := RX12) (T := TX12) (N := 42) hx hb hwd inlX12 hown hK hP 0 rfl rfl 41 (by decide) (hwd _ kr8_3) (fun _ h9 => h9) rfl dX12_paste_121 ?_
                            refine lv_iload hx hb dX12_paste_124 (lv_at hl 6 rfl) ?_
                            refine lv_aload_n hx hb dX12_paste_126 rfl (lv_at hl 0 rfl) ?_
                            refine va_get (D := (dC, dI)) (ci := 12) (v := .ref a23) (C := RX12) (T := TX12) (N := 42) hx hb hwd inlX12 hown hK hP 0 rfl rfl 40 (by decide) (hwd _ kr8_2) (fun _ h9 => h9) rfl dX12_paste_127 ?_
                            refine lv_bipush (v := 60) hx hb dX12_paste_130 (by decide) ?_
                            refine lv_iload_n hx hb dX12_paste_132 rfl (lv_at hl 1 rfl) ?_
                            refine lv_imul hx hb dX12_paste_133 ?_
                            refine lv_topi (fun x134 ex134 => ?_)
                            have tx134 := ia_mull (a := (60 : Int32)) (b := p0) 60 (by decide) (by omega) (by omega)
                            rw [← ex134] at tx134
                            refine lv_iload_n hx hb dX12_paste_134 rfl (lv_at hl 2 rfl) ?_
                            refine lv_iadd hx hb dX12_paste_135 ?_
                            refine lv_topi (fun x135 ex135 => ?_)
                            have tx135 := ia_add (a := x134) (b := p1) (by omega) (by omega)
                            rw [← ex135] at tx135
                            refine lv_iload hx hb dX12_paste_136 (lv_at hl 6 rfl) ?_
                            refine lv_iadd hx hb dX12_paste_138 ?_
                            refine lv_topi (fun x136 ex136 => ?_)
                            have tx136 := ia_add (a := x135) (b := w6_1) (by omega) (by omega)
                            rw [← ex136] at tx136
                            have h137 : vp_in x136 240 := (vp_of (by omega) (by omega))
                            refine va_lald hx hb hK hP 3 3 rfl rfl h137 dX12_paste_139 ?_
                            refine lv_topl (fun x138 ex138 => ?_)
                            refine va_last hx hb hK hP hD hS 4 3 rfl rfl (vp_of (by omega) (by omega)) dX12_paste_140 (fun H locs hP hD hS => ?_)
                            obtain ⟨f139, ef139⟩ : ∃ f, f = vp_updL g1_1 w6_1.toNatClampNeg x138 := ⟨_, rfl⟩
                            have hP : va_P (dC, dI) vwCl [(a0, .inr (12, [.int i0, .ref a1, .ref a2, .ref a3, .ref a4, .int i1, .ref a5, .int i2, .int i3, .int i4, .int i5, .int i6, .int i7, .int i8, .ref a6, .ref a7, .ref a8, .ref a9, .ref a10, .ref a11, .ref a12, .int i9, .ref a13, .int i10, .ref a14, .ref a15, .int i11, .ref a16, .ref a17, .ref a18, .ref a19, .int i12, .int i13, .int i14, .int i15, .int i16, .ref a20, .long j0, .ref a21, .ref a22, .ref a23, .ref a24])), (a21, .inl (cI, 4, .inl xF20)), (a22, .inl (cI, 4, .inl xF21)), (a23, .inl (cJ, 240, .inr (.inl xG22))), (a24, .inl (cJ, 60, .inr (.inl f139)))] H := by rw [ef139]; exact hP
                            have hD : va_D A [(a0, .inr (12, [.int i0, .ref a1, .ref a2, .ref a3, .ref a4, .int i1, .ref a5, .int i2, .int i3, .int i4, .int i5, .int i6, .int i7, .int i8, .ref a6, .ref a7, .ref a8, .ref a9, .ref a10, .ref a11, .ref a12, .int i9, .ref a13, .int i10, .ref a14, .ref a15, .int i11, .ref a16, .ref a17, .ref a18, .ref a19, .int i12, .int i13, .int i14, .int i15, .int i16, .ref a20, .long j0, .ref a21, .ref a22, .ref a23, .ref a24])), (a21, .inl (cI, 4, .inl xF20)), (a22, .inl (cI, 4, .inl xF21)), (a23, .inl (cJ, 240, .inr (.inl xG22))), (a24, .inl (cJ, 60, .inr (.inl f139)))] := by rw [ef139]; exact hD
                            obtain ⟨x140, ex140⟩ : ∃ y : Int32, y = w6_1 + 1 := ⟨_, rfl⟩
                            refine lv_iinc (v := x140) (lv' := [(6, .int x140), (0, .ref a0), (1, .int p0), (2, .int p1), (3, .int p2), (4, .int p3), (5, .int p4)]) hx hb dX12_paste_141 hl (k := 6) rfl (by rw [ex140]; rfl) (by decide) rfl (fun ls hl => ?_)
                            have tx140 := ia_add (a := w6_1) (b := (1 : Int32)) (by omega) (by omega)
                            rw [← ex140] at tx140
                            refine lv_goto (tgt := 113) hx hb dX12_paste_144 (by decide) ?_
                            exact ih1 _ _ ls x140 f139 (show (0 : Int) ≤ x140.toInt ∧ x140.toInt ≤ 60 from ⟨by omega, by omega⟩) (by omega) (hP.sub (ws' := [(a0, .inr (12, [.int i0, .ref a1, .ref a2, .ref a3, .ref a4, .int i1, .ref a5, .int i2, .int i3, .int i4, .int i5, .int i6, .int i7, .int i8, .ref a6, .ref a7, .ref a8, .ref a9, .ref a10, .ref a11, .ref a12, .int i9, .ref a13, .int i10, .ref a14, .ref a15, .int i11, .ref a16, .ref a17, .ref a18, .ref a19, .int i12, .int i13, .int i14, .int i15, .int i16, .ref a20, .long j0, .ref a21, .ref a22, .ref a23, .ref a24])), (a21, .inl (cI, 4, .inl xF20)), (a22, .inl (cI, 4, .inl xF21)), (a23, .inl (cJ, 240, .inr (.inl xG22))), (a24, .inl (cJ, 60, .inr (.inl f139)))]) [0, 1, 2, 3, 4] rfl) (hD.sub (ws' := [(a0, .inr (12, [.int i0, .ref a1, .ref a2, .ref a3, .ref a4, .int i1, .ref a5, .int i2, .int i3, .int i4, .int i5, .int i6, .int i7, .int i8, .ref a6, .ref a7, .ref a8, .ref a9, .ref a10, .ref a11, .ref a12, .int i9, .ref a13, .int i10, .ref a14, .ref a15, .int i11, .ref a16, .ref a17, .ref a18, .ref a19, .int i12, .int i13, .int i14, .int i15, .int i16, .ref a20, .long j0, .ref a21, .ref a22, .ref a23, .ref a24])), (a21, .inl (cI, 4, .inl xF20)), (a22, .inl (cI, 4, .inl xF21)), (a23, .inl (cJ, 240, .inr (.inl xG22))), (a24, .inl (cJ, 60, .inr (.inl f139)))]) [0, 1, 2, 3, 4] (by decide) rfl) hS (lv_sub hl [1, 2, 3, 4, 5, 6, 0] rfl)
                      exact lp1 _ _ _ ls (0) xG23 (show (0 : Int) ≤ (0 : Int32).toInt ∧ (0 : Int32).toInt ≤ 60 from ⟨by omega, by omega⟩) (Nat.lt_succ_self _) (hP.sub (ws' := [(a0, .inr (12, [.int i0, .ref a1, .ref a2, .ref a3, .ref a4, .int i1, .ref a5, .int i2, .int i3, .int i4, .int i5, .int i6, .int i7, .int i8, .ref a6, .ref a7, .ref a8, .ref a9, .ref a10, .ref a11, .ref a12, .int i9, .ref a13, .int i10, .ref a14, .ref a15, .int i11, .ref a16, .ref a17, .ref a18, .ref a19, .int i12, .int i13, .int i14, .int i15, .int i16, .ref a20, .long j0, .ref a21, .ref a22, .ref a23, .ref a24])), (a21, .inl (cI, 4, .inl xF20)), (a22, .inl (cI, 4, .inl xF21)), (a23, .inl (cJ, 240, .inr (.inl xG22))), (a24, .inl (cJ, 60, .inr (.inl xG23)))]) [0, 1, 2, 3, 4] rfl) (hD.sub (ws' := [(a0, .inr (12, [.int i0, .ref a1, .ref a2, .ref a3, .ref a4, .int i1, .ref a5, .int i2, .int i3, .int i4, .int i5, .int i6, .int i7, .int i8, .ref a6, .ref a7, .ref a8, .ref a9, .ref a10, .ref a11, .ref a12, .int i9, .ref a13, .int i10, .ref a14, .ref a15, .int i11, .ref a16, .ref a17, .ref a18, .ref a19, .int i12, .int i13, .int i14, .int i15, .int i16, .ref a20, .long j0, .ref a21, .ref a22, .ref a23, .ref a24])), (a21, .inl (cI, 4, .inl xF20)), (a22, .inl (cI, 4, .inl xF21)), (a23, .inl (cJ, 240, .inr (.inl xG22))), (a24, .inl (cJ, 60, .inr (.inl xG23)))]) [0, 1, 2, 3, 4] (by decide) rfl) hS (lv_sub hl [1, 2, 3, 4, 5, 6, 0] rfl)
                    · clear c30
                      refine lv_bipush (v := (-7)) hx hb dX12_paste_107 (by decide) ?_
                      have hP9 := hP.sub (ws' := [(a0, .inr (12, [.int i0, .ref a1, .ref a2, .ref a3, .ref a4, .int i1, .ref a5, .int i2, .int i3, .int i4, .int i5, .int i6, .int i7, .int i8, .ref a6, .ref a7, .ref a8, .ref a9, .ref a10, .ref a11, .ref a12, .int i9, .ref a13, .int i10, .ref a14, .ref a15, .int i11, .ref a16, .ref a17, .ref a18, .ref a19, .int i12, .int i13, .int i14, .int i15, .int i16, .ref a20, .long j0, .ref a21, .ref a22, .ref a23, .ref a24])), (a21, .inl (cI, 4, .inl xF20)), (a22, .inl (cI, 4, .inl xF21)), (a23, .inl (cJ, 240, .inr (.inl xG22))), (a24, .inl (cJ, 60, .inr (.inl xG23)))]) [0, 1, 2, 3, 4] rfl
                      have hD9 := hD.sub (ws' := [(a0, .inr (12, [.int i0, .ref a1, .ref a2, .ref a3, .ref a4, .int i1, .ref a5, .int i2, .int i3, .int i4, .int i5, .int i6, .int i7, .int i8, .ref a6, .ref a7, .ref a8, .ref a9, .ref a10, .ref a11, .ref a12, .int i9, .ref a13, .int i10, .ref a14, .ref a15, .int i11, .ref a16, .ref a17, .ref a18, .ref a19, .int i12, .int i13, .int i14, .int i15, .int i16, .ref a20, .long j0, .ref a21, .ref a22, .ref a23, .ref a24])), (a21, .inl (cI, 4, .inl xF20)), (a22, .inl (cI, 4, .inl xF21)), (a23, .inl (cJ, 240, .inr (.inl xG22))), (a24, .inl (cJ, 60, .inr (.inl xG23)))]) [0, 1, 2, 3, 4] (by decide) rfl
                      rw [hQ]
                      exact W.iret (v := (-7)) hx hb hr (fun t ht hW => ⟨⟨(-7), (pickG 0 [], pickG (fun _ => 0) [], pickG (fun _ => 0) [xG22, xG23]), rfl, ⟨(show (-8 : Int) ≤ ((-7) : Int32).toInt ∧ ((-7) : Int32).toInt ≤ 0 from ⟨by omega, by omega⟩), trivial⟩, (by rw [ht]; exact hP9), hD9⟩, hS.F ht⟩) hS.2.2 dX12_paste_109
          · rw [ki_eq] at c21
            refine lv_bipush (v := (-8)) hx hb dX12_paste_55 (by decide) ?_
            have hP9 := hP.sub (ws' := [(a0, .inr (12, [.int i0, .ref a1, .ref a2, .ref a3, .ref a4, .int i1, .ref a5, .int i2, .int i3, .int i4, .int i5, .int i6, .int i7, .int i8, .ref a6, .ref a7, .ref a8, .ref a9, .ref a10, .ref a11, .ref a12, .int i9, .ref a13, .int i10, .ref a14, .ref a15, .int i11, .ref a16, .ref a17, .ref a18, .ref a19, .int i12, .int i13, .int i14, .int i15, .int i16, .ref a20, .long j0, .ref a21, .ref a22, .ref a23, .ref a24])), (a21, .inl (cI, 4, .inl xF20)), (a22, .inl (cI, 4, .inl xF21)), (a23, .inl (cJ, 240, .inr (.inl xG22))), (a24, .inl (cJ, 60, .inr (.inl xG23)))]) [0, 1, 2, 3, 4] rfl
            have hD9 := hD.sub (ws' := [(a0, .inr (12, [.int i0, .ref a1, .ref a2, .ref a3, .ref a4, .int i1, .ref a5, .int i2, .int i3, .int i4, .int i5, .int i6, .int i7, .int i8, .ref a6, .ref a7, .ref a8, .ref a9, .ref a10, .ref a11, .ref a12, .int i9, .ref a13, .int i10, .ref a14, .ref a15, .int i11, .ref a16, .ref a17, .ref a18, .ref a19, .int i12, .int i13, .int i14, .int i15, .int i16, .ref a20, .long j0, .ref a21, .ref a22, .ref a23, .ref a24])), (a21, .inl (cI, 4, .inl xF20)), (a22, .inl (cI, 4, .inl xF21)), (a23, .inl (cJ, 240, .inr (.inl xG22))), (a24, .inl (cJ, 60, .inr (.inl xG23)))]) [0, 1, 2, 3, 4] (by decide) rfl
            rw [hQ]
            exact W.iret (v := (-8)) hx hb hr (fun t ht hW => ⟨⟨(-8), (pickG 0 [], pickG (fun _ => 0) [], pickG (fun _ => 0) [xG22, xG23]), rfl, ⟨(show (-8 : Int) ≤ ((-8) : Int32).toInt ∧ ((-8) : Int32).toInt ≤ 0 from ⟨by omega, by omega⟩), trivial⟩, (by rw [ht]; exact hP9), hD9⟩, hS.F ht⟩) hS.2.2 dX12_paste_57
        · rw [ki_eq] at c16
          refine lv_bipush (v := (-6)) hx hb dX12_paste_37 (by decide) ?_
          have hP9 := hP.sub (ws' := [(a0, .inr (12, [.int i0, .ref a1, .ref a2, .ref a3, .ref a4, .int i1, .ref a5, .int i2, .int i3, .int i4, .int i5, .int i6, .int i7, .int i8, .ref a6, .ref a7, .ref a8, .ref a9, .ref a10, .ref a11, .ref a12, .int i9, .ref a13, .int i10, .ref a14, .ref a15, .int i11, .ref a16, .ref a17, .ref a18, .ref a19, .int i12, .int i13, .int i14, .int i15, .int i16, .ref a20, .long j0, .ref a21, .ref a22, .ref a23, .ref a24])), (a21, .inl (cI, 4, .inl xF20)), (a22, .inl (cI, 4, .inl xF21)), (a23, .inl (cJ, 240, .inr (.inl xG22))), (a24, .inl (cJ, 60, .inr (.inl xG23)))]) [0, 1, 2, 3, 4] rfl
          have hD9 := hD.sub (ws' := [(a0, .inr (12, [.int i0, .ref a1, .ref a2, .ref a3, .ref a4, .int i1, .ref a5, .int i2, .int i3, .int i4, .int i5, .int i6, .int i7, .int i8, .ref a6, .ref a7, .ref a8, .ref a9, .ref a10, .ref a11, .ref a12, .int i9, .ref a13, .int i10, .ref a14, .ref a15, .int i11, .ref a16, .ref a17, .ref a18, .ref a19, .int i12, .int i13, .int i14, .int i15, .int i16, .ref a20, .long j0, .ref a21, .ref a22, .ref a23, .ref a24])), (a21, .inl (cI, 4, .inl xF20)), (a22, .inl (cI, 4, .inl xF21)), (a23, .inl (cJ, 240, .inr (.inl xG22))), (a24, .inl (cJ, 60, .inr (.inl xG23)))]) [0, 1, 2, 3, 4] (by decide) rfl
          rw [hQ]
          exact W.iret (v := (-6)) hx hb hr (fun t ht hW => ⟨⟨(-6), (pickG 0 [], pickG (fun _ => 0) [], pickG (fun _ => 0) [xG22, xG23]), rfl, ⟨(show (-8 : Int) ≤ ((-6) : Int32).toInt ∧ ((-6) : Int32).toInt ≤ 0 from ⟨by omega, by omega⟩), trivial⟩, (by rw [ht]; exact hP9), hD9⟩, hS.F ht⟩) hS.2.2 dX12_paste_39
    · rw [ki_eq] at c10
      refine lv_bipush (v := (-2)) hx hb dX12_paste_14 (by decide) ?_
      have hP9 := hP.sub (ws' := [(a0, .inr (12, [.int i0, .ref a1, .ref a2, .ref a3, .ref a4, .int i1, .ref a5, .int i2, .int i3, .int i4, .int i5, .int i6, .int i7, .int i8, .ref a6, .ref a7, .ref a8, .ref a9, .ref a10, .ref a11, .ref a12, .int i9, .ref a13, .int i10, .ref a14, .ref a15, .int i11, .ref a16, .ref a17, .ref a18, .ref a19, .int i12, .int i13, .int i14, .int i15, .int i16, .ref a20, .long j0, .ref a21, .ref a22, .ref a23, .ref a24])), (a21, .inl (cI, 4, .inl xF20)), (a22, .inl (cI, 4, .inl xF21)), (a23, .inl (cJ, 240, .inr (.inl xG22))), (a24, .inl (cJ, 60, .inr (.inl xG23)))]) [0, 1, 2, 3, 4] rfl
      have hD9 := hD.sub (ws' := [(a0, .inr (12, [.int i0, .ref a1, .ref a2, .ref a3, .ref a4, .int i1, .ref a5, .int i2, .int i3, .int i4, .int i5, .int i6, .int i7, .int i8, .ref a6, .ref a7, .ref a8, .ref a9, .ref a10, .ref a11, .ref a12, .int i9, .ref a13, .int i10, .ref a14, .ref a15, .int i11, .ref a16, .ref a17, .ref a18, .ref a19, .int i12, .int i13, .int i14, .int i15, .int i16, .ref a20, .long j0, .ref a21, .ref a22, .ref a23, .ref a24])), (a21, .inl (cI, 4, .inl xF20)), (a22, .inl (cI, 4, .inl xF21)), (a23, .inl (cJ, 240, .inr (.inl xG22))), (a24, .inl (cJ, 60, .inr (.inl xG23)))]) [0, 1, 2, 3, 4] (by decide) rfl
      rw [hQ]
      exact W.iret (v := (-2)) hx hb hr (fun t ht hW => ⟨⟨(-2), (pickG 0 [], pickG (fun _ => 0) [], pickG (fun _ => 0) [xG22, xG23]), rfl, ⟨(show (-8 : Int) ≤ ((-2) : Int32).toInt ∧ ((-2) : Int32).toInt ≤ 0 from ⟨by omega, by omega⟩), trivial⟩, (by rw [ht]; exact hP9), hD9⟩, hS.F ht⟩) hS.2.2 dX12_paste_16
theorem dX12_asksMotions_0 : decode cX12_asksMotions 0 = .ok (.iload_n 1, 1) := by decide +kernel
theorem dX12_asksMotions_1 : decode cX12_asksMotions 1 = .ok (.invokestatic 414, 3) := by decide +kernel
theorem dX12_asksMotions_4 : decode cX12_asksMotions 4 = .ok (.ifCond .eq 10, 3) := by decide +kernel
theorem dX12_asksMotions_7 : decode cX12_asksMotions 7 = .ok (.aload_n 0, 1) := by decide +kernel
theorem dX12_asksMotions_8 : decode cX12_asksMotions 8 = .ok (.invokevirtual 248, 3) := by decide +kernel
theorem dX12_asksMotions_11 : decode cX12_asksMotions 11 = .ok (.ifCond .ne 6, 3) := by decide +kernel
theorem dX12_asksMotions_14 : decode cX12_asksMotions 14 = .ok (.bipush (-2), 2) := by decide +kernel
theorem dX12_asksMotions_16 : decode cX12_asksMotions 16 = .ok (.ireturn, 1) := by decide +kernel
theorem dX12_asksMotions_17 : decode cX12_asksMotions 17 = .ok (.aload_n 0, 1) := by decide +kernel
theorem dX12_asksMotions_18 : decode cX12_asksMotions 18 = .ok (.getfield 79, 3) := by decide +kernel
theorem dX12_asksMotions_21 : decode cX12_asksMotions 21 = .ok (.iload_n 1, 1) := by decide +kernel
theorem dX12_asksMotions_22 : decode cX12_asksMotions 22 = .ok (.iaload, 1) := by decide +kernel
theorem dX12_asksMotions_23 : decode cX12_asksMotions 23 = .ok (.iconst 1, 1) := by decide +kernel
theorem dX12_asksMotions_24 : decode cX12_asksMotions 24 = .ok (.if_icmp .ge 6, 3) := by decide +kernel
theorem dX12_asksMotions_27 : decode cX12_asksMotions 27 = .ok (.bipush (-6), 2) := by decide +kernel
theorem dX12_asksMotions_29 : decode cX12_asksMotions 29 = .ok (.ireturn, 1) := by decide +kernel
theorem dX12_asksMotions_30 : decode cX12_asksMotions 30 = .ok (.aload_n 0, 1) := by decide +kernel
theorem dX12_asksMotions_31 : decode cX12_asksMotions 31 = .ok (.getfield 79, 3) := by decide +kernel
theorem dX12_asksMotions_34 : decode cX12_asksMotions 34 = .ok (.iload_n 1, 1) := by decide +kernel
theorem dX12_asksMotions_35 : decode cX12_asksMotions 35 = .ok (.iaload, 1) := by decide +kernel
theorem dX12_asksMotions_36 : decode cX12_asksMotions 36 = .ok (.bipush 8, 2) := by decide +kernel
theorem dX12_asksMotions_38 : decode cX12_asksMotions 38 = .ok (.if_icmp .le 6, 3) := by decide +kernel
theorem dX12_asksMotions_41 : decode cX12_asksMotions 41 = .ok (.bipush (-2), 2) := by decide +kernel
theorem dX12_asksMotions_43 : decode cX12_asksMotions 43 = .ok (.ireturn, 1) := by decide +kernel
theorem dX12_asksMotions_44 : decode cX12_asksMotions 44 = .ok (.iconst 0, 1) := by decide +kernel
theorem dX12_asksMotions_45 : decode cX12_asksMotions 45 = .ok (.istore_n 2, 1) := by decide +kernel
theorem dX12_asksMotions_46 : decode cX12_asksMotions 46 = .ok (.iload_n 2, 1) := by decide +kernel
theorem dX12_asksMotions_47 : decode cX12_asksMotions 47 = .ok (.aload_n 0, 1) := by decide +kernel
theorem dX12_asksMotions_48 : decode cX12_asksMotions 48 = .ok (.getfield 79, 3) := by decide +kernel
theorem dX12_asksMotions_51 : decode cX12_asksMotions 51 = .ok (.iload_n 1, 1) := by decide +kernel
theorem dX12_asksMotions_52 : decode cX12_asksMotions 52 = .ok (.iaload, 1) := by decide +kernel
theorem dX12_asksMotions_53 : decode cX12_asksMotions 53 = .ok (.if_icmp .ge 37, 3) := by decide +kernel
theorem dX12_asksMotions_56 : decode cX12_asksMotions 56 = .ok (.aload_n 0, 1) := by decide +kernel
theorem dX12_asksMotions_57 : decode cX12_asksMotions 57 = .ok (.getfield 85, 3) := by decide +kernel
theorem dX12_asksMotions_60 : decode cX12_asksMotions 60 = .ok (.bipush 60, 2) := by decide +kernel
theorem dX12_asksMotions_62 : decode cX12_asksMotions 62 = .ok (.iload_n 1, 1) := by decide +kernel
theorem dX12_asksMotions_63 : decode cX12_asksMotions 63 = .ok (.imul, 1) := by decide +kernel
theorem dX12_asksMotions_64 : decode cX12_asksMotions 64 = .ok (.iload_n 2, 1) := by decide +kernel
theorem dX12_asksMotions_65 : decode cX12_asksMotions 65 = .ok (.iadd, 1) := by decide +kernel
theorem dX12_asksMotions_66 : decode cX12_asksMotions 66 = .ok (.laload, 1) := by decide +kernel
theorem dX12_asksMotions_67 : decode cX12_asksMotions 67 = .ok (.lconst 1, 1) := by decide +kernel
theorem dX12_asksMotions_68 : decode cX12_asksMotions 68 = .ok (.aload_n 0, 1) := by decide +kernel
theorem dX12_asksMotions_69 : decode cX12_asksMotions 69 = .ok (.getfield 13, 3) := by decide +kernel
theorem dX12_asksMotions_72 : decode cX12_asksMotions 72 = .ok (.iconst 1, 1) := by decide +kernel
theorem dX12_asksMotions_73 : decode cX12_asksMotions 73 = .ok (.iaload, 1) := by decide +kernel
theorem dX12_asksMotions_74 : decode cX12_asksMotions 74 = .ok (.i2l, 1) := by decide +kernel
theorem dX12_asksMotions_75 : decode cX12_asksMotions 75 = .ok (.invokestatic 98, 3) := by decide +kernel
theorem dX12_asksMotions_78 : decode cX12_asksMotions 78 = .ok (.ifCond .ne 6, 3) := by decide +kernel
theorem dX12_asksMotions_81 : decode cX12_asksMotions 81 = .ok (.bipush (-2), 2) := by decide +kernel
theorem dX12_asksMotions_83 : decode cX12_asksMotions 83 = .ok (.ireturn, 1) := by decide +kernel
theorem dX12_asksMotions_84 : decode cX12_asksMotions 84 = .ok (.iinc 2 1, 3) := by decide +kernel
theorem dX12_asksMotions_87 : decode cX12_asksMotions 87 = .ok (.goto (-41), 3) := by decide +kernel
theorem dX12_asksMotions_90 : decode cX12_asksMotions 90 = .ok (.iconst 0, 1) := by decide +kernel
theorem dX12_asksMotions_91 : decode cX12_asksMotions 91 = .ok (.ireturn, 1) := by decide +kernel
set_option maxHeartbeats 4000000 in
set_option maxRecDepth 100000 in
theorem s_X12_asksMotions (l : Launch) (dC : Nat → ClassId) (dI : Nat → Nat → Nat) (cI cZ cB cJ cM cG : ClassId) (a0 a1 a2 a3 a4 a5 a6 a7 a8 a9 a10 a11 a12 a13 a14 a15 a16 a17 a18 a19 a20 a21 a22 a23 a24 : Nat) (i0 i1 i2 i3 i4 i5 i6 i7 i8 i9 i10 i11 i12 i13 i14 i15 i16 : Int32) (j0 : Int64) (xF0 xF20 : Nat → Int32) (xG22 : Nat → Int64) (p0 : Int32) (cp : Int) (sz : Nat) (p_0 : (0 : Int) ≤ i1.toInt ∧ i1.toInt ≤ 1600) (p_1 : (0 : Int) ≤ i2.toInt ∧ i2.toInt ≤ 1600) (p_2 : (0 : Int) ≤ i3.toInt ∧ i3.toInt ≤ 1600) (p_3 : (0 : Int) ≤ i4.toInt ∧ i4.toInt ≤ 1600) (p_4 : (0 : Int) ≤ i5.toInt ∧ i5.toInt ≤ 6) (p_5 : (0 : Int) ≤ i11.toInt ∧ i11.toInt ≤ 59) (p_6 : WI cp xF0) (p_7 : rng xF20 4 (-1) 60) (p_8 : MI xF20) (p_9 : 0 ≤ cp ∧ cp ≤ 2000000000) : Met l yX12_asksMotions (kw yX12_asksMotions cX12_asksMotions 3 (some .int)) ({ frames := 2, cells := 0, slots := 0, locals := 45 } : Room) (va_Pc [.ref a0, .int p0] (kPre dC dI [(cI, .int), (cZ, .boolean), (cB, .byte), (cJ, .long), (cM, .object RX2), (cG, .array .int)] [(a0, .inr (12, [.int i0, .ref a1, .ref a2, .ref a3, .ref a4, .int i1, .ref a5, .int i2, .int i3, .int i4, .int i5, .int i6, .int i7, .int i8, .ref a6, .ref a7, .ref a8, .ref a9, .ref a10, .ref a11, .ref a12, .int i9, .ref a13, .int i10, .ref a14, .ref a15, .int i11, .ref a16, .ref a17, .ref a18, .ref a19, .int i12, .int i13, .int i14, .int i15, .int i16, .ref a20, .long j0, .ref a21, .ref a22, .ref a23, .ref a24])), (a1, .inl (cI, 544, .inl xF0)), (a21, .inl (cI, 4, .inl xF20)), (a23, .inl (cJ, 240, .inr (.inl xG22)))] sz)) (va_Qi (fun (r : Int32) (u9 : Unit) => ((-6 : Int) ≤ r.toInt ∧ r.toInt ≤ 0) ∧ ((r.toInt ≥ 0 → p0.toInt ≥ 0 ∧ p0.toInt ≤ 3 ∧ 1 ≤ wat xF0 1 ∧ 1 ≤ (xF20 p0.toInt.toNat).toInt ∧ (xF20 p0.toInt.toNat).toInt ≤ 8)) ∧ True) (fun u9 t => va_P (dC, dI) vwCl [(a0, .inr (12, [.int i0, .ref a1, .ref a2, .ref a3, .ref a4, .int i1, .ref a5, .int i2, .int i3, .int i4, .int i5, .int i6, .int i7, .int i8, .ref a6, .ref a7, .ref a8, .ref a9, .ref a10, .ref a11, .ref a12, .int i9, .ref a13, .int i10, .ref a14, .ref a15, .int i11, .ref a16, .ref a17, .ref a18, .ref a19, .int i12, .int i13, .int i14, .int i15, .int i16, .ref a20, .long j0, .ref a21, .ref a22, .ref a23, .ref a24])), (a1, .inl (cI, 544, .inl xF0)), (a21, .inl (cI, 4, .inl xF20)), (a23, .inl (cJ, 240, .inr (.inl xG22)))] t.heap ∧ va_D (va_A [(a0, .inr (12, [.int i0, .ref a1, .ref a2, .ref a3, .ref a4, .int i1, .ref a5, .int i2, .int i3, .int i4, .int i5, .int i6, .int i7, .int i8, .ref a6, .ref a7, .ref a8, .ref a9, .ref a10, .ref a11, .ref a12, .int i9, .ref a13, .int i10, .ref a14, .ref a15, .int i11, .ref a16, .ref a17, .ref a18, .ref a19, .int i12, .int i13, .int i14, .int i15, .int i16, .ref a20, .long j0, .ref a21, .ref a22, .ref a23, .ref a24])), (a1, .inl (cI, 544, .inl xF0)), (a21, .inl (cI, 4, .inl xF20)), (a23, .inl (cJ, 240, .inr (.inl xG22)))] sz) [(a0, .inr (12, [.int i0, .ref a1, .ref a2, .ref a3, .ref a4, .int i1, .ref a5, .int i2, .int i3, .int i4, .int i5, .int i6, .int i7, .int i8, .ref a6, .ref a7, .ref a8, .ref a9, .ref a10, .ref a11, .ref a12, .int i9, .ref a13, .int i10, .ref a14, .ref a15, .int i11, .ref a16, .ref a17, .ref a18, .ref a19, .int i12, .int i13, .int i14, .int i15, .int i16, .ref a20, .long j0, .ref a21, .ref a22, .ref a23, .ref a24])), (a1, .inl (cI, 544, .inl xF0)), (a21, .inl (cI, 4, .inl xF20)), (a23, .inl (cJ, 240, .inr (.inl xG22)))]) (va_A [(a0, .inr (12, [.int i0, .ref a1, .ref a2, .ref a3, .ref a4, .int i1, .ref a5, .int i2, .int i3, .int i4, .int i5, .int i6, .int i7, .int i8, .ref a6, .ref a7, .ref a8, .ref a9, .ref a10, .ref a11, .ref a12, .int i9, .ref a13, .int i10, .ref a14, .ref a15, .int i11, .ref a16, .ref a17, .ref a18, .ref a19, .int i12, .int i13, .int i14, .int i15, .int i16, .ref a20, .long j0, .ref a21, .ref a22, .ref a23, .ref a24])), (a1, .inl (cI, 544, .inl xF0)), (a21, .inl (cI, 4, .inl xF20)), (a23, .inl (cJ, 240, .inr (.inl xG22)))] sz)) 0 0 (va_A [(a0, .inr (12, [.int i0, .ref a1, .ref a2, .ref a3, .ref a4, .int i1, .ref a5, .int i2, .int i3, .int i4, .int i5, .int i6, .int i7, .int i8, .ref a6, .ref a7, .ref a8, .ref a9, .ref a10, .ref a11, .ref a12, .int i9, .ref a13, .int i10, .ref a14, .ref a15, .int i11, .ref a16, .ref a17, .ref a18, .ref a19, .int i12, .int i13, .int i14, .int i15, .int i16, .ref a20, .long j0, .ref a21, .ref a22, .ref a23, .ref a24])), (a1, .inl (cI, 544, .inl xF0)), (a21, .inl (cI, 4, .inl xF20)), (a23, .inl (cJ, 240, .inr (.inl xG22)))] sz) := by
  refine kEnter (by decide) (Nat.le_of_ble_eq_true rfl) ?_
  intro p e s m below meth c ls hx hb hr hml hown hlocks hin hwd hsz hP hK hD hl
  subst hsz
  generalize hAe : va_A [(a0, .inr (12, [.int i0, .ref a1, .ref a2, .ref a3, .ref a4, .int i1, .ref a5, .int i2, .int i3, .int i4, .int i5, .int i6, .int i7, .int i8, .ref a6, .ref a7, .ref a8, .ref a9, .ref a10, .ref a11, .ref a12, .int i9, .ref a13, .int i10, .ref a14, .ref a15, .int i11, .ref a16, .ref a17, .ref a18, .ref a19, .int i12, .int i13, .int i14, .int i15, .int i16, .ref a20, .long j0, .ref a21, .ref a22, .ref a23, .ref a24])), (a1, .inl (cI, 544, .inl xF0)), (a21, .inl (cI, 4, .inl xF20)), (a23, .inl (cJ, 240, .inr (.inl xG22)))] s.heap.size = A at hD ⊢
  have hA : ∀ q : Nat, s.heap.size ≤ q → A q := fun q h => by rw [← hAe]; exact Or.inr h
  have hS : va_S A s.heap s.heap [] := va_S.rf
  have hl : lv_has ls 3 [(0, .ref a0), (1, .int p0)] := hl
  obtain ⟨Q, hQ⟩ : ∃ Q, Q = MQ below (va_Qi (fun (r : Int32) (u9 : Unit) => ((-6 : Int) ≤ r.toInt ∧ r.toInt ≤ 0) ∧ ((r.toInt ≥ 0 → p0.toInt ≥ 0 ∧ p0.toInt ≤ 3 ∧ 1 ≤ wat xF0 1 ∧ 1 ≤ (xF20 p0.toInt.toNat).toInt ∧ (xF20 p0.toInt.toNat).toInt ≤ 8)) ∧ True) (fun u9 t => va_P (dC, dI) vwCl [(a0, .inr (12, [.int i0, .ref a1, .ref a2, .ref a3, .ref a4, .int i1, .ref a5, .int i2, .int i3, .int i4, .int i5, .int i6, .int i7, .int i8, .ref a6, .ref a7, .ref a8, .ref a9, .ref a10, .ref a11, .ref a12, .int i9, .ref a13, .int i10, .ref a14, .ref a15, .int i11, .ref a16, .ref a17, .ref a18, .ref a19, .int i12, .int i13, .int i14, .int i15, .int i16, .ref a20, .long j0, .ref a21, .ref a22, .ref a23, .ref a24])), (a1, .inl (cI, 544, .inl xF0)), (a21, .inl (cI, 4, .inl xF20)), (a23, .inl (cJ, 240, .inr (.inl xG22)))] t.heap ∧ va_D A [(a0, .inr (12, [.int i0, .ref a1, .ref a2, .ref a3, .ref a4, .int i1, .ref a5, .int i2, .int i3, .int i4, .int i5, .int i6, .int i7, .int i8, .ref a6, .ref a7, .ref a8, .ref a9, .ref a10, .ref a11, .ref a12, .int i9, .ref a13, .int i10, .ref a14, .ref a15, .int i11, .ref a16, .ref a17, .ref a18, .ref a19, .int i12, .int i13, .int i14, .int i15, .int i16, .ref a20, .long j0, .ref a21, .ref a22, .ref a23, .ref a24])), (a1, .inl (cI, 544, .inl xF0)), (a21, .inl (cI, 4, .inl xF20)), (a23, .inl (cJ, 240, .inr (.inl xG22)))]) A) ([.ref a0, .int p0] : List Value).toArray s 0 0 A := ⟨_, rfl⟩
  rw [← hQ]
  have km6 : ((-6) : Int32).toInt = -6 := by decide
  have km2 : ((-2) : Int32).toInt = -2 := by decide
  have k0 : (0 : Int32).toInt = 0 := by decide
  have k1 : (1 : Int32).toInt = 1 := by decide
  have k3 : (3 : Int32).toInt = 3 := by decide
  have k8 : (8 : Int32).toInt = 8 := by decide
  have k60 : (60 : Int32).toInt = 60 := by decide
  refine lv_iload_n hx hb dX12_asksMotions_0 rfl (lv_at hl 1 rfl) ?_
  have hPc := hP.sub (ws' := []) [] rfl
  have hDc := hD.sub (ws' := []) [] (by decide) rfl
  have hFc := va_free (wc := []) hD hS hA [] rfl
  refine va_calli (va_runS (As := [.int p0]) (rest := []) ⟨hx, hb, hml, hown, hwd⟩ (s_X12_isSlot l dC dI cI cZ cB cJ cM cG p0 s.heap.size) (cwS 1 hwd (gS kr55_12 kr55_13 kr1_5 kr55_14) rfl rfl rfl (by decide +kernel) ⟨Nat.le_of_ble_eq_true rfl, Nat.le_of_ble_eq_true rfl⟩) (kPreS hPc hK hDc) rfl rfl hl.1 rfl (lv_room (Nat.le_of_ble_eq_true rfl)) dX12_asksMotions_1 ⟨Nat.le_of_ble_eq_true rfl, Nat.le_of_ble_eq_true rfl⟩) hS (fun q _ h => hFc q h) hFc (fun r1 u2 t H1 locs ht9 hvm hw hB hz1 hk1 hS => ?_)
  obtain ⟨hw3, hw4, -⟩ := hw
  have hw3 : (0 : Int) ≤ r1.toInt ∧ r1.toInt ≤ 1 := hw3
  obtain ⟨hP1, hD1⟩ := hB
  rw [ht9] at hP1
  obtain ⟨hP, hD⟩ := va_join (wr := [(a0, .inr (12, [.int i0, .ref a1, .ref a2, .ref a3, .ref a4, .int i1, .ref a5, .int i2, .int i3, .int i4, .int i5, .int i6, .int i7, .int i8, .ref a6, .ref a7, .ref a8, .ref a9, .ref a10, .ref a11, .ref a12, .int i9, .ref a13, .int i10, .ref a14, .ref a15, .int i11, .ref a16, .ref a17, .ref a18, .ref a19, .int i12, .int i13, .int i14, .int i15, .int i16, .ref a20, .long j0, .ref a21, .ref a22, .ref a23, .ref a24])), (a1, .inl (cI, 544, .inl xF0)), (a21, .inl (cI, 4, .inl xF20)), (a23, .inl (cJ, 240, .inr (.inl xG22)))]) (w1 := []) hP hD [] [0, 1, 2, 3] rfl rfl (by decide) (by decide) hk1 hFc hP1 hD1
  generalize H1 = H at hP hS ⊢
  have hP : va_P (dC, dI) vwCl [(a0, .inr (12, [.int i0, .ref a1, .ref a2, .ref a3, .ref a4, .int i1, .ref a5, .int i2, .int i3, .int i4, .int i5, .int i6, .int i7, .int i8, .ref a6, .ref a7, .ref a8, .ref a9, .ref a10, .ref a11, .ref a12, .int i9, .ref a13, .int i10, .ref a14, .ref a15, .int i11, .ref a16, .ref a17, .ref a18, .ref a19, .int i12, .int i13, .int i14, .int i15, .int i16, .ref a20, .long j0, .ref a21, .ref a22, .ref a23, .ref a24])), (a1, .inl (cI, 544, .inl xF0)), (a21, .inl (cI, 4, .inl xF20)), (a23, .inl (cJ, 240, .inr (.inl xG22)))] H := hP
  have hD : va_D A [(a0, .inr (12, [.int i0, .ref a1, .ref a2, .ref a3, .ref a4, .int i1, .ref a5, .int i2, .int i3, .int i4, .int i5, .int i6, .int i7, .int i8, .ref a6, .ref a7, .ref a8, .ref a9, .ref a10, .ref a11, .ref a12, .int i9, .ref a13, .int i10, .ref a14, .ref a15, .int i11, .ref a16, .ref a17, .ref a18, .ref a19, .int i12, .int i13, .int i14, .int i15, .int i16, .ref a20, .long j0, .ref a21, .ref a22, .ref a23, .ref a24])), (a1, .inl (cI, 544, .inl xF0)), (a21, .inl (cI, 4, .inl xF20)), (a23, .inl (cJ, 240, .inr (.inl xG22)))] := hD
  refine lv_if_eq (tgt := 14) hx hb dX12_asksMotions_4 (by decide) (fun c5 => ?_) (fun c5 => ?_)
  · rw [ki_eq] at c5
    refine lv_bipush (v := (-2)) hx hb dX12_asksMotions_14 (by decide) ?_
    have hP9 := hP.sub (ws' := [(a0, .inr (12, [.int i0, .ref a1, .ref a2, .ref a3, .ref a4, .int i1, .ref a5, .int i2, .int i3, .int i4, .int i5, .int i6, .int i7, .int i8, .ref a6, .ref a7, .ref a8, .ref a9, .ref a10, .ref a11, .ref a12, .int i9, .ref a13, .int i10, .ref a14, .ref a15, .int i11, .ref a16, .ref a17, .ref a18, .ref a19, .int i12, .int i13, .int i14, .int i15, .int i16, .ref a20, .long j0, .ref a21, .ref a22, .ref a23, .ref a24])), (a1, .inl (cI, 544, .inl xF0)), (a21, .inl (cI, 4, .inl xF20)), (a23, .inl (cJ, 240, .inr (.inl xG22)))]) [0, 1, 2, 3] rfl
    have hD9 := hD.sub (ws' := [(a0, .inr (12, [.int i0, .ref a1, .ref a2, .ref a3, .ref a4, .int i1, .ref a5, .int i2, .int i3, .int i4, .int i5, .int i6, .int i7, .int i8, .ref a6, .ref a7, .ref a8, .ref a9, .ref a10, .ref a11, .ref a12, .int i9, .ref a13, .int i10, .ref a14, .ref a15, .int i11, .ref a16, .ref a17, .ref a18, .ref a19, .int i12, .int i13, .int i14, .int i15, .int i16, .ref a20, .long j0, .ref a21, .ref a22, .ref a23, .ref a24])), (a1, .inl (cI, 544, .inl xF0)), (a21, .inl (cI, 4, .inl xF20)), (a23, .inl (cJ, 240, .inr (.inl xG22)))]) [0, 1, 2, 3] (by decide) rfl
    rw [hQ]
    exact W.iret (v := (-2)) hx hb hr (fun t ht hW => ⟨⟨(-2), (), rfl, ⟨(show (-6 : Int) ≤ ((-2) : Int32).toInt ∧ ((-2) : Int32).toInt ≤ 0 from ⟨by omega, by omega⟩), (show (((-2) : Int32).toInt ≥ 0 → p0.toInt ≥ 0 ∧ p0.toInt ≤ 3 ∧ 1 ≤ wat xF0 1 ∧ 1 ≤ (xF20 p0.toInt.toNat).toInt ∧ (xF20 p0.toInt.toNat).toInt ≤ 8) from by omega), trivial⟩, (by rw [ht]; exact hP9), hD9⟩, hS.F ht⟩) hS.2.2 dX12_asksMotions_16
  · rw [ki_eq] at c5
    have hw4q := hw4 (by omega)
    clear hw4
    refine lv_aload_n hx hb dX12_asksMotions_7 rfl (lv_at hl 0 rfl) ?_
    have hPc := hP.sub (ws' := [(a0, .inr (12, [.int i0, .ref a1, .ref a2, .ref a3, .ref a4, .int i1, .ref a5, .int i2, .int i3, .int i4, .int i5, .int i6, .int i7, .int i8, .ref a6, .ref a7, .ref a8, .ref a9, .ref a10, .ref a11, .ref a12, .int i9, .ref a13, .int i10, .ref a14, .ref a15, .int i11, .ref a16, .ref a17, .ref a18, .ref a19, .int i12, .int i13, .int i14, .int i15, .int i16, .ref a20, .long j0, .ref a21, .ref a22, .ref a23, .ref a24])), (a1, .inl (cI, 544, .inl xF0))]) [0, 1] rfl
    have hDc := hD.sub (ws' := [(a0, .inr (12, [.int i0, .ref a1, .ref a2, .ref a3, .ref a4, .int i1, .ref a5, .int i2, .int i3, .int i4, .int i5, .int i6, .int i7, .int i8, .ref a6, .ref a7, .ref a8, .ref a9, .ref a10, .ref a11, .ref a12, .int i9, .ref a13, .int i10, .ref a14, .ref a15, .int i11, .ref a16, .ref a17, .ref a18, .ref a19, .int i12, .int i13, .int i14, .int i15, .int i16, .ref a20, .long j0, .ref a21, .ref a22, .ref a23, .ref a24])), (a1, .inl (cI, 544, .inl xF0))]) [0, 1] (by decide) rfl
    have hFc := va_free (wc := [(a0, .inr (12, [.int i0, .ref a1, .ref a2, .ref a3, .ref a4, .int i1, .ref a5, .int i2, .int i3, .int i4, .int i5, .int i6, .int i7, .int i8, .ref a6, .ref a7, .ref a8, .ref a9, .ref a10, .ref a11, .ref a12, .int i9, .ref a13, .int i10, .ref a14, .ref a15, .int i11, .ref a16, .ref a17, .ref a18, .ref a19, .int i12, .int i13, .int i14, .int i15, .int i16, .ref a20, .long j0, .ref a21, .ref a22, .ref a23, .ref a24])), (a1, .inl (cI, 544, .inl xF0))]) hD hS hA [0, 1] rfl
    refine va_calli (va_runV (As := []) (rest := []) ⟨hx, hb, hml, hown, hwd⟩ (s_X12_isDrum l dC dI cI cZ cB cJ cM cG a0 a1 a2 a3 a4 a5 a6 a7 a8 a9 a10 a11 a12 a13 a14 a15 a16 a17 a18 a19 a20 a21 a22 a23 a24 i0 i1 i2 i3 i4 i5 i6 i7 i8 i9 i10 i11 i12 i13 i14 i15 i16 j0 xF0 cp H.size (show (0 : Int) ≤ i1.toInt ∧ i1.toInt ≤ 1600 from ⟨by omega, by omega⟩) (show (0 : Int) ≤ i2.toInt ∧ i2.toInt ≤ 1600 from ⟨by omega, by omega⟩) (show (0 : Int) ≤ i3.toInt ∧ i3.toInt ≤ 1600 from ⟨by omega, by omega⟩) (show (0 : Int) ≤ i4.toInt ∧ i4.toInt ≤ 1600 from ⟨by omega, by omega⟩) (show (0 : Int) ≤ i5.toInt ∧ i5.toInt ≤ 6 from ⟨by omega, by omega⟩) (show (0 : Int) ≤ i11.toInt ∧ i11.toInt ≤ 59 from ⟨by omega, by omega⟩) (show WI cp xF0 from p_6) p_9) (cwV 0 hwd (gV kr26_9 kr26_10 kr26_11 kr1_5 kr26_12) rfl rfl rfl (by decide +kernel) ⟨Nat.le_of_ble_eq_true rfl, Nat.le_of_ble_eq_true rfl⟩) (kPreV hPc hK hDc (ci := 12) (q0 := 0) rfl rfl) rfl rfl hl.1 rfl (lv_room (Nat.le_of_ble_eq_true rfl)) dX12_asksMotions_8 ⟨Nat.le_of_ble_eq_true rfl, Nat.le_of_ble_eq_true rfl⟩) hS (fun q _ h => hFc q h) hFc (fun r6 u7 t H1 locs ht9 hvm hw hB hz1 hk1 hS => ?_)
    obtain ⟨hw8, hw9, -⟩ := hw
    have hw8 : (0 : Int) ≤ r6.toInt ∧ r6.toInt ≤ 1 := hw8
    obtain ⟨hP1, hD1⟩ := hB
    rw [ht9] at hP1
    obtain ⟨hP, hD⟩ := va_join (wr := [(a21, .inl (cI, 4, .inl xF20)), (a23, .inl (cJ, 240, .inr (.inl xG22)))]) (w1 := [(a0, .inr (12, [.int i0, .ref a1, .ref a2, .ref a3, .ref a4, .int i1, .ref a5, .int i2, .int i3, .int i4, .int i5, .int i6, .int i7, .int i8, .ref a6, .ref a7, .ref a8, .ref a9, .ref a10, .ref a11, .ref a12, .int i9, .ref a13, .int i10, .ref a14, .ref a15, .int i11, .ref a16, .ref a17, .ref a18, .ref a19, .int i12, .int i13, .int i14, .int i15, .int i16, .ref a20, .long j0, .ref a21, .ref a22, .ref a23, .ref a24])), (a1, .inl (cI, 544, .inl xF0))]) hP hD [0, 1] [2, 3] rfl rfl (by decide) (by decide) hk1 hFc hP1 hD1
    generalize H1 = H at hP hS ⊢
    have hP : va_P (dC, dI) vwCl [(a21, .inl (cI, 4, .inl xF20)), (a23, .inl (cJ, 240, .inr (.inl xG22))), (a0, .inr (12, [.int i0, .ref a1, .ref a2, .ref a3, .ref a4, .int i1, .ref a5, .int i2, .int i3, .int i4, .int i5, .int i6, .int i7, .int i8, .ref a6, .ref a7, .ref a8, .ref a9, .ref a10, .ref a11, .ref a12, .int i9, .ref a13, .int i10, .ref a14, .ref a15, .int i11, .ref a16, .ref a17, .ref a18, .ref a19, .int i12, .int i13, .int i14, .int i15, .int i16, .ref a20, .long j0, .ref a21, .ref a22, .ref a23, .ref a24])), (a1, .inl (cI, 544, .inl xF0))] H := hP
    have hD : va_D A [(a21, .inl (cI, 4, .inl xF20)), (a23, .inl (cJ, 240, .inr (.inl xG22))), (a0, .inr (12, [.int i0, .ref a1, .ref a2, .ref a3, .ref a4, .int i1, .ref a5, .int i2, .int i3, .int i4, .int i5, .int i6, .int i7, .int i8, .ref a6, .ref a7, .ref a8, .ref a9, .ref a10, .ref a11, .ref a12, .int i9, .ref a13, .int i10, .ref a14, .ref a15, .int i11, .ref a16, .ref a17, .ref a18, .ref a19, .int i12, .int i13, .int i14, .int i15, .int i16, .ref a20, .long j0, .ref a21, .ref a22, .ref a23, .ref a24])), (a1, .inl (cI, 544, .inl xF0))] := hD
    refine lv_if_ne (tgt := 17) hx hb dX12_asksMotions_11 (by decide) (fun c10 => ?_) (fun c10 => ?_)
    · rw [ki_eq] at c10
      have hw9q := hw9 (by omega)
      clear hw9
      refine lv_aload_n hx hb dX12_asksMotions_17 rfl (lv_at hl 0 rfl) ?_
      refine va_get (D := (dC, dI)) (ci := 12) (v := .ref a21) (C := RX12) (T := TX12) (N := 42) hx hb hwd inlX12 hown hK hP 2 rfl rfl 38 (by decide) (hwd _ kr8_0) (fun _ h9 => h9) rfl dX12_asksMotions_18 ?_
      refine lv_iload_n hx hb dX12_asksMotions_21 rfl (lv_at hl 1 rfl) ?_
      have h11 : vp_in p0 4 := (vp_of (by omega) (by omega))
      refine va_iald hx hb hK hP 0 0 rfl rfl h11 dX12_asksMotions_22 ?_
      refine lv_topi (fun x12 ex12 => ?_)
      have ix12 : x12.toInt = (xF20 p0.toInt.toNat).toInt := by rw [ex12]; rfl
      have tx12 : (-1 : Int) ≤ x12.toInt ∧ x12.toInt ≤ 60 := by rw [ex12]; exact p_7 _ (vp_nat h11)
      refine lv_iconst (v := 1) hx hb dX12_asksMotions_23 (by decide) ?_
      refine lv_icmp_ge (tgt := 30) hx hb dX12_asksMotions_24 (by decide) (fun c13 => ?_) (fun c13 => ?_)
      · rw [ki_le] at c13
        refine lv_aload_n hx hb dX12_asksMotions_30 rfl (lv_at hl 0 rfl) ?_
        refine va_get (D := (dC, dI)) (ci := 12) (v := .ref a21) (C := RX12) (T := TX12) (N := 42) hx hb hwd inlX12 hown hK hP 2 rfl rfl 38 (by decide) (hwd _ kr8_0) (fun _ h9 => h9) rfl dX12_asksMotions_31 ?_
        refine lv_iload_n hx hb dX12_asksMotions_34 rfl (lv_at hl 1 rfl) ?_
        have h14 : vp_in p0 4 := (vp_of (by omega) (by omega))
        refine va_iald hx hb hK hP 0 0 rfl rfl h14 dX12_asksMotions_35 ?_
        refine lv_topi (nm_r (e' := x12) ex12.symm ?_)
        refine lv_bipush (v := 8) hx hb dX12_asksMotions_36 (by decide) ?_
        refine lv_icmp_le (tgt := 44) hx hb dX12_asksMotions_38 (by decide) (fun c15 => ?_) (fun c15 => ?_)
        · rw [ki_le] at c15
          refine lv_iconst (v := 0) hx hb dX12_asksMotions_44 (by decide) ?_
          refine lv_istore_n (lv' := [(2, .int 0), (0, .ref a0), (1, .int p0)]) hx hb dX12_asksMotions_45 rfl hl (by decide) rfl (fun ls hl => ?_)
          have lp1 : ∀ (d : Nat), ∀ (H : Heap) (locs : List Loc) (ls : Array Slot) (w2_1 : Int32), ((0 : Int) ≤ w2_1.toInt ∧ w2_1.toInt ≤ 8) → (8 - w2_1.toInt).toNat < d → va_P (dC, dI) vwCl [(a21, .inl (cI, 4, .inl xF20)), (a23, .inl (cJ, 240, .inr (.inl xG22))), (a0, .inr (12, [.int i0, .ref a1, .ref a2, .ref a3, .ref a4, .int i1, .ref a5, .int i2, .int i3, .int i4, .int i5, .int i6, .int i7, .int i8, .ref a6, .ref a7, .ref a8, .ref a9, .ref a10, .ref a11, .ref a12, .int i9, .ref a13, .int i10, .ref a14, .ref a15, .int i11, .ref a16, .ref a17, .ref a18, .ref a19, .int i12, .int i13, .int i14, .int i15, .int i16, .ref a20, .long j0, .ref a21, .ref a22, .ref a23, .ref a24])), (a1, .inl (cI, 544, .inl xF0))] H → va_D A [(a21, .inl (cI, 4, .inl xF20)), (a23, .inl (cJ, 240, .inr (.inl xG22))), (a0, .inr (12, [.int i0, .ref a1, .ref a2, .ref a3, .ref a4, .int i1, .ref a5, .int i2, .int i3, .int i4, .int i5, .int i6, .int i7, .int i8, .ref a6, .ref a7, .ref a8, .ref a9, .ref a10, .ref a11, .ref a12, .int i9, .ref a13, .int i10, .ref a14, .ref a15, .int i11, .ref a16, .ref a17, .ref a18, .ref a19, .int i12, .int i13, .int i14, .int i15, .int i16, .ref a20, .long j0, .ref a21, .ref a22, .ref a23, .ref a24])), (a1, .inl (cI, 544, .inl xF0))] → va_S A s.heap H locs → lv_has ls 3 [(0, .ref a0), (1, .int p0), (2, .int w2_1)] → W p l e ({ frames := 2, cells := 0, slots := 0, locals := 45 } : Room) s m ([.ref a0, .int p0] : List Value).toArray below meth c H locs 0 0 Q (F0 m 46 ls []) := by
            intro d
            induction d with
            | zero =>
              intro H locs ls w2_1 hr_w2_1 hm hP hD hS hl
              omega
            | succ d ih1 =>
              intro H locs ls w2_1 hr_w2_1 hm hP hD hS hl
              refine lv_iload_n hx hb dX12_asksMotions_46 rfl (lv_at hl 2 rfl) ?_
              refine lv_aload_n hx hb dX12_asksMotions_47 rfl (lv_at hl 0 rfl) ?_
              refine va_get (D := (dC, dI)) (ci := 12) (v := .ref a21) (C := RX12) (T := TX12) (N := 42) hx hb hwd inlX12 hown hK hP 2 rfl rfl 38 (by decide) (hwd _ kr8_0) (fun _ h9 => h9) rfl dX12_asksMotions_48 ?_
              refine lv_iload_n hx hb dX12_asksMotions_51 rfl (lv_at hl 1 rfl) ?_
              have h95 : vp_in p0 4 := (vp_of (by omega) (by omega))
              refine va_iald hx hb hK hP 0 0 rfl rfl h95 dX12_asksMotions_52 ?_
              refine lv_topi (nm_r (e' := x12) ex12.symm ?_)
              refine lv_icmp_ge (tgt := 90) hx hb dX12_asksMotions_53 (by decide) (fun c96 => ?_) (fun c96 => ?_)
              · rw [ki_le] at c96
                refine lv_iconst (v := 0) hx hb dX12_asksMotions_90 (by decide) ?_
                have hP9 := hP.sub (ws' := [(a0, .inr (12, [.int i0, .ref a1, .ref a2, .ref a3, .ref a4, .int i1, .ref a5, .int i2, .int i3, .int i4, .int i5, .int i6, .int i7, .int i8, .ref a6, .ref a7, .ref a8, .ref a9, .ref a10, .ref a11, .ref a12, .int i9, .ref a13, .int i10, .ref a14, .ref a15, .int i11, .ref a16, .ref a17, .ref a18, .ref a19, .int i12, .int i13, .int i14, .int i15, .int i16, .ref a20, .long j0, .ref a21, .ref a22, .ref a23, .ref a24])), (a1, .inl (cI, 544, .inl xF0)), (a21, .inl (cI, 4, .inl xF20)), (a23, .inl (cJ, 240, .inr (.inl xG22)))]) [2, 3, 0, 1] rfl
                have hD9 := hD.sub (ws' := [(a0, .inr (12, [.int i0, .ref a1, .ref a2, .ref a3, .ref a4, .int i1, .ref a5, .int i2, .int i3, .int i4, .int i5, .int i6, .int i7, .int i8, .ref a6, .ref a7, .ref a8, .ref a9, .ref a10, .ref a11, .ref a12, .int i9, .ref a13, .int i10, .ref a14, .ref a15, .int i11, .ref a16, .ref a17, .ref a18, .ref a19, .int i12, .int i13, .int i14, .int i15, .int i16, .ref a20, .long j0, .ref a21, .ref a22, .ref a23, .ref a24])), (a1, .inl (cI, 544, .inl xF0)), (a21, .inl (cI, 4, .inl xF20)), (a23, .inl (cJ, 240, .inr (.inl xG22)))]) [2, 3, 0, 1] (by decide) rfl
                rw [hQ]
                exact W.iret (v := 0) hx hb hr (fun t ht hW => ⟨⟨0, (), rfl, ⟨(show (-6 : Int) ≤ (0 : Int32).toInt ∧ (0 : Int32).toInt ≤ 0 from ⟨by omega, by omega⟩), (show ((0 : Int32).toInt ≥ 0 → p0.toInt ≥ 0 ∧ p0.toInt ≤ 3 ∧ 1 ≤ wat xF0 1 ∧ 1 ≤ (xF20 p0.toInt.toNat).toInt ∧ (xF20 p0.toInt.toNat).toInt ≤ 8) from by omega), trivial⟩, (by rw [ht]; exact hP9), hD9⟩, hS.F ht⟩) hS.2.2 dX12_asksMotions_91
              · rw [ki_le] at c96
                refine lv_aload_n hx hb dX12_asksMotions_56 rfl (lv_at hl 0 rfl) ?_
                refine va_get (D := (dC, dI)) (ci := 12) (v := .ref a23) (C := RX12) (T := TX12) (N := 42) hx hb hwd inlX12 hown hK hP 2 rfl rfl 40 (by decide) (hwd _ kr8_2) (fun _ h9 => h9) rfl dX12_asksMotions_57 ?_
                refine lv_bipush (v := 60) hx hb dX12_asksMotions_60 (by decide) ?_
                refine lv_iload_n hx hb dX12_asksMotions_62 rfl (lv_at hl 1 rfl) ?_
                refine lv_imul hx hb dX12_asksMotions_63 ?_
                refine lv_topi (fun x97 ex97 => ?_)
                have tx97 := ia_mull (a := (60 : Int32)) (b := p0) 60 (by decide) (by omega) (by omega)
                rw [← ex97] at tx97
                refine lv_iload_n hx hb dX12_asksMotions_64 rfl (lv_at hl 2 rfl) ?_
                refine lv_iadd hx hb dX12_asksMotions_65 ?_
                refine lv_topi (fun x98 ex98 => ?_)
                have tx98 := ia_add (a := x97) (b := w2_1) (by omega) (by omega)
                rw [← ex98] at tx98
                have h99 : vp_in x98 240 := (vp_of (by omega) (by omega))
                refine va_lald hx hb hK hP 1 3 rfl rfl h99 dX12_asksMotions_66 ?_
                refine lv_topl (fun x100 ex100 => ?_)
                refine lv_lconst (v := 1) hx hb dX12_asksMotions_67 (by decide) ?_
                refine lv_aload_n hx hb dX12_asksMotions_68 rfl (lv_at hl 0 rfl) ?_
                refine va_get (D := (dC, dI)) (ci := 12) (v := .ref a1) (C := RX12) (T := TX12) (N := 42) hx hb hwd inlX12 hown hK hP 2 rfl rfl 1 (by decide) (hwd _ kr7_3) (fun _ h9 => h9) rfl dX12_asksMotions_69 ?_
                refine lv_iconst (v := 1) hx hb dX12_asksMotions_72 (by decide) ?_
                have h101 : vp_in (1 : Int32) 544 := (vin (by decide))
                refine va_iald hx hb hK hP 3 0 rfl rfl h101 dX12_asksMotions_73 ?_
                refine lv_topi (fun x102 ex102 => ?_)
                have ix102 := wat_lit (k := 1) ex102 (by decide)
                have wh103 : whd cp xF0 := p_6.1
                unfold whd at wh103
                refine lv_i2l hx hb dX12_asksMotions_74 rfl ?_
                have hPc := hP.sub (ws' := []) [] rfl
                have hDc := hD.sub (ws' := []) [] (by decide) rfl
                have hFc := va_free (wc := []) hD hS hA [] rfl
                refine va_calli (va_runS (As := [.long x100, .long 1, .long x102.toInt64]) (rest := []) ⟨hx, hb, hml, hown, hwd⟩ (s_X12_in l dC dI cI cZ cB cJ cM cG x100 1 x102.toInt64 H.size) (cwS 3 hwd (gS kr9_10 kr9_11 kr1_5 kr9_12) rfl rfl rfl (by decide +kernel) ⟨Nat.le_of_ble_eq_true rfl, Nat.le_of_ble_eq_true rfl⟩) (kPreS hPc hK hDc) rfl rfl hl.1 rfl (lv_room (Nat.le_of_ble_eq_true rfl)) dX12_asksMotions_75 ⟨Nat.le_of_ble_eq_true rfl, Nat.le_of_ble_eq_true rfl⟩) hS (fun q _ h => hFc q h) hFc (fun r104 u105 t H1 locs ht9 hvm hw hB hz1 hk1 hS => ?_)
                obtain ⟨hw106, hw107, hw108, -⟩ := hw
                have hw106 : (0 : Int) ≤ r104.toInt ∧ r104.toInt ≤ 1 := hw106
                have hw107 : r104.toInt ≠ 0 → (1 : Int) ≤ x100.toInt ∧ x100.toInt ≤ x102.toInt := in_int rfl (by decide) (Int32.toInt_toInt64 _) hw107
                have hw108 : r104.toInt ≠ 1 → x100.toInt < (1 : Int) ∨ x102.toInt < x100.toInt := in_int2 rfl (by decide) (Int32.toInt_toInt64 _) hw108
                obtain ⟨hP1, hD1⟩ := hB
                rw [ht9] at hP1
                obtain ⟨hP, hD⟩ := va_join (wr := [(a21, .inl (cI, 4, .inl xF20)), (a23, .inl (cJ, 240, .inr (.inl xG22))), (a0, .inr (12, [.int i0, .ref a1, .ref a2, .ref a3, .ref a4, .int i1, .ref a5, .int i2, .int i3, .int i4, .int i5, .int i6, .int i7, .int i8, .ref a6, .ref a7, .ref a8, .ref a9, .ref a10, .ref a11, .ref a12, .int i9, .ref a13, .int i10, .ref a14, .ref a15, .int i11, .ref a16, .ref a17, .ref a18, .ref a19, .int i12, .int i13, .int i14, .int i15, .int i16, .ref a20, .long j0, .ref a21, .ref a22, .ref a23, .ref a24])), (a1, .inl (cI, 544, .inl xF0))]) (w1 := []) hP hD [] [0, 1, 2, 3] rfl rfl (by decide) (by decide) hk1 hFc hP1 hD1
                generalize H1 = H at hP hS ⊢
                have hP : va_P (dC, dI) vwCl [(a21, .inl (cI, 4, .inl xF20)), (a23, .inl (cJ, 240, .inr (.inl xG22))), (a0, .inr (12, [.int i0, .ref a1, .ref a2, .ref a3, .ref a4, .int i1, .ref a5, .int i2, .int i3, .int i4, .int i5, .int i6, .int i7, .int i8, .ref a6, .ref a7, .ref a8, .ref a9, .ref a10, .ref a11, .ref a12, .int i9, .ref a13, .int i10, .ref a14, .ref a15, .int i11, .ref a16, .ref a17, .ref a18, .ref a19, .int i12, .int i13, .int i14, .int i15, .int i16, .ref a20, .long j0, .ref a21, .ref a22, .ref a23, .ref a24])), (a1, .inl (cI, 544, .inl xF0))] H := hP
                have hD : va_D A [(a21, .inl (cI, 4, .inl xF20)), (a23, .inl (cJ, 240, .inr (.inl xG22))), (a0, .inr (12, [.int i0, .ref a1, .ref a2, .ref a3, .ref a4, .int i1, .ref a5, .int i2, .int i3, .int i4, .int i5, .int i6, .int i7, .int i8, .ref a6, .ref a7, .ref a8, .ref a9, .ref a10, .ref a11, .ref a12, .int i9, .ref a13, .int i10, .ref a14, .ref a15, .int i11, .ref a16, .ref a17, .ref a18, .ref a19, .int i12, .int i13, .int i14, .int i15, .int i16, .ref a20, .long j0, .ref a21, .ref a22, .ref a23, .ref a24])), (a1, .inl (cI, 544, .inl xF0))] := hD
                refine lv_if_ne (tgt := 84) hx hb dX12_asksMotions_78 (by decide) (fun c109 => ?_) (fun c109 => ?_)
                · rw [ki_eq] at c109
                  have hw107q := hw107 (by omega)
                  clear hw107
                  obtain ⟨x110, ex110⟩ : ∃ y : Int32, y = w2_1 + 1 := ⟨_, rfl⟩
                  refine lv_iinc (v := x110) (lv' := [(2, .int x110), (0, .ref a0), (1, .int p0)]) hx hb dX12_asksMotions_84 hl (k := 2) rfl (by rw [ex110]; rfl) (by decide) rfl (fun ls hl => ?_)
                  have tx110 := ia_add (a := w2_1) (b := (1 : Int32)) (by omega) (by omega)
                  rw [← ex110] at tx110
                  refine lv_goto (tgt := 46) hx hb dX12_asksMotions_87 (by decide) ?_
                  exact ih1 _ _ ls x110 (show (0 : Int) ≤ x110.toInt ∧ x110.toInt ≤ 8 from ⟨by omega, by omega⟩) (by omega) (hP.sub (ws' := [(a21, .inl (cI, 4, .inl xF20)), (a23, .inl (cJ, 240, .inr (.inl xG22))), (a0, .inr (12, [.int i0, .ref a1, .ref a2, .ref a3, .ref a4, .int i1, .ref a5, .int i2, .int i3, .int i4, .int i5, .int i6, .int i7, .int i8, .ref a6, .ref a7, .ref a8, .ref a9, .ref a10, .ref a11, .ref a12, .int i9, .ref a13, .int i10, .ref a14, .ref a15, .int i11, .ref a16, .ref a17, .ref a18, .ref a19, .int i12, .int i13, .int i14, .int i15, .int i16, .ref a20, .long j0, .ref a21, .ref a22, .ref a23, .ref a24])), (a1, .inl (cI, 544, .inl xF0))]) [0, 1, 2, 3] rfl) (hD.sub (ws' := [(a21, .inl (cI, 4, .inl xF20)), (a23, .inl (cJ, 240, .inr (.inl xG22))), (a0, .inr (12, [.int i0, .ref a1, .ref a2, .ref a3, .ref a4, .int i1, .ref a5, .int i2, .int i3, .int i4, .int i5, .int i6, .int i7, .int i8, .ref a6, .ref a7, .ref a8, .ref a9, .ref a10, .ref a11, .ref a12, .int i9, .ref a13, .int i10, .ref a14, .ref a15, .int i11, .ref a16, .ref a17, .ref a18, .ref a19, .int i12, .int i13, .int i14, .int i15, .int i16, .ref a20, .long j0, .ref a21, .ref a22, .ref a23, .ref a24])), (a1, .inl (cI, 544, .inl xF0))]) [0, 1, 2, 3] (by decide) rfl) hS (lv_sub hl [1, 2, 0] rfl)
                · rw [ki_eq] at c109
                  have hw108q := hw108 (by omega)
                  clear hw108
                  refine lv_bipush (v := (-2)) hx hb dX12_asksMotions_81 (by decide) ?_
                  have hP9 := hP.sub (ws' := [(a0, .inr (12, [.int i0, .ref a1, .ref a2, .ref a3, .ref a4, .int i1, .ref a5, .int i2, .int i3, .int i4, .int i5, .int i6, .int i7, .int i8, .ref a6, .ref a7, .ref a8, .ref a9, .ref a10, .ref a11, .ref a12, .int i9, .ref a13, .int i10, .ref a14, .ref a15, .int i11, .ref a16, .ref a17, .ref a18, .ref a19, .int i12, .int i13, .int i14, .int i15, .int i16, .ref a20, .long j0, .ref a21, .ref a22, .ref a23, .ref a24])), (a1, .inl (cI, 544, .inl xF0)), (a21, .inl (cI, 4, .inl xF20)), (a23, .inl (cJ, 240, .inr (.inl xG22)))]) [2, 3, 0, 1] rfl
                  have hD9 := hD.sub (ws' := [(a0, .inr (12, [.int i0, .ref a1, .ref a2, .ref a3, .ref a4, .int i1, .ref a5, .int i2, .int i3, .int i4, .int i5, .int i6, .int i7, .int i8, .ref a6, .ref a7, .ref a8, .ref a9, .ref a10, .ref a11, .ref a12, .int i9, .ref a13, .int i10, .ref a14, .ref a15, .int i11, .ref a16, .ref a17, .ref a18, .ref a19, .int i12, .int i13, .int i14, .int i15, .int i16, .ref a20, .long j0, .ref a21, .ref a22, .ref a23, .ref a24])), (a1, .inl (cI, 544, .inl xF0)), (a21, .inl (cI, 4, .inl xF20)), (a23, .inl (cJ, 240, .inr (.inl xG22)))]) [2, 3, 0, 1] (by decide) rfl
                  rw [hQ]
                  exact W.iret (v := (-2)) hx hb hr (fun t ht hW => ⟨⟨(-2), (), rfl, ⟨(show (-6 : Int) ≤ ((-2) : Int32).toInt ∧ ((-2) : Int32).toInt ≤ 0 from ⟨by omega, by omega⟩), (show (((-2) : Int32).toInt ≥ 0 → p0.toInt ≥ 0 ∧ p0.toInt ≤ 3 ∧ 1 ≤ wat xF0 1 ∧ 1 ≤ (xF20 p0.toInt.toNat).toInt ∧ (xF20 p0.toInt.toNat).toInt ≤ 8) from by omega), trivial⟩, (by rw [ht]; exact hP9), hD9⟩, hS.F ht⟩) hS.2.2 dX12_asksMotions_83
          exact lp1 _ _ _ ls (0) (show (0 : Int) ≤ (0 : Int32).toInt ∧ (0 : Int32).toInt ≤ 8 from ⟨by omega, by omega⟩) (Nat.lt_succ_self _) (hP.sub (ws' := [(a21, .inl (cI, 4, .inl xF20)), (a23, .inl (cJ, 240, .inr (.inl xG22))), (a0, .inr (12, [.int i0, .ref a1, .ref a2, .ref a3, .ref a4, .int i1, .ref a5, .int i2, .int i3, .int i4, .int i5, .int i6, .int i7, .int i8, .ref a6, .ref a7, .ref a8, .ref a9, .ref a10, .ref a11, .ref a12, .int i9, .ref a13, .int i10, .ref a14, .ref a15, .int i11, .ref a16, .ref a17, .ref a18, .ref a19, .int i12, .int i13, .int i14, .int i15, .int i16, .ref a20, .long j0, .ref a21, .ref a22, .ref a23, .ref a24])), (a1, .inl (cI, 544, .inl xF0))]) [0, 1, 2, 3] rfl) (hD.sub (ws' := [(a21, .inl (cI, 4, .inl xF20)), (a23, .inl (cJ, 240, .inr (.inl xG22))), (a0, .inr (12, [.int i0, .ref a1, .ref a2, .ref a3, .ref a4, .int i1, .ref a5, .int i2, .int i3, .int i4, .int i5, .int i6, .int i7, .int i8, .ref a6, .ref a7, .ref a8, .ref a9, .ref a10, .ref a11, .ref a12, .int i9, .ref a13, .int i10, .ref a14, .ref a15, .int i11, .ref a16, .ref a17, .ref a18, .ref a19, .int i12, .int i13, .int i14, .int i15, .int i16, .ref a20, .long j0, .ref a21, .ref a22, .ref a23, .ref a24])), (a1, .inl (cI, 544, .inl xF0))]) [0, 1, 2, 3] (by decide) rfl) hS (lv_sub hl [1, 2, 0] rfl)
        · rw [ki_le] at c15
          refine lv_bipush (v := (-2)) hx hb dX12_asksMotions_41 (by decide) ?_
          have hP9 := hP.sub (ws' := [(a0, .inr (12, [.int i0, .ref a1, .ref a2, .ref a3, .ref a4, .int i1, .ref a5, .int i2, .int i3, .int i4, .int i5, .int i6, .int i7, .int i8, .ref a6, .ref a7, .ref a8, .ref a9, .ref a10, .ref a11, .ref a12, .int i9, .ref a13, .int i10, .ref a14, .ref a15, .int i11, .ref a16, .ref a17, .ref a18, .ref a19, .int i12, .int i13, .int i14, .int i15, .int i16, .ref a20, .long j0, .ref a21, .ref a22, .ref a23, .ref a24])), (a1, .inl (cI, 544, .inl xF0)), (a21, .inl (cI, 4, .inl xF20)), (a23, .inl (cJ, 240, .inr (.inl xG22)))]) [2, 3, 0, 1] rfl
          have hD9 := hD.sub (ws' := [(a0, .inr (12, [.int i0, .ref a1, .ref a2, .ref a3, .ref a4, .int i1, .ref a5, .int i2, .int i3, .int i4, .int i5, .int i6, .int i7, .int i8, .ref a6, .ref a7, .ref a8, .ref a9, .ref a10, .ref a11, .ref a12, .int i9, .ref a13, .int i10, .ref a14, .ref a15, .int i11, .ref a16, .ref a17, .ref a18, .ref a19, .int i12, .int i13, .int i14, .int i15, .int i16, .ref a20, .long j0, .ref a21, .ref a22, .ref a23, .ref a24])), (a1, .inl (cI, 544, .inl xF0)), (a21, .inl (cI, 4, .inl xF20)), (a23, .inl (cJ, 240, .inr (.inl xG22)))]) [2, 3, 0, 1] (by decide) rfl
          rw [hQ]
          exact W.iret (v := (-2)) hx hb hr (fun t ht hW => ⟨⟨(-2), (), rfl, ⟨(show (-6 : Int) ≤ ((-2) : Int32).toInt ∧ ((-2) : Int32).toInt ≤ 0 from ⟨by omega, by omega⟩), (show (((-2) : Int32).toInt ≥ 0 → p0.toInt ≥ 0 ∧ p0.toInt ≤ 3 ∧ 1 ≤ wat xF0 1 ∧ 1 ≤ (xF20 p0.toInt.toNat).toInt ∧ (xF20 p0.toInt.toNat).toInt ≤ 8) from by omega), trivial⟩, (by rw [ht]; exact hP9), hD9⟩, hS.F ht⟩) hS.2.2 dX12_asksMotions_43
      · rw [ki_le] at c13
        refine lv_bipush (v := (-6)) hx hb dX12_asksMotions_27 (by decide) ?_
        have hP9 := hP.sub (ws' := [(a0, .inr (12, [.int i0, .ref a1, .ref a2, .ref a3, .ref a4, .int i1, .ref a5, .int i2, .int i3, .int i4, .int i5, .int i6, .int i7, .int i8, .ref a6, .ref a7, .ref a8, .ref a9, .ref a10, .ref a11, .ref a12, .int i9, .ref a13, .int i10, .ref a14, .ref a15, .int i11, .ref a16, .ref a17, .ref a18, .ref a19, .int i12, .int i13, .int i14, .int i15, .int i16, .ref a20, .long j0, .ref a21, .ref a22, .ref a23, .ref a24])), (a1, .inl (cI, 544, .inl xF0)), (a21, .inl (cI, 4, .inl xF20)), (a23, .inl (cJ, 240, .inr (.inl xG22)))]) [2, 3, 0, 1] rfl
        have hD9 := hD.sub (ws' := [(a0, .inr (12, [.int i0, .ref a1, .ref a2, .ref a3, .ref a4, .int i1, .ref a5, .int i2, .int i3, .int i4, .int i5, .int i6, .int i7, .int i8, .ref a6, .ref a7, .ref a8, .ref a9, .ref a10, .ref a11, .ref a12, .int i9, .ref a13, .int i10, .ref a14, .ref a15, .int i11, .ref a16, .ref a17, .ref a18, .ref a19, .int i12, .int i13, .int i14, .int i15, .int i16, .ref a20, .long j0, .ref a21, .ref a22, .ref a23, .ref a24])), (a1, .inl (cI, 544, .inl xF0)), (a21, .inl (cI, 4, .inl xF20)), (a23, .inl (cJ, 240, .inr (.inl xG22)))]) [2, 3, 0, 1] (by decide) rfl
        rw [hQ]
        exact W.iret (v := (-6)) hx hb hr (fun t ht hW => ⟨⟨(-6), (), rfl, ⟨(show (-6 : Int) ≤ ((-6) : Int32).toInt ∧ ((-6) : Int32).toInt ≤ 0 from ⟨by omega, by omega⟩), (show (((-6) : Int32).toInt ≥ 0 → p0.toInt ≥ 0 ∧ p0.toInt ≤ 3 ∧ 1 ≤ wat xF0 1 ∧ 1 ≤ (xF20 p0.toInt.toNat).toInt ∧ (xF20 p0.toInt.toNat).toInt ≤ 8) from by omega), trivial⟩, (by rw [ht]; exact hP9), hD9⟩, hS.F ht⟩) hS.2.2 dX12_asksMotions_29
    · rw [ki_eq] at c10
      refine lv_bipush (v := (-2)) hx hb dX12_asksMotions_14 (by decide) ?_
      have hP9 := hP.sub (ws' := [(a0, .inr (12, [.int i0, .ref a1, .ref a2, .ref a3, .ref a4, .int i1, .ref a5, .int i2, .int i3, .int i4, .int i5, .int i6, .int i7, .int i8, .ref a6, .ref a7, .ref a8, .ref a9, .ref a10, .ref a11, .ref a12, .int i9, .ref a13, .int i10, .ref a14, .ref a15, .int i11, .ref a16, .ref a17, .ref a18, .ref a19, .int i12, .int i13, .int i14, .int i15, .int i16, .ref a20, .long j0, .ref a21, .ref a22, .ref a23, .ref a24])), (a1, .inl (cI, 544, .inl xF0)), (a21, .inl (cI, 4, .inl xF20)), (a23, .inl (cJ, 240, .inr (.inl xG22)))]) [2, 3, 0, 1] rfl
      have hD9 := hD.sub (ws' := [(a0, .inr (12, [.int i0, .ref a1, .ref a2, .ref a3, .ref a4, .int i1, .ref a5, .int i2, .int i3, .int i4, .int i5, .int i6, .int i7, .int i8, .ref a6, .ref a7, .ref a8, .ref a9, .ref a10, .ref a11, .ref a12, .int i9, .ref a13, .int i10, .ref a14, .ref a15, .int i11, .ref a16, .ref a17, .ref a18, .ref a19, .int i12, .int i13, .int i14, .int i15, .int i16, .ref a20, .long j0, .ref a21, .ref a22, .ref a23, .ref a24])), (a1, .inl (cI, 544, .inl xF0)), (a21, .inl (cI, 4, .inl xF20)), (a23, .inl (cJ, 240, .inr (.inl xG22)))]) [2, 3, 0, 1] (by decide) rfl
      rw [hQ]
      exact W.iret (v := (-2)) hx hb hr (fun t ht hW => ⟨⟨(-2), (), rfl, ⟨(show (-6 : Int) ≤ ((-2) : Int32).toInt ∧ ((-2) : Int32).toInt ≤ 0 from ⟨by omega, by omega⟩), (show (((-2) : Int32).toInt ≥ 0 → p0.toInt ≥ 0 ∧ p0.toInt ≤ 3 ∧ 1 ≤ wat xF0 1 ∧ 1 ≤ (xF20 p0.toInt.toNat).toInt ∧ (xF20 p0.toInt.toNat).toInt ≤ 8) from by omega), trivial⟩, (by rw [ht]; exact hP9), hD9⟩, hS.F ht⟩) hS.2.2 dX12_asksMotions_16
