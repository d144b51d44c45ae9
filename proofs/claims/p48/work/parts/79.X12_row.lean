set_option maxHeartbeats 4000000 in
set_option maxRecDepth 100000 in
theorem s_X12_rowP (l : Launch) (dC : Nat → ClassId) (dI : Nat → Nat → Nat) (cI cZ cB cJ cM cG : ClassId) (a0 a1 a2 a3 a4 a5 a6 a7 a8 a9 a10 a11 a12 a13 a14 a15 a16 a17 a18 a19 a20 a21 a22 a23 a24 : Nat) (i0 i1 i2 i3 i4 i5 i6 i7 i8 i9 i10 i11 i12 i13 i14 i15 i16 : Int32) (j0 : Int64) (xF20 xF21 : Nat → Int32) (xG22 : Nat → Int64) (p0 p1 p2 : Int32) (sz : Nat) (p_0 : (0 : Int) ≤ i1.toInt ∧ i1.toInt ≤ 1600) (p_1 : (0 : Int) ≤ i2.toInt ∧ i2.toInt ≤ 1600) (p_2 : (0 : Int) ≤ i3.toInt ∧ i3.toInt ≤ 1600) (p_3 : (0 : Int) ≤ i4.toInt ∧ i4.toInt ≤ 1600) (p_4 : (0 : Int) ≤ i5.toInt ∧ i5.toInt ≤ 6) (p_5 : (0 : Int) ≤ i7.toInt ∧ i7.toInt ≤ 3) (p_6 : (0 : Int) ≤ i11.toInt ∧ i11.toInt ≤ 59) (p_7 : rng xF20 4 (-1) 60) (p_8 : MI xF20) (p_9 : rng xF21 4 0 3) : Met l yX12_row (kw yX12_row cX12_row 5 (some .int)) ({ frames := 2, cells := 0, slots := 0, locals := 45 } : Room) (va_Pc [.ref a0, .int p0, .int p1, .int p2] (kPre dC dI [(cI, .int), (cZ, .boolean), (cB, .byte), (cJ, .long), (cM, .object RX2), (cG, .array .int)] [(a0, .inr (12, [.int i0, .ref a1, .ref a2, .ref a3, .ref a4, .int i1, .ref a5, .int i2, .int i3, .int i4, .int i5, .int i6, .int i7, .int i8, .ref a6, .ref a7, .ref a8, .ref a9, .ref a10, .ref a11, .ref a12, .int i9, .ref a13, .int i10, .ref a14, .ref a15, .int i11, .ref a16, .ref a17, .ref a18, .ref a19, .int i12, .int i13, .int i14, .int i15, .int i16, .ref a20, .long j0, .ref a21, .ref a22, .ref a23, .ref a24])), (a21, .inl (cI, 4, .inl xF20)), (a22, .inl (cI, 4, .inl xF21)), (a23, .inl (cJ, 240, .inr (.inl xG22)))] sz)) (va_Qi (fun (r : Int32) (u9 : (Nat → Int32) × (Nat → Nat → Int32) × (Nat → Nat → Int64)) => ((-3 : Int) ≤ r.toInt ∧ r.toInt ≤ 0) ∧ (rng (u9.2.1 0) 4 (-1) 60) ∧ (MI (u9.2.1 0)) ∧ (rng (u9.2.1 1) 4 0 3) ∧ (PUT (SLOK p0 p1 p2) xF20 (u9.2.1 0) p0 p2) ∧ (PUT (SLOK p0 p1 p2) xF21 (u9.2.1 1) p0 p1) ∧ True) (fun u9 t => va_P (dC, dI) vwCl [(a0, .inr (12, [.int i0, .ref a1, .ref a2, .ref a3, .ref a4, .int i1, .ref a5, .int i2, .int i3, .int i4, .int i5, .int i6, .int i7, .int i8, .ref a6, .ref a7, .ref a8, .ref a9, .ref a10, .ref a11, .ref a12, .int i9, .ref a13, .int i10, .ref a14, .ref a15, .int i11, .ref a16, .ref a17, .ref a18, .ref a19, .int i12, .int i13, .int i14, .int i15, .int i16, .ref a20, .long j0, .ref a21, .ref a22, .ref a23, .ref a24])), (a21, .inl (cI, 4, .inl (u9.2.1 0))), (a22, .inl (cI, 4, .inl (u9.2.1 1))), (a23, .inl (cJ, 240, .inr (.inl (u9.2.2 0))))] t.heap ∧ va_D (va_A [(a0, .inr (12, [.int i0, .ref a1, .ref a2, .ref a3, .ref a4, .int i1, .ref a5, .int i2, .int i3, .int i4, .int i5, .int i6, .int i7, .int i8, .ref a6, .ref a7, .ref a8, .ref a9, .ref a10, .ref a11, .ref a12, .int i9, .ref a13, .int i10, .ref a14, .ref a15, .int i11, .ref a16, .ref a17, .ref a18, .ref a19, .int i12, .int i13, .int i14, .int i15, .int i16, .ref a20, .long j0, .ref a21, .ref a22, .ref a23, .ref a24])), (a21, .inl (cI, 4, .inl xF20)), (a22, .inl (cI, 4, .inl xF21)), (a23, .inl (cJ, 240, .inr (.inl xG22)))] sz) [(a0, .inr (12, [.int i0, .ref a1, .ref a2, .ref a3, .ref a4, .int i1, .ref a5, .int i2, .int i3, .int i4, .int i5, .int i6, .int i7, .int i8, .ref a6, .ref a7, .ref a8, .ref a9, .ref a10, .ref a11, .ref a12, .int i9, .ref a13, .int i10, .ref a14, .ref a15, .int i11, .ref a16, .ref a17, .ref a18, .ref a19, .int i12, .int i13, .int i14, .int i15, .int i16, .ref a20, .long j0, .ref a21, .ref a22, .ref a23, .ref a24])), (a21, .inl (cI, 4, .inl (u9.2.1 0))), (a22, .inl (cI, 4, .inl (u9.2.1 1))), (a23, .inl (cJ, 240, .inr (.inl (u9.2.2 0))))]) (va_A [(a0, .inr (12, [.int i0, .ref a1, .ref a2, .ref a3, .ref a4, .int i1, .ref a5, .int i2, .int i3, .int i4, .int i5, .int i6, .int i7, .int i8, .ref a6, .ref a7, .ref a8, .ref a9, .ref a10, .ref a11, .ref a12, .int i9, .ref a13, .int i10, .ref a14, .ref a15, .int i11, .ref a16, .ref a17, .ref a18, .ref a19, .int i12, .int i13, .int i14, .int i15, .int i16, .ref a20, .long j0, .ref a21, .ref a22, .ref a23, .ref a24])), (a21, .inl (cI, 4, .inl xF20)), (a22, .inl (cI, 4, .inl xF21)), (a23, .inl (cJ, 240, .inr (.inl xG22)))] sz)) 0 0 (va_A [(a0, .inr (12, [.int i0, .ref a1, .ref a2, .ref a3, .ref a4, .int i1, .ref a5, .int i2, .int i3, .int i4, .int i5, .int i6, .int i7, .int i8, .ref a6, .ref a7, .ref a8, .ref a9, .ref a10, .ref a11, .ref a12, .int i9, .ref a13, .int i10, .ref a14, .ref a15, .int i11, .ref a16, .ref a17, .ref a18, .ref a19, .int i12, .int i13, .int i14, .int i15, .int i16, .ref a20, .long j0, .ref a21, .ref a22, .ref a23, .ref a24])), (a21, .inl (cI, 4, .inl xF20)), (a22, .inl (cI, 4, .inl xF21)), (a23, .inl (cJ, 240, .inr (.inl xG22)))] sz) := by
  refine kEnter (by decide) (Nat.le_of_ble_eq_true rfl) ?_
  intro p e s m below meth c ls hx hb hr hml hown hlocks hin hwd hsz hP hK hD hl
  subst hsz
  generalize hAe : va_A [(a0, .inr (12, [.int i0, .ref a1, .ref a2, .ref a3, .ref a4, .int i1, .ref a5, .int i2, .int i3, .int i4, .int i5, .int i6, .int i7, .int i8, .ref a6, .ref a7, .ref a8, .ref a9, .ref a10, .ref a11, .ref a12, .int i9, .ref a13, .int i10, .ref a14, .ref a15, .int i11, .ref a16, .ref a17, .ref a18, .ref a19, .int i12, .int i13, .int i14, .int i15, .int i16, .ref a20, .long j0, .ref a21, .ref a22, .ref a23, .ref a24])), (a21, .inl (cI, 4, .inl xF20)), (a22, .inl (cI, 4, .inl xF21)), (a23, .inl (cJ, 240, .inr (.inl xG22)))] s.heap.size = A at hD ⊢
  have hA : ∀ q : Nat, s.heap.size ≤ q → A q := fun q h => by rw [← hAe]; exact Or.inr h
  have hS : va_S A s.heap s.heap [] := va_S.rf
  have hl : lv_has ls 5 [(0, .ref a0), (1, .int p0), (2, .int p1), (3, .int p2)] := hl
  obtain ⟨Q, hQ⟩ : ∃ Q, Q = MQ below (va_Qi (fun (r : Int32) (u9 : (Nat → Int32) × (Nat → Nat → Int32) × (Nat → Nat → Int64)) => ((-3 : Int) ≤ r.toInt ∧ r.toInt ≤ 0) ∧ (rng (u9.2.1 0) 4 (-1) 60) ∧ (MI (u9.2.1 0)) ∧ (rng (u9.2.1 1) 4 0 3) ∧ (PUT (SLOK p0 p1 p2) xF20 (u9.2.1 0) p0 p2) ∧ (PUT (SLOK p0 p1 p2) xF21 (u9.2.1 1) p0 p1) ∧ True) (fun u9 t => va_P (dC, dI) vwCl [(a0, .inr (12, [.int i0, .ref a1, .ref a2, .ref a3, .ref a4, .int i1, .ref a5, .int i2, .int i3, .int i4, .int i5, .int i6, .int i7, .int i8, .ref a6, .ref a7, .ref a8, .ref a9, .ref a10, .ref a11, .ref a12, .int i9, .ref a13, .int i10, .ref a14, .ref a15, .int i11, .ref a16, .ref a17, .ref a18, .ref a19, .int i12, .int i13, .int i14, .int i15, .int i16, .ref a20, .long j0, .ref a21, .ref a22, .ref a23, .ref a24])), (a21, .inl (cI, 4, .inl (u9.2.1 0))), (a22, .inl (cI, 4, .inl (u9.2.1 1))), (a23, .inl (cJ, 240, .inr (.inl (u9.2.2 0))))] t.heap ∧ va_D A [(a0, .inr (12, [.int i0, .ref a1, .ref a2, .ref a3, .ref a4, .int i1, .ref a5, .int i2, .int i3, .int i4, .int i5, .int i6, .int i7, .int i8, .ref a6, .ref a7, .ref a8, .ref a9, .ref a10, .ref a11, .ref a12, .int i9, .ref a13, .int i10, .ref a14, .ref a15, .int i11, .ref a16, .ref a17, .ref a18, .ref a19, .int i12, .int i13, .int i14, .int i15, .int i16, .ref a20, .long j0, .ref a21, .ref a22, .ref a23, .ref a24])), (a21, .inl (cI, 4, .inl (u9.2.1 0))), (a22, .inl (cI, 4, .inl (u9.2.1 1))), (a23, .inl (cJ, 240, .inr (.inl (u9.2.2 0))))]) A) ([.ref a0, .int p0, .int p1, .int p2] : List Value).toArray s 0 0 A := ⟨_, rfl⟩
  rw [← hQ]
  have km3 : ((-3) : Int32).toInt = -3 := by decide
  have km2 : ((-2) : Int32).toInt = -2 := by decide
  have k0 : (0 : Int32).toInt = 0 := by decide
  have k1 : (1 : Int32).toInt = 1 := by decide
  have k3 : (3 : Int32).toInt = 3 := by decide
  have k60 : (60 : Int32).toInt = 60 := by decide
  refine lv_iload_n hx hb dX12_row_0 rfl (lv_at hl 1 rfl) ?_
  have hPc := hP.sub (ws' := []) [] rfl
  have hDc := hD.sub (ws' := []) [] (by decide) rfl
  have hFc := va_free (wc := []) hD hS hA [] rfl
  refine va_calli (va_runS (As := [.int p0]) (rest := []) ⟨hx, hb, hml, hown, hwd⟩ (s_X12_isSlotR l dC dI cI cZ cB cJ cM cG p0 s.heap.size) (cwS 1 hwd (gS kr65_0 kr65_1 kr5_23 kr65_2) rfl rfl rfl (by decide +kernel) ⟨Nat.le_of_ble_eq_true rfl, Nat.le_of_ble_eq_true rfl⟩) (kPreS hPc hK hDc) rfl rfl hl.1 rfl (lv_room (Nat.le_of_ble_eq_true rfl)) dX12_row_1 ⟨Nat.le_of_ble_eq_true rfl, Nat.le_of_ble_eq_true rfl⟩) hS (fun q _ h => hFc q h) hFc (fun r1 u2 t H1 locs ht9 hvm hw hB hz1 hk1 hS => ?_)
  obtain ⟨hw3, hw4, hw5, -⟩ := hw
  replace hw3 : (0 : Int) ≤ r1.toInt ∧ r1.toInt ≤ 1 := hw3
  obtain ⟨hP1, hD1⟩ := hB
  rw [ht9] at hP1
  obtain ⟨hP, hD⟩ := va_join (wr := [(a0, .inr (12, [.int i0, .ref a1, .ref a2, .ref a3, .ref a4, .int i1, .ref a5, .int i2, .int i3, .int i4, .int i5, .int i6, .int i7, .int i8, .ref a6, .ref a7, .ref a8, .ref a9, .ref a10, .ref a11, .ref a12, .int i9, .ref a13, .int i10, .ref a14, .ref a15, .int i11, .ref a16, .ref a17, .ref a18, .ref a19, .int i12, .int i13, .int i14, .int i15, .int i16, .ref a20, .long j0, .ref a21, .ref a22, .ref a23, .ref a24])), (a21, .inl (cI, 4, .inl xF20)), (a22, .inl (cI, 4, .inl xF21)), (a23, .inl (cJ, 240, .inr (.inl xG22)))]) (w1 := []) hP hD [] [0, 1, 2, 3] rfl rfl (by decide) (by decide) hk1 hFc hP1 hD1
  generalize H1 = H at hP hS ⊢
  replace hP : va_P (dC, dI) vwCl [(a0, .inr (12, [.int i0, .ref a1, .ref a2, .ref a3, .ref a4, .int i1, .ref a5, .int i2, .int i3, .int i4, .int i5, .int i6, .int i7, .int i8, .ref a6, .ref a7, .ref a8, .ref a9, .ref a10, .ref a11, .ref a12, .int i9, .ref a13, .int i10, .ref a14, .ref a15, .int i11, .ref a16, .ref a17, .ref a18, .ref a19, .int i12, .int i13, .int i14, .int i15, .int i16, .ref a20, .long j0, .ref a21, .ref a22, .ref a23, .ref a24])), (a21, .inl (cI, 4, .inl xF20)), (a22, .inl (cI, 4, .inl xF21)), (a23, .inl (cJ, 240, .inr (.inl xG22)))] H := hP
  replace hD : va_D A [(a0, .inr (12, [.int i0, .ref a1, .ref a2, .ref a3, .ref a4, .int i1, .ref a5, .int i2, .int i3, .int i4, .int i5, .int i6, .int i7, .int i8, .ref a6, .ref a7, .ref a8, .ref a9, .ref a10, .ref a11, .ref a12, .int i9, .ref a13, .int i10, .ref a14, .ref a15, .int i11, .ref a16, .ref a17, .ref a18, .ref a19, .int i12, .int i13, .int i14, .int i15, .int i16, .ref a20, .long j0, .ref a21, .ref a22, .ref a23, .ref a24])), (a21, .inl (cI, 4, .inl xF20)), (a22, .inl (cI, 4, .inl xF21)), (a23, .inl (cJ, 240, .inr (.inl xG22)))] := hD
  refine lv_if_eq (tgt := 25) hx hb dX12_row_4 (by decide) (fun c6 => ?_) (fun c6 => ?_)
  · rw [ki_eq] at c6
    have hw5q := hw5 (by omega)
    clear hw5
    refine lv_bipush (v := (-2)) hx hb dX12_row_25 (by decide) ?_
    have hP9 := hP.sub (ws' := [(a0, .inr (12, [.int i0, .ref a1, .ref a2, .ref a3, .ref a4, .int i1, .ref a5, .int i2, .int i3, .int i4, .int i5, .int i6, .int i7, .int i8, .ref a6, .ref a7, .ref a8, .ref a9, .ref a10, .ref a11, .ref a12, .int i9, .ref a13, .int i10, .ref a14, .ref a15, .int i11, .ref a16, .ref a17, .ref a18, .ref a19, .int i12, .int i13, .int i14, .int i15, .int i16, .ref a20, .long j0, .ref a21, .ref a22, .ref a23, .ref a24])), (a21, .inl (cI, 4, .inl xF20)), (a22, .inl (cI, 4, .inl xF21)), (a23, .inl (cJ, 240, .inr (.inl xG22)))]) [0, 1, 2, 3] rfl
    have hD9 := hD.sub (ws' := [(a0, .inr (12, [.int i0, .ref a1, .ref a2, .ref a3, .ref a4, .int i1, .ref a5, .int i2, .int i3, .int i4, .int i5, .int i6, .int i7, .int i8, .ref a6, .ref a7, .ref a8, .ref a9, .ref a10, .ref a11, .ref a12, .int i9, .ref a13, .int i10, .ref a14, .ref a15, .int i11, .ref a16, .ref a17, .ref a18, .ref a19, .int i12, .int i13, .int i14, .int i15, .int i16, .ref a20, .long j0, .ref a21, .ref a22, .ref a23, .ref a24])), (a21, .inl (cI, 4, .inl xF20)), (a22, .inl (cI, 4, .inl xF21)), (a23, .inl (cJ, 240, .inr (.inl xG22)))]) [0, 1, 2, 3] (by decide) rfl
    rw [hQ]
    exact W.iret (v := (-2)) hx hb hr (fun t ht hW => ⟨⟨(-2), (pickG 0 [], pickG (fun _ => 0) [xF20, xF21], pickG (fun _ => 0) [xG22]), rfl, ⟨(show (-3 : Int) ≤ ((-2) : Int32).toInt ∧ ((-2) : Int32).toInt ≤ 0 from ⟨by omega, by omega⟩), (show rng xF20 4 (-1) 60 from p_7), (show MI xF20 from trivial), (show rng xF21 4 0 3 from p_9), (show PUT (SLOK p0 p1 p2) xF20 xF20 p0 p2 from PUT_out (by unfold SLOK; omega)), (show PUT (SLOK p0 p1 p2) xF21 xF21 p0 p1 from PUT_out (by unfold SLOK; omega)), trivial⟩, (by rw [ht]; exact hP9), hD9⟩, hS.F ht⟩) hS.2.2 dX12_row_27
  · rw [ki_eq] at c6
    have hw4q := hw4 (by omega)
    clear hw4
    refine lv_iload_n hx hb dX12_row_7 rfl (lv_at hl 2 rfl) ?_
    refine lv_i2l hx hb dX12_row_8 rfl ?_
    refine lv_lconst (v := 0) hx hb dX12_row_9 (by decide) ?_
    refine lv_ldc2 (v := 3) hx hb hown (hwd _ kr65_3) dX12_row_10 ?_
    have hPc := hP.sub (ws' := []) [] rfl
    have hDc := hD.sub (ws' := []) [] (by decide) rfl
    have hFc := va_free (wc := []) hD hS hA [] rfl
    refine va_calli (va_runS (As := [.long p1.toInt64, .long 0, .long 3]) (rest := []) ⟨hx, hb, hml, hown, hwd⟩ (s_X12_in l dC dI cI cZ cB cJ cM cG p1.toInt64 0 3 H.size) (cwS 3 hwd (gS kr51_0 kr51_1 kr5_23 kr51_2) rfl rfl rfl (by decide +kernel) ⟨Nat.le_of_ble_eq_true rfl, Nat.le_of_ble_eq_true rfl⟩) (kPreS hPc hK hDc) rfl rfl hl.1 rfl (lv_room (Nat.le_of_ble_eq_true rfl)) dX12_row_13 ⟨Nat.le_of_ble_eq_true rfl, Nat.le_of_ble_eq_true rfl⟩) hS (fun q _ h => hFc q h) hFc (fun r7 u8 t H1 locs ht9 hvm hw hB hz1 hk1 hS => ?_)
    obtain ⟨hw9, hw10, hw11, -⟩ := hw
    replace hw9 : (0 : Int) ≤ r7.toInt ∧ r7.toInt ≤ 1 := hw9
    have hw10 : r7.toInt ≠ 0 → (0 : Int) ≤ p1.toInt ∧ p1.toInt ≤ (3 : Int) := in_int (Int32.toInt_toInt64 _) (by decide) (by decide) hw10
    have hw11 : r7.toInt ≠ 1 → p1.toInt < (0 : Int) ∨ (3 : Int) < p1.toInt := in_int2 (Int32.toInt_toInt64 _) (by decide) (by decide) hw11
    obtain ⟨hP1, hD1⟩ := hB
    rw [ht9] at hP1
    obtain ⟨hP, hD⟩ := va_join (wr := [(a0, .inr (12, [.int i0, .ref a1, .ref a2, .ref a3, .ref a4, .int i1, .ref a5, .int i2, .int i3, .int i4, .int i5, .int i6, .int i7, .int i8, .ref a6, .ref a7, .ref a8, .ref a9, .ref a10, .ref a11, .ref a12, .int i9, .ref a13, .int i10, .ref a14, .ref a15, .int i11, .ref a16, .ref a17, .ref a18, .ref a19, .int i12, .int i13, .int i14, .int i15, .int i16, .ref a20, .long j0, .ref a21, .ref a22, .ref a23, .ref a24])), (a21, .inl (cI, 4, .inl xF20)), (a22, .inl (cI, 4, .inl xF21)), (a23, .inl (cJ, 240, .inr (.inl xG22)))]) (w1 := []) hP hD [] [0, 1, 2, 3] rfl rfl (by decide) (by decide) hk1 hFc hP1 hD1
    generalize H1 = H at hP hS ⊢
    replace hP : va_P (dC, dI) vwCl [(a0, .inr (12, [.int i0, .ref a1, .ref a2, .ref a3, .ref a4, .int i1, .ref a5, .int i2, .int i3, .int i4, .int i5, .int i6, .int i7, .int i8, .ref a6, .ref a7, .ref a8, .ref a9, .ref a10, .ref a11, .ref a12, .int i9, .ref a13, .int i10, .ref a14, .ref a15, .int i11, .ref a16, .ref a17, .ref a18, .ref a19, .int i12, .int i13, .int i14, .int i15, .int i16, .ref a20, .long j0, .ref a21, .ref a22, .ref a23, .ref a24])), (a21, .inl (cI, 4, .inl xF20)), (a22, .inl (cI, 4, .inl xF21)), (a23, .inl (cJ, 240, .inr (.inl xG22)))] H := hP
    replace hD : va_D A [(a0, .inr (12, [.int i0, .ref a1, .ref a2, .ref a3, .ref a4, .int i1, .ref a5, .int i2, .int i3, .int i4, .int i5, .int i6, .int i7, .int i8, .ref a6, .ref a7, .ref a8, .ref a9, .ref a10, .ref a11, .ref a12, .int i9, .ref a13, .int i10, .ref a14, .ref a15, .int i11, .ref a16, .ref a17, .ref a18, .ref a19, .int i12, .int i13, .int i14, .int i15, .int i16, .ref a20, .long j0, .ref a21, .ref a22, .ref a23, .ref a24])), (a21, .inl (cI, 4, .inl xF20)), (a22, .inl (cI, 4, .inl xF21)), (a23, .inl (cJ, 240, .inr (.inl xG22)))] := hD
    refine lv_if_eq (tgt := 25) hx hb dX12_row_16 (by decide) (fun c12 => ?_) (fun c12 => ?_)
    · rw [ki_eq] at c12
      have hw11q := hw11 (by omega)
      clear hw11
      refine lv_bipush (v := (-2)) hx hb dX12_row_25 (by decide) ?_
      have hP9 := hP.sub (ws' := [(a0, .inr (12, [.int i0, .ref a1, .ref a2, .ref a3, .ref a4, .int i1, .ref a5, .int i2, .int i3, .int i4, .int i5, .int i6, .int i7, .int i8, .ref a6, .ref a7, .ref a8, .ref a9, .ref a10, .ref a11, .ref a12, .int i9, .ref a13, .int i10, .ref a14, .ref a15, .int i11, .ref a16, .ref a17, .ref a18, .ref a19, .int i12, .int i13, .int i14, .int i15, .int i16, .ref a20, .long j0, .ref a21, .ref a22, .ref a23, .ref a24])), (a21, .inl (cI, 4, .inl xF20)), (a22, .inl (cI, 4, .inl xF21)), (a23, .inl (cJ, 240, .inr (.inl xG22)))]) [0, 1, 2, 3] rfl
      have hD9 := hD.sub (ws' := [(a0, .inr (12, [.int i0, .ref a1, .ref a2, .ref a3, .ref a4, .int i1, .ref a5, .int i2, .int i3, .int i4, .int i5, .int i6, .int i7, .int i8, .ref a6, .ref a7, .ref a8, .ref a9, .ref a10, .ref a11, .ref a12, .int i9, .ref a13, .int i10, .ref a14, .ref a15, .int i11, .ref a16, .ref a17, .ref a18, .ref a19, .int i12, .int i13, .int i14, .int i15, .int i16, .ref a20, .long j0, .ref a21, .ref a22, .ref a23, .ref a24])), (a21, .inl (cI, 4, .inl xF20)), (a22, .inl (cI, 4, .inl xF21)), (a23, .inl (cJ, 240, .inr (.inl xG22)))]) [0, 1, 2, 3] (by decide) rfl
      rw [hQ]
      exact W.iret (v := (-2)) hx hb hr (fun t ht hW => ⟨⟨(-2), (pickG 0 [], pickG (fun _ => 0) [xF20, xF21], pickG (fun _ => 0) [xG22]), rfl, ⟨(show (-3 : Int) ≤ ((-2) : Int32).toInt ∧ ((-2) : Int32).toInt ≤ 0 from ⟨by omega, by omega⟩), (show rng xF20 4 (-1) 60 from p_7), (show MI xF20 from trivial), (show rng xF21 4 0 3 from p_9), (show PUT (SLOK p0 p1 p2) xF20 xF20 p0 p2 from PUT_out (by unfold SLOK; omega)), (show PUT (SLOK p0 p1 p2) xF21 xF21 p0 p1 from PUT_out (by unfold SLOK; omega)), trivial⟩, (by rw [ht]; exact hP9), hD9⟩, hS.F ht⟩) hS.2.2 dX12_row_27
    · rw [ki_eq] at c12
      have hw10q := hw10 (by omega)
      clear hw10
      refine lv_iload_n hx hb dX12_row_19 rfl (lv_at hl 3 rfl) ?_
      refine lv_bipush (v := 60) hx hb dX12_row_20 (by decide) ?_
      refine lv_icmp_le (tgt := 28) hx hb dX12_row_22 (by decide) (fun c13 => ?_) (fun c13 => ?_)
      · rw [ki_le] at c13
        refine lv_iload_n hx hb dX12_row_28 rfl (lv_at hl 3 rfl) ?_
        refine lv_if_ge (tgt := 35) hx hb dX12_row_29 (by decide) (fun c14 => ?_) (fun c14 => ?_)
        · rw [ki_le] at c14
          refine lv_aload_n hx hb dX12_row_35 rfl (lv_at hl 0 rfl) ?_
          refine va_get (D := (dC, dI)) (ci := 12) (v := .ref a21) (C := RX12) (T := TX12) (N := 42) hx hb hwd inlX12 hown hK hP 0 rfl rfl 38 (by decide) (hwd _ kr50_15) (fun _ h9 => h9) rfl dX12_row_36 ?_
          refine lv_iload_n hx hb dX12_row_39 rfl (lv_at hl 1 rfl) ?_
          refine lv_iload_n hx hb dX12_row_40 rfl (lv_at hl 3 rfl) ?_
          refine va_iast hx hb hK hP hD hS 1 0 rfl rfl (vp_of (by omega) (by omega)) dX12_row_41 (fun H locs hP hD hS => ?_)
          obtain ⟨f15, ef15⟩ : ∃ f, f = upd xF20 p0.toNatClampNeg p2 := ⟨_, rfl⟩
          have rf15 : rng f15 4 (-1) 60 := by rw [ef15]; exact rng_upd (rng_mono p_7 (by omega) (by omega)) (by omega) (by omega)
          replace hP : va_P (dC, dI) vwCl [(a0, .inr (12, [.int i0, .ref a1, .ref a2, .ref a3, .ref a4, .int i1, .ref a5, .int i2, .int i3, .int i4, .int i5, .int i6, .int i7, .int i8, .ref a6, .ref a7, .ref a8, .ref a9, .ref a10, .ref a11, .ref a12, .int i9, .ref a13, .int i10, .ref a14, .ref a15, .int i11, .ref a16, .ref a17, .ref a18, .ref a19, .int i12, .int i13, .int i14, .int i15, .int i16, .ref a20, .long j0, .ref a21, .ref a22, .ref a23, .ref a24])), (a21, .inl (cI, 4, .inl f15)), (a22, .inl (cI, 4, .inl xF21)), (a23, .inl (cJ, 240, .inr (.inl xG22)))] H := by rw [ef15]; exact hP
          replace hD : va_D A [(a0, .inr (12, [.int i0, .ref a1, .ref a2, .ref a3, .ref a4, .int i1, .ref a5, .int i2, .int i3, .int i4, .int i5, .int i6, .int i7, .int i8, .ref a6, .ref a7, .ref a8, .ref a9, .ref a10, .ref a11, .ref a12, .int i9, .ref a13, .int i10, .ref a14, .ref a15, .int i11, .ref a16, .ref a17, .ref a18, .ref a19, .int i12, .int i13, .int i14, .int i15, .int i16, .ref a20, .long j0, .ref a21, .ref a22, .ref a23, .ref a24])), (a21, .inl (cI, 4, .inl f15)), (a22, .inl (cI, 4, .inl xF21)), (a23, .inl (cJ, 240, .inr (.inl xG22)))] := by rw [ef15]; exact hD
          refine lv_aload_n hx hb dX12_row_42 rfl (lv_at hl 0 rfl) ?_
          refine va_get (D := (dC, dI)) (ci := 12) (v := .ref a22) (C := RX12) (T := TX12) (N := 42) hx hb hwd inlX12 hown hK hP 0 rfl rfl 39 (by decide) (hwd _ kr50_16) (fun _ h9 => h9) rfl dX12_row_43 ?_
          refine lv_iload_n hx hb dX12_row_46 rfl (lv_at hl 1 rfl) ?_
          refine lv_iload_n hx hb dX12_row_47 rfl (lv_at hl 2 rfl) ?_
          refine va_iast hx hb hK hP hD hS 2 0 rfl rfl (vp_of (by omega) (by omega)) dX12_row_48 (fun H locs hP hD hS => ?_)
          obtain ⟨f16, ef16⟩ : ∃ f, f = upd xF21 p0.toNatClampNeg p1 := ⟨_, rfl⟩
          have rf16 : rng f16 4 0 3 := by rw [ef16]; exact rng_upd (rng_mono p_9 (by omega) (by omega)) (by omega) (by omega)
          replace hP : va_P (dC, dI) vwCl [(a0, .inr (12, [.int i0, .ref a1, .ref a2, .ref a3, .ref a4, .int i1, .ref a5, .int i2, .int i3, .int i4, .int i5, .int i6, .int i7, .int i8, .ref a6, .ref a7, .ref a8, .ref a9, .ref a10, .ref a11, .ref a12, .int i9, .ref a13, .int i10, .ref a14, .ref a15, .int i11, .ref a16, .ref a17, .ref a18, .ref a19, .int i12, .int i13, .int i14, .int i15, .int i16, .ref a20, .long j0, .ref a21, .ref a22, .ref a23, .ref a24])), (a21, .inl (cI, 4, .inl f15)), (a22, .inl (cI, 4, .inl f16)), (a23, .inl (cJ, 240, .inr (.inl xG22)))] H := by rw [ef16]; exact hP
          replace hD : va_D A [(a0, .inr (12, [.int i0, .ref a1, .ref a2, .ref a3, .ref a4, .int i1, .ref a5, .int i2, .int i3, .int i4, .int i5, .int i6, .int i7, .int i8, .ref a6, .ref a7, .ref a8, .ref a9, .ref a10, .ref a11, .ref a12, .int i9, .ref a13, .int i10, .ref a14, .ref a15, .int i11, .ref a16, .ref a17, .ref a18, .ref a19, .int i12, .int i13, .int i14, .int i15, .int i16, .ref a20, .long j0, .ref a21, .ref a22, .ref a23, .ref a24])), (a21, .inl (cI, 4, .inl f15)), (a22, .inl (cI, 4, .inl f16)), (a23, .inl (cJ, 240, .inr (.inl xG22)))] := by rw [ef16]; exact hD
          refine lv_iconst (v := 0) hx hb dX12_row_49 (by decide) ?_
          refine lv_istore (lv' := [(4, .int 0), (0, .ref a0), (1, .int p0), (2, .int p1), (3, .int p2)]) hx hb dX12_row_50 hl (by decide) rfl (fun ls hl => ?_)
          have lp1 : ∀ (d : Nat), ∀ (H : Heap) (locs : List Loc) (ls : Array Slot) (w4_1 : Int32) (g1_1 : Nat → Int64), ((0 : Int) ≤ w4_1.toInt ∧ w4_1.toInt ≤ 60) → (60 - w4_1.toInt).toNat < d → va_P (dC, dI) vwCl [(a0, .inr (12, [.int i0, .ref a1, .ref a2, .ref a3, .ref a4, .int i1, .ref a5, .int i2, .int i3, .int i4, .int i5, .int i6, .int i7, .int i8, .ref a6, .ref a7, .ref a8, .ref a9, .ref a10, .ref a11, .ref a12, .int i9, .ref a13, .int i10, .ref a14, .ref a15, .int i11, .ref a16, .ref a17, .ref a18, .ref a19, .int i12, .int i13, .int i14, .int i15, .int i16, .ref a20, .long j0, .ref a21, .ref a22, .ref a23, .ref a24])), (a21, .inl (cI, 4, .inl f15)), (a22, .inl (cI, 4, .inl f16)), (a23, .inl (cJ, 240, .inr (.inl g1_1)))] H → va_D A [(a0, .inr (12, [.int i0, .ref a1, .ref a2, .ref a3, .ref a4, .int i1, .ref a5, .int i2, .int i3, .int i4, .int i5, .int i6, .int i7, .int i8, .ref a6, .ref a7, .ref a8, .ref a9, .ref a10, .ref a11, .ref a12, .int i9, .ref a13, .int i10, .ref a14, .ref a15, .int i11, .ref a16, .ref a17, .ref a18, .ref a19, .int i12, .int i13, .int i14, .int i15, .int i16, .ref a20, .long j0, .ref a21, .ref a22, .ref a23, .ref a24])), (a21, .inl (cI, 4, .inl f15)), (a22, .inl (cI, 4, .inl f16)), (a23, .inl (cJ, 240, .inr (.inl g1_1)))] → va_S A s.heap H locs → lv_has ls 5 [(0, .ref a0), (1, .int p0), (2, .int p1), (3, .int p2), (4, .int w4_1)] → W p l e ({ frames := 2, cells := 0, slots := 0, locals := 45 } : Room) s m ([.ref a0, .int p0, .int p1, .int p2] : List Value).toArray below meth c H locs 0 0 Q (F0 m 52 ls []) := by
            intro d
            induction d with
            | zero =>
              intro H locs ls w4_1 g1_1 hr_w4_1 hm hP hD hS hl
              omega
            | succ d ih1 =>
              intro H locs ls w4_1 g1_1 hr_w4_1 hm hP hD hS hl
              refine lv_iload hx hb dX12_row_52 (lv_at hl 4 rfl) ?_
              refine lv_bipush (v := 60) hx hb dX12_row_54 (by decide) ?_
              refine lv_icmp_ge (tgt := 78) hx hb dX12_row_56 (by decide) (fun c46 => ?_) (fun c46 => ?_)
              · rw [ki_le] at c46
                refine lv_iconst (v := 0) hx hb dX12_row_78 (by decide) ?_
                have hP9 := hP.sub (ws' := [(a0, .inr (12, [.int i0, .ref a1, .ref a2, .ref a3, .ref a4, .int i1, .ref a5, .int i2, .int i3, .int i4, .int i5, .int i6, .int i7, .int i8, .ref a6, .ref a7, .ref a8, .ref a9, .ref a10, .ref a11, .ref a12, .int i9, .ref a13, .int i10, .ref a14, .ref a15, .int i11, .ref a16, .ref a17, .ref a18, .ref a19, .int i12, .int i13, .int i14, .int i15, .int i16, .ref a20, .long j0, .ref a21, .ref a22, .ref a23, .ref a24])), (a21, .inl (cI, 4, .inl f15)), (a22, .inl (cI, 4, .inl f16)), (a23, .inl (cJ, 240, .inr (.inl g1_1)))]) [0, 1, 2, 3] rfl
                have hD9 := hD.sub (ws' := [(a0, .inr (12, [.int i0, .ref a1, .ref a2, .ref a3, .ref a4, .int i1, .ref a5, .int i2, .int i3, .int i4, .int i5, .int i6, .int i7, .int i8, .ref a6, .ref a7, .ref a8, .ref a9, .ref a10, .ref a11, .ref a12, .int i9, .ref a13, .int i10, .ref a14, .ref a15, .int i11, .ref a16, .ref a17, .ref a18, .ref a19, .int i12, .int i13, .int i14, .int i15, .int i16, .ref a20, .long j0, .ref a21, .ref a22, .ref a23, .ref a24])), (a21, .inl (cI, 4, .inl f15)), (a22, .inl (cI, 4, .inl f16)), (a23, .inl (cJ, 240, .inr (.inl g1_1)))]) [0, 1, 2, 3] (by decide) rfl
                rw [hQ]
                exact W.iret (v := 0) hx hb hr (fun t ht hW => ⟨⟨0, (pickG 0 [], pickG (fun _ => 0) [f15, f16], pickG (fun _ => 0) [g1_1]), rfl, ⟨(show (-3 : Int) ≤ (0 : Int32).toInt ∧ (0 : Int32).toInt ≤ 0 from ⟨by omega, by omega⟩), (show rng f15 4 (-1) 60 from rf15), (show MI f15 from trivial), (show rng f16 4 0 3 from rf16), (show PUT (SLOK p0 p1 p2) xF20 f15 p0 p2 from by rw [ef15]; exact PUT_of (PUT_in (by omega)) (by unfold SLOK; omega)), (show PUT (SLOK p0 p1 p2) xF21 f16 p0 p1 from by rw [ef16]; exact PUT_of (PUT_in (by omega)) (by unfold SLOK; omega)), trivial⟩, (by rw [ht]; exact hP9), hD9⟩, hS.F ht⟩) hS.2.2 dX12_row_79
              · rw [ki_le] at c46
                refine lv_aload_n hx hb dX12_row_59 rfl (lv_at hl 0 rfl) ?_
                refine va_get (D := (dC, dI)) (ci := 12) (v := .ref a23) (C := RX12) (T := TX12) (N := 42) hx hb hwd inlX12 hown hK hP 0 rfl rfl 40 (by decide) (hwd _ kr50_17) (fun _ h9 => h9) rfl dX12_row_60 ?_
                refine lv_bipush (v := 60) hx hb dX12_row_63 (by decide) ?_
                refine lv_iload_n hx hb dX12_row_65 rfl (lv_at hl 1 rfl) ?_
                refine lv_imul hx hb dX12_row_66 ?_
                refine lv_topi (fun x47 ex47 => ?_)
                have tx47 := ia_mull (a := (60 : Int32)) (b := p0) 60 (by decide) (by omega) (by omega)
                rw [← ex47] at tx47
                refine lv_iload hx hb dX12_row_67 (lv_at hl 4 rfl) ?_
                refine lv_iadd hx hb dX12_row_69 ?_
                refine lv_topi (fun x48 ex48 => ?_)
                have tx48 := ia_add (a := x47) (b := w4_1) (by omega) (by omega)
                rw [← ex48] at tx48
                refine lv_lconst (v := 0) hx hb dX12_row_70 (by decide) ?_
                refine va_last hx hb hK hP hD hS 3 3 rfl rfl (vp_of (by omega) (by omega)) dX12_row_71 (fun H locs hP hD hS => ?_)
                obtain ⟨f49, ef49⟩ : ∃ f, f = vp_updL g1_1 x48.toNatClampNeg 0 := ⟨_, rfl⟩
                replace hP : va_P (dC, dI) vwCl [(a0, .inr (12, [.int i0, .ref a1, .ref a2, .ref a3, .ref a4, .int i1, .ref a5, .int i2, .int i3, .int i4, .int i5, .int i6, .int i7, .int i8, .ref a6, .ref a7, .ref a8, .ref a9, .ref a10, .ref a11, .ref a12, .int i9, .ref a13, .int i10, .ref a14, .ref a15, .int i11, .ref a16, .ref a17, .ref a18, .ref a19, .int i12, .int i13, .int i14, .int i15, .int i16, .ref a20, .long j0, .ref a21, .ref a22, .ref a23, .ref a24])), (a21, .inl (cI, 4, .inl f15)), (a22, .inl (cI, 4, .inl f16)), (a23, .inl (cJ, 240, .inr (.inl f49)))] H := by rw [ef49]; exact hP
                replace hD : va_D A [(a0, .inr (12, [.int i0, .ref a1, .ref a2, .ref a3, .ref a4, .int i1, .ref a5, .int i2, .int i3, .int i4, .int i5, .int i6, .int i7, .int i8, .ref a6, .ref a7, .ref a8, .ref a9, .ref a10, .ref a11, .ref a12, .int i9, .ref a13, .int i10, .ref a14, .ref a15, .int i11, .ref a16, .ref a17, .ref a18, .ref a19, .int i12, .int i13, .int i14, .int i15, .int i16, .ref a20, .long j0, .ref a21, .ref a22, .ref a23, .ref a24])), (a21, .inl (cI, 4, .inl f15)), (a22, .inl (cI, 4, .inl f16)), (a23, .inl (cJ, 240, .inr (.inl f49)))] := by rw [ef49]; exact hD
                obtain ⟨x50, ex50⟩ : ∃ y : Int32, y = w4_1 + 1 := ⟨_, rfl⟩
                refine lv_iinc (v := x50) (lv' := [(4, .int x50), (0, .ref a0), (1, .int p0), (2, .int p1), (3, .int p2)]) hx hb dX12_row_72 hl (k := 4) rfl (by rw [ex50]; rfl) (by decide) rfl (fun ls hl => ?_)
                have tx50 := ia_add (a := w4_1) (b := (1 : Int32)) (by omega) (by omega)
                rw [← ex50] at tx50
                refine lv_goto (tgt := 52) hx hb dX12_row_75 (by decide) ?_
                exact ih1 _ _ ls x50 f49 (show (0 : Int) ≤ x50.toInt ∧ x50.toInt ≤ 60 from ⟨by omega, by omega⟩) (by omega) (hP.sub (ws' := [(a0, .inr (12, [.int i0, .ref a1, .ref a2, .ref a3, .ref a4, .int i1, .ref a5, .int i2, .int i3, .int i4, .int i5, .int i6, .int i7, .int i8, .ref a6, .ref a7, .ref a8, .ref a9, .ref a10, .ref a11, .ref a12, .int i9, .ref a13, .int i10, .ref a14, .ref a15, .int i11, .ref a16, .ref a17, .ref a18, .ref a19, .int i12, .int i13, .int i14, .int i15, .int i16, .ref a20, .long j0, .ref a21, .ref a22, .ref a23, .ref a24])), (a21, .inl (cI, 4, .inl f15)), (a22, .inl (cI, 4, .inl f16)), (a23, .inl (cJ, 240, .inr (.inl f49)))]) [0, 1, 2, 3] rfl) (hD.sub (ws' := [(a0, .inr (12, [.int i0, .ref a1, .ref a2, .ref a3, .ref a4, .int i1, .ref a5, .int i2, .int i3, .int i4, .int i5, .int i6, .int i7, .int i8, .ref a6, .ref a7, .ref a8, .ref a9, .ref a10, .ref a11, .ref a12, .int i9, .ref a13, .int i10, .ref a14, .ref a15, .int i11, .ref a16, .ref a17, .ref a18, .ref a19, .int i12, .int i13, .int i14, .int i15, .int i16, .ref a20, .long j0, .ref a21, .ref a22, .ref a23, .ref a24])), (a21, .inl (cI, 4, .inl f15)), (a22, .inl (cI, 4, .inl f16)), (a23, .inl (cJ, 240, .inr (.inl f49)))]) [0, 1, 2, 3] (by decide) rfl) hS (lv_sub hl [1, 2, 3, 4, 0] rfl)
          exact lp1 _ _ _ ls (0) xG22 (show (0 : Int) ≤ (0 : Int32).toInt ∧ (0 : Int32).toInt ≤ 60 from ⟨by omega, by omega⟩) (Nat.lt_succ_self _) (hP.sub (ws' := [(a0, .inr (12, [.int i0, .ref a1, .ref a2, .ref a3, .ref a4, .int i1, .ref a5, .int i2, .int i3, .int i4, .int i5, .int i6, .int i7, .int i8, .ref a6, .ref a7, .ref a8, .ref a9, .ref a10, .ref a11, .ref a12, .int i9, .ref a13, .int i10, .ref a14, .ref a15, .int i11, .ref a16, .ref a17, .ref a18, .ref a19, .int i12, .int i13, .int i14, .int i15, .int i16, .ref a20, .long j0, .ref a21, .ref a22, .ref a23, .ref a24])), (a21, .inl (cI, 4, .inl f15)), (a22, .inl (cI, 4, .inl f16)), (a23, .inl (cJ, 240, .inr (.inl xG22)))]) [0, 1, 2, 3] rfl) (hD.sub (ws' := [(a0, .inr (12, [.int i0, .ref a1, .ref a2, .ref a3, .ref a4, .int i1, .ref a5, .int i2, .int i3, .int i4, .int i5, .int i6, .int i7, .int i8, .ref a6, .ref a7, .ref a8, .ref a9, .ref a10, .ref a11, .ref a12, .int i9, .ref a13, .int i10, .ref a14, .ref a15, .int i11, .ref a16, .ref a17, .ref a18, .ref a19, .int i12, .int i13, .int i14, .int i15, .int i16, .ref a20, .long j0, .ref a21, .ref a22, .ref a23, .ref a24])), (a21, .inl (cI, 4, .inl f15)), (a22, .inl (cI, 4, .inl f16)), (a23, .inl (cJ, 240, .inr (.inl xG22)))]) [0, 1, 2, 3] (by decide) rfl) hS (lv_sub hl [1, 2, 3, 4, 0] rfl)
        · rw [ki_le] at c14
          refine lv_bipush (v := (-3)) hx hb dX12_row_32 (by decide) ?_
          have hP9 := hP.sub (ws' := [(a0, .inr (12, [.int i0, .ref a1, .ref a2, .ref a3, .ref a4, .int i1, .ref a5, .int i2, .int i3, .int i4, .int i5, .int i6, .int i7, .int i8, .ref a6, .ref a7, .ref a8, .ref a9, .ref a10, .ref a11, .ref a12, .int i9, .ref a13, .int i10, .ref a14, .ref a15, .int i11, .ref a16, .ref a17, .ref a18, .ref a19, .int i12, .int i13, .int i14, .int i15, .int i16, .ref a20, .long j0, .ref a21, .ref a22, .ref a23, .ref a24])), (a21, .inl (cI, 4, .inl xF20)), (a22, .inl (cI, 4, .inl xF21)), (a23, .inl (cJ, 240, .inr (.inl xG22)))]) [0, 1, 2, 3] rfl
          have hD9 := hD.sub (ws' := [(a0, .inr (12, [.int i0, .ref a1, .ref a2, .ref a3, .ref a4, .int i1, .ref a5, .int i2, .int i3, .int i4, .int i5, .int i6, .int i7, .int i8, .ref a6, .ref a7, .ref a8, .ref a9, .ref a10, .ref a11, .ref a12, .int i9, .ref a13, .int i10, .ref a14, .ref a15, .int i11, .ref a16, .ref a17, .ref a18, .ref a19, .int i12, .int i13, .int i14, .int i15, .int i16, .ref a20, .long j0, .ref a21, .ref a22, .ref a23, .ref a24])), (a21, .inl (cI, 4, .inl xF20)), (a22, .inl (cI, 4, .inl xF21)), (a23, .inl (cJ, 240, .inr (.inl xG22)))]) [0, 1, 2, 3] (by decide) rfl
          rw [hQ]
          exact W.iret (v := (-3)) hx hb hr (fun t ht hW => ⟨⟨(-3), (pickG 0 [], pickG (fun _ => 0) [xF20, xF21], pickG (fun _ => 0) [xG22]), rfl, ⟨(show (-3 : Int) ≤ ((-3) : Int32).toInt ∧ ((-3) : Int32).toInt ≤ 0 from ⟨by omega, by omega⟩), (show rng xF20 4 (-1) 60 from p_7), (show MI xF20 from trivial), (show rng xF21 4 0 3 from p_9), (show PUT (SLOK p0 p1 p2) xF20 xF20 p0 p2 from PUT_out (by unfold SLOK; omega)), (show PUT (SLOK p0 p1 p2) xF21 xF21 p0 p1 from PUT_out (by unfold SLOK; omega)), trivial⟩, (by rw [ht]; exact hP9), hD9⟩, hS.F ht⟩) hS.2.2 dX12_row_34
      · rw [ki_le] at c13
        refine lv_bipush (v := (-2)) hx hb dX12_row_25 (by decide) ?_
        have hP9 := hP.sub (ws' := [(a0, .inr (12, [.int i0, .ref a1, .ref a2, .ref a3, .ref a4, .int i1, .ref a5, .int i2, .int i3, .int i4, .int i5, .int i6, .int i7, .int i8, .ref a6, .ref a7, .ref a8, .ref a9, .ref a10, .ref a11, .ref a12, .int i9, .ref a13, .int i10, .ref a14, .ref a15, .int i11, .ref a16, .ref a17, .ref a18, .ref a19, .int i12, .int i13, .int i14, .int i15, .int i16, .ref a20, .long j0, .ref a21, .ref a22, .ref a23, .ref a24])), (a21, .inl (cI, 4, .inl xF20)), (a22, .inl (cI, 4, .inl xF21)), (a23, .inl (cJ, 240, .inr (.inl xG22)))]) [0, 1, 2, 3] rfl
        have hD9 := hD.sub (ws' := [(a0, .inr (12, [.int i0, .ref a1, .ref a2, .ref a3, .ref a4, .int i1, .ref a5, .int i2, .int i3, .int i4, .int i5, .int i6, .int i7, .int i8, .ref a6, .ref a7, .ref a8, .ref a9, .ref a10, .ref a11, .ref a12, .int i9, .ref a13, .int i10, .ref a14, .ref a15, .int i11, .ref a16, .ref a17, .ref a18, .ref a19, .int i12, .int i13, .int i14, .int i15, .int i16, .ref a20, .long j0, .ref a21, .ref a22, .ref a23, .ref a24])), (a21, .inl (cI, 4, .inl xF20)), (a22, .inl (cI, 4, .inl xF21)), (a23, .inl (cJ, 240, .inr (.inl xG22)))]) [0, 1, 2, 3] (by decide) rfl
        rw [hQ]
        exact W.iret (v := (-2)) hx hb hr (fun t ht hW => ⟨⟨(-2), (pickG 0 [], pickG (fun _ => 0) [xF20, xF21], pickG (fun _ => 0) [xG22]), rfl, ⟨(show (-3 : Int) ≤ ((-2) : Int32).toInt ∧ ((-2) : Int32).toInt ≤ 0 from ⟨by omega, by omega⟩), (show rng xF20 4 (-1) 60 from p_7), (show MI xF20 from trivial), (show rng xF21 4 0 3 from p_9), (show PUT (SLOK p0 p1 p2) xF20 xF20 p0 p2 from PUT_out (by unfold SLOK; omega)), (show PUT (SLOK p0 p1 p2) xF21 xF21 p0 p1 from PUT_out (by unfold SLOK; omega)), trivial⟩, (by rw [ht]; exact hP9), hD9⟩, hS.F ht⟩) hS.2.2 dX12_row_27
set_option maxHeartbeats 4000000 in
set_option maxRecDepth 100000 in
theorem s_X8_hasRowR (l : Launch) (dC : Nat → ClassId) (dI : Nat → Nat → Nat) (cI cZ cB cJ cM cG : ClassId) (a0 a1 a2 a3 a4 : Nat) (xF2 : Nat → Int32) (p0 : Int32) (sz : Nat) (p_0 : rng xF2 4 0 1) (p_1 : (0 : Int) ≤ p0.toInt ∧ p0.toInt ≤ 3) : Met l yX8_hasRow (kw yX8_hasRow cX8_hasRow 2 (some .boolean)) ({ frames := 0, cells := 0, slots := 0, locals := 0 } : Room) (va_Pc [.ref a0, .int p0] (kPre dC dI [(cI, .int), (cZ, .boolean), (cB, .byte), (cJ, .long), (cM, .object RX2), (cG, .array .int)] [(a0, .inr (8, [.ref a1, .ref a2, .ref a3, .ref a4])), (a3, .inl (cZ, 4, .inl xF2))] sz)) (va_Qi (fun (r : Int32) (u9 : Unit) => ((0 : Int) ≤ r.toInt ∧ r.toInt ≤ 1) ∧ (r.toInt = (xF2 p0.toNatClampNeg).toInt) ∧ True) (fun u9 t => va_P (dC, dI) vwCl [(a0, .inr (8, [.ref a1, .ref a2, .ref a3, .ref a4])), (a3, .inl (cZ, 4, .inl xF2))] t.heap ∧ va_D (va_A [(a0, .inr (8, [.ref a1, .ref a2, .ref a3, .ref a4])), (a3, .inl (cZ, 4, .inl xF2))] sz) [(a0, .inr (8, [.ref a1, .ref a2, .ref a3, .ref a4])), (a3, .inl (cZ, 4, .inl xF2))]) (va_A [(a0, .inr (8, [.ref a1, .ref a2, .ref a3, .ref a4])), (a3, .inl (cZ, 4, .inl xF2))] sz)) 0 0 (va_A [(a0, .inr (8, [.ref a1, .ref a2, .ref a3, .ref a4])), (a3, .inl (cZ, 4, .inl xF2))] sz) := by
  refine kEnter (by decide) (Nat.le_of_ble_eq_true rfl) ?_
  intro p e s m below meth c ls hx hb hr hml hown hlocks hin hwd hsz hP hK hD hl
  subst hsz
  generalize hAe : va_A [(a0, .inr (8, [.ref a1, .ref a2, .ref a3, .ref a4])), (a3, .inl (cZ, 4, .inl xF2))] s.heap.size = A at hD ⊢
  have hA : ∀ q : Nat, s.heap.size ≤ q → A q := fun q h => by rw [← hAe]; exact Or.inr h
  have hS : va_S A s.heap s.heap [] := va_S.rf
  have hl : lv_has ls 2 [(0, .ref a0), (1, .int p0)] := hl
  obtain ⟨Q, hQ⟩ : ∃ Q, Q = MQ below (va_Qi (fun (r : Int32) (u9 : Unit) => ((0 : Int) ≤ r.toInt ∧ r.toInt ≤ 1) ∧ (r.toInt = (xF2 p0.toNatClampNeg).toInt) ∧ True) (fun u9 t => va_P (dC, dI) vwCl [(a0, .inr (8, [.ref a1, .ref a2, .ref a3, .ref a4])), (a3, .inl (cZ, 4, .inl xF2))] t.heap ∧ va_D A [(a0, .inr (8, [.ref a1, .ref a2, .ref a3, .ref a4])), (a3, .inl (cZ, 4, .inl xF2))]) A) ([.ref a0, .int p0] : List Value).toArray s 0 0 A := ⟨_, rfl⟩
  rw [← hQ]
  refine lv_aload_n hx hb dX8_hasRow_0 rfl (lv_at hl 0 rfl) ?_
  refine va_get (D := (dC, dI)) (ci := 8) (v := .ref a3) (C := RX8) (T := TX8) (N := 4) hx hb hwd inlX8 hown hK hP 0 rfl rfl 2 (by decide) (hwd _ kr9_23) (fun _ h9 => h9) rfl dX8_hasRow_1 ?_
  refine lv_iload_n hx hb dX8_hasRow_4 rfl (lv_at hl 1 rfl) ?_
  have h1 : vp_in p0 4 := (vp_of (by omega) (by omega))
  refine va_zald hx hb hK hP 1 1 rfl rfl h1 dX8_hasRow_5 ?_
  refine lv_topi (fun x2 ex2 => ?_)
  have tx2 : (0 : Int) ≤ x2.toInt ∧ x2.toInt ≤ 1 := by rw [ex2]; exact p_0 _ (vp_nat h1)
  have hP9 := hP.sub (ws' := [(a0, .inr (8, [.ref a1, .ref a2, .ref a3, .ref a4])), (a3, .inl (cZ, 4, .inl xF2))]) [0, 1] rfl
  have hD9 := hD.sub (ws' := [(a0, .inr (8, [.ref a1, .ref a2, .ref a3, .ref a4])), (a3, .inl (cZ, 4, .inl xF2))]) [0, 1] (by decide) rfl
  rw [hQ]
  exact W.zret (v := x2) hx hb hr (nar_01 (by omega)) (fun t ht hW => ⟨⟨x2, (), rfl, ⟨(show (0 : Int) ≤ x2.toInt ∧ x2.toInt ≤ 1 from ⟨by omega, by omega⟩), (show x2.toInt = (xF2 p0.toNatClampNeg).toInt from by rw [ex2]), trivial⟩, (by rw [ht]; exact hP9), hD9⟩, hS.F ht⟩) hS.2.2 dX8_hasRow_6
set_option maxHeartbeats 4000000 in
set_option maxRecDepth 100000 in
theorem s_X11_writeR (l : Launch) (dC : Nat → ClassId) (dI : Nat → Nat → Nat) (cI cZ cB cJ cM cG : ClassId) (a0 a1 a2 a3 a4 a5 a6 a7 a8 a9 a10 a36 a37 a38 a39 : Nat) (xF24 xF25 xF26 : Nat → Int32) (xG27 : Nat → Int64) (p0 p1 : Int32) (y2 : Int64) (sz : Nat) (p_0 : rng xF25 4 0 60) (p_1 : rng xF26 4 0 1) : Met l yX11_write (kw yX11_write cX11_write 5 (some .int)) ({ frames := 2, cells := 0, slots := 0, locals := 46 } : Room) (va_Pc [.ref a0, .int p0, .int p1, .long y2] (kPre dC dI [(cI, .int), (cZ, .boolean), (cB, .byte), (cJ, .long), (cM, .object RX2), (cG, .array .int)] [(a0, .inr (11, [.ref a1, .ref a2, .ref a3, .ref a4, .ref a5, .ref a6, .ref a7, .ref a8, .ref a9, .ref a10])), (a5, .inr (8, [.ref a36, .ref a37, .ref a38, .ref a39])), (a36, .inl (cI, 4, .inl xF24)), (a37, .inl (cI, 4, .inl xF25)), (a38, .inl (cZ, 4, .inl xF26)), (a39, .inl (cJ, 240, .inr (.inl xG27)))] sz)) (va_Qi (fun (r : Int32) (u9 : (Nat → Int32) × (Nat → Nat → Int32) × (Nat → Nat → Int64)) => ((-7 : Int) ≤ r.toInt ∧ r.toInt ≤ 0) ∧ (WRA xF26 xF25 p0 p1 r) ∧ True) (fun u9 t => va_P (dC, dI) vwCl [(a0, .inr (11, [.ref a1, .ref a2, .ref a3, .ref a4, .ref a5, .ref a6, .ref a7, .ref a8, .ref a9, .ref a10])), (a5, .inr (8, [.ref a36, .ref a37, .ref a38, .ref a39])), (a36, .inl (cI, 4, .inl xF24)), (a37, .inl (cI, 4, .inl xF25)), (a38, .inl (cZ, 4, .inl xF26)), (a39, .inl (cJ, 240, .inr (.inl (u9.2.2 0))))] t.heap ∧ va_D (va_A [(a0, .inr (11, [.ref a1, .ref a2, .ref a3, .ref a4, .ref a5, .ref a6, .ref a7, .ref a8, .ref a9, .ref a10])), (a5, .inr (8, [.ref a36, .ref a37, .ref a38, .ref a39])), (a36, .inl (cI, 4, .inl xF24)), (a37, .inl (cI, 4, .inl xF25)), (a38, .inl (cZ, 4, .inl xF26)), (a39, .inl (cJ, 240, .inr (.inl xG27)))] sz) [(a0, .inr (11, [.ref a1, .ref a2, .ref a3, .ref a4, .ref a5, .ref a6, .ref a7, .ref a8, .ref a9, .ref a10])), (a5, .inr (8, [.ref a36, .ref a37, .ref a38, .ref a39])), (a36, .inl (cI, 4, .inl xF24)), (a37, .inl (cI, 4, .inl xF25)), (a38, .inl (cZ, 4, .inl xF26)), (a39, .inl (cJ, 240, .inr (.inl (u9.2.2 0))))]) (va_A [(a0, .inr (11, [.ref a1, .ref a2, .ref a3, .ref a4, .ref a5, .ref a6, .ref a7, .ref a8, .ref a9, .ref a10])), (a5, .inr (8, [.ref a36, .ref a37, .ref a38, .ref a39])), (a36, .inl (cI, 4, .inl xF24)), (a37, .inl (cI, 4, .inl xF25)), (a38, .inl (cZ, 4, .inl xF26)), (a39, .inl (cJ, 240, .inr (.inl xG27)))] sz)) 0 0 (va_A [(a0, .inr (11, [.ref a1, .ref a2, .ref a3, .ref a4, .ref a5, .ref a6, .ref a7, .ref a8, .ref a9, .ref a10])), (a5, .inr (8, [.ref a36, .ref a37, .ref a38, .ref a39])), (a36, .inl (cI, 4, .inl xF24)), (a37, .inl (cI, 4, .inl xF25)), (a38, .inl (cZ, 4, .inl xF26)), (a39, .inl (cJ, 240, .inr (.inl xG27)))] sz) := by
  refine kEnter (by decide) (Nat.le_of_ble_eq_true rfl) ?_
  intro p e s m below meth c ls hx hb hr hml hown hlocks hin hwd hsz hP hK hD hl
  subst hsz
  generalize hAe : va_A [(a0, .inr (11, [.ref a1, .ref a2, .ref a3, .ref a4, .ref a5, .ref a6, .ref a7, .ref a8, .ref a9, .ref a10])), (a5, .inr (8, [.ref a36, .ref a37, .ref a38, .ref a39])), (a36, .inl (cI, 4, .inl xF24)), (a37, .inl (cI, 4, .inl xF25)), (a38, .inl (cZ, 4, .inl xF26)), (a39, .inl (cJ, 240, .inr (.inl xG27)))] s.heap.size = A at hD ⊢
  have hA : ∀ q : Nat, s.heap.size ≤ q → A q := fun q h => by rw [← hAe]; exact Or.inr h
  have hS : va_S A s.heap s.heap [] := va_S.rf
  have hl : lv_has ls 5 [(0, .ref a0), (1, .int p0), (2, .int p1), (3, .long y2)] := hl
  obtain ⟨Q, hQ⟩ : ∃ Q, Q = MQ below (va_Qi (fun (r : Int32) (u9 : (Nat → Int32) × (Nat → Nat → Int32) × (Nat → Nat → Int64)) => ((-7 : Int) ≤ r.toInt ∧ r.toInt ≤ 0) ∧ (WRA xF26 xF25 p0 p1 r) ∧ True) (fun u9 t => va_P (dC, dI) vwCl [(a0, .inr (11, [.ref a1, .ref a2, .ref a3, .ref a4, .ref a5, .ref a6, .ref a7, .ref a8, .ref a9, .ref a10])), (a5, .inr (8, [.ref a36, .ref a37, .ref a38, .ref a39])), (a36, .inl (cI, 4, .inl xF24)), (a37, .inl (cI, 4, .inl xF25)), (a38, .inl (cZ, 4, .inl xF26)), (a39, .inl (cJ, 240, .inr (.inl (u9.2.2 0))))] t.heap ∧ va_D A [(a0, .inr (11, [.ref a1, .ref a2, .ref a3, .ref a4, .ref a5, .ref a6, .ref a7, .ref a8, .ref a9, .ref a10])), (a5, .inr (8, [.ref a36, .ref a37, .ref a38, .ref a39])), (a36, .inl (cI, 4, .inl xF24)), (a37, .inl (cI, 4, .inl xF25)), (a38, .inl (cZ, 4, .inl xF26)), (a39, .inl (cJ, 240, .inr (.inl (u9.2.2 0))))]) A) ([.ref a0, .int p0, .int p1, .long y2] : List Value).toArray s 0 0 A := ⟨_, rfl⟩
  rw [← hQ]
  have km7 : ((-7) : Int32).toInt = -7 := by decide
  have km6 : ((-6) : Int32).toInt = -6 := by decide
  have km2 : ((-2) : Int32).toInt = -2 := by decide
  have k0 : (0 : Int32).toInt = 0 := by decide
  have k3 : (3 : Int32).toInt = 3 := by decide
  refine lv_iload_n hx hb dX11_write_0 rfl (lv_at hl 1 rfl) ?_
  have hPc := hP.sub (ws' := []) [] rfl
  have hDc := hD.sub (ws' := []) [] (by decide) rfl
  have hFc := va_free (wc := []) hD hS hA [] rfl
  refine va_calli (va_runS (As := [.int p0]) (rest := []) ⟨hx, hb, hml, hown, hwd⟩ (s_X11_isSlotR l dC dI cI cZ cB cJ cM cG p0 s.heap.size) (cwS 1 hwd (gS kr40_12 kr40_13 kr5_11 kr40_14) rfl rfl rfl (by decide +kernel) ⟨Nat.le_of_ble_eq_true rfl, Nat.le_of_ble_eq_true rfl⟩) (kPreS hPc hK hDc) rfl rfl hl.1 rfl (lv_room (Nat.le_of_ble_eq_true rfl)) dX11_write_1 ⟨Nat.le_of_ble_eq_true rfl, Nat.le_of_ble_eq_true rfl⟩) hS (fun q _ h => hFc q h) hFc (fun r1 u2 t H1 locs ht9 hvm hw hB hz1 hk1 hS => ?_)
  obtain ⟨hw3, hw4, hw5, -⟩ := hw
  replace hw3 : (0 : Int) ≤ r1.toInt ∧ r1.toInt ≤ 1 := hw3
  obtain ⟨hP1, hD1⟩ := hB
  rw [ht9] at hP1
  obtain ⟨hP, hD⟩ := va_join (wr := [(a0, .inr (11, [.ref a1, .ref a2, .ref a3, .ref a4, .ref a5, .ref a6, .ref a7, .ref a8, .ref a9, .ref a10])), (a5, .inr (8, [.ref a36, .ref a37, .ref a38, .ref a39])), (a36, .inl (cI, 4, .inl xF24)), (a37, .inl (cI, 4, .inl xF25)), (a38, .inl (cZ, 4, .inl xF26)), (a39, .inl (cJ, 240, .inr (.inl xG27)))]) (w1 := []) hP hD [] [0, 1, 2, 3, 4, 5] rfl rfl (by decide) (by decide) hk1 hFc hP1 hD1
  generalize H1 = H at hP hS ⊢
  replace hP : va_P (dC, dI) vwCl [(a0, .inr (11, [.ref a1, .ref a2, .ref a3, .ref a4, .ref a5, .ref a6, .ref a7, .ref a8, .ref a9, .ref a10])), (a5, .inr (8, [.ref a36, .ref a37, .ref a38, .ref a39])), (a36, .inl (cI, 4, .inl xF24)), (a37, .inl (cI, 4, .inl xF25)), (a38, .inl (cZ, 4, .inl xF26)), (a39, .inl (cJ, 240, .inr (.inl xG27)))] H := hP
  replace hD : va_D A [(a0, .inr (11, [.ref a1, .ref a2, .ref a3, .ref a4, .ref a5, .ref a6, .ref a7, .ref a8, .ref a9, .ref a10])), (a5, .inr (8, [.ref a36, .ref a37, .ref a38, .ref a39])), (a36, .inl (cI, 4, .inl xF24)), (a37, .inl (cI, 4, .inl xF25)), (a38, .inl (cZ, 4, .inl xF26)), (a39, .inl (cJ, 240, .inr (.inl xG27)))] := hD
  refine lv_if_ne (tgt := 10) hx hb dX11_write_4 (by decide) (fun c6 => ?_) (fun c6 => ?_)
  · rw [ki_eq] at c6
    have hw4q := hw4 (by omega)
    clear hw4
    refine lv_aload_n hx hb dX11_write_10 rfl (lv_at hl 0 rfl) ?_
    refine va_get (D := (dC, dI)) (ci := 11) (v := .ref a5) (C := RX11) (T := TX11) (N := 10) hx hb hwd inlX11 hown hK hP 0 rfl rfl 4 (by decide) (hwd _ kr16_11) (fun _ h9 => h9) rfl dX11_write_11 ?_
    refine lv_iload_n hx hb dX11_write_14 rfl (lv_at hl 1 rfl) ?_
    have hPc := hP.sub (ws' := [(a5, .inr (8, [.ref a36, .ref a37, .ref a38, .ref a39])), (a38, .inl (cZ, 4, .inl xF26))]) [1, 4] rfl
    have hDc := hD.sub (ws' := [(a5, .inr (8, [.ref a36, .ref a37, .ref a38, .ref a39])), (a38, .inl (cZ, 4, .inl xF26))]) [1, 4] (by decide) rfl
    have hFc := va_free (wc := [(a5, .inr (8, [.ref a36, .ref a37, .ref a38, .ref a39])), (a38, .inl (cZ, 4, .inl xF26))]) hD hS hA [1, 4] rfl
    refine va_calli (va_runV (As := [.int p0]) (rest := []) ⟨hx, hb, hml, hown, hwd⟩ (s_X8_hasRowR l dC dI cI cZ cB cJ cM cG a5 a36 a37 a38 a39 xF26 p0 H.size (show rng xF26 4 0 1 from p_1) (show (0 : Int) ≤ p0.toInt ∧ p0.toInt ≤ 3 from ⟨by omega, by omega⟩)) (cwV 1 hwd (gV kr40_15 kr40_16 kr40_17 kr5_16 kr40_18) rfl rfl rfl (by decide +kernel) ⟨Nat.le_of_ble_eq_true rfl, Nat.le_of_ble_eq_true rfl⟩) (kPreV hPc hK hDc (ci := 8) (q0 := 0) rfl rfl) rfl rfl hl.1 rfl (lv_room (Nat.le_of_ble_eq_true rfl)) dX11_write_15 ⟨Nat.le_of_ble_eq_true rfl, Nat.le_of_ble_eq_true rfl⟩) hS (fun q _ h => hFc q h) hFc (fun r7 u8 t H1 locs ht9 hvm hw hB hz1 hk1 hS => ?_)
    obtain ⟨hw9, hw10, -⟩ := hw
    replace hw9 : (0 : Int) ≤ r7.toInt ∧ r7.toInt ≤ 1 := hw9
    replace hw10 : r7.toInt = (xF26 p0.toNatClampNeg).toInt := hw10
    obtain ⟨hP1, hD1⟩ := hB
    rw [ht9] at hP1
    obtain ⟨hP, hD⟩ := va_join (wr := [(a0, .inr (11, [.ref a1, .ref a2, .ref a3, .ref a4, .ref a5, .ref a6, .ref a7, .ref a8, .ref a9, .ref a10])), (a36, .inl (cI, 4, .inl xF24)), (a37, .inl (cI, 4, .inl xF25)), (a39, .inl (cJ, 240, .inr (.inl xG27)))]) (w1 := [(a5, .inr (8, [.ref a36, .ref a37, .ref a38, .ref a39])), (a38, .inl (cZ, 4, .inl xF26))]) hP hD [1, 4] [0, 2, 3, 5] rfl rfl (by decide) (by decide) hk1 hFc hP1 hD1
    generalize H1 = H at hP hS ⊢
    replace hP : va_P (dC, dI) vwCl [(a0, .inr (11, [.ref a1, .ref a2, .ref a3, .ref a4, .ref a5, .ref a6, .ref a7, .ref a8, .ref a9, .ref a10])), (a36, .inl (cI, 4, .inl xF24)), (a37, .inl (cI, 4, .inl xF25)), (a39, .inl (cJ, 240, .inr (.inl xG27))), (a5, .inr (8, [.ref a36, .ref a37, .ref a38, .ref a39])), (a38, .inl (cZ, 4, .inl xF26))] H := hP
    replace hD : va_D A [(a0, .inr (11, [.ref a1, .ref a2, .ref a3, .ref a4, .ref a5, .ref a6, .ref a7, .ref a8, .ref a9, .ref a10])), (a36, .inl (cI, 4, .inl xF24)), (a37, .inl (cI, 4, .inl xF25)), (a39, .inl (cJ, 240, .inr (.inl xG27))), (a5, .inr (8, [.ref a36, .ref a37, .ref a38, .ref a39])), (a38, .inl (cZ, 4, .inl xF26))] := hD
    refine lv_if_ne (tgt := 24) hx hb dX11_write_18 (by decide) (fun c11 => ?_) (fun c11 => ?_)
    · rw [ki_eq] at c11
      refine lv_iload_n hx hb dX11_write_24 rfl (lv_at hl 2 rfl) ?_
      refine lv_if_lt (tgt := 41) hx hb dX11_write_25 (by decide) (fun c12 => ?_) (fun c12 => ?_)
      · rw [ki_lt] at c12
        refine lv_bipush (v := (-7)) hx hb dX11_write_41 (by decide) ?_
        have hP9 := hP.sub (ws' := [(a0, .inr (11, [.ref a1, .ref a2, .ref a3, .ref a4, .ref a5, .ref a6, .ref a7, .ref a8, .ref a9, .ref a10])), (a5, .inr (8, [.ref a36, .ref a37, .ref a38, .ref a39])), (a36, .inl (cI, 4, .inl xF24)), (a37, .inl (cI, 4, .inl xF25)), (a38, .inl (cZ, 4, .inl xF26)), (a39, .inl (cJ, 240, .inr (.inl xG27)))]) [0, 4, 1, 2, 5, 3] rfl
        have hD9 := hD.sub (ws' := [(a0, .inr (11, [.ref a1, .ref a2, .ref a3, .ref a4, .ref a5, .ref a6, .ref a7, .ref a8, .ref a9, .ref a10])), (a5, .inr (8, [.ref a36, .ref a37, .ref a38, .ref a39])), (a36, .inl (cI, 4, .inl xF24)), (a37, .inl (cI, 4, .inl xF25)), (a38, .inl (cZ, 4, .inl xF26)), (a39, .inl (cJ, 240, .inr (.inl xG27)))]) [0, 4, 1, 2, 5, 3] (by decide) rfl
        rw [hQ]
        exact W.iret (v := (-7)) hx hb hr (fun t ht hW => ⟨⟨(-7), (pickG 0 [], pickG (fun _ => 0) [], pickG (fun _ => 0) [xG27]), rfl, ⟨(show (-7 : Int) ≤ ((-7) : Int32).toInt ∧ ((-7) : Int32).toInt ≤ 0 from ⟨by omega, by omega⟩), (show WRA xF26 xF25 p0 p1 ((-7) : Int32) from by unfold WRA; omega), trivial⟩, (by rw [ht]; exact hP9), hD9⟩, hS.F ht⟩) hS.2.2 dX11_write_43
      · rw [ki_lt] at c12
        refine lv_iload_n hx hb dX11_write_28 rfl (lv_at hl 2 rfl) ?_
        refine lv_aload_n hx hb dX11_write_29 rfl (lv_at hl 0 rfl) ?_
        refine va_get (D := (dC, dI)) (ci := 11) (v := .ref a5) (C := RX11) (T := TX11) (N := 10) hx hb hwd inlX11 hown hK hP 0 rfl rfl 4 (by decide) (hwd _ kr16_11) (fun _ h9 => h9) rfl dX11_write_30 ?_
        refine va_get (D := (dC, dI)) (ci := 8) (v := .ref a37) (C := RX8) (T := TX8) (N := 4) hx hb hwd inlX8 hown hK hP 4 rfl rfl 1 (by decide) (hwd _ kr9_22) (fun _ h9 => h9) rfl dX11_write_33 ?_
        refine lv_iload_n hx hb dX11_write_36 rfl (lv_at hl 1 rfl) ?_
        have h13 : vp_in p0 4 := (vp_of (by omega) (by omega))
        refine va_iald hx hb hK hP 2 0 rfl rfl h13 dX11_write_37 ?_
        refine lv_topi (fun x14 ex14 => ?_)
        have tx14 : (0 : Int) ≤ x14.toInt ∧ x14.toInt ≤ 60 := by rw [ex14]; exact p_0 _ (vp_nat h13)
        have qx14 : x14.toInt = (xF25 p0.toNatClampNeg).toInt := by rw [ex14]
        refine lv_icmp_lt (tgt := 44) hx hb dX11_write_38 (by decide) (fun c15 => ?_) (fun c15 => ?_)
        · rw [ki_lt] at c15
          refine lv_aload_n hx hb dX11_write_44 rfl (lv_at hl 0 rfl) ?_
          refine va_get (D := (dC, dI)) (ci := 11) (v := .ref a5) (C := RX11) (T := TX11) (N := 10) hx hb hwd inlX11 hown hK hP 0 rfl rfl 4 (by decide) (hwd _ kr16_11) (fun _ h9 => h9) rfl dX11_write_45 ?_
          refine lv_iload_n hx hb dX11_write_48 rfl (lv_at hl 1 rfl) ?_
          refine lv_iload_n hx hb dX11_write_49 rfl (lv_at hl 2 rfl) ?_
          refine lv_lload_n hx hb dX11_write_50 rfl (lv_at hl 3 rfl) ?_
          have hPc := hP.sub (ws' := [(a5, .inr (8, [.ref a36, .ref a37, .ref a38, .ref a39])), (a36, .inl (cI, 4, .inl xF24)), (a39, .inl (cJ, 240, .inr (.inl xG27)))]) [4, 1, 3] rfl
          have hDc := hD.sub (ws' := [(a5, .inr (8, [.ref a36, .ref a37, .ref a38, .ref a39])), (a36, .inl (cI, 4, .inl xF24)), (a39, .inl (cJ, 240, .inr (.inl xG27)))]) [4, 1, 3] (by decide) rfl
          have hFc := va_free (wc := [(a5, .inr (8, [.ref a36, .ref a37, .ref a38, .ref a39])), (a36, .inl (cI, 4, .inl xF24)), (a39, .inl (cJ, 240, .inr (.inl xG27)))]) hD hS hA [4, 1, 3] rfl
          refine va_callv (va_runV (As := [.int p0, .int p1, .long y2]) (rest := []) ⟨hx, hb, hml, hown, hwd⟩ (s_X8_put l dC dI cI cZ cB cJ cM cG a5 a36 a37 a38 a39 xF24 xG27 p0 p1 y2 H.size (show (0 : Int) ≤ p0.toInt ∧ p0.toInt ≤ 3 from ⟨by omega, by omega⟩) (show (0 : Int) ≤ p1.toInt ∧ p1.toInt ≤ 59 from ⟨by omega, by omega⟩)) (cwV 3 hwd (gV kr47_21 kr47_22 kr47_23 kr5_16 kr48_0) rfl rfl rfl (by decide +kernel) ⟨Nat.le_of_ble_eq_true rfl, Nat.le_of_ble_eq_true rfl⟩) (kPreV hPc hK hDc (ci := 8) (q0 := 0) rfl rfl) rfl rfl hl.1 rfl (lv_room (Nat.le_of_ble_eq_true rfl)) dX11_write_51 ⟨Nat.le_of_ble_eq_true rfl, Nat.le_of_ble_eq_true rfl⟩) hS (fun q _ h => hFc q h) hFc (fun u17 t H1 locs ht9 hvm hw hB hz1 hk1 hS => ?_)
          obtain ⟨u18, U18, V18⟩ := u17
          obtain ⟨hP1, hD1⟩ := hB
          rw [ht9] at hP1
          obtain ⟨hP, hD⟩ := va_join (wr := [(a0, .inr (11, [.ref a1, .ref a2, .ref a3, .ref a4, .ref a5, .ref a6, .ref a7, .ref a8, .ref a9, .ref a10])), (a37, .inl (cI, 4, .inl xF25)), (a38, .inl (cZ, 4, .inl xF26))]) (w1 := [(a5, .inr (8, [.ref a36, .ref a37, .ref a38, .ref a39])), (a36, .inl (cI, 4, .inl xF24)), (a39, .inl (cJ, 240, .inr (.inl (V18 0))))]) hP hD [4, 1, 3] [0, 2, 5] rfl rfl (by decide) (by decide) hk1 hFc hP1 hD1
          generalize H1 = H at hP hS ⊢
          replace hP : va_P (dC, dI) vwCl [(a0, .inr (11, [.ref a1, .ref a2, .ref a3, .ref a4, .ref a5, .ref a6, .ref a7, .ref a8, .ref a9, .ref a10])), (a37, .inl (cI, 4, .inl xF25)), (a38, .inl (cZ, 4, .inl xF26)), (a5, .inr (8, [.ref a36, .ref a37, .ref a38, .ref a39])), (a36, .inl (cI, 4, .inl xF24)), (a39, .inl (cJ, 240, .inr (.inl (V18 0))))] H := hP
          replace hD : va_D A [(a0, .inr (11, [.ref a1, .ref a2, .ref a3, .ref a4, .ref a5, .ref a6, .ref a7, .ref a8, .ref a9, .ref a10])), (a37, .inl (cI, 4, .inl xF25)), (a38, .inl (cZ, 4, .inl xF26)), (a5, .inr (8, [.ref a36, .ref a37, .ref a38, .ref a39])), (a36, .inl (cI, 4, .inl xF24)), (a39, .inl (cJ, 240, .inr (.inl (V18 0))))] := hD
          refine lv_iconst (v := 0) hx hb dX11_write_54 (by decide) ?_
          have hP9 := hP.sub (ws' := [(a0, .inr (11, [.ref a1, .ref a2, .ref a3, .ref a4, .ref a5, .ref a6, .ref a7, .ref a8, .ref a9, .ref a10])), (a5, .inr (8, [.ref a36, .ref a37, .ref a38, .ref a39])), (a36, .inl (cI, 4, .inl xF24)), (a37, .inl (cI, 4, .inl xF25)), (a38, .inl (cZ, 4, .inl xF26)), (a39, .inl (cJ, 240, .inr (.inl (V18 0))))]) [0, 3, 4, 1, 2, 5] rfl
          have hD9 := hD.sub (ws' := [(a0, .inr (11, [.ref a1, .ref a2, .ref a3, .ref a4, .ref a5, .ref a6, .ref a7, .ref a8, .ref a9, .ref a10])), (a5, .inr (8, [.ref a36, .ref a37, .ref a38, .ref a39])), (a36, .inl (cI, 4, .inl xF24)), (a37, .inl (cI, 4, .inl xF25)), (a38, .inl (cZ, 4, .inl xF26)), (a39, .inl (cJ, 240, .inr (.inl (V18 0))))]) [0, 3, 4, 1, 2, 5] (by decide) rfl
          rw [hQ]
          exact W.iret (v := 0) hx hb hr (fun t ht hW => ⟨⟨0, (pickG 0 [], pickG (fun _ => 0) [], pickG (fun _ => 0) [(V18 0)]), rfl, ⟨(show (-7 : Int) ≤ (0 : Int32).toInt ∧ (0 : Int32).toInt ≤ 0 from ⟨by omega, by omega⟩), (show WRA xF26 xF25 p0 p1 (0 : Int32) from by unfold WRA; omega), trivial⟩, (by rw [ht]; exact hP9), hD9⟩, hS.F ht⟩) hS.2.2 dX11_write_55
        · rw [ki_lt] at c15
          refine lv_bipush (v := (-7)) hx hb dX11_write_41 (by decide) ?_
          have hP9 := hP.sub (ws' := [(a0, .inr (11, [.ref a1, .ref a2, .ref a3, .ref a4, .ref a5, .ref a6, .ref a7, .ref a8, .ref a9, .ref a10])), (a5, .inr (8, [.ref a36, .ref a37, .ref a38, .ref a39])), (a36, .inl (cI, 4, .inl xF24)), (a37, .inl (cI, 4, .inl xF25)), (a38, .inl (cZ, 4, .inl xF26)), (a39, .inl (cJ, 240, .inr (.inl xG27)))]) [0, 4, 1, 2, 5, 3] rfl
          have hD9 := hD.sub (ws' := [(a0, .inr (11, [.ref a1, .ref a2, .ref a3, .ref a4, .ref a5, .ref a6, .ref a7, .ref a8, .ref a9, .ref a10])), (a5, .inr (8, [.ref a36, .ref a37, .ref a38, .ref a39])), (a36, .inl (cI, 4, .inl xF24)), (a37, .inl (cI, 4, .inl xF25)), (a38, .inl (cZ, 4, .inl xF26)), (a39, .inl (cJ, 240, .inr (.inl xG27)))]) [0, 4, 1, 2, 5, 3] (by decide) rfl
          rw [hQ]
          exact W.iret (v := (-7)) hx hb hr (fun t ht hW => ⟨⟨(-7), (pickG 0 [], pickG (fun _ => 0) [], pickG (fun _ => 0) [xG27]), rfl, ⟨(show (-7 : Int) ≤ ((-7) : Int32).toInt ∧ ((-7) : Int32).toInt ≤ 0 from ⟨by omega, by omega⟩), (show WRA xF26 xF25 p0 p1 ((-7) : Int32) from by unfold WRA; omega), trivial⟩, (by rw [ht]; exact hP9), hD9⟩, hS.F ht⟩) hS.2.2 dX11_write_43
    · rw [ki_eq] at c11
      refine lv_bipush (v := (-6)) hx hb dX11_write_21 (by decide) ?_
      have hP9 := hP.sub (ws' := [(a0, .inr (11, [.ref a1, .ref a2, .ref a3, .ref a4, .ref a5, .ref a6, .ref a7, .ref a8, .ref a9, .ref a10])), (a5, .inr (8, [.ref a36, .ref a37, .ref a38, .ref a39])), (a36, .inl (cI, 4, .inl xF24)), (a37, .inl (cI, 4, .inl xF25)), (a38, .inl (cZ, 4, .inl xF26)), (a39, .inl (cJ, 240, .inr (.inl xG27)))]) [0, 4, 1, 2, 5, 3] rfl
      have hD9 := hD.sub (ws' := [(a0, .inr (11, [.ref a1, .ref a2, .ref a3, .ref a4, .ref a5, .ref a6, .ref a7, .ref a8, .ref a9, .ref a10])), (a5, .inr (8, [.ref a36, .ref a37, .ref a38, .ref a39])), (a36, .inl (cI, 4, .inl xF24)), (a37, .inl (cI, 4, .inl xF25)), (a38, .inl (cZ, 4, .inl xF26)), (a39, .inl (cJ, 240, .inr (.inl xG27)))]) [0, 4, 1, 2, 5, 3] (by decide) rfl
      rw [hQ]
      exact W.iret (v := (-6)) hx hb hr (fun t ht hW => ⟨⟨(-6), (pickG 0 [], pickG (fun _ => 0) [], pickG (fun _ => 0) [xG27]), rfl, ⟨(show (-7 : Int) ≤ ((-6) : Int32).toInt ∧ ((-6) : Int32).toInt ≤ 0 from ⟨by omega, by omega⟩), (show WRA xF26 xF25 p0 p1 ((-6) : Int32) from by unfold WRA; omega), trivial⟩, (by rw [ht]; exact hP9), hD9⟩, hS.F ht⟩) hS.2.2 dX11_write_23
  · rw [ki_eq] at c6
    have hw5q := hw5 (by omega)
    clear hw5
    refine lv_bipush (v := (-2)) hx hb dX11_write_7 (by decide) ?_
    have hP9 := hP.sub (ws' := [(a0, .inr (11, [.ref a1, .ref a2, .ref a3, .ref a4, .ref a5, .ref a6, .ref a7, .ref a8, .ref a9, .ref a10])), (a5, .inr (8, [.ref a36, .ref a37, .ref a38, .ref a39])), (a36, .inl (cI, 4, .inl xF24)), (a37, .inl (cI, 4, .inl xF25)), (a38, .inl (cZ, 4, .inl xF26)), (a39, .inl (cJ, 240, .inr (.inl xG27)))]) [0, 1, 2, 3, 4, 5] rfl
    have hD9 := hD.sub (ws' := [(a0, .inr (11, [.ref a1, .ref a2, .ref a3, .ref a4, .ref a5, .ref a6, .ref a7, .ref a8, .ref a9, .ref a10])), (a5, .inr (8, [.ref a36, .ref a37, .ref a38, .ref a39])), (a36, .inl (cI, 4, .inl xF24)), (a37, .inl (cI, 4, .inl xF25)), (a38, .inl (cZ, 4, .inl xF26)), (a39, .inl (cJ, 240, .inr (.inl xG27)))]) [0, 1, 2, 3, 4, 5] (by decide) rfl
    rw [hQ]
    exact W.iret (v := (-2)) hx hb hr (fun t ht hW => ⟨⟨(-2), (pickG 0 [], pickG (fun _ => 0) [], pickG (fun _ => 0) [xG27]), rfl, ⟨(show (-7 : Int) ≤ ((-2) : Int32).toInt ∧ ((-2) : Int32).toInt ≤ 0 from ⟨by omega, by omega⟩), (show WRA xF26 xF25 p0 p1 ((-2) : Int32) from by unfold WRA; omega), trivial⟩, (by rw [ht]; exact hP9), hD9⟩, hS.F ht⟩) hS.2.2 dX11_write_9
set_option maxHeartbeats 4000000 in
set_option maxRecDepth 100000 in
theorem s_X12_writeR (l : Launch) (dC : Nat → ClassId) (dI : Nat → Nat → Nat) (cI cZ cB cJ cM cG : ClassId) (a0 a1 a2 a3 a4 a5 a6 a7 a8 a9 a10 a11 a12 a13 a14 a15 a16 a17 a18 a19 a20 a21 a22 a23 a24 : Nat) (i0 i1 i2 i3 i4 i5 i6 i7 i8 i9 i10 i11 i12 i13 i14 i15 i16 : Int32) (j0 : Int64) (xF20 xF21 : Nat → Int32) (xG22 : Nat → Int64) (p0 p1 : Int32) (y2 : Int64) (sz : Nat) (p_0 : (0 : Int) ≤ i1.toInt ∧ i1.toInt ≤ 1600) (p_1 : (0 : Int) ≤ i2.toInt ∧ i2.toInt ≤ 1600) (p_2 : (0 : Int) ≤ i3.toInt ∧ i3.toInt ≤ 1600) (p_3 : (0 : Int) ≤ i4.toInt ∧ i4.toInt ≤ 1600) (p_4 : (0 : Int) ≤ i5.toInt ∧ i5.toInt ≤ 6) (p_5 : (0 : Int) ≤ i7.toInt ∧ i7.toInt ≤ 3) (p_6 : (0 : Int) ≤ i11.toInt ∧ i11.toInt ≤ 59) (p_7 : rng xF20 4 (-1) 60) (p_8 : MI xF20) (p_9 : rng xF21 4 0 3) : Met l yX12_write (kw yX12_write cX12_write 5 (some .int)) ({ frames := 2, cells := 0, slots := 0, locals := 45 } : Room) (va_Pc [.ref a0, .int p0, .int p1, .long y2] (kPre dC dI [(cI, .int), (cZ, .boolean), (cB, .byte), (cJ, .long), (cM, .object RX2), (cG, .array .int)] [(a0, .inr (12, [.int i0, .ref a1, .ref a2, .ref a3, .ref a4, .int i1, .ref a5, .int i2, .int i3, .int i4, .int i5, .int i6, .int i7, .int i8, .ref a6, .ref a7, .ref a8, .ref a9, .ref a10, .ref a11, .ref a12, .int i9, .ref a13, .int i10, .ref a14, .ref a15, .int i11, .ref a16, .ref a17, .ref a18, .ref a19, .int i12, .int i13, .int i14, .int i15, .int i16, .ref a20, .long j0, .ref a21, .ref a22, .ref a23, .ref a24])), (a21, .inl (cI, 4, .inl xF20)), (a22, .inl (cI, 4, .inl xF21)), (a23, .inl (cJ, 240, .inr (.inl xG22)))] sz)) (va_Qi (fun (r : Int32) (u9 : (Nat → Int32) × (Nat → Nat → Int32) × (Nat → Nat → Int64)) => ((-7 : Int) ≤ r.toInt ∧ r.toInt ≤ 0) ∧ (WRB xF20 p0 p1 r) ∧ True) (fun u9 t => va_P (dC, dI) vwCl [(a0, .inr (12, [.int i0, .ref a1, .ref a2, .ref a3, .ref a4, .int i1, .ref a5, .int i2, .int i3, .int i4, .int i5, .int i6, .int i7, .int i8, .ref a6, .ref a7, .ref a8, .ref a9, .ref a10, .ref a11, .ref a12, .int i9, .ref a13, .int i10, .ref a14, .ref a15, .int i11, .ref a16, .ref a17, .ref a18, .ref a19, .int i12, .int i13, .int i14, .int i15, .int i16, .ref a20, .long j0, .ref a21, .ref a22, .ref a23, .ref a24])), (a21, .inl (cI, 4, .inl xF20)), (a22, .inl (cI, 4, .inl xF21)), (a23, .inl (cJ, 240, .inr (.inl (u9.2.2 0))))] t.heap ∧ va_D (va_A [(a0, .inr (12, [.int i0, .ref a1, .ref a2, .ref a3, .ref a4, .int i1, .ref a5, .int i2, .int i3, .int i4, .int i5, .int i6, .int i7, .int i8, .ref a6, .ref a7, .ref a8, .ref a9, .ref a10, .ref a11, .ref a12, .int i9, .ref a13, .int i10, .ref a14, .ref a15, .int i11, .ref a16, .ref a17, .ref a18, .ref a19, .int i12, .int i13, .int i14, .int i15, .int i16, .ref a20, .long j0, .ref a21, .ref a22, .ref a23, .ref a24])), (a21, .inl (cI, 4, .inl xF20)), (a22, .inl (cI, 4, .inl xF21)), (a23, .inl (cJ, 240, .inr (.inl xG22)))] sz) [(a0, .inr (12, [.int i0, .ref a1, .ref a2, .ref a3, .ref a4, .int i1, .ref a5, .int i2, .int i3, .int i4, .int i5, .int i6, .int i7, .int i8, .ref a6, .ref a7, .ref a8, .ref a9, .ref a10, .ref a11, .ref a12, .int i9, .ref a13, .int i10, .ref a14, .ref a15, .int i11, .ref a16, .ref a17, .ref a18, .ref a19, .int i12, .int i13, .int i14, .int i15, .int i16, .ref a20, .long j0, .ref a21, .ref a22, .ref a23, .ref a24])), (a21, .inl (cI, 4, .inl xF20)), (a22, .inl (cI, 4, .inl xF21)), (a23, .inl (cJ, 240, .inr (.inl (u9.2.2 0))))]) (va_A [(a0, .inr (12, [.int i0, .ref a1, .ref a2, .ref a3, .ref a4, .int i1, .ref a5, .int i2, .int i3, .int i4, .int i5, .int i6, .int i7, .int i8, .ref a6, .ref a7, .ref a8, .ref a9, .ref a10, .ref a11, .ref a12, .int i9, .ref a13, .int i10, .ref a14, .ref a15, .int i11, .ref a16, .ref a17, .ref a18, .ref a19, .int i12, .int i13, .int i14, .int i15, .int i16, .ref a20, .long j0, .ref a21, .ref a22, .ref a23, .ref a24])), (a21, .inl (cI, 4, .inl xF20)), (a22, .inl (cI, 4, .inl xF21)), (a23, .inl (cJ, 240, .inr (.inl xG22)))] sz)) 0 0 (va_A [(a0, .inr (12, [.int i0, .ref a1, .ref a2, .ref a3, .ref a4, .int i1, .ref a5, .int i2, .int i3, .int i4, .int i5, .int i6, .int i7, .int i8, .ref a6, .ref a7, .ref a8, .ref a9, .ref a10, .ref a11, .ref a12, .int i9, .ref a13, .int i10, .ref a14, .ref a15, .int i11, .ref a16, .ref a17, .ref a18, .ref a19, .int i12, .int i13, .int i14, .int i15, .int i16, .ref a20, .long j0, .ref a21, .ref a22, .ref a23, .ref a24])), (a21, .inl (cI, 4, .inl xF20)), (a22, .inl (cI, 4, .inl xF21)), (a23, .inl (cJ, 240, .inr (.inl xG22)))] sz) := by
  refine kEnter (by decide) (Nat.le_of_ble_eq_true rfl) ?_
  intro p e s m below meth c ls hx hb hr hml hown hlocks hin hwd hsz hP hK hD hl
  subst hsz
  generalize hAe : va_A [(a0, .inr (12, [.int i0, .ref a1, .ref a2, .ref a3, .ref a4, .int i1, .ref a5, .int i2, .int i3, .int i4, .int i5, .int i6, .int i7, .int i8, .ref a6, .ref a7, .ref a8, .ref a9, .ref a10, .ref a11, .ref a12, .int i9, .ref a13, .int i10, .ref a14, .ref a15, .int i11, .ref a16, .ref a17, .ref a18, .ref a19, .int i12, .int i13, .int i14, .int i15, .int i16, .ref a20, .long j0, .ref a21, .ref a22, .ref a23, .ref a24])), (a21, .inl (cI, 4, .inl xF20)), (a22, .inl (cI, 4, .inl xF21)), (a23, .inl (cJ, 240, .inr (.inl xG22)))] s.heap.size = A at hD ⊢
  have hA : ∀ q : Nat, s.heap.size ≤ q → A q := fun q h => by rw [← hAe]; exact Or.inr h
  have hS : va_S A s.heap s.heap [] := va_S.rf
  have hl : lv_has ls 5 [(0, .ref a0), (1, .int p0), (2, .int p1), (3, .long y2)] := hl
  obtain ⟨Q, hQ⟩ : ∃ Q, Q = MQ below (va_Qi (fun (r : Int32) (u9 : (Nat → Int32) × (Nat → Nat → Int32) × (Nat → Nat → Int64)) => ((-7 : Int) ≤ r.toInt ∧ r.toInt ≤ 0) ∧ (WRB xF20 p0 p1 r) ∧ True) (fun u9 t => va_P (dC, dI) vwCl [(a0, .inr (12, [.int i0, .ref a1, .ref a2, .ref a3, .ref a4, .int i1, .ref a5, .int i2, .int i3, .int i4, .int i5, .int i6, .int i7, .int i8, .ref a6, .ref a7, .ref a8, .ref a9, .ref a10, .ref a11, .ref a12, .int i9, .ref a13, .int i10, .ref a14, .ref a15, .int i11, .ref a16, .ref a17, .ref a18, .ref a19, .int i12, .int i13, .int i14, .int i15, .int i16, .ref a20, .long j0, .ref a21, .ref a22, .ref a23, .ref a24])), (a21, .inl (cI, 4, .inl xF20)), (a22, .inl (cI, 4, .inl xF21)), (a23, .inl (cJ, 240, .inr (.inl (u9.2.2 0))))] t.heap ∧ va_D A [(a0, .inr (12, [.int i0, .ref a1, .ref a2, .ref a3, .ref a4, .int i1, .ref a5, .int i2, .int i3, .int i4, .int i5, .int i6, .int i7, .int i8, .ref a6, .ref a7, .ref a8, .ref a9, .ref a10, .ref a11, .ref a12, .int i9, .ref a13, .int i10, .ref a14, .ref a15, .int i11, .ref a16, .ref a17, .ref a18, .ref a19, .int i12, .int i13, .int i14, .int i15, .int i16, .ref a20, .long j0, .ref a21, .ref a22, .ref a23, .ref a24])), (a21, .inl (cI, 4, .inl xF20)), (a22, .inl (cI, 4, .inl xF21)), (a23, .inl (cJ, 240, .inr (.inl (u9.2.2 0))))]) A) ([.ref a0, .int p0, .int p1, .long y2] : List Value).toArray s 0 0 A := ⟨_, rfl⟩
  rw [← hQ]
  have km7 : ((-7) : Int32).toInt = -7 := by decide
  have km6 : ((-6) : Int32).toInt = -6 := by decide
  have km2 : ((-2) : Int32).toInt = -2 := by decide
  have km1 : ((-1) : Int32).toInt = -1 := by decide
  have k0 : (0 : Int32).toInt = 0 := by decide
  have k1 : (1 : Int32).toInt = 1 := by decide
  have k3 : (3 : Int32).toInt = 3 := by decide
  have k60 : (60 : Int32).toInt = 60 := by decide
  refine lv_iload_n hx hb dX12_write_0 rfl (lv_at hl 1 rfl) ?_
  have hPc := hP.sub (ws' := []) [] rfl
  have hDc := hD.sub (ws' := []) [] (by decide) rfl
  have hFc := va_free (wc := []) hD hS hA [] rfl
  refine va_calli (va_runS (As := [.int p0]) (rest := []) ⟨hx, hb, hml, hown, hwd⟩ (s_X12_isSlotR l dC dI cI cZ cB cJ cM cG p0 s.heap.size) (cwS 1 hwd (gS kr65_0 kr65_1 kr5_23 kr65_2) rfl rfl rfl (by decide +kernel) ⟨Nat.le_of_ble_eq_true rfl, Nat.le_of_ble_eq_true rfl⟩) (kPreS hPc hK hDc) rfl rfl hl.1 rfl (lv_room (Nat.le_of_ble_eq_true rfl)) dX12_write_1 ⟨Nat.le_of_ble_eq_true rfl, Nat.le_of_ble_eq_true rfl⟩) hS (fun q _ h => hFc q h) hFc (fun r1 u2 t H1 locs ht9 hvm hw hB hz1 hk1 hS => ?_)
  obtain ⟨hw3, hw4, hw5, -⟩ := hw
  replace hw3 : (0 : Int) ≤ r1.toInt ∧ r1.toInt ≤ 1 := hw3
  obtain ⟨hP1, hD1⟩ := hB
  rw [ht9] at hP1
  obtain ⟨hP, hD⟩ := va_join (wr := [(a0, .inr (12, [.int i0, .ref a1, .ref a2, .ref a3, .ref a4, .int i1, .ref a5, .int i2, .int i3, .int i4, .int i5, .int i6, .int i7, .int i8, .ref a6, .ref a7, .ref a8, .ref a9, .ref a10, .ref a11, .ref a12, .int i9, .ref a13, .int i10, .ref a14, .ref a15, .int i11, .ref a16, .ref a17, .ref a18, .ref a19, .int i12, .int i13, .int i14, .int i15, .int i16, .ref a20, .long j0, .ref a21, .ref a22, .ref a23, .ref a24])), (a21, .inl (cI, 4, .inl xF20)), (a22, .inl (cI, 4, .inl xF21)), (a23, .inl (cJ, 240, .inr (.inl xG22)))]) (w1 := []) hP hD [] [0, 1, 2, 3] rfl rfl (by decide) (by decide) hk1 hFc hP1 hD1
  generalize H1 = H at hP hS ⊢
  replace hP : va_P (dC, dI) vwCl [(a0, .inr (12, [.int i0, .ref a1, .ref a2, .ref a3, .ref a4, .int i1, .ref a5, .int i2, .int i3, .int i4, .int i5, .int i6, .int i7, .int i8, .ref a6, .ref a7, .ref a8, .ref a9, .ref a10, .ref a11, .ref a12, .int i9, .ref a13, .int i10, .ref a14, .ref a15, .int i11, .ref a16, .ref a17, .ref a18, .ref a19, .int i12, .int i13, .int i14, .int i15, .int i16, .ref a20, .long j0, .ref a21, .ref a22, .ref a23, .ref a24])), (a21, .inl (cI, 4, .inl xF20)), (a22, .inl (cI, 4, .inl xF21)), (a23, .inl (cJ, 240, .inr (.inl xG22)))] H := hP
  replace hD : va_D A [(a0, .inr (12, [.int i0, .ref a1, .ref a2, .ref a3, .ref a4, .int i1, .ref a5, .int i2, .int i3, .int i4, .int i5, .int i6, .int i7, .int i8, .ref a6, .ref a7, .ref a8, .ref a9, .ref a10, .ref a11, .ref a12, .int i9, .ref a13, .int i10, .ref a14, .ref a15, .int i11, .ref a16, .ref a17, .ref a18, .ref a19, .int i12, .int i13, .int i14, .int i15, .int i16, .ref a20, .long j0, .ref a21, .ref a22, .ref a23, .ref a24])), (a21, .inl (cI, 4, .inl xF20)), (a22, .inl (cI, 4, .inl xF21)), (a23, .inl (cJ, 240, .inr (.inl xG22)))] := hD
  refine lv_if_ne (tgt := 10) hx hb dX12_write_4 (by decide) (fun c6 => ?_) (fun c6 => ?_)
  · rw [ki_eq] at c6
    have hw4q := hw4 (by omega)
    clear hw4
    refine lv_aload_n hx hb dX12_write_10 rfl (lv_at hl 0 rfl) ?_
    refine va_get (D := (dC, dI)) (ci := 12) (v := .ref a21) (C := RX12) (T := TX12) (N := 42) hx hb hwd inlX12 hown hK hP 0 rfl rfl 38 (by decide) (hwd _ kr50_15) (fun _ h9 => h9) rfl dX12_write_11 ?_
    refine lv_iload_n hx hb dX12_write_14 rfl (lv_at hl 1 rfl) ?_
    have h7 : vp_in p0 4 := (vp_of (by omega) (by omega))
    refine va_iald hx hb hK hP 1 0 rfl rfl h7 dX12_write_15 ?_
    refine lv_topi (fun x8 ex8 => ?_)
    have ix8 : x8.toInt = (xF20 p0.toInt.toNat).toInt := by rw [ex8]; rfl
    have tx8 : (-1 : Int) ≤ x8.toInt ∧ x8.toInt ≤ 60 := by rw [ex8]; exact p_7 _ (vp_nat h7)
    have qx8 : x8.toInt = (xF20 p0.toNatClampNeg).toInt := by rw [ex8]
    refine lv_iconst (v := (-1)) hx hb dX12_write_16 (by decide) ?_
    refine lv_icmp_ne (tgt := 23) hx hb dX12_write_17 (by decide) (fun c9 => ?_) (fun c9 => ?_)
    · rw [ki_eq] at c9
      refine lv_iload_n hx hb dX12_write_23 rfl (lv_at hl 2 rfl) ?_
      refine lv_i2l hx hb dX12_write_24 rfl ?_
      refine lv_lconst (v := 0) hx hb dX12_write_25 (by decide) ?_
      refine lv_aload_n hx hb dX12_write_26 rfl (lv_at hl 0 rfl) ?_
      refine va_get (D := (dC, dI)) (ci := 12) (v := .ref a21) (C := RX12) (T := TX12) (N := 42) hx hb hwd inlX12 hown hK hP 0 rfl rfl 38 (by decide) (hwd _ kr50_15) (fun _ h9 => h9) rfl dX12_write_27 ?_
      refine lv_iload_n hx hb dX12_write_30 rfl (lv_at hl 1 rfl) ?_
      have h10 : vp_in p0 4 := (vp_of (by omega) (by omega))
      refine va_iald hx hb hK hP 1 0 rfl rfl h10 dX12_write_31 ?_
      refine lv_topi (nm_r (e' := x8) ex8.symm ?_)
      refine lv_iconst (v := 1) hx hb dX12_write_32 (by decide) ?_
      refine lv_isub hx hb dX12_write_33 ?_
      refine lv_topi (fun x11 ex11 => ?_)
      have tx11 := ia_sub (a := x8) (b := (1 : Int32)) (by omega) (by omega)
      rw [← ex11] at tx11
      refine lv_i2l hx hb dX12_write_34 rfl ?_
      have hPc := hP.sub (ws' := []) [] rfl
      have hDc := hD.sub (ws' := []) [] (by decide) rfl
      have hFc := va_free (wc := []) hD hS hA [] rfl
      refine va_calli (va_runS (As := [.long p1.toInt64, .long 0, .long x11.toInt64]) (rest := []) ⟨hx, hb, hml, hown, hwd⟩ (s_X12_in l dC dI cI cZ cB cJ cM cG p1.toInt64 0 x11.toInt64 H.size) (cwS 3 hwd (gS kr51_0 kr51_1 kr5_23 kr51_2) rfl rfl rfl (by decide +kernel) ⟨Nat.le_of_ble_eq_true rfl, Nat.le_of_ble_eq_true rfl⟩) (kPreS hPc hK hDc) rfl rfl hl.1 rfl (lv_room (Nat.le_of_ble_eq_true rfl)) dX12_write_35 ⟨Nat.le_of_ble_eq_true rfl, Nat.le_of_ble_eq_true rfl⟩) hS (fun q _ h => hFc q h) hFc (fun r12 u13 t H1 locs ht9 hvm hw hB hz1 hk1 hS => ?_)
      obtain ⟨hw14, hw15, hw16, -⟩ := hw
      replace hw14 : (0 : Int) ≤ r12.toInt ∧ r12.toInt ≤ 1 := hw14
      have hw15 : r12.toInt ≠ 0 → (0 : Int) ≤ p1.toInt ∧ p1.toInt ≤ x11.toInt := in_int (Int32.toInt_toInt64 _) (by decide) (Int32.toInt_toInt64 _) hw15
      have hw16 : r12.toInt ≠ 1 → p1.toInt < (0 : Int) ∨ x11.toInt < p1.toInt := in_int2 (Int32.toInt_toInt64 _) (by decide) (Int32.toInt_toInt64 _) hw16
      obtain ⟨hP1, hD1⟩ := hB
      rw [ht9] at hP1
      obtain ⟨hP, hD⟩ := va_join (wr := [(a0, .inr (12, [.int i0, .ref a1, .ref a2, .ref a3, .ref a4, .int i1, .ref a5, .int i2, .int i3, .int i4, .int i5, .int i6, .int i7, .int i8, .ref a6, .ref a7, .ref a8, .ref a9, .ref a10, .ref a11, .ref a12, .int i9, .ref a13, .int i10, .ref a14, .ref a15, .int i11, .ref a16, .ref a17, .ref a18, .ref a19, .int i12, .int i13, .int i14, .int i15, .int i16, .ref a20, .long j0, .ref a21, .ref a22, .ref a23, .ref a24])), (a21, .inl (cI, 4, .inl xF20)), (a22, .inl (cI, 4, .inl xF21)), (a23, .inl (cJ, 240, .inr (.inl xG22)))]) (w1 := []) hP hD [] [0, 1, 2, 3] rfl rfl (by decide) (by decide) hk1 hFc hP1 hD1
      generalize H1 = H at hP hS ⊢
      replace hP : va_P (dC, dI) vwCl [(a0, .inr (12, [.int i0, .ref a1, .ref a2, .ref a3, .ref a4, .int i1, .ref a5, .int i2, .int i3, .int i4, .int i5, .int i6, .int i7, .int i8, .ref a6, .ref a7, .ref a8, .ref a9, .ref a10, .ref a11, .ref a12, .int i9, .ref a13, .int i10, .ref a14, .ref a15, .int i11, .ref a16, .ref a17, .ref a18, .ref a19, .int i12, .int i13, .int i14, .int i15, .int i16, .ref a20, .long j0, .ref a21, .ref a22, .ref a23, .ref a24])), (a21, .inl (cI, 4, .inl xF20)), (a22, .inl (cI, 4, .inl xF21)), (a23, .inl (cJ, 240, .inr (.inl xG22)))] H := hP
      replace hD : va_D A [(a0, .inr (12, [.int i0, .ref a1, .ref a2, .ref a3, .ref a4, .int i1, .ref a5, .int i2, .int i3, .int i4, .int i5, .int i6, .int i7, .int i8, .ref a6, .ref a7, .ref a8, .ref a9, .ref a10, .ref a11, .ref a12, .int i9, .ref a13, .int i10, .ref a14, .ref a15, .int i11, .ref a16, .ref a17, .ref a18, .ref a19, .int i12, .int i13, .int i14, .int i15, .int i16, .ref a20, .long j0, .ref a21, .ref a22, .ref a23, .ref a24])), (a21, .inl (cI, 4, .inl xF20)), (a22, .inl (cI, 4, .inl xF21)), (a23, .inl (cJ, 240, .inr (.inl xG22)))] := hD
      refine lv_if_ne (tgt := 44) hx hb dX12_write_38 (by decide) (fun c17 => ?_) (fun c17 => ?_)
      · rw [ki_eq] at c17
        have hw15q := hw15 (by omega)
        clear hw15
        refine lv_aload_n hx hb dX12_write_44 rfl (lv_at hl 0 rfl) ?_
        refine va_get (D := (dC, dI)) (ci := 12) (v := .ref a23) (C := RX12) (T := TX12) (N := 42) hx hb hwd inlX12 hown hK hP 0 rfl rfl 40 (by decide) (hwd _ kr50_17) (fun _ h9 => h9) rfl dX12_write_45 ?_
        refine lv_bipush (v := 60) hx hb dX12_write_48 (by decide) ?_
        refine lv_iload_n hx hb dX12_write_50 rfl (lv_at hl 1 rfl) ?_
        refine lv_imul hx hb dX12_write_51 ?_
        refine lv_topi (fun x18 ex18 => ?_)
        have tx18 := ia_mull (a := (60 : Int32)) (b := p0) 60 (by decide) (by omega) (by omega)
        rw [← ex18] at tx18
        refine lv_iload_n hx hb dX12_write_52 rfl (lv_at hl 2 rfl) ?_
        refine lv_iadd hx hb dX12_write_53 ?_
        refine lv_topi (fun x19 ex19 => ?_)
        have tx19 := ia_add (a := x18) (b := p1) (by omega) (by omega)
        rw [← ex19] at tx19
        refine lv_lload_n hx hb dX12_write_54 rfl (lv_at hl 3 rfl) ?_
        refine lv_aload_n hx hb dX12_write_55 rfl (lv_at hl 0 rfl) ?_
        refine va_get (D := (dC, dI)) (ci := 12) (v := .ref a22) (C := RX12) (T := TX12) (N := 42) hx hb hwd inlX12 hown hK hP 0 rfl rfl 39 (by decide) (hwd _ kr50_16) (fun _ h9 => h9) rfl dX12_write_56 ?_
        refine lv_iload_n hx hb dX12_write_59 rfl (lv_at hl 1 rfl) ?_
        have h20 : vp_in p0 4 := (vp_of (by omega) (by omega))
        refine va_iald hx hb hK hP 2 0 rfl rfl h20 dX12_write_60 ?_
        refine lv_topi (fun x21 ex21 => ?_)
        have tx21 : (0 : Int) ≤ x21.toInt ∧ x21.toInt ≤ 3 := by rw [ex21]; exact p_9 _ (vp_nat h20)
        have qx21 : x21.toInt = (xF21 p0.toNatClampNeg).toInt := by rw [ex21]
        have hPc := hP.sub (ws' := []) [] rfl
        have hDc := hD.sub (ws' := []) [] (by decide) rfl
        have hFc := va_free (wc := []) hD hS hA [] rfl
        refine va_calll (va_runS (As := [.long y2, .int x21]) (rest := [.int x19, .ref a23]) ⟨hx, hb, hml, hown, hwd⟩ (s_X12_cut_ l dC dI cI cZ cB cJ cM cG x21 y2 H.size) (cwS 2 hwd (gS kr68_14 kr68_15 kr5_23 kr68_16) rfl rfl rfl (by decide +kernel) ⟨Nat.le_of_ble_eq_true rfl, Nat.le_of_ble_eq_true rfl⟩) (kPreS hPc hK hDc) rfl rfl hl.1 rfl (lv_room (Nat.le_of_ble_eq_true rfl)) dX12_write_61 ⟨Nat.le_of_ble_eq_true rfl, Nat.le_of_ble_eq_true rfl⟩) hS (fun q _ h => hFc q h) hFc (fun r22 u23 t H1 locs ht9 hvm hw hB hz1 hk1 hS => ?_)
        obtain ⟨hP1, hD1⟩ := hB
        rw [ht9] at hP1
        obtain ⟨hP, hD⟩ := va_join (wr := [(a0, .inr (12, [.int i0, .ref a1, .ref a2, .ref a3, .ref a4, .int i1, .ref a5, .int i2, .int i3, .int i4, .int i5, .int i6, .int i7, .int i8, .ref a6, .ref a7, .ref a8, .ref a9, .ref a10, .ref a11, .ref a12, .int i9, .ref a13, .int i10, .ref a14, .ref a15, .int i11, .ref a16, .ref a17, .ref a18, .ref a19, .int i12, .int i13, .int i14, .int i15, .int i16, .ref a20, .long j0, .ref a21, .ref a22, .ref a23, .ref a24])), (a21, .inl (cI, 4, .inl xF20)), (a22, .inl (cI, 4, .inl xF21)), (a23, .inl (cJ, 240, .inr (.inl xG22)))]) (w1 := []) hP hD [] [0, 1, 2, 3] rfl rfl (by decide) (by decide) hk1 hFc hP1 hD1
        generalize H1 = H at hP hS ⊢
        replace hP : va_P (dC, dI) vwCl [(a0, .inr (12, [.int i0, .ref a1, .ref a2, .ref a3, .ref a4, .int i1, .ref a5, .int i2, .int i3, .int i4, .int i5, .int i6, .int i7, .int i8, .ref a6, .ref a7, .ref a8, .ref a9, .ref a10, .ref a11, .ref a12, .int i9, .ref a13, .int i10, .ref a14, .ref a15, .int i11, .ref a16, .ref a17, .ref a18, .ref a19, .int i12, .int i13, .int i14, .int i15, .int i16, .ref a20, .long j0, .ref a21, .ref a22, .ref a23, .ref a24])), (a21, .inl (cI, 4, .inl xF20)), (a22, .inl (cI, 4, .inl xF21)), (a23, .inl (cJ, 240, .inr (.inl xG22)))] H := hP
        replace hD : va_D A [(a0, .inr (12, [.int i0, .ref a1, .ref a2, .ref a3, .ref a4, .int i1, .ref a5, .int i2, .int i3, .int i4, .int i5, .int i6, .int i7, .int i8, .ref a6, .ref a7, .ref a8, .ref a9, .ref a10, .ref a11, .ref a12, .int i9, .ref a13, .int i10, .ref a14, .ref a15, .int i11, .ref a16, .ref a17, .ref a18, .ref a19, .int i12, .int i13, .int i14, .int i15, .int i16, .ref a20, .long j0, .ref a21, .ref a22, .ref a23, .ref a24])), (a21, .inl (cI, 4, .inl xF20)), (a22, .inl (cI, 4, .inl xF21)), (a23, .inl (cJ, 240, .inr (.inl xG22)))] := hD
        refine va_last hx hb hK hP hD hS 3 3 rfl rfl (vp_of (by omega) (by omega)) dX12_write_64 (fun H locs hP hD hS => ?_)
        obtain ⟨f24, ef24⟩ : ∃ f, f = vp_updL xG22 x19.toNatClampNeg r22 := ⟨_, rfl⟩
        replace hP : va_P (dC, dI) vwCl [(a0, .inr (12, [.int i0, .ref a1, .ref a2, .ref a3, .ref a4, .int i1, .ref a5, .int i2, .int i3, .int i4, .int i5, .int i6, .int i7, .int i8, .ref a6, .ref a7, .ref a8, .ref a9, .ref a10, .ref a11, .ref a12, .int i9, .ref a13, .int i10, .ref a14, .ref a15, .int i11, .ref a16, .ref a17, .ref a18, .ref a19, .int i12, .int i13, .int i14, .int i15, .int i16, .ref a20, .long j0, .ref a21, .ref a22, .ref a23, .ref a24])), (a21, .inl (cI, 4, .inl xF20)), (a22, .inl (cI, 4, .inl xF21)), (a23, .inl (cJ, 240, .inr (.inl f24)))] H := by rw [ef24]; exact hP
        replace hD : va_D A [(a0, .inr (12, [.int i0, .ref a1, .ref a2, .ref a3, .ref a4, .int i1, .ref a5, .int i2, .int i3, .int i4, .int i5, .int i6, .int i7, .int i8, .ref a6, .ref a7, .ref a8, .ref a9, .ref a10, .ref a11, .ref a12, .int i9, .ref a13, .int i10, .ref a14, .ref a15, .int i11, .ref a16, .ref a17, .ref a18, .ref a19, .int i12, .int i13, .int i14, .int i15, .int i16, .ref a20, .long j0, .ref a21, .ref a22, .ref a23, .ref a24])), (a21, .inl (cI, 4, .inl xF20)), (a22, .inl (cI, 4, .inl xF21)), (a23, .inl (cJ, 240, .inr (.inl f24)))] := by rw [ef24]; exact hD
        refine lv_iconst (v := 0) hx hb dX12_write_65 (by decide) ?_
        have hP9 := hP.sub (ws' := [(a0, .inr (12, [.int i0, .ref a1, .ref a2, .ref a3, .ref a4, .int i1, .ref a5, .int i2, .int i3, .int i4, .int i5, .int i6, .int i7, .int i8, .ref a6, .ref a7, .ref a8, .ref a9, .ref a10, .ref a11, .ref a12, .int i9, .ref a13, .int i10, .ref a14, .ref a15, .int i11, .ref a16, .ref a17, .ref a18, .ref a19, .int i12, .int i13, .int i14, .int i15, .int i16, .ref a20, .long j0, .ref a21, .ref a22, .ref a23, .ref a24])), (a21, .inl (cI, 4, .inl xF20)), (a22, .inl (cI, 4, .inl xF21)), (a23, .inl (cJ, 240, .inr (.inl f24)))]) [0, 1, 2, 3] rfl
        have hD9 := hD.sub (ws' := [(a0, .inr (12, [.int i0, .ref a1, .ref a2, .ref a3, .ref a4, .int i1, .ref a5, .int i2, .int i3, .int i4, .int i5, .int i6, .int i7, .int i8, .ref a6, .ref a7, .ref a8, .ref a9, .ref a10, .ref a11, .ref a12, .int i9, .ref a13, .int i10, .ref a14, .ref a15, .int i11, .ref a16, .ref a17, .ref a18, .ref a19, .int i12, .int i13, .int i14, .int i15, .int i16, .ref a20, .long j0, .ref a21, .ref a22, .ref a23, .ref a24])), (a21, .inl (cI, 4, .inl xF20)), (a22, .inl (cI, 4, .inl xF21)), (a23, .inl (cJ, 240, .inr (.inl f24)))]) [0, 1, 2, 3] (by decide) rfl
        rw [hQ]
        exact W.iret (v := 0) hx hb hr (fun t ht hW => ⟨⟨0, (pickG 0 [], pickG (fun _ => 0) [], pickG (fun _ => 0) [f24]), rfl, ⟨(show (-7 : Int) ≤ (0 : Int32).toInt ∧ (0 : Int32).toInt ≤ 0 from ⟨by omega, by omega⟩), (show WRB xF20 p0 p1 (0 : Int32) from by unfold WRB; omega), trivial⟩, (by rw [ht]; exact hP9), hD9⟩, hS.F ht⟩) hS.2.2 dX12_write_66
      · rw [ki_eq] at c17
        have hw16q := hw16 (by omega)
        clear hw16
        refine lv_bipush (v := (-7)) hx hb dX12_write_41 (by decide) ?_
        have hP9 := hP.sub (ws' := [(a0, .inr (12, [.int i0, .ref a1, .ref a2, .ref a3, .ref a4, .int i1, .ref a5, .int i2, .int i3, .int i4, .int i5, .int i6, .int i7, .int i8, .ref a6, .ref a7, .ref a8, .ref a9, .ref a10, .ref a11, .ref a12, .int i9, .ref a13, .int i10, .ref a14, .ref a15, .int i11, .ref a16, .ref a17, .ref a18, .ref a19, .int i12, .int i13, .int i14, .int i15, .int i16, .ref a20, .long j0, .ref a21, .ref a22, .ref a23, .ref a24])), (a21, .inl (cI, 4, .inl xF20)), (a22, .inl (cI, 4, .inl xF21)), (a23, .inl (cJ, 240, .inr (.inl xG22)))]) [0, 1, 2, 3] rfl
        have hD9 := hD.sub (ws' := [(a0, .inr (12, [.int i0, .ref a1, .ref a2, .ref a3, .ref a4, .int i1, .ref a5, .int i2, .int i3, .int i4, .int i5, .int i6, .int i7, .int i8, .ref a6, .ref a7, .ref a8, .ref a9, .ref a10, .ref a11, .ref a12, .int i9, .ref a13, .int i10, .ref a14, .ref a15, .int i11, .ref a16, .ref a17, .ref a18, .ref a19, .int i12, .int i13, .int i14, .int i15, .int i16, .ref a20, .long j0, .ref a21, .ref a22, .ref a23, .ref a24])), (a21, .inl (cI, 4, .inl xF20)), (a22, .inl (cI, 4, .inl xF21)), (a23, .inl (cJ, 240, .inr (.inl xG22)))]) [0, 1, 2, 3] (by decide) rfl
        rw [hQ]
        exact W.iret (v := (-7)) hx hb hr (fun t ht hW => ⟨⟨(-7), (pickG 0 [], pickG (fun _ => 0) [], pickG (fun _ => 0) [xG22]), rfl, ⟨(show (-7 : Int) ≤ ((-7) : Int32).toInt ∧ ((-7) : Int32).toInt ≤ 0 from ⟨by omega, by omega⟩), (show WRB xF20 p0 p1 ((-7) : Int32) from by unfold WRB; omega), trivial⟩, (by rw [ht]; exact hP9), hD9⟩, hS.F ht⟩) hS.2.2 dX12_write_43
    · rw [ki_eq] at c9
      refine lv_bipush (v := (-6)) hx hb dX12_write_20 (by decide) ?_
      have hP9 := hP.sub (ws' := [(a0, .inr (12, [.int i0, .ref a1, .ref a2, .ref a3, .ref a4, .int i1, .ref a5, .int i2, .int i3, .int i4, .int i5, .int i6, .int i7, .int i8, .ref a6, .ref a7, .ref a8, .ref a9, .ref a10, .ref a11, .ref a12, .int i9, .ref a13, .int i10, .ref a14, .ref a15, .int i11, .ref a16, .ref a17, .ref a18, .ref a19, .int i12, .int i13, .int i14, .int i15, .int i16, .ref a20, .long j0, .ref a21, .ref a22, .ref a23, .ref a24])), (a21, .inl (cI, 4, .inl xF20)), (a22, .inl (cI, 4, .inl xF21)), (a23, .inl (cJ, 240, .inr (.inl xG22)))]) [0, 1, 2, 3] rfl
      have hD9 := hD.sub (ws' := [(a0, .inr (12, [.int i0, .ref a1, .ref a2, .ref a3, .ref a4, .int i1, .ref a5, .int i2, .int i3, .int i4, .int i5, .int i6, .int i7, .int i8, .ref a6, .ref a7, .ref a8, .ref a9, .ref a10, .ref a11, .ref a12, .int i9, .ref a13, .int i10, .ref a14, .ref a15, .int i11, .ref a16, .ref a17, .ref a18, .ref a19, .int i12, .int i13, .int i14, .int i15, .int i16, .ref a20, .long j0, .ref a21, .ref a22, .ref a23, .ref a24])), (a21, .inl (cI, 4, .inl xF20)), (a22, .inl (cI, 4, .inl xF21)), (a23, .inl (cJ, 240, .inr (.inl xG22)))]) [0, 1, 2, 3] (by decide) rfl
      rw [hQ]
      exact W.iret (v := (-6)) hx hb hr (fun t ht hW => ⟨⟨(-6), (pickG 0 [], pickG (fun _ => 0) [], pickG (fun _ => 0) [xG22]), rfl, ⟨(show (-7 : Int) ≤ ((-6) : Int32).toInt ∧ ((-6) : Int32).toInt ≤ 0 from ⟨by omega, by omega⟩), (show WRB xF20 p0 p1 ((-6) : Int32) from by unfold WRB; omega), trivial⟩, (by rw [ht]; exact hP9), hD9⟩, hS.F ht⟩) hS.2.2 dX12_write_22
  · rw [ki_eq] at c6
    have hw5q := hw5 (by omega)
    clear hw5
    refine lv_bipush (v := (-2)) hx hb dX12_write_7 (by decide) ?_
    have hP9 := hP.sub (ws' := [(a0, .inr (12, [.int i0, .ref a1, .ref a2, .ref a3, .ref a4, .int i1, .ref a5, .int i2, .int i3, .int i4, .int i5, .int i6, .int i7, .int i8, .ref a6, .ref a7, .ref a8, .ref a9, .ref a10, .ref a11, .ref a12, .int i9, .ref a13, .int i10, .ref a14, .ref a15, .int i11, .ref a16, .ref a17, .ref a18, .ref a19, .int i12, .int i13, .int i14, .int i15, .int i16, .ref a20, .long j0, .ref a21, .ref a22, .ref a23, .ref a24])), (a21, .inl (cI, 4, .inl xF20)), (a22, .inl (cI, 4, .inl xF21)), (a23, .inl (cJ, 240, .inr (.inl xG22)))]) [0, 1, 2, 3] rfl
    have hD9 := hD.sub (ws' := [(a0, .inr (12, [.int i0, .ref a1, .ref a2, .ref a3, .ref a4, .int i1, .ref a5, .int i2, .int i3, .int i4, .int i5, .int i6, .int i7, .int i8, .ref a6, .ref a7, .ref a8, .ref a9, .ref a10, .ref a11, .ref a12, .int i9, .ref a13, .int i10, .ref a14, .ref a15, .int i11, .ref a16, .ref a17, .ref a18, .ref a19, .int i12, .int i13, .int i14, .int i15, .int i16, .ref a20, .long j0, .ref a21, .ref a22, .ref a23, .ref a24])), (a21, .inl (cI, 4, .inl xF20)), (a22, .inl (cI, 4, .inl xF21)), (a23, .inl (cJ, 240, .inr (.inl xG22)))]) [0, 1, 2, 3] (by decide) rfl
    rw [hQ]
    exact W.iret (v := (-2)) hx hb hr (fun t ht hW => ⟨⟨(-2), (pickG 0 [], pickG (fun _ => 0) [], pickG (fun _ => 0) [xG22]), rfl, ⟨(show (-7 : Int) ≤ ((-2) : Int32).toInt ∧ ((-2) : Int32).toInt ≤ 0 from ⟨by omega, by omega⟩), (show WRB xF20 p0 p1 ((-2) : Int32) from by unfold WRB; omega), trivial⟩, (by rw [ht]; exact hP9), hD9⟩, hS.F ht⟩) hS.2.2 dX12_write_9
