set_option maxHeartbeats 4000000 in
set_option maxRecDepth 100000 in
theorem s_X12_rowP (l : Launch) (dC : Nat → ClassId) (dI : Nat → Nat → Nat) (cI cZ cB cJ cM cG : ClassId) (a0 a1 a2 a3 a4 a5 a6 a7 a8 a9 a10 a11 a12 a13 a14 a15 a16 a17 a18 a19 a20 a21 a22 a23 a24 : Nat) (i0 i1 i2 i3 i4 i5 i6 i7 i8 i9 i10 i11 i12 i13 i14 i15 i16 : Int32) (j0 : Int64) (xF20 xF21 : Nat → Int32) (xG22 : Nat → Int64) (p0 p1 p2 : Int32) (sz : Nat) (p_0 : (0 : Int) ≤ i1.toInt ∧ i1.toInt ≤ 1600) (p_1 : (0 : Int) ≤ i2.toInt ∧ i2.toInt ≤ 1600) (p_2 : (0 : Int) ≤ i3.toInt ∧ i3.toInt ≤ 1600) (p_3 : (0 : Int) ≤ i4.toInt ∧ i4.toInt ≤ 1600) (p_4 : (0 : Int) ≤ i5.toInt ∧ i5.toInt ≤ 6) (p_5 : (0 : Int) ≤ i7.toInt ∧ i7.toInt ≤ 3) (p_6 : (0 : Int) ≤ i11.toInt ∧ i11.toInt ≤ 59) (p_7 : rng xF20 4 (-1) 60) (p_8 : MI xF20) (p_9 : rng xF21 4 0 3) : Met l yX12_row (kw yX12_row cX12_row 5 (some .int)) ({ frames := 2, cells := 0, slots := 0, locals := 45 } : Room) (va_Pc [.ref a0, .int p0, .int p1, .int p2] (kPre dC dI [(cI, .int), (cZ, .boolean), (cB, .byte), (cJ, .long), (cM, .object RX2), (cG, .array .int)] [(a0, .inr (12, [.int i0, .ref a1, .ref a2, .ref a3, .ref a4, .int i1, .ref a5, .int i2, .int i3, .int i4, .int i5, .int i6, .int i7, .int i8, .ref a6, .ref a7, .ref a8, .ref a9, .ref a10, .ref a11, .ref a12, .int i9, .ref a13, .int i10, .ref a14, .ref a15, .int i11, .ref a16, .ref a17, .ref a18, .ref a19, .int i12, .int i13, .int i14, .int i15, .int i16, .ref a20, .long j0, .ref a21, .ref a22, .ref a23, .ref a24])), (a21, .inl (cI, 4, .inl xF20)), (a22, .inl (cI, 4, .inl xF21)), (a23, .inl (cJ, 240, .inr (.inl xG22)))] sz)) (va_Qi (fun (r : Int32) (u9 : (Nat → Int32) × (Nat → Nat → Int32) × (Nat → Nat → Int64)) => ((-3 : Int) ≤ r.toInt ∧ r.toInt ≤ 0) ∧ (rng (u9.2.1 0) 4 (-1) 60) ∧ (MI (u9.2.1 0)) ∧ (rng (u9.2.1 1) 4 0 3) ∧ (PUT (SLOK p0 p1 p2) xF20 (u9.2.1 0) p0 p2) ∧ (PUT (SLOK p0 p1 p2) xF21 (u9.2.1 1) p0 p1) ∧ True) (fun u9 t => va_P (dC, dI) vwCl [(a0, .inr (12, [.int i0, .ref a1, .ref a2, .ref a3, .ref a4, .int i1, .ref a5, .int i2, .int i3, .int i4, .int i5, .int i6, .int i7, .int i8, .ref a6, .ref a7, .ref a8, .ref a9, .ref a10, .ref a11, .ref a12, .int i9, .ref a13, .int i10, .ref a14, .ref a15, .int i11, .ref a16, .ref a17, .ref a18, .ref a19, .int i12, .int i13, .int i14, .int i15, .int i16, .ref a20, .long j0, .ref a21, .ref a22, .ref a23, .ref a24])), (a21, .inl (cI, 4, .inl (u9.2.1 0))), (a22, .inl (cI, 4, .inl (u9.2.1 1))), (a23, .inl (cJ, 240, .inr (.inl (u9.2.2 0))))] t.heap ∧ va_D (va_A [(a0, .inr (12, [.int i0, .ref a1, .ref a2, .ref a3, .ref a4, .int i1, .ref a5, .int i2, .int i3, .int i4, .int i5, .int i6, .int i7, .int i8, .ref a6, .ref a7, .ref a8, .ref a9, .ref a10, .ref a11, .ref a12, .int i9, .ref a13, .int i10, .ref a14, .ref a15, .int i11, .ref a16, .ref a17, .ref a18, .ref a19, .int i12, .int i13, .int i14, .int i15, .int i16, .ref a20, .long j0, .ref a21, .ref a22, .ref a23, .ref a24])), (a21, .inl (cI, 4, .inl xF20)), (a22, .inl (cI, 4, .inl xF21)), (a23, .inl (cJ, 240, .inr (.inl xG22)))] sz) [(a0, .inr (12, [.int i0, .ref a1, .ref a2, .ref a3, .ref a4, .int i1, .ref a5, .int i2, .int i3, .int i4, .int i5, .int i6, .int i7, .int i8, .ref a6, .ref a7, .ref a8, .ref a9, .ref a10, .ref a11, .ref a12, .int i9, .ref a13, .int i10, .ref a14, .ref a15, .int i11, .ref a16, .ref a17, .ref a18, .ref a19, .int i12, .int i13, .int i14, .int i15, .int i16, .ref a20, .long j0, .ref a21, .ref a22, .ref a23, .ref a24])), (a21, .inl (cI, 4, .inl (u9.2.1 0))), (a22, .inl (cI, 4, .inl (u9.2.1 1))), (a23, .inl (cJ, 240, .inr (.inl (u9.2.2 0))))]) (va_A [(a0, .inr (12, [.int i0, .ref a1, .ref a2, .ref a3, .ref a4, .int i1, .ref a5, .int i2, .int i3, .int i4, .int i5, .int i6, .int i7, .int i8, .ref a6, .ref a7, .ref a8, .ref a9, .ref a10, .ref a11, .ref a12, .int i9, .ref a13, .int i10, .ref a14, .ref a15, .int i11, .ref a16, .ref a17, .ref a18, .ref a19, .int i12, .int i13, .int i14, .int i15, .int i16, .ref a20, .long j0, .ref a21, .ref a22, .ref a23, .ref a24])), (a21, .inl (cI, 4, .inl xF20)), (a22, .inl (cI, 4, .inl xF21)), (a23, .inl (cJ, 240, .inr (.inl xG22)))] sz)) 0 0 (va_A [(a0, .inr (12, [.int i0, .ref a1, .ref a2, .ref a3, .ref a4, .int i1, .ref a5, .int i2, .int i3, .int i4, .int i5, .int i6, .int i7, .int i8, .ref a6, .ref a7, .ref a8, .ref a9, .ref a10, .ref a11, .ref a12, .int i9, .ref a13, .int i10, .ref a14, .ref a15, .int i11, .ref a16, .ref a17, .ref a18, .ref a19, .int i12, .int i13, .int i14, .int i15, .int i16, .ref a20, .long j0, .ref a21, .ref a22, .ref a23, .ref a24])), (a21, .inl (cI, 4, .inl xF20)), (a22, .inl (cI, 4, .inl xF21)), (a23, .inl (cJ, 240, .inr (.inl xG22)))] sz) := by
  refine kEnter (by decide) (Nat.le_of_ble_eq_true rfl) ?_
  intro p e s m below meth c ls hx hb hr hml hown hlocks hin hwd hsz hP hK hD hl
  subst hsz
  generalize hAe : va_A [(a0, .inr (12, [.int i0, .ref a1, .ref a2, .ref a3, .ref a4, .int i1, .ref a5, .int i2, .int i3, .int i4, .int i5, .int i6, .int i7, .int i8, .ref a6, .ref a7, .ref a8, .ref a9, .ref a10, .ref a11, .ref a12, .int i9, .ref a13, .int i10, .ref a14, .ref a15, .int i11, .ref a16, .ref a17, .ref a18, .ref a19, .int i12, .int i13, .int i14, .int i15, .int i16, .ref a20, .long j0, .ref a21, .ref a22, .ref a23, .ref a24])), (a21, .inl (cI, 4, .inl xF20)), (a22, .inl (cI, 4, .inl xF21)), (a23, .inl (cJ, 240, .inr (.inl xG22)))] s.heap.size = A at hD ⊢
  have hA : ∀ q : Nat, s.heap.size ≤ q → A q := fun q h => by rw [← hAe]; exact Or.inr h
  have hS : va_S A s.heap s.heap [] := va_S.rf
  have hl : lv_has ls 5 [(0, .ref a0), (1, .int p0), (2, .int p1), (3, .int p2)] := hl
  obtain ⟨Q, hQ⟩ : ∃ Q, Q = MQ below (va_Qi (fun (r : Int32) (u9 : (Nat → Int32) × (Nat → Nat → Int32) × (Nat → Nat → Int64)) => ((-3 : Int) ≤ r.toInt ∧ r.toInt ≤ 0) ∧ (rng (u9.2.1 0) 4 (-1) 60) ∧ (MI (u9.2.1 0)) ∧ (rng (u9.2.1 1) 4 0 3) ∧ (PUT (SLOK p0 p1 p2) xF20 (u9.2.1 0) p0 p2) ∧ (PUT (SLOK p0 p1 p2) xF21 (u9.2.1 1) p0 p1) ∧ True) (fun u9 t => va_P (dC, dI) vwCl [(a0, .inr (12, [.int i0, .ref a1, .ref a2, .ref a3, .ref a4, .int i1, .ref a5, .int i2, .int i3, .int i4, .int i5, .int i6, .int i7, .int i8, .ref a6, .ref a7, .ref a8, .ref a9, .ref a10, .ref a11, .ref a12, .int i9, .ref a13, .int i10, .ref a14, .ref a15, .int i11, .ref a16, .ref a17, .ref a18, .ref a19, .int i12, .int i13, .int i14, .int i15, .int i16, .ref a20, .long j0, .ref a21, .ref a22, .ref a23, .ref a24])), (a21, .inl (cI, 4, .inl (u9.2.1 0))), (a22, .inl (cI, 4, .inl (u9.2.1 1))), (a23, .inl (cJ, 240, .inr (.inl (u9.2.2 0))))] t.heap ∧ va_D A [(a0, .inr (12, [.int i0, .ref a1, .ref a2, .ref a3, .ref a4, .int i1, .ref a5, .int i2, .int i3, .int i4, .int i5, .int i6, .int i7, .int i8, .ref a6, .ref a7, .ref a8, .ref a9, .ref a10, .ref a11, .ref a12, .int i9, .ref a13, .int i10, .ref a14, .ref a15, .int i11, .ref a16, .ref a17, .ref a18, .ref a19, .int i12, .int i13, .int i14, .int i15, .int i16, .ref a20, .long j0, .ref a21, .ref a22, .ref a23, .ref a24])), (a21, .inl (cI, 4, .inl (u9.2.1 0))), (a22, .inl (cI, 4, .inl (u9.2.1 1))), (a23, .inl (cJ, 240, .inr (.inl (u9.2.2 0))))]) A) ([.ref a0, .int p0, .int p1, .int p2] : List Value).toArray s 0 0 A := ⟨_, rfl⟩
  rw [← hQ]
  have km3 : ((-3) : Int32).toInt = -3 := by decide
  have km2 : ((-2) : Int32).toInt = -2 := by decide
  have k0 : (0 : Int32).toInt = 0 := by decide
  have k1 : (1 : Int32).toInt = 1 := by decide
  have k3 : (3 : Int32).toInt = 3 := by decide
  have k60 : (60 : Int32).toInt = 60 := by decide
  refine lv_iload_n hx hb dX12_row_0 rfl (lv_at hl 1 rfl) ?_
  have hPc := hP.sub (ws' := []) [] rfl
  have hDc := hD.sub (ws' := []) [] (by decide) rfl
  have hFc := va_free (wc := []) hD hS hA [] rfl
  refine va_calli (va_runS (As := [.int p0]) (rest := []) ⟨hx, hb, hml, hown, hwd⟩ (s_X12_isSlotR l dC dI cI cZ cB cJ cM cG p0 s.heap.size) (cwS 1 hwd (gS kr65_0 kr65_1 kr5_23 kr65_2) rfl rfl rfl (by decide +kernel) ⟨Nat.le_of_ble_eq_true rfl, Nat.le_of_ble_eq_true rfl⟩) (kPreS hPc hK hDc) rfl rfl hl.1 rfl (lv_room (Nat.le_of_ble_eq_true rfl)) dX12_row_1 ⟨Nat.le_of_ble_eq_true rfl, Nat.le_of_ble_eq_true rfl⟩) hS (fun q _ h => hFc q h) hFc (fun r1 u2 t H1 locs ht9 hvm hw hB hz1 hk1 hS => ?_)
  obtain ⟨hw3, hw4, hw5, -⟩ := hw
  replace hw3 : (0 : Int) ≤ r1.toInt ∧ r1.toInt ≤ 1 := hw3
  obtain ⟨hP1, hD1⟩ := hB
  rw [ht9] at hP1
  obtain ⟨hP, hD⟩ := va_join (wr := [(a0, .inr (12, [.int i0, .ref a1, .ref a2, .ref a3, .ref a4, .int i1, .ref a5, .int i2, .int i3, .int i4, .int i5, .int i6, .int i7, .int i8, .ref a6, .ref a7, .ref a8, .ref a9, .ref a10, .ref a11, .ref a12, .int i9, .ref a13, .int i10, .ref a14, .ref a15, .int i11, .ref a16, .ref a17, .ref a18, .ref a19, .int i12, .int i13, .int i14, .int i15, .int i16, .ref a20, .long j0, .ref a21, .ref a22, .ref a23, .ref a24])), (a21, .inl (cI, 4, .inl xF20)), (a22, .inl (cI, 4, .inl xF21)), (a23, .inl (cJ, 240, .inr (.inl xG22)))]) (w1 := []) hP hD [] [0, 1, 2, 3] rfl rfl (by decide) (by decide) hk1 hFc hP1 hD1
  generalize H1 = H at hP hS ⊢
  replace hP : va_P (dC, dI) vwCl [(a0, .inr (12, [.int i0, .ref a1, .ref a2, .ref a3, .ref a4, .int i1, .ref a5, .int i2, .int i3, .int i4, .int i5, .int i6, .int i7, .int i8, .ref a6, .ref a7, .ref a8, .ref a9, .ref a10, .ref a11, .ref a12, .int i9, .ref a13, .int i10, .ref a14, .ref a15, .int i11, .ref a16, .ref a17, .ref a18, .ref a19, .int i12, .int i13, .int i14, .int i15, .int i16, .ref a20, .long j0, .ref a21, .ref a22, .ref a23, .ref a24])), (a21, .inl (cI, 4, .inl xF20)), (a22, .inl (cI, 4, .inl xF21)), (a23, .inl (cJ, 240, .inr (.inl xG22)))] H := hP
  replace hD : va_D A [(a0, .inr (12, [.int i0, .ref a1, .ref a2, .ref a3, .ref a4, .int i1, .ref a5, .int i2, .int i3, .int i4, .int i5, .int i6, .int i7, .int i8, .ref a6, .ref a7, .ref a8, .ref a9, .ref a10, .ref a11, .ref a12, .int i9, .ref a13, .int i10, .ref a14, .ref a15, .int i11, .ref a16, .ref a17, .ref a18, .ref a19, .int i12, .int i13, .int i14, .int i15, .int i16, .ref a20, .long j0, .ref a21, .ref a22, .ref a23, .ref a24])), (a21, .inl (cI, 4, .inl xF20)), (a22, .inl (cI, 4, .inl xF21)), (a23, .inl (cJ, 240, .inr (.inl xG22)))] := hD
  refine lv_if_eq (tgt := 25) hx hb dX12_row_4 (by decide) (fun c6 => ?_) (fun c6 => ?_)
  · rw [ki_eq] at c6
    have hw5q := hw5 (by omega)
    clear hw5
    refine lv_bipush (v := (-2)) hx hb dX12_row_25 (by decide) ?_
    have hP9 := hP.sub (ws' := [(a0, .inr (12, [.int i0, .ref a1, .ref a2, .ref a3, .ref a4, .int i1, .ref a5, .int i2, .int i3, .int i4, .int i5, .int i6, .int i7, .int i8, .ref a6, .ref a7, .ref a8, .ref a9, .ref a10, .ref a11, .ref a12, .int i9, .ref a13, .int i10, .ref a14, .ref a15, .int i11, .ref a16, .ref a17, .ref a18, .ref a19, .int i12, .int i13, .int i14, .int i15, .int i16, .ref a20, .long j0, .ref a21, .ref a22, .ref a23, .ref a24])), (a21, .inl (cI, 4, .inl xF20)), (a22, .inl (cI, 4, .inl xF21)), (a23, .inl (cJ, 240, .inr (.inl xG22)))]) [0, 1, 2, 3] rfl
    have hD9 := hD.sub (ws' := [(a0, .inr (12, [.int i0, .ref a1, .ref a2, .ref a3, .ref a4, .int i1, .ref a5, .int i2, .int i3, .int i4, .int i5, .int i6, .int i7, .int i8, .ref a6, .ref a7, .ref a8, .ref a9, .ref a10, .ref a11, .ref a12, .int i9, .ref a13, .int i10, .ref a14, .ref a15, .int i11, .ref a16, .ref a17, .ref a18, .ref a19, .int i12, .int i13, .int i14, .int i15, .int i16, .ref a20, .long j0, .ref a21, .ref a22, .ref a23, .ref a24])), (a21, .inl (cI, 4, .inl xF20)), (a22, .inl (cI, 4, .inl xF21)), (a23, .inl (cJ, 240, .inr (.inl xG22)))]) [0, 1, 2, 3] (by decide) rfl
    rw [hQ]
    exact W.iret (v := (-2)) hx hb hr (fun t ht hW => ⟨⟨(-2), (pickG 0 [], pickG (fun _ => 0) [xF20, xF21], pickG (fun _ => 0) [xG22]), rfl, ⟨(show (-3 : Int) ≤ ((-2) : Int32).toInt ∧ ((-2) : Int32).toInt ≤ 0 from ⟨by omega, by omega⟩), (show rng xF20 4 (-1) 60 from p_7), (show MI xF20 from trivial), (show rng xF21 4 0 3 from p_9), (show PUT (SLOK p0 p1 p2) xF20 xF20 p0 p2 from PUT_out (by unfold SLOK; omega)), (show PUT (SLOK p0 p1 p2) xF21 xF21 p0 p1 from PUT_out (by unfold SLOK; omega)), trivial⟩, (by rw [ht]; exact hP9), hD9⟩, hS.F ht⟩) hS.2.2 dX12_row_27
  · rw [ki_eq] at c6
    have hw4q := hw4 (by omega)
    clear hw4
    refine lv_iload_n hx hb dX12_row_7 rfl (lv_at hl 2 rfl) ?_
    refine lv_i2l hx hb dX12_row_8 rfl ?_
    refine lv_lconst (v := 0) hx hb dX12_row_9 (by decide) ?_
    refine lv_ldc2 (v := 3) hx hb hown (hwd _ kr65_3) dX12_row_10 ?_
    have hPc := hP.sub (ws' := []) [] rfl
    have hDc := hD.sub (ws' := []) [] (by decide) rfl
    have hFc := va_free (wc := []) hD hS hA [] rfl
    refine va_calli (va_runS (As := [.long p1.toInt64, .long 0, .long 3]) (rest := []) ⟨hx, hb, hml, hown, hwd⟩ (s_X12_in l dC dI cI cZ cB cJ cM cG p1.toInt64 0 3 H.size) (cwS 3 hwd (gS kr51_0 kr51_1 kr5_23 kr51_2) rfl rfl rfl (by decide +kernel) ⟨Nat.le_of_ble_eq_true rfl, Nat.le_of_ble_eq_true rfl⟩) (kPreS hPc hK hDc) rfl rfl hl.1 rfl (lv_room (Nat.le_of_ble_eq_true rfl)) dX12_row_13 ⟨Nat.le_of_ble_eq_true rfl, Nat.le_of_ble_eq_true rfl⟩) hS (fun q _ h => hFc q h) hFc (fun r7 u8 t H1 locs ht9 hvm hw hB hz1 hk1 hS => ?_)
    obtain ⟨hw9, hw10, hw11, -⟩ := hw
    replace hw9 : (0 : Int) ≤ r7.toInt ∧ r7.toInt ≤ 1 := hw9
    have hw10 : r7.toInt ≠ 0 → (0 : Int) ≤ p1.toInt ∧ p1.toInt ≤ (3 : Int) := in_int (Int32.toInt_toInt64 _) (by decide) (by decide) hw10
    have hw11 : r7.toInt ≠ 1 → p1.toInt < (0 : Int) ∨ (3 : Int) < p1.toInt := in_int2 (Int32.toInt_toInt64 _) (by decide) (by decide) hw11
    obtain ⟨hP1, hD1⟩ := hB
    rw [ht9] at hP1
    obtain ⟨hP, hD⟩ := va_join (wr := [(a0, .inr (12, [.int i0, .ref a1, .ref a2, .ref a3, .ref a4, .int i1, .ref a5, .int i2, .int i3, .int i4, .int i5, .int i6, .int i7, .int i8, .ref a6, .ref a7, .ref a8, .ref a9, .ref a10, .ref a11, .ref a12, .int i9, .ref a13, .int i10, .ref a14, .ref a15, .int i11, .ref a16, .ref a17, .ref a18, .ref a19, .int i12, .int i13, .int i14, .int i15, .int i16, .ref a20, .long j0, .ref a21, .ref a22, .ref a23, .ref a24])), (a21, .inl (cI, 4, .inl xF20)), (a22, .inl (cI, 4, .inl xF21)), (a23, .inl (cJ, 240, .inr (.inl xG22)))]) (w1 := []) hP hD [] [0, 1, 2, 3] rfl rfl (by decide) (by decide) hk1 hFc hP1 hD1
    generalize H1 = H at hP hS ⊢
    replace hP : va_P (dC, dI) vwCl [(a0, .inr (12, [.int i0, .ref a1, .ref a2, .ref a3, .ref a4, .int i1, .ref a5, .int i2, .int i3, .int i4, .int i5, .int i6, .int i7, .int i8, .ref a6, .ref a7, .ref a8, .ref a9, .ref a10, .ref a11, .ref a12, .int i9, .ref a13, .int i10, .ref a14, .ref a15, .int i11, .ref a16, .ref a17, .ref a18, .ref a19, .int i12, .int i13, .int i14, .int i15, .int i16, .ref a20, .long j0, .ref a21, .ref a22, .ref a23, .ref a24])), (a21, .inl (cI, 4, .inl xF20)), (a22, .inl (cI, 4, .inl xF21)), (a23, .inl (cJ, 240, .inr (.inl xG22)))] H := hP
    replace hD : va_D A [(a0, .inr (12, [.int i0, .ref a1, .ref a2, .ref a3, .ref a4, .int i1, .ref a5, .int i2, .int i3, .int i4, .int i5, .int i6, .int i7, .int i8, .ref a6, .ref a7, .ref a8, .ref a9, .ref a10, .ref a11, .ref a12, .int i9, .ref a13, .int i10, .ref a14, .ref a15, .int i11, .ref a16, .ref a17, .ref a18, .ref a19, .int i12, .int i13, .int i14, .int i15, .int i16, .ref a20, .long j0, .ref a21, .ref a22, .ref a23, .ref a24])), (a21, .inl (cI, 4, .inl xF20)), (a22, .inl (cI, 4, .inl xF21)), (a23, .inl (cJ, 240, .inr (.inl xG22)))] := hD
    refine lv_if_eq (tgt := 25) hx hb dX12_row_16 (by decide) (fun c12 => ?_) (fun c12 => ?_)
    · rw [ki_eq] at c12
      have hw11q := hw11 (by omega)
      clear hw11
      refine lv_bipush (v := (-2)) hx hb dX12_row_25 (by decide) ?_
      have hP9 := hP.sub (ws' := [(a0, .inr (12, [.int i0, .ref a1, .ref a2, .ref a3, .ref a4, .int i1, .ref a5, .int i2, .int i3, .int i4, .int i5, .int i6, .int i7, .int i8, .ref a6, .ref a7, .ref a8, .ref a9, .ref a10, .ref a11, .ref a12, .int i9, .ref a13, .int i10, .ref a14, .ref a15, .int i11, .ref a16, .ref a17, .ref a18, .ref a19, .int i12, .int i13, .int i14, .int i15, .int i16, .ref a20, .long j0, .ref a21, .ref a22, .ref a23, .ref a24])), (a21, .inl (cI, 4, .inl xF20)), (a22, .inl (cI, 4, .inl xF21)), (a23, .inl (cJ, 240, .inr (.inl xG22)))]) [0, 1, 2, 3] rfl
      have hD9 := hD.sub (ws' := [(a0, .inr (12, [.int i0, .ref a1, .ref a2, .ref a3, .ref a4, .int i1, .ref a5, .int i2, .int i3, .int i4, .int i5, .int i6, .int i7, .int i8, .ref a6, .ref a7, .ref a8, .ref a9, .ref a10, .ref a11, .ref a12, .int i9, .ref a13, .int i10, .ref a14, .ref a15, .int i11, .ref a16, .ref a17, .ref a18, .ref a19, .int i12, .int i13, .int i14, .int i15, .int i16, .ref a20, .long j0, .ref a21, .ref a22, .ref a23, .ref a24])), (a21, .inl (cI, 4, .inl xF20)), (a22, .inl (cI, 4, .inl xF21)), (a23, .inl (cJ, 240, .inr (.inl xG22)))]) [0, 1, 2, 3] (by decide) rfl
      rw [hQ]
      exact W.iret (v := (-2)) hx hb hr (fun t ht hW => ⟨⟨(-2), (pickG 0 [], pickG (fun _ => 0) [xF20, xF21], pickG (fun _ => 0) [xG22]), rfl, ⟨(show (-3 : Int) ≤ ((-2) : Int32).toInt ∧ ((-2) : Int32).toInt ≤ 0 from ⟨by omega, by omega⟩), (show rng xF20 4 (-1) 60 from p_7), (show MI xF20 from trivial), (show rng xF21 4 0 3 from p_9), (show PUT (SLOK p0 p1 p2) xF20 xF20 p0 p2 from PUT_out (by unfold SLOK; omega)), (show PUT (SLOK p0 p1 p2) xF21 xF21 p0 p1 from PUT_out (by unfold SLOK; omega)), trivial⟩, (by rw [ht]; exact hP9), hD9⟩, hS.F ht⟩) hS.2.2 dX12_row_27
    · rw [ki_eq] at c12
      have hw10q := hw10 (by omega)
      clear hw10
      refine lv_iload_n hx hb dX12_row_19 rfl (lv_at hl 3 rfl) ?_
      refine lv_bipush (v := 60) hx hb dX12_row_20 (by decide) ?_
      refine lv_icmp_le (tgt := 28) hx hb dX12_row_22 (by decide) (fun c13 => ?_) (fun c13 => ?_)
      · rw [ki_le] at c13
        refine lv_iload_n hx hb dX12_row_28 rfl (lv_at hl 3 rfl) ?_
        refine lv_if_ge (tgt := 35) hx hb dX12_row_29 (by decide) (fun c14 => ?_) (fun c14 => ?_)
        · rw [ki_le] at c14
          refine lv_aload_n hx hb dX12_row_35 rfl (lv_at hl 0 rfl) ?_
          refine va_get (D := (dC, dI)) (ci := 12) (v := .ref a21) (C := RX12) (T := TX12) (N := 42) hx hb hwd inlX12 hown hK hP 0 rfl rfl 38 (by decide) (hwd _ kr50_15) (fun _ h9 => h9) rfl dX12_row_36 ?_
          refine lv_iload_n hx hb dX12_row_39 rfl (lv_at hl 1 rfl) ?_
          refine lv_iload_n hx hb dX12_row_40 rfl (lv_at hl 3 rfl) ?_
          refine va_iast hx hb hK hP hD hS 1 0 rfl rfl (vp_of (by omega) (by omega)) dX12_row_41 (fun H locs hP hD hS => ?_)
          obtain ⟨f15, ef15⟩ : ∃ f, f = upd xF20 p0.toNatClampNeg p2 := ⟨_, rfl⟩
          have rf15 : rng f15 4 (-1) 60 := by rw [ef15]; exact rng_upd (rng_mono p_7 (by omega) (by omega)) (by omega) (by omega)
          replace hP : va_P (dC, dI) vwCl [(a0, .inr (12, [.int i0, .ref a1, .ref a2, .ref a3, .ref a4, .int i1, .ref a5, .int i2, .int i3, .int i4, .int i5, .int i6, .int i7, .int i8, .ref a6, .ref a7, .ref a8, .ref a9, .ref a10, .ref a11, .ref a12, .int i9, .ref a13, .int i10, .ref a14, .ref a15, .int i11, .ref a16, .ref a17, .ref a18, .ref a19, .int i12, .int i13, .int i14, .int i15, .int i16, .ref a20, .long j0, .ref a21, .ref a22, .ref a23, .ref a24])), (a21, .inl (cI, 4, .inl f15)), (a22, .inl (cI, 4, .inl xF21)), (a23, .inl (cJ, 240, .inr (.inl xG22)))] H := by rw [ef15]; exact hP
          replace hD : va_D A [(a0, .inr (12, [.int i0, .ref a1, .ref a2, .ref a3, .ref a4, .int i1, .ref a5, .int i2, .int i3, .int i4, .int i5, .int i6, .int i7, .int i8, .ref a6, .ref a7, .ref a8, .ref a9, .ref a10, .ref a11, .ref a12, .int i9, .ref a13, .int i10, .ref a14, .ref a15, .int i11, .ref a16, .ref a17, .ref a18, .ref a19, .int i12, .int i13, .int i14, .int i15, .int i16, .ref a20, .long j0, .ref a21, .ref a22, .ref a23, .ref a24])), (a21, .inl (cI, 4, .inl f15)), (a22, .inl (cI, 4, .inl xF21)), (a23, .inl (cJ, 240, .inr (.inl xG22)))] := by rw [ef15]; exact hD
          refine lv_aload_n hx hb dX12_row_42 rfl (lv_at hl 0 rfl) ?_
          refine va_get (D := (dC, dI)) (ci := 12) (v := .ref a22) (C := RX12) (T := TX12) (N := 42) hx hb hwd inlX12 hown hK hP 0 rfl rfl 39 (by decide) (hwd _ kr50_16) (fun _ h9 => h9) rfl dX12_row_43 ?_
          refine lv_iload_n hx hb dX12_row_46 rfl (lv_at hl 1 rfl) ?_
          refine lv_iload_n hx hb dX12_row_47 rfl (lv_at hl 2 rfl) ?_
          refine va_iast hx hb hK hP hD hS 2 0 rfl rfl (vp_of (by omega) (by omega)) dX12_row_48 (fun H locs hP hD hS => ?_)
          obtain ⟨f16, ef16⟩ : ∃ f, f = upd xF21 p0.toNatClampNeg p1 := ⟨_, rfl⟩
          have rf16 : rng f16 4 0 3 := by rw [ef16]; exact rng_upd (rng_mono p_9 (by omega) (by omega)) (by omega) (by omega)
          replace hP : va_P (dC, dI) vwCl [(a0, .inr (12, [.int i0, .ref a1, .ref a2, .ref a3, .ref a4, .int i1, .ref a5, .int i2, .int i3, .int i4, .int i5, .int i6, .int i7, .int i8, .ref a6, .ref a7, .ref a8, .ref a9, .ref a10, .ref a11, .ref a12, .int i9, .ref a13, .int i10, .ref a14, .ref a15, .int i11, .ref a16, .ref a17, .ref a18, .ref a19, .int i12, .int i13, .int i14, .int i15, .int i16, .ref a20, .long j0, .ref a21, .ref a22, .ref a23, .ref a24])), (a21, .inl (cI, 4, .inl f15)), (a22, .inl (cI, 4, .inl f16)), (a23, .inl (cJ, 240, .inr (.inl xG22)))] H := by rw [ef16]; exact hP
          replace hD : va_D A [(a0, .inr (12, [.int i0, .ref a1, .ref a2, .ref a3, .ref a4, .int i1, .ref a5, .int i2, .int i3, .int i4, .int i5, .int i6, .int i7, .int i8, .ref a6, .ref a7, .ref a8, .ref a9, .ref a10, .ref a11, .ref a12, .int i9, .ref a13, .int i10, .ref a14, .ref a15, .int i11, .ref a16, .ref a17, .ref a18, .ref a19, .int i12, .int i13, .int i14, .int i15, .int i16, .ref a20, .long j0, .ref a21, .ref a22, .ref a23, .ref a24])), (a21, .inl (cI, 4, .inl f15)), (a22, .inl (cI, 4, .inl f16)), (a23, .inl (cJ, 240, .inr (.inl xG22)))] := by rw [ef16]; exact hD
          refine lv_iconst (v := 0) hx hb dX12_row_49 (by decide) ?_
          refine lv_istore (lv' := [(4, .int 0), (0, .ref a0), (1, .int p0), (2, .int p1), (3, .int p2)]) hx hb dX12_row_50 hl (by decide) rfl (fun ls hl => ?_)
          have lp1 : ∀ (d : Nat), ∀ (H : Heap) (locs : List Loc) (ls : Array Slot) (w4_1 : Int32) (g1_1 : Nat → Int64), ((0 : Int) ≤ w4_1.toInt ∧ w4_1.toInt ≤ 60) → (60 - w4_1.toInt).toNat < d → va_P (dC, dI) vwCl [(a0, .inr (12, [.int i0, .ref a1, .ref a2, .ref a3, .ref a4, .int i1, .ref a5, .int i2, .int i3, .int i4, .int i5, .int i6, .int i7, .int i8, .ref a6, .ref a7, .ref a8, .ref a9, .ref a10, .ref a11, .ref a12, .int i9, .ref a13, .int i10, .ref a14, .ref a15, .int i11, .ref a16, .ref a17, .ref a18, .ref a19, .int i12, .int i13, .int i14, .int i15, .int i16, .ref a20, .long j0, .ref a21, .ref a22, .ref a23, .ref a24])), (a21, .inl (cI, 4, .inl f15)), (a22, .inl (cI, 4, .inl f16)), (a23, .inl (cJ, 240, .inr (.inl g1_1)))] H → va_D A [(a0, .inr (12, [.int i0, .ref a1, .ref a2, .ref a3, .ref a4, .int i1, .ref a5, .int i2, .int i3, .int i4, .int i5, .int i6, .int i7, .int i8, .ref a6, .ref a7, .ref a8, .ref a9, .ref a10, .ref a11, .ref a12, .int i9, .ref a13, .int i10, .ref a14, .ref a15, .int i11, .ref a16, .ref a17, .ref a18, .ref a19, .int i12, .int i13, .int i14, .int i15, .int i16, .ref a20, .long j0, .ref a21, .ref a22, .ref a23, .ref a24])), (a21, .inl (cI, 4, .inl f15)), (a22, .inl (cI, 4, .inl f16)), (a23, .inl (cJ, 240, .inr (.inl g1_1)))] → va_S A s.heap H locs → lv_has ls 5 [(0, .ref a0), (1, .int p0), (2, .int p1), (3, .int p2), (4, .int w4_1)] → W p l e ({ frames := 2, cells := 0, slots := 0, locals := 45 } : Room) s m ([.ref a0, .int p0, .int p1, .int p2] : List Value).toArray below meth c H locs 0 0 Q (F0 m 52 ls []) := by
            intro d
            induction d with
            | zero =>
              intro H locs ls w4_1 g1_1 hr_w4_1 hm hP hD hS hl
              omega
            | succ d ih1 =>
              intro H locs ls w4_1 g1_1 hr_w4_1 hm hP hD hS hl
              refine lv_iload hx hb dX12_row_52 (lv_at hl 4 rfl) ?_
              refine lv_bipush (v := 60) hx hb dX12_row_54 (by decide) ?_
              refine lv_icmp_ge (tgt := 78) hx hb dX12_row_56 (by decide) (fun c46 => ?_) (fun c46 => ?_)
              · rw [ki_le] at c46
                refine lv_iconst (v := 0) hx hb dX12_row_78 (by decide) ?_
                have hP9 := hP.sub (ws' := [(a0, .inr (12, [.int i0, .ref a1, .ref a2, .ref a3, .ref a4, .int i1, .ref a5, .int i2, .int i3, .int i4, .int i5, .int i6, .int i7, .int i8, .ref a6, .ref a7, .ref a8, .ref a9, .ref a10, .ref a11, .ref a12, .int i9, .ref a13, .int i10, .ref a14, .ref a15, .int i11, .ref a16, .ref a17, .ref a18, .ref a19, .int i12, .int i13, .int i14, .int i15, .int i16, .ref a20, .long j0, .ref a21, .ref a22, .ref a23, .ref a24])), (a21, .inl (cI, 4, .inl f15)), (a22, .inl (cI, 4, .inl f16)), (a23, .inl (cJ, 240, .inr (.inl g1_1)))]) [0, 1, 2, 3] rfl
                have hD9 := hD.sub (ws' := [(a0, .inr (12, [.int i0, .ref a1, .ref a2, .ref a3, .ref a4, .int i1, .ref a5, .int i2, .int i3, .int i4, .int i5, .int i6, .int i7, .int i8, .ref a6, .ref a7, .ref a8, .ref a9, .ref a10, .ref a11, .ref a12, .int i9, .ref a13, .int i10, .ref a14, .ref a15, .int i11, .ref a16, .ref a17, .ref a18, .ref a19, .int i12, .int i13, .int i14, .int i15, .int i16, .ref a20, .long j0, .ref a21, .ref a22, .ref a23, .ref a24])), (a21, .inl (cI, 4, .inl f15)), (a22, .inl (cI, 4, .inl f16)), (a23, .inl (cJ, 240, .inr (.inl g1_1)))]) [0, 1, 2, 3] (by decide) rfl
                rw [hQ]
                exact W.iret (v := 0) hx hb hr (fun t ht hW => ⟨⟨0, (pickG 0 [], pickG (fun _ => 0) [f15, f16], pickG (fun _ => 0) [g1_1]), rfl, ⟨(show (-3 : Int) ≤ (0 : Int32).toInt ∧ (0 : Int32).toInt ≤ 0 from ⟨by omega, by omega⟩), (show rng f15 4 (-1) 60 from rf15), (show MI f15 from trivial), (show rng f16 4 0 3 from rf16), (show PUT (SLOK p0 p1 p2) xF20 f15 p0 p2 from by rw [ef15]; exact PUT_of (PUT_in (by omega)) (by unfold SLOK; omega)), (show PUT (SLOK p0 p1 p2) xF21 f16 p0 p1 from by rw [ef16]; exact PUT_of (PUT_in (by omega)) (by unfold SLOK; omega)), trivial⟩, (by rw [ht]; exact hP9), hD9⟩, hS.F ht⟩) hS.2.2 dX12_row_79
              · rw [ki_le] at c46
                refine lv_aload_n hx hb dX12_row_59 rfl (lv_at hl 0 rfl) ?_
                refine va_get (D := (dC, dI)) (ci := 12) (v := .ref a23) (C := RX12) (T := TX12) (N := 42) hx hb hwd inlX12 hown hK hP 0 rfl rfl 40 (by decide) (hwd _ kr50_17) (fun _ h9 => h9) rfl dX12_row_60 ?_
                refine lv_bipush (v := 60) hx hb dX12_row_63 (by decide) ?_
                refine lv_iload_n hx hb dX12_row_65 rfl (lv_at hl 1 rfl) ?_
                refine lv_imul hx hb dX12_row_66 ?_
                refine lv_topi (fun x47 ex47 => ?_)
                have tx47 := ia_mull (a := (60 : Int32)) (b := p0) 60 (by decide) (by omega) (by omega)
                rw [← ex47] at tx47
                refine lv_iload hx hb dX12_row_67 (lv_at hl 4 rfl) ?_
                refine lv_iadd hx hb dX12_row_69 ?_
                refine lv_topi (fun x48 ex48 => ?_)
                have tx48 := ia_add (a := x47) (b := w4_1) (by omega) (by omega)
                rw [← ex48] at tx48
                refine lv_lconst (v := 0) hx hb dX12_row_70 (by decide) ?_
                refine va_last hx hb hK hP hD hS 3 3 rfl rfl (vp_of (by omega) (by omega)) dX12_row_71 (fun H locs hP hD hS => ?_)
                obtain ⟨f49, ef49⟩ : ∃ f, f = vp_updL g1_1 x48.toNatClampNeg 0 := ⟨_, rfl⟩
                replace hP : va_P (dC, dI) vwCl [(a0, .inr (12, [.int i0, .ref a1, .ref a2, .ref a3, .ref a4, .int i1, .ref a5, .int i2, .int i3, .int i4, .int i5, .int i6, .int i7, .int i8, .ref a6, .ref a7, .ref a8, .ref a9, .ref a10, .ref a11, .ref a12, .int i9, .ref a13, .int i10, .ref a14, .ref a15, .int i11, .ref a16, .ref a17, .ref a18, .ref a19, .int i12, .int i13, .int i14, .int i15, .int i16, .ref a20, .long j0, .ref a21, .ref a22, .ref a23, .ref a24])), (a21, .inl (cI, 4, .inl f15)), (a22, .inl (cI, 4, .inl f16)), (a23, .inl (cJ, 240, .inr (.inl f49)))] H := by rw [ef49]; exact hP
                replace hD : va_D A [(a0, .inr (12, [.int i0, .ref a1, .ref a2, .ref a3, .ref a4, .int i1, .ref a5, .int i2, .int i3, .int i4, .int i5, .int i6, .int i7, .int i8, .ref a6, .ref a7, .ref a8, .ref a9, .ref a10, .ref a11, .ref a12, .int i9, .ref a13, .int i10, .ref a14, .ref a15, .int i11, .ref a16, .ref a17, .ref a18, .ref a19, .int i12, .int i13, .int i14, .int i15, .int i16, .ref a20, .long j0, .ref a21, .ref a22, .ref a23, .ref a24])), (a21, .inl (cI, 4, .inl f15)), (a22, .inl (cI, 4, .inl f16)), (a23, .inl (cJ, 240, .inr (.inl f49)))] := by rw [ef49]; exact hD
                obtain ⟨x50, ex50⟩ : ∃ y : Int32, y = w4_1 + 1 := ⟨_, rfl⟩
                refine lv_iinc (v := x50) (lv' := [(4, .int x50), (0, .ref a0), (1, .int p0), (2, .int p1), (3, .int p2)]) hx hb dX12_row_72 hl (k := 4) rfl (by rw [ex50]; rfl) (by decide) rfl (fun ls hl => ?_)
                have tx50 := ia_add (a := w4_1) (b := (1 : Int32)) (by omega) (by omega)
                rw [← ex50] at tx50
                refine lv_goto (tgt := 52) hx hb dX12_row_75 (by decide) ?_
                exact ih1 _ _ ls x50 f49 (show (0 : Int) ≤ x50.toInt ∧ x50.toInt ≤ 60 from ⟨by omega, by omega⟩) (by omega) (hP.sub (ws' := [(a0, .inr (12, [.int i0, .ref a1, .ref a2, .ref a3, .ref a4, .int i1, .ref a5, .int i2, .int i3, .int i4, .int i5, .int i6, .int i7, .int i8, .ref a6, .ref a7, .ref a8, .ref a9, .ref a10, .ref a11, .ref a12, .int i9, .ref a13, .int i10, .ref a14, .ref a15, .int i11, .ref a16, .ref a17, .ref a18, .ref a19, .int i12, .int i13, .int i14, .int i15, .int i16, .ref a20, .long j0, .ref a21, .ref a22, .ref a23, .ref a24])), (a21, .inl (cI, 4, .inl f15)), (a22, .inl (cI, 4, .inl f16)), (a23, .inl (cJ, 240, .inr (.inl f49)))]) [0, 1, 2, 3] rfl) (hD.sub (ws' := [(a0, .inr (12, [.int i0, .ref a1, .ref a2, .ref a3, .ref a4, .int i1, .ref a5, .int i2, .int i3, .int i4, .int i5, .int i6, .int i7, .int i8, .ref a6, .ref a7, .ref a8, .ref a9, .ref a10, .ref a11, .ref a12, .int i9, .ref a13, .int i10, .ref a14, .ref a15, .int i11, .ref a16, .ref a17, .ref a18, .ref a19, .int i12, .int i13, .int i14, .int i15, .int i16, .ref a20, .long j0, .ref a21, .ref a22, .ref a23, .ref a24])), (a21, .inl (cI, 4, .inl f15)), (a22, .inl (cI, 4, .inl f16)), (a23, .inl (cJ, 240, .inr (.inl f49)))]) [0, 1, 2, 3] (by decide) rfl) hS (lv_sub hl [1, 2, 3, 4, 0] rfl)
          exact lp1 _ _ _ ls (0) xG22 (show (0 : Int) ≤ (0 : Int32).toInt ∧ (0 : Int32).toInt ≤ 60 from ⟨by omega, by omega⟩) (Nat.lt_succ_self _) (hP.sub (ws' := [(a0, .inr (12, [.int i0, .ref a1, .ref a2, .ref a3, .ref a4, .int i1, .ref a5, .int i2, .int i3, .int i4, .int i5, .int i6, .int i7, .int i8, .ref a6, .ref a7, .ref a8, .ref a9, .ref a10, .ref a11, .ref a12, .int i9, .ref a13, .int i10, .ref a14, .ref a15, .int i11, .ref a16, .ref a17, .ref a18, .ref a19, .int i12, .int i13, .int i14, .int i15, .int i16, .ref a20, .long j0, .ref a21, .ref a22, .ref a23, .ref a24])), (a21, .inl (cI, 4, .inl f15)), (a22, .inl (cI, 4, .inl f16)), (a23, .inl (cJ, 240, .inr (.inl xG22)))]) [0, 1, 2, 3] rfl) (hD.sub (ws' := [(a0, .inr (12, [.int i0, .ref a1, .ref a2, .ref a3, .ref a4, .int i1, .ref a5, .int i2, .int i3, .int i4, .int i5, .int i6, .int i7, .int i8, .ref a6, .ref a7, .ref a8, .ref a9, .ref a10, .ref a11, .ref a12, .int i9, .ref a13, .int i10, .ref a14, .ref a15, .int i11, .ref a16, .ref a17, .ref a18, .ref a19, .int i12, .int i13, .int i14, .int i15, .int i16, .ref a20, .long j0, .ref a21, .ref a22, .ref a23, .ref a24])), (a21, .inl (cI, 4, .inl f15)), (a22, .inl (cI, 4, .inl f16)), (a23, .inl (cJ, 240, .inr (.inl xG22)))]) [0, 1, 2, 3] (by decide) rfl) hS (lv_sub hl [1, 2, 3, 4, 0] rfl)
        · rw [ki_le] at c14
          refine lv_bipush (v := (-3)) hx hb dX12_row_32 (by decide) ?_
          have hP9 := hP.sub (ws' := [(a0, .inr (12, [.int i0, .ref a1, .ref a2, .ref a3, .ref a4, .int i1, .ref a5, .int i2, .int i3, .int i4, .int i5, .int i6, .int i7, .int i8, .ref a6, .ref a7, .ref a8, .ref a9, .ref a10, .ref a11, .ref a12, .int i9, .ref a13, .int i10, .ref a14, .ref a15, .int i11, .ref a16, .ref a17, .ref a18, .ref a19, .int i12, .int i13, .int i14, .int i15, .int i16, .ref a20, .long j0, .ref a21, .ref a22, .ref a23, .ref a24])), (a21, .inl (cI, 4, .inl xF20)), (a22, .inl (cI, 4, .inl xF21)), (a23, .inl (cJ, 240, .inr (.inl xG22)))]) [0, 1, 2, 3] rfl
          have hD9 := hD.sub (ws' := [(a0, .inr (12, [.int i0, .ref a1, .ref a2, .ref a3, .ref a4, .int i1, .ref a5, .int i2, .int i3, .int i4, .int i5, .int i6, .int i7, .int i8, .ref a6, .ref a7, .ref a8, .ref a9, .ref a10, .ref a11, .ref a12, .int i9, .ref a13, .int i10, .ref a14, .ref a15, .int i11, .ref a16, .ref a17, .ref a18, .ref a19, .int i12, .int i13, .int i14, .int i15, .int i16, .ref a20, .long j0, .ref a21, .ref a22, .ref a23, .ref a24])), (a21, .inl (cI, 4, .inl xF20)), (a22, .inl (cI, 4, .inl xF21)), (a23, .inl (cJ, 240, .inr (.inl xG22)))]) [0, 1, 2, 3] (by decide) rfl
          rw [hQ]
          exact W.iret (v := (-3)) hx hb hr (fun t ht hW => ⟨⟨(-3), (pickG 0 [], pickG (fun _ => 0) [xF20, xF21], pickG (fun _ => 0) [xG22]), rfl, ⟨(show (-3 : Int) ≤ ((-3) : Int32).toInt ∧ ((-3) : Int32).toInt ≤ 0 from ⟨by omega, by omega⟩), (show rng xF20 4 (-1) 60 from p_7), (show MI xF20 from trivial), (show rng xF21 4 0 3 from p_9), (show PUT (SLOK p0 p1 p2) xF20 xF20 p0 p2 from PUT_out (by unfold SLOK; omega)), (show PUT (SLOK p0 p1 p2) xF21 xF21 p0 p1 from PUT_out (by unfold SLOK; omega)), trivial⟩, (by rw [ht]; exact hP9), hD9⟩, hS.F ht⟩) hS.2.2 dX12_row_34
      · rw [ki_le] at c13
        refine lv_bipush (v := (-2)) hx hb dX12_row_25 (by decide) ?_
        have hP9 := hP.sub (ws' := [(a0, .inr (12, [.int i0, .ref a1, .ref a2, .ref a3, .ref a4, .int i1, .ref a5, .int i2, .int i3, .int i4, .int i5, .int i6, .int i7, .int i8, .ref a6, .ref a7, .ref a8, .ref a9, .ref a10, .ref a11, .ref a12, .int i9, .ref a13, .int i10, .ref a14, .ref a15, .int i11, .ref a16, .ref a17, .ref a18, .ref a19, .int i12, .int i13, .int i14, .int i15, .int i16, .ref a20, .long j0, .ref a21, .ref a22, .ref a23, .ref a24])), (a21, .inl (cI, 4, .inl xF20)), (a22, .inl (cI, 4, .inl xF21)), (a23, .inl (cJ, 240, .inr (.inl xG22)))]) [0, 1, 2, 3] rfl
        have hD9 := hD.sub (ws' := [(a0, .inr (12, [.int i0, .ref a1, .ref a2, .ref a3, .ref a4, .int i1, .ref a5, .int i2, .int i3, .int i4, .int i5, .int i6, .int i7, .int i8, .ref a6, .ref a7, .ref a8, .ref a9, .ref a10, .ref a11, .ref a12, .int i9, .ref a13, .int i10, .ref a14, .ref a15, .int i11, .ref a16, .ref a17, .ref a18, .ref a19, .int i12, .int i13, .int i14, .int i15, .int i16, .ref a20, .long j0, .ref a21, .ref a22, .ref a23, .ref a24])), (a21, .inl (cI, 4, .inl xF20)), (a22, .inl (cI, 4, .inl xF21)), (a23, .inl (cJ, 240, .inr (.inl xG22)))]) [0, 1, 2, 3] (by decide) rfl
        rw [hQ]
        exact W.iret (v := (-2)) hx hb hr (fun t ht hW => ⟨⟨(-2), (pickG 0 [], pickG (fun _ => 0) [xF20, xF21], pickG (fun _ => 0) [xG22]), rfl, ⟨(show (-3 : Int) ≤ ((-2) : Int32).toInt ∧ ((-2) : Int32).toInt ≤ 0 from ⟨by omega, by omega⟩), (show rng xF20 4 (-1) 60 from p_7), (show MI xF20 from trivial), (show rng xF21 4 0 3 from p_9), (show PUT (SLOK p0 p1 p2) xF20 xF20 p0 p2 from PUT_out (by unfold SLOK; omega)), (show PUT (SLOK p0 p1 p2) xF21 xF21 p0 p1 from PUT_out (by unfold SLOK; omega)), trivial⟩, (by rw [ht]; exact hP9), hD9⟩, hS.F ht⟩) hS.2.2 dX12_row_27
set_option maxHeartbeats 4000000 in
set_option maxRecDepth 100000 in
theorem s_X8_hasRowR (l : Launch) (dC : Nat → ClassId) (dI : Nat → Nat → Nat) (cI cZ cB cJ cM cG : ClassId) (a0 a1 a2 a3 a4 : Nat) (xF2 : Nat → Int32) (p0 : Int32) (sz : Nat) (p_0 : rng xF2 4 0 1) (p_1 : (0 : Int) ≤ p0.toInt ∧ p0.toInt ≤ 3) : Met l yX8_hasRow (kw yX8_hasRow cX8_hasRow 2 (some .boolean)) ({ frames := 0, cells := 0, slots := 0, locals := 0 } : Room) (va_Pc [.ref a0, .int p0] (kPre dC dI [(cI, .int), (cZ, .boolean), (cB, .byte), (cJ, .long), (cM, .object RX2), (cG, .array .int)] [(a0, .inr (8, [.ref a1, .ref a2, .ref a3, .ref a4])), (a3, .inl (cZ, 4, .inl xF2))] sz)) (va_Qi (fun (r : Int32) (u9 : Unit) => ((0 : Int) ≤ r.toInt ∧ r.toInt ≤ 1) ∧ (r.toInt = (xF2 p0.toNatClampNeg).toInt) ∧ True) (fun u9 t => va_P (dC, dI) vwCl [(a0, .inr (8, [.ref a1, .ref a2, .ref a3, .ref a4])), (a3, .inl (cZ, 4, .inl xF2))] t.heap ∧ va_D (va_A [(a0, .inr (8, [.ref a1, .ref a2, .ref a3, .ref a4])), (a3, .inl (cZ, 4, .inl xF2))] sz) [(a0, .inr (8, [.ref a1, .ref a2, .ref a3, .ref a4])), (a3, .inl (cZ, 4, .inl xF2))]) (va_A [(a0, .inr (8, [.ref a1, .ref a2, .ref a3, .ref a4])), (a3, .inl (cZ, 4, .inl xF2))] sz)) 0 0 (va_A [(a0, .inr (8, [.ref a1, .ref a2, .ref a3, .ref a4])), (a3, .inl (cZ, 4, .inl xF2))] sz) := by
  refine kEnter (by decide) (Nat.le_of_ble_eq_true rfl) ?_
  intro p e s m below meth c ls hx hb hr hml hown hlocks hin hwd hsz hP hK hD hl
  subst hsz
  generalize hAe : va_A [(a0, .inr (8, [.ref a1, .ref a2, .ref a3, .ref a4])), (a3, .inl (cZ, 4, .inl xF2))] s.heap.size = A at hD ⊢
  have hA : ∀ q : Nat, s.heap.size ≤ q → A q := fun q h => by rw [← hAe]; exact Or.inr h
  have hS : va_S A s.heap s.heap [] := va_S.rf
  have hl : lv_has ls 2 [(0, .ref a0), (1, .int p0)] := hl
  obtain ⟨Q, hQ⟩ : ∃ Q, Q = MQ below (va_Qi (fun (r : Int32) (u9 : Unit) => ((0 : Int) ≤ r.toInt ∧ r.toInt ≤ 1) ∧ (r.toInt = (xF2 p0.toNatClampNeg).toInt) ∧ True) (fun u9 t => va_P (dC, dI) vwCl [(a0, .inr (8, [.ref a1, .ref a2, .ref a3, .ref a4])), (a3, .inl (cZ, 4, .inl xF2))] t.heap ∧ va_D A [(a0, .inr (8, [.ref a1, .ref a2, .ref a3, .ref a4])), (a3, .inl (cZ, 4, .inl xF2))]) A) ([.ref a0, .int p0] : List Value).toArray s 0 0 A := ⟨_, rfl⟩
  rw [← hQ]
  refine lv_aload_n hx hb dX8_hasRow_0 rfl (lv_at hl 0 rfl) ?_
  refine va_get (D := (dC, dI)) (ci := 8) (v := .ref a3) (C := RX8) (T := TX8) (N := 4) hx hb hwd inlX8 hown hK hP 0 rfl rfl 2 (by decide) (hwd _ kr9_23) (fun _ h9 => h9) rfl dX8_hasRow_1 ?_
  refine lv_iload_n hx hb dX8_hasRow_4 rfl (lv_at hl 1 rfl) ?_
  have h1 : vp_in p0 4 := (vp_of (by omega) (by omega))
  refine va_zald hx hb hK hP 1 1 rfl rfl h1 dX8_hasRow_5 ?_
  refine lv_topi (fun x2 ex2 => ?_)
  have tx2 : (0 : Int) ≤ x2.toInt ∧ x2.toInt ≤ 1 := by rw [ex2]; exact p_0 _ (vp_nat h1)
  have hP9 := hP.sub (ws' := [(a0, .inr (8, [.ref a1, .ref a2, .ref a3, .ref a4])), (a3, .inl (cZ, 4, .inl xF2))]) [0, 1] rfl
  have hD9 := hD.sub (ws' := [(a0, .inr (8, [.ref a1, .ref a2, .ref a3, .ref a4])), (a3, .inl (cZ, 4, .inl xF2))]) [0, 1] (by decide) rfl
  rw [hQ]
  exact W.zret (v := x2) hx hb hr (nar_01 (by omega)) (fun t ht hW => ⟨⟨x2, (), rfl, ⟨(show (0 : Int) ≤ x2.toInt ∧ x2.toInt ≤ 1 from ⟨by omega, by omega⟩), (show x2.toInt = (xF2 p0.toNatClampNeg).toInt from by rw [ex2]), trivial⟩, (by rw [ht]; exact hP9), hD9⟩, hS.F ht⟩) hS.2.2 dX8_hasRow_6
set_option maxHeartbeats 4000000 in
set_option maxRecDepth 100000 in
theorem s_X8_holdsR (l : Launch) (dC : Nat → ClassId) (dI : Nat → Nat → Nat) (cI cZ cB cJ cM cG : ClassId) (a0 a1 a2 a3 a4 : Nat) (xF1 : Nat → Int32) (p0 p1 p2 : Int32) (sz : Nat) (p_0 : rng xF1 4 0 60) (p_1 : (0 : Int) ≤ p0.toInt ∧ p0.toInt ≤ 3) : Met l yX8_holds (kw yX8_holds cX8_holds 4 (some .boolean)) ({ frames := 0, cells := 0, slots := 0, locals := 0 } : Room) (va_Pc [.ref a0, .int p0, .int p1, .int p2] (kPre dC dI [(cI, .int), (cZ, .boolean), (cB, .byte), (cJ, .long), (cM, .object RX2), (cG, .array .int)] [(a0, .inr (8, [.ref a1, .ref a2, .ref a3, .ref a4])), (a2, .inl (cI, 4, .inl xF1))] sz)) (va_Qi (fun (r : Int32) (u9 : Unit) => ((0 : Int) ≤ r.toInt ∧ r.toInt ≤ 1) ∧ ((r.toInt ≠ 0 → p1.toInt ≥ 0 ∧ p2.toInt ≥ 0 ∧ p1.toInt ≤ 60 ∧ p2.toInt ≤ 60 ∧ p1.toInt + p2.toInt ≤ 60 ∧ p1.toInt + p2.toInt ≤ (xF1 p0.toNatClampNeg).toInt)) ∧ ((r.toInt ≠ 1 → p1.toInt < 0 ∨ p2.toInt < 0 ∨ (xF1 p0.toNatClampNeg).toInt < p1.toInt + p2.toInt)) ∧ True) (fun u9 t => va_P (dC, dI) vwCl [(a0, .inr (8, [.ref a1, .ref a2, .ref a3, .ref a4])), (a2, .inl (cI, 4, .inl xF1))] t.heap ∧ va_D (va_A [(a0, .inr (8, [.ref a1, .ref a2, .ref a3, .ref a4])), (a2, .inl (cI, 4, .inl xF1))] sz) [(a0, .inr (8, [.ref a1, .ref a2, .ref a3, .ref a4])), (a2, .inl (cI, 4, .inl xF1))]) (va_A [(a0, .inr (8, [.ref a1, .ref a2, .ref a3, .ref a4])), (a2, .inl (cI, 4, .inl xF1))] sz)) 0 0 (va_A [(a0, .inr (8, [.ref a1, .ref a2, .ref a3, .ref a4])), (a2, .inl (cI, 4, .inl xF1))] sz) := by
  refine kEnter (by decide) (Nat.le_of_ble_eq_true rfl) ?_
  intro p e s m below meth c ls hx hb hr hml hown hlocks hin hwd hsz hP hK hD hl
  subst hsz
  generalize hAe : va_A [(a0, .inr (8, [.ref a1, .ref a2, .ref a3, .ref a4])), (a2, .inl (cI, 4, .inl xF1))] s.heap.size = A at hD ⊢
  have hA : ∀ q : Nat, s.heap.size ≤ q → A q := fun q h => by rw [← hAe]; exact Or.inr h
  have hS : va_S A s.heap s.heap [] := va_S.rf
  have hl : lv_has ls 4 [(0, .ref a0), (1, .int p0), (2, .int p1), (3, .int p2)] := hl
  obtain ⟨Q, hQ⟩ : ∃ Q, Q = MQ below (va_Qi (fun (r : Int32) (u9 : Unit) => ((0 : Int) ≤ r.toInt ∧ r.toInt ≤ 1) ∧ ((r.toInt ≠ 0 → p1.toInt ≥ 0 ∧ p2.toInt ≥ 0 ∧ p1.toInt ≤ 60 ∧ p2.toInt ≤ 60 ∧ p1.toInt + p2.toInt ≤ 60 ∧ p1.toInt + p2.toInt ≤ (xF1 p0.toNatClampNeg).toInt)) ∧ ((r.toInt ≠ 1 → p1.toInt < 0 ∨ p2.toInt < 0 ∨ (xF1 p0.toNatClampNeg).toInt < p1.toInt + p2.toInt)) ∧ True) (fun u9 t => va_P (dC, dI) vwCl [(a0, .inr (8, [.ref a1, .ref a2, .ref a3, .ref a4])), (a2, .inl (cI, 4, .inl xF1))] t.heap ∧ va_D A [(a0, .inr (8, [.ref a1, .ref a2, .ref a3, .ref a4])), (a2, .inl (cI, 4, .inl xF1))]) A) ([.ref a0, .int p0, .int p1, .int p2] : List Value).toArray s 0 0 A := ⟨_, rfl⟩
  rw [← hQ]
  have k0 : (0 : Int32).toInt = 0 := by decide
  have k1 : (1 : Int32).toInt = 1 := by decide
  refine lv_iload_n hx hb dX8_holds_0 rfl (lv_at hl 2 rfl) ?_
  refine lv_if_lt (tgt := 28) hx hb dX8_holds_1 (by decide) (fun c1 => ?_) (fun c1 => ?_)
  · rw [ki_lt] at c1
    refine lv_iconst (v := 0) hx hb dX8_holds_28 (by decide) ?_
    have hP9 := hP.sub (ws' := [(a0, .inr (8, [.ref a1, .ref a2, .ref a3, .ref a4])), (a2, .inl (cI, 4, .inl xF1))]) [0, 1] rfl
    have hD9 := hD.sub (ws' := [(a0, .inr (8, [.ref a1, .ref a2, .ref a3, .ref a4])), (a2, .inl (cI, 4, .inl xF1))]) [0, 1] (by decide) rfl
    rw [hQ]
    exact W.zret (v := 0) hx hb hr (by decide) (fun t ht hW => ⟨⟨0, (), rfl, ⟨(show (0 : Int) ≤ (0 : Int32).toInt ∧ (0 : Int32).toInt ≤ 1 from ⟨by omega, by omega⟩), (show ((0 : Int32).toInt ≠ 0 → p1.toInt ≥ 0 ∧ p2.toInt ≥ 0 ∧ p1.toInt ≤ 60 ∧ p2.toInt ≤ 60 ∧ p1.toInt + p2.toInt ≤ 60 ∧ p1.toInt + p2.toInt ≤ (xF1 p0.toNatClampNeg).toInt) from by omega), (show ((0 : Int32).toInt ≠ 1 → p1.toInt < 0 ∨ p2.toInt < 0 ∨ (xF1 p0.toNatClampNeg).toInt < p1.toInt + p2.toInt) from by omega), trivial⟩, (by rw [ht]; exact hP9), hD9⟩, hS.F ht⟩) hS.2.2 dX8_holds_29
  · rw [ki_lt] at c1
    refine lv_iload_n hx hb dX8_holds_4 rfl (lv_at hl 3 rfl) ?_
    refine lv_if_lt (tgt := 28) hx hb dX8_holds_5 (by decide) (fun c2 => ?_) (fun c2 => ?_)
    · rw [ki_lt] at c2
      refine lv_iconst (v := 0) hx hb dX8_holds_28 (by decide) ?_
      have hP9 := hP.sub (ws' := [(a0, .inr (8, [.ref a1, .ref a2, .ref a3, .ref a4])), (a2, .inl (cI, 4, .inl xF1))]) [0, 1] rfl
      have hD9 := hD.sub (ws' := [(a0, .inr (8, [.ref a1, .ref a2, .ref a3, .ref a4])), (a2, .inl (cI, 4, .inl xF1))]) [0, 1] (by decide) rfl
      rw [hQ]
      exact W.zret (v := 0) hx hb hr (by decide) (fun t ht hW => ⟨⟨0, (), rfl, ⟨(show (0 : Int) ≤ (0 : Int32).toInt ∧ (0 : Int32).toInt ≤ 1 from ⟨by omega, by omega⟩), (show ((0 : Int32).toInt ≠ 0 → p1.toInt ≥ 0 ∧ p2.toInt ≥ 0 ∧ p1.toInt ≤ 60 ∧ p2.toInt ≤ 60 ∧ p1.toInt + p2.toInt ≤ 60 ∧ p1.toInt + p2.toInt ≤ (xF1 p0.toNatClampNeg).toInt) from by omega), (show ((0 : Int32).toInt ≠ 1 → p1.toInt < 0 ∨ p2.toInt < 0 ∨ (xF1 p0.toNatClampNeg).toInt < p1.toInt + p2.toInt) from by omega), trivial⟩, (by rw [ht]; exact hP9), hD9⟩, hS.F ht⟩) hS.2.2 dX8_holds_29
    · rw [ki_lt] at c2
      refine lv_iload_n hx hb dX8_holds_8 rfl (lv_at hl 2 rfl) ?_
      refine lv_i2l hx hb dX8_holds_9 rfl ?_
      refine lv_iload_n hx hb dX8_holds_10 rfl (lv_at hl 3 rfl) ?_
      refine lv_i2l hx hb dX8_holds_11 rfl ?_
      refine lv_ladd hx hb dX8_holds_12 ?_
      refine lv_topl (fun x3 ex3 => ?_)
      refine lv_aload_n hx hb dX8_holds_13 rfl (lv_at hl 0 rfl) ?_
      refine va_get (D := (dC, dI)) (ci := 8) (v := .ref a2) (C := RX8) (T := TX8) (N := 4) hx hb hwd inlX8 hown hK hP 0 rfl rfl 1 (by decide) (hwd _ kr9_21) (fun _ h9 => h9) rfl dX8_holds_14 ?_
      refine lv_iload_n hx hb dX8_holds_17 rfl (lv_at hl 1 rfl) ?_
      have h4 : vp_in p0 4 := (vp_of (by omega) (by omega))
      refine va_iald hx hb hK hP 1 0 rfl rfl h4 dX8_holds_18 ?_
      refine lv_topi (fun x5 ex5 => ?_)
      have tx5 : (0 : Int) ≤ x5.toInt ∧ x5.toInt ≤ 60 := by rw [ex5]; exact p_0 _ (vp_nat h4)
      have qx5 : x5.toInt = (xF1 p0.toNatClampNeg).toInt := by rw [ex5]
      refine lv_i2l hx hb dX8_holds_19 rfl ?_
      refine W.lcmp hx hb dX8_holds_20 ?_
      refine lv_if_gt (tgt := 28) hx hb dX8_holds_21 (by decide) (fun c6 => ?_) (fun c6 => ?_)
      · rw [hl_gt ex3] at c6
        refine lv_iconst (v := 0) hx hb dX8_holds_28 (by decide) ?_
        have hP9 := hP.sub (ws' := [(a0, .inr (8, [.ref a1, .ref a2, .ref a3, .ref a4])), (a2, .inl (cI, 4, .inl xF1))]) [0, 1] rfl
        have hD9 := hD.sub (ws' := [(a0, .inr (8, [.ref a1, .ref a2, .ref a3, .ref a4])), (a2, .inl (cI, 4, .inl xF1))]) [0, 1] (by decide) rfl
        rw [hQ]
        exact W.zret (v := 0) hx hb hr (by decide) (fun t ht hW => ⟨⟨0, (), rfl, ⟨(show (0 : Int) ≤ (0 : Int32).toInt ∧ (0 : Int32).toInt ≤ 1 from ⟨by omega, by omega⟩), (show ((0 : Int32).toInt ≠ 0 → p1.toInt ≥ 0 ∧ p2.toInt ≥ 0 ∧ p1.toInt ≤ 60 ∧ p2.toInt ≤ 60 ∧ p1.toInt + p2.toInt ≤ 60 ∧ p1.toInt + p2.toInt ≤ (xF1 p0.toNatClampNeg).toInt) from by omega), (show ((0 : Int32).toInt ≠ 1 → p1.toInt < 0 ∨ p2.toInt < 0 ∨ (xF1 p0.toNatClampNeg).toInt < p1.toInt + p2.toInt) from by omega), trivial⟩, (by rw [ht]; exact hP9), hD9⟩, hS.F ht⟩) hS.2.2 dX8_holds_29
      · rw [hl_gt ex3] at c6
        refine lv_iconst (v := 1) hx hb dX8_holds_24 (by decide) ?_
        refine lv_goto (tgt := 29) hx hb dX8_holds_25 (by decide) ?_
        have hP9 := hP.sub (ws' := [(a0, .inr (8, [.ref a1, .ref a2, .ref a3, .ref a4])), (a2, .inl (cI, 4, .inl xF1))]) [0, 1] rfl
        have hD9 := hD.sub (ws' := [(a0, .inr (8, [.ref a1, .ref a2, .ref a3, .ref a4])), (a2, .inl (cI, 4, .inl xF1))]) [0, 1] (by decide) rfl
        rw [hQ]
        exact W.zret (v := 1) hx hb hr (by decide) (fun t ht hW => ⟨⟨1, (), rfl, ⟨(show (0 : Int) ≤ (1 : Int32).toInt ∧ (1 : Int32).toInt ≤ 1 from ⟨by omega, by omega⟩), (show ((1 : Int32).toInt ≠ 0 → p1.toInt ≥ 0 ∧ p2.toInt ≥ 0 ∧ p1.toInt ≤ 60 ∧ p2.toInt ≤ 60 ∧ p1.toInt + p2.toInt ≤ 60 ∧ p1.toInt + p2.toInt ≤ (xF1 p0.toNatClampNeg).toInt) from by omega), (show ((1 : Int32).toInt ≠ 1 → p1.toInt < 0 ∨ p2.toInt < 0 ∨ (xF1 p0.toNatClampNeg).toInt < p1.toInt + p2.toInt) from by omega), trivial⟩, (by rw [ht]; exact hP9), hD9⟩, hS.F ht⟩) hS.2.2 dX8_holds_29
set_option maxHeartbeats 4000000 in
set_option maxRecDepth 100000 in
theorem s_X11_pasteR (l : Launch) (dC : Nat → ClassId) (dI : Nat → Nat → Nat) (cI cZ cB cJ cM cG : ClassId) (a0 a1 a2 a3 a4 a5 a6 a7 a8 a9 a10 a36 a37 a38 a39 : Nat) (xF24 xF25 xF26 : Nat → Int32) (xG27 : Nat → Int64) (p0 p1 p2 p3 p4 : Int32) (sz : Nat) (p_0 : rng xF25 4 0 60) (p_1 : rng xF26 4 0 1) : Met l yX11_paste (kw yX11_paste cX11_paste 6 (some .int)) ({ frames := 2, cells := 0, slots := 0, locals := 89 } : Room) (va_Pc [.ref a0, .int p0, .int p1, .int p2, .int p3, .int p4] (kPre dC dI [(cI, .int), (cZ, .boolean), (cB, .byte), (cJ, .long), (cM, .object RX2), (cG, .array .int)] [(a0, .inr (11, [.ref a1, .ref a2, .ref a3, .ref a4, .ref a5, .ref a6, .ref a7, .ref a8, .ref a9, .ref a10])), (a5, .inr (8, [.ref a36, .ref a37, .ref a38, .ref a39])), (a36, .inl (cI, 4, .inl xF24)), (a37, .inl (cI, 4, .inl xF25)), (a38, .inl (cZ, 4, .inl xF26)), (a39, .inl (cJ, 240, .inr (.inl xG27)))] sz)) (va_Qi (fun (r : Int32) (u9 : (Nat → Int32) × (Nat → Nat → Int32) × (Nat → Nat → Int64)) => ((-8 : Int) ≤ r.toInt ∧ r.toInt ≤ 0) ∧ (PSA xF26 xF25 xF24 p0 p1 p2 p3 p4 r) ∧ True) (fun u9 t => va_P (dC, dI) vwCl [(a0, .inr (11, [.ref a1, .ref a2, .ref a3, .ref a4, .ref a5, .ref a6, .ref a7, .ref a8, .ref a9, .ref a10])), (a5, .inr (8, [.ref a36, .ref a37, .ref a38, .ref a39])), (a36, .inl (cI, 4, .inl xF24)), (a37, .inl (cI, 4, .inl xF25)), (a38, .inl (cZ, 4, .inl xF26)), (a39, .inl (cJ, 240, .inr (.inl (u9.2.2 0))))] t.heap ∧ va_D (va_A [(a0, .inr (11, [.ref a1, .ref a2, .ref a3, .ref a4, .ref a5, .ref a6, .ref a7, .ref a8, .ref a9, .ref a10])), (a5, .inr (8, [.ref a36, .ref a37, .ref a38, .ref a39])), (a36, .inl (cI, 4, .inl xF24)), (a37, .inl (cI, 4, .inl xF25)), (a38, .inl (cZ, 4, .inl xF26)), (a39, .inl (cJ, 240, .inr (.inl xG27)))] sz) [(a0, .inr (11, [.ref a1, .ref a2, .ref a3, .ref a4, .ref a5, .ref a6, .ref a7, .ref a8, .ref a9, .ref a10])), (a5, .inr (8, [.ref a36, .ref a37, .ref a38, .ref a39])), (a36, .inl (cI, 4, .inl xF24)), (a37, .inl (cI, 4, .inl xF25)), (a38, .inl (cZ, 4, .inl xF26)), (a39, .inl (cJ, 240, .inr (.inl (u9.2.2 0))))]) (va_A [(a0, .inr (11, [.ref a1, .ref a2, .ref a3, .ref a4, .ref a5, .ref a6, .ref a7, .ref a8, .ref a9, .ref a10])), (a5, .inr (8, [.ref a36, .ref a37, .ref a38, .ref a39])), (a36, .inl (cI, 4, .inl xF24)), (a37, .inl (cI, 4, .inl xF25)), (a38, .inl (cZ, 4, .inl xF26)), (a39, .inl (cJ, 240, .inr (.inl xG27)))] sz)) 0 0 (va_A [(a0, .inr (11, [.ref a1, .ref a2, .ref a3, .ref a4, .ref a5, .ref a6, .ref a7, .ref a8, .ref a9, .ref a10])), (a5, .inr (8, [.ref a36, .ref a37, .ref a38, .ref a39])), (a36, .inl (cI, 4, .inl xF24)), (a37, .inl (cI, 4, .inl xF25)), (a38, .inl (cZ, 4, .inl xF26)), (a39, .inl (cJ, 240, .inr (.inl xG27)))] sz) := by
  refine kEnter (by decide) (Nat.le_of_ble_eq_true rfl) ?_
  intro p e s m below meth c ls hx hb hr hml hown hlocks hin hwd hsz hP hK hD hl
  subst hsz
  generalize hAe : va_A [(a0, .inr (11, [.ref a1, .ref a2, .ref a3, .ref a4, .ref a5, .ref a6, .ref a7, .ref a8, .ref a9, .ref a10])), (a5, .inr (8, [.ref a36, .ref a37, .ref a38, .ref a39])), (a36, .inl (cI, 4, .inl xF24)), (a37, .inl (cI, 4, .inl xF25)), (a38, .inl (cZ, 4, .inl xF26)), (a39, .inl (cJ, 240, .inr (.inl xG27)))] s.heap.size = A at hD ⊢
  have hA : ∀ q : Nat, s.heap.size ≤ q → A q := fun q h => by rw [← hAe]; exact Or.inr h
  have hS : va_S A s.heap s.heap [] := va_S.rf
  have hl : lv_has ls 6 [(0, .ref a0), (1, .int p0), (2, .int p1), (3, .int p2), (4, .int p3), (5, .int p4)] := hl
  obtain ⟨Q, hQ⟩ : ∃ Q, Q = MQ below (va_Qi (fun (r : Int32) (u9 : (Nat → Int32) × (Nat → Nat → Int32) × (Nat → Nat → Int64)) => ((-8 : Int) ≤ r.toInt ∧ r.toInt ≤ 0) ∧ (PSA xF26 xF25 xF24 p0 p1 p2 p3 p4 r) ∧ True) (fun u9 t => va_P (dC, dI) vwCl [(a0, .inr (11, [.ref a1, .ref a2, .ref a3, .ref a4, .ref a5, .ref a6, .ref a7, .ref a8, .ref a9, .ref a10])), (a5, .inr (8, [.ref a36, .ref a37, .ref a38, .ref a39])), (a36, .inl (cI, 4, .inl xF24)), (a37, .inl (cI, 4, .inl xF25)), (a38, .inl (cZ, 4, .inl xF26)), (a39, .inl (cJ, 240, .inr (.inl (u9.2.2 0))))] t.heap ∧ va_D A [(a0, .inr (11, [.ref a1, .ref a2, .ref a3, .ref a4, .ref a5, .ref a6, .ref a7, .ref a8, .ref a9, .ref a10])), (a5, .inr (8, [.ref a36, .ref a37, .ref a38, .ref a39])), (a36, .inl (cI, 4, .inl xF24)), (a37, .inl (cI, 4, .inl xF25)), (a38, .inl (cZ, 4, .inl xF26)), (a39, .inl (cJ, 240, .inr (.inl (u9.2.2 0))))]) A) ([.ref a0, .int p0, .int p1, .int p2, .int p3, .int p4] : List Value).toArray s 0 0 A := ⟨_, rfl⟩
  rw [← hQ]
  have km8 : ((-8) : Int32).toInt = -8 := by decide
  have km7 : ((-7) : Int32).toInt = -7 := by decide
  have km6 : ((-6) : Int32).toInt = -6 := by decide
  have km2 : ((-2) : Int32).toInt = -2 := by decide
  have k0 : (0 : Int32).toInt = 0 := by decide
  have k3 : (3 : Int32).toInt = 3 := by decide
  have k60 : (60 : Int32).toInt = 60 := by decide
  refine lv_iload_n hx hb dX11_paste_0 rfl (lv_at hl 1 rfl) ?_
  have hPc := hP.sub (ws' := []) [] rfl
  have hDc := hD.sub (ws' := []) [] (by decide) rfl
  have hFc := va_free (wc := []) hD hS hA [] rfl
  refine va_calli (va_runS (As := [.int p0]) (rest := []) ⟨hx, hb, hml, hown, hwd⟩ (s_X11_isSlotR l dC dI cI cZ cB cJ cM cG p0 s.heap.size) (cwS 1 hwd (gS kr40_12 kr40_13 kr5_11 kr40_14) rfl rfl rfl (by decide +kernel) ⟨Nat.le_of_ble_eq_true rfl, Nat.le_of_ble_eq_true rfl⟩) (kPreS hPc hK hDc) rfl rfl hl.1 rfl (lv_room (Nat.le_of_ble_eq_true rfl)) dX11_paste_1 ⟨Nat.le_of_ble_eq_true rfl, Nat.le_of_ble_eq_true rfl⟩) hS (fun q _ h => hFc q h) hFc (fun r1 u2 t H1 locs ht9 hvm hw hB hz1 hk1 hS => ?_)
  obtain ⟨hw3, hw4, hw5, -⟩ := hw
  replace hw3 : (0 : Int) ≤ r1.toInt ∧ r1.toInt ≤ 1 := hw3
  obtain ⟨hP1, hD1⟩ := hB
  rw [ht9] at hP1
  obtain ⟨hP, hD⟩ := va_join (wr := [(a0, .inr (11, [.ref a1, .ref a2, .ref a3, .ref a4, .ref a5, .ref a6, .ref a7, .ref a8, .ref a9, .ref a10])), (a5, .inr (8, [.ref a36, .ref a37, .ref a38, .ref a39])), (a36, .inl (cI, 4, .inl xF24)), (a37, .inl (cI, 4, .inl xF25)), (a38, .inl (cZ, 4, .inl xF26)), (a39, .inl (cJ, 240, .inr (.inl xG27)))]) (w1 := []) hP hD [] [0, 1, 2, 3, 4, 5] rfl rfl (by decide) (by decide) hk1 hFc hP1 hD1
  generalize H1 = H at hP hS ⊢
  replace hP : va_P (dC, dI) vwCl [(a0, .inr (11, [.ref a1, .ref a2, .ref a3, .ref a4, .ref a5, .ref a6, .ref a7, .ref a8, .ref a9, .ref a10])), (a5, .inr (8, [.ref a36, .ref a37, .ref a38, .ref a39])), (a36, .inl (cI, 4, .inl xF24)), (a37, .inl (cI, 4, .inl xF25)), (a38, .inl (cZ, 4, .inl xF26)), (a39, .inl (cJ, 240, .inr (.inl xG27)))] H := hP
  replace hD : va_D A [(a0, .inr (11, [.ref a1, .ref a2, .ref a3, .ref a4, .ref a5, .ref a6, .ref a7, .ref a8, .ref a9, .ref a10])), (a5, .inr (8, [.ref a36, .ref a37, .ref a38, .ref a39])), (a36, .inl (cI, 4, .inl xF24)), (a37, .inl (cI, 4, .inl xF25)), (a38, .inl (cZ, 4, .inl xF26)), (a39, .inl (cJ, 240, .inr (.inl xG27)))] := hD
  refine lv_if_eq (tgt := 14) hx hb dX11_paste_4 (by decide) (fun c6 => ?_) (fun c6 => ?_)
  · rw [ki_eq] at c6
    have hw5q := hw5 (by omega)
    clear hw5
    refine lv_bipush (v := (-2)) hx hb dX11_paste_14 (by decide) ?_
    have hP9 := hP.sub (ws' := [(a0, .inr (11, [.ref a1, .ref a2, .ref a3, .ref a4, .ref a5, .ref a6, .ref a7, .ref a8, .ref a9, .ref a10])), (a5, .inr (8, [.ref a36, .ref a37, .ref a38, .ref a39])), (a36, .inl (cI, 4, .inl xF24)), (a37, .inl (cI, 4, .inl xF25)), (a38, .inl (cZ, 4, .inl xF26)), (a39, .inl (cJ, 240, .inr (.inl xG27)))]) [0, 1, 2, 3, 4, 5] rfl
    have hD9 := hD.sub (ws' := [(a0, .inr (11, [.ref a1, .ref a2, .ref a3, .ref a4, .ref a5, .ref a6, .ref a7, .ref a8, .ref a9, .ref a10])), (a5, .inr (8, [.ref a36, .ref a37, .ref a38, .ref a39])), (a36, .inl (cI, 4, .inl xF24)), (a37, .inl (cI, 4, .inl xF25)), (a38, .inl (cZ, 4, .inl xF26)), (a39, .inl (cJ, 240, .inr (.inl xG27)))]) [0, 1, 2, 3, 4, 5] (by decide) rfl
    rw [hQ]
    exact W.iret (v := (-2)) hx hb hr (fun t ht hW => ⟨⟨(-2), (pickG 0 [], pickG (fun _ => 0) [], pickG (fun _ => 0) [xG27]), rfl, ⟨(show (-8 : Int) ≤ ((-2) : Int32).toInt ∧ ((-2) : Int32).toInt ≤ 0 from ⟨by omega, by omega⟩), (show PSA xF26 xF25 xF24 p0 p1 p2 p3 p4 ((-2) : Int32) from by unfold PSA; omega), trivial⟩, (by rw [ht]; exact hP9), hD9⟩, hS.F ht⟩) hS.2.2 dX11_paste_16
  · rw [ki_eq] at c6
    have hw4q := hw4 (by omega)
    clear hw4
    refine lv_iload_n hx hb dX11_paste_7 rfl (lv_at hl 3 rfl) ?_
    have hPc := hP.sub (ws' := []) [] rfl
    have hDc := hD.sub (ws' := []) [] (by decide) rfl
    have hFc := va_free (wc := []) hD hS hA [] rfl
    refine va_calli (va_runS (As := [.int p2]) (rest := []) ⟨hx, hb, hml, hown, hwd⟩ (s_X11_isSlotR l dC dI cI cZ cB cJ cM cG p2 H.size) (cwS 1 hwd (gS kr40_12 kr40_13 kr5_11 kr40_14) rfl rfl rfl (by decide +kernel) ⟨Nat.le_of_ble_eq_true rfl, Nat.le_of_ble_eq_true rfl⟩) (kPreS hPc hK hDc) rfl rfl hl.1 rfl (lv_room (Nat.le_of_ble_eq_true rfl)) dX11_paste_8 ⟨Nat.le_of_ble_eq_true rfl, Nat.le_of_ble_eq_true rfl⟩) hS (fun q _ h => hFc q h) hFc (fun r7 u8 t H1 locs ht9 hvm hw hB hz1 hk1 hS => ?_)
    obtain ⟨hw9, hw10, hw11, -⟩ := hw
    replace hw9 : (0 : Int) ≤ r7.toInt ∧ r7.toInt ≤ 1 := hw9
    obtain ⟨hP1, hD1⟩ := hB
    rw [ht9] at hP1
    obtain ⟨hP, hD⟩ := va_join (wr := [(a0, .inr (11, [.ref a1, .ref a2, .ref a3, .ref a4, .ref a5, .ref a6, .ref a7, .ref a8, .ref a9, .ref a10])), (a5, .inr (8, [.ref a36, .ref a37, .ref a38, .ref a39])), (a36, .inl (cI, 4, .inl xF24)), (a37, .inl (cI, 4, .inl xF25)), (a38, .inl (cZ, 4, .inl xF26)), (a39, .inl (cJ, 240, .inr (.inl xG27)))]) (w1 := []) hP hD [] [0, 1, 2, 3, 4, 5] rfl rfl (by decide) (by decide) hk1 hFc hP1 hD1
    generalize H1 = H at hP hS ⊢
    replace hP : va_P (dC, dI) vwCl [(a0, .inr (11, [.ref a1, .ref a2, .ref a3, .ref a4, .ref a5, .ref a6, .ref a7, .ref a8, .ref a9, .ref a10])), (a5, .inr (8, [.ref a36, .ref a37, .ref a38, .ref a39])), (a36, .inl (cI, 4, .inl xF24)), (a37, .inl (cI, 4, .inl xF25)), (a38, .inl (cZ, 4, .inl xF26)), (a39, .inl (cJ, 240, .inr (.inl xG27)))] H := hP
    replace hD : va_D A [(a0, .inr (11, [.ref a1, .ref a2, .ref a3, .ref a4, .ref a5, .ref a6, .ref a7, .ref a8, .ref a9, .ref a10])), (a5, .inr (8, [.ref a36, .ref a37, .ref a38, .ref a39])), (a36, .inl (cI, 4, .inl xF24)), (a37, .inl (cI, 4, .inl xF25)), (a38, .inl (cZ, 4, .inl xF26)), (a39, .inl (cJ, 240, .inr (.inl xG27)))] := hD
    refine lv_if_ne (tgt := 17) hx hb dX11_paste_11 (by decide) (fun c12 => ?_) (fun c12 => ?_)
    · rw [ki_eq] at c12
      have hw10q := hw10 (by omega)
      clear hw10
      refine lv_aload_n hx hb dX11_paste_17 rfl (lv_at hl 0 rfl) ?_
      refine va_get (D := (dC, dI)) (ci := 11) (v := .ref a5) (C := RX11) (T := TX11) (N := 10) hx hb hwd inlX11 hown hK hP 0 rfl rfl 4 (by decide) (hwd _ kr16_11) (fun _ h9 => h9) rfl dX11_paste_18 ?_
      refine lv_iload_n hx hb dX11_paste_21 rfl (lv_at hl 1 rfl) ?_
      have hPc := hP.sub (ws' := [(a5, .inr (8, [.ref a36, .ref a37, .ref a38, .ref a39])), (a38, .inl (cZ, 4, .inl xF26))]) [1, 4] rfl
      have hDc := hD.sub (ws' := [(a5, .inr (8, [.ref a36, .ref a37, .ref a38, .ref a39])), (a38, .inl (cZ, 4, .inl xF26))]) [1, 4] (by decide) rfl
      have hFc := va_free (wc := [(a5, .inr (8, [.ref a36, .ref a37, .ref a38, .ref a39])), (a38, .inl (cZ, 4, .inl xF26))]) hD hS hA [1, 4] rfl
      refine va_calli (va_runV (As := [.int p0]) (rest := []) ⟨hx, hb, hml, hown, hwd⟩ (s_X8_hasRowR l dC dI cI cZ cB cJ cM cG a5 a36 a37 a38 a39 xF26 p0 H.size (show rng xF26 4 0 1 from p_1) (show (0 : Int) ≤ p0.toInt ∧ p0.toInt ≤ 3 from ⟨by omega, by omega⟩)) (cwV 1 hwd (gV kr40_15 kr40_16 kr40_17 kr5_16 kr40_18) rfl rfl rfl (by decide +kernel) ⟨Nat.le_of_ble_eq_true rfl, Nat.le_of_ble_eq_true rfl⟩) (kPreV hPc hK hDc (ci := 8) (q0 := 0) rfl rfl) rfl rfl hl.1 rfl (lv_room (Nat.le_of_ble_eq_true rfl)) dX11_paste_22 ⟨Nat.le_of_ble_eq_true rfl, Nat.le_of_ble_eq_true rfl⟩) hS (fun q _ h => hFc q h) hFc (fun r13 u14 t H1 locs ht9 hvm hw hB hz1 hk1 hS => ?_)
      obtain ⟨hw15, hw16, -⟩ := hw
      replace hw15 : (0 : Int) ≤ r13.toInt ∧ r13.toInt ≤ 1 := hw15
      replace hw16 : r13.toInt = (xF26 p0.toNatClampNeg).toInt := hw16
      obtain ⟨hP1, hD1⟩ := hB
      rw [ht9] at hP1
      obtain ⟨hP, hD⟩ := va_join (wr := [(a0, .inr (11, [.ref a1, .ref a2, .ref a3, .ref a4, .ref a5, .ref a6, .ref a7, .ref a8, .ref a9, .ref a10])), (a36, .inl (cI, 4, .inl xF24)), (a37, .inl (cI, 4, .inl xF25)), (a39, .inl (cJ, 240, .inr (.inl xG27)))]) (w1 := [(a5, .inr (8, [.ref a36, .ref a37, .ref a38, .ref a39])), (a38, .inl (cZ, 4, .inl xF26))]) hP hD [1, 4] [0, 2, 3, 5] rfl rfl (by decide) (by decide) hk1 hFc hP1 hD1
      generalize H1 = H at hP hS ⊢
      replace hP : va_P (dC, dI) vwCl [(a0, .inr (11, [.ref a1, .ref a2, .ref a3, .ref a4, .ref a5, .ref a6, .ref a7, .ref a8, .ref a9, .ref a10])), (a36, .inl (cI, 4, .inl xF24)), (a37, .inl (cI, 4, .inl xF25)), (a39, .inl (cJ, 240, .inr (.inl xG27))), (a5, .inr (8, [.ref a36, .ref a37, .ref a38, .ref a39])), (a38, .inl (cZ, 4, .inl xF26))] H := hP
      replace hD : va_D A [(a0, .inr (11, [.ref a1, .ref a2, .ref a3, .ref a4, .ref a5, .ref a6, .ref a7, .ref a8, .ref a9, .ref a10])), (a36, .inl (cI, 4, .inl xF24)), (a37, .inl (cI, 4, .inl xF25)), (a39, .inl (cJ, 240, .inr (.inl xG27))), (a5, .inr (8, [.ref a36, .ref a37, .ref a38, .ref a39])), (a38, .inl (cZ, 4, .inl xF26))] := hD
      refine lv_if_eq (tgt := 39) hx hb dX11_paste_25 (by decide) (fun c17 => ?_) (fun c17 => ?_)
      · rw [ki_eq] at c17
        refine lv_bipush (v := (-6)) hx hb dX11_paste_39 (by decide) ?_
        have hP9 := hP.sub (ws' := [(a0, .inr (11, [.ref a1, .ref a2, .ref a3, .ref a4, .ref a5, .ref a6, .ref a7, .ref a8, .ref a9, .ref a10])), (a5, .inr (8, [.ref a36, .ref a37, .ref a38, .ref a39])), (a36, .inl (cI, 4, .inl xF24)), (a37, .inl (cI, 4, .inl xF25)), (a38, .inl (cZ, 4, .inl xF26)), (a39, .inl (cJ, 240, .inr (.inl xG27)))]) [0, 4, 1, 2, 5, 3] rfl
        have hD9 := hD.sub (ws' := [(a0, .inr (11, [.ref a1, .ref a2, .ref a3, .ref a4, .ref a5, .ref a6, .ref a7, .ref a8, .ref a9, .ref a10])), (a5, .inr (8, [.ref a36, .ref a37, .ref a38, .ref a39])), (a36, .inl (cI, 4, .inl xF24)), (a37, .inl (cI, 4, .inl xF25)), (a38, .inl (cZ, 4, .inl xF26)), (a39, .inl (cJ, 240, .inr (.inl xG27)))]) [0, 4, 1, 2, 5, 3] (by decide) rfl
        rw [hQ]
        exact W.iret (v := (-6)) hx hb hr (fun t ht hW => ⟨⟨(-6), (pickG 0 [], pickG (fun _ => 0) [], pickG (fun _ => 0) [xG27]), rfl, ⟨(show (-8 : Int) ≤ ((-6) : Int32).toInt ∧ ((-6) : Int32).toInt ≤ 0 from ⟨by omega, by omega⟩), (show PSA xF26 xF25 xF24 p0 p1 p2 p3 p4 ((-6) : Int32) from by unfold PSA; omega), trivial⟩, (by rw [ht]; exact hP9), hD9⟩, hS.F ht⟩) hS.2.2 dX11_paste_41
      · rw [ki_eq] at c17
        refine lv_aload_n hx hb dX11_paste_28 rfl (lv_at hl 0 rfl) ?_
        refine va_get (D := (dC, dI)) (ci := 11) (v := .ref a5) (C := RX11) (T := TX11) (N := 10) hx hb hwd inlX11 hown hK hP 0 rfl rfl 4 (by decide) (hwd _ kr16_11) (fun _ h9 => h9) rfl dX11_paste_29 ?_
        refine lv_iload_n hx hb dX11_paste_32 rfl (lv_at hl 3 rfl) ?_
        have hPc := hP.sub (ws' := [(a5, .inr (8, [.ref a36, .ref a37, .ref a38, .ref a39])), (a38, .inl (cZ, 4, .inl xF26))]) [4, 5] rfl
        have hDc := hD.sub (ws' := [(a5, .inr (8, [.ref a36, .ref a37, .ref a38, .ref a39])), (a38, .inl (cZ, 4, .inl xF26))]) [4, 5] (by decide) rfl
        have hFc := va_free (wc := [(a5, .inr (8, [.ref a36, .ref a37, .ref a38, .ref a39])), (a38, .inl (cZ, 4, .inl xF26))]) hD hS hA [4, 5] rfl
        refine va_calli (va_runV (As := [.int p2]) (rest := []) ⟨hx, hb, hml, hown, hwd⟩ (s_X8_hasRowR l dC dI cI cZ cB cJ cM cG a5 a36 a37 a38 a39 xF26 p2 H.size (show rng xF26 4 0 1 from p_1) (show (0 : Int) ≤ p2.toInt ∧ p2.toInt ≤ 3 from ⟨by omega, by omega⟩)) (cwV 1 hwd (gV kr40_15 kr40_16 kr40_17 kr5_16 kr40_18) rfl rfl rfl (by decide +kernel) ⟨Nat.le_of_ble_eq_true rfl, Nat.le_of_ble_eq_true rfl⟩) (kPreV hPc hK hDc (ci := 8) (q0 := 0) rfl rfl) rfl rfl hl.1 rfl (lv_room (Nat.le_of_ble_eq_true rfl)) dX11_paste_33 ⟨Nat.le_of_ble_eq_true rfl, Nat.le_of_ble_eq_true rfl⟩) hS (fun q _ h => hFc q h) hFc (fun r18 u19 t H1 locs ht9 hvm hw hB hz1 hk1 hS => ?_)
        obtain ⟨hw20, hw21, -⟩ := hw
        replace hw20 : (0 : Int) ≤ r18.toInt ∧ r18.toInt ≤ 1 := hw20
        replace hw21 : r18.toInt = (xF26 p2.toNatClampNeg).toInt := hw21
        obtain ⟨hP1, hD1⟩ := hB
        rw [ht9] at hP1
        obtain ⟨hP, hD⟩ := va_join (wr := [(a0, .inr (11, [.ref a1, .ref a2, .ref a3, .ref a4, .ref a5, .ref a6, .ref a7, .ref a8, .ref a9, .ref a10])), (a36, .inl (cI, 4, .inl xF24)), (a37, .inl (cI, 4, .inl xF25)), (a39, .inl (cJ, 240, .inr (.inl xG27)))]) (w1 := [(a5, .inr (8, [.ref a36, .ref a37, .ref a38, .ref a39])), (a38, .inl (cZ, 4, .inl xF26))]) hP hD [4, 5] [0, 1, 2, 3] rfl rfl (by decide) (by decide) hk1 hFc hP1 hD1
        generalize H1 = H at hP hS ⊢
        replace hP : va_P (dC, dI) vwCl [(a0, .inr (11, [.ref a1, .ref a2, .ref a3, .ref a4, .ref a5, .ref a6, .ref a7, .ref a8, .ref a9, .ref a10])), (a36, .inl (cI, 4, .inl xF24)), (a37, .inl (cI, 4, .inl xF25)), (a39, .inl (cJ, 240, .inr (.inl xG27))), (a5, .inr (8, [.ref a36, .ref a37, .ref a38, .ref a39])), (a38, .inl (cZ, 4, .inl xF26))] H := hP
        replace hD : va_D A [(a0, .inr (11, [.ref a1, .ref a2, .ref a3, .ref a4, .ref a5, .ref a6, .ref a7, .ref a8, .ref a9, .ref a10])), (a36, .inl (cI, 4, .inl xF24)), (a37, .inl (cI, 4, .inl xF25)), (a39, .inl (cJ, 240, .inr (.inl xG27))), (a5, .inr (8, [.ref a36, .ref a37, .ref a38, .ref a39])), (a38, .inl (cZ, 4, .inl xF26))] := hD
        refine lv_if_ne (tgt := 42) hx hb dX11_paste_36 (by decide) (fun c22 => ?_) (fun c22 => ?_)
        · rw [ki_eq] at c22
          refine lv_aload_n hx hb dX11_paste_42 rfl (lv_at hl 0 rfl) ?_
          refine va_get (D := (dC, dI)) (ci := 11) (v := .ref a5) (C := RX11) (T := TX11) (N := 10) hx hb hwd inlX11 hown hK hP 0 rfl rfl 4 (by decide) (hwd _ kr16_11) (fun _ h9 => h9) rfl dX11_paste_43 ?_
          refine va_get (D := (dC, dI)) (ci := 8) (v := .ref a36) (C := RX8) (T := TX8) (N := 4) hx hb hwd inlX8 hown hK hP 4 rfl rfl 0 (by decide) (hwd _ kr9_20) (fun _ h9 => h9) rfl dX11_paste_46 ?_
          refine lv_iload_n hx hb dX11_paste_49 rfl (lv_at hl 1 rfl) ?_
          have h23 : vp_in p0 4 := (vp_of (by omega) (by omega))
          refine va_iald hx hb hK hP 1 0 rfl rfl h23 dX11_paste_50 ?_
          refine lv_topi (fun x24 ex24 => ?_)
          have qx24 : x24.toInt = (xF24 p0.toNatClampNeg).toInt := by rw [ex24]
          refine lv_aload_n hx hb dX11_paste_51 rfl (lv_at hl 0 rfl) ?_
          refine va_get (D := (dC, dI)) (ci := 11) (v := .ref a5) (C := RX11) (T := TX11) (N := 10) hx hb hwd inlX11 hown hK hP 0 rfl rfl 4 (by decide) (hwd _ kr16_11) (fun _ h9 => h9) rfl dX11_paste_52 ?_
          refine va_get (D := (dC, dI)) (ci := 8) (v := .ref a36) (C := RX8) (T := TX8) (N := 4) hx hb hwd inlX8 hown hK hP 4 rfl rfl 0 (by decide) (hwd _ kr9_20) (fun _ h9 => h9) rfl dX11_paste_55 ?_
          refine lv_iload_n hx hb dX11_paste_58 rfl (lv_at hl 3 rfl) ?_
          have h25 : vp_in p2 4 := (vp_of (by omega) (by omega))
          refine va_iald hx hb hK hP 1 0 rfl rfl h25 dX11_paste_59 ?_
          refine lv_topi (fun x26 ex26 => ?_)
          have qx26 : x26.toInt = (xF24 p2.toNatClampNeg).toInt := by rw [ex26]
          refine lv_icmp_eq (tgt := 66) hx hb dX11_paste_60 (by decide) (fun c27 => ?_) (fun c27 => ?_)
          · rw [ki_eq] at c27
            refine lv_aload_n hx hb dX11_paste_66 rfl (lv_at hl 0 rfl) ?_
            refine va_get (D := (dC, dI)) (ci := 11) (v := .ref a5) (C := RX11) (T := TX11) (N := 10) hx hb hwd inlX11 hown hK hP 0 rfl rfl 4 (by decide) (hwd _ kr16_11) (fun _ h9 => h9) rfl dX11_paste_67 ?_
            refine lv_iload_n hx hb dX11_paste_70 rfl (lv_at hl 1 rfl) ?_
            refine lv_iload_n hx hb dX11_paste_71 rfl (lv_at hl 2 rfl) ?_
            refine lv_iload hx hb dX11_paste_72 (lv_at hl 5 rfl) ?_
            have hPc := hP.sub (ws' := [(a5, .inr (8, [.ref a36, .ref a37, .ref a38, .ref a39])), (a37, .inl (cI, 4, .inl xF25))]) [4, 2] rfl
            have hDc := hD.sub (ws' := [(a5, .inr (8, [.ref a36, .ref a37, .ref a38, .ref a39])), (a37, .inl (cI, 4, .inl xF25))]) [4, 2] (by decide) rfl
            have hFc := va_free (wc := [(a5, .inr (8, [.ref a36, .ref a37, .ref a38, .ref a39])), (a37, .inl (cI, 4, .inl xF25))]) hD hS hA [4, 2] rfl
            refine va_calli (va_runV (As := [.int p0, .int p1, .int p4]) (rest := []) ⟨hx, hb, hml, hown, hwd⟩ (s_X8_holdsR l dC dI cI cZ cB cJ cM cG a5 a36 a37 a38 a39 xF25 p0 p1 p4 H.size (show rng xF25 4 0 60 from p_0) (show (0 : Int) ≤ p0.toInt ∧ p0.toInt ≤ 3 from ⟨by omega, by omega⟩)) (cwV 3 hwd (gV kr48_8 kr48_9 kr48_10 kr5_16 kr48_11) rfl rfl rfl (by decide +kernel) ⟨Nat.le_of_ble_eq_true rfl, Nat.le_of_ble_eq_true rfl⟩) (kPreV hPc hK hDc (ci := 8) (q0 := 0) rfl rfl) rfl rfl hl.1 rfl (lv_room (Nat.le_of_ble_eq_true rfl)) dX11_paste_74 ⟨Nat.le_of_ble_eq_true rfl, Nat.le_of_ble_eq_true rfl⟩) hS (fun q _ h => hFc q h) hFc (fun r28 u29 t H1 locs ht9 hvm hw hB hz1 hk1 hS => ?_)
            obtain ⟨hw30, hw31, hw32, -⟩ := hw
            replace hw30 : (0 : Int) ≤ r28.toInt ∧ r28.toInt ≤ 1 := hw30
            obtain ⟨hP1, hD1⟩ := hB
            rw [ht9] at hP1
            obtain ⟨hP, hD⟩ := va_join (wr := [(a0, .inr (11, [.ref a1, .ref a2, .ref a3, .ref a4, .ref a5, .ref a6, .ref a7, .ref a8, .ref a9, .ref a10])), (a36, .inl (cI, 4, .inl xF24)), (a39, .inl (cJ, 240, .inr (.inl xG27))), (a38, .inl (cZ, 4, .inl xF26))]) (w1 := [(a5, .inr (8, [.ref a36, .ref a37, .ref a38, .ref a39])), (a37, .inl (cI, 4, .inl xF25))]) hP hD [4, 2] [0, 1, 3, 5] rfl rfl (by decide) (by decide) hk1 hFc hP1 hD1
            generalize H1 = H at hP hS ⊢
            replace hP : va_P (dC, dI) vwCl [(a0, .inr (11, [.ref a1, .ref a2, .ref a3, .ref a4, .ref a5, .ref a6, .ref a7, .ref a8, .ref a9, .ref a10])), (a36, .inl (cI, 4, .inl xF24)), (a39, .inl (cJ, 240, .inr (.inl xG27))), (a38, .inl (cZ, 4, .inl xF26)), (a5, .inr (8, [.ref a36, .ref a37, .ref a38, .ref a39])), (a37, .inl (cI, 4, .inl xF25))] H := hP
            replace hD : va_D A [(a0, .inr (11, [.ref a1, .ref a2, .ref a3, .ref a4, .ref a5, .ref a6, .ref a7, .ref a8, .ref a9, .ref a10])), (a36, .inl (cI, 4, .inl xF24)), (a39, .inl (cJ, 240, .inr (.inl xG27))), (a38, .inl (cZ, 4, .inl xF26)), (a5, .inr (8, [.ref a36, .ref a37, .ref a38, .ref a39])), (a37, .inl (cI, 4, .inl xF25))] := hD
            refine lv_if_eq (tgt := 95) hx hb dX11_paste_77 (by decide) (fun c33 => ?_) (fun c33 => ?_)
            · rw [ki_eq] at c33
              have hw32q := hw32 (by omega)
              clear hw32
              refine lv_bipush (v := (-7)) hx hb dX11_paste_95 (by decide) ?_
              have hP9 := hP.sub (ws' := [(a0, .inr (11, [.ref a1, .ref a2, .ref a3, .ref a4, .ref a5, .ref a6, .ref a7, .ref a8, .ref a9, .ref a10])), (a5, .inr (8, [.ref a36, .ref a37, .ref a38, .ref a39])), (a36, .inl (cI, 4, .inl xF24)), (a37, .inl (cI, 4, .inl xF25)), (a38, .inl (cZ, 4, .inl xF26)), (a39, .inl (cJ, 240, .inr (.inl xG27)))]) [0, 4, 1, 5, 3, 2] rfl
              have hD9 := hD.sub (ws' := [(a0, .inr (11, [.ref a1, .ref a2, .ref a3, .ref a4, .ref a5, .ref a6, .ref a7, .ref a8, .ref a9, .ref a10])), (a5, .inr (8, [.ref a36, .ref a37, .ref a38, .ref a39])), (a36, .inl (cI, 4, .inl xF24)), (a37, .inl (cI, 4, .inl xF25)), (a38, .inl (cZ, 4, .inl xF26)), (a39, .inl (cJ, 240, .inr (.inl xG27)))]) [0, 4, 1, 5, 3, 2] (by decide) rfl
              rw [hQ]
              exact W.iret (v := (-7)) hx hb hr (fun t ht hW => ⟨⟨(-7), (pickG 0 [], pickG (fun _ => 0) [], pickG (fun _ => 0) [xG27]), rfl, ⟨(show (-8 : Int) ≤ ((-7) : Int32).toInt ∧ ((-7) : Int32).toInt ≤ 0 from ⟨by omega, by omega⟩), (show PSA xF26 xF25 xF24 p0 p1 p2 p3 p4 ((-7) : Int32) from by unfold PSA; omega), trivial⟩, (by rw [ht]; exact hP9), hD9⟩, hS.F ht⟩) hS.2.2 dX11_paste_97
            · rw [ki_eq] at c33
              have hw31q := hw31 (by omega)
              clear hw31
              refine lv_aload_n hx hb dX11_paste_80 rfl (lv_at hl 0 rfl) ?_
              refine va_get (D := (dC, dI)) (ci := 11) (v := .ref a5) (C := RX11) (T := TX11) (N := 10) hx hb hwd inlX11 hown hK hP 0 rfl rfl 4 (by decide) (hwd _ kr16_11) (fun _ h9 => h9) rfl dX11_paste_81 ?_
              refine lv_iload_n hx hb dX11_paste_84 rfl (lv_at hl 3 rfl) ?_
              refine lv_iload hx hb dX11_paste_85 (lv_at hl 4 rfl) ?_
              refine lv_iload hx hb dX11_paste_87 (lv_at hl 5 rfl) ?_
              have hPc := hP.sub (ws' := [(a5, .inr (8, [.ref a36, .ref a37, .ref a38, .ref a39])), (a37, .inl (cI, 4, .inl xF25))]) [4, 5] rfl
              have hDc := hD.sub (ws' := [(a5, .inr (8, [.ref a36, .ref a37, .ref a38, .ref a39])), (a37, .inl (cI, 4, .inl xF25))]) [4, 5] (by decide) rfl
              have hFc := va_free (wc := [(a5, .inr (8, [.ref a36, .ref a37, .ref a38, .ref a39])), (a37, .inl (cI, 4, .inl xF25))]) hD hS hA [4, 5] rfl
              refine va_calli (va_runV (As := [.int p2, .int p3, .int p4]) (rest := []) ⟨hx, hb, hml, hown, hwd⟩ (s_X8_holdsR l dC dI cI cZ cB cJ cM cG a5 a36 a37 a38 a39 xF25 p2 p3 p4 H.size (show rng xF25 4 0 60 from p_0) (show (0 : Int) ≤ p2.toInt ∧ p2.toInt ≤ 3 from ⟨by omega, by omega⟩)) (cwV 3 hwd (gV kr48_8 kr48_9 kr48_10 kr5_16 kr48_11) rfl rfl rfl (by decide +kernel) ⟨Nat.le_of_ble_eq_true rfl, Nat.le_of_ble_eq_true rfl⟩) (kPreV hPc hK hDc (ci := 8) (q0 := 0) rfl rfl) rfl rfl hl.1 rfl (lv_room (Nat.le_of_ble_eq_true rfl)) dX11_paste_89 ⟨Nat.le_of_ble_eq_true rfl, Nat.le_of_ble_eq_true rfl⟩) hS (fun q _ h => hFc q h) hFc (fun r34 u35 t H1 locs ht9 hvm hw hB hz1 hk1 hS => ?_)
              obtain ⟨hw36, hw37, hw38, -⟩ := hw
              replace hw36 : (0 : Int) ≤ r34.toInt ∧ r34.toInt ≤ 1 := hw36
              obtain ⟨hP1, hD1⟩ := hB
              rw [ht9] at hP1
              obtain ⟨hP, hD⟩ := va_join (wr := [(a0, .inr (11, [.ref a1, .ref a2, .ref a3, .ref a4, .ref a5, .ref a6, .ref a7, .ref a8, .ref a9, .ref a10])), (a36, .inl (cI, 4, .inl xF24)), (a39, .inl (cJ, 240, .inr (.inl xG27))), (a38, .inl (cZ, 4, .inl xF26))]) (w1 := [(a5, .inr (8, [.ref a36, .ref a37, .ref a38, .ref a39])), (a37, .inl (cI, 4, .inl xF25))]) hP hD [4, 5] [0, 1, 2, 3] rfl rfl (by decide) (by decide) hk1 hFc hP1 hD1
              generalize H1 = H at hP hS ⊢
              replace hP : va_P (dC, dI) vwCl [(a0, .inr (11, [.ref a1, .ref a2, .ref a3, .ref a4, .ref a5, .ref a6, .ref a7, .ref a8, .ref a9, .ref a10])), (a36, .inl (cI, 4, .inl xF24)), (a39, .inl (cJ, 240, .inr (.inl xG27))), (a38, .inl (cZ, 4, .inl xF26)), (a5, .inr (8, [.ref a36, .ref a37, .ref a38, .ref a39])), (a37, .inl (cI, 4, .inl xF25))] H := hP
              replace hD : va_D A [(a0, .inr (11, [.ref a1, .ref a2, .ref a3, .ref a4, .ref a5, .ref a6, .ref a7, .ref a8, .ref a9, .ref a10])), (a36, .inl (cI, 4, .inl xF24)), (a39, .inl (cJ, 240, .inr (.inl xG27))), (a38, .inl (cZ, 4, .inl xF26)), (a5, .inr (8, [.ref a36, .ref a37, .ref a38, .ref a39])), (a37, .inl (cI, 4, .inl xF25))] := hD
              refine lv_if_ne (tgt := 98) hx hb dX11_paste_92 (by decide) (fun c39 => ?_) (fun c39 => ?_)
              · rw [ki_eq] at c39
                have hw37q := hw37 (by omega)
                clear hw37
                refine lv_aload_n hx hb dX11_paste_98 rfl (lv_at hl 0 rfl) ?_
                refine va_get (D := (dC, dI)) (ci := 11) (v := .ref a5) (C := RX11) (T := TX11) (N := 10) hx hb hwd inlX11 hown hK hP 0 rfl rfl 4 (by decide) (hwd _ kr16_11) (fun _ h9 => h9) rfl dX11_paste_99 ?_
                refine lv_iload_n hx hb dX11_paste_102 rfl (lv_at hl 1 rfl) ?_
                refine lv_iload_n hx hb dX11_paste_103 rfl (lv_at hl 2 rfl) ?_
                refine lv_iload_n hx hb dX11_paste_104 rfl (lv_at hl 3 rfl) ?_
                refine lv_iload hx hb dX11_paste_105 (lv_at hl 4 rfl) ?_
                refine lv_iload hx hb dX11_paste_107 (lv_at hl 5 rfl) ?_
                have hPc := hP.sub (ws' := [(a5, .inr (8, [.ref a36, .ref a37, .ref a38, .ref a39])), (a39, .inl (cJ, 240, .inr (.inl xG27)))]) [4, 2] rfl
                have hDc := hD.sub (ws' := [(a5, .inr (8, [.ref a36, .ref a37, .ref a38, .ref a39])), (a39, .inl (cJ, 240, .inr (.inl xG27)))]) [4, 2] (by decide) rfl
                have hFc := va_free (wc := [(a5, .inr (8, [.ref a36, .ref a37, .ref a38, .ref a39])), (a39, .inl (cJ, 240, .inr (.inl xG27)))]) hD hS hA [4, 2] rfl
                refine va_callv (va_runV (As := [.int p0, .int p1, .int p2, .int p3, .int p4]) (rest := []) ⟨hx, hb, hml, hown, hwd⟩ (s_X8_copyNumbers l dC dI cI cZ cB cJ cM cG a5 a36 a37 a38 a39 xG27 p0 p1 p2 p3 p4 H.size (by omega) (show (0 : Int) ≤ p0.toInt ∧ p0.toInt ≤ 3 from ⟨by omega, by omega⟩) (show (0 : Int) ≤ p1.toInt ∧ p1.toInt ≤ 60 from ⟨by omega, by omega⟩) (show (0 : Int) ≤ p2.toInt ∧ p2.toInt ≤ 3 from ⟨by omega, by omega⟩) (show (0 : Int) ≤ p3.toInt ∧ p3.toInt ≤ 60 from ⟨by omega, by omega⟩) (show (0 : Int) ≤ p4.toInt ∧ p4.toInt ≤ 60 from ⟨by omega, by omega⟩)) (cwV 5 hwd (gV kr48_12 kr48_13 kr48_14 kr5_16 kr48_15) rfl rfl rfl (by decide +kernel) ⟨Nat.le_of_ble_eq_true rfl, Nat.le_of_ble_eq_true rfl⟩) (kPreV hPc hK hDc (ci := 8) (q0 := 0) rfl rfl) rfl rfl hl.1 rfl (lv_room (Nat.le_of_ble_eq_true rfl)) dX11_paste_109 ⟨Nat.le_of_ble_eq_true rfl, Nat.le_of_ble_eq_true rfl⟩) hS (fun q _ h => hFc q h) hFc (fun u41 t H1 locs ht9 hvm hw hB hz1 hk1 hS => ?_)
                obtain ⟨u42, U42, V42⟩ := u41
                obtain ⟨hP1, hD1⟩ := hB
                rw [ht9] at hP1
                obtain ⟨hP, hD⟩ := va_join (wr := [(a0, .inr (11, [.ref a1, .ref a2, .ref a3, .ref a4, .ref a5, .ref a6, .ref a7, .ref a8, .ref a9, .ref a10])), (a36, .inl (cI, 4, .inl xF24)), (a38, .inl (cZ, 4, .inl xF26)), (a37, .inl (cI, 4, .inl xF25))]) (w1 := [(a5, .inr (8, [.ref a36, .ref a37, .ref a38, .ref a39])), (a39, .inl (cJ, 240, .inr (.inl (V42 0))))]) hP hD [4, 2] [0, 1, 3, 5] rfl rfl (by decide) (by decide) hk1 hFc hP1 hD1
                generalize H1 = H at hP hS ⊢
                replace hP : va_P (dC, dI) vwCl [(a0, .inr (11, [.ref a1, .ref a2, .ref a3, .ref a4, .ref a5, .ref a6, .ref a7, .ref a8, .ref a9, .ref a10])), (a36, .inl (cI, 4, .inl xF24)), (a38, .inl (cZ, 4, .inl xF26)), (a37, .inl (cI, 4, .inl xF25)), (a5, .inr (8, [.ref a36, .ref a37, .ref a38, .ref a39])), (a39, .inl (cJ, 240, .inr (.inl (V42 0))))] H := hP
                replace hD : va_D A [(a0, .inr (11, [.ref a1, .ref a2, .ref a3, .ref a4, .ref a5, .ref a6, .ref a7, .ref a8, .ref a9, .ref a10])), (a36, .inl (cI, 4, .inl xF24)), (a38, .inl (cZ, 4, .inl xF26)), (a37, .inl (cI, 4, .inl xF25)), (a5, .inr (8, [.ref a36, .ref a37, .ref a38, .ref a39])), (a39, .inl (cJ, 240, .inr (.inl (V42 0))))] := hD
                refine lv_iconst (v := 0) hx hb dX11_paste_112 (by decide) ?_
                have hP9 := hP.sub (ws' := [(a0, .inr (11, [.ref a1, .ref a2, .ref a3, .ref a4, .ref a5, .ref a6, .ref a7, .ref a8, .ref a9, .ref a10])), (a5, .inr (8, [.ref a36, .ref a37, .ref a38, .ref a39])), (a36, .inl (cI, 4, .inl xF24)), (a37, .inl (cI, 4, .inl xF25)), (a38, .inl (cZ, 4, .inl xF26)), (a39, .inl (cJ, 240, .inr (.inl (V42 0))))]) [0, 4, 1, 3, 2, 5] rfl
                have hD9 := hD.sub (ws' := [(a0, .inr (11, [.ref a1, .ref a2, .ref a3, .ref a4, .ref a5, .ref a6, .ref a7, .ref a8, .ref a9, .ref a10])), (a5, .inr (8, [.ref a36, .ref a37, .ref a38, .ref a39])), (a36, .inl (cI, 4, .inl xF24)), (a37, .inl (cI, 4, .inl xF25)), (a38, .inl (cZ, 4, .inl xF26)), (a39, .inl (cJ, 240, .inr (.inl (V42 0))))]) [0, 4, 1, 3, 2, 5] (by decide) rfl
                rw [hQ]
                exact W.iret (v := 0) hx hb hr (fun t ht hW => ⟨⟨0, (pickG 0 [], pickG (fun _ => 0) [], pickG (fun _ => 0) [(V42 0)]), rfl, ⟨(show (-8 : Int) ≤ (0 : Int32).toInt ∧ (0 : Int32).toInt ≤ 0 from ⟨by omega, by omega⟩), (show PSA xF26 xF25 xF24 p0 p1 p2 p3 p4 (0 : Int32) from by unfold PSA; omega), trivial⟩, (by rw [ht]; exact hP9), hD9⟩, hS.F ht⟩) hS.2.2 dX11_paste_113
              · rw [ki_eq] at c39
                have hw38q := hw38 (by omega)
                clear hw38
                refine lv_bipush (v := (-7)) hx hb dX11_paste_95 (by decide) ?_
                have hP9 := hP.sub (ws' := [(a0, .inr (11, [.ref a1, .ref a2, .ref a3, .ref a4, .ref a5, .ref a6, .ref a7, .ref a8, .ref a9, .ref a10])), (a5, .inr (8, [.ref a36, .ref a37, .ref a38, .ref a39])), (a36, .inl (cI, 4, .inl xF24)), (a37, .inl (cI, 4, .inl xF25)), (a38, .inl (cZ, 4, .inl xF26)), (a39, .inl (cJ, 240, .inr (.inl xG27)))]) [0, 4, 1, 5, 3, 2] rfl
                have hD9 := hD.sub (ws' := [(a0, .inr (11, [.ref a1, .ref a2, .ref a3, .ref a4, .ref a5, .ref a6, .ref a7, .ref a8, .ref a9, .ref a10])), (a5, .inr (8, [.ref a36, .ref a37, .ref a38, .ref a39])), (a36, .inl (cI, 4, .inl xF24)), (a37, .inl (cI, 4, .inl xF25)), (a38, .inl (cZ, 4, .inl xF26)), (a39, .inl (cJ, 240, .inr (.inl xG27)))]) [0, 4, 1, 5, 3, 2] (by decide) rfl
                rw [hQ]
                exact W.iret (v := (-7)) hx hb hr (fun t ht hW => ⟨⟨(-7), (pickG 0 [], pickG (fun _ => 0) [], pickG (fun _ => 0) [xG27]), rfl, ⟨(show (-8 : Int) ≤ ((-7) : Int32).toInt ∧ ((-7) : Int32).toInt ≤ 0 from ⟨by omega, by omega⟩), (show PSA xF26 xF25 xF24 p0 p1 p2 p3 p4 ((-7) : Int32) from by unfold PSA; omega), trivial⟩, (by rw [ht]; exact hP9), hD9⟩, hS.F ht⟩) hS.2.2 dX11_paste_97
          · rw [ki_eq] at c27
            refine lv_bipush (v := (-8)) hx hb dX11_paste_63 (by decide) ?_
            have hP9 := hP.sub (ws' := [(a0, .inr (11, [.ref a1, .ref a2, .ref a3, .ref a4, .ref a5, .ref a6, .ref a7, .ref a8, .ref a9, .ref a10])), (a5, .inr (8, [.ref a36, .ref a37, .ref a38, .ref a39])), (a36, .inl (cI, 4, .inl xF24)), (a37, .inl (cI, 4, .inl xF25)), (a38, .inl (cZ, 4, .inl xF26)), (a39, .inl (cJ, 240, .inr (.inl xG27)))]) [0, 4, 1, 2, 5, 3] rfl
            have hD9 := hD.sub (ws' := [(a0, .inr (11, [.ref a1, .ref a2, .ref a3, .ref a4, .ref a5, .ref a6, .ref a7, .ref a8, .ref a9, .ref a10])), (a5, .inr (8, [.ref a36, .ref a37, .ref a38, .ref a39])), (a36, .inl (cI, 4, .inl xF24)), (a37, .inl (cI, 4, .inl xF25)), (a38, .inl (cZ, 4, .inl xF26)), (a39, .inl (cJ, 240, .inr (.inl xG27)))]) [0, 4, 1, 2, 5, 3] (by decide) rfl
            rw [hQ]
            exact W.iret (v := (-8)) hx hb hr (fun t ht hW => ⟨⟨(-8), (pickG 0 [], pickG (fun _ => 0) [], pickG (fun _ => 0) [xG27]), rfl, ⟨(show (-8 : Int) ≤ ((-8) : Int32).toInt ∧ ((-8) : Int32).toInt ≤ 0 from ⟨by omega, by omega⟩), (show PSA xF26 xF25 xF24 p0 p1 p2 p3 p4 ((-8) : Int32) from by unfold PSA; omega), trivial⟩, (by rw [ht]; exact hP9), hD9⟩, hS.F ht⟩) hS.2.2 dX11_paste_65
        · rw [ki_eq] at c22
          refine lv_bipush (v := (-6)) hx hb dX11_paste_39 (by decide) ?_
          have hP9 := hP.sub (ws' := [(a0, .inr (11, [.ref a1, .ref a2, .ref a3, .ref a4, .ref a5, .ref a6, .ref a7, .ref a8, .ref a9, .ref a10])), (a5, .inr (8, [.ref a36, .ref a37, .ref a38, .ref a39])), (a36, .inl (cI, 4, .inl xF24)), (a37, .inl (cI, 4, .inl xF25)), (a38, .inl (cZ, 4, .inl xF26)), (a39, .inl (cJ, 240, .inr (.inl xG27)))]) [0, 4, 1, 2, 5, 3] rfl
          have hD9 := hD.sub (ws' := [(a0, .inr (11, [.ref a1, .ref a2, .ref a3, .ref a4, .ref a5, .ref a6, .ref a7, .ref a8, .ref a9, .ref a10])), (a5, .inr (8, [.ref a36, .ref a37, .ref a38, .ref a39])), (a36, .inl (cI, 4, .inl xF24)), (a37, .inl (cI, 4, .inl xF25)), (a38, .inl (cZ, 4, .inl xF26)), (a39, .inl (cJ, 240, .inr (.inl xG27)))]) [0, 4, 1, 2, 5, 3] (by decide) rfl
          rw [hQ]
          exact W.iret (v := (-6)) hx hb hr (fun t ht hW => ⟨⟨(-6), (pickG 0 [], pickG (fun _ => 0) [], pickG (fun _ => 0) [xG27]), rfl, ⟨(show (-8 : Int) ≤ ((-6) : Int32).toInt ∧ ((-6) : Int32).toInt ≤ 0 from ⟨by omega, by omega⟩), (show PSA xF26 xF25 xF24 p0 p1 p2 p3 p4 ((-6) : Int32) from by unfold PSA; omega), trivial⟩, (by rw [ht]; exact hP9), hD9⟩, hS.F ht⟩) hS.2.2 dX11_paste_41
    · rw [ki_eq] at c12
      have hw11q := hw11 (by omega)
      clear hw11
      refine lv_bipush (v := (-2)) hx hb dX11_paste_14 (by decide) ?_
      have hP9 := hP.sub (ws' := [(a0, .inr (11, [.ref a1, .ref a2, .ref a3, .ref a4, .ref a5, .ref a6, .ref a7, .ref a8, .ref a9, .ref a10])), (a5, .inr (8, [.ref a36, .ref a37, .ref a38, .ref a39])), (a36, .inl (cI, 4, .inl xF24)), (a37, .inl (cI, 4, .inl xF25)), (a38, .inl (cZ, 4, .inl xF26)), (a39, .inl (cJ, 240, .inr (.inl xG27)))]) [0, 1, 2, 3, 4, 5] rfl
      have hD9 := hD.sub (ws' := [(a0, .inr (11, [.ref a1, .ref a2, .ref a3, .ref a4, .ref a5, .ref a6, .ref a7, .ref a8, .ref a9, .ref a10])), (a5, .inr (8, [.ref a36, .ref a37, .ref a38, .ref a39])), (a36, .inl (cI, 4, .inl xF24)), (a37, .inl (cI, 4, .inl xF25)), (a38, .inl (cZ, 4, .inl xF26)), (a39, .inl (cJ, 240, .inr (.inl xG27)))]) [0, 1, 2, 3, 4, 5] (by decide) rfl
      rw [hQ]
      exact W.iret (v := (-2)) hx hb hr (fun t ht hW => ⟨⟨(-2), (pickG 0 [], pickG (fun _ => 0) [], pickG (fun _ => 0) [xG27]), rfl, ⟨(show (-8 : Int) ≤ ((-2) : Int32).toInt ∧ ((-2) : Int32).toInt ≤ 0 from ⟨by omega, by omega⟩), (show PSA xF26 xF25 xF24 p0 p1 p2 p3 p4 ((-2) : Int32) from by unfold PSA; omega), trivial⟩, (by rw [ht]; exact hP9), hD9⟩, hS.F ht⟩) hS.2.2 dX11_paste_16
set_option maxHeartbeats 4000000 in
set_option maxRecDepth 100000 in
theorem s_X12_pasteR (l : Launch) (dC : Nat → ClassId) (dI : Nat → Nat → Nat) (cI cZ cB cJ cM cG : ClassId) (a0 a1 a2 a3 a4 a5 a6 a7 a8 a9 a10 a11 a12 a13 a14 a15 a16 a17 a18 a19 a20 a21 a22 a23 a24 : Nat) (i0 i1 i2 i3 i4 i5 i6 i7 i8 i9 i10 i11 i12 i13 i14 i15 i16 : Int32) (j0 : Int64) (xF20 xF21 : Nat → Int32) (xG22 xG23 : Nat → Int64) (p0 p1 p2 p3 p4 : Int32) (sz : Nat) (p_0 : (0 : Int) ≤ i1.toInt ∧ i1.toInt ≤ 1600) (p_1 : (0 : Int) ≤ i2.toInt ∧ i2.toInt ≤ 1600) (p_2 : (0 : Int) ≤ i3.toInt ∧ i3.toInt ≤ 1600) (p_3 : (0 : Int) ≤ i4.toInt ∧ i4.toInt ≤ 1600) (p_4 : (0 : Int) ≤ i5.toInt ∧ i5.toInt ≤ 6) (p_5 : (0 : Int) ≤ i7.toInt ∧ i7.toInt ≤ 3) (p_6 : (0 : Int) ≤ i11.toInt ∧ i11.toInt ≤ 59) (p_7 : rng xF20 4 (-1) 60) (p_8 : MI xF20) (p_9 : rng xF21 4 0 3) : Met l yX12_paste (kw yX12_paste cX12_paste 7 (some .int)) ({ frames := 2, cells := 0, slots := 0, locals := 45 } : Room) (va_Pc [.ref a0, .int p0, .int p1, .int p2, .int p3, .int p4] (kPre dC dI [(cI, .int), (cZ, .boolean), (cB, .byte), (cJ, .long), (cM, .object RX2), (cG, .array .int)] [(a0, .inr (12, [.int i0, .ref a1, .ref a2, .ref a3, .ref a4, .int i1, .ref a5, .int i2, .int i3, .int i4, .int i5, .int i6, .int i7, .int i8, .ref a6, .ref a7, .ref a8, .ref a9, .ref a10, .ref a11, .ref a12, .int i9, .ref a13, .int i10, .ref a14, .ref a15, .int i11, .ref a16, .ref a17, .ref a18, .ref a19, .int i12, .int i13, .int i14, .int i15, .int i16, .ref a20, .long j0, .ref a21, .ref a22, .ref a23, .ref a24])), (a21, .inl (cI, 4, .inl xF20)), (a22, .inl (cI, 4, .inl xF21)), (a23, .inl (cJ, 240, .inr (.inl xG22))), (a24, .inl (cJ, 60, .inr (.inl xG23)))] sz)) (va_Qi (fun (r : Int32) (u9 : (Nat → Int32) × (Nat → Nat → Int32) × (Nat → Nat → Int64)) => ((-8 : Int) ≤ r.toInt ∧ r.toInt ≤ 0) ∧ (PSB xF20 xF21 p0 p1 p2 p3 p4 r) ∧ True) (fun u9 t => va_P (dC, dI) vwCl [(a0, .inr (12, [.int i0, .ref a1, .ref a2, .ref a3, .ref a4, .int i1, .ref a5, .int i2, .int i3, .int i4, .int i5, .int i6, .int i7, .int i8, .ref a6, .ref a7, .ref a8, .ref a9, .ref a10, .ref a11, .ref a12, .int i9, .ref a13, .int i10, .ref a14, .ref a15, .int i11, .ref a16, .ref a17, .ref a18, .ref a19, .int i12, .int i13, .int i14, .int i15, .int i16, .ref a20, .long j0, .ref a21, .ref a22, .ref a23, .ref a24])), (a21, .inl (cI, 4, .inl xF20)), (a22, .inl (cI, 4, .inl xF21)), (a23, .inl (cJ, 240, .inr (.inl (u9.2.2 0)))), (a24, .inl (cJ, 60, .inr (.inl (u9.2.2 1))))] t.heap ∧ va_D (va_A [(a0, .inr (12, [.int i0, .ref a1, .ref a2, .ref a3, .ref a4, .int i1, .ref a5, .int i2, .int i3, .int i4, .int i5, .int i6, .int i7, .int i8, .ref a6, .ref a7, .ref a8, .ref a9, .ref a10, .ref a11, .ref a12, .int i9, .ref a13, .int i10, .ref a14, .ref a15, .int i11, .ref a16, .ref a17, .ref a18, .ref a19, .int i12, .int i13, .int i14, .int i15, .int i16, .ref a20, .long j0, .ref a21, .ref a22, .ref a23, .ref a24])), (a21, .inl (cI, 4, .inl xF20)), (a22, .inl (cI, 4, .inl xF21)), (a23, .inl (cJ, 240, .inr (.inl xG22))), (a24, .inl (cJ, 60, .inr (.inl xG23)))] sz) [(a0, .inr (12, [.int i0, .ref a1, .ref a2, .ref a3, .ref a4, .int i1, .ref a5, .int i2, .int i3, .int i4, .int i5, .int i6, .int i7, .int i8, .ref a6, .ref a7, .ref a8, .ref a9, .ref a10, .ref a11, .ref a12, .int i9, .ref a13, .int i10, .ref a14, .ref a15, .int i11, .ref a16, .ref a17, .ref a18, .ref a19, .int i12, .int i13, .int i14, .int i15, .int i16, .ref a20, .long j0, .ref a21, .ref a22, .ref a23, .ref a24])), (a21, .inl (cI, 4, .inl xF20)), (a22, .inl (cI, 4, .inl xF21)), (a23, .inl (cJ, 240, .inr (.inl (u9.2.2 0)))), (a24, .inl (cJ, 60, .inr (.inl (u9.2.2 1))))]) (va_A [(a0, .inr (12, [.int i0, .ref a1, .ref a2, .ref a3, .ref a4, .int i1, .ref a5, .int i2, .int i3, .int i4, .int i5, .int i6, .int i7, .int i8, .ref a6, .ref a7, .ref a8, .ref a9, .ref a10, .ref a11, .ref a12, .int i9, .ref a13, .int i10, .ref a14, .ref a15, .int i11, .ref a16, .ref a17, .ref a18, .ref a19, .int i12, .int i13, .int i14, .int i15, .int i16, .ref a20, .long j0, .ref a21, .ref a22, .ref a23, .ref a24])), (a21, .inl (cI, 4, .inl xF20)), (a22, .inl (cI, 4, .inl xF21)), (a23, .inl (cJ, 240, .inr (.inl xG22))), (a24, .inl (cJ, 60, .inr (.inl xG23)))] sz)) 0 0 (va_A [(a0, .inr (12, [.int i0, .ref a1, .ref a2, .ref a3, .ref a4, .int i1, .ref a5, .int i2, .int i3, .int i4, .int i5, .int i6, .int i7, .int i8, .ref a6, .ref a7, .ref a8, .ref a9, .ref a10, .ref a11, .ref a12, .int i9, .ref a13, .int i10, .ref a14, .ref a15, .int i11, .ref a16, .ref a17, .ref a18, .ref a19, .int i12, .int i13, .int i14, .int i15, .int i16, .ref a20, .long j0, .ref a21, .ref a22, .ref a23, .ref a24])), (a21, .inl (cI, 4, .inl xF20)), (a22, .inl (cI, 4, .inl xF21)), (a23, .inl (cJ, 240, .inr (.inl xG22))), (a24, .inl (cJ, 60, .inr (.inl xG23)))] sz) := by
  refine kEnter (by decide) (Nat.le_of_ble_eq_true rfl) ?_
  intro p e s m below meth c ls hx hb hr hml hown hlocks hin hwd hsz hP hK hD hl
  subst hsz
  generalize hAe : va_A [(a0, .inr (12, [.int i0, .ref a1, .ref a2, .ref a3, .ref a4, .int i1, .ref a5, .int i2, .int i3, .int i4, .int i5, .int i6, .int i7, .int i8, .ref a6, .ref a7, .ref a8, .ref a9, .ref a10, .ref a11, .ref a12, .int i9, .ref a13, .int i10, .ref a14, .ref a15, .int i11, .ref a16, .ref a17, .ref a18, .ref a19, .int i12, .int i13, .int i14, .int i15, .int i16, .ref a20, .long j0, .ref a21, .ref a22, .ref a23, .ref a24])), (a21, .inl (cI, 4, .inl xF20)), (a22, .inl (cI, 4, .inl xF21)), (a23, .inl (cJ, 240, .inr (.inl xG22))), (a24, .inl (cJ, 60, .inr (.inl xG23)))] s.heap.size = A at hD ⊢
  have hA : ∀ q : Nat, s.heap.size ≤ q → A q := fun q h => by rw [← hAe]; exact Or.inr h
  have hS : va_S A s.heap s.heap [] := va_S.rf
  have hl : lv_has ls 7 [(0, .ref a0), (1, .int p0), (2, .int p1), (3, .int p2), (4, .int p3), (5, .int p4)] := hl
  obtain ⟨Q, hQ⟩ : ∃ Q, Q = MQ below (va_Qi (fun (r : Int32) (u9 : (Nat → Int32) × (Nat → Nat → Int32) × (Nat → Nat → Int64)) => ((-8 : Int) ≤ r.toInt ∧ r.toInt ≤ 0) ∧ (PSB xF20 xF21 p0 p1 p2 p3 p4 r) ∧ True) (fun u9 t => va_P (dC, dI) vwCl [(a0, .inr (12, [.int i0, .ref a1, .ref a2, .ref a3, .ref a4, .int i1, .ref a5, .int i2, .int i3, .int i4, .int i5, .int i6, .int i7, .int i8, .ref a6, .ref a7, .ref a8, .ref a9, .ref a10, .ref a11, .ref a12, .int i9, .ref a13, .int i10, .ref a14, .ref a15, .int i11, .ref a16, .ref a17, .ref a18, .ref a19, .int i12, .int i13, .int i14, .int i15, .int i16, .ref a20, .long j0, .ref a21, .ref a22, .ref a23, .ref a24])), (a21, .inl (cI, 4, .inl xF20)), (a22, .inl (cI, 4, .inl xF21)), (a23, .inl (cJ, 240, .inr (.inl (u9.2.2 0)))), (a24, .inl (cJ, 60, .inr (.inl (u9.2.2 1))))] t.heap ∧ va_D A [(a0, .inr (12, [.int i0, .ref a1, .ref a2, .ref a3, .ref a4, .int i1, .ref a5, .int i2, .int i3, .int i4, .int i5, .int i6, .int i7, .int i8, .ref a6, .ref a7, .ref a8, .ref a9, .ref a10, .ref a11, .ref a12, .int i9, .ref a13, .int i10, .ref a14, .ref a15, .int i11, .ref a16, .ref a17, .ref a18, .ref a19, .int i12, .int i13, .int i14, .int i15, .int i16, .ref a20, .long j0, .ref a21, .ref a22, .ref a23, .ref a24])), (a21, .inl (cI, 4, .inl xF20)), (a22, .inl (cI, 4, .inl xF21)), (a23, .inl (cJ, 240, .inr (.inl (u9.2.2 0)))), (a24, .inl (cJ, 60, .inr (.inl (u9.2.2 1))))]) A) ([.ref a0, .int p0, .int p1, .int p2, .int p3, .int p4] : List Value).toArray s 0 0 A := ⟨_, rfl⟩
  rw [← hQ]
  have km8 : ((-8) : Int32).toInt = -8 := by decide
  have km7 : ((-7) : Int32).toInt = -7 := by decide
  have km6 : ((-6) : Int32).toInt = -6 := by decide
  have km2 : ((-2) : Int32).toInt = -2 := by decide
  have km1 : ((-1) : Int32).toInt = -1 := by decide
  have k0 : (0 : Int32).toInt = 0 := by decide
  have k1 : (1 : Int32).toInt = 1 := by decide
  have k3 : (3 : Int32).toInt = 3 := by decide
  have k60 : (60 : Int32).toInt = 60 := by decide
  refine lv_iload_n hx hb dX12_paste_0 rfl (lv_at hl 1 rfl) ?_
  have hPc := hP.sub (ws' := []) [] rfl
  have hDc := hD.sub (ws' := []) [] (by decide) rfl
  have hFc := va_free (wc := []) hD hS hA [] rfl
  refine va_calli (va_runS (As := [.int p0]) (rest := []) ⟨hx, hb, hml, hown, hwd⟩ (s_X12_isSlotR l dC dI cI cZ cB cJ cM cG p0 s.heap.size) (cwS 1 hwd (gS kr65_0 kr65_1 kr5_23 kr65_2) rfl rfl rfl (by decide +kernel) ⟨Nat.le_of_ble_eq_true rfl, Nat.le_of_ble_eq_true rfl⟩) (kPreS hPc hK hDc) rfl rfl hl.1 rfl (lv_room (Nat.le_of_ble_eq_true rfl)) dX12_paste_1 ⟨Nat.le_of_ble_eq_true rfl, Nat.le_of_ble_eq_true rfl⟩) hS (fun q _ h => hFc q h) hFc (fun r1 u2 t H1 locs ht9 hvm hw hB hz1 hk1 hS => ?_)
  obtain ⟨hw3, hw4, hw5, -⟩ := hw
  replace hw3 : (0 : Int) ≤ r1.toInt ∧ r1.toInt ≤ 1 := hw3
  obtain ⟨hP1, hD1⟩ := hB
  rw [ht9] at hP1
  obtain ⟨hP, hD⟩ := va_join (wr := [(a0, .inr (12, [.int i0, .ref a1, .ref a2, .ref a3, .ref a4, .int i1, .ref a5, .int i2, .int i3, .int i4, .int i5, .int i6, .int i7, .int i8, .ref a6, .ref a7, .ref a8, .ref a9, .ref a10, .ref a11, .ref a12, .int i9, .ref a13, .int i10, .ref a14, .ref a15, .int i11, .ref a16, .ref a17, .ref a18, .ref a19, .int i12, .int i13, .int i14, .int i15, .int i16, .ref a20, .long j0, .ref a21, .ref a22, .ref a23, .ref a24])), (a21, .inl (cI, 4, .inl xF20)), (a22, .inl (cI, 4, .inl xF21)), (a23, .inl (cJ, 240, .inr (.inl xG22))), (a24, .inl (cJ, 60, .inr (.inl xG23)))]) (w1 := []) hP hD [] [0, 1, 2, 3, 4] rfl rfl (by decide) (by decide) hk1 hFc hP1 hD1
  generalize H1 = H at hP hS ⊢
  replace hP : va_P (dC, dI) vwCl [(a0, .inr (12, [.int i0, .ref a1, .ref a2, .ref a3, .ref a4, .int i1, .ref a5, .int i2, .int i3, .int i4, .int i5, .int i6, .int i7, .int i8, .ref a6, .ref a7, .ref a8, .ref a9, .ref a10, .ref a11, .ref a12, .int i9, .ref a13, .int i10, .ref a14, .ref a15, .int i11, .ref a16, .ref a17, .ref a18, .ref a19, .int i12, .int i13, .int i14, .int i15, .int i16, .ref a20, .long j0, .ref a21, .ref a22, .ref a23, .ref a24])), (a21, .inl (cI, 4, .inl xF20)), (a22, .inl (cI, 4, .inl xF21)), (a23, .inl (cJ, 240, .inr (.inl xG22))), (a24, .inl (cJ, 60, .inr (.inl xG23)))] H := hP
  replace hD : va_D A [(a0, .inr (12, [.int i0, .ref a1, .ref a2, .ref a3, .ref a4, .int i1, .ref a5, .int i2, .int i3, .int i4, .int i5, .int i6, .int i7, .int i8, .ref a6, .ref a7, .ref a8, .ref a9, .ref a10, .ref a11, .ref a12, .int i9, .ref a13, .int i10, .ref a14, .ref a15, .int i11, .ref a16, .ref a17, .ref a18, .ref a19, .int i12, .int i13, .int i14, .int i15, .int i16, .ref a20, .long j0, .ref a21, .ref a22, .ref a23, .ref a24])), (a21, .inl (cI, 4, .inl xF20)), (a22, .inl (cI, 4, .inl xF21)), (a23, .inl (cJ, 240, .inr (.inl xG22))), (a24, .inl (cJ, 60, .inr (.inl xG23)))] := hD
  refine lv_if_eq (tgt := 14) hx hb dX12_paste_4 (by decide) (fun c6 => ?_) (fun c6 => ?_)
  · rw [ki_eq] at c6
    have hw5q := hw5 (by omega)
    clear hw5
    refine lv_bipush (v := (-2)) hx hb dX12_paste_14 (by decide) ?_
    have hP9 := hP.sub (ws' := [(a0, .inr (12, [.int i0, .ref a1, .ref a2, .ref a3, .ref a4, .int i1, .ref a5, .int i2, .int i3, .int i4, .int i5, .int i6, .int i7, .int i8, .ref a6, .ref a7, .ref a8, .ref a9, .ref a10, .ref a11, .ref a12, .int i9, .ref a13, .int i10, .ref a14, .ref a15, .int i11, .ref a16, .ref a17, .ref a18, .ref a19, .int i12, .int i13, .int i14, .int i15, .int i16, .ref a20, .long j0, .ref a21, .ref a22, .ref a23, .ref a24])), (a21, .inl (cI, 4, .inl xF20)), (a22, .inl (cI, 4, .inl xF21)), (a23, .inl (cJ, 240, .inr (.inl xG22))), (a24, .inl (cJ, 60, .inr (.inl xG23)))]) [0, 1, 2, 3, 4] rfl
    have hD9 := hD.sub (ws' := [(a0, .inr (12, [.int i0, .ref a1, .ref a2, .ref a3, .ref a4, .int i1, .ref a5, .int i2, .int i3, .int i4, .int i5, .int i6, .int i7, .int i8, .ref a6, .ref a7, .ref a8, .ref a9, .ref a10, .ref a11, .ref a12, .int i9, .ref a13, .int i10, .ref a14, .ref a15, .int i11, .ref a16, .ref a17, .ref a18, .ref a19, .int i12, .int i13, .int i14, .int i15, .int i16, .ref a20, .long j0, .ref a21, .ref a22, .ref a23, .ref a24])), (a21, .inl (cI, 4, .inl xF20)), (a22, .inl (cI, 4, .inl xF21)), (a23, .inl (cJ, 240, .inr (.inl xG22))), (a24, .inl (cJ, 60, .inr (.inl xG23)))]) [0, 1, 2, 3, 4] (by decide) rfl
    rw [hQ]
    exact W.iret (v := (-2)) hx hb hr (fun t ht hW => ⟨⟨(-2), (pickG 0 [], pickG (fun _ => 0) [], pickG (fun _ => 0) [xG22, xG23]), rfl, ⟨(show (-8 : Int) ≤ ((-2) : Int32).toInt ∧ ((-2) : Int32).toInt ≤ 0 from ⟨by omega, by omega⟩), (show PSB xF20 xF21 p0 p1 p2 p3 p4 ((-2) : Int32) from by unfold PSB; omega), trivial⟩, (by rw [ht]; exact hP9), hD9⟩, hS.F ht⟩) hS.2.2 dX12_paste_16
  · rw [ki_eq] at c6
    have hw4q := hw4 (by omega)
    clear hw4
    refine lv_iload_n hx hb dX12_paste_7 rfl (lv_at hl 3 rfl) ?_
    have hPc := hP.sub (ws' := []) [] rfl
    have hDc := hD.sub (ws' := []) [] (by decide) rfl
    have hFc := va_free (wc := []) hD hS hA [] rfl
    refine va_calli (va_runS (As := [.int p2]) (rest := []) ⟨hx, hb, hml, hown, hwd⟩ (s_X12_isSlotR l dC dI cI cZ cB cJ cM cG p2 H.size) (cwS 1 hwd (gS kr65_0 kr65_1 kr5_23 kr65_2) rfl rfl rfl (by decide +kernel) ⟨Nat.le_of_ble_eq_true rfl, Nat.le_of_ble_eq_true rfl⟩) (kPreS hPc hK hDc) rfl rfl hl.1 rfl (lv_room (Nat.le_of_ble_eq_true rfl)) dX12_paste_8 ⟨Nat.le_of_ble_eq_true rfl, Nat.le_of_ble_eq_true rfl⟩) hS (fun q _ h => hFc q h) hFc (fun r7 u8 t H1 locs ht9 hvm hw hB hz1 hk1 hS => ?_)
    obtain ⟨hw9, hw10, hw11, -⟩ := hw
    replace hw9 : (0 : Int) ≤ r7.toInt ∧ r7.toInt ≤ 1 := hw9
    obtain ⟨hP1, hD1⟩ := hB
    rw [ht9] at hP1
    obtain ⟨hP, hD⟩ := va_join (wr := [(a0, .inr (12, [.int i0, .ref a1, .ref a2, .ref a3, .ref a4, .int i1, .ref a5, .int i2, .int i3, .int i4, .int i5, .int i6, .int i7, .int i8, .ref a6, .ref a7, .ref a8, .ref a9, .ref a10, .ref a11, .ref a12, .int i9, .ref a13, .int i10, .ref a14, .ref a15, .int i11, .ref a16, .ref a17, .ref a18, .ref a19, .int i12, .int i13, .int i14, .int i15, .int i16, .ref a20, .long j0, .ref a21, .ref a22, .ref a23, .ref a24])), (a21, .inl (cI, 4, .inl xF20)), (a22, .inl (cI, 4, .inl xF21)), (a23, .inl (cJ, 240, .inr (.inl xG22))), (a24, .inl (cJ, 60, .inr (.inl xG23)))]) (w1 := []) hP hD [] [0, 1, 2, 3, 4] rfl rfl (by decide) (by decide) hk1 hFc hP1 hD1
    generalize H1 = H at hP hS ⊢
    replace hP : va_P (dC, dI) vwCl [(a0, .inr (12, [.int i0, .ref a1, .ref a2, .ref a3, .ref a4, .int i1, .ref a5, .int i2, .int i3, .int i4, .int i5, .int i6, .int i7, .int i8, .ref a6, .ref a7, .ref a8, .ref a9, .ref a10, .ref a11, .ref a12, .int i9, .ref a13, .int i10, .ref a14, .ref a15, .int i11, .ref a16, .ref a17, .ref a18, .ref a19, .int i12, .int i13, .int i14, .int i15, .int i16, .ref a20, .long j0, .ref a21, .ref a22, .ref a23, .ref a24])), (a21, .inl (cI, 4, .inl xF20)), (a22, .inl (cI, 4, .inl xF21)), (a23, .inl (cJ, 240, .inr (.inl xG22))), (a24, .inl (cJ, 60, .inr (.inl xG23)))] H := hP
    replace hD : va_D A [(a0, .inr (12, [.int i0, .ref a1, .ref a2, .ref a3, .ref a4, .int i1, .ref a5, .int i2, .int i3, .int i4, .int i5, .int i6, .int i7, .int i8, .ref a6, .ref a7, .ref a8, .ref a9, .ref a10, .ref a11, .ref a12, .int i9, .ref a13, .int i10, .ref a14, .ref a15, .int i11, .ref a16, .ref a17, .ref a18, .ref a19, .int i12, .int i13, .int i14, .int i15, .int i16, .ref a20, .long j0, .ref a21, .ref a22, .ref a23, .ref a24])), (a21, .inl (cI, 4, .inl xF20)), (a22, .inl (cI, 4, .inl xF21)), (a23, .inl (cJ, 240, .inr (.inl xG22))), (a24, .inl (cJ, 60, .inr (.inl xG23)))] := hD
    refine lv_if_ne (tgt := 17) hx hb dX12_paste_11 (by decide) (fun c12 => ?_) (fun c12 => ?_)
    · rw [ki_eq] at c12
      have hw10q := hw10 (by omega)
      clear hw10
      refine lv_aload_n hx hb dX12_paste_17 rfl (lv_at hl 0 rfl) ?_
      refine va_get (D := (dC, dI)) (ci := 12) (v := .ref a21) (C := RX12) (T := TX12) (N := 42) hx hb hwd inlX12 hown hK hP 0 rfl rfl 38 (by decide) (hwd _ kr50_15) (fun _ h9 => h9) rfl dX12_paste_18 ?_
      refine lv_iload_n hx hb dX12_paste_21 rfl (lv_at hl 1 rfl) ?_
      have h13 : vp_in p0 4 := (vp_of (by omega) (by omega))
      refine va_iald hx hb hK hP 1 0 rfl rfl h13 dX12_paste_22 ?_
      refine lv_topi (fun x14 ex14 => ?_)
      have ix14 : x14.toInt = (xF20 p0.toInt.toNat).toInt := by rw [ex14]; rfl
      have tx14 : (-1 : Int) ≤ x14.toInt ∧ x14.toInt ≤ 60 := by rw [ex14]; exact p_7 _ (vp_nat h13)
      have qx14 : x14.toInt = (xF20 p0.toNatClampNeg).toInt := by rw [ex14]
      refine lv_iconst (v := (-1)) hx hb dX12_paste_23 (by decide) ?_
      refine lv_icmp_eq (tgt := 37) hx hb dX12_paste_24 (by decide) (fun c15 => ?_) (fun c15 => ?_)
      · rw [ki_eq] at c15
        refine lv_bipush (v := (-6)) hx hb dX12_paste_37 (by decide) ?_
        have hP9 := hP.sub (ws' := [(a0, .inr (12, [.int i0, .ref a1, .ref a2, .ref a3, .ref a4, .int i1, .ref a5, .int i2, .int i3, .int i4, .int i5, .int i6, .int i7, .int i8, .ref a6, .ref a7, .ref a8, .ref a9, .ref a10, .ref a11, .ref a12, .int i9, .ref a13, .int i10, .ref a14, .ref a15, .int i11, .ref a16, .ref a17, .ref a18, .ref a19, .int i12, .int i13, .int i14, .int i15, .int i16, .ref a20, .long j0, .ref a21, .ref a22, .ref a23, .ref a24])), (a21, .inl (cI, 4, .inl xF20)), (a22, .inl (cI, 4, .inl xF21)), (a23, .inl (cJ, 240, .inr (.inl xG22))), (a24, .inl (cJ, 60, .inr (.inl xG23)))]) [0, 1, 2, 3, 4] rfl
        have hD9 := hD.sub (ws' := [(a0, .inr (12, [.int i0, .ref a1, .ref a2, .ref a3, .ref a4, .int i1, .ref a5, .int i2, .int i3, .int i4, .int i5, .int i6, .int i7, .int i8, .ref a6, .ref a7, .ref a8, .ref a9, .ref a10, .ref a11, .ref a12, .int i9, .ref a13, .int i10, .ref a14, .ref a15, .int i11, .ref a16, .ref a17, .ref a18, .ref a19, .int i12, .int i13, .int i14, .int i15, .int i16, .ref a20, .long j0, .ref a21, .ref a22, .ref a23, .ref a24])), (a21, .inl (cI, 4, .inl xF20)), (a22, .inl (cI, 4, .inl xF21)), (a23, .inl (cJ, 240, .inr (.inl xG22))), (a24, .inl (cJ, 60, .inr (.inl xG23)))]) [0, 1, 2, 3, 4] (by decide) rfl
        rw [hQ]
        exact W.iret (v := (-6)) hx hb hr (fun t ht hW => ⟨⟨(-6), (pickG 0 [], pickG (fun _ => 0) [], pickG (fun _ => 0) [xG22, xG23]), rfl, ⟨(show (-8 : Int) ≤ ((-6) : Int32).toInt ∧ ((-6) : Int32).toInt ≤ 0 from ⟨by omega, by omega⟩), (show PSB xF20 xF21 p0 p1 p2 p3 p4 ((-6) : Int32) from by unfold PSB; omega), trivial⟩, (by rw [ht]; exact hP9), hD9⟩, hS.F ht⟩) hS.2.2 dX12_paste_39
      · rw [ki_eq] at c15
        refine lv_aload_n hx hb dX12_paste_27 rfl (lv_at hl 0 rfl) ?_
        refine va_get (D := (dC, dI)) (ci := 12) (v := .ref a21) (C := RX12) (T := TX12) (N := 42) hx hb hwd inlX12 hown hK hP 0 rfl rfl 38 (by decide) (hwd _ kr50_15) (fun _ h9 => h9) rfl dX12_paste_28 ?_
        refine lv_iload_n hx hb dX12_paste_31 rfl (lv_at hl 3 rfl) ?_
        have h16 : vp_in p2 4 := (vp_of (by omega) (by omega))
        refine va_iald hx hb hK hP 1 0 rfl rfl h16 dX12_paste_32 ?_
        refine lv_topi (fun x17 ex17 => ?_)
        have ix17 : x17.toInt = (xF20 p2.toInt.toNat).toInt := by rw [ex17]; rfl
        have tx17 : (-1 : Int) ≤ x17.toInt ∧ x17.toInt ≤ 60 := by rw [ex17]; exact p_7 _ (vp_nat h16)
        have qx17 : x17.toInt = (xF20 p2.toNatClampNeg).toInt := by rw [ex17]
        refine lv_iconst (v := (-1)) hx hb dX12_paste_33 (by decide) ?_
        refine lv_icmp_ne (tgt := 40) hx hb dX12_paste_34 (by decide) (fun c18 => ?_) (fun c18 => ?_)
        · rw [ki_eq] at c18
          refine lv_aload_n hx hb dX12_paste_40 rfl (lv_at hl 0 rfl) ?_
          refine va_get (D := (dC, dI)) (ci := 12) (v := .ref a22) (C := RX12) (T := TX12) (N := 42) hx hb hwd inlX12 hown hK hP 0 rfl rfl 39 (by decide) (hwd _ kr50_16) (fun _ h9 => h9) rfl dX12_paste_41 ?_
          refine lv_iload_n hx hb dX12_paste_44 rfl (lv_at hl 1 rfl) ?_
          have h19 : vp_in p0 4 := (vp_of (by omega) (by omega))
          refine va_iald hx hb hK hP 2 0 rfl rfl h19 dX12_paste_45 ?_
          refine lv_topi (fun x20 ex20 => ?_)
          have tx20 : (0 : Int) ≤ x20.toInt ∧ x20.toInt ≤ 3 := by rw [ex20]; exact p_9 _ (vp_nat h19)
          have qx20 : x20.toInt = (xF21 p0.toNatClampNeg).toInt := by rw [ex20]
          refine lv_aload_n hx hb dX12_paste_46 rfl (lv_at hl 0 rfl) ?_
          refine va_get (D := (dC, dI)) (ci := 12) (v := .ref a22) (C := RX12) (T := TX12) (N := 42) hx hb hwd inlX12 hown hK hP 0 rfl rfl 39 (by decide) (hwd _ kr50_16) (fun _ h9 => h9) rfl dX12_paste_47 ?_
          refine lv_iload_n hx hb dX12_paste_50 rfl (lv_at hl 3 rfl) ?_
          have h21 : vp_in p2 4 := (vp_of (by omega) (by omega))
          refine va_iald hx hb hK hP 2 0 rfl rfl h21 dX12_paste_51 ?_
          refine lv_topi (fun x22 ex22 => ?_)
          have tx22 : (0 : Int) ≤ x22.toInt ∧ x22.toInt ≤ 3 := by rw [ex22]; exact p_9 _ (vp_nat h21)
          have qx22 : x22.toInt = (xF21 p2.toNatClampNeg).toInt := by rw [ex22]
          refine lv_icmp_eq (tgt := 58) hx hb dX12_paste_52 (by decide) (fun c23 => ?_) (fun c23 => ?_)
          · rw [ki_eq] at c23
            refine lv_iload_n hx hb dX12_paste_58 rfl (lv_at hl 2 rfl) ?_
            refine lv_if_lt (tgt := 107) hx hb dX12_paste_59 (by decide) (fun c24 => ?_) (fun c24 => ?_)
            · rw [ki_lt] at c24
              refine lv_bipush (v := (-7)) hx hb dX12_paste_107 (by decide) ?_
              have hP9 := hP.sub (ws' := [(a0, .inr (12, [.int i0, .ref a1, .ref a2, .ref a3, .ref a4, .int i1, .ref a5, .int i2, .int i3, .int i4, .int i5, .int i6, .int i7, .int i8, .ref a6, .ref a7, .ref a8, .ref a9, .ref a10, .ref a11, .ref a12, .int i9, .ref a13, .int i10, .ref a14, .ref a15, .int i11, .ref a16, .ref a17, .ref a18, .ref a19, .int i12, .int i13, .int i14, .int i15, .int i16, .ref a20, .long j0, .ref a21, .ref a22, .ref a23, .ref a24])), (a21, .inl (cI, 4, .inl xF20)), (a22, .inl (cI, 4, .inl xF21)), (a23, .inl (cJ, 240, .inr (.inl xG22))), (a24, .inl (cJ, 60, .inr (.inl xG23)))]) [0, 1, 2, 3, 4] rfl
              have hD9 := hD.sub (ws' := [(a0, .inr (12, [.int i0, .ref a1, .ref a2, .ref a3, .ref a4, .int i1, .ref a5, .int i2, .int i3, .int i4, .int i5, .int i6, .int i7, .int i8, .ref a6, .ref a7, .ref a8, .ref a9, .ref a10, .ref a11, .ref a12, .int i9, .ref a13, .int i10, .ref a14, .ref a15, .int i11, .ref a16, .ref a17, .ref a18, .ref a19, .int i12, .int i13, .int i14, .int i15, .int i16, .ref a20, .long j0, .ref a21, .ref a22, .ref a23, .ref a24])), (a21, .inl (cI, 4, .inl xF20)), (a22, .inl (cI, 4, .inl xF21)), (a23, .inl (cJ, 240, .inr (.inl xG22))), (a24, .inl (cJ, 60, .inr (.inl xG23)))]) [0, 1, 2, 3, 4] (by decide) rfl
              rw [hQ]
              exact W.iret (v := (-7)) hx hb hr (fun t ht hW => ⟨⟨(-7), (pickG 0 [], pickG (fun _ => 0) [], pickG (fun _ => 0) [xG22, xG23]), rfl, ⟨(show (-8 : Int) ≤ ((-7) : Int32).toInt ∧ ((-7) : Int32).toInt ≤ 0 from ⟨by omega, by omega⟩), (show PSB xF20 xF21 p0 p1 p2 p3 p4 ((-7) : Int32) from by unfold PSB; omega), trivial⟩, (by rw [ht]; exact hP9), hD9⟩, hS.F ht⟩) hS.2.2 dX12_paste_109
            · rw [ki_lt] at c24
              refine lv_iload hx hb dX12_paste_62 (lv_at hl 4 rfl) ?_
              refine lv_if_lt (tgt := 107) hx hb dX12_paste_64 (by decide) (fun c25 => ?_) (fun c25 => ?_)
              · rw [ki_lt] at c25
                refine lv_bipush (v := (-7)) hx hb dX12_paste_107 (by decide) ?_
                have hP9 := hP.sub (ws' := [(a0, .inr (12, [.int i0, .ref a1, .ref a2, .ref a3, .ref a4, .int i1, .ref a5, .int i2, .int i3, .int i4, .int i5, .int i6, .int i7, .int i8, .ref a6, .ref a7, .ref a8, .ref a9, .ref a10, .ref a11, .ref a12, .int i9, .ref a13, .int i10, .ref a14, .ref a15, .int i11, .ref a16, .ref a17, .ref a18, .ref a19, .int i12, .int i13, .int i14, .int i15, .int i16, .ref a20, .long j0, .ref a21, .ref a22, .ref a23, .ref a24])), (a21, .inl (cI, 4, .inl xF20)), (a22, .inl (cI, 4, .inl xF21)), (a23, .inl (cJ, 240, .inr (.inl xG22))), (a24, .inl (cJ, 60, .inr (.inl xG23)))]) [0, 1, 2, 3, 4] rfl
                have hD9 := hD.sub (ws' := [(a0, .inr (12, [.int i0, .ref a1, .ref a2, .ref a3, .ref a4, .int i1, .ref a5, .int i2, .int i3, .int i4, .int i5, .int i6, .int i7, .int i8, .ref a6, .ref a7, .ref a8, .ref a9, .ref a10, .ref a11, .ref a12, .int i9, .ref a13, .int i10, .ref a14, .ref a15, .int i11, .ref a16, .ref a17, .ref a18, .ref a19, .int i12, .int i13, .int i14, .int i15, .int i16, .ref a20, .long j0, .ref a21, .ref a22, .ref a23, .ref a24])), (a21, .inl (cI, 4, .inl xF20)), (a22, .inl (cI, 4, .inl xF21)), (a23, .inl (cJ, 240, .inr (.inl xG22))), (a24, .inl (cJ, 60, .inr (.inl xG23)))]) [0, 1, 2, 3, 4] (by decide) rfl
                rw [hQ]
                exact W.iret (v := (-7)) hx hb hr (fun t ht hW => ⟨⟨(-7), (pickG 0 [], pickG (fun _ => 0) [], pickG (fun _ => 0) [xG22, xG23]), rfl, ⟨(show (-8 : Int) ≤ ((-7) : Int32).toInt ∧ ((-7) : Int32).toInt ≤ 0 from ⟨by omega, by omega⟩), (show PSB xF20 xF21 p0 p1 p2 p3 p4 ((-7) : Int32) from by unfold PSB; omega), trivial⟩, (by rw [ht]; exact hP9), hD9⟩, hS.F ht⟩) hS.2.2 dX12_paste_109
              · rw [ki_lt] at c25
                refine lv_iload hx hb dX12_paste_67 (lv_at hl 5 rfl) ?_
                refine lv_if_lt (tgt := 107) hx hb dX12_paste_69 (by decide) (fun c26 => ?_) (fun c26 => ?_)
                · rw [ki_lt] at c26
                  refine lv_bipush (v := (-7)) hx hb dX12_paste_107 (by decide) ?_
                  have hP9 := hP.sub (ws' := [(a0, .inr (12, [.int i0, .ref a1, .ref a2, .ref a3, .ref a4, .int i1, .ref a5, .int i2, .int i3, .int i4, .int i5, .int i6, .int i7, .int i8, .ref a6, .ref a7, .ref a8, .ref a9, .ref a10, .ref a11, .ref a12, .int i9, .ref a13, .int i10, .ref a14, .ref a15, .int i11, .ref a16, .ref a17, .ref a18, .ref a19, .int i12, .int i13, .int i14, .int i15, .int i16, .ref a20, .long j0, .ref a21, .ref a22, .ref a23, .ref a24])), (a21, .inl (cI, 4, .inl xF20)), (a22, .inl (cI, 4, .inl xF21)), (a23, .inl (cJ, 240, .inr (.inl xG22))), (a24, .inl (cJ, 60, .inr (.inl xG23)))]) [0, 1, 2, 3, 4] rfl
                  have hD9 := hD.sub (ws' := [(a0, .inr (12, [.int i0, .ref a1, .ref a2, .ref a3, .ref a4, .int i1, .ref a5, .int i2, .int i3, .int i4, .int i5, .int i6, .int i7, .int i8, .ref a6, .ref a7, .ref a8, .ref a9, .ref a10, .ref a11, .ref a12, .int i9, .ref a13, .int i10, .ref a14, .ref a15, .int i11, .ref a16, .ref a17, .ref a18, .ref a19, .int i12, .int i13, .int i14, .int i15, .int i16, .ref a20, .long j0, .ref a21, .ref a22, .ref a23, .ref a24])), (a21, .inl (cI, 4, .inl xF20)), (a22, .inl (cI, 4, .inl xF21)), (a23, .inl (cJ, 240, .inr (.inl xG22))), (a24, .inl (cJ, 60, .inr (.inl xG23)))]) [0, 1, 2, 3, 4] (by decide) rfl
                  rw [hQ]
                  exact W.iret (v := (-7)) hx hb hr (fun t ht hW => ⟨⟨(-7), (pickG 0 [], pickG (fun _ => 0) [], pickG (fun _ => 0) [xG22, xG23]), rfl, ⟨(show (-8 : Int) ≤ ((-7) : Int32).toInt ∧ ((-7) : Int32).toInt ≤ 0 from ⟨by omega, by omega⟩), (show PSB xF20 xF21 p0 p1 p2 p3 p4 ((-7) : Int32) from by unfold PSB; omega), trivial⟩, (by rw [ht]; exact hP9), hD9⟩, hS.F ht⟩) hS.2.2 dX12_paste_109
                · rw [ki_lt] at c26
                  refine lv_iload_n hx hb dX12_paste_72 rfl (lv_at hl 2 rfl) ?_
                  refine lv_i2l hx hb dX12_paste_73 rfl ?_
                  refine lv_iload hx hb dX12_paste_74 (lv_at hl 5 rfl) ?_
                  refine lv_i2l hx hb dX12_paste_76 rfl ?_
                  refine lv_ladd hx hb dX12_paste_77 ?_
                  refine lv_topl (fun x27 ex27 => ?_)
                  refine lv_aload_n hx hb dX12_paste_78 rfl (lv_at hl 0 rfl) ?_
                  refine va_get (D := (dC, dI)) (ci := 12) (v := .ref a21) (C := RX12) (T := TX12) (N := 42) hx hb hwd inlX12 hown hK hP 0 rfl rfl 38 (by decide) (hwd _ kr50_15) (fun _ h9 => h9) rfl dX12_paste_79 ?_
                  refine lv_iload_n hx hb dX12_paste_82 rfl (lv_at hl 1 rfl) ?_
                  have h28 : vp_in p0 4 := (vp_of (by omega) (by omega))
                  refine va_iald hx hb hK hP 1 0 rfl rfl h28 dX12_paste_83 ?_
                  refine lv_topi (nm_r (e' := x14) ex14.symm ?_)
                  refine lv_i2l hx hb dX12_paste_84 rfl ?_
                  refine W.lcmp hx hb dX12_paste_85 ?_
                  refine lv_if_gt (tgt := 107) hx hb dX12_paste_86 (by decide) (fun c29 => ?_) (fun c29 => ?_)
                  · rw [hl_gt ex27] at c29
                    refine lv_bipush (v := (-7)) hx hb dX12_paste_107 (by decide) ?_
                    have hP9 := hP.sub (ws' := [(a0, .inr (12, [.int i0, .ref a1, .ref a2, .ref a3, .ref a4, .int i1, .ref a5, .int i2, .int i3, .int i4, .int i5, .int i6, .int i7, .int i8, .ref a6, .ref a7, .ref a8, .ref a9, .ref a10, .ref a11, .ref a12, .int i9, .ref a13, .int i10, .ref a14, .ref a15, .int i11, .ref a16, .ref a17, .ref a18, .ref a19, .int i12, .int i13, .int i14, .int i15, .int i16, .ref a20, .long j0, .ref a21, .ref a22, .ref a23, .ref a24])), (a21, .inl (cI, 4, .inl xF20)), (a22, .inl (cI, 4, .inl xF21)), (a23, .inl (cJ, 240, .inr (.inl xG22))), (a24, .inl (cJ, 60, .inr (.inl xG23)))]) [0, 1, 2, 3, 4] rfl
                    have hD9 := hD.sub (ws' := [(a0, .inr (12, [.int i0, .ref a1, .ref a2, .ref a3, .ref a4, .int i1, .ref a5, .int i2, .int i3, .int i4, .int i5, .int i6, .int i7, .int i8, .ref a6, .ref a7, .ref a8, .ref a9, .ref a10, .ref a11, .ref a12, .int i9, .ref a13, .int i10, .ref a14, .ref a15, .int i11, .ref a16, .ref a17, .ref a18, .ref a19, .int i12, .int i13, .int i14, .int i15, .int i16, .ref a20, .long j0, .ref a21, .ref a22, .ref a23, .ref a24])), (a21, .inl (cI, 4, .inl xF20)), (a22, .inl (cI, 4, .inl xF21)), (a23, .inl (cJ, 240, .inr (.inl xG22))), (a24, .inl (cJ, 60, .inr (.inl xG23)))]) [0, 1, 2, 3, 4] (by decide) rfl
                    rw [hQ]
                    exact W.iret (v := (-7)) hx hb hr (fun t ht hW => ⟨⟨(-7), (pickG 0 [], pickG (fun _ => 0) [], pickG (fun _ => 0) [xG22, xG23]), rfl, ⟨(show (-8 : Int) ≤ ((-7) : Int32).toInt ∧ ((-7) : Int32).toInt ≤ 0 from ⟨by omega, by omega⟩), (show PSB xF20 xF21 p0 p1 p2 p3 p4 ((-7) : Int32) from by unfold PSB; omega), trivial⟩, (by rw [ht]; exact hP9), hD9⟩, hS.F ht⟩) hS.2.2 dX12_paste_109
                  · rw [hl_gt ex27] at c29
                    refine lv_iload hx hb dX12_paste_89 (lv_at hl 4 rfl) ?_
                    refine lv_i2l hx hb dX12_paste_91 rfl ?_
                    refine lv_iload hx hb dX12_paste_92 (lv_at hl 5 rfl) ?_
                    refine lv_i2l hx hb dX12_paste_94 rfl ?_
                    refine lv_ladd hx hb dX12_paste_95 ?_
                    refine lv_topl (fun x30 ex30 => ?_)
                    refine lv_aload_n hx hb dX12_paste_96 rfl (lv_at hl 0 rfl) ?_
                    refine va_get (D := (dC, dI)) (ci := 12) (v := .ref a21) (C := RX12) (T := TX12) (N := 42) hx hb hwd inlX12 hown hK hP 0 rfl rfl 38 (by decide) (hwd _ kr50_15) (fun _ h9 => h9) rfl dX12_paste_97 ?_
                    refine lv_iload_n hx hb dX12_paste_100 rfl (lv_at hl 3 rfl) ?_
                    have h31 : vp_in p2 4 := (vp_of (by omega) (by omega))
                    refine va_iald hx hb hK hP 1 0 rfl rfl h31 dX12_paste_101 ?_
                    refine lv_topi (nm_r (e' := x17) ex17.symm ?_)
                    refine lv_i2l hx hb dX12_paste_102 rfl ?_
                    refine W.lcmp hx hb dX12_paste_103 ?_
                    refine lv_if_le (tgt := 110) hx hb dX12_paste_104 (by decide) (fun c32 => ?_) (fun c32 => ?_)
                    · rw [← Int32.not_lt, hl_gt ex30] at c32
                      refine lv_iconst (v := 0) hx hb dX12_paste_110 (by decide) ?_
                      refine lv_istore (lv' := [(6, .int 0), (0, .ref a0), (1, .int p0), (2, .int p1), (3, .int p2), (4, .int p3), (5, .int p4)]) hx hb dX12_paste_111 hl (by decide) rfl (fun ls hl => ?_)
                      have lp1 : ∀ (d : Nat), ∀ (H : Heap) (locs : List Loc) (ls : Array Slot) (w6_1 : Int32) (g1_1 : Nat → Int64), ((0 : Int) ≤ w6_1.toInt ∧ w6_1.toInt ≤ 60) → (60 - w6_1.toInt).toNat < d → va_P (dC, dI) vwCl [(a0, .inr (12, [.int i0, .ref a1, .ref a2, .ref a3, .ref a4, .int i1, .ref a5, .int i2, .int i3, .int i4, .int i5, .int i6, .int i7, .int i8, .ref a6, .ref a7, .ref a8, .ref a9, .ref a10, .ref a11, .ref a12, .int i9, .ref a13, .int i10, .ref a14, .ref a15, .int i11, .ref a16, .ref a17, .ref a18, .ref a19, .int i12, .int i13, .int i14, .int i15, .int i16, .ref a20, .long j0, .ref a21, .ref a22, .ref a23, .ref a24])), (a21, .inl (cI, 4, .inl xF20)), (a22, .inl (cI, 4, .inl xF21)), (a23, .inl (cJ, 240, .inr (.inl xG22))), (a24, .inl (cJ, 60, .inr (.inl g1_1)))] H → va_D A [(a0, .inr (12, [.int i0, .ref a1, .ref a2, .ref a3, .ref a4, .int i1, .ref a5, .int i2, .int i3, .int i4, .int i5, .int i6, .int i7, .int i8, .ref a6, .ref a7, .ref a8, .ref a9, .ref a10, .ref a11, .ref a12, .int i9, .ref a13, .int i10, .ref a14, .ref a15, .int i11, .ref a16, .ref a17, .ref a18, .ref a19, .int i12, .int i13, .int i14, .int i15, .int i16, .ref a20, .long j0, .ref a21, .ref a22, .ref a23, .ref a24])), (a21, .inl (cI, 4, .inl xF20)), (a22, .inl (cI, 4, .inl xF21)), (a23, .inl (cJ, 240, .inr (.inl xG22))), (a24, .inl (cJ, 60, .inr (.inl g1_1)))] → va_S A s.heap H locs → lv_has ls 7 [(0, .ref a0), (1, .int p0), (2, .int p1), (3, .int p2), (4, .int p3), (5, .int p4), (6, .int w6_1)] → W p l e ({ frames := 2, cells := 0, slots := 0, locals := 45 } : Room) s m ([.ref a0, .int p0, .int p1, .int p2, .int p3, .int p4] : List Value).toArray below meth c H locs 0 0 Q (F0 m 113 ls []) := by
                        intro d
                        induction d with
                        | zero =>
                          intro H locs ls w6_1 g1_1 hr_w6_1 hm hP hD hS hl
                          omega
                        | succ d ih1 =>
                          intro H locs ls w6_1 g1_1 hr_w6_1 hm hP hD hS hl
                          refine lv_iload hx hb dX12_paste_113 (lv_at hl 6 rfl) ?_
                          refine lv_iload hx hb dX12_paste_115 (lv_at hl 5 rfl) ?_
                          refine lv_icmp_ge (tgt := 147) hx hb dX12_paste_117 (by decide) (fun c80 => ?_) (fun c80 => ?_)
                          · rw [ki_le] at c80
                            refine lv_iconst (v := 0) hx hb dX12_paste_147 (by decide) ?_
                            refine lv_istore (lv' := [(6, .int 0), (0, .ref a0), (1, .int p0), (2, .int p1), (3, .int p2), (4, .int p3), (5, .int p4)]) hx hb dX12_paste_148 hl (by decide) rfl (fun ls hl => ?_)
                            have lp2 : ∀ (d : Nat), ∀ (H : Heap) (locs : List Loc) (ls : Array Slot) (w6_2 : Int32) (g1_2 : Nat → Int64), ((0 : Int) ≤ w6_2.toInt ∧ w6_2.toInt ≤ 60) → (60 - w6_2.toInt).toNat < d → va_P (dC, dI) vwCl [(a0, .inr (12, [.int i0, .ref a1, .ref a2, .ref a3, .ref a4, .int i1, .ref a5, .int i2, .int i3, .int i4, .int i5, .int i6, .int i7, .int i8, .ref a6, .ref a7, .ref a8, .ref a9, .ref a10, .ref a11, .ref a12, .int i9, .ref a13, .int i10, .ref a14, .ref a15, .int i11, .ref a16, .ref a17, .ref a18, .ref a19, .int i12, .int i13, .int i14, .int i15, .int i16, .ref a20, .long j0, .ref a21, .ref a22, .ref a23, .ref a24])), (a21, .inl (cI, 4, .inl xF20)), (a22, .inl (cI, 4, .inl xF21)), (a23, .inl (cJ, 240, .inr (.inl g1_2))), (a24, .inl (cJ, 60, .inr (.inl g1_1)))] H → va_D A [(a0, .inr (12, [.int i0, .ref a1, .ref a2, .ref a3, .ref a4, .int i1, .ref a5, .int i2, .int i3, .int i4, .int i5, .int i6, .int i7, .int i8, .ref a6, .ref a7, .ref a8, .ref a9, .ref a10, .ref a11, .ref a12, .int i9, .ref a13, .int i10, .ref a14, .ref a15, .int i11, .ref a16, .ref a17, .ref a18, .ref a19, .int i12, .int i13, .int i14, .int i15, .int i16, .ref a20, .long j0, .ref a21, .ref a22, .ref a23, .ref a24])), (a21, .inl (cI, 4, .inl xF20)), (a22, .inl (cI, 4, .inl xF21)), (a23, .inl (cJ, 240, .inr (.inl g1_2))), (a24, .inl (cJ, 60, .inr (.inl g1_1)))] → va_S A s.heap H locs → lv_has ls 7 [(0, .ref a0), (1, .int p0), (2, .int p1), (3, .int p2), (4, .int p3), (5, .int p4), (6, .int w6_2)] → W p l e ({ frames := 2, cells := 0, slots := 0, locals := 45 } : Room) s m ([.ref a0, .int p0, .int p1, .int p2, .int p3, .int p4] : List Value).toArray below meth c H locs 0 0 Q (F0 m 150 ls []) := by
                              intro d
                              induction d with
                              | zero =>
                                intro H locs ls w6_2 g1_2 hr_w6_2 hm hP hD hS hl
                                omega
                              | succ d ih2 =>
                                intro H locs ls w6_2 g1_2 hr_w6_2 hm hP hD hS hl
                                refine lv_iload hx hb dX12_paste_150 (lv_at hl 6 rfl) ?_
                                refine lv_iload hx hb dX12_paste_152 (lv_at hl 5 rfl) ?_
                                refine lv_icmp_ge (tgt := 185) hx hb dX12_paste_154 (by decide) (fun c128 => ?_) (fun c128 => ?_)
                                · rw [ki_le] at c128
                                  refine lv_iconst (v := 0) hx hb dX12_paste_185 (by decide) ?_
                                  have hP9 := hP.sub (ws' := [(a0, .inr (12, [.int i0, .ref a1, .ref a2, .ref a3, .ref a4, .int i1, .ref a5, .int i2, .int i3, .int i4, .int i5, .int i6, .int i7, .int i8, .ref a6, .ref a7, .ref a8, .ref a9, .ref a10, .ref a11, .ref a12, .int i9, .ref a13, .int i10, .ref a14, .ref a15, .int i11, .ref a16, .ref a17, .ref a18, .ref a19, .int i12, .int i13, .int i14, .int i15, .int i16, .ref a20, .long j0, .ref a21, .ref a22, .ref a23, .ref a24])), (a21, .inl (cI, 4, .inl xF20)), (a22, .inl (cI, 4, .inl xF21)), (a23, .inl (cJ, 240, .inr (.inl g1_2))), (a24, .inl (cJ, 60, .inr (.inl g1_1)))]) [0, 1, 2, 3, 4] rfl
                                  have hD9 := hD.sub (ws' := [(a0, .inr (12, [.int i0, .ref a1, .ref a2, .ref a3, .ref a4, .int i1, .ref a5, .int i2, .int i3, .int i4, .int i5, .int i6, .int i7, .int i8, .ref a6, .ref a7, .ref a8, .ref a9, .ref a10, .ref a11, .ref a12, .int i9, .ref a13, .int i10, .ref a14, .ref a15, .int i11, .ref a16, .ref a17, .ref a18, .ref a19, .int i12, .int i13, .int i14, .int i15, .int i16, .ref a20, .long j0, .ref a21, .ref a22, .ref a23, .ref a24])), (a21, .inl (cI, 4, .inl xF20)), (a22, .inl (cI, 4, .inl xF21)), (a23, .inl (cJ, 240, .inr (.inl g1_2))), (a24, .inl (cJ, 60, .inr (.inl g1_1)))]) [0, 1, 2, 3, 4] (by decide) rfl
                                  rw [hQ]
                                  exact W.iret (v := 0) hx hb hr (fun t ht hW => ⟨⟨0, (pickG 0 [], pickG (fun _ => 0) [], pickG (fun _ => 0) [g1_2, g1_1]), rfl, ⟨(show (-8 : Int) ≤ (0 : Int32).toInt ∧ (0 : Int32).toInt ≤ 0 from ⟨by omega, by omega⟩), (show PSB xF20 xF21 p0 p1 p2 p3 p4 (0 : Int32) from by unfold PSB; omega), trivial⟩, (by rw [ht]; exact hP9), hD9⟩, hS.F ht⟩) hS.2.2 dX12_paste_186
                                · rw [ki_le] at c128
                                  refine lv_aload_n hx hb dX12_paste_157 rfl (lv_at hl 0 rfl) ?_
                                  refine va_get (D := (dC, dI)) (ci := 12) (v := .ref a23) (C := RX12) (T := TX12) (N := 42) hx hb hwd inlX12 hown hK hP 0 rfl rfl 40 (by decide) (hwd _ kr50_17) (fun _ h9 => h9) rfl dX12_paste_158 ?_
                                  refine lv_bipush (v := 60) hx hb dX12_paste_161 (by decide) ?_
                                  refine lv_iload_n hx hb dX12_paste_163 rfl (lv_at hl 3 rfl) ?_
                                  refine lv_imul hx hb dX12_paste_164 ?_
                                  refine lv_topi (fun x129 ex129 => ?_)
                                  have tx129 := ia_mull (a := (60 : Int32)) (b := p2) 60 (by decide) (by omega) (by omega)
                                  rw [← ex129] at tx129
                                  refine lv_iload hx hb dX12_paste_165 (lv_at hl 4 rfl) ?_
                                  refine lv_iadd hx hb dX12_paste_167 ?_
                                  refine lv_topi (fun x130 ex130 => ?_)
                                  have tx130 := ia_add (a := x129) (b := p3) (by omega) (by omega)
                                  rw [← ex130] at tx130
                                  refine lv_iload hx hb dX12_paste_168 (lv_at hl 6 rfl) ?_
                                  refine lv_iadd hx hb dX12_paste_170 ?_
                                  refine lv_topi (fun x131 ex131 => ?_)
                                  have tx131 := ia_add (a := x130) (b := w6_2) (by omega) (by omega)
                                  rw [← ex131] at tx131
                                  refine lv_aload_n hx hb dX12_paste_171 rfl (lv_at hl 0 rfl) ?_
                                  refine va_get (D := (dC, dI)) (ci := 12) (v := .ref a24) (C := RX12) (T := TX12) (N := 42) hx hb hwd inlX12 hown hK hP 0 rfl rfl 41 (by decide) (hwd _ kr50_18) (fun _ h9 => h9) rfl dX12_paste_172 ?_
                                  refine lv_iload hx hb dX12_paste_175 (lv_at hl 6 rfl) ?_
                                  have h132 : vp_in w6_2 60 := (vp_of (by omega) (by omega))
                                  refine va_lald hx hb hK hP 4 3 rfl rfl h132 dX12_paste_177 ?_
                                  refine lv_topl (fun x133 ex133 => ?_)
                                  refine va_last hx hb hK hP hD hS 3 3 rfl rfl (vp_of (by omega) (by omega)) dX12_paste_178 (fun H locs hP hD hS => ?_)
                                  obtain ⟨f134, ef134⟩ : ∃ f, f = vp_updL g1_2 x131.toNatClampNeg x133 := ⟨_, rfl⟩
                                  replace hP : va_P (dC, dI) vwCl [(a0, .inr (12, [.int i0, .ref a1, .ref a2, .ref a3, .ref a4, .int i1, .ref a5, .int i2, .int i3, .int i4, .int i5, .int i6, .int i7, .int i8, .ref a6, .ref a7, .ref a8, .ref a9, .ref a10, .ref a11, .ref a12, .int i9, .ref a13, .int i10, .ref a14, .ref a15, .int i11, .ref a16, .ref a17, .ref a18, .ref a19, .int i12, .int i13, .int i14, .int i15, .int i16, .ref a20, .long j0, .ref a21, .ref a22, .ref a23, .ref a24])), (a21, .inl (cI, 4, .inl xF20)), (a22, .inl (cI, 4, .inl xF21)), (a23, .inl (cJ, 240, .inr (.inl f134))), (a24, .inl (cJ, 60, .inr (.inl g1_1)))] H := by rw [ef134]; exact hP
                                  replace hD : va_D A [(a0, .inr (12, [.int i0, .ref a1, .ref a2, .ref a3, .ref a4, .int i1, .ref a5, .int i2, .int i3, .int i4, .int i5, .int i6, .int i7, .int i8, .ref a6, .ref a7, .ref a8, .ref a9, .ref a10, .ref a11, .ref a12, .int i9, .ref a13, .int i10, .ref a14, .ref a15, .int i11, .ref a16, .ref a17, .ref a18, .ref a19, .int i12, .int i13, .int i14, .int i15, .int i16, .ref a20, .long j0, .ref a21, .ref a22, .ref a23, .ref a24])), (a21, .inl (cI, 4, .inl xF20)), (a22, .inl (cI, 4, .inl xF21)), (a23, .inl (cJ, 240, .inr (.inl f134))), (a24, .inl (cJ, 60, .inr (.inl g1_1)))] := by rw [ef134]; exact hD
                                  obtain ⟨x135, ex135⟩ : ∃ y : Int32, y = w6_2 + 1 := ⟨_, rfl⟩
                                  refine lv_iinc (v := x135) (lv' := [(6, .int x135), (0, .ref a0), (1, .int p0), (2, .int p1), (3, .int p2), (4, .int p3), (5, .int p4)]) hx hb dX12_paste_179 hl (k := 6) rfl (by rw [ex135]; rfl) (by decide) rfl (fun ls hl => ?_)
                                  have tx135 := ia_add (a := w6_2) (b := (1 : Int32)) (by omega) (by omega)
                                  rw [← ex135] at tx135
                                  refine lv_goto (tgt := 150) hx hb dX12_paste_182 (by decide) ?_
                                  exact ih2 _ _ ls x135 f134 (show (0 : Int) ≤ x135.toInt ∧ x135.toInt ≤ 60 from ⟨by omega, by omega⟩) (by omega) (hP.sub (ws' := [(a0, .inr (12, [.int i0, .ref a1, .ref a2, .ref a3, .ref a4, .int i1, .ref a5, .int i2, .int i3, .int i4, .int i5, .int i6, .int i7, .int i8, .ref a6, .ref a7, .ref a8, .ref a9, .ref a10, .ref a11, .ref a12, .int i9, .ref a13, .int i10, .ref a14, .ref a15, .int i11, .ref a16, .ref a17, .ref a18, .ref a19, .int i12, .int i13, .int i14, .int i15, .int i16, .ref a20, .long j0, .ref a21, .ref a22, .ref a23, .ref a24])), (a21, .inl (cI, 4, .inl xF20)), (a22, .inl (cI, 4, .inl xF21)), (a23, .inl (cJ, 240, .inr (.inl f134))), (a24, .inl (cJ, 60, .inr (.inl g1_1)))]) [0, 1, 2, 3, 4] rfl) (hD.sub (ws' := [(a0, .inr (12, [.int i0, .ref a1, .ref a2, .ref a3, .ref a4, .int i1, .ref a5, .int i2, .int i3, .int i4, .int i5, .int i6, .int i7, .int i8, .ref a6, .ref a7, .ref a8, .ref a9, .ref a10, .ref a11, .ref a12, .int i9, .ref a13, .int i10, .ref a14, .ref a15, .int i11, .ref a16, .ref a17, .ref a18, .ref a19, .int i12, .int i13, .int i14, .int i15, .int i16, .ref a20, .long j0, .ref a21, .ref a22, .ref a23, .ref a24])), (a21, .inl (cI, 4, .inl xF20)), (a22, .inl (cI, 4, .inl xF21)), (a23, .inl (cJ, 240, .inr (.inl f134))), (a24, .inl (cJ, 60, .inr (.inl g1_1)))]) [0, 1, 2, 3, 4] (by decide) rfl) hS (lv_sub hl [1, 2, 3, 4, 5, 6, 0] rfl)
                            exact lp2 _ _ _ ls (0) xG22 (show (0 : Int) ≤ (0 : Int32).toInt ∧ (0 : Int32).toInt ≤ 60 from ⟨by omega, by omega⟩) (Nat.lt_succ_self _) (hP.sub (ws' := [(a0, .inr (12, [.int i0, .ref a1, .ref a2, .ref a3, .ref a4, .int i1, .ref a5, .int i2, .int i3, .int i4, .int i5, .int i6, .int i7, .int i8, .ref a6, .ref a7, .ref a8, .ref a9, .ref a10, .ref a11, .ref a12, .int i9, .ref a13, .int i10, .ref a14, .ref a15, .int i11, .ref a16, .ref a17, .ref a18, .ref a19, .int i12, .int i13, .int i14, .int i15, .int i16, .ref a20, .long j0, .ref a21, .ref a22, .ref a23, .ref a24])), (a21, .inl (cI, 4, .inl xF20)), (a22, .inl (cI, 4, .inl xF21)), (a23, .inl (cJ, 240, .inr (.inl xG22))), (a24, .inl (cJ, 60, .inr (.inl g1_1)))]) [0, 1, 2, 3, 4] rfl) (hD.sub (ws' := [(a0, .inr (12, [.int i0, .ref a1, .ref a2, .ref a3, .ref a4, .int i1, .ref a5, .int i2, .int i3, .int i4, .int i5, .int i6, .int i7, .int i8, .ref a6, .ref a7, .ref a8, .ref a9, .ref a10, .ref a11, .ref a12, .int i9, .ref a13, .int i10, .ref a14, .ref a15, .int i11, .ref a16, .ref a17, .ref a18, .ref a19, .int i12, .int i13, .int i14, .int i15, .int i16, .ref a20, .long j0, .ref a21, .ref a22, .ref a23, .ref a24])), (a21, .inl (cI, 4, .inl xF20)), (a22, .inl (cI, 4, .inl xF21)), (a23, .inl (cJ, 240, .inr (.inl xG22))), (a24, .inl (cJ, 60, .inr (.inl g1_1)))]) [0, 1, 2, 3, 4] (by decide) rfl) hS (lv_sub hl [1, 2, 3, 4, 5, 6, 0] rfl)
                          · rw [ki_le] at c80
                            refine lv_aload_n hx hb dX12_paste_120 rfl (lv_at hl 0 rfl) ?_
                            refine va_get (D := (dC, dI)) (ci := 12) (v := .ref a24) (C := RX12) (T := TX12) (N := 42) hx hb hwd inlX12 hown hK hP 0 rfl rfl 41 (by decide) (hwd _ kr50_18) (fun _ h9 => h9) rfl dX12_paste_121 ?_
                            refine lv_iload hx hb dX12_paste_124 (lv_at hl 6 rfl) ?_
                            refine lv_aload_n hx hb dX12_paste_126 rfl (lv_at hl 0 rfl) ?_
                            refine va_get (D := (dC, dI)) (ci := 12) (v := .ref a23) (C := RX12) (T := TX12) (N := 42) hx hb hwd inlX12 hown hK hP 0 rfl rfl 40 (by decide) (hwd _ kr50_17) (fun _ h9 => h9) rfl dX12_paste_127 ?_
                            refine lv_bipush (v := 60) hx hb dX12_paste_130 (by decide) ?_
                            refine lv_iload_n hx hb dX12_paste_132 rfl (lv_at hl 1 rfl) ?_
                            refine lv_imul hx hb dX12_paste_133 ?_
                            refine lv_topi (fun x136 ex136 => ?_)
                            have tx136 := ia_mull (a := (60 : Int32)) (b := p0) 60 (by decide) (by omega) (by omega)
                            rw [← ex136] at tx136
                            refine lv_iload_n hx hb dX12_paste_134 rfl (lv_at hl 2 rfl) ?_
                            refine lv_iadd hx hb dX12_paste_135 ?_
                            refine lv_topi (fun x137 ex137 => ?_)
                            have tx137 := ia_add (a := x136) (b := p1) (by omega) (by omega)
                            rw [← ex137] at tx137
                            refine lv_iload hx hb dX12_paste_136 (lv_at hl 6 rfl) ?_
                            refine lv_iadd hx hb dX12_paste_138 ?_
                            refine lv_topi (fun x138 ex138 => ?_)
                            have tx138 := ia_add (a := x137) (b := w6_1) (by omega) (by omega)
                            rw [← ex138] at tx138
                            have h139 : vp_in x138 240 := (vp_of (by omega) (by omega))
                            refine va_lald hx hb hK hP 3 3 rfl rfl h139 dX12_paste_139 ?_
                            refine lv_topl (fun x140 ex140 => ?_)
                            refine va_last hx hb hK hP hD hS 4 3 rfl rfl (vp_of (by omega) (by omega)) dX12_paste_140 (fun H locs hP hD hS => ?_)
                            obtain ⟨f141, ef141⟩ : ∃ f, f = vp_updL g1_1 w6_1.toNatClampNeg x140 := ⟨_, rfl⟩
                            replace hP : va_P (dC, dI) vwCl [(a0, .inr (12, [.int i0, .ref a1, .ref a2, .ref a3, .ref a4, .int i1, .ref a5, .int i2, .int i3, .int i4, .int i5, .int i6, .int i7, .int i8, .ref a6, .ref a7, .ref a8, .ref a9, .ref a10, .ref a11, .ref a12, .int i9, .ref a13, .int i10, .ref a14, .ref a15, .int i11, .ref a16, .ref a17, .ref a18, .ref a19, .int i12, .int i13, .int i14, .int i15, .int i16, .ref a20, .long j0, .ref a21, .ref a22, .ref a23, .ref a24])), (a21, .inl (cI, 4, .inl xF20)), (a22, .inl (cI, 4, .inl xF21)), (a23, .inl (cJ, 240, .inr (.inl xG22))), (a24, .inl (cJ, 60, .inr (.inl f141)))] H := by rw [ef141]; exact hP
                            replace hD : va_D A [(a0, .inr (12, [.int i0, .ref a1, .ref a2, .ref a3, .ref a4, .int i1, .ref a5, .int i2, .int i3, .int i4, .int i5, .int i6, .int i7, .int i8, .ref a6, .ref a7, .ref a8, .ref a9, .ref a10, .ref a11, .ref a12, .int i9, .ref a13, .int i10, .ref a14, .ref a15, .int i11, .ref a16, .ref a17, .ref a18, .ref a19, .int i12, .int i13, .int i14, .int i15, .int i16, .ref a20, .long j0, .ref a21, .ref a22, .ref a23, .ref a24])), (a21, .inl (cI, 4, .inl xF20)), (a22, .inl (cI, 4, .inl xF21)), (a23, .inl (cJ, 240, .inr (.inl xG22))), (a24, .inl (cJ, 60, .inr (.inl f141)))] := by rw [ef141]; exact hD
                            obtain ⟨x142, ex142⟩ : ∃ y : Int32, y = w6_1 + 1 := ⟨_, rfl⟩
                            refine lv_iinc (v := x142) (lv' := [(6, .int x142), (0, .ref a0), (1, .int p0), (2, .int p1), (3, .int p2), (4, .int p3), (5, .int p4)]) hx hb dX12_paste_141 hl (k := 6) rfl (by rw [ex142]; rfl) (by decide) rfl (fun ls hl => ?_)
                            have tx142 := ia_add (a := w6_1) (b := (1 : Int32)) (by omega) (by omega)
                            rw [← ex142] at tx142
                            refine lv_goto (tgt := 113) hx hb dX12_paste_144 (by decide) ?_
                            exact ih1 _ _ ls x142 f141 (show (0 : Int) ≤ x142.toInt ∧ x142.toInt ≤ 60 from ⟨by omega, by omega⟩) (by omega) (hP.sub (ws' := [(a0, .inr (12, [.int i0, .ref a1, .ref a2, .ref a3, .ref a4, .int i1, .ref a5, .int i2, .int i3, .int i4, .int i5, .int i6, .int i7, .int i8, .ref a6, .ref a7, .ref a8, .ref a9, .ref a10, .ref a11, .ref a12, .int i9, .ref a13, .int i10, .ref a14, .ref a15, .int i11, .ref a16, .ref a17, .ref a18, .ref a19, .int i12, .int i13, .int i14, .int i15, .int i16, .ref a20, .long j0, .ref a21, .ref a22, .ref a23, .ref a24])), (a21, .inl (cI, 4, .inl xF20)), (a22, .inl (cI, 4, .inl xF21)), (a23, .inl (cJ, 240, .inr (.inl xG22))), (a24, .inl (cJ, 60, .inr (.inl f141)))]) [0, 1, 2, 3, 4] rfl) (hD.sub (ws' := [(a0, .inr (12, [.int i0, .ref a1, .ref a2, .ref a3, .ref a4, .int i1, .ref a5, .int i2, .int i3, .int i4, .int i5, .int i6, .int i7, .int i8, .ref a6, .ref a7, .ref a8, .ref a9, .ref a10, .ref a11, .ref a12, .int i9, .ref a13, .int i10, .ref a14, .ref a15, .int i11, .ref a16, .ref a17, .ref a18, .ref a19, .int i12, .int i13, .int i14, .int i15, .int i16, .ref a20, .long j0, .ref a21, .ref a22, .ref a23, .ref a24])), (a21, .inl (cI, 4, .inl xF20)), (a22, .inl (cI, 4, .inl xF21)), (a23, .inl (cJ, 240, .inr (.inl xG22))), (a24, .inl (cJ, 60, .inr (.inl f141)))]) [0, 1, 2, 3, 4] (by decide) rfl) hS (lv_sub hl [1, 2, 3, 4, 5, 6, 0] rfl)
                      exact lp1 _ _ _ ls (0) xG23 (show (0 : Int) ≤ (0 : Int32).toInt ∧ (0 : Int32).toInt ≤ 60 from ⟨by omega, by omega⟩) (Nat.lt_succ_self _) (hP.sub (ws' := [(a0, .inr (12, [.int i0, .ref a1, .ref a2, .ref a3, .ref a4, .int i1, .ref a5, .int i2, .int i3, .int i4, .int i5, .int i6, .int i7, .int i8, .ref a6, .ref a7, .ref a8, .ref a9, .ref a10, .ref a11, .ref a12, .int i9, .ref a13, .int i10, .ref a14, .ref a15, .int i11, .ref a16, .ref a17, .ref a18, .ref a19, .int i12, .int i13, .int i14, .int i15, .int i16, .ref a20, .long j0, .ref a21, .ref a22, .ref a23, .ref a24])), (a21, .inl (cI, 4, .inl xF20)), (a22, .inl (cI, 4, .inl xF21)), (a23, .inl (cJ, 240, .inr (.inl xG22))), (a24, .inl (cJ, 60, .inr (.inl xG23)))]) [0, 1, 2, 3, 4] rfl) (hD.sub (ws' := [(a0, .inr (12, [.int i0, .ref a1, .ref a2, .ref a3, .ref a4, .int i1, .ref a5, .int i2, .int i3, .int i4, .int i5, .int i6, .int i7, .int i8, .ref a6, .ref a7, .ref a8, .ref a9, .ref a10, .ref a11, .ref a12, .int i9, .ref a13, .int i10, .ref a14, .ref a15, .int i11, .ref a16, .ref a17, .ref a18, .ref a19, .int i12, .int i13, .int i14, .int i15, .int i16, .ref a20, .long j0, .ref a21, .ref a22, .ref a23, .ref a24])), (a21, .inl (cI, 4, .inl xF20)), (a22, .inl (cI, 4, .inl xF21)), (a23, .inl (cJ, 240, .inr (.inl xG22))), (a24, .inl (cJ, 60, .inr (.inl xG23)))]) [0, 1, 2, 3, 4] (by decide) rfl) hS (lv_sub hl [1, 2, 3, 4, 5, 6, 0] rfl)
                    · rw [← Int32.not_lt, hl_gt ex30] at c32
                      refine lv_bipush (v := (-7)) hx hb dX12_paste_107 (by decide) ?_
                      have hP9 := hP.sub (ws' := [(a0, .inr (12, [.int i0, .ref a1, .ref a2, .ref a3, .ref a4, .int i1, .ref a5, .int i2, .int i3, .int i4, .int i5, .int i6, .int i7, .int i8, .ref a6, .ref a7, .ref a8, .ref a9, .ref a10, .ref a11, .ref a12, .int i9, .ref a13, .int i10, .ref a14, .ref a15, .int i11, .ref a16, .ref a17, .ref a18, .ref a19, .int i12, .int i13, .int i14, .int i15, .int i16, .ref a20, .long j0, .ref a21, .ref a22, .ref a23, .ref a24])), (a21, .inl (cI, 4, .inl xF20)), (a22, .inl (cI, 4, .inl xF21)), (a23, .inl (cJ, 240, .inr (.inl xG22))), (a24, .inl (cJ, 60, .inr (.inl xG23)))]) [0, 1, 2, 3, 4] rfl
                      have hD9 := hD.sub (ws' := [(a0, .inr (12, [.int i0, .ref a1, .ref a2, .ref a3, .ref a4, .int i1, .ref a5, .int i2, .int i3, .int i4, .int i5, .int i6, .int i7, .int i8, .ref a6, .ref a7, .ref a8, .ref a9, .ref a10, .ref a11, .ref a12, .int i9, .ref a13, .int i10, .ref a14, .ref a15, .int i11, .ref a16, .ref a17, .ref a18, .ref a19, .int i12, .int i13, .int i14, .int i15, .int i16, .ref a20, .long j0, .ref a21, .ref a22, .ref a23, .ref a24])), (a21, .inl (cI, 4, .inl xF20)), (a22, .inl (cI, 4, .inl xF21)), (a23, .inl (cJ, 240, .inr (.inl xG22))), (a24, .inl (cJ, 60, .inr (.inl xG23)))]) [0, 1, 2, 3, 4] (by decide) rfl
                      rw [hQ]
                      exact W.iret (v := (-7)) hx hb hr (fun t ht hW => ⟨⟨(-7), (pickG 0 [], pickG (fun _ => 0) [], pickG (fun _ => 0) [xG22, xG23]), rfl, ⟨(show (-8 : Int) ≤ ((-7) : Int32).toInt ∧ ((-7) : Int32).toInt ≤ 0 from ⟨by omega, by omega⟩), (show PSB xF20 xF21 p0 p1 p2 p3 p4 ((-7) : Int32) from by unfold PSB; omega), trivial⟩, (by rw [ht]; exact hP9), hD9⟩, hS.F ht⟩) hS.2.2 dX12_paste_109
          · rw [ki_eq] at c23
            refine lv_bipush (v := (-8)) hx hb dX12_paste_55 (by decide) ?_
            have hP9 := hP.sub (ws' := [(a0, .inr (12, [.int i0, .ref a1, .ref a2, .ref a3, .ref a4, .int i1, .ref a5, .int i2, .int i3, .int i4, .int i5, .int i6, .int i7, .int i8, .ref a6, .ref a7, .ref a8, .ref a9, .ref a10, .ref a11, .ref a12, .int i9, .ref a13, .int i10, .ref a14, .ref a15, .int i11, .ref a16, .ref a17, .ref a18, .ref a19, .int i12, .int i13, .int i14, .int i15, .int i16, .ref a20, .long j0, .ref a21, .ref a22, .ref a23, .ref a24])), (a21, .inl (cI, 4, .inl xF20)), (a22, .inl (cI, 4, .inl xF21)), (a23, .inl (cJ, 240, .inr (.inl xG22))), (a24, .inl (cJ, 60, .inr (.inl xG23)))]) [0, 1, 2, 3, 4] rfl
            have hD9 := hD.sub (ws' := [(a0, .inr (12, [.int i0, .ref a1, .ref a2, .ref a3, .ref a4, .int i1, .ref a5, .int i2, .int i3, .int i4, .int i5, .int i6, .int i7, .int i8, .ref a6, .ref a7, .ref a8, .ref a9, .ref a10, .ref a11, .ref a12, .int i9, .ref a13, .int i10, .ref a14, .ref a15, .int i11, .ref a16, .ref a17, .ref a18, .ref a19, .int i12, .int i13, .int i14, .int i15, .int i16, .ref a20, .long j0, .ref a21, .ref a22, .ref a23, .ref a24])), (a21, .inl (cI, 4, .inl xF20)), (a22, .inl (cI, 4, .inl xF21)), (a23, .inl (cJ, 240, .inr (.inl xG22))), (a24, .inl (cJ, 60, .inr (.inl xG23)))]) [0, 1, 2, 3, 4] (by decide) rfl
            rw [hQ]
            exact W.iret (v := (-8)) hx hb hr (fun t ht hW => ⟨⟨(-8), (pickG 0 [], pickG (fun _ => 0) [], pickG (fun _ => 0) [xG22, xG23]), rfl, ⟨(show (-8 : Int) ≤ ((-8) : Int32).toInt ∧ ((-8) : Int32).toInt ≤ 0 from ⟨by omega, by omega⟩), (show PSB xF20 xF21 p0 p1 p2 p3 p4 ((-8) : Int32) from by unfold PSB; omega), trivial⟩, (by rw [ht]; exact hP9), hD9⟩, hS.F ht⟩) hS.2.2 dX12_paste_57
        · rw [ki_eq] at c18
          refine lv_bipush (v := (-6)) hx hb dX12_paste_37 (by decide) ?_
          have hP9 := hP.sub (ws' := [(a0, .inr (12, [.int i0, .ref a1, .ref a2, .ref a3, .ref a4, .int i1, .ref a5, .int i2, .int i3, .int i4, .int i5, .int i6, .int i7, .int i8, .ref a6, .ref a7, .ref a8, .ref a9, .ref a10, .ref a11, .ref a12, .int i9, .ref a13, .int i10, .ref a14, .ref a15, .int i11, .ref a16, .ref a17, .ref a18, .ref a19, .int i12, .int i13, .int i14, .int i15, .int i16, .ref a20, .long j0, .ref a21, .ref a22, .ref a23, .ref a24])), (a21, .inl (cI, 4, .inl xF20)), (a22, .inl (cI, 4, .inl xF21)), (a23, .inl (cJ, 240, .inr (.inl xG22))), (a24, .inl (cJ, 60, .inr (.inl xG23)))]) [0, 1, 2, 3, 4] rfl
          have hD9 := hD.sub (ws' := [(a0, .inr (12, [.int i0, .ref a1, .ref a2, .ref a3, .ref a4, .int i1, .ref a5, .int i2, .int i3, .int i4, .int i5, .int i6, .int i7, .int i8, .ref a6, .ref a7, .ref a8, .ref a9, .ref a10, .ref a11, .ref a12, .int i9, .ref a13, .int i10, .ref a14, .ref a15, .int i11, .ref a16, .ref a17, .ref a18, .ref a19, .int i12, .int i13, .int i14, .int i15, .int i16, .ref a20, .long j0, .ref a21, .ref a22, .ref a23, .ref a24])), (a21, .inl (cI, 4, .inl xF20)), (a22, .inl (cI, 4, .inl xF21)), (a23, .inl (cJ, 240, .inr (.inl xG22))), (a24, .inl (cJ, 60, .inr (.inl xG23)))]) [0, 1, 2, 3, 4] (by decide) rfl
          rw [hQ]
          exact W.iret (v := (-6)) hx hb hr (fun t ht hW => ⟨⟨(-6), (pickG 0 [], pickG (fun _ => 0) [], pickG (fun _ => 0) [xG22, xG23]), rfl, ⟨(show (-8 : Int) ≤ ((-6) : Int32).toInt ∧ ((-6) : Int32).toInt ≤ 0 from ⟨by omega, by omega⟩), (show PSB xF20 xF21 p0 p1 p2 p3 p4 ((-6) : Int32) from by unfold PSB; omega), trivial⟩, (by rw [ht]; exact hP9), hD9⟩, hS.F ht⟩) hS.2.2 dX12_paste_39
    · rw [ki_eq] at c12
      have hw11q := hw11 (by omega)
      clear hw11
      refine lv_bipush (v := (-2)) hx hb dX12_paste_14 (by decide) ?_
      have hP9 := hP.sub (ws' := [(a0, .inr (12, [.int i0, .ref a1, .ref a2, .ref a3, .ref a4, .int i1, .ref a5, .int i2, .int i3, .int i4, .int i5, .int i6, .int i7, .int i8, .ref a6, .ref a7, .ref a8, .ref a9, .ref a10, .ref a11, .ref a12, .int i9, .ref a13, .int i10, .ref a14, .ref a15, .int i11, .ref a16, .ref a17, .ref a18, .ref a19, .int i12, .int i13, .int i14, .int i15, .int i16, .ref a20, .long j0, .ref a21, .ref a22, .ref a23, .ref a24])), (a21, .inl (cI, 4, .inl xF20)), (a22, .inl (cI, 4, .inl xF21)), (a23, .inl (cJ, 240, .inr (.inl xG22))), (a24, .inl (cJ, 60, .inr (.inl xG23)))]) [0, 1, 2, 3, 4] rfl
      have hD9 := hD.sub (ws' := [(a0, .inr (12, [.int i0, .ref a1, .ref a2, .ref a3, .ref a4, .int i1, .ref a5, .int i2, .int i3, .int i4, .int i5, .int i6, .int i7, .int i8, .ref a6, .ref a7, .ref a8, .ref a9, .ref a10, .ref a11, .ref a12, .int i9, .ref a13, .int i10, .ref a14, .ref a15, .int i11, .ref a16, .ref a17, .ref a18, .ref a19, .int i12, .int i13, .int i14, .int i15, .int i16, .ref a20, .long j0, .ref a21, .ref a22, .ref a23, .ref a24])), (a21, .inl (cI, 4, .inl xF20)), (a22, .inl (cI, 4, .inl xF21)), (a23, .inl (cJ, 240, .inr (.inl xG22))), (a24, .inl (cJ, 60, .inr (.inl xG23)))]) [0, 1, 2, 3, 4] (by decide) rfl
      rw [hQ]
      exact W.iret (v := (-2)) hx hb hr (fun t ht hW => ⟨⟨(-2), (pickG 0 [], pickG (fun _ => 0) [], pickG (fun _ => 0) [xG22, xG23]), rfl, ⟨(show (-8 : Int) ≤ ((-2) : Int32).toInt ∧ ((-2) : Int32).toInt ≤ 0 from ⟨by omega, by omega⟩), (show PSB xF20 xF21 p0 p1 p2 p3 p4 ((-2) : Int32) from by unfold PSB; omega), trivial⟩, (by rw [ht]; exact hP9), hD9⟩, hS.F ht⟩) hS.2.2 dX12_paste_16
