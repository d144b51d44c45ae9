theorem dX12_climbs_0 : decode cX12_climbs 0 = .ok (.aload_n 0, 1) := by decide +kernel
theorem dX12_climbs_1 : decode cX12_climbs 1 = .ok (.getfield 13, 3) := by decide +kernel
theorem dX12_climbs_4 : decode cX12_climbs 4 = .ok (.sipush 484, 3) := by decide +kernel
theorem dX12_climbs_7 : decode cX12_climbs 7 = .ok (.aload_n 0, 1) := by decide +kernel
theorem dX12_climbs_8 : decode cX12_climbs 8 = .ok (.getfield 381, 3) := by decide +kernel
theorem dX12_climbs_11 : decode cX12_climbs 11 = .ok (.iadd, 1) := by decide +kernel
theorem dX12_climbs_12 : decode cX12_climbs 12 = .ok (.iaload, 1) := by decide +kernel
theorem dX12_climbs_13 : decode cX12_climbs 13 = .ok (.istore_n 2, 1) := by decide +kernel
theorem dX12_climbs_14 : decode cX12_climbs 14 = .ok (.aload_n 0, 1) := by decide +kernel
theorem dX12_climbs_15 : decode cX12_climbs 15 = .ok (.dup, 1) := by decide +kernel
theorem dX12_climbs_16 : decode cX12_climbs 16 = .ok (.getfield 381, 3) := by decide +kernel
theorem dX12_climbs_19 : decode cX12_climbs 19 = .ok (.iconst 1, 1) := by decide +kernel
theorem dX12_climbs_20 : decode cX12_climbs 20 = .ok (.iadd, 1) := by decide +kernel
theorem dX12_climbs_21 : decode cX12_climbs 21 = .ok (.putfield 381, 3) := by decide +kernel
theorem dX12_climbs_24 : decode cX12_climbs 24 = .ok (.aload_n 0, 1) := by decide +kernel
theorem dX12_climbs_25 : decode cX12_climbs 25 = .ok (.getfield 13, 3) := by decide +kernel
theorem dX12_climbs_28 : decode cX12_climbs 28 = .ok (.sipush 484, 3) := by decide +kernel
theorem dX12_climbs_31 : decode cX12_climbs 31 = .ok (.aload_n 0, 1) := by decide +kernel
theorem dX12_climbs_32 : decode cX12_climbs 32 = .ok (.getfield 381, 3) := by decide +kernel
theorem dX12_climbs_35 : decode cX12_climbs 35 = .ok (.iadd, 1) := by decide +kernel
theorem dX12_climbs_36 : decode cX12_climbs 36 = .ok (.iconst 0, 1) := by decide +kernel
theorem dX12_climbs_37 : decode cX12_climbs 37 = .ok (.iload_n 2, 1) := by decide +kernel
theorem dX12_climbs_38 : decode cX12_climbs 38 = .ok (.iload_n 1, 1) := by decide +kernel
theorem dX12_climbs_39 : decode cX12_climbs 39 = .ok (.iadd, 1) := by decide +kernel
theorem dX12_climbs_40 : decode cX12_climbs 40 = .ok (.invokestatic 257, 3) := by decide +kernel
theorem dX12_climbs_43 : decode cX12_climbs 43 = .ok (.iastore, 1) := by decide +kernel
theorem dX12_climbs_44 : decode cX12_climbs 44 = .ok (.return_, 1) := by decide +kernel
set_option maxHeartbeats 4000000 in
set_option maxRecDepth 100000 in
theorem s_X12_climbs (l : Launch) (dC : Nat → ClassId) (dI : Nat → Nat → Nat) (cI cZ cB cJ cM cG : ClassId) (a0 a1 a2 a3 a4 a5 a6 a7 a8 a9 a10 a11 a12 a13 a14 a15 a16 a17 a18 a19 a20 a21 a22 a23 a24 : Nat) (i0 i1 i2 i3 i4 i5 i6 i7 i8 i9 i10 i11 i12 i13 i14 i15 i16 : Int32) (j0 : Int64) (xF0 : Nat → Int32) (p0 : Int32) (cp : Int) (sz : Nat) (p_0 : (0 : Int) ≤ i1.toInt ∧ i1.toInt ≤ 1600) (p_1 : (0 : Int) ≤ i2.toInt ∧ i2.toInt ≤ 1600) (p_2 : (0 : Int) ≤ i3.toInt ∧ i3.toInt ≤ 1600) (p_3 : (0 : Int) ≤ i4.toInt ∧ i4.toInt ≤ 1600) (p_4 : (0 : Int) ≤ i5.toInt ∧ i5.toInt ≤ 6) (p_5 : (0 : Int) ≤ i7.toInt ∧ i7.toInt ≤ 3) (p_6 : (0 : Int) ≤ i11.toInt ∧ i11.toInt ≤ 59) (p_7 : WI cp xF0) (p_8 : (0 : Int) ≤ i11.toInt ∧ i11.toInt ≤ 58) (p_9 : 0 ≤ cp ∧ cp ≤ 2000000000) : Met l yX12_climbs (kw yX12_climbs cX12_climbs 3 none) ({ frames := 1, cells := 0, slots := 0, locals := 24 } : Room) (va_Pc [.ref a0, .int p0] (kPre dC dI [(cI, .int), (cZ, .boolean), (cB, .byte), (cJ, .long), (cM, .object RX2), (cG, .array .int)] [(a0, .inr (12, [.int i0, .ref a1, .ref a2, .ref a3, .ref a4, .int i1, .ref a5, .int i2, .int i3, .int i4, .int i5, .int i6, .int i7, .int i8, .ref a6, .ref a7, .ref a8, .ref a9, .ref a10, .ref a11, .ref a12, .int i9, .ref a13, .int i10, .ref a14, .ref a15, .int i11, .ref a16, .ref a17, .ref a18, .ref a19, .int i12, .int i13, .int i14, .int i15, .int i16, .ref a20, .long j0, .ref a21, .ref a22, .ref a23, .ref a24])), (a1, .inl (cI, 544, .inl xF0))] sz)) (va_Qv (fun (u9 : (Nat → Int32) × (Nat → Nat → Int32) × (Nat → Nat → Int64)) => ((0 : Int) ≤ (u9.1 0).toInt ∧ (u9.1 0).toInt ≤ 59) ∧ (WI cp (u9.2.1 0)) ∧ ((u9.1 0).toInt = i11.toInt + 1) ∧ True) (fun u9 t => va_P (dC, dI) vwCl [(a0, .inr (12, [.int i0, .ref a1, .ref a2, .ref a3, .ref a4, .int i1, .ref a5, .int i2, .int i3, .int i4, .int i5, .int i6, .int i7, .int i8, .ref a6, .ref a7, .ref a8, .ref a9, .ref a10, .ref a11, .ref a12, .int i9, .ref a13, .int i10, .ref a14, .ref a15, .int (u9.1 0), .ref a16, .ref a17, .ref a18, .ref a19, .int i12, .int i13, .int i14, .int i15, .int i16, .ref a20, .long j0, .ref a21, .ref a22, .ref a23, .ref a24])), (a1, .inl (cI, 544, .inl (u9.2.1 0)))] t.heap ∧ va_D (va_A [(a0, .inr (12, [.int i0, .ref a1, .ref a2, .ref a3, .ref a4, .int i1, .ref a5, .int i2, .int i3, .int i4, .int i5, .int i6, .int i7, .int i8, .ref a6, .ref a7, .ref a8, .ref a9, .ref a10, .ref a11, .ref a12, .int i9, .ref a13, .int i10, .ref a14, .ref a15, .int i11, .ref a16, .ref a17, .ref a18, .ref a19, .int i12, .int i13, .int i14, .int i15, .int i16, .ref a20, .long j0, .ref a21, .ref a22, .ref a23, .ref a24])), (a1, .inl (cI, 544, .inl xF0))] sz) [(a0, .inr (12, [.int i0, .ref a1, .ref a2, .ref a3, .ref a4, .int i1, .ref a5, .int i2, .int i3, .int i4, .int i5, .int i6, .int i7, .int i8, .ref a6, .ref a7, .ref a8, .ref a9, .ref a10, .ref a11, .ref a12, .int i9, .ref a13, .int i10, .ref a14, .ref a15, .int (u9.1 0), .ref a16, .ref a17, .ref a18, .ref a19, .int i12, .int i13, .int i14, .int i15, .int i16, .ref a20, .long j0, .ref a21, .ref a22, .ref a23, .ref a24])), (a1, .inl (cI, 544, .inl (u9.2.1 0)))]) (va_A [(a0, .inr (12, [.int i0, .ref a1, .ref a2, .ref a3, .ref a4, .int i1, .ref a5, .int i2, .int i3, .int i4, .int i5, .int i6, .int i7, .int i8, .ref a6, .ref a7, .ref a8, .ref a9, .ref a10, .ref a11, .ref a12, .int i9, .ref a13, .int i10, .ref a14, .ref a15, .int i11, .ref a16, .ref a17, .ref a18, .ref a19, .int i12, .int i13, .int i14, .int i15, .int i16, .ref a20, .long j0, .ref a21, .ref a22, .ref a23, .ref a24])), (a1, .inl (cI, 544, .inl xF0))] sz)) 0 0 (va_A [(a0, .inr (12, [.int i0, .ref a1, .ref a2, .ref a3, .ref a4, .int i1, .ref a5, .int i2, .int i3, .int i4, .int i5, .int i6, .int i7, .int i8, .ref a6, .ref a7, .ref a8, .ref a9, .ref a10, .ref a11, .ref a12, .int i9, .ref a13, .int i10, .ref a14, .ref a15, .int i11, .ref a16, .ref a17, .ref a18, .ref a19, .int i12, .int i13, .int i14, .int i15, .int i16, .ref a20, .long j0, .ref a21, .ref a22, .ref a23, .ref a24])), (a1, .inl (cI, 544, .inl xF0))] sz) := by
  refine kEnter (by decide) (Nat.le_of_ble_eq_true rfl) ?_
  intro p e s m below meth c ls hx hb hr hml hown hlocks hin hwd hsz hP hK hD hl
  subst hsz
  generalize hAe : va_A [(a0, .inr (12, [.int i0, .ref a1, .ref a2, .ref a3, .ref a4, .int i1, .ref a5, .int i2, .int i3, .int i4, .int i5, .int i6, .int i7, .int i8, .ref a6, .ref a7, .ref a8, .ref a9, .ref a10, .ref a11, .ref a12, .int i9, .ref a13, .int i10, .ref a14, .ref a15, .int i11, .ref a16, .ref a17, .ref a18, .ref a19, .int i12, .int i13, .int i14, .int i15, .int i16, .ref a20, .long j0, .ref a21, .ref a22, .ref a23, .ref a24])), (a1, .inl (cI, 544, .inl xF0))] s.heap.size = A at hD ⊢
  have hA : ∀ q : Nat, s.heap.size ≤ q → A q := fun q h => by rw [← hAe]; exact Or.inr h
  have hS : va_S A s.heap s.heap [] := va_S.rf
  have hl : lv_has ls 3 [(0, .ref a0), (1, .int p0)] := hl
  obtain ⟨Q, hQ⟩ : ∃ Q, Q = MQ below (va_Qv (fun (u9 : (Nat → Int32) × (Nat → Nat → Int32) × (Nat → Nat → Int64)) => ((0 : Int) ≤ (u9.1 0).toInt ∧ (u9.1 0).toInt ≤ 59) ∧ (WI cp (u9.2.1 0)) ∧ ((u9.1 0).toInt = i11.toInt + 1) ∧ True) (fun u9 t => va_P (dC, dI) vwCl [(a0, .inr (12, [.int i0, .ref a1, .ref a2, .ref a3, .ref a4, .int i1, .ref a5, .int i2, .int i3, .int i4, .int i5, .int i6, .int i7, .int i8, .ref a6, .ref a7, .ref a8, .ref a9, .ref a10, .ref a11, .ref a12, .int i9, .ref a13, .int i10, .ref a14, .ref a15, .int (u9.1 0), .ref a16, .ref a17, .ref a18, .ref a19, .int i12, .int i13, .int i14, .int i15, .int i16, .ref a20, .long j0, .ref a21, .ref a22, .ref a23, .ref a24])), (a1, .inl (cI, 544, .inl (u9.2.1 0)))] t.heap ∧ va_D A [(a0, .inr (12, [.int i0, .ref a1, .ref a2, .ref a3, .ref a4, .int i1, .ref a5, .int i2, .int i3, .int i4, .int i5, .int i6, .int i7, .int i8, .ref a6, .ref a7, .ref a8, .ref a9, .ref a10, .ref a11, .ref a12, .int i9, .ref a13, .int i10, .ref a14, .ref a15, .int (u9.1 0), .ref a16, .ref a17, .ref a18, .ref a19, .int i12, .int i13, .int i14, .int i15, .int i16, .ref a20, .long j0, .ref a21, .ref a22, .ref a23, .ref a24])), (a1, .inl (cI, 544, .inl (u9.2.1 0)))]) A) ([.ref a0, .int p0] : List Value).toArray s 0 0 A := ⟨_, rfl⟩
  rw [← hQ]
  have k0 : (0 : Int32).toInt = 0 := by decide
  have k1 : (1 : Int32).toInt = 1 := by decide
  have k484 : (484 : Int32).toInt = 484 := by decide
  refine lv_aload_n hx hb dX12_climbs_0 rfl (lv_at hl 0 rfl) ?_
  refine va_get (D := (dC, dI)) (ci := 12) (v := .ref a1) (C := RX12) (T := TX12) (N := 42) hx hb hwd inlX12 hown hK hP 0 rfl rfl 1 (by decide) (hwd _ kr7_3) (fun _ h9 => h9) rfl dX12_climbs_1 ?_
  refine lv_sipush (v := 484) hx hb dX12_climbs_4 (by decide) ?_
  refine lv_aload_n hx hb dX12_climbs_7 rfl (lv_at hl 0 rfl) ?_
  refine va_get (D := (dC, dI)) (ci := 12) (v := .int i11) (C := RX12) (T := TX12) (N := 42) hx hb hwd inlX12 hown hK hP 0 rfl rfl 26 (by decide) (hwd _ kr31_21) (fun _ h9 => h9) rfl dX12_climbs_8 ?_
  refine lv_iadd hx hb dX12_climbs_11 ?_
  refine lv_topi (fun x1 ex1 => ?_)
  have tx1 := ia_add (a := (484 : Int32)) (b := i11) (by omega) (by omega)
  rw [← ex1] at tx1
  have h2 : vp_in x1 544 := (vp_of (by omega) (by omega))
  refine va_iald hx hb hK hP 1 0 rfl rfl h2 dX12_climbs_12 ?_
  refine lv_topi (fun x3 ex3 => ?_)
  have ix3 : x3.toInt = (xF0 x1.toInt.toNat).toInt := by rw [ex3]; rfl
  refine lv_istore_n (lv' := [(2, .int x3), (0, .ref a0), (1, .int p0)]) hx hb dX12_climbs_13 rfl hl (by decide) rfl (fun ls hl => ?_)
  refine lv_aload_n hx hb dX12_climbs_14 rfl (lv_at hl 1 rfl) ?_
  refine lv_dup hx hb dX12_climbs_15 rfl ?_
  refine va_get (D := (dC, dI)) (ci := 12) (v := .int i11) (C := RX12) (T := TX12) (N := 42) hx hb hwd inlX12 hown hK hP 0 rfl rfl 26 (by decide) (hwd _ kr31_21) (fun _ h9 => h9) rfl dX12_climbs_16 ?_
  refine lv_iconst (v := 1) hx hb dX12_climbs_19 (by decide) ?_
  refine lv_iadd hx hb dX12_climbs_20 ?_
  refine lv_topi (fun x4 ex4 => ?_)
  have tx4 := ia_add (a := i11) (b := (1 : Int32)) (by omega) (by omega)
  rw [← ex4] at tx4
  refine va_put (D := (dC, dI)) (ci := 12) (v := .int x4) (ty := .int) (C := RX12) (T := TX12) (N := 42) hx hb hwd inlX12 tyX12 tyX12_ok nmX12 hown hK hP hD hS 0 rfl rfl 26 (by decide) (hwd _ kr31_21) (fun _ h9 => h9) rfl (by decide +kernel) rfl rfl (Nat.le_of_ble_eq_true rfl) dX12_climbs_21 (fun H locs hP hD hS => ?_)
  have hP : va_P (dC, dI) vwCl [(a0, .inr (12, [.int i0, .ref a1, .ref a2, .ref a3, .ref a4, .int i1, .ref a5, .int i2, .int i3, .int i4, .int i5, .int i6, .int i7, .int i8, .ref a6, .ref a7, .ref a8, .ref a9, .ref a10, .ref a11, .ref a12, .int i9, .ref a13, .int i10, .ref a14, .ref a15, .int x4, .ref a16, .ref a17, .ref a18, .ref a19, .int i12, .int i13, .int i14, .int i15, .int i16, .ref a20, .long j0, .ref a21, .ref a22, .ref a23, .ref a24])), (a1, .inl (cI, 544, .inl xF0))] H := hP
  have hD : va_D A [(a0, .inr (12, [.int i0, .ref a1, .ref a2, .ref a3, .ref a4, .int i1, .ref a5, .int i2, .int i3, .int i4, .int i5, .int i6, .int i7, .int i8, .ref a6, .ref a7, .ref a8, .ref a9, .ref a10, .ref a11, .ref a12, .int i9, .ref a13, .int i10, .ref a14, .ref a15, .int x4, .ref a16, .ref a17, .ref a18, .ref a19, .int i12, .int i13, .int i14, .int i15, .int i16, .ref a20, .long j0, .ref a21, .ref a22, .ref a23, .ref a24])), (a1, .inl (cI, 544, .inl xF0))] := hD
  refine lv_aload_n hx hb dX12_climbs_24 rfl (lv_at hl 1 rfl) ?_
  refine va_get (D := (dC, dI)) (ci := 12) (v := .ref a1) (C := RX12) (T := TX12) (N := 42) hx hb hwd inlX12 hown hK hP 0 rfl rfl 1 (by decide) (hwd _ kr7_3) (fun _ h9 => h9) rfl dX12_climbs_25 ?_
  refine lv_sipush (v := 484) hx hb dX12_climbs_28 (by decide) ?_
  refine lv_aload_n hx hb dX12_climbs_31 rfl (lv_at hl 1 rfl) ?_
  refine va_get (D := (dC, dI)) (ci := 12) (v := .int x4) (C := RX12) (T := TX12) (N := 42) hx hb hwd inlX12 hown hK hP 0 rfl rfl 26 (by decide) (hwd _ kr31_21) (fun _ h9 => h9) rfl dX12_climbs_32 ?_
  refine lv_iadd hx hb dX12_climbs_35 ?_
  refine lv_topi (fun x5 ex5 => ?_)
  have tx5 := ia_add (a := (484 : Int32)) (b := x4) (by omega) (by omega)
  rw [← ex5] at tx5
  refine lv_iconst (v := 0) hx hb dX12_climbs_36 (by decide) ?_
  refine lv_iload_n hx hb dX12_climbs_37 rfl (lv_at hl 0 rfl) ?_
  refine lv_iload_n hx hb dX12_climbs_38 rfl (lv_at hl 2 rfl) ?_
  refine lv_iadd hx hb dX12_climbs_39 ?_
  refine lv_topi (fun x6 ex6 => ?_)
  refine va_mmax hx hb (by rw [hml]; exact hl.1.symm) hown (hwd _ kr27_5) (hwd _ kr19_3) (hwd _ kr19_4) (hwd _ kr19_5) (Nat.le_of_ble_eq_true rfl) (Nat.le_of_ble_eq_true rfl) (Nat.le_of_ble_eq_true rfl) (Nat.le_of_ble_eq_true rfl) dX12_climbs_40 ?_
  refine lv_topi (fun x7 ex7 => ?_)
  have tx7 := mx_max (0 : Int32) x6
  rw [← ex7] at tx7
  refine va_iast hx hb hK hP hD hS 1 0 rfl rfl (vp_of (by omega) (by omega)) dX12_climbs_43 (fun H locs hP hD hS => ?_)
  obtain ⟨f8, ef8⟩ : ∃ f, f = upd xF0 x5.toNatClampNeg x7 := ⟨_, rfl⟩
  have df8 : WI cp f8 := by rw [ef8]; exact WI_free p_7 (by omega) (by omega)
  have hP : va_P (dC, dI) vwCl [(a0, .inr (12, [.int i0, .ref a1, .ref a2, .ref a3, .ref a4, .int i1, .ref a5, .int i2, .int i3, .int i4, .int i5, .int i6, .int i7, .int i8, .ref a6, .ref a7, .ref a8, .ref a9, .ref a10, .ref a11, .ref a12, .int i9, .ref a13, .int i10, .ref a14, .ref a15, .int x4, .ref a16, .ref a17, .ref a18, .ref a19, .int i12, .int i13, .int i14, .int i15, .int i16, .ref a20, .long j0, .ref a21, .ref a22, .ref a23, .ref a24])), (a1, .inl (cI, 544, .inl f8))] H := by rw [ef8]; exact hP
  have hD : va_D A [(a0, .inr (12, [.int i0, .ref a1, .ref a2, .ref a3, .ref a4, .int i1, .ref a5, .int i2, .int i3, .int i4, .int i5, .int i6, .int i7, .int i8, .ref a6, .ref a7, .ref a8, .ref a9, .ref a10, .ref a11, .ref a12, .int i9, .ref a13, .int i10, .ref a14, .ref a15, .int x4, .ref a16, .ref a17, .ref a18, .ref a19, .int i12, .int i13, .int i14, .int i15, .int i16, .ref a20, .long j0, .ref a21, .ref a22, .ref a23, .ref a24])), (a1, .inl (cI, 544, .inl f8))] := by rw [ef8]; exact hD
  have hP9 := hP.sub (ws' := [(a0, .inr (12, [.int i0, .ref a1, .ref a2, .ref a3, .ref a4, .int i1, .ref a5, .int i2, .int i3, .int i4, .int i5, .int i6, .int i7, .int i8, .ref a6, .ref a7, .ref a8, .ref a9, .ref a10, .ref a11, .ref a12, .int i9, .ref a13, .int i10, .ref a14, .ref a15, .int x4, .ref a16, .ref a17, .ref a18, .ref a19, .int i12, .int i13, .int i14, .int i15, .int i16, .ref a20, .long j0, .ref a21, .ref a22, .ref a23, .ref a24])), (a1, .inl (cI, 544, .inl f8))]) [0, 1] rfl
  have hD9 := hD.sub (ws' := [(a0, .inr (12, [.int i0, .ref a1, .ref a2, .ref a3, .ref a4, .int i1, .ref a5, .int i2, .int i3, .int i4, .int i5, .int i6, .int i7, .int i8, .ref a6, .ref a7, .ref a8, .ref a9, .ref a10, .ref a11, .ref a12, .int i9, .ref a13, .int i10, .ref a14, .ref a15, .int x4, .ref a16, .ref a17, .ref a18, .ref a19, .int i12, .int i13, .int i14, .int i15, .int i16, .ref a20, .long j0, .ref a21, .ref a22, .ref a23, .ref a24])), (a1, .inl (cI, 544, .inl f8))]) [0, 1] (by decide) rfl
  rw [hQ]
  exact W.vret hx hb hr (fun t ht hW => ⟨⟨(pickG 0 [x4], pickG (fun _ => 0) [f8], pickG (fun _ => 0) []), rfl, ⟨(show (0 : Int) ≤ x4.toInt ∧ x4.toInt ≤ 59 from ⟨by omega, by omega⟩), (show WI cp f8 from df8), (show x4.toInt = i11.toInt + 1 from by omega), trivial⟩, (by rw [ht]; exact hP9), hD9⟩, hS.F ht⟩) hS.2.2 dX12_climbs_44
theorem dX12_ends_0 : decode cX12_ends 0 = .ok (.aload_n 0, 1) := by decide +kernel
theorem dX12_ends_1 : decode cX12_ends 1 = .ok (.getfield 58, 3) := by decide +kernel
theorem dX12_ends_4 : decode cX12_ends 4 = .ok (.aload_n 0, 1) := by decide +kernel
theorem dX12_ends_5 : decode cX12_ends 5 = .ok (.getfield 357, 3) := by decide +kernel
theorem dX12_ends_8 : decode cX12_ends 8 = .ok (.iconst 1, 1) := by decide +kernel
theorem dX12_ends_9 : decode cX12_ends 9 = .ok (.isub, 1) := by decide +kernel
theorem dX12_ends_10 : decode cX12_ends 10 = .ok (.dup2, 1) := by decide +kernel
theorem dX12_ends_11 : decode cX12_ends 11 = .ok (.iaload, 1) := by decide +kernel
theorem dX12_ends_12 : decode cX12_ends 12 = .ok (.iconst 1, 1) := by decide +kernel
theorem dX12_ends_13 : decode cX12_ends 13 = .ok (.isub, 1) := by decide +kernel
theorem dX12_ends_14 : decode cX12_ends 14 = .ok (.iastore, 1) := by decide +kernel
theorem dX12_ends_15 : decode cX12_ends 15 = .ok (.aload_n 0, 1) := by decide +kernel
theorem dX12_ends_16 : decode cX12_ends 16 = .ok (.getfield 58, 3) := by decide +kernel
theorem dX12_ends_19 : decode cX12_ends 19 = .ok (.aload_n 0, 1) := by decide +kernel
theorem dX12_ends_20 : decode cX12_ends 20 = .ok (.getfield 357, 3) := by decide +kernel
theorem dX12_ends_23 : decode cX12_ends 23 = .ok (.iconst 1, 1) := by decide +kernel
theorem dX12_ends_24 : decode cX12_ends 24 = .ok (.isub, 1) := by decide +kernel
theorem dX12_ends_25 : decode cX12_ends 25 = .ok (.iaload, 1) := by decide +kernel
theorem dX12_ends_26 : decode cX12_ends 26 = .ok (.ifCond .le 40, 3) := by decide +kernel
theorem dX12_ends_29 : decode cX12_ends 29 = .ok (.aload_n 0, 1) := by decide +kernel
theorem dX12_ends_30 : decode cX12_ends 30 = .ok (.getfield 381, 3) := by decide +kernel
theorem dX12_ends_33 : decode cX12_ends 33 = .ok (.aload_n 0, 1) := by decide +kernel
theorem dX12_ends_34 : decode cX12_ends 34 = .ok (.getfield 61, 3) := by decide +kernel
theorem dX12_ends_37 : decode cX12_ends 37 = .ok (.aload_n 0, 1) := by decide +kernel
theorem dX12_ends_38 : decode cX12_ends 38 = .ok (.getfield 357, 3) := by decide +kernel
theorem dX12_ends_41 : decode cX12_ends 41 = .ok (.iconst 1, 1) := by decide +kernel
theorem dX12_ends_42 : decode cX12_ends 42 = .ok (.isub, 1) := by decide +kernel
theorem dX12_ends_43 : decode cX12_ends 43 = .ok (.iaload, 1) := by decide +kernel
theorem dX12_ends_44 : decode cX12_ends 44 = .ok (.if_icmp .le 22, 3) := by decide +kernel
theorem dX12_ends_47 : decode cX12_ends 47 = .ok (.aload_n 0, 1) := by decide +kernel
theorem dX12_ends_48 : decode cX12_ends 48 = .ok (.getfield 61, 3) := by decide +kernel
theorem dX12_ends_51 : decode cX12_ends 51 = .ok (.aload_n 0, 1) := by decide +kernel
theorem dX12_ends_52 : decode cX12_ends 52 = .ok (.getfield 357, 3) := by decide +kernel
theorem dX12_ends_55 : decode cX12_ends 55 = .ok (.iconst 1, 1) := by decide +kernel
theorem dX12_ends_56 : decode cX12_ends 56 = .ok (.isub, 1) := by decide +kernel
theorem dX12_ends_57 : decode cX12_ends 57 = .ok (.aload_n 0, 1) := by decide +kernel
theorem dX12_ends_58 : decode cX12_ends 58 = .ok (.getfield 381, 3) := by decide +kernel
theorem dX12_ends_61 : decode cX12_ends 61 = .ok (.iastore, 1) := by decide +kernel
theorem dX12_ends_62 : decode cX12_ends 62 = .ok (.iload_n 2, 1) := by decide +kernel
theorem dX12_ends_63 : decode cX12_ends 63 = .ok (.iconst 1, 1) := by decide +kernel
theorem dX12_ends_64 : decode cX12_ends 64 = .ok (.iadd, 1) := by decide +kernel
theorem dX12_ends_65 : decode cX12_ends 65 = .ok (.ireturn, 1) := by decide +kernel
theorem dX12_ends_66 : decode cX12_ends 66 = .ok (.aload_n 0, 1) := by decide +kernel
theorem dX12_ends_67 : decode cX12_ends 67 = .ok (.dup, 1) := by decide +kernel
theorem dX12_ends_68 : decode cX12_ends 68 = .ok (.getfield 357, 3) := by decide +kernel
theorem dX12_ends_71 : decode cX12_ends 71 = .ok (.iconst 1, 1) := by decide +kernel
theorem dX12_ends_72 : decode cX12_ends 72 = .ok (.isub, 1) := by decide +kernel
theorem dX12_ends_73 : decode cX12_ends 73 = .ok (.putfield 357, 3) := by decide +kernel
theorem dX12_ends_76 : decode cX12_ends 76 = .ok (.iload_n 1, 1) := by decide +kernel
theorem dX12_ends_77 : decode cX12_ends 77 = .ok (.iconst 1, 1) := by decide +kernel
theorem dX12_ends_78 : decode cX12_ends 78 = .ok (.iadd, 1) := by decide +kernel
theorem dX12_ends_79 : decode cX12_ends 79 = .ok (.ireturn, 1) := by decide +kernel
set_option maxHeartbeats 4000000 in
set_option maxRecDepth 100000 in
theorem s_X12_ends (l : Launch) (dC : Nat → ClassId) (dI : Nat → Nat → Nat) (cI cZ cB cJ cM cG : ClassId) (a0 a1 a2 a3 a4 a5 a6 a7 a8 a9 a10 a11 a12 a13 a14 a15 a16 a17 a18 a19 a20 a21 a22 a23 a24 : Nat) (i0 i1 i2 i3 i4 i5 i6 i7 i8 i9 i10 i11 i12 i13 i14 i15 i16 : Int32) (j0 : Int64) (xF13 xF14 : Nat → Int32) (p0 p1 : Int32) (sz : Nat) (p_0 : (0 : Int) ≤ i1.toInt ∧ i1.toInt ≤ 1600) (p_1 : (0 : Int) ≤ i2.toInt ∧ i2.toInt ≤ 1600) (p_2 : (0 : Int) ≤ i3.toInt ∧ i3.toInt ≤ 1600) (p_3 : (0 : Int) ≤ i4.toInt ∧ i4.toInt ≤ 1600) (p_4 : (0 : Int) ≤ i5.toInt ∧ i5.toInt ≤ 6) (p_5 : (0 : Int) ≤ i7.toInt ∧ i7.toInt ≤ 3) (p_6 : (0 : Int) ≤ i11.toInt ∧ i11.toInt ≤ 59) (p_7 : (1 : Int) ≤ i10.toInt ∧ i10.toInt ≤ 5) (p_8 : (0 : Int) ≤ p0.toInt ∧ p0.toInt ≤ 399) (p_9 : (0 : Int) ≤ p1.toInt ∧ p1.toInt ≤ 399) : Met l yX12_ends (kw yX12_ends cX12_ends 3 (some .int)) ({ frames := 0, cells := 0, slots := 0, locals := 0 } : Room) (va_Pc [.ref a0, .int p0, .int p1] (kPre dC dI [(cI, .int), (cZ, .boolean), (cB, .byte), (cJ, .long), (cM, .object RX2), (cG, .array .int)] [(a0, .inr (12, [.int i0, .ref a1, .ref a2, .ref a3, .ref a4, .int i1, .ref a5, .int i2, .int i3, .int i4, .int i5, .int i6, .int i7, .int i8, .ref a6, .ref a7, .ref a8, .ref a9, .ref a10, .ref a11, .ref a12, .int i9, .ref a13, .int i10, .ref a14, .ref a15, .int i11, .ref a16, .ref a17, .ref a18, .ref a19, .int i12, .int i13, .int i14, .int i15, .int i16, .ref a20, .long j0, .ref a21, .ref a22, .ref a23, .ref a24])), (a14, .inl (cI, 6, .inl xF13)), (a15, .inl (cI, 6, .inl xF14))] sz)) (va_Qi (fun (r : Int32) (u9 : (Nat → Int32) × (Nat → Nat → Int32) × (Nat → Nat → Int64)) => ((1 : Int) ≤ r.toInt ∧ r.toInt ≤ 400) ∧ (EN xF14 i10.toInt i11.toInt p0.toInt p1.toInt r.toInt (u9.1 0).toInt (u9.2.1 1)) ∧ True) (fun u9 t => va_P (dC, dI) vwCl [(a0, .inr (12, [.int i0, .ref a1, .ref a2, .ref a3, .ref a4, .int i1, .ref a5, .int i2, .int i3, .int i4, .int i5, .int i6, .int i7, .int i8, .ref a6, .ref a7, .ref a8, .ref a9, .ref a10, .ref a11, .ref a12, .int i9, .ref a13, .int (u9.1 0), .ref a14, .ref a15, .int i11, .ref a16, .ref a17, .ref a18, .ref a19, .int i12, .int i13, .int i14, .int i15, .int i16, .ref a20, .long j0, .ref a21, .ref a22, .ref a23, .ref a24])), (a14, .inl (cI, 6, .inl (u9.2.1 0))), (a15, .inl (cI, 6, .inl (u9.2.1 1)))] t.heap ∧ va_D (va_A [(a0, .inr (12, [.int i0, .ref a1, .ref a2, .ref a3, .ref a4, .int i1, .ref a5, .int i2, .int i3, .int i4, .int i5, .int i6, .int i7, .int i8, .ref a6, .ref a7, .ref a8, .ref a9, .ref a10, .ref a11, .ref a12, .int i9, .ref a13, .int i10, .ref a14, .ref a15, .int i11, .ref a16, .ref a17, .ref a18, .ref a19, .int i12, .int i13, .int i14, .int i15, .int i16, .ref a20, .long j0, .ref a21, .ref a22, .ref a23, .ref a24])), (a14, .inl (cI, 6, .inl xF13)), (a15, .inl (cI, 6, .inl xF14))] sz) [(a0, .inr (12, [.int i0, .ref a1, .ref a2, .ref a3, .ref a4, .int i1, .ref a5, .int i2, .int i3, .int i4, .int i5, .int i6, .int i7, .int i8, .ref a6, .ref a7, .ref a8, .ref a9, .ref a10, .ref a11, .ref a12, .int i9, .ref a13, .int (u9.1 0), .ref a14, .ref a15, .int i11, .ref a16, .ref a17, .ref a18, .ref a19, .int i12, .int i13, .int i14, .int i15, .int i16, .ref a20, .long j0, .ref a21, .ref a22, .ref a23, .ref a24])), (a14, .inl (cI, 6, .inl (u9.2.1 0))), (a15, .inl (cI, 6, .inl (u9.2.1 1)))]) (va_A [(a0, .inr (12, [.int i0, .ref a1, .ref a2, .ref a3, .ref a4, .int i1, .ref a5, .int i2, .int i3, .int i4, .int i5, .int i6, .int i7, .int i8, .ref a6, .ref a7, .ref a8, .ref a9, .ref a10, .ref a11, .ref a12, .int i9, .ref a13, .int i10, .ref a14, .ref a15, .int i11, .ref a16, .ref a17, .ref a18, .ref a19, .int i12, .int i13, .int i14, .int i15, .int i16, .ref a20, .long j0, .ref a21, .ref a22, .ref a23, .ref a24])), (a14, .inl (cI, 6, .inl xF13)), (a15, .inl (cI, 6, .inl xF14))] sz)) 0 0 (va_A [(a0, .inr (12, [.int i0, .ref a1, .ref a2, .ref a3, .ref a4, .int i1, .ref a5, .int i2, .int i3, .int i4, .int i5, .int i6, .int i7, .int i8, .ref a6, .ref a7, .ref a8, .ref a9, .ref a10, .ref a11, .ref a12, .int i9, .ref a13, .int i10, .ref a14, .ref a15, .int i11, .ref a16, .ref a17, .ref a18, .ref a19, .int i12, .int i13, .int i14, .int i15, .int i16, .ref a20, .long j0, .ref a21, .ref a22, .ref a23, .ref a24])), (a14, .inl (cI, 6, .inl xF13)), (a15, .inl (cI, 6, .inl xF14))] sz) := by
  refine kEnter (by decide) (Nat.le_of_ble_eq_true rfl) ?_
  intro p e s m below meth c ls hx hb hr hml hown hlocks hin hwd hsz hP hK hD hl
  subst hsz
  generalize hAe : va_A [(a0, .inr (12, [.int i0, .ref a1, .ref a2, .ref a3, .ref a4, .int i1, .ref a5, .int i2, .int i3, .int i4, .int i5, .int i6, .int i7, .int i8, .ref a6, .ref a7, .ref a8, .ref a9, .ref a10, .ref a11, .ref a12, .int i9, .ref a13, .int i10, .ref a14, .ref a15, .int i11, .ref a16, .ref a17, .ref a18, .ref a19, .int i12, .int i13, .int i14, .int i15, .int i16, .ref a20, .long j0, .ref a21, .ref a22, .ref a23, .ref a24])), (a14, .inl (cI, 6, .inl xF13)), (a15, .inl (cI, 6, .inl xF14))] s.heap.size = A at hD ⊢
  have hA : ∀ q : Nat, s.heap.size ≤ q → A q := fun q h => by rw [← hAe]; exact Or.inr h
  have hS : va_S A s.heap s.heap [] := va_S.rf
  have hl : lv_has ls 3 [(0, .ref a0), (1, .int p0), (2, .int p1)] := hl
  obtain ⟨Q, hQ⟩ : ∃ Q, Q = MQ below (va_Qi (fun (r : Int32) (u9 : (Nat → Int32) × (Nat → Nat → Int32) × (Nat → Nat → Int64)) => ((1 : Int) ≤ r.toInt ∧ r.toInt ≤ 400) ∧ (EN xF14 i10.toInt i11.toInt p0.toInt p1.toInt r.toInt (u9.1 0).toInt (u9.2.1 1)) ∧ True) (fun u9 t => va_P (dC, dI) vwCl [(a0, .inr (12, [.int i0, .ref a1, .ref a2, .ref a3, .ref a4, .int i1, .ref a5, .int i2, .int i3, .int i4, .int i5, .int i6, .int i7, .int i8, .ref a6, .ref a7, .ref a8, .ref a9, .ref a10, .ref a11, .ref a12, .int i9, .ref a13, .int (u9.1 0), .ref a14, .ref a15, .int i11, .ref a16, .ref a17, .ref a18, .ref a19, .int i12, .int i13, .int i14, .int i15, .int i16, .ref a20, .long j0, .ref a21, .ref a22, .ref a23, .ref a24])), (a14, .inl (cI, 6, .inl (u9.2.1 0))), (a15, .inl (cI, 6, .inl (u9.2.1 1)))] t.heap ∧ va_D A [(a0, .inr (12, [.int i0, .ref a1, .ref a2, .ref a3, .ref a4, .int i1, .ref a5, .int i2, .int i3, .int i4, .int i5, .int i6, .int i7, .int i8, .ref a6, .ref a7, .ref a8, .ref a9, .ref a10, .ref a11, .ref a12, .int i9, .ref a13, .int (u9.1 0), .ref a14, .ref a15, .int i11, .ref a16, .ref a17, .ref a18, .ref a19, .int i12, .int i13, .int i14, .int i15, .int i16, .ref a20, .long j0, .ref a21, .ref a22, .ref a23, .ref a24])), (a14, .inl (cI, 6, .inl (u9.2.1 0))), (a15, .inl (cI, 6, .inl (u9.2.1 1)))]) A) ([.ref a0, .int p0, .int p1] : List Value).toArray s 0 0 A := ⟨_, rfl⟩
  rw [← hQ]
  have k0 : (0 : Int32).toInt = 0 := by decide
  have k1 : (1 : Int32).toInt = 1 := by decide
  refine lv_aload_n hx hb dX12_ends_0 rfl (lv_at hl 0 rfl) ?_
  refine va_get (D := (dC, dI)) (ci := 12) (v := .ref a14) (C := RX12) (T := TX12) (N := 42) hx hb hwd inlX12 hown hK hP 0 rfl rfl 24 (by decide) (hwd _ kr7_17) (fun _ h9 => h9) rfl dX12_ends_1 ?_
  refine lv_aload_n hx hb dX12_ends_4 rfl (lv_at hl 0 rfl) ?_
  refine va_get (D := (dC, dI)) (ci := 12) (v := .int i10) (C := RX12) (T := TX12) (N := 42) hx hb hwd inlX12 hown hK hP 0 rfl rfl 23 (by decide) (hwd _ kr31_20) (fun _ h9 => h9) rfl dX12_ends_5 ?_
  refine lv_iconst (v := 1) hx hb dX12_ends_8 (by decide) ?_
  refine lv_isub hx hb dX12_ends_9 ?_
  refine lv_topi (fun x1 ex1 => ?_)
  have tx1 := ia_sub (a := i10) (b := (1 : Int32)) (by omega) (by omega)
  rw [← ex1] at tx1
  refine lv_dup2_11 hx hb dX12_ends_10 rfl rfl ?_
  have h2 : vp_in x1 6 := (vp_of (by omega) (by omega))
  refine va_iald hx hb hK hP 1 0 rfl rfl h2 dX12_ends_11 ?_
  refine lv_topi (fun x3 ex3 => ?_)
  refine lv_iconst (v := 1) hx hb dX12_ends_12 (by decide) ?_
  refine lv_isub hx hb dX12_ends_13 ?_
  refine lv_topi (fun x4 ex4 => ?_)
  refine va_iast hx hb hK hP hD hS 1 0 rfl rfl (vp_of (by omega) (by omega)) dX12_ends_14 (fun H locs hP hD hS => ?_)
  obtain ⟨f5, ef5⟩ : ∃ f, f = upd xF13 x1.toNatClampNeg x4 := ⟨_, rfl⟩
  have hP : va_P (dC, dI) vwCl [(a0, .inr (12, [.int i0, .ref a1, .ref a2, .ref a3, .ref a4, .int i1, .ref a5, .int i2, .int i3, .int i4, .int i5, .int i6, .int i7, .int i8, .ref a6, .ref a7, .ref a8, .ref a9, .ref a10, .ref a11, .ref a12, .int i9, .ref a13, .int i10, .ref a14, .ref a15, .int i11, .ref a16, .ref a17, .ref a18, .ref a19, .int i12, .int i13, .int i14, .int i15, .int i16, .ref a20, .long j0, .ref a21, .ref a22, .ref a23, .ref a24])), (a14, .inl (cI, 6, .inl f5)), (a15, .inl (cI, 6, .inl xF14))] H := by rw [ef5]; exact hP
  have hD : va_D A [(a0, .inr (12, [.int i0, .ref a1, .ref a2, .ref a3, .ref a4, .int i1, .ref a5, .int i2, .int i3, .int i4, .int i5, .int i6, .int i7, .int i8, .ref a6, .ref a7, .ref a8, .ref a9, .ref a10, .ref a11, .ref a12, .int i9, .ref a13, .int i10, .ref a14, .ref a15, .int i11, .ref a16, .ref a17, .ref a18, .ref a19, .int i12, .int i13, .int i14, .int i15, .int i16, .ref a20, .long j0, .ref a21, .ref a22, .ref a23, .ref a24])), (a14, .inl (cI, 6, .inl f5)), (a15, .inl (cI, 6, .inl xF14))] := by rw [ef5]; exact hD
  refine lv_aload_n hx hb dX12_ends_15 rfl (lv_at hl 0 rfl) ?_
  refine va_get (D := (dC, dI)) (ci := 12) (v := .ref a14) (C := RX12) (T := TX12) (N := 42) hx hb hwd inlX12 hown hK hP 0 rfl rfl 24 (by decide) (hwd _ kr7_17) (fun _ h9 => h9) rfl dX12_ends_16 ?_
  refine lv_aload_n hx hb dX12_ends_19 rfl (lv_at hl 0 rfl) ?_
  refine va_get (D := (dC, dI)) (ci := 12) (v := .int i10) (C := RX12) (T := TX12) (N := 42) hx hb hwd inlX12 hown hK hP 0 rfl rfl 23 (by decide) (hwd _ kr31_20) (fun _ h9 => h9) rfl dX12_ends_20 ?_
  refine lv_iconst (v := 1) hx hb dX12_ends_23 (by decide) ?_
  refine lv_isub hx hb dX12_ends_24 ?_
  refine lv_topi (fun x6 ex6 => ?_)
  have tx6 := ia_sub (a := i10) (b := (1 : Int32)) (by omega) (by omega)
  rw [← ex6] at tx6
  have h7 : vp_in x6 6 := (vp_of (by omega) (by omega))
  refine va_iald hx hb hK hP 1 0 rfl rfl h7 dX12_ends_25 ?_
  refine lv_topi (fun x8 ex8 => ?_)
  have jp1 : ∀ (H : Heap) (locs : List Loc) (ls : Array Slot), va_P (dC, dI) vwCl [(a0, .inr (12, [.int i0, .ref a1, .ref a2, .ref a3, .ref a4, .int i1, .ref a5, .int i2, .int i3, .int i4, .int i5, .int i6, .int i7, .int i8, .ref a6, .ref a7, .ref a8, .ref a9, .ref a10, .ref a11, .ref a12, .int i9, .ref a13, .int i10, .ref a14, .ref a15, .int i11, .ref a16, .ref a17, .ref a18, .ref a19, .int i12, .int i13, .int i14, .int i15, .int i16, .ref a20, .long j0, .ref a21, .ref a22, .ref a23, .ref a24])), (a14, .inl (cI, 6, .inl f5)), (a15, .inl (cI, 6, .inl xF14))] H → va_D A [(a0, .inr (12, [.int i0, .ref a1, .ref a2, .ref a3, .ref a4, .int i1, .ref a5, .int i2, .int i3, .int i4, .int i5, .int i6, .int i7, .int i8, .ref a6, .ref a7, .ref a8, .ref a9, .ref a10, .ref a11, .ref a12, .int i9, .ref a13, .int i10, .ref a14, .ref a15, .int i11, .ref a16, .ref a17, .ref a18, .ref a19, .int i12, .int i13, .int i14, .int i15, .int i16, .ref a20, .long j0, .ref a21, .ref a22, .ref a23, .ref a24])), (a14, .inl (cI, 6, .inl f5)), (a15, .inl (cI, 6, .inl xF14))] → va_S A s.heap H locs → lv_has ls 3 [(0, .ref a0), (1, .int p0), (2, .int p1)] → W p l e ({ frames := 0, cells := 0, slots := 0, locals := 0 } : Room) s m ([.ref a0, .int p0, .int p1] : List Value).toArray below meth c H locs 0 0 Q (F0 m 66 ls []) := by
    intro H locs ls  hP hD hS hl
    refine lv_aload_n hx hb dX12_ends_66 rfl (lv_at hl 0 rfl) ?_
    refine lv_dup hx hb dX12_ends_67 rfl ?_
    refine va_get (D := (dC, dI)) (ci := 12) (v := .int i10) (C := RX12) (T := TX12) (N := 42) hx hb hwd inlX12 hown hK hP 0 rfl rfl 23 (by decide) (hwd _ kr31_20) (fun _ h9 => h9) rfl dX12_ends_68 ?_
    refine lv_iconst (v := 1) hx hb dX12_ends_71 (by decide) ?_
    refine lv_isub hx hb dX12_ends_72 ?_
    refine lv_topi (fun x14 ex14 => ?_)
    have tx14 := ia_sub (a := i10) (b := (1 : Int32)) (by omega) (by omega)
    rw [← ex14] at tx14
    refine va_put (D := (dC, dI)) (ci := 12) (v := .int x14) (ty := .int) (C := RX12) (T := TX12) (N := 42) hx hb hwd inlX12 tyX12 tyX12_ok nmX12 hown hK hP hD hS 0 rfl rfl 23 (by decide) (hwd _ kr31_20) (fun _ h9 => h9) rfl (by decide +kernel) rfl rfl (Nat.le_of_ble_eq_true rfl) dX12_ends_73 (fun H locs hP hD hS => ?_)
    have hP : va_P (dC, dI) vwCl [(a0, .inr (12, [.int i0, .ref a1, .ref a2, .ref a3, .ref a4, .int i1, .ref a5, .int i2, .int i3, .int i4, .int i5, .int i6, .int i7, .int i8, .ref a6, .ref a7, .ref a8, .ref a9, .ref a10, .ref a11, .ref a12, .int i9, .ref a13, .int x14, .ref a14, .ref a15, .int i11, .ref a16, .ref a17, .ref a18, .ref a19, .int i12, .int i13, .int i14, .int i15, .int i16, .ref a20, .long j0, .ref a21, .ref a22, .ref a23, .ref a24])), (a14, .inl (cI, 6, .inl f5)), (a15, .inl (cI, 6, .inl xF14))] H := hP
    have hD : va_D A [(a0, .inr (12, [.int i0, .ref a1, .ref a2, .ref a3, .ref a4, .int i1, .ref a5, .int i2, .int i3, .int i4, .int i5, .int i6, .int i7, .int i8, .ref a6, .ref a7, .ref a8, .ref a9, .ref a10, .ref a11, .ref a12, .int i9, .ref a13, .int x14, .ref a14, .ref a15, .int i11, .ref a16, .ref a17, .ref a18, .ref a19, .int i12, .int i13, .int i14, .int i15, .int i16, .ref a20, .long j0, .ref a21, .ref a22, .ref a23, .ref a24])), (a14, .inl (cI, 6, .inl f5)), (a15, .inl (cI, 6, .inl xF14))] := hD
    refine lv_iload_n hx hb dX12_ends_76 rfl (lv_at hl 1 rfl) ?_
    refine lv_iconst (v := 1) hx hb dX12_ends_77 (by decide) ?_
    refine lv_iadd hx hb dX12_ends_78 ?_
    refine lv_topi (fun x15 ex15 => ?_)
    have tx15 := ia_add (a := p0) (b := (1 : Int32)) (by omega) (by omega)
    rw [← ex15] at tx15
    have hP9 := hP.sub (ws' := [(a0, .inr (12, [.int i0, .ref a1, .ref a2, .ref a3, .ref a4, .int i1, .ref a5, .int i2, .int i3, .int i4, .int i5, .int i6, .int i7, .int i8, .ref a6, .ref a7, .ref a8, .ref a9, .ref a10, .ref a11, .ref a12, .int i9, .ref a13, .int x14, .ref a14, .ref a15, .int i11, .ref a16, .ref a17, .ref a18, .ref a19, .int i12, .int i13, .int i14, .int i15, .int i16, .ref a20, .long j0, .ref a21, .ref a22, .ref a23, .ref a24])), (a14, .inl (cI, 6, .inl f5)), (a15, .inl (cI, 6, .inl xF14))]) [0, 1, 2] rfl
    have hD9 := hD.sub (ws' := [(a0, .inr (12, [.int i0, .ref a1, .ref a2, .ref a3, .ref a4, .int i1, .ref a5, .int i2, .int i3, .int i4, .int i5, .int i6, .int i7, .int i8, .ref a6, .ref a7, .ref a8, .ref a9, .ref a10, .ref a11, .ref a12, .int i9, .ref a13, .int x14, .ref a14, .ref a15, .int i11, .ref a16, .ref a17, .ref a18, .ref a19, .int i12, .int i13, .int i14, .int i15, .int i16, .ref a20, .long j0, .ref a21, .ref a22, .ref a23, .ref a24])), (a14, .inl (cI, 6, .inl f5)), (a15, .inl (cI, 6, .inl xF14))]) [0, 1, 2] (by decide) rfl
    rw [hQ]
    exact W.iret (v := x15) hx hb hr (fun t ht hW => ⟨⟨x15, (pickG 0 [x14], pickG (fun _ => 0) [f5, xF14], pickG (fun _ => 0) []), rfl, ⟨(show (1 : Int) ≤ x15.toInt ∧ x15.toInt ≤ 400 from ⟨by omega, by omega⟩), (show EN xF14 i10.toInt i11.toInt p0.toInt p1.toInt x15.toInt x14.toInt xF14 from Or.inr ⟨by omega, by omega, rfl⟩), trivial⟩, (by rw [ht]; exact hP9), hD9⟩, hS.F ht⟩) hS.2.2 dX12_ends_79
  refine lv_if_le (tgt := 66) hx hb dX12_ends_26 (by decide) (fun c16 => ?_) (fun c16 => ?_)
  · rw [ki_le] at c16
    exact jp1 _ _ ls  (hP.sub (ws' := [(a0, .inr (12, [.int i0, .ref a1, .ref a2, .ref a3, .ref a4, .int i1, .ref a5, .int i2, .int i3, .int i4, .int i5, .int i6, .int i7, .int i8, .ref a6, .ref a7, .ref a8, .ref a9, .ref a10, .ref a11, .ref a12, .int i9, .ref a13, .int i10, .ref a14, .ref a15, .int i11, .ref a16, .ref a17, .ref a18, .ref a19, .int i12, .int i13, .int i14, .int i15, .int i16, .ref a20, .long j0, .ref a21, .ref a22, .ref a23, .ref a24])), (a14, .inl (cI, 6, .inl f5)), (a15, .inl (cI, 6, .inl xF14))]) [0, 1, 2] rfl) (hD.sub (ws' := [(a0, .inr (12, [.int i0, .ref a1, .ref a2, .ref a3, .ref a4, .int i1, .ref a5, .int i2, .int i3, .int i4, .int i5, .int i6, .int i7, .int i8, .ref a6, .ref a7, .ref a8, .ref a9, .ref a10, .ref a11, .ref a12, .int i9, .ref a13, .int i10, .ref a14, .ref a15, .int i11, .ref a16, .ref a17, .ref a18, .ref a19, .int i12, .int i13, .int i14, .int i15, .int i16, .ref a20, .long j0, .ref a21, .ref a22, .ref a23, .ref a24])), (a14, .inl (cI, 6, .inl f5)), (a15, .inl (cI, 6, .inl xF14))]) [0, 1, 2] (by decide) rfl) hS (lv_sub hl [0, 1, 2] rfl)
  · rw [ki_le] at c16
    refine lv_aload_n hx hb dX12_ends_29 rfl (lv_at hl 0 rfl) ?_
    refine va_get (D := (dC, dI)) (ci := 12) (v := .int i11) (C := RX12) (T := TX12) (N := 42) hx hb hwd inlX12 hown hK hP 0 rfl rfl 26 (by decide) (hwd _ kr31_21) (fun _ h9 => h9) rfl dX12_ends_30 ?_
    refine lv_aload_n hx hb dX12_ends_33 rfl (lv_at hl 0 rfl) ?_
    refine va_get (D := (dC, dI)) (ci := 12) (v := .ref a15) (C := RX12) (T := TX12) (N := 42) hx hb hwd inlX12 hown hK hP 0 rfl rfl 25 (by decide) (hwd _ kr7_18) (fun _ h9 => h9) rfl dX12_ends_34 ?_
    refine lv_aload_n hx hb dX12_ends_37 rfl (lv_at hl 0 rfl) ?_
    refine va_get (D := (dC, dI)) (ci := 12) (v := .int i10) (C := RX12) (T := TX12) (N := 42) hx hb hwd inlX12 hown hK hP 0 rfl rfl 23 (by decide) (hwd _ kr31_20) (fun _ h9 => h9) rfl dX12_ends_38 ?_
    refine lv_iconst (v := 1) hx hb dX12_ends_41 (by decide) ?_
    refine lv_isub hx hb dX12_ends_42 ?_
    refine lv_topi (fun x17 ex17 => ?_)
    have tx17 := ia_sub (a := i10) (b := (1 : Int32)) (by omega) (by omega)
    rw [← ex17] at tx17
    have h18 : vp_in x17 6 := (vp_of (by omega) (by omega))
    refine va_iald hx hb hK hP 2 0 rfl rfl h18 dX12_ends_43 ?_
    refine lv_topi (fun x19 ex19 => ?_)
    refine lv_icmp_le (tgt := 66) hx hb dX12_ends_44 (by decide) (fun c20 => ?_) (fun c20 => ?_)
    · rw [ki_le] at c20
      exact jp1 _ _ ls  (hP.sub (ws' := [(a0, .inr (12, [.int i0, .ref a1, .ref a2, .ref a3, .ref a4, .int i1, .ref a5, .int i2, .int i3, .int i4, .int i5, .int i6, .int i7, .int i8, .ref a6, .ref a7, .ref a8, .ref a9, .ref a10, .ref a11, .ref a12, .int i9, .ref a13, .int i10, .ref a14, .ref a15, .int i11, .ref a16, .ref a17, .ref a18, .ref a19, .int i12, .int i13, .int i14, .int i15, .int i16, .ref a20, .long j0, .ref a21, .ref a22, .ref a23, .ref a24])), (a14, .inl (cI, 6, .inl f5)), (a15, .inl (cI, 6, .inl xF14))]) [0, 1, 2] rfl) (hD.sub (ws' := [(a0, .inr (12, [.int i0, .ref a1, .ref a2, .ref a3, .ref a4, .int i1, .ref a5, .int i2, .int i3, .int i4, .int i5, .int i6, .int i7, .int i8, .ref a6, .ref a7, .ref a8, .ref a9, .ref a10, .ref a11, .ref a12, .int i9, .ref a13, .int i10, .ref a14, .ref a15, .int i11, .ref a16, .ref a17, .ref a18, .ref a19, .int i12, .int i13, .int i14, .int i15, .int i16, .ref a20, .long j0, .ref a21, .ref a22, .ref a23, .ref a24])), (a14, .inl (cI, 6, .inl f5)), (a15, .inl (cI, 6, .inl xF14))]) [0, 1, 2] (by decide) rfl) hS (lv_sub hl [0, 1, 2] rfl)
    · rw [ki_le] at c20
      refine lv_aload_n hx hb dX12_ends_47 rfl (lv_at hl 0 rfl) ?_
      refine va_get (D := (dC, dI)) (ci := 12) (v := .ref a15) (C := RX12) (T := TX12) (N := 42) hx hb hwd inlX12 hown hK hP 0 rfl rfl 25 (by decide) (hwd _ kr7_18) (fun _ h9 => h9) rfl dX12_ends_48 ?_
      refine lv_aload_n hx hb dX12_ends_51 rfl (lv_at hl 0 rfl) ?_
      refine va_get (D := (dC, dI)) (ci := 12) (v := .int i10) (C := RX12) (T := TX12) (N := 42) hx hb hwd inlX12 hown hK hP 0 rfl rfl 23 (by decide) (hwd _ kr31_20) (fun _ h9 => h9) rfl dX12_ends_52 ?_
      refine lv_iconst (v := 1) hx hb dX12_ends_55 (by decide) ?_
      refine lv_isub hx hb dX12_ends_56 ?_
      refine lv_topi (fun x21 ex21 => ?_)
      have tx21 := ia_sub (a := i10) (b := (1 : Int32)) (by omega) (by omega)
      rw [← ex21] at tx21
      refine lv_aload_n hx hb dX12_ends_57 rfl (lv_at hl 0 rfl) ?_
      refine va_get (D := (dC, dI)) (ci := 12) (v := .int i11) (C := RX12) (T := TX12) (N := 42) hx hb hwd inlX12 hown hK hP 0 rfl rfl 26 (by decide) (hwd _ kr31_21) (fun _ h9 => h9) rfl dX12_ends_58 ?_
      refine va_iast hx hb hK hP hD hS 2 0 rfl rfl (vp_of (by omega) (by omega)) dX12_ends_61 (fun H locs hP hD hS => ?_)
      obtain ⟨f22, ef22⟩ : ∃ f, f = upd xF14 x21.toNatClampNeg i11 := ⟨_, rfl⟩
      have hP : va_P (dC, dI) vwCl [(a0, .inr (12, [.int i0, .ref a1, .ref a2, .ref a3, .ref a4, .int i1, .ref a5, .int i2, .int i3, .int i4, .int i5, .int i6, .int i7, .int i8, .ref a6, .ref a7, .ref a8, .ref a9, .ref a10, .ref a11, .ref a12, .int i9, .ref a13, .int i10, .ref a14, .ref a15, .int i11, .ref a16, .ref a17, .ref a18, .ref a19, .int i12, .int i13, .int i14, .int i15, .int i16, .ref a20, .long j0, .ref a21, .ref a22, .ref a23, .ref a24])), (a14, .inl (cI, 6, .inl f5)), (a15, .inl (cI, 6, .inl f22))] H := by rw [ef22]; exact hP
      have hD : va_D A [(a0, .inr (12, [.int i0, .ref a1, .ref a2, .ref a3, .ref a4, .int i1, .ref a5, .int i2, .int i3, .int i4, .int i5, .int i6, .int i7, .int i8, .ref a6, .ref a7, .ref a8, .ref a9, .ref a10, .ref a11, .ref a12, .int i9, .ref a13, .int i10, .ref a14, .ref a15, .int i11, .ref a16, .ref a17, .ref a18, .ref a19, .int i12, .int i13, .int i14, .int i15, .int i16, .ref a20, .long j0, .ref a21, .ref a22, .ref a23, .ref a24])), (a14, .inl (cI, 6, .inl f5)), (a15, .inl (cI, 6, .inl f22))] := by rw [ef22]; exact hD
      refine lv_iload_n hx hb dX12_ends_62 rfl (lv_at hl 2 rfl) ?_
      refine lv_iconst (v := 1) hx hb dX12_ends_63 (by decide) ?_
      refine lv_iadd hx hb dX12_ends_64 ?_
      refine lv_topi (fun x23 ex23 => ?_)
      have tx23 := ia_add (a := p1) (b := (1 : Int32)) (by omega) (by omega)
      rw [← ex23] at tx23
      have hP9 := hP.sub (ws' := [(a0, .inr (12, [.int i0, .ref a1, .ref a2, .ref a3, .ref a4, .int i1, .ref a5, .int i2, .int i3, .int i4, .int i5, .int i6, .int i7, .int i8, .ref a6, .ref a7, .ref a8, .ref a9, .ref a10, .ref a11, .ref a12, .int i9, .ref a13, .int i10, .ref a14, .ref a15, .int i11, .ref a16, .ref a17, .ref a18, .ref a19, .int i12, .int i13, .int i14, .int i15, .int i16, .ref a20, .long j0, .ref a21, .ref a22, .ref a23, .ref a24])), (a14, .inl (cI, 6, .inl f5)), (a15, .inl (cI, 6, .inl f22))]) [0, 1, 2] rfl
      have hD9 := hD.sub (ws' := [(a0, .inr (12, [.int i0, .ref a1, .ref a2, .ref a3, .ref a4, .int i1, .ref a5, .int i2, .int i3, .int i4, .int i5, .int i6, .int i7, .int i8, .ref a6, .ref a7, .ref a8, .ref a9, .ref a10, .ref a11, .ref a12, .int i9, .ref a13, .int i10, .ref a14, .ref a15, .int i11, .ref a16, .ref a17, .ref a18, .ref a19, .int i12, .int i13, .int i14, .int i15, .int i16, .ref a20, .long j0, .ref a21, .ref a22, .ref a23, .ref a24])), (a14, .inl (cI, 6, .inl f5)), (a15, .inl (cI, 6, .inl f22))]) [0, 1, 2] (by decide) rfl
      rw [hQ]
      exact W.iret (v := x23) hx hb hr (fun t ht hW => ⟨⟨x23, (pickG 0 [i10], pickG (fun _ => 0) [f5, f22], pickG (fun _ => 0) []), rfl, ⟨(show (1 : Int) ≤ x23.toInt ∧ x23.toInt ≤ 400 from ⟨by omega, by omega⟩), (show EN xF14 i10.toInt i11.toInt p0.toInt p1.toInt x23.toInt i10.toInt f22 from by rw [ef22]; exact EN_back (by omega) (by omega) (by omega) ex19 (by omega) (by omega) (by omega) (by omega)), trivial⟩, (by rw [ht]; exact hP9), hD9⟩, hS.F ht⟩) hS.2.2 dX12_ends_65
theorem dX12_does_0 : decode cX12_does 0 = .ok (.aload_n 0, 1) := by decide +kernel
theorem dX12_does_1 : decode cX12_does 1 = .ok (.getfield 52, 3) := by decide +kernel
theorem dX12_does_4 : decode cX12_does 4 = .ok (.iconst 4, 1) := by decide +kernel
theorem dX12_does_5 : decode cX12_does 5 = .ok (.iload_n 1, 1) := by decide +kernel
theorem dX12_does_6 : decode cX12_does 6 = .ok (.imul, 1) := by decide +kernel
theorem dX12_does_7 : decode cX12_does 7 = .ok (.iconst 1, 1) := by decide +kernel
theorem dX12_does_8 : decode cX12_does 8 = .ok (.iadd, 1) := by decide +kernel
theorem dX12_does_9 : decode cX12_does 9 = .ok (.iaload, 1) := by decide +kernel
theorem dX12_does_10 : decode cX12_does 10 = .ok (.istore_n 2, 1) := by decide +kernel
theorem dX12_does_11 : decode cX12_does 11 = .ok (.aload_n 0, 1) := by decide +kernel
theorem dX12_does_12 : decode cX12_does 12 = .ok (.getfield 52, 3) := by decide +kernel
theorem dX12_does_15 : decode cX12_does 15 = .ok (.iconst 4, 1) := by decide +kernel
theorem dX12_does_16 : decode cX12_does 16 = .ok (.iload_n 1, 1) := by decide +kernel
theorem dX12_does_17 : decode cX12_does 17 = .ok (.imul, 1) := by decide +kernel
theorem dX12_does_18 : decode cX12_does 18 = .ok (.iaload, 1) := by decide +kernel
theorem dX12_does_19 : decode cX12_does 19 = .ok (.tableswitch 203 0 4 #[33, 42, 52, 89, 126], 33) := by decide +kernel
theorem dX12_does_52 : decode cX12_does 52 = .ok (.aload_n 0, 1) := by decide +kernel
theorem dX12_does_53 : decode cX12_does 53 = .ok (.iload_n 2, 1) := by decide +kernel
theorem dX12_does_54 : decode cX12_does 54 = .ok (.invokevirtual 384, 3) := by decide +kernel
theorem dX12_does_57 : decode cX12_does 57 = .ok (.iload_n 1, 1) := by decide +kernel
theorem dX12_does_58 : decode cX12_does 58 = .ok (.iconst 1, 1) := by decide +kernel
theorem dX12_does_59 : decode cX12_does 59 = .ok (.iadd, 1) := by decide +kernel
theorem dX12_does_60 : decode cX12_does 60 = .ok (.ireturn, 1) := by decide +kernel
theorem dX12_does_61 : decode cX12_does 61 = .ok (.aload_n 0, 1) := by decide +kernel
theorem dX12_does_62 : decode cX12_does 62 = .ok (.iload_n 2, 1) := by decide +kernel
theorem dX12_does_63 : decode cX12_does 63 = .ok (.ineg, 1) := by decide +kernel
theorem dX12_does_64 : decode cX12_does 64 = .ok (.invokevirtual 384, 3) := by decide +kernel
theorem dX12_does_67 : decode cX12_does 67 = .ok (.iload_n 1, 1) := by decide +kernel
theorem dX12_does_68 : decode cX12_does 68 = .ok (.iconst 1, 1) := by decide +kernel
theorem dX12_does_69 : decode cX12_does 69 = .ok (.iadd, 1) := by decide +kernel
theorem dX12_does_70 : decode cX12_does 70 = .ok (.ireturn, 1) := by decide +kernel
theorem dX12_does_71 : decode cX12_does 71 = .ok (.iconst 0, 1) := by decide +kernel
theorem dX12_does_72 : decode cX12_does 72 = .ok (.istore_n 3, 1) := by decide +kernel
theorem dX12_does_73 : decode cX12_does 73 = .ok (.iload_n 3, 1) := by decide +kernel
theorem dX12_does_74 : decode cX12_does 74 = .ok (.iload_n 2, 1) := by decide +kernel
theorem dX12_does_75 : decode cX12_does 75 = .ok (.if_icmp .ge 29, 3) := by decide +kernel
theorem dX12_does_78 : decode cX12_does 78 = .ok (.aload_n 0, 1) := by decide +kernel
theorem dX12_does_79 : decode cX12_does 79 = .ok (.getfield 381, 3) := by decide +kernel
theorem dX12_does_82 : decode cX12_does 82 = .ok (.aload_n 0, 1) := by decide +kernel
theorem dX12_does_83 : decode cX12_does 83 = .ok (.getfield 13, 3) := by decide +kernel
theorem dX12_does_86 : decode cX12_does 86 = .ok (.iconst 1, 1) := by decide +kernel
theorem dX12_does_87 : decode cX12_does 87 = .ok (.iaload, 1) := by decide +kernel
theorem dX12_does_88 : decode cX12_does 88 = .ok (.iconst 1, 1) := by decide +kernel
theorem dX12_does_89 : decode cX12_does 89 = .ok (.isub, 1) := by decide +kernel
theorem dX12_does_90 : decode cX12_does 90 = .ok (.if_icmp .ge 14, 3) := by decide +kernel
theorem dX12_does_93 : decode cX12_does 93 = .ok (.aload_n 0, 1) := by decide +kernel
theorem dX12_does_94 : decode cX12_does 94 = .ok (.iconst 0, 1) := by decide +kernel
theorem dX12_does_95 : decode cX12_does 95 = .ok (.invokevirtual 384, 3) := by decide +kernel
theorem dX12_does_98 : decode cX12_does 98 = .ok (.iinc 3 1, 3) := by decide +kernel
theorem dX12_does_101 : decode cX12_does 101 = .ok (.goto (-28), 3) := by decide +kernel
theorem dX12_does_104 : decode cX12_does 104 = .ok (.iload_n 1, 1) := by decide +kernel
theorem dX12_does_105 : decode cX12_does 105 = .ok (.iconst 1, 1) := by decide +kernel
theorem dX12_does_106 : decode cX12_does 106 = .ok (.iadd, 1) := by decide +kernel
theorem dX12_does_107 : decode cX12_does 107 = .ok (.ireturn, 1) := by decide +kernel
theorem dX12_does_108 : decode cX12_does 108 = .ok (.aload_n 0, 1) := by decide +kernel
theorem dX12_does_109 : decode cX12_does 109 = .ok (.getfield 58, 3) := by decide +kernel
theorem dX12_does_112 : decode cX12_does 112 = .ok (.aload_n 0, 1) := by decide +kernel
theorem dX12_does_113 : decode cX12_does 113 = .ok (.getfield 357, 3) := by decide +kernel
theorem dX12_does_116 : decode cX12_does 116 = .ok (.iload_n 2, 1) := by decide +kernel
theorem dX12_does_117 : decode cX12_does 117 = .ok (.iastore, 1) := by decide +kernel
theorem dX12_does_118 : decode cX12_does 118 = .ok (.aload_n 0, 1) := by decide +kernel
theorem dX12_does_119 : decode cX12_does 119 = .ok (.getfield 61, 3) := by decide +kernel
theorem dX12_does_122 : decode cX12_does 122 = .ok (.aload_n 0, 1) := by decide +kernel
theorem dX12_does_123 : decode cX12_does 123 = .ok (.getfield 357, 3) := by decide +kernel
theorem dX12_does_126 : decode cX12_does 126 = .ok (.aload_n 0, 1) := by decide +kernel
theorem dX12_does_127 : decode cX12_does 127 = .ok (.getfield 381, 3) := by decide +kernel
theorem dX12_does_130 : decode cX12_does 130 = .ok (.iastore, 1) := by decide +kernel
theorem dX12_does_131 : decode cX12_does 131 = .ok (.aload_n 0, 1) := by decide +kernel
theorem dX12_does_132 : decode cX12_does 132 = .ok (.dup, 1) := by decide +kernel
theorem dX12_does_133 : decode cX12_does 133 = .ok (.getfield 357, 3) := by decide +kernel
theorem dX12_does_136 : decode cX12_does 136 = .ok (.iconst 1, 1) := by decide +kernel
theorem dX12_does_137 : decode cX12_does 137 = .ok (.iadd, 1) := by decide +kernel
theorem dX12_does_138 : decode cX12_does 138 = .ok (.putfield 357, 3) := by decide +kernel
theorem dX12_does_141 : decode cX12_does 141 = .ok (.iload_n 1, 1) := by decide +kernel
theorem dX12_does_142 : decode cX12_does 142 = .ok (.iconst 1, 1) := by decide +kernel
theorem dX12_does_143 : decode cX12_does 143 = .ok (.iadd, 1) := by decide +kernel
theorem dX12_does_144 : decode cX12_does 144 = .ok (.ireturn, 1) := by decide +kernel
theorem dX12_does_145 : decode cX12_does 145 = .ok (.aload_n 0, 1) := by decide +kernel
theorem dX12_does_146 : decode cX12_does 146 = .ok (.getfield 40, 3) := by decide +kernel
theorem dX12_does_149 : decode cX12_does 149 = .ok (.bipush 60, 2) := by decide +kernel
theorem dX12_does_151 : decode cX12_does 151 = .ok (.aload_n 0, 1) := by decide +kernel
theorem dX12_does_152 : decode cX12_does 152 = .ok (.getfield 52, 3) := by decide +kernel
theorem dX12_does_155 : decode cX12_does 155 = .ok (.iconst 4, 1) := by decide +kernel
theorem dX12_does_156 : decode cX12_does 156 = .ok (.iload_n 1, 1) := by decide +kernel
theorem dX12_does_157 : decode cX12_does 157 = .ok (.imul, 1) := by decide +kernel
theorem dX12_does_158 : decode cX12_does 158 = .ok (.iconst 2, 1) := by decide +kernel
theorem dX12_does_159 : decode cX12_does 159 = .ok (.iadd, 1) := by decide +kernel
theorem dX12_does_160 : decode cX12_does 160 = .ok (.iaload, 1) := by decide +kernel
theorem dX12_does_161 : decode cX12_does 161 = .ok (.imul, 1) := by decide +kernel
theorem dX12_does_162 : decode cX12_does 162 = .ok (.aload_n 0, 1) := by decide +kernel
theorem dX12_does_163 : decode cX12_does 163 = .ok (.getfield 381, 3) := by decide +kernel
theorem dX12_does_166 : decode cX12_does 166 = .ok (.iadd, 1) := by decide +kernel
theorem dX12_does_167 : decode cX12_does 167 = .ok (.iaload, 1) := by decide +kernel
theorem dX12_does_168 : decode cX12_does 168 = .ok (.iload_n 2, 1) := by decide +kernel
theorem dX12_does_169 : decode cX12_does 169 = .ok (.if_icmp .gt 16, 3) := by decide +kernel
theorem dX12_does_172 : decode cX12_does 172 = .ok (.aload_n 0, 1) := by decide +kernel
theorem dX12_does_173 : decode cX12_does 173 = .ok (.getfield 52, 3) := by decide +kernel
theorem dX12_does_176 : decode cX12_does 176 = .ok (.iconst 4, 1) := by decide +kernel
theorem dX12_does_177 : decode cX12_does 177 = .ok (.iload_n 1, 1) := by decide +kernel
theorem dX12_does_178 : decode cX12_does 178 = .ok (.imul, 1) := by decide +kernel
theorem dX12_does_179 : decode cX12_does 179 = .ok (.iconst 3, 1) := by decide +kernel
theorem dX12_does_180 : decode cX12_does 180 = .ok (.iadd, 1) := by decide +kernel
theorem dX12_does_181 : decode cX12_does 181 = .ok (.iaload, 1) := by decide +kernel
theorem dX12_does_182 : decode cX12_does 182 = .ok (.iconst 1, 1) := by decide +kernel
theorem dX12_does_183 : decode cX12_does 183 = .ok (.iadd, 1) := by decide +kernel
theorem dX12_does_184 : decode cX12_does 184 = .ok (.ireturn, 1) := by decide +kernel
theorem dX12_does_185 : decode cX12_does 185 = .ok (.aload_n 0, 1) := by decide +kernel
theorem dX12_does_186 : decode cX12_does 186 = .ok (.getfield 58, 3) := by decide +kernel
theorem dX12_does_189 : decode cX12_does 189 = .ok (.aload_n 0, 1) := by decide +kernel
theorem dX12_does_190 : decode cX12_does 190 = .ok (.getfield 357, 3) := by decide +kernel
theorem dX12_does_193 : decode cX12_does 193 = .ok (.iconst 1, 1) := by decide +kernel
theorem dX12_does_194 : decode cX12_does 194 = .ok (.iastore, 1) := by decide +kernel
theorem dX12_does_195 : decode cX12_does 195 = .ok (.aload_n 0, 1) := by decide +kernel
theorem dX12_does_196 : decode cX12_does 196 = .ok (.getfield 61, 3) := by decide +kernel
theorem dX12_does_199 : decode cX12_does 199 = .ok (.aload_n 0, 1) := by decide +kernel
theorem dX12_does_200 : decode cX12_does 200 = .ok (.getfield 357, 3) := by decide +kernel
theorem dX12_does_203 : decode cX12_does 203 = .ok (.aload_n 0, 1) := by decide +kernel
theorem dX12_does_204 : decode cX12_does 204 = .ok (.getfield 381, 3) := by decide +kernel
theorem dX12_does_207 : decode cX12_does 207 = .ok (.iastore, 1) := by decide +kernel
theorem dX12_does_208 : decode cX12_does 208 = .ok (.aload_n 0, 1) := by decide +kernel
theorem dX12_does_209 : decode cX12_does 209 = .ok (.dup, 1) := by decide +kernel
theorem dX12_does_210 : decode cX12_does 210 = .ok (.getfield 357, 3) := by decide +kernel
theorem dX12_does_213 : decode cX12_does 213 = .ok (.iconst 1, 1) := by decide +kernel
theorem dX12_does_214 : decode cX12_does 214 = .ok (.iadd, 1) := by decide +kernel
theorem dX12_does_215 : decode cX12_does 215 = .ok (.putfield 357, 3) := by decide +kernel
theorem dX12_does_218 : decode cX12_does 218 = .ok (.iload_n 1, 1) := by decide +kernel
theorem dX12_does_219 : decode cX12_does 219 = .ok (.iconst 1, 1) := by decide +kernel
theorem dX12_does_220 : decode cX12_does 220 = .ok (.iadd, 1) := by decide +kernel
theorem dX12_does_221 : decode cX12_does 221 = .ok (.ireturn, 1) := by decide +kernel
theorem dX12_does_222 : decode cX12_does 222 = .ok (.aload_n 0, 1) := by decide +kernel
theorem dX12_does_223 : decode cX12_does 223 = .ok (.iload_n 1, 1) := by decide +kernel
theorem dX12_does_224 : decode cX12_does 224 = .ok (.iload_n 2, 1) := by decide +kernel
theorem dX12_does_225 : decode cX12_does 225 = .ok (.invokevirtual 387, 3) := by decide +kernel
theorem dX12_does_228 : decode cX12_does 228 = .ok (.ireturn, 1) := by decide +kernel
set_option maxHeartbeats 4000000 in
set_option maxRecDepth 100000 in
theorem s_X12_does (l : Launch) (dC : Nat → ClassId) (dI : Nat → Nat → Nat) (cI cZ cB cJ cM cG : ClassId) (a0 a1 a2 a3 a4 a5 a6 a7 a8 a9 a10 a11 a12 a13 a14 a15 a16 a17 a18 a19 a20 a21 a22 a23 a24 : Nat) (i0 i1 i2 i3 i4 i5 i6 i7 i8 i9 i10 i11 i12 i13 i14 i15 i16 : Int32) (j0 : Int64) (xF0 xF7 xF11 xF13 xF14 : Nat → Int32) (p0 : Int32) (cp : Int) (sz : Nat) (p_0 : (0 : Int) ≤ i1.toInt ∧ i1.toInt ≤ 1600) (p_1 : (0 : Int) ≤ i2.toInt ∧ i2.toInt ≤ 1600) (p_2 : (0 : Int) ≤ i3.toInt ∧ i3.toInt ≤ 1600) (p_3 : (0 : Int) ≤ i4.toInt ∧ i4.toInt ≤ 1600) (p_4 : (0 : Int) ≤ i5.toInt ∧ i5.toInt ≤ 6) (p_5 : (0 : Int) ≤ i7.toInt ∧ i7.toInt ≤ 3) (p_6 : (0 : Int) ≤ i11.toInt ∧ i11.toInt ≤ 59) (p_7 : WI cp xF0) (p_8 : (0 : Int) ≤ i9.toInt ∧ i9.toInt ≤ 400) (p_9 : (0 : Int) ≤ i10.toInt ∧ i10.toInt ≤ 5) (p_10 : (0 : Int) ≤ i11.toInt ∧ i11.toInt ≤ 58) (p_11 : p0.toInt < i9.toInt) (p_12 : PR xF11 i9.toInt) (p_13 : SG xF11 i9.toInt i10.toInt p0.toInt) (p_14 : i11.toInt + 1 < wat xF0 1) (p_15 : (0 : Int) ≤ p0.toInt ∧ p0.toInt ≤ 399) (p_16 : 0 ≤ cp ∧ cp ≤ 2000000000) : Met l yX12_does (kw yX12_does cX12_does 4 (some .int)) ({ frames := 2, cells := 0, slots := 0, locals := 46 } : Room) (va_Pc [.ref a0, .int p0] (kPre dC dI [(cI, .int), (cZ, .boolean), (cB, .byte), (cJ, .long), (cM, .object RX2), (cG, .array .int)] [(a0, .inr (12, [.int i0, .ref a1, .ref a2, .ref a3, .ref a4, .int i1, .ref a5, .int i2, .int i3, .int i4, .int i5, .int i6, .int i7, .int i8, .ref a6, .ref a7, .ref a8, .ref a9, .ref a10, .ref a11, .ref a12, .int i9, .ref a13, .int i10, .ref a14, .ref a15, .int i11, .ref a16, .ref a17, .ref a18, .ref a19, .int i12, .int i13, .int i14, .int i15, .int i16, .ref a20, .long j0, .ref a21, .ref a22, .ref a23, .ref a24])), (a1, .inl (cI, 544, .inl xF0)), (a8, .inl (cI, 600, .inl xF7)), (a12, .inl (cI, 2000, .inl xF11)), (a14, .inl (cI, 6, .inl xF13)), (a15, .inl (cI, 6, .inl xF14))] sz)) (va_Qi (fun (r : Int32) (u9 : (Nat → Int32) × (Nat → Nat → Int32) × (Nat → Nat → Int64)) => ((1 : Int) ≤ r.toInt ∧ r.toInt ≤ 400) ∧ ((0 : Int) ≤ (u9.1 1).toInt ∧ (u9.1 1).toInt ≤ 59) ∧ (WI cp (u9.2.1 0)) ∧ (DN xF11 i9.toInt xF14 i11.toInt i10.toInt p0.toInt (u9.2.1 2) (u9.1 1).toInt (u9.1 0).toInt r.toInt) ∧ True) (fun u9 t => va_P (dC, dI) vwCl [(a0, .inr (12, [.int i0, .ref a1, .ref a2, .ref a3, .ref a4, .int i1, .ref a5, .int i2, .int i3, .int i4, .int i5, .int i6, .int i7, .int i8, .ref a6, .ref a7, .ref a8, .ref a9, .ref a10, .ref a11, .ref a12, .int i9, .ref a13, .int (u9.1 0), .ref a14, .ref a15, .int (u9.1 1), .ref a16, .ref a17, .ref a18, .ref a19, .int i12, .int i13, .int i14, .int i15, .int i16, .ref a20, .long j0, .ref a21, .ref a22, .ref a23, .ref a24])), (a1, .inl (cI, 544, .inl (u9.2.1 0))), (a8, .inl (cI, 600, .inl xF7)), (a12, .inl (cI, 2000, .inl xF11)), (a14, .inl (cI, 6, .inl (u9.2.1 1))), (a15, .inl (cI, 6, .inl (u9.2.1 2)))] t.heap ∧ va_D (va_A [(a0, .inr (12, [.int i0, .ref a1, .ref a2, .ref a3, .ref a4, .int i1, .ref a5, .int i2, .int i3, .int i4, .int i5, .int i6, .int i7, .int i8, .ref a6, .ref a7, .ref a8, .ref a9, .ref a10, .ref a11, .ref a12, .int i9, .ref a13, .int i10, .ref a14, .ref a15, .int i11, .ref a16, .ref a17, .ref a18, .ref a19, .int i12, .int i13, .int i14, .int i15, .int i16, .ref a20, .long j0, .ref a21, .ref a22, .ref a23, .ref a24])), (a1, .inl (cI, 544, .inl xF0)), (a8, .inl (cI, 600, .inl xF7)), (a12, .inl (cI, 2000, .inl xF11)), (a14, .inl (cI, 6, .inl xF13)), (a15, .inl (cI, 6, .inl xF14))] sz) [(a0, .inr (12, [.int i0, .ref a1, .ref a2, .ref a3, .ref a4, .int i1, .ref a5, .int i2, .int i3, .int i4, .int i5, .int i6, .int i7, .int i8, .ref a6, .ref a7, .ref a8, .ref a9, .ref a10, .ref a11, .ref a12, .int i9, .ref a13, .int (u9.1 0), .ref a14, .ref a15, .int (u9.1 1), .ref a16, .ref a17, .ref a18, .ref a19, .int i12, .int i13, .int i14, .int i15, .int i16, .ref a20, .long j0, .ref a21, .ref a22, .ref a23, .ref a24])), (a1, .inl (cI, 544, .inl (u9.2.1 0))), (a8, .inl (cI, 600, .inl xF7)), (a12, .inl (cI, 2000, .inl xF11)), (a14, .inl (cI, 6, .inl (u9.2.1 1))), (a15, .inl (cI, 6, .inl (u9.2.1 2)))]) (va_A [(a0, .inr (12, [.int i0, .ref a1, .ref a2, .ref a3, .ref a4, .int i1, .ref a5, .int i2, .int i3, .int i4, .int i5, .int i6, .int i7, .int i8, .ref a6, .ref a7, .ref a8, .ref a9, .ref a10, .ref a11, .ref a12, .int i9, .ref a13, .int i10, .ref a14, .ref a15, .int i11, .ref a16, .ref a17, .ref a18, .ref a19, .int i12, .int i13, .int i14, .int i15, .int i16, .ref a20, .long j0, .ref a21, .ref a22, .ref a23, .ref a24])), (a1, .inl (cI, 544, .inl xF0)), (a8, .inl (cI, 600, .inl xF7)), (a12, .inl (cI, 2000, .inl xF11)), (a14, .inl (cI, 6, .inl xF13)), (a15, .inl (cI, 6, .inl xF14))] sz)) 0 0 (va_A [(a0, .inr (12, [.int i0, .ref a1, .ref a2, .ref a3, .ref a4, .int i1, .ref a5, .int i2, .int i3, .int i4, .int i5, .int i6, .int i7, .int i8, .ref a6, .ref a7, .ref a8, .ref a9, .ref a10, .ref a11, .ref a12, .int i9, .ref a13, .int i10, .ref a14, .ref a15, .int i11, .ref a16, .ref a17, .ref a18, .ref a19, .int i12, .int i13, .int i14, .int i15, .int i16, .ref a20, .long j0, .ref a21, .ref a22, .ref a23, .ref a24])), (a1, .inl (cI, 544, .inl xF0)), (a8, .inl (cI, 600, .inl xF7)), (a12, .inl (cI, 2000, .inl xF11)), (a14, .inl (cI, 6, .inl xF13)), (a15, .inl (cI, 6, .inl xF14))] sz) := by
  refine kEnter (by decide) (Nat.le_of_ble_eq_true rfl) ?_
  intro p e s m below meth c ls hx hb hr hml hown hlocks hin hwd hsz hP hK hD hl
  subst hsz
  generalize hAe : va_A [(a0, .inr (12, [.int i0, .ref a1, .ref a2, .ref a3, .ref a4, .int i1, .ref a5, .int i2, .int i3, .int i4, .int i5, .int i6, .int i7, .int i8, .ref a6, .ref a7, .ref a8, .ref a9, .ref a10, .ref a11, .ref a12, .int i9, .ref a13, .int i10, .ref a14, .ref a15, .int i11, .ref a16, .ref a17, .ref a18, .ref a19, .int i12, .int i13, .int i14, .int i15, .int i16, .ref a20, .long j0, .ref a21, .ref a22, .ref a23, .ref a24])), (a1, .inl (cI, 544, .inl xF0)), (a8, .inl (cI, 600, .inl xF7)), (a12, .inl (cI, 2000, .inl xF11)), (a14, .inl (cI, 6, .inl xF13)), (a15, .inl (cI, 6, .inl xF14))] s.heap.size = A at hD ⊢
  have hA : ∀ q : Nat, s.heap.size ≤ q → A q := fun q h => by rw [← hAe]; exact Or.inr h
  have hS : va_S A s.heap s.heap [] := va_S.rf
  have hl : lv_has ls 4 [(0, .ref a0), (1, .int p0)] := hl
  obtain ⟨Q, hQ⟩ : ∃ Q, Q = MQ below (va_Qi (fun (r : Int32) (u9 : (Nat → Int32) × (Nat → Nat → Int32) × (Nat → Nat → Int64)) => ((1 : Int) ≤ r.toInt ∧ r.toInt ≤ 400) ∧ ((0 : Int) ≤ (u9.1 1).toInt ∧ (u9.1 1).toInt ≤ 59) ∧ (WI cp (u9.2.1 0)) ∧ (DN xF11 i9.toInt xF14 i11.toInt i10.toInt p0.toInt (u9.2.1 2) (u9.1 1).toInt (u9.1 0).toInt r.toInt) ∧ True) (fun u9 t => va_P (dC, dI) vwCl [(a0, .inr (12, [.int i0, .ref a1, .ref a2, .ref a3, .ref a4, .int i1, .ref a5, .int i2, .int i3, .int i4, .int i5, .int i6, .int i7, .int i8, .ref a6, .ref a7, .ref a8, .ref a9, .ref a10, .ref a11, .ref a12, .int i9, .ref a13, .int (u9.1 0), .ref a14, .ref a15, .int (u9.1 1), .ref a16, .ref a17, .ref a18, .ref a19, .int i12, .int i13, .int i14, .int i15, .int i16, .ref a20, .long j0, .ref a21, .ref a22, .ref a23, .ref a24])), (a1, .inl (cI, 544, .inl (u9.2.1 0))), (a8, .inl (cI, 600, .inl xF7)), (a12, .inl (cI, 2000, .inl xF11)), (a14, .inl (cI, 6, .inl (u9.2.1 1))), (a15, .inl (cI, 6, .inl (u9.2.1 2)))] t.heap ∧ va_D A [(a0, .inr (12, [.int i0, .ref a1, .ref a2, .ref a3, .ref a4, .int i1, .ref a5, .int i2, .int i3, .int i4, .int i5, .int i6, .int i7, .int i8, .ref a6, .ref a7, .ref a8, .ref a9, .ref a10, .ref a11, .ref a12, .int i9, .ref a13, .int (u9.1 0), .ref a14, .ref a15, .int (u9.1 1), .ref a16, .ref a17, .ref a18, .ref a19, .int i12, .int i13, .int i14, .int i15, .int i16, .ref a20, .long j0, .ref a21, .ref a22, .ref a23, .ref a24])), (a1, .inl (cI, 544, .inl (u9.2.1 0))), (a8, .inl (cI, 600, .inl xF7)), (a12, .inl (cI, 2000, .inl xF11)), (a14, .inl (cI, 6, .inl (u9.2.1 1))), (a15, .inl (cI, 6, .inl (u9.2.1 2)))]) A) ([.ref a0, .int p0] : List Value).toArray s 0 0 A := ⟨_, rfl⟩
  rw [← hQ]
  have k0 : (0 : Int32).toInt = 0 := by decide
  have k1 : (1 : Int32).toInt = 1 := by decide
  have k2 : (2 : Int32).toInt = 2 := by decide
  have k3 : (3 : Int32).toInt = 3 := by decide
  have k4 : (4 : Int32).toInt = 4 := by decide
  have k60 : (60 : Int32).toInt = 60 := by decide
  refine lv_aload_n hx hb dX12_does_0 rfl (lv_at hl 0 rfl) ?_
  refine va_get (D := (dC, dI)) (ci := 12) (v := .ref a12) (C := RX12) (T := TX12) (N := 42) hx hb hwd inlX12 hown hK hP 0 rfl rfl 20 (by decide) (hwd _ kr7_15) (fun _ h9 => h9) rfl dX12_does_1 ?_
  refine lv_iconst (v := 4) hx hb dX12_does_4 (by decide) ?_
  refine lv_iload_n hx hb dX12_does_5 rfl (lv_at hl 1 rfl) ?_
  refine lv_imul hx hb dX12_does_6 ?_
  refine lv_topi (fun x1 ex1 => ?_)
  have tx1 := ia_mull (a := (4 : Int32)) (b := p0) 4 (by decide) (by omega) (by omega)
  rw [← ex1] at tx1
  refine lv_iconst (v := 1) hx hb dX12_does_7 (by decide) ?_
  refine lv_iadd hx hb dX12_does_8 ?_
  refine lv_topi (fun x2 ex2 => ?_)
  have tx2 := ia_add (a := x1) (b := (1 : Int32)) (by omega) (by omega)
  rw [← ex2] at tx2
  have h3 : vp_in x2 2000 := (vp_of (by omega) (by omega))
  refine va_iald hx hb hK hP 3 0 rfl rfl h3 dX12_does_9 ?_
  refine lv_topi (fun x4 ex4 => ?_)
  refine lv_istore_n (lv' := [(2, .int x4), (0, .ref a0), (1, .int p0)]) hx hb dX12_does_10 rfl hl (by decide) rfl (fun ls hl => ?_)
  refine lv_aload_n hx hb dX12_does_11 rfl (lv_at hl 1 rfl) ?_
  refine va_get (D := (dC, dI)) (ci := 12) (v := .ref a12) (C := RX12) (T := TX12) (N := 42) hx hb hwd inlX12 hown hK hP 0 rfl rfl 20 (by decide) (hwd _ kr7_15) (fun _ h9 => h9) rfl dX12_does_12 ?_
  refine lv_iconst (v := 4) hx hb dX12_does_15 (by decide) ?_
  refine lv_iload_n hx hb dX12_does_16 rfl (lv_at hl 2 rfl) ?_
  refine lv_imul hx hb dX12_does_17 ?_
  refine lv_topi (fun x5 ex5 => ?_)
  have tx5 := ia_mull (a := (4 : Int32)) (b := p0) 4 (by decide) (by omega) (by omega)
  rw [← ex5] at tx5
  have h6 : vp_in x5 2000 := (vp_of (by omega) (by omega))
  refine va_iald hx hb hK hP 3 0 rfl rfl h6 dX12_does_18 ?_
  refine lv_topi (fun x7 ex7 => ?_)
  have qx7 := PR_t (k := p0.toInt) p_12 (by omega) (by omega) ex7 (by omega)
  by_cases c8 : x7.toInt < 0 ∨ 4 < x7.toInt
  · refine lv_tableOut (tgt := 222) hx hb dX12_does_19 c8 (by decide) ?_
    have qx4 := PR_b (k := p0.toInt) p_12 (by omega) (by omega) (by omega) ex4 (by omega)
    have s9 := p_13
    unfold SG at s9
    refine lv_aload_n hx hb dX12_does_222 rfl (lv_at hl 1 rfl) ?_
    refine lv_iload_n hx hb dX12_does_223 rfl (lv_at hl 2 rfl) ?_
    refine lv_iload_n hx hb dX12_does_224 rfl (lv_at hl 0 rfl) ?_
    have hPc := hP.sub (ws' := [(a0, .inr (12, [.int i0, .ref a1, .ref a2, .ref a3, .ref a4, .int i1, .ref a5, .int i2, .int i3, .int i4, .int i5, .int i6, .int i7, .int i8, .ref a6, .ref a7, .ref a8, .ref a9, .ref a10, .ref a11, .ref a12, .int i9, .ref a13, .int i10, .ref a14, .ref a15, .int i11, .ref a16, .ref a17, .ref a18, .ref a19, .int i12, .int i13, .int i14, .int i15, .int i16, .ref a20, .long j0, .ref a21, .ref a22, .ref a23, .ref a24])), (a14, .inl (cI, 6, .inl xF13)), (a15, .inl (cI, 6, .inl xF14))]) [0, 4, 5] rfl
    have hDc := hD.sub (ws' := [(a0, .inr (12, [.int i0, .ref a1, .ref a2, .ref a3, .ref a4, .int i1, .ref a5, .int i2, .int i3, .int i4, .int i5, .int i6, .int i7, .int i8, .ref a6, .ref a7, .ref a8, .ref a9, .ref a10, .ref a11, .ref a12, .int i9, .ref a13, .int i10, .ref a14, .ref a15, .int i11, .ref a16, .ref a17, .ref a18, .ref a19, .int i12, .int i13, .int i14, .int i15, .int i16, .ref a20, .long j0, .ref a21, .ref a22, .ref a23, .ref a24])), (a14, .inl (cI, 6, .inl xF13)), (a15, .inl (cI, 6, .inl xF14))]) [0, 4, 5] (by decide) rfl
    have hFc := va_free (wc := [(a0, .inr (12, [.int i0, .ref a1, .ref a2, .ref a3, .ref a4, .int i1, .ref a5, .int i2, .int i3, .int i4, .int i5, .int i6, .int i7, .int i8, .ref a6, .ref a7, .ref a8, .ref a9, .ref a10, .ref a11, .ref a12, .int i9, .ref a13, .int i10, .ref a14, .ref a15, .int i11, .ref a16, .ref a17, .ref a18, .ref a19, .int i12, .int i13, .int i14, .int i15, .int i16, .ref a20, .long j0, .ref a21, .ref a22, .ref a23, .ref a24])), (a14, .inl (cI, 6, .inl xF13)), (a15, .inl (cI, 6, .inl xF14))]) hD hS hA [0, 4, 5] rfl
    refine va_calli (va_runV (As := [.int p0, .int x4]) (rest := []) ⟨hx, hb, hml, hown, hwd⟩ (s_X12_ends l dC dI cI cZ cB cJ cM cG a0 a1 a2 a3 a4 a5 a6 a7 a8 a9 a10 a11 a12 a13 a14 a15 a16 a17 a18 a19 a20 a21 a22 a23 a24 i0 i1 i2 i3 i4 i5 i6 i7 i8 i9 i10 i11 i12 i13 i14 i15 i16 j0 xF13 xF14 p0 x4 s.heap.size (show (0 : Int) ≤ i1.toInt ∧ i1.toInt ≤ 1600 from ⟨by omega, by omega⟩) (show (0 : Int) ≤ i2.toInt ∧ i2.toInt ≤ 1600 from ⟨by omega, by omega⟩) (show (0 : Int) ≤ i3.toInt ∧ i3.toInt ≤ 1600 from ⟨by omega, by omega⟩) (show (0 : Int) ≤ i4.toInt ∧ i4.toInt ≤ 1600 from ⟨by omega, by omega⟩) (show (0 : Int) ≤ i5.toInt ∧ i5.toInt ≤ 6 from ⟨by omega, by omega⟩) (show (0 : Int) ≤ i7.toInt ∧ i7.toInt ≤ 3 from ⟨by omega, by omega⟩) (show (0 : Int) ≤ i11.toInt ∧ i11.toInt ≤ 59 from ⟨by omega, by omega⟩) (show (1 : Int) ≤ i10.toInt ∧ i10.toInt ≤ 5 from ⟨by omega, by omega⟩) (show (0 : Int) ≤ p0.toInt ∧ p0.toInt ≤ 399 from ⟨by omega, by omega⟩) (show (0 : Int) ≤ x4.toInt ∧ x4.toInt ≤ 399 from ⟨by omega, by omega⟩)) (cwV 2 hwd (gV kr32_22 kr32_23 kr33_0 kr1_5 kr33_1) rfl rfl rfl (by decide +kernel) ⟨Nat.le_of_ble_eq_true rfl, Nat.le_of_ble_eq_true rfl⟩) (kPreV hPc hK hDc (ci := 12) (q0 := 0) rfl rfl) rfl rfl hl.1 rfl (lv_room (Nat.le_of_ble_eq_true rfl)) dX12_does_225 ⟨Nat.le_of_ble_eq_true rfl, Nat.le_of_ble_eq_true rfl⟩) hS (fun q _ h => hFc q h) hFc (fun r9 u10 t H1 locs ht9 hvm hw hB hz1 hk1 hS => ?_)
    obtain ⟨u11, U11, V11⟩ := u10
    obtain ⟨hw12, hw13, -⟩ := hw
    have hw12 : (1 : Int) ≤ r9.toInt ∧ r9.toInt ≤ 400 := hw12
    have hw13 : EN xF14 i10.toInt i11.toInt p0.toInt x4.toInt r9.toInt (u11 0).toInt (U11 1) := hw13
    obtain ⟨hP1, hD1⟩ := hB
    rw [ht9] at hP1
    obtain ⟨hP, hD⟩ := va_join (wr := [(a1, .inl (cI, 544, .inl xF0)), (a8, .inl (cI, 600, .inl xF7)), (a12, .inl (cI, 2000, .inl xF11))]) (w1 := [(a0, .inr (12, [.int i0, .ref a1, .ref a2, .ref a3, .ref a4, .int i1, .ref a5, .int i2, .int i3, .int i4, .int i5, .int i6, .int i7, .int i8, .ref a6, .ref a7, .ref a8, .ref a9, .ref a10, .ref a11, .ref a12, .int i9, .ref a13, .int (u11 0), .ref a14, .ref a15, .int i11, .ref a16, .ref a17, .ref a18, .ref a19, .int i12, .int i13, .int i14, .int i15, .int i16, .ref a20, .long j0, .ref a21, .ref a22, .ref a23, .ref a24])), (a14, .inl (cI, 6, .inl (U11 0))), (a15, .inl (cI, 6, .inl (U11 1)))]) hP hD [0, 4, 5] [1, 2, 3] rfl rfl (by decide) (by decide) hk1 hFc hP1 hD1
    generalize H1 = H at hP hS ⊢
    have hP : va_P (dC, dI) vwCl [(a1, .inl (cI, 544, .inl xF0)), (a8, .inl (cI, 600, .inl xF7)), (a12, .inl (cI, 2000, .inl xF11)), (a0, .inr (12, [.int i0, .ref a1, .ref a2, .ref a3, .ref a4, .int i1, .ref a5, .int i2, .int i3, .int i4, .int i5, .int i6, .int i7, .int i8, .ref a6, .ref a7, .ref a8, .ref a9, .ref a10, .ref a11, .ref a12, .int i9, .ref a13, .int (u11 0), .ref a14, .ref a15, .int i11, .ref a16, .ref a17, .ref a18, .ref a19, .int i12, .int i13, .int i14, .int i15, .int i16, .ref a20, .long j0, .ref a21, .ref a22, .ref a23, .ref a24])), (a14, .inl (cI, 6, .inl (U11 0))), (a15, .inl (cI, 6, .inl (U11 1)))] H := hP
    have hD : va_D A [(a1, .inl (cI, 544, .inl xF0)), (a8, .inl (cI, 600, .inl xF7)), (a12, .inl (cI, 2000, .inl xF11)), (a0, .inr (12, [.int i0, .ref a1, .ref a2, .ref a3, .ref a4, .int i1, .ref a5, .int i2, .int i3, .int i4, .int i5, .int i6, .int i7, .int i8, .ref a6, .ref a7, .ref a8, .ref a9, .ref a10, .ref a11, .ref a12, .int i9, .ref a13, .int (u11 0), .ref a14, .ref a15, .int i11, .ref a16, .ref a17, .ref a18, .ref a19, .int i12, .int i13, .int i14, .int i15, .int i16, .ref a20, .long j0, .ref a21, .ref a22, .ref a23, .ref a24])), (a14, .inl (cI, 6, .inl (U11 0))), (a15, .inl (cI, 6, .inl (U11 1)))] := hD
    have hP9 := hP.sub (ws' := [(a0, .inr (12, [.int i0, .ref a1, .ref a2, .ref a3, .ref a4, .int i1, .ref a5, .int i2, .int i3, .int i4, .int i5, .int i6, .int i7, .int i8, .ref a6, .ref a7, .ref a8, .ref a9, .ref a10, .ref a11, .ref a12, .int i9, .ref a13, .int (u11 0), .ref a14, .ref a15, .int i11, .ref a16, .ref a17, .ref a18, .ref a19, .int i12, .int i13, .int i14, .int i15, .int i16, .ref a20, .long j0, .ref a21, .ref a22, .ref a23, .ref a24])), (a1, .inl (cI, 544, .inl xF0)), (a8, .inl (cI, 600, .inl xF7)), (a12, .inl (cI, 2000, .inl xF11)), (a14, .inl (cI, 6, .inl (U11 0))), (a15, .inl (cI, 6, .inl (U11 1)))]) [3, 0, 1, 2, 4, 5] rfl
    have hD9 := hD.sub (ws' := [(a0, .inr (12, [.int i0, .ref a1, .ref a2, .ref a3, .ref a4, .int i1, .ref a5, .int i2, .int i3, .int i4, .int i5, .int i6, .int i7, .int i8, .ref a6, .ref a7, .ref a8, .ref a9, .ref a10, .ref a11, .ref a12, .int i9, .ref a13, .int (u11 0), .ref a14, .ref a15, .int i11, .ref a16, .ref a17, .ref a18, .ref a19, .int i12, .int i13, .int i14, .int i15, .int i16, .ref a20, .long j0, .ref a21, .ref a22, .ref a23, .ref a24])), (a1, .inl (cI, 544, .inl xF0)), (a8, .inl (cI, 600, .inl xF7)), (a12, .inl (cI, 2000, .inl xF11)), (a14, .inl (cI, 6, .inl (U11 0))), (a15, .inl (cI, 6, .inl (U11 1)))]) [3, 0, 1, 2, 4, 5] (by decide) rfl
    rw [hQ]
    exact W.iret (v := r9) hx hb hr (fun t ht hW => ⟨⟨r9, (pickG 0 [(u11 0), i11], pickG (fun _ => 0) [xF0, (U11 0), (U11 1)], pickG (fun _ => 0) []), rfl, ⟨(show (1 : Int) ≤ r9.toInt ∧ r9.toInt ≤ 400 from ⟨by omega, by omega⟩), (show (0 : Int) ≤ i11.toInt ∧ i11.toInt ≤ 59 from ⟨by omega, by omega⟩), (show WI cp xF0 from p_7), (show DN xF11 i9.toInt xF14 i11.toInt i10.toInt p0.toInt (U11 1) i11.toInt (u11 0).toInt r9.toInt from DN_end p_12 p_13 (by omega) (by omega) (by omega) qx4.1 hw13 (by omega)), trivial⟩, (by rw [ht]; exact hP9), hD9⟩, hS.F ht⟩) hS.2.2 dX12_does_228
  · have c80 : x7.toInt = 0 ∨ x7.toInt = 1 ∨ x7.toInt = 2 ∨ x7.toInt = 3 ∨ x7.toInt = 4 := by omega
    rcases c80 with c8h | c8h | c8h | c8h | c8h
    · refine lv_tableIn (off := 33) (tgt := 52) hx hb dX12_does_19 (by omega) (by omega) (by rw [c8h]; decide) (by decide) ?_
      refine lv_aload_n hx hb dX12_does_52 rfl (lv_at hl 1 rfl) ?_
      refine lv_iload_n hx hb dX12_does_53 rfl (lv_at hl 0 rfl) ?_
      have hPc := hP.sub (ws' := [(a0, .inr (12, [.int i0, .ref a1, .ref a2, .ref a3, .ref a4, .int i1, .ref a5, .int i2, .int i3, .int i4, .int i5, .int i6, .int i7, .int i8, .ref a6, .ref a7, .ref a8, .ref a9, .ref a10, .ref a11, .ref a12, .int i9, .ref a13, .int i10, .ref a14, .ref a15, .int i11, .ref a16, .ref a17, .ref a18, .ref a19, .int i12, .int i13, .int i14, .int i15, .int i16, .ref a20, .long j0, .ref a21, .ref a22, .ref a23, .ref a24])), (a1, .inl (cI, 544, .inl xF0))]) [0, 1] rfl
      have hDc := hD.sub (ws' := [(a0, .inr (12, [.int i0, .ref a1, .ref a2, .ref a3, .ref a4, .int i1, .ref a5, .int i2, .int i3, .int i4, .int i5, .int i6, .int i7, .int i8, .ref a6, .ref a7, .ref a8, .ref a9, .ref a10, .ref a11, .ref a12, .int i9, .ref a13, .int i10, .ref a14, .ref a15, .int i11, .ref a16, .ref a17, .ref a18, .ref a19, .int i12, .int i13, .int i14, .int i15, .int i16, .ref a20, .long j0, .ref a21, .ref a22, .ref a23, .ref a24])), (a1, .inl (cI, 544, .inl xF0))]) [0, 1] (by decide) rfl
      have hFc := va_free (wc := [(a0, .inr (12, [.int i0, .ref a1, .ref a2, .ref a3, .ref a4, .int i1, .ref a5, .int i2, .int i3, .int i4, .int i5, .int i6, .int i7, .int i8, .ref a6, .ref a7, .ref a8, .ref a9, .ref a10, .ref a11, .ref a12, .int i9, .ref a13, .int i10, .ref a14, .ref a15, .int i11, .ref a16, .ref a17, .ref a18, .ref a19, .int i12, .int i13, .int i14, .int i15, .int i16, .ref a20, .long j0, .ref a21, .ref a22, .ref a23, .ref a24])), (a1, .inl (cI, 544, .inl xF0))]) hD hS hA [0, 1] rfl
      refine va_callv (va_runV (As := [.int x4]) (rest := []) ⟨hx, hb, hml, hown, hwd⟩ (s_X12_climbs l dC dI cI cZ cB cJ cM cG a0 a1 a2 a3 a4 a5 a6 a7 a8 a9 a10 a11 a12 a13 a14 a15 a16 a17 a18 a19 a20 a21 a22 a23 a24 i0 i1 i2 i3 i4 i5 i6 i7 i8 i9 i10 i11 i12 i13 i14 i15 i16 j0 xF0 x4 cp s.heap.size (show (0 : Int) ≤ i1.toInt ∧ i1.toInt ≤ 1600 from ⟨by omega, by omega⟩) (show (0 : Int) ≤ i2.toInt ∧ i2.toInt ≤ 1600 from ⟨by omega, by omega⟩) (show (0 : Int) ≤ i3.toInt ∧ i3.toInt ≤ 1600 from ⟨by omega, by omega⟩) (show (0 : Int) ≤ i4.toInt ∧ i4.toInt ≤ 1600 from ⟨by omega, by omega⟩) (show (0 : Int) ≤ i5.toInt ∧ i5.toInt ≤ 6 from ⟨by omega, by omega⟩) (show (0 : Int) ≤ i7.toInt ∧ i7.toInt ≤ 3 from ⟨by omega, by omega⟩) (show (0 : Int) ≤ i11.toInt ∧ i11.toInt ≤ 59 from ⟨by omega, by omega⟩) (show WI cp xF0 from p_7) (show (0 : Int) ≤ i11.toInt ∧ i11.toInt ≤ 58 from ⟨by omega, by omega⟩) p_16) (cwV 1 hwd (gV kr32_18 kr32_19 kr32_20 kr1_5 kr32_21) rfl rfl rfl (by decide +kernel) ⟨Nat.le_of_ble_eq_true rfl, Nat.le_of_ble_eq_true rfl⟩) (kPreV hPc hK hDc (ci := 12) (q0 := 0) rfl rfl) rfl rfl hl.1 rfl (lv_room (Nat.le_of_ble_eq_true rfl)) dX12_does_54 ⟨Nat.le_of_ble_eq_true rfl, Nat.le_of_ble_eq_true rfl⟩) hS (fun q _ h => hFc q h) hFc (fun u15 t H1 locs ht9 hvm hw hB hz1 hk1 hS => ?_)
      obtain ⟨u16, U16, V16⟩ := u15
      obtain ⟨hw17, hw18, hw19, -⟩ := hw
      have hw17 : (0 : Int) ≤ (u16 0).toInt ∧ (u16 0).toInt ≤ 59 := hw17
      have hw18 : WI cp (U16 0) := hw18
      have hw19 : (u16 0).toInt = i11.toInt + 1 := hw19
      obtain ⟨hP1, hD1⟩ := hB
      rw [ht9] at hP1
      obtain ⟨hP, hD⟩ := va_join (wr := [(a8, .inl (cI, 600, .inl xF7)), (a12, .inl (cI, 2000, .inl xF11)), (a14, .inl (cI, 6, .inl xF13)), (a15, .inl (cI, 6, .inl xF14))]) (w1 := [(a0, .inr (12, [.int i0, .ref a1, .ref a2, .ref a3, .ref a4, .int i1, .ref a5, .int i2, .int i3, .int i4, .int i5, .int i6, .int i7, .int i8, .ref a6, .ref a7, .ref a8, .ref a9, .ref a10, .ref a11, .ref a12, .int i9, .ref a13, .int i10, .ref a14, .ref a15, .int (u16 0), .ref a16, .ref a17, .ref a18, .ref a19, .int i12, .int i13, .int i14, .int i15, .int i16, .ref a20, .long j0, .ref a21, .ref a22, .ref a23, .ref a24])), (a1, .inl (cI, 544, .inl (U16 0)))]) hP hD [0, 1] [2, 3, 4, 5] rfl rfl (by decide) (by decide) hk1 hFc hP1 hD1
      generalize H1 = H at hP hS ⊢
      have hP : va_P (dC, dI) vwCl [(a8, .inl (cI, 600, .inl xF7)), (a12, .inl (cI, 2000, .inl xF11)), (a14, .inl (cI, 6, .inl xF13)), (a15, .inl (cI, 6, .inl xF14)), (a0, .inr (12, [.int i0, .ref a1, .ref a2, .ref a3, .ref a4, .int i1, .ref a5, .int i2, .int i3, .int i4, .int i5, .int i6, .int i7, .int i8, .ref a6, .ref a7, .ref a8, .ref a9, .ref a10, .ref a11, .ref a12, .int i9, .ref a13, .int i10, .ref a14, .ref a15, .int (u16 0), .ref a16, .ref a17, .ref a18, .ref a19, .int i12, .int i13, .int i14, .int i15, .int i16, .ref a20, .long j0, .ref a21, .ref a22, .ref a23, .ref a24])), (a1, .inl (cI, 544, .inl (U16 0)))] H := hP
      have hD : va_D A [(a8, .inl (cI, 600, .inl xF7)), (a12, .inl (cI, 2000, .inl xF11)), (a14, .inl (cI, 6, .inl xF13)), (a15, .inl (cI, 6, .inl xF14)), (a0, .inr (12, [.int i0, .ref a1, .ref a2, .ref a3, .ref a4, .int i1, .ref a5, .int i2, .int i3, .int i4, .int i5, .int i6, .int i7, .int i8, .ref a6, .ref a7, .ref a8, .ref a9, .ref a10, .ref a11, .ref a12, .int i9, .ref a13, .int i10, .ref a14, .ref a15, .int (u16 0), .ref a16, .ref a17, .ref a18, .ref a19, .int i12, .int i13, .int i14, .int i15, .int i16, .ref a20, .long j0, .ref a21, .ref a22, .ref a23, .ref a24])), (a1, .inl (cI, 544, .inl (U16 0)))] := hD
      refine lv_iload_n hx hb dX12_does_57 rfl (lv_at hl 2 rfl) ?_
      refine lv_iconst (v := 1) hx hb dX12_does_58 (by decide) ?_
      refine lv_iadd hx hb dX12_does_59 ?_
      refine lv_topi (fun x20 ex20 => ?_)
      have tx20 := ia_add (a := p0) (b := (1 : Int32)) (by omega) (by omega)
      rw [← ex20] at tx20
      have hP9 := hP.sub (ws' := [(a0, .inr (12, [.int i0, .ref a1, .ref a2, .ref a3, .ref a4, .int i1, .ref a5, .int i2, .int i3, .int i4, .int i5, .int i6, .int i7, .int i8, .ref a6, .ref a7, .ref a8, .ref a9, .ref a10, .ref a11, .ref a12, .int i9, .ref a13, .int i10, .ref a14, .ref a15, .int (u16 0), .ref a16, .ref a17, .ref a18, .ref a19, .int i12, .int i13, .int i14, .int i15, .int i16, .ref a20, .long j0, .ref a21, .ref a22, .ref a23, .ref a24])), (a1, .inl (cI, 544, .inl (U16 0))), (a8, .inl (cI, 600, .inl xF7)), (a12, .inl (cI, 2000, .inl xF11)), (a14, .inl (cI, 6, .inl xF13)), (a15, .inl (cI, 6, .inl xF14))]) [4, 5, 0, 1, 2, 3] rfl
      have hD9 := hD.sub (ws' := [(a0, .inr (12, [.int i0, .ref a1, .ref a2, .ref a3, .ref a4, .int i1, .ref a5, .int i2, .int i3, .int i4, .int i5, .int i6, .int i7, .int i8, .ref a6, .ref a7, .ref a8, .ref a9, .ref a10, .ref a11, .ref a12, .int i9, .ref a13, .int i10, .ref a14, .ref a15, .int (u16 0), .ref a16, .ref a17, .ref a18, .ref a19, .int i12, .int i13, .int i14, .int i15, .int i16, .ref a20, .long j0, .ref a21, .ref a22, .ref a23, .ref a24])), (a1, .inl (cI, 544, .inl (U16 0))), (a8, .inl (cI, 600, .inl xF7)), (a12, .inl (cI, 2000, .inl xF11)), (a14, .inl (cI, 6, .inl xF13)), (a15, .inl (cI, 6, .inl xF14))]) [4, 5, 0, 1, 2, 3] (by decide) rfl
      rw [hQ]
      exact W.iret (v := x20) hx hb hr (fun t ht hW => ⟨⟨x20, (pickG 0 [i10, (u16 0)], pickG (fun _ => 0) [(U16 0), xF13, xF14], pickG (fun _ => 0) []), rfl, ⟨(show (1 : Int) ≤ x20.toInt ∧ x20.toInt ≤ 400 from ⟨by omega, by omega⟩), (show (0 : Int) ≤ (u16 0).toInt ∧ (u16 0).toInt ≤ 59 from ⟨by omega, by omega⟩), (show WI cp (U16 0) from hw18), (show DN xF11 i9.toInt xF14 i11.toInt i10.toInt p0.toInt xF14 (u16 0).toInt i10.toInt x20.toInt from DN_move p_12 p_13 (by omega) (by omega) (by omega) (by omega) (by omega)), trivial⟩, (by rw [ht]; exact hP9), hD9⟩, hS.F ht⟩) hS.2.2 dX12_does_60
    · refine lv_tableIn (off := 42) (tgt := 61) hx hb dX12_does_19 (by omega) (by omega) (by rw [c8h]; decide) (by decide) ?_
      refine lv_aload_n hx hb dX12_does_61 rfl (lv_at hl 1 rfl) ?_
      refine lv_iload_n hx hb dX12_does_62 rfl (lv_at hl 0 rfl) ?_
      refine lv_ineg hx hb dX12_does_63 ?_
      refine lv_topi (fun x21 ex21 => ?_)
      have hPc := hP.sub (ws' := [(a0, .inr (12, [.int i0, .ref a1, .ref a2, .ref a3, .ref a4, .int i1, .ref a5, .int i2, .int i3, .int i4, .int i5, .int i6, .int i7, .int i8, .ref a6, .ref a7, .ref a8, .ref a9, .ref a10, .ref a11, .ref a12, .int i9, .ref a13, .int i10, .ref a14, .ref a15, .int i11, .ref a16, .ref a17, .ref a18, .ref a19, .int i12, .int i13, .int i14, .int i15, .int i16, .ref a20, .long j0, .ref a21, .ref a22, .ref a23, .ref a24])), (a1, .inl (cI, 544, .inl xF0))]) [0, 1] rfl
      have hDc := hD.sub (ws' := [(a0, .inr (12, [.int i0, .ref a1, .ref a2, .ref a3, .ref a4, .int i1, .ref a5, .int i2, .int i3, .int i4, .int i5, .int i6, .int i7, .int i8, .ref a6, .ref a7, .ref a8, .ref a9, .ref a10, .ref a11, .ref a12, .int i9, .ref a13, .int i10, .ref a14, .ref a15, .int i11, .ref a16, .ref a17, .ref a18, .ref a19, .int i12, .int i13, .int i14, .int i15, .int i16, .ref a20, .long j0, .ref a21, .ref a22, .ref a23, .ref a24])), (a1, .inl (cI, 544, .inl xF0))]) [0, 1] (by decide) rfl
      have hFc := va_free (wc := [(a0, .inr (12, [.int i0, .ref a1, .ref a2, .ref a3, .ref a4, .int i1, .ref a5, .int i2, .int i3, .int i4, .int i5, .int i6, .int i7, .int i8, .ref a6, .ref a7, .ref a8, .ref a9, .ref a10, .ref a11, .ref a12, .int i9, .ref a13, .int i10, .ref a14, .ref a15, .int i11, .ref a16, .ref a17, .ref a18, .ref a19, .int i12, .int i13, .int i14, .int i15, .int i16, .ref a20, .long j0, .ref a21, .ref a22, .ref a23, .ref a24])), (a1, .inl (cI, 544, .inl xF0))]) hD hS hA [0, 1] rfl
      refine va_callv (va_runV (As := [.int x21]) (rest := []) ⟨hx, hb, hml, hown, hwd⟩ (s_X12_climbs l dC dI cI cZ cB cJ cM cG a0 a1 a2 a3 a4 a5 a6 a7 a8 a9 a10 a11 a12 a13 a14 a15 a16 a17 a18 a19 a20 a21 a22 a23 a24 i0 i1 i2 i3 i4 i5 i6 i7 i8 i9 i10 i11 i12 i13 i14 i15 i16 j0 xF0 x21 cp s.heap.size (show (0 : Int) ≤ i1.toInt ∧ i1.toInt ≤ 1600 from ⟨by omega, by omega⟩) (show (0 : Int) ≤ i2.toInt ∧ i2.toInt ≤ 1600 from ⟨by omega, by omega⟩) (show (0 : Int) ≤ i3.toInt ∧ i3.toInt ≤ 1600 from ⟨by omega, by omega⟩) (show (0 : Int) ≤ i4.toInt ∧ i4.toInt ≤ 1600 from ⟨by omega, by omega⟩) (show (0 : Int) ≤ i5.toInt ∧ i5.toInt ≤ 6 from ⟨by omega, by omega⟩) (show (0 : Int) ≤ i7.toInt ∧ i7.toInt ≤ 3 from ⟨by omega, by omega⟩) (show (0 : Int) ≤ i11.toInt ∧ i11.toInt ≤ 59 from ⟨by omega, by omega⟩) (show WI cp xF0 from p_7) (show (0 : Int) ≤ i11.toInt ∧ i11.toInt ≤ 58 from ⟨by omega, by omega⟩) p_16) (cwV 1 hwd (gV kr32_18 kr32_19 kr32_20 kr1_5 kr32_21) rfl rfl rfl (by decide +kernel) ⟨Nat.le_of_ble_eq_true rfl, Nat.le_of_ble_eq_true rfl⟩) (kPreV hPc hK hDc (ci := 12) (q0 := 0) rfl rfl) rfl rfl hl.1 rfl (lv_room (Nat.le_of_ble_eq_true rfl)) dX12_does_64 ⟨Nat.le_of_ble_eq_true rfl, Nat.le_of_ble_eq_true rfl⟩) hS (fun q _ h => hFc q h) hFc (fun u23 t H1 locs ht9 hvm hw hB hz1 hk1 hS => ?_)
      obtain ⟨u24, U24, V24⟩ := u23
      obtain ⟨hw25, hw26, hw27, -⟩ := hw
      have hw25 : (0 : Int) ≤ (u24 0).toInt ∧ (u24 0).toInt ≤ 59 := hw25
      have hw26 : WI cp (U24 0) := hw26
      have hw27 : (u24 0).toInt = i11.toInt + 1 := hw27
      obtain ⟨hP1, hD1⟩ := hB
      rw [ht9] at hP1
      obtain ⟨hP, hD⟩ := va_join (wr := [(a8, .inl (cI, 600, .inl xF7)), (a12, .inl (cI, 2000, .inl xF11)), (a14, .inl (cI, 6, .inl xF13)), (a15, .inl (cI, 6, .inl xF14))]) (w1 := [(a0, .inr (12, [.int i0, .ref a1, .ref a2, .ref a3, .ref a4, .int i1, .ref a5, .int i2, .int i3, .int i4, .int i5, .int i6, .int i7, .int i8, .ref a6, .ref a7, .ref a8, .ref a9, .ref a10, .ref a11, .ref a12, .int i9, .ref a13, .int i10, .ref a14, .ref a15, .int (u24 0), .ref a16, .ref a17, .ref a18, .ref a19, .int i12, .int i13, .int i14, .int i15, .int i16, .ref a20, .long j0, .ref a21, .ref a22, .ref a23, .ref a24])), (a1, .inl (cI, 544, .inl (U24 0)))]) hP hD [0, 1] [2, 3, 4, 5] rfl rfl (by decide) (by decide) hk1 hFc hP1 hD1
      generalize H1 = H at hP hS ⊢
      have hP : va_P (dC, dI) vwCl [(a8, .inl (cI, 600, .inl xF7)), (a12, .inl (cI, 2000, .inl xF11)), (a14, .inl (cI, 6, .inl xF13)), (a15, .inl (cI, 6, .inl xF14)), (a0, .inr (12, [.int i0, .ref a1, .ref a2, .ref a3, .ref a4, .int i1, .ref a5, .int i2, .int i3, .int i4, .int i5, .int i6, .int i7, .int i8, .ref a6, .ref a7, .ref a8, .ref a9, .ref a10, .ref a11, .ref a12, .int i9, .ref a13, .int i10, .ref a14, .ref a15, .int (u24 0), .ref a16, .ref a17, .ref a18, .ref a19, .int i12, .int i13, .int i14, .int i15, .int i16, .ref a20, .long j0, .ref a21, .ref a22, .ref a23, .ref a24])), (a1, .inl (cI, 544, .inl (U24 0)))] H := hP
      have hD : va_D A [(a8, .inl (cI, 600, .inl xF7)), (a12, .inl (cI, 2000, .inl xF11)), (a14, .inl (cI, 6, .inl xF13)), (a15, .inl (cI, 6, .inl xF14)), (a0, .inr (12, [.int i0, .ref a1, .ref a2, .ref a3, .ref a4, .int i1, .ref a5, .int i2, .int i3, .int i4, .int i5, .int i6, .int i7, .int i8, .ref a6, .ref a7, .ref a8, .ref a9, .ref a10, .ref a11, .ref a12, .int i9, .ref a13, .int i10, .ref a14, .ref a15, .int (u24 0), .ref a16, .ref a17, .ref a18, .ref a19, .int i12, .int i13, .int i14, .int i15, .int i16, .ref a20, .long j0, .ref a21, .ref a22, .ref a23, .ref a24])), (a1, .inl (cI, 544, .inl (U24 0)))] := hD
      refine lv_iload_n hx hb dX12_does_67 rfl (lv_at hl 2 rfl) ?_
      refine lv_iconst (v := 1) hx hb dX12_does_68 (by decide) ?_
      refine lv_iadd hx hb dX12_does_69 ?_
      refine lv_topi (fun x28 ex28 => ?_)
      have tx28 := ia_add (a := p0) (b := (1 : Int32)) (by omega) (by omega)
      rw [← ex28] at tx28
      have hP9 := hP.sub (ws' := [(a0, .inr (12, [.int i0, .ref a1, .ref a2, .ref a3, .ref a4, .int i1, .ref a5, .int i2, .int i3, .int i4, .int i5, .int i6, .int i7, .int i8, .ref a6, .ref a7, .ref a8, .ref a9, .ref a10, .ref a11, .ref a12, .int i9, .ref a13, .int i10, .ref a14, .ref a15, .int (u24 0), .ref a16, .ref a17, .ref a18, .ref a19, .int i12, .int i13, .int i14, .int i15, .int i16, .ref a20, .long j0, .ref a21, .ref a22, .ref a23, .ref a24])), (a1, .inl (cI, 544, .inl (U24 0))), (a8, .inl (cI, 600, .inl xF7)), (a12, .inl (cI, 2000, .inl xF11)), (a14, .inl (cI, 6, .inl xF13)), (a15, .inl (cI, 6, .inl xF14))]) [4, 5, 0, 1, 2, 3] rfl
      have hD9 := hD.sub (ws' := [(a0, .inr (12, [.int i0, .ref a1, .ref a2, .ref a3, .ref a4, .int i1, .ref a5, .int i2, .int i3, .int i4, .int i5, .int i6, .int i7, .int i8, .ref a6, .ref a7, .ref a8, .ref a9, .ref a10, .ref a11, .ref a12, .int i9, .ref a13, .int i10, .ref a14, .ref a15, .int (u24 0), .ref a16, .ref a17, .ref a18, .ref a19, .int i12, .int i13, .int i14, .int i15, .int i16, .ref a20, .long j0, .ref a21, .ref a22, .ref a23, .ref a24])), (a1, .inl (cI, 544, .inl (U24 0))), (a8, .inl (cI, 600, .inl xF7)), (a12, .inl (cI, 2000, .inl xF11)), (a14, .inl (cI, 6, .inl xF13)), (a15, .inl (cI, 6, .inl xF14))]) [4, 5, 0, 1, 2, 3] (by decide) rfl
      rw [hQ]
      exact W.iret (v := x28) hx hb hr (fun t ht hW => ⟨⟨x28, (pickG 0 [i10, (u24 0)], pickG (fun _ => 0) [(U24 0), xF13, xF14], pickG (fun _ => 0) []), rfl, ⟨(show (1 : Int) ≤ x28.toInt ∧ x28.toInt ≤ 400 from ⟨by omega, by omega⟩), (show (0 : Int) ≤ (u24 0).toInt ∧ (u24 0).toInt ≤ 59 from ⟨by omega, by omega⟩), (show WI cp (U24 0) from hw26), (show DN xF11 i9.toInt xF14 i11.toInt i10.toInt p0.toInt xF14 (u24 0).toInt i10.toInt x28.toInt from DN_move p_12 p_13 (by omega) (by omega) (by omega) (by omega) (by omega)), trivial⟩, (by rw [ht]; exact hP9), hD9⟩, hS.F ht⟩) hS.2.2 dX12_does_70
    · refine lv_tableIn (off := 52) (tgt := 71) hx hb dX12_does_19 (by omega) (by omega) (by rw [c8h]; decide) (by decide) ?_
      refine lv_iconst (v := 0) hx hb dX12_does_71 (by decide) ?_
      refine lv_istore_n (lv' := [(3, .int 0), (2, .int x4), (0, .ref a0), (1, .int p0)]) hx hb dX12_does_72 rfl hl (by decide) rfl (fun ls hl => ?_)
      have lp1 : ∀ (d : Nat), ∀ (H : Heap) (locs : List Loc) (ls : Array Slot) (w3_1 : Int32) (v1_1 : Int32) (g2_1 : Nat → Int32), ((0 : Int) ≤ v1_1.toInt ∧ v1_1.toInt ≤ 59) → (WI cp g2_1) → (i11.toInt ≤ v1_1.toInt) → (60 - v1_1.toInt).toNat < d → va_P (dC, dI) vwCl [(a0, .inr (12, [.int i0, .ref a1, .ref a2, .ref a3, .ref a4, .int i1, .ref a5, .int i2, .int i3, .int i4, .int i5, .int i6, .int i7, .int i8, .ref a6, .ref a7, .ref a8, .ref a9, .ref a10, .ref a11, .ref a12, .int i9, .ref a13, .int i10, .ref a14, .ref a15, .int v1_1, .ref a16, .ref a17, .ref a18, .ref a19, .int i12, .int i13, .int i14, .int i15, .int i16, .ref a20, .long j0, .ref a21, .ref a22, .ref a23, .ref a24])), (a1, .inl (cI, 544, .inl g2_1)), (a8, .inl (cI, 600, .inl xF7)), (a12, .inl (cI, 2000, .inl xF11)), (a14, .inl (cI, 6, .inl xF13)), (a15, .inl (cI, 6, .inl xF14))] H → va_D A [(a0, .inr (12, [.int i0, .ref a1, .ref a2, .ref a3, .ref a4, .int i1, .ref a5, .int i2, .int i3, .int i4, .int i5, .int i6, .int i7, .int i8, .ref a6, .ref a7, .ref a8, .ref a9, .ref a10, .ref a11, .ref a12, .int i9, .ref a13, .int i10, .ref a14, .ref a15, .int v1_1, .ref a16, .ref a17, .ref a18, .ref a19, .int i12, .int i13, .int i14, .int i15, .int i16, .ref a20, .long j0, .ref a21, .ref a22, .ref a23, .ref a24])), (a1, .inl (cI, 544, .inl g2_1)), (a8, .inl (cI, 600, .inl xF7)), (a12, .inl (cI, 2000, .inl xF11)), (a14, .inl (cI, 6, .inl xF13)), (a15, .inl (cI, 6, .inl xF14))] → va_S A s.heap H locs → lv_has ls 4 [(0, .ref a0), (1, .int p0), (2, .int x4), (3, .int w3_1)] → W p l e ({ frames := 2, cells := 0, slots := 0, locals := 46 } : Room) s m ([.ref a0, .int p0] : List Value).toArray below meth c H locs 0 0 Q (F0 m 73 ls []) := by
        intro d
        induction d with
        | zero =>
          intro H locs ls w3_1 v1_1 g2_1 hr_v1_1 hd_g2_1 hrl0_1 hm hP hD hS hl
          omega
        | succ d ih1 =>
          intro H locs ls w3_1 v1_1 g2_1 hr_v1_1 hd_g2_1 hrl0_1 hm hP hD hS hl
          refine lv_iload_n hx hb dX12_does_73 rfl (lv_at hl 3 rfl) ?_
          refine lv_iload_n hx hb dX12_does_74 rfl (lv_at hl 2 rfl) ?_
          refine lv_icmp_ge (tgt := 104) hx hb dX12_does_75 (by decide) (fun c145 => ?_) (fun c145 => ?_)
          · rw [ki_le] at c145
            refine lv_iload_n hx hb dX12_does_104 rfl (lv_at hl 1 rfl) ?_
            refine lv_iconst (v := 1) hx hb dX12_does_105 (by decide) ?_
            refine lv_iadd hx hb dX12_does_106 ?_
            refine lv_topi (fun x146 ex146 => ?_)
            have tx146 := ia_add (a := p0) (b := (1 : Int32)) (by omega) (by omega)
            rw [← ex146] at tx146
            have hP9 := hP.sub (ws' := [(a0, .inr (12, [.int i0, .ref a1, .ref a2, .ref a3, .ref a4, .int i1, .ref a5, .int i2, .int i3, .int i4, .int i5, .int i6, .int i7, .int i8, .ref a6, .ref a7, .ref a8, .ref a9, .ref a10, .ref a11, .ref a12, .int i9, .ref a13, .int i10, .ref a14, .ref a15, .int v1_1, .ref a16, .ref a17, .ref a18, .ref a19, .int i12, .int i13, .int i14, .int i15, .int i16, .ref a20, .long j0, .ref a21, .ref a22, .ref a23, .ref a24])), (a1, .inl (cI, 544, .inl g2_1)), (a8, .inl (cI, 600, .inl xF7)), (a12, .inl (cI, 2000, .inl xF11)), (a14, .inl (cI, 6, .inl xF13)), (a15, .inl (cI, 6, .inl xF14))]) [0, 1, 2, 3, 4, 5] rfl
            have hD9 := hD.sub (ws' := [(a0, .inr (12, [.int i0, .ref a1, .ref a2, .ref a3, .ref a4, .int i1, .ref a5, .int i2, .int i3, .int i4, .int i5, .int i6, .int i7, .int i8, .ref a6, .ref a7, .ref a8, .ref a9, .ref a10, .ref a11, .ref a12, .int i9, .ref a13, .int i10, .ref a14, .ref a15, .int v1_1, .ref a16, .ref a17, .ref a18, .ref a19, .int i12, .int i13, .int i14, .int i15, .int i16, .ref a20, .long j0, .ref a21, .ref a22, .ref a23, .ref a24])), (a1, .inl (cI, 544, .inl g2_1)), (a8, .inl (cI, 600, .inl xF7)), (a12, .inl (cI, 2000, .inl xF11)), (a14, .inl (cI, 6, .inl xF13)), (a15, .inl (cI, 6, .inl xF14))]) [0, 1, 2, 3, 4, 5] (by decide) rfl
            rw [hQ]
            exact W.iret (v := x146) hx hb hr (fun t ht hW => ⟨⟨x146, (pickG 0 [i10, v1_1], pickG (fun _ => 0) [g2_1, xF13, xF14], pickG (fun _ => 0) []), rfl, ⟨(show (1 : Int) ≤ x146.toInt ∧ x146.toInt ≤ 400 from ⟨by omega, by omega⟩), (show (0 : Int) ≤ v1_1.toInt ∧ v1_1.toInt ≤ 59 from ⟨by omega, by omega⟩), (show WI cp g2_1 from hd_g2_1), (show DN xF11 i9.toInt xF14 i11.toInt i10.toInt p0.toInt xF14 v1_1.toInt i10.toInt x146.toInt from DN_move p_12 p_13 (by omega) (by omega) (by omega) (by omega) (by omega)), trivial⟩, (by rw [ht]; exact hP9), hD9⟩, hS.F ht⟩) hS.2.2 dX12_does_107
          · rw [ki_le] at c145
            refine lv_aload_n hx hb dX12_does_78 rfl (lv_at hl 0 rfl) ?_
            refine va_get (D := (dC, dI)) (ci := 12) (v := .int v1_1) (C := RX12) (T := TX12) (N := 42) hx hb hwd inlX12 hown hK hP 0 rfl rfl 26 (by decide) (hwd _ kr31_21) (fun _ h9 => h9) rfl dX12_does_79 ?_
            refine lv_aload_n hx hb dX12_does_82 rfl (lv_at hl 0 rfl) ?_
            refine va_get (D := (dC, dI)) (ci := 12) (v := .ref a1) (C := RX12) (T := TX12) (N := 42) hx hb hwd inlX12 hown hK hP 0 rfl rfl 1 (by decide) (hwd _ kr7_3) (fun _ h9 => h9) rfl dX12_does_83 ?_
            refine lv_iconst (v := 1) hx hb dX12_does_86 (by decide) ?_
            have h147 : vp_in (1 : Int32) 544 := (vin (by decide))
            refine va_iald hx hb hK hP 1 0 rfl rfl h147 dX12_does_87 ?_
            refine lv_topi (fun x148 ex148 => ?_)
            have ix148 := wat_lit (k := 1) ex148 (by decide)
            have wh149 : whd cp g2_1 := hd_g2_1.1
            unfold whd at wh149
            refine lv_iconst (v := 1) hx hb dX12_does_88 (by decide) ?_
            refine lv_isub hx hb dX12_does_89 ?_
            refine lv_topi (fun x150 ex150 => ?_)
            have tx150 := ia_sub (a := x148) (b := (1 : Int32)) (by omega) (by omega)
            rw [← ex150] at tx150
            refine lv_icmp_ge (tgt := 104) hx hb dX12_does_90 (by decide) (fun c151 => ?_) (fun c151 => ?_)
            · rw [ki_le] at c151
              refine lv_iload_n hx hb dX12_does_104 rfl (lv_at hl 1 rfl) ?_
              refine lv_iconst (v := 1) hx hb dX12_does_105 (by decide) ?_
              refine lv_iadd hx hb dX12_does_106 ?_
              refine lv_topi (fun x152 ex152 => ?_)
              have tx152 := ia_add (a := p0) (b := (1 : Int32)) (by omega) (by omega)
              rw [← ex152] at tx152
              have hP9 := hP.sub (ws' := [(a0, .inr (12, [.int i0, .ref a1, .ref a2, .ref a3, .ref a4, .int i1, .ref a5, .int i2, .int i3, .int i4, .int i5, .int i6, .int i7, .int i8, .ref a6, .ref a7, .ref a8, .ref a9, .ref a10, .ref a11, .ref a12, .int i9, .ref a13, .int i10, .ref a14, .ref a15, .int v1_1, .ref a16, .ref a17, .ref a18, .ref a19, .int i12, .int i13, .int i14, .int i15, .int i16, .ref a20, .long j0, .ref a21, .ref a22, .ref a23, .ref a24])), (a1, .inl (cI, 544, .inl g2_1)), (a8, .inl (cI, 600, .inl xF7)), (a12, .inl (cI, 2000, .inl xF11)), (a14, .inl (cI, 6, .inl xF13)), (a15, .inl (cI, 6, .inl xF14))]) [0, 1, 2, 3, 4, 5] rfl
              have hD9 := hD.sub (ws' := [(a0, .inr (12, [.int i0, .ref a1, .ref a2, .ref a3, .ref a4, .int i1, .ref a5, .int i2, .int i3, .int i4, .int i5, .int i6, .int i7, .int i8, .ref a6, .ref a7, .ref a8, .ref a9, .ref a10, .ref a11, .ref a12, .int i9, .ref a13, .int i10, .ref a14, .ref a15, .int v1_1, .ref a16, .ref a17, .ref a18, .ref a19, .int i12, .int i13, .int i14, .int i15, .int i16, .ref a20, .long j0, .ref a21, .ref a22, .ref a23, .ref a24])), (a1, .inl (cI, 544, .inl g2_1)), (a8, .inl (cI, 600, .inl xF7)), (a12, .inl (cI, 2000, .inl xF11)), (a14, .inl (cI, 6, .inl xF13)), (a15, .inl (cI, 6, .inl xF14))]) [0, 1, 2, 3, 4, 5] (by decide) rfl
              rw [hQ]
              exact W.iret (v := x152) hx hb hr (fun t ht hW => ⟨⟨x152, (pickG 0 [i10, v1_1], pickG (fun _ => 0) [g2_1, xF13, xF14], pickG (fun _ => 0) []), rfl, ⟨(show (1 : Int) ≤ x152.toInt ∧ x152.toInt ≤ 400 from ⟨by omega, by omega⟩), (show (0 : Int) ≤ v1_1.toInt ∧ v1_1.toInt ≤ 59 from ⟨by omega, by omega⟩), (show WI cp g2_1 from hd_g2_1), (show DN xF11 i9.toInt xF14 i11.toInt i10.toInt p0.toInt xF14 v1_1.toInt i10.toInt x152.toInt from DN_move p_12 p_13 (by omega) (by omega) (by omega) (by omega) (by omega)), trivial⟩, (by rw [ht]; exact hP9), hD9⟩, hS.F ht⟩) hS.2.2 dX12_does_107
            · rw [ki_le] at c151
              refine lv_aload_n hx hb dX12_does_93 rfl (lv_at hl 0 rfl) ?_
              refine lv_iconst (v := 0) hx hb dX12_does_94 (by decide) ?_
              have hPc := hP.sub (ws' := [(a0, .inr (12, [.int i0, .ref a1, .ref a2, .ref a3, .ref a4, .int i1, .ref a5, .int i2, .int i3, .int i4, .int i5, .int i6, .int i7, .int i8, .ref a6, .ref a7, .ref a8, .ref a9, .ref a10, .ref a11, .ref a12, .int i9, .ref a13, .int i10, .ref a14, .ref a15, .int v1_1, .ref a16, .ref a17, .ref a18, .ref a19, .int i12, .int i13, .int i14, .int i15, .int i16, .ref a20, .long j0, .ref a21, .ref a22, .ref a23, .ref a24])), (a1, .inl (cI, 544, .inl g2_1))]) [0, 1] rfl
              have hDc := hD.sub (ws' := [(a0, .inr (12, [.int i0, .ref a1, .ref a2, .ref a3, .ref a4, .int i1, .ref a5, .int i2, .int i3, .int i4, .int i5, .int i6, .int i7, .int i8, .ref a6, .ref a7, .ref a8, .ref a9, .ref a10, .ref a11, .ref a12, .int i9, .ref a13, .int i10, .ref a14, .ref a15, .int v1_1, .ref a16, .ref a17, .ref a18, .ref a19, .int i12, .int i13, .int i14, .int i15, .int i16, .ref a20, .long j0, .ref a21, .ref a22, .ref a23, .ref a24])), (a1, .inl (cI, 544, .inl g2_1))]) [0, 1] (by decide) rfl
              have hFc := va_free (wc := [(a0, .inr (12, [.int i0, .ref a1, .ref a2, .ref a3, .ref a4, .int i1, .ref a5, .int i2, .int i3, .int i4, .int i5, .int i6, .int i7, .int i8, .ref a6, .ref a7, .ref a8, .ref a9, .ref a10, .ref a11, .ref a12, .int i9, .ref a13, .int i10, .ref a14, .ref a15, .int v1_1, .ref a16, .ref a17, .ref a18, .ref a19, .int i12, .int i13, .int i14, .int i15, .int i16, .ref a20, .long j0, .ref a21, .ref a22, .ref a23, .ref a24])), (a1, .inl (cI, 544, .inl g2_1))]) hD hS hA [0, 1] rfl
              refine va_callv (va_runV (As := [.int 0]) (rest := []) ⟨hx, hb, hml, hown, hwd⟩ (s_X12_climbs l dC dI cI cZ cB cJ cM cG a0 a1 a2 a3 a4 a5 a6 a7 a8 a9 a10 a11 a12 a13 a14 a15 a16 a17 a18 a19 a20 a21 a22 a23 a24 i0 i1 i2 i3 i4 i5 i6 i7 i8 i9 i10 v1_1 i12 i13 i14 i15 i16 j0 g2_1 0 cp H.size (show (0 : Int) ≤ i1.toInt ∧ i1.toInt ≤ 1600 from ⟨by omega, by omega⟩) (show (0 : Int) ≤ i2.toInt ∧ i2.toInt ≤ 1600 from ⟨by omega, by omega⟩) (show (0 : Int) ≤ i3.toInt ∧ i3.toInt ≤ 1600 from ⟨by omega, by omega⟩) (show (0 : Int) ≤ i4.toInt ∧ i4.toInt ≤ 1600 from ⟨by omega, by omega⟩) (show (0 : Int) ≤ i5.toInt ∧ i5.toInt ≤ 6 from ⟨by omega, by omega⟩) (show (0 : Int) ≤ i7.toInt ∧ i7.toInt ≤ 3 from ⟨by omega, by omega⟩) (show (0 : Int) ≤ v1_1.toInt ∧ v1_1.toInt ≤ 59 from ⟨by omega, by omega⟩) (show WI cp g2_1 from hd_g2_1) (show (0 : Int) ≤ v1_1.toInt ∧ v1_1.toInt ≤ 58 from ⟨by omega, by omega⟩) p_16) (cwV 1 hwd (gV kr32_18 kr32_19 kr32_20 kr1_5 kr32_21) rfl rfl rfl (by decide +kernel) ⟨Nat.le_of_ble_eq_true rfl, Nat.le_of_ble_eq_true rfl⟩) (kPreV hPc hK hDc (ci := 12) (q0 := 0) rfl rfl) rfl rfl hl.1 rfl (lv_room (Nat.le_of_ble_eq_true rfl)) dX12_does_95 ⟨Nat.le_of_ble_eq_true rfl, Nat.le_of_ble_eq_true rfl⟩) hS (fun q _ h => hFc q h) hFc (fun u154 t H1 locs ht9 hvm hw hB hz1 hk1 hS => ?_)
              obtain ⟨u155, U155, V155⟩ := u154
              obtain ⟨hw156, hw157, hw158, -⟩ := hw
              have hw156 : (0 : Int) ≤ (u155 0).toInt ∧ (u155 0).toInt ≤ 59 := hw156
              have hw157 : WI cp (U155 0) := hw157
              have hw158 : (u155 0).toInt = v1_1.toInt + 1 := hw158
              obtain ⟨hP1, hD1⟩ := hB
              rw [ht9] at hP1
              obtain ⟨hP, hD⟩ := va_join (wr := [(a8, .inl (cI, 600, .inl xF7)), (a12, .inl (cI, 2000, .inl xF11)), (a14, .inl (cI, 6, .inl xF13)), (a15, .inl (cI, 6, .inl xF14))]) (w1 := [(a0, .inr (12, [.int i0, .ref a1, .ref a2, .ref a3, .ref a4, .int i1, .ref a5, .int i2, .int i3, .int i4, .int i5, .int i6, .int i7, .int i8, .ref a6, .ref a7, .ref a8, .ref a9, .ref a10, .ref a11, .ref a12, .int i9, .ref a13, .int i10, .ref a14, .ref a15, .int (u155 0), .ref a16, .ref a17, .ref a18, .ref a19, .int i12, .int i13, .int i14, .int i15, .int i16, .ref a20, .long j0, .ref a21, .ref a22, .ref a23, .ref a24])), (a1, .inl (cI, 544, .inl (U155 0)))]) hP hD [0, 1] [2, 3, 4, 5] rfl rfl (by decide) (by decide) hk1 hFc hP1 hD1
              generalize H1 = H at hP hS ⊢
              have hP : va_P (dC, dI) vwCl [(a8, .inl (cI, 600, .inl xF7)), (a12, .inl (cI, 2000, .inl xF11)), (a14, .inl (cI, 6, .inl xF13)), (a15, .inl (cI, 6, .inl xF14)), (a0, .inr (12, [.int i0, .ref a1, .ref a2, .ref a3, .ref a4, .int i1, .ref a5, .int i2, .int i3, .int i4, .int i5, .int i6, .int i7, .int i8, .ref a6, .ref a7, .ref a8, .ref a9, .ref a10, .ref a11, .ref a12, .int i9, .ref a13, .int i10, .ref a14, .ref a15, .int (u155 0), .ref a16, .ref a17, .ref a18, .ref a19, .int i12, .int i13, .int i14, .int i15, .int i16, .ref a20, .long j0, .ref a21, .ref a22, .ref a23, .ref a24])), (a1, .inl (cI, 544, .inl (U155 0)))] H := hP
              have hD : va_D A [(a8, .inl (cI, 600, .inl xF7)), (a12, .inl (cI, 2000, .inl xF11)), (a14, .inl (cI, 6, .inl xF13)), (a15, .inl (cI, 6, .inl xF14)), (a0, .inr (12, [.int i0, .ref a1, .ref a2, .ref a3, .ref a4, .int i1, .ref a5, .int i2, .int i3, .int i4, .int i5, .int i6, .int i7, .int i8, .ref a6, .ref a7, .ref a8, .ref a9, .ref a10, .ref a11, .ref a12, .int i9, .ref a13, .int i10, .ref a14, .ref a15, .int (u155 0), .ref a16, .ref a17, .ref a18, .ref a19, .int i12, .int i13, .int i14, .int i15, .int i16, .ref a20, .long j0, .ref a21, .ref a22, .ref a23, .ref a24])), (a1, .inl (cI, 544, .inl (U155 0)))] := hD
              obtain ⟨x159, ex159⟩ : ∃ y : Int32, y = w3_1 + 1 := ⟨_, rfl⟩
              refine lv_iinc (v := x159) (lv' := [(3, .int x159), (0, .ref a0), (1, .int p0), (2, .int x4)]) hx hb dX12_does_98 hl (k := 3) rfl (by rw [ex159]; rfl) (by decide) rfl (fun ls hl => ?_)
              refine lv_goto (tgt := 73) hx hb dX12_does_101 (by decide) ?_
              exact ih1 _ _ ls x159 (u155 0) (U155 0) (show (0 : Int) ≤ (u155 0).toInt ∧ (u155 0).toInt ≤ 59 from ⟨by omega, by omega⟩) (show WI cp (U155 0) from hw157) (show i11.toInt ≤ (u155 0).toInt from by omega) (by omega) (hP.sub (ws' := [(a0, .inr (12, [.int i0, .ref a1, .ref a2, .ref a3, .ref a4, .int i1, .ref a5, .int i2, .int i3, .int i4, .int i5, .int i6, .int i7, .int i8, .ref a6, .ref a7, .ref a8, .ref a9, .ref a10, .ref a11, .ref a12, .int i9, .ref a13, .int i10, .ref a14, .ref a15, .int (u155 0), .ref a16, .ref a17, .ref a18, .ref a19, .int i12, .int i13, .int i14, .int i15, .int i16, .ref a20, .long j0, .ref a21, .ref a22, .ref a23, .ref a24])), (a1, .inl (cI, 544, .inl (U155 0))), (a8, .inl (cI, 600, .inl xF7)), (a12, .inl (cI, 2000, .inl xF11)), (a14, .inl (cI, 6, .inl xF13)), (a15, .inl (cI, 6, .inl xF14))]) [4, 5, 0, 1, 2, 3] rfl) (hD.sub (ws' := [(a0, .inr (12, [.int i0, .ref a1, .ref a2, .ref a3, .ref a4, .int i1, .ref a5, .int i2, .int i3, .int i4, .int i5, .int i6, .int i7, .int i8, .ref a6, .ref a7, .ref a8, .ref a9, .ref a10, .ref a11, .ref a12, .int i9, .ref a13, .int i10, .ref a14, .ref a15, .int (u155 0), .ref a16, .ref a17, .ref a18, .ref a19, .int i12, .int i13, .int i14, .int i15, .int i16, .ref a20, .long j0, .ref a21, .ref a22, .ref a23, .ref a24])), (a1, .inl (cI, 544, .inl (U155 0))), (a8, .inl (cI, 600, .inl xF7)), (a12, .inl (cI, 2000, .inl xF11)), (a14, .inl (cI, 6, .inl xF13)), (a15, .inl (cI, 6, .inl xF14))]) [4, 5, 0, 1, 2, 3] (by decide) rfl) hS (lv_sub hl [1, 2, 3, 0] rfl)
      exact lp1 _ _ _ ls (0) i11 xF0 (show (0 : Int) ≤ i11.toInt ∧ i11.toInt ≤ 59 from ⟨by omega, by omega⟩) (show WI cp xF0 from p_7) (show i11.toInt ≤ i11.toInt from by omega) (Nat.lt_succ_self _) (hP.sub (ws' := [(a0, .inr (12, [.int i0, .ref a1, .ref a2, .ref a3, .ref a4, .int i1, .ref a5, .int i2, .int i3, .int i4, .int i5, .int i6, .int i7, .int i8, .ref a6, .ref a7, .ref a8, .ref a9, .ref a10, .ref a11, .ref a12, .int i9, .ref a13, .int i10, .ref a14, .ref a15, .int i11, .ref a16, .ref a17, .ref a18, .ref a19, .int i12, .int i13, .int i14, .int i15, .int i16, .ref a20, .long j0, .ref a21, .ref a22, .ref a23, .ref a24])), (a1, .inl (cI, 544, .inl xF0)), (a8, .inl (cI, 600, .inl xF7)), (a12, .inl (cI, 2000, .inl xF11)), (a14, .inl (cI, 6, .inl xF13)), (a15, .inl (cI, 6, .inl xF14))]) [0, 1, 2, 3, 4, 5] rfl) (hD.sub (ws' := [(a0, .inr (12, [.int i0, .ref a1, .ref a2, .ref a3, .ref a4, .int i1, .ref a5, .int i2, .int i3, .int i4, .int i5, .int i6, .int i7, .int i8, .ref a6, .ref a7, .ref a8, .ref a9, .ref a10, .ref a11, .ref a12, .int i9, .ref a13, .int i10, .ref a14, .ref a15, .int i11, .ref a16, .ref a17, .ref a18, .ref a19, .int i12, .int i13, .int i14, .int i15, .int i16, .ref a20, .long j0, .ref a21, .ref a22, .ref a23, .ref a24])), (a1, .inl (cI, 544, .inl xF0)), (a8, .inl (cI, 600, .inl xF7)), (a12, .inl (cI, 2000, .inl xF11)), (a14, .inl (cI, 6, .inl xF13)), (a15, .inl (cI, 6, .inl xF14))]) [0, 1, 2, 3, 4, 5] (by decide) rfl) hS (lv_sub hl [2, 3, 1, 0] rfl)
    · refine lv_tableIn (off := 89) (tgt := 108) hx hb dX12_does_19 (by omega) (by omega) (by rw [c8h]; decide) (by decide) ?_
      refine lv_aload_n hx hb dX12_does_108 rfl (lv_at hl 1 rfl) ?_
      refine va_get (D := (dC, dI)) (ci := 12) (v := .ref a14) (C := RX12) (T := TX12) (N := 42) hx hb hwd inlX12 hown hK hP 0 rfl rfl 24 (by decide) (hwd _ kr7_17) (fun _ h9 => h9) rfl dX12_does_109 ?_
      refine lv_aload_n hx hb dX12_does_112 rfl (lv_at hl 1 rfl) ?_
      refine va_get (D := (dC, dI)) (ci := 12) (v := .int i10) (C := RX12) (T := TX12) (N := 42) hx hb hwd inlX12 hown hK hP 0 rfl rfl 23 (by decide) (hwd _ kr31_20) (fun _ h9 => h9) rfl dX12_does_113 ?_
      refine lv_iload_n hx hb dX12_does_116 rfl (lv_at hl 0 rfl) ?_
      refine va_iast hx hb hK hP hD hS 4 0 rfl rfl (vp_of (by omega) (by omega)) dX12_does_117 (fun H locs hP hD hS => ?_)
      obtain ⟨f160, ef160⟩ : ∃ f, f = upd xF13 i10.toNatClampNeg x4 := ⟨_, rfl⟩
      have hP : va_P (dC, dI) vwCl [(a0, .inr (12, [.int i0, .ref a1, .ref a2, .ref a3, .ref a4, .int i1, .ref a5, .int i2, .int i3, .int i4, .int i5, .int i6, .int i7, .int i8, .ref a6, .ref a7, .ref a8, .ref a9, .ref a10, .ref a11, .ref a12, .int i9, .ref a13, .int i10, .ref a14, .ref a15, .int i11, .ref a16, .ref a17, .ref a18, .ref a19, .int i12, .int i13, .int i14, .int i15, .int i16, .ref a20, .long j0, .ref a21, .ref a22, .ref a23, .ref a24])), (a1, .inl (cI, 544, .inl xF0)), (a8, .inl (cI, 600, .inl xF7)), (a12, .inl (cI, 2000, .inl xF11)), (a14, .inl (cI, 6, .inl f160)), (a15, .inl (cI, 6, .inl xF14))] H := by rw [ef160]; exact hP
      have hD : va_D A [(a0, .inr (12, [.int i0, .ref a1, .ref a2, .ref a3, .ref a4, .int i1, .ref a5, .int i2, .int i3, .int i4, .int i5, .int i6, .int i7, .int i8, .ref a6, .ref a7, .ref a8, .ref a9, .ref a10, .ref a11, .ref a12, .int i9, .ref a13, .int i10, .ref a14, .ref a15, .int i11, .ref a16, .ref a17, .ref a18, .ref a19, .int i12, .int i13, .int i14, .int i15, .int i16, .ref a20, .long j0, .ref a21, .ref a22, .ref a23, .ref a24])), (a1, .inl (cI, 544, .inl xF0)), (a8, .inl (cI, 600, .inl xF7)), (a12, .inl (cI, 2000, .inl xF11)), (a14, .inl (cI, 6, .inl f160)), (a15, .inl (cI, 6, .inl xF14))] := by rw [ef160]; exact hD
      refine lv_aload_n hx hb dX12_does_118 rfl (lv_at hl 1 rfl) ?_
      refine va_get (D := (dC, dI)) (ci := 12) (v := .ref a15) (C := RX12) (T := TX12) (N := 42) hx hb hwd inlX12 hown hK hP 0 rfl rfl 25 (by decide) (hwd _ kr7_18) (fun _ h9 => h9) rfl dX12_does_119 ?_
      refine lv_aload_n hx hb dX12_does_122 rfl (lv_at hl 1 rfl) ?_
      refine va_get (D := (dC, dI)) (ci := 12) (v := .int i10) (C := RX12) (T := TX12) (N := 42) hx hb hwd inlX12 hown hK hP 0 rfl rfl 23 (by decide) (hwd _ kr31_20) (fun _ h9 => h9) rfl dX12_does_123 ?_
      refine lv_aload_n hx hb dX12_does_126 rfl (lv_at hl 1 rfl) ?_
      refine va_get (D := (dC, dI)) (ci := 12) (v := .int i11) (C := RX12) (T := TX12) (N := 42) hx hb hwd inlX12 hown hK hP 0 rfl rfl 26 (by decide) (hwd _ kr31_21) (fun _ h9 => h9) rfl dX12_does_127 ?_
      refine va_iast hx hb hK hP hD hS 5 0 rfl rfl (vp_of (by omega) (by omega)) dX12_does_130 (fun H locs hP hD hS => ?_)
      obtain ⟨f161, ef161⟩ : ∃ f, f = upd xF14 i10.toNatClampNeg i11 := ⟨_, rfl⟩
      have hP : va_P (dC, dI) vwCl [(a0, .inr (12, [.int i0, .ref a1, .ref a2, .ref a3, .ref a4, .int i1, .ref a5, .int i2, .int i3, .int i4, .int i5, .int i6, .int i7, .int i8, .ref a6, .ref a7, .ref a8, .ref a9, .ref a10, .ref a11, .ref a12, .int i9, .ref a13, .int i10, .ref a14, .ref a15, .int i11, .ref a16, .ref a17, .ref a18, .ref a19, .int i12, .int i13, .int i14, .int i15, .int i16, .ref a20, .long j0, .ref a21, .ref a22, .ref a23, .ref a24])), (a1, .inl (cI, 544, .inl xF0)), (a8, .inl (cI, 600, .inl xF7)), (a12, .inl (cI, 2000, .inl xF11)), (a14, .inl (cI, 6, .inl f160)), (a15, .inl (cI, 6, .inl f161))] H := by rw [ef161]; exact hP
      have hD : va_D A [(a0, .inr (12, [.int i0, .ref a1, .ref a2, .ref a3, .ref a4, .int i1, .ref a5, .int i2, .int i3, .int i4, .int i5, .int i6, .int i7, .int i8, .ref a6, .ref a7, .ref a8, .ref a9, .ref a10, .ref a11, .ref a12, .int i9, .ref a13, .int i10, .ref a14, .ref a15, .int i11, .ref a16, .ref a17, .ref a18, .ref a19, .int i12, .int i13, .int i14, .int i15, .int i16, .ref a20, .long j0, .ref a21, .ref a22, .ref a23, .ref a24])), (a1, .inl (cI, 544, .inl xF0)), (a8, .inl (cI, 600, .inl xF7)), (a12, .inl (cI, 2000, .inl xF11)), (a14, .inl (cI, 6, .inl f160)), (a15, .inl (cI, 6, .inl f161))] := by rw [ef161]; exact hD
      refine lv_aload_n hx hb dX12_does_131 rfl (lv_at hl 1 rfl) ?_
      refine lv_dup hx hb dX12_does_132 rfl ?_
      refine va_get (D := (dC, dI)) (ci := 12) (v := .int i10) (C := RX12) (T := TX12) (N := 42) hx hb hwd inlX12 hown hK hP 0 rfl rfl 23 (by decide) (hwd _ kr31_20) (fun _ h9 => h9) rfl dX12_does_133 ?_
      refine lv_iconst (v := 1) hx hb dX12_does_136 (by decide) ?_
      refine lv_iadd hx hb dX12_does_137 ?_
      refine lv_topi (fun x162 ex162 => ?_)
      have tx162 := ia_add (a := i10) (b := (1 : Int32)) (by omega) (by omega)
      rw [← ex162] at tx162
      refine va_put (D := (dC, dI)) (ci := 12) (v := .int x162) (ty := .int) (C := RX12) (T := TX12) (N := 42) hx hb hwd inlX12 tyX12 tyX12_ok nmX12 hown hK hP hD hS 0 rfl rfl 23 (by decide) (hwd _ kr31_20) (fun _ h9 => h9) rfl (by decide +kernel) rfl rfl (Nat.le_of_ble_eq_true rfl) dX12_does_138 (fun H locs hP hD hS => ?_)
      have hP : va_P (dC, dI) vwCl [(a0, .inr (12, [.int i0, .ref a1, .ref a2, .ref a3, .ref a4, .int i1, .ref a5, .int i2, .int i3, .int i4, .int i5, .int i6, .int i7, .int i8, .ref a6, .ref a7, .ref a8, .ref a9, .ref a10, .ref a11, .ref a12, .int i9, .ref a13, .int x162, .ref a14, .ref a15, .int i11, .ref a16, .ref a17, .ref a18, .ref a19, .int i12, .int i13, .int i14, .int i15, .int i16, .ref a20, .long j0, .ref a21, .ref a22, .ref a23, .ref a24])), (a1, .inl (cI, 544, .inl xF0)), (a8, .inl (cI, 600, .inl xF7)), (a12, .inl (cI, 2000, .inl xF11)), (a14, .inl (cI, 6, .inl f160)), (a15, .inl (cI, 6, .inl f161))] H := hP
      have hD : va_D A [(a0, .inr (12, [.int i0, .ref a1, .ref a2, .ref a3, .ref a4, .int i1, .ref a5, .int i2, .int i3, .int i4, .int i5, .int i6, .int i7, .int i8, .ref a6, .ref a7, .ref a8, .ref a9, .ref a10, .ref a11, .ref a12, .int i9, .ref a13, .int x162, .ref a14, .ref a15, .int i11, .ref a16, .ref a17, .ref a18, .ref a19, .int i12, .int i13, .int i14, .int i15, .int i16, .ref a20, .long j0, .ref a21, .ref a22, .ref a23, .ref a24])), (a1, .inl (cI, 544, .inl xF0)), (a8, .inl (cI, 600, .inl xF7)), (a12, .inl (cI, 2000, .inl xF11)), (a14, .inl (cI, 6, .inl f160)), (a15, .inl (cI, 6, .inl f161))] := hD
      refine lv_iload_n hx hb dX12_does_141 rfl (lv_at hl 2 rfl) ?_
      refine lv_iconst (v := 1) hx hb dX12_does_142 (by decide) ?_
      refine lv_iadd hx hb dX12_does_143 ?_
      refine lv_topi (fun x163 ex163 => ?_)
      have tx163 := ia_add (a := p0) (b := (1 : Int32)) (by omega) (by omega)
      rw [← ex163] at tx163
      have hP9 := hP.sub (ws' := [(a0, .inr (12, [.int i0, .ref a1, .ref a2, .ref a3, .ref a4, .int i1, .ref a5, .int i2, .int i3, .int i4, .int i5, .int i6, .int i7, .int i8, .ref a6, .ref a7, .ref a8, .ref a9, .ref a10, .ref a11, .ref a12, .int i9, .ref a13, .int x162, .ref a14, .ref a15, .int i11, .ref a16, .ref a17, .ref a18, .ref a19, .int i12, .int i13, .int i14, .int i15, .int i16, .ref a20, .long j0, .ref a21, .ref a22, .ref a23, .ref a24])), (a1, .inl (cI, 544, .inl xF0)), (a8, .inl (cI, 600, .inl xF7)), (a12, .inl (cI, 2000, .inl xF11)), (a14, .inl (cI, 6, .inl f160)), (a15, .inl (cI, 6, .inl f161))]) [0, 1, 2, 3, 4, 5] rfl
      have hD9 := hD.sub (ws' := [(a0, .inr (12, [.int i0, .ref a1, .ref a2, .ref a3, .ref a4, .int i1, .ref a5, .int i2, .int i3, .int i4, .int i5, .int i6, .int i7, .int i8, .ref a6, .ref a7, .ref a8, .ref a9, .ref a10, .ref a11, .ref a12, .int i9, .ref a13, .int x162, .ref a14, .ref a15, .int i11, .ref a16, .ref a17, .ref a18, .ref a19, .int i12, .int i13, .int i14, .int i15, .int i16, .ref a20, .long j0, .ref a21, .ref a22, .ref a23, .ref a24])), (a1, .inl (cI, 544, .inl xF0)), (a8, .inl (cI, 600, .inl xF7)), (a12, .inl (cI, 2000, .inl xF11)), (a14, .inl (cI, 6, .inl f160)), (a15, .inl (cI, 6, .inl f161))]) [0, 1, 2, 3, 4, 5] (by decide) rfl
      rw [hQ]
      exact W.iret (v := x163) hx hb hr (fun t ht hW => ⟨⟨x163, (pickG 0 [x162, i11], pickG (fun _ => 0) [xF0, f160, f161], pickG (fun _ => 0) []), rfl, ⟨(show (1 : Int) ≤ x163.toInt ∧ x163.toInt ≤ 400 from ⟨by omega, by omega⟩), (show (0 : Int) ≤ i11.toInt ∧ i11.toInt ≤ 59 from ⟨by omega, by omega⟩), (show WI cp xF0 from p_7), (show DN xF11 i9.toInt xF14 i11.toInt i10.toInt p0.toInt f161 i11.toInt x162.toInt x163.toInt from DN_push p_12 p_13 (by omega) (by omega) ef161 (by omega) (by omega) (by omega) (by omega) (by omega)), trivial⟩, (by rw [ht]; exact hP9), hD9⟩, hS.F ht⟩) hS.2.2 dX12_does_144
    · refine lv_tableIn (off := 126) (tgt := 145) hx hb dX12_does_19 (by omega) (by omega) (by rw [c8h]; decide) (by decide) ?_
      refine lv_aload_n hx hb dX12_does_145 rfl (lv_at hl 1 rfl) ?_
      refine va_get (D := (dC, dI)) (ci := 12) (v := .ref a8) (C := RX12) (T := TX12) (N := 42) hx hb hwd inlX12 hown hK hP 0 rfl rfl 16 (by decide) (hwd _ kr7_11) (fun _ h9 => h9) rfl dX12_does_146 ?_
      refine lv_bipush (v := 60) hx hb dX12_does_149 (by decide) ?_
      refine lv_aload_n hx hb dX12_does_151 rfl (lv_at hl 1 rfl) ?_
      refine va_get (D := (dC, dI)) (ci := 12) (v := .ref a12) (C := RX12) (T := TX12) (N := 42) hx hb hwd inlX12 hown hK hP 0 rfl rfl 20 (by decide) (hwd _ kr7_15) (fun _ h9 => h9) rfl dX12_does_152 ?_
      refine lv_iconst (v := 4) hx hb dX12_does_155 (by decide) ?_
      refine lv_iload_n hx hb dX12_does_156 rfl (lv_at hl 2 rfl) ?_
      refine lv_imul hx hb dX12_does_157 ?_
      refine lv_topi (fun x164 ex164 => ?_)
      have tx164 := ia_mull (a := (4 : Int32)) (b := p0) 4 (by decide) (by omega) (by omega)
      rw [← ex164] at tx164
      refine lv_iconst (v := 2) hx hb dX12_does_158 (by decide) ?_
      refine lv_iadd hx hb dX12_does_159 ?_
      refine lv_topi (fun x165 ex165 => ?_)
      have tx165 := ia_add (a := x164) (b := (2 : Int32)) (by omega) (by omega)
      rw [← ex165] at tx165
      have h166 : vp_in x165 2000 := (vp_of (by omega) (by omega))
      refine va_iald hx hb hK hP 3 0 rfl rfl h166 dX12_does_160 ?_
      refine lv_topi (fun x167 ex167 => ?_)
      have qx167 := PR_f (k := p0.toInt) p_12 (by omega) (by omega) (by omega) ex167 (by omega)
      refine lv_imul hx hb dX12_does_161 ?_
      refine lv_topi (fun x168 ex168 => ?_)
      have tx168 := ia_mull (a := (60 : Int32)) (b := x167) 60 (by decide) (by omega) (by omega)
      rw [← ex168] at tx168
      refine lv_aload_n hx hb dX12_does_162 rfl (lv_at hl 1 rfl) ?_
      refine va_get (D := (dC, dI)) (ci := 12) (v := .int i11) (C := RX12) (T := TX12) (N := 42) hx hb hwd inlX12 hown hK hP 0 rfl rfl 26 (by decide) (hwd _ kr31_21) (fun _ h9 => h9) rfl dX12_does_163 ?_
      refine lv_iadd hx hb dX12_does_166 ?_
      refine lv_topi (fun x169 ex169 => ?_)
      have tx169 := ia_add (a := x168) (b := i11) (by omega) (by omega)
      rw [← ex169] at tx169
      have h170 : vp_in x169 600 := (vp_of (by omega) (by omega))
      refine va_iald hx hb hK hP 2 0 rfl rfl h170 dX12_does_167 ?_
      refine lv_topi (fun x171 ex171 => ?_)
      refine lv_iload_n hx hb dX12_does_168 rfl (lv_at hl 0 rfl) ?_
      refine lv_icmp_gt (tgt := 185) hx hb dX12_does_169 (by decide) (fun c172 => ?_) (fun c172 => ?_)
      · rw [ki_lt] at c172
        refine lv_aload_n hx hb dX12_does_185 rfl (lv_at hl 1 rfl) ?_
        refine va_get (D := (dC, dI)) (ci := 12) (v := .ref a14) (C := RX12) (T := TX12) (N := 42) hx hb hwd inlX12 hown hK hP 0 rfl rfl 24 (by decide) (hwd _ kr7_17) (fun _ h9 => h9) rfl dX12_does_186 ?_
        refine lv_aload_n hx hb dX12_does_189 rfl (lv_at hl 1 rfl) ?_
        refine va_get (D := (dC, dI)) (ci := 12) (v := .int i10) (C := RX12) (T := TX12) (N := 42) hx hb hwd inlX12 hown hK hP 0 rfl rfl 23 (by decide) (hwd _ kr31_20) (fun _ h9 => h9) rfl dX12_does_190 ?_
        refine lv_iconst (v := 1) hx hb dX12_does_193 (by decide) ?_
        refine va_iast hx hb hK hP hD hS 4 0 rfl rfl (vp_of (by omega) (by omega)) dX12_does_194 (fun H locs hP hD hS => ?_)
        obtain ⟨f173, ef173⟩ : ∃ f, f = upd xF13 i10.toNatClampNeg (1 : Int32) := ⟨_, rfl⟩
        have hP : va_P (dC, dI) vwCl [(a0, .inr (12, [.int i0, .ref a1, .ref a2, .ref a3, .ref a4, .int i1, .ref a5, .int i2, .int i3, .int i4, .int i5, .int i6, .int i7, .int i8, .ref a6, .ref a7, .ref a8, .ref a9, .ref a10, .ref a11, .ref a12, .int i9, .ref a13, .int i10, .ref a14, .ref a15, .int i11, .ref a16, .ref a17, .ref a18, .ref a19, .int i12, .int i13, .int i14, .int i15, .int i16, .ref a20, .long j0, .ref a21, .ref a22, .ref a23, .ref a24])), (a1, .inl (cI, 544, .inl xF0)), (a8, .inl (cI, 600, .inl xF7)), (a12, .inl (cI, 2000, .inl xF11)), (a14, .inl (cI, 6, .inl f173)), (a15, .inl (cI, 6, .inl xF14))] H := by rw [ef173]; exact hP
        have hD : va_D A [(a0, .inr (12, [.int i0, .ref a1, .ref a2, .ref a3, .ref a4, .int i1, .ref a5, .int i2, .int i3, .int i4, .int i5, .int i6, .int i7, .int i8, .ref a6, .ref a7, .ref a8, .ref a9, .ref a10, .ref a11, .ref a12, .int i9, .ref a13, .int i10, .ref a14, .ref a15, .int i11, .ref a16, .ref a17, .ref a18, .ref a19, .int i12, .int i13, .int i14, .int i15, .int i16, .ref a20, .long j0, .ref a21, .ref a22, .ref a23, .ref a24])), (a1, .inl (cI, 544, .inl xF0)), (a8, .inl (cI, 600, .inl xF7)), (a12, .inl (cI, 2000, .inl xF11)), (a14, .inl (cI, 6, .inl f173)), (a15, .inl (cI, 6, .inl xF14))] := by rw [ef173]; exact hD
        refine lv_aload_n hx hb dX12_does_195 rfl (lv_at hl 1 rfl) ?_
        refine va_get (D := (dC, dI)) (ci := 12) (v := .ref a15) (C := RX12) (T := TX12) (N := 42) hx hb hwd inlX12 hown hK hP 0 rfl rfl 25 (by decide) (hwd _ kr7_18) (fun _ h9 => h9) rfl dX12_does_196 ?_
        refine lv_aload_n hx hb dX12_does_199 rfl (lv_at hl 1 rfl) ?_
        refine va_get (D := (dC, dI)) (ci := 12) (v := .int i10) (C := RX12) (T := TX12) (N := 42) hx hb hwd inlX12 hown hK hP 0 rfl rfl 23 (by decide) (hwd _ kr31_20) (fun _ h9 => h9) rfl dX12_does_200 ?_
        refine lv_aload_n hx hb dX12_does_203 rfl (lv_at hl 1 rfl) ?_
        refine va_get (D := (dC, dI)) (ci := 12) (v := .int i11) (C := RX12) (T := TX12) (N := 42) hx hb hwd inlX12 hown hK hP 0 rfl rfl 26 (by decide) (hwd _ kr31_21) (fun _ h9 => h9) rfl dX12_does_204 ?_
        refine va_iast hx hb hK hP hD hS 5 0 rfl rfl (vp_of (by omega) (by omega)) dX12_does_207 (fun H locs hP hD hS => ?_)
        obtain ⟨f174, ef174⟩ : ∃ f, f = upd xF14 i10.toNatClampNeg i11 := ⟨_, rfl⟩
        have hP : va_P (dC, dI) vwCl [(a0, .inr (12, [.int i0, .ref a1, .ref a2, .ref a3, .ref a4, .int i1, .ref a5, .int i2, .int i3, .int i4, .int i5, .int i6, .int i7, .int i8, .ref a6, .ref a7, .ref a8, .ref a9, .ref a10, .ref a11, .ref a12, .int i9, .ref a13, .int i10, .ref a14, .ref a15, .int i11, .ref a16, .ref a17, .ref a18, .ref a19, .int i12, .int i13, .int i14, .int i15, .int i16, .ref a20, .long j0, .ref a21, .ref a22, .ref a23, .ref a24])), (a1, .inl (cI, 544, .inl xF0)), (a8, .inl (cI, 600, .inl xF7)), (a12, .inl (cI, 2000, .inl xF11)), (a14, .inl (cI, 6, .inl f173)), (a15, .inl (cI, 6, .inl f174))] H := by rw [ef174]; exact hP
        have hD : va_D A [(a0, .inr (12, [.int i0, .ref a1, .ref a2, .ref a3, .ref a4, .int i1, .ref a5, .int i2, .int i3, .int i4, .int i5, .int i6, .int i7, .int i8, .ref a6, .ref a7, .ref a8, .ref a9, .ref a10, .ref a11, .ref a12, .int i9, .ref a13, .int i10, .ref a14, .ref a15, .int i11, .ref a16, .ref a17, .ref a18, .ref a19, .int i12, .int i13, .int i14, .int i15, .int i16, .ref a20, .long j0, .ref a21, .ref a22, .ref a23, .ref a24])), (a1, .inl (cI, 544, .inl xF0)), (a8, .inl (cI, 600, .inl xF7)), (a12, .inl (cI, 2000, .inl xF11)), (a14, .inl (cI, 6, .inl f173)), (a15, .inl (cI, 6, .inl f174))] := by rw [ef174]; exact hD
        refine lv_aload_n hx hb dX12_does_208 rfl (lv_at hl 1 rfl) ?_
        refine lv_dup hx hb dX12_does_209 rfl ?_
        refine va_get (D := (dC, dI)) (ci := 12) (v := .int i10) (C := RX12) (T := TX12) (N := 42) hx hb hwd inlX12 hown hK hP 0 rfl rfl 23 (by decide) (hwd _ kr31_20) (fun _ h9 => h9) rfl dX12_does_210 ?_
        refine lv_iconst (v := 1) hx hb dX12_does_213 (by decide) ?_
        refine lv_iadd hx hb dX12_does_214 ?_
        refine lv_topi (fun x175 ex175 => ?_)
        have tx175 := ia_add (a := i10) (b := (1 : Int32)) (by omega) (by omega)
        rw [← ex175] at tx175
        refine va_put (D := (dC, dI)) (ci := 12) (v := .int x175) (ty := .int) (C := RX12) (T := TX12) (N := 42) hx hb hwd inlX12 tyX12 tyX12_ok nmX12 hown hK hP hD hS 0 rfl rfl 23 (by decide) (hwd _ kr31_20) (fun _ h9 => h9) rfl (by decide +kernel) rfl rfl (Nat.le_of_ble_eq_true rfl) dX12_does_215 (fun H locs hP hD hS => ?_)
        have hP : va_P (dC, dI) vwCl [(a0, .inr (12, [.int i0, .ref a1, .ref a2, .ref a3, .ref a4, .int i1, .ref a5, .int i2, .int i3, .int i4, .int i5, .int i6, .int i7, .int i8, .ref a6, .ref a7, .ref a8, .ref a9, .ref a10, .ref a11, .ref a12, .int i9, .ref a13, .int x175, .ref a14, .ref a15, .int i11, .ref a16, .ref a17, .ref a18, .ref a19, .int i12, .int i13, .int i14, .int i15, .int i16, .ref a20, .long j0, .ref a21, .ref a22, .ref a23, .ref a24])), (a1, .inl (cI, 544, .inl xF0)), (a8, .inl (cI, 600, .inl xF7)), (a12, .inl (cI, 2000, .inl xF11)), (a14, .inl (cI, 6, .inl f173)), (a15, .inl (cI, 6, .inl f174))] H := hP
        have hD : va_D A [(a0, .inr (12, [.int i0, .ref a1, .ref a2, .ref a3, .ref a4, .int i1, .ref a5, .int i2, .int i3, .int i4, .int i5, .int i6, .int i7, .int i8, .ref a6, .ref a7, .ref a8, .ref a9, .ref a10, .ref a11, .ref a12, .int i9, .ref a13, .int x175, .ref a14, .ref a15, .int i11, .ref a16, .ref a17, .ref a18, .ref a19, .int i12, .int i13, .int i14, .int i15, .int i16, .ref a20, .long j0, .ref a21, .ref a22, .ref a23, .ref a24])), (a1, .inl (cI, 544, .inl xF0)), (a8, .inl (cI, 600, .inl xF7)), (a12, .inl (cI, 2000, .inl xF11)), (a14, .inl (cI, 6, .inl f173)), (a15, .inl (cI, 6, .inl f174))] := hD
        refine lv_iload_n hx hb dX12_does_218 rfl (lv_at hl 2 rfl) ?_
        refine lv_iconst (v := 1) hx hb dX12_does_219 (by decide) ?_
        refine lv_iadd hx hb dX12_does_220 ?_
        refine lv_topi (fun x176 ex176 => ?_)
        have tx176 := ia_add (a := p0) (b := (1 : Int32)) (by omega) (by omega)
        rw [← ex176] at tx176
        have hP9 := hP.sub (ws' := [(a0, .inr (12, [.int i0, .ref a1, .ref a2, .ref a3, .ref a4, .int i1, .ref a5, .int i2, .int i3, .int i4, .int i5, .int i6, .int i7, .int i8, .ref a6, .ref a7, .ref a8, .ref a9, .ref a10, .ref a11, .ref a12, .int i9, .ref a13, .int x175, .ref a14, .ref a15, .int i11, .ref a16, .ref a17, .ref a18, .ref a19, .int i12, .int i13, .int i14, .int i15, .int i16, .ref a20, .long j0, .ref a21, .ref a22, .ref a23, .ref a24])), (a1, .inl (cI, 544, .inl xF0)), (a8, .inl (cI, 600, .inl xF7)), (a12, .inl (cI, 2000, .inl xF11)), (a14, .inl (cI, 6, .inl f173)), (a15, .inl (cI, 6, .inl f174))]) [0, 1, 2, 3, 4, 5] rfl
        have hD9 := hD.sub (ws' := [(a0, .inr (12, [.int i0, .ref a1, .ref a2, .ref a3, .ref a4, .int i1, .ref a5, .int i2, .int i3, .int i4, .int i5, .int i6, .int i7, .int i8, .ref a6, .ref a7, .ref a8, .ref a9, .ref a10, .ref a11, .ref a12, .int i9, .ref a13, .int x175, .ref a14, .ref a15, .int i11, .ref a16, .ref a17, .ref a18, .ref a19, .int i12, .int i13, .int i14, .int i15, .int i16, .ref a20, .long j0, .ref a21, .ref a22, .ref a23, .ref a24])), (a1, .inl (cI, 544, .inl xF0)), (a8, .inl (cI, 600, .inl xF7)), (a12, .inl (cI, 2000, .inl xF11)), (a14, .inl (cI, 6, .inl f173)), (a15, .inl (cI, 6, .inl f174))]) [0, 1, 2, 3, 4, 5] (by decide) rfl
        rw [hQ]
        exact W.iret (v := x176) hx hb hr (fun t ht hW => ⟨⟨x176, (pickG 0 [x175, i11], pickG (fun _ => 0) [xF0, f173, f174], pickG (fun _ => 0) []), rfl, ⟨(show (1 : Int) ≤ x176.toInt ∧ x176.toInt ≤ 400 from ⟨by omega, by omega⟩), (show (0 : Int) ≤ i11.toInt ∧ i11.toInt ≤ 59 from ⟨by omega, by omega⟩), (show WI cp xF0 from p_7), (show DN xF11 i9.toInt xF14 i11.toInt i10.toInt p0.toInt f174 i11.toInt x175.toInt x176.toInt from DN_push p_12 p_13 (by omega) (by omega) ef174 (by omega) (by omega) (by omega) (by omega) (by omega)), trivial⟩, (by rw [ht]; exact hP9), hD9⟩, hS.F ht⟩) hS.2.2 dX12_does_221
      · rw [ki_lt] at c172
        refine lv_aload_n hx hb dX12_does_172 rfl (lv_at hl 1 rfl) ?_
        refine va_get (D := (dC, dI)) (ci := 12) (v := .ref a12) (C := RX12) (T := TX12) (N := 42) hx hb hwd inlX12 hown hK hP 0 rfl rfl 20 (by decide) (hwd _ kr7_15) (fun _ h9 => h9) rfl dX12_does_173 ?_
        refine lv_iconst (v := 4) hx hb dX12_does_176 (by decide) ?_
        refine lv_iload_n hx hb dX12_does_177 rfl (lv_at hl 2 rfl) ?_
        refine lv_imul hx hb dX12_does_178 ?_
        refine lv_topi (fun x177 ex177 => ?_)
        have tx177 := ia_mull (a := (4 : Int32)) (b := p0) 4 (by decide) (by omega) (by omega)
        rw [← ex177] at tx177
        refine lv_iconst (v := 3) hx hb dX12_does_179 (by decide) ?_
        refine lv_iadd hx hb dX12_does_180 ?_
        refine lv_topi (fun x178 ex178 => ?_)
        have tx178 := ia_add (a := x177) (b := (3 : Int32)) (by omega) (by omega)
        rw [← ex178] at tx178
        have h179 : vp_in x178 2000 := (vp_of (by omega) (by omega))
        refine va_iald hx hb hK hP 3 0 rfl rfl h179 dX12_does_181 ?_
        refine lv_topi (fun x180 ex180 => ?_)
        have qx180 := PR_e (k := p0.toInt) p_12 (by omega) (by omega) (by omega) ex180 (by omega)
        refine lv_iconst (v := 1) hx hb dX12_does_182 (by decide) ?_
        refine lv_iadd hx hb dX12_does_183 ?_
        refine lv_topi (fun x181 ex181 => ?_)
        have tx181 := ia_add (a := x180) (b := (1 : Int32)) (by omega) (by omega)
        rw [← ex181] at tx181
        have hP9 := hP.sub (ws' := [(a0, .inr (12, [.int i0, .ref a1, .ref a2, .ref a3, .ref a4, .int i1, .ref a5, .int i2, .int i3, .int i4, .int i5, .int i6, .int i7, .int i8, .ref a6, .ref a7, .ref a8, .ref a9, .ref a10, .ref a11, .ref a12, .int i9, .ref a13, .int i10, .ref a14, .ref a15, .int i11, .ref a16, .ref a17, .ref a18, .ref a19, .int i12, .int i13, .int i14, .int i15, .int i16, .ref a20, .long j0, .ref a21, .ref a22, .ref a23, .ref a24])), (a1, .inl (cI, 544, .inl xF0)), (a8, .inl (cI, 600, .inl xF7)), (a12, .inl (cI, 2000, .inl xF11)), (a14, .inl (cI, 6, .inl xF13)), (a15, .inl (cI, 6, .inl xF14))]) [0, 1, 2, 3, 4, 5] rfl
        have hD9 := hD.sub (ws' := [(a0, .inr (12, [.int i0, .ref a1, .ref a2, .ref a3, .ref a4, .int i1, .ref a5, .int i2, .int i3, .int i4, .int i5, .int i6, .int i7, .int i8, .ref a6, .ref a7, .ref a8, .ref a9, .ref a10, .ref a11, .ref a12, .int i9, .ref a13, .int i10, .ref a14, .ref a15, .int i11, .ref a16, .ref a17, .ref a18, .ref a19, .int i12, .int i13, .int i14, .int i15, .int i16, .ref a20, .long j0, .ref a21, .ref a22, .ref a23, .ref a24])), (a1, .inl (cI, 544, .inl xF0)), (a8, .inl (cI, 600, .inl xF7)), (a12, .inl (cI, 2000, .inl xF11)), (a14, .inl (cI, 6, .inl xF13)), (a15, .inl (cI, 6, .inl xF14))]) [0, 1, 2, 3, 4, 5] (by decide) rfl
        rw [hQ]
        exact W.iret (v := x181) hx hb hr (fun t ht hW => ⟨⟨x181, (pickG 0 [i10, i11], pickG (fun _ => 0) [xF0, xF13, xF14], pickG (fun _ => 0) []), rfl, ⟨(show (1 : Int) ≤ x181.toInt ∧ x181.toInt ≤ 400 from ⟨by omega, by omega⟩), (show (0 : Int) ≤ i11.toInt ∧ i11.toInt ≤ 59 from ⟨by omega, by omega⟩), (show WI cp xF0 from p_7), (show DN xF11 i9.toInt xF14 i11.toInt i10.toInt p0.toInt xF14 i11.toInt i10.toInt x181.toInt from DN_skip p_12 p_13 (by omega) (by omega) qx180.1 (by omega) (by omega)), trivial⟩, (by rw [ht]; exact hP9), hD9⟩, hS.F ht⟩) hS.2.2 dX12_does_184
