theorem dX12_jammerAt_0 : decode cX12_jammerAt 0 = .ok (.iconst 0, 1) := by decide +kernel
theorem dX12_jammerAt_1 : decode cX12_jammerAt 1 = .ok (.istore_n 2, 1) := by decide +kernel
theorem dX12_jammerAt_2 : decode cX12_jammerAt 2 = .ok (.iload_n 2, 1) := by decide +kernel
theorem dX12_jammerAt_3 : decode cX12_jammerAt 3 = .ok (.aload_n 0, 1) := by decide +kernel
theorem dX12_jammerAt_4 : decode cX12_jammerAt 4 = .ok (.getfield 13, 3) := by decide +kernel
theorem dX12_jammerAt_7 : decode cX12_jammerAt 7 = .ok (.bipush 6, 2) := by decide +kernel
theorem dX12_jammerAt_9 : decode cX12_jammerAt 9 = .ok (.iaload, 1) := by decide +kernel
theorem dX12_jammerAt_10 : decode cX12_jammerAt 10 = .ok (.if_icmp .ge 47, 3) := by decide +kernel
theorem dX12_jammerAt_13 : decode cX12_jammerAt 13 = .ok (.aload_n 0, 1) := by decide +kernel
theorem dX12_jammerAt_14 : decode cX12_jammerAt 14 = .ok (.iload_n 2, 1) := by decide +kernel
theorem dX12_jammerAt_15 : decode cX12_jammerAt 15 = .ok (.iconst 0, 1) := by decide +kernel
theorem dX12_jammerAt_16 : decode cX12_jammerAt 16 = .ok (.invokevirtual 273, 3) := by decide +kernel
theorem dX12_jammerAt_19 : decode cX12_jammerAt 19 = .ok (.iconst 3, 1) := by decide +kernel
theorem dX12_jammerAt_20 : decode cX12_jammerAt 20 = .ok (.if_icmp .eq 31, 3) := by decide +kernel
theorem dX12_jammerAt_23 : decode cX12_jammerAt 23 = .ok (.aload_n 0, 1) := by decide +kernel
theorem dX12_jammerAt_24 : decode cX12_jammerAt 24 = .ok (.getfield 40, 3) := by decide +kernel
theorem dX12_jammerAt_27 : decode cX12_jammerAt 27 = .ok (.bipush 60, 2) := by decide +kernel
theorem dX12_jammerAt_29 : decode cX12_jammerAt 29 = .ok (.iload_n 2, 1) := by decide +kernel
theorem dX12_jammerAt_30 : decode cX12_jammerAt 30 = .ok (.imul, 1) := by decide +kernel
theorem dX12_jammerAt_31 : decode cX12_jammerAt 31 = .ok (.iload_n 1, 1) := by decide +kernel
theorem dX12_jammerAt_32 : decode cX12_jammerAt 32 = .ok (.iadd, 1) := by decide +kernel
theorem dX12_jammerAt_33 : decode cX12_jammerAt 33 = .ok (.iaload, 1) := by decide +kernel
theorem dX12_jammerAt_34 : decode cX12_jammerAt 34 = .ok (.aload_n 0, 1) := by decide +kernel
theorem dX12_jammerAt_35 : decode cX12_jammerAt 35 = .ok (.iload_n 2, 1) := by decide +kernel
theorem dX12_jammerAt_36 : decode cX12_jammerAt 36 = .ok (.invokevirtual 297, 3) := by decide +kernel
theorem dX12_jammerAt_39 : decode cX12_jammerAt 39 = .ok (.aload_n 0, 1) := by decide +kernel
theorem dX12_jammerAt_40 : decode cX12_jammerAt 40 = .ok (.getfield 13, 3) := by decide +kernel
theorem dX12_jammerAt_43 : decode cX12_jammerAt 43 = .ok (.iconst 2, 1) := by decide +kernel
theorem dX12_jammerAt_44 : decode cX12_jammerAt 44 = .ok (.iaload, 1) := by decide +kernel
theorem dX12_jammerAt_45 : decode cX12_jammerAt 45 = .ok (.iadd, 1) := by decide +kernel
theorem dX12_jammerAt_46 : decode cX12_jammerAt 46 = .ok (.if_icmp .le 5, 3) := by decide +kernel
theorem dX12_jammerAt_49 : decode cX12_jammerAt 49 = .ok (.iload_n 2, 1) := by decide +kernel
theorem dX12_jammerAt_50 : decode cX12_jammerAt 50 = .ok (.ireturn, 1) := by decide +kernel
theorem dX12_jammerAt_51 : decode cX12_jammerAt 51 = .ok (.iinc 2 1, 3) := by decide +kernel
theorem dX12_jammerAt_54 : decode cX12_jammerAt 54 = .ok (.goto (-52), 3) := by decide +kernel
theorem dX12_jammerAt_57 : decode cX12_jammerAt 57 = .ok (.iconst (-1), 1) := by decide +kernel
theorem dX12_jammerAt_58 : decode cX12_jammerAt 58 = .ok (.ireturn, 1) := by decide +kernel
set_option maxHeartbeats 4000000 in
set_option maxRecDepth 100000 in
theorem s_X12_jammerAt (l : Launch) (dC : Nat → ClassId) (dI : Nat → Nat → Nat) (cI cZ cB cJ cM cG : ClassId) (a0 a1 a2 a3 a4 a5 a6 a7 a8 a9 a10 a11 a12 a13 a14 a15 a16 a17 a18 a19 a20 a21 a22 a23 a24 : Nat) (i0 i1 i2 i3 i4 i5 i6 i7 i8 i9 i10 i11 i12 i13 i14 i15 i16 : Int32) (j0 : Int64) (xF0 xF7 : Nat → Int32) (p0 : Int32) (cp : Int) (sz : Nat) (p_0 : (0 : Int) ≤ i1.toInt ∧ i1.toInt ≤ 1600) (p_1 : (0 : Int) ≤ i2.toInt ∧ i2.toInt ≤ 1600) (p_2 : (0 : Int) ≤ i3.toInt ∧ i3.toInt ≤ 1600) (p_3 : (0 : Int) ≤ i4.toInt ∧ i4.toInt ≤ 1600) (p_4 : (0 : Int) ≤ i5.toInt ∧ i5.toInt ≤ 6) (p_5 : (0 : Int) ≤ i7.toInt ∧ i7.toInt ≤ 3) (p_6 : (0 : Int) ≤ i11.toInt ∧ i11.toInt ≤ 59) (p_7 : WI cp xF0) (p_8 : (0 : Int) ≤ p0.toInt ∧ p0.toInt ≤ 59) (p_9 : 0 ≤ cp ∧ cp ≤ 2000000000) : Met l yX12_jammerAt (kw yX12_jammerAt cX12_jammerAt 3 (some .int)) ({ frames := 1, cells := 0, slots := 0, locals := 22 } : Room) (va_Pc [.ref a0, .int p0] (kPre dC dI [(cI, .int), (cZ, .boolean), (cB, .byte), (cJ, .long), (cM, .object RX2), (cG, .array .int)] [(a0, .inr (12, [.int i0, .ref a1, .ref a2, .ref a3, .ref a4, .int i1, .ref a5, .int i2, .int i3, .int i4, .int i5, .int i6, .int i7, .int i8, .ref a6, .ref a7, .ref a8, .ref a9, .ref a10, .ref a11, .ref a12, .int i9, .ref a13, .int i10, .ref a14, .ref a15, .int i11, .ref a16, .ref a17, .ref a18, .ref a19, .int i12, .int i13, .int i14, .int i15, .int i16, .ref a20, .long j0, .ref a21, .ref a22, .ref a23, .ref a24])), (a1, .inl (cI, 544, .inl xF0)), (a8, .inl (cI, 600, .inl xF7))] sz)) (va_Qi (fun (r : Int32) (u9 : Unit) => ((-1 : Int) ≤ r.toInt ∧ r.toInt ≤ 9) ∧ True) (fun u9 t => va_P (dC, dI) vwCl [(a0, .inr (12, [.int i0, .ref a1, .ref a2, .ref a3, .ref a4, .int i1, .ref a5, .int i2, .int i3, .int i4, .int i5, .int i6, .int i7, .int i8, .ref a6, .ref a7, .ref a8, .ref a9, .ref a10, .ref a11, .ref a12, .int i9, .ref a13, .int i10, .ref a14, .ref a15, .int i11, .ref a16, .ref a17, .ref a18, .ref a19, .int i12, .int i13, .int i14, .int i15, .int i16, .ref a20, .long j0, .ref a21, .ref a22, .ref a23, .ref a24])), (a1, .inl (cI, 544, .inl xF0)), (a8, .inl (cI, 600, .inl xF7))] t.heap ∧ va_D (va_A [(a0, .inr (12, [.int i0, .ref a1, .ref a2, .ref a3, .ref a4, .int i1, .ref a5, .int i2, .int i3, .int i4, .int i5, .int i6, .int i7, .int i8, .ref a6, .ref a7, .ref a8, .ref a9, .ref a10, .ref a11, .ref a12, .int i9, .ref a13, .int i10, .ref a14, .ref a15, .int i11, .ref a16, .ref a17, .ref a18, .ref a19, .int i12, .int i13, .int i14, .int i15, .int i16, .ref a20, .long j0, .ref a21, .ref a22, .ref a23, .ref a24])), (a1, .inl (cI, 544, .inl xF0)), (a8, .inl (cI, 600, .inl xF7))] sz) [(a0, .inr (12, [.int i0, .ref a1, .ref a2, .ref a3, .ref a4, .int i1, .ref a5, .int i2, .int i3, .int i4, .int i5, .int i6, .int i7, .int i8, .ref a6, .ref a7, .ref a8, .ref a9, .ref a10, .ref a11, .ref a12, .int i9, .ref a13, .int i10, .ref a14, .ref a15, .int i11, .ref a16, .ref a17, .ref a18, .ref a19, .int i12, .int i13, .int i14, .int i15, .int i16, .ref a20, .long j0, .ref a21, .ref a22, .ref a23, .ref a24])), (a1, .inl (cI, 544, .inl xF0)), (a8, .inl (cI, 600, .inl xF7))]) (va_A [(a0, .inr (12, [.int i0, .ref a1, .ref a2, .ref a3, .ref a4, .int i1, .ref a5, .int i2, .int i3, .int i4, .int i5, .int i6, .int i7, .int i8, .ref a6, .ref a7, .ref a8, .ref a9, .ref a10, .ref a11, .ref a12, .int i9, .ref a13, .int i10, .ref a14, .ref a15, .int i11, .ref a16, .ref a17, .ref a18, .ref a19, .int i12, .int i13, .int i14, .int i15, .int i16, .ref a20, .long j0, .ref a21, .ref a22, .ref a23, .ref a24])), (a1, .inl (cI, 544, .inl xF0)), (a8, .inl (cI, 600, .inl xF7))] sz)) 0 0 (va_A [(a0, .inr (12, [.int i0, .ref a1, .ref a2, .ref a3, .ref a4, .int i1, .ref a5, .int i2, .int i3, .int i4, .int i5, .int i6, .int i7, .int i8, .ref a6, .ref a7, .ref a8, .ref a9, .ref a10, .ref a11, .ref a12, .int i9, .ref a13, .int i10, .ref a14, .ref a15, .int i11, .ref a16, .ref a17, .ref a18, .ref a19, .int i12, .int i13, .int i14, .int i15, .int i16, .ref a20, .long j0, .ref a21, .ref a22, .ref a23, .ref a24])), (a1, .inl (cI, 544, .inl xF0)), (a8, .inl (cI, 600, .inl xF7))] sz) := by
  refine kEnter (by decide) (Nat.le_of_ble_eq_true rfl) ?_
  intro p e s m below meth c ls hx hb hr hml hown hlocks hin hwd hsz hP hK hD hl
  subst hsz
  generalize hAe : va_A [(a0, .inr (12, [.int i0, .ref a1, .ref a2, .ref a3, .ref a4, .int i1, .ref a5, .int i2, .int i3, .int i4, .int i5, .int i6, .int i7, .int i8, .ref a6, .ref a7, .ref a8, .ref a9, .ref a10, .ref a11, .ref a12, .int i9, .ref a13, .int i10, .ref a14, .ref a15, .int i11, .ref a16, .ref a17, .ref a18, .ref a19, .int i12, .int i13, .int i14, .int i15, .int i16, .ref a20, .long j0, .ref a21, .ref a22, .ref a23, .ref a24])), (a1, .inl (cI, 544, .inl xF0)), (a8, .inl (cI, 600, .inl xF7))] s.heap.size = A at hD ⊢
  have hA : ∀ q : Nat, s.heap.size ≤ q → A q := fun q h => by rw [← hAe]; exact Or.inr h
  have hS : va_S A s.heap s.heap [] := va_S.rf
  have hl : lv_has ls 3 [(0, .ref a0), (1, .int p0)] := hl
  obtain ⟨Q, hQ⟩ : ∃ Q, Q = MQ below (va_Qi (fun (r : Int32) (u9 : Unit) => ((-1 : Int) ≤ r.toInt ∧ r.toInt ≤ 9) ∧ True) (fun u9 t => va_P (dC, dI) vwCl [(a0, .inr (12, [.int i0, .ref a1, .ref a2, .ref a3, .ref a4, .int i1, .ref a5, .int i2, .int i3, .int i4, .int i5, .int i6, .int i7, .int i8, .ref a6, .ref a7, .ref a8, .ref a9, .ref a10, .ref a11, .ref a12, .int i9, .ref a13, .int i10, .ref a14, .ref a15, .int i11, .ref a16, .ref a17, .ref a18, .ref a19, .int i12, .int i13, .int i14, .int i15, .int i16, .ref a20, .long j0, .ref a21, .ref a22, .ref a23, .ref a24])), (a1, .inl (cI, 544, .inl xF0)), (a8, .inl (cI, 600, .inl xF7))] t.heap ∧ va_D A [(a0, .inr (12, [.int i0, .ref a1, .ref a2, .ref a3, .ref a4, .int i1, .ref a5, .int i2, .int i3, .int i4, .int i5, .int i6, .int i7, .int i8, .ref a6, .ref a7, .ref a8, .ref a9, .ref a10, .ref a11, .ref a12, .int i9, .ref a13, .int i10, .ref a14, .ref a15, .int i11, .ref a16, .ref a17, .ref a18, .ref a19, .int i12, .int i13, .int i14, .int i15, .int i16, .ref a20, .long j0, .ref a21, .ref a22, .ref a23, .ref a24])), (a1, .inl (cI, 544, .inl xF0)), (a8, .inl (cI, 600, .inl xF7))]) A) ([.ref a0, .int p0] : List Value).toArray s 0 0 A := ⟨_, rfl⟩
  rw [← hQ]
  have km1 : ((-1) : Int32).toInt = -1 := by decide
  have k0 : (0 : Int32).toInt = 0 := by decide
  have k1 : (1 : Int32).toInt = 1 := by decide
  have k2 : (2 : Int32).toInt = 2 := by decide
  have k3 : (3 : Int32).toInt = 3 := by decide
  have k6 : (6 : Int32).toInt = 6 := by decide
  have k60 : (60 : Int32).toInt = 60 := by decide
  refine lv_iconst (v := 0) hx hb dX12_jammerAt_0 (by decide) ?_
  refine lv_istore_n (lv' := [(2, .int 0), (0, .ref a0), (1, .int p0)]) hx hb dX12_jammerAt_1 rfl hl (by decide) rfl (fun ls hl => ?_)
  have lp1 : ∀ (d : Nat), ∀ (H : Heap) (locs : List Loc) (ls : Array Slot) (w2_1 : Int32), ((0 : Int) ≤ w2_1.toInt ∧ w2_1.toInt ≤ 10) → (10 - w2_1.toInt).toNat < d → va_P (dC, dI) vwCl [(a0, .inr (12, [.int i0, .ref a1, .ref a2, .ref a3, .ref a4, .int i1, .ref a5, .int i2, .int i3, .int i4, .int i5, .int i6, .int i7, .int i8, .ref a6, .ref a7, .ref a8, .ref a9, .ref a10, .ref a11, .ref a12, .int i9, .ref a13, .int i10, .ref a14, .ref a15, .int i11, .ref a16, .ref a17, .ref a18, .ref a19, .int i12, .int i13, .int i14, .int i15, .int i16, .ref a20, .long j0, .ref a21, .ref a22, .ref a23, .ref a24])), (a1, .inl (cI, 544, .inl xF0)), (a8, .inl (cI, 600, .inl xF7))] H → va_D A [(a0, .inr (12, [.int i0, .ref a1, .ref a2, .ref a3, .ref a4, .int i1, .ref a5, .int i2, .int i3, .int i4, .int i5, .int i6, .int i7, .int i8, .ref a6, .ref a7, .ref a8, .ref a9, .ref a10, .ref a11, .ref a12, .int i9, .ref a13, .int i10, .ref a14, .ref a15, .int i11, .ref a16, .ref a17, .ref a18, .ref a19, .int i12, .int i13, .int i14, .int i15, .int i16, .ref a20, .long j0, .ref a21, .ref a22, .ref a23, .ref a24])), (a1, .inl (cI, 544, .inl xF0)), (a8, .inl (cI, 600, .inl xF7))] → va_S A s.heap H locs → lv_has ls 3 [(0, .ref a0), (1, .int p0), (2, .int w2_1)] → W p l e ({ frames := 1, cells := 0, slots := 0, locals := 22 } : Room) s m ([.ref a0, .int p0] : List Value).toArray below meth c H locs 0 0 Q (F0 m 2 ls []) := by
    intro d
    induction d with
    | zero =>
      intro H locs ls w2_1 hr_w2_1 hm hP hD hS hl
      omega
    | succ d ih1 =>
      intro H locs ls w2_1 hr_w2_1 hm hP hD hS hl
      refine lv_iload_n hx hb dX12_jammerAt_2 rfl (lv_at hl 2 rfl) ?_
      refine lv_aload_n hx hb dX12_jammerAt_3 rfl (lv_at hl 0 rfl) ?_
      refine va_get (D := (dC, dI)) (ci := 12) (v := .ref a1) (C := RX12) (T := TX12) (N := 42) hx hb hwd inlX12 hown hK hP 0 rfl rfl 1 (by decide) (hwd _ kr7_3) (fun _ h9 => h9) rfl dX12_jammerAt_4 ?_
      refine lv_bipush (v := 6) hx hb dX12_jammerAt_7 (by decide) ?_
      have h103 : vp_in (6 : Int32) 544 := (vin (by decide))
      refine va_iald hx hb hK hP 1 0 rfl rfl h103 dX12_jammerAt_9 ?_
      refine lv_topi (fun x104 ex104 => ?_)
      have ix104 := wat_lit (k := 6) ex104 (by decide)
      have wh105 : whd cp xF0 := p_7.1
      unfold whd at wh105
      refine lv_icmp_ge (tgt := 57) hx hb dX12_jammerAt_10 (by decide) (fun c106 => ?_) (fun c106 => ?_)
      · rw [ki_le] at c106
        refine lv_iconst (v := (-1)) hx hb dX12_jammerAt_57 (by decide) ?_
        have hP9 := hP.sub (ws' := [(a0, .inr (12, [.int i0, .ref a1, .ref a2, .ref a3, .ref a4, .int i1, .ref a5, .int i2, .int i3, .int i4, .int i5, .int i6, .int i7, .int i8, .ref a6, .ref a7, .ref a8, .ref a9, .ref a10, .ref a11, .ref a12, .int i9, .ref a13, .int i10, .ref a14, .ref a15, .int i11, .ref a16, .ref a17, .ref a18, .ref a19, .int i12, .int i13, .int i14, .int i15, .int i16, .ref a20, .long j0, .ref a21, .ref a22, .ref a23, .ref a24])), (a1, .inl (cI, 544, .inl xF0)), (a8, .inl (cI, 600, .inl xF7))]) [0, 1, 2] rfl
        have hD9 := hD.sub (ws' := [(a0, .inr (12, [.int i0, .ref a1, .ref a2, .ref a3, .ref a4, .int i1, .ref a5, .int i2, .int i3, .int i4, .int i5, .int i6, .int i7, .int i8, .ref a6, .ref a7, .ref a8, .ref a9, .ref a10, .ref a11, .ref a12, .int i9, .ref a13, .int i10, .ref a14, .ref a15, .int i11, .ref a16, .ref a17, .ref a18, .ref a19, .int i12, .int i13, .int i14, .int i15, .int i16, .ref a20, .long j0, .ref a21, .ref a22, .ref a23, .ref a24])), (a1, .inl (cI, 544, .inl xF0)), (a8, .inl (cI, 600, .inl xF7))]) [0, 1, 2] (by decide) rfl
        rw [hQ]
        exact W.iret (v := (-1)) hx hb hr (fun t ht hW => ⟨⟨(-1), (), rfl, ⟨(show (-1 : Int) ≤ ((-1) : Int32).toInt ∧ ((-1) : Int32).toInt ≤ 9 from ⟨by omega, by omega⟩), trivial⟩, (by rw [ht]; exact hP9), hD9⟩, hS.F ht⟩) hS.2.2 dX12_jammerAt_58
      · rw [ki_le] at c106
        refine lv_aload_n hx hb dX12_jammerAt_13 rfl (lv_at hl 0 rfl) ?_
        refine lv_iload_n hx hb dX12_jammerAt_14 rfl (lv_at hl 2 rfl) ?_
        refine lv_iconst (v := 0) hx hb dX12_jammerAt_15 (by decide) ?_
        have hPc := hP.sub (ws' := [(a0, .inr (12, [.int i0, .ref a1, .ref a2, .ref a3, .ref a4, .int i1, .ref a5, .int i2, .int i3, .int i4, .int i5, .int i6, .int i7, .int i8, .ref a6, .ref a7, .ref a8, .ref a9, .ref a10, .ref a11, .ref a12, .int i9, .ref a13, .int i10, .ref a14, .ref a15, .int i11, .ref a16, .ref a17, .ref a18, .ref a19, .int i12, .int i13, .int i14, .int i15, .int i16, .ref a20, .long j0, .ref a21, .ref a22, .ref a23, .ref a24])), (a1, .inl (cI, 544, .inl xF0))]) [0, 1] rfl
        have hDc := hD.sub (ws' := [(a0, .inr (12, [.int i0, .ref a1, .ref a2, .ref a3, .ref a4, .int i1, .ref a5, .int i2, .int i3, .int i4, .int i5, .int i6, .int i7, .int i8, .ref a6, .ref a7, .ref a8, .ref a9, .ref a10, .ref a11, .ref a12, .int i9, .ref a13, .int i10, .ref a14, .ref a15, .int i11, .ref a16, .ref a17, .ref a18, .ref a19, .int i12, .int i13, .int i14, .int i15, .int i16, .ref a20, .long j0, .ref a21, .ref a22, .ref a23, .ref a24])), (a1, .inl (cI, 544, .inl xF0))]) [0, 1] (by decide) rfl
        have hFc := va_free (wc := [(a0, .inr (12, [.int i0, .ref a1, .ref a2, .ref a3, .ref a4, .int i1, .ref a5, .int i2, .int i3, .int i4, .int i5, .int i6, .int i7, .int i8, .ref a6, .ref a7, .ref a8, .ref a9, .ref a10, .ref a11, .ref a12, .int i9, .ref a13, .int i10, .ref a14, .ref a15, .int i11, .ref a16, .ref a17, .ref a18, .ref a19, .int i12, .int i13, .int i14, .int i15, .int i16, .ref a20, .long j0, .ref a21, .ref a22, .ref a23, .ref a24])), (a1, .inl (cI, 544, .inl xF0))]) hD hS hA [0, 1] rfl
        refine va_calli (va_runV (As := [.int w2_1, .int 0]) (rest := []) ⟨hx, hb, hml, hown, hwd⟩ (s_X12_of l dC dI cI cZ cB cJ cM cG a0 a1 a2 a3 a4 a5 a6 a7 a8 a9 a10 a11 a12 a13 a14 a15 a16 a17 a18 a19 a20 a21 a22 a23 a24 i0 i1 i2 i3 i4 i5 i6 i7 i8 i9 i10 i11 i12 i13 i14 i15 i16 j0 xF0 w2_1 0 cp H.size (show (0 : Int) ≤ i1.toInt ∧ i1.toInt ≤ 1600 from ⟨by omega, by omega⟩) (show (0 : Int) ≤ i2.toInt ∧ i2.toInt ≤ 1600 from ⟨by omega, by omega⟩) (show (0 : Int) ≤ i3.toInt ∧ i3.toInt ≤ 1600 from ⟨by omega, by omega⟩) (show (0 : Int) ≤ i4.toInt ∧ i4.toInt ≤ 1600 from ⟨by omega, by omega⟩) (show (0 : Int) ≤ i5.toInt ∧ i5.toInt ≤ 6 from ⟨by omega, by omega⟩) (show (0 : Int) ≤ i7.toInt ∧ i7.toInt ≤ 3 from ⟨by omega, by omega⟩) (show (0 : Int) ≤ i11.toInt ∧ i11.toInt ≤ 59 from ⟨by omega, by omega⟩) (show WI cp xF0 from p_7) (show (0 : Int) ≤ w2_1.toInt ∧ w2_1.toInt ≤ 9 from ⟨by omega, by omega⟩) (show (0 : Int) ≤ (0 : Int32).toInt ∧ (0 : Int32).toInt ≤ 5 from ⟨by omega, by omega⟩) p_9) (cwV 2 hwd (gV kr27_18 kr27_19 kr27_20 kr1_5 kr27_21) rfl rfl rfl (by decide +kernel) ⟨Nat.le_of_ble_eq_true rfl, Nat.le_of_ble_eq_true rfl⟩) (kPreV hPc hK hDc (ci := 12) (q0 := 0) rfl rfl) rfl rfl hl.1 rfl (lv_room (Nat.le_of_ble_eq_true rfl)) dX12_jammerAt_16 ⟨Nat.le_of_ble_eq_true rfl, Nat.le_of_ble_eq_true rfl⟩) hS (fun q _ h => hFc q h) hFc (fun r107 u108 t H1 locs ht9 hvm hw hB hz1 hk1 hS => ?_)
        obtain ⟨hw109, -⟩ := hw
        have hw109 : r107.toInt = wfo xF0 0 w2_1.toInt := hw109
        have wf110 := p_7.2.2.1 w2_1.toInt (by omega) (by omega)
        unfold wfl at wf110
        obtain ⟨hP1, hD1⟩ := hB
        rw [ht9] at hP1
        obtain ⟨hP, hD⟩ := va_join (wr := [(a8, .inl (cI, 600, .inl xF7))]) (w1 := [(a0, .inr (12, [.int i0, .ref a1, .ref a2, .ref a3, .ref a4, .int i1, .ref a5, .int i2, .int i3, .int i4, .int i5, .int i6, .int i7, .int i8, .ref a6, .ref a7, .ref a8, .ref a9, .ref a10, .ref a11, .ref a12, .int i9, .ref a13, .int i10, .ref a14, .ref a15, .int i11, .ref a16, .ref a17, .ref a18, .ref a19, .int i12, .int i13, .int i14, .int i15, .int i16, .ref a20, .long j0, .ref a21, .ref a22, .ref a23, .ref a24])), (a1, .inl (cI, 544, .inl xF0))]) hP hD [0, 1] [2] rfl rfl (by decide) (by decide) hk1 hFc hP1 hD1
        generalize H1 = H at hP hS ⊢
        have hP : va_P (dC, dI) vwCl [(a8, .inl (cI, 600, .inl xF7)), (a0, .inr (12, [.int i0, .ref a1, .ref a2, .ref a3, .ref a4, .int i1, .ref a5, .int i2, .int i3, .int i4, .int i5, .int i6, .int i7, .int i8, .ref a6, .ref a7, .ref a8, .ref a9, .ref a10, .ref a11, .ref a12, .int i9, .ref a13, .int i10, .ref a14, .ref a15, .int i11, .ref a16, .ref a17, .ref a18, .ref a19, .int i12, .int i13, .int i14, .int i15, .int i16, .ref a20, .long j0, .ref a21, .ref a22, .ref a23, .ref a24])), (a1, .inl (cI, 544, .inl xF0))] H := hP
        have hD : va_D A [(a8, .inl (cI, 600, .inl xF7)), (a0, .inr (12, [.int i0, .ref a1, .ref a2, .ref a3, .ref a4, .int i1, .ref a5, .int i2, .int i3, .int i4, .int i5, .int i6, .int i7, .int i8, .ref a6, .ref a7, .ref a8, .ref a9, .ref a10, .ref a11, .ref a12, .int i9, .ref a13, .int i10, .ref a14, .ref a15, .int i11, .ref a16, .ref a17, .ref a18, .ref a19, .int i12, .int i13, .int i14, .int i15, .int i16, .ref a20, .long j0, .ref a21, .ref a22, .ref a23, .ref a24])), (a1, .inl (cI, 544, .inl xF0))] := hD
        refine lv_iconst (v := 3) hx hb dX12_jammerAt_19 (by decide) ?_
        refine lv_icmp_eq (tgt := 51) hx hb dX12_jammerAt_20 (by decide) (fun c111 => ?_) (fun c111 => ?_)
        · rw [ki_eq] at c111
          obtain ⟨x112, ex112⟩ : ∃ y : Int32, y = w2_1 + 1 := ⟨_, rfl⟩
          refine lv_iinc (v := x112) (lv' := [(2, .int x112), (0, .ref a0), (1, .int p0)]) hx hb dX12_jammerAt_51 hl (k := 2) rfl (by rw [ex112]; rfl) (by decide) rfl (fun ls hl => ?_)
          have tx112 := ia_add (a := w2_1) (b := (1 : Int32)) (by omega) (by omega)
          rw [← ex112] at tx112
          refine lv_goto (tgt := 2) hx hb dX12_jammerAt_54 (by decide) ?_
          exact ih1 _ _ ls x112 (show (0 : Int) ≤ x112.toInt ∧ x112.toInt ≤ 10 from ⟨by omega, by omega⟩) (by omega) (hP.sub (ws' := [(a0, .inr (12, [.int i0, .ref a1, .ref a2, .ref a3, .ref a4, .int i1, .ref a5, .int i2, .int i3, .int i4, .int i5, .int i6, .int i7, .int i8, .ref a6, .ref a7, .ref a8, .ref a9, .ref a10, .ref a11, .ref a12, .int i9, .ref a13, .int i10, .ref a14, .ref a15, .int i11, .ref a16, .ref a17, .ref a18, .ref a19, .int i12, .int i13, .int i14, .int i15, .int i16, .ref a20, .long j0, .ref a21, .ref a22, .ref a23, .ref a24])), (a1, .inl (cI, 544, .inl xF0)), (a8, .inl (cI, 600, .inl xF7))]) [1, 2, 0] rfl) (hD.sub (ws' := [(a0, .inr (12, [.int i0, .ref a1, .ref a2, .ref a3, .ref a4, .int i1, .ref a5, .int i2, .int i3, .int i4, .int i5, .int i6, .int i7, .int i8, .ref a6, .ref a7, .ref a8, .ref a9, .ref a10, .ref a11, .ref a12, .int i9, .ref a13, .int i10, .ref a14, .ref a15, .int i11, .ref a16, .ref a17, .ref a18, .ref a19, .int i12, .int i13, .int i14, .int i15, .int i16, .ref a20, .long j0, .ref a21, .ref a22, .ref a23, .ref a24])), (a1, .inl (cI, 544, .inl xF0)), (a8, .inl (cI, 600, .inl xF7))]) [1, 2, 0] (by decide) rfl) hS (lv_sub hl [1, 2, 0] rfl)
        · rw [ki_eq] at c111
          refine lv_aload_n hx hb dX12_jammerAt_23 rfl (lv_at hl 0 rfl) ?_
          refine va_get (D := (dC, dI)) (ci := 12) (v := .ref a8) (C := RX12) (T := TX12) (N := 42) hx hb hwd inlX12 hown hK hP 1 rfl rfl 16 (by decide) (hwd _ kr7_11) (fun _ h9 => h9) rfl dX12_jammerAt_24 ?_
          refine lv_bipush (v := 60) hx hb dX12_jammerAt_27 (by decide) ?_
          refine lv_iload_n hx hb dX12_jammerAt_29 rfl (lv_at hl 2 rfl) ?_
          refine lv_imul hx hb dX12_jammerAt_30 ?_
          refine lv_topi (fun x113 ex113 => ?_)
          have tx113 := ia_mull (a := (60 : Int32)) (b := w2_1) 60 (by decide) (by omega) (by omega)
          rw [← ex113] at tx113
          refine lv_iload_n hx hb dX12_jammerAt_31 rfl (lv_at hl 1 rfl) ?_
          refine lv_iadd hx hb dX12_jammerAt_32 ?_
          refine lv_topi (fun x114 ex114 => ?_)
          have tx114 := ia_add (a := x113) (b := p0) (by omega) (by omega)
          rw [← ex114] at tx114
          have h115 : vp_in x114 600 := (vp_of (by omega) (by omega))
          refine va_iald hx hb hK hP 0 0 rfl rfl h115 dX12_jammerAt_33 ?_
          refine lv_topi (fun x116 ex116 => ?_)
          refine lv_aload_n hx hb dX12_jammerAt_34 rfl (lv_at hl 0 rfl) ?_
          refine lv_iload_n hx hb dX12_jammerAt_35 rfl (lv_at hl 2 rfl) ?_
          have hPc := hP.sub (ws' := [(a0, .inr (12, [.int i0, .ref a1, .ref a2, .ref a3, .ref a4, .int i1, .ref a5, .int i2, .int i3, .int i4, .int i5, .int i6, .int i7, .int i8, .ref a6, .ref a7, .ref a8, .ref a9, .ref a10, .ref a11, .ref a12, .int i9, .ref a13, .int i10, .ref a14, .ref a15, .int i11, .ref a16, .ref a17, .ref a18, .ref a19, .int i12, .int i13, .int i14, .int i15, .int i16, .ref a20, .long j0, .ref a21, .ref a22, .ref a23, .ref a24])), (a1, .inl (cI, 544, .inl xF0))]) [1, 2] rfl
          have hDc := hD.sub (ws' := [(a0, .inr (12, [.int i0, .ref a1, .ref a2, .ref a3, .ref a4, .int i1, .ref a5, .int i2, .int i3, .int i4, .int i5, .int i6, .int i7, .int i8, .ref a6, .ref a7, .ref a8, .ref a9, .ref a10, .ref a11, .ref a12, .int i9, .ref a13, .int i10, .ref a14, .ref a15, .int i11, .ref a16, .ref a17, .ref a18, .ref a19, .int i12, .int i13, .int i14, .int i15, .int i16, .ref a20, .long j0, .ref a21, .ref a22, .ref a23, .ref a24])), (a1, .inl (cI, 544, .inl xF0))]) [1, 2] (by decide) rfl
          have hFc := va_free (wc := [(a0, .inr (12, [.int i0, .ref a1, .ref a2, .ref a3, .ref a4, .int i1, .ref a5, .int i2, .int i3, .int i4, .int i5, .int i6, .int i7, .int i8, .ref a6, .ref a7, .ref a8, .ref a9, .ref a10, .ref a11, .ref a12, .int i9, .ref a13, .int i10, .ref a14, .ref a15, .int i11, .ref a16, .ref a17, .ref a18, .ref a19, .int i12, .int i13, .int i14, .int i15, .int i16, .ref a20, .long j0, .ref a21, .ref a22, .ref a23, .ref a24])), (a1, .inl (cI, 544, .inl xF0))]) hD hS hA [1, 2] rfl
          refine va_calli (va_runV (As := [.int w2_1]) (rest := [.int x116]) ⟨hx, hb, hml, hown, hwd⟩ (s_X12_posOf l dC dI cI cZ cB cJ cM cG a0 a1 a2 a3 a4 a5 a6 a7 a8 a9 a10 a11 a12 a13 a14 a15 a16 a17 a18 a19 a20 a21 a22 a23 a24 i0 i1 i2 i3 i4 i5 i6 i7 i8 i9 i10 i11 i12 i13 i14 i15 i16 j0 xF0 w2_1 cp H.size (show (0 : Int) ≤ i1.toInt ∧ i1.toInt ≤ 1600 from ⟨by omega, by omega⟩) (show (0 : Int) ≤ i2.toInt ∧ i2.toInt ≤ 1600 from ⟨by omega, by omega⟩) (show (0 : Int) ≤ i3.toInt ∧ i3.toInt ≤ 1600 from ⟨by omega, by omega⟩) (show (0 : Int) ≤ i4.toInt ∧ i4.toInt ≤ 1600 from ⟨by omega, by omega⟩) (show (0 : Int) ≤ i5.toInt ∧ i5.toInt ≤ 6 from ⟨by omega, by omega⟩) (show (0 : Int) ≤ i7.toInt ∧ i7.toInt ≤ 3 from ⟨by omega, by omega⟩) (show (0 : Int) ≤ i11.toInt ∧ i11.toInt ≤ 59 from ⟨by omega, by omega⟩) (show WI cp xF0 from p_7) (show (0 : Int) ≤ w2_1.toInt ∧ w2_1.toInt ≤ 9 from ⟨by omega, by omega⟩) p_9) (cwV 1 hwd (gV kr28_6 kr28_7 kr28_8 kr1_5 kr28_9) rfl rfl rfl (by decide +kernel) ⟨Nat.le_of_ble_eq_true rfl, Nat.le_of_ble_eq_true rfl⟩) (kPreV hPc hK hDc (ci := 12) (q0 := 0) rfl rfl) rfl rfl hl.1 rfl (lv_room (Nat.le_of_ble_eq_true rfl)) dX12_jammerAt_36 ⟨Nat.le_of_ble_eq_true rfl, Nat.le_of_ble_eq_true rfl⟩) hS (fun q _ h => hFc q h) hFc (fun r117 u118 t H1 locs ht9 hvm hw hB hz1 hk1 hS => ?_)
          obtain ⟨hP1, hD1⟩ := hB
          rw [ht9] at hP1
          obtain ⟨hP, hD⟩ := va_join (wr := [(a8, .inl (cI, 600, .inl xF7))]) (w1 := [(a0, .inr (12, [.int i0, .ref a1, .ref a2, .ref a3, .ref a4, .int i1, .ref a5, .int i2, .int i3, .int i4, .int i5, .int i6, .int i7, .int i8, .ref a6, .ref a7, .ref a8, .ref a9, .ref a10, .ref a11, .ref a12, .int i9, .ref a13, .int i10, .ref a14, .ref a15, .int i11, .ref a16, .ref a17, .ref a18, .ref a19, .int i12, .int i13, .int i14, .int i15, .int i16, .ref a20, .long j0, .ref a21, .ref a22, .ref a23, .ref a24])), (a1, .inl (cI, 544, .inl xF0))]) hP hD [1, 2] [0] rfl rfl (by decide) (by decide) hk1 hFc hP1 hD1
          generalize H1 = H at hP hS ⊢
          have hP : va_P (dC, dI) vwCl [(a8, .inl (cI, 600, .inl xF7)), (a0, .inr (12, [.int i0, .ref a1, .ref a2, .ref a3, .ref a4, .int i1, .ref a5, .int i2, .int i3, .int i4, .int i5, .int i6, .int i7, .int i8, .ref a6, .ref a7, .ref a8, .ref a9, .ref a10, .ref a11, .ref a12, .int i9, .ref a13, .int i10, .ref a14, .ref a15, .int i11, .ref a16, .ref a17, .ref a18, .ref a19, .int i12, .int i13, .int i14, .int i15, .int i16, .ref a20, .long j0, .ref a21, .ref a22, .ref a23, .ref a24])), (a1, .inl (cI, 544, .inl xF0))] H := hP
          have hD : va_D A [(a8, .inl (cI, 600, .inl xF7)), (a0, .inr (12, [.int i0, .ref a1, .ref a2, .ref a3, .ref a4, .int i1, .ref a5, .int i2, .int i3, .int i4, .int i5, .int i6, .int i7, .int i8, .ref a6, .ref a7, .ref a8, .ref a9, .ref a10, .ref a11, .ref a12, .int i9, .ref a13, .int i10, .ref a14, .ref a15, .int i11, .ref a16, .ref a17, .ref a18, .ref a19, .int i12, .int i13, .int i14, .int i15, .int i16, .ref a20, .long j0, .ref a21, .ref a22, .ref a23, .ref a24])), (a1, .inl (cI, 544, .inl xF0))] := hD
          refine lv_aload_n hx hb dX12_jammerAt_39 rfl (lv_at hl 0 rfl) ?_
          refine va_get (D := (dC, dI)) (ci := 12) (v := .ref a1) (C := RX12) (T := TX12) (N := 42) hx hb hwd inlX12 hown hK hP 1 rfl rfl 1 (by decide) (hwd _ kr7_3) (fun _ h9 => h9) rfl dX12_jammerAt_40 ?_
          refine lv_iconst (v := 2) hx hb dX12_jammerAt_43 (by decide) ?_
          have h119 : vp_in (2 : Int32) 544 := (vin (by decide))
          refine va_iald hx hb hK hP 2 0 rfl rfl h119 dX12_jammerAt_44 ?_
          refine lv_topi (fun x120 ex120 => ?_)
          have ix120 := wat_lit (k := 2) ex120 (by decide)
          refine lv_iadd hx hb dX12_jammerAt_45 ?_
          refine lv_topi (fun x121 ex121 => ?_)
          refine lv_icmp_le (tgt := 51) hx hb dX12_jammerAt_46 (by decide) (fun c122 => ?_) (fun c122 => ?_)
          · rw [ki_le] at c122
            obtain ⟨x123, ex123⟩ : ∃ y : Int32, y = w2_1 + 1 := ⟨_, rfl⟩
            refine lv_iinc (v := x123) (lv' := [(2, .int x123), (0, .ref a0), (1, .int p0)]) hx hb dX12_jammerAt_51 hl (k := 2) rfl (by rw [ex123]; rfl) (by decide) rfl (fun ls hl => ?_)
            have tx123 := ia_add (a := w2_1) (b := (1 : Int32)) (by omega) (by omega)
            rw [← ex123] at tx123
            refine lv_goto (tgt := 2) hx hb dX12_jammerAt_54 (by decide) ?_
            exact ih1 _ _ ls x123 (show (0 : Int) ≤ x123.toInt ∧ x123.toInt ≤ 10 from ⟨by omega, by omega⟩) (by omega) (hP.sub (ws' := [(a0, .inr (12, [.int i0, .ref a1, .ref a2, .ref a3, .ref a4, .int i1, .ref a5, .int i2, .int i3, .int i4, .int i5, .int i6, .int i7, .int i8, .ref a6, .ref a7, .ref a8, .ref a9, .ref a10, .ref a11, .ref a12, .int i9, .ref a13, .int i10, .ref a14, .ref a15, .int i11, .ref a16, .ref a17, .ref a18, .ref a19, .int i12, .int i13, .int i14, .int i15, .int i16, .ref a20, .long j0, .ref a21, .ref a22, .ref a23, .ref a24])), (a1, .inl (cI, 544, .inl xF0)), (a8, .inl (cI, 600, .inl xF7))]) [1, 2, 0] rfl) (hD.sub (ws' := [(a0, .inr (12, [.int i0, .ref a1, .ref a2, .ref a3, .ref a4, .int i1, .ref a5, .int i2, .int i3, .int i4, .int i5, .int i6, .int i7, .int i8, .ref a6, .ref a7, .ref a8, .ref a9, .ref a10, .ref a11, .ref a12, .int i9, .ref a13, .int i10, .ref a14, .ref a15, .int i11, .ref a16, .ref a17, .ref a18, .ref a19, .int i12, .int i13, .int i14, .int i15, .int i16, .ref a20, .long j0, .ref a21, .ref a22, .ref a23, .ref a24])), (a1, .inl (cI, 544, .inl xF0)), (a8, .inl (cI, 600, .inl xF7))]) [1, 2, 0] (by decide) rfl) hS (lv_sub hl [1, 2, 0] rfl)
          · rw [ki_le] at c122
            refine lv_iload_n hx hb dX12_jammerAt_49 rfl (lv_at hl 2 rfl) ?_
            have hP9 := hP.sub (ws' := [(a0, .inr (12, [.int i0, .ref a1, .ref a2, .ref a3, .ref a4, .int i1, .ref a5, .int i2, .int i3, .int i4, .int i5, .int i6, .int i7, .int i8, .ref a6, .ref a7, .ref a8, .ref a9, .ref a10, .ref a11, .ref a12, .int i9, .ref a13, .int i10, .ref a14, .ref a15, .int i11, .ref a16, .ref a17, .ref a18, .ref a19, .int i12, .int i13, .int i14, .int i15, .int i16, .ref a20, .long j0, .ref a21, .ref a22, .ref a23, .ref a24])), (a1, .inl (cI, 544, .inl xF0)), (a8, .inl (cI, 600, .inl xF7))]) [1, 2, 0] rfl
            have hD9 := hD.sub (ws' := [(a0, .inr (12, [.int i0, .ref a1, .ref a2, .ref a3, .ref a4, .int i1, .ref a5, .int i2, .int i3, .int i4, .int i5, .int i6, .int i7, .int i8, .ref a6, .ref a7, .ref a8, .ref a9, .ref a10, .ref a11, .ref a12, .int i9, .ref a13, .int i10, .ref a14, .ref a15, .int i11, .ref a16, .ref a17, .ref a18, .ref a19, .int i12, .int i13, .int i14, .int i15, .int i16, .ref a20, .long j0, .ref a21, .ref a22, .ref a23, .ref a24])), (a1, .inl (cI, 544, .inl xF0)), (a8, .inl (cI, 600, .inl xF7))]) [1, 2, 0] (by decide) rfl
            rw [hQ]
            exact W.iret (v := w2_1) hx hb hr (fun t ht hW => ⟨⟨w2_1, (), rfl, ⟨(show (-1 : Int) ≤ w2_1.toInt ∧ w2_1.toInt ≤ 9 from ⟨by omega, by omega⟩), trivial⟩, (by rw [ht]; exact hP9), hD9⟩, hS.F ht⟩) hS.2.2 dX12_jammerAt_50
  exact lp1 _ _ _ ls (0) (show (0 : Int) ≤ (0 : Int32).toInt ∧ (0 : Int32).toInt ≤ 10 from ⟨by omega, by omega⟩) (Nat.lt_succ_self _) (hP.sub (ws' := [(a0, .inr (12, [.int i0, .ref a1, .ref a2, .ref a3, .ref a4, .int i1, .ref a5, .int i2, .int i3, .int i4, .int i5, .int i6, .int i7, .int i8, .ref a6, .ref a7, .ref a8, .ref a9, .ref a10, .ref a11, .ref a12, .int i9, .ref a13, .int i10, .ref a14, .ref a15, .int i11, .ref a16, .ref a17, .ref a18, .ref a19, .int i12, .int i13, .int i14, .int i15, .int i16, .ref a20, .long j0, .ref a21, .ref a22, .ref a23, .ref a24])), (a1, .inl (cI, 544, .inl xF0)), (a8, .inl (cI, 600, .inl xF7))]) [0, 1, 2] rfl) (hD.sub (ws' := [(a0, .inr (12, [.int i0, .ref a1, .ref a2, .ref a3, .ref a4, .int i1, .ref a5, .int i2, .int i3, .int i4, .int i5, .int i6, .int i7, .int i8, .ref a6, .ref a7, .ref a8, .ref a9, .ref a10, .ref a11, .ref a12, .int i9, .ref a13, .int i10, .ref a14, .ref a15, .int i11, .ref a16, .ref a17, .ref a18, .ref a19, .int i12, .int i13, .int i14, .int i15, .int i16, .ref a20, .long j0, .ref a21, .ref a22, .ref a23, .ref a24])), (a1, .inl (cI, 544, .inl xF0)), (a8, .inl (cI, 600, .inl xF7))]) [0, 1, 2] (by decide) rfl) hS (lv_sub hl [1, 2, 0] rfl)
theorem dX12_pawl_0 : decode cX12_pawl 0 = .ok (.aload_n 0, 1) := by decide +kernel
theorem dX12_pawl_1 : decode cX12_pawl 1 = .ok (.iload_n 1, 1) := by decide +kernel
theorem dX12_pawl_2 : decode cX12_pawl 2 = .ok (.invokevirtual 327, 3) := by decide +kernel
theorem dX12_pawl_5 : decode cX12_pawl 5 = .ok (.ifCond .eq 16, 3) := by decide +kernel
theorem dX12_pawl_8 : decode cX12_pawl 8 = .ok (.aload_n 0, 1) := by decide +kernel
theorem dX12_pawl_9 : decode cX12_pawl 9 = .ok (.getfield 13, 3) := by decide +kernel
theorem dX12_pawl_12 : decode cX12_pawl 12 = .ok (.sipush 260, 3) := by decide +kernel
theorem dX12_pawl_15 : decode cX12_pawl 15 = .ok (.iload_n 1, 1) := by decide +kernel
theorem dX12_pawl_16 : decode cX12_pawl 16 = .ok (.iadd, 1) := by decide +kernel
theorem dX12_pawl_17 : decode cX12_pawl 17 = .ok (.iaload, 1) := by decide +kernel
theorem dX12_pawl_18 : decode cX12_pawl 18 = .ok (.goto 5, 3) := by decide +kernel
theorem dX12_pawl_21 : decode cX12_pawl 21 = .ok (.bipush (-2), 2) := by decide +kernel
theorem dX12_pawl_23 : decode cX12_pawl 23 = .ok (.ireturn, 1) := by decide +kernel
set_option maxHeartbeats 4000000 in
set_option maxRecDepth 100000 in
theorem s_X12_pawl (l : Launch) (dC : Nat → ClassId) (dI : Nat → Nat → Nat) (cI cZ cB cJ cM cG : ClassId) (a0 a1 a2 a3 a4 a5 a6 a7 a8 a9 a10 a11 a12 a13 a14 a15 a16 a17 a18 a19 a20 a21 a22 a23 a24 : Nat) (i0 i1 i2 i3 i4 i5 i6 i7 i8 i9 i10 i11 i12 i13 i14 i15 i16 : Int32) (j0 : Int64) (xF0 : Nat → Int32) (p0 : Int32) (cp : Int) (sz : Nat) (p_0 : (0 : Int) ≤ i1.toInt ∧ i1.toInt ≤ 1600) (p_1 : (0 : Int) ≤ i2.toInt ∧ i2.toInt ≤ 1600) (p_2 : (0 : Int) ≤ i3.toInt ∧ i3.toInt ≤ 1600) (p_3 : (0 : Int) ≤ i4.toInt ∧ i4.toInt ≤ 1600) (p_4 : (0 : Int) ≤ i5.toInt ∧ i5.toInt ≤ 6) (p_5 : (0 : Int) ≤ i7.toInt ∧ i7.toInt ≤ 3) (p_6 : (0 : Int) ≤ i11.toInt ∧ i11.toInt ≤ 59) (p_7 : WI cp xF0) (p_8 : 0 ≤ cp ∧ cp ≤ 2000000000) : Met l yX12_pawl (kw yX12_pawl cX12_pawl 2 (some .int)) ({ frames := 2, cells := 0, slots := 0, locals := 46 } : Room) (va_Pc [.ref a0, .int p0] (kPre dC dI [(cI, .int), (cZ, .boolean), (cB, .byte), (cJ, .long), (cM, .object RX2), (cG, .array .int)] [(a0, .inr (12, [.int i0, .ref a1, .ref a2, .ref a3, .ref a4, .int i1, .ref a5, .int i2, .int i3, .int i4, .int i5, .int i6, .int i7, .int i8, .ref a6, .ref a7, .ref a8, .ref a9, .ref a10, .ref a11, .ref a12, .int i9, .ref a13, .int i10, .ref a14, .ref a15, .int i11, .ref a16, .ref a17, .ref a18, .ref a19, .int i12, .int i13, .int i14, .int i15, .int i16, .ref a20, .long j0, .ref a21, .ref a22, .ref a23, .ref a24])), (a1, .inl (cI, 544, .inl xF0))] sz)) (va_Qi (fun (r : Int32) (u9 : Unit) => True) (fun u9 t => va_P (dC, dI) vwCl [(a0, .inr (12, [.int i0, .ref a1, .ref a2, .ref a3, .ref a4, .int i1, .ref a5, .int i2, .int i3, .int i4, .int i5, .int i6, .int i7, .int i8, .ref a6, .ref a7, .ref a8, .ref a9, .ref a10, .ref a11, .ref a12, .int i9, .ref a13, .int i10, .ref a14, .ref a15, .int i11, .ref a16, .ref a17, .ref a18, .ref a19, .int i12, .int i13, .int i14, .int i15, .int i16, .ref a20, .long j0, .ref a21, .ref a22, .ref a23, .ref a24])), (a1, .inl (cI, 544, .inl xF0))] t.heap ∧ va_D (va_A [(a0, .inr (12, [.int i0, .ref a1, .ref a2, .ref a3, .ref a4, .int i1, .ref a5, .int i2, .int i3, .int i4, .int i5, .int i6, .int i7, .int i8, .ref a6, .ref a7, .ref a8, .ref a9, .ref a10, .ref a11, .ref a12, .int i9, .ref a13, .int i10, .ref a14, .ref a15, .int i11, .ref a16, .ref a17, .ref a18, .ref a19, .int i12, .int i13, .int i14, .int i15, .int i16, .ref a20, .long j0, .ref a21, .ref a22, .ref a23, .ref a24])), (a1, .inl (cI, 544, .inl xF0))] sz) [(a0, .inr (12, [.int i0, .ref a1, .ref a2, .ref a3, .ref a4, .int i1, .ref a5, .int i2, .int i3, .int i4, .int i5, .int i6, .int i7, .int i8, .ref a6, .ref a7, .ref a8, .ref a9, .ref a10, .ref a11, .ref a12, .int i9, .ref a13, .int i10, .ref a14, .ref a15, .int i11, .ref a16, .ref a17, .ref a18, .ref a19, .int i12, .int i13, .int i14, .int i15, .int i16, .ref a20, .long j0, .ref a21, .ref a22, .ref a23, .ref a24])), (a1, .inl (cI, 544, .inl xF0))]) (va_A [(a0, .inr (12, [.int i0, .ref a1, .ref a2, .ref a3, .ref a4, .int i1, .ref a5, .int i2, .int i3, .int i4, .int i5, .int i6, .int i7, .int i8, .ref a6, .ref a7, .ref a8, .ref a9, .ref a10, .ref a11, .ref a12, .int i9, .ref a13, .int i10, .ref a14, .ref a15, .int i11, .ref a16, .ref a17, .ref a18, .ref a19, .int i12, .int i13, .int i14, .int i15, .int i16, .ref a20, .long j0, .ref a21, .ref a22, .ref a23, .ref a24])), (a1, .inl (cI, 544, .inl xF0))] sz)) 0 0 (va_A [(a0, .inr (12, [.int i0, .ref a1, .ref a2, .ref a3, .ref a4, .int i1, .ref a5, .int i2, .int i3, .int i4, .int i5, .int i6, .int i7, .int i8, .ref a6, .ref a7, .ref a8, .ref a9, .ref a10, .ref a11, .ref a12, .int i9, .ref a13, .int i10, .ref a14, .ref a15, .int i11, .ref a16, .ref a17, .ref a18, .ref a19, .int i12, .int i13, .int i14, .int i15, .int i16, .ref a20, .long j0, .ref a21, .ref a22, .ref a23, .ref a24])), (a1, .inl (cI, 544, .inl xF0))] sz) := by
  refine kEnter (by decide) (Nat.le_of_ble_eq_true rfl) ?_
  intro p e s m below meth c ls hx hb hr hml hown hlocks hin hwd hsz hP hK hD hl
  subst hsz
  generalize hAe : va_A [(a0, .inr (12, [.int i0, .ref a1, .ref a2, .ref a3, .ref a4, .int i1, .ref a5, .int i2, .int i3, .int i4, .int i5, .int i6, .int i7, .int i8, .ref a6, .ref a7, .ref a8, .ref a9, .ref a10, .ref a11, .ref a12, .int i9, .ref a13, .int i10, .ref a14, .ref a15, .int i11, .ref a16, .ref a17, .ref a18, .ref a19, .int i12, .int i13, .int i14, .int i15, .int i16, .ref a20, .long j0, .ref a21, .ref a22, .ref a23, .ref a24])), (a1, .inl (cI, 544, .inl xF0))] s.heap.size = A at hD ⊢
  have hA : ∀ q : Nat, s.heap.size ≤ q → A q := fun q h => by rw [← hAe]; exact Or.inr h
  have hS : va_S A s.heap s.heap [] := va_S.rf
  have hl : lv_has ls 2 [(0, .ref a0), (1, .int p0)] := hl
  obtain ⟨Q, hQ⟩ : ∃ Q, Q = MQ below (va_Qi (fun (r : Int32) (u9 : Unit) => True) (fun u9 t => va_P (dC, dI) vwCl [(a0, .inr (12, [.int i0, .ref a1, .ref a2, .ref a3, .ref a4, .int i1, .ref a5, .int i2, .int i3, .int i4, .int i5, .int i6, .int i7, .int i8, .ref a6, .ref a7, .ref a8, .ref a9, .ref a10, .ref a11, .ref a12, .int i9, .ref a13, .int i10, .ref a14, .ref a15, .int i11, .ref a16, .ref a17, .ref a18, .ref a19, .int i12, .int i13, .int i14, .int i15, .int i16, .ref a20, .long j0, .ref a21, .ref a22, .ref a23, .ref a24])), (a1, .inl (cI, 544, .inl xF0))] t.heap ∧ va_D A [(a0, .inr (12, [.int i0, .ref a1, .ref a2, .ref a3, .ref a4, .int i1, .ref a5, .int i2, .int i3, .int i4, .int i5, .int i6, .int i7, .int i8, .ref a6, .ref a7, .ref a8, .ref a9, .ref a10, .ref a11, .ref a12, .int i9, .ref a13, .int i10, .ref a14, .ref a15, .int i11, .ref a16, .ref a17, .ref a18, .ref a19, .int i12, .int i13, .int i14, .int i15, .int i16, .ref a20, .long j0, .ref a21, .ref a22, .ref a23, .ref a24])), (a1, .inl (cI, 544, .inl xF0))]) A) ([.ref a0, .int p0] : List Value).toArray s 0 0 A := ⟨_, rfl⟩
  rw [← hQ]
  have k0 : (0 : Int32).toInt = 0 := by decide
  have k3 : (3 : Int32).toInt = 3 := by decide
  have k260 : (260 : Int32).toInt = 260 := by decide
  refine lv_aload_n hx hb dX12_pawl_0 rfl (lv_at hl 0 rfl) ?_
  refine lv_iload_n hx hb dX12_pawl_1 rfl (lv_at hl 1 rfl) ?_
  have hPc := hP.sub (ws' := [(a0, .inr (12, [.int i0, .ref a1, .ref a2, .ref a3, .ref a4, .int i1, .ref a5, .int i2, .int i3, .int i4, .int i5, .int i6, .int i7, .int i8, .ref a6, .ref a7, .ref a8, .ref a9, .ref a10, .ref a11, .ref a12, .int i9, .ref a13, .int i10, .ref a14, .ref a15, .int i11, .ref a16, .ref a17, .ref a18, .ref a19, .int i12, .int i13, .int i14, .int i15, .int i16, .ref a20, .long j0, .ref a21, .ref a22, .ref a23, .ref a24])), (a1, .inl (cI, 544, .inl xF0))]) [0, 1] rfl
  have hDc := hD.sub (ws' := [(a0, .inr (12, [.int i0, .ref a1, .ref a2, .ref a3, .ref a4, .int i1, .ref a5, .int i2, .int i3, .int i4, .int i5, .int i6, .int i7, .int i8, .ref a6, .ref a7, .ref a8, .ref a9, .ref a10, .ref a11, .ref a12, .int i9, .ref a13, .int i10, .ref a14, .ref a15, .int i11, .ref a16, .ref a17, .ref a18, .ref a19, .int i12, .int i13, .int i14, .int i15, .int i16, .ref a20, .long j0, .ref a21, .ref a22, .ref a23, .ref a24])), (a1, .inl (cI, 544, .inl xF0))]) [0, 1] (by decide) rfl
  have hFc := va_free (wc := [(a0, .inr (12, [.int i0, .ref a1, .ref a2, .ref a3, .ref a4, .int i1, .ref a5, .int i2, .int i3, .int i4, .int i5, .int i6, .int i7, .int i8, .ref a6, .ref a7, .ref a8, .ref a9, .ref a10, .ref a11, .ref a12, .int i9, .ref a13, .int i10, .ref a14, .ref a15, .int i11, .ref a16, .ref a17, .ref a18, .ref a19, .int i12, .int i13, .int i14, .int i15, .int i16, .ref a20, .long j0, .ref a21, .ref a22, .ref a23, .ref a24])), (a1, .inl (cI, 544, .inl xF0))]) hD hS hA [0, 1] rfl
  refine va_calli (va_runV (As := [.int p0]) (rest := []) ⟨hx, hb, hml, hown, hwd⟩ (s_X12_isPawl l dC dI cI cZ cB cJ cM cG a0 a1 a2 a3 a4 a5 a6 a7 a8 a9 a10 a11 a12 a13 a14 a15 a16 a17 a18 a19 a20 a21 a22 a23 a24 i0 i1 i2 i3 i4 i5 i6 i7 i8 i9 i10 i11 i12 i13 i14 i15 i16 j0 xF0 p0 cp s.heap.size (show (0 : Int) ≤ i1.toInt ∧ i1.toInt ≤ 1600 from ⟨by omega, by omega⟩) (show (0 : Int) ≤ i2.toInt ∧ i2.toInt ≤ 1600 from ⟨by omega, by omega⟩) (show (0 : Int) ≤ i3.toInt ∧ i3.toInt ≤ 1600 from ⟨by omega, by omega⟩) (show (0 : Int) ≤ i4.toInt ∧ i4.toInt ≤ 1600 from ⟨by omega, by omega⟩) (show (0 : Int) ≤ i5.toInt ∧ i5.toInt ≤ 6 from ⟨by omega, by omega⟩) (show (0 : Int) ≤ i7.toInt ∧ i7.toInt ≤ 3 from ⟨by omega, by omega⟩) (show (0 : Int) ≤ i11.toInt ∧ i11.toInt ≤ 59 from ⟨by omega, by omega⟩) (show WI cp xF0 from p_7) p_8) (cwV 1 hwd (gV kr42_1 kr42_2 kr42_3 kr1_5 kr42_4) rfl rfl rfl (by decide +kernel) ⟨Nat.le_of_ble_eq_true rfl, Nat.le_of_ble_eq_true rfl⟩) (kPreV hPc hK hDc (ci := 12) (q0 := 0) rfl rfl) rfl rfl hl.1 rfl (lv_room (Nat.le_of_ble_eq_true rfl)) dX12_pawl_2 ⟨Nat.le_of_ble_eq_true rfl, Nat.le_of_ble_eq_true rfl⟩) hS (fun q _ h => hFc q h) hFc (fun r1 u2 t H1 locs ht9 hvm hw hB hz1 hk1 hS => ?_)
  obtain ⟨hw3, hw4, -⟩ := hw
  have hw3 : (0 : Int) ≤ r1.toInt ∧ r1.toInt ≤ 1 := hw3
  obtain ⟨hP1, hD1⟩ := hB
  rw [ht9] at hP1
  obtain ⟨hP, hD⟩ := va_join (wr := []) (w1 := [(a0, .inr (12, [.int i0, .ref a1, .ref a2, .ref a3, .ref a4, .int i1, .ref a5, .int i2, .int i3, .int i4, .int i5, .int i6, .int i7, .int i8, .ref a6, .ref a7, .ref a8, .ref a9, .ref a10, .ref a11, .ref a12, .int i9, .ref a13, .int i10, .ref a14, .ref a15, .int i11, .ref a16, .ref a17, .ref a18, .ref a19, .int i12, .int i13, .int i14, .int i15, .int i16, .ref a20, .long j0, .ref a21, .ref a22, .ref a23, .ref a24])), (a1, .inl (cI, 544, .inl xF0))]) hP hD [0, 1] [] rfl rfl (by decide) (by decide) hk1 hFc hP1 hD1
  generalize H1 = H at hP hS ⊢
  have hP : va_P (dC, dI) vwCl [(a0, .inr (12, [.int i0, .ref a1, .ref a2, .ref a3, .ref a4, .int i1, .ref a5, .int i2, .int i3, .int i4, .int i5, .int i6, .int i7, .int i8, .ref a6, .ref a7, .ref a8, .ref a9, .ref a10, .ref a11, .ref a12, .int i9, .ref a13, .int i10, .ref a14, .ref a15, .int i11, .ref a16, .ref a17, .ref a18, .ref a19, .int i12, .int i13, .int i14, .int i15, .int i16, .ref a20, .long j0, .ref a21, .ref a22, .ref a23, .ref a24])), (a1, .inl (cI, 544, .inl xF0))] H := hP
  have hD : va_D A [(a0, .inr (12, [.int i0, .ref a1, .ref a2, .ref a3, .ref a4, .int i1, .ref a5, .int i2, .int i3, .int i4, .int i5, .int i6, .int i7, .int i8, .ref a6, .ref a7, .ref a8, .ref a9, .ref a10, .ref a11, .ref a12, .int i9, .ref a13, .int i10, .ref a14, .ref a15, .int i11, .ref a16, .ref a17, .ref a18, .ref a19, .int i12, .int i13, .int i14, .int i15, .int i16, .ref a20, .long j0, .ref a21, .ref a22, .ref a23, .ref a24])), (a1, .inl (cI, 544, .inl xF0))] := hD
  refine lv_if_eq (tgt := 21) hx hb dX12_pawl_5 (by decide) (fun c5 => ?_) (fun c5 => ?_)
  · rw [ki_eq] at c5
    refine lv_bipush (v := (-2)) hx hb dX12_pawl_21 (by decide) ?_
    have hP9 := hP.sub (ws' := [(a0, .inr (12, [.int i0, .ref a1, .ref a2, .ref a3, .ref a4, .int i1, .ref a5, .int i2, .int i3, .int i4, .int i5, .int i6, .int i7, .int i8, .ref a6, .ref a7, .ref a8, .ref a9, .ref a10, .ref a11, .ref a12, .int i9, .ref a13, .int i10, .ref a14, .ref a15, .int i11, .ref a16, .ref a17, .ref a18, .ref a19, .int i12, .int i13, .int i14, .int i15, .int i16, .ref a20, .long j0, .ref a21, .ref a22, .ref a23, .ref a24])), (a1, .inl (cI, 544, .inl xF0))]) [0, 1] rfl
    have hD9 := hD.sub (ws' := [(a0, .inr (12, [.int i0, .ref a1, .ref a2, .ref a3, .ref a4, .int i1, .ref a5, .int i2, .int i3, .int i4, .int i5, .int i6, .int i7, .int i8, .ref a6, .ref a7, .ref a8, .ref a9, .ref a10, .ref a11, .ref a12, .int i9, .ref a13, .int i10, .ref a14, .ref a15, .int i11, .ref a16, .ref a17, .ref a18, .ref a19, .int i12, .int i13, .int i14, .int i15, .int i16, .ref a20, .long j0, .ref a21, .ref a22, .ref a23, .ref a24])), (a1, .inl (cI, 544, .inl xF0))]) [0, 1] (by decide) rfl
    rw [hQ]
    exact W.iret (v := (-2)) hx hb hr (fun t ht hW => ⟨⟨(-2), (), rfl, trivial, (by rw [ht]; exact hP9), hD9⟩, hS.F ht⟩) hS.2.2 dX12_pawl_23
  · rw [ki_eq] at c5
    have hw4q := hw4 (by omega)
    clear hw4
    refine lv_aload_n hx hb dX12_pawl_8 rfl (lv_at hl 0 rfl) ?_
    refine va_get (D := (dC, dI)) (ci := 12) (v := .ref a1) (C := RX12) (T := TX12) (N := 42) hx hb hwd inlX12 hown hK hP 0 rfl rfl 1 (by decide) (hwd _ kr7_3) (fun _ h9 => h9) rfl dX12_pawl_9 ?_
    refine lv_sipush (v := 260) hx hb dX12_pawl_12 (by decide) ?_
    refine lv_iload_n hx hb dX12_pawl_15 rfl (lv_at hl 1 rfl) ?_
    refine lv_iadd hx hb dX12_pawl_16 ?_
    refine lv_topi (fun x6 ex6 => ?_)
    have tx6 := ia_add (a := (260 : Int32)) (b := p0) (by omega) (by omega)
    rw [← ex6] at tx6
    have h7 : vp_in x6 544 := (vp_of (by omega) (by omega))
    refine va_iald hx hb hK hP 1 0 rfl rfl h7 dX12_pawl_17 ?_
    refine lv_topi (fun x8 ex8 => ?_)
    have ix8 : x8.toInt = (xF0 x6.toInt.toNat).toInt := by rw [ex8]; rfl
    refine lv_goto (tgt := 23) hx hb dX12_pawl_18 (by decide) ?_
    have hP9 := hP.sub (ws' := [(a0, .inr (12, [.int i0, .ref a1, .ref a2, .ref a3, .ref a4, .int i1, .ref a5, .int i2, .int i3, .int i4, .int i5, .int i6, .int i7, .int i8, .ref a6, .ref a7, .ref a8, .ref a9, .ref a10, .ref a11, .ref a12, .int i9, .ref a13, .int i10, .ref a14, .ref a15, .int i11, .ref a16, .ref a17, .ref a18, .ref a19, .int i12, .int i13, .int i14, .int i15, .int i16, .ref a20, .long j0, .ref a21, .ref a22, .ref a23, .ref a24])), (a1, .inl (cI, 544, .inl xF0))]) [0, 1] rfl
    have hD9 := hD.sub (ws' := [(a0, .inr (12, [.int i0, .ref a1, .ref a2, .ref a3, .ref a4, .int i1, .ref a5, .int i2, .int i3, .int i4, .int i5, .int i6, .int i7, .int i8, .ref a6, .ref a7, .ref a8, .ref a9, .ref a10, .ref a11, .ref a12, .int i9, .ref a13, .int i10, .ref a14, .ref a15, .int i11, .ref a16, .ref a17, .ref a18, .ref a19, .int i12, .int i13, .int i14, .int i15, .int i16, .ref a20, .long j0, .ref a21, .ref a22, .ref a23, .ref a24])), (a1, .inl (cI, 544, .inl xF0))]) [0, 1] (by decide) rfl
    rw [hQ]
    exact W.iret (v := x8) hx hb hr (fun t ht hW => ⟨⟨x8, (), rfl, trivial, (by rw [ht]; exact hP9), hD9⟩, hS.F ht⟩) hS.2.2 dX12_pawl_23
theorem dX12_secondOf_0 : decode cX12_secondOf 0 = .ok (.lload_n 1, 1) := by decide +kernel
theorem dX12_secondOf_1 : decode cX12_secondOf 1 = .ok (.aload_n 0, 1) := by decide +kernel
theorem dX12_secondOf_2 : decode cX12_secondOf 2 = .ok (.getfield 13, 3) := by decide +kernel
theorem dX12_secondOf_5 : decode cX12_secondOf 5 = .ok (.bipush 8, 2) := by decide +kernel
theorem dX12_secondOf_7 : decode cX12_secondOf 7 = .ok (.iaload, 1) := by decide +kernel
theorem dX12_secondOf_8 : decode cX12_secondOf 8 = .ok (.i2l, 1) := by decide +kernel
theorem dX12_secondOf_9 : decode cX12_secondOf 9 = .ok (.lmul, 1) := by decide +kernel
theorem dX12_secondOf_10 : decode cX12_secondOf 10 = .ok (.aload_n 0, 1) := by decide +kernel
theorem dX12_secondOf_11 : decode cX12_secondOf 11 = .ok (.getfield 13, 3) := by decide +kernel
theorem dX12_secondOf_14 : decode cX12_secondOf 14 = .ok (.bipush 9, 2) := by decide +kernel
theorem dX12_secondOf_16 : decode cX12_secondOf 16 = .ok (.iaload, 1) := by decide +kernel
theorem dX12_secondOf_17 : decode cX12_secondOf 17 = .ok (.i2l, 1) := by decide +kernel
theorem dX12_secondOf_18 : decode cX12_secondOf 18 = .ok (.ldiv, 1) := by decide +kernel
theorem dX12_secondOf_19 : decode cX12_secondOf 19 = .ok (.aload_n 0, 1) := by decide +kernel
theorem dX12_secondOf_20 : decode cX12_secondOf 20 = .ok (.getfield 13, 3) := by decide +kernel
theorem dX12_secondOf_23 : decode cX12_secondOf 23 = .ok (.iconst 1, 1) := by decide +kernel
theorem dX12_secondOf_24 : decode cX12_secondOf 24 = .ok (.iaload, 1) := by decide +kernel
theorem dX12_secondOf_25 : decode cX12_secondOf 25 = .ok (.i2l, 1) := by decide +kernel
theorem dX12_secondOf_26 : decode cX12_secondOf 26 = .ok (.lrem, 1) := by decide +kernel
theorem dX12_secondOf_27 : decode cX12_secondOf 27 = .ok (.l2i, 1) := by decide +kernel
theorem dX12_secondOf_28 : decode cX12_secondOf 28 = .ok (.istore_n 3, 1) := by decide +kernel
theorem dX12_secondOf_29 : decode cX12_secondOf 29 = .ok (.iload_n 3, 1) := by decide +kernel
theorem dX12_secondOf_30 : decode cX12_secondOf 30 = .ok (.ifCond .ge 14, 3) := by decide +kernel
theorem dX12_secondOf_33 : decode cX12_secondOf 33 = .ok (.iload_n 3, 1) := by decide +kernel
theorem dX12_secondOf_34 : decode cX12_secondOf 34 = .ok (.aload_n 0, 1) := by decide +kernel
theorem dX12_secondOf_35 : decode cX12_secondOf 35 = .ok (.getfield 13, 3) := by decide +kernel
theorem dX12_secondOf_38 : decode cX12_secondOf 38 = .ok (.iconst 1, 1) := by decide +kernel
theorem dX12_secondOf_39 : decode cX12_secondOf 39 = .ok (.iaload, 1) := by decide +kernel
theorem dX12_secondOf_40 : decode cX12_secondOf 40 = .ok (.iadd, 1) := by decide +kernel
theorem dX12_secondOf_41 : decode cX12_secondOf 41 = .ok (.goto 4, 3) := by decide +kernel
theorem dX12_secondOf_44 : decode cX12_secondOf 44 = .ok (.iload_n 3, 1) := by decide +kernel
theorem dX12_secondOf_45 : decode cX12_secondOf 45 = .ok (.ireturn, 1) := by decide +kernel
set_option maxHeartbeats 4000000 in
set_option maxRecDepth 100000 in
theorem s_X12_secondOf (l : Launch) (dC : Nat → ClassId) (dI : Nat → Nat → Nat) (cI cZ cB cJ cM cG : ClassId) (a0 a1 a2 a3 a4 a5 a6 a7 a8 a9 a10 a11 a12 a13 a14 a15 a16 a17 a18 a19 a20 a21 a22 a23 a24 : Nat) (i0 i1 i2 i3 i4 i5 i6 i7 i8 i9 i10 i11 i12 i13 i14 i15 i16 : Int32) (j0 : Int64) (xF0 : Nat → Int32) (y0 : Int64) (cp : Int) (sz : Nat) (p_0 : (0 : Int) ≤ i1.toInt ∧ i1.toInt ≤ 1600) (p_1 : (0 : Int) ≤ i2.toInt ∧ i2.toInt ≤ 1600) (p_2 : (0 : Int) ≤ i3.toInt ∧ i3.toInt ≤ 1600) (p_3 : (0 : Int) ≤ i4.toInt ∧ i4.toInt ≤ 1600) (p_4 : (0 : Int) ≤ i5.toInt ∧ i5.toInt ≤ 6) (p_5 : (0 : Int) ≤ i7.toInt ∧ i7.toInt ≤ 3) (p_6 : (0 : Int) ≤ i11.toInt ∧ i11.toInt ≤ 59) (p_7 : WI cp xF0) (p_8 : 1 ≤ wat xF0 1) (p_9 : 0 ≤ cp ∧ cp ≤ 2000000000) : Met l yX12_secondOf (kw yX12_secondOf cX12_secondOf 4 (some .int)) ({ frames := 0, cells := 0, slots := 0, locals := 0 } : Room) (va_Pc [.ref a0, .long y0] (kPre dC dI [(cI, .int), (cZ, .boolean), (cB, .byte), (cJ, .long), (cM, .object RX2), (cG, .array .int)] [(a0, .inr (12, [.int i0, .ref a1, .ref a2, .ref a3, .ref a4, .int i1, .ref a5, .int i2, .int i3, .int i4, .int i5, .int i6, .int i7, .int i8, .ref a6, .ref a7, .ref a8, .ref a9, .ref a10, .ref a11, .ref a12, .int i9, .ref a13, .int i10, .ref a14, .ref a15, .int i11, .ref a16, .ref a17, .ref a18, .ref a19, .int i12, .int i13, .int i14, .int i15, .int i16, .ref a20, .long j0, .ref a21, .ref a22, .ref a23, .ref a24])), (a1, .inl (cI, 544, .inl xF0))] sz)) (va_Qi (fun (r : Int32) (u9 : Unit) => True) (fun u9 t => va_P (dC, dI) vwCl [(a0, .inr (12, [.int i0, .ref a1, .ref a2, .ref a3, .ref a4, .int i1, .ref a5, .int i2, .int i3, .int i4, .int i5, .int i6, .int i7, .int i8, .ref a6, .ref a7, .ref a8, .ref a9, .ref a10, .ref a11, .ref a12, .int i9, .ref a13, .int i10, .ref a14, .ref a15, .int i11, .ref a16, .ref a17, .ref a18, .ref a19, .int i12, .int i13, .int i14, .int i15, .int i16, .ref a20, .long j0, .ref a21, .ref a22, .ref a23, .ref a24])), (a1, .inl (cI, 544, .inl xF0))] t.heap ∧ va_D (va_A [(a0, .inr (12, [.int i0, .ref a1, .ref a2, .ref a3, .ref a4, .int i1, .ref a5, .int i2, .int i3, .int i4, .int i5, .int i6, .int i7, .int i8, .ref a6, .ref a7, .ref a8, .ref a9, .ref a10, .ref a11, .ref a12, .int i9, .ref a13, .int i10, .ref a14, .ref a15, .int i11, .ref a16, .ref a17, .ref a18, .ref a19, .int i12, .int i13, .int i14, .int i15, .int i16, .ref a20, .long j0, .ref a21, .ref a22, .ref a23, .ref a24])), (a1, .inl (cI, 544, .inl xF0))] sz) [(a0, .inr (12, [.int i0, .ref a1, .ref a2, .ref a3, .ref a4, .int i1, .ref a5, .int i2, .int i3, .int i4, .int i5, .int i6, .int i7, .int i8, .ref a6, .ref a7, .ref a8, .ref a9, .ref a10, .ref a11, .ref a12, .int i9, .ref a13, .int i10, .ref a14, .ref a15, .int i11, .ref a16, .ref a17, .ref a18, .ref a19, .int i12, .int i13, .int i14, .int i15, .int i16, .ref a20, .long j0, .ref a21, .ref a22, .ref a23, .ref a24])), (a1, .inl (cI, 544, .inl xF0))]) (va_A [(a0, .inr (12, [.int i0, .ref a1, .ref a2, .ref a3, .ref a4, .int i1, .ref a5, .int i2, .int i3, .int i4, .int i5, .int i6, .int i7, .int i8, .ref a6, .ref a7, .ref a8, .ref a9, .ref a10, .ref a11, .ref a12, .int i9, .ref a13, .int i10, .ref a14, .ref a15, .int i11, .ref a16, .ref a17, .ref a18, .ref a19, .int i12, .int i13, .int i14, .int i15, .int i16, .ref a20, .long j0, .ref a21, .ref a22, .ref a23, .ref a24])), (a1, .inl (cI, 544, .inl xF0))] sz)) 0 0 (va_A [(a0, .inr (12, [.int i0, .ref a1, .ref a2, .ref a3, .ref a4, .int i1, .ref a5, .int i2, .int i3, .int i4, .int i5, .int i6, .int i7, .int i8, .ref a6, .ref a7, .ref a8, .ref a9, .ref a10, .ref a11, .ref a12, .int i9, .ref a13, .int i10, .ref a14, .ref a15, .int i11, .ref a16, .ref a17, .ref a18, .ref a19, .int i12, .int i13, .int i14, .int i15, .int i16, .ref a20, .long j0, .ref a21, .ref a22, .ref a23, .ref a24])), (a1, .inl (cI, 544, .inl xF0))] sz) := by
  refine kEnter (by decide) (Nat.le_of_ble_eq_true rfl) ?_
  intro p e s m below meth c ls hx hb hr hml hown hlocks hin hwd hsz hP hK hD hl
  subst hsz
  generalize hAe : va_A [(a0, .inr (12, [.int i0, .ref a1, .ref a2, .ref a3, .ref a4, .int i1, .ref a5, .int i2, .int i3, .int i4, .int i5, .int i6, .int i7, .int i8, .ref a6, .ref a7, .ref a8, .ref a9, .ref a10, .ref a11, .ref a12, .int i9, .ref a13, .int i10, .ref a14, .ref a15, .int i11, .ref a16, .ref a17, .ref a18, .ref a19, .int i12, .int i13, .int i14, .int i15, .int i16, .ref a20, .long j0, .ref a21, .ref a22, .ref a23, .ref a24])), (a1, .inl (cI, 544, .inl xF0))] s.heap.size = A at hD ⊢
  have hA : ∀ q : Nat, s.heap.size ≤ q → A q := fun q h => by rw [← hAe]; exact Or.inr h
  have hS : va_S A s.heap s.heap [] := va_S.rf
  have hl : lv_has ls 4 [(0, .ref a0), (1, .long y0)] := hl
  obtain ⟨Q, hQ⟩ : ∃ Q, Q = MQ below (va_Qi (fun (r : Int32) (u9 : Unit) => True) (fun u9 t => va_P (dC, dI) vwCl [(a0, .inr (12, [.int i0, .ref a1, .ref a2, .ref a3, .ref a4, .int i1, .ref a5, .int i2, .int i3, .int i4, .int i5, .int i6, .int i7, .int i8, .ref a6, .ref a7, .ref a8, .ref a9, .ref a10, .ref a11, .ref a12, .int i9, .ref a13, .int i10, .ref a14, .ref a15, .int i11, .ref a16, .ref a17, .ref a18, .ref a19, .int i12, .int i13, .int i14, .int i15, .int i16, .ref a20, .long j0, .ref a21, .ref a22, .ref a23, .ref a24])), (a1, .inl (cI, 544, .inl xF0))] t.heap ∧ va_D A [(a0, .inr (12, [.int i0, .ref a1, .ref a2, .ref a3, .ref a4, .int i1, .ref a5, .int i2, .int i3, .int i4, .int i5, .int i6, .int i7, .int i8, .ref a6, .ref a7, .ref a8, .ref a9, .ref a10, .ref a11, .ref a12, .int i9, .ref a13, .int i10, .ref a14, .ref a15, .int i11, .ref a16, .ref a17, .ref a18, .ref a19, .int i12, .int i13, .int i14, .int i15, .int i16, .ref a20, .long j0, .ref a21, .ref a22, .ref a23, .ref a24])), (a1, .inl (cI, 544, .inl xF0))]) A) ([.ref a0, .long y0] : List Value).toArray s 0 0 A := ⟨_, rfl⟩
  rw [← hQ]
  have k0 : (0 : Int32).toInt = 0 := by decide
  have k1 : (1 : Int32).toInt = 1 := by decide
  have k8 : (8 : Int32).toInt = 8 := by decide
  have k9 : (9 : Int32).toInt = 9 := by decide
  refine lv_lload_n hx hb dX12_secondOf_0 rfl (lv_at hl 1 rfl) ?_
  refine lv_aload_n hx hb dX12_secondOf_1 rfl (lv_at hl 0 rfl) ?_
  refine va_get (D := (dC, dI)) (ci := 12) (v := .ref a1) (C := RX12) (T := TX12) (N := 42) hx hb hwd inlX12 hown hK hP 0 rfl rfl 1 (by decide) (hwd _ kr7_3) (fun _ h9 => h9) rfl dX12_secondOf_2 ?_
  refine lv_bipush (v := 8) hx hb dX12_secondOf_5 (by decide) ?_
  have h1 : vp_in (8 : Int32) 544 := (vin (by decide))
  refine va_iald hx hb hK hP 1 0 rfl rfl h1 dX12_secondOf_7 ?_
  refine lv_topi (fun x2 ex2 => ?_)
  have ix2 := wat_lit (k := 8) ex2 (by decide)
  have wh3 : whd cp xF0 := p_7.1
  unfold whd at wh3
  refine lv_i2l hx hb dX12_secondOf_8 rfl ?_
  refine lv_lmul hx hb dX12_secondOf_9 ?_
  refine lv_topl (fun x4 ex4 => ?_)
  refine lv_aload_n hx hb dX12_secondOf_10 rfl (lv_at hl 0 rfl) ?_
  refine va_get (D := (dC, dI)) (ci := 12) (v := .ref a1) (C := RX12) (T := TX12) (N := 42) hx hb hwd inlX12 hown hK hP 0 rfl rfl 1 (by decide) (hwd _ kr7_3) (fun _ h9 => h9) rfl dX12_secondOf_11 ?_
  refine lv_bipush (v := 9) hx hb dX12_secondOf_14 (by decide) ?_
  have h5 : vp_in (9 : Int32) 544 := (vin (by decide))
  refine va_iald hx hb hK hP 1 0 rfl rfl h5 dX12_secondOf_16 ?_
  refine lv_topi (fun x6 ex6 => ?_)
  have ix6 := wat_lit (k := 9) ex6 (by decide)
  refine lv_i2l hx hb dX12_secondOf_17 rfl ?_
  refine lv_ldiv hx hb dX12_secondOf_18 (nz64 (fun h9 => by rw [ki_eq] at h9; omega)) ?_
  refine lv_topl (fun x7 ex7 => ?_)
  refine lv_aload_n hx hb dX12_secondOf_19 rfl (lv_at hl 0 rfl) ?_
  refine va_get (D := (dC, dI)) (ci := 12) (v := .ref a1) (C := RX12) (T := TX12) (N := 42) hx hb hwd inlX12 hown hK hP 0 rfl rfl 1 (by decide) (hwd _ kr7_3) (fun _ h9 => h9) rfl dX12_secondOf_20 ?_
  refine lv_iconst (v := 1) hx hb dX12_secondOf_23 (by decide) ?_
  have h8 : vp_in (1 : Int32) 544 := (vin (by decide))
  refine va_iald hx hb hK hP 1 0 rfl rfl h8 dX12_secondOf_24 ?_
  refine lv_topi (fun x9 ex9 => ?_)
  have ix9 := wat_lit (k := 1) ex9 (by decide)
  refine lv_i2l hx hb dX12_secondOf_25 rfl ?_
  refine lv_lrem hx hb dX12_secondOf_26 (nz64 (fun h9 => by rw [ki_eq] at h9; omega)) ?_
  refine lv_topl (fun x10 ex10 => ?_)
  refine lv_l2i hx hb dX12_secondOf_27 rfl ?_
  refine lv_topi (fun x11 ex11 => ?_)
  refine lv_istore_n (lv' := [(3, .int x11), (0, .ref a0), (1, .long y0)]) hx hb dX12_secondOf_28 rfl hl (by decide) rfl (fun ls hl => ?_)
  refine lv_iload_n hx hb dX12_secondOf_29 rfl (lv_at hl 0 rfl) ?_
  refine lv_if_ge (tgt := 44) hx hb dX12_secondOf_30 (by decide) (fun c12 => ?_) (fun c12 => ?_)
  · rw [ki_le] at c12
    refine lv_iload_n hx hb dX12_secondOf_44 rfl (lv_at hl 0 rfl) ?_
    have hP9 := hP.sub (ws' := [(a0, .inr (12, [.int i0, .ref a1, .ref a2, .ref a3, .ref a4, .int i1, .ref a5, .int i2, .int i3, .int i4, .int i5, .int i6, .int i7, .int i8, .ref a6, .ref a7, .ref a8, .ref a9, .ref a10, .ref a11, .ref a12, .int i9, .ref a13, .int i10, .ref a14, .ref a15, .int i11, .ref a16, .ref a17, .ref a18, .ref a19, .int i12, .int i13, .int i14, .int i15, .int i16, .ref a20, .long j0, .ref a21, .ref a22, .ref a23, .ref a24])), (a1, .inl (cI, 544, .inl xF0))]) [0, 1] rfl
    have hD9 := hD.sub (ws' := [(a0, .inr (12, [.int i0, .ref a1, .ref a2, .ref a3, .ref a4, .int i1, .ref a5, .int i2, .int i3, .int i4, .int i5, .int i6, .int i7, .int i8, .ref a6, .ref a7, .ref a8, .ref a9, .ref a10, .ref a11, .ref a12, .int i9, .ref a13, .int i10, .ref a14, .ref a15, .int i11, .ref a16, .ref a17, .ref a18, .ref a19, .int i12, .int i13, .int i14, .int i15, .int i16, .ref a20, .long j0, .ref a21, .ref a22, .ref a23, .ref a24])), (a1, .inl (cI, 544, .inl xF0))]) [0, 1] (by decide) rfl
    rw [hQ]
    exact W.iret (v := x11) hx hb hr (fun t ht hW => ⟨⟨x11, (), rfl, trivial, (by rw [ht]; exact hP9), hD9⟩, hS.F ht⟩) hS.2.2 dX12_secondOf_45
  · rw [ki_le] at c12
    refine lv_iload_n hx hb dX12_secondOf_33 rfl (lv_at hl 0 rfl) ?_
    refine lv_aload_n hx hb dX12_secondOf_34 rfl (lv_at hl 1 rfl) ?_
    refine va_get (D := (dC, dI)) (ci := 12) (v := .ref a1) (C := RX12) (T := TX12) (N := 42) hx hb hwd inlX12 hown hK hP 0 rfl rfl 1 (by decide) (hwd _ kr7_3) (fun _ h9 => h9) rfl dX12_secondOf_35 ?_
    refine lv_iconst (v := 1) hx hb dX12_secondOf_38 (by decide) ?_
    have h13 : vp_in (1 : Int32) 544 := (vin (by decide))
    refine va_iald hx hb hK hP 1 0 rfl rfl h13 dX12_secondOf_39 ?_
    refine lv_topi (nm_r (e' := x9) ex9.symm ?_)
    refine lv_iadd hx hb dX12_secondOf_40 ?_
    refine lv_topi (fun x14 ex14 => ?_)
    have b_b15 := i32_b x11
    have tx14 := ia_add (a := x11) (b := x9) (by omega) (by omega)
    rw [← ex14] at tx14
    refine lv_goto (tgt := 45) hx hb dX12_secondOf_41 (by decide) ?_
    have hP9 := hP.sub (ws' := [(a0, .inr (12, [.int i0, .ref a1, .ref a2, .ref a3, .ref a4, .int i1, .ref a5, .int i2, .int i3, .int i4, .int i5, .int i6, .int i7, .int i8, .ref a6, .ref a7, .ref a8, .ref a9, .ref a10, .ref a11, .ref a12, .int i9, .ref a13, .int i10, .ref a14, .ref a15, .int i11, .ref a16, .ref a17, .ref a18, .ref a19, .int i12, .int i13, .int i14, .int i15, .int i16, .ref a20, .long j0, .ref a21, .ref a22, .ref a23, .ref a24])), (a1, .inl (cI, 544, .inl xF0))]) [0, 1] rfl
    have hD9 := hD.sub (ws' := [(a0, .inr (12, [.int i0, .ref a1, .ref a2, .ref a3, .ref a4, .int i1, .ref a5, .int i2, .int i3, .int i4, .int i5, .int i6, .int i7, .int i8, .ref a6, .ref a7, .ref a8, .ref a9, .ref a10, .ref a11, .ref a12, .int i9, .ref a13, .int i10, .ref a14, .ref a15, .int i11, .ref a16, .ref a17, .ref a18, .ref a19, .int i12, .int i13, .int i14, .int i15, .int i16, .ref a20, .long j0, .ref a21, .ref a22, .ref a23, .ref a24])), (a1, .inl (cI, 544, .inl xF0))]) [0, 1] (by decide) rfl
    rw [hQ]
    exact W.iret (v := x14) hx hb hr (fun t ht hW => ⟨⟨x14, (), rfl, trivial, (by rw [ht]; exact hP9), hD9⟩, hS.F ht⟩) hS.2.2 dX12_secondOf_45
theorem dX12_stands_0 : decode cX12_stands 0 = .ok (.iload_n 1, 1) := by decide +kernel
theorem dX12_stands_1 : decode cX12_stands 1 = .ok (.tableswitch 103 0 5 #[39, 47, 55, 63, 71, 95], 39) := by decide +kernel
theorem dX12_stands_40 : decode cX12_stands 40 = .ok (.aload_n 0, 1) := by decide +kernel
theorem dX12_stands_41 : decode cX12_stands 41 = .ok (.getfield 13, 3) := by decide +kernel
theorem dX12_stands_44 : decode cX12_stands 44 = .ok (.bipush 11, 2) := by decide +kernel
theorem dX12_stands_46 : decode cX12_stands 46 = .ok (.iaload, 1) := by decide +kernel
theorem dX12_stands_47 : decode cX12_stands 47 = .ok (.ireturn, 1) := by decide +kernel
theorem dX12_stands_48 : decode cX12_stands 48 = .ok (.aload_n 0, 1) := by decide +kernel
theorem dX12_stands_49 : decode cX12_stands 49 = .ok (.getfield 13, 3) := by decide +kernel
theorem dX12_stands_52 : decode cX12_stands 52 = .ok (.bipush 14, 2) := by decide +kernel
theorem dX12_stands_54 : decode cX12_stands 54 = .ok (.iaload, 1) := by decide +kernel
theorem dX12_stands_55 : decode cX12_stands 55 = .ok (.ireturn, 1) := by decide +kernel
theorem dX12_stands_56 : decode cX12_stands 56 = .ok (.aload_n 0, 1) := by decide +kernel
theorem dX12_stands_57 : decode cX12_stands 57 = .ok (.getfield 13, 3) := by decide +kernel
theorem dX12_stands_60 : decode cX12_stands 60 = .ok (.bipush 15, 2) := by decide +kernel
theorem dX12_stands_62 : decode cX12_stands 62 = .ok (.iaload, 1) := by decide +kernel
theorem dX12_stands_63 : decode cX12_stands 63 = .ok (.ireturn, 1) := by decide +kernel
theorem dX12_stands_64 : decode cX12_stands 64 = .ok (.aload_n 0, 1) := by decide +kernel
theorem dX12_stands_65 : decode cX12_stands 65 = .ok (.getfield 13, 3) := by decide +kernel
theorem dX12_stands_68 : decode cX12_stands 68 = .ok (.bipush 13, 2) := by decide +kernel
theorem dX12_stands_70 : decode cX12_stands 70 = .ok (.iaload, 1) := by decide +kernel
theorem dX12_stands_71 : decode cX12_stands 71 = .ok (.ireturn, 1) := by decide +kernel
theorem dX12_stands_72 : decode cX12_stands 72 = .ok (.aload_n 0, 1) := by decide +kernel
theorem dX12_stands_73 : decode cX12_stands 73 = .ok (.invokevirtual 248, 3) := by decide +kernel
theorem dX12_stands_76 : decode cX12_stands 76 = .ok (.ifCond .eq 18, 3) := by decide +kernel
theorem dX12_stands_79 : decode cX12_stands 79 = .ok (.aload_n 0, 1) := by decide +kernel
theorem dX12_stands_80 : decode cX12_stands 80 = .ok (.aload_n 0, 1) := by decide +kernel
theorem dX12_stands_81 : decode cX12_stands 81 = .ok (.getfield 13, 3) := by decide +kernel
theorem dX12_stands_84 : decode cX12_stands 84 = .ok (.bipush 11, 2) := by decide +kernel
theorem dX12_stands_86 : decode cX12_stands 86 = .ok (.iaload, 1) := by decide +kernel
theorem dX12_stands_87 : decode cX12_stands 87 = .ok (.i2l, 1) := by decide +kernel
theorem dX12_stands_88 : decode cX12_stands 88 = .ok (.invokevirtual 323, 3) := by decide +kernel
theorem dX12_stands_91 : decode cX12_stands 91 = .ok (.goto 4, 3) := by decide +kernel
theorem dX12_stands_94 : decode cX12_stands 94 = .ok (.iconst 0, 1) := by decide +kernel
theorem dX12_stands_95 : decode cX12_stands 95 = .ok (.ireturn, 1) := by decide +kernel
theorem dX12_stands_96 : decode cX12_stands 96 = .ok (.aload_n 0, 1) := by decide +kernel
theorem dX12_stands_97 : decode cX12_stands 97 = .ok (.getfield 13, 3) := by decide +kernel
theorem dX12_stands_100 : decode cX12_stands 100 = .ok (.bipush 16, 2) := by decide +kernel
theorem dX12_stands_102 : decode cX12_stands 102 = .ok (.iaload, 1) := by decide +kernel
theorem dX12_stands_103 : decode cX12_stands 103 = .ok (.ireturn, 1) := by decide +kernel
theorem dX12_stands_104 : decode cX12_stands 104 = .ok (.iconst (-1), 1) := by decide +kernel
theorem dX12_stands_105 : decode cX12_stands 105 = .ok (.ireturn, 1) := by decide +kernel
set_option maxHeartbeats 4000000 in
set_option maxRecDepth 100000 in
theorem s_X12_stands (l : Launch) (dC : Nat → ClassId) (dI : Nat → Nat → Nat) (cI cZ cB cJ cM cG : ClassId) (a0 a1 a2 a3 a4 a5 a6 a7 a8 a9 a10 a11 a12 a13 a14 a15 a16 a17 a18 a19 a20 a21 a22 a23 a24 : Nat) (i0 i1 i2 i3 i4 i5 i6 i7 i8 i9 i10 i11 i12 i13 i14 i15 i16 : Int32) (j0 : Int64) (xF0 : Nat → Int32) (p0 : Int32) (cp : Int) (sz : Nat) (p_0 : (0 : Int) ≤ i1.toInt ∧ i1.toInt ≤ 1600) (p_1 : (0 : Int) ≤ i2.toInt ∧ i2.toInt ≤ 1600) (p_2 : (0 : Int) ≤ i3.toInt ∧ i3.toInt ≤ 1600) (p_3 : (0 : Int) ≤ i4.toInt ∧ i4.toInt ≤ 1600) (p_4 : (0 : Int) ≤ i5.toInt ∧ i5.toInt ≤ 6) (p_5 : (0 : Int) ≤ i7.toInt ∧ i7.toInt ≤ 3) (p_6 : (0 : Int) ≤ i11.toInt ∧ i11.toInt ≤ 59) (p_7 : WI cp xF0) (p_8 : 0 ≤ cp ∧ cp ≤ 2000000000) : Met l yX12_stands (kw yX12_stands cX12_stands 2 (some .int)) ({ frames := 1, cells := 0, slots := 0, locals := 23 } : Room) (va_Pc [.ref a0, .int p0] (kPre dC dI [(cI, .int), (cZ, .boolean), (cB, .byte), (cJ, .long), (cM, .object RX2), (cG, .array .int)] [(a0, .inr (12, [.int i0, .ref a1, .ref a2, .ref a3, .ref a4, .int i1, .ref a5, .int i2, .int i3, .int i4, .int i5, .int i6, .int i7, .int i8, .ref a6, .ref a7, .ref a8, .ref a9, .ref a10, .ref a11, .ref a12, .int i9, .ref a13, .int i10, .ref a14, .ref a15, .int i11, .ref a16, .ref a17, .ref a18, .ref a19, .int i12, .int i13, .int i14, .int i15, .int i16, .ref a20, .long j0, .ref a21, .ref a22, .ref a23, .ref a24])), (a1, .inl (cI, 544, .inl xF0))] sz)) (va_Qi (fun (r : Int32) (u9 : Unit) => True) (fun u9 t => va_P (dC, dI) vwCl [(a0, .inr (12, [.int i0, .ref a1, .ref a2, .ref a3, .ref a4, .int i1, .ref a5, .int i2, .int i3, .int i4, .int i5, .int i6, .int i7, .int i8, .ref a6, .ref a7, .ref a8, .ref a9, .ref a10, .ref a11, .ref a12, .int i9, .ref a13, .int i10, .ref a14, .ref a15, .int i11, .ref a16, .ref a17, .ref a18, .ref a19, .int i12, .int i13, .int i14, .int i15, .int i16, .ref a20, .long j0, .ref a21, .ref a22, .ref a23, .ref a24])), (a1, .inl (cI, 544, .inl xF0))] t.heap ∧ va_D (va_A [(a0, .inr (12, [.int i0, .ref a1, .ref a2, .ref a3, .ref a4, .int i1, .ref a5, .int i2, .int i3, .int i4, .int i5, .int i6, .int i7, .int i8, .ref a6, .ref a7, .ref a8, .ref a9, .ref a10, .ref a11, .ref a12, .int i9, .ref a13, .int i10, .ref a14, .ref a15, .int i11, .ref a16, .ref a17, .ref a18, .ref a19, .int i12, .int i13, .int i14, .int i15, .int i16, .ref a20, .long j0, .ref a21, .ref a22, .ref a23, .ref a24])), (a1, .inl (cI, 544, .inl xF0))] sz) [(a0, .inr (12, [.int i0, .ref a1, .ref a2, .ref a3, .ref a4, .int i1, .ref a5, .int i2, .int i3, .int i4, .int i5, .int i6, .int i7, .int i8, .ref a6, .ref a7, .ref a8, .ref a9, .ref a10, .ref a11, .ref a12, .int i9, .ref a13, .int i10, .ref a14, .ref a15, .int i11, .ref a16, .ref a17, .ref a18, .ref a19, .int i12, .int i13, .int i14, .int i15, .int i16, .ref a20, .long j0, .ref a21, .ref a22, .ref a23, .ref a24])), (a1, .inl (cI, 544, .inl xF0))]) (va_A [(a0, .inr (12, [.int i0, .ref a1, .ref a2, .ref a3, .ref a4, .int i1, .ref a5, .int i2, .int i3, .int i4, .int i5, .int i6, .int i7, .int i8, .ref a6, .ref a7, .ref a8, .ref a9, .ref a10, .ref a11, .ref a12, .int i9, .ref a13, .int i10, .ref a14, .ref a15, .int i11, .ref a16, .ref a17, .ref a18, .ref a19, .int i12, .int i13, .int i14, .int i15, .int i16, .ref a20, .long j0, .ref a21, .ref a22, .ref a23, .ref a24])), (a1, .inl (cI, 544, .inl xF0))] sz)) 0 0 (va_A [(a0, .inr (12, [.int i0, .ref a1, .ref a2, .ref a3, .ref a4, .int i1, .ref a5, .int i2, .int i3, .int i4, .int i5, .int i6, .int i7, .int i8, .ref a6, .ref a7, .ref a8, .ref a9, .ref a10, .ref a11, .ref a12, .int i9, .ref a13, .int i10, .ref a14, .ref a15, .int i11, .ref a16, .ref a17, .ref a18, .ref a19, .int i12, .int i13, .int i14, .int i15, .int i16, .ref a20, .long j0, .ref a21, .ref a22, .ref a23, .ref a24])), (a1, .inl (cI, 544, .inl xF0))] sz) := by
  refine kEnter (by decide) (Nat.le_of_ble_eq_true rfl) ?_
  intro p e s m below meth c ls hx hb hr hml hown hlocks hin hwd hsz hP hK hD hl
  subst hsz
  generalize hAe : va_A [(a0, .inr (12, [.int i0, .ref a1, .ref a2, .ref a3, .ref a4, .int i1, .ref a5, .int i2, .int i3, .int i4, .int i5, .int i6, .int i7, .int i8, .ref a6, .ref a7, .ref a8, .ref a9, .ref a10, .ref a11, .ref a12, .int i9, .ref a13, .int i10, .ref a14, .ref a15, .int i11, .ref a16, .ref a17, .ref a18, .ref a19, .int i12, .int i13, .int i14, .int i15, .int i16, .ref a20, .long j0, .ref a21, .ref a22, .ref a23, .ref a24])), (a1, .inl (cI, 544, .inl xF0))] s.heap.size = A at hD ⊢
  have hA : ∀ q : Nat, s.heap.size ≤ q → A q := fun q h => by rw [← hAe]; exact Or.inr h
  have hS : va_S A s.heap s.heap [] := va_S.rf
  have hl : lv_has ls 2 [(0, .ref a0), (1, .int p0)] := hl
  obtain ⟨Q, hQ⟩ : ∃ Q, Q = MQ below (va_Qi (fun (r : Int32) (u9 : Unit) => True) (fun u9 t => va_P (dC, dI) vwCl [(a0, .inr (12, [.int i0, .ref a1, .ref a2, .ref a3, .ref a4, .int i1, .ref a5, .int i2, .int i3, .int i4, .int i5, .int i6, .int i7, .int i8, .ref a6, .ref a7, .ref a8, .ref a9, .ref a10, .ref a11, .ref a12, .int i9, .ref a13, .int i10, .ref a14, .ref a15, .int i11, .ref a16, .ref a17, .ref a18, .ref a19, .int i12, .int i13, .int i14, .int i15, .int i16, .ref a20, .long j0, .ref a21, .ref a22, .ref a23, .ref a24])), (a1, .inl (cI, 544, .inl xF0))] t.heap ∧ va_D A [(a0, .inr (12, [.int i0, .ref a1, .ref a2, .ref a3, .ref a4, .int i1, .ref a5, .int i2, .int i3, .int i4, .int i5, .int i6, .int i7, .int i8, .ref a6, .ref a7, .ref a8, .ref a9, .ref a10, .ref a11, .ref a12, .int i9, .ref a13, .int i10, .ref a14, .ref a15, .int i11, .ref a16, .ref a17, .ref a18, .ref a19, .int i12, .int i13, .int i14, .int i15, .int i16, .ref a20, .long j0, .ref a21, .ref a22, .ref a23, .ref a24])), (a1, .inl (cI, 544, .inl xF0))]) A) ([.ref a0, .int p0] : List Value).toArray s 0 0 A := ⟨_, rfl⟩
  rw [← hQ]
  have k0 : (0 : Int32).toInt = 0 := by decide
  have k11 : (11 : Int32).toInt = 11 := by decide
  have k13 : (13 : Int32).toInt = 13 := by decide
  have k14 : (14 : Int32).toInt = 14 := by decide
  have k15 : (15 : Int32).toInt = 15 := by decide
  have k16 : (16 : Int32).toInt = 16 := by decide
  refine lv_iload_n hx hb dX12_stands_0 rfl (lv_at hl 1 rfl) ?_
  by_cases c1 : p0.toInt < 0 ∨ 5 < p0.toInt
  · refine lv_tableOut (tgt := 104) hx hb dX12_stands_1 c1 (by decide) ?_
    refine lv_iconst (v := (-1)) hx hb dX12_stands_104 (by decide) ?_
    have hP9 := hP.sub (ws' := [(a0, .inr (12, [.int i0, .ref a1, .ref a2, .ref a3, .ref a4, .int i1, .ref a5, .int i2, .int i3, .int i4, .int i5, .int i6, .int i7, .int i8, .ref a6, .ref a7, .ref a8, .ref a9, .ref a10, .ref a11, .ref a12, .int i9, .ref a13, .int i10, .ref a14, .ref a15, .int i11, .ref a16, .ref a17, .ref a18, .ref a19, .int i12, .int i13, .int i14, .int i15, .int i16, .ref a20, .long j0, .ref a21, .ref a22, .ref a23, .ref a24])), (a1, .inl (cI, 544, .inl xF0))]) [0, 1] rfl
    have hD9 := hD.sub (ws' := [(a0, .inr (12, [.int i0, .ref a1, .ref a2, .ref a3, .ref a4, .int i1, .ref a5, .int i2, .int i3, .int i4, .int i5, .int i6, .int i7, .int i8, .ref a6, .ref a7, .ref a8, .ref a9, .ref a10, .ref a11, .ref a12, .int i9, .ref a13, .int i10, .ref a14, .ref a15, .int i11, .ref a16, .ref a17, .ref a18, .ref a19, .int i12, .int i13, .int i14, .int i15, .int i16, .ref a20, .long j0, .ref a21, .ref a22, .ref a23, .ref a24])), (a1, .inl (cI, 544, .inl xF0))]) [0, 1] (by decide) rfl
    rw [hQ]
    exact W.iret (v := (-1)) hx hb hr (fun t ht hW => ⟨⟨(-1), (), rfl, trivial, (by rw [ht]; exact hP9), hD9⟩, hS.F ht⟩) hS.2.2 dX12_stands_105
  · have c10 : p0.toInt = 0 ∨ p0.toInt = 1 ∨ p0.toInt = 2 ∨ p0.toInt = 3 ∨ p0.toInt = 4 ∨ p0.toInt = 5 := by omega
    rcases c10 with c1h | c1h | c1h | c1h | c1h | c1h
    · refine lv_tableIn (off := 39) (tgt := 40) hx hb dX12_stands_1 (by omega) (by omega) (by rw [c1h]; decide) (by decide) ?_
      refine lv_aload_n hx hb dX12_stands_40 rfl (lv_at hl 0 rfl) ?_
      refine va_get (D := (dC, dI)) (ci := 12) (v := .ref a1) (C := RX12) (T := TX12) (N := 42) hx hb hwd inlX12 hown hK hP 0 rfl rfl 1 (by decide) (hwd _ kr7_3) (fun _ h9 => h9) rfl dX12_stands_41 ?_
      refine lv_bipush (v := 11) hx hb dX12_stands_44 (by decide) ?_
      have h2 : vp_in (11 : Int32) 544 := (vin (by decide))
      refine va_iald hx hb hK hP 1 0 rfl rfl h2 dX12_stands_46 ?_
      refine lv_topi (fun x3 ex3 => ?_)
      have ix3 := wat_lit (k := 11) ex3 (by decide)
      have wh4 : whd cp xF0 := p_7.1
      unfold whd at wh4
      have hP9 := hP.sub (ws' := [(a0, .inr (12, [.int i0, .ref a1, .ref a2, .ref a3, .ref a4, .int i1, .ref a5, .int i2, .int i3, .int i4, .int i5, .int i6, .int i7, .int i8, .ref a6, .ref a7, .ref a8, .ref a9, .ref a10, .ref a11, .ref a12, .int i9, .ref a13, .int i10, .ref a14, .ref a15, .int i11, .ref a16, .ref a17, .ref a18, .ref a19, .int i12, .int i13, .int i14, .int i15, .int i16, .ref a20, .long j0, .ref a21, .ref a22, .ref a23, .ref a24])), (a1, .inl (cI, 544, .inl xF0))]) [0, 1] rfl
      have hD9 := hD.sub (ws' := [(a0, .inr (12, [.int i0, .ref a1, .ref a2, .ref a3, .ref a4, .int i1, .ref a5, .int i2, .int i3, .int i4, .int i5, .int i6, .int i7, .int i8, .ref a6, .ref a7, .ref a8, .ref a9, .ref a10, .ref a11, .ref a12, .int i9, .ref a13, .int i10, .ref a14, .ref a15, .int i11, .ref a16, .ref a17, .ref a18, .ref a19, .int i12, .int i13, .int i14, .int i15, .int i16, .ref a20, .long j0, .ref a21, .ref a22, .ref a23, .ref a24])), (a1, .inl (cI, 544, .inl xF0))]) [0, 1] (by decide) rfl
      rw [hQ]
      exact W.iret (v := x3) hx hb hr (fun t ht hW => ⟨⟨x3, (), rfl, trivial, (by rw [ht]; exact hP9), hD9⟩, hS.F ht⟩) hS.2.2 dX12_stands_47
    · refine lv_tableIn (off := 47) (tgt := 48) hx hb dX12_stands_1 (by omega) (by omega) (by rw [c1h]; decide) (by decide) ?_
      refine lv_aload_n hx hb dX12_stands_48 rfl (lv_at hl 0 rfl) ?_
      refine va_get (D := (dC, dI)) (ci := 12) (v := .ref a1) (C := RX12) (T := TX12) (N := 42) hx hb hwd inlX12 hown hK hP 0 rfl rfl 1 (by decide) (hwd _ kr7_3) (fun _ h9 => h9) rfl dX12_stands_49 ?_
      refine lv_bipush (v := 14) hx hb dX12_stands_52 (by decide) ?_
      have h5 : vp_in (14 : Int32) 544 := (vin (by decide))
      refine va_iald hx hb hK hP 1 0 rfl rfl h5 dX12_stands_54 ?_
      refine lv_topi (fun x6 ex6 => ?_)
      have ix6 := wat_lit (k := 14) ex6 (by decide)
      have wh7 : whd cp xF0 := p_7.1
      unfold whd at wh7
      have hP9 := hP.sub (ws' := [(a0, .inr (12, [.int i0, .ref a1, .ref a2, .ref a3, .ref a4, .int i1, .ref a5, .int i2, .int i3, .int i4, .int i5, .int i6, .int i7, .int i8, .ref a6, .ref a7, .ref a8, .ref a9, .ref a10, .ref a11, .ref a12, .int i9, .ref a13, .int i10, .ref a14, .ref a15, .int i11, .ref a16, .ref a17, .ref a18, .ref a19, .int i12, .int i13, .int i14, .int i15, .int i16, .ref a20, .long j0, .ref a21, .ref a22, .ref a23, .ref a24])), (a1, .inl (cI, 544, .inl xF0))]) [0, 1] rfl
      have hD9 := hD.sub (ws' := [(a0, .inr (12, [.int i0, .ref a1, .ref a2, .ref a3, .ref a4, .int i1, .ref a5, .int i2, .int i3, .int i4, .int i5, .int i6, .int i7, .int i8, .ref a6, .ref a7, .ref a8, .ref a9, .ref a10, .ref a11, .ref a12, .int i9, .ref a13, .int i10, .ref a14, .ref a15, .int i11, .ref a16, .ref a17, .ref a18, .ref a19, .int i12, .int i13, .int i14, .int i15, .int i16, .ref a20, .long j0, .ref a21, .ref a22, .ref a23, .ref a24])), (a1, .inl (cI, 544, .inl xF0))]) [0, 1] (by decide) rfl
      rw [hQ]
      exact W.iret (v := x6) hx hb hr (fun t ht hW => ⟨⟨x6, (), rfl, trivial, (by rw [ht]; exact hP9), hD9⟩, hS.F ht⟩) hS.2.2 dX12_stands_55
    · refine lv_tableIn (off := 55) (tgt := 56) hx hb dX12_stands_1 (by omega) (by omega) (by rw [c1h]; decide) (by decide) ?_
      refine lv_aload_n hx hb dX12_stands_56 rfl (lv_at hl 0 rfl) ?_
      refine va_get (D := (dC, dI)) (ci := 12) (v := .ref a1) (C := RX12) (T := TX12) (N := 42) hx hb hwd inlX12 hown hK hP 0 rfl rfl 1 (by decide) (hwd _ kr7_3) (fun _ h9 => h9) rfl dX12_stands_57 ?_
      refine lv_bipush (v := 15) hx hb dX12_stands_60 (by decide) ?_
      have h8 : vp_in (15 : Int32) 544 := (vin (by decide))
      refine va_iald hx hb hK hP 1 0 rfl rfl h8 dX12_stands_62 ?_
      refine lv_topi (fun x9 ex9 => ?_)
      have ix9 := wat_lit (k := 15) ex9 (by decide)
      have wh10 : whd cp xF0 := p_7.1
      unfold whd at wh10
      have hP9 := hP.sub (ws' := [(a0, .inr (12, [.int i0, .ref a1, .ref a2, .ref a3, .ref a4, .int i1, .ref a5, .int i2, .int i3, .int i4, .int i5, .int i6, .int i7, .int i8, .ref a6, .ref a7, .ref a8, .ref a9, .ref a10, .ref a11, .ref a12, .int i9, .ref a13, .int i10, .ref a14, .ref a15, .int i11, .ref a16, .ref a17, .ref a18, .ref a19, .int i12, .int i13, .int i14, .int i15, .int i16, .ref a20, .long j0, .ref a21, .ref a22, .ref a23, .ref a24])), (a1, .inl (cI, 544, .inl xF0))]) [0, 1] rfl
      have hD9 := hD.sub (ws' := [(a0, .inr (12, [.int i0, .ref a1, .ref a2, .ref a3, .ref a4, .int i1, .ref a5, .int i2, .int i3, .int i4, .int i5, .int i6, .int i7, .int i8, .ref a6, .ref a7, .ref a8, .ref a9, .ref a10, .ref a11, .ref a12, .int i9, .ref a13, .int i10, .ref a14, .ref a15, .int i11, .ref a16, .ref a17, .ref a18, .ref a19, .int i12, .int i13, .int i14, .int i15, .int i16, .ref a20, .long j0, .ref a21, .ref a22, .ref a23, .ref a24])), (a1, .inl (cI, 544, .inl xF0))]) [0, 1] (by decide) rfl
      rw [hQ]
      exact W.iret (v := x9) hx hb hr (fun t ht hW => ⟨⟨x9, (), rfl, trivial, (by rw [ht]; exact hP9), hD9⟩, hS.F ht⟩) hS.2.2 dX12_stands_63
    · refine lv_tableIn (off := 63) (tgt := 64) hx hb dX12_stands_1 (by omega) (by omega) (by rw [c1h]; decide) (by decide) ?_
      refine lv_aload_n hx hb dX12_stands_64 rfl (lv_at hl 0 rfl) ?_
      refine va_get (D := (dC, dI)) (ci := 12) (v := .ref a1) (C := RX12) (T := TX12) (N := 42) hx hb hwd inlX12 hown hK hP 0 rfl rfl 1 (by decide) (hwd _ kr7_3) (fun _ h9 => h9) rfl dX12_stands_65 ?_
      refine lv_bipush (v := 13) hx hb dX12_stands_68 (by decide) ?_
      have h11 : vp_in (13 : Int32) 544 := (vin (by decide))
      refine va_iald hx hb hK hP 1 0 rfl rfl h11 dX12_stands_70 ?_
      refine lv_topi (fun x12 ex12 => ?_)
      have ix12 := wat_lit (k := 13) ex12 (by decide)
      have wh13 : whd cp xF0 := p_7.1
      unfold whd at wh13
      have hP9 := hP.sub (ws' := [(a0, .inr (12, [.int i0, .ref a1, .ref a2, .ref a3, .ref a4, .int i1, .ref a5, .int i2, .int i3, .int i4, .int i5, .int i6, .int i7, .int i8, .ref a6, .ref a7, .ref a8, .ref a9, .ref a10, .ref a11, .ref a12, .int i9, .ref a13, .int i10, .ref a14, .ref a15, .int i11, .ref a16, .ref a17, .ref a18, .ref a19, .int i12, .int i13, .int i14, .int i15, .int i16, .ref a20, .long j0, .ref a21, .ref a22, .ref a23, .ref a24])), (a1, .inl (cI, 544, .inl xF0))]) [0, 1] rfl
      have hD9 := hD.sub (ws' := [(a0, .inr (12, [.int i0, .ref a1, .ref a2, .ref a3, .ref a4, .int i1, .ref a5, .int i2, .int i3, .int i4, .int i5, .int i6, .int i7, .int i8, .ref a6, .ref a7, .ref a8, .ref a9, .ref a10, .ref a11, .ref a12, .int i9, .ref a13, .int i10, .ref a14, .ref a15, .int i11, .ref a16, .ref a17, .ref a18, .ref a19, .int i12, .int i13, .int i14, .int i15, .int i16, .ref a20, .long j0, .ref a21, .ref a22, .ref a23, .ref a24])), (a1, .inl (cI, 544, .inl xF0))]) [0, 1] (by decide) rfl
      rw [hQ]
      exact W.iret (v := x12) hx hb hr (fun t ht hW => ⟨⟨x12, (), rfl, trivial, (by rw [ht]; exact hP9), hD9⟩, hS.F ht⟩) hS.2.2 dX12_stands_71
    · refine lv_tableIn (off := 71) (tgt := 72) hx hb dX12_stands_1 (by omega) (by omega) (by rw [c1h]; decide) (by decide) ?_
      refine lv_aload_n hx hb dX12_stands_72 rfl (lv_at hl 0 rfl) ?_
      have hPc := hP.sub (ws' := [(a0, .inr (12, [.int i0, .ref a1, .ref a2, .ref a3, .ref a4, .int i1, .ref a5, .int i2, .int i3, .int i4, .int i5, .int i6, .int i7, .int i8, .ref a6, .ref a7, .ref a8, .ref a9, .ref a10, .ref a11, .ref a12, .int i9, .ref a13, .int i10, .ref a14, .ref a15, .int i11, .ref a16, .ref a17, .ref a18, .ref a19, .int i12, .int i13, .int i14, .int i15, .int i16, .ref a20, .long j0, .ref a21, .ref a22, .ref a23, .ref a24])), (a1, .inl (cI, 544, .inl xF0))]) [0, 1] rfl
      have hDc := hD.sub (ws' := [(a0, .inr (12, [.int i0, .ref a1, .ref a2, .ref a3, .ref a4, .int i1, .ref a5, .int i2, .int i3, .int i4, .int i5, .int i6, .int i7, .int i8, .ref a6, .ref a7, .ref a8, .ref a9, .ref a10, .ref a11, .ref a12, .int i9, .ref a13, .int i10, .ref a14, .ref a15, .int i11, .ref a16, .ref a17, .ref a18, .ref a19, .int i12, .int i13, .int i14, .int i15, .int i16, .ref a20, .long j0, .ref a21, .ref a22, .ref a23, .ref a24])), (a1, .inl (cI, 544, .inl xF0))]) [0, 1] (by decide) rfl
      have hFc := va_free (wc := [(a0, .inr (12, [.int i0, .ref a1, .ref a2, .ref a3, .ref a4, .int i1, .ref a5, .int i2, .int i3, .int i4, .int i5, .int i6, .int i7, .int i8, .ref a6, .ref a7, .ref a8, .ref a9, .ref a10, .ref a11, .ref a12, .int i9, .ref a13, .int i10, .ref a14, .ref a15, .int i11, .ref a16, .ref a17, .ref a18, .ref a19, .int i12, .int i13, .int i14, .int i15, .int i16, .ref a20, .long j0, .ref a21, .ref a22, .ref a23, .ref a24])), (a1, .inl (cI, 544, .inl xF0))]) hD hS hA [0, 1] rfl
      refine va_calli (va_runV (As := []) (rest := []) ⟨hx, hb, hml, hown, hwd⟩ (s_X12_isDrum l dC dI cI cZ cB cJ cM cG a0 a1 a2 a3 a4 a5 a6 a7 a8 a9 a10 a11 a12 a13 a14 a15 a16 a17 a18 a19 a20 a21 a22 a23 a24 i0 i1 i2 i3 i4 i5 i6 i7 i8 i9 i10 i11 i12 i13 i14 i15 i16 j0 xF0 cp s.heap.size (show (0 : Int) ≤ i1.toInt ∧ i1.toInt ≤ 1600 from ⟨by omega, by omega⟩) (show (0 : Int) ≤ i2.toInt ∧ i2.toInt ≤ 1600 from ⟨by omega, by omega⟩) (show (0 : Int) ≤ i3.toInt ∧ i3.toInt ≤ 1600 from ⟨by omega, by omega⟩) (show (0 : Int) ≤ i4.toInt ∧ i4.toInt ≤ 1600 from ⟨by omega, by omega⟩) (show (0 : Int) ≤ i5.toInt ∧ i5.toInt ≤ 6 from ⟨by omega, by omega⟩) (show (0 : Int) ≤ i7.toInt ∧ i7.toInt ≤ 3 from ⟨by omega, by omega⟩) (show (0 : Int) ≤ i11.toInt ∧ i11.toInt ≤ 59 from ⟨by omega, by omega⟩) (show WI cp xF0 from p_7) p_8) (cwV 0 hwd (gV kr26_9 kr26_10 kr26_11 kr1_5 kr26_12) rfl rfl rfl (by decide +kernel) ⟨Nat.le_of_ble_eq_true rfl, Nat.le_of_ble_eq_true rfl⟩) (kPreV hPc hK hDc (ci := 12) (q0 := 0) rfl rfl) rfl rfl hl.1 rfl (lv_room (Nat.le_of_ble_eq_true rfl)) dX12_stands_73 ⟨Nat.le_of_ble_eq_true rfl, Nat.le_of_ble_eq_true rfl⟩) hS (fun q _ h => hFc q h) hFc (fun r14 u15 t H1 locs ht9 hvm hw hB hz1 hk1 hS => ?_)
      obtain ⟨hw16, hw17, -⟩ := hw
      have hw16 : (0 : Int) ≤ r14.toInt ∧ r14.toInt ≤ 1 := hw16
      obtain ⟨hP1, hD1⟩ := hB
      rw [ht9] at hP1
      obtain ⟨hP, hD⟩ := va_join (wr := []) (w1 := [(a0, .inr (12, [.int i0, .ref a1, .ref a2, .ref a3, .ref a4, .int i1, .ref a5, .int i2, .int i3, .int i4, .int i5, .int i6, .int i7, .int i8, .ref a6, .ref a7, .ref a8, .ref a9, .ref a10, .ref a11, .ref a12, .int i9, .ref a13, .int i10, .ref a14, .ref a15, .int i11, .ref a16, .ref a17, .ref a18, .ref a19, .int i12, .int i13, .int i14, .int i15, .int i16, .ref a20, .long j0, .ref a21, .ref a22, .ref a23, .ref a24])), (a1, .inl (cI, 544, .inl xF0))]) hP hD [0, 1] [] rfl rfl (by decide) (by decide) hk1 hFc hP1 hD1
      generalize H1 = H at hP hS ⊢
      have hP : va_P (dC, dI) vwCl [(a0, .inr (12, [.int i0, .ref a1, .ref a2, .ref a3, .ref a4, .int i1, .ref a5, .int i2, .int i3, .int i4, .int i5, .int i6, .int i7, .int i8, .ref a6, .ref a7, .ref a8, .ref a9, .ref a10, .ref a11, .ref a12, .int i9, .ref a13, .int i10, .ref a14, .ref a15, .int i11, .ref a16, .ref a17, .ref a18, .ref a19, .int i12, .int i13, .int i14, .int i15, .int i16, .ref a20, .long j0, .ref a21, .ref a22, .ref a23, .ref a24])), (a1, .inl (cI, 544, .inl xF0))] H := hP
      have hD : va_D A [(a0, .inr (12, [.int i0, .ref a1, .ref a2, .ref a3, .ref a4, .int i1, .ref a5, .int i2, .int i3, .int i4, .int i5, .int i6, .int i7, .int i8, .ref a6, .ref a7, .ref a8, .ref a9, .ref a10, .ref a11, .ref a12, .int i9, .ref a13, .int i10, .ref a14, .ref a15, .int i11, .ref a16, .ref a17, .ref a18, .ref a19, .int i12, .int i13, .int i14, .int i15, .int i16, .ref a20, .long j0, .ref a21, .ref a22, .ref a23, .ref a24])), (a1, .inl (cI, 544, .inl xF0))] := hD
      refine lv_if_eq (tgt := 94) hx hb dX12_stands_76 (by decide) (fun c18 => ?_) (fun c18 => ?_)
      · rw [ki_eq] at c18
        refine lv_iconst (v := 0) hx hb dX12_stands_94 (by decide) ?_
        have hP9 := hP.sub (ws' := [(a0, .inr (12, [.int i0, .ref a1, .ref a2, .ref a3, .ref a4, .int i1, .ref a5, .int i2, .int i3, .int i4, .int i5, .int i6, .int i7, .int i8, .ref a6, .ref a7, .ref a8, .ref a9, .ref a10, .ref a11, .ref a12, .int i9, .ref a13, .int i10, .ref a14, .ref a15, .int i11, .ref a16, .ref a17, .ref a18, .ref a19, .int i12, .int i13, .int i14, .int i15, .int i16, .ref a20, .long j0, .ref a21, .ref a22, .ref a23, .ref a24])), (a1, .inl (cI, 544, .inl xF0))]) [0, 1] rfl
        have hD9 := hD.sub (ws' := [(a0, .inr (12, [.int i0, .ref a1, .ref a2, .ref a3, .ref a4, .int i1, .ref a5, .int i2, .int i3, .int i4, .int i5, .int i6, .int i7, .int i8, .ref a6, .ref a7, .ref a8, .ref a9, .ref a10, .ref a11, .ref a12, .int i9, .ref a13, .int i10, .ref a14, .ref a15, .int i11, .ref a16, .ref a17, .ref a18, .ref a19, .int i12, .int i13, .int i14, .int i15, .int i16, .ref a20, .long j0, .ref a21, .ref a22, .ref a23, .ref a24])), (a1, .inl (cI, 544, .inl xF0))]) [0, 1] (by decide) rfl
        rw [hQ]
        exact W.iret (v := 0) hx hb hr (fun t ht hW => ⟨⟨0, (), rfl, trivial, (by rw [ht]; exact hP9), hD9⟩, hS.F ht⟩) hS.2.2 dX12_stands_95
      · rw [ki_eq] at c18
        have hw17q := hw17 (by omega)
        clear hw17
        refine lv_aload_n hx hb dX12_stands_79 rfl (lv_at hl 0 rfl) ?_
        refine lv_aload_n hx hb dX12_stands_80 rfl (lv_at hl 0 rfl) ?_
        refine va_get (D := (dC, dI)) (ci := 12) (v := .ref a1) (C := RX12) (T := TX12) (N := 42) hx hb hwd inlX12 hown hK hP 0 rfl rfl 1 (by decide) (hwd _ kr7_3) (fun _ h9 => h9) rfl dX12_stands_81 ?_
        refine lv_bipush (v := 11) hx hb dX12_stands_84 (by decide) ?_
        have h19 : vp_in (11 : Int32) 544 := (vin (by decide))
        refine va_iald hx hb hK hP 1 0 rfl rfl h19 dX12_stands_86 ?_
        refine lv_topi (fun x20 ex20 => ?_)
        have ix20 := wat_lit (k := 11) ex20 (by decide)
        have wh21 : whd cp xF0 := p_7.1
        unfold whd at wh21
        refine lv_i2l hx hb dX12_stands_87 rfl ?_
        have hPc := hP.sub (ws' := [(a0, .inr (12, [.int i0, .ref a1, .ref a2, .ref a3, .ref a4, .int i1, .ref a5, .int i2, .int i3, .int i4, .int i5, .int i6, .int i7, .int i8, .ref a6, .ref a7, .ref a8, .ref a9, .ref a10, .ref a11, .ref a12, .int i9, .ref a13, .int i10, .ref a14, .ref a15, .int i11, .ref a16, .ref a17, .ref a18, .ref a19, .int i12, .int i13, .int i14, .int i15, .int i16, .ref a20, .long j0, .ref a21, .ref a22, .ref a23, .ref a24])), (a1, .inl (cI, 544, .inl xF0))]) [0, 1] rfl
        have hDc := hD.sub (ws' := [(a0, .inr (12, [.int i0, .ref a1, .ref a2, .ref a3, .ref a4, .int i1, .ref a5, .int i2, .int i3, .int i4, .int i5, .int i6, .int i7, .int i8, .ref a6, .ref a7, .ref a8, .ref a9, .ref a10, .ref a11, .ref a12, .int i9, .ref a13, .int i10, .ref a14, .ref a15, .int i11, .ref a16, .ref a17, .ref a18, .ref a19, .int i12, .int i13, .int i14, .int i15, .int i16, .ref a20, .long j0, .ref a21, .ref a22, .ref a23, .ref a24])), (a1, .inl (cI, 544, .inl xF0))]) [0, 1] (by decide) rfl
        have hFc := va_free (wc := [(a0, .inr (12, [.int i0, .ref a1, .ref a2, .ref a3, .ref a4, .int i1, .ref a5, .int i2, .int i3, .int i4, .int i5, .int i6, .int i7, .int i8, .ref a6, .ref a7, .ref a8, .ref a9, .ref a10, .ref a11, .ref a12, .int i9, .ref a13, .int i10, .ref a14, .ref a15, .int i11, .ref a16, .ref a17, .ref a18, .ref a19, .int i12, .int i13, .int i14, .int i15, .int i16, .ref a20, .long j0, .ref a21, .ref a22, .ref a23, .ref a24])), (a1, .inl (cI, 544, .inl xF0))]) hD hS hA [0, 1] rfl
        refine va_calli (va_runV (As := [.long x20.toInt64]) (rest := []) ⟨hx, hb, hml, hown, hwd⟩ (s_X12_secondOf l dC dI cI cZ cB cJ cM cG a0 a1 a2 a3 a4 a5 a6 a7 a8 a9 a10 a11 a12 a13 a14 a15 a16 a17 a18 a19 a20 a21 a22 a23 a24 i0 i1 i2 i3 i4 i5 i6 i7 i8 i9 i10 i11 i12 i13 i14 i15 i16 j0 xF0 x20.toInt64 cp H.size (show (0 : Int) ≤ i1.toInt ∧ i1.toInt ≤ 1600 from ⟨by omega, by omega⟩) (show (0 : Int) ≤ i2.toInt ∧ i2.toInt ≤ 1600 from ⟨by omega, by omega⟩) (show (0 : Int) ≤ i3.toInt ∧ i3.toInt ≤ 1600 from ⟨by omega, by omega⟩) (show (0 : Int) ≤ i4.toInt ∧ i4.toInt ≤ 1600 from ⟨by omega, by omega⟩) (show (0 : Int) ≤ i5.toInt ∧ i5.toInt ≤ 6 from ⟨by omega, by omega⟩) (show (0 : Int) ≤ i7.toInt ∧ i7.toInt ≤ 3 from ⟨by omega, by omega⟩) (show (0 : Int) ≤ i11.toInt ∧ i11.toInt ≤ 59 from ⟨by omega, by omega⟩) (show WI cp xF0 from p_7) (by omega) p_8) (cwV 1 hwd (gV kr41_7 kr41_8 kr41_9 kr1_5 kr41_10) rfl rfl rfl (by decide +kernel) ⟨Nat.le_of_ble_eq_true rfl, Nat.le_of_ble_eq_true rfl⟩) (kPreV hPc hK hDc (ci := 12) (q0 := 0) rfl rfl) rfl rfl hl.1 rfl (lv_room (Nat.le_of_ble_eq_true rfl)) dX12_stands_88 ⟨Nat.le_of_ble_eq_true rfl, Nat.le_of_ble_eq_true rfl⟩) hS (fun q _ h => hFc q h) hFc (fun r22 u23 t H1 locs ht9 hvm hw hB hz1 hk1 hS => ?_)
        obtain ⟨hP1, hD1⟩ := hB
        rw [ht9] at hP1
        obtain ⟨hP, hD⟩ := va_join (wr := []) (w1 := [(a0, .inr (12, [.int i0, .ref a1, .ref a2, .ref a3, .ref a4, .int i1, .ref a5, .int i2, .int i3, .int i4, .int i5, .int i6, .int i7, .int i8, .ref a6, .ref a7, .ref a8, .ref a9, .ref a10, .ref a11, .ref a12, .int i9, .ref a13, .int i10, .ref a14, .ref a15, .int i11, .ref a16, .ref a17, .ref a18, .ref a19, .int i12, .int i13, .int i14, .int i15, .int i16, .ref a20, .long j0, .ref a21, .ref a22, .ref a23, .ref a24])), (a1, .inl (cI, 544, .inl xF0))]) hP hD [0, 1] [] rfl rfl (by decide) (by decide) hk1 hFc hP1 hD1
        generalize H1 = H at hP hS ⊢
        have hP : va_P (dC, dI) vwCl [(a0, .inr (12, [.int i0, .ref a1, .ref a2, .ref a3, .ref a4, .int i1, .ref a5, .int i2, .int i3, .int i4, .int i5, .int i6, .int i7, .int i8, .ref a6, .ref a7, .ref a8, .ref a9, .ref a10, .ref a11, .ref a12, .int i9, .ref a13, .int i10, .ref a14, .ref a15, .int i11, .ref a16, .ref a17, .ref a18, .ref a19, .int i12, .int i13, .int i14, .int i15, .int i16, .ref a20, .long j0, .ref a21, .ref a22, .ref a23, .ref a24])), (a1, .inl (cI, 544, .inl xF0))] H := hP
        have hD : va_D A [(a0, .inr (12, [.int i0, .ref a1, .ref a2, .ref a3, .ref a4, .int i1, .ref a5, .int i2, .int i3, .int i4, .int i5, .int i6, .int i7, .int i8, .ref a6, .ref a7, .ref a8, .ref a9, .ref a10, .ref a11, .ref a12, .int i9, .ref a13, .int i10, .ref a14, .ref a15, .int i11, .ref a16, .ref a17, .ref a18, .ref a19, .int i12, .int i13, .int i14, .int i15, .int i16, .ref a20, .long j0, .ref a21, .ref a22, .ref a23, .ref a24])), (a1, .inl (cI, 544, .inl xF0))] := hD
        refine lv_goto (tgt := 95) hx hb dX12_stands_91 (by decide) ?_
        have hP9 := hP.sub (ws' := [(a0, .inr (12, [.int i0, .ref a1, .ref a2, .ref a3, .ref a4, .int i1, .ref a5, .int i2, .int i3, .int i4, .int i5, .int i6, .int i7, .int i8, .ref a6, .ref a7, .ref a8, .ref a9, .ref a10, .ref a11, .ref a12, .int i9, .ref a13, .int i10, .ref a14, .ref a15, .int i11, .ref a16, .ref a17, .ref a18, .ref a19, .int i12, .int i13, .int i14, .int i15, .int i16, .ref a20, .long j0, .ref a21, .ref a22, .ref a23, .ref a24])), (a1, .inl (cI, 544, .inl xF0))]) [0, 1] rfl
        have hD9 := hD.sub (ws' := [(a0, .inr (12, [.int i0, .ref a1, .ref a2, .ref a3, .ref a4, .int i1, .ref a5, .int i2, .int i3, .int i4, .int i5, .int i6, .int i7, .int i8, .ref a6, .ref a7, .ref a8, .ref a9, .ref a10, .ref a11, .ref a12, .int i9, .ref a13, .int i10, .ref a14, .ref a15, .int i11, .ref a16, .ref a17, .ref a18, .ref a19, .int i12, .int i13, .int i14, .int i15, .int i16, .ref a20, .long j0, .ref a21, .ref a22, .ref a23, .ref a24])), (a1, .inl (cI, 544, .inl xF0))]) [0, 1] (by decide) rfl
        rw [hQ]
        exact W.iret (v := r22) hx hb hr (fun t ht hW => ⟨⟨r22, (), rfl, trivial, (by rw [ht]; exact hP9), hD9⟩, hS.F ht⟩) hS.2.2 dX12_stands_95
    · refine lv_tableIn (off := 95) (tgt := 96) hx hb dX12_stands_1 (by omega) (by omega) (by rw [c1h]; decide) (by decide) ?_
      refine lv_aload_n hx hb dX12_stands_96 rfl (lv_at hl 0 rfl) ?_
      refine va_get (D := (dC, dI)) (ci := 12) (v := .ref a1) (C := RX12) (T := TX12) (N := 42) hx hb hwd inlX12 hown hK hP 0 rfl rfl 1 (by decide) (hwd _ kr7_3) (fun _ h9 => h9) rfl dX12_stands_97 ?_
      refine lv_bipush (v := 16) hx hb dX12_stands_100 (by decide) ?_
      have h24 : vp_in (16 : Int32) 544 := (vin (by decide))
      refine va_iald hx hb hK hP 1 0 rfl rfl h24 dX12_stands_102 ?_
      refine lv_topi (fun x25 ex25 => ?_)
      have ix25 := wat_lit (k := 16) ex25 (by decide)
      have wh26 : whd cp xF0 := p_7.1
      unfold whd at wh26
      have hP9 := hP.sub (ws' := [(a0, .inr (12, [.int i0, .ref a1, .ref a2, .ref a3, .ref a4, .int i1, .ref a5, .int i2, .int i3, .int i4, .int i5, .int i6, .int i7, .int i8, .ref a6, .ref a7, .ref a8, .ref a9, .ref a10, .ref a11, .ref a12, .int i9, .ref a13, .int i10, .ref a14, .ref a15, .int i11, .ref a16, .ref a17, .ref a18, .ref a19, .int i12, .int i13, .int i14, .int i15, .int i16, .ref a20, .long j0, .ref a21, .ref a22, .ref a23, .ref a24])), (a1, .inl (cI, 544, .inl xF0))]) [0, 1] rfl
      have hD9 := hD.sub (ws' := [(a0, .inr (12, [.int i0, .ref a1, .ref a2, .ref a3, .ref a4, .int i1, .ref a5, .int i2, .int i3, .int i4, .int i5, .int i6, .int i7, .int i8, .ref a6, .ref a7, .ref a8, .ref a9, .ref a10, .ref a11, .ref a12, .int i9, .ref a13, .int i10, .ref a14, .ref a15, .int i11, .ref a16, .ref a17, .ref a18, .ref a19, .int i12, .int i13, .int i14, .int i15, .int i16, .ref a20, .long j0, .ref a21, .ref a22, .ref a23, .ref a24])), (a1, .inl (cI, 544, .inl xF0))]) [0, 1] (by decide) rfl
      rw [hQ]
      exact W.iret (v := x25) hx hb hr (fun t ht hW => ⟨⟨x25, (), rfl, trivial, (by rw [ht]; exact hP9), hD9⟩, hS.F ht⟩) hS.2.2 dX12_stands_103
theorem dX12_steadyAt_0 : decode cX12_steadyAt 0 = .ok (.iconst 0, 1) := by decide +kernel
theorem dX12_steadyAt_1 : decode cX12_steadyAt 1 = .ok (.istore_n 3, 1) := by decide +kernel
theorem dX12_steadyAt_2 : decode cX12_steadyAt 2 = .ok (.iconst 0, 1) := by decide +kernel
theorem dX12_steadyAt_3 : decode cX12_steadyAt 3 = .ok (.istore 4, 2) := by decide +kernel
theorem dX12_steadyAt_5 : decode cX12_steadyAt 5 = .ok (.iload 4, 2) := by decide +kernel
theorem dX12_steadyAt_7 : decode cX12_steadyAt 7 = .ok (.aload_n 0, 1) := by decide +kernel
theorem dX12_steadyAt_8 : decode cX12_steadyAt 8 = .ok (.getfield 13, 3) := by decide +kernel
theorem dX12_steadyAt_11 : decode cX12_steadyAt 11 = .ok (.iconst 1, 1) := by decide +kernel
theorem dX12_steadyAt_12 : decode cX12_steadyAt 12 = .ok (.iaload, 1) := by decide +kernel
theorem dX12_steadyAt_13 : decode cX12_steadyAt 13 = .ok (.if_icmp .ge 42, 3) := by decide +kernel
theorem dX12_steadyAt_16 : decode cX12_steadyAt 16 = .ok (.iload_n 3, 1) := by decide +kernel
theorem dX12_steadyAt_17 : decode cX12_steadyAt 17 = .ok (.aload_n 0, 1) := by decide +kernel
theorem dX12_steadyAt_18 : decode cX12_steadyAt 18 = .ok (.getfield 40, 3) := by decide +kernel
theorem dX12_steadyAt_21 : decode cX12_steadyAt 21 = .ok (.bipush 60, 2) := by decide +kernel
theorem dX12_steadyAt_23 : decode cX12_steadyAt 23 = .ok (.iload_n 1, 1) := by decide +kernel
theorem dX12_steadyAt_24 : decode cX12_steadyAt 24 = .ok (.imul, 1) := by decide +kernel
theorem dX12_steadyAt_25 : decode cX12_steadyAt 25 = .ok (.aload_n 0, 1) := by decide +kernel
theorem dX12_steadyAt_26 : decode cX12_steadyAt 26 = .ok (.iload_n 2, 1) := by decide +kernel
theorem dX12_steadyAt_27 : decode cX12_steadyAt 27 = .ok (.iload 4, 2) := by decide +kernel
theorem dX12_steadyAt_29 : decode cX12_steadyAt 29 = .ok (.isub, 1) := by decide +kernel
theorem dX12_steadyAt_30 : decode cX12_steadyAt 30 = .ok (.invokevirtual 260, 3) := by decide +kernel
theorem dX12_steadyAt_33 : decode cX12_steadyAt 33 = .ok (.iadd, 1) := by decide +kernel
theorem dX12_steadyAt_34 : decode cX12_steadyAt 34 = .ok (.iaload, 1) := by decide +kernel
theorem dX12_steadyAt_35 : decode cX12_steadyAt 35 = .ok (.iload 4, 2) := by decide +kernel
theorem dX12_steadyAt_37 : decode cX12_steadyAt 37 = .ok (.aload_n 0, 1) := by decide +kernel
theorem dX12_steadyAt_38 : decode cX12_steadyAt 38 = .ok (.iload_n 1, 1) := by decide +kernel
theorem dX12_steadyAt_39 : decode cX12_steadyAt 39 = .ok (.iconst 4, 1) := by decide +kernel
theorem dX12_steadyAt_40 : decode cX12_steadyAt 40 = .ok (.invokevirtual 273, 3) := by decide +kernel
theorem dX12_steadyAt_43 : decode cX12_steadyAt 43 = .ok (.imul, 1) := by decide +kernel
theorem dX12_steadyAt_44 : decode cX12_steadyAt 44 = .ok (.isub, 1) := by decide +kernel
theorem dX12_steadyAt_45 : decode cX12_steadyAt 45 = .ok (.invokestatic 257, 3) := by decide +kernel
theorem dX12_steadyAt_48 : decode cX12_steadyAt 48 = .ok (.istore_n 3, 1) := by decide +kernel
theorem dX12_steadyAt_49 : decode cX12_steadyAt 49 = .ok (.iinc 4 1, 3) := by decide +kernel
theorem dX12_steadyAt_52 : decode cX12_steadyAt 52 = .ok (.goto (-47), 3) := by decide +kernel
theorem dX12_steadyAt_55 : decode cX12_steadyAt 55 = .ok (.iload_n 3, 1) := by decide +kernel
theorem dX12_steadyAt_56 : decode cX12_steadyAt 56 = .ok (.ireturn, 1) := by decide +kernel
set_option maxHeartbeats 4000000 in
set_option maxRecDepth 100000 in
theorem s_X12_steadyAt (l : Launch) (dC : Nat → ClassId) (dI : Nat → Nat → Nat) (cI cZ cB cJ cM cG : ClassId) (a0 a1 a2 a3 a4 a5 a6 a7 a8 a9 a10 a11 a12 a13 a14 a15 a16 a17 a18 a19 a20 a21 a22 a23 a24 : Nat) (i0 i1 i2 i3 i4 i5 i6 i7 i8 i9 i10 i11 i12 i13 i14 i15 i16 : Int32) (j0 : Int64) (xF0 xF7 : Nat → Int32) (p0 p1 : Int32) (cp : Int) (sz : Nat) (p_0 : (0 : Int) ≤ i1.toInt ∧ i1.toInt ≤ 1600) (p_1 : (0 : Int) ≤ i2.toInt ∧ i2.toInt ≤ 1600) (p_2 : (0 : Int) ≤ i3.toInt ∧ i3.toInt ≤ 1600) (p_3 : (0 : Int) ≤ i4.toInt ∧ i4.toInt ≤ 1600) (p_4 : (0 : Int) ≤ i5.toInt ∧ i5.toInt ≤ 6) (p_5 : (0 : Int) ≤ i7.toInt ∧ i7.toInt ≤ 3) (p_6 : (0 : Int) ≤ i11.toInt ∧ i11.toInt ≤ 59) (p_7 : WI cp xF0) (p_8 : 1 ≤ wat xF0 1) (p_9 : (0 : Int) ≤ p0.toInt ∧ p0.toInt ≤ 9) (p_10 : 0 ≤ cp ∧ cp ≤ 2000000000) : Met l yX12_steadyAt (kw yX12_steadyAt cX12_steadyAt 5 (some .int)) ({ frames := 1, cells := 0, slots := 0, locals := 24 } : Room) (va_Pc [.ref a0, .int p0, .int p1] (kPre dC dI [(cI, .int), (cZ, .boolean), (cB, .byte), (cJ, .long), (cM, .object RX2), (cG, .array .int)] [(a0, .inr (12, [.int i0, .ref a1, .ref a2, .ref a3, .ref a4, .int i1, .ref a5, .int i2, .int i3, .int i4, .int i5, .int i6, .int i7, .int i8, .ref a6, .ref a7, .ref a8, .ref a9, .ref a10, .ref a11, .ref a12, .int i9, .ref a13, .int i10, .ref a14, .ref a15, .int i11, .ref a16, .ref a17, .ref a18, .ref a19, .int i12, .int i13, .int i14, .int i15, .int i16, .ref a20, .long j0, .ref a21, .ref a22, .ref a23, .ref a24])), (a1, .inl (cI, 544, .inl xF0)), (a8, .inl (cI, 600, .inl xF7))] sz)) (va_Qi (fun (r : Int32) (u9 : Unit) => ((0 : Int) ≤ r.toInt ∧ r.toInt ≤ 2147483647) ∧ True) (fun u9 t => va_P (dC, dI) vwCl [(a0, .inr (12, [.int i0, .ref a1, .ref a2, .ref a3, .ref a4, .int i1, .ref a5, .int i2, .int i3, .int i4, .int i5, .int i6, .int i7, .int i8, .ref a6, .ref a7, .ref a8, .ref a9, .ref a10, .ref a11, .ref a12, .int i9, .ref a13, .int i10, .ref a14, .ref a15, .int i11, .ref a16, .ref a17, .ref a18, .ref a19, .int i12, .int i13, .int i14, .int i15, .int i16, .ref a20, .long j0, .ref a21, .ref a22, .ref a23, .ref a24])), (a1, .inl (cI, 544, .inl xF0)), (a8, .inl (cI, 600, .inl xF7))] t.heap ∧ va_D (va_A [(a0, .inr (12, [.int i0, .ref a1, .ref a2, .ref a3, .ref a4, .int i1, .ref a5, .int i2, .int i3, .int i4, .int i5, .int i6, .int i7, .int i8, .ref a6, .ref a7, .ref a8, .ref a9, .ref a10, .ref a11, .ref a12, .int i9, .ref a13, .int i10, .ref a14, .ref a15, .int i11, .ref a16, .ref a17, .ref a18, .ref a19, .int i12, .int i13, .int i14, .int i15, .int i16, .ref a20, .long j0, .ref a21, .ref a22, .ref a23, .ref a24])), (a1, .inl (cI, 544, .inl xF0)), (a8, .inl (cI, 600, .inl xF7))] sz) [(a0, .inr (12, [.int i0, .ref a1, .ref a2, .ref a3, .ref a4, .int i1, .ref a5, .int i2, .int i3, .int i4, .int i5, .int i6, .int i7, .int i8, .ref a6, .ref a7, .ref a8, .ref a9, .ref a10, .ref a11, .ref a12, .int i9, .ref a13, .int i10, .ref a14, .ref a15, .int i11, .ref a16, .ref a17, .ref a18, .ref a19, .int i12, .int i13, .int i14, .int i15, .int i16, .ref a20, .long j0, .ref a21, .ref a22, .ref a23, .ref a24])), (a1, .inl (cI, 544, .inl xF0)), (a8, .inl (cI, 600, .inl xF7))]) (va_A [(a0, .inr (12, [.int i0, .ref a1, .ref a2, .ref a3, .ref a4, .int i1, .ref a5, .int i2, .int i3, .int i4, .int i5, .int i6, .int i7, .int i8, .ref a6, .ref a7, .ref a8, .ref a9, .ref a10, .ref a11, .ref a12, .int i9, .ref a13, .int i10, .ref a14, .ref a15, .int i11, .ref a16, .ref a17, .ref a18, .ref a19, .int i12, .int i13, .int i14, .int i15, .int i16, .ref a20, .long j0, .ref a21, .ref a22, .ref a23, .ref a24])), (a1, .inl (cI, 544, .inl xF0)), (a8, .inl (cI, 600, .inl xF7))] sz)) 0 0 (va_A [(a0, .inr (12, [.int i0, .ref a1, .ref a2, .ref a3, .ref a4, .int i1, .ref a5, .int i2, .int i3, .int i4, .int i5, .int i6, .int i7, .int i8, .ref a6, .ref a7, .ref a8, .ref a9, .ref a10, .ref a11, .ref a12, .int i9, .ref a13, .int i10, .ref a14, .ref a15, .int i11, .ref a16, .ref a17, .ref a18, .ref a19, .int i12, .int i13, .int i14, .int i15, .int i16, .ref a20, .long j0, .ref a21, .ref a22, .ref a23, .ref a24])), (a1, .inl (cI, 544, .inl xF0)), (a8, .inl (cI, 600, .inl xF7))] sz) := by
  refine kEnter (by decide) (Nat.le_of_ble_eq_true rfl) ?_
  intro p e s m below meth c ls hx hb hr hml hown hlocks hin hwd hsz hP hK hD hl
  subst hsz
  generalize hAe : va_A [(a0, .inr (12, [.int i0, .ref a1, .ref a2, .ref a3, .ref a4, .int i1, .ref a5, .int i2, .int i3, .int i4, .int i5, .int i6, .int i7, .int i8, .ref a6, .ref a7, .ref a8, .ref a9, .ref a10, .ref a11, .ref a12, .int i9, .ref a13, .int i10, .ref a14, .ref a15, .int i11, .ref a16, .ref a17, .ref a18, .ref a19, .int i12, .int i13, .int i14, .int i15, .int i16, .ref a20, .long j0, .ref a21, .ref a22, .ref a23, .ref a24])), (a1, .inl (cI, 544, .inl xF0)), (a8, .inl (cI, 600, .inl xF7))] s.heap.size = A at hD ⊢
  have hA : ∀ q : Nat, s.heap.size ≤ q → A q := fun q h => by rw [← hAe]; exact Or.inr h
  have hS : va_S A s.heap s.heap [] := va_S.rf
  have hl : lv_has ls 5 [(0, .ref a0), (1, .int p0), (2, .int p1)] := hl
  obtain ⟨Q, hQ⟩ : ∃ Q, Q = MQ below (va_Qi (fun (r : Int32) (u9 : Unit) => ((0 : Int) ≤ r.toInt ∧ r.toInt ≤ 2147483647) ∧ True) (fun u9 t => va_P (dC, dI) vwCl [(a0, .inr (12, [.int i0, .ref a1, .ref a2, .ref a3, .ref a4, .int i1, .ref a5, .int i2, .int i3, .int i4, .int i5, .int i6, .int i7, .int i8, .ref a6, .ref a7, .ref a8, .ref a9, .ref a10, .ref a11, .ref a12, .int i9, .ref a13, .int i10, .ref a14, .ref a15, .int i11, .ref a16, .ref a17, .ref a18, .ref a19, .int i12, .int i13, .int i14, .int i15, .int i16, .ref a20, .long j0, .ref a21, .ref a22, .ref a23, .ref a24])), (a1, .inl (cI, 544, .inl xF0)), (a8, .inl (cI, 600, .inl xF7))] t.heap ∧ va_D A [(a0, .inr (12, [.int i0, .ref a1, .ref a2, .ref a3, .ref a4, .int i1, .ref a5, .int i2, .int i3, .int i4, .int i5, .int i6, .int i7, .int i8, .ref a6, .ref a7, .ref a8, .ref a9, .ref a10, .ref a11, .ref a12, .int i9, .ref a13, .int i10, .ref a14, .ref a15, .int i11, .ref a16, .ref a17, .ref a18, .ref a19, .int i12, .int i13, .int i14, .int i15, .int i16, .ref a20, .long j0, .ref a21, .ref a22, .ref a23, .ref a24])), (a1, .inl (cI, 544, .inl xF0)), (a8, .inl (cI, 600, .inl xF7))]) A) ([.ref a0, .int p0, .int p1] : List Value).toArray s 0 0 A := ⟨_, rfl⟩
  rw [← hQ]
  have k0 : (0 : Int32).toInt = 0 := by decide
  have k1 : (1 : Int32).toInt = 1 := by decide
  have k4 : (4 : Int32).toInt = 4 := by decide
  have k60 : (60 : Int32).toInt = 60 := by decide
  refine lv_iconst (v := 0) hx hb dX12_steadyAt_0 (by decide) ?_
  refine lv_istore_n (lv' := [(3, .int 0), (0, .ref a0), (1, .int p0), (2, .int p1)]) hx hb dX12_steadyAt_1 rfl hl (by decide) rfl (fun ls hl => ?_)
  refine lv_iconst (v := 0) hx hb dX12_steadyAt_2 (by decide) ?_
  refine lv_istore (lv' := [(4, .int 0), (3, .int 0), (0, .ref a0), (1, .int p0), (2, .int p1)]) hx hb dX12_steadyAt_3 hl (by decide) rfl (fun ls hl => ?_)
  have lp1 : ∀ (d : Nat), ∀ (H : Heap) (locs : List Loc) (ls : Array Slot) (w3_1 : Int32) (w4_1 : Int32), ((0 : Int) ≤ w3_1.toInt ∧ w3_1.toInt ≤ 2147483647) → ((0 : Int) ≤ w4_1.toInt ∧ w4_1.toInt ≤ 60) → (60 - w4_1.toInt).toNat < d → va_P (dC, dI) vwCl [(a0, .inr (12, [.int i0, .ref a1, .ref a2, .ref a3, .ref a4, .int i1, .ref a5, .int i2, .int i3, .int i4, .int i5, .int i6, .int i7, .int i8, .ref a6, .ref a7, .ref a8, .ref a9, .ref a10, .ref a11, .ref a12, .int i9, .ref a13, .int i10, .ref a14, .ref a15, .int i11, .ref a16, .ref a17, .ref a18, .ref a19, .int i12, .int i13, .int i14, .int i15, .int i16, .ref a20, .long j0, .ref a21, .ref a22, .ref a23, .ref a24])), (a1, .inl (cI, 544, .inl xF0)), (a8, .inl (cI, 600, .inl xF7))] H → va_D A [(a0, .inr (12, [.int i0, .ref a1, .ref a2, .ref a3, .ref a4, .int i1, .ref a5, .int i2, .int i3, .int i4, .int i5, .int i6, .int i7, .int i8, .ref a6, .ref a7, .ref a8, .ref a9, .ref a10, .ref a11, .ref a12, .int i9, .ref a13, .int i10, .ref a14, .ref a15, .int i11, .ref a16, .ref a17, .ref a18, .ref a19, .int i12, .int i13, .int i14, .int i15, .int i16, .ref a20, .long j0, .ref a21, .ref a22, .ref a23, .ref a24])), (a1, .inl (cI, 544, .inl xF0)), (a8, .inl (cI, 600, .inl xF7))] → va_S A s.heap H locs → lv_has ls 5 [(0, .ref a0), (1, .int p0), (2, .int p1), (3, .int w3_1), (4, .int w4_1)] → W p l e ({ frames := 1, cells := 0, slots := 0, locals := 24 } : Room) s m ([.ref a0, .int p0, .int p1] : List Value).toArray below meth c H locs 0 0 Q (F0 m 5 ls []) := by
    intro d
    induction d with
    | zero =>
      intro H locs ls w3_1 w4_1 hr_w3_1 hr_w4_1 hm hP hD hS hl
      omega
    | succ d ih1 =>
      intro H locs ls w3_1 w4_1 hr_w3_1 hr_w4_1 hm hP hD hS hl
      refine lv_iload hx hb dX12_steadyAt_5 (lv_at hl 4 rfl) ?_
      refine lv_aload_n hx hb dX12_steadyAt_7 rfl (lv_at hl 0 rfl) ?_
      refine va_get (D := (dC, dI)) (ci := 12) (v := .ref a1) (C := RX12) (T := TX12) (N := 42) hx hb hwd inlX12 hown hK hP 0 rfl rfl 1 (by decide) (hwd _ kr7_3) (fun _ h9 => h9) rfl dX12_steadyAt_8 ?_
      refine lv_iconst (v := 1) hx hb dX12_steadyAt_11 (by decide) ?_
      have h123 : vp_in (1 : Int32) 544 := (vin (by decide))
      refine va_iald hx hb hK hP 1 0 rfl rfl h123 dX12_steadyAt_12 ?_
      refine lv_topi (fun x124 ex124 => ?_)
      have ix124 := wat_lit (k := 1) ex124 (by decide)
      have wh125 : whd cp xF0 := p_7.1
      unfold whd at wh125
      refine lv_icmp_ge (tgt := 55) hx hb dX12_steadyAt_13 (by decide) (fun c126 => ?_) (fun c126 => ?_)
      · rw [ki_le] at c126
        refine lv_iload_n hx hb dX12_steadyAt_55 rfl (lv_at hl 3 rfl) ?_
        have hP9 := hP.sub (ws' := [(a0, .inr (12, [.int i0, .ref a1, .ref a2, .ref a3, .ref a4, .int i1, .ref a5, .int i2, .int i3, .int i4, .int i5, .int i6, .int i7, .int i8, .ref a6, .ref a7, .ref a8, .ref a9, .ref a10, .ref a11, .ref a12, .int i9, .ref a13, .int i10, .ref a14, .ref a15, .int i11, .ref a16, .ref a17, .ref a18, .ref a19, .int i12, .int i13, .int i14, .int i15, .int i16, .ref a20, .long j0, .ref a21, .ref a22, .ref a23, .ref a24])), (a1, .inl (cI, 544, .inl xF0)), (a8, .inl (cI, 600, .inl xF7))]) [0, 1, 2] rfl
        have hD9 := hD.sub (ws' := [(a0, .inr (12, [.int i0, .ref a1, .ref a2, .ref a3, .ref a4, .int i1, .ref a5, .int i2, .int i3, .int i4, .int i5, .int i6, .int i7, .int i8, .ref a6, .ref a7, .ref a8, .ref a9, .ref a10, .ref a11, .ref a12, .int i9, .ref a13, .int i10, .ref a14, .ref a15, .int i11, .ref a16, .ref a17, .ref a18, .ref a19, .int i12, .int i13, .int i14, .int i15, .int i16, .ref a20, .long j0, .ref a21, .ref a22, .ref a23, .ref a24])), (a1, .inl (cI, 544, .inl xF0)), (a8, .inl (cI, 600, .inl xF7))]) [0, 1, 2] (by decide) rfl
        rw [hQ]
        exact W.iret (v := w3_1) hx hb hr (fun t ht hW => ⟨⟨w3_1, (), rfl, ⟨(show (0 : Int) ≤ w3_1.toInt ∧ w3_1.toInt ≤ 2147483647 from ⟨by omega, i32_hi⟩), trivial⟩, (by rw [ht]; exact hP9), hD9⟩, hS.F ht⟩) hS.2.2 dX12_steadyAt_56
      · rw [ki_le] at c126
        refine lv_iload_n hx hb dX12_steadyAt_16 rfl (lv_at hl 3 rfl) ?_
        refine lv_aload_n hx hb dX12_steadyAt_17 rfl (lv_at hl 0 rfl) ?_
        refine va_get (D := (dC, dI)) (ci := 12) (v := .ref a8) (C := RX12) (T := TX12) (N := 42) hx hb hwd inlX12 hown hK hP 0 rfl rfl 16 (by decide) (hwd _ kr7_11) (fun _ h9 => h9) rfl dX12_steadyAt_18 ?_
        refine lv_bipush (v := 60) hx hb dX12_steadyAt_21 (by decide) ?_
        refine lv_iload_n hx hb dX12_steadyAt_23 rfl (lv_at hl 1 rfl) ?_
        refine lv_imul hx hb dX12_steadyAt_24 ?_
        refine lv_topi (fun x127 ex127 => ?_)
        have tx127 := ia_mull (a := (60 : Int32)) (b := p0) 60 (by decide) (by omega) (by omega)
        rw [← ex127] at tx127
        refine lv_aload_n hx hb dX12_steadyAt_25 rfl (lv_at hl 0 rfl) ?_
        refine lv_iload_n hx hb dX12_steadyAt_26 rfl (lv_at hl 2 rfl) ?_
        refine lv_iload hx hb dX12_steadyAt_27 (lv_at hl 4 rfl) ?_
        refine lv_isub hx hb dX12_steadyAt_29 ?_
        refine lv_topi (fun x128 ex128 => ?_)
        have hPc := hP.sub (ws' := [(a0, .inr (12, [.int i0, .ref a1, .ref a2, .ref a3, .ref a4, .int i1, .ref a5, .int i2, .int i3, .int i4, .int i5, .int i6, .int i7, .int i8, .ref a6, .ref a7, .ref a8, .ref a9, .ref a10, .ref a11, .ref a12, .int i9, .ref a13, .int i10, .ref a14, .ref a15, .int i11, .ref a16, .ref a17, .ref a18, .ref a19, .int i12, .int i13, .int i14, .int i15, .int i16, .ref a20, .long j0, .ref a21, .ref a22, .ref a23, .ref a24])), (a1, .inl (cI, 544, .inl xF0))]) [0, 1] rfl
        have hDc := hD.sub (ws' := [(a0, .inr (12, [.int i0, .ref a1, .ref a2, .ref a3, .ref a4, .int i1, .ref a5, .int i2, .int i3, .int i4, .int i5, .int i6, .int i7, .int i8, .ref a6, .ref a7, .ref a8, .ref a9, .ref a10, .ref a11, .ref a12, .int i9, .ref a13, .int i10, .ref a14, .ref a15, .int i11, .ref a16, .ref a17, .ref a18, .ref a19, .int i12, .int i13, .int i14, .int i15, .int i16, .ref a20, .long j0, .ref a21, .ref a22, .ref a23, .ref a24])), (a1, .inl (cI, 544, .inl xF0))]) [0, 1] (by decide) rfl
        have hFc := va_free (wc := [(a0, .inr (12, [.int i0, .ref a1, .ref a2, .ref a3, .ref a4, .int i1, .ref a5, .int i2, .int i3, .int i4, .int i5, .int i6, .int i7, .int i8, .ref a6, .ref a7, .ref a8, .ref a9, .ref a10, .ref a11, .ref a12, .int i9, .ref a13, .int i10, .ref a14, .ref a15, .int i11, .ref a16, .ref a17, .ref a18, .ref a19, .int i12, .int i13, .int i14, .int i15, .int i16, .ref a20, .long j0, .ref a21, .ref a22, .ref a23, .ref a24])), (a1, .inl (cI, 544, .inl xF0))]) hD hS hA [0, 1] rfl
        refine va_calli (va_runV (As := [.int x128]) (rest := [.int x127, .ref a8, .int w3_1]) ⟨hx, hb, hml, hown, hwd⟩ (s_X12_round l dC dI cI cZ cB cJ cM cG a0 a1 a2 a3 a4 a5 a6 a7 a8 a9 a10 a11 a12 a13 a14 a15 a16 a17 a18 a19 a20 a21 a22 a23 a24 i0 i1 i2 i3 i4 i5 i6 i7 i8 i9 i10 i11 i12 i13 i14 i15 i16 j0 xF0 x128 cp H.size (show (0 : Int) ≤ i1.toInt ∧ i1.toInt ≤ 1600 from ⟨by omega, by omega⟩) (show (0 : Int) ≤ i2.toInt ∧ i2.toInt ≤ 1600 from ⟨by omega, by omega⟩) (show (0 : Int) ≤ i3.toInt ∧ i3.toInt ≤ 1600 from ⟨by omega, by omega⟩) (show (0 : Int) ≤ i4.toInt ∧ i4.toInt ≤ 1600 from ⟨by omega, by omega⟩) (show (0 : Int) ≤ i5.toInt ∧ i5.toInt ≤ 6 from ⟨by omega, by omega⟩) (show (0 : Int) ≤ i7.toInt ∧ i7.toInt ≤ 3 from ⟨by omega, by omega⟩) (show (0 : Int) ≤ i11.toInt ∧ i11.toInt ≤ 59 from ⟨by omega, by omega⟩) (show WI cp xF0 from p_7) p_8 p_10) (cwV 1 hwd (gV kr27_14 kr27_15 kr27_16 kr1_5 kr27_17) rfl rfl rfl (by decide +kernel) ⟨Nat.le_of_ble_eq_true rfl, Nat.le_of_ble_eq_true rfl⟩) (kPreV hPc hK hDc (ci := 12) (q0 := 0) rfl rfl) rfl rfl hl.1 rfl (lv_room (Nat.le_of_ble_eq_true rfl)) dX12_steadyAt_30 ⟨Nat.le_of_ble_eq_true rfl, Nat.le_of_ble_eq_true rfl⟩) hS (fun q _ h => hFc q h) hFc (fun r129 u130 t H1 locs ht9 hvm hw hB hz1 hk1 hS => ?_)
        obtain ⟨hw131, -⟩ := hw
        have hw131 : 0 ≤ r129.toInt ∧ r129.toInt < wat xF0 1 ∧ r129.toInt ≤ 59 := hw131
        obtain ⟨hP1, hD1⟩ := hB
        rw [ht9] at hP1
        obtain ⟨hP, hD⟩ := va_join (wr := [(a8, .inl (cI, 600, .inl xF7))]) (w1 := [(a0, .inr (12, [.int i0, .ref a1, .ref a2, .ref a3, .ref a4, .int i1, .ref a5, .int i2, .int i3, .int i4, .int i5, .int i6, .int i7, .int i8, .ref a6, .ref a7, .ref a8, .ref a9, .ref a10, .ref a11, .ref a12, .int i9, .ref a13, .int i10, .ref a14, .ref a15, .int i11, .ref a16, .ref a17, .ref a18, .ref a19, .int i12, .int i13, .int i14, .int i15, .int i16, .ref a20, .long j0, .ref a21, .ref a22, .ref a23, .ref a24])), (a1, .inl (cI, 544, .inl xF0))]) hP hD [0, 1] [2] rfl rfl (by decide) (by decide) hk1 hFc hP1 hD1
        generalize H1 = H at hP hS ⊢
        have hP : va_P (dC, dI) vwCl [(a8, .inl (cI, 600, .inl xF7)), (a0, .inr (12, [.int i0, .ref a1, .ref a2, .ref a3, .ref a4, .int i1, .ref a5, .int i2, .int i3, .int i4, .int i5, .int i6, .int i7, .int i8, .ref a6, .ref a7, .ref a8, .ref a9, .ref a10, .ref a11, .ref a12, .int i9, .ref a13, .int i10, .ref a14, .ref a15, .int i11, .ref a16, .ref a17, .ref a18, .ref a19, .int i12, .int i13, .int i14, .int i15, .int i16, .ref a20, .long j0, .ref a21, .ref a22, .ref a23, .ref a24])), (a1, .inl (cI, 544, .inl xF0))] H := hP
        have hD : va_D A [(a8, .inl (cI, 600, .inl xF7)), (a0, .inr (12, [.int i0, .ref a1, .ref a2, .ref a3, .ref a4, .int i1, .ref a5, .int i2, .int i3, .int i4, .int i5, .int i6, .int i7, .int i8, .ref a6, .ref a7, .ref a8, .ref a9, .ref a10, .ref a11, .ref a12, .int i9, .ref a13, .int i10, .ref a14, .ref a15, .int i11, .ref a16, .ref a17, .ref a18, .ref a19, .int i12, .int i13, .int i14, .int i15, .int i16, .ref a20, .long j0, .ref a21, .ref a22, .ref a23, .ref a24])), (a1, .inl (cI, 544, .inl xF0))] := hD
        refine lv_iadd hx hb dX12_steadyAt_33 ?_
        refine lv_topi (fun x132 ex132 => ?_)
        have tx132 := ia_add (a := x127) (b := r129) (by omega) (by omega)
        rw [← ex132] at tx132
        have h133 : vp_in x132 600 := (vp_of (by omega) (by omega))
        refine va_iald hx hb hK hP 0 0 rfl rfl h133 dX12_steadyAt_34 ?_
        refine lv_topi (fun x134 ex134 => ?_)
        refine lv_iload hx hb dX12_steadyAt_35 (lv_at hl 4 rfl) ?_
        refine lv_aload_n hx hb dX12_steadyAt_37 rfl (lv_at hl 0 rfl) ?_
        refine lv_iload_n hx hb dX12_steadyAt_38 rfl (lv_at hl 1 rfl) ?_
        refine lv_iconst (v := 4) hx hb dX12_steadyAt_39 (by decide) ?_
        have hPc := hP.sub (ws' := [(a0, .inr (12, [.int i0, .ref a1, .ref a2, .ref a3, .ref a4, .int i1, .ref a5, .int i2, .int i3, .int i4, .int i5, .int i6, .int i7, .int i8, .ref a6, .ref a7, .ref a8, .ref a9, .ref a10, .ref a11, .ref a12, .int i9, .ref a13, .int i10, .ref a14, .ref a15, .int i11, .ref a16, .ref a17, .ref a18, .ref a19, .int i12, .int i13, .int i14, .int i15, .int i16, .ref a20, .long j0, .ref a21, .ref a22, .ref a23, .ref a24])), (a1, .inl (cI, 544, .inl xF0))]) [1, 2] rfl
        have hDc := hD.sub (ws' := [(a0, .inr (12, [.int i0, .ref a1, .ref a2, .ref a3, .ref a4, .int i1, .ref a5, .int i2, .int i3, .int i4, .int i5, .int i6, .int i7, .int i8, .ref a6, .ref a7, .ref a8, .ref a9, .ref a10, .ref a11, .ref a12, .int i9, .ref a13, .int i10, .ref a14, .ref a15, .int i11, .ref a16, .ref a17, .ref a18, .ref a19, .int i12, .int i13, .int i14, .int i15, .int i16, .ref a20, .long j0, .ref a21, .ref a22, .ref a23, .ref a24])), (a1, .inl (cI, 544, .inl xF0))]) [1, 2] (by decide) rfl
        have hFc := va_free (wc := [(a0, .inr (12, [.int i0, .ref a1, .ref a2, .ref a3, .ref a4, .int i1, .ref a5, .int i2, .int i3, .int i4, .int i5, .int i6, .int i7, .int i8, .ref a6, .ref a7, .ref a8, .ref a9, .ref a10, .ref a11, .ref a12, .int i9, .ref a13, .int i10, .ref a14, .ref a15, .int i11, .ref a16, .ref a17, .ref a18, .ref a19, .int i12, .int i13, .int i14, .int i15, .int i16, .ref a20, .long j0, .ref a21, .ref a22, .ref a23, .ref a24])), (a1, .inl (cI, 544, .inl xF0))]) hD hS hA [1, 2] rfl
        refine va_calli (va_runV (As := [.int p0, .int 4]) (rest := [.int w4_1, .int x134, .int w3_1]) ⟨hx, hb, hml, hown, hwd⟩ (s_X12_of l dC dI cI cZ cB cJ cM cG a0 a1 a2 a3 a4 a5 a6 a7 a8 a9 a10 a11 a12 a13 a14 a15 a16 a17 a18 a19 a20 a21 a22 a23 a24 i0 i1 i2 i3 i4 i5 i6 i7 i8 i9 i10 i11 i12 i13 i14 i15 i16 j0 xF0 p0 4 cp H.size (show (0 : Int) ≤ i1.toInt ∧ i1.toInt ≤ 1600 from ⟨by omega, by omega⟩) (show (0 : Int) ≤ i2.toInt ∧ i2.toInt ≤ 1600 from ⟨by omega, by omega⟩) (show (0 : Int) ≤ i3.toInt ∧ i3.toInt ≤ 1600 from ⟨by omega, by omega⟩) (show (0 : Int) ≤ i4.toInt ∧ i4.toInt ≤ 1600 from ⟨by omega, by omega⟩) (show (0 : Int) ≤ i5.toInt ∧ i5.toInt ≤ 6 from ⟨by omega, by omega⟩) (show (0 : Int) ≤ i7.toInt ∧ i7.toInt ≤ 3 from ⟨by omega, by omega⟩) (show (0 : Int) ≤ i11.toInt ∧ i11.toInt ≤ 59 from ⟨by omega, by omega⟩) (show WI cp xF0 from p_7) (show (0 : Int) ≤ p0.toInt ∧ p0.toInt ≤ 9 from ⟨by omega, by omega⟩) (show (0 : Int) ≤ (4 : Int32).toInt ∧ (4 : Int32).toInt ≤ 5 from ⟨by omega, by omega⟩) p_10) (cwV 2 hwd (gV kr27_18 kr27_19 kr27_20 kr1_5 kr27_21) rfl rfl rfl (by decide +kernel) ⟨Nat.le_of_ble_eq_true rfl, Nat.le_of_ble_eq_true rfl⟩) (kPreV hPc hK hDc (ci := 12) (q0 := 0) rfl rfl) rfl rfl hl.1 rfl (lv_room (Nat.le_of_ble_eq_true rfl)) dX12_steadyAt_40 ⟨Nat.le_of_ble_eq_true rfl, Nat.le_of_ble_eq_true rfl⟩) hS (fun q _ h => hFc q h) hFc (fun r135 u136 t H1 locs ht9 hvm hw hB hz1 hk1 hS => ?_)
        obtain ⟨hw137, -⟩ := hw
        have hw137 : r135.toInt = wfo xF0 4 p0.toInt := hw137
        have wf138 := p_7.2.2.1 p0.toInt (by omega) (by omega)
        unfold wfl at wf138
        obtain ⟨hP1, hD1⟩ := hB
        rw [ht9] at hP1
        obtain ⟨hP, hD⟩ := va_join (wr := [(a8, .inl (cI, 600, .inl xF7))]) (w1 := [(a0, .inr (12, [.int i0, .ref a1, .ref a2, .ref a3, .ref a4, .int i1, .ref a5, .int i2, .int i3, .int i4, .int i5, .int i6, .int i7, .int i8, .ref a6, .ref a7, .ref a8, .ref a9, .ref a10, .ref a11, .ref a12, .int i9, .ref a13, .int i10, .ref a14, .ref a15, .int i11, .ref a16, .ref a17, .ref a18, .ref a19, .int i12, .int i13, .int i14, .int i15, .int i16, .ref a20, .long j0, .ref a21, .ref a22, .ref a23, .ref a24])), (a1, .inl (cI, 544, .inl xF0))]) hP hD [1, 2] [0] rfl rfl (by decide) (by decide) hk1 hFc hP1 hD1
        generalize H1 = H at hP hS ⊢
        have hP : va_P (dC, dI) vwCl [(a8, .inl (cI, 600, .inl xF7)), (a0, .inr (12, [.int i0, .ref a1, .ref a2, .ref a3, .ref a4, .int i1, .ref a5, .int i2, .int i3, .int i4, .int i5, .int i6, .int i7, .int i8, .ref a6, .ref a7, .ref a8, .ref a9, .ref a10, .ref a11, .ref a12, .int i9, .ref a13, .int i10, .ref a14, .ref a15, .int i11, .ref a16, .ref a17, .ref a18, .ref a19, .int i12, .int i13, .int i14, .int i15, .int i16, .ref a20, .long j0, .ref a21, .ref a22, .ref a23, .ref a24])), (a1, .inl (cI, 544, .inl xF0))] H := hP
        have hD : va_D A [(a8, .inl (cI, 600, .inl xF7)), (a0, .inr (12, [.int i0, .ref a1, .ref a2, .ref a3, .ref a4, .int i1, .ref a5, .int i2, .int i3, .int i4, .int i5, .int i6, .int i7, .int i8, .ref a6, .ref a7, .ref a8, .ref a9, .ref a10, .ref a11, .ref a12, .int i9, .ref a13, .int i10, .ref a14, .ref a15, .int i11, .ref a16, .ref a17, .ref a18, .ref a19, .int i12, .int i13, .int i14, .int i15, .int i16, .ref a20, .long j0, .ref a21, .ref a22, .ref a23, .ref a24])), (a1, .inl (cI, 544, .inl xF0))] := hD
        refine lv_imul hx hb dX12_steadyAt_43 ?_
        refine lv_topi (fun x139 ex139 => ?_)
        refine lv_isub hx hb dX12_steadyAt_44 ?_
        refine lv_topi (fun x140 ex140 => ?_)
        refine va_mmax hx hb (by rw [hml]; exact hl.1.symm) hown (hwd _ kr27_5) (hwd _ kr19_3) (hwd _ kr19_4) (hwd _ kr19_5) (Nat.le_of_ble_eq_true rfl) (Nat.le_of_ble_eq_true rfl) (Nat.le_of_ble_eq_true rfl) (Nat.le_of_ble_eq_true rfl) dX12_steadyAt_45 ?_
        refine lv_topi (fun x141 ex141 => ?_)
        have tx141 := mx_max w3_1 x140
        rw [← ex141] at tx141
        refine lv_istore_n (lv' := [(3, .int x141), (0, .ref a0), (1, .int p0), (2, .int p1), (4, .int w4_1)]) hx hb dX12_steadyAt_48 rfl hl (by decide) rfl (fun ls hl => ?_)
        obtain ⟨x142, ex142⟩ : ∃ y : Int32, y = w4_1 + 1 := ⟨_, rfl⟩
        refine lv_iinc (v := x142) (lv' := [(4, .int x142), (3, .int x141), (0, .ref a0), (1, .int p0), (2, .int p1)]) hx hb dX12_steadyAt_49 hl (k := 4) rfl (by rw [ex142]; rfl) (by decide) rfl (fun ls hl => ?_)
        have tx142 := ia_add (a := w4_1) (b := (1 : Int32)) (by omega) (by omega)
        rw [← ex142] at tx142
        refine lv_goto (tgt := 5) hx hb dX12_steadyAt_52 (by decide) ?_
        exact ih1 _ _ ls x141 x142 (show (0 : Int) ≤ x141.toInt ∧ x141.toInt ≤ 2147483647 from ⟨by omega, i32_hi⟩) (show (0 : Int) ≤ x142.toInt ∧ x142.toInt ≤ 60 from ⟨by omega, by omega⟩) (by omega) (hP.sub (ws' := [(a0, .inr (12, [.int i0, .ref a1, .ref a2, .ref a3, .ref a4, .int i1, .ref a5, .int i2, .int i3, .int i4, .int i5, .int i6, .int i7, .int i8, .ref a6, .ref a7, .ref a8, .ref a9, .ref a10, .ref a11, .ref a12, .int i9, .ref a13, .int i10, .ref a14, .ref a15, .int i11, .ref a16, .ref a17, .ref a18, .ref a19, .int i12, .int i13, .int i14, .int i15, .int i16, .ref a20, .long j0, .ref a21, .ref a22, .ref a23, .ref a24])), (a1, .inl (cI, 544, .inl xF0)), (a8, .inl (cI, 600, .inl xF7))]) [1, 2, 0] rfl) (hD.sub (ws' := [(a0, .inr (12, [.int i0, .ref a1, .ref a2, .ref a3, .ref a4, .int i1, .ref a5, .int i2, .int i3, .int i4, .int i5, .int i6, .int i7, .int i8, .ref a6, .ref a7, .ref a8, .ref a9, .ref a10, .ref a11, .ref a12, .int i9, .ref a13, .int i10, .ref a14, .ref a15, .int i11, .ref a16, .ref a17, .ref a18, .ref a19, .int i12, .int i13, .int i14, .int i15, .int i16, .ref a20, .long j0, .ref a21, .ref a22, .ref a23, .ref a24])), (a1, .inl (cI, 544, .inl xF0)), (a8, .inl (cI, 600, .inl xF7))]) [1, 2, 0] (by decide) rfl) hS (lv_sub hl [2, 3, 4, 1, 0] rfl)
  exact lp1 _ _ _ ls (0) (0) (show (0 : Int) ≤ (0 : Int32).toInt ∧ (0 : Int32).toInt ≤ 2147483647 from ⟨by omega, i32_hi⟩) (show (0 : Int) ≤ (0 : Int32).toInt ∧ (0 : Int32).toInt ≤ 60 from ⟨by omega, by omega⟩) (Nat.lt_succ_self _) (hP.sub (ws' := [(a0, .inr (12, [.int i0, .ref a1, .ref a2, .ref a3, .ref a4, .int i1, .ref a5, .int i2, .int i3, .int i4, .int i5, .int i6, .int i7, .int i8, .ref a6, .ref a7, .ref a8, .ref a9, .ref a10, .ref a11, .ref a12, .int i9, .ref a13, .int i10, .ref a14, .ref a15, .int i11, .ref a16, .ref a17, .ref a18, .ref a19, .int i12, .int i13, .int i14, .int i15, .int i16, .ref a20, .long j0, .ref a21, .ref a22, .ref a23, .ref a24])), (a1, .inl (cI, 544, .inl xF0)), (a8, .inl (cI, 600, .inl xF7))]) [0, 1, 2] rfl) (hD.sub (ws' := [(a0, .inr (12, [.int i0, .ref a1, .ref a2, .ref a3, .ref a4, .int i1, .ref a5, .int i2, .int i3, .int i4, .int i5, .int i6, .int i7, .int i8, .ref a6, .ref a7, .ref a8, .ref a9, .ref a10, .ref a11, .ref a12, .int i9, .ref a13, .int i10, .ref a14, .ref a15, .int i11, .ref a16, .ref a17, .ref a18, .ref a19, .int i12, .int i13, .int i14, .int i15, .int i16, .ref a20, .long j0, .ref a21, .ref a22, .ref a23, .ref a24])), (a1, .inl (cI, 544, .inl xF0)), (a8, .inl (cI, 600, .inl xF7))]) [0, 1, 2] (by decide) rfl) hS (lv_sub hl [2, 3, 4, 1, 0] rfl)
theorem dX12_fillSteady_0 : decode cX12_fillSteady 0 = .ok (.aload_n 0, 1) := by decide +kernel
theorem dX12_fillSteady_1 : decode cX12_fillSteady 1 = .ok (.invokevirtual 292, 3) := by decide +kernel
theorem dX12_fillSteady_4 : decode cX12_fillSteady 4 = .ok (.iconst 0, 1) := by decide +kernel
theorem dX12_fillSteady_5 : decode cX12_fillSteady 5 = .ok (.istore_n 1, 1) := by decide +kernel
theorem dX12_fillSteady_6 : decode cX12_fillSteady 6 = .ok (.iload_n 1, 1) := by decide +kernel
theorem dX12_fillSteady_7 : decode cX12_fillSteady 7 = .ok (.aload_n 0, 1) := by decide +kernel
theorem dX12_fillSteady_8 : decode cX12_fillSteady 8 = .ok (.getfield 13, 3) := by decide +kernel
theorem dX12_fillSteady_11 : decode cX12_fillSteady 11 = .ok (.bipush 6, 2) := by decide +kernel
theorem dX12_fillSteady_13 : decode cX12_fillSteady 13 = .ok (.iaload, 1) := by decide +kernel
theorem dX12_fillSteady_14 : decode cX12_fillSteady 14 = .ok (.if_icmp .ge 78, 3) := by decide +kernel
theorem dX12_fillSteady_17 : decode cX12_fillSteady 17 = .ok (.iconst 0, 1) := by decide +kernel
theorem dX12_fillSteady_18 : decode cX12_fillSteady 18 = .ok (.istore_n 2, 1) := by decide +kernel
theorem dX12_fillSteady_19 : decode cX12_fillSteady 19 = .ok (.iload_n 2, 1) := by decide +kernel
theorem dX12_fillSteady_20 : decode cX12_fillSteady 20 = .ok (.aload_n 0, 1) := by decide +kernel
theorem dX12_fillSteady_21 : decode cX12_fillSteady 21 = .ok (.getfield 13, 3) := by decide +kernel
theorem dX12_fillSteady_24 : decode cX12_fillSteady 24 = .ok (.iconst 1, 1) := by decide +kernel
theorem dX12_fillSteady_25 : decode cX12_fillSteady 25 = .ok (.iaload, 1) := by decide +kernel
theorem dX12_fillSteady_26 : decode cX12_fillSteady 26 = .ok (.if_icmp .ge 60, 3) := by decide +kernel
theorem dX12_fillSteady_29 : decode cX12_fillSteady 29 = .ok (.aload_n 0, 1) := by decide +kernel
theorem dX12_fillSteady_30 : decode cX12_fillSteady 30 = .ok (.getfield 49, 3) := by decide +kernel
theorem dX12_fillSteady_33 : decode cX12_fillSteady 33 = .ok (.bipush 60, 2) := by decide +kernel
theorem dX12_fillSteady_35 : decode cX12_fillSteady 35 = .ok (.iload_n 1, 1) := by decide +kernel
theorem dX12_fillSteady_36 : decode cX12_fillSteady 36 = .ok (.imul, 1) := by decide +kernel
theorem dX12_fillSteady_37 : decode cX12_fillSteady 37 = .ok (.iload_n 2, 1) := by decide +kernel
theorem dX12_fillSteady_38 : decode cX12_fillSteady 38 = .ok (.iadd, 1) := by decide +kernel
theorem dX12_fillSteady_39 : decode cX12_fillSteady 39 = .ok (.aload_n 0, 1) := by decide +kernel
theorem dX12_fillSteady_40 : decode cX12_fillSteady 40 = .ok (.iload_n 1, 1) := by decide +kernel
theorem dX12_fillSteady_41 : decode cX12_fillSteady 41 = .ok (.iconst 0, 1) := by decide +kernel
theorem dX12_fillSteady_42 : decode cX12_fillSteady 42 = .ok (.invokevirtual 273, 3) := by decide +kernel
theorem dX12_fillSteady_45 : decode cX12_fillSteady 45 = .ok (.iconst 3, 1) := by decide +kernel
theorem dX12_fillSteady_46 : decode cX12_fillSteady 46 = .ok (.if_icmp .ne 27, 3) := by decide +kernel
theorem dX12_fillSteady_49 : decode cX12_fillSteady 49 = .ok (.aload_n 0, 1) := by decide +kernel
theorem dX12_fillSteady_50 : decode cX12_fillSteady 50 = .ok (.iload_n 1, 1) := by decide +kernel
theorem dX12_fillSteady_51 : decode cX12_fillSteady 51 = .ok (.aload_n 0, 1) := by decide +kernel
theorem dX12_fillSteady_52 : decode cX12_fillSteady 52 = .ok (.getfield 49, 3) := by decide +kernel
theorem dX12_fillSteady_55 : decode cX12_fillSteady 55 = .ok (.bipush 60, 2) := by decide +kernel
theorem dX12_fillSteady_57 : decode cX12_fillSteady 57 = .ok (.aload_n 0, 1) := by decide +kernel
theorem dX12_fillSteady_58 : decode cX12_fillSteady 58 = .ok (.iload_n 1, 1) := by decide +kernel
theorem dX12_fillSteady_59 : decode cX12_fillSteady 59 = .ok (.iconst 1, 1) := by decide +kernel
theorem dX12_fillSteady_60 : decode cX12_fillSteady 60 = .ok (.invokevirtual 273, 3) := by decide +kernel
theorem dX12_fillSteady_63 : decode cX12_fillSteady 63 = .ok (.imul, 1) := by decide +kernel
theorem dX12_fillSteady_64 : decode cX12_fillSteady 64 = .ok (.iload_n 2, 1) := by decide +kernel
theorem dX12_fillSteady_65 : decode cX12_fillSteady 65 = .ok (.iadd, 1) := by decide +kernel
theorem dX12_fillSteady_66 : decode cX12_fillSteady 66 = .ok (.iaload, 1) := by decide +kernel
theorem dX12_fillSteady_67 : decode cX12_fillSteady 67 = .ok (.invokevirtual 276, 3) := by decide +kernel
theorem dX12_fillSteady_70 : decode cX12_fillSteady 70 = .ok (.goto 9, 3) := by decide +kernel
theorem dX12_fillSteady_73 : decode cX12_fillSteady 73 = .ok (.aload_n 0, 1) := by decide +kernel
theorem dX12_fillSteady_74 : decode cX12_fillSteady 74 = .ok (.iload_n 1, 1) := by decide +kernel
theorem dX12_fillSteady_75 : decode cX12_fillSteady 75 = .ok (.iload_n 2, 1) := by decide +kernel
theorem dX12_fillSteady_76 : decode cX12_fillSteady 76 = .ok (.invokevirtual 330, 3) := by decide +kernel
theorem dX12_fillSteady_79 : decode cX12_fillSteady 79 = .ok (.iastore, 1) := by decide +kernel
theorem dX12_fillSteady_80 : decode cX12_fillSteady 80 = .ok (.iinc 2 1, 3) := by decide +kernel
theorem dX12_fillSteady_83 : decode cX12_fillSteady 83 = .ok (.goto (-64), 3) := by decide +kernel
theorem dX12_fillSteady_86 : decode cX12_fillSteady 86 = .ok (.iinc 1 1, 3) := by decide +kernel
theorem dX12_fillSteady_89 : decode cX12_fillSteady 89 = .ok (.goto (-83), 3) := by decide +kernel
theorem dX12_fillSteady_92 : decode cX12_fillSteady 92 = .ok (.return_, 1) := by decide +kernel
set_option maxHeartbeats 4000000 in
set_option maxRecDepth 100000 in
theorem s_X12_fillSteady (l : Launch) (dC : Nat → ClassId) (dI : Nat → Nat → Nat) (cI cZ cB cJ cM cG : ClassId) (a0 a1 a2 a3 a4 a5 a6 a7 a8 a9 a10 a11 a12 a13 a14 a15 a16 a17 a18 a19 a20 a21 a22 a23 a24 : Nat) (i0 i1 i2 i3 i4 i5 i6 i7 i8 i9 i10 i11 i12 i13 i14 i15 i16 : Int32) (j0 : Int64) (xF0 xF6 xF7 xF8 xF10 : Nat → Int32) (cp : Int) (sz : Nat) (p_0 : (0 : Int) ≤ i1.toInt ∧ i1.toInt ≤ 1600) (p_1 : (0 : Int) ≤ i2.toInt ∧ i2.toInt ≤ 1600) (p_2 : (0 : Int) ≤ i3.toInt ∧ i3.toInt ≤ 1600) (p_3 : (0 : Int) ≤ i4.toInt ∧ i4.toInt ≤ 1600) (p_4 : (0 : Int) ≤ i5.toInt ∧ i5.toInt ≤ 6) (p_5 : (0 : Int) ≤ i7.toInt ∧ i7.toInt ≤ 3) (p_6 : (0 : Int) ≤ i11.toInt ∧ i11.toInt ≤ 59) (p_7 : WI cp xF0) (p_8 : 0 ≤ cp ∧ cp ≤ 2000000000) : Met l yX12_fillSteady (kw yX12_fillSteady cX12_fillSteady 3 none) ({ frames := 5, cells := 0, slots := 0, locals := 118 } : Room) (va_Pc [.ref a0] (kPre dC dI [(cI, .int), (cZ, .boolean), (cB, .byte), (cJ, .long), (cM, .object RX2), (cG, .array .int)] [(a0, .inr (12, [.int i0, .ref a1, .ref a2, .ref a3, .ref a4, .int i1, .ref a5, .int i2, .int i3, .int i4, .int i5, .int i6, .int i7, .int i8, .ref a6, .ref a7, .ref a8, .ref a9, .ref a10, .ref a11, .ref a12, .int i9, .ref a13, .int i10, .ref a14, .ref a15, .int i11, .ref a16, .ref a17, .ref a18, .ref a19, .int i12, .int i13, .int i14, .int i15, .int i16, .ref a20, .long j0, .ref a21, .ref a22, .ref a23, .ref a24])), (a1, .inl (cI, 544, .inl xF0)), (a7, .inl (cI, 360, .inl xF6)), (a8, .inl (cI, 600, .inl xF7)), (a9, .inl (cI, 60, .inl xF8)), (a11, .inl (cI, 600, .inl xF10))] sz)) (va_Qv (fun (u9 : (Nat → Int32) × (Nat → Nat → Int32) × (Nat → Nat → Int64)) => True) (fun u9 t => va_P (dC, dI) vwCl [(a0, .inr (12, [.int i0, .ref a1, .ref a2, .ref a3, .ref a4, .int i1, .ref a5, .int i2, .int i3, .int i4, .int i5, .int i6, .int i7, .int i8, .ref a6, .ref a7, .ref a8, .ref a9, .ref a10, .ref a11, .ref a12, .int i9, .ref a13, .int i10, .ref a14, .ref a15, .int i11, .ref a16, .ref a17, .ref a18, .ref a19, .int i12, .int i13, .int i14, .int i15, .int i16, .ref a20, .long j0, .ref a21, .ref a22, .ref a23, .ref a24])), (a1, .inl (cI, 544, .inl xF0)), (a7, .inl (cI, 360, .inl (u9.2.1 0))), (a8, .inl (cI, 600, .inl (u9.2.1 1))), (a9, .inl (cI, 60, .inl (u9.2.1 2))), (a11, .inl (cI, 600, .inl (u9.2.1 3)))] t.heap ∧ va_D (va_A [(a0, .inr (12, [.int i0, .ref a1, .ref a2, .ref a3, .ref a4, .int i1, .ref a5, .int i2, .int i3, .int i4, .int i5, .int i6, .int i7, .int i8, .ref a6, .ref a7, .ref a8, .ref a9, .ref a10, .ref a11, .ref a12, .int i9, .ref a13, .int i10, .ref a14, .ref a15, .int i11, .ref a16, .ref a17, .ref a18, .ref a19, .int i12, .int i13, .int i14, .int i15, .int i16, .ref a20, .long j0, .ref a21, .ref a22, .ref a23, .ref a24])), (a1, .inl (cI, 544, .inl xF0)), (a7, .inl (cI, 360, .inl xF6)), (a8, .inl (cI, 600, .inl xF7)), (a9, .inl (cI, 60, .inl xF8)), (a11, .inl (cI, 600, .inl xF10))] sz) [(a0, .inr (12, [.int i0, .ref a1, .ref a2, .ref a3, .ref a4, .int i1, .ref a5, .int i2, .int i3, .int i4, .int i5, .int i6, .int i7, .int i8, .ref a6, .ref a7, .ref a8, .ref a9, .ref a10, .ref a11, .ref a12, .int i9, .ref a13, .int i10, .ref a14, .ref a15, .int i11, .ref a16, .ref a17, .ref a18, .ref a19, .int i12, .int i13, .int i14, .int i15, .int i16, .ref a20, .long j0, .ref a21, .ref a22, .ref a23, .ref a24])), (a1, .inl (cI, 544, .inl xF0)), (a7, .inl (cI, 360, .inl (u9.2.1 0))), (a8, .inl (cI, 600, .inl (u9.2.1 1))), (a9, .inl (cI, 60, .inl (u9.2.1 2))), (a11, .inl (cI, 600, .inl (u9.2.1 3)))]) (va_A [(a0, .inr (12, [.int i0, .ref a1, .ref a2, .ref a3, .ref a4, .int i1, .ref a5, .int i2, .int i3, .int i4, .int i5, .int i6, .int i7, .int i8, .ref a6, .ref a7, .ref a8, .ref a9, .ref a10, .ref a11, .ref a12, .int i9, .ref a13, .int i10, .ref a14, .ref a15, .int i11, .ref a16, .ref a17, .ref a18, .ref a19, .int i12, .int i13, .int i14, .int i15, .int i16, .ref a20, .long j0, .ref a21, .ref a22, .ref a23, .ref a24])), (a1, .inl (cI, 544, .inl xF0)), (a7, .inl (cI, 360, .inl xF6)), (a8, .inl (cI, 600, .inl xF7)), (a9, .inl (cI, 60, .inl xF8)), (a11, .inl (cI, 600, .inl xF10))] sz)) 0 0 (va_A [(a0, .inr (12, [.int i0, .ref a1, .ref a2, .ref a3, .ref a4, .int i1, .ref a5, .int i2, .int i3, .int i4, .int i5, .int i6, .int i7, .int i8, .ref a6, .ref a7, .ref a8, .ref a9, .ref a10, .ref a11, .ref a12, .int i9, .ref a13, .int i10, .ref a14, .ref a15, .int i11, .ref a16, .ref a17, .ref a18, .ref a19, .int i12, .int i13, .int i14, .int i15, .int i16, .ref a20, .long j0, .ref a21, .ref a22, .ref a23, .ref a24])), (a1, .inl (cI, 544, .inl xF0)), (a7, .inl (cI, 360, .inl xF6)), (a8, .inl (cI, 600, .inl xF7)), (a9, .inl (cI, 60, .inl xF8)), (a11, .inl (cI, 600, .inl xF10))] sz) := by
  refine kEnter (by decide) (Nat.le_of_ble_eq_true rfl) ?_
  intro p e s m below meth c ls hx hb hr hml hown hlocks hin hwd hsz hP hK hD hl
  subst hsz
  generalize hAe : va_A [(a0, .inr (12, [.int i0, .ref a1, .ref a2, .ref a3, .ref a4, .int i1, .ref a5, .int i2, .int i3, .int i4, .int i5, .int i6, .int i7, .int i8, .ref a6, .ref a7, .ref a8, .ref a9, .ref a10, .ref a11, .ref a12, .int i9, .ref a13, .int i10, .ref a14, .ref a15, .int i11, .ref a16, .ref a17, .ref a18, .ref a19, .int i12, .int i13, .int i14, .int i15, .int i16, .ref a20, .long j0, .ref a21, .ref a22, .ref a23, .ref a24])), (a1, .inl (cI, 544, .inl xF0)), (a7, .inl (cI, 360, .inl xF6)), (a8, .inl (cI, 600, .inl xF7)), (a9, .inl (cI, 60, .inl xF8)), (a11, .inl (cI, 600, .inl xF10))] s.heap.size = A at hD ⊢
  have hA : ∀ q : Nat, s.heap.size ≤ q → A q := fun q h => by rw [← hAe]; exact Or.inr h
  have hS : va_S A s.heap s.heap [] := va_S.rf
  have hl : lv_has ls 3 [(0, .ref a0)] := hl
  obtain ⟨Q, hQ⟩ : ∃ Q, Q = MQ below (va_Qv (fun (u9 : (Nat → Int32) × (Nat → Nat → Int32) × (Nat → Nat → Int64)) => True) (fun u9 t => va_P (dC, dI) vwCl [(a0, .inr (12, [.int i0, .ref a1, .ref a2, .ref a3, .ref a4, .int i1, .ref a5, .int i2, .int i3, .int i4, .int i5, .int i6, .int i7, .int i8, .ref a6, .ref a7, .ref a8, .ref a9, .ref a10, .ref a11, .ref a12, .int i9, .ref a13, .int i10, .ref a14, .ref a15, .int i11, .ref a16, .ref a17, .ref a18, .ref a19, .int i12, .int i13, .int i14, .int i15, .int i16, .ref a20, .long j0, .ref a21, .ref a22, .ref a23, .ref a24])), (a1, .inl (cI, 544, .inl xF0)), (a7, .inl (cI, 360, .inl (u9.2.1 0))), (a8, .inl (cI, 600, .inl (u9.2.1 1))), (a9, .inl (cI, 60, .inl (u9.2.1 2))), (a11, .inl (cI, 600, .inl (u9.2.1 3)))] t.heap ∧ va_D A [(a0, .inr (12, [.int i0, .ref a1, .ref a2, .ref a3, .ref a4, .int i1, .ref a5, .int i2, .int i3, .int i4, .int i5, .int i6, .int i7, .int i8, .ref a6, .ref a7, .ref a8, .ref a9, .ref a10, .ref a11, .ref a12, .int i9, .ref a13, .int i10, .ref a14, .ref a15, .int i11, .ref a16, .ref a17, .ref a18, .ref a19, .int i12, .int i13, .int i14, .int i15, .int i16, .ref a20, .long j0, .ref a21, .ref a22, .ref a23, .ref a24])), (a1, .inl (cI, 544, .inl xF0)), (a7, .inl (cI, 360, .inl (u9.2.1 0))), (a8, .inl (cI, 600, .inl (u9.2.1 1))), (a9, .inl (cI, 60, .inl (u9.2.1 2))), (a11, .inl (cI, 600, .inl (u9.2.1 3)))]) A) ([.ref a0] : List Value).toArray s 0 0 A := ⟨_, rfl⟩
  rw [← hQ]
  have k0 : (0 : Int32).toInt = 0 := by decide
  have k1 : (1 : Int32).toInt = 1 := by decide
  have k3 : (3 : Int32).toInt = 3 := by decide
  have k6 : (6 : Int32).toInt = 6 := by decide
  have k60 : (60 : Int32).toInt = 60 := by decide
  refine lv_aload_n hx hb dX12_fillSteady_0 rfl (lv_at hl 0 rfl) ?_
  have hPc := hP.sub (ws' := [(a0, .inr (12, [.int i0, .ref a1, .ref a2, .ref a3, .ref a4, .int i1, .ref a5, .int i2, .int i3, .int i4, .int i5, .int i6, .int i7, .int i8, .ref a6, .ref a7, .ref a8, .ref a9, .ref a10, .ref a11, .ref a12, .int i9, .ref a13, .int i10, .ref a14, .ref a15, .int i11, .ref a16, .ref a17, .ref a18, .ref a19, .int i12, .int i13, .int i14, .int i15, .int i16, .ref a20, .long j0, .ref a21, .ref a22, .ref a23, .ref a24])), (a1, .inl (cI, 544, .inl xF0)), (a7, .inl (cI, 360, .inl xF6)), (a8, .inl (cI, 600, .inl xF7)), (a9, .inl (cI, 60, .inl xF8))]) [0, 1, 2, 3, 4] rfl
  have hDc := hD.sub (ws' := [(a0, .inr (12, [.int i0, .ref a1, .ref a2, .ref a3, .ref a4, .int i1, .ref a5, .int i2, .int i3, .int i4, .int i5, .int i6, .int i7, .int i8, .ref a6, .ref a7, .ref a8, .ref a9, .ref a10, .ref a11, .ref a12, .int i9, .ref a13, .int i10, .ref a14, .ref a15, .int i11, .ref a16, .ref a17, .ref a18, .ref a19, .int i12, .int i13, .int i14, .int i15, .int i16, .ref a20, .long j0, .ref a21, .ref a22, .ref a23, .ref a24])), (a1, .inl (cI, 544, .inl xF0)), (a7, .inl (cI, 360, .inl xF6)), (a8, .inl (cI, 600, .inl xF7)), (a9, .inl (cI, 60, .inl xF8))]) [0, 1, 2, 3, 4] (by decide) rfl
  have hFc := va_free (wc := [(a0, .inr (12, [.int i0, .ref a1, .ref a2, .ref a3, .ref a4, .int i1, .ref a5, .int i2, .int i3, .int i4, .int i5, .int i6, .int i7, .int i8, .ref a6, .ref a7, .ref a8, .ref a9, .ref a10, .ref a11, .ref a12, .int i9, .ref a13, .int i10, .ref a14, .ref a15, .int i11, .ref a16, .ref a17, .ref a18, .ref a19, .int i12, .int i13, .int i14, .int i15, .int i16, .ref a20, .long j0, .ref a21, .ref a22, .ref a23, .ref a24])), (a1, .inl (cI, 544, .inl xF0)), (a7, .inl (cI, 360, .inl xF6)), (a8, .inl (cI, 600, .inl xF7)), (a9, .inl (cI, 60, .inl xF8))]) hD hS hA [0, 1, 2, 3, 4] rfl
  refine va_callv (va_runV (As := []) (rest := []) ⟨hx, hb, hml, hown, hwd⟩ (s_X12_fillLifts l dC dI cI cZ cB cJ cM cG a0 a1 a2 a3 a4 a5 a6 a7 a8 a9 a10 a11 a12 a13 a14 a15 a16 a17 a18 a19 a20 a21 a22 a23 a24 i0 i1 i2 i3 i4 i5 i6 i7 i8 i9 i10 i11 i12 i13 i14 i15 i16 j0 xF0 xF6 xF7 xF8 cp s.heap.size (show (0 : Int) ≤ i1.toInt ∧ i1.toInt ≤ 1600 from ⟨by omega, by omega⟩) (show (0 : Int) ≤ i2.toInt ∧ i2.toInt ≤ 1600 from ⟨by omega, by omega⟩) (show (0 : Int) ≤ i3.toInt ∧ i3.toInt ≤ 1600 from ⟨by omega, by omega⟩) (show (0 : Int) ≤ i4.toInt ∧ i4.toInt ≤ 1600 from ⟨by omega, by omega⟩) (show (0 : Int) ≤ i5.toInt ∧ i5.toInt ≤ 6 from ⟨by omega, by omega⟩) (show (0 : Int) ≤ i7.toInt ∧ i7.toInt ≤ 3 from ⟨by omega, by omega⟩) (show (0 : Int) ≤ i11.toInt ∧ i11.toInt ≤ 59 from ⟨by omega, by omega⟩) (show WI cp xF0 from p_7) p_8) (cwV 0 hwd (gV kr26_17 kr26_18 kr26_19 kr1_5 kr26_20) rfl rfl rfl (by decide +kernel) ⟨Nat.le_of_ble_eq_true rfl, Nat.le_of_ble_eq_true rfl⟩) (kPreV hPc hK hDc (ci := 12) (q0 := 0) rfl rfl) rfl rfl hl.1 rfl (lv_room (Nat.le_of_ble_eq_true rfl)) dX12_fillSteady_1 ⟨Nat.le_of_ble_eq_true rfl, Nat.le_of_ble_eq_true rfl⟩) hS (fun q _ h => hFc q h) hFc (fun u2 t H1 locs ht9 hvm hw hB hz1 hk1 hS => ?_)
  obtain ⟨u3, U3, V3⟩ := u2
  obtain ⟨hP1, hD1⟩ := hB
  rw [ht9] at hP1
  obtain ⟨hP, hD⟩ := va_join (wr := [(a11, .inl (cI, 600, .inl xF10))]) (w1 := [(a0, .inr (12, [.int i0, .ref a1, .ref a2, .ref a3, .ref a4, .int i1, .ref a5, .int i2, .int i3, .int i4, .int i5, .int i6, .int i7, .int i8, .ref a6, .ref a7, .ref a8, .ref a9, .ref a10, .ref a11, .ref a12, .int i9, .ref a13, .int i10, .ref a14, .ref a15, .int i11, .ref a16, .ref a17, .ref a18, .ref a19, .int i12, .int i13, .int i14, .int i15, .int i16, .ref a20, .long j0, .ref a21, .ref a22, .ref a23, .ref a24])), (a1, .inl (cI, 544, .inl xF0)), (a7, .inl (cI, 360, .inl (U3 0))), (a8, .inl (cI, 600, .inl (U3 1))), (a9, .inl (cI, 60, .inl (U3 2)))]) hP hD [0, 1, 2, 3, 4] [5] rfl rfl (by decide) (by decide) hk1 hFc hP1 hD1
  generalize H1 = H at hP hS ⊢
  have hP : va_P (dC, dI) vwCl [(a11, .inl (cI, 600, .inl xF10)), (a0, .inr (12, [.int i0, .ref a1, .ref a2, .ref a3, .ref a4, .int i1, .ref a5, .int i2, .int i3, .int i4, .int i5, .int i6, .int i7, .int i8, .ref a6, .ref a7, .ref a8, .ref a9, .ref a10, .ref a11, .ref a12, .int i9, .ref a13, .int i10, .ref a14, .ref a15, .int i11, .ref a16, .ref a17, .ref a18, .ref a19, .int i12, .int i13, .int i14, .int i15, .int i16, .ref a20, .long j0, .ref a21, .ref a22, .ref a23, .ref a24])), (a1, .inl (cI, 544, .inl xF0)), (a7, .inl (cI, 360, .inl (U3 0))), (a8, .inl (cI, 600, .inl (U3 1))), (a9, .inl (cI, 60, .inl (U3 2)))] H := hP
  have hD : va_D A [(a11, .inl (cI, 600, .inl xF10)), (a0, .inr (12, [.int i0, .ref a1, .ref a2, .ref a3, .ref a4, .int i1, .ref a5, .int i2, .int i3, .int i4, .int i5, .int i6, .int i7, .int i8, .ref a6, .ref a7, .ref a8, .ref a9, .ref a10, .ref a11, .ref a12, .int i9, .ref a13, .int i10, .ref a14, .ref a15, .int i11, .ref a16, .ref a17, .ref a18, .ref a19, .int i12, .int i13, .int i14, .int i15, .int i16, .ref a20, .long j0, .ref a21, .ref a22, .ref a23, .ref a24])), (a1, .inl (cI, 544, .inl xF0)), (a7, .inl (cI, 360, .inl (U3 0))), (a8, .inl (cI, 600, .inl (U3 1))), (a9, .inl (cI, 60, .inl (U3 2)))] := hD
  refine lv_iconst (v := 0) hx hb dX12_fillSteady_4 (by decide) ?_
  refine lv_istore_n (lv' := [(1, .int 0), (0, .ref a0)]) hx hb dX12_fillSteady_5 rfl hl (by decide) rfl (fun ls hl => ?_)
  have lp1 : ∀ (d : Nat), ∀ (H : Heap) (locs : List Loc) (ls : Array Slot) (w1_1 : Int32) (g1_1 : Nat → Int32), ((0 : Int) ≤ w1_1.toInt ∧ w1_1.toInt ≤ 10) → (10 - w1_1.toInt).toNat < d → va_P (dC, dI) vwCl [(a11, .inl (cI, 600, .inl g1_1)), (a0, .inr (12, [.int i0, .ref a1, .ref a2, .ref a3, .ref a4, .int i1, .ref a5, .int i2, .int i3, .int i4, .int i5, .int i6, .int i7, .int i8, .ref a6, .ref a7, .ref a8, .ref a9, .ref a10, .ref a11, .ref a12, .int i9, .ref a13, .int i10, .ref a14, .ref a15, .int i11, .ref a16, .ref a17, .ref a18, .ref a19, .int i12, .int i13, .int i14, .int i15, .int i16, .ref a20, .long j0, .ref a21, .ref a22, .ref a23, .ref a24])), (a1, .inl (cI, 544, .inl xF0)), (a7, .inl (cI, 360, .inl (U3 0))), (a8, .inl (cI, 600, .inl (U3 1))), (a9, .inl (cI, 60, .inl (U3 2)))] H → va_D A [(a11, .inl (cI, 600, .inl g1_1)), (a0, .inr (12, [.int i0, .ref a1, .ref a2, .ref a3, .ref a4, .int i1, .ref a5, .int i2, .int i3, .int i4, .int i5, .int i6, .int i7, .int i8, .ref a6, .ref a7, .ref a8, .ref a9, .ref a10, .ref a11, .ref a12, .int i9, .ref a13, .int i10, .ref a14, .ref a15, .int i11, .ref a16, .ref a17, .ref a18, .ref a19, .int i12, .int i13, .int i14, .int i15, .int i16, .ref a20, .long j0, .ref a21, .ref a22, .ref a23, .ref a24])), (a1, .inl (cI, 544, .inl xF0)), (a7, .inl (cI, 360, .inl (U3 0))), (a8, .inl (cI, 600, .inl (U3 1))), (a9, .inl (cI, 60, .inl (U3 2)))] → va_S A s.heap H locs → lv_has ls 3 [(0, .ref a0), (1, .int w1_1)] → W p l e ({ frames := 5, cells := 0, slots := 0, locals := 118 } : Room) s m ([.ref a0] : List Value).toArray below meth c H locs 0 0 Q (F0 m 6 ls []) := by
    intro d
    induction d with
    | zero =>
      intro H locs ls w1_1 g1_1 hr_w1_1 hm hP hD hS hl
      omega
    | succ d ih1 =>
      intro H locs ls w1_1 g1_1 hr_w1_1 hm hP hD hS hl
      refine lv_iload_n hx hb dX12_fillSteady_6 rfl (lv_at hl 1 rfl) ?_
      refine lv_aload_n hx hb dX12_fillSteady_7 rfl (lv_at hl 0 rfl) ?_
      refine va_get (D := (dC, dI)) (ci := 12) (v := .ref a1) (C := RX12) (T := TX12) (N := 42) hx hb hwd inlX12 hown hK hP 1 rfl rfl 1 (by decide) (hwd _ kr7_3) (fun _ h9 => h9) rfl dX12_fillSteady_8 ?_
      refine lv_bipush (v := 6) hx hb dX12_fillSteady_11 (by decide) ?_
      have h979 : vp_in (6 : Int32) 544 := (vin (by decide))
      refine va_iald hx hb hK hP 2 0 rfl rfl h979 dX12_fillSteady_13 ?_
      refine lv_topi (fun x980 ex980 => ?_)
      have ix980 := wat_lit (k := 6) ex980 (by decide)
      have wh981 : whd cp xF0 := p_7.1
      unfold whd at wh981
      refine lv_icmp_ge (tgt := 92) hx hb dX12_fillSteady_14 (by decide) (fun c982 => ?_) (fun c982 => ?_)
      · rw [ki_le] at c982
        have hP9 := hP.sub (ws' := [(a0, .inr (12, [.int i0, .ref a1, .ref a2, .ref a3, .ref a4, .int i1, .ref a5, .int i2, .int i3, .int i4, .int i5, .int i6, .int i7, .int i8, .ref a6, .ref a7, .ref a8, .ref a9, .ref a10, .ref a11, .ref a12, .int i9, .ref a13, .int i10, .ref a14, .ref a15, .int i11, .ref a16, .ref a17, .ref a18, .ref a19, .int i12, .int i13, .int i14, .int i15, .int i16, .ref a20, .long j0, .ref a21, .ref a22, .ref a23, .ref a24])), (a1, .inl (cI, 544, .inl xF0)), (a7, .inl (cI, 360, .inl (U3 0))), (a8, .inl (cI, 600, .inl (U3 1))), (a9, .inl (cI, 60, .inl (U3 2))), (a11, .inl (cI, 600, .inl g1_1))]) [1, 2, 3, 4, 5, 0] rfl
        have hD9 := hD.sub (ws' := [(a0, .inr (12, [.int i0, .ref a1, .ref a2, .ref a3, .ref a4, .int i1, .ref a5, .int i2, .int i3, .int i4, .int i5, .int i6, .int i7, .int i8, .ref a6, .ref a7, .ref a8, .ref a9, .ref a10, .ref a11, .ref a12, .int i9, .ref a13, .int i10, .ref a14, .ref a15, .int i11, .ref a16, .ref a17, .ref a18, .ref a19, .int i12, .int i13, .int i14, .int i15, .int i16, .ref a20, .long j0, .ref a21, .ref a22, .ref a23, .ref a24])), (a1, .inl (cI, 544, .inl xF0)), (a7, .inl (cI, 360, .inl (U3 0))), (a8, .inl (cI, 600, .inl (U3 1))), (a9, .inl (cI, 60, .inl (U3 2))), (a11, .inl (cI, 600, .inl g1_1))]) [1, 2, 3, 4, 5, 0] (by decide) rfl
        rw [hQ]
        exact W.vret hx hb hr (fun t ht hW => ⟨⟨(pickG 0 [], pickG (fun _ => 0) [(U3 0), (U3 1), (U3 2), g1_1], pickG (fun _ => 0) []), rfl, trivial, (by rw [ht]; exact hP9), hD9⟩, hS.F ht⟩) hS.2.2 dX12_fillSteady_92
      · rw [ki_le] at c982
        refine lv_iconst (v := 0) hx hb dX12_fillSteady_17 (by decide) ?_
        refine lv_istore_n (lv' := [(2, .int 0), (0, .ref a0), (1, .int w1_1)]) hx hb dX12_fillSteady_18 rfl hl (by decide) rfl (fun ls hl => ?_)
        have lp7 : ∀ (d : Nat), ∀ (H : Heap) (locs : List Loc) (ls : Array Slot) (w2_7 : Int32) (g1_7 : Nat → Int32), ((0 : Int) ≤ w2_7.toInt ∧ w2_7.toInt ≤ 60) → (60 - w2_7.toInt).toNat < d → va_P (dC, dI) vwCl [(a11, .inl (cI, 600, .inl g1_7)), (a0, .inr (12, [.int i0, .ref a1, .ref a2, .ref a3, .ref a4, .int i1, .ref a5, .int i2, .int i3, .int i4, .int i5, .int i6, .int i7, .int i8, .ref a6, .ref a7, .ref a8, .ref a9, .ref a10, .ref a11, .ref a12, .int i9, .ref a13, .int i10, .ref a14, .ref a15, .int i11, .ref a16, .ref a17, .ref a18, .ref a19, .int i12, .int i13, .int i14, .int i15, .int i16, .ref a20, .long j0, .ref a21, .ref a22, .ref a23, .ref a24])), (a1, .inl (cI, 544, .inl xF0)), (a7, .inl (cI, 360, .inl (U3 0))), (a8, .inl (cI, 600, .inl (U3 1))), (a9, .inl (cI, 60, .inl (U3 2)))] H → va_D A [(a11, .inl (cI, 600, .inl g1_7)), (a0, .inr (12, [.int i0, .ref a1, .ref a2, .ref a3, .ref a4, .int i1, .ref a5, .int i2, .int i3, .int i4, .int i5, .int i6, .int i7, .int i8, .ref a6, .ref a7, .ref a8, .ref a9, .ref a10, .ref a11, .ref a12, .int i9, .ref a13, .int i10, .ref a14, .ref a15, .int i11, .ref a16, .ref a17, .ref a18, .ref a19, .int i12, .int i13, .int i14, .int i15, .int i16, .ref a20, .long j0, .ref a21, .ref a22, .ref a23, .ref a24])), (a1, .inl (cI, 544, .inl xF0)), (a7, .inl (cI, 360, .inl (U3 0))), (a8, .inl (cI, 600, .inl (U3 1))), (a9, .inl (cI, 60, .inl (U3 2)))] → va_S A s.heap H locs → lv_has ls 3 [(0, .ref a0), (1, .int w1_1), (2, .int w2_7)] → W p l e ({ frames := 5, cells := 0, slots := 0, locals := 118 } : Room) s m ([.ref a0] : List Value).toArray below meth c H locs 0 0 Q (F0 m 19 ls []) := by
          intro d
          induction d with
          | zero =>
            intro H locs ls w2_7 g1_7 hr_w2_7 hm hP hD hS hl
            omega
          | succ d ih7 =>
            intro H locs ls w2_7 g1_7 hr_w2_7 hm hP hD hS hl
            refine lv_iload_n hx hb dX12_fillSteady_19 rfl (lv_at hl 2 rfl) ?_
            refine lv_aload_n hx hb dX12_fillSteady_20 rfl (lv_at hl 0 rfl) ?_
            refine va_get (D := (dC, dI)) (ci := 12) (v := .ref a1) (C := RX12) (T := TX12) (N := 42) hx hb hwd inlX12 hown hK hP 1 rfl rfl 1 (by decide) (hwd _ kr7_3) (fun _ h9 => h9) rfl dX12_fillSteady_21 ?_
            refine lv_iconst (v := 1) hx hb dX12_fillSteady_24 (by decide) ?_
            have h1149 : vp_in (1 : Int32) 544 := (vin (by decide))
            refine va_iald hx hb hK hP 2 0 rfl rfl h1149 dX12_fillSteady_25 ?_
            refine lv_topi (fun x1150 ex1150 => ?_)
            have ix1150 := wat_lit (k := 1) ex1150 (by decide)
            refine lv_icmp_ge (tgt := 86) hx hb dX12_fillSteady_26 (by decide) (fun c1151 => ?_) (fun c1151 => ?_)
            · rw [ki_le] at c1151
              obtain ⟨x1152, ex1152⟩ : ∃ y : Int32, y = w1_1 + 1 := ⟨_, rfl⟩
              refine lv_iinc (v := x1152) (lv' := [(1, .int x1152), (0, .ref a0), (2, .int w2_7)]) hx hb dX12_fillSteady_86 hl (k := 1) rfl (by rw [ex1152]; rfl) (by decide) rfl (fun ls hl => ?_)
              have tx1152 := ia_add (a := w1_1) (b := (1 : Int32)) (by omega) (by omega)
              rw [← ex1152] at tx1152
              refine lv_goto (tgt := 6) hx hb dX12_fillSteady_89 (by decide) ?_
              exact ih1 _ _ ls x1152 g1_7 (show (0 : Int) ≤ x1152.toInt ∧ x1152.toInt ≤ 10 from ⟨by omega, by omega⟩) (by omega) (hP.sub (ws' := [(a11, .inl (cI, 600, .inl g1_7)), (a0, .inr (12, [.int i0, .ref a1, .ref a2, .ref a3, .ref a4, .int i1, .ref a5, .int i2, .int i3, .int i4, .int i5, .int i6, .int i7, .int i8, .ref a6, .ref a7, .ref a8, .ref a9, .ref a10, .ref a11, .ref a12, .int i9, .ref a13, .int i10, .ref a14, .ref a15, .int i11, .ref a16, .ref a17, .ref a18, .ref a19, .int i12, .int i13, .int i14, .int i15, .int i16, .ref a20, .long j0, .ref a21, .ref a22, .ref a23, .ref a24])), (a1, .inl (cI, 544, .inl xF0)), (a7, .inl (cI, 360, .inl (U3 0))), (a8, .inl (cI, 600, .inl (U3 1))), (a9, .inl (cI, 60, .inl (U3 2)))]) [0, 1, 2, 3, 4, 5] rfl) (hD.sub (ws' := [(a11, .inl (cI, 600, .inl g1_7)), (a0, .inr (12, [.int i0, .ref a1, .ref a2, .ref a3, .ref a4, .int i1, .ref a5, .int i2, .int i3, .int i4, .int i5, .int i6, .int i7, .int i8, .ref a6, .ref a7, .ref a8, .ref a9, .ref a10, .ref a11, .ref a12, .int i9, .ref a13, .int i10, .ref a14, .ref a15, .int i11, .ref a16, .ref a17, .ref a18, .ref a19, .int i12, .int i13, .int i14, .int i15, .int i16, .ref a20, .long j0, .ref a21, .ref a22, .ref a23, .ref a24])), (a1, .inl (cI, 544, .inl xF0)), (a7, .inl (cI, 360, .inl (U3 0))), (a8, .inl (cI, 600, .inl (U3 1))), (a9, .inl (cI, 60, .inl (U3 2)))]) [0, 1, 2, 3, 4, 5] (by decide) rfl) hS (lv_sub hl [1, 0] rfl)
            · rw [ki_le] at c1151
              refine lv_aload_n hx hb dX12_fillSteady_29 rfl (lv_at hl 0 rfl) ?_
              refine va_get (D := (dC, dI)) (ci := 12) (v := .ref a11) (C := RX12) (T := TX12) (N := 42) hx hb hwd inlX12 hown hK hP 1 rfl rfl 19 (by decide) (hwd _ kr7_14) (fun _ h9 => h9) rfl dX12_fillSteady_30 ?_
              refine lv_bipush (v := 60) hx hb dX12_fillSteady_33 (by decide) ?_
              refine lv_iload_n hx hb dX12_fillSteady_35 rfl (lv_at hl 1 rfl) ?_
              refine lv_imul hx hb dX12_fillSteady_36 ?_
              refine lv_topi (fun x1153 ex1153 => ?_)
              have tx1153 := ia_mull (a := (60 : Int32)) (b := w1_1) 60 (by decide) (by omega) (by omega)
              rw [← ex1153] at tx1153
              refine lv_iload_n hx hb dX12_fillSteady_37 rfl (lv_at hl 2 rfl) ?_
              refine lv_iadd hx hb dX12_fillSteady_38 ?_
              refine lv_topi (fun x1154 ex1154 => ?_)
              have tx1154 := ia_add (a := x1153) (b := w2_7) (by omega) (by omega)
              rw [← ex1154] at tx1154
              refine lv_aload_n hx hb dX12_fillSteady_39 rfl (lv_at hl 0 rfl) ?_
              refine lv_iload_n hx hb dX12_fillSteady_40 rfl (lv_at hl 1 rfl) ?_
              refine lv_iconst (v := 0) hx hb dX12_fillSteady_41 (by decide) ?_
              have hPc := hP.sub (ws' := [(a0, .inr (12, [.int i0, .ref a1, .ref a2, .ref a3, .ref a4, .int i1, .ref a5, .int i2, .int i3, .int i4, .int i5, .int i6, .int i7, .int i8, .ref a6, .ref a7, .ref a8, .ref a9, .ref a10, .ref a11, .ref a12, .int i9, .ref a13, .int i10, .ref a14, .ref a15, .int i11, .ref a16, .ref a17, .ref a18, .ref a19, .int i12, .int i13, .int i14, .int i15, .int i16, .ref a20, .long j0, .ref a21, .ref a22, .ref a23, .ref a24])), (a1, .inl (cI, 544, .inl xF0))]) [1, 2] rfl
              have hDc := hD.sub (ws' := [(a0, .inr (12, [.int i0, .ref a1, .ref a2, .ref a3, .ref a4, .int i1, .ref a5, .int i2, .int i3, .int i4, .int i5, .int i6, .int i7, .int i8, .ref a6, .ref a7, .ref a8, .ref a9, .ref a10, .ref a11, .ref a12, .int i9, .ref a13, .int i10, .ref a14, .ref a15, .int i11, .ref a16, .ref a17, .ref a18, .ref a19, .int i12, .int i13, .int i14, .int i15, .int i16, .ref a20, .long j0, .ref a21, .ref a22, .ref a23, .ref a24])), (a1, .inl (cI, 544, .inl xF0))]) [1, 2] (by decide) rfl
              have hFc := va_free (wc := [(a0, .inr (12, [.int i0, .ref a1, .ref a2, .ref a3, .ref a4, .int i1, .ref a5, .int i2, .int i3, .int i4, .int i5, .int i6, .int i7, .int i8, .ref a6, .ref a7, .ref a8, .ref a9, .ref a10, .ref a11, .ref a12, .int i9, .ref a13, .int i10, .ref a14, .ref a15, .int i11, .ref a16, .ref a17, .ref a18, .ref a19, .int i12, .int i13, .int i14, .int i15, .int i16, .ref a20, .long j0, .ref a21, .ref a22, .ref a23, .ref a24])), (a1, .inl (cI, 544, .inl xF0))]) hD hS hA [1, 2] rfl
              refine va_calli (va_runV (As := [.int w1_1, .int 0]) (rest := [.int x1154, .ref a11]) ⟨hx, hb, hml, hown, hwd⟩ (s_X12_of l dC dI cI cZ cB cJ cM cG a0 a1 a2 a3 a4 a5 a6 a7 a8 a9 a10 a11 a12 a13 a14 a15 a16 a17 a18 a19 a20 a21 a22 a23 a24 i0 i1 i2 i3 i4 i5 i6 i7 i8 i9 i10 i11 i12 i13 i14 i15 i16 j0 xF0 w1_1 0 cp H.size (show (0 : Int) ≤ i1.toInt ∧ i1.toInt ≤ 1600 from ⟨by omega, by omega⟩) (show (0 : Int) ≤ i2.toInt ∧ i2.toInt ≤ 1600 from ⟨by omega, by omega⟩) (show (0 : Int) ≤ i3.toInt ∧ i3.toInt ≤ 1600 from ⟨by omega, by omega⟩) (show (0 : Int) ≤ i4.toInt ∧ i4.toInt ≤ 1600 from ⟨by omega, by omega⟩) (show (0 : Int) ≤ i5.toInt ∧ i5.toInt ≤ 6 from ⟨by omega, by omega⟩) (show (0 : Int) ≤ i7.toInt ∧ i7.toInt ≤ 3 from ⟨by omega, by omega⟩) (show (0 : Int) ≤ i11.toInt ∧ i11.toInt ≤ 59 from ⟨by omega, by omega⟩) (show WI cp xF0 from p_7) (show (0 : Int) ≤ w1_1.toInt ∧ w1_1.toInt ≤ 9 from ⟨by omega, by omega⟩) (show (0 : Int) ≤ (0 : Int32).toInt ∧ (0 : Int32).toInt ≤ 5 from ⟨by omega, by omega⟩) p_8) (cwV 2 hwd (gV kr27_18 kr27_19 kr27_20 kr1_5 kr27_21) rfl rfl rfl (by decide +kernel) ⟨Nat.le_of_ble_eq_true rfl, Nat.le_of_ble_eq_true rfl⟩) (kPreV hPc hK hDc (ci := 12) (q0 := 0) rfl rfl) rfl rfl hl.1 rfl (lv_room (Nat.le_of_ble_eq_true rfl)) dX12_fillSteady_42 ⟨Nat.le_of_ble_eq_true rfl, Nat.le_of_ble_eq_true rfl⟩) hS (fun q _ h => hFc q h) hFc (fun r1155 u1156 t H1 locs ht9 hvm hw hB hz1 hk1 hS => ?_)
              obtain ⟨hw1157, -⟩ := hw
              have hw1157 : r1155.toInt = wfo xF0 0 w1_1.toInt := hw1157
              have wf1158 := p_7.2.2.1 w1_1.toInt (by omega) (by omega)
              unfold wfl at wf1158
              obtain ⟨hP1, hD1⟩ := hB
              rw [ht9] at hP1
              obtain ⟨hP, hD⟩ := va_join (wr := [(a11, .inl (cI, 600, .inl g1_7)), (a7, .inl (cI, 360, .inl (U3 0))), (a8, .inl (cI, 600, .inl (U3 1))), (a9, .inl (cI, 60, .inl (U3 2)))]) (w1 := [(a0, .inr (12, [.int i0, .ref a1, .ref a2, .ref a3, .ref a4, .int i1, .ref a5, .int i2, .int i3, .int i4, .int i5, .int i6, .int i7, .int i8, .ref a6, .ref a7, .ref a8, .ref a9, .ref a10, .ref a11, .ref a12, .int i9, .ref a13, .int i10, .ref a14, .ref a15, .int i11, .ref a16, .ref a17, .ref a18, .ref a19, .int i12, .int i13, .int i14, .int i15, .int i16, .ref a20, .long j0, .ref a21, .ref a22, .ref a23, .ref a24])), (a1, .inl (cI, 544, .inl xF0))]) hP hD [1, 2] [0, 3, 4, 5] rfl rfl (by decide) (by decide) hk1 hFc hP1 hD1
              generalize H1 = H at hP hS ⊢
              have hP : va_P (dC, dI) vwCl [(a11, .inl (cI, 600, .inl g1_7)), (a7, .inl (cI, 360, .inl (U3 0))), (a8, .inl (cI, 600, .inl (U3 1))), (a9, .inl (cI, 60, .inl (U3 2))), (a0, .inr (12, [.int i0, .ref a1, .ref a2, .ref a3, .ref a4, .int i1, .ref a5, .int i2, .int i3, .int i4, .int i5, .int i6, .int i7, .int i8, .ref a6, .ref a7, .ref a8, .ref a9, .ref a10, .ref a11, .ref a12, .int i9, .ref a13, .int i10, .ref a14, .ref a15, .int i11, .ref a16, .ref a17, .ref a18, .ref a19, .int i12, .int i13, .int i14, .int i15, .int i16, .ref a20, .long j0, .ref a21, .ref a22, .ref a23, .ref a24])), (a1, .inl (cI, 544, .inl xF0))] H := hP
              have hD : va_D A [(a11, .inl (cI, 600, .inl g1_7)), (a7, .inl (cI, 360, .inl (U3 0))), (a8, .inl (cI, 600, .inl (U3 1))), (a9, .inl (cI, 60, .inl (U3 2))), (a0, .inr (12, [.int i0, .ref a1, .ref a2, .ref a3, .ref a4, .int i1, .ref a5, .int i2, .int i3, .int i4, .int i5, .int i6, .int i7, .int i8, .ref a6, .ref a7, .ref a8, .ref a9, .ref a10, .ref a11, .ref a12, .int i9, .ref a13, .int i10, .ref a14, .ref a15, .int i11, .ref a16, .ref a17, .ref a18, .ref a19, .int i12, .int i13, .int i14, .int i15, .int i16, .ref a20, .long j0, .ref a21, .ref a22, .ref a23, .ref a24])), (a1, .inl (cI, 544, .inl xF0))] := hD
              refine lv_iconst (v := 3) hx hb dX12_fillSteady_45 (by decide) ?_
              refine lv_icmp_ne (tgt := 73) hx hb dX12_fillSteady_46 (by decide) (fun c1159 => ?_) (fun c1159 => ?_)
              · rw [ki_eq] at c1159
                refine lv_aload_n hx hb dX12_fillSteady_73 rfl (lv_at hl 0 rfl) ?_
                refine lv_iload_n hx hb dX12_fillSteady_74 rfl (lv_at hl 1 rfl) ?_
                refine lv_iload_n hx hb dX12_fillSteady_75 rfl (lv_at hl 2 rfl) ?_
                have hPc := hP.sub (ws' := [(a0, .inr (12, [.int i0, .ref a1, .ref a2, .ref a3, .ref a4, .int i1, .ref a5, .int i2, .int i3, .int i4, .int i5, .int i6, .int i7, .int i8, .ref a6, .ref a7, .ref a8, .ref a9, .ref a10, .ref a11, .ref a12, .int i9, .ref a13, .int i10, .ref a14, .ref a15, .int i11, .ref a16, .ref a17, .ref a18, .ref a19, .int i12, .int i13, .int i14, .int i15, .int i16, .ref a20, .long j0, .ref a21, .ref a22, .ref a23, .ref a24])), (a1, .inl (cI, 544, .inl xF0)), (a8, .inl (cI, 600, .inl (U3 1)))]) [4, 5, 2] rfl
                have hDc := hD.sub (ws' := [(a0, .inr (12, [.int i0, .ref a1, .ref a2, .ref a3, .ref a4, .int i1, .ref a5, .int i2, .int i3, .int i4, .int i5, .int i6, .int i7, .int i8, .ref a6, .ref a7, .ref a8, .ref a9, .ref a10, .ref a11, .ref a12, .int i9, .ref a13, .int i10, .ref a14, .ref a15, .int i11, .ref a16, .ref a17, .ref a18, .ref a19, .int i12, .int i13, .int i14, .int i15, .int i16, .ref a20, .long j0, .ref a21, .ref a22, .ref a23, .ref a24])), (a1, .inl (cI, 544, .inl xF0)), (a8, .inl (cI, 600, .inl (U3 1)))]) [4, 5, 2] (by decide) rfl
                have hFc := va_free (wc := [(a0, .inr (12, [.int i0, .ref a1, .ref a2, .ref a3, .ref a4, .int i1, .ref a5, .int i2, .int i3, .int i4, .int i5, .int i6, .int i7, .int i8, .ref a6, .ref a7, .ref a8, .ref a9, .ref a10, .ref a11, .ref a12, .int i9, .ref a13, .int i10, .ref a14, .ref a15, .int i11, .ref a16, .ref a17, .ref a18, .ref a19, .int i12, .int i13, .int i14, .int i15, .int i16, .ref a20, .long j0, .ref a21, .ref a22, .ref a23, .ref a24])), (a1, .inl (cI, 544, .inl xF0)), (a8, .inl (cI, 600, .inl (U3 1)))]) hD hS hA [4, 5, 2] rfl
                refine va_calli (va_runV (As := [.int w1_1, .int w2_7]) (rest := [.int x1154, .ref a11]) ⟨hx, hb, hml, hown, hwd⟩ (s_X12_steadyAt l dC dI cI cZ cB cJ cM cG a0 a1 a2 a3 a4 a5 a6 a7 a8 a9 a10 a11 a12 a13 a14 a15 a16 a17 a18 a19 a20 a21 a22 a23 a24 i0 i1 i2 i3 i4 i5 i6 i7 i8 i9 i10 i11 i12 i13 i14 i15 i16 j0 xF0 (U3 1) w1_1 w2_7 cp H.size (show (0 : Int) ≤ i1.toInt ∧ i1.toInt ≤ 1600 from ⟨by omega, by omega⟩) (show (0 : Int) ≤ i2.toInt ∧ i2.toInt ≤ 1600 from ⟨by omega, by omega⟩) (show (0 : Int) ≤ i3.toInt ∧ i3.toInt ≤ 1600 from ⟨by omega, by omega⟩) (show (0 : Int) ≤ i4.toInt ∧ i4.toInt ≤ 1600 from ⟨by omega, by omega⟩) (show (0 : Int) ≤ i5.toInt ∧ i5.toInt ≤ 6 from ⟨by omega, by omega⟩) (show (0 : Int) ≤ i7.toInt ∧ i7.toInt ≤ 3 from ⟨by omega, by omega⟩) (show (0 : Int) ≤ i11.toInt ∧ i11.toInt ≤ 59 from ⟨by omega, by omega⟩) (show WI cp xF0 from p_7) (by omega) (show (0 : Int) ≤ w1_1.toInt ∧ w1_1.toInt ≤ 9 from ⟨by omega, by omega⟩) p_8) (cwV 2 hwd (gV kr42_18 kr42_19 kr42_20 kr1_5 kr42_21) rfl rfl rfl (by decide +kernel) ⟨Nat.le_of_ble_eq_true rfl, Nat.le_of_ble_eq_true rfl⟩) (kPreV hPc hK hDc (ci := 12) (q0 := 0) rfl rfl) rfl rfl hl.1 rfl (lv_room (Nat.le_of_ble_eq_true rfl)) dX12_fillSteady_76 ⟨Nat.le_of_ble_eq_true rfl, Nat.le_of_ble_eq_true rfl⟩) hS (fun q _ h => hFc q h) hFc (fun r1160 u1161 t H1 locs ht9 hvm hw hB hz1 hk1 hS => ?_)
                obtain ⟨hw1162, -⟩ := hw
                have hw1162 : (0 : Int) ≤ r1160.toInt ∧ r1160.toInt ≤ 2147483647 := hw1162
                obtain ⟨hP1, hD1⟩ := hB
                rw [ht9] at hP1
                obtain ⟨hP, hD⟩ := va_join (wr := [(a11, .inl (cI, 600, .inl g1_7)), (a7, .inl (cI, 360, .inl (U3 0))), (a9, .inl (cI, 60, .inl (U3 2)))]) (w1 := [(a0, .inr (12, [.int i0, .ref a1, .ref a2, .ref a3, .ref a4, .int i1, .ref a5, .int i2, .int i3, .int i4, .int i5, .int i6, .int i7, .int i8, .ref a6, .ref a7, .ref a8, .ref a9, .ref a10, .ref a11, .ref a12, .int i9, .ref a13, .int i10, .ref a14, .ref a15, .int i11, .ref a16, .ref a17, .ref a18, .ref a19, .int i12, .int i13, .int i14, .int i15, .int i16, .ref a20, .long j0, .ref a21, .ref a22, .ref a23, .ref a24])), (a1, .inl (cI, 544, .inl xF0)), (a8, .inl (cI, 600, .inl (U3 1)))]) hP hD [4, 5, 2] [0, 1, 3] rfl rfl (by decide) (by decide) hk1 hFc hP1 hD1
                generalize H1 = H at hP hS ⊢
                have hP : va_P (dC, dI) vwCl [(a11, .inl (cI, 600, .inl g1_7)), (a7, .inl (cI, 360, .inl (U3 0))), (a9, .inl (cI, 60, .inl (U3 2))), (a0, .inr (12, [.int i0, .ref a1, .ref a2, .ref a3, .ref a4, .int i1, .ref a5, .int i2, .int i3, .int i4, .int i5, .int i6, .int i7, .int i8, .ref a6, .ref a7, .ref a8, .ref a9, .ref a10, .ref a11, .ref a12, .int i9, .ref a13, .int i10, .ref a14, .ref a15, .int i11, .ref a16, .ref a17, .ref a18, .ref a19, .int i12, .int i13, .int i14, .int i15, .int i16, .ref a20, .long j0, .ref a21, .ref a22, .ref a23, .ref a24])), (a1, .inl (cI, 544, .inl xF0)), (a8, .inl (cI, 600, .inl (U3 1)))] H := hP
                have hD : va_D A [(a11, .inl (cI, 600, .inl g1_7)), (a7, .inl (cI, 360, .inl (U3 0))), (a9, .inl (cI, 60, .inl (U3 2))), (a0, .inr (12, [.int i0, .ref a1, .ref a2, .ref a3, .ref a4, .int i1, .ref a5, .int i2, .int i3, .int i4, .int i5, .int i6, .int i7, .int i8, .ref a6, .ref a7, .ref a8, .ref a9, .ref a10, .ref a11, .ref a12, .int i9, .ref a13, .int i10, .ref a14, .ref a15, .int i11, .ref a16, .ref a17, .ref a18, .ref a19, .int i12, .int i13, .int i14, .int i15, .int i16, .ref a20, .long j0, .ref a21, .ref a22, .ref a23, .ref a24])), (a1, .inl (cI, 544, .inl xF0)), (a8, .inl (cI, 600, .inl (U3 1)))] := hD
                refine va_iast hx hb hK hP hD hS 0 0 rfl rfl (vp_of (by omega) (by omega)) dX12_fillSteady_79 (fun H locs hP hD hS => ?_)
                obtain ⟨f1163, ef1163⟩ : ∃ f, f = upd g1_7 x1154.toNatClampNeg r1160 := ⟨_, rfl⟩
                have hP : va_P (dC, dI) vwCl [(a11, .inl (cI, 600, .inl f1163)), (a7, .inl (cI, 360, .inl (U3 0))), (a9, .inl (cI, 60, .inl (U3 2))), (a0, .inr (12, [.int i0, .ref a1, .ref a2, .ref a3, .ref a4, .int i1, .ref a5, .int i2, .int i3, .int i4, .int i5, .int i6, .int i7, .int i8, .ref a6, .ref a7, .ref a8, .ref a9, .ref a10, .ref a11, .ref a12, .int i9, .ref a13, .int i10, .ref a14, .ref a15, .int i11, .ref a16, .ref a17, .ref a18, .ref a19, .int i12, .int i13, .int i14, .int i15, .int i16, .ref a20, .long j0, .ref a21, .ref a22, .ref a23, .ref a24])), (a1, .inl (cI, 544, .inl xF0)), (a8, .inl (cI, 600, .inl (U3 1)))] H := by rw [ef1163]; exact hP
                have hD : va_D A [(a11, .inl (cI, 600, .inl f1163)), (a7, .inl (cI, 360, .inl (U3 0))), (a9, .inl (cI, 60, .inl (U3 2))), (a0, .inr (12, [.int i0, .ref a1, .ref a2, .ref a3, .ref a4, .int i1, .ref a5, .int i2, .int i3, .int i4, .int i5, .int i6, .int i7, .int i8, .ref a6, .ref a7, .ref a8, .ref a9, .ref a10, .ref a11, .ref a12, .int i9, .ref a13, .int i10, .ref a14, .ref a15, .int i11, .ref a16, .ref a17, .ref a18, .ref a19, .int i12, .int i13, .int i14, .int i15, .int i16, .ref a20, .long j0, .ref a21, .ref a22, .ref a23, .ref a24])), (a1, .inl (cI, 544, .inl xF0)), (a8, .inl (cI, 600, .inl (U3 1)))] := by rw [ef1163]; exact hD
                obtain ⟨x1164, ex1164⟩ : ∃ y : Int32, y = w2_7 + 1 := ⟨_, rfl⟩
                refine lv_iinc (v := x1164) (lv' := [(2, .int x1164), (0, .ref a0), (1, .int w1_1)]) hx hb dX12_fillSteady_80 hl (k := 2) rfl (by rw [ex1164]; rfl) (by decide) rfl (fun ls hl => ?_)
                have tx1164 := ia_add (a := w2_7) (b := (1 : Int32)) (by omega) (by omega)
                rw [← ex1164] at tx1164
                refine lv_goto (tgt := 19) hx hb dX12_fillSteady_83 (by decide) ?_
                exact ih7 _ _ ls x1164 f1163 (show (0 : Int) ≤ x1164.toInt ∧ x1164.toInt ≤ 60 from ⟨by omega, by omega⟩) (by omega) (hP.sub (ws' := [(a11, .inl (cI, 600, .inl f1163)), (a0, .inr (12, [.int i0, .ref a1, .ref a2, .ref a3, .ref a4, .int i1, .ref a5, .int i2, .int i3, .int i4, .int i5, .int i6, .int i7, .int i8, .ref a6, .ref a7, .ref a8, .ref a9, .ref a10, .ref a11, .ref a12, .int i9, .ref a13, .int i10, .ref a14, .ref a15, .int i11, .ref a16, .ref a17, .ref a18, .ref a19, .int i12, .int i13, .int i14, .int i15, .int i16, .ref a20, .long j0, .ref a21, .ref a22, .ref a23, .ref a24])), (a1, .inl (cI, 544, .inl xF0)), (a7, .inl (cI, 360, .inl (U3 0))), (a8, .inl (cI, 600, .inl (U3 1))), (a9, .inl (cI, 60, .inl (U3 2)))]) [0, 3, 4, 1, 5, 2] rfl) (hD.sub (ws' := [(a11, .inl (cI, 600, .inl f1163)), (a0, .inr (12, [.int i0, .ref a1, .ref a2, .ref a3, .ref a4, .int i1, .ref a5, .int i2, .int i3, .int i4, .int i5, .int i6, .int i7, .int i8, .ref a6, .ref a7, .ref a8, .ref a9, .ref a10, .ref a11, .ref a12, .int i9, .ref a13, .int i10, .ref a14, .ref a15, .int i11, .ref a16, .ref a17, .ref a18, .ref a19, .int i12, .int i13, .int i14, .int i15, .int i16, .ref a20, .long j0, .ref a21, .ref a22, .ref a23, .ref a24])), (a1, .inl (cI, 544, .inl xF0)), (a7, .inl (cI, 360, .inl (U3 0))), (a8, .inl (cI, 600, .inl (U3 1))), (a9, .inl (cI, 60, .inl (U3 2)))]) [0, 3, 4, 1, 5, 2] (by decide) rfl) hS (lv_sub hl [1, 2, 0] rfl)
              · rw [ki_eq] at c1159
                refine lv_aload_n hx hb dX12_fillSteady_49 rfl (lv_at hl 0 rfl) ?_
                refine lv_iload_n hx hb dX12_fillSteady_50 rfl (lv_at hl 1 rfl) ?_
                refine lv_aload_n hx hb dX12_fillSteady_51 rfl (lv_at hl 0 rfl) ?_
                refine va_get (D := (dC, dI)) (ci := 12) (v := .ref a11) (C := RX12) (T := TX12) (N := 42) hx hb hwd inlX12 hown hK hP 4 rfl rfl 19 (by decide) (hwd _ kr7_14) (fun _ h9 => h9) rfl dX12_fillSteady_52 ?_
                refine lv_bipush (v := 60) hx hb dX12_fillSteady_55 (by decide) ?_
                refine lv_aload_n hx hb dX12_fillSteady_57 rfl (lv_at hl 0 rfl) ?_
                refine lv_iload_n hx hb dX12_fillSteady_58 rfl (lv_at hl 1 rfl) ?_
                refine lv_iconst (v := 1) hx hb dX12_fillSteady_59 (by decide) ?_
                have hPc := hP.sub (ws' := [(a0, .inr (12, [.int i0, .ref a1, .ref a2, .ref a3, .ref a4, .int i1, .ref a5, .int i2, .int i3, .int i4, .int i5, .int i6, .int i7, .int i8, .ref a6, .ref a7, .ref a8, .ref a9, .ref a10, .ref a11, .ref a12, .int i9, .ref a13, .int i10, .ref a14, .ref a15, .int i11, .ref a16, .ref a17, .ref a18, .ref a19, .int i12, .int i13, .int i14, .int i15, .int i16, .ref a20, .long j0, .ref a21, .ref a22, .ref a23, .ref a24])), (a1, .inl (cI, 544, .inl xF0))]) [4, 5] rfl
                have hDc := hD.sub (ws' := [(a0, .inr (12, [.int i0, .ref a1, .ref a2, .ref a3, .ref a4, .int i1, .ref a5, .int i2, .int i3, .int i4, .int i5, .int i6, .int i7, .int i8, .ref a6, .ref a7, .ref a8, .ref a9, .ref a10, .ref a11, .ref a12, .int i9, .ref a13, .int i10, .ref a14, .ref a15, .int i11, .ref a16, .ref a17, .ref a18, .ref a19, .int i12, .int i13, .int i14, .int i15, .int i16, .ref a20, .long j0, .ref a21, .ref a22, .ref a23, .ref a24])), (a1, .inl (cI, 544, .inl xF0))]) [4, 5] (by decide) rfl
                have hFc := va_free (wc := [(a0, .inr (12, [.int i0, .ref a1, .ref a2, .ref a3, .ref a4, .int i1, .ref a5, .int i2, .int i3, .int i4, .int i5, .int i6, .int i7, .int i8, .ref a6, .ref a7, .ref a8, .ref a9, .ref a10, .ref a11, .ref a12, .int i9, .ref a13, .int i10, .ref a14, .ref a15, .int i11, .ref a16, .ref a17, .ref a18, .ref a19, .int i12, .int i13, .int i14, .int i15, .int i16, .ref a20, .long j0, .ref a21, .ref a22, .ref a23, .ref a24])), (a1, .inl (cI, 544, .inl xF0))]) hD hS hA [4, 5] rfl
                refine va_calli (va_runV (As := [.int w1_1, .int 1]) (rest := [.int 60, .ref a11, .int w1_1, .ref a0, .int x1154, .ref a11]) ⟨hx, hb, hml, hown, hwd⟩ (s_X12_of l dC dI cI cZ cB cJ cM cG a0 a1 a2 a3 a4 a5 a6 a7 a8 a9 a10 a11 a12 a13 a14 a15 a16 a17 a18 a19 a20 a21 a22 a23 a24 i0 i1 i2 i3 i4 i5 i6 i7 i8 i9 i10 i11 i12 i13 i14 i15 i16 j0 xF0 w1_1 1 cp H.size (show (0 : Int) ≤ i1.toInt ∧ i1.toInt ≤ 1600 from ⟨by omega, by omega⟩) (show (0 : Int) ≤ i2.toInt ∧ i2.toInt ≤ 1600 from ⟨by omega, by omega⟩) (show (0 : Int) ≤ i3.toInt ∧ i3.toInt ≤ 1600 from ⟨by omega, by omega⟩) (show (0 : Int) ≤ i4.toInt ∧ i4.toInt ≤ 1600 from ⟨by omega, by omega⟩) (show (0 : Int) ≤ i5.toInt ∧ i5.toInt ≤ 6 from ⟨by omega, by omega⟩) (show (0 : Int) ≤ i7.toInt ∧ i7.toInt ≤ 3 from ⟨by omega, by omega⟩) (show (0 : Int) ≤ i11.toInt ∧ i11.toInt ≤ 59 from ⟨by omega, by omega⟩) (show WI cp xF0 from p_7) (show (0 : Int) ≤ w1_1.toInt ∧ w1_1.toInt ≤ 9 from ⟨by omega, by omega⟩) (show (0 : Int) ≤ (1 : Int32).toInt ∧ (1 : Int32).toInt ≤ 5 from ⟨by omega, by omega⟩) p_8) (cwV 2 hwd (gV kr27_18 kr27_19 kr27_20 kr1_5 kr27_21) rfl rfl rfl (by decide +kernel) ⟨Nat.le_of_ble_eq_true rfl, Nat.le_of_ble_eq_true rfl⟩) (kPreV hPc hK hDc (ci := 12) (q0 := 0) rfl rfl) rfl rfl hl.1 rfl (lv_room (Nat.le_of_ble_eq_true rfl)) dX12_fillSteady_60 ⟨Nat.le_of_ble_eq_true rfl, Nat.le_of_ble_eq_true rfl⟩) hS (fun q _ h => hFc q h) hFc (fun r1165 u1166 t H1 locs ht9 hvm hw hB hz1 hk1 hS => ?_)
                obtain ⟨hw1167, -⟩ := hw
                have hw1167 : r1165.toInt = wfo xF0 1 w1_1.toInt := hw1167
                obtain ⟨hP1, hD1⟩ := hB
                rw [ht9] at hP1
                obtain ⟨hP, hD⟩ := va_join (wr := [(a11, .inl (cI, 600, .inl g1_7)), (a7, .inl (cI, 360, .inl (U3 0))), (a8, .inl (cI, 600, .inl (U3 1))), (a9, .inl (cI, 60, .inl (U3 2)))]) (w1 := [(a0, .inr (12, [.int i0, .ref a1, .ref a2, .ref a3, .ref a4, .int i1, .ref a5, .int i2, .int i3, .int i4, .int i5, .int i6, .int i7, .int i8, .ref a6, .ref a7, .ref a8, .ref a9, .ref a10, .ref a11, .ref a12, .int i9, .ref a13, .int i10, .ref a14, .ref a15, .int i11, .ref a16, .ref a17, .ref a18, .ref a19, .int i12, .int i13, .int i14, .int i15, .int i16, .ref a20, .long j0, .ref a21, .ref a22, .ref a23, .ref a24])), (a1, .inl (cI, 544, .inl xF0))]) hP hD [4, 5] [0, 1, 2, 3] rfl rfl (by decide) (by decide) hk1 hFc hP1 hD1
                generalize H1 = H at hP hS ⊢
                have hP : va_P (dC, dI) vwCl [(a11, .inl (cI, 600, .inl g1_7)), (a7, .inl (cI, 360, .inl (U3 0))), (a8, .inl (cI, 600, .inl (U3 1))), (a9, .inl (cI, 60, .inl (U3 2))), (a0, .inr (12, [.int i0, .ref a1, .ref a2, .ref a3, .ref a4, .int i1, .ref a5, .int i2, .int i3, .int i4, .int i5, .int i6, .int i7, .int i8, .ref a6, .ref a7, .ref a8, .ref a9, .ref a10, .ref a11, .ref a12, .int i9, .ref a13, .int i10, .ref a14, .ref a15, .int i11, .ref a16, .ref a17, .ref a18, .ref a19, .int i12, .int i13, .int i14, .int i15, .int i16, .ref a20, .long j0, .ref a21, .ref a22, .ref a23, .ref a24])), (a1, .inl (cI, 544, .inl xF0))] H := hP
                have hD : va_D A [(a11, .inl (cI, 600, .inl g1_7)), (a7, .inl (cI, 360, .inl (U3 0))), (a8, .inl (cI, 600, .inl (U3 1))), (a9, .inl (cI, 60, .inl (U3 2))), (a0, .inr (12, [.int i0, .ref a1, .ref a2, .ref a3, .ref a4, .int i1, .ref a5, .int i2, .int i3, .int i4, .int i5, .int i6, .int i7, .int i8, .ref a6, .ref a7, .ref a8, .ref a9, .ref a10, .ref a11, .ref a12, .int i9, .ref a13, .int i10, .ref a14, .ref a15, .int i11, .ref a16, .ref a17, .ref a18, .ref a19, .int i12, .int i13, .int i14, .int i15, .int i16, .ref a20, .long j0, .ref a21, .ref a22, .ref a23, .ref a24])), (a1, .inl (cI, 544, .inl xF0))] := hD
                refine lv_imul hx hb dX12_fillSteady_63 ?_
                refine lv_topi (fun x1168 ex1168 => ?_)
                have tx1168 := ia_mull (a := (60 : Int32)) (b := r1165) 60 (by decide) (by omega) (by omega)
                rw [← ex1168] at tx1168
                refine lv_iload_n hx hb dX12_fillSteady_64 rfl (lv_at hl 2 rfl) ?_
                refine lv_iadd hx hb dX12_fillSteady_65 ?_
                refine lv_topi (fun x1169 ex1169 => ?_)
                have tx1169 := ia_add (a := x1168) (b := w2_7) (by omega) (by omega)
                rw [← ex1169] at tx1169
                have h1170 : vp_in x1169 600 := (vp_of (by omega) (by omega))
                refine va_iald hx hb hK hP 0 0 rfl rfl h1170 dX12_fillSteady_66 ?_
                refine lv_topi (fun x1171 ex1171 => ?_)
                have hPc := hP.sub (ws' := [(a0, .inr (12, [.int i0, .ref a1, .ref a2, .ref a3, .ref a4, .int i1, .ref a5, .int i2, .int i3, .int i4, .int i5, .int i6, .int i7, .int i8, .ref a6, .ref a7, .ref a8, .ref a9, .ref a10, .ref a11, .ref a12, .int i9, .ref a13, .int i10, .ref a14, .ref a15, .int i11, .ref a16, .ref a17, .ref a18, .ref a19, .int i12, .int i13, .int i14, .int i15, .int i16, .ref a20, .long j0, .ref a21, .ref a22, .ref a23, .ref a24])), (a1, .inl (cI, 544, .inl xF0))]) [4, 5] rfl
                have hDc := hD.sub (ws' := [(a0, .inr (12, [.int i0, .ref a1, .ref a2, .ref a3, .ref a4, .int i1, .ref a5, .int i2, .int i3, .int i4, .int i5, .int i6, .int i7, .int i8, .ref a6, .ref a7, .ref a8, .ref a9, .ref a10, .ref a11, .ref a12, .int i9, .ref a13, .int i10, .ref a14, .ref a15, .int i11, .ref a16, .ref a17, .ref a18, .ref a19, .int i12, .int i13, .int i14, .int i15, .int i16, .ref a20, .long j0, .ref a21, .ref a22, .ref a23, .ref a24])), (a1, .inl (cI, 544, .inl xF0))]) [4, 5] (by decide) rfl
                have hFc := va_free (wc := [(a0, .inr (12, [.int i0, .ref a1, .ref a2, .ref a3, .ref a4, .int i1, .ref a5, .int i2, .int i3, .int i4, .int i5, .int i6, .int i7, .int i8, .ref a6, .ref a7, .ref a8, .ref a9, .ref a10, .ref a11, .ref a12, .int i9, .ref a13, .int i10, .ref a14, .ref a15, .int i11, .ref a16, .ref a17, .ref a18, .ref a19, .int i12, .int i13, .int i14, .int i15, .int i16, .ref a20, .long j0, .ref a21, .ref a22, .ref a23, .ref a24])), (a1, .inl (cI, 544, .inl xF0))]) hD hS hA [4, 5] rfl
                refine va_calli (va_runV (As := [.int w1_1, .int x1171]) (rest := [.int x1154, .ref a11]) ⟨hx, hb, hml, hown, hwd⟩ (s_X12_leverOf l dC dI cI cZ cB cJ cM cG a0 a1 a2 a3 a4 a5 a6 a7 a8 a9 a10 a11 a12 a13 a14 a15 a16 a17 a18 a19 a20 a21 a22 a23 a24 i0 i1 i2 i3 i4 i5 i6 i7 i8 i9 i10 i11 i12 i13 i14 i15 i16 j0 xF0 w1_1 x1171 cp H.size (show (0 : Int) ≤ i1.toInt ∧ i1.toInt ≤ 1600 from ⟨by omega, by omega⟩) (show (0 : Int) ≤ i2.toInt ∧ i2.toInt ≤ 1600 from ⟨by omega, by omega⟩) (show (0 : Int) ≤ i3.toInt ∧ i3.toInt ≤ 1600 from ⟨by omega, by omega⟩) (show (0 : Int) ≤ i4.toInt ∧ i4.toInt ≤ 1600 from ⟨by omega, by omega⟩) (show (0 : Int) ≤ i5.toInt ∧ i5.toInt ≤ 6 from ⟨by omega, by omega⟩) (show (0 : Int) ≤ i7.toInt ∧ i7.toInt ≤ 3 from ⟨by omega, by omega⟩) (show (0 : Int) ≤ i11.toInt ∧ i11.toInt ≤ 59 from ⟨by omega, by omega⟩) (show WI cp xF0 from p_7) (by omega) (show (0 : Int) ≤ w1_1.toInt ∧ w1_1.toInt ≤ 9 from ⟨by omega, by omega⟩) p_8) (cwV 2 hwd (gV kr27_22 kr27_23 kr28_0 kr1_5 kr28_1) rfl rfl rfl (by decide +kernel) ⟨Nat.le_of_ble_eq_true rfl, Nat.le_of_ble_eq_true rfl⟩) (kPreV hPc hK hDc (ci := 12) (q0 := 0) rfl rfl) rfl rfl hl.1 rfl (lv_room (Nat.le_of_ble_eq_true rfl)) dX12_fillSteady_67 ⟨Nat.le_of_ble_eq_true rfl, Nat.le_of_ble_eq_true rfl⟩) hS (fun q _ h => hFc q h) hFc (fun r1172 u1173 t H1 locs ht9 hvm hw hB hz1 hk1 hS => ?_)
                obtain ⟨hw1174, -⟩ := hw
                have hw1174 : (-2147483648 : Int) ≤ r1172.toInt ∧ r1172.toInt ≤ 9999 := hw1174
                obtain ⟨hP1, hD1⟩ := hB
                rw [ht9] at hP1
                obtain ⟨hP, hD⟩ := va_join (wr := [(a11, .inl (cI, 600, .inl g1_7)), (a7, .inl (cI, 360, .inl (U3 0))), (a8, .inl (cI, 600, .inl (U3 1))), (a9, .inl (cI, 60, .inl (U3 2)))]) (w1 := [(a0, .inr (12, [.int i0, .ref a1, .ref a2, .ref a3, .ref a4, .int i1, .ref a5, .int i2, .int i3, .int i4, .int i5, .int i6, .int i7, .int i8, .ref a6, .ref a7, .ref a8, .ref a9, .ref a10, .ref a11, .ref a12, .int i9, .ref a13, .int i10, .ref a14, .ref a15, .int i11, .ref a16, .ref a17, .ref a18, .ref a19, .int i12, .int i13, .int i14, .int i15, .int i16, .ref a20, .long j0, .ref a21, .ref a22, .ref a23, .ref a24])), (a1, .inl (cI, 544, .inl xF0))]) hP hD [4, 5] [0, 1, 2, 3] rfl rfl (by decide) (by decide) hk1 hFc hP1 hD1
                generalize H1 = H at hP hS ⊢
                have hP : va_P (dC, dI) vwCl [(a11, .inl (cI, 600, .inl g1_7)), (a7, .inl (cI, 360, .inl (U3 0))), (a8, .inl (cI, 600, .inl (U3 1))), (a9, .inl (cI, 60, .inl (U3 2))), (a0, .inr (12, [.int i0, .ref a1, .ref a2, .ref a3, .ref a4, .int i1, .ref a5, .int i2, .int i3, .int i4, .int i5, .int i6, .int i7, .int i8, .ref a6, .ref a7, .ref a8, .ref a9, .ref a10, .ref a11, .ref a12, .int i9, .ref a13, .int i10, .ref a14, .ref a15, .int i11, .ref a16, .ref a17, .ref a18, .ref a19, .int i12, .int i13, .int i14, .int i15, .int i16, .ref a20, .long j0, .ref a21, .ref a22, .ref a23, .ref a24])), (a1, .inl (cI, 544, .inl xF0))] H := hP
                have hD : va_D A [(a11, .inl (cI, 600, .inl g1_7)), (a7, .inl (cI, 360, .inl (U3 0))), (a8, .inl (cI, 600, .inl (U3 1))), (a9, .inl (cI, 60, .inl (U3 2))), (a0, .inr (12, [.int i0, .ref a1, .ref a2, .ref a3, .ref a4, .int i1, .ref a5, .int i2, .int i3, .int i4, .int i5, .int i6, .int i7, .int i8, .ref a6, .ref a7, .ref a8, .ref a9, .ref a10, .ref a11, .ref a12, .int i9, .ref a13, .int i10, .ref a14, .ref a15, .int i11, .ref a16, .ref a17, .ref a18, .ref a19, .int i12, .int i13, .int i14, .int i15, .int i16, .ref a20, .long j0, .ref a21, .ref a22, .ref a23, .ref a24])), (a1, .inl (cI, 544, .inl xF0))] := hD
                refine lv_goto (tgt := 79) hx hb dX12_fillSteady_70 (by decide) ?_
                refine va_iast hx hb hK hP hD hS 0 0 rfl rfl (vp_of (by omega) (by omega)) dX12_fillSteady_79 (fun H locs hP hD hS => ?_)
                obtain ⟨f1175, ef1175⟩ : ∃ f, f = upd g1_7 x1154.toNatClampNeg r1172 := ⟨_, rfl⟩
                have hP : va_P (dC, dI) vwCl [(a11, .inl (cI, 600, .inl f1175)), (a7, .inl (cI, 360, .inl (U3 0))), (a8, .inl (cI, 600, .inl (U3 1))), (a9, .inl (cI, 60, .inl (U3 2))), (a0, .inr (12, [.int i0, .ref a1, .ref a2, .ref a3, .ref a4, .int i1, .ref a5, .int i2, .int i3, .int i4, .int i5, .int i6, .int i7, .int i8, .ref a6, .ref a7, .ref a8, .ref a9, .ref a10, .ref a11, .ref a12, .int i9, .ref a13, .int i10, .ref a14, .ref a15, .int i11, .ref a16, .ref a17, .ref a18, .ref a19, .int i12, .int i13, .int i14, .int i15, .int i16, .ref a20, .long j0, .ref a21, .ref a22, .ref a23, .ref a24])), (a1, .inl (cI, 544, .inl xF0))] H := by rw [ef1175]; exact hP
                have hD : va_D A [(a11, .inl (cI, 600, .inl f1175)), (a7, .inl (cI, 360, .inl (U3 0))), (a8, .inl (cI, 600, .inl (U3 1))), (a9, .inl (cI, 60, .inl (U3 2))), (a0, .inr (12, [.int i0, .ref a1, .ref a2, .ref a3, .ref a4, .int i1, .ref a5, .int i2, .int i3, .int i4, .int i5, .int i6, .int i7, .int i8, .ref a6, .ref a7, .ref a8, .ref a9, .ref a10, .ref a11, .ref a12, .int i9, .ref a13, .int i10, .ref a14, .ref a15, .int i11, .ref a16, .ref a17, .ref a18, .ref a19, .int i12, .int i13, .int i14, .int i15, .int i16, .ref a20, .long j0, .ref a21, .ref a22, .ref a23, .ref a24])), (a1, .inl (cI, 544, .inl xF0))] := by rw [ef1175]; exact hD
                obtain ⟨x1176, ex1176⟩ : ∃ y : Int32, y = w2_7 + 1 := ⟨_, rfl⟩
                refine lv_iinc (v := x1176) (lv' := [(2, .int x1176), (0, .ref a0), (1, .int w1_1)]) hx hb dX12_fillSteady_80 hl (k := 2) rfl (by rw [ex1176]; rfl) (by decide) rfl (fun ls hl => ?_)
                have tx1176 := ia_add (a := w2_7) (b := (1 : Int32)) (by omega) (by omega)
                rw [← ex1176] at tx1176
                refine lv_goto (tgt := 19) hx hb dX12_fillSteady_83 (by decide) ?_
                exact ih7 _ _ ls x1176 f1175 (show (0 : Int) ≤ x1176.toInt ∧ x1176.toInt ≤ 60 from ⟨by omega, by omega⟩) (by omega) (hP.sub (ws' := [(a11, .inl (cI, 600, .inl f1175)), (a0, .inr (12, [.int i0, .ref a1, .ref a2, .ref a3, .ref a4, .int i1, .ref a5, .int i2, .int i3, .int i4, .int i5, .int i6, .int i7, .int i8, .ref a6, .ref a7, .ref a8, .ref a9, .ref a10, .ref a11, .ref a12, .int i9, .ref a13, .int i10, .ref a14, .ref a15, .int i11, .ref a16, .ref a17, .ref a18, .ref a19, .int i12, .int i13, .int i14, .int i15, .int i16, .ref a20, .long j0, .ref a21, .ref a22, .ref a23, .ref a24])), (a1, .inl (cI, 544, .inl xF0)), (a7, .inl (cI, 360, .inl (U3 0))), (a8, .inl (cI, 600, .inl (U3 1))), (a9, .inl (cI, 60, .inl (U3 2)))]) [0, 4, 5, 1, 2, 3] rfl) (hD.sub (ws' := [(a11, .inl (cI, 600, .inl f1175)), (a0, .inr (12, [.int i0, .ref a1, .ref a2, .ref a3, .ref a4, .int i1, .ref a5, .int i2, .int i3, .int i4, .int i5, .int i6, .int i7, .int i8, .ref a6, .ref a7, .ref a8, .ref a9, .ref a10, .ref a11, .ref a12, .int i9, .ref a13, .int i10, .ref a14, .ref a15, .int i11, .ref a16, .ref a17, .ref a18, .ref a19, .int i12, .int i13, .int i14, .int i15, .int i16, .ref a20, .long j0, .ref a21, .ref a22, .ref a23, .ref a24])), (a1, .inl (cI, 544, .inl xF0)), (a7, .inl (cI, 360, .inl (U3 0))), (a8, .inl (cI, 600, .inl (U3 1))), (a9, .inl (cI, 60, .inl (U3 2)))]) [0, 4, 5, 1, 2, 3] (by decide) rfl) hS (lv_sub hl [1, 2, 0] rfl)
        exact lp7 _ _ _ ls (0) g1_1 (show (0 : Int) ≤ (0 : Int32).toInt ∧ (0 : Int32).toInt ≤ 60 from ⟨by omega, by omega⟩) (Nat.lt_succ_self _) (hP.sub (ws' := [(a11, .inl (cI, 600, .inl g1_1)), (a0, .inr (12, [.int i0, .ref a1, .ref a2, .ref a3, .ref a4, .int i1, .ref a5, .int i2, .int i3, .int i4, .int i5, .int i6, .int i7, .int i8, .ref a6, .ref a7, .ref a8, .ref a9, .ref a10, .ref a11, .ref a12, .int i9, .ref a13, .int i10, .ref a14, .ref a15, .int i11, .ref a16, .ref a17, .ref a18, .ref a19, .int i12, .int i13, .int i14, .int i15, .int i16, .ref a20, .long j0, .ref a21, .ref a22, .ref a23, .ref a24])), (a1, .inl (cI, 544, .inl xF0)), (a7, .inl (cI, 360, .inl (U3 0))), (a8, .inl (cI, 600, .inl (U3 1))), (a9, .inl (cI, 60, .inl (U3 2)))]) [0, 1, 2, 3, 4, 5] rfl) (hD.sub (ws' := [(a11, .inl (cI, 600, .inl g1_1)), (a0, .inr (12, [.int i0, .ref a1, .ref a2, .ref a3, .ref a4, .int i1, .ref a5, .int i2, .int i3, .int i4, .int i5, .int i6, .int i7, .int i8, .ref a6, .ref a7, .ref a8, .ref a9, .ref a10, .ref a11, .ref a12, .int i9, .ref a13, .int i10, .ref a14, .ref a15, .int i11, .ref a16, .ref a17, .ref a18, .ref a19, .int i12, .int i13, .int i14, .int i15, .int i16, .ref a20, .long j0, .ref a21, .ref a22, .ref a23, .ref a24])), (a1, .inl (cI, 544, .inl xF0)), (a7, .inl (cI, 360, .inl (U3 0))), (a8, .inl (cI, 600, .inl (U3 1))), (a9, .inl (cI, 60, .inl (U3 2)))]) [0, 1, 2, 3, 4, 5] (by decide) rfl) hS (lv_sub hl [1, 2, 0] rfl)
  exact lp1 _ _ _ ls (0) xF10 (show (0 : Int) ≤ (0 : Int32).toInt ∧ (0 : Int32).toInt ≤ 10 from ⟨by omega, by omega⟩) (Nat.lt_succ_self _) (hP.sub (ws' := [(a11, .inl (cI, 600, .inl xF10)), (a0, .inr (12, [.int i0, .ref a1, .ref a2, .ref a3, .ref a4, .int i1, .ref a5, .int i2, .int i3, .int i4, .int i5, .int i6, .int i7, .int i8, .ref a6, .ref a7, .ref a8, .ref a9, .ref a10, .ref a11, .ref a12, .int i9, .ref a13, .int i10, .ref a14, .ref a15, .int i11, .ref a16, .ref a17, .ref a18, .ref a19, .int i12, .int i13, .int i14, .int i15, .int i16, .ref a20, .long j0, .ref a21, .ref a22, .ref a23, .ref a24])), (a1, .inl (cI, 544, .inl xF0)), (a7, .inl (cI, 360, .inl (U3 0))), (a8, .inl (cI, 600, .inl (U3 1))), (a9, .inl (cI, 60, .inl (U3 2)))]) [0, 1, 2, 3, 4, 5] rfl) (hD.sub (ws' := [(a11, .inl (cI, 600, .inl xF10)), (a0, .inr (12, [.int i0, .ref a1, .ref a2, .ref a3, .ref a4, .int i1, .ref a5, .int i2, .int i3, .int i4, .int i5, .int i6, .int i7, .int i8, .ref a6, .ref a7, .ref a8, .ref a9, .ref a10, .ref a11, .ref a12, .int i9, .ref a13, .int i10, .ref a14, .ref a15, .int i11, .ref a16, .ref a17, .ref a18, .ref a19, .int i12, .int i13, .int i14, .int i15, .int i16, .ref a20, .long j0, .ref a21, .ref a22, .ref a23, .ref a24])), (a1, .inl (cI, 544, .inl xF0)), (a7, .inl (cI, 360, .inl (U3 0))), (a8, .inl (cI, 600, .inl (U3 1))), (a9, .inl (cI, 60, .inl (U3 2)))]) [0, 1, 2, 3, 4, 5] (by decide) rfl) hS (lv_sub hl [1, 0] rfl)
