theorem dX0_doMeet_0 : decode cX0_doMeet 0 = .ok (.aload_n 0, 1) := by decide +kernel
theorem dX0_doMeet_1 : decode cX0_doMeet 1 = .ok (.aload_n 1, 1) := by decide +kernel
theorem dX0_doMeet_2 : decode cX0_doMeet 2 = .ok (.invokevirtual 63, 3) := by decide +kernel
theorem dX0_doMeet_5 : decode cX0_doMeet 5 = .ok (.aload_n 0, 1) := by decide +kernel
theorem dX0_doMeet_6 : decode cX0_doMeet 6 = .ok (.aload_n 1, 1) := by decide +kernel
theorem dX0_doMeet_7 : decode cX0_doMeet 7 = .ok (.iload_n 2, 1) := by decide +kernel
theorem dX0_doMeet_8 : decode cX0_doMeet 8 = .ok (.invokevirtual 70, 3) := by decide +kernel
theorem dX0_doMeet_11 : decode cX0_doMeet 11 = .ok (.aload_n 0, 1) := by decide +kernel
theorem dX0_doMeet_12 : decode cX0_doMeet 12 = .ok (.getfield 18, 3) := by decide +kernel
theorem dX0_doMeet_15 : decode cX0_doMeet 15 = .ok (.iconst 0, 1) := by decide +kernel
theorem dX0_doMeet_16 : decode cX0_doMeet 16 = .ok (.aload_n 0, 1) := by decide +kernel
theorem dX0_doMeet_17 : decode cX0_doMeet 17 = .ok (.getfield 21, 3) := by decide +kernel
theorem dX0_doMeet_20 : decode cX0_doMeet 20 = .ok (.iconst 0, 1) := by decide +kernel
theorem dX0_doMeet_21 : decode cX0_doMeet 21 = .ok (.bipush 60, 2) := by decide +kernel
theorem dX0_doMeet_23 : decode cX0_doMeet 23 = .ok (.invokestatic 89, 3) := by decide +kernel
theorem dX0_doMeet_26 : decode cX0_doMeet 26 = .ok (.aload_n 0, 1) := by decide +kernel
theorem dX0_doMeet_27 : decode cX0_doMeet 27 = .ok (.aload_n 1, 1) := by decide +kernel
theorem dX0_doMeet_28 : decode cX0_doMeet 28 = .ok (.invokevirtual 63, 3) := by decide +kernel
theorem dX0_doMeet_31 : decode cX0_doMeet 31 = .ok (.aload_n 0, 1) := by decide +kernel
theorem dX0_doMeet_32 : decode cX0_doMeet 32 = .ok (.aload_n 1, 1) := by decide +kernel
theorem dX0_doMeet_33 : decode cX0_doMeet 33 = .ok (.iload_n 3, 1) := by decide +kernel
theorem dX0_doMeet_34 : decode cX0_doMeet 34 = .ok (.invokevirtual 70, 3) := by decide +kernel
theorem dX0_doMeet_37 : decode cX0_doMeet 37 = .ok (.iconst 0, 1) := by decide +kernel
theorem dX0_doMeet_38 : decode cX0_doMeet 38 = .ok (.istore 4, 2) := by decide +kernel
theorem dX0_doMeet_40 : decode cX0_doMeet 40 = .ok (.iload 4, 2) := by decide +kernel
theorem dX0_doMeet_42 : decode cX0_doMeet 42 = .ok (.aload_n 1, 1) := by decide +kernel
theorem dX0_doMeet_43 : decode cX0_doMeet 43 = .ok (.getfield 73, 3) := by decide +kernel
theorem dX0_doMeet_46 : decode cX0_doMeet 46 = .ok (.if_icmp .ge 31, 3) := by decide +kernel
theorem dX0_doMeet_49 : decode cX0_doMeet 49 = .ok (.aload_n 0, 1) := by decide +kernel
theorem dX0_doMeet_50 : decode cX0_doMeet 50 = .ok (.getfield 18, 3) := by decide +kernel
theorem dX0_doMeet_53 : decode cX0_doMeet 53 = .ok (.iload 4, 2) := by decide +kernel
theorem dX0_doMeet_55 : decode cX0_doMeet 55 = .ok (.iaload, 1) := by decide +kernel
theorem dX0_doMeet_56 : decode cX0_doMeet 56 = .ok (.ifCond .le 15, 3) := by decide +kernel
theorem dX0_doMeet_59 : decode cX0_doMeet 59 = .ok (.aload_n 0, 1) := by decide +kernel
theorem dX0_doMeet_60 : decode cX0_doMeet 60 = .ok (.getfield 21, 3) := by decide +kernel
theorem dX0_doMeet_63 : decode cX0_doMeet 63 = .ok (.iload 4, 2) := by decide +kernel
theorem dX0_doMeet_65 : decode cX0_doMeet 65 = .ok (.iaload, 1) := by decide +kernel
theorem dX0_doMeet_66 : decode cX0_doMeet 66 = .ok (.ifCond .le 5, 3) := by decide +kernel
theorem dX0_doMeet_69 : decode cX0_doMeet 69 = .ok (.iconst 1, 1) := by decide +kernel
theorem dX0_doMeet_70 : decode cX0_doMeet 70 = .ok (.ireturn, 1) := by decide +kernel
theorem dX0_doMeet_71 : decode cX0_doMeet 71 = .ok (.iinc 4 1, 3) := by decide +kernel
theorem dX0_doMeet_74 : decode cX0_doMeet 74 = .ok (.goto (-34), 3) := by decide +kernel
theorem dX0_doMeet_77 : decode cX0_doMeet 77 = .ok (.iconst 0, 1) := by decide +kernel
theorem dX0_doMeet_78 : decode cX0_doMeet 78 = .ok (.ireturn, 1) := by decide +kernel
set_option maxHeartbeats 4000000 in
set_option maxRecDepth 100000 in
theorem s_X0_doMeet (l : Launch) (dC : Nat → ClassId) (dI : Nat → Nat → Nat) (cI cZ cB cJ cM cG : ClassId) (a0 a1 a2 a3 a4 a5 a6 a7 a18 a19 a20 a21 a22 a23 a24 a25 a26 a27 a28 a29 a30 : Nat) (i0 i1 i2 i3 i4 i5 i6 i7 i8 i9 : Int32) (xF0 xF2 xF3 xF17 xF18 xF20 : Nat → Int32) (p1 p2 : Int32) (sz : Nat) (p_0 : (0 : Int) ≤ i0.toInt ∧ i0.toInt ≤ 60) (p_1 : (0 : Int) ≤ i3.toInt ∧ i3.toInt ≤ 6) (p_2 : (0 : Int) ≤ i5.toInt ∧ i5.toInt ≤ 1) (p_3 : (0 : Int) ≤ i8.toInt ∧ i8.toInt ≤ 1) (p_4 : (0 : Int) ≤ i9.toInt ∧ i9.toInt ≤ 24) (p_5 : (0 : Int) ≤ p1.toInt ∧ p1.toInt ≤ 23) (p_6 : (0 : Int) ≤ p2.toInt ∧ p2.toInt ≤ 23) : Met l yX0_doMeet (kw yX0_doMeet cX0_doMeet 5 (some .boolean)) ({ frames := 2, cells := 0, slots := 0, locals := 64 } : Room) (va_Pc [.ref a0, .ref a18, .int p1, .int p2] (kPre dC dI [(cI, .int), (cZ, .boolean), (cB, .byte), (cJ, .long), (cM, .object RX2), (cG, .array .int)] [(a0, .inr (0, [.ref a1, .ref a2, .ref a3, .ref a4, .ref a5, .ref a6, .ref a7])), (a1, .inl (cI, 24, .inl xF0)), (a3, .inl (cI, 60, .inl xF2)), (a4, .inl (cI, 60, .inl xF3)), (a18, .inr (2, [.int i0, .int i1, .int i2, .int i3, .int i4, .int i5, .int i6, .int i7, .int i8, .ref a19, .ref a20, .ref a21, .ref a22, .ref a23])), (a19, .inr (3, [.int i9, .ref a24, .ref a25, .ref a26, .ref a27, .ref a28, .ref a29, .ref a30])), (a25, .inl (cI, 24, .inl xF17)), (a26, .inl (cI, 24, .inl xF18)), (a28, .inl (cI, 24, .inl xF20))] sz)) (va_Qi (fun (r : Int32) (u9 : (Nat → Int32) × (Nat → Nat → Int32) × (Nat → Nat → Int64)) => ((0 : Int) ≤ r.toInt ∧ r.toInt ≤ 1) ∧ True) (fun u9 t => va_P (dC, dI) vwCl [(a0, .inr (0, [.ref a1, .ref a2, .ref a3, .ref a4, .ref a5, .ref a6, .ref a7])), (a1, .inl (cI, 24, .inl xF0)), (a3, .inl (cI, 60, .inl (u9.2.1 0))), (a4, .inl (cI, 60, .inl (u9.2.1 1))), (a18, .inr (2, [.int i0, .int i1, .int i2, .int i3, .int i4, .int i5, .int i6, .int i7, .int i8, .ref a19, .ref a20, .ref a21, .ref a22, .ref a23])), (a19, .inr (3, [.int i9, .ref a24, .ref a25, .ref a26, .ref a27, .ref a28, .ref a29, .ref a30])), (a25, .inl (cI, 24, .inl xF17)), (a26, .inl (cI, 24, .inl xF18)), (a28, .inl (cI, 24, .inl xF20))] t.heap ∧ va_D (va_A [(a0, .inr (0, [.ref a1, .ref a2, .ref a3, .ref a4, .ref a5, .ref a6, .ref a7])), (a1, .inl (cI, 24, .inl xF0)), (a3, .inl (cI, 60, .inl xF2)), (a4, .inl (cI, 60, .inl xF3)), (a18, .inr (2, [.int i0, .int i1, .int i2, .int i3, .int i4, .int i5, .int i6, .int i7, .int i8, .ref a19, .ref a20, .ref a21, .ref a22, .ref a23])), (a19, .inr (3, [.int i9, .ref a24, .ref a25, .ref a26, .ref a27, .ref a28, .ref a29, .ref a30])), (a25, .inl (cI, 24, .inl xF17)), (a26, .inl (cI, 24, .inl xF18)), (a28, .inl (cI, 24, .inl xF20))] sz) [(a0, .inr (0, [.ref a1, .ref a2, .ref a3, .ref a4, .ref a5, .ref a6, .ref a7])), (a1, .inl (cI, 24, .inl xF0)), (a3, .inl (cI, 60, .inl (u9.2.1 0))), (a4, .inl (cI, 60, .inl (u9.2.1 1))), (a18, .inr (2, [.int i0, .int i1, .int i2, .int i3, .int i4, .int i5, .int i6, .int i7, .int i8, .ref a19, .ref a20, .ref a21, .ref a22, .ref a23])), (a19, .inr (3, [.int i9, .ref a24, .ref a25, .ref a26, .ref a27, .ref a28, .ref a29, .ref a30])), (a25, .inl (cI, 24, .inl xF17)), (a26, .inl (cI, 24, .inl xF18)), (a28, .inl (cI, 24, .inl xF20))]) (va_A [(a0, .inr (0, [.ref a1, .ref a2, .ref a3, .ref a4, .ref a5, .ref a6, .ref a7])), (a1, .inl (cI, 24, .inl xF0)), (a3, .inl (cI, 60, .inl xF2)), (a4, .inl (cI, 60, .inl xF3)), (a18, .inr (2, [.int i0, .int i1, .int i2, .int i3, .int i4, .int i5, .int i6, .int i7, .int i8, .ref a19, .ref a20, .ref a21, .ref a22, .ref a23])), (a19, .inr (3, [.int i9, .ref a24, .ref a25, .ref a26, .ref a27, .ref a28, .ref a29, .ref a30])), (a25, .inl (cI, 24, .inl xF17)), (a26, .inl (cI, 24, .inl xF18)), (a28, .inl (cI, 24, .inl xF20))] sz)) 0 0 (va_A [(a0, .inr (0, [.ref a1, .ref a2, .ref a3, .ref a4, .ref a5, .ref a6, .ref a7])), (a1, .inl (cI, 24, .inl xF0)), (a3, .inl (cI, 60, .inl xF2)), (a4, .inl (cI, 60, .inl xF3)), (a18, .inr (2, [.int i0, .int i1, .int i2, .int i3, .int i4, .int i5, .int i6, .int i7, .int i8, .ref a19, .ref a20, .ref a21, .ref a22, .ref a23])), (a19, .inr (3, [.int i9, .ref a24, .ref a25, .ref a26, .ref a27, .ref a28, .ref a29, .ref a30])), (a25, .inl (cI, 24, .inl xF17)), (a26, .inl (cI, 24, .inl xF18)), (a28, .inl (cI, 24, .inl xF20))] sz) := by
  refine kEnter (by decide) (Nat.le_of_ble_eq_true rfl) ?_
  intro p e s m below meth c ls hx hb hr hml hown hlocks hin hwd hsz hP hK hD hl
  subst hsz
  generalize hAe : va_A [(a0, .inr (0, [.ref a1, .ref a2, .ref a3, .ref a4, .ref a5, .ref a6, .ref a7])), (a1, .inl (cI, 24, .inl xF0)), (a3, .inl (cI, 60, .inl xF2)), (a4, .inl (cI, 60, .inl xF3)), (a18, .inr (2, [.int i0, .int i1, .int i2, .int i3, .int i4, .int i5, .int i6, .int i7, .int i8, .ref a19, .ref a20, .ref a21, .ref a22, .ref a23])), (a19, .inr (3, [.int i9, .ref a24, .ref a25, .ref a26, .ref a27, .ref a28, .ref a29, .ref a30])), (a25, .inl (cI, 24, .inl xF17)), (a26, .inl (cI, 24, .inl xF18)), (a28, .inl (cI, 24, .inl xF20))] s.heap.size = A at hD ⊢
  have hA : ∀ q : Nat, s.heap.size ≤ q → A q := fun q h => by rw [← hAe]; exact Or.inr h
  have hS : va_S A s.heap s.heap [] := va_S.rf
  have hl : lv_has ls 5 [(0, .ref a0), (1, .ref a18), (2, .int p1), (3, .int p2)] := hl
  obtain ⟨Q, hQ⟩ : ∃ Q, Q = MQ below (va_Qi (fun (r : Int32) (u9 : (Nat → Int32) × (Nat → Nat → Int32) × (Nat → Nat → Int64)) => ((0 : Int) ≤ r.toInt ∧ r.toInt ≤ 1) ∧ True) (fun u9 t => va_P (dC, dI) vwCl [(a0, .inr (0, [.ref a1, .ref a2, .ref a3, .ref a4, .ref a5, .ref a6, .ref a7])), (a1, .inl (cI, 24, .inl xF0)), (a3, .inl (cI, 60, .inl (u9.2.1 0))), (a4, .inl (cI, 60, .inl (u9.2.1 1))), (a18, .inr (2, [.int i0, .int i1, .int i2, .int i3, .int i4, .int i5, .int i6, .int i7, .int i8, .ref a19, .ref a20, .ref a21, .ref a22, .ref a23])), (a19, .inr (3, [.int i9, .ref a24, .ref a25, .ref a26, .ref a27, .ref a28, .ref a29, .ref a30])), (a25, .inl (cI, 24, .inl xF17)), (a26, .inl (cI, 24, .inl xF18)), (a28, .inl (cI, 24, .inl xF20))] t.heap ∧ va_D A [(a0, .inr (0, [.ref a1, .ref a2, .ref a3, .ref a4, .ref a5, .ref a6, .ref a7])), (a1, .inl (cI, 24, .inl xF0)), (a3, .inl (cI, 60, .inl (u9.2.1 0))), (a4, .inl (cI, 60, .inl (u9.2.1 1))), (a18, .inr (2, [.int i0, .int i1, .int i2, .int i3, .int i4, .int i5, .int i6, .int i7, .int i8, .ref a19, .ref a20, .ref a21, .ref a22, .ref a23])), (a19, .inr (3, [.int i9, .ref a24, .ref a25, .ref a26, .ref a27, .ref a28, .ref a29, .ref a30])), (a25, .inl (cI, 24, .inl xF17)), (a26, .inl (cI, 24, .inl xF18)), (a28, .inl (cI, 24, .inl xF20))]) A) ([.ref a0, .ref a18, .int p1, .int p2] : List Value).toArray s 0 0 A := ⟨_, rfl⟩
  rw [← hQ]
  have k0 : (0 : Int32).toInt = 0 := by decide
  have k1 : (1 : Int32).toInt = 1 := by decide
  refine lv_aload_n hx hb dX0_doMeet_0 rfl (lv_at hl 0 rfl) ?_
  refine lv_aload_n hx hb dX0_doMeet_1 rfl (lv_at hl 1 rfl) ?_
  have hPc := hP.sub (ws' := [(a0, .inr (0, [.ref a1, .ref a2, .ref a3, .ref a4, .ref a5, .ref a6, .ref a7])), (a3, .inl (cI, 60, .inl xF2)), (a18, .inr (2, [.int i0, .int i1, .int i2, .int i3, .int i4, .int i5, .int i6, .int i7, .int i8, .ref a19, .ref a20, .ref a21, .ref a22, .ref a23]))]) [0, 2, 4] rfl
  have hDc := hD.sub (ws' := [(a0, .inr (0, [.ref a1, .ref a2, .ref a3, .ref a4, .ref a5, .ref a6, .ref a7])), (a3, .inl (cI, 60, .inl xF2)), (a18, .inr (2, [.int i0, .int i1, .int i2, .int i3, .int i4, .int i5, .int i6, .int i7, .int i8, .ref a19, .ref a20, .ref a21, .ref a22, .ref a23]))]) [0, 2, 4] (by decide) rfl
  have hFc := va_free (wc := [(a0, .inr (0, [.ref a1, .ref a2, .ref a3, .ref a4, .ref a5, .ref a6, .ref a7])), (a3, .inl (cI, 60, .inl xF2)), (a18, .inr (2, [.int i0, .int i1, .int i2, .int i3, .int i4, .int i5, .int i6, .int i7, .int i8, .ref a19, .ref a20, .ref a21, .ref a22, .ref a23]))]) hD hS hA [0, 2, 4] rfl
  refine va_callv (va_runV (As := [.ref a18]) (rest := []) ⟨hx, hb, hml, hown, hwd⟩ (s_X0_clearProfile l dC dI cI cZ cB cJ cM cG a0 a1 a2 a3 a4 a5 a6 a7 a18 a19 a20 a21 a22 a23 i0 i1 i2 i3 i4 i5 i6 i7 i8 xF2 s.heap.size (show (0 : Int) ≤ i0.toInt ∧ i0.toInt ≤ 60 from ⟨by omega, by omega⟩) (show (0 : Int) ≤ i3.toInt ∧ i3.toInt ≤ 6 from ⟨by omega, by omega⟩) (show (0 : Int) ≤ i5.toInt ∧ i5.toInt ≤ 1 from ⟨by omega, by omega⟩) (show (0 : Int) ≤ i8.toInt ∧ i8.toInt ≤ 1 from ⟨by omega, by omega⟩)) (cwV 1 hwd (gV kr20_7 kr20_8 kr20_9 kr1_23 kr20_10) rfl rfl rfl (by decide +kernel) ⟨Nat.le_of_ble_eq_true rfl, Nat.le_of_ble_eq_true rfl⟩) (kPreV hPc hK hDc (ci := 0) (q0 := 0) rfl rfl) rfl rfl hl.1 rfl (lv_room (Nat.le_of_ble_eq_true rfl)) dX0_doMeet_2 ⟨Nat.le_of_ble_eq_true rfl, Nat.le_of_ble_eq_true rfl⟩) hS (fun q _ h => hFc q h) hFc (fun u2 t H1 locs ht9 hvm hw hB hz1 hk1 hS => ?_)
  obtain ⟨u3, U3, V3⟩ := u2
  obtain ⟨hP1, hD1⟩ := hB
  rw [ht9] at hP1
  obtain ⟨hP, hD⟩ := va_join (wr := [(a1, .inl (cI, 24, .inl xF0)), (a4, .inl (cI, 60, .inl xF3)), (a19, .inr (3, [.int i9, .ref a24, .ref a25, .ref a26, .ref a27, .ref a28, .ref a29, .ref a30])), (a25, .inl (cI, 24, .inl xF17)), (a26, .inl (cI, 24, .inl xF18)), (a28, .inl (cI, 24, .inl xF20))]) (w1 := [(a0, .inr (0, [.ref a1, .ref a2, .ref a3, .ref a4, .ref a5, .ref a6, .ref a7])), (a3, .inl (cI, 60, .inl (U3 0))), (a18, .inr (2, [.int i0, .int i1, .int i2, .int i3, .int i4, .int i5, .int i6, .int i7, .int i8, .ref a19, .ref a20, .ref a21, .ref a22, .ref a23]))]) hP hD [0, 2, 4] [1, 3, 5, 6, 7, 8] rfl rfl (by decide) (by decide) hk1 hFc hP1 hD1
  generalize H1 = H at hP hS ⊢
  have hP : va_P (dC, dI) vwCl [(a1, .inl (cI, 24, .inl xF0)), (a4, .inl (cI, 60, .inl xF3)), (a19, .inr (3, [.int i9, .ref a24, .ref a25, .ref a26, .ref a27, .ref a28, .ref a29, .ref a30])), (a25, .inl (cI, 24, .inl xF17)), (a26, .inl (cI, 24, .inl xF18)), (a28, .inl (cI, 24, .inl xF20)), (a0, .inr (0, [.ref a1, .ref a2, .ref a3, .ref a4, .ref a5, .ref a6, .ref a7])), (a3, .inl (cI, 60, .inl (U3 0))), (a18, .inr (2, [.int i0, .int i1, .int i2, .int i3, .int i4, .int i5, .int i6, .int i7, .int i8, .ref a19, .ref a20, .ref a21, .ref a22, .ref a23]))] H := hP
  have hD : va_D A [(a1, .inl (cI, 24, .inl xF0)), (a4, .inl (cI, 60, .inl xF3)), (a19, .inr (3, [.int i9, .ref a24, .ref a25, .ref a26, .ref a27, .ref a28, .ref a29, .ref a30])), (a25, .inl (cI, 24, .inl xF17)), (a26, .inl (cI, 24, .inl xF18)), (a28, .inl (cI, 24, .inl xF20)), (a0, .inr (0, [.ref a1, .ref a2, .ref a3, .ref a4, .ref a5, .ref a6, .ref a7])), (a3, .inl (cI, 60, .inl (U3 0))), (a18, .inr (2, [.int i0, .int i1, .int i2, .int i3, .int i4, .int i5, .int i6, .int i7, .int i8, .ref a19, .ref a20, .ref a21, .ref a22, .ref a23]))] := hD
  refine lv_aload_n hx hb dX0_doMeet_5 rfl (lv_at hl 0 rfl) ?_
  refine lv_aload_n hx hb dX0_doMeet_6 rfl (lv_at hl 1 rfl) ?_
  refine lv_iload_n hx hb dX0_doMeet_7 rfl (lv_at hl 2 rfl) ?_
  have hPc := hP.sub (ws' := [(a0, .inr (0, [.ref a1, .ref a2, .ref a3, .ref a4, .ref a5, .ref a6, .ref a7])), (a1, .inl (cI, 24, .inl xF0)), (a3, .inl (cI, 60, .inl (U3 0))), (a18, .inr (2, [.int i0, .int i1, .int i2, .int i3, .int i4, .int i5, .int i6, .int i7, .int i8, .ref a19, .ref a20, .ref a21, .ref a22, .ref a23])), (a19, .inr (3, [.int i9, .ref a24, .ref a25, .ref a26, .ref a27, .ref a28, .ref a29, .ref a30])), (a25, .inl (cI, 24, .inl xF17)), (a26, .inl (cI, 24, .inl xF18)), (a28, .inl (cI, 24, .inl xF20))]) [6, 0, 7, 8, 2, 3, 4, 5] rfl
  have hDc := hD.sub (ws' := [(a0, .inr (0, [.ref a1, .ref a2, .ref a3, .ref a4, .ref a5, .ref a6, .ref a7])), (a1, .inl (cI, 24, .inl xF0)), (a3, .inl (cI, 60, .inl (U3 0))), (a18, .inr (2, [.int i0, .int i1, .int i2, .int i3, .int i4, .int i5, .int i6, .int i7, .int i8, .ref a19, .ref a20, .ref a21, .ref a22, .ref a23])), (a19, .inr (3, [.int i9, .ref a24, .ref a25, .ref a26, .ref a27, .ref a28, .ref a29, .ref a30])), (a25, .inl (cI, 24, .inl xF17)), (a26, .inl (cI, 24, .inl xF18)), (a28, .inl (cI, 24, .inl xF20))]) [6, 0, 7, 8, 2, 3, 4, 5] (by decide) rfl
  have hFc := va_free (wc := [(a0, .inr (0, [.ref a1, .ref a2, .ref a3, .ref a4, .ref a5, .ref a6, .ref a7])), (a1, .inl (cI, 24, .inl xF0)), (a3, .inl (cI, 60, .inl (U3 0))), (a18, .inr (2, [.int i0, .int i1, .int i2, .int i3, .int i4, .int i5, .int i6, .int i7, .int i8, .ref a19, .ref a20, .ref a21, .ref a22, .ref a23])), (a19, .inr (3, [.int i9, .ref a24, .ref a25, .ref a26, .ref a27, .ref a28, .ref a29, .ref a30])), (a25, .inl (cI, 24, .inl xF17)), (a26, .inl (cI, 24, .inl xF18)), (a28, .inl (cI, 24, .inl xF20))]) hD hS hA [6, 0, 7, 8, 2, 3, 4, 5] rfl
  refine va_callv (va_runV (As := [.ref a18, .int p1]) (rest := []) ⟨hx, hb, hml, hown, hwd⟩ (s_X0_raiseProfile l dC dI cI cZ cB cJ cM cG a0 a1 a2 a3 a4 a5 a6 a7 a18 a19 a20 a21 a22 a23 a24 a25 a26 a27 a28 a29 a30 i0 i1 i2 i3 i4 i5 i6 i7 i8 i9 xF0 (U3 0) xF17 xF18 xF20 p1 H.size (show (0 : Int) ≤ i0.toInt ∧ i0.toInt ≤ 60 from ⟨by omega, by omega⟩) (show (0 : Int) ≤ i3.toInt ∧ i3.toInt ≤ 6 from ⟨by omega, by omega⟩) (show (0 : Int) ≤ i5.toInt ∧ i5.toInt ≤ 1 from ⟨by omega, by omega⟩) (show (0 : Int) ≤ i8.toInt ∧ i8.toInt ≤ 1 from ⟨by omega, by omega⟩) (show (0 : Int) ≤ i9.toInt ∧ i9.toInt ≤ 24 from ⟨by omega, by omega⟩) (show (0 : Int) ≤ p1.toInt ∧ p1.toInt ≤ 23 from ⟨by omega, by omega⟩)) (cwV 2 hwd (gV kr20_12 kr20_13 kr20_14 kr1_23 kr20_15) rfl rfl rfl (by decide +kernel) ⟨Nat.le_of_ble_eq_true rfl, Nat.le_of_ble_eq_true rfl⟩) (kPreV hPc hK hDc (ci := 0) (q0 := 0) rfl rfl) rfl rfl hl.1 rfl (lv_room (Nat.le_of_ble_eq_true rfl)) dX0_doMeet_8 ⟨Nat.le_of_ble_eq_true rfl, Nat.le_of_ble_eq_true rfl⟩) hS (fun q _ h => hFc q h) hFc (fun u5 t H1 locs ht9 hvm hw hB hz1 hk1 hS => ?_)
  obtain ⟨u6, U6, V6⟩ := u5
  obtain ⟨hP1, hD1⟩ := hB
  rw [ht9] at hP1
  obtain ⟨hP, hD⟩ := va_join (wr := [(a4, .inl (cI, 60, .inl xF3))]) (w1 := [(a0, .inr (0, [.ref a1, .ref a2, .ref a3, .ref a4, .ref a5, .ref a6, .ref a7])), (a1, .inl (cI, 24, .inl xF0)), (a3, .inl (cI, 60, .inl (U6 0))), (a18, .inr (2, [.int i0, .int i1, .int i2, .int i3, .int i4, .int i5, .int i6, .int i7, .int i8, .ref a19, .ref a20, .ref a21, .ref a22, .ref a23])), (a19, .inr (3, [.int i9, .ref a24, .ref a25, .ref a26, .ref a27, .ref a28, .ref a29, .ref a30])), (a25, .inl (cI, 24, .inl xF17)), (a26, .inl (cI, 24, .inl xF18)), (a28, .inl (cI, 24, .inl xF20))]) hP hD [6, 0, 7, 8, 2, 3, 4, 5] [1] rfl rfl (by decide) (by decide) hk1 hFc hP1 hD1
  generalize H1 = H at hP hS ⊢
  have hP : va_P (dC, dI) vwCl [(a4, .inl (cI, 60, .inl xF3)), (a0, .inr (0, [.ref a1, .ref a2, .ref a3, .ref a4, .ref a5, .ref a6, .ref a7])), (a1, .inl (cI, 24, .inl xF0)), (a3, .inl (cI, 60, .inl (U6 0))), (a18, .inr (2, [.int i0, .int i1, .int i2, .int i3, .int i4, .int i5, .int i6, .int i7, .int i8, .ref a19, .ref a20, .ref a21, .ref a22, .ref a23])), (a19, .inr (3, [.int i9, .ref a24, .ref a25, .ref a26, .ref a27, .ref a28, .ref a29, .ref a30])), (a25, .inl (cI, 24, .inl xF17)), (a26, .inl (cI, 24, .inl xF18)), (a28, .inl (cI, 24, .inl xF20))] H := hP
  have hD : va_D A [(a4, .inl (cI, 60, .inl xF3)), (a0, .inr (0, [.ref a1, .ref a2, .ref a3, .ref a4, .ref a5, .ref a6, .ref a7])), (a1, .inl (cI, 24, .inl xF0)), (a3, .inl (cI, 60, .inl (U6 0))), (a18, .inr (2, [.int i0, .int i1, .int i2, .int i3, .int i4, .int i5, .int i6, .int i7, .int i8, .ref a19, .ref a20, .ref a21, .ref a22, .ref a23])), (a19, .inr (3, [.int i9, .ref a24, .ref a25, .ref a26, .ref a27, .ref a28, .ref a29, .ref a30])), (a25, .inl (cI, 24, .inl xF17)), (a26, .inl (cI, 24, .inl xF18)), (a28, .inl (cI, 24, .inl xF20))] := hD
  refine lv_aload_n hx hb dX0_doMeet_11 rfl (lv_at hl 0 rfl) ?_
  refine va_get (D := (dC, dI)) (ci := 0) (v := .ref a3) (C := RX0) (T := TX0) (N := 7) hx hb hwd inlX0 hown hK hP 1 rfl rfl 2 (by decide) (hwd _ kr3_19) (fun _ h9 => h9) rfl dX0_doMeet_12 ?_
  refine lv_iconst (v := 0) hx hb dX0_doMeet_15 (by decide) ?_
  refine lv_aload_n hx hb dX0_doMeet_16 rfl (lv_at hl 0 rfl) ?_
  refine va_get (D := (dC, dI)) (ci := 0) (v := .ref a4) (C := RX0) (T := TX0) (N := 7) hx hb hwd inlX0 hown hK hP 1 rfl rfl 3 (by decide) (hwd _ kr3_20) (fun _ h9 => h9) rfl dX0_doMeet_17 ?_
  refine lv_iconst (v := 0) hx hb dX0_doMeet_20 (by decide) ?_
  refine lv_bipush (v := 60) hx hb dX0_doMeet_21 (by decide) ?_
  refine va_copyi hx hb (by rw [hml]; exact hl.1.symm) hown (hwd _ kr18_13) (hwd _ kr18_14) (hwd _ kr18_15) (hwd _ kr18_16) hK hP hD hS 3 0 0 0 rfl rfl rfl rfl rfl (by decide) (by decide) (by decide) (by decide) (by decide) (fun _ _ => rfl) (Nat.le_of_ble_eq_true rfl) (Nat.le_of_ble_eq_true rfl) dX0_doMeet_23 (fun H locs hP hD hS => ?_)
  obtain ⟨f7, ef7⟩ : ∃ f : Nat → Int32, f = va_cpy (U6 0) xF3 (0 : Int32).toNatClampNeg (0 : Int32).toNatClampNeg (60 : Int32).toNatClampNeg := ⟨_, rfl⟩
  have hP : va_P (dC, dI) vwCl [(a4, .inl (cI, 60, .inl f7)), (a0, .inr (0, [.ref a1, .ref a2, .ref a3, .ref a4, .ref a5, .ref a6, .ref a7])), (a1, .inl (cI, 24, .inl xF0)), (a3, .inl (cI, 60, .inl (U6 0))), (a18, .inr (2, [.int i0, .int i1, .int i2, .int i3, .int i4, .int i5, .int i6, .int i7, .int i8, .ref a19, .ref a20, .ref a21, .ref a22, .ref a23])), (a19, .inr (3, [.int i9, .ref a24, .ref a25, .ref a26, .ref a27, .ref a28, .ref a29, .ref a30])), (a25, .inl (cI, 24, .inl xF17)), (a26, .inl (cI, 24, .inl xF18)), (a28, .inl (cI, 24, .inl xF20))] H := by rw [ef7]; exact hP
  have hD : va_D A [(a4, .inl (cI, 60, .inl f7)), (a0, .inr (0, [.ref a1, .ref a2, .ref a3, .ref a4, .ref a5, .ref a6, .ref a7])), (a1, .inl (cI, 24, .inl xF0)), (a3, .inl (cI, 60, .inl (U6 0))), (a18, .inr (2, [.int i0, .int i1, .int i2, .int i3, .int i4, .int i5, .int i6, .int i7, .int i8, .ref a19, .ref a20, .ref a21, .ref a22, .ref a23])), (a19, .inr (3, [.int i9, .ref a24, .ref a25, .ref a26, .ref a27, .ref a28, .ref a29, .ref a30])), (a25, .inl (cI, 24, .inl xF17)), (a26, .inl (cI, 24, .inl xF18)), (a28, .inl (cI, 24, .inl xF20))] := by rw [ef7]; exact hD
  refine lv_aload_n hx hb dX0_doMeet_26 rfl (lv_at hl 0 rfl) ?_
  refine lv_aload_n hx hb dX0_doMeet_27 rfl (lv_at hl 1 rfl) ?_
  have hPc := hP.sub (ws' := [(a0, .inr (0, [.ref a1, .ref a2, .ref a3, .ref a4, .ref a5, .ref a6, .ref a7])), (a3, .inl (cI, 60, .inl (U6 0))), (a18, .inr (2, [.int i0, .int i1, .int i2, .int i3, .int i4, .int i5, .int i6, .int i7, .int i8, .ref a19, .ref a20, .ref a21, .ref a22, .ref a23]))]) [1, 3, 4] rfl
  have hDc := hD.sub (ws' := [(a0, .inr (0, [.ref a1, .ref a2, .ref a3, .ref a4, .ref a5, .ref a6, .ref a7])), (a3, .inl (cI, 60, .inl (U6 0))), (a18, .inr (2, [.int i0, .int i1, .int i2, .int i3, .int i4, .int i5, .int i6, .int i7, .int i8, .ref a19, .ref a20, .ref a21, .ref a22, .ref a23]))]) [1, 3, 4] (by decide) rfl
  have hFc := va_free (wc := [(a0, .inr (0, [.ref a1, .ref a2, .ref a3, .ref a4, .ref a5, .ref a6, .ref a7])), (a3, .inl (cI, 60, .inl (U6 0))), (a18, .inr (2, [.int i0, .int i1, .int i2, .int i3, .int i4, .int i5, .int i6, .int i7, .int i8, .ref a19, .ref a20, .ref a21, .ref a22, .ref a23]))]) hD hS hA [1, 3, 4] rfl
  refine va_callv (va_runV (As := [.ref a18]) (rest := []) ⟨hx, hb, hml, hown, hwd⟩ (s_X0_clearProfile l dC dI cI cZ cB cJ cM cG a0 a1 a2 a3 a4 a5 a6 a7 a18 a19 a20 a21 a22 a23 i0 i1 i2 i3 i4 i5 i6 i7 i8 (U6 0) H.size (show (0 : Int) ≤ i0.toInt ∧ i0.toInt ≤ 60 from ⟨by omega, by omega⟩) (show (0 : Int) ≤ i3.toInt ∧ i3.toInt ≤ 6 from ⟨by omega, by omega⟩) (show (0 : Int) ≤ i5.toInt ∧ i5.toInt ≤ 1 from ⟨by omega, by omega⟩) (show (0 : Int) ≤ i8.toInt ∧ i8.toInt ≤ 1 from ⟨by omega, by omega⟩)) (cwV 1 hwd (gV kr20_7 kr20_8 kr20_9 kr1_23 kr20_10) rfl rfl rfl (by decide +kernel) ⟨Nat.le_of_ble_eq_true rfl, Nat.le_of_ble_eq_true rfl⟩) (kPreV hPc hK hDc (ci := 0) (q0 := 0) rfl rfl) rfl rfl hl.1 rfl (lv_room (Nat.le_of_ble_eq_true rfl)) dX0_doMeet_28 ⟨Nat.le_of_ble_eq_true rfl, Nat.le_of_ble_eq_true rfl⟩) hS (fun q _ h => hFc q h) hFc (fun u9 t H1 locs ht9 hvm hw hB hz1 hk1 hS => ?_)
  obtain ⟨u10, U10, V10⟩ := u9
  obtain ⟨hP1, hD1⟩ := hB
  rw [ht9] at hP1
  obtain ⟨hP, hD⟩ := va_join (wr := [(a4, .inl (cI, 60, .inl f7)), (a1, .inl (cI, 24, .inl xF0)), (a19, .inr (3, [.int i9, .ref a24, .ref a25, .ref a26, .ref a27, .ref a28, .ref a29, .ref a30])), (a25, .inl (cI, 24, .inl xF17)), (a26, .inl (cI, 24, .inl xF18)), (a28, .inl (cI, 24, .inl xF20))]) (w1 := [(a0, .inr (0, [.ref a1, .ref a2, .ref a3, .ref a4, .ref a5, .ref a6, .ref a7])), (a3, .inl (cI, 60, .inl (U10 0))), (a18, .inr (2, [.int i0, .int i1, .int i2, .int i3, .int i4, .int i5, .int i6, .int i7, .int i8, .ref a19, .ref a20, .ref a21, .ref a22, .ref a23]))]) hP hD [1, 3, 4] [0, 2, 5, 6, 7, 8] rfl rfl (by decide) (by decide) hk1 hFc hP1 hD1
  generalize H1 = H at hP hS ⊢
  have hP : va_P (dC, dI) vwCl [(a4, .inl (cI, 60, .inl f7)), (a1, .inl (cI, 24, .inl xF0)), (a19, .inr (3, [.int i9, .ref a24, .ref a25, .ref a26, .ref a27, .ref a28, .ref a29, .ref a30])), (a25, .inl (cI, 24, .inl xF17)), (a26, .inl (cI, 24, .inl xF18)), (a28, .inl (cI, 24, .inl xF20)), (a0, .inr (0, [.ref a1, .ref a2, .ref a3, .ref a4, .ref a5, .ref a6, .ref a7])), (a3, .inl (cI, 60, .inl (U10 0))), (a18, .inr (2, [.int i0, .int i1, .int i2, .int i3, .int i4, .int i5, .int i6, .int i7, .int i8, .ref a19, .ref a20, .ref a21, .ref a22, .ref a23]))] H := hP
  have hD : va_D A [(a4, .inl (cI, 60, .inl f7)), (a1, .inl (cI, 24, .inl xF0)), (a19, .inr (3, [.int i9, .ref a24, .ref a25, .ref a26, .ref a27, .ref a28, .ref a29, .ref a30])), (a25, .inl (cI, 24, .inl xF17)), (a26, .inl (cI, 24, .inl xF18)), (a28, .inl (cI, 24, .inl xF20)), (a0, .inr (0, [.ref a1, .ref a2, .ref a3, .ref a4, .ref a5, .ref a6, .ref a7])), (a3, .inl (cI, 60, .inl (U10 0))), (a18, .inr (2, [.int i0, .int i1, .int i2, .int i3, .int i4, .int i5, .int i6, .int i7, .int i8, .ref a19, .ref a20, .ref a21, .ref a22, .ref a23]))] := hD
  refine lv_aload_n hx hb dX0_doMeet_31 rfl (lv_at hl 0 rfl) ?_
  refine lv_aload_n hx hb dX0_doMeet_32 rfl (lv_at hl 1 rfl) ?_
  refine lv_iload_n hx hb dX0_doMeet_33 rfl (lv_at hl 3 rfl) ?_
  have hPc := hP.sub (ws' := [(a0, .inr (0, [.ref a1, .ref a2, .ref a3, .ref a4, .ref a5, .ref a6, .ref a7])), (a1, .inl (cI, 24, .inl xF0)), (a3, .inl (cI, 60, .inl (U10 0))), (a18, .inr (2, [.int i0, .int i1, .int i2, .int i3, .int i4, .int i5, .int i6, .int i7, .int i8, .ref a19, .ref a20, .ref a21, .ref a22, .ref a23])), (a19, .inr (3, [.int i9, .ref a24, .ref a25, .ref a26, .ref a27, .ref a28, .ref a29, .ref a30])), (a25, .inl (cI, 24, .inl xF17)), (a26, .inl (cI, 24, .inl xF18)), (a28, .inl (cI, 24, .inl xF20))]) [6, 1, 7, 8, 2, 3, 4, 5] rfl
  have hDc := hD.sub (ws' := [(a0, .inr (0, [.ref a1, .ref a2, .ref a3, .ref a4, .ref a5, .ref a6, .ref a7])), (a1, .inl (cI, 24, .inl xF0)), (a3, .inl (cI, 60, .inl (U10 0))), (a18, .inr (2, [.int i0, .int i1, .int i2, .int i3, .int i4, .int i5, .int i6, .int i7, .int i8, .ref a19, .ref a20, .ref a21, .ref a22, .ref a23])), (a19, .inr (3, [.int i9, .ref a24, .ref a25, .ref a26, .ref a27, .ref a28, .ref a29, .ref a30])), (a25, .inl (cI, 24, .inl xF17)), (a26, .inl (cI, 24, .inl xF18)), (a28, .inl (cI, 24, .inl xF20))]) [6, 1, 7, 8, 2, 3, 4, 5] (by decide) rfl
  have hFc := va_free (wc := [(a0, .inr (0, [.ref a1, .ref a2, .ref a3, .ref a4, .ref a5, .ref a6, .ref a7])), (a1, .inl (cI, 24, .inl xF0)), (a3, .inl (cI, 60, .inl (U10 0))), (a18, .inr (2, [.int i0, .int i1, .int i2, .int i3, .int i4, .int i5, .int i6, .int i7, .int i8, .ref a19, .ref a20, .ref a21, .ref a22, .ref a23])), (a19, .inr (3, [.int i9, .ref a24, .ref a25, .ref a26, .ref a27, .ref a28, .ref a29, .ref a30])), (a25, .inl (cI, 24, .inl xF17)), (a26, .inl (cI, 24, .inl xF18)), (a28, .inl (cI, 24, .inl xF20))]) hD hS hA [6, 1, 7, 8, 2, 3, 4, 5] rfl
  refine va_callv (va_runV (As := [.ref a18, .int p2]) (rest := []) ⟨hx, hb, hml, hown, hwd⟩ (s_X0_raiseProfile l dC dI cI cZ cB cJ cM cG a0 a1 a2 a3 a4 a5 a6 a7 a18 a19 a20 a21 a22 a23 a24 a25 a26 a27 a28 a29 a30 i0 i1 i2 i3 i4 i5 i6 i7 i8 i9 xF0 (U10 0) xF17 xF18 xF20 p2 H.size (show (0 : Int) ≤ i0.toInt ∧ i0.toInt ≤ 60 from ⟨by omega, by omega⟩) (show (0 : Int) ≤ i3.toInt ∧ i3.toInt ≤ 6 from ⟨by omega, by omega⟩) (show (0 : Int) ≤ i5.toInt ∧ i5.toInt ≤ 1 from ⟨by omega, by omega⟩) (show (0 : Int) ≤ i8.toInt ∧ i8.toInt ≤ 1 from ⟨by omega, by omega⟩) (show (0 : Int) ≤ i9.toInt ∧ i9.toInt ≤ 24 from ⟨by omega, by omega⟩) (show (0 : Int) ≤ p2.toInt ∧ p2.toInt ≤ 23 from ⟨by omega, by omega⟩)) (cwV 2 hwd (gV kr20_12 kr20_13 kr20_14 kr1_23 kr20_15) rfl rfl rfl (by decide +kernel) ⟨Nat.le_of_ble_eq_true rfl, Nat.le_of_ble_eq_true rfl⟩) (kPreV hPc hK hDc (ci := 0) (q0 := 0) rfl rfl) rfl rfl hl.1 rfl (lv_room (Nat.le_of_ble_eq_true rfl)) dX0_doMeet_34 ⟨Nat.le_of_ble_eq_true rfl, Nat.le_of_ble_eq_true rfl⟩) hS (fun q _ h => hFc q h) hFc (fun u12 t H1 locs ht9 hvm hw hB hz1 hk1 hS => ?_)
  obtain ⟨u13, U13, V13⟩ := u12
  obtain ⟨hP1, hD1⟩ := hB
  rw [ht9] at hP1
  obtain ⟨hP, hD⟩ := va_join (wr := [(a4, .inl (cI, 60, .inl f7))]) (w1 := [(a0, .inr (0, [.ref a1, .ref a2, .ref a3, .ref a4, .ref a5, .ref a6, .ref a7])), (a1, .inl (cI, 24, .inl xF0)), (a3, .inl (cI, 60, .inl (U13 0))), (a18, .inr (2, [.int i0, .int i1, .int i2, .int i3, .int i4, .int i5, .int i6, .int i7, .int i8, .ref a19, .ref a20, .ref a21, .ref a22, .ref a23])), (a19, .inr (3, [.int i9, .ref a24, .ref a25, .ref a26, .ref a27, .ref a28, .ref a29, .ref a30])), (a25, .inl (cI, 24, .inl xF17)), (a26, .inl (cI, 24, .inl xF18)), (a28, .inl (cI, 24, .inl xF20))]) hP hD [6, 1, 7, 8, 2, 3, 4, 5] [0] rfl rfl (by decide) (by decide) hk1 hFc hP1 hD1
  generalize H1 = H at hP hS ⊢
  have hP : va_P (dC, dI) vwCl [(a4, .inl (cI, 60, .inl f7)), (a0, .inr (0, [.ref a1, .ref a2, .ref a3, .ref a4, .ref a5, .ref a6, .ref a7])), (a1, .inl (cI, 24, .inl xF0)), (a3, .inl (cI, 60, .inl (U13 0))), (a18, .inr (2, [.int i0, .int i1, .int i2, .int i3, .int i4, .int i5, .int i6, .int i7, .int i8, .ref a19, .ref a20, .ref a21, .ref a22, .ref a23])), (a19, .inr (3, [.int i9, .ref a24, .ref a25, .ref a26, .ref a27, .ref a28, .ref a29, .ref a30])), (a25, .inl (cI, 24, .inl xF17)), (a26, .inl (cI, 24, .inl xF18)), (a28, .inl (cI, 24, .inl xF20))] H := hP
  have hD : va_D A [(a4, .inl (cI, 60, .inl f7)), (a0, .inr (0, [.ref a1, .ref a2, .ref a3, .ref a4, .ref a5, .ref a6, .ref a7])), (a1, .inl (cI, 24, .inl xF0)), (a3, .inl (cI, 60, .inl (U13 0))), (a18, .inr (2, [.int i0, .int i1, .int i2, .int i3, .int i4, .int i5, .int i6, .int i7, .int i8, .ref a19, .ref a20, .ref a21, .ref a22, .ref a23])), (a19, .inr (3, [.int i9, .ref a24, .ref a25, .ref a26, .ref a27, .ref a28, .ref a29, .ref a30])), (a25, .inl (cI, 24, .inl xF17)), (a26, .inl (cI, 24, .inl xF18)), (a28, .inl (cI, 24, .inl xF20))] := hD
  refine lv_iconst (v := 0) hx hb dX0_doMeet_37 (by decide) ?_
  refine lv_istore (lv' := [(4, .int 0), (0, .ref a0), (1, .ref a18), (2, .int p1), (3, .int p2)]) hx hb dX0_doMeet_38 hl (by decide) rfl (fun ls hl => ?_)
  have lp1 : ∀ (d : Nat), ∀ (H : Heap) (locs : List Loc) (ls : Array Slot) (w4_1 : Int32), ((0 : Int) ≤ w4_1.toInt ∧ w4_1.toInt ≤ 60) → (60 - w4_1.toInt).toNat < d → va_P (dC, dI) vwCl [(a4, .inl (cI, 60, .inl f7)), (a0, .inr (0, [.ref a1, .ref a2, .ref a3, .ref a4, .ref a5, .ref a6, .ref a7])), (a1, .inl (cI, 24, .inl xF0)), (a3, .inl (cI, 60, .inl (U13 0))), (a18, .inr (2, [.int i0, .int i1, .int i2, .int i3, .int i4, .int i5, .int i6, .int i7, .int i8, .ref a19, .ref a20, .ref a21, .ref a22, .ref a23])), (a19, .inr (3, [.int i9, .ref a24, .ref a25, .ref a26, .ref a27, .ref a28, .ref a29, .ref a30])), (a25, .inl (cI, 24, .inl xF17)), (a26, .inl (cI, 24, .inl xF18)), (a28, .inl (cI, 24, .inl xF20))] H → va_D A [(a4, .inl (cI, 60, .inl f7)), (a0, .inr (0, [.ref a1, .ref a2, .ref a3, .ref a4, .ref a5, .ref a6, .ref a7])), (a1, .inl (cI, 24, .inl xF0)), (a3, .inl (cI, 60, .inl (U13 0))), (a18, .inr (2, [.int i0, .int i1, .int i2, .int i3, .int i4, .int i5, .int i6, .int i7, .int i8, .ref a19, .ref a20, .ref a21, .ref a22, .ref a23])), (a19, .inr (3, [.int i9, .ref a24, .ref a25, .ref a26, .ref a27, .ref a28, .ref a29, .ref a30])), (a25, .inl (cI, 24, .inl xF17)), (a26, .inl (cI, 24, .inl xF18)), (a28, .inl (cI, 24, .inl xF20))] → va_S A s.heap H locs → lv_has ls 5 [(0, .ref a0), (1, .ref a18), (2, .int p1), (3, .int p2), (4, .int w4_1)] → W p l e ({ frames := 2, cells := 0, slots := 0, locals := 64 } : Room) s m ([.ref a0, .ref a18, .int p1, .int p2] : List Value).toArray below meth c H locs 0 0 Q (F0 m 40 ls []) := by
    intro d
    induction d with
    | zero =>
      intro H locs ls w4_1 hr_w4_1 hm hP hD hS hl
      omega
    | succ d ih1 =>
      intro H locs ls w4_1 hr_w4_1 hm hP hD hS hl
      refine lv_iload hx hb dX0_doMeet_40 (lv_at hl 4 rfl) ?_
      refine lv_aload_n hx hb dX0_doMeet_42 rfl (lv_at hl 1 rfl) ?_
      refine va_get (D := (dC, dI)) (ci := 2) (v := .int i0) (C := RX2) (T := TX2) (N := 14) hx hb hwd inlX2 hown hK hP 4 rfl rfl 0 (by decide) (hwd _ kr20_11) (fun _ h9 => h9) rfl dX0_doMeet_43 ?_
      refine lv_icmp_ge (tgt := 77) hx hb dX0_doMeet_46 (by decide) (fun c66 => ?_) (fun c66 => ?_)
      · rw [ki_le] at c66
        refine lv_iconst (v := 0) hx hb dX0_doMeet_77 (by decide) ?_
        have hP9 := hP.sub (ws' := [(a0, .inr (0, [.ref a1, .ref a2, .ref a3, .ref a4, .ref a5, .ref a6, .ref a7])), (a1, .inl (cI, 24, .inl xF0)), (a3, .inl (cI, 60, .inl (U13 0))), (a4, .inl (cI, 60, .inl f7)), (a18, .inr (2, [.int i0, .int i1, .int i2, .int i3, .int i4, .int i5, .int i6, .int i7, .int i8, .ref a19, .ref a20, .ref a21, .ref a22, .ref a23])), (a19, .inr (3, [.int i9, .ref a24, .ref a25, .ref a26, .ref a27, .ref a28, .ref a29, .ref a30])), (a25, .inl (cI, 24, .inl xF17)), (a26, .inl (cI, 24, .inl xF18)), (a28, .inl (cI, 24, .inl xF20))]) [1, 2, 3, 0, 4, 5, 6, 7, 8] rfl
        have hD9 := hD.sub (ws' := [(a0, .inr (0, [.ref a1, .ref a2, .ref a3, .ref a4, .ref a5, .ref a6, .ref a7])), (a1, .inl (cI, 24, .inl xF0)), (a3, .inl (cI, 60, .inl (U13 0))), (a4, .inl (cI, 60, .inl f7)), (a18, .inr (2, [.int i0, .int i1, .int i2, .int i3, .int i4, .int i5, .int i6, .int i7, .int i8, .ref a19, .ref a20, .ref a21, .ref a22, .ref a23])), (a19, .inr (3, [.int i9, .ref a24, .ref a25, .ref a26, .ref a27, .ref a28, .ref a29, .ref a30])), (a25, .inl (cI, 24, .inl xF17)), (a26, .inl (cI, 24, .inl xF18)), (a28, .inl (cI, 24, .inl xF20))]) [1, 2, 3, 0, 4, 5, 6, 7, 8] (by decide) rfl
        rw [hQ]
        exact W.zret (v := 0) hx hb hr (by decide) (fun t ht hW => ⟨⟨0, (pickG 0 [], pickG (fun _ => 0) [(U13 0), f7], pickG (fun _ => 0) []), rfl, ⟨(show (0 : Int) ≤ (0 : Int32).toInt ∧ (0 : Int32).toInt ≤ 1 from ⟨by omega, by omega⟩), trivial⟩, (by rw [ht]; exact hP9), hD9⟩, hS.F ht⟩) hS.2.2 dX0_doMeet_78
      · rw [ki_le] at c66
        refine lv_aload_n hx hb dX0_doMeet_49 rfl (lv_at hl 0 rfl) ?_
        refine va_get (D := (dC, dI)) (ci := 0) (v := .ref a3) (C := RX0) (T := TX0) (N := 7) hx hb hwd inlX0 hown hK hP 1 rfl rfl 2 (by decide) (hwd _ kr3_19) (fun _ h9 => h9) rfl dX0_doMeet_50 ?_
        refine lv_iload hx hb dX0_doMeet_53 (lv_at hl 4 rfl) ?_
        have h67 : vp_in w4_1 60 := (vp_of (by omega) (by omega))
        refine va_iald hx hb hK hP 3 0 rfl rfl h67 dX0_doMeet_55 ?_
        refine lv_topi (fun x68 ex68 => ?_)
        refine lv_if_le (tgt := 71) hx hb dX0_doMeet_56 (by decide) (fun c69 => ?_) (fun c69 => ?_)
        · rw [ki_le] at c69
          obtain ⟨x70, ex70⟩ : ∃ y : Int32, y = w4_1 + 1 := ⟨_, rfl⟩
          refine lv_iinc (v := x70) (lv' := [(4, .int x70), (0, .ref a0), (1, .ref a18), (2, .int p1), (3, .int p2)]) hx hb dX0_doMeet_71 hl (k := 4) rfl (by rw [ex70]; rfl) (by decide) rfl (fun ls hl => ?_)
          have tx70 := ia_add (a := w4_1) (b := (1 : Int32)) (by omega) (by omega)
          rw [← ex70] at tx70
          refine lv_goto (tgt := 40) hx hb dX0_doMeet_74 (by decide) ?_
          exact ih1 _ _ ls x70 (show (0 : Int) ≤ x70.toInt ∧ x70.toInt ≤ 60 from ⟨by omega, by omega⟩) (by omega) (hP.sub (ws' := [(a4, .inl (cI, 60, .inl f7)), (a0, .inr (0, [.ref a1, .ref a2, .ref a3, .ref a4, .ref a5, .ref a6, .ref a7])), (a1, .inl (cI, 24, .inl xF0)), (a3, .inl (cI, 60, .inl (U13 0))), (a18, .inr (2, [.int i0, .int i1, .int i2, .int i3, .int i4, .int i5, .int i6, .int i7, .int i8, .ref a19, .ref a20, .ref a21, .ref a22, .ref a23])), (a19, .inr (3, [.int i9, .ref a24, .ref a25, .ref a26, .ref a27, .ref a28, .ref a29, .ref a30])), (a25, .inl (cI, 24, .inl xF17)), (a26, .inl (cI, 24, .inl xF18)), (a28, .inl (cI, 24, .inl xF20))]) [0, 1, 2, 3, 4, 5, 6, 7, 8] rfl) (hD.sub (ws' := [(a4, .inl (cI, 60, .inl f7)), (a0, .inr (0, [.ref a1, .ref a2, .ref a3, .ref a4, .ref a5, .ref a6, .ref a7])), (a1, .inl (cI, 24, .inl xF0)), (a3, .inl (cI, 60, .inl (U13 0))), (a18, .inr (2, [.int i0, .int i1, .int i2, .int i3, .int i4, .int i5, .int i6, .int i7, .int i8, .ref a19, .ref a20, .ref a21, .ref a22, .ref a23])), (a19, .inr (3, [.int i9, .ref a24, .ref a25, .ref a26, .ref a27, .ref a28, .ref a29, .ref a30])), (a25, .inl (cI, 24, .inl xF17)), (a26, .inl (cI, 24, .inl xF18)), (a28, .inl (cI, 24, .inl xF20))]) [0, 1, 2, 3, 4, 5, 6, 7, 8] (by decide) rfl) hS (lv_sub hl [1, 2, 3, 4, 0] rfl)
        · rw [ki_le] at c69
          refine lv_aload_n hx hb dX0_doMeet_59 rfl (lv_at hl 0 rfl) ?_
          refine va_get (D := (dC, dI)) (ci := 0) (v := .ref a4) (C := RX0) (T := TX0) (N := 7) hx hb hwd inlX0 hown hK hP 1 rfl rfl 3 (by decide) (hwd _ kr3_20) (fun _ h9 => h9) rfl dX0_doMeet_60 ?_
          refine lv_iload hx hb dX0_doMeet_63 (lv_at hl 4 rfl) ?_
          have h71 : vp_in w4_1 60 := (vp_of (by omega) (by omega))
          refine va_iald hx hb hK hP 0 0 rfl rfl h71 dX0_doMeet_65 ?_
          refine lv_topi (fun x72 ex72 => ?_)
          refine lv_if_le (tgt := 71) hx hb dX0_doMeet_66 (by decide) (fun c73 => ?_) (fun c73 => ?_)
          · rw [ki_le] at c73
            obtain ⟨x74, ex74⟩ : ∃ y : Int32, y = w4_1 + 1 := ⟨_, rfl⟩
            refine lv_iinc (v := x74) (lv' := [(4, .int x74), (0, .ref a0), (1, .ref a18), (2, .int p1), (3, .int p2)]) hx hb dX0_doMeet_71 hl (k := 4) rfl (by rw [ex74]; rfl) (by decide) rfl (fun ls hl => ?_)
            have tx74 := ia_add (a := w4_1) (b := (1 : Int32)) (by omega) (by omega)
            rw [← ex74] at tx74
            refine lv_goto (tgt := 40) hx hb dX0_doMeet_74 (by decide) ?_
            exact ih1 _ _ ls x74 (show (0 : Int) ≤ x74.toInt ∧ x74.toInt ≤ 60 from ⟨by omega, by omega⟩) (by omega) (hP.sub (ws' := [(a4, .inl (cI, 60, .inl f7)), (a0, .inr (0, [.ref a1, .ref a2, .ref a3, .ref a4, .ref a5, .ref a6, .ref a7])), (a1, .inl (cI, 24, .inl xF0)), (a3, .inl (cI, 60, .inl (U13 0))), (a18, .inr (2, [.int i0, .int i1, .int i2, .int i3, .int i4, .int i5, .int i6, .int i7, .int i8, .ref a19, .ref a20, .ref a21, .ref a22, .ref a23])), (a19, .inr (3, [.int i9, .ref a24, .ref a25, .ref a26, .ref a27, .ref a28, .ref a29, .ref a30])), (a25, .inl (cI, 24, .inl xF17)), (a26, .inl (cI, 24, .inl xF18)), (a28, .inl (cI, 24, .inl xF20))]) [0, 1, 2, 3, 4, 5, 6, 7, 8] rfl) (hD.sub (ws' := [(a4, .inl (cI, 60, .inl f7)), (a0, .inr (0, [.ref a1, .ref a2, .ref a3, .ref a4, .ref a5, .ref a6, .ref a7])), (a1, .inl (cI, 24, .inl xF0)), (a3, .inl (cI, 60, .inl (U13 0))), (a18, .inr (2, [.int i0, .int i1, .int i2, .int i3, .int i4, .int i5, .int i6, .int i7, .int i8, .ref a19, .ref a20, .ref a21, .ref a22, .ref a23])), (a19, .inr (3, [.int i9, .ref a24, .ref a25, .ref a26, .ref a27, .ref a28, .ref a29, .ref a30])), (a25, .inl (cI, 24, .inl xF17)), (a26, .inl (cI, 24, .inl xF18)), (a28, .inl (cI, 24, .inl xF20))]) [0, 1, 2, 3, 4, 5, 6, 7, 8] (by decide) rfl) hS (lv_sub hl [1, 2, 3, 4, 0] rfl)
          · rw [ki_le] at c73
            refine lv_iconst (v := 1) hx hb dX0_doMeet_69 (by decide) ?_
            have hP9 := hP.sub (ws' := [(a0, .inr (0, [.ref a1, .ref a2, .ref a3, .ref a4, .ref a5, .ref a6, .ref a7])), (a1, .inl (cI, 24, .inl xF0)), (a3, .inl (cI, 60, .inl (U13 0))), (a4, .inl (cI, 60, .inl f7)), (a18, .inr (2, [.int i0, .int i1, .int i2, .int i3, .int i4, .int i5, .int i6, .int i7, .int i8, .ref a19, .ref a20, .ref a21, .ref a22, .ref a23])), (a19, .inr (3, [.int i9, .ref a24, .ref a25, .ref a26, .ref a27, .ref a28, .ref a29, .ref a30])), (a25, .inl (cI, 24, .inl xF17)), (a26, .inl (cI, 24, .inl xF18)), (a28, .inl (cI, 24, .inl xF20))]) [1, 2, 3, 0, 4, 5, 6, 7, 8] rfl
            have hD9 := hD.sub (ws' := [(a0, .inr (0, [.ref a1, .ref a2, .ref a3, .ref a4, .ref a5, .ref a6, .ref a7])), (a1, .inl (cI, 24, .inl xF0)), (a3, .inl (cI, 60, .inl (U13 0))), (a4, .inl (cI, 60, .inl f7)), (a18, .inr (2, [.int i0, .int i1, .int i2, .int i3, .int i4, .int i5, .int i6, .int i7, .int i8, .ref a19, .ref a20, .ref a21, .ref a22, .ref a23])), (a19, .inr (3, [.int i9, .ref a24, .ref a25, .ref a26, .ref a27, .ref a28, .ref a29, .ref a30])), (a25, .inl (cI, 24, .inl xF17)), (a26, .inl (cI, 24, .inl xF18)), (a28, .inl (cI, 24, .inl xF20))]) [1, 2, 3, 0, 4, 5, 6, 7, 8] (by decide) rfl
            rw [hQ]
            exact W.zret (v := 1) hx hb hr (by decide) (fun t ht hW => ⟨⟨1, (pickG 0 [], pickG (fun _ => 0) [(U13 0), f7], pickG (fun _ => 0) []), rfl, ⟨(show (0 : Int) ≤ (1 : Int32).toInt ∧ (1 : Int32).toInt ≤ 1 from ⟨by omega, by omega⟩), trivial⟩, (by rw [ht]; exact hP9), hD9⟩, hS.F ht⟩) hS.2.2 dX0_doMeet_70
  exact lp1 _ _ _ ls (0) (show (0 : Int) ≤ (0 : Int32).toInt ∧ (0 : Int32).toInt ≤ 60 from ⟨by omega, by omega⟩) (Nat.lt_succ_self _) (hP.sub (ws' := [(a4, .inl (cI, 60, .inl f7)), (a0, .inr (0, [.ref a1, .ref a2, .ref a3, .ref a4, .ref a5, .ref a6, .ref a7])), (a1, .inl (cI, 24, .inl xF0)), (a3, .inl (cI, 60, .inl (U13 0))), (a18, .inr (2, [.int i0, .int i1, .int i2, .int i3, .int i4, .int i5, .int i6, .int i7, .int i8, .ref a19, .ref a20, .ref a21, .ref a22, .ref a23])), (a19, .inr (3, [.int i9, .ref a24, .ref a25, .ref a26, .ref a27, .ref a28, .ref a29, .ref a30])), (a25, .inl (cI, 24, .inl xF17)), (a26, .inl (cI, 24, .inl xF18)), (a28, .inl (cI, 24, .inl xF20))]) [0, 1, 2, 3, 4, 5, 6, 7, 8] rfl) (hD.sub (ws' := [(a4, .inl (cI, 60, .inl f7)), (a0, .inr (0, [.ref a1, .ref a2, .ref a3, .ref a4, .ref a5, .ref a6, .ref a7])), (a1, .inl (cI, 24, .inl xF0)), (a3, .inl (cI, 60, .inl (U13 0))), (a18, .inr (2, [.int i0, .int i1, .int i2, .int i3, .int i4, .int i5, .int i6, .int i7, .int i8, .ref a19, .ref a20, .ref a21, .ref a22, .ref a23])), (a19, .inr (3, [.int i9, .ref a24, .ref a25, .ref a26, .ref a27, .ref a28, .ref a29, .ref a30])), (a25, .inl (cI, 24, .inl xF17)), (a26, .inl (cI, 24, .inl xF18)), (a28, .inl (cI, 24, .inl xF20))]) [0, 1, 2, 3, 4, 5, 6, 7, 8] (by decide) rfl) hS (lv_sub hl [1, 2, 3, 4, 0] rfl)
theorem dX0_isSpare_0 : decode cX0_isSpare 0 = .ok (.aload_n 0, 1) := by decide +kernel
theorem dX0_isSpare_1 : decode cX0_isSpare 1 = .ok (.getfield 9, 3) := by decide +kernel
theorem dX0_isSpare_4 : decode cX0_isSpare 4 = .ok (.iload_n 2, 1) := by decide +kernel
theorem dX0_isSpare_5 : decode cX0_isSpare 5 = .ok (.iaload, 1) := by decide +kernel
theorem dX0_isSpare_6 : decode cX0_isSpare 6 = .ok (.istore_n 3, 1) := by decide +kernel
theorem dX0_isSpare_7 : decode cX0_isSpare 7 = .ok (.aload_n 0, 1) := by decide +kernel
theorem dX0_isSpare_8 : decode cX0_isSpare 8 = .ok (.aload_n 1, 1) := by decide +kernel
theorem dX0_isSpare_9 : decode cX0_isSpare 9 = .ok (.aload_n 1, 1) := by decide +kernel
theorem dX0_isSpare_10 : decode cX0_isSpare 10 = .ok (.getfield 48, 3) := by decide +kernel
theorem dX0_isSpare_13 : decode cX0_isSpare 13 = .ok (.getfield 67, 3) := by decide +kernel
theorem dX0_isSpare_16 : decode cX0_isSpare 16 = .ok (.iload_n 2, 1) := by decide +kernel
theorem dX0_isSpare_17 : decode cX0_isSpare 17 = .ok (.iaload, 1) := by decide +kernel
theorem dX0_isSpare_18 : decode cX0_isSpare 18 = .ok (.invokevirtual 59, 3) := by decide +kernel
theorem dX0_isSpare_21 : decode cX0_isSpare 21 = .ok (.aload_n 0, 1) := by decide +kernel
theorem dX0_isSpare_22 : decode cX0_isSpare 22 = .ok (.getfield 18, 3) := by decide +kernel
theorem dX0_isSpare_25 : decode cX0_isSpare 25 = .ok (.iconst 0, 1) := by decide +kernel
theorem dX0_isSpare_26 : decode cX0_isSpare 26 = .ok (.aload_n 0, 1) := by decide +kernel
theorem dX0_isSpare_27 : decode cX0_isSpare 27 = .ok (.getfield 21, 3) := by decide +kernel
theorem dX0_isSpare_30 : decode cX0_isSpare 30 = .ok (.iconst 0, 1) := by decide +kernel
theorem dX0_isSpare_31 : decode cX0_isSpare 31 = .ok (.bipush 60, 2) := by decide +kernel
theorem dX0_isSpare_33 : decode cX0_isSpare 33 = .ok (.invokestatic 89, 3) := by decide +kernel
theorem dX0_isSpare_36 : decode cX0_isSpare 36 = .ok (.aload_n 0, 1) := by decide +kernel
theorem dX0_isSpare_37 : decode cX0_isSpare 37 = .ok (.getfield 9, 3) := by decide +kernel
theorem dX0_isSpare_40 : decode cX0_isSpare 40 = .ok (.iload_n 2, 1) := by decide +kernel
theorem dX0_isSpare_41 : decode cX0_isSpare 41 = .ok (.iconst 0, 1) := by decide +kernel
theorem dX0_isSpare_42 : decode cX0_isSpare 42 = .ok (.iastore, 1) := by decide +kernel
theorem dX0_isSpare_43 : decode cX0_isSpare 43 = .ok (.aload_n 0, 1) := by decide +kernel
theorem dX0_isSpare_44 : decode cX0_isSpare 44 = .ok (.aload_n 1, 1) := by decide +kernel
theorem dX0_isSpare_45 : decode cX0_isSpare 45 = .ok (.aload_n 1, 1) := by decide +kernel
theorem dX0_isSpare_46 : decode cX0_isSpare 46 = .ok (.getfield 48, 3) := by decide +kernel
theorem dX0_isSpare_49 : decode cX0_isSpare 49 = .ok (.getfield 67, 3) := by decide +kernel
theorem dX0_isSpare_52 : decode cX0_isSpare 52 = .ok (.iload_n 2, 1) := by decide +kernel
theorem dX0_isSpare_53 : decode cX0_isSpare 53 = .ok (.iaload, 1) := by decide +kernel
theorem dX0_isSpare_54 : decode cX0_isSpare 54 = .ok (.invokevirtual 59, 3) := by decide +kernel
theorem dX0_isSpare_57 : decode cX0_isSpare 57 = .ok (.aload_n 0, 1) := by decide +kernel
theorem dX0_isSpare_58 : decode cX0_isSpare 58 = .ok (.getfield 9, 3) := by decide +kernel
theorem dX0_isSpare_61 : decode cX0_isSpare 61 = .ok (.iload_n 2, 1) := by decide +kernel
theorem dX0_isSpare_62 : decode cX0_isSpare 62 = .ok (.iload_n 3, 1) := by decide +kernel
theorem dX0_isSpare_63 : decode cX0_isSpare 63 = .ok (.iastore, 1) := by decide +kernel
theorem dX0_isSpare_64 : decode cX0_isSpare 64 = .ok (.iconst 0, 1) := by decide +kernel
theorem dX0_isSpare_65 : decode cX0_isSpare 65 = .ok (.istore 4, 2) := by decide +kernel
theorem dX0_isSpare_67 : decode cX0_isSpare 67 = .ok (.iload 4, 2) := by decide +kernel
theorem dX0_isSpare_69 : decode cX0_isSpare 69 = .ok (.aload_n 1, 1) := by decide +kernel
theorem dX0_isSpare_70 : decode cX0_isSpare 70 = .ok (.getfield 73, 3) := by decide +kernel
theorem dX0_isSpare_73 : decode cX0_isSpare 73 = .ok (.if_icmp .ge 28, 3) := by decide +kernel
theorem dX0_isSpare_76 : decode cX0_isSpare 76 = .ok (.aload_n 0, 1) := by decide +kernel
theorem dX0_isSpare_77 : decode cX0_isSpare 77 = .ok (.getfield 18, 3) := by decide +kernel
theorem dX0_isSpare_80 : decode cX0_isSpare 80 = .ok (.iload 4, 2) := by decide +kernel
theorem dX0_isSpare_82 : decode cX0_isSpare 82 = .ok (.iaload, 1) := by decide +kernel
theorem dX0_isSpare_83 : decode cX0_isSpare 83 = .ok (.aload_n 0, 1) := by decide +kernel
theorem dX0_isSpare_84 : decode cX0_isSpare 84 = .ok (.getfield 21, 3) := by decide +kernel
theorem dX0_isSpare_87 : decode cX0_isSpare 87 = .ok (.iload 4, 2) := by decide +kernel
theorem dX0_isSpare_89 : decode cX0_isSpare 89 = .ok (.iaload, 1) := by decide +kernel
theorem dX0_isSpare_90 : decode cX0_isSpare 90 = .ok (.if_icmp .eq 5, 3) := by decide +kernel
theorem dX0_isSpare_93 : decode cX0_isSpare 93 = .ok (.iconst 0, 1) := by decide +kernel
theorem dX0_isSpare_94 : decode cX0_isSpare 94 = .ok (.ireturn, 1) := by decide +kernel
theorem dX0_isSpare_95 : decode cX0_isSpare 95 = .ok (.iinc 4 1, 3) := by decide +kernel
theorem dX0_isSpare_98 : decode cX0_isSpare 98 = .ok (.goto (-31), 3) := by decide +kernel
theorem dX0_isSpare_101 : decode cX0_isSpare 101 = .ok (.iconst 1, 1) := by decide +kernel
theorem dX0_isSpare_102 : decode cX0_isSpare 102 = .ok (.ireturn, 1) := by decide +kernel
set_option maxHeartbeats 4000000 in
set_option maxRecDepth 100000 in
theorem s_X0_isSpare (l : Launch) (dC : Nat → ClassId) (dI : Nat → Nat → Nat) (cI cZ cB cJ cM cG : ClassId) (a0 a1 a2 a3 a4 a5 a6 a7 a18 a19 a20 a21 a22 a23 a24 a25 a26 a27 a28 a29 a30 : Nat) (i0 i1 i2 i3 i4 i5 i6 i7 i8 i9 : Int32) (xF0 xF2 xF3 xF16 xF17 xF18 xF20 : Nat → Int32) (p1 : Int32) (sz : Nat) (p_0 : (0 : Int) ≤ i0.toInt ∧ i0.toInt ≤ 60) (p_1 : (0 : Int) ≤ i3.toInt ∧ i3.toInt ≤ 6) (p_2 : (0 : Int) ≤ i5.toInt ∧ i5.toInt ≤ 1) (p_3 : (0 : Int) ≤ i8.toInt ∧ i8.toInt ≤ 1) (p_4 : (0 : Int) ≤ i9.toInt ∧ i9.toInt ≤ 24) (p_5 : (0 : Int) ≤ p1.toInt ∧ p1.toInt ≤ 23) : Met l yX0_isSpare (kw yX0_isSpare cX0_isSpare 5 (some .boolean)) ({ frames := 3, cells := 0, slots := 0, locals := 75 } : Room) (va_Pc [.ref a0, .ref a18, .int p1] (kPre dC dI [(cI, .int), (cZ, .boolean), (cB, .byte), (cJ, .long), (cM, .object RX2), (cG, .array .int)] [(a0, .inr (0, [.ref a1, .ref a2, .ref a3, .ref a4, .ref a5, .ref a6, .ref a7])), (a1, .inl (cI, 24, .inl xF0)), (a3, .inl (cI, 60, .inl xF2)), (a4, .inl (cI, 60, .inl xF3)), (a18, .inr (2, [.int i0, .int i1, .int i2, .int i3, .int i4, .int i5, .int i6, .int i7, .int i8, .ref a19, .ref a20, .ref a21, .ref a22, .ref a23])), (a19, .inr (3, [.int i9, .ref a24, .ref a25, .ref a26, .ref a27, .ref a28, .ref a29, .ref a30])), (a24, .inl (cI, 24, .inl xF16)), (a25, .inl (cI, 24, .inl xF17)), (a26, .inl (cI, 24, .inl xF18)), (a28, .inl (cI, 24, .inl xF20))] sz)) (va_Qi (fun (r : Int32) (u9 : (Nat → Int32) × (Nat → Nat → Int32) × (Nat → Nat → Int64)) => ((0 : Int) ≤ r.toInt ∧ r.toInt ≤ 1) ∧ True) (fun u9 t => va_P (dC, dI) vwCl [(a0, .inr (0, [.ref a1, .ref a2, .ref a3, .ref a4, .ref a5, .ref a6, .ref a7])), (a1, .inl (cI, 24, .inl (u9.2.1 0))), (a3, .inl (cI, 60, .inl (u9.2.1 1))), (a4, .inl (cI, 60, .inl (u9.2.1 2))), (a18, .inr (2, [.int i0, .int i1, .int i2, .int i3, .int i4, .int i5, .int i6, .int i7, .int i8, .ref a19, .ref a20, .ref a21, .ref a22, .ref a23])), (a19, .inr (3, [.int i9, .ref a24, .ref a25, .ref a26, .ref a27, .ref a28, .ref a29, .ref a30])), (a24, .inl (cI, 24, .inl xF16)), (a25, .inl (cI, 24, .inl xF17)), (a26, .inl (cI, 24, .inl xF18)), (a28, .inl (cI, 24, .inl xF20))] t.heap ∧ va_D (va_A [(a0, .inr (0, [.ref a1, .ref a2, .ref a3, .ref a4, .ref a5, .ref a6, .ref a7])), (a1, .inl (cI, 24, .inl xF0)), (a3, .inl (cI, 60, .inl xF2)), (a4, .inl (cI, 60, .inl xF3)), (a18, .inr (2, [.int i0, .int i1, .int i2, .int i3, .int i4, .int i5, .int i6, .int i7, .int i8, .ref a19, .ref a20, .ref a21, .ref a22, .ref a23])), (a19, .inr (3, [.int i9, .ref a24, .ref a25, .ref a26, .ref a27, .ref a28, .ref a29, .ref a30])), (a24, .inl (cI, 24, .inl xF16)), (a25, .inl (cI, 24, .inl xF17)), (a26, .inl (cI, 24, .inl xF18)), (a28, .inl (cI, 24, .inl xF20))] sz) [(a0, .inr (0, [.ref a1, .ref a2, .ref a3, .ref a4, .ref a5, .ref a6, .ref a7])), (a1, .inl (cI, 24, .inl (u9.2.1 0))), (a3, .inl (cI, 60, .inl (u9.2.1 1))), (a4, .inl (cI, 60, .inl (u9.2.1 2))), (a18, .inr (2, [.int i0, .int i1, .int i2, .int i3, .int i4, .int i5, .int i6, .int i7, .int i8, .ref a19, .ref a20, .ref a21, .ref a22, .ref a23])), (a19, .inr (3, [.int i9, .ref a24, .ref a25, .ref a26, .ref a27, .ref a28, .ref a29, .ref a30])), (a24, .inl (cI, 24, .inl xF16)), (a25, .inl (cI, 24, .inl xF17)), (a26, .inl (cI, 24, .inl xF18)), (a28, .inl (cI, 24, .inl xF20))]) (va_A [(a0, .inr (0, [.ref a1, .ref a2, .ref a3, .ref a4, .ref a5, .ref a6, .ref a7])), (a1, .inl (cI, 24, .inl xF0)), (a3, .inl (cI, 60, .inl xF2)), (a4, .inl (cI, 60, .inl xF3)), (a18, .inr (2, [.int i0, .int i1, .int i2, .int i3, .int i4, .int i5, .int i6, .int i7, .int i8, .ref a19, .ref a20, .ref a21, .ref a22, .ref a23])), (a19, .inr (3, [.int i9, .ref a24, .ref a25, .ref a26, .ref a27, .ref a28, .ref a29, .ref a30])), (a24, .inl (cI, 24, .inl xF16)), (a25, .inl (cI, 24, .inl xF17)), (a26, .inl (cI, 24, .inl xF18)), (a28, .inl (cI, 24, .inl xF20))] sz)) 0 0 (va_A [(a0, .inr (0, [.ref a1, .ref a2, .ref a3, .ref a4, .ref a5, .ref a6, .ref a7])), (a1, .inl (cI, 24, .inl xF0)), (a3, .inl (cI, 60, .inl xF2)), (a4, .inl (cI, 60, .inl xF3)), (a18, .inr (2, [.int i0, .int i1, .int i2, .int i3, .int i4, .int i5, .int i6, .int i7, .int i8, .ref a19, .ref a20, .ref a21, .ref a22, .ref a23])), (a19, .inr (3, [.int i9, .ref a24, .ref a25, .ref a26, .ref a27, .ref a28, .ref a29, .ref a30])), (a24, .inl (cI, 24, .inl xF16)), (a25, .inl (cI, 24, .inl xF17)), (a26, .inl (cI, 24, .inl xF18)), (a28, .inl (cI, 24, .inl xF20))] sz) := by
  refine kEnter (by decide) (Nat.le_of_ble_eq_true rfl) ?_
  intro p e s m below meth c ls hx hb hr hml hown hlocks hin hwd hsz hP hK hD hl
  subst hsz
  generalize hAe : va_A [(a0, .inr (0, [.ref a1, .ref a2, .ref a3, .ref a4, .ref a5, .ref a6, .ref a7])), (a1, .inl (cI, 24, .inl xF0)), (a3, .inl (cI, 60, .inl xF2)), (a4, .inl (cI, 60, .inl xF3)), (a18, .inr (2, [.int i0, .int i1, .int i2, .int i3, .int i4, .int i5, .int i6, .int i7, .int i8, .ref a19, .ref a20, .ref a21, .ref a22, .ref a23])), (a19, .inr (3, [.int i9, .ref a24, .ref a25, .ref a26, .ref a27, .ref a28, .ref a29, .ref a30])), (a24, .inl (cI, 24, .inl xF16)), (a25, .inl (cI, 24, .inl xF17)), (a26, .inl (cI, 24, .inl xF18)), (a28, .inl (cI, 24, .inl xF20))] s.heap.size = A at hD ⊢
  have hA : ∀ q : Nat, s.heap.size ≤ q → A q := fun q h => by rw [← hAe]; exact Or.inr h
  have hS : va_S A s.heap s.heap [] := va_S.rf
  have hl : lv_has ls 5 [(0, .ref a0), (1, .ref a18), (2, .int p1)] := hl
  obtain ⟨Q, hQ⟩ : ∃ Q, Q = MQ below (va_Qi (fun (r : Int32) (u9 : (Nat → Int32) × (Nat → Nat → Int32) × (Nat → Nat → Int64)) => ((0 : Int) ≤ r.toInt ∧ r.toInt ≤ 1) ∧ True) (fun u9 t => va_P (dC, dI) vwCl [(a0, .inr (0, [.ref a1, .ref a2, .ref a3, .ref a4, .ref a5, .ref a6, .ref a7])), (a1, .inl (cI, 24, .inl (u9.2.1 0))), (a3, .inl (cI, 60, .inl (u9.2.1 1))), (a4, .inl (cI, 60, .inl (u9.2.1 2))), (a18, .inr (2, [.int i0, .int i1, .int i2, .int i3, .int i4, .int i5, .int i6, .int i7, .int i8, .ref a19, .ref a20, .ref a21, .ref a22, .ref a23])), (a19, .inr (3, [.int i9, .ref a24, .ref a25, .ref a26, .ref a27, .ref a28, .ref a29, .ref a30])), (a24, .inl (cI, 24, .inl xF16)), (a25, .inl (cI, 24, .inl xF17)), (a26, .inl (cI, 24, .inl xF18)), (a28, .inl (cI, 24, .inl xF20))] t.heap ∧ va_D A [(a0, .inr (0, [.ref a1, .ref a2, .ref a3, .ref a4, .ref a5, .ref a6, .ref a7])), (a1, .inl (cI, 24, .inl (u9.2.1 0))), (a3, .inl (cI, 60, .inl (u9.2.1 1))), (a4, .inl (cI, 60, .inl (u9.2.1 2))), (a18, .inr (2, [.int i0, .int i1, .int i2, .int i3, .int i4, .int i5, .int i6, .int i7, .int i8, .ref a19, .ref a20, .ref a21, .ref a22, .ref a23])), (a19, .inr (3, [.int i9, .ref a24, .ref a25, .ref a26, .ref a27, .ref a28, .ref a29, .ref a30])), (a24, .inl (cI, 24, .inl xF16)), (a25, .inl (cI, 24, .inl xF17)), (a26, .inl (cI, 24, .inl xF18)), (a28, .inl (cI, 24, .inl xF20))]) A) ([.ref a0, .ref a18, .int p1] : List Value).toArray s 0 0 A := ⟨_, rfl⟩
  rw [← hQ]
  have k0 : (0 : Int32).toInt = 0 := by decide
  have k1 : (1 : Int32).toInt = 1 := by decide
  refine lv_aload_n hx hb dX0_isSpare_0 rfl (lv_at hl 0 rfl) ?_
  refine va_get (D := (dC, dI)) (ci := 0) (v := .ref a1) (C := RX0) (T := TX0) (N := 7) hx hb hwd inlX0 hown hK hP 0 rfl rfl 0 (by decide) (hwd _ kr3_17) (fun _ h9 => h9) rfl dX0_isSpare_1 ?_
  refine lv_iload_n hx hb dX0_isSpare_4 rfl (lv_at hl 2 rfl) ?_
  have h1 : vp_in p1 24 := (vp_of (by omega) (by omega))
  refine va_iald hx hb hK hP 1 0 rfl rfl h1 dX0_isSpare_5 ?_
  refine lv_topi (fun x2 ex2 => ?_)
  refine lv_istore_n (lv' := [(3, .int x2), (0, .ref a0), (1, .ref a18), (2, .int p1)]) hx hb dX0_isSpare_6 rfl hl (by decide) rfl (fun ls hl => ?_)
  refine lv_aload_n hx hb dX0_isSpare_7 rfl (lv_at hl 1 rfl) ?_
  refine lv_aload_n hx hb dX0_isSpare_8 rfl (lv_at hl 2 rfl) ?_
  refine lv_aload_n hx hb dX0_isSpare_9 rfl (lv_at hl 2 rfl) ?_
  refine va_get (D := (dC, dI)) (ci := 2) (v := .ref a19) (C := RX2) (T := TX2) (N := 14) hx hb hwd inlX2 hown hK hP 4 rfl rfl 9 (by decide) (hwd _ kr18_9) (fun _ h9 => h9) rfl dX0_isSpare_10 ?_
  refine va_get (D := (dC, dI)) (ci := 3) (v := .ref a24) (C := RX3) (T := TX3) (N := 8) hx hb hwd inlX3 hown hK hP 5 rfl rfl 1 (by decide) (hwd _ kr20_6) (fun _ h9 => h9) rfl dX0_isSpare_13 ?_
  refine lv_iload_n hx hb dX0_isSpare_16 rfl (lv_at hl 3 rfl) ?_
  have h3 : vp_in p1 24 := (vp_of (by omega) (by omega))
  refine va_iald hx hb hK hP 6 0 rfl rfl h3 dX0_isSpare_17 ?_
  refine lv_topi (fun x4 ex4 => ?_)
  have hPc := hP.sub (ws' := [(a0, .inr (0, [.ref a1, .ref a2, .ref a3, .ref a4, .ref a5, .ref a6, .ref a7])), (a1, .inl (cI, 24, .inl xF0)), (a3, .inl (cI, 60, .inl xF2)), (a18, .inr (2, [.int i0, .int i1, .int i2, .int i3, .int i4, .int i5, .int i6, .int i7, .int i8, .ref a19, .ref a20, .ref a21, .ref a22, .ref a23])), (a19, .inr (3, [.int i9, .ref a24, .ref a25, .ref a26, .ref a27, .ref a28, .ref a29, .ref a30])), (a24, .inl (cI, 24, .inl xF16)), (a25, .inl (cI, 24, .inl xF17)), (a26, .inl (cI, 24, .inl xF18)), (a28, .inl (cI, 24, .inl xF20))]) [0, 1, 2, 4, 5, 6, 7, 8, 9] rfl
  have hDc := hD.sub (ws' := [(a0, .inr (0, [.ref a1, .ref a2, .ref a3, .ref a4, .ref a5, .ref a6, .ref a7])), (a1, .inl (cI, 24, .inl xF0)), (a3, .inl (cI, 60, .inl xF2)), (a18, .inr (2, [.int i0, .int i1, .int i2, .int i3, .int i4, .int i5, .int i6, .int i7, .int i8, .ref a19, .ref a20, .ref a21, .ref a22, .ref a23])), (a19, .inr (3, [.int i9, .ref a24, .ref a25, .ref a26, .ref a27, .ref a28, .ref a29, .ref a30])), (a24, .inl (cI, 24, .inl xF16)), (a25, .inl (cI, 24, .inl xF17)), (a26, .inl (cI, 24, .inl xF18)), (a28, .inl (cI, 24, .inl xF20))]) [0, 1, 2, 4, 5, 6, 7, 8, 9] (by decide) rfl
  have hFc := va_free (wc := [(a0, .inr (0, [.ref a1, .ref a2, .ref a3, .ref a4, .ref a5, .ref a6, .ref a7])), (a1, .inl (cI, 24, .inl xF0)), (a3, .inl (cI, 60, .inl xF2)), (a18, .inr (2, [.int i0, .int i1, .int i2, .int i3, .int i4, .int i5, .int i6, .int i7, .int i8, .ref a19, .ref a20, .ref a21, .ref a22, .ref a23])), (a19, .inr (3, [.int i9, .ref a24, .ref a25, .ref a26, .ref a27, .ref a28, .ref a29, .ref a30])), (a24, .inl (cI, 24, .inl xF16)), (a25, .inl (cI, 24, .inl xF17)), (a26, .inl (cI, 24, .inl xF18)), (a28, .inl (cI, 24, .inl xF20))]) hD hS hA [0, 1, 2, 4, 5, 6, 7, 8, 9] rfl
  refine va_callv (va_runV (As := [.ref a18, .int x4]) (rest := []) ⟨hx, hb, hml, hown, hwd⟩ (s_X0_fillProfile l dC dI cI cZ cB cJ cM cG a0 a1 a2 a3 a4 a5 a6 a7 a18 a19 a20 a21 a22 a23 a24 a25 a26 a27 a28 a29 a30 i0 i1 i2 i3 i4 i5 i6 i7 i8 i9 xF0 xF2 xF16 xF17 xF18 xF20 x4 s.heap.size (show (0 : Int) ≤ i0.toInt ∧ i0.toInt ≤ 60 from ⟨by omega, by omega⟩) (show (0 : Int) ≤ i3.toInt ∧ i3.toInt ≤ 6 from ⟨by omega, by omega⟩) (show (0 : Int) ≤ i5.toInt ∧ i5.toInt ≤ 1 from ⟨by omega, by omega⟩) (show (0 : Int) ≤ i8.toInt ∧ i8.toInt ≤ 1 from ⟨by omega, by omega⟩) (show (0 : Int) ≤ i9.toInt ∧ i9.toInt ≤ 24 from ⟨by omega, by omega⟩)) (cwV 2 hwd (gV kr20_2 kr20_3 kr20_4 kr1_23 kr20_5) rfl rfl rfl (by decide +kernel) ⟨Nat.le_of_ble_eq_true rfl, Nat.le_of_ble_eq_true rfl⟩) (kPreV hPc hK hDc (ci := 0) (q0 := 0) rfl rfl) rfl rfl hl.1 rfl (lv_room (Nat.le_of_ble_eq_true rfl)) dX0_isSpare_18 ⟨Nat.le_of_ble_eq_true rfl, Nat.le_of_ble_eq_true rfl⟩) hS (fun q _ h => hFc q h) hFc (fun u6 t H1 locs ht9 hvm hw hB hz1 hk1 hS => ?_)
  obtain ⟨u7, U7, V7⟩ := u6
  obtain ⟨hP1, hD1⟩ := hB
  rw [ht9] at hP1
  obtain ⟨hP, hD⟩ := va_join (wr := [(a4, .inl (cI, 60, .inl xF3))]) (w1 := [(a0, .inr (0, [.ref a1, .ref a2, .ref a3, .ref a4, .ref a5, .ref a6, .ref a7])), (a1, .inl (cI, 24, .inl xF0)), (a3, .inl (cI, 60, .inl (U7 0))), (a18, .inr (2, [.int i0, .int i1, .int i2, .int i3, .int i4, .int i5, .int i6, .int i7, .int i8, .ref a19, .ref a20, .ref a21, .ref a22, .ref a23])), (a19, .inr (3, [.int i9, .ref a24, .ref a25, .ref a26, .ref a27, .ref a28, .ref a29, .ref a30])), (a24, .inl (cI, 24, .inl xF16)), (a25, .inl (cI, 24, .inl xF17)), (a26, .inl (cI, 24, .inl xF18)), (a28, .inl (cI, 24, .inl xF20))]) hP hD [0, 1, 2, 4, 5, 6, 7, 8, 9] [3] rfl rfl (by decide) (by decide) hk1 hFc hP1 hD1
  generalize H1 = H at hP hS ⊢
  have hP : va_P (dC, dI) vwCl [(a4, .inl (cI, 60, .inl xF3)), (a0, .inr (0, [.ref a1, .ref a2, .ref a3, .ref a4, .ref a5, .ref a6, .ref a7])), (a1, .inl (cI, 24, .inl xF0)), (a3, .inl (cI, 60, .inl (U7 0))), (a18, .inr (2, [.int i0, .int i1, .int i2, .int i3, .int i4, .int i5, .int i6, .int i7, .int i8, .ref a19, .ref a20, .ref a21, .ref a22, .ref a23])), (a19, .inr (3, [.int i9, .ref a24, .ref a25, .ref a26, .ref a27, .ref a28, .ref a29, .ref a30])), (a24, .inl (cI, 24, .inl xF16)), (a25, .inl (cI, 24, .inl xF17)), (a26, .inl (cI, 24, .inl xF18)), (a28, .inl (cI, 24, .inl xF20))] H := hP
  have hD : va_D A [(a4, .inl (cI, 60, .inl xF3)), (a0, .inr (0, [.ref a1, .ref a2, .ref a3, .ref a4, .ref a5, .ref a6, .ref a7])), (a1, .inl (cI, 24, .inl xF0)), (a3, .inl (cI, 60, .inl (U7 0))), (a18, .inr (2, [.int i0, .int i1, .int i2, .int i3, .int i4, .int i5, .int i6, .int i7, .int i8, .ref a19, .ref a20, .ref a21, .ref a22, .ref a23])), (a19, .inr (3, [.int i9, .ref a24, .ref a25, .ref a26, .ref a27, .ref a28, .ref a29, .ref a30])), (a24, .inl (cI, 24, .inl xF16)), (a25, .inl (cI, 24, .inl xF17)), (a26, .inl (cI, 24, .inl xF18)), (a28, .inl (cI, 24, .inl xF20))] := hD
  refine lv_aload_n hx hb dX0_isSpare_21 rfl (lv_at hl 1 rfl) ?_
  refine va_get (D := (dC, dI)) (ci := 0) (v := .ref a3) (C := RX0) (T := TX0) (N := 7) hx hb hwd inlX0 hown hK hP 1 rfl rfl 2 (by decide) (hwd _ kr3_19) (fun _ h9 => h9) rfl dX0_isSpare_22 ?_
  refine lv_iconst (v := 0) hx hb dX0_isSpare_25 (by decide) ?_
  refine lv_aload_n hx hb dX0_isSpare_26 rfl (lv_at hl 1 rfl) ?_
  refine va_get (D := (dC, dI)) (ci := 0) (v := .ref a4) (C := RX0) (T := TX0) (N := 7) hx hb hwd inlX0 hown hK hP 1 rfl rfl 3 (by decide) (hwd _ kr3_20) (fun _ h9 => h9) rfl dX0_isSpare_27 ?_
  refine lv_iconst (v := 0) hx hb dX0_isSpare_30 (by decide) ?_
  refine lv_bipush (v := 60) hx hb dX0_isSpare_31 (by decide) ?_
  refine va_copyi hx hb (by rw [hml]; exact hl.1.symm) hown (hwd _ kr18_13) (hwd _ kr18_14) (hwd _ kr18_15) (hwd _ kr18_16) hK hP hD hS 3 0 0 0 rfl rfl rfl rfl rfl (by decide) (by decide) (by decide) (by decide) (by decide) (fun _ _ => rfl) (Nat.le_of_ble_eq_true rfl) (Nat.le_of_ble_eq_true rfl) dX0_isSpare_33 (fun H locs hP hD hS => ?_)
  obtain ⟨f8, ef8⟩ : ∃ f : Nat → Int32, f = va_cpy (U7 0) xF3 (0 : Int32).toNatClampNeg (0 : Int32).toNatClampNeg (60 : Int32).toNatClampNeg := ⟨_, rfl⟩
  have hP : va_P (dC, dI) vwCl [(a4, .inl (cI, 60, .inl f8)), (a0, .inr (0, [.ref a1, .ref a2, .ref a3, .ref a4, .ref a5, .ref a6, .ref a7])), (a1, .inl (cI, 24, .inl xF0)), (a3, .inl (cI, 60, .inl (U7 0))), (a18, .inr (2, [.int i0, .int i1, .int i2, .int i3, .int i4, .int i5, .int i6, .int i7, .int i8, .ref a19, .ref a20, .ref a21, .ref a22, .ref a23])), (a19, .inr (3, [.int i9, .ref a24, .ref a25, .ref a26, .ref a27, .ref a28, .ref a29, .ref a30])), (a24, .inl (cI, 24, .inl xF16)), (a25, .inl (cI, 24, .inl xF17)), (a26, .inl (cI, 24, .inl xF18)), (a28, .inl (cI, 24, .inl xF20))] H := by rw [ef8]; exact hP
  have hD : va_D A [(a4, .inl (cI, 60, .inl f8)), (a0, .inr (0, [.ref a1, .ref a2, .ref a3, .ref a4, .ref a5, .ref a6, .ref a7])), (a1, .inl (cI, 24, .inl xF0)), (a3, .inl (cI, 60, .inl (U7 0))), (a18, .inr (2, [.int i0, .int i1, .int i2, .int i3, .int i4, .int i5, .int i6, .int i7, .int i8, .ref a19, .ref a20, .ref a21, .ref a22, .ref a23])), (a19, .inr (3, [.int i9, .ref a24, .ref a25, .ref a26, .ref a27, .ref a28, .ref a29, .ref a30])), (a24, .inl (cI, 24, .inl xF16)), (a25, .inl (cI, 24, .inl xF17)), (a26, .inl (cI, 24, .inl xF18)), (a28, .inl (cI, 24, .inl xF20))] := by rw [ef8]; exact hD
  refine lv_aload_n hx hb dX0_isSpare_36 rfl (lv_at hl 1 rfl) ?_
  refine va_get (D := (dC, dI)) (ci := 0) (v := .ref a1) (C := RX0) (T := TX0) (N := 7) hx hb hwd inlX0 hown hK hP 1 rfl rfl 0 (by decide) (hwd _ kr3_17) (fun _ h9 => h9) rfl dX0_isSpare_37 ?_
  refine lv_iload_n hx hb dX0_isSpare_40 rfl (lv_at hl 3 rfl) ?_
  refine lv_iconst (v := 0) hx hb dX0_isSpare_41 (by decide) ?_
  refine va_iast hx hb hK hP hD hS 2 0 rfl rfl (vp_of (by omega) (by omega)) dX0_isSpare_42 (fun H locs hP hD hS => ?_)
  obtain ⟨f9, ef9⟩ : ∃ f, f = upd xF0 p1.toNatClampNeg (0 : Int32) := ⟨_, rfl⟩
  have hP : va_P (dC, dI) vwCl [(a4, .inl (cI, 60, .inl f8)), (a0, .inr (0, [.ref a1, .ref a2, .ref a3, .ref a4, .ref a5, .ref a6, .ref a7])), (a1, .inl (cI, 24, .inl f9)), (a3, .inl (cI, 60, .inl (U7 0))), (a18, .inr (2, [.int i0, .int i1, .int i2, .int i3, .int i4, .int i5, .int i6, .int i7, .int i8, .ref a19, .ref a20, .ref a21, .ref a22, .ref a23])), (a19, .inr (3, [.int i9, .ref a24, .ref a25, .ref a26, .ref a27, .ref a28, .ref a29, .ref a30])), (a24, .inl (cI, 24, .inl xF16)), (a25, .inl (cI, 24, .inl xF17)), (a26, .inl (cI, 24, .inl xF18)), (a28, .inl (cI, 24, .inl xF20))] H := by rw [ef9]; exact hP
  have hD : va_D A [(a4, .inl (cI, 60, .inl f8)), (a0, .inr (0, [.ref a1, .ref a2, .ref a3, .ref a4, .ref a5, .ref a6, .ref a7])), (a1, .inl (cI, 24, .inl f9)), (a3, .inl (cI, 60, .inl (U7 0))), (a18, .inr (2, [.int i0, .int i1, .int i2, .int i3, .int i4, .int i5, .int i6, .int i7, .int i8, .ref a19, .ref a20, .ref a21, .ref a22, .ref a23])), (a19, .inr (3, [.int i9, .ref a24, .ref a25, .ref a26, .ref a27, .ref a28, .ref a29, .ref a30])), (a24, .inl (cI, 24, .inl xF16)), (a25, .inl (cI, 24, .inl xF17)), (a26, .inl (cI, 24, .inl xF18)), (a28, .inl (cI, 24, .inl xF20))] := by rw [ef9]; exact hD
  refine lv_aload_n hx hb dX0_isSpare_43 rfl (lv_at hl 1 rfl) ?_
  refine lv_aload_n hx hb dX0_isSpare_44 rfl (lv_at hl 2 rfl) ?_
  refine lv_aload_n hx hb dX0_isSpare_45 rfl (lv_at hl 2 rfl) ?_
  refine va_get (D := (dC, dI)) (ci := 2) (v := .ref a19) (C := RX2) (T := TX2) (N := 14) hx hb hwd inlX2 hown hK hP 4 rfl rfl 9 (by decide) (hwd _ kr18_9) (fun _ h9 => h9) rfl dX0_isSpare_46 ?_
  refine va_get (D := (dC, dI)) (ci := 3) (v := .ref a24) (C := RX3) (T := TX3) (N := 8) hx hb hwd inlX3 hown hK hP 5 rfl rfl 1 (by decide) (hwd _ kr20_6) (fun _ h9 => h9) rfl dX0_isSpare_49 ?_
  refine lv_iload_n hx hb dX0_isSpare_52 rfl (lv_at hl 3 rfl) ?_
  have h10 : vp_in p1 24 := (vp_of (by omega) (by omega))
  refine va_iald hx hb hK hP 6 0 rfl rfl h10 dX0_isSpare_53 ?_
  refine lv_topi (nm_r (e' := x4) ex4.symm ?_)
  have hPc := hP.sub (ws' := [(a0, .inr (0, [.ref a1, .ref a2, .ref a3, .ref a4, .ref a5, .ref a6, .ref a7])), (a1, .inl (cI, 24, .inl f9)), (a3, .inl (cI, 60, .inl (U7 0))), (a18, .inr (2, [.int i0, .int i1, .int i2, .int i3, .int i4, .int i5, .int i6, .int i7, .int i8, .ref a19, .ref a20, .ref a21, .ref a22, .ref a23])), (a19, .inr (3, [.int i9, .ref a24, .ref a25, .ref a26, .ref a27, .ref a28, .ref a29, .ref a30])), (a24, .inl (cI, 24, .inl xF16)), (a25, .inl (cI, 24, .inl xF17)), (a26, .inl (cI, 24, .inl xF18)), (a28, .inl (cI, 24, .inl xF20))]) [1, 2, 3, 4, 5, 6, 7, 8, 9] rfl
  have hDc := hD.sub (ws' := [(a0, .inr (0, [.ref a1, .ref a2, .ref a3, .ref a4, .ref a5, .ref a6, .ref a7])), (a1, .inl (cI, 24, .inl f9)), (a3, .inl (cI, 60, .inl (U7 0))), (a18, .inr (2, [.int i0, .int i1, .int i2, .int i3, .int i4, .int i5, .int i6, .int i7, .int i8, .ref a19, .ref a20, .ref a21, .ref a22, .ref a23])), (a19, .inr (3, [.int i9, .ref a24, .ref a25, .ref a26, .ref a27, .ref a28, .ref a29, .ref a30])), (a24, .inl (cI, 24, .inl xF16)), (a25, .inl (cI, 24, .inl xF17)), (a26, .inl (cI, 24, .inl xF18)), (a28, .inl (cI, 24, .inl xF20))]) [1, 2, 3, 4, 5, 6, 7, 8, 9] (by decide) rfl
  have hFc := va_free (wc := [(a0, .inr (0, [.ref a1, .ref a2, .ref a3, .ref a4, .ref a5, .ref a6, .ref a7])), (a1, .inl (cI, 24, .inl f9)), (a3, .inl (cI, 60, .inl (U7 0))), (a18, .inr (2, [.int i0, .int i1, .int i2, .int i3, .int i4, .int i5, .int i6, .int i7, .int i8, .ref a19, .ref a20, .ref a21, .ref a22, .ref a23])), (a19, .inr (3, [.int i9, .ref a24, .ref a25, .ref a26, .ref a27, .ref a28, .ref a29, .ref a30])), (a24, .inl (cI, 24, .inl xF16)), (a25, .inl (cI, 24, .inl xF17)), (a26, .inl (cI, 24, .inl xF18)), (a28, .inl (cI, 24, .inl xF20))]) hD hS hA [1, 2, 3, 4, 5, 6, 7, 8, 9] rfl
  refine va_callv (va_runV (As := [.ref a18, .int x4]) (rest := []) ⟨hx, hb, hml, hown, hwd⟩ (s_X0_fillProfile l dC dI cI cZ cB cJ cM cG a0 a1 a2 a3 a4 a5 a6 a7 a18 a19 a20 a21 a22 a23 a24 a25 a26 a27 a28 a29 a30 i0 i1 i2 i3 i4 i5 i6 i7 i8 i9 f9 (U7 0) xF16 xF17 xF18 xF20 x4 H.size (show (0 : Int) ≤ i0.toInt ∧ i0.toInt ≤ 60 from ⟨by omega, by omega⟩) (show (0 : Int) ≤ i3.toInt ∧ i3.toInt ≤ 6 from ⟨by omega, by omega⟩) (show (0 : Int) ≤ i5.toInt ∧ i5.toInt ≤ 1 from ⟨by omega, by omega⟩) (show (0 : Int) ≤ i8.toInt ∧ i8.toInt ≤ 1 from ⟨by omega, by omega⟩) (show (0 : Int) ≤ i9.toInt ∧ i9.toInt ≤ 24 from ⟨by omega, by omega⟩)) (cwV 2 hwd (gV kr20_2 kr20_3 kr20_4 kr1_23 kr20_5) rfl rfl rfl (by decide +kernel) ⟨Nat.le_of_ble_eq_true rfl, Nat.le_of_ble_eq_true rfl⟩) (kPreV hPc hK hDc (ci := 0) (q0 := 0) rfl rfl) rfl rfl hl.1 rfl (lv_room (Nat.le_of_ble_eq_true rfl)) dX0_isSpare_54 ⟨Nat.le_of_ble_eq_true rfl, Nat.le_of_ble_eq_true rfl⟩) hS (fun q _ h => hFc q h) hFc (fun u12 t H1 locs ht9 hvm hw hB hz1 hk1 hS => ?_)
  obtain ⟨u13, U13, V13⟩ := u12
  obtain ⟨hP1, hD1⟩ := hB
  rw [ht9] at hP1
  obtain ⟨hP, hD⟩ := va_join (wr := [(a4, .inl (cI, 60, .inl f8))]) (w1 := [(a0, .inr (0, [.ref a1, .ref a2, .ref a3, .ref a4, .ref a5, .ref a6, .ref a7])), (a1, .inl (cI, 24, .inl f9)), (a3, .inl (cI, 60, .inl (U13 0))), (a18, .inr (2, [.int i0, .int i1, .int i2, .int i3, .int i4, .int i5, .int i6, .int i7, .int i8, .ref a19, .ref a20, .ref a21, .ref a22, .ref a23])), (a19, .inr (3, [.int i9, .ref a24, .ref a25, .ref a26, .ref a27, .ref a28, .ref a29, .ref a30])), (a24, .inl (cI, 24, .inl xF16)), (a25, .inl (cI, 24, .inl xF17)), (a26, .inl (cI, 24, .inl xF18)), (a28, .inl (cI, 24, .inl xF20))]) hP hD [1, 2, 3, 4, 5, 6, 7, 8, 9] [0] rfl rfl (by decide) (by decide) hk1 hFc hP1 hD1
  generalize H1 = H at hP hS ⊢
  have hP : va_P (dC, dI) vwCl [(a4, .inl (cI, 60, .inl f8)), (a0, .inr (0, [.ref a1, .ref a2, .ref a3, .ref a4, .ref a5, .ref a6, .ref a7])), (a1, .inl (cI, 24, .inl f9)), (a3, .inl (cI, 60, .inl (U13 0))), (a18, .inr (2, [.int i0, .int i1, .int i2, .int i3, .int i4, .int i5, .int i6, .int i7, .int i8, .ref a19, .ref a20, .ref a21, .ref a22, .ref a23])), (a19, .inr (3, [.int i9, .ref a24, .ref a25, .ref a26, .ref a27, .ref a28, .ref a29, .ref a30])), (a24, .inl (cI, 24, .inl xF16)), (a25, .inl (cI, 24, .inl xF17)), (a26, .inl (cI, 24, .inl xF18)), (a28, .inl (cI, 24, .inl xF20))] H := hP
  have hD : va_D A [(a4, .inl (cI, 60, .inl f8)), (a0, .inr (0, [.ref a1, .ref a2, .ref a3, .ref a4, .ref a5, .ref a6, .ref a7])), (a1, .inl (cI, 24, .inl f9)), (a3, .inl (cI, 60, .inl (U13 0))), (a18, .inr (2, [.int i0, .int i1, .int i2, .int i3, .int i4, .int i5, .int i6, .int i7, .int i8, .ref a19, .ref a20, .ref a21, .ref a22, .ref a23])), (a19, .inr (3, [.int i9, .ref a24, .ref a25, .ref a26, .ref a27, .ref a28, .ref a29, .ref a30])), (a24, .inl (cI, 24, .inl xF16)), (a25, .inl (cI, 24, .inl xF17)), (a26, .inl (cI, 24, .inl xF18)), (a28, .inl (cI, 24, .inl xF20))] := hD
  refine lv_aload_n hx hb dX0_isSpare_57 rfl (lv_at hl 1 rfl) ?_
  refine va_get (D := (dC, dI)) (ci := 0) (v := .ref a1) (C := RX0) (T := TX0) (N := 7) hx hb hwd inlX0 hown hK hP 1 rfl rfl 0 (by decide) (hwd _ kr3_17) (fun _ h9 => h9) rfl dX0_isSpare_58 ?_
  refine lv_iload_n hx hb dX0_isSpare_61 rfl (lv_at hl 3 rfl) ?_
  refine lv_iload_n hx hb dX0_isSpare_62 rfl (lv_at hl 0 rfl) ?_
  refine va_iast hx hb hK hP hD hS 2 0 rfl rfl (vp_of (by omega) (by omega)) dX0_isSpare_63 (fun H locs hP hD hS => ?_)
  obtain ⟨f14, ef14⟩ : ∃ f, f = upd f9 p1.toNatClampNeg x2 := ⟨_, rfl⟩
  have hP : va_P (dC, dI) vwCl [(a4, .inl (cI, 60, .inl f8)), (a0, .inr (0, [.ref a1, .ref a2, .ref a3, .ref a4, .ref a5, .ref a6, .ref a7])), (a1, .inl (cI, 24, .inl f14)), (a3, .inl (cI, 60, .inl (U13 0))), (a18, .inr (2, [.int i0, .int i1, .int i2, .int i3, .int i4, .int i5, .int i6, .int i7, .int i8, .ref a19, .ref a20, .ref a21, .ref a22, .ref a23])), (a19, .inr (3, [.int i9, .ref a24, .ref a25, .ref a26, .ref a27, .ref a28, .ref a29, .ref a30])), (a24, .inl (cI, 24, .inl xF16)), (a25, .inl (cI, 24, .inl xF17)), (a26, .inl (cI, 24, .inl xF18)), (a28, .inl (cI, 24, .inl xF20))] H := by rw [ef14]; exact hP
  have hD : va_D A [(a4, .inl (cI, 60, .inl f8)), (a0, .inr (0, [.ref a1, .ref a2, .ref a3, .ref a4, .ref a5, .ref a6, .ref a7])), (a1, .inl (cI, 24, .inl f14)), (a3, .inl (cI, 60, .inl (U13 0))), (a18, .inr (2, [.int i0, .int i1, .int i2, .int i3, .int i4, .int i5, .int i6, .int i7, .int i8, .ref a19, .ref a20, .ref a21, .ref a22, .ref a23])), (a19, .inr (3, [.int i9, .ref a24, .ref a25, .ref a26, .ref a27, .ref a28, .ref a29, .ref a30])), (a24, .inl (cI, 24, .inl xF16)), (a25, .inl (cI, 24, .inl xF17)), (a26, .inl (cI, 24, .inl xF18)), (a28, .inl (cI, 24, .inl xF20))] := by rw [ef14]; exact hD
  refine lv_iconst (v := 0) hx hb dX0_isSpare_64 (by decide) ?_
  refine lv_istore (lv' := [(4, .int 0), (3, .int x2), (0, .ref a0), (1, .ref a18), (2, .int p1)]) hx hb dX0_isSpare_65 hl (by decide) rfl (fun ls hl => ?_)
  have lp1 : ∀ (d : Nat), ∀ (H : Heap) (locs : List Loc) (ls : Array Slot) (w4_1 : Int32), ((0 : Int) ≤ w4_1.toInt ∧ w4_1.toInt ≤ 60) → (60 - w4_1.toInt).toNat < d → va_P (dC, dI) vwCl [(a4, .inl (cI, 60, .inl f8)), (a0, .inr (0, [.ref a1, .ref a2, .ref a3, .ref a4, .ref a5, .ref a6, .ref a7])), (a1, .inl (cI, 24, .inl f14)), (a3, .inl (cI, 60, .inl (U13 0))), (a18, .inr (2, [.int i0, .int i1, .int i2, .int i3, .int i4, .int i5, .int i6, .int i7, .int i8, .ref a19, .ref a20, .ref a21, .ref a22, .ref a23])), (a19, .inr (3, [.int i9, .ref a24, .ref a25, .ref a26, .ref a27, .ref a28, .ref a29, .ref a30])), (a24, .inl (cI, 24, .inl xF16)), (a25, .inl (cI, 24, .inl xF17)), (a26, .inl (cI, 24, .inl xF18)), (a28, .inl (cI, 24, .inl xF20))] H → va_D A [(a4, .inl (cI, 60, .inl f8)), (a0, .inr (0, [.ref a1, .ref a2, .ref a3, .ref a4, .ref a5, .ref a6, .ref a7])), (a1, .inl (cI, 24, .inl f14)), (a3, .inl (cI, 60, .inl (U13 0))), (a18, .inr (2, [.int i0, .int i1, .int i2, .int i3, .int i4, .int i5, .int i6, .int i7, .int i8, .ref a19, .ref a20, .ref a21, .ref a22, .ref a23])), (a19, .inr (3, [.int i9, .ref a24, .ref a25, .ref a26, .ref a27, .ref a28, .ref a29, .ref a30])), (a24, .inl (cI, 24, .inl xF16)), (a25, .inl (cI, 24, .inl xF17)), (a26, .inl (cI, 24, .inl xF18)), (a28, .inl (cI, 24, .inl xF20))] → va_S A s.heap H locs → lv_has ls 5 [(0, .ref a0), (1, .ref a18), (2, .int p1), (3, .int x2), (4, .int w4_1)] → W p l e ({ frames := 3, cells := 0, slots := 0, locals := 75 } : Room) s m ([.ref a0, .ref a18, .int p1] : List Value).toArray below meth c H locs 0 0 Q (F0 m 67 ls []) := by
    intro d
    induction d with
    | zero =>
      intro H locs ls w4_1 hr_w4_1 hm hP hD hS hl
      omega
    | succ d ih1 =>
      intro H locs ls w4_1 hr_w4_1 hm hP hD hS hl
      refine lv_iload hx hb dX0_isSpare_67 (lv_at hl 4 rfl) ?_
      refine lv_aload_n hx hb dX0_isSpare_69 rfl (lv_at hl 1 rfl) ?_
      refine va_get (D := (dC, dI)) (ci := 2) (v := .int i0) (C := RX2) (T := TX2) (N := 14) hx hb hwd inlX2 hown hK hP 4 rfl rfl 0 (by decide) (hwd _ kr20_11) (fun _ h9 => h9) rfl dX0_isSpare_70 ?_
      refine lv_icmp_ge (tgt := 101) hx hb dX0_isSpare_73 (by decide) (fun c56 => ?_) (fun c56 => ?_)
      · rw [ki_le] at c56
        refine lv_iconst (v := 1) hx hb dX0_isSpare_101 (by decide) ?_
        have hP9 := hP.sub (ws' := [(a0, .inr (0, [.ref a1, .ref a2, .ref a3, .ref a4, .ref a5, .ref a6, .ref a7])), (a1, .inl (cI, 24, .inl f14)), (a3, .inl (cI, 60, .inl (U13 0))), (a4, .inl (cI, 60, .inl f8)), (a18, .inr (2, [.int i0, .int i1, .int i2, .int i3, .int i4, .int i5, .int i6, .int i7, .int i8, .ref a19, .ref a20, .ref a21, .ref a22, .ref a23])), (a19, .inr (3, [.int i9, .ref a24, .ref a25, .ref a26, .ref a27, .ref a28, .ref a29, .ref a30])), (a24, .inl (cI, 24, .inl xF16)), (a25, .inl (cI, 24, .inl xF17)), (a26, .inl (cI, 24, .inl xF18)), (a28, .inl (cI, 24, .inl xF20))]) [1, 2, 3, 0, 4, 5, 6, 7, 8, 9] rfl
        have hD9 := hD.sub (ws' := [(a0, .inr (0, [.ref a1, .ref a2, .ref a3, .ref a4, .ref a5, .ref a6, .ref a7])), (a1, .inl (cI, 24, .inl f14)), (a3, .inl (cI, 60, .inl (U13 0))), (a4, .inl (cI, 60, .inl f8)), (a18, .inr (2, [.int i0, .int i1, .int i2, .int i3, .int i4, .int i5, .int i6, .int i7, .int i8, .ref a19, .ref a20, .ref a21, .ref a22, .ref a23])), (a19, .inr (3, [.int i9, .ref a24, .ref a25, .ref a26, .ref a27, .ref a28, .ref a29, .ref a30])), (a24, .inl (cI, 24, .inl xF16)), (a25, .inl (cI, 24, .inl xF17)), (a26, .inl (cI, 24, .inl xF18)), (a28, .inl (cI, 24, .inl xF20))]) [1, 2, 3, 0, 4, 5, 6, 7, 8, 9] (by decide) rfl
        rw [hQ]
        exact W.zret (v := 1) hx hb hr (by decide) (fun t ht hW => ⟨⟨1, (pickG 0 [], pickG (fun _ => 0) [f14, (U13 0), f8], pickG (fun _ => 0) []), rfl, ⟨(show (0 : Int) ≤ (1 : Int32).toInt ∧ (1 : Int32).toInt ≤ 1 from ⟨by omega, by omega⟩), trivial⟩, (by rw [ht]; exact hP9), hD9⟩, hS.F ht⟩) hS.2.2 dX0_isSpare_102
      · rw [ki_le] at c56
        refine lv_aload_n hx hb dX0_isSpare_76 rfl (lv_at hl 0 rfl) ?_
        refine va_get (D := (dC, dI)) (ci := 0) (v := .ref a3) (C := RX0) (T := TX0) (N := 7) hx hb hwd inlX0 hown hK hP 1 rfl rfl 2 (by decide) (hwd _ kr3_19) (fun _ h9 => h9) rfl dX0_isSpare_77 ?_
        refine lv_iload hx hb dX0_isSpare_80 (lv_at hl 4 rfl) ?_
        have h57 : vp_in w4_1 60 := (vp_of (by omega) (by omega))
        refine va_iald hx hb hK hP 3 0 rfl rfl h57 dX0_isSpare_82 ?_
        refine lv_topi (fun x58 ex58 => ?_)
        refine lv_aload_n hx hb dX0_isSpare_83 rfl (lv_at hl 0 rfl) ?_
        refine va_get (D := (dC, dI)) (ci := 0) (v := .ref a4) (C := RX0) (T := TX0) (N := 7) hx hb hwd inlX0 hown hK hP 1 rfl rfl 3 (by decide) (hwd _ kr3_20) (fun _ h9 => h9) rfl dX0_isSpare_84 ?_
        refine lv_iload hx hb dX0_isSpare_87 (lv_at hl 4 rfl) ?_
        have h59 : vp_in w4_1 60 := (vp_of (by omega) (by omega))
        refine va_iald hx hb hK hP 0 0 rfl rfl h59 dX0_isSpare_89 ?_
        refine lv_topi (fun x60 ex60 => ?_)
        refine lv_icmp_eq (tgt := 95) hx hb dX0_isSpare_90 (by decide) (fun c61 => ?_) (fun c61 => ?_)
        · rw [ki_eq] at c61
          obtain ⟨x62, ex62⟩ : ∃ y : Int32, y = w4_1 + 1 := ⟨_, rfl⟩
          refine lv_iinc (v := x62) (lv' := [(4, .int x62), (0, .ref a0), (1, .ref a18), (2, .int p1), (3, .int x2)]) hx hb dX0_isSpare_95 hl (k := 4) rfl (by rw [ex62]; rfl) (by decide) rfl (fun ls hl => ?_)
          have tx62 := ia_add (a := w4_1) (b := (1 : Int32)) (by omega) (by omega)
          rw [← ex62] at tx62
          refine lv_goto (tgt := 67) hx hb dX0_isSpare_98 (by decide) ?_
          exact ih1 _ _ ls x62 (show (0 : Int) ≤ x62.toInt ∧ x62.toInt ≤ 60 from ⟨by omega, by omega⟩) (by omega) (hP.sub (ws' := [(a4, .inl (cI, 60, .inl f8)), (a0, .inr (0, [.ref a1, .ref a2, .ref a3, .ref a4, .ref a5, .ref a6, .ref a7])), (a1, .inl (cI, 24, .inl f14)), (a3, .inl (cI, 60, .inl (U13 0))), (a18, .inr (2, [.int i0, .int i1, .int i2, .int i3, .int i4, .int i5, .int i6, .int i7, .int i8, .ref a19, .ref a20, .ref a21, .ref a22, .ref a23])), (a19, .inr (3, [.int i9, .ref a24, .ref a25, .ref a26, .ref a27, .ref a28, .ref a29, .ref a30])), (a24, .inl (cI, 24, .inl xF16)), (a25, .inl (cI, 24, .inl xF17)), (a26, .inl (cI, 24, .inl xF18)), (a28, .inl (cI, 24, .inl xF20))]) [0, 1, 2, 3, 4, 5, 6, 7, 8, 9] rfl) (hD.sub (ws' := [(a4, .inl (cI, 60, .inl f8)), (a0, .inr (0, [.ref a1, .ref a2, .ref a3, .ref a4, .ref a5, .ref a6, .ref a7])), (a1, .inl (cI, 24, .inl f14)), (a3, .inl (cI, 60, .inl (U13 0))), (a18, .inr (2, [.int i0, .int i1, .int i2, .int i3, .int i4, .int i5, .int i6, .int i7, .int i8, .ref a19, .ref a20, .ref a21, .ref a22, .ref a23])), (a19, .inr (3, [.int i9, .ref a24, .ref a25, .ref a26, .ref a27, .ref a28, .ref a29, .ref a30])), (a24, .inl (cI, 24, .inl xF16)), (a25, .inl (cI, 24, .inl xF17)), (a26, .inl (cI, 24, .inl xF18)), (a28, .inl (cI, 24, .inl xF20))]) [0, 1, 2, 3, 4, 5, 6, 7, 8, 9] (by decide) rfl) hS (lv_sub hl [1, 2, 3, 4, 0] rfl)
        · rw [ki_eq] at c61
          refine lv_iconst (v := 0) hx hb dX0_isSpare_93 (by decide) ?_
          have hP9 := hP.sub (ws' := [(a0, .inr (0, [.ref a1, .ref a2, .ref a3, .ref a4, .ref a5, .ref a6, .ref a7])), (a1, .inl (cI, 24, .inl f14)), (a3, .inl (cI, 60, .inl (U13 0))), (a4, .inl (cI, 60, .inl f8)), (a18, .inr (2, [.int i0, .int i1, .int i2, .int i3, .int i4, .int i5, .int i6, .int i7, .int i8, .ref a19, .ref a20, .ref a21, .ref a22, .ref a23])), (a19, .inr (3, [.int i9, .ref a24, .ref a25, .ref a26, .ref a27, .ref a28, .ref a29, .ref a30])), (a24, .inl (cI, 24, .inl xF16)), (a25, .inl (cI, 24, .inl xF17)), (a26, .inl (cI, 24, .inl xF18)), (a28, .inl (cI, 24, .inl xF20))]) [1, 2, 3, 0, 4, 5, 6, 7, 8, 9] rfl
          have hD9 := hD.sub (ws' := [(a0, .inr (0, [.ref a1, .ref a2, .ref a3, .ref a4, .ref a5, .ref a6, .ref a7])), (a1, .inl (cI, 24, .inl f14)), (a3, .inl (cI, 60, .inl (U13 0))), (a4, .inl (cI, 60, .inl f8)), (a18, .inr (2, [.int i0, .int i1, .int i2, .int i3, .int i4, .int i5, .int i6, .int i7, .int i8, .ref a19, .ref a20, .ref a21, .ref a22, .ref a23])), (a19, .inr (3, [.int i9, .ref a24, .ref a25, .ref a26, .ref a27, .ref a28, .ref a29, .ref a30])), (a24, .inl (cI, 24, .inl xF16)), (a25, .inl (cI, 24, .inl xF17)), (a26, .inl (cI, 24, .inl xF18)), (a28, .inl (cI, 24, .inl xF20))]) [1, 2, 3, 0, 4, 5, 6, 7, 8, 9] (by decide) rfl
          rw [hQ]
          exact W.zret (v := 0) hx hb hr (by decide) (fun t ht hW => ⟨⟨0, (pickG 0 [], pickG (fun _ => 0) [f14, (U13 0), f8], pickG (fun _ => 0) []), rfl, ⟨(show (0 : Int) ≤ (0 : Int32).toInt ∧ (0 : Int32).toInt ≤ 1 from ⟨by omega, by omega⟩), trivial⟩, (by rw [ht]; exact hP9), hD9⟩, hS.F ht⟩) hS.2.2 dX0_isSpare_94
  exact lp1 _ _ _ ls (0) (show (0 : Int) ≤ (0 : Int32).toInt ∧ (0 : Int32).toInt ≤ 60 from ⟨by omega, by omega⟩) (Nat.lt_succ_self _) (hP.sub (ws' := [(a4, .inl (cI, 60, .inl f8)), (a0, .inr (0, [.ref a1, .ref a2, .ref a3, .ref a4, .ref a5, .ref a6, .ref a7])), (a1, .inl (cI, 24, .inl f14)), (a3, .inl (cI, 60, .inl (U13 0))), (a18, .inr (2, [.int i0, .int i1, .int i2, .int i3, .int i4, .int i5, .int i6, .int i7, .int i8, .ref a19, .ref a20, .ref a21, .ref a22, .ref a23])), (a19, .inr (3, [.int i9, .ref a24, .ref a25, .ref a26, .ref a27, .ref a28, .ref a29, .ref a30])), (a24, .inl (cI, 24, .inl xF16)), (a25, .inl (cI, 24, .inl xF17)), (a26, .inl (cI, 24, .inl xF18)), (a28, .inl (cI, 24, .inl xF20))]) [0, 1, 2, 3, 4, 5, 6, 7, 8, 9] rfl) (hD.sub (ws' := [(a4, .inl (cI, 60, .inl f8)), (a0, .inr (0, [.ref a1, .ref a2, .ref a3, .ref a4, .ref a5, .ref a6, .ref a7])), (a1, .inl (cI, 24, .inl f14)), (a3, .inl (cI, 60, .inl (U13 0))), (a18, .inr (2, [.int i0, .int i1, .int i2, .int i3, .int i4, .int i5, .int i6, .int i7, .int i8, .ref a19, .ref a20, .ref a21, .ref a22, .ref a23])), (a19, .inr (3, [.int i9, .ref a24, .ref a25, .ref a26, .ref a27, .ref a28, .ref a29, .ref a30])), (a24, .inl (cI, 24, .inl xF16)), (a25, .inl (cI, 24, .inl xF17)), (a26, .inl (cI, 24, .inl xF18)), (a28, .inl (cI, 24, .inl xF20))]) [0, 1, 2, 3, 4, 5, 6, 7, 8, 9] (by decide) rfl) hS (lv_sub hl [2, 3, 4, 1, 0] rfl)
theorem dX0_spread_0 : decode cX0_spread 0 = .ok (.iconst 0, 1) := by decide +kernel
theorem dX0_spread_1 : decode cX0_spread 1 = .ok (.istore 4, 2) := by decide +kernel
theorem dX0_spread_3 : decode cX0_spread 3 = .ok (.iload 4, 2) := by decide +kernel
theorem dX0_spread_5 : decode cX0_spread 5 = .ok (.aload_n 1, 1) := by decide +kernel
theorem dX0_spread_6 : decode cX0_spread 6 = .ok (.getfield 73, 3) := by decide +kernel
theorem dX0_spread_9 : decode cX0_spread 9 = .ok (.if_icmp .ge 109, 3) := by decide +kernel
theorem dX0_spread_12 : decode cX0_spread 12 = .ok (.iconst 0, 1) := by decide +kernel
theorem dX0_spread_13 : decode cX0_spread 13 = .ok (.istore 5, 2) := by decide +kernel
theorem dX0_spread_15 : decode cX0_spread 15 = .ok (.aload_n 1, 1) := by decide +kernel
theorem dX0_spread_16 : decode cX0_spread 16 = .ok (.iload 4, 2) := by decide +kernel
theorem dX0_spread_18 : decode cX0_spread 18 = .ok (.iload_n 3, 1) := by decide +kernel
theorem dX0_spread_19 : decode cX0_spread 19 = .ok (.isub, 1) := by decide +kernel
theorem dX0_spread_20 : decode cX0_spread 20 = .ok (.invokevirtual 95, 3) := by decide +kernel
theorem dX0_spread_23 : decode cX0_spread 23 = .ok (.istore 6, 2) := by decide +kernel
theorem dX0_spread_25 : decode cX0_spread 25 = .ok (.iload_n 3, 1) := by decide +kernel
theorem dX0_spread_26 : decode cX0_spread 26 = .ok (.ineg, 1) := by decide +kernel
theorem dX0_spread_27 : decode cX0_spread 27 = .ok (.istore 7, 2) := by decide +kernel
theorem dX0_spread_29 : decode cX0_spread 29 = .ok (.iload 7, 2) := by decide +kernel
theorem dX0_spread_31 : decode cX0_spread 31 = .ok (.iload_n 3, 1) := by decide +kernel
theorem dX0_spread_32 : decode cX0_spread 32 = .ok (.if_icmp .gt 71, 3) := by decide +kernel
theorem dX0_spread_35 : decode cX0_spread 35 = .ok (.iload_n 2, 1) := by decide +kernel
theorem dX0_spread_36 : decode cX0_spread 36 = .ok (.iconst 1, 1) := by decide +kernel
theorem dX0_spread_37 : decode cX0_spread 37 = .ok (.if_icmp .ne 19, 3) := by decide +kernel
theorem dX0_spread_40 : decode cX0_spread 40 = .ok (.aload_n 0, 1) := by decide +kernel
theorem dX0_spread_41 : decode cX0_spread 41 = .ok (.getfield 18, 3) := by decide +kernel
theorem dX0_spread_44 : decode cX0_spread 44 = .ok (.iload 6, 2) := by decide +kernel
theorem dX0_spread_46 : decode cX0_spread 46 = .ok (.iaload, 1) := by decide +kernel
theorem dX0_spread_47 : decode cX0_spread 47 = .ok (.iload 7, 2) := by decide +kernel
theorem dX0_spread_49 : decode cX0_spread 49 = .ok (.iload 7, 2) := by decide +kernel
theorem dX0_spread_51 : decode cX0_spread 51 = .ok (.imul, 1) := by decide +kernel
theorem dX0_spread_52 : decode cX0_spread 52 = .ok (.isub, 1) := by decide +kernel
theorem dX0_spread_53 : decode cX0_spread 53 = .ok (.goto 10, 3) := by decide +kernel
theorem dX0_spread_56 : decode cX0_spread 56 = .ok (.aload_n 0, 1) := by decide +kernel
theorem dX0_spread_57 : decode cX0_spread 57 = .ok (.getfield 18, 3) := by decide +kernel
theorem dX0_spread_60 : decode cX0_spread 60 = .ok (.iload 6, 2) := by decide +kernel
theorem dX0_spread_62 : decode cX0_spread 62 = .ok (.iaload, 1) := by decide +kernel
theorem dX0_spread_63 : decode cX0_spread 63 = .ok (.istore 8, 2) := by decide +kernel
theorem dX0_spread_65 : decode cX0_spread 65 = .ok (.iload 8, 2) := by decide +kernel
theorem dX0_spread_67 : decode cX0_spread 67 = .ok (.iload 5, 2) := by decide +kernel
theorem dX0_spread_69 : decode cX0_spread 69 = .ok (.if_icmp .le 7, 3) := by decide +kernel
theorem dX0_spread_72 : decode cX0_spread 72 = .ok (.iload 8, 2) := by decide +kernel
theorem dX0_spread_74 : decode cX0_spread 74 = .ok (.istore 5, 2) := by decide +kernel
theorem dX0_spread_76 : decode cX0_spread 76 = .ok (.iload 6, 2) := by decide +kernel
theorem dX0_spread_78 : decode cX0_spread 78 = .ok (.iconst 1, 1) := by decide +kernel
theorem dX0_spread_79 : decode cX0_spread 79 = .ok (.iadd, 1) := by decide +kernel
theorem dX0_spread_80 : decode cX0_spread 80 = .ok (.aload_n 1, 1) := by decide +kernel
theorem dX0_spread_81 : decode cX0_spread 81 = .ok (.getfield 73, 3) := by decide +kernel
theorem dX0_spread_84 : decode cX0_spread 84 = .ok (.if_icmp .ge 10, 3) := by decide +kernel
theorem dX0_spread_87 : decode cX0_spread 87 = .ok (.iload 6, 2) := by decide +kernel
theorem dX0_spread_89 : decode cX0_spread 89 = .ok (.iconst 1, 1) := by decide +kernel
theorem dX0_spread_90 : decode cX0_spread 90 = .ok (.iadd, 1) := by decide +kernel
theorem dX0_spread_91 : decode cX0_spread 91 = .ok (.goto 4, 3) := by decide +kernel
theorem dX0_spread_94 : decode cX0_spread 94 = .ok (.iconst 0, 1) := by decide +kernel
theorem dX0_spread_95 : decode cX0_spread 95 = .ok (.istore 6, 2) := by decide +kernel
theorem dX0_spread_97 : decode cX0_spread 97 = .ok (.iinc 7 1, 3) := by decide +kernel
theorem dX0_spread_100 : decode cX0_spread 100 = .ok (.goto (-71), 3) := by decide +kernel
theorem dX0_spread_103 : decode cX0_spread 103 = .ok (.aload_n 0, 1) := by decide +kernel
theorem dX0_spread_104 : decode cX0_spread 104 = .ok (.getfield 21, 3) := by decide +kernel
theorem dX0_spread_107 : decode cX0_spread 107 = .ok (.iload 4, 2) := by decide +kernel
theorem dX0_spread_109 : decode cX0_spread 109 = .ok (.iload 5, 2) := by decide +kernel
theorem dX0_spread_111 : decode cX0_spread 111 = .ok (.iastore, 1) := by decide +kernel
theorem dX0_spread_112 : decode cX0_spread 112 = .ok (.iinc 4 1, 3) := by decide +kernel
theorem dX0_spread_115 : decode cX0_spread 115 = .ok (.goto (-112), 3) := by decide +kernel
theorem dX0_spread_118 : decode cX0_spread 118 = .ok (.return_, 1) := by decide +kernel
set_option maxHeartbeats 4000000 in
set_option maxRecDepth 100000 in
theorem s_X0_spread (l : Launch) (dC : Nat → ClassId) (dI : Nat → Nat → Nat) (cI cZ cB cJ cM cG : ClassId) (a0 a1 a2 a3 a4 a5 a6 a7 a18 a19 a20 a21 a22 a23 : Nat) (i0 i1 i2 i3 i4 i5 i6 i7 i8 : Int32) (xF2 xF3 : Nat → Int32) (p1 p2 : Int32) (sz : Nat) (p_0 : (0 : Int) ≤ i0.toInt ∧ i0.toInt ≤ 60) (p_1 : (0 : Int) ≤ i3.toInt ∧ i3.toInt ≤ 6) (p_2 : (0 : Int) ≤ i5.toInt ∧ i5.toInt ≤ 1) (p_3 : (0 : Int) ≤ i8.toInt ∧ i8.toInt ≤ 1) (p_4 : (0 : Int) ≤ p2.toInt ∧ p2.toInt ≤ 9) : Met l yX0_spread (kw yX0_spread cX0_spread 9 none) ({ frames := 2, cells := 0, slots := 0, locals := 43 } : Room) (va_Pc [.ref a0, .ref a18, .int p1, .int p2] (kPre dC dI [(cI, .int), (cZ, .boolean), (cB, .byte), (cJ, .long), (cM, .object RX2), (cG, .array .int)] [(a0, .inr (0, [.ref a1, .ref a2, .ref a3, .ref a4, .ref a5, .ref a6, .ref a7])), (a3, .inl (cI, 60, .inl xF2)), (a4, .inl (cI, 60, .inl xF3)), (a18, .inr (2, [.int i0, .int i1, .int i2, .int i3, .int i4, .int i5, .int i6, .int i7, .int i8, .ref a19, .ref a20, .ref a21, .ref a22, .ref a23]))] sz)) (va_Qv (fun (u9 : (Nat → Int32) × (Nat → Nat → Int32) × (Nat → Nat → Int64)) => True) (fun u9 t => va_P (dC, dI) vwCl [(a0, .inr (0, [.ref a1, .ref a2, .ref a3, .ref a4, .ref a5, .ref a6, .ref a7])), (a3, .inl (cI, 60, .inl xF2)), (a4, .inl (cI, 60, .inl (u9.2.1 0))), (a18, .inr (2, [.int i0, .int i1, .int i2, .int i3, .int i4, .int i5, .int i6, .int i7, .int i8, .ref a19, .ref a20, .ref a21, .ref a22, .ref a23]))] t.heap ∧ va_D (va_A [(a0, .inr (0, [.ref a1, .ref a2, .ref a3, .ref a4, .ref a5, .ref a6, .ref a7])), (a3, .inl (cI, 60, .inl xF2)), (a4, .inl (cI, 60, .inl xF3)), (a18, .inr (2, [.int i0, .int i1, .int i2, .int i3, .int i4, .int i5, .int i6, .int i7, .int i8, .ref a19, .ref a20, .ref a21, .ref a22, .ref a23]))] sz) [(a0, .inr (0, [.ref a1, .ref a2, .ref a3, .ref a4, .ref a5, .ref a6, .ref a7])), (a3, .inl (cI, 60, .inl xF2)), (a4, .inl (cI, 60, .inl (u9.2.1 0))), (a18, .inr (2, [.int i0, .int i1, .int i2, .int i3, .int i4, .int i5, .int i6, .int i7, .int i8, .ref a19, .ref a20, .ref a21, .ref a22, .ref a23]))]) (va_A [(a0, .inr (0, [.ref a1, .ref a2, .ref a3, .ref a4, .ref a5, .ref a6, .ref a7])), (a3, .inl (cI, 60, .inl xF2)), (a4, .inl (cI, 60, .inl xF3)), (a18, .inr (2, [.int i0, .int i1, .int i2, .int i3, .int i4, .int i5, .int i6, .int i7, .int i8, .ref a19, .ref a20, .ref a21, .ref a22, .ref a23]))] sz)) 0 0 (va_A [(a0, .inr (0, [.ref a1, .ref a2, .ref a3, .ref a4, .ref a5, .ref a6, .ref a7])), (a3, .inl (cI, 60, .inl xF2)), (a4, .inl (cI, 60, .inl xF3)), (a18, .inr (2, [.int i0, .int i1, .int i2, .int i3, .int i4, .int i5, .int i6, .int i7, .int i8, .ref a19, .ref a20, .ref a21, .ref a22, .ref a23]))] sz) := by
  refine kEnter (by decide) (Nat.le_of_ble_eq_true rfl) ?_
  intro p e s m below meth c ls hx hb hr hml hown hlocks hin hwd hsz hP hK hD hl
  subst hsz
  generalize hAe : va_A [(a0, .inr (0, [.ref a1, .ref a2, .ref a3, .ref a4, .ref a5, .ref a6, .ref a7])), (a3, .inl (cI, 60, .inl xF2)), (a4, .inl (cI, 60, .inl xF3)), (a18, .inr (2, [.int i0, .int i1, .int i2, .int i3, .int i4, .int i5, .int i6, .int i7, .int i8, .ref a19, .ref a20, .ref a21, .ref a22, .ref a23]))] s.heap.size = A at hD ⊢
  have hA : ∀ q : Nat, s.heap.size ≤ q → A q := fun q h => by rw [← hAe]; exact Or.inr h
  have hS : va_S A s.heap s.heap [] := va_S.rf
  have hl : lv_has ls 9 [(0, .ref a0), (1, .ref a18), (2, .int p1), (3, .int p2)] := hl
  obtain ⟨Q, hQ⟩ : ∃ Q, Q = MQ below (va_Qv (fun (u9 : (Nat → Int32) × (Nat → Nat → Int32) × (Nat → Nat → Int64)) => True) (fun u9 t => va_P (dC, dI) vwCl [(a0, .inr (0, [.ref a1, .ref a2, .ref a3, .ref a4, .ref a5, .ref a6, .ref a7])), (a3, .inl (cI, 60, .inl xF2)), (a4, .inl (cI, 60, .inl (u9.2.1 0))), (a18, .inr (2, [.int i0, .int i1, .int i2, .int i3, .int i4, .int i5, .int i6, .int i7, .int i8, .ref a19, .ref a20, .ref a21, .ref a22, .ref a23]))] t.heap ∧ va_D A [(a0, .inr (0, [.ref a1, .ref a2, .ref a3, .ref a4, .ref a5, .ref a6, .ref a7])), (a3, .inl (cI, 60, .inl xF2)), (a4, .inl (cI, 60, .inl (u9.2.1 0))), (a18, .inr (2, [.int i0, .int i1, .int i2, .int i3, .int i4, .int i5, .int i6, .int i7, .int i8, .ref a19, .ref a20, .ref a21, .ref a22, .ref a23]))]) A) ([.ref a0, .ref a18, .int p1, .int p2] : List Value).toArray s 0 0 A := ⟨_, rfl⟩
  rw [← hQ]
  have k0 : (0 : Int32).toInt = 0 := by decide
  have k1 : (1 : Int32).toInt = 1 := by decide
  refine lv_iconst (v := 0) hx hb dX0_spread_0 (by decide) ?_
  refine lv_istore (lv' := [(4, .int 0), (0, .ref a0), (1, .ref a18), (2, .int p1), (3, .int p2)]) hx hb dX0_spread_1 hl (by decide) rfl (fun ls hl => ?_)
  have lp1 : ∀ (d : Nat), ∀ (H : Heap) (locs : List Loc) (ls : Array Slot) (w4_1 : Int32) (g1_1 : Nat → Int32), ((0 : Int) ≤ w4_1.toInt ∧ w4_1.toInt ≤ 60) → (60 - w4_1.toInt).toNat < d → va_P (dC, dI) vwCl [(a0, .inr (0, [.ref a1, .ref a2, .ref a3, .ref a4, .ref a5, .ref a6, .ref a7])), (a3, .inl (cI, 60, .inl xF2)), (a4, .inl (cI, 60, .inl g1_1)), (a18, .inr (2, [.int i0, .int i1, .int i2, .int i3, .int i4, .int i5, .int i6, .int i7, .int i8, .ref a19, .ref a20, .ref a21, .ref a22, .ref a23]))] H → va_D A [(a0, .inr (0, [.ref a1, .ref a2, .ref a3, .ref a4, .ref a5, .ref a6, .ref a7])), (a3, .inl (cI, 60, .inl xF2)), (a4, .inl (cI, 60, .inl g1_1)), (a18, .inr (2, [.int i0, .int i1, .int i2, .int i3, .int i4, .int i5, .int i6, .int i7, .int i8, .ref a19, .ref a20, .ref a21, .ref a22, .ref a23]))] → va_S A s.heap H locs → lv_has ls 9 [(0, .ref a0), (1, .ref a18), (2, .int p1), (3, .int p2), (4, .int w4_1)] → W p l e ({ frames := 2, cells := 0, slots := 0, locals := 43 } : Room) s m ([.ref a0, .ref a18, .int p1, .int p2] : List Value).toArray below meth c H locs 0 0 Q (F0 m 3 ls []) := by
    intro d
    induction d with
    | zero =>
      intro H locs ls w4_1 g1_1 hr_w4_1 hm hP hD hS hl
      omega
    | succ d ih1 =>
      intro H locs ls w4_1 g1_1 hr_w4_1 hm hP hD hS hl
      refine lv_iload hx hb dX0_spread_3 (lv_at hl 4 rfl) ?_
      refine lv_aload_n hx hb dX0_spread_5 rfl (lv_at hl 1 rfl) ?_
      refine va_get (D := (dC, dI)) (ci := 2) (v := .int i0) (C := RX2) (T := TX2) (N := 14) hx hb hwd inlX2 hown hK hP 3 rfl rfl 0 (by decide) (hwd _ kr20_11) (fun _ h9 => h9) rfl dX0_spread_6 ?_
      refine lv_icmp_ge (tgt := 118) hx hb dX0_spread_9 (by decide) (fun c812 => ?_) (fun c812 => ?_)
      · rw [ki_le] at c812
        have hP9 := hP.sub (ws' := [(a0, .inr (0, [.ref a1, .ref a2, .ref a3, .ref a4, .ref a5, .ref a6, .ref a7])), (a3, .inl (cI, 60, .inl xF2)), (a4, .inl (cI, 60, .inl g1_1)), (a18, .inr (2, [.int i0, .int i1, .int i2, .int i3, .int i4, .int i5, .int i6, .int i7, .int i8, .ref a19, .ref a20, .ref a21, .ref a22, .ref a23]))]) [0, 1, 2, 3] rfl
        have hD9 := hD.sub (ws' := [(a0, .inr (0, [.ref a1, .ref a2, .ref a3, .ref a4, .ref a5, .ref a6, .ref a7])), (a3, .inl (cI, 60, .inl xF2)), (a4, .inl (cI, 60, .inl g1_1)), (a18, .inr (2, [.int i0, .int i1, .int i2, .int i3, .int i4, .int i5, .int i6, .int i7, .int i8, .ref a19, .ref a20, .ref a21, .ref a22, .ref a23]))]) [0, 1, 2, 3] (by decide) rfl
        rw [hQ]
        exact W.vret hx hb hr (fun t ht hW => ⟨⟨(pickG 0 [], pickG (fun _ => 0) [g1_1], pickG (fun _ => 0) []), rfl, trivial, (by rw [ht]; exact hP9), hD9⟩, hS.F ht⟩) hS.2.2 dX0_spread_118
      · rw [ki_le] at c812
        refine lv_iconst (v := 0) hx hb dX0_spread_12 (by decide) ?_
        refine lv_istore (lv' := [(5, .int 0), (0, .ref a0), (1, .ref a18), (2, .int p1), (3, .int p2), (4, .int w4_1)]) hx hb dX0_spread_13 hl (by decide) rfl (fun ls hl => ?_)
        refine lv_aload_n hx hb dX0_spread_15 rfl (lv_at hl 2 rfl) ?_
        refine lv_iload hx hb dX0_spread_16 (lv_at hl 5 rfl) ?_
        refine lv_iload_n hx hb dX0_spread_18 rfl (lv_at hl 4 rfl) ?_
        refine lv_isub hx hb dX0_spread_19 ?_
        refine lv_topi (fun x813 ex813 => ?_)
        have tx813 := ia_sub (a := w4_1) (b := p2) (by omega) (by omega)
        rw [← ex813] at tx813
        have hPc := hP.sub (ws' := [(a18, .inr (2, [.int i0, .int i1, .int i2, .int i3, .int i4, .int i5, .int i6, .int i7, .int i8, .ref a19, .ref a20, .ref a21, .ref a22, .ref a23]))]) [3] rfl
        have hDc := hD.sub (ws' := [(a18, .inr (2, [.int i0, .int i1, .int i2, .int i3, .int i4, .int i5, .int i6, .int i7, .int i8, .ref a19, .ref a20, .ref a21, .ref a22, .ref a23]))]) [3] (by decide) rfl
        have hFc := va_free (wc := [(a18, .inr (2, [.int i0, .int i1, .int i2, .int i3, .int i4, .int i5, .int i6, .int i7, .int i8, .ref a19, .ref a20, .ref a21, .ref a22, .ref a23]))]) hD hS hA [3] rfl
        refine va_calli (va_runV (As := [.int x813]) (rest := []) ⟨hx, hb, hml, hown, hwd⟩ (s_X2_round l dC dI cI cZ cB cJ cM cG a18 a19 a20 a21 a22 a23 i0 i1 i2 i3 i4 i5 i6 i7 i8 x813 H.size (show (0 : Int) ≤ i0.toInt ∧ i0.toInt ≤ 60 from ⟨by omega, by omega⟩) (show (0 : Int) ≤ i3.toInt ∧ i3.toInt ≤ 6 from ⟨by omega, by omega⟩) (show (0 : Int) ≤ i5.toInt ∧ i5.toInt ≤ 1 from ⟨by omega, by omega⟩) (show (0 : Int) ≤ i8.toInt ∧ i8.toInt ≤ 1 from ⟨by omega, by omega⟩)) (cwV 1 hwd (gV kr21_3 kr21_4 kr21_5 kr2_18 kr21_6) rfl rfl rfl (by decide +kernel) ⟨Nat.le_of_ble_eq_true rfl, Nat.le_of_ble_eq_true rfl⟩) (kPreV hPc hK hDc (ci := 2) (q0 := 0) rfl rfl) rfl rfl hl.1 rfl (lv_room (Nat.le_of_ble_eq_true rfl)) dX0_spread_20 ⟨Nat.le_of_ble_eq_true rfl, Nat.le_of_ble_eq_true rfl⟩) hS (fun q _ h => hFc q h) hFc (fun r814 u815 t H1 locs ht9 hvm hw hB hz1 hk1 hS => ?_)
        obtain ⟨hw816, -⟩ := hw
        have hw816 : (0 : Int) ≤ r814.toInt ∧ r814.toInt ≤ 59 := hw816
        obtain ⟨hP1, hD1⟩ := hB
        rw [ht9] at hP1
        obtain ⟨hP, hD⟩ := va_join (wr := [(a0, .inr (0, [.ref a1, .ref a2, .ref a3, .ref a4, .ref a5, .ref a6, .ref a7])), (a3, .inl (cI, 60, .inl xF2)), (a4, .inl (cI, 60, .inl g1_1))]) (w1 := [(a18, .inr (2, [.int i0, .int i1, .int i2, .int i3, .int i4, .int i5, .int i6, .int i7, .int i8, .ref a19, .ref a20, .ref a21, .ref a22, .ref a23]))]) hP hD [3] [0, 1, 2] rfl rfl (by decide) (by decide) hk1 hFc hP1 hD1
        generalize H1 = H at hP hS ⊢
        have hP : va_P (dC, dI) vwCl [(a0, .inr (0, [.ref a1, .ref a2, .ref a3, .ref a4, .ref a5, .ref a6, .ref a7])), (a3, .inl (cI, 60, .inl xF2)), (a4, .inl (cI, 60, .inl g1_1)), (a18, .inr (2, [.int i0, .int i1, .int i2, .int i3, .int i4, .int i5, .int i6, .int i7, .int i8, .ref a19, .ref a20, .ref a21, .ref a22, .ref a23]))] H := hP
        have hD : va_D A [(a0, .inr (0, [.ref a1, .ref a2, .ref a3, .ref a4, .ref a5, .ref a6, .ref a7])), (a3, .inl (cI, 60, .inl xF2)), (a4, .inl (cI, 60, .inl g1_1)), (a18, .inr (2, [.int i0, .int i1, .int i2, .int i3, .int i4, .int i5, .int i6, .int i7, .int i8, .ref a19, .ref a20, .ref a21, .ref a22, .ref a23]))] := hD
        refine lv_istore (lv' := [(6, .int r814), (5, .int 0), (0, .ref a0), (1, .ref a18), (2, .int p1), (3, .int p2), (4, .int w4_1)]) hx hb dX0_spread_23 hl (by decide) rfl (fun ls hl => ?_)
        refine lv_iload_n hx hb dX0_spread_25 rfl (lv_at hl 5 rfl) ?_
        refine lv_ineg hx hb dX0_spread_26 ?_
        refine lv_topi (fun x817 ex817 => ?_)
        have tx817 := ia_neg (a := p2) (by omega)
        rw [← ex817] at tx817
        refine lv_istore (lv' := [(7, .int x817), (6, .int r814), (5, .int 0), (0, .ref a0), (1, .ref a18), (2, .int p1), (3, .int p2), (4, .int w4_1)]) hx hb dX0_spread_27 hl (by decide) rfl (fun ls hl => ?_)
        have lp80 : ∀ (d : Nat), ∀ (H : Heap) (locs : List Loc) (ls : Array Slot) (w5_80 : Int32) (w6_80 : Int32) (w7_80 : Int32), ((0 : Int) ≤ w5_80.toInt ∧ w5_80.toInt ≤ 2147483647) → ((0 : Int) ≤ w6_80.toInt ∧ w6_80.toInt ≤ 59) → ((-9 : Int) ≤ w7_80.toInt ∧ w7_80.toInt ≤ 10) → (10 - w7_80.toInt).toNat < d → va_P (dC, dI) vwCl [(a0, .inr (0, [.ref a1, .ref a2, .ref a3, .ref a4, .ref a5, .ref a6, .ref a7])), (a3, .inl (cI, 60, .inl xF2)), (a4, .inl (cI, 60, .inl g1_1)), (a18, .inr (2, [.int i0, .int i1, .int i2, .int i3, .int i4, .int i5, .int i6, .int i7, .int i8, .ref a19, .ref a20, .ref a21, .ref a22, .ref a23]))] H → va_D A [(a0, .inr (0, [.ref a1, .ref a2, .ref a3, .ref a4, .ref a5, .ref a6, .ref a7])), (a3, .inl (cI, 60, .inl xF2)), (a4, .inl (cI, 60, .inl g1_1)), (a18, .inr (2, [.int i0, .int i1, .int i2, .int i3, .int i4, .int i5, .int i6, .int i7, .int i8, .ref a19, .ref a20, .ref a21, .ref a22, .ref a23]))] → va_S A s.heap H locs → lv_has ls 9 [(0, .ref a0), (1, .ref a18), (2, .int p1), (3, .int p2), (4, .int w4_1), (5, .int w5_80), (6, .int w6_80), (7, .int w7_80)] → W p l e ({ frames := 2, cells := 0, slots := 0, locals := 43 } : Room) s m ([.ref a0, .ref a18, .int p1, .int p2] : List Value).toArray below meth c H locs 0 0 Q (F0 m 29 ls []) := by
          intro d
          induction d with
          | zero =>
            intro H locs ls w5_80 w6_80 w7_80 hr_w5_80 hr_w6_80 hr_w7_80 hm hP hD hS hl
            omega
          | succ d ih80 =>
            intro H locs ls w5_80 w6_80 w7_80 hr_w5_80 hr_w6_80 hr_w7_80 hm hP hD hS hl
            refine lv_iload hx hb dX0_spread_29 (lv_at hl 7 rfl) ?_
            refine lv_iload_n hx hb dX0_spread_31 rfl (lv_at hl 3 rfl) ?_
            refine lv_icmp_gt (tgt := 103) hx hb dX0_spread_32 (by decide) (fun c926 => ?_) (fun c926 => ?_)
            · rw [ki_lt] at c926
              refine lv_aload_n hx hb dX0_spread_103 rfl (lv_at hl 0 rfl) ?_
              refine va_get (D := (dC, dI)) (ci := 0) (v := .ref a4) (C := RX0) (T := TX0) (N := 7) hx hb hwd inlX0 hown hK hP 0 rfl rfl 3 (by decide) (hwd _ kr3_20) (fun _ h9 => h9) rfl dX0_spread_104 ?_
              refine lv_iload hx hb dX0_spread_107 (lv_at hl 4 rfl) ?_
              refine lv_iload hx hb dX0_spread_109 (lv_at hl 5 rfl) ?_
              refine va_iast hx hb hK hP hD hS 2 0 rfl rfl (vp_of (by omega) (by omega)) dX0_spread_111 (fun H locs hP hD hS => ?_)
              obtain ⟨f927, ef927⟩ : ∃ f, f = upd g1_1 w4_1.toNatClampNeg w5_80 := ⟨_, rfl⟩
              have hP : va_P (dC, dI) vwCl [(a0, .inr (0, [.ref a1, .ref a2, .ref a3, .ref a4, .ref a5, .ref a6, .ref a7])), (a3, .inl (cI, 60, .inl xF2)), (a4, .inl (cI, 60, .inl f927)), (a18, .inr (2, [.int i0, .int i1, .int i2, .int i3, .int i4, .int i5, .int i6, .int i7, .int i8, .ref a19, .ref a20, .ref a21, .ref a22, .ref a23]))] H := by rw [ef927]; exact hP
              have hD : va_D A [(a0, .inr (0, [.ref a1, .ref a2, .ref a3, .ref a4, .ref a5, .ref a6, .ref a7])), (a3, .inl (cI, 60, .inl xF2)), (a4, .inl (cI, 60, .inl f927)), (a18, .inr (2, [.int i0, .int i1, .int i2, .int i3, .int i4, .int i5, .int i6, .int i7, .int i8, .ref a19, .ref a20, .ref a21, .ref a22, .ref a23]))] := by rw [ef927]; exact hD
              obtain ⟨x928, ex928⟩ : ∃ y : Int32, y = w4_1 + 1 := ⟨_, rfl⟩
              refine lv_iinc (v := x928) (lv' := [(4, .int x928), (0, .ref a0), (1, .ref a18), (2, .int p1), (3, .int p2), (5, .int w5_80), (6, .int w6_80), (7, .int w7_80)]) hx hb dX0_spread_112 hl (k := 4) rfl (by rw [ex928]; rfl) (by decide) rfl (fun ls hl => ?_)
              have tx928 := ia_add (a := w4_1) (b := (1 : Int32)) (by omega) (by omega)
              rw [← ex928] at tx928
              refine lv_goto (tgt := 3) hx hb dX0_spread_115 (by decide) ?_
              exact ih1 _ _ ls x928 f927 (show (0 : Int) ≤ x928.toInt ∧ x928.toInt ≤ 60 from ⟨by omega, by omega⟩) (by omega) (hP.sub (ws' := [(a0, .inr (0, [.ref a1, .ref a2, .ref a3, .ref a4, .ref a5, .ref a6, .ref a7])), (a3, .inl (cI, 60, .inl xF2)), (a4, .inl (cI, 60, .inl f927)), (a18, .inr (2, [.int i0, .int i1, .int i2, .int i3, .int i4, .int i5, .int i6, .int i7, .int i8, .ref a19, .ref a20, .ref a21, .ref a22, .ref a23]))]) [0, 1, 2, 3] rfl) (hD.sub (ws' := [(a0, .inr (0, [.ref a1, .ref a2, .ref a3, .ref a4, .ref a5, .ref a6, .ref a7])), (a3, .inl (cI, 60, .inl xF2)), (a4, .inl (cI, 60, .inl f927)), (a18, .inr (2, [.int i0, .int i1, .int i2, .int i3, .int i4, .int i5, .int i6, .int i7, .int i8, .ref a19, .ref a20, .ref a21, .ref a22, .ref a23]))]) [0, 1, 2, 3] (by decide) rfl) hS (lv_sub hl [1, 2, 3, 4, 0] rfl)
            · rw [ki_lt] at c926
              refine lv_iload_n hx hb dX0_spread_35 rfl (lv_at hl 2 rfl) ?_
              refine lv_iconst (v := 1) hx hb dX0_spread_36 (by decide) ?_
              refine lv_icmp_ne (tgt := 56) hx hb dX0_spread_37 (by decide) (fun c929 => ?_) (fun c929 => ?_)
              · rw [ki_eq] at c929
                refine lv_aload_n hx hb dX0_spread_56 rfl (lv_at hl 0 rfl) ?_
                refine va_get (D := (dC, dI)) (ci := 0) (v := .ref a3) (C := RX0) (T := TX0) (N := 7) hx hb hwd inlX0 hown hK hP 0 rfl rfl 2 (by decide) (hwd _ kr3_19) (fun _ h9 => h9) rfl dX0_spread_57 ?_
                refine lv_iload hx hb dX0_spread_60 (lv_at hl 6 rfl) ?_
                have h930 : vp_in w6_80 60 := (vp_of (by omega) (by omega))
                refine va_iald hx hb hK hP 1 0 rfl rfl h930 dX0_spread_62 ?_
                refine lv_topi (fun x931 ex931 => ?_)
                refine lv_istore (lv' := [(8, .int x931), (0, .ref a0), (1, .ref a18), (2, .int p1), (3, .int p2), (4, .int w4_1), (5, .int w5_80), (6, .int w6_80), (7, .int w7_80)]) hx hb dX0_spread_63 hl (by decide) rfl (fun ls hl => ?_)
                refine lv_iload hx hb dX0_spread_65 (lv_at hl 0 rfl) ?_
                refine lv_iload hx hb dX0_spread_67 (lv_at hl 6 rfl) ?_
                have jp91 : ∀ (H : Heap) (locs : List Loc) (ls : Array Slot) (w5_91 : Int32), ((0 : Int) ≤ w5_91.toInt ∧ w5_91.toInt ≤ 2147483647) → va_P (dC, dI) vwCl [(a0, .inr (0, [.ref a1, .ref a2, .ref a3, .ref a4, .ref a5, .ref a6, .ref a7])), (a3, .inl (cI, 60, .inl xF2)), (a4, .inl (cI, 60, .inl g1_1)), (a18, .inr (2, [.int i0, .int i1, .int i2, .int i3, .int i4, .int i5, .int i6, .int i7, .int i8, .ref a19, .ref a20, .ref a21, .ref a22, .ref a23]))] H → va_D A [(a0, .inr (0, [.ref a1, .ref a2, .ref a3, .ref a4, .ref a5, .ref a6, .ref a7])), (a3, .inl (cI, 60, .inl xF2)), (a4, .inl (cI, 60, .inl g1_1)), (a18, .inr (2, [.int i0, .int i1, .int i2, .int i3, .int i4, .int i5, .int i6, .int i7, .int i8, .ref a19, .ref a20, .ref a21, .ref a22, .ref a23]))] → va_S A s.heap H locs → lv_has ls 9 [(0, .ref a0), (1, .ref a18), (2, .int p1), (3, .int p2), (4, .int w4_1), (5, .int w5_91), (6, .int w6_80), (7, .int w7_80), (8, .int x931)] → W p l e ({ frames := 2, cells := 0, slots := 0, locals := 43 } : Room) s m ([.ref a0, .ref a18, .int p1, .int p2] : List Value).toArray below meth c H locs 0 0 Q (F0 m 76 ls []) := by
                  intro H locs ls w5_91 hr_w5_91 hP hD hS hl
                  refine lv_iload hx hb dX0_spread_76 (lv_at hl 6 rfl) ?_
                  refine lv_iconst (v := 1) hx hb dX0_spread_78 (by decide) ?_
                  refine lv_iadd hx hb dX0_spread_79 ?_
                  refine lv_topi (fun x938 ex938 => ?_)
                  have tx938 := ia_add (a := w6_80) (b := (1 : Int32)) (by omega) (by omega)
                  rw [← ex938] at tx938
                  refine lv_aload_n hx hb dX0_spread_80 rfl (lv_at hl 1 rfl) ?_
                  refine va_get (D := (dC, dI)) (ci := 2) (v := .int i0) (C := RX2) (T := TX2) (N := 14) hx hb hwd inlX2 hown hK hP 3 rfl rfl 0 (by decide) (hwd _ kr20_11) (fun _ h9 => h9) rfl dX0_spread_81 ?_
                  refine lv_icmp_ge (tgt := 94) hx hb dX0_spread_84 (by decide) (fun c939 => ?_) (fun c939 => ?_)
                  · rw [ki_le] at c939
                    refine lv_iconst (v := 0) hx hb dX0_spread_94 (by decide) ?_
                    refine lv_istore (lv' := [(6, .int 0), (0, .ref a0), (1, .ref a18), (2, .int p1), (3, .int p2), (4, .int w4_1), (5, .int w5_91), (7, .int w7_80), (8, .int x931)]) hx hb dX0_spread_95 hl (by decide) rfl (fun ls hl => ?_)
                    obtain ⟨x940, ex940⟩ : ∃ y : Int32, y = w7_80 + 1 := ⟨_, rfl⟩
                    refine lv_iinc (v := x940) (lv' := [(7, .int x940), (6, .int 0), (0, .ref a0), (1, .ref a18), (2, .int p1), (3, .int p2), (4, .int w4_1), (5, .int w5_91), (8, .int x931)]) hx hb dX0_spread_97 hl (k := 7) rfl (by rw [ex940]; rfl) (by decide) rfl (fun ls hl => ?_)
                    have tx940 := ia_add (a := w7_80) (b := (1 : Int32)) (by omega) (by omega)
                    rw [← ex940] at tx940
                    refine lv_goto (tgt := 29) hx hb dX0_spread_100 (by decide) ?_
                    exact ih80 _ _ ls w5_91 (0) x940 (show (0 : Int) ≤ w5_91.toInt ∧ w5_91.toInt ≤ 2147483647 from ⟨by omega, i32_hi⟩) (show (0 : Int) ≤ (0 : Int32).toInt ∧ (0 : Int32).toInt ≤ 59 from ⟨by omega, by omega⟩) (show (-9 : Int) ≤ x940.toInt ∧ x940.toInt ≤ 10 from ⟨by omega, by omega⟩) (by omega) (hP.sub (ws' := [(a0, .inr (0, [.ref a1, .ref a2, .ref a3, .ref a4, .ref a5, .ref a6, .ref a7])), (a3, .inl (cI, 60, .inl xF2)), (a4, .inl (cI, 60, .inl g1_1)), (a18, .inr (2, [.int i0, .int i1, .int i2, .int i3, .int i4, .int i5, .int i6, .int i7, .int i8, .ref a19, .ref a20, .ref a21, .ref a22, .ref a23]))]) [0, 1, 2, 3] rfl) (hD.sub (ws' := [(a0, .inr (0, [.ref a1, .ref a2, .ref a3, .ref a4, .ref a5, .ref a6, .ref a7])), (a3, .inl (cI, 60, .inl xF2)), (a4, .inl (cI, 60, .inl g1_1)), (a18, .inr (2, [.int i0, .int i1, .int i2, .int i3, .int i4, .int i5, .int i6, .int i7, .int i8, .ref a19, .ref a20, .ref a21, .ref a22, .ref a23]))]) [0, 1, 2, 3] (by decide) rfl) hS (lv_sub hl [2, 3, 4, 5, 6, 7, 1, 0] rfl)
                  · rw [ki_le] at c939
                    refine lv_iload hx hb dX0_spread_87 (lv_at hl 6 rfl) ?_
                    refine lv_iconst (v := 1) hx hb dX0_spread_89 (by decide) ?_
                    refine lv_iadd hx hb dX0_spread_90 ?_
                    refine lv_topi (fun x941 ex941 => ?_)
                    have tx941 := ia_add (a := w6_80) (b := (1 : Int32)) (by omega) (by omega)
                    rw [← ex941] at tx941
                    refine lv_goto (tgt := 95) hx hb dX0_spread_91 (by decide) ?_
                    refine lv_istore (lv' := [(6, .int x941), (0, .ref a0), (1, .ref a18), (2, .int p1), (3, .int p2), (4, .int w4_1), (5, .int w5_91), (7, .int w7_80), (8, .int x931)]) hx hb dX0_spread_95 hl (by decide) rfl (fun ls hl => ?_)
                    obtain ⟨x942, ex942⟩ : ∃ y : Int32, y = w7_80 + 1 := ⟨_, rfl⟩
                    refine lv_iinc (v := x942) (lv' := [(7, .int x942), (6, .int x941), (0, .ref a0), (1, .ref a18), (2, .int p1), (3, .int p2), (4, .int w4_1), (5, .int w5_91), (8, .int x931)]) hx hb dX0_spread_97 hl (k := 7) rfl (by rw [ex942]; rfl) (by decide) rfl (fun ls hl => ?_)
                    have tx942 := ia_add (a := w7_80) (b := (1 : Int32)) (by omega) (by omega)
                    rw [← ex942] at tx942
                    refine lv_goto (tgt := 29) hx hb dX0_spread_100 (by decide) ?_
                    exact ih80 _ _ ls w5_91 x941 x942 (show (0 : Int) ≤ w5_91.toInt ∧ w5_91.toInt ≤ 2147483647 from ⟨by omega, i32_hi⟩) (show (0 : Int) ≤ x941.toInt ∧ x941.toInt ≤ 59 from ⟨by omega, by omega⟩) (show (-9 : Int) ≤ x942.toInt ∧ x942.toInt ≤ 10 from ⟨by omega, by omega⟩) (by omega) (hP.sub (ws' := [(a0, .inr (0, [.ref a1, .ref a2, .ref a3, .ref a4, .ref a5, .ref a6, .ref a7])), (a3, .inl (cI, 60, .inl xF2)), (a4, .inl (cI, 60, .inl g1_1)), (a18, .inr (2, [.int i0, .int i1, .int i2, .int i3, .int i4, .int i5, .int i6, .int i7, .int i8, .ref a19, .ref a20, .ref a21, .ref a22, .ref a23]))]) [0, 1, 2, 3] rfl) (hD.sub (ws' := [(a0, .inr (0, [.ref a1, .ref a2, .ref a3, .ref a4, .ref a5, .ref a6, .ref a7])), (a3, .inl (cI, 60, .inl xF2)), (a4, .inl (cI, 60, .inl g1_1)), (a18, .inr (2, [.int i0, .int i1, .int i2, .int i3, .int i4, .int i5, .int i6, .int i7, .int i8, .ref a19, .ref a20, .ref a21, .ref a22, .ref a23]))]) [0, 1, 2, 3] (by decide) rfl) hS (lv_sub hl [2, 3, 4, 5, 6, 7, 1, 0] rfl)
                refine lv_icmp_le (tgt := 76) hx hb dX0_spread_69 (by decide) (fun c943 => ?_) (fun c943 => ?_)
                · rw [ki_le] at c943
                  exact jp91 _ _ ls w5_80 (show (0 : Int) ≤ w5_80.toInt ∧ w5_80.toInt ≤ 2147483647 from ⟨by omega, i32_hi⟩) (hP.sub (ws' := [(a0, .inr (0, [.ref a1, .ref a2, .ref a3, .ref a4, .ref a5, .ref a6, .ref a7])), (a3, .inl (cI, 60, .inl xF2)), (a4, .inl (cI, 60, .inl g1_1)), (a18, .inr (2, [.int i0, .int i1, .int i2, .int i3, .int i4, .int i5, .int i6, .int i7, .int i8, .ref a19, .ref a20, .ref a21, .ref a22, .ref a23]))]) [0, 1, 2, 3] rfl) (hD.sub (ws' := [(a0, .inr (0, [.ref a1, .ref a2, .ref a3, .ref a4, .ref a5, .ref a6, .ref a7])), (a3, .inl (cI, 60, .inl xF2)), (a4, .inl (cI, 60, .inl g1_1)), (a18, .inr (2, [.int i0, .int i1, .int i2, .int i3, .int i4, .int i5, .int i6, .int i7, .int i8, .ref a19, .ref a20, .ref a21, .ref a22, .ref a23]))]) [0, 1, 2, 3] (by decide) rfl) hS (lv_sub hl [1, 2, 3, 4, 5, 6, 7, 8, 0] rfl)
                · rw [ki_le] at c943
                  refine lv_iload hx hb dX0_spread_72 (lv_at hl 0 rfl) ?_
                  refine lv_istore (lv' := [(5, .int x931), (8, .int x931), (0, .ref a0), (1, .ref a18), (2, .int p1), (3, .int p2), (4, .int w4_1), (6, .int w6_80), (7, .int w7_80)]) hx hb dX0_spread_74 hl (by decide) rfl (fun ls hl => ?_)
                  exact jp91 _ _ ls x931 (show (0 : Int) ≤ x931.toInt ∧ x931.toInt ≤ 2147483647 from ⟨by omega, i32_hi⟩) (hP.sub (ws' := [(a0, .inr (0, [.ref a1, .ref a2, .ref a3, .ref a4, .ref a5, .ref a6, .ref a7])), (a3, .inl (cI, 60, .inl xF2)), (a4, .inl (cI, 60, .inl g1_1)), (a18, .inr (2, [.int i0, .int i1, .int i2, .int i3, .int i4, .int i5, .int i6, .int i7, .int i8, .ref a19, .ref a20, .ref a21, .ref a22, .ref a23]))]) [0, 1, 2, 3] rfl) (hD.sub (ws' := [(a0, .inr (0, [.ref a1, .ref a2, .ref a3, .ref a4, .ref a5, .ref a6, .ref a7])), (a3, .inl (cI, 60, .inl xF2)), (a4, .inl (cI, 60, .inl g1_1)), (a18, .inr (2, [.int i0, .int i1, .int i2, .int i3, .int i4, .int i5, .int i6, .int i7, .int i8, .ref a19, .ref a20, .ref a21, .ref a22, .ref a23]))]) [0, 1, 2, 3] (by decide) rfl) hS (lv_sub hl [2, 3, 4, 5, 6, 0, 7, 8, 1] rfl)
              · rw [ki_eq] at c929
                refine lv_aload_n hx hb dX0_spread_40 rfl (lv_at hl 0 rfl) ?_
                refine va_get (D := (dC, dI)) (ci := 0) (v := .ref a3) (C := RX0) (T := TX0) (N := 7) hx hb hwd inlX0 hown hK hP 0 rfl rfl 2 (by decide) (hwd _ kr3_19) (fun _ h9 => h9) rfl dX0_spread_41 ?_
                refine lv_iload hx hb dX0_spread_44 (lv_at hl 6 rfl) ?_
                have h944 : vp_in w6_80 60 := (vp_of (by omega) (by omega))
                refine va_iald hx hb hK hP 1 0 rfl rfl h944 dX0_spread_46 ?_
                refine lv_topi (fun x945 ex945 => ?_)
                refine lv_iload hx hb dX0_spread_47 (lv_at hl 7 rfl) ?_
                refine lv_iload hx hb dX0_spread_49 (lv_at hl 7 rfl) ?_
                refine lv_imul hx hb dX0_spread_51 ?_
                refine lv_topi (fun x946 ex946 => ?_)
                refine lv_isub hx hb dX0_spread_52 ?_
                refine lv_topi (fun x947 ex947 => ?_)
                refine lv_goto (tgt := 63) hx hb dX0_spread_53 (by decide) ?_
                refine lv_istore (lv' := [(8, .int x947), (0, .ref a0), (1, .ref a18), (2, .int p1), (3, .int p2), (4, .int w4_1), (5, .int w5_80), (6, .int w6_80), (7, .int w7_80)]) hx hb dX0_spread_63 hl (by decide) rfl (fun ls hl => ?_)
                refine lv_iload hx hb dX0_spread_65 (lv_at hl 0 rfl) ?_
                refine lv_iload hx hb dX0_spread_67 (lv_at hl 6 rfl) ?_
                have jp92 : ∀ (H : Heap) (locs : List Loc) (ls : Array Slot) (w5_92 : Int32), ((0 : Int) ≤ w5_92.toInt ∧ w5_92.toInt ≤ 2147483647) → va_P (dC, dI) vwCl [(a0, .inr (0, [.ref a1, .ref a2, .ref a3, .ref a4, .ref a5, .ref a6, .ref a7])), (a3, .inl (cI, 60, .inl xF2)), (a4, .inl (cI, 60, .inl g1_1)), (a18, .inr (2, [.int i0, .int i1, .int i2, .int i3, .int i4, .int i5, .int i6, .int i7, .int i8, .ref a19, .ref a20, .ref a21, .ref a22, .ref a23]))] H → va_D A [(a0, .inr (0, [.ref a1, .ref a2, .ref a3, .ref a4, .ref a5, .ref a6, .ref a7])), (a3, .inl (cI, 60, .inl xF2)), (a4, .inl (cI, 60, .inl g1_1)), (a18, .inr (2, [.int i0, .int i1, .int i2, .int i3, .int i4, .int i5, .int i6, .int i7, .int i8, .ref a19, .ref a20, .ref a21, .ref a22, .ref a23]))] → va_S A s.heap H locs → lv_has ls 9 [(0, .ref a0), (1, .ref a18), (2, .int p1), (3, .int p2), (4, .int w4_1), (5, .int w5_92), (6, .int w6_80), (7, .int w7_80), (8, .int x947)] → W p l e ({ frames := 2, cells := 0, slots := 0, locals := 43 } : Room) s m ([.ref a0, .ref a18, .int p1, .int p2] : List Value).toArray below meth c H locs 0 0 Q (F0 m 76 ls []) := by
                  intro H locs ls w5_92 hr_w5_92 hP hD hS hl
                  refine lv_iload hx hb dX0_spread_76 (lv_at hl 6 rfl) ?_
                  refine lv_iconst (v := 1) hx hb dX0_spread_78 (by decide) ?_
                  refine lv_iadd hx hb dX0_spread_79 ?_
                  refine lv_topi (fun x954 ex954 => ?_)
                  have tx954 := ia_add (a := w6_80) (b := (1 : Int32)) (by omega) (by omega)
                  rw [← ex954] at tx954
                  refine lv_aload_n hx hb dX0_spread_80 rfl (lv_at hl 1 rfl) ?_
                  refine va_get (D := (dC, dI)) (ci := 2) (v := .int i0) (C := RX2) (T := TX2) (N := 14) hx hb hwd inlX2 hown hK hP 3 rfl rfl 0 (by decide) (hwd _ kr20_11) (fun _ h9 => h9) rfl dX0_spread_81 ?_
                  refine lv_icmp_ge (tgt := 94) hx hb dX0_spread_84 (by decide) (fun c955 => ?_) (fun c955 => ?_)
                  · rw [ki_le] at c955
                    refine lv_iconst (v := 0) hx hb dX0_spread_94 (by decide) ?_
                    refine lv_istore (lv' := [(6, .int 0), (0, .ref a0), (1, .ref a18), (2, .int p1), (3, .int p2), (4, .int w4_1), (5, .int w5_92), (7, .int w7_80), (8, .int x947)]) hx hb dX0_spread_95 hl (by decide) rfl (fun ls hl => ?_)
                    obtain ⟨x956, ex956⟩ : ∃ y : Int32, y = w7_80 + 1 := ⟨_, rfl⟩
                    refine lv_iinc (v := x956) (lv' := [(7, .int x956), (6, .int 0), (0, .ref a0), (1, .ref a18), (2, .int p1), (3, .int p2), (4, .int w4_1), (5, .int w5_92), (8, .int x947)]) hx hb dX0_spread_97 hl (k := 7) rfl (by rw [ex956]; rfl) (by decide) rfl (fun ls hl => ?_)
                    have tx956 := ia_add (a := w7_80) (b := (1 : Int32)) (by omega) (by omega)
                    rw [← ex956] at tx956
                    refine lv_goto (tgt := 29) hx hb dX0_spread_100 (by decide) ?_
                    exact ih80 _ _ ls w5_92 (0) x956 (show (0 : Int) ≤ w5_92.toInt ∧ w5_92.toInt ≤ 2147483647 from ⟨by omega, i32_hi⟩) (show (0 : Int) ≤ (0 : Int32).toInt ∧ (0 : Int32).toInt ≤ 59 from ⟨by omega, by omega⟩) (show (-9 : Int) ≤ x956.toInt ∧ x956.toInt ≤ 10 from ⟨by omega, by omega⟩) (by omega) (hP.sub (ws' := [(a0, .inr (0, [.ref a1, .ref a2, .ref a3, .ref a4, .ref a5, .ref a6, .ref a7])), (a3, .inl (cI, 60, .inl xF2)), (a4, .inl (cI, 60, .inl g1_1)), (a18, .inr (2, [.int i0, .int i1, .int i2, .int i3, .int i4, .int i5, .int i6, .int i7, .int i8, .ref a19, .ref a20, .ref a21, .ref a22, .ref a23]))]) [0, 1, 2, 3] rfl) (hD.sub (ws' := [(a0, .inr (0, [.ref a1, .ref a2, .ref a3, .ref a4, .ref a5, .ref a6, .ref a7])), (a3, .inl (cI, 60, .inl xF2)), (a4, .inl (cI, 60, .inl g1_1)), (a18, .inr (2, [.int i0, .int i1, .int i2, .int i3, .int i4, .int i5, .int i6, .int i7, .int i8, .ref a19, .ref a20, .ref a21, .ref a22, .ref a23]))]) [0, 1, 2, 3] (by decide) rfl) hS (lv_sub hl [2, 3, 4, 5, 6, 7, 1, 0] rfl)
                  · rw [ki_le] at c955
                    refine lv_iload hx hb dX0_spread_87 (lv_at hl 6 rfl) ?_
                    refine lv_iconst (v := 1) hx hb dX0_spread_89 (by decide) ?_
                    refine lv_iadd hx hb dX0_spread_90 ?_
                    refine lv_topi (fun x957 ex957 => ?_)
                    have tx957 := ia_add (a := w6_80) (b := (1 : Int32)) (by omega) (by omega)
                    rw [← ex957] at tx957
                    refine lv_goto (tgt := 95) hx hb dX0_spread_91 (by decide) ?_
                    refine lv_istore (lv' := [(6, .int x957), (0, .ref a0), (1, .ref a18), (2, .int p1), (3, .int p2), (4, .int w4_1), (5, .int w5_92), (7, .int w7_80), (8, .int x947)]) hx hb dX0_spread_95 hl (by decide) rfl (fun ls hl => ?_)
                    obtain ⟨x958, ex958⟩ : ∃ y : Int32, y = w7_80 + 1 := ⟨_, rfl⟩
                    refine lv_iinc (v := x958) (lv' := [(7, .int x958), (6, .int x957), (0, .ref a0), (1, .ref a18), (2, .int p1), (3, .int p2), (4, .int w4_1), (5, .int w5_92), (8, .int x947)]) hx hb dX0_spread_97 hl (k := 7) rfl (by rw [ex958]; rfl) (by decide) rfl (fun ls hl => ?_)
                    have tx958 := ia_add (a := w7_80) (b := (1 : Int32)) (by omega) (by omega)
                    rw [← ex958] at tx958
                    refine lv_goto (tgt := 29) hx hb dX0_spread_100 (by decide) ?_
                    exact ih80 _ _ ls w5_92 x957 x958 (show (0 : Int) ≤ w5_92.toInt ∧ w5_92.toInt ≤ 2147483647 from ⟨by omega, i32_hi⟩) (show (0 : Int) ≤ x957.toInt ∧ x957.toInt ≤ 59 from ⟨by omega, by omega⟩) (show (-9 : Int) ≤ x958.toInt ∧ x958.toInt ≤ 10 from ⟨by omega, by omega⟩) (by omega) (hP.sub (ws' := [(a0, .inr (0, [.ref a1, .ref a2, .ref a3, .ref a4, .ref a5, .ref a6, .ref a7])), (a3, .inl (cI, 60, .inl xF2)), (a4, .inl (cI, 60, .inl g1_1)), (a18, .inr (2, [.int i0, .int i1, .int i2, .int i3, .int i4, .int i5, .int i6, .int i7, .int i8, .ref a19, .ref a20, .ref a21, .ref a22, .ref a23]))]) [0, 1, 2, 3] rfl) (hD.sub (ws' := [(a0, .inr (0, [.ref a1, .ref a2, .ref a3, .ref a4, .ref a5, .ref a6, .ref a7])), (a3, .inl (cI, 60, .inl xF2)), (a4, .inl (cI, 60, .inl g1_1)), (a18, .inr (2, [.int i0, .int i1, .int i2, .int i3, .int i4, .int i5, .int i6, .int i7, .int i8, .ref a19, .ref a20, .ref a21, .ref a22, .ref a23]))]) [0, 1, 2, 3] (by decide) rfl) hS (lv_sub hl [2, 3, 4, 5, 6, 7, 1, 0] rfl)
                refine lv_icmp_le (tgt := 76) hx hb dX0_spread_69 (by decide) (fun c959 => ?_) (fun c959 => ?_)
                · rw [ki_le] at c959
                  exact jp92 _ _ ls w5_80 (show (0 : Int) ≤ w5_80.toInt ∧ w5_80.toInt ≤ 2147483647 from ⟨by omega, i32_hi⟩) (hP.sub (ws' := [(a0, .inr (0, [.ref a1, .ref a2, .ref a3, .ref a4, .ref a5, .ref a6, .ref a7])), (a3, .inl (cI, 60, .inl xF2)), (a4, .inl (cI, 60, .inl g1_1)), (a18, .inr (2, [.int i0, .int i1, .int i2, .int i3, .int i4, .int i5, .int i6, .int i7, .int i8, .ref a19, .ref a20, .ref a21, .ref a22, .ref a23]))]) [0, 1, 2, 3] rfl) (hD.sub (ws' := [(a0, .inr (0, [.ref a1, .ref a2, .ref a3, .ref a4, .ref a5, .ref a6, .ref a7])), (a3, .inl (cI, 60, .inl xF2)), (a4, .inl (cI, 60, .inl g1_1)), (a18, .inr (2, [.int i0, .int i1, .int i2, .int i3, .int i4, .int i5, .int i6, .int i7, .int i8, .ref a19, .ref a20, .ref a21, .ref a22, .ref a23]))]) [0, 1, 2, 3] (by decide) rfl) hS (lv_sub hl [1, 2, 3, 4, 5, 6, 7, 8, 0] rfl)
                · rw [ki_le] at c959
                  refine lv_iload hx hb dX0_spread_72 (lv_at hl 0 rfl) ?_
                  refine lv_istore (lv' := [(5, .int x947), (8, .int x947), (0, .ref a0), (1, .ref a18), (2, .int p1), (3, .int p2), (4, .int w4_1), (6, .int w6_80), (7, .int w7_80)]) hx hb dX0_spread_74 hl (by decide) rfl (fun ls hl => ?_)
                  exact jp92 _ _ ls x947 (show (0 : Int) ≤ x947.toInt ∧ x947.toInt ≤ 2147483647 from ⟨by omega, i32_hi⟩) (hP.sub (ws' := [(a0, .inr (0, [.ref a1, .ref a2, .ref a3, .ref a4, .ref a5, .ref a6, .ref a7])), (a3, .inl (cI, 60, .inl xF2)), (a4, .inl (cI, 60, .inl g1_1)), (a18, .inr (2, [.int i0, .int i1, .int i2, .int i3, .int i4, .int i5, .int i6, .int i7, .int i8, .ref a19, .ref a20, .ref a21, .ref a22, .ref a23]))]) [0, 1, 2, 3] rfl) (hD.sub (ws' := [(a0, .inr (0, [.ref a1, .ref a2, .ref a3, .ref a4, .ref a5, .ref a6, .ref a7])), (a3, .inl (cI, 60, .inl xF2)), (a4, .inl (cI, 60, .inl g1_1)), (a18, .inr (2, [.int i0, .int i1, .int i2, .int i3, .int i4, .int i5, .int i6, .int i7, .int i8, .ref a19, .ref a20, .ref a21, .ref a22, .ref a23]))]) [0, 1, 2, 3] (by decide) rfl) hS (lv_sub hl [2, 3, 4, 5, 6, 0, 7, 8, 1] rfl)
        exact lp80 _ _ _ ls (0) r814 x817 (show (0 : Int) ≤ (0 : Int32).toInt ∧ (0 : Int32).toInt ≤ 2147483647 from ⟨by omega, i32_hi⟩) (show (0 : Int) ≤ r814.toInt ∧ r814.toInt ≤ 59 from ⟨by omega, by omega⟩) (show (-9 : Int) ≤ x817.toInt ∧ x817.toInt ≤ 10 from ⟨by omega, by omega⟩) (Nat.lt_succ_self _) (hP.sub (ws' := [(a0, .inr (0, [.ref a1, .ref a2, .ref a3, .ref a4, .ref a5, .ref a6, .ref a7])), (a3, .inl (cI, 60, .inl xF2)), (a4, .inl (cI, 60, .inl g1_1)), (a18, .inr (2, [.int i0, .int i1, .int i2, .int i3, .int i4, .int i5, .int i6, .int i7, .int i8, .ref a19, .ref a20, .ref a21, .ref a22, .ref a23]))]) [0, 1, 2, 3] rfl) (hD.sub (ws' := [(a0, .inr (0, [.ref a1, .ref a2, .ref a3, .ref a4, .ref a5, .ref a6, .ref a7])), (a3, .inl (cI, 60, .inl xF2)), (a4, .inl (cI, 60, .inl g1_1)), (a18, .inr (2, [.int i0, .int i1, .int i2, .int i3, .int i4, .int i5, .int i6, .int i7, .int i8, .ref a19, .ref a20, .ref a21, .ref a22, .ref a23]))]) [0, 1, 2, 3] (by decide) rfl) hS (lv_sub hl [3, 4, 5, 6, 7, 2, 1, 0] rfl)
  exact lp1 _ _ _ ls (0) xF3 (show (0 : Int) ≤ (0 : Int32).toInt ∧ (0 : Int32).toInt ≤ 60 from ⟨by omega, by omega⟩) (Nat.lt_succ_self _) (hP.sub (ws' := [(a0, .inr (0, [.ref a1, .ref a2, .ref a3, .ref a4, .ref a5, .ref a6, .ref a7])), (a3, .inl (cI, 60, .inl xF2)), (a4, .inl (cI, 60, .inl xF3)), (a18, .inr (2, [.int i0, .int i1, .int i2, .int i3, .int i4, .int i5, .int i6, .int i7, .int i8, .ref a19, .ref a20, .ref a21, .ref a22, .ref a23]))]) [0, 1, 2, 3] rfl) (hD.sub (ws' := [(a0, .inr (0, [.ref a1, .ref a2, .ref a3, .ref a4, .ref a5, .ref a6, .ref a7])), (a3, .inl (cI, 60, .inl xF2)), (a4, .inl (cI, 60, .inl xF3)), (a18, .inr (2, [.int i0, .int i1, .int i2, .int i3, .int i4, .int i5, .int i6, .int i7, .int i8, .ref a19, .ref a20, .ref a21, .ref a22, .ref a23]))]) [0, 1, 2, 3] (by decide) rfl) hS (lv_sub hl [1, 2, 3, 4, 0] rfl)
theorem dX0_fillCut_0 : decode cX0_fillCut 0 = .ok (.iconst 0, 1) := by decide +kernel
theorem dX0_fillCut_1 : decode cX0_fillCut 1 = .ok (.istore 4, 2) := by decide +kernel
theorem dX0_fillCut_3 : decode cX0_fillCut 3 = .ok (.iload 4, 2) := by decide +kernel
theorem dX0_fillCut_5 : decode cX0_fillCut 5 = .ok (.aload_n 1, 1) := by decide +kernel
theorem dX0_fillCut_6 : decode cX0_fillCut 6 = .ok (.getfield 73, 3) := by decide +kernel
theorem dX0_fillCut_9 : decode cX0_fillCut 9 = .ok (.if_icmp .ge 115, 3) := by decide +kernel
theorem dX0_fillCut_12 : decode cX0_fillCut 12 = .ok (.aload_n 1, 1) := by decide +kernel
theorem dX0_fillCut_13 : decode cX0_fillCut 13 = .ok (.getfield 99, 3) := by decide +kernel
theorem dX0_fillCut_16 : decode cX0_fillCut 16 = .ok (.iload 4, 2) := by decide +kernel
theorem dX0_fillCut_18 : decode cX0_fillCut 18 = .ok (.iaload, 1) := by decide +kernel
theorem dX0_fillCut_19 : decode cX0_fillCut 19 = .ok (.istore 5, 2) := by decide +kernel
theorem dX0_fillCut_21 : decode cX0_fillCut 21 = .ok (.aload_n 1, 1) := by decide +kernel
theorem dX0_fillCut_22 : decode cX0_fillCut 22 = .ok (.iload 4, 2) := by decide +kernel
theorem dX0_fillCut_24 : decode cX0_fillCut 24 = .ok (.iload_n 3, 1) := by decide +kernel
theorem dX0_fillCut_25 : decode cX0_fillCut 25 = .ok (.isub, 1) := by decide +kernel
theorem dX0_fillCut_26 : decode cX0_fillCut 26 = .ok (.invokevirtual 95, 3) := by decide +kernel
theorem dX0_fillCut_29 : decode cX0_fillCut 29 = .ok (.istore 6, 2) := by decide +kernel
theorem dX0_fillCut_31 : decode cX0_fillCut 31 = .ok (.iload_n 3, 1) := by decide +kernel
theorem dX0_fillCut_32 : decode cX0_fillCut 32 = .ok (.ineg, 1) := by decide +kernel
theorem dX0_fillCut_33 : decode cX0_fillCut 33 = .ok (.istore 7, 2) := by decide +kernel
theorem dX0_fillCut_35 : decode cX0_fillCut 35 = .ok (.iload 7, 2) := by decide +kernel
theorem dX0_fillCut_37 : decode cX0_fillCut 37 = .ok (.iload_n 3, 1) := by decide +kernel
theorem dX0_fillCut_38 : decode cX0_fillCut 38 = .ok (.if_icmp .gt 71, 3) := by decide +kernel
theorem dX0_fillCut_41 : decode cX0_fillCut 41 = .ok (.iload_n 2, 1) := by decide +kernel
theorem dX0_fillCut_42 : decode cX0_fillCut 42 = .ok (.iconst 1, 1) := by decide +kernel
theorem dX0_fillCut_43 : decode cX0_fillCut 43 = .ok (.if_icmp .ne 19, 3) := by decide +kernel
theorem dX0_fillCut_46 : decode cX0_fillCut 46 = .ok (.aload_n 1, 1) := by decide +kernel
theorem dX0_fillCut_47 : decode cX0_fillCut 47 = .ok (.getfield 99, 3) := by decide +kernel
theorem dX0_fillCut_50 : decode cX0_fillCut 50 = .ok (.iload 6, 2) := by decide +kernel
theorem dX0_fillCut_52 : decode cX0_fillCut 52 = .ok (.iaload, 1) := by decide +kernel
theorem dX0_fillCut_53 : decode cX0_fillCut 53 = .ok (.iload 7, 2) := by decide +kernel
theorem dX0_fillCut_55 : decode cX0_fillCut 55 = .ok (.iload 7, 2) := by decide +kernel
theorem dX0_fillCut_57 : decode cX0_fillCut 57 = .ok (.imul, 1) := by decide +kernel
theorem dX0_fillCut_58 : decode cX0_fillCut 58 = .ok (.iadd, 1) := by decide +kernel
theorem dX0_fillCut_59 : decode cX0_fillCut 59 = .ok (.goto 10, 3) := by decide +kernel
theorem dX0_fillCut_62 : decode cX0_fillCut 62 = .ok (.aload_n 1, 1) := by decide +kernel
theorem dX0_fillCut_63 : decode cX0_fillCut 63 = .ok (.getfield 99, 3) := by decide +kernel
theorem dX0_fillCut_66 : decode cX0_fillCut 66 = .ok (.iload 6, 2) := by decide +kernel
theorem dX0_fillCut_68 : decode cX0_fillCut 68 = .ok (.iaload, 1) := by decide +kernel
theorem dX0_fillCut_69 : decode cX0_fillCut 69 = .ok (.istore 8, 2) := by decide +kernel
theorem dX0_fillCut_71 : decode cX0_fillCut 71 = .ok (.iload 8, 2) := by decide +kernel
theorem dX0_fillCut_73 : decode cX0_fillCut 73 = .ok (.iload 5, 2) := by decide +kernel
theorem dX0_fillCut_75 : decode cX0_fillCut 75 = .ok (.if_icmp .ge 7, 3) := by decide +kernel
theorem dX0_fillCut_78 : decode cX0_fillCut 78 = .ok (.iload 8, 2) := by decide +kernel
theorem dX0_fillCut_80 : decode cX0_fillCut 80 = .ok (.istore 5, 2) := by decide +kernel
theorem dX0_fillCut_82 : decode cX0_fillCut 82 = .ok (.iload 6, 2) := by decide +kernel
theorem dX0_fillCut_84 : decode cX0_fillCut 84 = .ok (.iconst 1, 1) := by decide +kernel
theorem dX0_fillCut_85 : decode cX0_fillCut 85 = .ok (.iadd, 1) := by decide +kernel
theorem dX0_fillCut_86 : decode cX0_fillCut 86 = .ok (.aload_n 1, 1) := by decide +kernel
theorem dX0_fillCut_87 : decode cX0_fillCut 87 = .ok (.getfield 73, 3) := by decide +kernel
theorem dX0_fillCut_90 : decode cX0_fillCut 90 = .ok (.if_icmp .ge 10, 3) := by decide +kernel
theorem dX0_fillCut_93 : decode cX0_fillCut 93 = .ok (.iload 6, 2) := by decide +kernel
theorem dX0_fillCut_95 : decode cX0_fillCut 95 = .ok (.iconst 1, 1) := by decide +kernel
theorem dX0_fillCut_96 : decode cX0_fillCut 96 = .ok (.iadd, 1) := by decide +kernel
theorem dX0_fillCut_97 : decode cX0_fillCut 97 = .ok (.goto 4, 3) := by decide +kernel
theorem dX0_fillCut_100 : decode cX0_fillCut 100 = .ok (.iconst 0, 1) := by decide +kernel
theorem dX0_fillCut_101 : decode cX0_fillCut 101 = .ok (.istore 6, 2) := by decide +kernel
theorem dX0_fillCut_103 : decode cX0_fillCut 103 = .ok (.iinc 7 1, 3) := by decide +kernel
theorem dX0_fillCut_106 : decode cX0_fillCut 106 = .ok (.goto (-71), 3) := by decide +kernel
theorem dX0_fillCut_109 : decode cX0_fillCut 109 = .ok (.aload_n 0, 1) := by decide +kernel
theorem dX0_fillCut_110 : decode cX0_fillCut 110 = .ok (.getfield 18, 3) := by decide +kernel
theorem dX0_fillCut_113 : decode cX0_fillCut 113 = .ok (.iload 4, 2) := by decide +kernel
theorem dX0_fillCut_115 : decode cX0_fillCut 115 = .ok (.iload 5, 2) := by decide +kernel
theorem dX0_fillCut_117 : decode cX0_fillCut 117 = .ok (.iastore, 1) := by decide +kernel
theorem dX0_fillCut_118 : decode cX0_fillCut 118 = .ok (.iinc 4 1, 3) := by decide +kernel
theorem dX0_fillCut_121 : decode cX0_fillCut 121 = .ok (.goto (-118), 3) := by decide +kernel
theorem dX0_fillCut_124 : decode cX0_fillCut 124 = .ok (.return_, 1) := by decide +kernel
set_option maxHeartbeats 4000000 in
set_option maxRecDepth 100000 in
theorem s_X0_fillCut (l : Launch) (dC : Nat → ClassId) (dI : Nat → Nat → Nat) (cI cZ cB cJ cM cG : ClassId) (a0 a1 a2 a3 a4 a5 a6 a7 a18 a19 a20 a21 a22 a23 : Nat) (i0 i1 i2 i3 i4 i5 i6 i7 i8 : Int32) (xF2 xF36 : Nat → Int32) (p1 p2 : Int32) (sz : Nat) (p_0 : (0 : Int) ≤ i0.toInt ∧ i0.toInt ≤ 60) (p_1 : (0 : Int) ≤ i3.toInt ∧ i3.toInt ≤ 6) (p_2 : (0 : Int) ≤ i5.toInt ∧ i5.toInt ≤ 1) (p_3 : (0 : Int) ≤ i8.toInt ∧ i8.toInt ≤ 1) (p_4 : (0 : Int) ≤ p2.toInt ∧ p2.toInt ≤ 9) : Met l yX0_fillCut (kw yX0_fillCut cX0_fillCut 9 none) ({ frames := 2, cells := 0, slots := 0, locals := 43 } : Room) (va_Pc [.ref a0, .ref a18, .int p1, .int p2] (kPre dC dI [(cI, .int), (cZ, .boolean), (cB, .byte), (cJ, .long), (cM, .object RX2), (cG, .array .int)] [(a0, .inr (0, [.ref a1, .ref a2, .ref a3, .ref a4, .ref a5, .ref a6, .ref a7])), (a3, .inl (cI, 60, .inl xF2)), (a18, .inr (2, [.int i0, .int i1, .int i2, .int i3, .int i4, .int i5, .int i6, .int i7, .int i8, .ref a19, .ref a20, .ref a21, .ref a22, .ref a23])), (a23, .inl (cI, 60, .inl xF36))] sz)) (va_Qv (fun (u9 : (Nat → Int32) × (Nat → Nat → Int32) × (Nat → Nat → Int64)) => True) (fun u9 t => va_P (dC, dI) vwCl [(a0, .inr (0, [.ref a1, .ref a2, .ref a3, .ref a4, .ref a5, .ref a6, .ref a7])), (a3, .inl (cI, 60, .inl (u9.2.1 0))), (a18, .inr (2, [.int i0, .int i1, .int i2, .int i3, .int i4, .int i5, .int i6, .int i7, .int i8, .ref a19, .ref a20, .ref a21, .ref a22, .ref a23])), (a23, .inl (cI, 60, .inl xF36))] t.heap ∧ va_D (va_A [(a0, .inr (0, [.ref a1, .ref a2, .ref a3, .ref a4, .ref a5, .ref a6, .ref a7])), (a3, .inl (cI, 60, .inl xF2)), (a18, .inr (2, [.int i0, .int i1, .int i2, .int i3, .int i4, .int i5, .int i6, .int i7, .int i8, .ref a19, .ref a20, .ref a21, .ref a22, .ref a23])), (a23, .inl (cI, 60, .inl xF36))] sz) [(a0, .inr (0, [.ref a1, .ref a2, .ref a3, .ref a4, .ref a5, .ref a6, .ref a7])), (a3, .inl (cI, 60, .inl (u9.2.1 0))), (a18, .inr (2, [.int i0, .int i1, .int i2, .int i3, .int i4, .int i5, .int i6, .int i7, .int i8, .ref a19, .ref a20, .ref a21, .ref a22, .ref a23])), (a23, .inl (cI, 60, .inl xF36))]) (va_A [(a0, .inr (0, [.ref a1, .ref a2, .ref a3, .ref a4, .ref a5, .ref a6, .ref a7])), (a3, .inl (cI, 60, .inl xF2)), (a18, .inr (2, [.int i0, .int i1, .int i2, .int i3, .int i4, .int i5, .int i6, .int i7, .int i8, .ref a19, .ref a20, .ref a21, .ref a22, .ref a23])), (a23, .inl (cI, 60, .inl xF36))] sz)) 0 0 (va_A [(a0, .inr (0, [.ref a1, .ref a2, .ref a3, .ref a4, .ref a5, .ref a6, .ref a7])), (a3, .inl (cI, 60, .inl xF2)), (a18, .inr (2, [.int i0, .int i1, .int i2, .int i3, .int i4, .int i5, .int i6, .int i7, .int i8, .ref a19, .ref a20, .ref a21, .ref a22, .ref a23])), (a23, .inl (cI, 60, .inl xF36))] sz) := by
  refine kEnter (by decide) (Nat.le_of_ble_eq_true rfl) ?_
  intro p e s m below meth c ls hx hb hr hml hown hlocks hin hwd hsz hP hK hD hl
  subst hsz
  generalize hAe : va_A [(a0, .inr (0, [.ref a1, .ref a2, .ref a3, .ref a4, .ref a5, .ref a6, .ref a7])), (a3, .inl (cI, 60, .inl xF2)), (a18, .inr (2, [.int i0, .int i1, .int i2, .int i3, .int i4, .int i5, .int i6, .int i7, .int i8, .ref a19, .ref a20, .ref a21, .ref a22, .ref a23])), (a23, .inl (cI, 60, .inl xF36))] s.heap.size = A at hD ⊢
  have hA : ∀ q : Nat, s.heap.size ≤ q → A q := fun q h => by rw [← hAe]; exact Or.inr h
  have hS : va_S A s.heap s.heap [] := va_S.rf
  have hl : lv_has ls 9 [(0, .ref a0), (1, .ref a18), (2, .int p1), (3, .int p2)] := hl
  obtain ⟨Q, hQ⟩ : ∃ Q, Q = MQ below (va_Qv (fun (u9 : (Nat → Int32) × (Nat → Nat → Int32) × (Nat → Nat → Int64)) => True) (fun u9 t => va_P (dC, dI) vwCl [(a0, .inr (0, [.ref a1, .ref a2, .ref a3, .ref a4, .ref a5, .ref a6, .ref a7])), (a3, .inl (cI, 60, .inl (u9.2.1 0))), (a18, .inr (2, [.int i0, .int i1, .int i2, .int i3, .int i4, .int i5, .int i6, .int i7, .int i8, .ref a19, .ref a20, .ref a21, .ref a22, .ref a23])), (a23, .inl (cI, 60, .inl xF36))] t.heap ∧ va_D A [(a0, .inr (0, [.ref a1, .ref a2, .ref a3, .ref a4, .ref a5, .ref a6, .ref a7])), (a3, .inl (cI, 60, .inl (u9.2.1 0))), (a18, .inr (2, [.int i0, .int i1, .int i2, .int i3, .int i4, .int i5, .int i6, .int i7, .int i8, .ref a19, .ref a20, .ref a21, .ref a22, .ref a23])), (a23, .inl (cI, 60, .inl xF36))]) A) ([.ref a0, .ref a18, .int p1, .int p2] : List Value).toArray s 0 0 A := ⟨_, rfl⟩
  rw [← hQ]
  have k0 : (0 : Int32).toInt = 0 := by decide
  have k1 : (1 : Int32).toInt = 1 := by decide
  refine lv_iconst (v := 0) hx hb dX0_fillCut_0 (by decide) ?_
  refine lv_istore (lv' := [(4, .int 0), (0, .ref a0), (1, .ref a18), (2, .int p1), (3, .int p2)]) hx hb dX0_fillCut_1 hl (by decide) rfl (fun ls hl => ?_)
  have lp1 : ∀ (d : Nat), ∀ (H : Heap) (locs : List Loc) (ls : Array Slot) (w4_1 : Int32) (g1_1 : Nat → Int32), ((0 : Int) ≤ w4_1.toInt ∧ w4_1.toInt ≤ 60) → (60 - w4_1.toInt).toNat < d → va_P (dC, dI) vwCl [(a0, .inr (0, [.ref a1, .ref a2, .ref a3, .ref a4, .ref a5, .ref a6, .ref a7])), (a3, .inl (cI, 60, .inl g1_1)), (a18, .inr (2, [.int i0, .int i1, .int i2, .int i3, .int i4, .int i5, .int i6, .int i7, .int i8, .ref a19, .ref a20, .ref a21, .ref a22, .ref a23])), (a23, .inl (cI, 60, .inl xF36))] H → va_D A [(a0, .inr (0, [.ref a1, .ref a2, .ref a3, .ref a4, .ref a5, .ref a6, .ref a7])), (a3, .inl (cI, 60, .inl g1_1)), (a18, .inr (2, [.int i0, .int i1, .int i2, .int i3, .int i4, .int i5, .int i6, .int i7, .int i8, .ref a19, .ref a20, .ref a21, .ref a22, .ref a23])), (a23, .inl (cI, 60, .inl xF36))] → va_S A s.heap H locs → lv_has ls 9 [(0, .ref a0), (1, .ref a18), (2, .int p1), (3, .int p2), (4, .int w4_1)] → W p l e ({ frames := 2, cells := 0, slots := 0, locals := 43 } : Room) s m ([.ref a0, .ref a18, .int p1, .int p2] : List Value).toArray below meth c H locs 0 0 Q (F0 m 3 ls []) := by
    intro d
    induction d with
    | zero =>
      intro H locs ls w4_1 g1_1 hr_w4_1 hm hP hD hS hl
      omega
    | succ d ih1 =>
      intro H locs ls w4_1 g1_1 hr_w4_1 hm hP hD hS hl
      refine lv_iload hx hb dX0_fillCut_3 (lv_at hl 4 rfl) ?_
      refine lv_aload_n hx hb dX0_fillCut_5 rfl (lv_at hl 1 rfl) ?_
      refine va_get (D := (dC, dI)) (ci := 2) (v := .int i0) (C := RX2) (T := TX2) (N := 14) hx hb hwd inlX2 hown hK hP 2 rfl rfl 0 (by decide) (hwd _ kr20_11) (fun _ h9 => h9) rfl dX0_fillCut_6 ?_
      refine lv_icmp_ge (tgt := 124) hx hb dX0_fillCut_9 (by decide) (fun c824 => ?_) (fun c824 => ?_)
      · rw [ki_le] at c824
        have hP9 := hP.sub (ws' := [(a0, .inr (0, [.ref a1, .ref a2, .ref a3, .ref a4, .ref a5, .ref a6, .ref a7])), (a3, .inl (cI, 60, .inl g1_1)), (a18, .inr (2, [.int i0, .int i1, .int i2, .int i3, .int i4, .int i5, .int i6, .int i7, .int i8, .ref a19, .ref a20, .ref a21, .ref a22, .ref a23])), (a23, .inl (cI, 60, .inl xF36))]) [0, 1, 2, 3] rfl
        have hD9 := hD.sub (ws' := [(a0, .inr (0, [.ref a1, .ref a2, .ref a3, .ref a4, .ref a5, .ref a6, .ref a7])), (a3, .inl (cI, 60, .inl g1_1)), (a18, .inr (2, [.int i0, .int i1, .int i2, .int i3, .int i4, .int i5, .int i6, .int i7, .int i8, .ref a19, .ref a20, .ref a21, .ref a22, .ref a23])), (a23, .inl (cI, 60, .inl xF36))]) [0, 1, 2, 3] (by decide) rfl
        rw [hQ]
        exact W.vret hx hb hr (fun t ht hW => ⟨⟨(pickG 0 [], pickG (fun _ => 0) [g1_1], pickG (fun _ => 0) []), rfl, trivial, (by rw [ht]; exact hP9), hD9⟩, hS.F ht⟩) hS.2.2 dX0_fillCut_124
      · rw [ki_le] at c824
        refine lv_aload_n hx hb dX0_fillCut_12 rfl (lv_at hl 1 rfl) ?_
        refine va_get (D := (dC, dI)) (ci := 2) (v := .ref a23) (C := RX2) (T := TX2) (N := 14) hx hb hwd inlX2 hown hK hP 2 rfl rfl 13 (by decide) (hwd _ kr49_19) (fun _ h9 => h9) rfl dX0_fillCut_13 ?_
        refine lv_iload hx hb dX0_fillCut_16 (lv_at hl 4 rfl) ?_
        have h825 : vp_in w4_1 60 := (vp_of (by omega) (by omega))
        refine va_iald hx hb hK hP 3 0 rfl rfl h825 dX0_fillCut_18 ?_
        refine lv_topi (fun x826 ex826 => ?_)
        refine lv_istore (lv' := [(5, .int x826), (0, .ref a0), (1, .ref a18), (2, .int p1), (3, .int p2), (4, .int w4_1)]) hx hb dX0_fillCut_19 hl (by decide) rfl (fun ls hl => ?_)
        refine lv_aload_n hx hb dX0_fillCut_21 rfl (lv_at hl 2 rfl) ?_
        refine lv_iload hx hb dX0_fillCut_22 (lv_at hl 5 rfl) ?_
        refine lv_iload_n hx hb dX0_fillCut_24 rfl (lv_at hl 4 rfl) ?_
        refine lv_isub hx hb dX0_fillCut_25 ?_
        refine lv_topi (fun x827 ex827 => ?_)
        have tx827 := ia_sub (a := w4_1) (b := p2) (by omega) (by omega)
        rw [← ex827] at tx827
        have hPc := hP.sub (ws' := [(a18, .inr (2, [.int i0, .int i1, .int i2, .int i3, .int i4, .int i5, .int i6, .int i7, .int i8, .ref a19, .ref a20, .ref a21, .ref a22, .ref a23]))]) [2] rfl
        have hDc := hD.sub (ws' := [(a18, .inr (2, [.int i0, .int i1, .int i2, .int i3, .int i4, .int i5, .int i6, .int i7, .int i8, .ref a19, .ref a20, .ref a21, .ref a22, .ref a23]))]) [2] (by decide) rfl
        have hFc := va_free (wc := [(a18, .inr (2, [.int i0, .int i1, .int i2, .int i3, .int i4, .int i5, .int i6, .int i7, .int i8, .ref a19, .ref a20, .ref a21, .ref a22, .ref a23]))]) hD hS hA [2] rfl
        refine va_calli (va_runV (As := [.int x827]) (rest := []) ⟨hx, hb, hml, hown, hwd⟩ (s_X2_round l dC dI cI cZ cB cJ cM cG a18 a19 a20 a21 a22 a23 i0 i1 i2 i3 i4 i5 i6 i7 i8 x827 H.size (show (0 : Int) ≤ i0.toInt ∧ i0.toInt ≤ 60 from ⟨by omega, by omega⟩) (show (0 : Int) ≤ i3.toInt ∧ i3.toInt ≤ 6 from ⟨by omega, by omega⟩) (show (0 : Int) ≤ i5.toInt ∧ i5.toInt ≤ 1 from ⟨by omega, by omega⟩) (show (0 : Int) ≤ i8.toInt ∧ i8.toInt ≤ 1 from ⟨by omega, by omega⟩)) (cwV 1 hwd (gV kr21_3 kr21_4 kr21_5 kr2_18 kr21_6) rfl rfl rfl (by decide +kernel) ⟨Nat.le_of_ble_eq_true rfl, Nat.le_of_ble_eq_true rfl⟩) (kPreV hPc hK hDc (ci := 2) (q0 := 0) rfl rfl) rfl rfl hl.1 rfl (lv_room (Nat.le_of_ble_eq_true rfl)) dX0_fillCut_26 ⟨Nat.le_of_ble_eq_true rfl, Nat.le_of_ble_eq_true rfl⟩) hS (fun q _ h => hFc q h) hFc (fun r828 u829 t H1 locs ht9 hvm hw hB hz1 hk1 hS => ?_)
        obtain ⟨hw830, -⟩ := hw
        have hw830 : (0 : Int) ≤ r828.toInt ∧ r828.toInt ≤ 59 := hw830
        obtain ⟨hP1, hD1⟩ := hB
        rw [ht9] at hP1
        obtain ⟨hP, hD⟩ := va_join (wr := [(a0, .inr (0, [.ref a1, .ref a2, .ref a3, .ref a4, .ref a5, .ref a6, .ref a7])), (a3, .inl (cI, 60, .inl g1_1)), (a23, .inl (cI, 60, .inl xF36))]) (w1 := [(a18, .inr (2, [.int i0, .int i1, .int i2, .int i3, .int i4, .int i5, .int i6, .int i7, .int i8, .ref a19, .ref a20, .ref a21, .ref a22, .ref a23]))]) hP hD [2] [0, 1, 3] rfl rfl (by decide) (by decide) hk1 hFc hP1 hD1
        generalize H1 = H at hP hS ⊢
        have hP : va_P (dC, dI) vwCl [(a0, .inr (0, [.ref a1, .ref a2, .ref a3, .ref a4, .ref a5, .ref a6, .ref a7])), (a3, .inl (cI, 60, .inl g1_1)), (a23, .inl (cI, 60, .inl xF36)), (a18, .inr (2, [.int i0, .int i1, .int i2, .int i3, .int i4, .int i5, .int i6, .int i7, .int i8, .ref a19, .ref a20, .ref a21, .ref a22, .ref a23]))] H := hP
        have hD : va_D A [(a0, .inr (0, [.ref a1, .ref a2, .ref a3, .ref a4, .ref a5, .ref a6, .ref a7])), (a3, .inl (cI, 60, .inl g1_1)), (a23, .inl (cI, 60, .inl xF36)), (a18, .inr (2, [.int i0, .int i1, .int i2, .int i3, .int i4, .int i5, .int i6, .int i7, .int i8, .ref a19, .ref a20, .ref a21, .ref a22, .ref a23]))] := hD
        refine lv_istore (lv' := [(6, .int r828), (5, .int x826), (0, .ref a0), (1, .ref a18), (2, .int p1), (3, .int p2), (4, .int w4_1)]) hx hb dX0_fillCut_29 hl (by decide) rfl (fun ls hl => ?_)
        refine lv_iload_n hx hb dX0_fillCut_31 rfl (lv_at hl 5 rfl) ?_
        refine lv_ineg hx hb dX0_fillCut_32 ?_
        refine lv_topi (fun x831 ex831 => ?_)
        have tx831 := ia_neg (a := p2) (by omega)
        rw [← ex831] at tx831
        refine lv_istore (lv' := [(7, .int x831), (6, .int r828), (5, .int x826), (0, .ref a0), (1, .ref a18), (2, .int p1), (3, .int p2), (4, .int w4_1)]) hx hb dX0_fillCut_33 hl (by decide) rfl (fun ls hl => ?_)
        have lp80 : ∀ (d : Nat), ∀ (H : Heap) (locs : List Loc) (ls : Array Slot) (w5_80 : Int32) (w6_80 : Int32) (w7_80 : Int32), ((0 : Int) ≤ w6_80.toInt ∧ w6_80.toInt ≤ 59) → ((-9 : Int) ≤ w7_80.toInt ∧ w7_80.toInt ≤ 10) → (10 - w7_80.toInt).toNat < d → va_P (dC, dI) vwCl [(a0, .inr (0, [.ref a1, .ref a2, .ref a3, .ref a4, .ref a5, .ref a6, .ref a7])), (a3, .inl (cI, 60, .inl g1_1)), (a23, .inl (cI, 60, .inl xF36)), (a18, .inr (2, [.int i0, .int i1, .int i2, .int i3, .int i4, .int i5, .int i6, .int i7, .int i8, .ref a19, .ref a20, .ref a21, .ref a22, .ref a23]))] H → va_D A [(a0, .inr (0, [.ref a1, .ref a2, .ref a3, .ref a4, .ref a5, .ref a6, .ref a7])), (a3, .inl (cI, 60, .inl g1_1)), (a23, .inl (cI, 60, .inl xF36)), (a18, .inr (2, [.int i0, .int i1, .int i2, .int i3, .int i4, .int i5, .int i6, .int i7, .int i8, .ref a19, .ref a20, .ref a21, .ref a22, .ref a23]))] → va_S A s.heap H locs → lv_has ls 9 [(0, .ref a0), (1, .ref a18), (2, .int p1), (3, .int p2), (4, .int w4_1), (5, .int w5_80), (6, .int w6_80), (7, .int w7_80)] → W p l e ({ frames := 2, cells := 0, slots := 0, locals := 43 } : Room) s m ([.ref a0, .ref a18, .int p1, .int p2] : List Value).toArray below meth c H locs 0 0 Q (F0 m 35 ls []) := by
          intro d
          induction d with
          | zero =>
            intro H locs ls w5_80 w6_80 w7_80 hr_w6_80 hr_w7_80 hm hP hD hS hl
            omega
          | succ d ih80 =>
            intro H locs ls w5_80 w6_80 w7_80 hr_w6_80 hr_w7_80 hm hP hD hS hl
            refine lv_iload hx hb dX0_fillCut_35 (lv_at hl 7 rfl) ?_
            refine lv_iload_n hx hb dX0_fillCut_37 rfl (lv_at hl 3 rfl) ?_
            refine lv_icmp_gt (tgt := 109) hx hb dX0_fillCut_38 (by decide) (fun c940 => ?_) (fun c940 => ?_)
            · rw [ki_lt] at c940
              refine lv_aload_n hx hb dX0_fillCut_109 rfl (lv_at hl 0 rfl) ?_
              refine va_get (D := (dC, dI)) (ci := 0) (v := .ref a3) (C := RX0) (T := TX0) (N := 7) hx hb hwd inlX0 hown hK hP 0 rfl rfl 2 (by decide) (hwd _ kr3_19) (fun _ h9 => h9) rfl dX0_fillCut_110 ?_
              refine lv_iload hx hb dX0_fillCut_113 (lv_at hl 4 rfl) ?_
              refine lv_iload hx hb dX0_fillCut_115 (lv_at hl 5 rfl) ?_
              refine va_iast hx hb hK hP hD hS 1 0 rfl rfl (vp_of (by omega) (by omega)) dX0_fillCut_117 (fun H locs hP hD hS => ?_)
              obtain ⟨f941, ef941⟩ : ∃ f, f = upd g1_1 w4_1.toNatClampNeg w5_80 := ⟨_, rfl⟩
              have hP : va_P (dC, dI) vwCl [(a0, .inr (0, [.ref a1, .ref a2, .ref a3, .ref a4, .ref a5, .ref a6, .ref a7])), (a3, .inl (cI, 60, .inl f941)), (a23, .inl (cI, 60, .inl xF36)), (a18, .inr (2, [.int i0, .int i1, .int i2, .int i3, .int i4, .int i5, .int i6, .int i7, .int i8, .ref a19, .ref a20, .ref a21, .ref a22, .ref a23]))] H := by rw [ef941]; exact hP
              have hD : va_D A [(a0, .inr (0, [.ref a1, .ref a2, .ref a3, .ref a4, .ref a5, .ref a6, .ref a7])), (a3, .inl (cI, 60, .inl f941)), (a23, .inl (cI, 60, .inl xF36)), (a18, .inr (2, [.int i0, .int i1, .int i2, .int i3, .int i4, .int i5, .int i6, .int i7, .int i8, .ref a19, .ref a20, .ref a21, .ref a22, .ref a23]))] := by rw [ef941]; exact hD
              obtain ⟨x942, ex942⟩ : ∃ y : Int32, y = w4_1 + 1 := ⟨_, rfl⟩
              refine lv_iinc (v := x942) (lv' := [(4, .int x942), (0, .ref a0), (1, .ref a18), (2, .int p1), (3, .int p2), (5, .int w5_80), (6, .int w6_80), (7, .int w7_80)]) hx hb dX0_fillCut_118 hl (k := 4) rfl (by rw [ex942]; rfl) (by decide) rfl (fun ls hl => ?_)
              have tx942 := ia_add (a := w4_1) (b := (1 : Int32)) (by omega) (by omega)
              rw [← ex942] at tx942
              refine lv_goto (tgt := 3) hx hb dX0_fillCut_121 (by decide) ?_
              exact ih1 _ _ ls x942 f941 (show (0 : Int) ≤ x942.toInt ∧ x942.toInt ≤ 60 from ⟨by omega, by omega⟩) (by omega) (hP.sub (ws' := [(a0, .inr (0, [.ref a1, .ref a2, .ref a3, .ref a4, .ref a5, .ref a6, .ref a7])), (a3, .inl (cI, 60, .inl f941)), (a18, .inr (2, [.int i0, .int i1, .int i2, .int i3, .int i4, .int i5, .int i6, .int i7, .int i8, .ref a19, .ref a20, .ref a21, .ref a22, .ref a23])), (a23, .inl (cI, 60, .inl xF36))]) [0, 1, 3, 2] rfl) (hD.sub (ws' := [(a0, .inr (0, [.ref a1, .ref a2, .ref a3, .ref a4, .ref a5, .ref a6, .ref a7])), (a3, .inl (cI, 60, .inl f941)), (a18, .inr (2, [.int i0, .int i1, .int i2, .int i3, .int i4, .int i5, .int i6, .int i7, .int i8, .ref a19, .ref a20, .ref a21, .ref a22, .ref a23])), (a23, .inl (cI, 60, .inl xF36))]) [0, 1, 3, 2] (by decide) rfl) hS (lv_sub hl [1, 2, 3, 4, 0] rfl)
            · rw [ki_lt] at c940
              refine lv_iload_n hx hb dX0_fillCut_41 rfl (lv_at hl 2 rfl) ?_
              refine lv_iconst (v := 1) hx hb dX0_fillCut_42 (by decide) ?_
              refine lv_icmp_ne (tgt := 62) hx hb dX0_fillCut_43 (by decide) (fun c943 => ?_) (fun c943 => ?_)
              · rw [ki_eq] at c943
                refine lv_aload_n hx hb dX0_fillCut_62 rfl (lv_at hl 1 rfl) ?_
                refine va_get (D := (dC, dI)) (ci := 2) (v := .ref a23) (C := RX2) (T := TX2) (N := 14) hx hb hwd inlX2 hown hK hP 3 rfl rfl 13 (by decide) (hwd _ kr49_19) (fun _ h9 => h9) rfl dX0_fillCut_63 ?_
                refine lv_iload hx hb dX0_fillCut_66 (lv_at hl 6 rfl) ?_
                have h944 : vp_in w6_80 60 := (vp_of (by omega) (by omega))
                refine va_iald hx hb hK hP 2 0 rfl rfl h944 dX0_fillCut_68 ?_
                refine lv_topi (fun x945 ex945 => ?_)
                refine lv_istore (lv' := [(8, .int x945), (0, .ref a0), (1, .ref a18), (2, .int p1), (3, .int p2), (4, .int w4_1), (5, .int w5_80), (6, .int w6_80), (7, .int w7_80)]) hx hb dX0_fillCut_69 hl (by decide) rfl (fun ls hl => ?_)
                refine lv_iload hx hb dX0_fillCut_71 (lv_at hl 0 rfl) ?_
                refine lv_iload hx hb dX0_fillCut_73 (lv_at hl 6 rfl) ?_
                have jp91 : ∀ (H : Heap) (locs : List Loc) (ls : Array Slot) (w5_91 : Int32), va_P (dC, dI) vwCl [(a0, .inr (0, [.ref a1, .ref a2, .ref a3, .ref a4, .ref a5, .ref a6, .ref a7])), (a3, .inl (cI, 60, .inl g1_1)), (a23, .inl (cI, 60, .inl xF36)), (a18, .inr (2, [.int i0, .int i1, .int i2, .int i3, .int i4, .int i5, .int i6, .int i7, .int i8, .ref a19, .ref a20, .ref a21, .ref a22, .ref a23]))] H → va_D A [(a0, .inr (0, [.ref a1, .ref a2, .ref a3, .ref a4, .ref a5, .ref a6, .ref a7])), (a3, .inl (cI, 60, .inl g1_1)), (a23, .inl (cI, 60, .inl xF36)), (a18, .inr (2, [.int i0, .int i1, .int i2, .int i3, .int i4, .int i5, .int i6, .int i7, .int i8, .ref a19, .ref a20, .ref a21, .ref a22, .ref a23]))] → va_S A s.heap H locs → lv_has ls 9 [(0, .ref a0), (1, .ref a18), (2, .int p1), (3, .int p2), (4, .int w4_1), (5, .int w5_91), (6, .int w6_80), (7, .int w7_80), (8, .int x945)] → W p l e ({ frames := 2, cells := 0, slots := 0, locals := 43 } : Room) s m ([.ref a0, .ref a18, .int p1, .int p2] : List Value).toArray below meth c H locs 0 0 Q (F0 m 82 ls []) := by
                  intro H locs ls w5_91 hP hD hS hl
                  refine lv_iload hx hb dX0_fillCut_82 (lv_at hl 6 rfl) ?_
                  refine lv_iconst (v := 1) hx hb dX0_fillCut_84 (by decide) ?_
                  refine lv_iadd hx hb dX0_fillCut_85 ?_
                  refine lv_topi (fun x952 ex952 => ?_)
                  have tx952 := ia_add (a := w6_80) (b := (1 : Int32)) (by omega) (by omega)
                  rw [← ex952] at tx952
                  refine lv_aload_n hx hb dX0_fillCut_86 rfl (lv_at hl 1 rfl) ?_
                  refine va_get (D := (dC, dI)) (ci := 2) (v := .int i0) (C := RX2) (T := TX2) (N := 14) hx hb hwd inlX2 hown hK hP 3 rfl rfl 0 (by decide) (hwd _ kr20_11) (fun _ h9 => h9) rfl dX0_fillCut_87 ?_
                  refine lv_icmp_ge (tgt := 100) hx hb dX0_fillCut_90 (by decide) (fun c953 => ?_) (fun c953 => ?_)
                  · rw [ki_le] at c953
                    refine lv_iconst (v := 0) hx hb dX0_fillCut_100 (by decide) ?_
                    refine lv_istore (lv' := [(6, .int 0), (0, .ref a0), (1, .ref a18), (2, .int p1), (3, .int p2), (4, .int w4_1), (5, .int w5_91), (7, .int w7_80), (8, .int x945)]) hx hb dX0_fillCut_101 hl (by decide) rfl (fun ls hl => ?_)
                    obtain ⟨x954, ex954⟩ : ∃ y : Int32, y = w7_80 + 1 := ⟨_, rfl⟩
                    refine lv_iinc (v := x954) (lv' := [(7, .int x954), (6, .int 0), (0, .ref a0), (1, .ref a18), (2, .int p1), (3, .int p2), (4, .int w4_1), (5, .int w5_91), (8, .int x945)]) hx hb dX0_fillCut_103 hl (k := 7) rfl (by rw [ex954]; rfl) (by decide) rfl (fun ls hl => ?_)
                    have tx954 := ia_add (a := w7_80) (b := (1 : Int32)) (by omega) (by omega)
                    rw [← ex954] at tx954
                    refine lv_goto (tgt := 35) hx hb dX0_fillCut_106 (by decide) ?_
                    exact ih80 _ _ ls w5_91 (0) x954 (show (0 : Int) ≤ (0 : Int32).toInt ∧ (0 : Int32).toInt ≤ 59 from ⟨by omega, by omega⟩) (show (-9 : Int) ≤ x954.toInt ∧ x954.toInt ≤ 10 from ⟨by omega, by omega⟩) (by omega) (hP.sub (ws' := [(a0, .inr (0, [.ref a1, .ref a2, .ref a3, .ref a4, .ref a5, .ref a6, .ref a7])), (a3, .inl (cI, 60, .inl g1_1)), (a23, .inl (cI, 60, .inl xF36)), (a18, .inr (2, [.int i0, .int i1, .int i2, .int i3, .int i4, .int i5, .int i6, .int i7, .int i8, .ref a19, .ref a20, .ref a21, .ref a22, .ref a23]))]) [0, 1, 2, 3] rfl) (hD.sub (ws' := [(a0, .inr (0, [.ref a1, .ref a2, .ref a3, .ref a4, .ref a5, .ref a6, .ref a7])), (a3, .inl (cI, 60, .inl g1_1)), (a23, .inl (cI, 60, .inl xF36)), (a18, .inr (2, [.int i0, .int i1, .int i2, .int i3, .int i4, .int i5, .int i6, .int i7, .int i8, .ref a19, .ref a20, .ref a21, .ref a22, .ref a23]))]) [0, 1, 2, 3] (by decide) rfl) hS (lv_sub hl [2, 3, 4, 5, 6, 7, 1, 0] rfl)
                  · rw [ki_le] at c953
                    refine lv_iload hx hb dX0_fillCut_93 (lv_at hl 6 rfl) ?_
                    refine lv_iconst (v := 1) hx hb dX0_fillCut_95 (by decide) ?_
                    refine lv_iadd hx hb dX0_fillCut_96 ?_
                    refine lv_topi (fun x955 ex955 => ?_)
                    have tx955 := ia_add (a := w6_80) (b := (1 : Int32)) (by omega) (by omega)
                    rw [← ex955] at tx955
                    refine lv_goto (tgt := 101) hx hb dX0_fillCut_97 (by decide) ?_
                    refine lv_istore (lv' := [(6, .int x955), (0, .ref a0), (1, .ref a18), (2, .int p1), (3, .int p2), (4, .int w4_1), (5, .int w5_91), (7, .int w7_80), (8, .int x945)]) hx hb dX0_fillCut_101 hl (by decide) rfl (fun ls hl => ?_)
                    obtain ⟨x956, ex956⟩ : ∃ y : Int32, y = w7_80 + 1 := ⟨_, rfl⟩
                    refine lv_iinc (v := x956) (lv' := [(7, .int x956), (6, .int x955), (0, .ref a0), (1, .ref a18), (2, .int p1), (3, .int p2), (4, .int w4_1), (5, .int w5_91), (8, .int x945)]) hx hb dX0_fillCut_103 hl (k := 7) rfl (by rw [ex956]; rfl) (by decide) rfl (fun ls hl => ?_)
                    have tx956 := ia_add (a := w7_80) (b := (1 : Int32)) (by omega) (by omega)
                    rw [← ex956] at tx956
                    refine lv_goto (tgt := 35) hx hb dX0_fillCut_106 (by decide) ?_
                    exact ih80 _ _ ls w5_91 x955 x956 (show (0 : Int) ≤ x955.toInt ∧ x955.toInt ≤ 59 from ⟨by omega, by omega⟩) (show (-9 : Int) ≤ x956.toInt ∧ x956.toInt ≤ 10 from ⟨by omega, by omega⟩) (by omega) (hP.sub (ws' := [(a0, .inr (0, [.ref a1, .ref a2, .ref a3, .ref a4, .ref a5, .ref a6, .ref a7])), (a3, .inl (cI, 60, .inl g1_1)), (a23, .inl (cI, 60, .inl xF36)), (a18, .inr (2, [.int i0, .int i1, .int i2, .int i3, .int i4, .int i5, .int i6, .int i7, .int i8, .ref a19, .ref a20, .ref a21, .ref a22, .ref a23]))]) [0, 1, 2, 3] rfl) (hD.sub (ws' := [(a0, .inr (0, [.ref a1, .ref a2, .ref a3, .ref a4, .ref a5, .ref a6, .ref a7])), (a3, .inl (cI, 60, .inl g1_1)), (a23, .inl (cI, 60, .inl xF36)), (a18, .inr (2, [.int i0, .int i1, .int i2, .int i3, .int i4, .int i5, .int i6, .int i7, .int i8, .ref a19, .ref a20, .ref a21, .ref a22, .ref a23]))]) [0, 1, 2, 3] (by decide) rfl) hS (lv_sub hl [2, 3, 4, 5, 6, 7, 1, 0] rfl)
                refine lv_icmp_ge (tgt := 82) hx hb dX0_fillCut_75 (by decide) (fun c957 => ?_) (fun c957 => ?_)
                · rw [ki_le] at c957
                  exact jp91 _ _ ls w5_80 (hP.sub (ws' := [(a0, .inr (0, [.ref a1, .ref a2, .ref a3, .ref a4, .ref a5, .ref a6, .ref a7])), (a3, .inl (cI, 60, .inl g1_1)), (a23, .inl (cI, 60, .inl xF36)), (a18, .inr (2, [.int i0, .int i1, .int i2, .int i3, .int i4, .int i5, .int i6, .int i7, .int i8, .ref a19, .ref a20, .ref a21, .ref a22, .ref a23]))]) [0, 1, 2, 3] rfl) (hD.sub (ws' := [(a0, .inr (0, [.ref a1, .ref a2, .ref a3, .ref a4, .ref a5, .ref a6, .ref a7])), (a3, .inl (cI, 60, .inl g1_1)), (a23, .inl (cI, 60, .inl xF36)), (a18, .inr (2, [.int i0, .int i1, .int i2, .int i3, .int i4, .int i5, .int i6, .int i7, .int i8, .ref a19, .ref a20, .ref a21, .ref a22, .ref a23]))]) [0, 1, 2, 3] (by decide) rfl) hS (lv_sub hl [1, 2, 3, 4, 5, 6, 7, 8, 0] rfl)
                · rw [ki_le] at c957
                  refine lv_iload hx hb dX0_fillCut_78 (lv_at hl 0 rfl) ?_
                  refine lv_istore (lv' := [(5, .int x945), (8, .int x945), (0, .ref a0), (1, .ref a18), (2, .int p1), (3, .int p2), (4, .int w4_1), (6, .int w6_80), (7, .int w7_80)]) hx hb dX0_fillCut_80 hl (by decide) rfl (fun ls hl => ?_)
                  exact jp91 _ _ ls x945 (hP.sub (ws' := [(a0, .inr (0, [.ref a1, .ref a2, .ref a3, .ref a4, .ref a5, .ref a6, .ref a7])), (a3, .inl (cI, 60, .inl g1_1)), (a23, .inl (cI, 60, .inl xF36)), (a18, .inr (2, [.int i0, .int i1, .int i2, .int i3, .int i4, .int i5, .int i6, .int i7, .int i8, .ref a19, .ref a20, .ref a21, .ref a22, .ref a23]))]) [0, 1, 2, 3] rfl) (hD.sub (ws' := [(a0, .inr (0, [.ref a1, .ref a2, .ref a3, .ref a4, .ref a5, .ref a6, .ref a7])), (a3, .inl (cI, 60, .inl g1_1)), (a23, .inl (cI, 60, .inl xF36)), (a18, .inr (2, [.int i0, .int i1, .int i2, .int i3, .int i4, .int i5, .int i6, .int i7, .int i8, .ref a19, .ref a20, .ref a21, .ref a22, .ref a23]))]) [0, 1, 2, 3] (by decide) rfl) hS (lv_sub hl [2, 3, 4, 5, 6, 0, 7, 8, 1] rfl)
              · rw [ki_eq] at c943
                refine lv_aload_n hx hb dX0_fillCut_46 rfl (lv_at hl 1 rfl) ?_
                refine va_get (D := (dC, dI)) (ci := 2) (v := .ref a23) (C := RX2) (T := TX2) (N := 14) hx hb hwd inlX2 hown hK hP 3 rfl rfl 13 (by decide) (hwd _ kr49_19) (fun _ h9 => h9) rfl dX0_fillCut_47 ?_
                refine lv_iload hx hb dX0_fillCut_50 (lv_at hl 6 rfl) ?_
                have h958 : vp_in w6_80 60 := (vp_of (by omega) (by omega))
                refine va_iald hx hb hK hP 2 0 rfl rfl h958 dX0_fillCut_52 ?_
                refine lv_topi (fun x959 ex959 => ?_)
                refine lv_iload hx hb dX0_fillCut_53 (lv_at hl 7 rfl) ?_
                refine lv_iload hx hb dX0_fillCut_55 (lv_at hl 7 rfl) ?_
                refine lv_imul hx hb dX0_fillCut_57 ?_
                refine lv_topi (fun x960 ex960 => ?_)
                refine lv_iadd hx hb dX0_fillCut_58 ?_
                refine lv_topi (fun x961 ex961 => ?_)
                refine lv_goto (tgt := 69) hx hb dX0_fillCut_59 (by decide) ?_
                refine lv_istore (lv' := [(8, .int x961), (0, .ref a0), (1, .ref a18), (2, .int p1), (3, .int p2), (4, .int w4_1), (5, .int w5_80), (6, .int w6_80), (7, .int w7_80)]) hx hb dX0_fillCut_69 hl (by decide) rfl (fun ls hl => ?_)
                refine lv_iload hx hb dX0_fillCut_71 (lv_at hl 0 rfl) ?_
                refine lv_iload hx hb dX0_fillCut_73 (lv_at hl 6 rfl) ?_
                have jp92 : ∀ (H : Heap) (locs : List Loc) (ls : Array Slot) (w5_92 : Int32), va_P (dC, dI) vwCl [(a0, .inr (0, [.ref a1, .ref a2, .ref a3, .ref a4, .ref a5, .ref a6, .ref a7])), (a3, .inl (cI, 60, .inl g1_1)), (a23, .inl (cI, 60, .inl xF36)), (a18, .inr (2, [.int i0, .int i1, .int i2, .int i3, .int i4, .int i5, .int i6, .int i7, .int i8, .ref a19, .ref a20, .ref a21, .ref a22, .ref a23]))] H → va_D A [(a0, .inr (0, [.ref a1, .ref a2, .ref a3, .ref a4, .ref a5, .ref a6, .ref a7])), (a3, .inl (cI, 60, .inl g1_1)), (a23, .inl (cI, 60, .inl xF36)), (a18, .inr (2, [.int i0, .int i1, .int i2, .int i3, .int i4, .int i5, .int i6, .int i7, .int i8, .ref a19, .ref a20, .ref a21, .ref a22, .ref a23]))] → va_S A s.heap H locs → lv_has ls 9 [(0, .ref a0), (1, .ref a18), (2, .int p1), (3, .int p2), (4, .int w4_1), (5, .int w5_92), (6, .int w6_80), (7, .int w7_80), (8, .int x961)] → W p l e ({ frames := 2, cells := 0, slots := 0, locals := 43 } : Room) s m ([.ref a0, .ref a18, .int p1, .int p2] : List Value).toArray below meth c H locs 0 0 Q (F0 m 82 ls []) := by
                  intro H locs ls w5_92 hP hD hS hl
                  refine lv_iload hx hb dX0_fillCut_82 (lv_at hl 6 rfl) ?_
                  refine lv_iconst (v := 1) hx hb dX0_fillCut_84 (by decide) ?_
                  refine lv_iadd hx hb dX0_fillCut_85 ?_
                  refine lv_topi (fun x968 ex968 => ?_)
                  have tx968 := ia_add (a := w6_80) (b := (1 : Int32)) (by omega) (by omega)
                  rw [← ex968] at tx968
                  refine lv_aload_n hx hb dX0_fillCut_86 rfl (lv_at hl 1 rfl) ?_
                  refine va_get (D := (dC, dI)) (ci := 2) (v := .int i0) (C := RX2) (T := TX2) (N := 14) hx hb hwd inlX2 hown hK hP 3 rfl rfl 0 (by decide) (hwd _ kr20_11) (fun _ h9 => h9) rfl dX0_fillCut_87 ?_
                  refine lv_icmp_ge (tgt := 100) hx hb dX0_fillCut_90 (by decide) (fun c969 => ?_) (fun c969 => ?_)
                  · rw [ki_le] at c969
                    refine lv_iconst (v := 0) hx hb dX0_fillCut_100 (by decide) ?_
                    refine lv_istore (lv' := [(6, .int 0), (0, .ref a0), (1, .ref a18), (2, .int p1), (3, .int p2), (4, .int w4_1), (5, .int w5_92), (7, .int w7_80), (8, .int x961)]) hx hb dX0_fillCut_101 hl (by decide) rfl (fun ls hl => ?_)
                    obtain ⟨x970, ex970⟩ : ∃ y : Int32, y = w7_80 + 1 := ⟨_, rfl⟩
                    refine lv_iinc (v := x970) (lv' := [(7, .int x970), (6, .int 0), (0, .ref a0), (1, .ref a18), (2, .int p1), (3, .int p2), (4, .int w4_1), (5, .int w5_92), (8, .int x961)]) hx hb dX0_fillCut_103 hl (k := 7) rfl (by rw [ex970]; rfl) (by decide) rfl (fun ls hl => ?_)
                    have tx970 := ia_add (a := w7_80) (b := (1 : Int32)) (by omega) (by omega)
                    rw [← ex970] at tx970
                    refine lv_goto (tgt := 35) hx hb dX0_fillCut_106 (by decide) ?_
                    exact ih80 _ _ ls w5_92 (0) x970 (show (0 : Int) ≤ (0 : Int32).toInt ∧ (0 : Int32).toInt ≤ 59 from ⟨by omega, by omega⟩) (show (-9 : Int) ≤ x970.toInt ∧ x970.toInt ≤ 10 from ⟨by omega, by omega⟩) (by omega) (hP.sub (ws' := [(a0, .inr (0, [.ref a1, .ref a2, .ref a3, .ref a4, .ref a5, .ref a6, .ref a7])), (a3, .inl (cI, 60, .inl g1_1)), (a23, .inl (cI, 60, .inl xF36)), (a18, .inr (2, [.int i0, .int i1, .int i2, .int i3, .int i4, .int i5, .int i6, .int i7, .int i8, .ref a19, .ref a20, .ref a21, .ref a22, .ref a23]))]) [0, 1, 2, 3] rfl) (hD.sub (ws' := [(a0, .inr (0, [.ref a1, .ref a2, .ref a3, .ref a4, .ref a5, .ref a6, .ref a7])), (a3, .inl (cI, 60, .inl g1_1)), (a23, .inl (cI, 60, .inl xF36)), (a18, .inr (2, [.int i0, .int i1, .int i2, .int i3, .int i4, .int i5, .int i6, .int i7, .int i8, .ref a19, .ref a20, .ref a21, .ref a22, .ref a23]))]) [0, 1, 2, 3] (by decide) rfl) hS (lv_sub hl [2, 3, 4, 5, 6, 7, 1, 0] rfl)
                  · rw [ki_le] at c969
                    refine lv_iload hx hb dX0_fillCut_93 (lv_at hl 6 rfl) ?_
                    refine lv_iconst (v := 1) hx hb dX0_fillCut_95 (by decide) ?_
                    refine lv_iadd hx hb dX0_fillCut_96 ?_
                    refine lv_topi (fun x971 ex971 => ?_)
                    have tx971 := ia_add (a := w6_80) (b := (1 : Int32)) (by omega) (by omega)
                    rw [← ex971] at tx971
                    refine lv_goto (tgt := 101) hx hb dX0_fillCut_97 (by decide) ?_
                    refine lv_istore (lv' := [(6, .int x971), (0, .ref a0), (1, .ref a18), (2, .int p1), (3, .int p2), (4, .int w4_1), (5, .int w5_92), (7, .int w7_80), (8, .int x961)]) hx hb dX0_fillCut_101 hl (by decide) rfl (fun ls hl => ?_)
                    obtain ⟨x972, ex972⟩ : ∃ y : Int32, y = w7_80 + 1 := ⟨_, rfl⟩
                    refine lv_iinc (v := x972) (lv' := [(7, .int x972), (6, .int x971), (0, .ref a0), (1, .ref a18), (2, .int p1), (3, .int p2), (4, .int w4_1), (5, .int w5_92), (8, .int x961)]) hx hb dX0_fillCut_103 hl (k := 7) rfl (by rw [ex972]; rfl) (by decide) rfl (fun ls hl => ?_)
                    have tx972 := ia_add (a := w7_80) (b := (1 : Int32)) (by omega) (by omega)
                    rw [← ex972] at tx972
                    refine lv_goto (tgt := 35) hx hb dX0_fillCut_106 (by decide) ?_
                    exact ih80 _ _ ls w5_92 x971 x972 (show (0 : Int) ≤ x971.toInt ∧ x971.toInt ≤ 59 from ⟨by omega, by omega⟩) (show (-9 : Int) ≤ x972.toInt ∧ x972.toInt ≤ 10 from ⟨by omega, by omega⟩) (by omega) (hP.sub (ws' := [(a0, .inr (0, [.ref a1, .ref a2, .ref a3, .ref a4, .ref a5, .ref a6, .ref a7])), (a3, .inl (cI, 60, .inl g1_1)), (a23, .inl (cI, 60, .inl xF36)), (a18, .inr (2, [.int i0, .int i1, .int i2, .int i3, .int i4, .int i5, .int i6, .int i7, .int i8, .ref a19, .ref a20, .ref a21, .ref a22, .ref a23]))]) [0, 1, 2, 3] rfl) (hD.sub (ws' := [(a0, .inr (0, [.ref a1, .ref a2, .ref a3, .ref a4, .ref a5, .ref a6, .ref a7])), (a3, .inl (cI, 60, .inl g1_1)), (a23, .inl (cI, 60, .inl xF36)), (a18, .inr (2, [.int i0, .int i1, .int i2, .int i3, .int i4, .int i5, .int i6, .int i7, .int i8, .ref a19, .ref a20, .ref a21, .ref a22, .ref a23]))]) [0, 1, 2, 3] (by decide) rfl) hS (lv_sub hl [2, 3, 4, 5, 6, 7, 1, 0] rfl)
                refine lv_icmp_ge (tgt := 82) hx hb dX0_fillCut_75 (by decide) (fun c973 => ?_) (fun c973 => ?_)
                · rw [ki_le] at c973
                  exact jp92 _ _ ls w5_80 (hP.sub (ws' := [(a0, .inr (0, [.ref a1, .ref a2, .ref a3, .ref a4, .ref a5, .ref a6, .ref a7])), (a3, .inl (cI, 60, .inl g1_1)), (a23, .inl (cI, 60, .inl xF36)), (a18, .inr (2, [.int i0, .int i1, .int i2, .int i3, .int i4, .int i5, .int i6, .int i7, .int i8, .ref a19, .ref a20, .ref a21, .ref a22, .ref a23]))]) [0, 1, 2, 3] rfl) (hD.sub (ws' := [(a0, .inr (0, [.ref a1, .ref a2, .ref a3, .ref a4, .ref a5, .ref a6, .ref a7])), (a3, .inl (cI, 60, .inl g1_1)), (a23, .inl (cI, 60, .inl xF36)), (a18, .inr (2, [.int i0, .int i1, .int i2, .int i3, .int i4, .int i5, .int i6, .int i7, .int i8, .ref a19, .ref a20, .ref a21, .ref a22, .ref a23]))]) [0, 1, 2, 3] (by decide) rfl) hS (lv_sub hl [1, 2, 3, 4, 5, 6, 7, 8, 0] rfl)
                · rw [ki_le] at c973
                  refine lv_iload hx hb dX0_fillCut_78 (lv_at hl 0 rfl) ?_
                  refine lv_istore (lv' := [(5, .int x961), (8, .int x961), (0, .ref a0), (1, .ref a18), (2, .int p1), (3, .int p2), (4, .int w4_1), (6, .int w6_80), (7, .int w7_80)]) hx hb dX0_fillCut_80 hl (by decide) rfl (fun ls hl => ?_)
                  exact jp92 _ _ ls x961 (hP.sub (ws' := [(a0, .inr (0, [.ref a1, .ref a2, .ref a3, .ref a4, .ref a5, .ref a6, .ref a7])), (a3, .inl (cI, 60, .inl g1_1)), (a23, .inl (cI, 60, .inl xF36)), (a18, .inr (2, [.int i0, .int i1, .int i2, .int i3, .int i4, .int i5, .int i6, .int i7, .int i8, .ref a19, .ref a20, .ref a21, .ref a22, .ref a23]))]) [0, 1, 2, 3] rfl) (hD.sub (ws' := [(a0, .inr (0, [.ref a1, .ref a2, .ref a3, .ref a4, .ref a5, .ref a6, .ref a7])), (a3, .inl (cI, 60, .inl g1_1)), (a23, .inl (cI, 60, .inl xF36)), (a18, .inr (2, [.int i0, .int i1, .int i2, .int i3, .int i4, .int i5, .int i6, .int i7, .int i8, .ref a19, .ref a20, .ref a21, .ref a22, .ref a23]))]) [0, 1, 2, 3] (by decide) rfl) hS (lv_sub hl [2, 3, 4, 5, 6, 0, 7, 8, 1] rfl)
        exact lp80 _ _ _ ls x826 r828 x831 (show (0 : Int) ≤ r828.toInt ∧ r828.toInt ≤ 59 from ⟨by omega, by omega⟩) (show (-9 : Int) ≤ x831.toInt ∧ x831.toInt ≤ 10 from ⟨by omega, by omega⟩) (Nat.lt_succ_self _) (hP.sub (ws' := [(a0, .inr (0, [.ref a1, .ref a2, .ref a3, .ref a4, .ref a5, .ref a6, .ref a7])), (a3, .inl (cI, 60, .inl g1_1)), (a23, .inl (cI, 60, .inl xF36)), (a18, .inr (2, [.int i0, .int i1, .int i2, .int i3, .int i4, .int i5, .int i6, .int i7, .int i8, .ref a19, .ref a20, .ref a21, .ref a22, .ref a23]))]) [0, 1, 2, 3] rfl) (hD.sub (ws' := [(a0, .inr (0, [.ref a1, .ref a2, .ref a3, .ref a4, .ref a5, .ref a6, .ref a7])), (a3, .inl (cI, 60, .inl g1_1)), (a23, .inl (cI, 60, .inl xF36)), (a18, .inr (2, [.int i0, .int i1, .int i2, .int i3, .int i4, .int i5, .int i6, .int i7, .int i8, .ref a19, .ref a20, .ref a21, .ref a22, .ref a23]))]) [0, 1, 2, 3] (by decide) rfl) hS (lv_sub hl [3, 4, 5, 6, 7, 2, 1, 0] rfl)
  exact lp1 _ _ _ ls (0) xF2 (show (0 : Int) ≤ (0 : Int32).toInt ∧ (0 : Int32).toInt ≤ 60 from ⟨by omega, by omega⟩) (Nat.lt_succ_self _) (hP.sub (ws' := [(a0, .inr (0, [.ref a1, .ref a2, .ref a3, .ref a4, .ref a5, .ref a6, .ref a7])), (a3, .inl (cI, 60, .inl xF2)), (a18, .inr (2, [.int i0, .int i1, .int i2, .int i3, .int i4, .int i5, .int i6, .int i7, .int i8, .ref a19, .ref a20, .ref a21, .ref a22, .ref a23])), (a23, .inl (cI, 60, .inl xF36))]) [0, 1, 2, 3] rfl) (hD.sub (ws' := [(a0, .inr (0, [.ref a1, .ref a2, .ref a3, .ref a4, .ref a5, .ref a6, .ref a7])), (a3, .inl (cI, 60, .inl xF2)), (a18, .inr (2, [.int i0, .int i1, .int i2, .int i3, .int i4, .int i5, .int i6, .int i7, .int i8, .ref a19, .ref a20, .ref a21, .ref a22, .ref a23])), (a23, .inl (cI, 60, .inl xF36))]) [0, 1, 2, 3] (by decide) rfl) hS (lv_sub hl [1, 2, 3, 4, 0] rfl)
theorem dX0_settle_0 : decode cX0_settle 0 = .ok (.aload_n 0, 1) := by decide +kernel
theorem dX0_settle_1 : decode cX0_settle 1 = .ok (.getfield 21, 3) := by decide +kernel
theorem dX0_settle_4 : decode cX0_settle 4 = .ok (.iconst 0, 1) := by decide +kernel
theorem dX0_settle_5 : decode cX0_settle 5 = .ok (.iaload, 1) := by decide +kernel
theorem dX0_settle_6 : decode cX0_settle 6 = .ok (.istore_n 3, 1) := by decide +kernel
theorem dX0_settle_7 : decode cX0_settle 7 = .ok (.iconst 0, 1) := by decide +kernel
theorem dX0_settle_8 : decode cX0_settle 8 = .ok (.istore 4, 2) := by decide +kernel
theorem dX0_settle_10 : decode cX0_settle 10 = .ok (.iconst 1, 1) := by decide +kernel
theorem dX0_settle_11 : decode cX0_settle 11 = .ok (.istore 5, 2) := by decide +kernel
theorem dX0_settle_13 : decode cX0_settle 13 = .ok (.iload 5, 2) := by decide +kernel
theorem dX0_settle_15 : decode cX0_settle 15 = .ok (.iconst 2, 1) := by decide +kernel
theorem dX0_settle_16 : decode cX0_settle 16 = .ok (.aload_n 1, 1) := by decide +kernel
theorem dX0_settle_17 : decode cX0_settle 17 = .ok (.getfield 73, 3) := by decide +kernel
theorem dX0_settle_20 : decode cX0_settle 20 = .ok (.imul, 1) := by decide +kernel
theorem dX0_settle_21 : decode cX0_settle 21 = .ok (.if_icmp .ge 52, 3) := by decide +kernel
theorem dX0_settle_24 : decode cX0_settle 24 = .ok (.iload 4, 2) := by decide +kernel
theorem dX0_settle_26 : decode cX0_settle 26 = .ok (.iconst 1, 1) := by decide +kernel
theorem dX0_settle_27 : decode cX0_settle 27 = .ok (.iadd, 1) := by decide +kernel
theorem dX0_settle_28 : decode cX0_settle 28 = .ok (.aload_n 1, 1) := by decide +kernel
theorem dX0_settle_29 : decode cX0_settle 29 = .ok (.getfield 73, 3) := by decide +kernel
theorem dX0_settle_32 : decode cX0_settle 32 = .ok (.if_icmp .ge 10, 3) := by decide +kernel
theorem dX0_settle_35 : decode cX0_settle 35 = .ok (.iload 4, 2) := by decide +kernel
theorem dX0_settle_37 : decode cX0_settle 37 = .ok (.iconst 1, 1) := by decide +kernel
theorem dX0_settle_38 : decode cX0_settle 38 = .ok (.iadd, 1) := by decide +kernel
theorem dX0_settle_39 : decode cX0_settle 39 = .ok (.goto 4, 3) := by decide +kernel
theorem dX0_settle_42 : decode cX0_settle 42 = .ok (.iconst 0, 1) := by decide +kernel
theorem dX0_settle_43 : decode cX0_settle 43 = .ok (.istore 4, 2) := by decide +kernel
theorem dX0_settle_45 : decode cX0_settle 45 = .ok (.aload_n 0, 1) := by decide +kernel
theorem dX0_settle_46 : decode cX0_settle 46 = .ok (.getfield 21, 3) := by decide +kernel
theorem dX0_settle_49 : decode cX0_settle 49 = .ok (.iload 4, 2) := by decide +kernel
theorem dX0_settle_51 : decode cX0_settle 51 = .ok (.iaload, 1) := by decide +kernel
theorem dX0_settle_52 : decode cX0_settle 52 = .ok (.iload_n 3, 1) := by decide +kernel
theorem dX0_settle_53 : decode cX0_settle 53 = .ok (.iload_n 2, 1) := by decide +kernel
theorem dX0_settle_54 : decode cX0_settle 54 = .ok (.isub, 1) := by decide +kernel
theorem dX0_settle_55 : decode cX0_settle 55 = .ok (.invokestatic 142, 3) := by decide +kernel
theorem dX0_settle_58 : decode cX0_settle 58 = .ok (.istore_n 3, 1) := by decide +kernel
theorem dX0_settle_59 : decode cX0_settle 59 = .ok (.aload_n 0, 1) := by decide +kernel
theorem dX0_settle_60 : decode cX0_settle 60 = .ok (.getfield 24, 3) := by decide +kernel
theorem dX0_settle_63 : decode cX0_settle 63 = .ok (.iload 4, 2) := by decide +kernel
theorem dX0_settle_65 : decode cX0_settle 65 = .ok (.iload_n 3, 1) := by decide +kernel
theorem dX0_settle_66 : decode cX0_settle 66 = .ok (.iastore, 1) := by decide +kernel
theorem dX0_settle_67 : decode cX0_settle 67 = .ok (.iinc 5 1, 3) := by decide +kernel
theorem dX0_settle_70 : decode cX0_settle 70 = .ok (.goto (-57), 3) := by decide +kernel
theorem dX0_settle_73 : decode cX0_settle 73 = .ok (.return_, 1) := by decide +kernel
set_option maxHeartbeats 4000000 in
set_option maxRecDepth 100000 in
theorem s_X0_settle (l : Launch) (dC : Nat → ClassId) (dI : Nat → Nat → Nat) (cI cZ cB cJ cM cG : ClassId) (a0 a1 a2 a3 a4 a5 a6 a7 a18 a19 a20 a21 a22 a23 : Nat) (i0 i1 i2 i3 i4 i5 i6 i7 i8 : Int32) (xF3 xF4 : Nat → Int32) (p1 : Int32) (sz : Nat) (p_0 : (0 : Int) ≤ i0.toInt ∧ i0.toInt ≤ 60) (p_1 : (0 : Int) ≤ i3.toInt ∧ i3.toInt ≤ 6) (p_2 : (0 : Int) ≤ i5.toInt ∧ i5.toInt ≤ 1) (p_3 : (0 : Int) ≤ i8.toInt ∧ i8.toInt ≤ 1) : Met l yX0_settle (kw yX0_settle cX0_settle 6 none) ({ frames := 1, cells := 0, slots := 0, locals := 24 } : Room) (va_Pc [.ref a0, .ref a18, .int p1] (kPre dC dI [(cI, .int), (cZ, .boolean), (cB, .byte), (cJ, .long), (cM, .object RX2), (cG, .array .int)] [(a0, .inr (0, [.ref a1, .ref a2, .ref a3, .ref a4, .ref a5, .ref a6, .ref a7])), (a4, .inl (cI, 60, .inl xF3)), (a5, .inl (cI, 60, .inl xF4)), (a18, .inr (2, [.int i0, .int i1, .int i2, .int i3, .int i4, .int i5, .int i6, .int i7, .int i8, .ref a19, .ref a20, .ref a21, .ref a22, .ref a23]))] sz)) (va_Qv (fun (u9 : (Nat → Int32) × (Nat → Nat → Int32) × (Nat → Nat → Int64)) => True) (fun u9 t => va_P (dC, dI) vwCl [(a0, .inr (0, [.ref a1, .ref a2, .ref a3, .ref a4, .ref a5, .ref a6, .ref a7])), (a4, .inl (cI, 60, .inl xF3)), (a5, .inl (cI, 60, .inl (u9.2.1 0))), (a18, .inr (2, [.int i0, .int i1, .int i2, .int i3, .int i4, .int i5, .int i6, .int i7, .int i8, .ref a19, .ref a20, .ref a21, .ref a22, .ref a23]))] t.heap ∧ va_D (va_A [(a0, .inr (0, [.ref a1, .ref a2, .ref a3, .ref a4, .ref a5, .ref a6, .ref a7])), (a4, .inl (cI, 60, .inl xF3)), (a5, .inl (cI, 60, .inl xF4)), (a18, .inr (2, [.int i0, .int i1, .int i2, .int i3, .int i4, .int i5, .int i6, .int i7, .int i8, .ref a19, .ref a20, .ref a21, .ref a22, .ref a23]))] sz) [(a0, .inr (0, [.ref a1, .ref a2, .ref a3, .ref a4, .ref a5, .ref a6, .ref a7])), (a4, .inl (cI, 60, .inl xF3)), (a5, .inl (cI, 60, .inl (u9.2.1 0))), (a18, .inr (2, [.int i0, .int i1, .int i2, .int i3, .int i4, .int i5, .int i6, .int i7, .int i8, .ref a19, .ref a20, .ref a21, .ref a22, .ref a23]))]) (va_A [(a0, .inr (0, [.ref a1, .ref a2, .ref a3, .ref a4, .ref a5, .ref a6, .ref a7])), (a4, .inl (cI, 60, .inl xF3)), (a5, .inl (cI, 60, .inl xF4)), (a18, .inr (2, [.int i0, .int i1, .int i2, .int i3, .int i4, .int i5, .int i6, .int i7, .int i8, .ref a19, .ref a20, .ref a21, .ref a22, .ref a23]))] sz)) 0 0 (va_A [(a0, .inr (0, [.ref a1, .ref a2, .ref a3, .ref a4, .ref a5, .ref a6, .ref a7])), (a4, .inl (cI, 60, .inl xF3)), (a5, .inl (cI, 60, .inl xF4)), (a18, .inr (2, [.int i0, .int i1, .int i2, .int i3, .int i4, .int i5, .int i6, .int i7, .int i8, .ref a19, .ref a20, .ref a21, .ref a22, .ref a23]))] sz) := by
  refine kEnter (by decide) (Nat.le_of_ble_eq_true rfl) ?_
  intro p e s m below meth c ls hx hb hr hml hown hlocks hin hwd hsz hP hK hD hl
  subst hsz
  generalize hAe : va_A [(a0, .inr (0, [.ref a1, .ref a2, .ref a3, .ref a4, .ref a5, .ref a6, .ref a7])), (a4, .inl (cI, 60, .inl xF3)), (a5, .inl (cI, 60, .inl xF4)), (a18, .inr (2, [.int i0, .int i1, .int i2, .int i3, .int i4, .int i5, .int i6, .int i7, .int i8, .ref a19, .ref a20, .ref a21, .ref a22, .ref a23]))] s.heap.size = A at hD ⊢
  have hA : ∀ q : Nat, s.heap.size ≤ q → A q := fun q h => by rw [← hAe]; exact Or.inr h
  have hS : va_S A s.heap s.heap [] := va_S.rf
  have hl : lv_has ls 6 [(0, .ref a0), (1, .ref a18), (2, .int p1)] := hl
  obtain ⟨Q, hQ⟩ : ∃ Q, Q = MQ below (va_Qv (fun (u9 : (Nat → Int32) × (Nat → Nat → Int32) × (Nat → Nat → Int64)) => True) (fun u9 t => va_P (dC, dI) vwCl [(a0, .inr (0, [.ref a1, .ref a2, .ref a3, .ref a4, .ref a5, .ref a6, .ref a7])), (a4, .inl (cI, 60, .inl xF3)), (a5, .inl (cI, 60, .inl (u9.2.1 0))), (a18, .inr (2, [.int i0, .int i1, .int i2, .int i3, .int i4, .int i5, .int i6, .int i7, .int i8, .ref a19, .ref a20, .ref a21, .ref a22, .ref a23]))] t.heap ∧ va_D A [(a0, .inr (0, [.ref a1, .ref a2, .ref a3, .ref a4, .ref a5, .ref a6, .ref a7])), (a4, .inl (cI, 60, .inl xF3)), (a5, .inl (cI, 60, .inl (u9.2.1 0))), (a18, .inr (2, [.int i0, .int i1, .int i2, .int i3, .int i4, .int i5, .int i6, .int i7, .int i8, .ref a19, .ref a20, .ref a21, .ref a22, .ref a23]))]) A) ([.ref a0, .ref a18, .int p1] : List Value).toArray s 0 0 A := ⟨_, rfl⟩
  rw [← hQ]
  have k0 : (0 : Int32).toInt = 0 := by decide
  have k1 : (1 : Int32).toInt = 1 := by decide
  have k2 : (2 : Int32).toInt = 2 := by decide
  refine lv_aload_n hx hb dX0_settle_0 rfl (lv_at hl 0 rfl) ?_
  refine va_get (D := (dC, dI)) (ci := 0) (v := .ref a4) (C := RX0) (T := TX0) (N := 7) hx hb hwd inlX0 hown hK hP 0 rfl rfl 3 (by decide) (hwd _ kr3_20) (fun _ h9 => h9) rfl dX0_settle_1 ?_
  refine lv_iconst (v := 0) hx hb dX0_settle_4 (by decide) ?_
  have h1 : vp_in (0 : Int32) 60 := (vin (by decide))
  refine va_iald hx hb hK hP 1 0 rfl rfl h1 dX0_settle_5 ?_
  refine lv_topi (fun x2 ex2 => ?_)
  refine lv_istore_n (lv' := [(3, .int x2), (0, .ref a0), (1, .ref a18), (2, .int p1)]) hx hb dX0_settle_6 rfl hl (by decide) rfl (fun ls hl => ?_)
  refine lv_iconst (v := 0) hx hb dX0_settle_7 (by decide) ?_
  refine lv_istore (lv' := [(4, .int 0), (3, .int x2), (0, .ref a0), (1, .ref a18), (2, .int p1)]) hx hb dX0_settle_8 hl (by decide) rfl (fun ls hl => ?_)
  refine lv_iconst (v := 1) hx hb dX0_settle_10 (by decide) ?_
  refine lv_istore (lv' := [(5, .int 1), (4, .int 0), (3, .int x2), (0, .ref a0), (1, .ref a18), (2, .int p1)]) hx hb dX0_settle_11 hl (by decide) rfl (fun ls hl => ?_)
  have lp1 : ∀ (d : Nat), ∀ (H : Heap) (locs : List Loc) (ls : Array Slot) (w3_1 : Int32) (w4_1 : Int32) (w5_1 : Int32) (g3_1 : Nat → Int32), ((0 : Int) ≤ w4_1.toInt ∧ w4_1.toInt ≤ 59) → ((1 : Int) ≤ w5_1.toInt ∧ w5_1.toInt ≤ 120) → (120 - w5_1.toInt).toNat < d → va_P (dC, dI) vwCl [(a0, .inr (0, [.ref a1, .ref a2, .ref a3, .ref a4, .ref a5, .ref a6, .ref a7])), (a4, .inl (cI, 60, .inl xF3)), (a5, .inl (cI, 60, .inl g3_1)), (a18, .inr (2, [.int i0, .int i1, .int i2, .int i3, .int i4, .int i5, .int i6, .int i7, .int i8, .ref a19, .ref a20, .ref a21, .ref a22, .ref a23]))] H → va_D A [(a0, .inr (0, [.ref a1, .ref a2, .ref a3, .ref a4, .ref a5, .ref a6, .ref a7])), (a4, .inl (cI, 60, .inl xF3)), (a5, .inl (cI, 60, .inl g3_1)), (a18, .inr (2, [.int i0, .int i1, .int i2, .int i3, .int i4, .int i5, .int i6, .int i7, .int i8, .ref a19, .ref a20, .ref a21, .ref a22, .ref a23]))] → va_S A s.heap H locs → lv_has ls 6 [(0, .ref a0), (1, .ref a18), (2, .int p1), (3, .int w3_1), (4, .int w4_1), (5, .int w5_1)] → W p l e ({ frames := 1, cells := 0, slots := 0, locals := 24 } : Room) s m ([.ref a0, .ref a18, .int p1] : List Value).toArray below meth c H locs 0 0 Q (F0 m 13 ls []) := by
    intro d
    induction d with
    | zero =>
      intro H locs ls w3_1 w4_1 w5_1 g3_1 hr_w4_1 hr_w5_1 hm hP hD hS hl
      omega
    | succ d ih1 =>
      intro H locs ls w3_1 w4_1 w5_1 g3_1 hr_w4_1 hr_w5_1 hm hP hD hS hl
      refine lv_iload hx hb dX0_settle_13 (lv_at hl 5 rfl) ?_
      refine lv_iconst (v := 2) hx hb dX0_settle_15 (by decide) ?_
      refine lv_aload_n hx hb dX0_settle_16 rfl (lv_at hl 1 rfl) ?_
      refine va_get (D := (dC, dI)) (ci := 2) (v := .int i0) (C := RX2) (T := TX2) (N := 14) hx hb hwd inlX2 hown hK hP 3 rfl rfl 0 (by decide) (hwd _ kr20_11) (fun _ h9 => h9) rfl dX0_settle_17 ?_
      refine lv_imul hx hb dX0_settle_20 ?_
      refine lv_topi (fun x77 ex77 => ?_)
      have tx77 := ia_mull (a := (2 : Int32)) (b := i0) 2 (by decide) (by omega) (by omega)
      rw [← ex77] at tx77
      refine lv_icmp_ge (tgt := 73) hx hb dX0_settle_21 (by decide) (fun c78 => ?_) (fun c78 => ?_)
      · rw [ki_le] at c78
        have hP9 := hP.sub (ws' := [(a0, .inr (0, [.ref a1, .ref a2, .ref a3, .ref a4, .ref a5, .ref a6, .ref a7])), (a4, .inl (cI, 60, .inl xF3)), (a5, .inl (cI, 60, .inl g3_1)), (a18, .inr (2, [.int i0, .int i1, .int i2, .int i3, .int i4, .int i5, .int i6, .int i7, .int i8, .ref a19, .ref a20, .ref a21, .ref a22, .ref a23]))]) [0, 1, 2, 3] rfl
        have hD9 := hD.sub (ws' := [(a0, .inr (0, [.ref a1, .ref a2, .ref a3, .ref a4, .ref a5, .ref a6, .ref a7])), (a4, .inl (cI, 60, .inl xF3)), (a5, .inl (cI, 60, .inl g3_1)), (a18, .inr (2, [.int i0, .int i1, .int i2, .int i3, .int i4, .int i5, .int i6, .int i7, .int i8, .ref a19, .ref a20, .ref a21, .ref a22, .ref a23]))]) [0, 1, 2, 3] (by decide) rfl
        rw [hQ]
        exact W.vret hx hb hr (fun t ht hW => ⟨⟨(pickG 0 [], pickG (fun _ => 0) [g3_1], pickG (fun _ => 0) []), rfl, trivial, (by rw [ht]; exact hP9), hD9⟩, hS.F ht⟩) hS.2.2 dX0_settle_73
      · rw [ki_le] at c78
        refine lv_iload hx hb dX0_settle_24 (lv_at hl 4 rfl) ?_
        refine lv_iconst (v := 1) hx hb dX0_settle_26 (by decide) ?_
        refine lv_iadd hx hb dX0_settle_27 ?_
        refine lv_topi (fun x79 ex79 => ?_)
        have tx79 := ia_add (a := w4_1) (b := (1 : Int32)) (by omega) (by omega)
        rw [← ex79] at tx79
        refine lv_aload_n hx hb dX0_settle_28 rfl (lv_at hl 1 rfl) ?_
        refine va_get (D := (dC, dI)) (ci := 2) (v := .int i0) (C := RX2) (T := TX2) (N := 14) hx hb hwd inlX2 hown hK hP 3 rfl rfl 0 (by decide) (hwd _ kr20_11) (fun _ h9 => h9) rfl dX0_settle_29 ?_
        have jp9 : ∀ (H : Heap) (locs : List Loc) (ls : Array Slot) (z0_9 : Int32), ((0 : Int) ≤ z0_9.toInt ∧ z0_9.toInt ≤ 59) → va_P (dC, dI) vwCl [(a0, .inr (0, [.ref a1, .ref a2, .ref a3, .ref a4, .ref a5, .ref a6, .ref a7])), (a4, .inl (cI, 60, .inl xF3)), (a5, .inl (cI, 60, .inl g3_1)), (a18, .inr (2, [.int i0, .int i1, .int i2, .int i3, .int i4, .int i5, .int i6, .int i7, .int i8, .ref a19, .ref a20, .ref a21, .ref a22, .ref a23]))] H → va_D A [(a0, .inr (0, [.ref a1, .ref a2, .ref a3, .ref a4, .ref a5, .ref a6, .ref a7])), (a4, .inl (cI, 60, .inl xF3)), (a5, .inl (cI, 60, .inl g3_1)), (a18, .inr (2, [.int i0, .int i1, .int i2, .int i3, .int i4, .int i5, .int i6, .int i7, .int i8, .ref a19, .ref a20, .ref a21, .ref a22, .ref a23]))] → va_S A s.heap H locs → lv_has ls 6 [(0, .ref a0), (1, .ref a18), (2, .int p1), (3, .int w3_1), (4, .int w4_1), (5, .int w5_1)] → W p l e ({ frames := 1, cells := 0, slots := 0, locals := 24 } : Room) s m ([.ref a0, .ref a18, .int p1] : List Value).toArray below meth c H locs 0 0 Q (F0 m 43 ls [.int z0_9]) := by
          intro H locs ls z0_9 hr_z0_9 hP hD hS hl
          refine lv_istore (lv' := [(4, .int z0_9), (0, .ref a0), (1, .ref a18), (2, .int p1), (3, .int w3_1), (5, .int w5_1)]) hx hb dX0_settle_43 hl (by decide) rfl (fun ls hl => ?_)
          refine lv_aload_n hx hb dX0_settle_45 rfl (lv_at hl 1 rfl) ?_
          refine va_get (D := (dC, dI)) (ci := 0) (v := .ref a4) (C := RX0) (T := TX0) (N := 7) hx hb hwd inlX0 hown hK hP 0 rfl rfl 3 (by decide) (hwd _ kr3_20) (fun _ h9 => h9) rfl dX0_settle_46 ?_
          refine lv_iload hx hb dX0_settle_49 (lv_at hl 0 rfl) ?_
          have h88 : vp_in z0_9 60 := (vp_of (by omega) (by omega))
          refine va_iald hx hb hK hP 1 0 rfl rfl h88 dX0_settle_51 ?_
          refine lv_topi (fun x89 ex89 => ?_)
          refine lv_iload_n hx hb dX0_settle_52 rfl (lv_at hl 4 rfl) ?_
          refine lv_iload_n hx hb dX0_settle_53 rfl (lv_at hl 3 rfl) ?_
          refine lv_isub hx hb dX0_settle_54 ?_
          refine lv_topi (fun x90 ex90 => ?_)
          refine va_mmax hx hb (by rw [hml]; exact hl.1.symm) hown (hwd _ kr21_15) (hwd _ kr19_3) (hwd _ kr19_4) (hwd _ kr19_5) (Nat.le_of_ble_eq_true rfl) (Nat.le_of_ble_eq_true rfl) (Nat.le_of_ble_eq_true rfl) (Nat.le_of_ble_eq_true rfl) dX0_settle_55 ?_
          refine lv_topi (fun x91 ex91 => ?_)
          have tx91 := mx_max x89 x90
          rw [← ex91] at tx91
          refine lv_istore_n (lv' := [(3, .int x91), (4, .int z0_9), (0, .ref a0), (1, .ref a18), (2, .int p1), (5, .int w5_1)]) hx hb dX0_settle_58 rfl hl (by decide) rfl (fun ls hl => ?_)
          refine lv_aload_n hx hb dX0_settle_59 rfl (lv_at hl 2 rfl) ?_
          refine va_get (D := (dC, dI)) (ci := 0) (v := .ref a5) (C := RX0) (T := TX0) (N := 7) hx hb hwd inlX0 hown hK hP 0 rfl rfl 4 (by decide) (hwd _ kr3_21) (fun _ h9 => h9) rfl dX0_settle_60 ?_
          refine lv_iload hx hb dX0_settle_63 (lv_at hl 1 rfl) ?_
          refine lv_iload_n hx hb dX0_settle_65 rfl (lv_at hl 0 rfl) ?_
          refine va_iast hx hb hK hP hD hS 2 0 rfl rfl (vp_of (by omega) (by omega)) dX0_settle_66 (fun H locs hP hD hS => ?_)
          obtain ⟨f92, ef92⟩ : ∃ f, f = upd g3_1 z0_9.toNatClampNeg x91 := ⟨_, rfl⟩
          have hP : va_P (dC, dI) vwCl [(a0, .inr (0, [.ref a1, .ref a2, .ref a3, .ref a4, .ref a5, .ref a6, .ref a7])), (a4, .inl (cI, 60, .inl xF3)), (a5, .inl (cI, 60, .inl f92)), (a18, .inr (2, [.int i0, .int i1, .int i2, .int i3, .int i4, .int i5, .int i6, .int i7, .int i8, .ref a19, .ref a20, .ref a21, .ref a22, .ref a23]))] H := by rw [ef92]; exact hP
          have hD : va_D A [(a0, .inr (0, [.ref a1, .ref a2, .ref a3, .ref a4, .ref a5, .ref a6, .ref a7])), (a4, .inl (cI, 60, .inl xF3)), (a5, .inl (cI, 60, .inl f92)), (a18, .inr (2, [.int i0, .int i1, .int i2, .int i3, .int i4, .int i5, .int i6, .int i7, .int i8, .ref a19, .ref a20, .ref a21, .ref a22, .ref a23]))] := by rw [ef92]; exact hD
          obtain ⟨x93, ex93⟩ : ∃ y : Int32, y = w5_1 + 1 := ⟨_, rfl⟩
          refine lv_iinc (v := x93) (lv' := [(5, .int x93), (3, .int x91), (4, .int z0_9), (0, .ref a0), (1, .ref a18), (2, .int p1)]) hx hb dX0_settle_67 hl (k := 5) rfl (by rw [ex93]; rfl) (by decide) rfl (fun ls hl => ?_)
          have tx93 := ia_add (a := w5_1) (b := (1 : Int32)) (by omega) (by omega)
          rw [← ex93] at tx93
          refine lv_goto (tgt := 13) hx hb dX0_settle_70 (by decide) ?_
          exact ih1 _ _ ls x91 z0_9 x93 f92 (show (0 : Int) ≤ z0_9.toInt ∧ z0_9.toInt ≤ 59 from ⟨by omega, by omega⟩) (show (1 : Int) ≤ x93.toInt ∧ x93.toInt ≤ 120 from ⟨by omega, by omega⟩) (by omega) (hP.sub (ws' := [(a0, .inr (0, [.ref a1, .ref a2, .ref a3, .ref a4, .ref a5, .ref a6, .ref a7])), (a4, .inl (cI, 60, .inl xF3)), (a5, .inl (cI, 60, .inl f92)), (a18, .inr (2, [.int i0, .int i1, .int i2, .int i3, .int i4, .int i5, .int i6, .int i7, .int i8, .ref a19, .ref a20, .ref a21, .ref a22, .ref a23]))]) [0, 1, 2, 3] rfl) (hD.sub (ws' := [(a0, .inr (0, [.ref a1, .ref a2, .ref a3, .ref a4, .ref a5, .ref a6, .ref a7])), (a4, .inl (cI, 60, .inl xF3)), (a5, .inl (cI, 60, .inl f92)), (a18, .inr (2, [.int i0, .int i1, .int i2, .int i3, .int i4, .int i5, .int i6, .int i7, .int i8, .ref a19, .ref a20, .ref a21, .ref a22, .ref a23]))]) [0, 1, 2, 3] (by decide) rfl) hS (lv_sub hl [3, 4, 5, 1, 2, 0] rfl)
        refine lv_icmp_ge (tgt := 42) hx hb dX0_settle_32 (by decide) (fun c94 => ?_) (fun c94 => ?_)
        · rw [ki_le] at c94
          refine lv_iconst (v := 0) hx hb dX0_settle_42 (by decide) ?_
          exact jp9 _ _ ls (0) (show (0 : Int) ≤ (0 : Int32).toInt ∧ (0 : Int32).toInt ≤ 59 from ⟨by omega, by omega⟩) (hP.sub (ws' := [(a0, .inr (0, [.ref a1, .ref a2, .ref a3, .ref a4, .ref a5, .ref a6, .ref a7])), (a4, .inl (cI, 60, .inl xF3)), (a5, .inl (cI, 60, .inl g3_1)), (a18, .inr (2, [.int i0, .int i1, .int i2, .int i3, .int i4, .int i5, .int i6, .int i7, .int i8, .ref a19, .ref a20, .ref a21, .ref a22, .ref a23]))]) [0, 1, 2, 3] rfl) (hD.sub (ws' := [(a0, .inr (0, [.ref a1, .ref a2, .ref a3, .ref a4, .ref a5, .ref a6, .ref a7])), (a4, .inl (cI, 60, .inl xF3)), (a5, .inl (cI, 60, .inl g3_1)), (a18, .inr (2, [.int i0, .int i1, .int i2, .int i3, .int i4, .int i5, .int i6, .int i7, .int i8, .ref a19, .ref a20, .ref a21, .ref a22, .ref a23]))]) [0, 1, 2, 3] (by decide) rfl) hS (lv_sub hl [0, 1, 2, 3, 4, 5] rfl)
        · rw [ki_le] at c94
          refine lv_iload hx hb dX0_settle_35 (lv_at hl 4 rfl) ?_
          refine lv_iconst (v := 1) hx hb dX0_settle_37 (by decide) ?_
          refine lv_iadd hx hb dX0_settle_38 ?_
          refine lv_topi (fun x95 ex95 => ?_)
          have tx95 := ia_add (a := w4_1) (b := (1 : Int32)) (by omega) (by omega)
          rw [← ex95] at tx95
          refine lv_goto (tgt := 43) hx hb dX0_settle_39 (by decide) ?_
          exact jp9 _ _ ls x95 (show (0 : Int) ≤ x95.toInt ∧ x95.toInt ≤ 59 from ⟨by omega, by omega⟩) (hP.sub (ws' := [(a0, .inr (0, [.ref a1, .ref a2, .ref a3, .ref a4, .ref a5, .ref a6, .ref a7])), (a4, .inl (cI, 60, .inl xF3)), (a5, .inl (cI, 60, .inl g3_1)), (a18, .inr (2, [.int i0, .int i1, .int i2, .int i3, .int i4, .int i5, .int i6, .int i7, .int i8, .ref a19, .ref a20, .ref a21, .ref a22, .ref a23]))]) [0, 1, 2, 3] rfl) (hD.sub (ws' := [(a0, .inr (0, [.ref a1, .ref a2, .ref a3, .ref a4, .ref a5, .ref a6, .ref a7])), (a4, .inl (cI, 60, .inl xF3)), (a5, .inl (cI, 60, .inl g3_1)), (a18, .inr (2, [.int i0, .int i1, .int i2, .int i3, .int i4, .int i5, .int i6, .int i7, .int i8, .ref a19, .ref a20, .ref a21, .ref a22, .ref a23]))]) [0, 1, 2, 3] (by decide) rfl) hS (lv_sub hl [0, 1, 2, 3, 4, 5] rfl)
  exact lp1 _ _ _ ls x2 (0) (1) xF4 (show (0 : Int) ≤ (0 : Int32).toInt ∧ (0 : Int32).toInt ≤ 59 from ⟨by omega, by omega⟩) (show (1 : Int) ≤ (1 : Int32).toInt ∧ (1 : Int32).toInt ≤ 120 from ⟨by omega, by omega⟩) (Nat.lt_succ_self _) (hP.sub (ws' := [(a0, .inr (0, [.ref a1, .ref a2, .ref a3, .ref a4, .ref a5, .ref a6, .ref a7])), (a4, .inl (cI, 60, .inl xF3)), (a5, .inl (cI, 60, .inl xF4)), (a18, .inr (2, [.int i0, .int i1, .int i2, .int i3, .int i4, .int i5, .int i6, .int i7, .int i8, .ref a19, .ref a20, .ref a21, .ref a22, .ref a23]))]) [0, 1, 2, 3] rfl) (hD.sub (ws' := [(a0, .inr (0, [.ref a1, .ref a2, .ref a3, .ref a4, .ref a5, .ref a6, .ref a7])), (a4, .inl (cI, 60, .inl xF3)), (a5, .inl (cI, 60, .inl xF4)), (a18, .inr (2, [.int i0, .int i1, .int i2, .int i3, .int i4, .int i5, .int i6, .int i7, .int i8, .ref a19, .ref a20, .ref a21, .ref a22, .ref a23]))]) [0, 1, 2, 3] (by decide) rfl) hS (lv_sub hl [3, 4, 5, 2, 1, 0] rfl)
