theorem dX5_readFrom_0 : decode cX5_readFrom 0 = .ok (.aload_n 0, 1) := by decide +kernel
theorem dX5_readFrom_1 : decode cX5_readFrom 1 = .ok (.iconst 0, 1) := by decide +kernel
theorem dX5_readFrom_2 : decode cX5_readFrom 2 = .ok (.putfield 33, 3) := by decide +kernel
theorem dX5_readFrom_5 : decode cX5_readFrom 5 = .ok (.aload_n 0, 1) := by decide +kernel
theorem dX5_readFrom_6 : decode cX5_readFrom 6 = .ok (.iconst 0, 1) := by decide +kernel
theorem dX5_readFrom_7 : decode cX5_readFrom 7 = .ok (.putfield 37, 3) := by decide +kernel
theorem dX5_readFrom_10 : decode cX5_readFrom 10 = .ok (.iconst 0, 1) := by decide +kernel
theorem dX5_readFrom_11 : decode cX5_readFrom 11 = .ok (.istore_n 3, 1) := by decide +kernel
theorem dX5_readFrom_12 : decode cX5_readFrom 12 = .ok (.iload_n 3, 1) := by decide +kernel
theorem dX5_readFrom_13 : decode cX5_readFrom 13 = .ok (.sipush 1600, 3) := by decide +kernel
theorem dX5_readFrom_16 : decode cX5_readFrom 16 = .ok (.if_icmp .ge 22, 3) := by decide +kernel
theorem dX5_readFrom_19 : decode cX5_readFrom 19 = .ok (.aload_n 1, 1) := by decide +kernel
theorem dX5_readFrom_20 : decode cX5_readFrom 20 = .ok (.invokevirtual 40, 3) := by decide +kernel
theorem dX5_readFrom_23 : decode cX5_readFrom 23 = .ok (.ifCond .eq 15, 3) := by decide +kernel
theorem dX5_readFrom_26 : decode cX5_readFrom 26 = .ok (.aload_n 0, 1) := by decide +kernel
theorem dX5_readFrom_27 : decode cX5_readFrom 27 = .ok (.aload_n 1, 1) := by decide +kernel
theorem dX5_readFrom_28 : decode cX5_readFrom 28 = .ok (.iload_n 2, 1) := by decide +kernel
theorem dX5_readFrom_29 : decode cX5_readFrom 29 = .ok (.invokevirtual 44, 3) := by decide +kernel
theorem dX5_readFrom_32 : decode cX5_readFrom 32 = .ok (.iinc 3 1, 3) := by decide +kernel
theorem dX5_readFrom_35 : decode cX5_readFrom 35 = .ok (.goto (-23), 3) := by decide +kernel
theorem dX5_readFrom_38 : decode cX5_readFrom 38 = .ok (.aload_n 0, 1) := by decide +kernel
theorem dX5_readFrom_39 : decode cX5_readFrom 39 = .ok (.getfield 37, 3) := by decide +kernel
theorem dX5_readFrom_42 : decode cX5_readFrom 42 = .ok (.ifCond .le 8, 3) := by decide +kernel
theorem dX5_readFrom_45 : decode cX5_readFrom 45 = .ok (.aload_n 1, 1) := by decide +kernel
theorem dX5_readFrom_46 : decode cX5_readFrom 46 = .ok (.iconst 1, 1) := by decide +kernel
theorem dX5_readFrom_47 : decode cX5_readFrom 47 = .ok (.invokevirtual 48, 3) := by decide +kernel
theorem dX5_readFrom_50 : decode cX5_readFrom 50 = .ok (.return_, 1) := by decide +kernel
set_option maxHeartbeats 4000000 in
set_option maxRecDepth 100000 in
theorem s_X5_readFrom (l : Launch) (dC : Nat → ClassId) (dI : Nat → Nat → Nat) (cI cZ cB cJ cM cG : ClassId) (a0 a1 a2 a3 a4 a5 a6 a7 a8 a9 : Nat) (i0 i1 i2 i3 i4 i5 i6 i7 i8 i9 i10 : Int32) (xF0 xF1 xF2 xF3 xF4 xF7 : Nat → Int32) (p1 : Int32) (sz : Nat) (p_0 : (0 : Int) ≤ i0.toInt ∧ i0.toInt ≤ 400) (p_1 : (0 : Int) ≤ i1.toInt ∧ i1.toInt ≤ 5) (p_2 : (0 : Int) ≤ i2.toInt ∧ i2.toInt ≤ 59) (p_3 : rng xF1 400 0 1000) (p_4 : rng xF3 400 (-1) 400) (p_5 : rng xF4 5 0 400) (p_6 : (0 : Int) ≤ i4.toInt ∧ i4.toInt ≤ 1600) (p_7 : (0 : Int) ≤ i8.toInt ∧ i8.toInt ≤ 1600) (p_8 : (0 : Int) ≤ i9.toInt ∧ i9.toInt ≤ 1600) (p_9 : (0 : Int) ≤ p1.toInt ∧ p1.toInt ≤ 10) : Met l yX5_readFrom (kw yX5_readFrom cX5_readFrom 4 none) ({ frames := 7, cells := 0, slots := 0, locals := 152 } : Room) (va_Pc [.ref a0, .ref a8, .int p1] (kPreX dC dI [(cI, .int), (cZ, .boolean), (cB, .byte), (cJ, .long), (cM, .object RX2), (cG, .array .int)] [(a0, .inr (5, [.int i0, .ref a1, .ref a2, .ref a3, .ref a4, .int i1, .ref a5, .ref a6, .ref a7, .int i2, .int i3])), (a1, .inl (cI, 400, .inl xF0)), (a2, .inl (cI, 400, .inl xF1)), (a3, .inl (cI, 400, .inl xF2)), (a4, .inl (cI, 400, .inl xF3)), (a5, .inl (cI, 5, .inl xF4)), (a8, .inr (10, [.ref a9, .int i4, .int i5, .int i6, .int i7, .int i8, .int i9, .int i10])), (a9, .inl (cB, 1600, .inl xF7))] sz NT)) (va_Qv (fun (u9 : (Nat → Int32) × (Nat → Nat → Int32) × (Nat → Nat → Int64)) => ((0 : Int) ≤ (u9.1 0).toInt ∧ (u9.1 0).toInt ≤ 400) ∧ ((0 : Int) ≤ (u9.1 1).toInt ∧ (u9.1 1).toInt ≤ 5) ∧ (rng (u9.2.1 1) 400 0 1000) ∧ (rng (u9.2.1 3) 400 (-1) 400) ∧ (rng (u9.2.1 4) 5 0 400) ∧ ((0 : Int) ≤ (u9.1 5).toInt ∧ (u9.1 5).toInt ≤ 1600) ∧ ((0 : Int) ≤ (u9.1 6).toInt ∧ (u9.1 6).toInt ≤ 1600) ∧ True) (fun u9 t => va_P (dC, dI) vwCl [(a0, .inr (5, [.int (u9.1 0), .ref a1, .ref a2, .ref a3, .ref a4, .int (u9.1 1), .ref a5, .ref a6, .ref a7, .int i2, .int i3])), (a1, .inl (cI, 400, .inl (u9.2.1 0))), (a2, .inl (cI, 400, .inl (u9.2.1 1))), (a3, .inl (cI, 400, .inl (u9.2.1 2))), (a4, .inl (cI, 400, .inl (u9.2.1 3))), (a5, .inl (cI, 5, .inl (u9.2.1 4))), (a8, .inr (10, [.ref a9, .int i4, .int (u9.1 2), .int (u9.1 3), .int (u9.1 4), .int (u9.1 5), .int (u9.1 6), .int (u9.1 7)])), (a9, .inl (cB, 1600, .inl xF7))] t.heap ∧ va_D (va_A [(a0, .inr (5, [.int i0, .ref a1, .ref a2, .ref a3, .ref a4, .int i1, .ref a5, .ref a6, .ref a7, .int i2, .int i3])), (a1, .inl (cI, 400, .inl xF0)), (a2, .inl (cI, 400, .inl xF1)), (a3, .inl (cI, 400, .inl xF2)), (a4, .inl (cI, 400, .inl xF3)), (a5, .inl (cI, 5, .inl xF4)), (a8, .inr (10, [.ref a9, .int i4, .int i5, .int i6, .int i7, .int i8, .int i9, .int i10])), (a9, .inl (cB, 1600, .inl xF7))] sz) [(a0, .inr (5, [.int (u9.1 0), .ref a1, .ref a2, .ref a3, .ref a4, .int (u9.1 1), .ref a5, .ref a6, .ref a7, .int i2, .int i3])), (a1, .inl (cI, 400, .inl (u9.2.1 0))), (a2, .inl (cI, 400, .inl (u9.2.1 1))), (a3, .inl (cI, 400, .inl (u9.2.1 2))), (a4, .inl (cI, 400, .inl (u9.2.1 3))), (a5, .inl (cI, 5, .inl (u9.2.1 4))), (a8, .inr (10, [.ref a9, .int i4, .int (u9.1 2), .int (u9.1 3), .int (u9.1 4), .int (u9.1 5), .int (u9.1 6), .int (u9.1 7)])), (a9, .inl (cB, 1600, .inl xF7))]) (va_A [(a0, .inr (5, [.int i0, .ref a1, .ref a2, .ref a3, .ref a4, .int i1, .ref a5, .ref a6, .ref a7, .int i2, .int i3])), (a1, .inl (cI, 400, .inl xF0)), (a2, .inl (cI, 400, .inl xF1)), (a3, .inl (cI, 400, .inl xF2)), (a4, .inl (cI, 400, .inl xF3)), (a5, .inl (cI, 5, .inl xF4)), (a8, .inr (10, [.ref a9, .int i4, .int i5, .int i6, .int i7, .int i8, .int i9, .int i10])), (a9, .inl (cB, 1600, .inl xF7))] sz)) 0 0 (va_A [(a0, .inr (5, [.int i0, .ref a1, .ref a2, .ref a3, .ref a4, .int i1, .ref a5, .ref a6, .ref a7, .int i2, .int i3])), (a1, .inl (cI, 400, .inl xF0)), (a2, .inl (cI, 400, .inl xF1)), (a3, .inl (cI, 400, .inl xF2)), (a4, .inl (cI, 400, .inl xF3)), (a5, .inl (cI, 5, .inl xF4)), (a8, .inr (10, [.ref a9, .int i4, .int i5, .int i6, .int i7, .int i8, .int i9, .int i10])), (a9, .inl (cB, 1600, .inl xF7))] sz) := by
  refine kEnterX (by decide) (Nat.le_of_ble_eq_true rfl) ?_
  intro p e s m below meth c ls hx hb hr hml hown hlocks hin hwd hsz hP hK hD hN hl
  subst hsz
  generalize hAe : va_A [(a0, .inr (5, [.int i0, .ref a1, .ref a2, .ref a3, .ref a4, .int i1, .ref a5, .ref a6, .ref a7, .int i2, .int i3])), (a1, .inl (cI, 400, .inl xF0)), (a2, .inl (cI, 400, .inl xF1)), (a3, .inl (cI, 400, .inl xF2)), (a4, .inl (cI, 400, .inl xF3)), (a5, .inl (cI, 5, .inl xF4)), (a8, .inr (10, [.ref a9, .int i4, .int i5, .int i6, .int i7, .int i8, .int i9, .int i10])), (a9, .inl (cB, 1600, .inl xF7))] s.heap.size = A at hD hN ⊢
  have hA : ∀ q : Nat, s.heap.size ≤ q → A q := fun q h => by rw [← hAe]; exact Or.inr h
  have hS : va_S A s.heap s.heap [] := va_S.rf
  have hl : lv_has ls 4 [(0, .ref a0), (1, .ref a8), (2, .int p1)] := hl
  obtain ⟨Q, hQ⟩ : ∃ Q, Q = MQ below (va_Qv (fun (u9 : (Nat → Int32) × (Nat → Nat → Int32) × (Nat → Nat → Int64)) => ((0 : Int) ≤ (u9.1 0).toInt ∧ (u9.1 0).toInt ≤ 400) ∧ ((0 : Int) ≤ (u9.1 1).toInt ∧ (u9.1 1).toInt ≤ 5) ∧ (rng (u9.2.1 1) 400 0 1000) ∧ (rng (u9.2.1 3) 400 (-1) 400) ∧ (rng (u9.2.1 4) 5 0 400) ∧ ((0 : Int) ≤ (u9.1 5).toInt ∧ (u9.1 5).toInt ≤ 1600) ∧ ((0 : Int) ≤ (u9.1 6).toInt ∧ (u9.1 6).toInt ≤ 1600) ∧ True) (fun u9 t => va_P (dC, dI) vwCl [(a0, .inr (5, [.int (u9.1 0), .ref a1, .ref a2, .ref a3, .ref a4, .int (u9.1 1), .ref a5, .ref a6, .ref a7, .int i2, .int i3])), (a1, .inl (cI, 400, .inl (u9.2.1 0))), (a2, .inl (cI, 400, .inl (u9.2.1 1))), (a3, .inl (cI, 400, .inl (u9.2.1 2))), (a4, .inl (cI, 400, .inl (u9.2.1 3))), (a5, .inl (cI, 5, .inl (u9.2.1 4))), (a8, .inr (10, [.ref a9, .int i4, .int (u9.1 2), .int (u9.1 3), .int (u9.1 4), .int (u9.1 5), .int (u9.1 6), .int (u9.1 7)])), (a9, .inl (cB, 1600, .inl xF7))] t.heap ∧ va_D A [(a0, .inr (5, [.int (u9.1 0), .ref a1, .ref a2, .ref a3, .ref a4, .int (u9.1 1), .ref a5, .ref a6, .ref a7, .int i2, .int i3])), (a1, .inl (cI, 400, .inl (u9.2.1 0))), (a2, .inl (cI, 400, .inl (u9.2.1 1))), (a3, .inl (cI, 400, .inl (u9.2.1 2))), (a4, .inl (cI, 400, .inl (u9.2.1 3))), (a5, .inl (cI, 5, .inl (u9.2.1 4))), (a8, .inr (10, [.ref a9, .int i4, .int (u9.1 2), .int (u9.1 3), .int (u9.1 4), .int (u9.1 5), .int (u9.1 6), .int (u9.1 7)])), (a9, .inl (cB, 1600, .inl xF7))]) A) ([.ref a0, .ref a8, .int p1] : List Value).toArray s 0 0 A := ⟨_, rfl⟩
  rw [← hQ]
  have k0 : (0 : Int32).toInt = 0 := by decide
  have k1 : (1 : Int32).toInt = 1 := by decide
  have k1600 : (1600 : Int32).toInt = 1600 := by decide
  refine lv_aload_n hx hb dX5_readFrom_0 rfl (lv_at hl 0 rfl) ?_
  refine lv_iconst (v := 0) hx hb dX5_readFrom_1 (by decide) ?_
  refine va_put (D := (dC, dI)) (ci := 5) (v := .int 0) (ty := .int) (C := RX5) (T := TX5) (N := 11) hx hb hwd inlX5 tyX5 tyX5_ok nmX5 hown hK hP hD hS 0 rfl rfl 0 (by decide) (hwd _ kr29_5) (fun _ h9 => h9) rfl (by decide +kernel) rfl rfl (Nat.le_of_ble_eq_true rfl) dX5_readFrom_2 (fun H locs hP hD hS => ?_)
  have hP : va_P (dC, dI) vwCl [(a0, .inr (5, [.int 0, .ref a1, .ref a2, .ref a3, .ref a4, .int i1, .ref a5, .ref a6, .ref a7, .int i2, .int i3])), (a1, .inl (cI, 400, .inl xF0)), (a2, .inl (cI, 400, .inl xF1)), (a3, .inl (cI, 400, .inl xF2)), (a4, .inl (cI, 400, .inl xF3)), (a5, .inl (cI, 5, .inl xF4)), (a8, .inr (10, [.ref a9, .int i4, .int i5, .int i6, .int i7, .int i8, .int i9, .int i10])), (a9, .inl (cB, 1600, .inl xF7))] H := hP
  have hD : va_D A [(a0, .inr (5, [.int 0, .ref a1, .ref a2, .ref a3, .ref a4, .int i1, .ref a5, .ref a6, .ref a7, .int i2, .int i3])), (a1, .inl (cI, 400, .inl xF0)), (a2, .inl (cI, 400, .inl xF1)), (a3, .inl (cI, 400, .inl xF2)), (a4, .inl (cI, 400, .inl xF3)), (a5, .inl (cI, 5, .inl xF4)), (a8, .inr (10, [.ref a9, .int i4, .int i5, .int i6, .int i7, .int i8, .int i9, .int i10])), (a9, .inl (cB, 1600, .inl xF7))] := hD
  refine lv_aload_n hx hb dX5_readFrom_5 rfl (lv_at hl 0 rfl) ?_
  refine lv_iconst (v := 0) hx hb dX5_readFrom_6 (by decide) ?_
  refine va_put (D := (dC, dI)) (ci := 5) (v := .int 0) (ty := .int) (C := RX5) (T := TX5) (N := 11) hx hb hwd inlX5 tyX5 tyX5_ok nmX5 hown hK hP hD hS 0 rfl rfl 5 (by decide) (hwd _ kr29_6) (fun _ h9 => h9) rfl (by decide +kernel) rfl rfl (Nat.le_of_ble_eq_true rfl) dX5_readFrom_7 (fun H locs hP hD hS => ?_)
  have hP : va_P (dC, dI) vwCl [(a0, .inr (5, [.int 0, .ref a1, .ref a2, .ref a3, .ref a4, .int 0, .ref a5, .ref a6, .ref a7, .int i2, .int i3])), (a1, .inl (cI, 400, .inl xF0)), (a2, .inl (cI, 400, .inl xF1)), (a3, .inl (cI, 400, .inl xF2)), (a4, .inl (cI, 400, .inl xF3)), (a5, .inl (cI, 5, .inl xF4)), (a8, .inr (10, [.ref a9, .int i4, .int i5, .int i6, .int i7, .int i8, .int i9, .int i10])), (a9, .inl (cB, 1600, .inl xF7))] H := hP
  have hD : va_D A [(a0, .inr (5, [.int 0, .ref a1, .ref a2, .ref a3, .ref a4, .int 0, .ref a5, .ref a6, .ref a7, .int i2, .int i3])), (a1, .inl (cI, 400, .inl xF0)), (a2, .inl (cI, 400, .inl xF1)), (a3, .inl (cI, 400, .inl xF2)), (a4, .inl (cI, 400, .inl xF3)), (a5, .inl (cI, 5, .inl xF4)), (a8, .inr (10, [.ref a9, .int i4, .int i5, .int i6, .int i7, .int i8, .int i9, .int i10])), (a9, .inl (cB, 1600, .inl xF7))] := hD
  refine lv_iconst (v := 0) hx hb dX5_readFrom_10 (by decide) ?_
  refine lv_istore_n (lv' := [(3, .int 0), (0, .ref a0), (1, .ref a8), (2, .int p1)]) hx hb dX5_readFrom_11 rfl hl (by decide) rfl (fun ls hl => ?_)
  have lp1 : ∀ (d : Nat), ∀ (H : Heap) (locs : List Loc) (ls : Array Slot) (w3_1 : Int32) (v1_1 : Int32) (v2_1 : Int32) (g3_1 : Nat → Int32) (g4_1 : Nat → Int32) (g5_1 : Nat → Int32) (g6_1 : Nat → Int32) (g7_1 : Nat → Int32) (v8_1 : Int32) (v9_1 : Int32) (v10_1 : Int32) (v11_1 : Int32) (v12_1 : Int32) (v13_1 : Int32), ((0 : Int) ≤ w3_1.toInt ∧ w3_1.toInt ≤ 1600) → ((0 : Int) ≤ v1_1.toInt ∧ v1_1.toInt ≤ 400) → ((0 : Int) ≤ v2_1.toInt ∧ v2_1.toInt ≤ 5) → (rng g4_1 400 0 1000) → (rng g6_1 400 (-1) 400) → (rng g7_1 5 0 400) → ((0 : Int) ≤ v11_1.toInt ∧ v11_1.toInt ≤ 1600) → ((0 : Int) ≤ v12_1.toInt ∧ v12_1.toInt ≤ 1600) → (1600 - w3_1.toInt).toNat < d → va_P (dC, dI) vwCl [(a0, .inr (5, [.int v1_1, .ref a1, .ref a2, .ref a3, .ref a4, .int v2_1, .ref a5, .ref a6, .ref a7, .int i2, .int i3])), (a1, .inl (cI, 400, .inl g3_1)), (a2, .inl (cI, 400, .inl g4_1)), (a3, .inl (cI, 400, .inl g5_1)), (a4, .inl (cI, 400, .inl g6_1)), (a5, .inl (cI, 5, .inl g7_1)), (a8, .inr (10, [.ref a9, .int i4, .int v8_1, .int v9_1, .int v10_1, .int v11_1, .int v12_1, .int v13_1])), (a9, .inl (cB, 1600, .inl xF7))] H → va_D A [(a0, .inr (5, [.int v1_1, .ref a1, .ref a2, .ref a3, .ref a4, .int v2_1, .ref a5, .ref a6, .ref a7, .int i2, .int i3])), (a1, .inl (cI, 400, .inl g3_1)), (a2, .inl (cI, 400, .inl g4_1)), (a3, .inl (cI, 400, .inl g5_1)), (a4, .inl (cI, 400, .inl g6_1)), (a5, .inl (cI, 5, .inl g7_1)), (a8, .inr (10, [.ref a9, .int i4, .int v8_1, .int v9_1, .int v10_1, .int v11_1, .int v12_1, .int v13_1])), (a9, .inl (cB, 1600, .inl xF7))] → va_S A s.heap H locs → lv_has ls 4 [(0, .ref a0), (1, .ref a8), (2, .int p1), (3, .int w3_1)] → W p l e ({ frames := 7, cells := 0, slots := 0, locals := 152 } : Room) s m ([.ref a0, .ref a8, .int p1] : List Value).toArray below meth c H locs 0 0 Q (F0 m 12 ls []) := by
    intro d
    induction d with
    | zero =>
      intro H locs ls w3_1 v1_1 v2_1 g3_1 g4_1 g5_1 g6_1 g7_1 v8_1 v9_1 v10_1 v11_1 v12_1 v13_1 hr_w3_1 hr_v1_1 hr_v2_1 hr_g4_1 hr_g6_1 hr_g7_1 hr_v11_1 hr_v12_1 hm hP hD hS hl
      omega
    | succ d ih1 =>
      intro H locs ls w3_1 v1_1 v2_1 g3_1 g4_1 g5_1 g6_1 g7_1 v8_1 v9_1 v10_1 v11_1 v12_1 v13_1 hr_w3_1 hr_v1_1 hr_v2_1 hr_g4_1 hr_g6_1 hr_g7_1 hr_v11_1 hr_v12_1 hm hP hD hS hl
      refine lv_iload_n hx hb dX5_readFrom_12 rfl (lv_at hl 3 rfl) ?_
      refine lv_sipush (v := 1600) hx hb dX5_readFrom_13 (by decide) ?_
      have jp9 : ∀ (H : Heap) (locs : List Loc) (ls : Array Slot), va_P (dC, dI) vwCl [(a0, .inr (5, [.int v1_1, .ref a1, .ref a2, .ref a3, .ref a4, .int v2_1, .ref a5, .ref a6, .ref a7, .int i2, .int i3])), (a1, .inl (cI, 400, .inl g3_1)), (a2, .inl (cI, 400, .inl g4_1)), (a3, .inl (cI, 400, .inl g5_1)), (a4, .inl (cI, 400, .inl g6_1)), (a5, .inl (cI, 5, .inl g7_1)), (a8, .inr (10, [.ref a9, .int i4, .int v8_1, .int v9_1, .int v10_1, .int v11_1, .int v12_1, .int v13_1])), (a9, .inl (cB, 1600, .inl xF7))] H → va_D A [(a0, .inr (5, [.int v1_1, .ref a1, .ref a2, .ref a3, .ref a4, .int v2_1, .ref a5, .ref a6, .ref a7, .int i2, .int i3])), (a1, .inl (cI, 400, .inl g3_1)), (a2, .inl (cI, 400, .inl g4_1)), (a3, .inl (cI, 400, .inl g5_1)), (a4, .inl (cI, 400, .inl g6_1)), (a5, .inl (cI, 5, .inl g7_1)), (a8, .inr (10, [.ref a9, .int i4, .int v8_1, .int v9_1, .int v10_1, .int v11_1, .int v12_1, .int v13_1])), (a9, .inl (cB, 1600, .inl xF7))] → va_S A s.heap H locs → lv_has ls 4 [(0, .ref a0), (1, .ref a8), (2, .int p1), (3, .int w3_1)] → W p l e ({ frames := 7, cells := 0, slots := 0, locals := 152 } : Room) s m ([.ref a0, .ref a8, .int p1] : List Value).toArray below meth c H locs 0 0 Q (F0 m 38 ls []) := by
        intro H locs ls  hP hD hS hl
        refine lv_aload_n hx hb dX5_readFrom_38 rfl (lv_at hl 0 rfl) ?_
        refine va_get (D := (dC, dI)) (ci := 5) (v := .int v2_1) (C := RX5) (T := TX5) (N := 11) hx hb hwd inlX5 hown hK hP 0 rfl rfl 5 (by decide) (hwd _ kr29_6) (fun _ h9 => h9) rfl dX5_readFrom_39 ?_
        refine lv_if_le (tgt := 50) hx hb dX5_readFrom_42 (by decide) (fun c128 => ?_) (fun c128 => ?_)
        · rw [ki_le] at c128
          have hP9 := hP.sub (ws' := [(a0, .inr (5, [.int v1_1, .ref a1, .ref a2, .ref a3, .ref a4, .int v2_1, .ref a5, .ref a6, .ref a7, .int i2, .int i3])), (a1, .inl (cI, 400, .inl g3_1)), (a2, .inl (cI, 400, .inl g4_1)), (a3, .inl (cI, 400, .inl g5_1)), (a4, .inl (cI, 400, .inl g6_1)), (a5, .inl (cI, 5, .inl g7_1)), (a8, .inr (10, [.ref a9, .int i4, .int v8_1, .int v9_1, .int v10_1, .int v11_1, .int v12_1, .int v13_1])), (a9, .inl (cB, 1600, .inl xF7))]) [0, 1, 2, 3, 4, 5, 6, 7] rfl
          have hD9 := hD.sub (ws' := [(a0, .inr (5, [.int v1_1, .ref a1, .ref a2, .ref a3, .ref a4, .int v2_1, .ref a5, .ref a6, .ref a7, .int i2, .int i3])), (a1, .inl (cI, 400, .inl g3_1)), (a2, .inl (cI, 400, .inl g4_1)), (a3, .inl (cI, 400, .inl g5_1)), (a4, .inl (cI, 400, .inl g6_1)), (a5, .inl (cI, 5, .inl g7_1)), (a8, .inr (10, [.ref a9, .int i4, .int v8_1, .int v9_1, .int v10_1, .int v11_1, .int v12_1, .int v13_1])), (a9, .inl (cB, 1600, .inl xF7))]) [0, 1, 2, 3, 4, 5, 6, 7] (by decide) rfl
          rw [hQ]
          exact W.vret hx hb hr (fun t ht hW => ⟨⟨(pickG 0 [v1_1, v2_1, v8_1, v9_1, v10_1, v11_1, v12_1, v13_1], pickG (fun _ => 0) [g3_1, g4_1, g5_1, g6_1, g7_1], pickG (fun _ => 0) []), rfl, ⟨(show (0 : Int) ≤ v1_1.toInt ∧ v1_1.toInt ≤ 400 from ⟨by omega, by omega⟩), (show (0 : Int) ≤ v2_1.toInt ∧ v2_1.toInt ≤ 5 from ⟨by omega, by omega⟩), (show rng g4_1 400 0 1000 from hr_g4_1), (show rng g6_1 400 (-1) 400 from hr_g6_1), (show rng g7_1 5 0 400 from hr_g7_1), (show (0 : Int) ≤ v11_1.toInt ∧ v11_1.toInt ≤ 1600 from ⟨by omega, by omega⟩), (show (0 : Int) ≤ v12_1.toInt ∧ v12_1.toInt ≤ 1600 from ⟨by omega, by omega⟩), trivial⟩, (by rw [ht]; exact hP9), hD9⟩, hS.F ht⟩) hS.2.2 dX5_readFrom_50
        · rw [ki_le] at c128
          refine lv_aload_n hx hb dX5_readFrom_45 rfl (lv_at hl 1 rfl) ?_
          refine lv_iconst (v := 1) hx hb dX5_readFrom_46 (by decide) ?_
          have hPc := hP.sub (ws' := [(a8, .inr (10, [.ref a9, .int i4, .int v8_1, .int v9_1, .int v10_1, .int v11_1, .int v12_1, .int v13_1]))]) [6] rfl
          have hDc := hD.sub (ws' := [(a8, .inr (10, [.ref a9, .int i4, .int v8_1, .int v9_1, .int v10_1, .int v11_1, .int v12_1, .int v13_1]))]) [6] (by decide) rfl
          have hFc := va_free (wc := [(a8, .inr (10, [.ref a9, .int i4, .int v8_1, .int v9_1, .int v10_1, .int v11_1, .int v12_1, .int v13_1]))]) hD hS hA [6] rfl
          refine va_callv (va_runV (As := [.int 1]) (rest := []) ⟨hx, hb, hml, hown, hwd⟩ (s_X10_blame l dC dI cI cZ cB cJ cM cG a8 a9 i4 v8_1 v9_1 v10_1 v11_1 v12_1 v13_1 1 H.size (show (0 : Int) ≤ i4.toInt ∧ i4.toInt ≤ 1600 from ⟨by omega, by omega⟩) (show (0 : Int) ≤ v11_1.toInt ∧ v11_1.toInt ≤ 1600 from ⟨by omega, by omega⟩) (show (0 : Int) ≤ v12_1.toInt ∧ v12_1.toInt ≤ 1600 from ⟨by omega, by omega⟩)) (cwV 1 hwd (gV kr30_6 kr15_12 kr15_13 kr1_15 kr15_14) rfl rfl rfl (by decide +kernel) ⟨Nat.le_of_ble_eq_true rfl, Nat.le_of_ble_eq_true rfl⟩) (kPreV hPc hK hDc (ci := 10) (q0 := 0) rfl rfl) rfl rfl hl.1 rfl (lv_room (Nat.le_of_ble_eq_true rfl)) dX5_readFrom_47 ⟨Nat.le_of_ble_eq_true rfl, Nat.le_of_ble_eq_true rfl⟩) hS (fun q _ h => hFc q h) hFc (fun u130 t H1 locs ht9 hvm hw hB hz1 hk1 hS => ?_)
          obtain ⟨u131, U131, V131⟩ := u130
          obtain ⟨hP1, hD1⟩ := hB
          rw [ht9] at hP1
          obtain ⟨hP, hD⟩ := va_join (wr := [(a0, .inr (5, [.int v1_1, .ref a1, .ref a2, .ref a3, .ref a4, .int v2_1, .ref a5, .ref a6, .ref a7, .int i2, .int i3])), (a1, .inl (cI, 400, .inl g3_1)), (a2, .inl (cI, 400, .inl g4_1)), (a3, .inl (cI, 400, .inl g5_1)), (a4, .inl (cI, 400, .inl g6_1)), (a5, .inl (cI, 5, .inl g7_1)), (a9, .inl (cB, 1600, .inl xF7))]) (w1 := [(a8, .inr (10, [.ref a9, .int i4, .int (u131 0), .int (u131 1), .int v10_1, .int v11_1, .int v12_1, .int v13_1]))]) hP hD [6] [0, 1, 2, 3, 4, 5, 7] rfl rfl (by decide) (by decide) hk1 hFc hP1 hD1
          generalize H1 = H at hP hS ⊢
          have hP : va_P (dC, dI) vwCl [(a0, .inr (5, [.int v1_1, .ref a1, .ref a2, .ref a3, .ref a4, .int v2_1, .ref a5, .ref a6, .ref a7, .int i2, .int i3])), (a1, .inl (cI, 400, .inl g3_1)), (a2, .inl (cI, 400, .inl g4_1)), (a3, .inl (cI, 400, .inl g5_1)), (a4, .inl (cI, 400, .inl g6_1)), (a5, .inl (cI, 5, .inl g7_1)), (a9, .inl (cB, 1600, .inl xF7)), (a8, .inr (10, [.ref a9, .int i4, .int (u131 0), .int (u131 1), .int v10_1, .int v11_1, .int v12_1, .int v13_1]))] H := hP
          have hD : va_D A [(a0, .inr (5, [.int v1_1, .ref a1, .ref a2, .ref a3, .ref a4, .int v2_1, .ref a5, .ref a6, .ref a7, .int i2, .int i3])), (a1, .inl (cI, 400, .inl g3_1)), (a2, .inl (cI, 400, .inl g4_1)), (a3, .inl (cI, 400, .inl g5_1)), (a4, .inl (cI, 400, .inl g6_1)), (a5, .inl (cI, 5, .inl g7_1)), (a9, .inl (cB, 1600, .inl xF7)), (a8, .inr (10, [.ref a9, .int i4, .int (u131 0), .int (u131 1), .int v10_1, .int v11_1, .int v12_1, .int v13_1]))] := hD
          have hP9 := hP.sub (ws' := [(a0, .inr (5, [.int v1_1, .ref a1, .ref a2, .ref a3, .ref a4, .int v2_1, .ref a5, .ref a6, .ref a7, .int i2, .int i3])), (a1, .inl (cI, 400, .inl g3_1)), (a2, .inl (cI, 400, .inl g4_1)), (a3, .inl (cI, 400, .inl g5_1)), (a4, .inl (cI, 400, .inl g6_1)), (a5, .inl (cI, 5, .inl g7_1)), (a8, .inr (10, [.ref a9, .int i4, .int (u131 0), .int (u131 1), .int v10_1, .int v11_1, .int v12_1, .int v13_1])), (a9, .inl (cB, 1600, .inl xF7))]) [0, 1, 2, 3, 4, 5, 7, 6] rfl
          have hD9 := hD.sub (ws' := [(a0, .inr (5, [.int v1_1, .ref a1, .ref a2, .ref a3, .ref a4, .int v2_1, .ref a5, .ref a6, .ref a7, .int i2, .int i3])), (a1, .inl (cI, 400, .inl g3_1)), (a2, .inl (cI, 400, .inl g4_1)), (a3, .inl (cI, 400, .inl g5_1)), (a4, .inl (cI, 400, .inl g6_1)), (a5, .inl (cI, 5, .inl g7_1)), (a8, .inr (10, [.ref a9, .int i4, .int (u131 0), .int (u131 1), .int v10_1, .int v11_1, .int v12_1, .int v13_1])), (a9, .inl (cB, 1600, .inl xF7))]) [0, 1, 2, 3, 4, 5, 7, 6] (by decide) rfl
          rw [hQ]
          exact W.vret hx hb hr (fun t ht hW => ⟨⟨(pickG 0 [v1_1, v2_1, (u131 0), (u131 1), v10_1, v11_1, v12_1, v13_1], pickG (fun _ => 0) [g3_1, g4_1, g5_1, g6_1, g7_1], pickG (fun _ => 0) []), rfl, ⟨(show (0 : Int) ≤ v1_1.toInt ∧ v1_1.toInt ≤ 400 from ⟨by omega, by omega⟩), (show (0 : Int) ≤ v2_1.toInt ∧ v2_1.toInt ≤ 5 from ⟨by omega, by omega⟩), (show rng g4_1 400 0 1000 from hr_g4_1), (show rng g6_1 400 (-1) 400 from hr_g6_1), (show rng g7_1 5 0 400 from hr_g7_1), (show (0 : Int) ≤ v11_1.toInt ∧ v11_1.toInt ≤ 1600 from ⟨by omega, by omega⟩), (show (0 : Int) ≤ v12_1.toInt ∧ v12_1.toInt ≤ 1600 from ⟨by omega, by omega⟩), trivial⟩, (by rw [ht]; exact hP9), hD9⟩, hS.F ht⟩) hS.2.2 dX5_readFrom_50
      refine lv_icmp_ge (tgt := 38) hx hb dX5_readFrom_16 (by decide) (fun c132 => ?_) (fun c132 => ?_)
      · rw [ki_le] at c132
        exact jp9 _ _ ls  (hP.sub (ws' := [(a0, .inr (5, [.int v1_1, .ref a1, .ref a2, .ref a3, .ref a4, .int v2_1, .ref a5, .ref a6, .ref a7, .int i2, .int i3])), (a1, .inl (cI, 400, .inl g3_1)), (a2, .inl (cI, 400, .inl g4_1)), (a3, .inl (cI, 400, .inl g5_1)), (a4, .inl (cI, 400, .inl g6_1)), (a5, .inl (cI, 5, .inl g7_1)), (a8, .inr (10, [.ref a9, .int i4, .int v8_1, .int v9_1, .int v10_1, .int v11_1, .int v12_1, .int v13_1])), (a9, .inl (cB, 1600, .inl xF7))]) [0, 1, 2, 3, 4, 5, 6, 7] rfl) (hD.sub (ws' := [(a0, .inr (5, [.int v1_1, .ref a1, .ref a2, .ref a3, .ref a4, .int v2_1, .ref a5, .ref a6, .ref a7, .int i2, .int i3])), (a1, .inl (cI, 400, .inl g3_1)), (a2, .inl (cI, 400, .inl g4_1)), (a3, .inl (cI, 400, .inl g5_1)), (a4, .inl (cI, 400, .inl g6_1)), (a5, .inl (cI, 5, .inl g7_1)), (a8, .inr (10, [.ref a9, .int i4, .int v8_1, .int v9_1, .int v10_1, .int v11_1, .int v12_1, .int v13_1])), (a9, .inl (cB, 1600, .inl xF7))]) [0, 1, 2, 3, 4, 5, 6, 7] (by decide) rfl) hS (lv_sub hl [0, 1, 2, 3] rfl)
      · rw [ki_le] at c132
        refine lv_aload_n hx hb dX5_readFrom_19 rfl (lv_at hl 1 rfl) ?_
        have hPc := hP.sub (ws' := [(a8, .inr (10, [.ref a9, .int i4, .int v8_1, .int v9_1, .int v10_1, .int v11_1, .int v12_1, .int v13_1]))]) [6] rfl
        have hDc := hD.sub (ws' := [(a8, .inr (10, [.ref a9, .int i4, .int v8_1, .int v9_1, .int v10_1, .int v11_1, .int v12_1, .int v13_1]))]) [6] (by decide) rfl
        have hFc := va_free (wc := [(a8, .inr (10, [.ref a9, .int i4, .int v8_1, .int v9_1, .int v10_1, .int v11_1, .int v12_1, .int v13_1]))]) hD hS hA [6] rfl
        refine va_calli (va_runV (As := []) (rest := []) ⟨hx, hb, hml, hown, hwd⟩ (s_X10_goesOn l dC dI cI cZ cB cJ cM cG a8 a9 i4 v8_1 v9_1 v10_1 v11_1 v12_1 v13_1 H.size (show (0 : Int) ≤ i4.toInt ∧ i4.toInt ≤ 1600 from ⟨by omega, by omega⟩) (show (0 : Int) ≤ v11_1.toInt ∧ v11_1.toInt ≤ 1600 from ⟨by omega, by omega⟩) (show (0 : Int) ≤ v12_1.toInt ∧ v12_1.toInt ≤ 1600 from ⟨by omega, by omega⟩)) (cwV 0 hwd (gV kr29_7 kr12_15 kr12_16 kr1_15 kr12_17) rfl rfl rfl (by decide +kernel) ⟨Nat.le_of_ble_eq_true rfl, Nat.le_of_ble_eq_true rfl⟩) (kPreV hPc hK hDc (ci := 10) (q0 := 0) rfl rfl) rfl rfl hl.1 rfl (lv_room (Nat.le_of_ble_eq_true rfl)) dX5_readFrom_20 ⟨Nat.le_of_ble_eq_true rfl, Nat.le_of_ble_eq_true rfl⟩) hS (fun q _ h => hFc q h) hFc (fun r133 u134 t H1 locs ht9 hvm hw hB hz1 hk1 hS => ?_)
        obtain ⟨hw135, -⟩ := hw
        have hw135 : (0 : Int) ≤ r133.toInt ∧ r133.toInt ≤ 1 := hw135
        obtain ⟨hP1, hD1⟩ := hB
        rw [ht9] at hP1
        obtain ⟨hP, hD⟩ := va_join (wr := [(a0, .inr (5, [.int v1_1, .ref a1, .ref a2, .ref a3, .ref a4, .int v2_1, .ref a5, .ref a6, .ref a7, .int i2, .int i3])), (a1, .inl (cI, 400, .inl g3_1)), (a2, .inl (cI, 400, .inl g4_1)), (a3, .inl (cI, 400, .inl g5_1)), (a4, .inl (cI, 400, .inl g6_1)), (a5, .inl (cI, 5, .inl g7_1)), (a9, .inl (cB, 1600, .inl xF7))]) (w1 := [(a8, .inr (10, [.ref a9, .int i4, .int v8_1, .int v9_1, .int v10_1, .int v11_1, .int v12_1, .int v13_1]))]) hP hD [6] [0, 1, 2, 3, 4, 5, 7] rfl rfl (by decide) (by decide) hk1 hFc hP1 hD1
        generalize H1 = H at hP hS ⊢
        have hP : va_P (dC, dI) vwCl [(a0, .inr (5, [.int v1_1, .ref a1, .ref a2, .ref a3, .ref a4, .int v2_1, .ref a5, .ref a6, .ref a7, .int i2, .int i3])), (a1, .inl (cI, 400, .inl g3_1)), (a2, .inl (cI, 400, .inl g4_1)), (a3, .inl (cI, 400, .inl g5_1)), (a4, .inl (cI, 400, .inl g6_1)), (a5, .inl (cI, 5, .inl g7_1)), (a9, .inl (cB, 1600, .inl xF7)), (a8, .inr (10, [.ref a9, .int i4, .int v8_1, .int v9_1, .int v10_1, .int v11_1, .int v12_1, .int v13_1]))] H := hP
        have hD : va_D A [(a0, .inr (5, [.int v1_1, .ref a1, .ref a2, .ref a3, .ref a4, .int v2_1, .ref a5, .ref a6, .ref a7, .int i2, .int i3])), (a1, .inl (cI, 400, .inl g3_1)), (a2, .inl (cI, 400, .inl g4_1)), (a3, .inl (cI, 400, .inl g5_1)), (a4, .inl (cI, 400, .inl g6_1)), (a5, .inl (cI, 5, .inl g7_1)), (a9, .inl (cB, 1600, .inl xF7)), (a8, .inr (10, [.ref a9, .int i4, .int v8_1, .int v9_1, .int v10_1, .int v11_1, .int v12_1, .int v13_1]))] := hD
        refine lv_if_eq (tgt := 38) hx hb dX5_readFrom_23 (by decide) (fun c136 => ?_) (fun c136 => ?_)
        · rw [ki_eq] at c136
          exact jp9 _ _ ls  (hP.sub (ws' := [(a0, .inr (5, [.int v1_1, .ref a1, .ref a2, .ref a3, .ref a4, .int v2_1, .ref a5, .ref a6, .ref a7, .int i2, .int i3])), (a1, .inl (cI, 400, .inl g3_1)), (a2, .inl (cI, 400, .inl g4_1)), (a3, .inl (cI, 400, .inl g5_1)), (a4, .inl (cI, 400, .inl g6_1)), (a5, .inl (cI, 5, .inl g7_1)), (a8, .inr (10, [.ref a9, .int i4, .int v8_1, .int v9_1, .int v10_1, .int v11_1, .int v12_1, .int v13_1])), (a9, .inl (cB, 1600, .inl xF7))]) [0, 1, 2, 3, 4, 5, 7, 6] rfl) (hD.sub (ws' := [(a0, .inr (5, [.int v1_1, .ref a1, .ref a2, .ref a3, .ref a4, .int v2_1, .ref a5, .ref a6, .ref a7, .int i2, .int i3])), (a1, .inl (cI, 400, .inl g3_1)), (a2, .inl (cI, 400, .inl g4_1)), (a3, .inl (cI, 400, .inl g5_1)), (a4, .inl (cI, 400, .inl g6_1)), (a5, .inl (cI, 5, .inl g7_1)), (a8, .inr (10, [.ref a9, .int i4, .int v8_1, .int v9_1, .int v10_1, .int v11_1, .int v12_1, .int v13_1])), (a9, .inl (cB, 1600, .inl xF7))]) [0, 1, 2, 3, 4, 5, 7, 6] (by decide) rfl) hS (lv_sub hl [0, 1, 2, 3] rfl)
        · rw [ki_eq] at c136
          refine lv_aload_n hx hb dX5_readFrom_26 rfl (lv_at hl 0 rfl) ?_
          refine lv_aload_n hx hb dX5_readFrom_27 rfl (lv_at hl 1 rfl) ?_
          refine lv_iload_n hx hb dX5_readFrom_28 rfl (lv_at hl 2 rfl) ?_
          have hPc := hP.sub (ws' := [(a0, .inr (5, [.int v1_1, .ref a1, .ref a2, .ref a3, .ref a4, .int v2_1, .ref a5, .ref a6, .ref a7, .int i2, .int i3])), (a1, .inl (cI, 400, .inl g3_1)), (a2, .inl (cI, 400, .inl g4_1)), (a3, .inl (cI, 400, .inl g5_1)), (a4, .inl (cI, 400, .inl g6_1)), (a5, .inl (cI, 5, .inl g7_1)), (a8, .inr (10, [.ref a9, .int i4, .int v8_1, .int v9_1, .int v10_1, .int v11_1, .int v12_1, .int v13_1])), (a9, .inl (cB, 1600, .inl xF7))]) [0, 1, 2, 3, 4, 5, 7, 6] rfl
          have hDc := hD.sub (ws' := [(a0, .inr (5, [.int v1_1, .ref a1, .ref a2, .ref a3, .ref a4, .int v2_1, .ref a5, .ref a6, .ref a7, .int i2, .int i3])), (a1, .inl (cI, 400, .inl g3_1)), (a2, .inl (cI, 400, .inl g4_1)), (a3, .inl (cI, 400, .inl g5_1)), (a4, .inl (cI, 400, .inl g6_1)), (a5, .inl (cI, 5, .inl g7_1)), (a8, .inr (10, [.ref a9, .int i4, .int v8_1, .int v9_1, .int v10_1, .int v11_1, .int v12_1, .int v13_1])), (a9, .inl (cB, 1600, .inl xF7))]) [0, 1, 2, 3, 4, 5, 7, 6] (by decide) rfl
          have hFc := va_free (wc := [(a0, .inr (5, [.int v1_1, .ref a1, .ref a2, .ref a3, .ref a4, .int v2_1, .ref a5, .ref a6, .ref a7, .int i2, .int i3])), (a1, .inl (cI, 400, .inl g3_1)), (a2, .inl (cI, 400, .inl g4_1)), (a3, .inl (cI, 400, .inl g5_1)), (a4, .inl (cI, 400, .inl g6_1)), (a5, .inl (cI, 5, .inl g7_1)), (a8, .inr (10, [.ref a9, .int i4, .int v8_1, .int v9_1, .int v10_1, .int v11_1, .int v12_1, .int v13_1])), (a9, .inl (cB, 1600, .inl xF7))]) hD hS hA [0, 1, 2, 3, 4, 5, 7, 6] rfl
          refine va_callv (va_runV (As := [.ref a8, .int p1]) (rest := []) ⟨hx, hb, hml, hown, hwd⟩ (s_X5_readAct l dC dI cI cZ cB cJ cM cG a0 a1 a2 a3 a4 a5 a6 a7 a8 a9 v1_1 v2_1 i2 i3 i4 v8_1 v9_1 v10_1 v11_1 v12_1 v13_1 g3_1 g4_1 g5_1 g6_1 g7_1 xF7 p1 H.size (show (0 : Int) ≤ v1_1.toInt ∧ v1_1.toInt ≤ 400 from ⟨by omega, by omega⟩) (show (0 : Int) ≤ v2_1.toInt ∧ v2_1.toInt ≤ 5 from ⟨by omega, by omega⟩) (show (0 : Int) ≤ i2.toInt ∧ i2.toInt ≤ 59 from ⟨by omega, by omega⟩) (show rng g4_1 400 0 1000 from hr_g4_1) (show rng g6_1 400 (-1) 400 from hr_g6_1) (show rng g7_1 5 0 400 from hr_g7_1) (show (0 : Int) ≤ i4.toInt ∧ i4.toInt ≤ 1600 from ⟨by omega, by omega⟩) (show (0 : Int) ≤ v11_1.toInt ∧ v11_1.toInt ≤ 1600 from ⟨by omega, by omega⟩) (show (0 : Int) ≤ v12_1.toInt ∧ v12_1.toInt ≤ 1600 from ⟨by omega, by omega⟩) (show (0 : Int) ≤ p1.toInt ∧ p1.toInt ≤ 10 from ⟨by omega, by omega⟩)) (cwV 2 hwd (gV kr29_8 kr29_9 kr29_10 kr1_19 kr29_11) rfl rfl rfl (by decide +kernel) ⟨Nat.le_of_ble_eq_true rfl, Nat.le_of_ble_eq_true rfl⟩) (kPreVX hPc hK hDc NT_st hN hS hFc (ci := 5) (q0 := 0) rfl rfl) rfl rfl hl.1 rfl (lv_room (Nat.le_of_ble_eq_true rfl)) dX5_readFrom_29 ⟨Nat.le_of_ble_eq_true rfl, Nat.le_of_ble_eq_true rfl⟩) hS (fun q _ h => hFc q h) hFc (fun u138 t H1 locs ht9 hvm hw hB hz1 hk1 hS => ?_)
          obtain ⟨u139, U139, V139⟩ := u138
          obtain ⟨hw140, hw141, hw142, hw143, hw144, hw145, hw146, -⟩ := hw
          have hw140 : (0 : Int) ≤ (u139 0).toInt ∧ (u139 0).toInt ≤ 400 := hw140
          have hw141 : (0 : Int) ≤ (u139 1).toInt ∧ (u139 1).toInt ≤ 5 := hw141
          have hw142 : rng (U139 1) 400 0 1000 := hw142
          have hw143 : rng (U139 3) 400 (-1) 400 := hw143
          have hw144 : rng (U139 4) 5 0 400 := hw144
          have hw145 : (0 : Int) ≤ (u139 5).toInt ∧ (u139 5).toInt ≤ 1600 := hw145
          have hw146 : (0 : Int) ≤ (u139 6).toInt ∧ (u139 6).toInt ≤ 1600 := hw146
          obtain ⟨hP1, hD1⟩ := hB
          rw [ht9] at hP1
          obtain ⟨hP, hD⟩ := va_join (wr := []) (w1 := [(a0, .inr (5, [.int (u139 0), .ref a1, .ref a2, .ref a3, .ref a4, .int (u139 1), .ref a5, .ref a6, .ref a7, .int i2, .int i3])), (a1, .inl (cI, 400, .inl (U139 0))), (a2, .inl (cI, 400, .inl (U139 1))), (a3, .inl (cI, 400, .inl (U139 2))), (a4, .inl (cI, 400, .inl (U139 3))), (a5, .inl (cI, 5, .inl (U139 4))), (a8, .inr (10, [.ref a9, .int i4, .int (u139 2), .int (u139 3), .int (u139 4), .int (u139 5), .int (u139 6), .int (u139 7)])), (a9, .inl (cB, 1600, .inl xF7))]) hP hD [0, 1, 2, 3, 4, 5, 7, 6] [] rfl rfl (by decide) (by decide) hk1 hFc hP1 hD1
          generalize H1 = H at hP hS ⊢
          have hP : va_P (dC, dI) vwCl [(a0, .inr (5, [.int (u139 0), .ref a1, .ref a2, .ref a3, .ref a4, .int (u139 1), .ref a5, .ref a6, .ref a7, .int i2, .int i3])), (a1, .inl (cI, 400, .inl (U139 0))), (a2, .inl (cI, 400, .inl (U139 1))), (a3, .inl (cI, 400, .inl (U139 2))), (a4, .inl (cI, 400, .inl (U139 3))), (a5, .inl (cI, 5, .inl (U139 4))), (a8, .inr (10, [.ref a9, .int i4, .int (u139 2), .int (u139 3), .int (u139 4), .int (u139 5), .int (u139 6), .int (u139 7)])), (a9, .inl (cB, 1600, .inl xF7))] H := hP
          have hD : va_D A [(a0, .inr (5, [.int (u139 0), .ref a1, .ref a2, .ref a3, .ref a4, .int (u139 1), .ref a5, .ref a6, .ref a7, .int i2, .int i3])), (a1, .inl (cI, 400, .inl (U139 0))), (a2, .inl (cI, 400, .inl (U139 1))), (a3, .inl (cI, 400, .inl (U139 2))), (a4, .inl (cI, 400, .inl (U139 3))), (a5, .inl (cI, 5, .inl (U139 4))), (a8, .inr (10, [.ref a9, .int i4, .int (u139 2), .int (u139 3), .int (u139 4), .int (u139 5), .int (u139 6), .int (u139 7)])), (a9, .inl (cB, 1600, .inl xF7))] := hD
          obtain ⟨x147, ex147⟩ : ∃ y : Int32, y = w3_1 + 1 := ⟨_, rfl⟩
          refine lv_iinc (v := x147) (lv' := [(3, .int x147), (0, .ref a0), (1, .ref a8), (2, .int p1)]) hx hb dX5_readFrom_32 hl (k := 3) rfl (by rw [ex147]; rfl) (by decide) rfl (fun ls hl => ?_)
          have tx147 := ia_add (a := w3_1) (b := (1 : Int32)) (by omega) (by omega)
          rw [← ex147] at tx147
          refine lv_goto (tgt := 12) hx hb dX5_readFrom_35 (by decide) ?_
          exact ih1 _ _ ls x147 (u139 0) (u139 1) (U139 0) (U139 1) (U139 2) (U139 3) (U139 4) (u139 2) (u139 3) (u139 4) (u139 5) (u139 6) (u139 7) (show (0 : Int) ≤ x147.toInt ∧ x147.toInt ≤ 1600 from ⟨by omega, by omega⟩) (show (0 : Int) ≤ (u139 0).toInt ∧ (u139 0).toInt ≤ 400 from ⟨by omega, by omega⟩) (show (0 : Int) ≤ (u139 1).toInt ∧ (u139 1).toInt ≤ 5 from ⟨by omega, by omega⟩) (show rng (U139 1) 400 0 1000 from hw142) (show rng (U139 3) 400 (-1) 400 from hw143) (show rng (U139 4) 5 0 400 from hw144) (show (0 : Int) ≤ (u139 5).toInt ∧ (u139 5).toInt ≤ 1600 from ⟨by omega, by omega⟩) (show (0 : Int) ≤ (u139 6).toInt ∧ (u139 6).toInt ≤ 1600 from ⟨by omega, by omega⟩) (by omega) (hP.sub (ws' := [(a0, .inr (5, [.int (u139 0), .ref a1, .ref a2, .ref a3, .ref a4, .int (u139 1), .ref a5, .ref a6, .ref a7, .int i2, .int i3])), (a1, .inl (cI, 400, .inl (U139 0))), (a2, .inl (cI, 400, .inl (U139 1))), (a3, .inl (cI, 400, .inl (U139 2))), (a4, .inl (cI, 400, .inl (U139 3))), (a5, .inl (cI, 5, .inl (U139 4))), (a8, .inr (10, [.ref a9, .int i4, .int (u139 2), .int (u139 3), .int (u139 4), .int (u139 5), .int (u139 6), .int (u139 7)])), (a9, .inl (cB, 1600, .inl xF7))]) [0, 1, 2, 3, 4, 5, 6, 7] rfl) (hD.sub (ws' := [(a0, .inr (5, [.int (u139 0), .ref a1, .ref a2, .ref a3, .ref a4, .int (u139 1), .ref a5, .ref a6, .ref a7, .int i2, .int i3])), (a1, .inl (cI, 400, .inl (U139 0))), (a2, .inl (cI, 400, .inl (U139 1))), (a3, .inl (cI, 400, .inl (U139 2))), (a4, .inl (cI, 400, .inl (U139 3))), (a5, .inl (cI, 5, .inl (U139 4))), (a8, .inr (10, [.ref a9, .int i4, .int (u139 2), .int (u139 3), .int (u139 4), .int (u139 5), .int (u139 6), .int (u139 7)])), (a9, .inl (cB, 1600, .inl xF7))]) [0, 1, 2, 3, 4, 5, 6, 7] (by decide) rfl) hS (lv_sub hl [1, 2, 3, 0] rfl)
  exact lp1 _ _ _ ls (0) (0) (0) xF0 xF1 xF2 xF3 xF4 i5 i6 i7 i8 i9 i10 (show (0 : Int) ≤ (0 : Int32).toInt ∧ (0 : Int32).toInt ≤ 1600 from ⟨by omega, by omega⟩) (show (0 : Int) ≤ (0 : Int32).toInt ∧ (0 : Int32).toInt ≤ 400 from ⟨by omega, by omega⟩) (show (0 : Int) ≤ (0 : Int32).toInt ∧ (0 : Int32).toInt ≤ 5 from ⟨by omega, by omega⟩) (show rng xF1 400 0 1000 from p_3) (show rng xF3 400 (-1) 400 from p_4) (show rng xF4 5 0 400 from p_5) (show (0 : Int) ≤ i8.toInt ∧ i8.toInt ≤ 1600 from ⟨by omega, by omega⟩) (show (0 : Int) ≤ i9.toInt ∧ i9.toInt ≤ 1600 from ⟨by omega, by omega⟩) (Nat.lt_succ_self _) (hP.sub (ws' := [(a0, .inr (5, [.int 0, .ref a1, .ref a2, .ref a3, .ref a4, .int 0, .ref a5, .ref a6, .ref a7, .int i2, .int i3])), (a1, .inl (cI, 400, .inl xF0)), (a2, .inl (cI, 400, .inl xF1)), (a3, .inl (cI, 400, .inl xF2)), (a4, .inl (cI, 400, .inl xF3)), (a5, .inl (cI, 5, .inl xF4)), (a8, .inr (10, [.ref a9, .int i4, .int i5, .int i6, .int i7, .int i8, .int i9, .int i10])), (a9, .inl (cB, 1600, .inl xF7))]) [0, 1, 2, 3, 4, 5, 6, 7] rfl) (hD.sub (ws' := [(a0, .inr (5, [.int 0, .ref a1, .ref a2, .ref a3, .ref a4, .int 0, .ref a5, .ref a6, .ref a7, .int i2, .int i3])), (a1, .inl (cI, 400, .inl xF0)), (a2, .inl (cI, 400, .inl xF1)), (a3, .inl (cI, 400, .inl xF2)), (a4, .inl (cI, 400, .inl xF3)), (a5, .inl (cI, 5, .inl xF4)), (a8, .inr (10, [.ref a9, .int i4, .int i5, .int i6, .int i7, .int i8, .int i9, .int i10])), (a9, .inl (cB, 1600, .inl xF7))]) [0, 1, 2, 3, 4, 5, 6, 7] (by decide) rfl) hS (lv_sub hl [1, 2, 3, 0] rfl)
theorem dX8_holds_0 : decode cX8_holds 0 = .ok (.iload_n 2, 1) := by decide +kernel
theorem dX8_holds_1 : decode cX8_holds 1 = .ok (.ifCond .lt 27, 3) := by decide +kernel
theorem dX8_holds_4 : decode cX8_holds 4 = .ok (.iload_n 3, 1) := by decide +kernel
theorem dX8_holds_5 : decode cX8_holds 5 = .ok (.ifCond .lt 23, 3) := by decide +kernel
theorem dX8_holds_8 : decode cX8_holds 8 = .ok (.iload_n 2, 1) := by decide +kernel
theorem dX8_holds_9 : decode cX8_holds 9 = .ok (.i2l, 1) := by decide +kernel
theorem dX8_holds_10 : decode cX8_holds 10 = .ok (.iload_n 3, 1) := by decide +kernel
theorem dX8_holds_11 : decode cX8_holds 11 = .ok (.i2l, 1) := by decide +kernel
theorem dX8_holds_12 : decode cX8_holds 12 = .ok (.ladd, 1) := by decide +kernel
theorem dX8_holds_13 : decode cX8_holds 13 = .ok (.aload_n 0, 1) := by decide +kernel
theorem dX8_holds_14 : decode cX8_holds 14 = .ok (.getfield 15, 3) := by decide +kernel
theorem dX8_holds_17 : decode cX8_holds 17 = .ok (.iload_n 1, 1) := by decide +kernel
theorem dX8_holds_18 : decode cX8_holds 18 = .ok (.iaload, 1) := by decide +kernel
theorem dX8_holds_19 : decode cX8_holds 19 = .ok (.i2l, 1) := by decide +kernel
theorem dX8_holds_20 : decode cX8_holds 20 = .ok (.lcmp, 1) := by decide +kernel
theorem dX8_holds_21 : decode cX8_holds 21 = .ok (.ifCond .gt 7, 3) := by decide +kernel
theorem dX8_holds_24 : decode cX8_holds 24 = .ok (.iconst 1, 1) := by decide +kernel
theorem dX8_holds_25 : decode cX8_holds 25 = .ok (.goto 4, 3) := by decide +kernel
theorem dX8_holds_28 : decode cX8_holds 28 = .ok (.iconst 0, 1) := by decide +kernel
theorem dX8_holds_29 : decode cX8_holds 29 = .ok (.ireturn, 1) := by decide +kernel
set_option maxHeartbeats 4000000 in
set_option maxRecDepth 100000 in
theorem s_X8_holds (l : Launch) (dC : Nat → ClassId) (dI : Nat → Nat → Nat) (cI cZ cB cJ cM cG : ClassId) (a0 a1 a2 a3 a4 : Nat) (xF1 : Nat → Int32) (p0 p1 p2 : Int32) (sz : Nat) (p_0 : rng xF1 4 0 60) (p_1 : (0 : Int) ≤ p0.toInt ∧ p0.toInt ≤ 3) : Met l yX8_holds (kw yX8_holds cX8_holds 4 (some .boolean)) ({ frames := 0, cells := 0, slots := 0, locals := 0 } : Room) (va_Pc [.ref a0, .int p0, .int p1, .int p2] (kPre dC dI [(cI, .int), (cZ, .boolean), (cB, .byte), (cJ, .long), (cM, .object RX2), (cG, .array .int)] [(a0, .inr (8, [.ref a1, .ref a2, .ref a3, .ref a4])), (a2, .inl (cI, 4, .inl xF1))] sz)) (va_Qi (fun (r : Int32) (u9 : Unit) => ((0 : Int) ≤ r.toInt ∧ r.toInt ≤ 1) ∧ ((r.toInt ≠ 0 → p1.toInt ≥ 0 ∧ p2.toInt ≥ 0 ∧ p1.toInt ≤ 60 ∧ p2.toInt ≤ 60 ∧ p1.toInt + p2.toInt ≤ 60)) ∧ True) (fun u9 t => va_P (dC, dI) vwCl [(a0, .inr (8, [.ref a1, .ref a2, .ref a3, .ref a4])), (a2, .inl (cI, 4, .inl xF1))] t.heap ∧ va_D (va_A [(a0, .inr (8, [.ref a1, .ref a2, .ref a3, .ref a4])), (a2, .inl (cI, 4, .inl xF1))] sz) [(a0, .inr (8, [.ref a1, .ref a2, .ref a3, .ref a4])), (a2, .inl (cI, 4, .inl xF1))]) (va_A [(a0, .inr (8, [.ref a1, .ref a2, .ref a3, .ref a4])), (a2, .inl (cI, 4, .inl xF1))] sz)) 0 0 (va_A [(a0, .inr (8, [.ref a1, .ref a2, .ref a3, .ref a4])), (a2, .inl (cI, 4, .inl xF1))] sz) := by
  refine kEnter (by decide) (Nat.le_of_ble_eq_true rfl) ?_
  intro p e s m below meth c ls hx hb hr hml hown hlocks hin hwd hsz hP hK hD hl
  subst hsz
  generalize hAe : va_A [(a0, .inr (8, [.ref a1, .ref a2, .ref a3, .ref a4])), (a2, .inl (cI, 4, .inl xF1))] s.heap.size = A at hD ⊢
  have hA : ∀ q : Nat, s.heap.size ≤ q → A q := fun q h => by rw [← hAe]; exact Or.inr h
  have hS : va_S A s.heap s.heap [] := va_S.rf
  have hl : lv_has ls 4 [(0, .ref a0), (1, .int p0), (2, .int p1), (3, .int p2)] := hl
  obtain ⟨Q, hQ⟩ : ∃ Q, Q = MQ below (va_Qi (fun (r : Int32) (u9 : Unit) => ((0 : Int) ≤ r.toInt ∧ r.toInt ≤ 1) ∧ ((r.toInt ≠ 0 → p1.toInt ≥ 0 ∧ p2.toInt ≥ 0 ∧ p1.toInt ≤ 60 ∧ p2.toInt ≤ 60 ∧ p1.toInt + p2.toInt ≤ 60)) ∧ True) (fun u9 t => va_P (dC, dI) vwCl [(a0, .inr (8, [.ref a1, .ref a2, .ref a3, .ref a4])), (a2, .inl (cI, 4, .inl xF1))] t.heap ∧ va_D A [(a0, .inr (8, [.ref a1, .ref a2, .ref a3, .ref a4])), (a2, .inl (cI, 4, .inl xF1))]) A) ([.ref a0, .int p0, .int p1, .int p2] : List Value).toArray s 0 0 A := ⟨_, rfl⟩
  rw [← hQ]
  have k0 : (0 : Int32).toInt = 0 := by decide
  have k1 : (1 : Int32).toInt = 1 := by decide
  refine lv_iload_n hx hb dX8_holds_0 rfl (lv_at hl 2 rfl) ?_
  refine lv_if_lt (tgt := 28) hx hb dX8_holds_1 (by decide) (fun c1 => ?_) (fun c1 => ?_)
  · rw [ki_lt] at c1
    refine lv_iconst (v := 0) hx hb dX8_holds_28 (by decide) ?_
    have hP9 := hP.sub (ws' := [(a0, .inr (8, [.ref a1, .ref a2, .ref a3, .ref a4])), (a2, .inl (cI, 4, .inl xF1))]) [0, 1] rfl
    have hD9 := hD.sub (ws' := [(a0, .inr (8, [.ref a1, .ref a2, .ref a3, .ref a4])), (a2, .inl (cI, 4, .inl xF1))]) [0, 1] (by decide) rfl
    rw [hQ]
    exact W.zret (v := 0) hx hb hr (by decide) (fun t ht hW => ⟨⟨0, (), rfl, ⟨(show (0 : Int) ≤ (0 : Int32).toInt ∧ (0 : Int32).toInt ≤ 1 from ⟨by omega, by omega⟩), (show ((0 : Int32).toInt ≠ 0 → p1.toInt ≥ 0 ∧ p2.toInt ≥ 0 ∧ p1.toInt ≤ 60 ∧ p2.toInt ≤ 60 ∧ p1.toInt + p2.toInt ≤ 60) from by omega), trivial⟩, (by rw [ht]; exact hP9), hD9⟩, hS.F ht⟩) hS.2.2 dX8_holds_29
  · rw [ki_lt] at c1
    refine lv_iload_n hx hb dX8_holds_4 rfl (lv_at hl 3 rfl) ?_
    refine lv_if_lt (tgt := 28) hx hb dX8_holds_5 (by decide) (fun c2 => ?_) (fun c2 => ?_)
    · rw [ki_lt] at c2
      refine lv_iconst (v := 0) hx hb dX8_holds_28 (by decide) ?_
      have hP9 := hP.sub (ws' := [(a0, .inr (8, [.ref a1, .ref a2, .ref a3, .ref a4])), (a2, .inl (cI, 4, .inl xF1))]) [0, 1] rfl
      have hD9 := hD.sub (ws' := [(a0, .inr (8, [.ref a1, .ref a2, .ref a3, .ref a4])), (a2, .inl (cI, 4, .inl xF1))]) [0, 1] (by decide) rfl
      rw [hQ]
      exact W.zret (v := 0) hx hb hr (by decide) (fun t ht hW => ⟨⟨0, (), rfl, ⟨(show (0 : Int) ≤ (0 : Int32).toInt ∧ (0 : Int32).toInt ≤ 1 from ⟨by omega, by omega⟩), (show ((0 : Int32).toInt ≠ 0 → p1.toInt ≥ 0 ∧ p2.toInt ≥ 0 ∧ p1.toInt ≤ 60 ∧ p2.toInt ≤ 60 ∧ p1.toInt + p2.toInt ≤ 60) from by omega), trivial⟩, (by rw [ht]; exact hP9), hD9⟩, hS.F ht⟩) hS.2.2 dX8_holds_29
    · rw [ki_lt] at c2
      refine lv_iload_n hx hb dX8_holds_8 rfl (lv_at hl 2 rfl) ?_
      refine lv_i2l hx hb dX8_holds_9 rfl ?_
      refine lv_iload_n hx hb dX8_holds_10 rfl (lv_at hl 3 rfl) ?_
      refine lv_i2l hx hb dX8_holds_11 rfl ?_
      refine lv_ladd hx hb dX8_holds_12 ?_
      refine lv_topl (fun x3 ex3 => ?_)
      refine lv_aload_n hx hb dX8_holds_13 rfl (lv_at hl 0 rfl) ?_
      refine va_get (D := (dC, dI)) (ci := 8) (v := .ref a2) (C := RX8) (T := TX8) (N := 4) hx hb hwd inlX8 hown hK hP 0 rfl rfl 1 (by decide) (hwd _ kr4_8) (fun _ h9 => h9) rfl dX8_holds_14 ?_
      refine lv_iload_n hx hb dX8_holds_17 rfl (lv_at hl 1 rfl) ?_
      have h4 : vp_in p0 4 := (vp_of (by omega) (by omega))
      refine va_iald hx hb hK hP 1 0 rfl rfl h4 dX8_holds_18 ?_
      refine lv_topi (fun x5 ex5 => ?_)
      have tx5 : (0 : Int) ≤ x5.toInt ∧ x5.toInt ≤ 60 := by rw [ex5]; exact p_0 _ (vp_nat h4)
      refine lv_i2l hx hb dX8_holds_19 rfl ?_
      refine W.lcmp hx hb dX8_holds_20 ?_
      refine lv_if_gt (tgt := 28) hx hb dX8_holds_21 (by decide) (fun c6 => ?_) (fun c6 => ?_)
      · rw [hl_gt ex3] at c6
        refine lv_iconst (v := 0) hx hb dX8_holds_28 (by decide) ?_
        have hP9 := hP.sub (ws' := [(a0, .inr (8, [.ref a1, .ref a2, .ref a3, .ref a4])), (a2, .inl (cI, 4, .inl xF1))]) [0, 1] rfl
        have hD9 := hD.sub (ws' := [(a0, .inr (8, [.ref a1, .ref a2, .ref a3, .ref a4])), (a2, .inl (cI, 4, .inl xF1))]) [0, 1] (by decide) rfl
        rw [hQ]
        exact W.zret (v := 0) hx hb hr (by decide) (fun t ht hW => ⟨⟨0, (), rfl, ⟨(show (0 : Int) ≤ (0 : Int32).toInt ∧ (0 : Int32).toInt ≤ 1 from ⟨by omega, by omega⟩), (show ((0 : Int32).toInt ≠ 0 → p1.toInt ≥ 0 ∧ p2.toInt ≥ 0 ∧ p1.toInt ≤ 60 ∧ p2.toInt ≤ 60 ∧ p1.toInt + p2.toInt ≤ 60) from by omega), trivial⟩, (by rw [ht]; exact hP9), hD9⟩, hS.F ht⟩) hS.2.2 dX8_holds_29
      · rw [hl_gt ex3] at c6
        refine lv_iconst (v := 1) hx hb dX8_holds_24 (by decide) ?_
        refine lv_goto (tgt := 29) hx hb dX8_holds_25 (by decide) ?_
        have hP9 := hP.sub (ws' := [(a0, .inr (8, [.ref a1, .ref a2, .ref a3, .ref a4])), (a2, .inl (cI, 4, .inl xF1))]) [0, 1] rfl
        have hD9 := hD.sub (ws' := [(a0, .inr (8, [.ref a1, .ref a2, .ref a3, .ref a4])), (a2, .inl (cI, 4, .inl xF1))]) [0, 1] (by decide) rfl
        rw [hQ]
        exact W.zret (v := 1) hx hb hr (by decide) (fun t ht hW => ⟨⟨1, (), rfl, ⟨(show (0 : Int) ≤ (1 : Int32).toInt ∧ (1 : Int32).toInt ≤ 1 from ⟨by omega, by omega⟩), (show ((1 : Int32).toInt ≠ 0 → p1.toInt ≥ 0 ∧ p2.toInt ≥ 0 ∧ p1.toInt ≤ 60 ∧ p2.toInt ≤ 60 ∧ p1.toInt + p2.toInt ≤ 60) from by omega), trivial⟩, (by rw [ht]; exact hP9), hD9⟩, hS.F ht⟩) hS.2.2 dX8_holds_29
theorem dX8_copyNumbers_0 : decode cX8_copyNumbers 0 = .ok (.aload_n 0, 1) := by decide +kernel
theorem dX8_copyNumbers_1 : decode cX8_copyNumbers 1 = .ok (.getfield 22, 3) := by decide +kernel
theorem dX8_copyNumbers_4 : decode cX8_copyNumbers 4 = .ok (.iload_n 1, 1) := by decide +kernel
theorem dX8_copyNumbers_5 : decode cX8_copyNumbers 5 = .ok (.bipush 60, 2) := by decide +kernel
theorem dX8_copyNumbers_7 : decode cX8_copyNumbers 7 = .ok (.imul, 1) := by decide +kernel
theorem dX8_copyNumbers_8 : decode cX8_copyNumbers 8 = .ok (.iload_n 2, 1) := by decide +kernel
theorem dX8_copyNumbers_9 : decode cX8_copyNumbers 9 = .ok (.iadd, 1) := by decide +kernel
theorem dX8_copyNumbers_10 : decode cX8_copyNumbers 10 = .ok (.aload_n 0, 1) := by decide +kernel
theorem dX8_copyNumbers_11 : decode cX8_copyNumbers 11 = .ok (.getfield 22, 3) := by decide +kernel
theorem dX8_copyNumbers_14 : decode cX8_copyNumbers 14 = .ok (.iload_n 3, 1) := by decide +kernel
theorem dX8_copyNumbers_15 : decode cX8_copyNumbers 15 = .ok (.bipush 60, 2) := by decide +kernel
theorem dX8_copyNumbers_17 : decode cX8_copyNumbers 17 = .ok (.imul, 1) := by decide +kernel
theorem dX8_copyNumbers_18 : decode cX8_copyNumbers 18 = .ok (.iload 4, 2) := by decide +kernel
theorem dX8_copyNumbers_20 : decode cX8_copyNumbers 20 = .ok (.iadd, 1) := by decide +kernel
theorem dX8_copyNumbers_21 : decode cX8_copyNumbers 21 = .ok (.iload 5, 2) := by decide +kernel
theorem dX8_copyNumbers_23 : decode cX8_copyNumbers 23 = .ok (.invokestatic 30, 3) := by decide +kernel
theorem dX8_copyNumbers_26 : decode cX8_copyNumbers 26 = .ok (.return_, 1) := by decide +kernel
set_option maxHeartbeats 4000000 in
set_option maxRecDepth 100000 in
theorem s_X8_copyNumbers (l : Launch) (dC : Nat → ClassId) (dI : Nat → Nat → Nat) (cI cZ cB cJ cM cG : ClassId) (a0 a1 a2 a3 a4 : Nat) (xG3 : Nat → Int64) (p0 p1 p2 p3 p4 : Int32) (sz : Nat) (p_0 : p1.toInt + p4.toInt ≤ 60 ∧ p3.toInt + p4.toInt ≤ 60) (p_1 : (0 : Int) ≤ p0.toInt ∧ p0.toInt ≤ 3) (p_2 : (0 : Int) ≤ p1.toInt ∧ p1.toInt ≤ 60) (p_3 : (0 : Int) ≤ p2.toInt ∧ p2.toInt ≤ 3) (p_4 : (0 : Int) ≤ p3.toInt ∧ p3.toInt ≤ 60) (p_5 : (0 : Int) ≤ p4.toInt ∧ p4.toInt ≤ 60) : Met l yX8_copyNumbers (kw yX8_copyNumbers cX8_copyNumbers 6 none) ({ frames := 1, cells := 0, slots := 0, locals := 64 } : Room) (va_Pc [.ref a0, .int p0, .int p1, .int p2, .int p3, .int p4] (kPre dC dI [(cI, .int), (cZ, .boolean), (cB, .byte), (cJ, .long), (cM, .object RX2), (cG, .array .int)] [(a0, .inr (8, [.ref a1, .ref a2, .ref a3, .ref a4])), (a4, .inl (cJ, 240, .inr (.inl xG3)))] sz)) (va_Qv (fun (u9 : (Nat → Int32) × (Nat → Nat → Int32) × (Nat → Nat → Int64)) => True) (fun u9 t => va_P (dC, dI) vwCl [(a0, .inr (8, [.ref a1, .ref a2, .ref a3, .ref a4])), (a4, .inl (cJ, 240, .inr (.inl (u9.2.2 0))))] t.heap ∧ va_D (va_A [(a0, .inr (8, [.ref a1, .ref a2, .ref a3, .ref a4])), (a4, .inl (cJ, 240, .inr (.inl xG3)))] sz) [(a0, .inr (8, [.ref a1, .ref a2, .ref a3, .ref a4])), (a4, .inl (cJ, 240, .inr (.inl (u9.2.2 0))))]) (va_A [(a0, .inr (8, [.ref a1, .ref a2, .ref a3, .ref a4])), (a4, .inl (cJ, 240, .inr (.inl xG3)))] sz)) 0 0 (va_A [(a0, .inr (8, [.ref a1, .ref a2, .ref a3, .ref a4])), (a4, .inl (cJ, 240, .inr (.inl xG3)))] sz) := by
  refine kEnter (by decide) (Nat.le_of_ble_eq_true rfl) ?_
  intro p e s m below meth c ls hx hb hr hml hown hlocks hin hwd hsz hP hK hD hl
  subst hsz
  generalize hAe : va_A [(a0, .inr (8, [.ref a1, .ref a2, .ref a3, .ref a4])), (a4, .inl (cJ, 240, .inr (.inl xG3)))] s.heap.size = A at hD ⊢
  have hA : ∀ q : Nat, s.heap.size ≤ q → A q := fun q h => by rw [← hAe]; exact Or.inr h
  have hS : va_S A s.heap s.heap [] := va_S.rf
  have hl : lv_has ls 6 [(0, .ref a0), (1, .int p0), (2, .int p1), (3, .int p2), (4, .int p3), (5, .int p4)] := hl
  obtain ⟨Q, hQ⟩ : ∃ Q, Q = MQ below (va_Qv (fun (u9 : (Nat → Int32) × (Nat → Nat → Int32) × (Nat → Nat → Int64)) => True) (fun u9 t => va_P (dC, dI) vwCl [(a0, .inr (8, [.ref a1, .ref a2, .ref a3, .ref a4])), (a4, .inl (cJ, 240, .inr (.inl (u9.2.2 0))))] t.heap ∧ va_D A [(a0, .inr (8, [.ref a1, .ref a2, .ref a3, .ref a4])), (a4, .inl (cJ, 240, .inr (.inl (u9.2.2 0))))]) A) ([.ref a0, .int p0, .int p1, .int p2, .int p3, .int p4] : List Value).toArray s 0 0 A := ⟨_, rfl⟩
  rw [← hQ]
  have k0 : (0 : Int32).toInt = 0 := by decide
  have k60 : (60 : Int32).toInt = 60 := by decide
  refine lv_aload_n hx hb dX8_copyNumbers_0 rfl (lv_at hl 0 rfl) ?_
  refine va_get (D := (dC, dI)) (ci := 8) (v := .ref a4) (C := RX8) (T := TX8) (N := 4) hx hb hwd inlX8 hown hK hP 0 rfl rfl 3 (by decide) (hwd _ kr4_11) (fun _ h9 => h9) rfl dX8_copyNumbers_1 ?_
  refine lv_iload_n hx hb dX8_copyNumbers_4 rfl (lv_at hl 1 rfl) ?_
  refine lv_bipush (v := 60) hx hb dX8_copyNumbers_5 (by decide) ?_
  refine lv_imul hx hb dX8_copyNumbers_7 ?_
  refine lv_topi (fun x1 ex1 => ?_)
  have tx1 := ia_mulr (a := p0) (b := (60 : Int32)) 60 (by decide) (by omega) (by omega)
  rw [← ex1] at tx1
  refine lv_iload_n hx hb dX8_copyNumbers_8 rfl (lv_at hl 2 rfl) ?_
  refine lv_iadd hx hb dX8_copyNumbers_9 ?_
  refine lv_topi (fun x2 ex2 => ?_)
  have tx2 := ia_add (a := x1) (b := p1) (by omega) (by omega)
  rw [← ex2] at tx2
  refine lv_aload_n hx hb dX8_copyNumbers_10 rfl (lv_at hl 0 rfl) ?_
  refine va_get (D := (dC, dI)) (ci := 8) (v := .ref a4) (C := RX8) (T := TX8) (N := 4) hx hb hwd inlX8 hown hK hP 0 rfl rfl 3 (by decide) (hwd _ kr4_11) (fun _ h9 => h9) rfl dX8_copyNumbers_11 ?_
  refine lv_iload_n hx hb dX8_copyNumbers_14 rfl (lv_at hl 3 rfl) ?_
  refine lv_bipush (v := 60) hx hb dX8_copyNumbers_15 (by decide) ?_
  refine lv_imul hx hb dX8_copyNumbers_17 ?_
  refine lv_topi (fun x3 ex3 => ?_)
  have tx3 := ia_mulr (a := p2) (b := (60 : Int32)) 60 (by decide) (by omega) (by omega)
  rw [← ex3] at tx3
  refine lv_iload hx hb dX8_copyNumbers_18 (lv_at hl 4 rfl) ?_
  refine lv_iadd hx hb dX8_copyNumbers_20 ?_
  refine lv_topi (fun x4 ex4 => ?_)
  have tx4 := ia_add (a := x3) (b := p3) (by omega) (by omega)
  rw [← ex4] at tx4
  refine lv_iload hx hb dX8_copyNumbers_21 (lv_at hl 5 rfl) ?_
  refine va_copyl hx hb (by rw [hml]; exact hl.1.symm) hown (hwd _ kr68_19) (hwd _ kr18_14) (hwd _ kr18_15) (hwd _ kr18_16) hK hP hD hS 1 1 3 3 rfl rfl rfl rfl rfl (fun h9 => by rw [ki_lt] at h9; omega) (fun h9 => by rw [ki_lt] at h9; omega) (fun h9 => by rw [ki_lt] at h9; omega) (cn_le (by omega) (by omega) (by omega)) (cn_le (by omega) (by omega) (by omega)) (fun _ _ => rfl) (Nat.le_of_ble_eq_true rfl) (Nat.le_of_ble_eq_true rfl) dX8_copyNumbers_23 (fun H locs hP hD hS => ?_)
  obtain ⟨f5, ef5⟩ : ∃ f : Nat → Int64, f = va_cpy xG3 xG3 x2.toNatClampNeg x4.toNatClampNeg p4.toNatClampNeg := ⟨_, rfl⟩
  have hP : va_P (dC, dI) vwCl [(a0, .inr (8, [.ref a1, .ref a2, .ref a3, .ref a4])), (a4, .inl (cJ, 240, .inr (.inl f5)))] H := by rw [ef5]; exact hP
  have hD : va_D A [(a0, .inr (8, [.ref a1, .ref a2, .ref a3, .ref a4])), (a4, .inl (cJ, 240, .inr (.inl f5)))] := by rw [ef5]; exact hD
  have hP9 := hP.sub (ws' := [(a0, .inr (8, [.ref a1, .ref a2, .ref a3, .ref a4])), (a4, .inl (cJ, 240, .inr (.inl f5)))]) [0, 1] rfl
  have hD9 := hD.sub (ws' := [(a0, .inr (8, [.ref a1, .ref a2, .ref a3, .ref a4])), (a4, .inl (cJ, 240, .inr (.inl f5)))]) [0, 1] (by decide) rfl
  rw [hQ]
  exact W.vret hx hb hr (fun t ht hW => ⟨⟨(pickG 0 [], pickG (fun _ => 0) [], pickG (fun _ => 0) [f5]), rfl, trivial, (by rw [ht]; exact hP9), hD9⟩, hS.F ht⟩) hS.2.2 dX8_copyNumbers_26
theorem dX6_findsRoom_0 : decode cX6_findsRoom 0 = .ok (.iload_n 1, 1) := by decide +kernel
theorem dX6_findsRoom_1 : decode cX6_findsRoom 1 = .ok (.aload_n 0, 1) := by decide +kernel
theorem dX6_findsRoom_2 : decode cX6_findsRoom 2 = .ok (.getfield 19, 3) := by decide +kernel
theorem dX6_findsRoom_5 : decode cX6_findsRoom 5 = .ok (.if_icmp .ge 9, 3) := by decide +kernel
theorem dX6_findsRoom_14 : decode cX6_findsRoom 14 = .ok (.iconst 1, 1) := by decide +kernel
theorem dX6_findsRoom_15 : decode cX6_findsRoom 15 = .ok (.ireturn, 1) := by decide +kernel
set_option maxHeartbeats 4000000 in
set_option maxRecDepth 100000 in
theorem s_X6_findsRoom_8 (l : Launch) (dC : Nat → ClassId) (dI : Nat → Nat → Nat) (cI cZ cB cJ cM cG : ClassId) (a0 a1 a2 a3 : Nat) (i0 : Int32) (p1 p2 p3 p4 : Int32) (sz : Nat) (p_0 : (0 : Int) ≤ i0.toInt ∧ i0.toInt ≤ 8) (p_1 : (8 : Int) ≤ p1.toInt ∧ p1.toInt ≤ 8) : Met l yX6_findsRoom (kw yX6_findsRoom cX6_findsRoom 6 (some .boolean)) ({ frames := 0, cells := 0, slots := 0, locals := 0 } : Room) (va_Pc [.ref a0, .int p1, .int p2, .int p3, .int p4] (kPre dC dI [(cI, .int), (cZ, .boolean), (cB, .byte), (cJ, .long), (cM, .object RX2), (cG, .array .int)] [(a0, .inr (6, [.int i0, .ref a1, .ref a2, .ref a3]))] sz)) (va_Qi (fun (r : Int32) (u9 : Unit) => ((1 : Int) ≤ r.toInt ∧ r.toInt ≤ 1) ∧ True) (fun u9 t => va_P (dC, dI) vwCl [(a0, .inr (6, [.int i0, .ref a1, .ref a2, .ref a3]))] t.heap ∧ va_D (va_A [(a0, .inr (6, [.int i0, .ref a1, .ref a2, .ref a3]))] sz) [(a0, .inr (6, [.int i0, .ref a1, .ref a2, .ref a3]))]) (va_A [(a0, .inr (6, [.int i0, .ref a1, .ref a2, .ref a3]))] sz)) 0 0 (va_A [(a0, .inr (6, [.int i0, .ref a1, .ref a2, .ref a3]))] sz) := by
  refine kEnter (by decide) (Nat.le_of_ble_eq_true rfl) ?_
  intro p e s m below meth c ls hx hb hr hml hown hlocks hin hwd hsz hP hK hD hl
  subst hsz
  generalize hAe : va_A [(a0, .inr (6, [.int i0, .ref a1, .ref a2, .ref a3]))] s.heap.size = A at hD ⊢
  have hA : ∀ q : Nat, s.heap.size ≤ q → A q := fun q h => by rw [← hAe]; exact Or.inr h
  have hS : va_S A s.heap s.heap [] := va_S.rf
  have hl : lv_has ls 6 [(0, .ref a0), (1, .int p1), (2, .int p2), (3, .int p3), (4, .int p4)] := hl
  obtain ⟨Q, hQ⟩ : ∃ Q, Q = MQ below (va_Qi (fun (r : Int32) (u9 : Unit) => ((1 : Int) ≤ r.toInt ∧ r.toInt ≤ 1) ∧ True) (fun u9 t => va_P (dC, dI) vwCl [(a0, .inr (6, [.int i0, .ref a1, .ref a2, .ref a3]))] t.heap ∧ va_D A [(a0, .inr (6, [.int i0, .ref a1, .ref a2, .ref a3]))]) A) ([.ref a0, .int p1, .int p2, .int p3, .int p4] : List Value).toArray s 0 0 A := ⟨_, rfl⟩
  rw [← hQ]
  have k1 : (1 : Int32).toInt = 1 := by decide
  refine lv_iload_n hx hb dX6_findsRoom_0 rfl (lv_at hl 1 rfl) ?_
  refine lv_aload_n hx hb dX6_findsRoom_1 rfl (lv_at hl 0 rfl) ?_
  refine va_get (D := (dC, dI)) (ci := 6) (v := .int i0) (C := RX6) (T := TX6) (N := 4) hx hb hwd inlX6 hown hK hP 0 rfl rfl 0 (by decide) (hwd _ kr54_20) (fun _ h9 => h9) rfl dX6_findsRoom_2 ?_
  refine lv_icmp_ge (tgt := 14) hx hb dX6_findsRoom_5 (by decide) (fun c1 => ?_) (fun c1 => ?_)
  · rw [ki_le] at c1
    refine lv_iconst (v := 1) hx hb dX6_findsRoom_14 (by decide) ?_
    have hP9 := hP.sub (ws' := [(a0, .inr (6, [.int i0, .ref a1, .ref a2, .ref a3]))]) [0] rfl
    have hD9 := hD.sub (ws' := [(a0, .inr (6, [.int i0, .ref a1, .ref a2, .ref a3]))]) [0] (by decide) rfl
    rw [hQ]
    exact W.zret (v := 1) hx hb hr (by decide) (fun t ht hW => ⟨⟨1, (), rfl, ⟨(show (1 : Int) ≤ (1 : Int32).toInt ∧ (1 : Int32).toInt ≤ 1 from ⟨by omega, by omega⟩), trivial⟩, (by rw [ht]; exact hP9), hD9⟩, hS.F ht⟩) hS.2.2 dX6_findsRoom_15
  · rw [ki_le] at c1
    exfalso
    omega
theorem dX6_findsRoom_8 : decode cX6_findsRoom 8 = .ok (.iload_n 1, 1) := by decide +kernel
theorem dX6_findsRoom_9 : decode cX6_findsRoom 9 = .ok (.bipush 8, 2) := by decide +kernel
theorem dX6_findsRoom_11 : decode cX6_findsRoom 11 = .ok (.if_icmp .lt 5, 3) := by decide +kernel
theorem dX6_findsRoom_16 : decode cX6_findsRoom 16 = .ok (.iconst 0, 1) := by decide +kernel
theorem dX6_findsRoom_17 : decode cX6_findsRoom 17 = .ok (.istore 5, 2) := by decide +kernel
theorem dX6_findsRoom_19 : decode cX6_findsRoom 19 = .ok (.iload 5, 2) := by decide +kernel
theorem dX6_findsRoom_21 : decode cX6_findsRoom 21 = .ok (.iload_n 2, 1) := by decide +kernel
theorem dX6_findsRoom_22 : decode cX6_findsRoom 22 = .ok (.if_icmp .gt 109, 3) := by decide +kernel
theorem dX6_findsRoom_25 : decode cX6_findsRoom 25 = .ok (.iload 5, 2) := by decide +kernel
theorem dX6_findsRoom_27 : decode cX6_findsRoom 27 = .ok (.iload_n 3, 1) := by decide +kernel
theorem dX6_findsRoom_28 : decode cX6_findsRoom 28 = .ok (.if_icmp .ge 103, 3) := by decide +kernel
theorem dX6_findsRoom_31 : decode cX6_findsRoom 31 = .ok (.iload 5, 2) := by decide +kernel
theorem dX6_findsRoom_33 : decode cX6_findsRoom 33 = .ok (.bipush 8, 2) := by decide +kernel
theorem dX6_findsRoom_35 : decode cX6_findsRoom 35 = .ok (.if_icmp .ge 96, 3) := by decide +kernel
theorem dX6_findsRoom_38 : decode cX6_findsRoom 38 = .ok (.aload_n 0, 1) := by decide +kernel
theorem dX6_findsRoom_39 : decode cX6_findsRoom 39 = .ok (.getfield 16, 3) := by decide +kernel
theorem dX6_findsRoom_42 : decode cX6_findsRoom 42 = .ok (.iload 5, 2) := by decide +kernel
theorem dX6_findsRoom_44 : decode cX6_findsRoom 44 = .ok (.iaload, 1) := by decide +kernel
theorem dX6_findsRoom_45 : decode cX6_findsRoom 45 = .ok (.aload_n 0, 1) := by decide +kernel
theorem dX6_findsRoom_46 : decode cX6_findsRoom 46 = .ok (.getfield 9, 3) := by decide +kernel
theorem dX6_findsRoom_49 : decode cX6_findsRoom 49 = .ok (.iload_n 1, 1) := by decide +kernel
theorem dX6_findsRoom_50 : decode cX6_findsRoom 50 = .ok (.iaload, 1) := by decide +kernel
theorem dX6_findsRoom_51 : decode cX6_findsRoom 51 = .ok (.iadd, 1) := by decide +kernel
theorem dX6_findsRoom_52 : decode cX6_findsRoom 52 = .ok (.iload 4, 2) := by decide +kernel
theorem dX6_findsRoom_54 : decode cX6_findsRoom 54 = .ok (.if_icmp .gt 71, 3) := by decide +kernel
theorem dX6_findsRoom_57 : decode cX6_findsRoom 57 = .ok (.aload_n 0, 1) := by decide +kernel
theorem dX6_findsRoom_58 : decode cX6_findsRoom 58 = .ok (.getfield 16, 3) := by decide +kernel
theorem dX6_findsRoom_61 : decode cX6_findsRoom 61 = .ok (.iload 5, 2) := by decide +kernel
theorem dX6_findsRoom_63 : decode cX6_findsRoom 63 = .ok (.dup2, 1) := by decide +kernel
theorem dX6_findsRoom_64 : decode cX6_findsRoom 64 = .ok (.iaload, 1) := by decide +kernel
theorem dX6_findsRoom_65 : decode cX6_findsRoom 65 = .ok (.aload_n 0, 1) := by decide +kernel
theorem dX6_findsRoom_66 : decode cX6_findsRoom 66 = .ok (.getfield 9, 3) := by decide +kernel
theorem dX6_findsRoom_69 : decode cX6_findsRoom 69 = .ok (.iload_n 1, 1) := by decide +kernel
theorem dX6_findsRoom_70 : decode cX6_findsRoom 70 = .ok (.iaload, 1) := by decide +kernel
theorem dX6_findsRoom_71 : decode cX6_findsRoom 71 = .ok (.iadd, 1) := by decide +kernel
theorem dX6_findsRoom_72 : decode cX6_findsRoom 72 = .ok (.iastore, 1) := by decide +kernel
theorem dX6_findsRoom_73 : decode cX6_findsRoom 73 = .ok (.aload_n 0, 1) := by decide +kernel
theorem dX6_findsRoom_74 : decode cX6_findsRoom 74 = .ok (.getfield 13, 3) := by decide +kernel
theorem dX6_findsRoom_77 : decode cX6_findsRoom 77 = .ok (.iload_n 1, 1) := by decide +kernel
theorem dX6_findsRoom_78 : decode cX6_findsRoom 78 = .ok (.iload 5, 2) := by decide +kernel
theorem dX6_findsRoom_80 : decode cX6_findsRoom 80 = .ok (.iastore, 1) := by decide +kernel
theorem dX6_findsRoom_81 : decode cX6_findsRoom 81 = .ok (.aload_n 0, 1) := by decide +kernel
theorem dX6_findsRoom_82 : decode cX6_findsRoom 82 = .ok (.iload_n 1, 1) := by decide +kernel
theorem dX6_findsRoom_83 : decode cX6_findsRoom 83 = .ok (.iconst 1, 1) := by decide +kernel
theorem dX6_findsRoom_84 : decode cX6_findsRoom 84 = .ok (.iadd, 1) := by decide +kernel
theorem dX6_findsRoom_85 : decode cX6_findsRoom 85 = .ok (.iload 5, 2) := by decide +kernel
theorem dX6_findsRoom_87 : decode cX6_findsRoom 87 = .ok (.iload_n 2, 1) := by decide +kernel
theorem dX6_findsRoom_88 : decode cX6_findsRoom 88 = .ok (.if_icmp .ne 9, 3) := by decide +kernel
theorem dX6_findsRoom_91 : decode cX6_findsRoom 91 = .ok (.iload_n 2, 1) := by decide +kernel
theorem dX6_findsRoom_92 : decode cX6_findsRoom 92 = .ok (.iconst 1, 1) := by decide +kernel
theorem dX6_findsRoom_93 : decode cX6_findsRoom 93 = .ok (.iadd, 1) := by decide +kernel
theorem dX6_findsRoom_94 : decode cX6_findsRoom 94 = .ok (.goto 4, 3) := by decide +kernel
theorem dX6_findsRoom_97 : decode cX6_findsRoom 97 = .ok (.iload_n 2, 1) := by decide +kernel
theorem dX6_findsRoom_98 : decode cX6_findsRoom 98 = .ok (.iload_n 3, 1) := by decide +kernel
theorem dX6_findsRoom_99 : decode cX6_findsRoom 99 = .ok (.iload 4, 2) := by decide +kernel
theorem dX6_findsRoom_101 : decode cX6_findsRoom 101 = .ok (.invokestatic 26, 3) := by decide +kernel
theorem dX6_findsRoom_104 : decode cX6_findsRoom 104 = .ok (.ifCond .eq 5, 3) := by decide +kernel
theorem dX6_findsRoom_107 : decode cX6_findsRoom 107 = .ok (.iconst 1, 1) := by decide +kernel
theorem dX6_findsRoom_108 : decode cX6_findsRoom 108 = .ok (.ireturn, 1) := by decide +kernel
theorem dX6_findsRoom_125 : decode cX6_findsRoom 125 = .ok (.iinc 5 1, 3) := by decide +kernel
theorem dX6_findsRoom_128 : decode cX6_findsRoom 128 = .ok (.goto (-109), 3) := by decide +kernel
theorem dX6_findsRoom_131 : decode cX6_findsRoom 131 = .ok (.iconst 0, 1) := by decide +kernel
theorem dX6_findsRoom_132 : decode cX6_findsRoom 132 = .ok (.ireturn, 1) := by decide +kernel
set_option maxHeartbeats 4000000 in
set_option maxRecDepth 100000 in
theorem s_X6_findsRoom_7 (l : Launch) (dC : Nat → ClassId) (dI : Nat → Nat → Nat) (cI cZ cB cJ cM cG : ClassId) (a0 a1 a2 a3 : Nat) (i0 : Int32) (xF0 xF1 xF2 : Nat → Int32) (p1 p2 p3 p4 : Int32) (sz : Nat) (p_0 : (0 : Int) ≤ i0.toInt ∧ i0.toInt ≤ 8) (p_1 : (7 : Int) ≤ p1.toInt ∧ p1.toInt ≤ 8) : Met l yX6_findsRoom (kw yX6_findsRoom cX6_findsRoom 6 (some .boolean)) ({ frames := 1, cells := 0, slots := 0, locals := 25 } : Room) (va_Pc [.ref a0, .int p1, .int p2, .int p3, .int p4] (kPre dC dI [(cI, .int), (cZ, .boolean), (cB, .byte), (cJ, .long), (cM, .object RX2), (cG, .array .int)] [(a0, .inr (6, [.int i0, .ref a1, .ref a2, .ref a3])), (a1, .inl (cI, 8, .inl xF0)), (a2, .inl (cI, 8, .inl xF1)), (a3, .inl (cI, 8, .inl xF2))] sz)) (va_Qi (fun (r : Int32) (u9 : (Nat → Int32) × (Nat → Nat → Int32) × (Nat → Nat → Int64)) => ((0 : Int) ≤ r.toInt ∧ r.toInt ≤ 1) ∧ True) (fun u9 t => va_P (dC, dI) vwCl [(a0, .inr (6, [.int i0, .ref a1, .ref a2, .ref a3])), (a1, .inl (cI, 8, .inl xF0)), (a2, .inl (cI, 8, .inl (u9.2.1 0))), (a3, .inl (cI, 8, .inl (u9.2.1 1)))] t.heap ∧ va_D (va_A [(a0, .inr (6, [.int i0, .ref a1, .ref a2, .ref a3])), (a1, .inl (cI, 8, .inl xF0)), (a2, .inl (cI, 8, .inl xF1)), (a3, .inl (cI, 8, .inl xF2))] sz) [(a0, .inr (6, [.int i0, .ref a1, .ref a2, .ref a3])), (a1, .inl (cI, 8, .inl xF0)), (a2, .inl (cI, 8, .inl (u9.2.1 0))), (a3, .inl (cI, 8, .inl (u9.2.1 1)))]) (va_A [(a0, .inr (6, [.int i0, .ref a1, .ref a2, .ref a3])), (a1, .inl (cI, 8, .inl xF0)), (a2, .inl (cI, 8, .inl xF1)), (a3, .inl (cI, 8, .inl xF2))] sz)) 0 0 (va_A [(a0, .inr (6, [.int i0, .ref a1, .ref a2, .ref a3])), (a1, .inl (cI, 8, .inl xF0)), (a2, .inl (cI, 8, .inl xF1)), (a3, .inl (cI, 8, .inl xF2))] sz) := by
  refine kEnter (by decide) (Nat.le_of_ble_eq_true rfl) ?_
  intro p e s m below meth c ls hx hb hr hml hown hlocks hin hwd hsz hP hK hD hl
  subst hsz
  generalize hAe : va_A [(a0, .inr (6, [.int i0, .ref a1, .ref a2, .ref a3])), (a1, .inl (cI, 8, .inl xF0)), (a2, .inl (cI, 8, .inl xF1)), (a3, .inl (cI, 8, .inl xF2))] s.heap.size = A at hD ⊢
  have hA : ∀ q : Nat, s.heap.size ≤ q → A q := fun q h => by rw [← hAe]; exact Or.inr h
  have hS : va_S A s.heap s.heap [] := va_S.rf
  have hl : lv_has ls 6 [(0, .ref a0), (1, .int p1), (2, .int p2), (3, .int p3), (4, .int p4)] := hl
  obtain ⟨Q, hQ⟩ : ∃ Q, Q = MQ below (va_Qi (fun (r : Int32) (u9 : (Nat → Int32) × (Nat → Nat → Int32) × (Nat → Nat → Int64)) => ((0 : Int) ≤ r.toInt ∧ r.toInt ≤ 1) ∧ True) (fun u9 t => va_P (dC, dI) vwCl [(a0, .inr (6, [.int i0, .ref a1, .ref a2, .ref a3])), (a1, .inl (cI, 8, .inl xF0)), (a2, .inl (cI, 8, .inl (u9.2.1 0))), (a3, .inl (cI, 8, .inl (u9.2.1 1)))] t.heap ∧ va_D A [(a0, .inr (6, [.int i0, .ref a1, .ref a2, .ref a3])), (a1, .inl (cI, 8, .inl xF0)), (a2, .inl (cI, 8, .inl (u9.2.1 0))), (a3, .inl (cI, 8, .inl (u9.2.1 1)))]) A) ([.ref a0, .int p1, .int p2, .int p3, .int p4] : List Value).toArray s 0 0 A := ⟨_, rfl⟩
  rw [← hQ]
  have k0 : (0 : Int32).toInt = 0 := by decide
  have k1 : (1 : Int32).toInt = 1 := by decide
  have k8 : (8 : Int32).toInt = 8 := by decide
  refine lv_iload_n hx hb dX6_findsRoom_0 rfl (lv_at hl 1 rfl) ?_
  refine lv_aload_n hx hb dX6_findsRoom_1 rfl (lv_at hl 0 rfl) ?_
  refine va_get (D := (dC, dI)) (ci := 6) (v := .int i0) (C := RX6) (T := TX6) (N := 4) hx hb hwd inlX6 hown hK hP 0 rfl rfl 0 (by decide) (hwd _ kr54_20) (fun _ h9 => h9) rfl dX6_findsRoom_2 ?_
  refine lv_icmp_ge (tgt := 14) hx hb dX6_findsRoom_5 (by decide) (fun c1 => ?_) (fun c1 => ?_)
  · rw [ki_le] at c1
    refine lv_iconst (v := 1) hx hb dX6_findsRoom_14 (by decide) ?_
    have hP9 := hP.sub (ws' := [(a0, .inr (6, [.int i0, .ref a1, .ref a2, .ref a3])), (a1, .inl (cI, 8, .inl xF0)), (a2, .inl (cI, 8, .inl xF1)), (a3, .inl (cI, 8, .inl xF2))]) [0, 1, 2, 3] rfl
    have hD9 := hD.sub (ws' := [(a0, .inr (6, [.int i0, .ref a1, .ref a2, .ref a3])), (a1, .inl (cI, 8, .inl xF0)), (a2, .inl (cI, 8, .inl xF1)), (a3, .inl (cI, 8, .inl xF2))]) [0, 1, 2, 3] (by decide) rfl
    rw [hQ]
    exact W.zret (v := 1) hx hb hr (by decide) (fun t ht hW => ⟨⟨1, (pickG 0 [], pickG (fun _ => 0) [xF1, xF2], pickG (fun _ => 0) []), rfl, ⟨(show (0 : Int) ≤ (1 : Int32).toInt ∧ (1 : Int32).toInt ≤ 1 from ⟨by omega, by omega⟩), trivial⟩, (by rw [ht]; exact hP9), hD9⟩, hS.F ht⟩) hS.2.2 dX6_findsRoom_15
  · rw [ki_le] at c1
    refine lv_iload_n hx hb dX6_findsRoom_8 rfl (lv_at hl 1 rfl) ?_
    refine lv_bipush (v := 8) hx hb dX6_findsRoom_9 (by decide) ?_
    refine lv_icmp_lt (tgt := 16) hx hb dX6_findsRoom_11 (by decide) (fun c2 => ?_) (fun c2 => ?_)
    · rw [ki_lt] at c2
      refine lv_iconst (v := 0) hx hb dX6_findsRoom_16 (by decide) ?_
      refine lv_istore (lv' := [(5, .int 0), (0, .ref a0), (1, .int p1), (2, .int p2), (3, .int p3), (4, .int p4)]) hx hb dX6_findsRoom_17 hl (by decide) rfl (fun ls hl => ?_)
      have lp1 : ∀ (d : Nat), ∀ (H : Heap) (locs : List Loc) (ls : Array Slot) (w5_1 : Int32), ((0 : Int) ≤ w5_1.toInt ∧ w5_1.toInt ≤ 8) → (8 - w5_1.toInt).toNat < d → va_P (dC, dI) vwCl [(a0, .inr (6, [.int i0, .ref a1, .ref a2, .ref a3])), (a1, .inl (cI, 8, .inl xF0)), (a2, .inl (cI, 8, .inl xF1)), (a3, .inl (cI, 8, .inl xF2))] H → va_D A [(a0, .inr (6, [.int i0, .ref a1, .ref a2, .ref a3])), (a1, .inl (cI, 8, .inl xF0)), (a2, .inl (cI, 8, .inl xF1)), (a3, .inl (cI, 8, .inl xF2))] → va_S A s.heap H locs → lv_has ls 6 [(0, .ref a0), (1, .int p1), (2, .int p2), (3, .int p3), (4, .int p4), (5, .int w5_1)] → W p l e ({ frames := 1, cells := 0, slots := 0, locals := 25 } : Room) s m ([.ref a0, .int p1, .int p2, .int p3, .int p4] : List Value).toArray below meth c H locs 0 0 Q (F0 m 19 ls []) := by
        intro d
        induction d with
        | zero =>
          intro H locs ls w5_1 hr_w5_1 hm hP hD hS hl
          omega
        | succ d ih1 =>
          intro H locs ls w5_1 hr_w5_1 hm hP hD hS hl
          refine lv_iload hx hb dX6_findsRoom_19 (lv_at hl 5 rfl) ?_
          refine lv_iload_n hx hb dX6_findsRoom_21 rfl (lv_at hl 2 rfl) ?_
          refine lv_icmp_gt (tgt := 131) hx hb dX6_findsRoom_22 (by decide) (fun c112 => ?_) (fun c112 => ?_)
          · rw [ki_lt] at c112
            refine lv_iconst (v := 0) hx hb dX6_findsRoom_131 (by decide) ?_
            have hP9 := hP.sub (ws' := [(a0, .inr (6, [.int i0, .ref a1, .ref a2, .ref a3])), (a1, .inl (cI, 8, .inl xF0)), (a2, .inl (cI, 8, .inl xF1)), (a3, .inl (cI, 8, .inl xF2))]) [0, 1, 2, 3] rfl
            have hD9 := hD.sub (ws' := [(a0, .inr (6, [.int i0, .ref a1, .ref a2, .ref a3])), (a1, .inl (cI, 8, .inl xF0)), (a2, .inl (cI, 8, .inl xF1)), (a3, .inl (cI, 8, .inl xF2))]) [0, 1, 2, 3] (by decide) rfl
            rw [hQ]
            exact W.zret (v := 0) hx hb hr (by decide) (fun t ht hW => ⟨⟨0, (pickG 0 [], pickG (fun _ => 0) [xF1, xF2], pickG (fun _ => 0) []), rfl, ⟨(show (0 : Int) ≤ (0 : Int32).toInt ∧ (0 : Int32).toInt ≤ 1 from ⟨by omega, by omega⟩), trivial⟩, (by rw [ht]; exact hP9), hD9⟩, hS.F ht⟩) hS.2.2 dX6_findsRoom_132
          · rw [ki_lt] at c112
            refine lv_iload hx hb dX6_findsRoom_25 (lv_at hl 5 rfl) ?_
            refine lv_iload_n hx hb dX6_findsRoom_27 rfl (lv_at hl 3 rfl) ?_
            refine lv_icmp_ge (tgt := 131) hx hb dX6_findsRoom_28 (by decide) (fun c113 => ?_) (fun c113 => ?_)
            · rw [ki_le] at c113
              refine lv_iconst (v := 0) hx hb dX6_findsRoom_131 (by decide) ?_
              have hP9 := hP.sub (ws' := [(a0, .inr (6, [.int i0, .ref a1, .ref a2, .ref a3])), (a1, .inl (cI, 8, .inl xF0)), (a2, .inl (cI, 8, .inl xF1)), (a3, .inl (cI, 8, .inl xF2))]) [0, 1, 2, 3] rfl
              have hD9 := hD.sub (ws' := [(a0, .inr (6, [.int i0, .ref a1, .ref a2, .ref a3])), (a1, .inl (cI, 8, .inl xF0)), (a2, .inl (cI, 8, .inl xF1)), (a3, .inl (cI, 8, .inl xF2))]) [0, 1, 2, 3] (by decide) rfl
              rw [hQ]
              exact W.zret (v := 0) hx hb hr (by decide) (fun t ht hW => ⟨⟨0, (pickG 0 [], pickG (fun _ => 0) [xF1, xF2], pickG (fun _ => 0) []), rfl, ⟨(show (0 : Int) ≤ (0 : Int32).toInt ∧ (0 : Int32).toInt ≤ 1 from ⟨by omega, by omega⟩), trivial⟩, (by rw [ht]; exact hP9), hD9⟩, hS.F ht⟩) hS.2.2 dX6_findsRoom_132
            · rw [ki_le] at c113
              refine lv_iload hx hb dX6_findsRoom_31 (lv_at hl 5 rfl) ?_
              refine lv_bipush (v := 8) hx hb dX6_findsRoom_33 (by decide) ?_
              refine lv_icmp_ge (tgt := 131) hx hb dX6_findsRoom_35 (by decide) (fun c114 => ?_) (fun c114 => ?_)
              · rw [ki_le] at c114
                refine lv_iconst (v := 0) hx hb dX6_findsRoom_131 (by decide) ?_
                have hP9 := hP.sub (ws' := [(a0, .inr (6, [.int i0, .ref a1, .ref a2, .ref a3])), (a1, .inl (cI, 8, .inl xF0)), (a2, .inl (cI, 8, .inl xF1)), (a3, .inl (cI, 8, .inl xF2))]) [0, 1, 2, 3] rfl
                have hD9 := hD.sub (ws' := [(a0, .inr (6, [.int i0, .ref a1, .ref a2, .ref a3])), (a1, .inl (cI, 8, .inl xF0)), (a2, .inl (cI, 8, .inl xF1)), (a3, .inl (cI, 8, .inl xF2))]) [0, 1, 2, 3] (by decide) rfl
                rw [hQ]
                exact W.zret (v := 0) hx hb hr (by decide) (fun t ht hW => ⟨⟨0, (pickG 0 [], pickG (fun _ => 0) [xF1, xF2], pickG (fun _ => 0) []), rfl, ⟨(show (0 : Int) ≤ (0 : Int32).toInt ∧ (0 : Int32).toInt ≤ 1 from ⟨by omega, by omega⟩), trivial⟩, (by rw [ht]; exact hP9), hD9⟩, hS.F ht⟩) hS.2.2 dX6_findsRoom_132
              · rw [ki_le] at c114
                refine lv_aload_n hx hb dX6_findsRoom_38 rfl (lv_at hl 0 rfl) ?_
                refine va_get (D := (dC, dI)) (ci := 6) (v := .ref a3) (C := RX6) (T := TX6) (N := 4) hx hb hwd inlX6 hown hK hP 0 rfl rfl 3 (by decide) (hwd _ kr4_17) (fun _ h9 => h9) rfl dX6_findsRoom_39 ?_
                refine lv_iload hx hb dX6_findsRoom_42 (lv_at hl 5 rfl) ?_
                have h115 : vp_in w5_1 8 := (vp_of (by omega) (by omega))
                refine va_iald hx hb hK hP 3 0 rfl rfl h115 dX6_findsRoom_44 ?_
                refine lv_topi (fun x116 ex116 => ?_)
                refine lv_aload_n hx hb dX6_findsRoom_45 rfl (lv_at hl 0 rfl) ?_
                refine va_get (D := (dC, dI)) (ci := 6) (v := .ref a1) (C := RX6) (T := TX6) (N := 4) hx hb hwd inlX6 hown hK hP 0 rfl rfl 1 (by decide) (hwd _ kr4_15) (fun _ h9 => h9) rfl dX6_findsRoom_46 ?_
                refine lv_iload_n hx hb dX6_findsRoom_49 rfl (lv_at hl 1 rfl) ?_
                have h117 : vp_in p1 8 := (vp_of (by omega) (by omega))
                refine va_iald hx hb hK hP 1 0 rfl rfl h117 dX6_findsRoom_50 ?_
                refine lv_topi (fun x118 ex118 => ?_)
                refine lv_iadd hx hb dX6_findsRoom_51 ?_
                refine lv_topi (fun x119 ex119 => ?_)
                refine lv_iload hx hb dX6_findsRoom_52 (lv_at hl 4 rfl) ?_
                refine lv_icmp_gt (tgt := 125) hx hb dX6_findsRoom_54 (by decide) (fun c120 => ?_) (fun c120 => ?_)
                · rw [ki_lt] at c120
                  obtain ⟨x121, ex121⟩ : ∃ y : Int32, y = w5_1 + 1 := ⟨_, rfl⟩
                  refine lv_iinc (v := x121) (lv' := [(5, .int x121), (0, .ref a0), (1, .int p1), (2, .int p2), (3, .int p3), (4, .int p4)]) hx hb dX6_findsRoom_125 hl (k := 5) rfl (by rw [ex121]; rfl) (by decide) rfl (fun ls hl => ?_)
                  have tx121 := ia_add (a := w5_1) (b := (1 : Int32)) (by omega) (by omega)
                  rw [← ex121] at tx121
                  refine lv_goto (tgt := 19) hx hb dX6_findsRoom_128 (by decide) ?_
                  exact ih1 _ _ ls x121 (show (0 : Int) ≤ x121.toInt ∧ x121.toInt ≤ 8 from ⟨by omega, by omega⟩) (by omega) (hP.sub (ws' := [(a0, .inr (6, [.int i0, .ref a1, .ref a2, .ref a3])), (a1, .inl (cI, 8, .inl xF0)), (a2, .inl (cI, 8, .inl xF1)), (a3, .inl (cI, 8, .inl xF2))]) [0, 1, 2, 3] rfl) (hD.sub (ws' := [(a0, .inr (6, [.int i0, .ref a1, .ref a2, .ref a3])), (a1, .inl (cI, 8, .inl xF0)), (a2, .inl (cI, 8, .inl xF1)), (a3, .inl (cI, 8, .inl xF2))]) [0, 1, 2, 3] (by decide) rfl) hS (lv_sub hl [1, 2, 3, 4, 5, 0] rfl)
                · rw [ki_lt] at c120
                  refine lv_aload_n hx hb dX6_findsRoom_57 rfl (lv_at hl 0 rfl) ?_
                  refine va_get (D := (dC, dI)) (ci := 6) (v := .ref a3) (C := RX6) (T := TX6) (N := 4) hx hb hwd inlX6 hown hK hP 0 rfl rfl 3 (by decide) (hwd _ kr4_17) (fun _ h9 => h9) rfl dX6_findsRoom_58 ?_
                  refine lv_iload hx hb dX6_findsRoom_61 (lv_at hl 5 rfl) ?_
                  refine lv_dup2_11 hx hb dX6_findsRoom_63 rfl rfl ?_
                  have h122 : vp_in w5_1 8 := (vp_of (by omega) (by omega))
                  refine va_iald hx hb hK hP 3 0 rfl rfl h122 dX6_findsRoom_64 ?_
                  refine lv_topi (nm_r (e' := x116) ex116.symm ?_)
                  refine lv_aload_n hx hb dX6_findsRoom_65 rfl (lv_at hl 0 rfl) ?_
                  refine va_get (D := (dC, dI)) (ci := 6) (v := .ref a1) (C := RX6) (T := TX6) (N := 4) hx hb hwd inlX6 hown hK hP 0 rfl rfl 1 (by decide) (hwd _ kr4_15) (fun _ h9 => h9) rfl dX6_findsRoom_66 ?_
                  refine lv_iload_n hx hb dX6_findsRoom_69 rfl (lv_at hl 1 rfl) ?_
                  have h123 : vp_in p1 8 := (vp_of (by omega) (by omega))
                  refine va_iald hx hb hK hP 1 0 rfl rfl h123 dX6_findsRoom_70 ?_
                  refine lv_topi (nm_r (e' := x118) ex118.symm ?_)
                  refine lv_iadd hx hb dX6_findsRoom_71 ?_
                  refine lv_topi (fun x124 ex124 => ?_)
                  refine va_iast hx hb hK hP hD hS 3 0 rfl rfl (vp_of (by omega) (by omega)) dX6_findsRoom_72 (fun H locs hP hD hS => ?_)
                  obtain ⟨f125, ef125⟩ : ∃ f, f = upd xF2 w5_1.toNatClampNeg x124 := ⟨_, rfl⟩
                  have hP : va_P (dC, dI) vwCl [(a0, .inr (6, [.int i0, .ref a1, .ref a2, .ref a3])), (a1, .inl (cI, 8, .inl xF0)), (a2, .inl (cI, 8, .inl xF1)), (a3, .inl (cI, 8, .inl f125))] H := by rw [ef125]; exact hP
                  have hD : va_D A [(a0, .inr (6, [.int i0, .ref a1, .ref a2, .ref a3])), (a1, .inl (cI, 8, .inl xF0)), (a2, .inl (cI, 8, .inl xF1)), (a3, .inl (cI, 8, .inl f125))] := by rw [ef125]; exact hD
                  refine lv_aload_n hx hb dX6_findsRoom_73 rfl (lv_at hl 0 rfl) ?_
                  refine va_get (D := (dC, dI)) (ci := 6) (v := .ref a2) (C := RX6) (T := TX6) (N := 4) hx hb hwd inlX6 hown hK hP 0 rfl rfl 2 (by decide) (hwd _ kr4_16) (fun _ h9 => h9) rfl dX6_findsRoom_74 ?_
                  refine lv_iload_n hx hb dX6_findsRoom_77 rfl (lv_at hl 1 rfl) ?_
                  refine lv_iload hx hb dX6_findsRoom_78 (lv_at hl 5 rfl) ?_
                  refine va_iast hx hb hK hP hD hS 2 0 rfl rfl (vp_of (by omega) (by omega)) dX6_findsRoom_80 (fun H locs hP hD hS => ?_)
                  obtain ⟨f126, ef126⟩ : ∃ f, f = upd xF1 p1.toNatClampNeg w5_1 := ⟨_, rfl⟩
                  have hP : va_P (dC, dI) vwCl [(a0, .inr (6, [.int i0, .ref a1, .ref a2, .ref a3])), (a1, .inl (cI, 8, .inl xF0)), (a2, .inl (cI, 8, .inl f126)), (a3, .inl (cI, 8, .inl f125))] H := by rw [ef126]; exact hP
                  have hD : va_D A [(a0, .inr (6, [.int i0, .ref a1, .ref a2, .ref a3])), (a1, .inl (cI, 8, .inl xF0)), (a2, .inl (cI, 8, .inl f126)), (a3, .inl (cI, 8, .inl f125))] := by rw [ef126]; exact hD
                  refine lv_aload_n hx hb dX6_findsRoom_81 rfl (lv_at hl 0 rfl) ?_
                  refine lv_iload_n hx hb dX6_findsRoom_82 rfl (lv_at hl 1 rfl) ?_
                  refine lv_iconst (v := 1) hx hb dX6_findsRoom_83 (by decide) ?_
                  refine lv_iadd hx hb dX6_findsRoom_84 ?_
                  refine lv_topi (fun x127 ex127 => ?_)
                  have tx127 := ia_add (a := p1) (b := (1 : Int32)) (by omega) (by omega)
                  rw [← ex127] at tx127
                  refine lv_iload hx hb dX6_findsRoom_85 (lv_at hl 5 rfl) ?_
                  refine lv_iload_n hx hb dX6_findsRoom_87 rfl (lv_at hl 2 rfl) ?_
                  have jp7 : ∀ (H : Heap) (locs : List Loc) (ls : Array Slot) (z2_7 : Int32), ((0 : Int) ≤ z2_7.toInt ∧ z2_7.toInt ≤ 2147483647) → va_P (dC, dI) vwCl [(a0, .inr (6, [.int i0, .ref a1, .ref a2, .ref a3])), (a1, .inl (cI, 8, .inl xF0)), (a2, .inl (cI, 8, .inl f126)), (a3, .inl (cI, 8, .inl f125))] H → va_D A [(a0, .inr (6, [.int i0, .ref a1, .ref a2, .ref a3])), (a1, .inl (cI, 8, .inl xF0)), (a2, .inl (cI, 8, .inl f126)), (a3, .inl (cI, 8, .inl f125))] → va_S A s.heap H locs → lv_has ls 6 [(0, .ref a0), (1, .int p1), (2, .int p2), (3, .int p3), (4, .int p4), (5, .int w5_1)] → W p l e ({ frames := 1, cells := 0, slots := 0, locals := 25 } : Room) s m ([.ref a0, .int p1, .int p2, .int p3, .int p4] : List Value).toArray below meth c H locs 0 0 Q (F0 m 98 ls [.int z2_7, .int x127, .ref a0]) := by
                    intro H locs ls z2_7 hr_z2_7 hP hD hS hl
                    refine lv_iload_n hx hb dX6_findsRoom_98 rfl (lv_at hl 3 rfl) ?_
                    refine lv_iload hx hb dX6_findsRoom_99 (lv_at hl 4 rfl) ?_
                    have hPc := hP.sub (ws' := [(a0, .inr (6, [.int i0, .ref a1, .ref a2, .ref a3]))]) [0] rfl
                    have hDc := hD.sub (ws' := [(a0, .inr (6, [.int i0, .ref a1, .ref a2, .ref a3]))]) [0] (by decide) rfl
                    have hFc := va_free (wc := [(a0, .inr (6, [.int i0, .ref a1, .ref a2, .ref a3]))]) hD hS hA [0] rfl
                    refine va_calli (va_runS (As := [.ref a0, .int x127, .int z2_7, .int p3, .int p4]) (rest := []) ⟨hx, hb, hml, hown, hwd⟩ (s_X6_findsRoom_8 l dC dI cI cZ cB cJ cM cG a0 a1 a2 a3 i0 x127 z2_7 p3 p4 H.size (show (0 : Int) ≤ i0.toInt ∧ i0.toInt ≤ 8 from ⟨by omega, by omega⟩) (show (8 : Int) ≤ x127.toInt ∧ x127.toInt ≤ 8 from ⟨by omega, by omega⟩)) (cwS 5 hwd (gS kr55_1 kr55_2 kr2_11 kr55_3) rfl rfl rfl (by decide +kernel) ⟨Nat.le_of_ble_eq_true rfl, Nat.le_of_ble_eq_true rfl⟩) (kPreS hPc hK hDc) rfl rfl hl.1 rfl (lv_room (Nat.le_of_ble_eq_true rfl)) dX6_findsRoom_101 ⟨Nat.le_of_ble_eq_true rfl, Nat.le_of_ble_eq_true rfl⟩) hS (fun q _ h => hFc q h) hFc (fun r134 u135 t H1 locs ht9 hvm hw hB hz1 hk1 hS => ?_)
                    obtain ⟨hw136, -⟩ := hw
                    have hw136 : (1 : Int) ≤ r134.toInt ∧ r134.toInt ≤ 1 := hw136
                    obtain ⟨hP1, hD1⟩ := hB
                    rw [ht9] at hP1
                    obtain ⟨hP, hD⟩ := va_join (wr := [(a1, .inl (cI, 8, .inl xF0)), (a2, .inl (cI, 8, .inl f126)), (a3, .inl (cI, 8, .inl f125))]) (w1 := [(a0, .inr (6, [.int i0, .ref a1, .ref a2, .ref a3]))]) hP hD [0] [1, 2, 3] rfl rfl (by decide) (by decide) hk1 hFc hP1 hD1
                    generalize H1 = H at hP hS ⊢
                    have hP : va_P (dC, dI) vwCl [(a1, .inl (cI, 8, .inl xF0)), (a2, .inl (cI, 8, .inl f126)), (a3, .inl (cI, 8, .inl f125)), (a0, .inr (6, [.int i0, .ref a1, .ref a2, .ref a3]))] H := hP
                    have hD : va_D A [(a1, .inl (cI, 8, .inl xF0)), (a2, .inl (cI, 8, .inl f126)), (a3, .inl (cI, 8, .inl f125)), (a0, .inr (6, [.int i0, .ref a1, .ref a2, .ref a3]))] := hD
                    have er134 : r134 = 1 := (ki_eq _ _).mpr (by omega)
                    subst er134
                    refine lv_if_eq (tgt := 109) hx hb dX6_findsRoom_104 (by decide) (fun c137 => absurd c137 (by decide)) (fun c137 => ?_)
                    refine lv_iconst (v := 1) hx hb dX6_findsRoom_107 (by decide) ?_
                    have hP9 := hP.sub (ws' := [(a0, .inr (6, [.int i0, .ref a1, .ref a2, .ref a3])), (a1, .inl (cI, 8, .inl xF0)), (a2, .inl (cI, 8, .inl f126)), (a3, .inl (cI, 8, .inl f125))]) [3, 0, 1, 2] rfl
                    have hD9 := hD.sub (ws' := [(a0, .inr (6, [.int i0, .ref a1, .ref a2, .ref a3])), (a1, .inl (cI, 8, .inl xF0)), (a2, .inl (cI, 8, .inl f126)), (a3, .inl (cI, 8, .inl f125))]) [3, 0, 1, 2] (by decide) rfl
                    rw [hQ]
                    exact W.zret (v := 1) hx hb hr (by decide) (fun t ht hW => ⟨⟨1, (pickG 0 [], pickG (fun _ => 0) [f126, f125], pickG (fun _ => 0) []), rfl, ⟨(show (0 : Int) ≤ (1 : Int32).toInt ∧ (1 : Int32).toInt ≤ 1 from ⟨by omega, by omega⟩), trivial⟩, (by rw [ht]; exact hP9), hD9⟩, hS.F ht⟩) hS.2.2 dX6_findsRoom_108
                  refine lv_icmp_ne (tgt := 97) hx hb dX6_findsRoom_88 (by decide) (fun c138 => ?_) (fun c138 => ?_)
                  · rw [ki_eq] at c138
                    refine lv_iload_n hx hb dX6_findsRoom_97 rfl (lv_at hl 2 rfl) ?_
                    exact jp7 _ _ ls p2 (show (0 : Int) ≤ p2.toInt ∧ p2.toInt ≤ 2147483647 from ⟨by omega, i32_hi⟩) (hP.sub (ws' := [(a0, .inr (6, [.int i0, .ref a1, .ref a2, .ref a3])), (a1, .inl (cI, 8, .inl xF0)), (a2, .inl (cI, 8, .inl f126)), (a3, .inl (cI, 8, .inl f125))]) [0, 1, 2, 3] rfl) (hD.sub (ws' := [(a0, .inr (6, [.int i0, .ref a1, .ref a2, .ref a3])), (a1, .inl (cI, 8, .inl xF0)), (a2, .inl (cI, 8, .inl f126)), (a3, .inl (cI, 8, .inl f125))]) [0, 1, 2, 3] (by decide) rfl) hS (lv_sub hl [0, 1, 2, 3, 4, 5] rfl)
                  · rw [ki_eq] at c138
                    refine lv_iload_n hx hb dX6_findsRoom_91 rfl (lv_at hl 2 rfl) ?_
                    refine lv_iconst (v := 1) hx hb dX6_findsRoom_92 (by decide) ?_
                    refine lv_iadd hx hb dX6_findsRoom_93 ?_
                    refine lv_topi (fun x139 ex139 => ?_)
                    have tx139 := ia_add (a := p2) (b := (1 : Int32)) (by omega) (by omega)
                    rw [← ex139] at tx139
                    refine lv_goto (tgt := 98) hx hb dX6_findsRoom_94 (by decide) ?_
                    exact jp7 _ _ ls x139 (show (0 : Int) ≤ x139.toInt ∧ x139.toInt ≤ 2147483647 from ⟨by omega, i32_hi⟩) (hP.sub (ws' := [(a0, .inr (6, [.int i0, .ref a1, .ref a2, .ref a3])), (a1, .inl (cI, 8, .inl xF0)), (a2, .inl (cI, 8, .inl f126)), (a3, .inl (cI, 8, .inl f125))]) [0, 1, 2, 3] rfl) (hD.sub (ws' := [(a0, .inr (6, [.int i0, .ref a1, .ref a2, .ref a3])), (a1, .inl (cI, 8, .inl xF0)), (a2, .inl (cI, 8, .inl f126)), (a3, .inl (cI, 8, .inl f125))]) [0, 1, 2, 3] (by decide) rfl) hS (lv_sub hl [0, 1, 2, 3, 4, 5] rfl)
      exact lp1 _ _ _ ls (0) (show (0 : Int) ≤ (0 : Int32).toInt ∧ (0 : Int32).toInt ≤ 8 from ⟨by omega, by omega⟩) (Nat.lt_succ_self _) (hP.sub (ws' := [(a0, .inr (6, [.int i0, .ref a1, .ref a2, .ref a3])), (a1, .inl (cI, 8, .inl xF0)), (a2, .inl (cI, 8, .inl xF1)), (a3, .inl (cI, 8, .inl xF2))]) [0, 1, 2, 3] rfl) (hD.sub (ws' := [(a0, .inr (6, [.int i0, .ref a1, .ref a2, .ref a3])), (a1, .inl (cI, 8, .inl xF0)), (a2, .inl (cI, 8, .inl xF1)), (a3, .inl (cI, 8, .inl xF2))]) [0, 1, 2, 3] (by decide) rfl) hS (lv_sub hl [1, 2, 3, 4, 5, 0] rfl)
    · rw [ki_lt] at c2
      exfalso
      omega
theorem dX6_findsRoom_109 : decode cX6_findsRoom 109 = .ok (.aload_n 0, 1) := by decide +kernel
theorem dX6_findsRoom_110 : decode cX6_findsRoom 110 = .ok (.getfield 16, 3) := by decide +kernel
theorem dX6_findsRoom_113 : decode cX6_findsRoom 113 = .ok (.iload 5, 2) := by decide +kernel
theorem dX6_findsRoom_115 : decode cX6_findsRoom 115 = .ok (.dup2, 1) := by decide +kernel
theorem dX6_findsRoom_116 : decode cX6_findsRoom 116 = .ok (.iaload, 1) := by decide +kernel
theorem dX6_findsRoom_117 : decode cX6_findsRoom 117 = .ok (.aload_n 0, 1) := by decide +kernel
theorem dX6_findsRoom_118 : decode cX6_findsRoom 118 = .ok (.getfield 9, 3) := by decide +kernel
theorem dX6_findsRoom_121 : decode cX6_findsRoom 121 = .ok (.iload_n 1, 1) := by decide +kernel
theorem dX6_findsRoom_122 : decode cX6_findsRoom 122 = .ok (.iaload, 1) := by decide +kernel
theorem dX6_findsRoom_123 : decode cX6_findsRoom 123 = .ok (.isub, 1) := by decide +kernel
theorem dX6_findsRoom_124 : decode cX6_findsRoom 124 = .ok (.iastore, 1) := by decide +kernel
set_option maxHeartbeats 4000000 in
set_option maxRecDepth 100000 in
theorem s_X6_findsRoom_6 (l : Launch) (dC : Nat → ClassId) (dI : Nat → Nat → Nat) (cI cZ cB cJ cM cG : ClassId) (a0 a1 a2 a3 : Nat) (i0 : Int32) (xF0 xF1 xF2 : Nat → Int32) (p1 p2 p3 p4 : Int32) (sz : Nat) (p_0 : (0 : Int) ≤ i0.toInt ∧ i0.toInt ≤ 8) (p_1 : (6 : Int) ≤ p1.toInt ∧ p1.toInt ≤ 8) : Met l yX6_findsRoom (kw yX6_findsRoom cX6_findsRoom 6 (some .boolean)) ({ frames := 2, cells := 0, slots := 0, locals := 50 } : Room) (va_Pc [.ref a0, .int p1, .int p2, .int p3, .int p4] (kPre dC dI [(cI, .int), (cZ, .boolean), (cB, .byte), (cJ, .long), (cM, .object RX2), (cG, .array .int)] [(a0, .inr (6, [.int i0, .ref a1, .ref a2, .ref a3])), (a1, .inl (cI, 8, .inl xF0)), (a2, .inl (cI, 8, .inl xF1)), (a3, .inl (cI, 8, .inl xF2))] sz)) (va_Qi (fun (r : Int32) (u9 : (Nat → Int32) × (Nat → Nat → Int32) × (Nat → Nat → Int64)) => ((0 : Int) ≤ r.toInt ∧ r.toInt ≤ 1) ∧ True) (fun u9 t => va_P (dC, dI) vwCl [(a0, .inr (6, [.int i0, .ref a1, .ref a2, .ref a3])), (a1, .inl (cI, 8, .inl xF0)), (a2, .inl (cI, 8, .inl (u9.2.1 0))), (a3, .inl (cI, 8, .inl (u9.2.1 1)))] t.heap ∧ va_D (va_A [(a0, .inr (6, [.int i0, .ref a1, .ref a2, .ref a3])), (a1, .inl (cI, 8, .inl xF0)), (a2, .inl (cI, 8, .inl xF1)), (a3, .inl (cI, 8, .inl xF2))] sz) [(a0, .inr (6, [.int i0, .ref a1, .ref a2, .ref a3])), (a1, .inl (cI, 8, .inl xF0)), (a2, .inl (cI, 8, .inl (u9.2.1 0))), (a3, .inl (cI, 8, .inl (u9.2.1 1)))]) (va_A [(a0, .inr (6, [.int i0, .ref a1, .ref a2, .ref a3])), (a1, .inl (cI, 8, .inl xF0)), (a2, .inl (cI, 8, .inl xF1)), (a3, .inl (cI, 8, .inl xF2))] sz)) 0 0 (va_A [(a0, .inr (6, [.int i0, .ref a1, .ref a2, .ref a3])), (a1, .inl (cI, 8, .inl xF0)), (a2, .inl (cI, 8, .inl xF1)), (a3, .inl (cI, 8, .inl xF2))] sz) := by
  refine kEnter (by decide) (Nat.le_of_ble_eq_true rfl) ?_
  intro p e s m below meth c ls hx hb hr hml hown hlocks hin hwd hsz hP hK hD hl
  subst hsz
  generalize hAe : va_A [(a0, .inr (6, [.int i0, .ref a1, .ref a2, .ref a3])), (a1, .inl (cI, 8, .inl xF0)), (a2, .inl (cI, 8, .inl xF1)), (a3, .inl (cI, 8, .inl xF2))] s.heap.size = A at hD ⊢
  have hA : ∀ q : Nat, s.heap.size ≤ q → A q := fun q h => by rw [← hAe]; exact Or.inr h
  have hS : va_S A s.heap s.heap [] := va_S.rf
  have hl : lv_has ls 6 [(0, .ref a0), (1, .int p1), (2, .int p2), (3, .int p3), (4, .int p4)] := hl
  obtain ⟨Q, hQ⟩ : ∃ Q, Q = MQ below (va_Qi (fun (r : Int32) (u9 : (Nat → Int32) × (Nat → Nat → Int32) × (Nat → Nat → Int64)) => ((0 : Int) ≤ r.toInt ∧ r.toInt ≤ 1) ∧ True) (fun u9 t => va_P (dC, dI) vwCl [(a0, .inr (6, [.int i0, .ref a1, .ref a2, .ref a3])), (a1, .inl (cI, 8, .inl xF0)), (a2, .inl (cI, 8, .inl (u9.2.1 0))), (a3, .inl (cI, 8, .inl (u9.2.1 1)))] t.heap ∧ va_D A [(a0, .inr (6, [.int i0, .ref a1, .ref a2, .ref a3])), (a1, .inl (cI, 8, .inl xF0)), (a2, .inl (cI, 8, .inl (u9.2.1 0))), (a3, .inl (cI, 8, .inl (u9.2.1 1)))]) A) ([.ref a0, .int p1, .int p2, .int p3, .int p4] : List Value).toArray s 0 0 A := ⟨_, rfl⟩
  rw [← hQ]
  have k0 : (0 : Int32).toInt = 0 := by decide
  have k1 : (1 : Int32).toInt = 1 := by decide
  have k8 : (8 : Int32).toInt = 8 := by decide
  refine lv_iload_n hx hb dX6_findsRoom_0 rfl (lv_at hl 1 rfl) ?_
  refine lv_aload_n hx hb dX6_findsRoom_1 rfl (lv_at hl 0 rfl) ?_
  refine va_get (D := (dC, dI)) (ci := 6) (v := .int i0) (C := RX6) (T := TX6) (N := 4) hx hb hwd inlX6 hown hK hP 0 rfl rfl 0 (by decide) (hwd _ kr54_20) (fun _ h9 => h9) rfl dX6_findsRoom_2 ?_
  refine lv_icmp_ge (tgt := 14) hx hb dX6_findsRoom_5 (by decide) (fun c1 => ?_) (fun c1 => ?_)
  · rw [ki_le] at c1
    refine lv_iconst (v := 1) hx hb dX6_findsRoom_14 (by decide) ?_
    have hP9 := hP.sub (ws' := [(a0, .inr (6, [.int i0, .ref a1, .ref a2, .ref a3])), (a1, .inl (cI, 8, .inl xF0)), (a2, .inl (cI, 8, .inl xF1)), (a3, .inl (cI, 8, .inl xF2))]) [0, 1, 2, 3] rfl
    have hD9 := hD.sub (ws' := [(a0, .inr (6, [.int i0, .ref a1, .ref a2, .ref a3])), (a1, .inl (cI, 8, .inl xF0)), (a2, .inl (cI, 8, .inl xF1)), (a3, .inl (cI, 8, .inl xF2))]) [0, 1, 2, 3] (by decide) rfl
    rw [hQ]
    exact W.zret (v := 1) hx hb hr (by decide) (fun t ht hW => ⟨⟨1, (pickG 0 [], pickG (fun _ => 0) [xF1, xF2], pickG (fun _ => 0) []), rfl, ⟨(show (0 : Int) ≤ (1 : Int32).toInt ∧ (1 : Int32).toInt ≤ 1 from ⟨by omega, by omega⟩), trivial⟩, (by rw [ht]; exact hP9), hD9⟩, hS.F ht⟩) hS.2.2 dX6_findsRoom_15
  · rw [ki_le] at c1
    refine lv_iload_n hx hb dX6_findsRoom_8 rfl (lv_at hl 1 rfl) ?_
    refine lv_bipush (v := 8) hx hb dX6_findsRoom_9 (by decide) ?_
    refine lv_icmp_lt (tgt := 16) hx hb dX6_findsRoom_11 (by decide) (fun c2 => ?_) (fun c2 => ?_)
    · rw [ki_lt] at c2
      refine lv_iconst (v := 0) hx hb dX6_findsRoom_16 (by decide) ?_
      refine lv_istore (lv' := [(5, .int 0), (0, .ref a0), (1, .int p1), (2, .int p2), (3, .int p3), (4, .int p4)]) hx hb dX6_findsRoom_17 hl (by decide) rfl (fun ls hl => ?_)
      have lp1 : ∀ (d : Nat), ∀ (H : Heap) (locs : List Loc) (ls : Array Slot) (w5_1 : Int32) (g1_1 : Nat → Int32) (g2_1 : Nat → Int32), ((0 : Int) ≤ w5_1.toInt ∧ w5_1.toInt ≤ 8) → (8 - w5_1.toInt).toNat < d → va_P (dC, dI) vwCl [(a0, .inr (6, [.int i0, .ref a1, .ref a2, .ref a3])), (a1, .inl (cI, 8, .inl xF0)), (a2, .inl (cI, 8, .inl g1_1)), (a3, .inl (cI, 8, .inl g2_1))] H → va_D A [(a0, .inr (6, [.int i0, .ref a1, .ref a2, .ref a3])), (a1, .inl (cI, 8, .inl xF0)), (a2, .inl (cI, 8, .inl g1_1)), (a3, .inl (cI, 8, .inl g2_1))] → va_S A s.heap H locs → lv_has ls 6 [(0, .ref a0), (1, .int p1), (2, .int p2), (3, .int p3), (4, .int p4), (5, .int w5_1)] → W p l e ({ frames := 2, cells := 0, slots := 0, locals := 50 } : Room) s m ([.ref a0, .int p1, .int p2, .int p3, .int p4] : List Value).toArray below meth c H locs 0 0 Q (F0 m 19 ls []) := by
        intro d
        induction d with
        | zero =>
          intro H locs ls w5_1 g1_1 g2_1 hr_w5_1 hm hP hD hS hl
          omega
        | succ d ih1 =>
          intro H locs ls w5_1 g1_1 g2_1 hr_w5_1 hm hP hD hS hl
          refine lv_iload hx hb dX6_findsRoom_19 (lv_at hl 5 rfl) ?_
          refine lv_iload_n hx hb dX6_findsRoom_21 rfl (lv_at hl 2 rfl) ?_
          refine lv_icmp_gt (tgt := 131) hx hb dX6_findsRoom_22 (by decide) (fun c146 => ?_) (fun c146 => ?_)
          · rw [ki_lt] at c146
            refine lv_iconst (v := 0) hx hb dX6_findsRoom_131 (by decide) ?_
            have hP9 := hP.sub (ws' := [(a0, .inr (6, [.int i0, .ref a1, .ref a2, .ref a3])), (a1, .inl (cI, 8, .inl xF0)), (a2, .inl (cI, 8, .inl g1_1)), (a3, .inl (cI, 8, .inl g2_1))]) [0, 1, 2, 3] rfl
            have hD9 := hD.sub (ws' := [(a0, .inr (6, [.int i0, .ref a1, .ref a2, .ref a3])), (a1, .inl (cI, 8, .inl xF0)), (a2, .inl (cI, 8, .inl g1_1)), (a3, .inl (cI, 8, .inl g2_1))]) [0, 1, 2, 3] (by decide) rfl
            rw [hQ]
            exact W.zret (v := 0) hx hb hr (by decide) (fun t ht hW => ⟨⟨0, (pickG 0 [], pickG (fun _ => 0) [g1_1, g2_1], pickG (fun _ => 0) []), rfl, ⟨(show (0 : Int) ≤ (0 : Int32).toInt ∧ (0 : Int32).toInt ≤ 1 from ⟨by omega, by omega⟩), trivial⟩, (by rw [ht]; exact hP9), hD9⟩, hS.F ht⟩) hS.2.2 dX6_findsRoom_132
          · rw [ki_lt] at c146
            refine lv_iload hx hb dX6_findsRoom_25 (lv_at hl 5 rfl) ?_
            refine lv_iload_n hx hb dX6_findsRoom_27 rfl (lv_at hl 3 rfl) ?_
            refine lv_icmp_ge (tgt := 131) hx hb dX6_findsRoom_28 (by decide) (fun c147 => ?_) (fun c147 => ?_)
            · rw [ki_le] at c147
              refine lv_iconst (v := 0) hx hb dX6_findsRoom_131 (by decide) ?_
              have hP9 := hP.sub (ws' := [(a0, .inr (6, [.int i0, .ref a1, .ref a2, .ref a3])), (a1, .inl (cI, 8, .inl xF0)), (a2, .inl (cI, 8, .inl g1_1)), (a3, .inl (cI, 8, .inl g2_1))]) [0, 1, 2, 3] rfl
              have hD9 := hD.sub (ws' := [(a0, .inr (6, [.int i0, .ref a1, .ref a2, .ref a3])), (a1, .inl (cI, 8, .inl xF0)), (a2, .inl (cI, 8, .inl g1_1)), (a3, .inl (cI, 8, .inl g2_1))]) [0, 1, 2, 3] (by decide) rfl
              rw [hQ]
              exact W.zret (v := 0) hx hb hr (by decide) (fun t ht hW => ⟨⟨0, (pickG 0 [], pickG (fun _ => 0) [g1_1, g2_1], pickG (fun _ => 0) []), rfl, ⟨(show (0 : Int) ≤ (0 : Int32).toInt ∧ (0 : Int32).toInt ≤ 1 from ⟨by omega, by omega⟩), trivial⟩, (by rw [ht]; exact hP9), hD9⟩, hS.F ht⟩) hS.2.2 dX6_findsRoom_132
            · rw [ki_le] at c147
              refine lv_iload hx hb dX6_findsRoom_31 (lv_at hl 5 rfl) ?_
              refine lv_bipush (v := 8) hx hb dX6_findsRoom_33 (by decide) ?_
              refine lv_icmp_ge (tgt := 131) hx hb dX6_findsRoom_35 (by decide) (fun c148 => ?_) (fun c148 => ?_)
              · rw [ki_le] at c148
                refine lv_iconst (v := 0) hx hb dX6_findsRoom_131 (by decide) ?_
                have hP9 := hP.sub (ws' := [(a0, .inr (6, [.int i0, .ref a1, .ref a2, .ref a3])), (a1, .inl (cI, 8, .inl xF0)), (a2, .inl (cI, 8, .inl g1_1)), (a3, .inl (cI, 8, .inl g2_1))]) [0, 1, 2, 3] rfl
                have hD9 := hD.sub (ws' := [(a0, .inr (6, [.int i0, .ref a1, .ref a2, .ref a3])), (a1, .inl (cI, 8, .inl xF0)), (a2, .inl (cI, 8, .inl g1_1)), (a3, .inl (cI, 8, .inl g2_1))]) [0, 1, 2, 3] (by decide) rfl
                rw [hQ]
                exact W.zret (v := 0) hx hb hr (by decide) (fun t ht hW => ⟨⟨0, (pickG 0 [], pickG (fun _ => 0) [g1_1, g2_1], pickG (fun _ => 0) []), rfl, ⟨(show (0 : Int) ≤ (0 : Int32).toInt ∧ (0 : Int32).toInt ≤ 1 from ⟨by omega, by omega⟩), trivial⟩, (by rw [ht]; exact hP9), hD9⟩, hS.F ht⟩) hS.2.2 dX6_findsRoom_132
              · rw [ki_le] at c148
                refine lv_aload_n hx hb dX6_findsRoom_38 rfl (lv_at hl 0 rfl) ?_
                refine va_get (D := (dC, dI)) (ci := 6) (v := .ref a3) (C := RX6) (T := TX6) (N := 4) hx hb hwd inlX6 hown hK hP 0 rfl rfl 3 (by decide) (hwd _ kr4_17) (fun _ h9 => h9) rfl dX6_findsRoom_39 ?_
                refine lv_iload hx hb dX6_findsRoom_42 (lv_at hl 5 rfl) ?_
                have h149 : vp_in w5_1 8 := (vp_of (by omega) (by omega))
                refine va_iald hx hb hK hP 3 0 rfl rfl h149 dX6_findsRoom_44 ?_
                refine lv_topi (fun x150 ex150 => ?_)
                refine lv_aload_n hx hb dX6_findsRoom_45 rfl (lv_at hl 0 rfl) ?_
                refine va_get (D := (dC, dI)) (ci := 6) (v := .ref a1) (C := RX6) (T := TX6) (N := 4) hx hb hwd inlX6 hown hK hP 0 rfl rfl 1 (by decide) (hwd _ kr4_15) (fun _ h9 => h9) rfl dX6_findsRoom_46 ?_
                refine lv_iload_n hx hb dX6_findsRoom_49 rfl (lv_at hl 1 rfl) ?_
                have h151 : vp_in p1 8 := (vp_of (by omega) (by omega))
                refine va_iald hx hb hK hP 1 0 rfl rfl h151 dX6_findsRoom_50 ?_
                refine lv_topi (fun x152 ex152 => ?_)
                refine lv_iadd hx hb dX6_findsRoom_51 ?_
                refine lv_topi (fun x153 ex153 => ?_)
                refine lv_iload hx hb dX6_findsRoom_52 (lv_at hl 4 rfl) ?_
                refine lv_icmp_gt (tgt := 125) hx hb dX6_findsRoom_54 (by decide) (fun c154 => ?_) (fun c154 => ?_)
                · rw [ki_lt] at c154
                  obtain ⟨x155, ex155⟩ : ∃ y : Int32, y = w5_1 + 1 := ⟨_, rfl⟩
                  refine lv_iinc (v := x155) (lv' := [(5, .int x155), (0, .ref a0), (1, .int p1), (2, .int p2), (3, .int p3), (4, .int p4)]) hx hb dX6_findsRoom_125 hl (k := 5) rfl (by rw [ex155]; rfl) (by decide) rfl (fun ls hl => ?_)
                  have tx155 := ia_add (a := w5_1) (b := (1 : Int32)) (by omega) (by omega)
                  rw [← ex155] at tx155
                  refine lv_goto (tgt := 19) hx hb dX6_findsRoom_128 (by decide) ?_
                  exact ih1 _ _ ls x155 g1_1 g2_1 (show (0 : Int) ≤ x155.toInt ∧ x155.toInt ≤ 8 from ⟨by omega, by omega⟩) (by omega) (hP.sub (ws' := [(a0, .inr (6, [.int i0, .ref a1, .ref a2, .ref a3])), (a1, .inl (cI, 8, .inl xF0)), (a2, .inl (cI, 8, .inl g1_1)), (a3, .inl (cI, 8, .inl g2_1))]) [0, 1, 2, 3] rfl) (hD.sub (ws' := [(a0, .inr (6, [.int i0, .ref a1, .ref a2, .ref a3])), (a1, .inl (cI, 8, .inl xF0)), (a2, .inl (cI, 8, .inl g1_1)), (a3, .inl (cI, 8, .inl g2_1))]) [0, 1, 2, 3] (by decide) rfl) hS (lv_sub hl [1, 2, 3, 4, 5, 0] rfl)
                · rw [ki_lt] at c154
                  refine lv_aload_n hx hb dX6_findsRoom_57 rfl (lv_at hl 0 rfl) ?_
                  refine va_get (D := (dC, dI)) (ci := 6) (v := .ref a3) (C := RX6) (T := TX6) (N := 4) hx hb hwd inlX6 hown hK hP 0 rfl rfl 3 (by decide) (hwd _ kr4_17) (fun _ h9 => h9) rfl dX6_findsRoom_58 ?_
                  refine lv_iload hx hb dX6_findsRoom_61 (lv_at hl 5 rfl) ?_
                  refine lv_dup2_11 hx hb dX6_findsRoom_63 rfl rfl ?_
                  have h156 : vp_in w5_1 8 := (vp_of (by omega) (by omega))
                  refine va_iald hx hb hK hP 3 0 rfl rfl h156 dX6_findsRoom_64 ?_
                  refine lv_topi (nm_r (e' := x150) ex150.symm ?_)
                  refine lv_aload_n hx hb dX6_findsRoom_65 rfl (lv_at hl 0 rfl) ?_
                  refine va_get (D := (dC, dI)) (ci := 6) (v := .ref a1) (C := RX6) (T := TX6) (N := 4) hx hb hwd inlX6 hown hK hP 0 rfl rfl 1 (by decide) (hwd _ kr4_15) (fun _ h9 => h9) rfl dX6_findsRoom_66 ?_
                  refine lv_iload_n hx hb dX6_findsRoom_69 rfl (lv_at hl 1 rfl) ?_
                  have h157 : vp_in p1 8 := (vp_of (by omega) (by omega))
                  refine va_iald hx hb hK hP 1 0 rfl rfl h157 dX6_findsRoom_70 ?_
                  refine lv_topi (nm_r (e' := x152) ex152.symm ?_)
                  refine lv_iadd hx hb dX6_findsRoom_71 ?_
                  refine lv_topi (fun x158 ex158 => ?_)
                  refine va_iast hx hb hK hP hD hS 3 0 rfl rfl (vp_of (by omega) (by omega)) dX6_findsRoom_72 (fun H locs hP hD hS => ?_)
                  obtain ⟨f159, ef159⟩ : ∃ f, f = upd g2_1 w5_1.toNatClampNeg x158 := ⟨_, rfl⟩
                  have hP : va_P (dC, dI) vwCl [(a0, .inr (6, [.int i0, .ref a1, .ref a2, .ref a3])), (a1, .inl (cI, 8, .inl xF0)), (a2, .inl (cI, 8, .inl g1_1)), (a3, .inl (cI, 8, .inl f159))] H := by rw [ef159]; exact hP
                  have hD : va_D A [(a0, .inr (6, [.int i0, .ref a1, .ref a2, .ref a3])), (a1, .inl (cI, 8, .inl xF0)), (a2, .inl (cI, 8, .inl g1_1)), (a3, .inl (cI, 8, .inl f159))] := by rw [ef159]; exact hD
                  refine lv_aload_n hx hb dX6_findsRoom_73 rfl (lv_at hl 0 rfl) ?_
                  refine va_get (D := (dC, dI)) (ci := 6) (v := .ref a2) (C := RX6) (T := TX6) (N := 4) hx hb hwd inlX6 hown hK hP 0 rfl rfl 2 (by decide) (hwd _ kr4_16) (fun _ h9 => h9) rfl dX6_findsRoom_74 ?_
                  refine lv_iload_n hx hb dX6_findsRoom_77 rfl (lv_at hl 1 rfl) ?_
                  refine lv_iload hx hb dX6_findsRoom_78 (lv_at hl 5 rfl) ?_
                  refine va_iast hx hb hK hP hD hS 2 0 rfl rfl (vp_of (by omega) (by omega)) dX6_findsRoom_80 (fun H locs hP hD hS => ?_)
                  obtain ⟨f160, ef160⟩ : ∃ f, f = upd g1_1 p1.toNatClampNeg w5_1 := ⟨_, rfl⟩
                  have hP : va_P (dC, dI) vwCl [(a0, .inr (6, [.int i0, .ref a1, .ref a2, .ref a3])), (a1, .inl (cI, 8, .inl xF0)), (a2, .inl (cI, 8, .inl f160)), (a3, .inl (cI, 8, .inl f159))] H := by rw [ef160]; exact hP
                  have hD : va_D A [(a0, .inr (6, [.int i0, .ref a1, .ref a2, .ref a3])), (a1, .inl (cI, 8, .inl xF0)), (a2, .inl (cI, 8, .inl f160)), (a3, .inl (cI, 8, .inl f159))] := by rw [ef160]; exact hD
                  refine lv_aload_n hx hb dX6_findsRoom_81 rfl (lv_at hl 0 rfl) ?_
                  refine lv_iload_n hx hb dX6_findsRoom_82 rfl (lv_at hl 1 rfl) ?_
                  refine lv_iconst (v := 1) hx hb dX6_findsRoom_83 (by decide) ?_
                  refine lv_iadd hx hb dX6_findsRoom_84 ?_
                  refine lv_topi (fun x161 ex161 => ?_)
                  have tx161 := ia_add (a := p1) (b := (1 : Int32)) (by omega) (by omega)
                  rw [← ex161] at tx161
                  refine lv_iload hx hb dX6_findsRoom_85 (lv_at hl 5 rfl) ?_
                  refine lv_iload_n hx hb dX6_findsRoom_87 rfl (lv_at hl 2 rfl) ?_
                  have jp7 : ∀ (H : Heap) (locs : List Loc) (ls : Array Slot) (z2_7 : Int32), ((0 : Int) ≤ z2_7.toInt ∧ z2_7.toInt ≤ 2147483647) → va_P (dC, dI) vwCl [(a0, .inr (6, [.int i0, .ref a1, .ref a2, .ref a3])), (a1, .inl (cI, 8, .inl xF0)), (a2, .inl (cI, 8, .inl f160)), (a3, .inl (cI, 8, .inl f159))] H → va_D A [(a0, .inr (6, [.int i0, .ref a1, .ref a2, .ref a3])), (a1, .inl (cI, 8, .inl xF0)), (a2, .inl (cI, 8, .inl f160)), (a3, .inl (cI, 8, .inl f159))] → va_S A s.heap H locs → lv_has ls 6 [(0, .ref a0), (1, .int p1), (2, .int p2), (3, .int p3), (4, .int p4), (5, .int w5_1)] → W p l e ({ frames := 2, cells := 0, slots := 0, locals := 50 } : Room) s m ([.ref a0, .int p1, .int p2, .int p3, .int p4] : List Value).toArray below meth c H locs 0 0 Q (F0 m 98 ls [.int z2_7, .int x161, .ref a0]) := by
                    intro H locs ls z2_7 hr_z2_7 hP hD hS hl
                    refine lv_iload_n hx hb dX6_findsRoom_98 rfl (lv_at hl 3 rfl) ?_
                    refine lv_iload hx hb dX6_findsRoom_99 (lv_at hl 4 rfl) ?_
                    have hPc := hP.sub (ws' := [(a0, .inr (6, [.int i0, .ref a1, .ref a2, .ref a3])), (a1, .inl (cI, 8, .inl xF0)), (a2, .inl (cI, 8, .inl f160)), (a3, .inl (cI, 8, .inl f159))]) [0, 1, 2, 3] rfl
                    have hDc := hD.sub (ws' := [(a0, .inr (6, [.int i0, .ref a1, .ref a2, .ref a3])), (a1, .inl (cI, 8, .inl xF0)), (a2, .inl (cI, 8, .inl f160)), (a3, .inl (cI, 8, .inl f159))]) [0, 1, 2, 3] (by decide) rfl
                    have hFc := va_free (wc := [(a0, .inr (6, [.int i0, .ref a1, .ref a2, .ref a3])), (a1, .inl (cI, 8, .inl xF0)), (a2, .inl (cI, 8, .inl f160)), (a3, .inl (cI, 8, .inl f159))]) hD hS hA [0, 1, 2, 3] rfl
                    refine va_calli (va_runS (As := [.ref a0, .int x161, .int z2_7, .int p3, .int p4]) (rest := []) ⟨hx, hb, hml, hown, hwd⟩ (s_X6_findsRoom_7 l dC dI cI cZ cB cJ cM cG a0 a1 a2 a3 i0 xF0 f160 f159 x161 z2_7 p3 p4 H.size (show (0 : Int) ≤ i0.toInt ∧ i0.toInt ≤ 8 from ⟨by omega, by omega⟩) (show (7 : Int) ≤ x161.toInt ∧ x161.toInt ≤ 8 from ⟨by omega, by omega⟩)) (cwS 5 hwd (gS kr55_1 kr55_2 kr2_11 kr55_3) rfl rfl rfl (by decide +kernel) ⟨Nat.le_of_ble_eq_true rfl, Nat.le_of_ble_eq_true rfl⟩) (kPreS hPc hK hDc) rfl rfl hl.1 rfl (lv_room (Nat.le_of_ble_eq_true rfl)) dX6_findsRoom_101 ⟨Nat.le_of_ble_eq_true rfl, Nat.le_of_ble_eq_true rfl⟩) hS (fun q _ h => hFc q h) hFc (fun r175 u176 t H1 locs ht9 hvm hw hB hz1 hk1 hS => ?_)
                    obtain ⟨u177, U177, V177⟩ := u176
                    obtain ⟨hw178, -⟩ := hw
                    have hw178 : (0 : Int) ≤ r175.toInt ∧ r175.toInt ≤ 1 := hw178
                    obtain ⟨hP1, hD1⟩ := hB
                    rw [ht9] at hP1
                    obtain ⟨hP, hD⟩ := va_join (wr := []) (w1 := [(a0, .inr (6, [.int i0, .ref a1, .ref a2, .ref a3])), (a1, .inl (cI, 8, .inl xF0)), (a2, .inl (cI, 8, .inl (U177 0))), (a3, .inl (cI, 8, .inl (U177 1)))]) hP hD [0, 1, 2, 3] [] rfl rfl (by decide) (by decide) hk1 hFc hP1 hD1
                    generalize H1 = H at hP hS ⊢
                    have hP : va_P (dC, dI) vwCl [(a0, .inr (6, [.int i0, .ref a1, .ref a2, .ref a3])), (a1, .inl (cI, 8, .inl xF0)), (a2, .inl (cI, 8, .inl (U177 0))), (a3, .inl (cI, 8, .inl (U177 1)))] H := hP
                    have hD : va_D A [(a0, .inr (6, [.int i0, .ref a1, .ref a2, .ref a3])), (a1, .inl (cI, 8, .inl xF0)), (a2, .inl (cI, 8, .inl (U177 0))), (a3, .inl (cI, 8, .inl (U177 1)))] := hD
                    refine lv_if_eq (tgt := 109) hx hb dX6_findsRoom_104 (by decide) (fun c179 => ?_) (fun c179 => ?_)
                    · rw [ki_eq] at c179
                      refine lv_aload_n hx hb dX6_findsRoom_109 rfl (lv_at hl 0 rfl) ?_
                      refine va_get (D := (dC, dI)) (ci := 6) (v := .ref a3) (C := RX6) (T := TX6) (N := 4) hx hb hwd inlX6 hown hK hP 0 rfl rfl 3 (by decide) (hwd _ kr4_17) (fun _ h9 => h9) rfl dX6_findsRoom_110 ?_
                      refine lv_iload hx hb dX6_findsRoom_113 (lv_at hl 5 rfl) ?_
                      refine lv_dup2_11 hx hb dX6_findsRoom_115 rfl rfl ?_
                      have h180 : vp_in w5_1 8 := (vp_of (by omega) (by omega))
                      refine va_iald hx hb hK hP 3 0 rfl rfl h180 dX6_findsRoom_116 ?_
                      refine lv_topi (fun x181 ex181 => ?_)
                      refine lv_aload_n hx hb dX6_findsRoom_117 rfl (lv_at hl 0 rfl) ?_
                      refine va_get (D := (dC, dI)) (ci := 6) (v := .ref a1) (C := RX6) (T := TX6) (N := 4) hx hb hwd inlX6 hown hK hP 0 rfl rfl 1 (by decide) (hwd _ kr4_15) (fun _ h9 => h9) rfl dX6_findsRoom_118 ?_
                      refine lv_iload_n hx hb dX6_findsRoom_121 rfl (lv_at hl 1 rfl) ?_
                      have h182 : vp_in p1 8 := (vp_of (by omega) (by omega))
                      refine va_iald hx hb hK hP 1 0 rfl rfl h182 dX6_findsRoom_122 ?_
                      refine lv_topi (nm_r (e' := x152) ex152.symm ?_)
                      refine lv_isub hx hb dX6_findsRoom_123 ?_
                      refine lv_topi (fun x183 ex183 => ?_)
                      refine va_iast hx hb hK hP hD hS 3 0 rfl rfl (vp_of (by omega) (by omega)) dX6_findsRoom_124 (fun H locs hP hD hS => ?_)
                      obtain ⟨f184, ef184⟩ : ∃ f, f = upd (U177 1) w5_1.toNatClampNeg x183 := ⟨_, rfl⟩
                      have hP : va_P (dC, dI) vwCl [(a0, .inr (6, [.int i0, .ref a1, .ref a2, .ref a3])), (a1, .inl (cI, 8, .inl xF0)), (a2, .inl (cI, 8, .inl (U177 0))), (a3, .inl (cI, 8, .inl f184))] H := by rw [ef184]; exact hP
                      have hD : va_D A [(a0, .inr (6, [.int i0, .ref a1, .ref a2, .ref a3])), (a1, .inl (cI, 8, .inl xF0)), (a2, .inl (cI, 8, .inl (U177 0))), (a3, .inl (cI, 8, .inl f184))] := by rw [ef184]; exact hD
                      obtain ⟨x185, ex185⟩ : ∃ y : Int32, y = w5_1 + 1 := ⟨_, rfl⟩
                      refine lv_iinc (v := x185) (lv' := [(5, .int x185), (0, .ref a0), (1, .int p1), (2, .int p2), (3, .int p3), (4, .int p4)]) hx hb dX6_findsRoom_125 hl (k := 5) rfl (by rw [ex185]; rfl) (by decide) rfl (fun ls hl => ?_)
                      have tx185 := ia_add (a := w5_1) (b := (1 : Int32)) (by omega) (by omega)
                      rw [← ex185] at tx185
                      refine lv_goto (tgt := 19) hx hb dX6_findsRoom_128 (by decide) ?_
                      exact ih1 _ _ ls x185 (U177 0) f184 (show (0 : Int) ≤ x185.toInt ∧ x185.toInt ≤ 8 from ⟨by omega, by omega⟩) (by omega) (hP.sub (ws' := [(a0, .inr (6, [.int i0, .ref a1, .ref a2, .ref a3])), (a1, .inl (cI, 8, .inl xF0)), (a2, .inl (cI, 8, .inl (U177 0))), (a3, .inl (cI, 8, .inl f184))]) [0, 1, 2, 3] rfl) (hD.sub (ws' := [(a0, .inr (6, [.int i0, .ref a1, .ref a2, .ref a3])), (a1, .inl (cI, 8, .inl xF0)), (a2, .inl (cI, 8, .inl (U177 0))), (a3, .inl (cI, 8, .inl f184))]) [0, 1, 2, 3] (by decide) rfl) hS (lv_sub hl [1, 2, 3, 4, 5, 0] rfl)
                    · rw [ki_eq] at c179
                      refine lv_iconst (v := 1) hx hb dX6_findsRoom_107 (by decide) ?_
                      have hP9 := hP.sub (ws' := [(a0, .inr (6, [.int i0, .ref a1, .ref a2, .ref a3])), (a1, .inl (cI, 8, .inl xF0)), (a2, .inl (cI, 8, .inl (U177 0))), (a3, .inl (cI, 8, .inl (U177 1)))]) [0, 1, 2, 3] rfl
                      have hD9 := hD.sub (ws' := [(a0, .inr (6, [.int i0, .ref a1, .ref a2, .ref a3])), (a1, .inl (cI, 8, .inl xF0)), (a2, .inl (cI, 8, .inl (U177 0))), (a3, .inl (cI, 8, .inl (U177 1)))]) [0, 1, 2, 3] (by decide) rfl
                      rw [hQ]
                      exact W.zret (v := 1) hx hb hr (by decide) (fun t ht hW => ⟨⟨1, (pickG 0 [], pickG (fun _ => 0) [(U177 0), (U177 1)], pickG (fun _ => 0) []), rfl, ⟨(show (0 : Int) ≤ (1 : Int32).toInt ∧ (1 : Int32).toInt ≤ 1 from ⟨by omega, by omega⟩), trivial⟩, (by rw [ht]; exact hP9), hD9⟩, hS.F ht⟩) hS.2.2 dX6_findsRoom_108
                  refine lv_icmp_ne (tgt := 97) hx hb dX6_findsRoom_88 (by decide) (fun c186 => ?_) (fun c186 => ?_)
                  · rw [ki_eq] at c186
                    refine lv_iload_n hx hb dX6_findsRoom_97 rfl (lv_at hl 2 rfl) ?_
                    exact jp7 _ _ ls p2 (show (0 : Int) ≤ p2.toInt ∧ p2.toInt ≤ 2147483647 from ⟨by omega, i32_hi⟩) (hP.sub (ws' := [(a0, .inr (6, [.int i0, .ref a1, .ref a2, .ref a3])), (a1, .inl (cI, 8, .inl xF0)), (a2, .inl (cI, 8, .inl f160)), (a3, .inl (cI, 8, .inl f159))]) [0, 1, 2, 3] rfl) (hD.sub (ws' := [(a0, .inr (6, [.int i0, .ref a1, .ref a2, .ref a3])), (a1, .inl (cI, 8, .inl xF0)), (a2, .inl (cI, 8, .inl f160)), (a3, .inl (cI, 8, .inl f159))]) [0, 1, 2, 3] (by decide) rfl) hS (lv_sub hl [0, 1, 2, 3, 4, 5] rfl)
                  · rw [ki_eq] at c186
                    refine lv_iload_n hx hb dX6_findsRoom_91 rfl (lv_at hl 2 rfl) ?_
                    refine lv_iconst (v := 1) hx hb dX6_findsRoom_92 (by decide) ?_
                    refine lv_iadd hx hb dX6_findsRoom_93 ?_
                    refine lv_topi (fun x187 ex187 => ?_)
                    have tx187 := ia_add (a := p2) (b := (1 : Int32)) (by omega) (by omega)
                    rw [← ex187] at tx187
                    refine lv_goto (tgt := 98) hx hb dX6_findsRoom_94 (by decide) ?_
                    exact jp7 _ _ ls x187 (show (0 : Int) ≤ x187.toInt ∧ x187.toInt ≤ 2147483647 from ⟨by omega, i32_hi⟩) (hP.sub (ws' := [(a0, .inr (6, [.int i0, .ref a1, .ref a2, .ref a3])), (a1, .inl (cI, 8, .inl xF0)), (a2, .inl (cI, 8, .inl f160)), (a3, .inl (cI, 8, .inl f159))]) [0, 1, 2, 3] rfl) (hD.sub (ws' := [(a0, .inr (6, [.int i0, .ref a1, .ref a2, .ref a3])), (a1, .inl (cI, 8, .inl xF0)), (a2, .inl (cI, 8, .inl f160)), (a3, .inl (cI, 8, .inl f159))]) [0, 1, 2, 3] (by decide) rfl) hS (lv_sub hl [0, 1, 2, 3, 4, 5] rfl)
      exact lp1 _ _ _ ls (0) xF1 xF2 (show (0 : Int) ≤ (0 : Int32).toInt ∧ (0 : Int32).toInt ≤ 8 from ⟨by omega, by omega⟩) (Nat.lt_succ_self _) (hP.sub (ws' := [(a0, .inr (6, [.int i0, .ref a1, .ref a2, .ref a3])), (a1, .inl (cI, 8, .inl xF0)), (a2, .inl (cI, 8, .inl xF1)), (a3, .inl (cI, 8, .inl xF2))]) [0, 1, 2, 3] rfl) (hD.sub (ws' := [(a0, .inr (6, [.int i0, .ref a1, .ref a2, .ref a3])), (a1, .inl (cI, 8, .inl xF0)), (a2, .inl (cI, 8, .inl xF1)), (a3, .inl (cI, 8, .inl xF2))]) [0, 1, 2, 3] (by decide) rfl) hS (lv_sub hl [1, 2, 3, 4, 5, 0] rfl)
    · rw [ki_lt] at c2
      exfalso
      omega
set_option maxHeartbeats 4000000 in
set_option maxRecDepth 100000 in
theorem s_X6_findsRoom_5 (l : Launch) (dC : Nat → ClassId) (dI : Nat → Nat → Nat) (cI cZ cB cJ cM cG : ClassId) (a0 a1 a2 a3 : Nat) (i0 : Int32) (xF0 xF1 xF2 : Nat → Int32) (p1 p2 p3 p4 : Int32) (sz : Nat) (p_0 : (0 : Int) ≤ i0.toInt ∧ i0.toInt ≤ 8) (p_1 : (5 : Int) ≤ p1.toInt ∧ p1.toInt ≤ 8) : Met l yX6_findsRoom (kw yX6_findsRoom cX6_findsRoom 6 (some .boolean)) ({ frames := 3, cells := 0, slots := 0, locals := 75 } : Room) (va_Pc [.ref a0, .int p1, .int p2, .int p3, .int p4] (kPre dC dI [(cI, .int), (cZ, .boolean), (cB, .byte), (cJ, .long), (cM, .object RX2), (cG, .array .int)] [(a0, .inr (6, [.int i0, .ref a1, .ref a2, .ref a3])), (a1, .inl (cI, 8, .inl xF0)), (a2, .inl (cI, 8, .inl xF1)), (a3, .inl (cI, 8, .inl xF2))] sz)) (va_Qi (fun (r : Int32) (u9 : (Nat → Int32) × (Nat → Nat → Int32) × (Nat → Nat → Int64)) => ((0 : Int) ≤ r.toInt ∧ r.toInt ≤ 1) ∧ True) (fun u9 t => va_P (dC, dI) vwCl [(a0, .inr (6, [.int i0, .ref a1, .ref a2, .ref a3])), (a1, .inl (cI, 8, .inl xF0)), (a2, .inl (cI, 8, .inl (u9.2.1 0))), (a3, .inl (cI, 8, .inl (u9.2.1 1)))] t.heap ∧ va_D (va_A [(a0, .inr (6, [.int i0, .ref a1, .ref a2, .ref a3])), (a1, .inl (cI, 8, .inl xF0)), (a2, .inl (cI, 8, .inl xF1)), (a3, .inl (cI, 8, .inl xF2))] sz) [(a0, .inr (6, [.int i0, .ref a1, .ref a2, .ref a3])), (a1, .inl (cI, 8, .inl xF0)), (a2, .inl (cI, 8, .inl (u9.2.1 0))), (a3, .inl (cI, 8, .inl (u9.2.1 1)))]) (va_A [(a0, .inr (6, [.int i0, .ref a1, .ref a2, .ref a3])), (a1, .inl (cI, 8, .inl xF0)), (a2, .inl (cI, 8, .inl xF1)), (a3, .inl (cI, 8, .inl xF2))] sz)) 0 0 (va_A [(a0, .inr (6, [.int i0, .ref a1, .ref a2, .ref a3])), (a1, .inl (cI, 8, .inl xF0)), (a2, .inl (cI, 8, .inl xF1)), (a3, .inl (cI, 8, .inl xF2))] sz) := by
  refine kEnter (by decide) (Nat.le_of_ble_eq_true rfl) ?_
  intro p e s m below meth c ls hx hb hr hml hown hlocks hin hwd hsz hP hK hD hl
  subst hsz
  generalize hAe : va_A [(a0, .inr (6, [.int i0, .ref a1, .ref a2, .ref a3])), (a1, .inl (cI, 8, .inl xF0)), (a2, .inl (cI, 8, .inl xF1)), (a3, .inl (cI, 8, .inl xF2))] s.heap.size = A at hD ⊢
  have hA : ∀ q : Nat, s.heap.size ≤ q → A q := fun q h => by rw [← hAe]; exact Or.inr h
  have hS : va_S A s.heap s.heap [] := va_S.rf
  have hl : lv_has ls 6 [(0, .ref a0), (1, .int p1), (2, .int p2), (3, .int p3), (4, .int p4)] := hl
  obtain ⟨Q, hQ⟩ : ∃ Q, Q = MQ below (va_Qi (fun (r : Int32) (u9 : (Nat → Int32) × (Nat → Nat → Int32) × (Nat → Nat → Int64)) => ((0 : Int) ≤ r.toInt ∧ r.toInt ≤ 1) ∧ True) (fun u9 t => va_P (dC, dI) vwCl [(a0, .inr (6, [.int i0, .ref a1, .ref a2, .ref a3])), (a1, .inl (cI, 8, .inl xF0)), (a2, .inl (cI, 8, .inl (u9.2.1 0))), (a3, .inl (cI, 8, .inl (u9.2.1 1)))] t.heap ∧ va_D A [(a0, .inr (6, [.int i0, .ref a1, .ref a2, .ref a3])), (a1, .inl (cI, 8, .inl xF0)), (a2, .inl (cI, 8, .inl (u9.2.1 0))), (a3, .inl (cI, 8, .inl (u9.2.1 1)))]) A) ([.ref a0, .int p1, .int p2, .int p3, .int p4] : List Value).toArray s 0 0 A := ⟨_, rfl⟩
  rw [← hQ]
  have k0 : (0 : Int32).toInt = 0 := by decide
  have k1 : (1 : Int32).toInt = 1 := by decide
  have k8 : (8 : Int32).toInt = 8 := by decide
  refine lv_iload_n hx hb dX6_findsRoom_0 rfl (lv_at hl 1 rfl) ?_
  refine lv_aload_n hx hb dX6_findsRoom_1 rfl (lv_at hl 0 rfl) ?_
  refine va_get (D := (dC, dI)) (ci := 6) (v := .int i0) (C := RX6) (T := TX6) (N := 4) hx hb hwd inlX6 hown hK hP 0 rfl rfl 0 (by decide) (hwd _ kr54_20) (fun _ h9 => h9) rfl dX6_findsRoom_2 ?_
  refine lv_icmp_ge (tgt := 14) hx hb dX6_findsRoom_5 (by decide) (fun c1 => ?_) (fun c1 => ?_)
  · rw [ki_le] at c1
    refine lv_iconst (v := 1) hx hb dX6_findsRoom_14 (by decide) ?_
    have hP9 := hP.sub (ws' := [(a0, .inr (6, [.int i0, .ref a1, .ref a2, .ref a3])), (a1, .inl (cI, 8, .inl xF0)), (a2, .inl (cI, 8, .inl xF1)), (a3, .inl (cI, 8, .inl xF2))]) [0, 1, 2, 3] rfl
    have hD9 := hD.sub (ws' := [(a0, .inr (6, [.int i0, .ref a1, .ref a2, .ref a3])), (a1, .inl (cI, 8, .inl xF0)), (a2, .inl (cI, 8, .inl xF1)), (a3, .inl (cI, 8, .inl xF2))]) [0, 1, 2, 3] (by decide) rfl
    rw [hQ]
    exact W.zret (v := 1) hx hb hr (by decide) (fun t ht hW => ⟨⟨1, (pickG 0 [], pickG (fun _ => 0) [xF1, xF2], pickG (fun _ => 0) []), rfl, ⟨(show (0 : Int) ≤ (1 : Int32).toInt ∧ (1 : Int32).toInt ≤ 1 from ⟨by omega, by omega⟩), trivial⟩, (by rw [ht]; exact hP9), hD9⟩, hS.F ht⟩) hS.2.2 dX6_findsRoom_15
  · rw [ki_le] at c1
    refine lv_iload_n hx hb dX6_findsRoom_8 rfl (lv_at hl 1 rfl) ?_
    refine lv_bipush (v := 8) hx hb dX6_findsRoom_9 (by decide) ?_
    refine lv_icmp_lt (tgt := 16) hx hb dX6_findsRoom_11 (by decide) (fun c2 => ?_) (fun c2 => ?_)
    · rw [ki_lt] at c2
      refine lv_iconst (v := 0) hx hb dX6_findsRoom_16 (by decide) ?_
      refine lv_istore (lv' := [(5, .int 0), (0, .ref a0), (1, .int p1), (2, .int p2), (3, .int p3), (4, .int p4)]) hx hb dX6_findsRoom_17 hl (by decide) rfl (fun ls hl => ?_)
      have lp1 : ∀ (d : Nat), ∀ (H : Heap) (locs : List Loc) (ls : Array Slot) (w5_1 : Int32) (g1_1 : Nat → Int32) (g2_1 : Nat → Int32), ((0 : Int) ≤ w5_1.toInt ∧ w5_1.toInt ≤ 8) → (8 - w5_1.toInt).toNat < d → va_P (dC, dI) vwCl [(a0, .inr (6, [.int i0, .ref a1, .ref a2, .ref a3])), (a1, .inl (cI, 8, .inl xF0)), (a2, .inl (cI, 8, .inl g1_1)), (a3, .inl (cI, 8, .inl g2_1))] H → va_D A [(a0, .inr (6, [.int i0, .ref a1, .ref a2, .ref a3])), (a1, .inl (cI, 8, .inl xF0)), (a2, .inl (cI, 8, .inl g1_1)), (a3, .inl (cI, 8, .inl g2_1))] → va_S A s.heap H locs → lv_has ls 6 [(0, .ref a0), (1, .int p1), (2, .int p2), (3, .int p3), (4, .int p4), (5, .int w5_1)] → W p l e ({ frames := 3, cells := 0, slots := 0, locals := 75 } : Room) s m ([.ref a0, .int p1, .int p2, .int p3, .int p4] : List Value).toArray below meth c H locs 0 0 Q (F0 m 19 ls []) := by
        intro d
        induction d with
        | zero =>
          intro H locs ls w5_1 g1_1 g2_1 hr_w5_1 hm hP hD hS hl
          omega
        | succ d ih1 =>
          intro H locs ls w5_1 g1_1 g2_1 hr_w5_1 hm hP hD hS hl
          refine lv_iload hx hb dX6_findsRoom_19 (lv_at hl 5 rfl) ?_
          refine lv_iload_n hx hb dX6_findsRoom_21 rfl (lv_at hl 2 rfl) ?_
          refine lv_icmp_gt (tgt := 131) hx hb dX6_findsRoom_22 (by decide) (fun c146 => ?_) (fun c146 => ?_)
          · rw [ki_lt] at c146
            refine lv_iconst (v := 0) hx hb dX6_findsRoom_131 (by decide) ?_
            have hP9 := hP.sub (ws' := [(a0, .inr (6, [.int i0, .ref a1, .ref a2, .ref a3])), (a1, .inl (cI, 8, .inl xF0)), (a2, .inl (cI, 8, .inl g1_1)), (a3, .inl (cI, 8, .inl g2_1))]) [0, 1, 2, 3] rfl
            have hD9 := hD.sub (ws' := [(a0, .inr (6, [.int i0, .ref a1, .ref a2, .ref a3])), (a1, .inl (cI, 8, .inl xF0)), (a2, .inl (cI, 8, .inl g1_1)), (a3, .inl (cI, 8, .inl g2_1))]) [0, 1, 2, 3] (by decide) rfl
            rw [hQ]
            exact W.zret (v := 0) hx hb hr (by decide) (fun t ht hW => ⟨⟨0, (pickG 0 [], pickG (fun _ => 0) [g1_1, g2_1], pickG (fun _ => 0) []), rfl, ⟨(show (0 : Int) ≤ (0 : Int32).toInt ∧ (0 : Int32).toInt ≤ 1 from ⟨by omega, by omega⟩), trivial⟩, (by rw [ht]; exact hP9), hD9⟩, hS.F ht⟩) hS.2.2 dX6_findsRoom_132
          · rw [ki_lt] at c146
            refine lv_iload hx hb dX6_findsRoom_25 (lv_at hl 5 rfl) ?_
            refine lv_iload_n hx hb dX6_findsRoom_27 rfl (lv_at hl 3 rfl) ?_
            refine lv_icmp_ge (tgt := 131) hx hb dX6_findsRoom_28 (by decide) (fun c147 => ?_) (fun c147 => ?_)
            · rw [ki_le] at c147
              refine lv_iconst (v := 0) hx hb dX6_findsRoom_131 (by decide) ?_
              have hP9 := hP.sub (ws' := [(a0, .inr (6, [.int i0, .ref a1, .ref a2, .ref a3])), (a1, .inl (cI, 8, .inl xF0)), (a2, .inl (cI, 8, .inl g1_1)), (a3, .inl (cI, 8, .inl g2_1))]) [0, 1, 2, 3] rfl
              have hD9 := hD.sub (ws' := [(a0, .inr (6, [.int i0, .ref a1, .ref a2, .ref a3])), (a1, .inl (cI, 8, .inl xF0)), (a2, .inl (cI, 8, .inl g1_1)), (a3, .inl (cI, 8, .inl g2_1))]) [0, 1, 2, 3] (by decide) rfl
              rw [hQ]
              exact W.zret (v := 0) hx hb hr (by decide) (fun t ht hW => ⟨⟨0, (pickG 0 [], pickG (fun _ => 0) [g1_1, g2_1], pickG (fun _ => 0) []), rfl, ⟨(show (0 : Int) ≤ (0 : Int32).toInt ∧ (0 : Int32).toInt ≤ 1 from ⟨by omega, by omega⟩), trivial⟩, (by rw [ht]; exact hP9), hD9⟩, hS.F ht⟩) hS.2.2 dX6_findsRoom_132
            · rw [ki_le] at c147
              refine lv_iload hx hb dX6_findsRoom_31 (lv_at hl 5 rfl) ?_
              refine lv_bipush (v := 8) hx hb dX6_findsRoom_33 (by decide) ?_
              refine lv_icmp_ge (tgt := 131) hx hb dX6_findsRoom_35 (by decide) (fun c148 => ?_) (fun c148 => ?_)
              · rw [ki_le] at c148
                refine lv_iconst (v := 0) hx hb dX6_findsRoom_131 (by decide) ?_
                have hP9 := hP.sub (ws' := [(a0, .inr (6, [.int i0, .ref a1, .ref a2, .ref a3])), (a1, .inl (cI, 8, .inl xF0)), (a2, .inl (cI, 8, .inl g1_1)), (a3, .inl (cI, 8, .inl g2_1))]) [0, 1, 2, 3] rfl
                have hD9 := hD.sub (ws' := [(a0, .inr (6, [.int i0, .ref a1, .ref a2, .ref a3])), (a1, .inl (cI, 8, .inl xF0)), (a2, .inl (cI, 8, .inl g1_1)), (a3, .inl (cI, 8, .inl g2_1))]) [0, 1, 2, 3] (by decide) rfl
                rw [hQ]
                exact W.zret (v := 0) hx hb hr (by decide) (fun t ht hW => ⟨⟨0, (pickG 0 [], pickG (fun _ => 0) [g1_1, g2_1], pickG (fun _ => 0) []), rfl, ⟨(show (0 : Int) ≤ (0 : Int32).toInt ∧ (0 : Int32).toInt ≤ 1 from ⟨by omega, by omega⟩), trivial⟩, (by rw [ht]; exact hP9), hD9⟩, hS.F ht⟩) hS.2.2 dX6_findsRoom_132
              · rw [ki_le] at c148
                refine lv_aload_n hx hb dX6_findsRoom_38 rfl (lv_at hl 0 rfl) ?_
                refine va_get (D := (dC, dI)) (ci := 6) (v := .ref a3) (C := RX6) (T := TX6) (N := 4) hx hb hwd inlX6 hown hK hP 0 rfl rfl 3 (by decide) (hwd _ kr4_17) (fun _ h9 => h9) rfl dX6_findsRoom_39 ?_
                refine lv_iload hx hb dX6_findsRoom_42 (lv_at hl 5 rfl) ?_
                have h149 : vp_in w5_1 8 := (vp_of (by omega) (by omega))
                refine va_iald hx hb hK hP 3 0 rfl rfl h149 dX6_findsRoom_44 ?_
                refine lv_topi (fun x150 ex150 => ?_)
                refine lv_aload_n hx hb dX6_findsRoom_45 rfl (lv_at hl 0 rfl) ?_
                refine va_get (D := (dC, dI)) (ci := 6) (v := .ref a1) (C := RX6) (T := TX6) (N := 4) hx hb hwd inlX6 hown hK hP 0 rfl rfl 1 (by decide) (hwd _ kr4_15) (fun _ h9 => h9) rfl dX6_findsRoom_46 ?_
                refine lv_iload_n hx hb dX6_findsRoom_49 rfl (lv_at hl 1 rfl) ?_
                have h151 : vp_in p1 8 := (vp_of (by omega) (by omega))
                refine va_iald hx hb hK hP 1 0 rfl rfl h151 dX6_findsRoom_50 ?_
                refine lv_topi (fun x152 ex152 => ?_)
                refine lv_iadd hx hb dX6_findsRoom_51 ?_
                refine lv_topi (fun x153 ex153 => ?_)
                refine lv_iload hx hb dX6_findsRoom_52 (lv_at hl 4 rfl) ?_
                refine lv_icmp_gt (tgt := 125) hx hb dX6_findsRoom_54 (by decide) (fun c154 => ?_) (fun c154 => ?_)
                · rw [ki_lt] at c154
                  obtain ⟨x155, ex155⟩ : ∃ y : Int32, y = w5_1 + 1 := ⟨_, rfl⟩
                  refine lv_iinc (v := x155) (lv' := [(5, .int x155), (0, .ref a0), (1, .int p1), (2, .int p2), (3, .int p3), (4, .int p4)]) hx hb dX6_findsRoom_125 hl (k := 5) rfl (by rw [ex155]; rfl) (by decide) rfl (fun ls hl => ?_)
                  have tx155 := ia_add (a := w5_1) (b := (1 : Int32)) (by omega) (by omega)
                  rw [← ex155] at tx155
                  refine lv_goto (tgt := 19) hx hb dX6_findsRoom_128 (by decide) ?_
                  exact ih1 _ _ ls x155 g1_1 g2_1 (show (0 : Int) ≤ x155.toInt ∧ x155.toInt ≤ 8 from ⟨by omega, by omega⟩) (by omega) (hP.sub (ws' := [(a0, .inr (6, [.int i0, .ref a1, .ref a2, .ref a3])), (a1, .inl (cI, 8, .inl xF0)), (a2, .inl (cI, 8, .inl g1_1)), (a3, .inl (cI, 8, .inl g2_1))]) [0, 1, 2, 3] rfl) (hD.sub (ws' := [(a0, .inr (6, [.int i0, .ref a1, .ref a2, .ref a3])), (a1, .inl (cI, 8, .inl xF0)), (a2, .inl (cI, 8, .inl g1_1)), (a3, .inl (cI, 8, .inl g2_1))]) [0, 1, 2, 3] (by decide) rfl) hS (lv_sub hl [1, 2, 3, 4, 5, 0] rfl)
                · rw [ki_lt] at c154
                  refine lv_aload_n hx hb dX6_findsRoom_57 rfl (lv_at hl 0 rfl) ?_
                  refine va_get (D := (dC, dI)) (ci := 6) (v := .ref a3) (C := RX6) (T := TX6) (N := 4) hx hb hwd inlX6 hown hK hP 0 rfl rfl 3 (by decide) (hwd _ kr4_17) (fun _ h9 => h9) rfl dX6_findsRoom_58 ?_
                  refine lv_iload hx hb dX6_findsRoom_61 (lv_at hl 5 rfl) ?_
                  refine lv_dup2_11 hx hb dX6_findsRoom_63 rfl rfl ?_
                  have h156 : vp_in w5_1 8 := (vp_of (by omega) (by omega))
                  refine va_iald hx hb hK hP 3 0 rfl rfl h156 dX6_findsRoom_64 ?_
                  refine lv_topi (nm_r (e' := x150) ex150.symm ?_)
                  refine lv_aload_n hx hb dX6_findsRoom_65 rfl (lv_at hl 0 rfl) ?_
                  refine va_get (D := (dC, dI)) (ci := 6) (v := .ref a1) (C := RX6) (T := TX6) (N := 4) hx hb hwd inlX6 hown hK hP 0 rfl rfl 1 (by decide) (hwd _ kr4_15) (fun _ h9 => h9) rfl dX6_findsRoom_66 ?_
                  refine lv_iload_n hx hb dX6_findsRoom_69 rfl (lv_at hl 1 rfl) ?_
                  have h157 : vp_in p1 8 := (vp_of (by omega) (by omega))
                  refine va_iald hx hb hK hP 1 0 rfl rfl h157 dX6_findsRoom_70 ?_
                  refine lv_topi (nm_r (e' := x152) ex152.symm ?_)
                  refine lv_iadd hx hb dX6_findsRoom_71 ?_
                  refine lv_topi (fun x158 ex158 => ?_)
                  refine va_iast hx hb hK hP hD hS 3 0 rfl rfl (vp_of (by omega) (by omega)) dX6_findsRoom_72 (fun H locs hP hD hS => ?_)
                  obtain ⟨f159, ef159⟩ : ∃ f, f = upd g2_1 w5_1.toNatClampNeg x158 := ⟨_, rfl⟩
                  have hP : va_P (dC, dI) vwCl [(a0, .inr (6, [.int i0, .ref a1, .ref a2, .ref a3])), (a1, .inl (cI, 8, .inl xF0)), (a2, .inl (cI, 8, .inl g1_1)), (a3, .inl (cI, 8, .inl f159))] H := by rw [ef159]; exact hP
                  have hD : va_D A [(a0, .inr (6, [.int i0, .ref a1, .ref a2, .ref a3])), (a1, .inl (cI, 8, .inl xF0)), (a2, .inl (cI, 8, .inl g1_1)), (a3, .inl (cI, 8, .inl f159))] := by rw [ef159]; exact hD
                  refine lv_aload_n hx hb dX6_findsRoom_73 rfl (lv_at hl 0 rfl) ?_
                  refine va_get (D := (dC, dI)) (ci := 6) (v := .ref a2) (C := RX6) (T := TX6) (N := 4) hx hb hwd inlX6 hown hK hP 0 rfl rfl 2 (by decide) (hwd _ kr4_16) (fun _ h9 => h9) rfl dX6_findsRoom_74 ?_
                  refine lv_iload_n hx hb dX6_findsRoom_77 rfl (lv_at hl 1 rfl) ?_
                  refine lv_iload hx hb dX6_findsRoom_78 (lv_at hl 5 rfl) ?_
                  refine va_iast hx hb hK hP hD hS 2 0 rfl rfl (vp_of (by omega) (by omega)) dX6_findsRoom_80 (fun H locs hP hD hS => ?_)
                  obtain ⟨f160, ef160⟩ : ∃ f, f = upd g1_1 p1.toNatClampNeg w5_1 := ⟨_, rfl⟩
                  have hP : va_P (dC, dI) vwCl [(a0, .inr (6, [.int i0, .ref a1, .ref a2, .ref a3])), (a1, .inl (cI, 8, .inl xF0)), (a2, .inl (cI, 8, .inl f160)), (a3, .inl (cI, 8, .inl f159))] H := by rw [ef160]; exact hP
                  have hD : va_D A [(a0, .inr (6, [.int i0, .ref a1, .ref a2, .ref a3])), (a1, .inl (cI, 8, .inl xF0)), (a2, .inl (cI, 8, .inl f160)), (a3, .inl (cI, 8, .inl f159))] := by rw [ef160]; exact hD
                  refine lv_aload_n hx hb dX6_findsRoom_81 rfl (lv_at hl 0 rfl) ?_
                  refine lv_iload_n hx hb dX6_findsRoom_82 rfl (lv_at hl 1 rfl) ?_
                  refine lv_iconst (v := 1) hx hb dX6_findsRoom_83 (by decide) ?_
                  refine lv_iadd hx hb dX6_findsRoom_84 ?_
                  refine lv_topi (fun x161 ex161 => ?_)
                  have tx161 := ia_add (a := p1) (b := (1 : Int32)) (by omega) (by omega)
                  rw [← ex161] at tx161
                  refine lv_iload hx hb dX6_findsRoom_85 (lv_at hl 5 rfl) ?_
                  refine lv_iload_n hx hb dX6_findsRoom_87 rfl (lv_at hl 2 rfl) ?_
                  have jp7 : ∀ (H : Heap) (locs : List Loc) (ls : Array Slot) (z2_7 : Int32), ((0 : Int) ≤ z2_7.toInt ∧ z2_7.toInt ≤ 2147483647) → va_P (dC, dI) vwCl [(a0, .inr (6, [.int i0, .ref a1, .ref a2, .ref a3])), (a1, .inl (cI, 8, .inl xF0)), (a2, .inl (cI, 8, .inl f160)), (a3, .inl (cI, 8, .inl f159))] H → va_D A [(a0, .inr (6, [.int i0, .ref a1, .ref a2, .ref a3])), (a1, .inl (cI, 8, .inl xF0)), (a2, .inl (cI, 8, .inl f160)), (a3, .inl (cI, 8, .inl f159))] → va_S A s.heap H locs → lv_has ls 6 [(0, .ref a0), (1, .int p1), (2, .int p2), (3, .int p3), (4, .int p4), (5, .int w5_1)] → W p l e ({ frames := 3, cells := 0, slots := 0, locals := 75 } : Room) s m ([.ref a0, .int p1, .int p2, .int p3, .int p4] : List Value).toArray below meth c H locs 0 0 Q (F0 m 98 ls [.int z2_7, .int x161, .ref a0]) := by
                    intro H locs ls z2_7 hr_z2_7 hP hD hS hl
                    refine lv_iload_n hx hb dX6_findsRoom_98 rfl (lv_at hl 3 rfl) ?_
                    refine lv_iload hx hb dX6_findsRoom_99 (lv_at hl 4 rfl) ?_
                    have hPc := hP.sub (ws' := [(a0, .inr (6, [.int i0, .ref a1, .ref a2, .ref a3])), (a1, .inl (cI, 8, .inl xF0)), (a2, .inl (cI, 8, .inl f160)), (a3, .inl (cI, 8, .inl f159))]) [0, 1, 2, 3] rfl
                    have hDc := hD.sub (ws' := [(a0, .inr (6, [.int i0, .ref a1, .ref a2, .ref a3])), (a1, .inl (cI, 8, .inl xF0)), (a2, .inl (cI, 8, .inl f160)), (a3, .inl (cI, 8, .inl f159))]) [0, 1, 2, 3] (by decide) rfl
                    have hFc := va_free (wc := [(a0, .inr (6, [.int i0, .ref a1, .ref a2, .ref a3])), (a1, .inl (cI, 8, .inl xF0)), (a2, .inl (cI, 8, .inl f160)), (a3, .inl (cI, 8, .inl f159))]) hD hS hA [0, 1, 2, 3] rfl
                    refine va_calli (va_runS (As := [.ref a0, .int x161, .int z2_7, .int p3, .int p4]) (rest := []) ⟨hx, hb, hml, hown, hwd⟩ (s_X6_findsRoom_6 l dC dI cI cZ cB cJ cM cG a0 a1 a2 a3 i0 xF0 f160 f159 x161 z2_7 p3 p4 H.size (show (0 : Int) ≤ i0.toInt ∧ i0.toInt ≤ 8 from ⟨by omega, by omega⟩) (show (6 : Int) ≤ x161.toInt ∧ x161.toInt ≤ 8 from ⟨by omega, by omega⟩)) (cwS 5 hwd (gS kr55_1 kr55_2 kr2_11 kr55_3) rfl rfl rfl (by decide +kernel) ⟨Nat.le_of_ble_eq_true rfl, Nat.le_of_ble_eq_true rfl⟩) (kPreS hPc hK hDc) rfl rfl hl.1 rfl (lv_room (Nat.le_of_ble_eq_true rfl)) dX6_findsRoom_101 ⟨Nat.le_of_ble_eq_true rfl, Nat.le_of_ble_eq_true rfl⟩) hS (fun q _ h => hFc q h) hFc (fun r175 u176 t H1 locs ht9 hvm hw hB hz1 hk1 hS => ?_)
                    obtain ⟨u177, U177, V177⟩ := u176
                    obtain ⟨hw178, -⟩ := hw
                    have hw178 : (0 : Int) ≤ r175.toInt ∧ r175.toInt ≤ 1 := hw178
                    obtain ⟨hP1, hD1⟩ := hB
                    rw [ht9] at hP1
                    obtain ⟨hP, hD⟩ := va_join (wr := []) (w1 := [(a0, .inr (6, [.int i0, .ref a1, .ref a2, .ref a3])), (a1, .inl (cI, 8, .inl xF0)), (a2, .inl (cI, 8, .inl (U177 0))), (a3, .inl (cI, 8, .inl (U177 1)))]) hP hD [0, 1, 2, 3] [] rfl rfl (by decide) (by decide) hk1 hFc hP1 hD1
                    generalize H1 = H at hP hS ⊢
                    have hP : va_P (dC, dI) vwCl [(a0, .inr (6, [.int i0, .ref a1, .ref a2, .ref a3])), (a1, .inl (cI, 8, .inl xF0)), (a2, .inl (cI, 8, .inl (U177 0))), (a3, .inl (cI, 8, .inl (U177 1)))] H := hP
                    have hD : va_D A [(a0, .inr (6, [.int i0, .ref a1, .ref a2, .ref a3])), (a1, .inl (cI, 8, .inl xF0)), (a2, .inl (cI, 8, .inl (U177 0))), (a3, .inl (cI, 8, .inl (U177 1)))] := hD
                    refine lv_if_eq (tgt := 109) hx hb dX6_findsRoom_104 (by decide) (fun c179 => ?_) (fun c179 => ?_)
                    · rw [ki_eq] at c179
                      refine lv_aload_n hx hb dX6_findsRoom_109 rfl (lv_at hl 0 rfl) ?_
                      refine va_get (D := (dC, dI)) (ci := 6) (v := .ref a3) (C := RX6) (T := TX6) (N := 4) hx hb hwd inlX6 hown hK hP 0 rfl rfl 3 (by decide) (hwd _ kr4_17) (fun _ h9 => h9) rfl dX6_findsRoom_110 ?_
                      refine lv_iload hx hb dX6_findsRoom_113 (lv_at hl 5 rfl) ?_
                      refine lv_dup2_11 hx hb dX6_findsRoom_115 rfl rfl ?_
                      have h180 : vp_in w5_1 8 := (vp_of (by omega) (by omega))
                      refine va_iald hx hb hK hP 3 0 rfl rfl h180 dX6_findsRoom_116 ?_
                      refine lv_topi (fun x181 ex181 => ?_)
                      refine lv_aload_n hx hb dX6_findsRoom_117 rfl (lv_at hl 0 rfl) ?_
                      refine va_get (D := (dC, dI)) (ci := 6) (v := .ref a1) (C := RX6) (T := TX6) (N := 4) hx hb hwd inlX6 hown hK hP 0 rfl rfl 1 (by decide) (hwd _ kr4_15) (fun _ h9 => h9) rfl dX6_findsRoom_118 ?_
                      refine lv_iload_n hx hb dX6_findsRoom_121 rfl (lv_at hl 1 rfl) ?_
                      have h182 : vp_in p1 8 := (vp_of (by omega) (by omega))
                      refine va_iald hx hb hK hP 1 0 rfl rfl h182 dX6_findsRoom_122 ?_
                      refine lv_topi (nm_r (e' := x152) ex152.symm ?_)
                      refine lv_isub hx hb dX6_findsRoom_123 ?_
                      refine lv_topi (fun x183 ex183 => ?_)
                      refine va_iast hx hb hK hP hD hS 3 0 rfl rfl (vp_of (by omega) (by omega)) dX6_findsRoom_124 (fun H locs hP hD hS => ?_)
                      obtain ⟨f184, ef184⟩ : ∃ f, f = upd (U177 1) w5_1.toNatClampNeg x183 := ⟨_, rfl⟩
                      have hP : va_P (dC, dI) vwCl [(a0, .inr (6, [.int i0, .ref a1, .ref a2, .ref a3])), (a1, .inl (cI, 8, .inl xF0)), (a2, .inl (cI, 8, .inl (U177 0))), (a3, .inl (cI, 8, .inl f184))] H := by rw [ef184]; exact hP
                      have hD : va_D A [(a0, .inr (6, [.int i0, .ref a1, .ref a2, .ref a3])), (a1, .inl (cI, 8, .inl xF0)), (a2, .inl (cI, 8, .inl (U177 0))), (a3, .inl (cI, 8, .inl f184))] := by rw [ef184]; exact hD
                      obtain ⟨x185, ex185⟩ : ∃ y : Int32, y = w5_1 + 1 := ⟨_, rfl⟩
                      refine lv_iinc (v := x185) (lv' := [(5, .int x185), (0, .ref a0), (1, .int p1), (2, .int p2), (3, .int p3), (4, .int p4)]) hx hb dX6_findsRoom_125 hl (k := 5) rfl (by rw [ex185]; rfl) (by decide) rfl (fun ls hl => ?_)
                      have tx185 := ia_add (a := w5_1) (b := (1 : Int32)) (by omega) (by omega)
                      rw [← ex185] at tx185
                      refine lv_goto (tgt := 19) hx hb dX6_findsRoom_128 (by decide) ?_
                      exact ih1 _ _ ls x185 (U177 0) f184 (show (0 : Int) ≤ x185.toInt ∧ x185.toInt ≤ 8 from ⟨by omega, by omega⟩) (by omega) (hP.sub (ws' := [(a0, .inr (6, [.int i0, .ref a1, .ref a2, .ref a3])), (a1, .inl (cI, 8, .inl xF0)), (a2, .inl (cI, 8, .inl (U177 0))), (a3, .inl (cI, 8, .inl f184))]) [0, 1, 2, 3] rfl) (hD.sub (ws' := [(a0, .inr (6, [.int i0, .ref a1, .ref a2, .ref a3])), (a1, .inl (cI, 8, .inl xF0)), (a2, .inl (cI, 8, .inl (U177 0))), (a3, .inl (cI, 8, .inl f184))]) [0, 1, 2, 3] (by decide) rfl) hS (lv_sub hl [1, 2, 3, 4, 5, 0] rfl)
                    · rw [ki_eq] at c179
                      refine lv_iconst (v := 1) hx hb dX6_findsRoom_107 (by decide) ?_
                      have hP9 := hP.sub (ws' := [(a0, .inr (6, [.int i0, .ref a1, .ref a2, .ref a3])), (a1, .inl (cI, 8, .inl xF0)), (a2, .inl (cI, 8, .inl (U177 0))), (a3, .inl (cI, 8, .inl (U177 1)))]) [0, 1, 2, 3] rfl
                      have hD9 := hD.sub (ws' := [(a0, .inr (6, [.int i0, .ref a1, .ref a2, .ref a3])), (a1, .inl (cI, 8, .inl xF0)), (a2, .inl (cI, 8, .inl (U177 0))), (a3, .inl (cI, 8, .inl (U177 1)))]) [0, 1, 2, 3] (by decide) rfl
                      rw [hQ]
                      exact W.zret (v := 1) hx hb hr (by decide) (fun t ht hW => ⟨⟨1, (pickG 0 [], pickG (fun _ => 0) [(U177 0), (U177 1)], pickG (fun _ => 0) []), rfl, ⟨(show (0 : Int) ≤ (1 : Int32).toInt ∧ (1 : Int32).toInt ≤ 1 from ⟨by omega, by omega⟩), trivial⟩, (by rw [ht]; exact hP9), hD9⟩, hS.F ht⟩) hS.2.2 dX6_findsRoom_108
                  refine lv_icmp_ne (tgt := 97) hx hb dX6_findsRoom_88 (by decide) (fun c186 => ?_) (fun c186 => ?_)
                  · rw [ki_eq] at c186
                    refine lv_iload_n hx hb dX6_findsRoom_97 rfl (lv_at hl 2 rfl) ?_
                    exact jp7 _ _ ls p2 (show (0 : Int) ≤ p2.toInt ∧ p2.toInt ≤ 2147483647 from ⟨by omega, i32_hi⟩) (hP.sub (ws' := [(a0, .inr (6, [.int i0, .ref a1, .ref a2, .ref a3])), (a1, .inl (cI, 8, .inl xF0)), (a2, .inl (cI, 8, .inl f160)), (a3, .inl (cI, 8, .inl f159))]) [0, 1, 2, 3] rfl) (hD.sub (ws' := [(a0, .inr (6, [.int i0, .ref a1, .ref a2, .ref a3])), (a1, .inl (cI, 8, .inl xF0)), (a2, .inl (cI, 8, .inl f160)), (a3, .inl (cI, 8, .inl f159))]) [0, 1, 2, 3] (by decide) rfl) hS (lv_sub hl [0, 1, 2, 3, 4, 5] rfl)
                  · rw [ki_eq] at c186
                    refine lv_iload_n hx hb dX6_findsRoom_91 rfl (lv_at hl 2 rfl) ?_
                    refine lv_iconst (v := 1) hx hb dX6_findsRoom_92 (by decide) ?_
                    refine lv_iadd hx hb dX6_findsRoom_93 ?_
                    refine lv_topi (fun x187 ex187 => ?_)
                    have tx187 := ia_add (a := p2) (b := (1 : Int32)) (by omega) (by omega)
                    rw [← ex187] at tx187
                    refine lv_goto (tgt := 98) hx hb dX6_findsRoom_94 (by decide) ?_
                    exact jp7 _ _ ls x187 (show (0 : Int) ≤ x187.toInt ∧ x187.toInt ≤ 2147483647 from ⟨by omega, i32_hi⟩) (hP.sub (ws' := [(a0, .inr (6, [.int i0, .ref a1, .ref a2, .ref a3])), (a1, .inl (cI, 8, .inl xF0)), (a2, .inl (cI, 8, .inl f160)), (a3, .inl (cI, 8, .inl f159))]) [0, 1, 2, 3] rfl) (hD.sub (ws' := [(a0, .inr (6, [.int i0, .ref a1, .ref a2, .ref a3])), (a1, .inl (cI, 8, .inl xF0)), (a2, .inl (cI, 8, .inl f160)), (a3, .inl (cI, 8, .inl f159))]) [0, 1, 2, 3] (by decide) rfl) hS (lv_sub hl [0, 1, 2, 3, 4, 5] rfl)
      exact lp1 _ _ _ ls (0) xF1 xF2 (show (0 : Int) ≤ (0 : Int32).toInt ∧ (0 : Int32).toInt ≤ 8 from ⟨by omega, by omega⟩) (Nat.lt_succ_self _) (hP.sub (ws' := [(a0, .inr (6, [.int i0, .ref a1, .ref a2, .ref a3])), (a1, .inl (cI, 8, .inl xF0)), (a2, .inl (cI, 8, .inl xF1)), (a3, .inl (cI, 8, .inl xF2))]) [0, 1, 2, 3] rfl) (hD.sub (ws' := [(a0, .inr (6, [.int i0, .ref a1, .ref a2, .ref a3])), (a1, .inl (cI, 8, .inl xF0)), (a2, .inl (cI, 8, .inl xF1)), (a3, .inl (cI, 8, .inl xF2))]) [0, 1, 2, 3] (by decide) rfl) hS (lv_sub hl [1, 2, 3, 4, 5, 0] rfl)
    · rw [ki_lt] at c2
      exfalso
      omega
set_option maxHeartbeats 4000000 in
set_option maxRecDepth 100000 in
theorem s_X6_findsRoom_4 (l : Launch) (dC : Nat → ClassId) (dI : Nat → Nat → Nat) (cI cZ cB cJ cM cG : ClassId) (a0 a1 a2 a3 : Nat) (i0 : Int32) (xF0 xF1 xF2 : Nat → Int32) (p1 p2 p3 p4 : Int32) (sz : Nat) (p_0 : (0 : Int) ≤ i0.toInt ∧ i0.toInt ≤ 8) (p_1 : (4 : Int) ≤ p1.toInt ∧ p1.toInt ≤ 8) : Met l yX6_findsRoom (kw yX6_findsRoom cX6_findsRoom 6 (some .boolean)) ({ frames := 4, cells := 0, slots := 0, locals := 100 } : Room) (va_Pc [.ref a0, .int p1, .int p2, .int p3, .int p4] (kPre dC dI [(cI, .int), (cZ, .boolean), (cB, .byte), (cJ, .long), (cM, .object RX2), (cG, .array .int)] [(a0, .inr (6, [.int i0, .ref a1, .ref a2, .ref a3])), (a1, .inl (cI, 8, .inl xF0)), (a2, .inl (cI, 8, .inl xF1)), (a3, .inl (cI, 8, .inl xF2))] sz)) (va_Qi (fun (r : Int32) (u9 : (Nat → Int32) × (Nat → Nat → Int32) × (Nat → Nat → Int64)) => ((0 : Int) ≤ r.toInt ∧ r.toInt ≤ 1) ∧ True) (fun u9 t => va_P (dC, dI) vwCl [(a0, .inr (6, [.int i0, .ref a1, .ref a2, .ref a3])), (a1, .inl (cI, 8, .inl xF0)), (a2, .inl (cI, 8, .inl (u9.2.1 0))), (a3, .inl (cI, 8, .inl (u9.2.1 1)))] t.heap ∧ va_D (va_A [(a0, .inr (6, [.int i0, .ref a1, .ref a2, .ref a3])), (a1, .inl (cI, 8, .inl xF0)), (a2, .inl (cI, 8, .inl xF1)), (a3, .inl (cI, 8, .inl xF2))] sz) [(a0, .inr (6, [.int i0, .ref a1, .ref a2, .ref a3])), (a1, .inl (cI, 8, .inl xF0)), (a2, .inl (cI, 8, .inl (u9.2.1 0))), (a3, .inl (cI, 8, .inl (u9.2.1 1)))]) (va_A [(a0, .inr (6, [.int i0, .ref a1, .ref a2, .ref a3])), (a1, .inl (cI, 8, .inl xF0)), (a2, .inl (cI, 8, .inl xF1)), (a3, .inl (cI, 8, .inl xF2))] sz)) 0 0 (va_A [(a0, .inr (6, [.int i0, .ref a1, .ref a2, .ref a3])), (a1, .inl (cI, 8, .inl xF0)), (a2, .inl (cI, 8, .inl xF1)), (a3, .inl (cI, 8, .inl xF2))] sz) := by
  refine kEnter (by decide) (Nat.le_of_ble_eq_true rfl) ?_
  intro p e s m below meth c ls hx hb hr hml hown hlocks hin hwd hsz hP hK hD hl
  subst hsz
  generalize hAe : va_A [(a0, .inr (6, [.int i0, .ref a1, .ref a2, .ref a3])), (a1, .inl (cI, 8, .inl xF0)), (a2, .inl (cI, 8, .inl xF1)), (a3, .inl (cI, 8, .inl xF2))] s.heap.size = A at hD ⊢
  have hA : ∀ q : Nat, s.heap.size ≤ q → A q := fun q h => by rw [← hAe]; exact Or.inr h
  have hS : va_S A s.heap s.heap [] := va_S.rf
  have hl : lv_has ls 6 [(0, .ref a0), (1, .int p1), (2, .int p2), (3, .int p3), (4, .int p4)] := hl
  obtain ⟨Q, hQ⟩ : ∃ Q, Q = MQ below (va_Qi (fun (r : Int32) (u9 : (Nat → Int32) × (Nat → Nat → Int32) × (Nat → Nat → Int64)) => ((0 : Int) ≤ r.toInt ∧ r.toInt ≤ 1) ∧ True) (fun u9 t => va_P (dC, dI) vwCl [(a0, .inr (6, [.int i0, .ref a1, .ref a2, .ref a3])), (a1, .inl (cI, 8, .inl xF0)), (a2, .inl (cI, 8, .inl (u9.2.1 0))), (a3, .inl (cI, 8, .inl (u9.2.1 1)))] t.heap ∧ va_D A [(a0, .inr (6, [.int i0, .ref a1, .ref a2, .ref a3])), (a1, .inl (cI, 8, .inl xF0)), (a2, .inl (cI, 8, .inl (u9.2.1 0))), (a3, .inl (cI, 8, .inl (u9.2.1 1)))]) A) ([.ref a0, .int p1, .int p2, .int p3, .int p4] : List Value).toArray s 0 0 A := ⟨_, rfl⟩
  rw [← hQ]
  have k0 : (0 : Int32).toInt = 0 := by decide
  have k1 : (1 : Int32).toInt = 1 := by decide
  have k8 : (8 : Int32).toInt = 8 := by decide
  refine lv_iload_n hx hb dX6_findsRoom_0 rfl (lv_at hl 1 rfl) ?_
  refine lv_aload_n hx hb dX6_findsRoom_1 rfl (lv_at hl 0 rfl) ?_
  refine va_get (D := (dC, dI)) (ci := 6) (v := .int i0) (C := RX6) (T := TX6) (N := 4) hx hb hwd inlX6 hown hK hP 0 rfl rfl 0 (by decide) (hwd _ kr54_20) (fun _ h9 => h9) rfl dX6_findsRoom_2 ?_
  refine lv_icmp_ge (tgt := 14) hx hb dX6_findsRoom_5 (by decide) (fun c1 => ?_) (fun c1 => ?_)
  · rw [ki_le] at c1
    refine lv_iconst (v := 1) hx hb dX6_findsRoom_14 (by decide) ?_
    have hP9 := hP.sub (ws' := [(a0, .inr (6, [.int i0, .ref a1, .ref a2, .ref a3])), (a1, .inl (cI, 8, .inl xF0)), (a2, .inl (cI, 8, .inl xF1)), (a3, .inl (cI, 8, .inl xF2))]) [0, 1, 2, 3] rfl
    have hD9 := hD.sub (ws' := [(a0, .inr (6, [.int i0, .ref a1, .ref a2, .ref a3])), (a1, .inl (cI, 8, .inl xF0)), (a2, .inl (cI, 8, .inl xF1)), (a3, .inl (cI, 8, .inl xF2))]) [0, 1, 2, 3] (by decide) rfl
    rw [hQ]
    exact W.zret (v := 1) hx hb hr (by decide) (fun t ht hW => ⟨⟨1, (pickG 0 [], pickG (fun _ => 0) [xF1, xF2], pickG (fun _ => 0) []), rfl, ⟨(show (0 : Int) ≤ (1 : Int32).toInt ∧ (1 : Int32).toInt ≤ 1 from ⟨by omega, by omega⟩), trivial⟩, (by rw [ht]; exact hP9), hD9⟩, hS.F ht⟩) hS.2.2 dX6_findsRoom_15
  · rw [ki_le] at c1
    refine lv_iload_n hx hb dX6_findsRoom_8 rfl (lv_at hl 1 rfl) ?_
    refine lv_bipush (v := 8) hx hb dX6_findsRoom_9 (by decide) ?_
    refine lv_icmp_lt (tgt := 16) hx hb dX6_findsRoom_11 (by decide) (fun c2 => ?_) (fun c2 => ?_)
    · rw [ki_lt] at c2
      refine lv_iconst (v := 0) hx hb dX6_findsRoom_16 (by decide) ?_
      refine lv_istore (lv' := [(5, .int 0), (0, .ref a0), (1, .int p1), (2, .int p2), (3, .int p3), (4, .int p4)]) hx hb dX6_findsRoom_17 hl (by decide) rfl (fun ls hl => ?_)
      have lp1 : ∀ (d : Nat), ∀ (H : Heap) (locs : List Loc) (ls : Array Slot) (w5_1 : Int32) (g1_1 : Nat → Int32) (g2_1 : Nat → Int32), ((0 : Int) ≤ w5_1.toInt ∧ w5_1.toInt ≤ 8) → (8 - w5_1.toInt).toNat < d → va_P (dC, dI) vwCl [(a0, .inr (6, [.int i0, .ref a1, .ref a2, .ref a3])), (a1, .inl (cI, 8, .inl xF0)), (a2, .inl (cI, 8, .inl g1_1)), (a3, .inl (cI, 8, .inl g2_1))] H → va_D A [(a0, .inr (6, [.int i0, .ref a1, .ref a2, .ref a3])), (a1, .inl (cI, 8, .inl xF0)), (a2, .inl (cI, 8, .inl g1_1)), (a3, .inl (cI, 8, .inl g2_1))] → va_S A s.heap H locs → lv_has ls 6 [(0, .ref a0), (1, .int p1), (2, .int p2), (3, .int p3), (4, .int p4), (5, .int w5_1)] → W p l e ({ frames := 4, cells := 0, slots := 0, locals := 100 } : Room) s m ([.ref a0, .int p1, .int p2, .int p3, .int p4] : List Value).toArray below meth c H locs 0 0 Q (F0 m 19 ls []) := by
        intro d
        induction d with
        | zero =>
          intro H locs ls w5_1 g1_1 g2_1 hr_w5_1 hm hP hD hS hl
          omega
        | succ d ih1 =>
          intro H locs ls w5_1 g1_1 g2_1 hr_w5_1 hm hP hD hS hl
          refine lv_iload hx hb dX6_findsRoom_19 (lv_at hl 5 rfl) ?_
          refine lv_iload_n hx hb dX6_findsRoom_21 rfl (lv_at hl 2 rfl) ?_
          refine lv_icmp_gt (tgt := 131) hx hb dX6_findsRoom_22 (by decide) (fun c146 => ?_) (fun c146 => ?_)
          · rw [ki_lt] at c146
            refine lv_iconst (v := 0) hx hb dX6_findsRoom_131 (by decide) ?_
            have hP9 := hP.sub (ws' := [(a0, .inr (6, [.int i0, .ref a1, .ref a2, .ref a3])), (a1, .inl (cI, 8, .inl xF0)), (a2, .inl (cI, 8, .inl g1_1)), (a3, .inl (cI, 8, .inl g2_1))]) [0, 1, 2, 3] rfl
            have hD9 := hD.sub (ws' := [(a0, .inr (6, [.int i0, .ref a1, .ref a2, .ref a3])), (a1, .inl (cI, 8, .inl xF0)), (a2, .inl (cI, 8, .inl g1_1)), (a3, .inl (cI, 8, .inl g2_1))]) [0, 1, 2, 3] (by decide) rfl
            rw [hQ]
            exact W.zret (v := 0) hx hb hr (by decide) (fun t ht hW => ⟨⟨0, (pickG 0 [], pickG (fun _ => 0) [g1_1, g2_1], pickG (fun _ => 0) []), rfl, ⟨(show (0 : Int) ≤ (0 : Int32).toInt ∧ (0 : Int32).toInt ≤ 1 from ⟨by omega, by omega⟩), trivial⟩, (by rw [ht]; exact hP9), hD9⟩, hS.F ht⟩) hS.2.2 dX6_findsRoom_132
          · rw [ki_lt] at c146
            refine lv_iload hx hb dX6_findsRoom_25 (lv_at hl 5 rfl) ?_
            refine lv_iload_n hx hb dX6_findsRoom_27 rfl (lv_at hl 3 rfl) ?_
            refine lv_icmp_ge (tgt := 131) hx hb dX6_findsRoom_28 (by decide) (fun c147 => ?_) (fun c147 => ?_)
            · rw [ki_le] at c147
              refine lv_iconst (v := 0) hx hb dX6_findsRoom_131 (by decide) ?_
              have hP9 := hP.sub (ws' := [(a0, .inr (6, [.int i0, .ref a1, .ref a2, .ref a3])), (a1, .inl (cI, 8, .inl xF0)), (a2, .inl (cI, 8, .inl g1_1)), (a3, .inl (cI, 8, .inl g2_1))]) [0, 1, 2, 3] rfl
              have hD9 := hD.sub (ws' := [(a0, .inr (6, [.int i0, .ref a1, .ref a2, .ref a3])), (a1, .inl (cI, 8, .inl xF0)), (a2, .inl (cI, 8, .inl g1_1)), (a3, .inl (cI, 8, .inl g2_1))]) [0, 1, 2, 3] (by decide) rfl
              rw [hQ]
              exact W.zret (v := 0) hx hb hr (by decide) (fun t ht hW => ⟨⟨0, (pickG 0 [], pickG (fun _ => 0) [g1_1, g2_1], pickG (fun _ => 0) []), rfl, ⟨(show (0 : Int) ≤ (0 : Int32).toInt ∧ (0 : Int32).toInt ≤ 1 from ⟨by omega, by omega⟩), trivial⟩, (by rw [ht]; exact hP9), hD9⟩, hS.F ht⟩) hS.2.2 dX6_findsRoom_132
            · rw [ki_le] at c147
              refine lv_iload hx hb dX6_findsRoom_31 (lv_at hl 5 rfl) ?_
              refine lv_bipush (v := 8) hx hb dX6_findsRoom_33 (by decide) ?_
              refine lv_icmp_ge (tgt := 131) hx hb dX6_findsRoom_35 (by decide) (fun c148 => ?_) (fun c148 => ?_)
              · rw [ki_le] at c148
                refine lv_iconst (v := 0) hx hb dX6_findsRoom_131 (by decide) ?_
                have hP9 := hP.sub (ws' := [(a0, .inr (6, [.int i0, .ref a1, .ref a2, .ref a3])), (a1, .inl (cI, 8, .inl xF0)), (a2, .inl (cI, 8, .inl g1_1)), (a3, .inl (cI, 8, .inl g2_1))]) [0, 1, 2, 3] rfl
                have hD9 := hD.sub (ws' := [(a0, .inr (6, [.int i0, .ref a1, .ref a2, .ref a3])), (a1, .inl (cI, 8, .inl xF0)), (a2, .inl (cI, 8, .inl g1_1)), (a3, .inl (cI, 8, .inl g2_1))]) [0, 1, 2, 3] (by decide) rfl
                rw [hQ]
                exact W.zret (v := 0) hx hb hr (by decide) (fun t ht hW => ⟨⟨0, (pickG 0 [], pickG (fun _ => 0) [g1_1, g2_1], pickG (fun _ => 0) []), rfl, ⟨(show (0 : Int) ≤ (0 : Int32).toInt ∧ (0 : Int32).toInt ≤ 1 from ⟨by omega, by omega⟩), trivial⟩, (by rw [ht]; exact hP9), hD9⟩, hS.F ht⟩) hS.2.2 dX6_findsRoom_132
              · rw [ki_le] at c148
                refine lv_aload_n hx hb dX6_findsRoom_38 rfl (lv_at hl 0 rfl) ?_
                refine va_get (D := (dC, dI)) (ci := 6) (v := .ref a3) (C := RX6) (T := TX6) (N := 4) hx hb hwd inlX6 hown hK hP 0 rfl rfl 3 (by decide) (hwd _ kr4_17) (fun _ h9 => h9) rfl dX6_findsRoom_39 ?_
                refine lv_iload hx hb dX6_findsRoom_42 (lv_at hl 5 rfl) ?_
                have h149 : vp_in w5_1 8 := (vp_of (by omega) (by omega))
                refine va_iald hx hb hK hP 3 0 rfl rfl h149 dX6_findsRoom_44 ?_
                refine lv_topi (fun x150 ex150 => ?_)
                refine lv_aload_n hx hb dX6_findsRoom_45 rfl (lv_at hl 0 rfl) ?_
                refine va_get (D := (dC, dI)) (ci := 6) (v := .ref a1) (C := RX6) (T := TX6) (N := 4) hx hb hwd inlX6 hown hK hP 0 rfl rfl 1 (by decide) (hwd _ kr4_15) (fun _ h9 => h9) rfl dX6_findsRoom_46 ?_
                refine lv_iload_n hx hb dX6_findsRoom_49 rfl (lv_at hl 1 rfl) ?_
                have h151 : vp_in p1 8 := (vp_of (by omega) (by omega))
                refine va_iald hx hb hK hP 1 0 rfl rfl h151 dX6_findsRoom_50 ?_
                refine lv_topi (fun x152 ex152 => ?_)
                refine lv_iadd hx hb dX6_findsRoom_51 ?_
                refine lv_topi (fun x153 ex153 => ?_)
                refine lv_iload hx hb dX6_findsRoom_52 (lv_at hl 4 rfl) ?_
                refine lv_icmp_gt (tgt := 125) hx hb dX6_findsRoom_54 (by decide) (fun c154 => ?_) (fun c154 => ?_)
                · rw [ki_lt] at c154
                  obtain ⟨x155, ex155⟩ : ∃ y : Int32, y = w5_1 + 1 := ⟨_, rfl⟩
                  refine lv_iinc (v := x155) (lv' := [(5, .int x155), (0, .ref a0), (1, .int p1), (2, .int p2), (3, .int p3), (4, .int p4)]) hx hb dX6_findsRoom_125 hl (k := 5) rfl (by rw [ex155]; rfl) (by decide) rfl (fun ls hl => ?_)
                  have tx155 := ia_add (a := w5_1) (b := (1 : Int32)) (by omega) (by omega)
                  rw [← ex155] at tx155
                  refine lv_goto (tgt := 19) hx hb dX6_findsRoom_128 (by decide) ?_
                  exact ih1 _ _ ls x155 g1_1 g2_1 (show (0 : Int) ≤ x155.toInt ∧ x155.toInt ≤ 8 from ⟨by omega, by omega⟩) (by omega) (hP.sub (ws' := [(a0, .inr (6, [.int i0, .ref a1, .ref a2, .ref a3])), (a1, .inl (cI, 8, .inl xF0)), (a2, .inl (cI, 8, .inl g1_1)), (a3, .inl (cI, 8, .inl g2_1))]) [0, 1, 2, 3] rfl) (hD.sub (ws' := [(a0, .inr (6, [.int i0, .ref a1, .ref a2, .ref a3])), (a1, .inl (cI, 8, .inl xF0)), (a2, .inl (cI, 8, .inl g1_1)), (a3, .inl (cI, 8, .inl g2_1))]) [0, 1, 2, 3] (by decide) rfl) hS (lv_sub hl [1, 2, 3, 4, 5, 0] rfl)
                · rw [ki_lt] at c154
                  refine lv_aload_n hx hb dX6_findsRoom_57 rfl (lv_at hl 0 rfl) ?_
                  refine va_get (D := (dC, dI)) (ci := 6) (v := .ref a3) (C := RX6) (T := TX6) (N := 4) hx hb hwd inlX6 hown hK hP 0 rfl rfl 3 (by decide) (hwd _ kr4_17) (fun _ h9 => h9) rfl dX6_findsRoom_58 ?_
                  refine lv_iload hx hb dX6_findsRoom_61 (lv_at hl 5 rfl) ?_
                  refine lv_dup2_11 hx hb dX6_findsRoom_63 rfl rfl ?_
                  have h156 : vp_in w5_1 8 := (vp_of (by omega) (by omega))
                  refine va_iald hx hb hK hP 3 0 rfl rfl h156 dX6_findsRoom_64 ?_
                  refine lv_topi (nm_r (e' := x150) ex150.symm ?_)
                  refine lv_aload_n hx hb dX6_findsRoom_65 rfl (lv_at hl 0 rfl) ?_
                  refine va_get (D := (dC, dI)) (ci := 6) (v := .ref a1) (C := RX6) (T := TX6) (N := 4) hx hb hwd inlX6 hown hK hP 0 rfl rfl 1 (by decide) (hwd _ kr4_15) (fun _ h9 => h9) rfl dX6_findsRoom_66 ?_
                  refine lv_iload_n hx hb dX6_findsRoom_69 rfl (lv_at hl 1 rfl) ?_
                  have h157 : vp_in p1 8 := (vp_of (by omega) (by omega))
                  refine va_iald hx hb hK hP 1 0 rfl rfl h157 dX6_findsRoom_70 ?_
                  refine lv_topi (nm_r (e' := x152) ex152.symm ?_)
                  refine lv_iadd hx hb dX6_findsRoom_71 ?_
                  refine lv_topi (fun x158 ex158 => ?_)
                  refine va_iast hx hb hK hP hD hS 3 0 rfl rfl (vp_of (by omega) (by omega)) dX6_findsRoom_72 (fun H locs hP hD hS => ?_)
                  obtain ⟨f159, ef159⟩ : ∃ f, f = upd g2_1 w5_1.toNatClampNeg x158 := ⟨_, rfl⟩
                  have hP : va_P (dC, dI) vwCl [(a0, .inr (6, [.int i0, .ref a1, .ref a2, .ref a3])), (a1, .inl (cI, 8, .inl xF0)), (a2, .inl (cI, 8, .inl g1_1)), (a3, .inl (cI, 8, .inl f159))] H := by rw [ef159]; exact hP
                  have hD : va_D A [(a0, .inr (6, [.int i0, .ref a1, .ref a2, .ref a3])), (a1, .inl (cI, 8, .inl xF0)), (a2, .inl (cI, 8, .inl g1_1)), (a3, .inl (cI, 8, .inl f159))] := by rw [ef159]; exact hD
                  refine lv_aload_n hx hb dX6_findsRoom_73 rfl (lv_at hl 0 rfl) ?_
                  refine va_get (D := (dC, dI)) (ci := 6) (v := .ref a2) (C := RX6) (T := TX6) (N := 4) hx hb hwd inlX6 hown hK hP 0 rfl rfl 2 (by decide) (hwd _ kr4_16) (fun _ h9 => h9) rfl dX6_findsRoom_74 ?_
                  refine lv_iload_n hx hb dX6_findsRoom_77 rfl (lv_at hl 1 rfl) ?_
                  refine lv_iload hx hb dX6_findsRoom_78 (lv_at hl 5 rfl) ?_
                  refine va_iast hx hb hK hP hD hS 2 0 rfl rfl (vp_of (by omega) (by omega)) dX6_findsRoom_80 (fun H locs hP hD hS => ?_)
                  obtain ⟨f160, ef160⟩ : ∃ f, f = upd g1_1 p1.toNatClampNeg w5_1 := ⟨_, rfl⟩
                  have hP : va_P (dC, dI) vwCl [(a0, .inr (6, [.int i0, .ref a1, .ref a2, .ref a3])), (a1, .inl (cI, 8, .inl xF0)), (a2, .inl (cI, 8, .inl f160)), (a3, .inl (cI, 8, .inl f159))] H := by rw [ef160]; exact hP
                  have hD : va_D A [(a0, .inr (6, [.int i0, .ref a1, .ref a2, .ref a3])), (a1, .inl (cI, 8, .inl xF0)), (a2, .inl (cI, 8, .inl f160)), (a3, .inl (cI, 8, .inl f159))] := by rw [ef160]; exact hD
                  refine lv_aload_n hx hb dX6_findsRoom_81 rfl (lv_at hl 0 rfl) ?_
                  refine lv_iload_n hx hb dX6_findsRoom_82 rfl (lv_at hl 1 rfl) ?_
                  refine lv_iconst (v := 1) hx hb dX6_findsRoom_83 (by decide) ?_
                  refine lv_iadd hx hb dX6_findsRoom_84 ?_
                  refine lv_topi (fun x161 ex161 => ?_)
                  have tx161 := ia_add (a := p1) (b := (1 : Int32)) (by omega) (by omega)
                  rw [← ex161] at tx161
                  refine lv_iload hx hb dX6_findsRoom_85 (lv_at hl 5 rfl) ?_
                  refine lv_iload_n hx hb dX6_findsRoom_87 rfl (lv_at hl 2 rfl) ?_
                  have jp7 : ∀ (H : Heap) (locs : List Loc) (ls : Array Slot) (z2_7 : Int32), ((0 : Int) ≤ z2_7.toInt ∧ z2_7.toInt ≤ 2147483647) → va_P (dC, dI) vwCl [(a0, .inr (6, [.int i0, .ref a1, .ref a2, .ref a3])), (a1, .inl (cI, 8, .inl xF0)), (a2, .inl (cI, 8, .inl f160)), (a3, .inl (cI, 8, .inl f159))] H → va_D A [(a0, .inr (6, [.int i0, .ref a1, .ref a2, .ref a3])), (a1, .inl (cI, 8, .inl xF0)), (a2, .inl (cI, 8, .inl f160)), (a3, .inl (cI, 8, .inl f159))] → va_S A s.heap H locs → lv_has ls 6 [(0, .ref a0), (1, .int p1), (2, .int p2), (3, .int p3), (4, .int p4), (5, .int w5_1)] → W p l e ({ frames := 4, cells := 0, slots := 0, locals := 100 } : Room) s m ([.ref a0, .int p1, .int p2, .int p3, .int p4] : List Value).toArray below meth c H locs 0 0 Q (F0 m 98 ls [.int z2_7, .int x161, .ref a0]) := by
                    intro H locs ls z2_7 hr_z2_7 hP hD hS hl
                    refine lv_iload_n hx hb dX6_findsRoom_98 rfl (lv_at hl 3 rfl) ?_
                    refine lv_iload hx hb dX6_findsRoom_99 (lv_at hl 4 rfl) ?_
                    have hPc := hP.sub (ws' := [(a0, .inr (6, [.int i0, .ref a1, .ref a2, .ref a3])), (a1, .inl (cI, 8, .inl xF0)), (a2, .inl (cI, 8, .inl f160)), (a3, .inl (cI, 8, .inl f159))]) [0, 1, 2, 3] rfl
                    have hDc := hD.sub (ws' := [(a0, .inr (6, [.int i0, .ref a1, .ref a2, .ref a3])), (a1, .inl (cI, 8, .inl xF0)), (a2, .inl (cI, 8, .inl f160)), (a3, .inl (cI, 8, .inl f159))]) [0, 1, 2, 3] (by decide) rfl
                    have hFc := va_free (wc := [(a0, .inr (6, [.int i0, .ref a1, .ref a2, .ref a3])), (a1, .inl (cI, 8, .inl xF0)), (a2, .inl (cI, 8, .inl f160)), (a3, .inl (cI, 8, .inl f159))]) hD hS hA [0, 1, 2, 3] rfl
                    refine va_calli (va_runS (As := [.ref a0, .int x161, .int z2_7, .int p3, .int p4]) (rest := []) ⟨hx, hb, hml, hown, hwd⟩ (s_X6_findsRoom_5 l dC dI cI cZ cB cJ cM cG a0 a1 a2 a3 i0 xF0 f160 f159 x161 z2_7 p3 p4 H.size (show (0 : Int) ≤ i0.toInt ∧ i0.toInt ≤ 8 from ⟨by omega, by omega⟩) (show (5 : Int) ≤ x161.toInt ∧ x161.toInt ≤ 8 from ⟨by omega, by omega⟩)) (cwS 5 hwd (gS kr55_1 kr55_2 kr2_11 kr55_3) rfl rfl rfl (by decide +kernel) ⟨Nat.le_of_ble_eq_true rfl, Nat.le_of_ble_eq_true rfl⟩) (kPreS hPc hK hDc) rfl rfl hl.1 rfl (lv_room (Nat.le_of_ble_eq_true rfl)) dX6_findsRoom_101 ⟨Nat.le_of_ble_eq_true rfl, Nat.le_of_ble_eq_true rfl⟩) hS (fun q _ h => hFc q h) hFc (fun r175 u176 t H1 locs ht9 hvm hw hB hz1 hk1 hS => ?_)
                    obtain ⟨u177, U177, V177⟩ := u176
                    obtain ⟨hw178, -⟩ := hw
                    have hw178 : (0 : Int) ≤ r175.toInt ∧ r175.toInt ≤ 1 := hw178
                    obtain ⟨hP1, hD1⟩ := hB
                    rw [ht9] at hP1
                    obtain ⟨hP, hD⟩ := va_join (wr := []) (w1 := [(a0, .inr (6, [.int i0, .ref a1, .ref a2, .ref a3])), (a1, .inl (cI, 8, .inl xF0)), (a2, .inl (cI, 8, .inl (U177 0))), (a3, .inl (cI, 8, .inl (U177 1)))]) hP hD [0, 1, 2, 3] [] rfl rfl (by decide) (by decide) hk1 hFc hP1 hD1
                    generalize H1 = H at hP hS ⊢
                    have hP : va_P (dC, dI) vwCl [(a0, .inr (6, [.int i0, .ref a1, .ref a2, .ref a3])), (a1, .inl (cI, 8, .inl xF0)), (a2, .inl (cI, 8, .inl (U177 0))), (a3, .inl (cI, 8, .inl (U177 1)))] H := hP
                    have hD : va_D A [(a0, .inr (6, [.int i0, .ref a1, .ref a2, .ref a3])), (a1, .inl (cI, 8, .inl xF0)), (a2, .inl (cI, 8, .inl (U177 0))), (a3, .inl (cI, 8, .inl (U177 1)))] := hD
                    refine lv_if_eq (tgt := 109) hx hb dX6_findsRoom_104 (by decide) (fun c179 => ?_) (fun c179 => ?_)
                    · rw [ki_eq] at c179
                      refine lv_aload_n hx hb dX6_findsRoom_109 rfl (lv_at hl 0 rfl) ?_
                      refine va_get (D := (dC, dI)) (ci := 6) (v := .ref a3) (C := RX6) (T := TX6) (N := 4) hx hb hwd inlX6 hown hK hP 0 rfl rfl 3 (by decide) (hwd _ kr4_17) (fun _ h9 => h9) rfl dX6_findsRoom_110 ?_
                      refine lv_iload hx hb dX6_findsRoom_113 (lv_at hl 5 rfl) ?_
                      refine lv_dup2_11 hx hb dX6_findsRoom_115 rfl rfl ?_
                      have h180 : vp_in w5_1 8 := (vp_of (by omega) (by omega))
                      refine va_iald hx hb hK hP 3 0 rfl rfl h180 dX6_findsRoom_116 ?_
                      refine lv_topi (fun x181 ex181 => ?_)
                      refine lv_aload_n hx hb dX6_findsRoom_117 rfl (lv_at hl 0 rfl) ?_
                      refine va_get (D := (dC, dI)) (ci := 6) (v := .ref a1) (C := RX6) (T := TX6) (N := 4) hx hb hwd inlX6 hown hK hP 0 rfl rfl 1 (by decide) (hwd _ kr4_15) (fun _ h9 => h9) rfl dX6_findsRoom_118 ?_
                      refine lv_iload_n hx hb dX6_findsRoom_121 rfl (lv_at hl 1 rfl) ?_
                      have h182 : vp_in p1 8 := (vp_of (by omega) (by omega))
                      refine va_iald hx hb hK hP 1 0 rfl rfl h182 dX6_findsRoom_122 ?_
                      refine lv_topi (nm_r (e' := x152) ex152.symm ?_)
                      refine lv_isub hx hb dX6_findsRoom_123 ?_
                      refine lv_topi (fun x183 ex183 => ?_)
                      refine va_iast hx hb hK hP hD hS 3 0 rfl rfl (vp_of (by omega) (by omega)) dX6_findsRoom_124 (fun H locs hP hD hS => ?_)
                      obtain ⟨f184, ef184⟩ : ∃ f, f = upd (U177 1) w5_1.toNatClampNeg x183 := ⟨_, rfl⟩
                      have hP : va_P (dC, dI) vwCl [(a0, .inr (6, [.int i0, .ref a1, .ref a2, .ref a3])), (a1, .inl (cI, 8, .inl xF0)), (a2, .inl (cI, 8, .inl (U177 0))), (a3, .inl (cI, 8, .inl f184))] H := by rw [ef184]; exact hP
                      have hD : va_D A [(a0, .inr (6, [.int i0, .ref a1, .ref a2, .ref a3])), (a1, .inl (cI, 8, .inl xF0)), (a2, .inl (cI, 8, .inl (U177 0))), (a3, .inl (cI, 8, .inl f184))] := by rw [ef184]; exact hD
                      obtain ⟨x185, ex185⟩ : ∃ y : Int32, y = w5_1 + 1 := ⟨_, rfl⟩
                      refine lv_iinc (v := x185) (lv' := [(5, .int x185), (0, .ref a0), (1, .int p1), (2, .int p2), (3, .int p3), (4, .int p4)]) hx hb dX6_findsRoom_125 hl (k := 5) rfl (by rw [ex185]; rfl) (by decide) rfl (fun ls hl => ?_)
                      have tx185 := ia_add (a := w5_1) (b := (1 : Int32)) (by omega) (by omega)
                      rw [← ex185] at tx185
                      refine lv_goto (tgt := 19) hx hb dX6_findsRoom_128 (by decide) ?_
                      exact ih1 _ _ ls x185 (U177 0) f184 (show (0 : Int) ≤ x185.toInt ∧ x185.toInt ≤ 8 from ⟨by omega, by omega⟩) (by omega) (hP.sub (ws' := [(a0, .inr (6, [.int i0, .ref a1, .ref a2, .ref a3])), (a1, .inl (cI, 8, .inl xF0)), (a2, .inl (cI, 8, .inl (U177 0))), (a3, .inl (cI, 8, .inl f184))]) [0, 1, 2, 3] rfl) (hD.sub (ws' := [(a0, .inr (6, [.int i0, .ref a1, .ref a2, .ref a3])), (a1, .inl (cI, 8, .inl xF0)), (a2, .inl (cI, 8, .inl (U177 0))), (a3, .inl (cI, 8, .inl f184))]) [0, 1, 2, 3] (by decide) rfl) hS (lv_sub hl [1, 2, 3, 4, 5, 0] rfl)
                    · rw [ki_eq] at c179
                      refine lv_iconst (v := 1) hx hb dX6_findsRoom_107 (by decide) ?_
                      have hP9 := hP.sub (ws' := [(a0, .inr (6, [.int i0, .ref a1, .ref a2, .ref a3])), (a1, .inl (cI, 8, .inl xF0)), (a2, .inl (cI, 8, .inl (U177 0))), (a3, .inl (cI, 8, .inl (U177 1)))]) [0, 1, 2, 3] rfl
                      have hD9 := hD.sub (ws' := [(a0, .inr (6, [.int i0, .ref a1, .ref a2, .ref a3])), (a1, .inl (cI, 8, .inl xF0)), (a2, .inl (cI, 8, .inl (U177 0))), (a3, .inl (cI, 8, .inl (U177 1)))]) [0, 1, 2, 3] (by decide) rfl
                      rw [hQ]
                      exact W.zret (v := 1) hx hb hr (by decide) (fun t ht hW => ⟨⟨1, (pickG 0 [], pickG (fun _ => 0) [(U177 0), (U177 1)], pickG (fun _ => 0) []), rfl, ⟨(show (0 : Int) ≤ (1 : Int32).toInt ∧ (1 : Int32).toInt ≤ 1 from ⟨by omega, by omega⟩), trivial⟩, (by rw [ht]; exact hP9), hD9⟩, hS.F ht⟩) hS.2.2 dX6_findsRoom_108
                  refine lv_icmp_ne (tgt := 97) hx hb dX6_findsRoom_88 (by decide) (fun c186 => ?_) (fun c186 => ?_)
                  · rw [ki_eq] at c186
                    refine lv_iload_n hx hb dX6_findsRoom_97 rfl (lv_at hl 2 rfl) ?_
                    exact jp7 _ _ ls p2 (show (0 : Int) ≤ p2.toInt ∧ p2.toInt ≤ 2147483647 from ⟨by omega, i32_hi⟩) (hP.sub (ws' := [(a0, .inr (6, [.int i0, .ref a1, .ref a2, .ref a3])), (a1, .inl (cI, 8, .inl xF0)), (a2, .inl (cI, 8, .inl f160)), (a3, .inl (cI, 8, .inl f159))]) [0, 1, 2, 3] rfl) (hD.sub (ws' := [(a0, .inr (6, [.int i0, .ref a1, .ref a2, .ref a3])), (a1, .inl (cI, 8, .inl xF0)), (a2, .inl (cI, 8, .inl f160)), (a3, .inl (cI, 8, .inl f159))]) [0, 1, 2, 3] (by decide) rfl) hS (lv_sub hl [0, 1, 2, 3, 4, 5] rfl)
                  · rw [ki_eq] at c186
                    refine lv_iload_n hx hb dX6_findsRoom_91 rfl (lv_at hl 2 rfl) ?_
                    refine lv_iconst (v := 1) hx hb dX6_findsRoom_92 (by decide) ?_
                    refine lv_iadd hx hb dX6_findsRoom_93 ?_
                    refine lv_topi (fun x187 ex187 => ?_)
                    have tx187 := ia_add (a := p2) (b := (1 : Int32)) (by omega) (by omega)
                    rw [← ex187] at tx187
                    refine lv_goto (tgt := 98) hx hb dX6_findsRoom_94 (by decide) ?_
                    exact jp7 _ _ ls x187 (show (0 : Int) ≤ x187.toInt ∧ x187.toInt ≤ 2147483647 from ⟨by omega, i32_hi⟩) (hP.sub (ws' := [(a0, .inr (6, [.int i0, .ref a1, .ref a2, .ref a3])), (a1, .inl (cI, 8, .inl xF0)), (a2, .inl (cI, 8, .inl f160)), (a3, .inl (cI, 8, .inl f159))]) [0, 1, 2, 3] rfl) (hD.sub (ws' := [(a0, .inr (6, [.int i0, .ref a1, .ref a2, .ref a3])), (a1, .inl (cI, 8, .inl xF0)), (a2, .inl (cI, 8, .inl f160)), (a3, .inl (cI, 8, .inl f159))]) [0, 1, 2, 3] (by decide) rfl) hS (lv_sub hl [0, 1, 2, 3, 4, 5] rfl)
      exact lp1 _ _ _ ls (0) xF1 xF2 (show (0 : Int) ≤ (0 : Int32).toInt ∧ (0 : Int32).toInt ≤ 8 from ⟨by omega, by omega⟩) (Nat.lt_succ_self _) (hP.sub (ws' := [(a0, .inr (6, [.int i0, .ref a1, .ref a2, .ref a3])), (a1, .inl (cI, 8, .inl xF0)), (a2, .inl (cI, 8, .inl xF1)), (a3, .inl (cI, 8, .inl xF2))]) [0, 1, 2, 3] rfl) (hD.sub (ws' := [(a0, .inr (6, [.int i0, .ref a1, .ref a2, .ref a3])), (a1, .inl (cI, 8, .inl xF0)), (a2, .inl (cI, 8, .inl xF1)), (a3, .inl (cI, 8, .inl xF2))]) [0, 1, 2, 3] (by decide) rfl) hS (lv_sub hl [1, 2, 3, 4, 5, 0] rfl)
    · rw [ki_lt] at c2
      exfalso
      omega
set_option maxHeartbeats 4000000 in
set_option maxRecDepth 100000 in
theorem s_X6_findsRoom_3 (l : Launch) (dC : Nat → ClassId) (dI : Nat → Nat → Nat) (cI cZ cB cJ cM cG : ClassId) (a0 a1 a2 a3 : Nat) (i0 : Int32) (xF0 xF1 xF2 : Nat → Int32) (p1 p2 p3 p4 : Int32) (sz : Nat) (p_0 : (0 : Int) ≤ i0.toInt ∧ i0.toInt ≤ 8) (p_1 : (3 : Int) ≤ p1.toInt ∧ p1.toInt ≤ 8) : Met l yX6_findsRoom (kw yX6_findsRoom cX6_findsRoom 6 (some .boolean)) ({ frames := 5, cells := 0, slots := 0, locals := 125 } : Room) (va_Pc [.ref a0, .int p1, .int p2, .int p3, .int p4] (kPre dC dI [(cI, .int), (cZ, .boolean), (cB, .byte), (cJ, .long), (cM, .object RX2), (cG, .array .int)] [(a0, .inr (6, [.int i0, .ref a1, .ref a2, .ref a3])), (a1, .inl (cI, 8, .inl xF0)), (a2, .inl (cI, 8, .inl xF1)), (a3, .inl (cI, 8, .inl xF2))] sz)) (va_Qi (fun (r : Int32) (u9 : (Nat → Int32) × (Nat → Nat → Int32) × (Nat → Nat → Int64)) => ((0 : Int) ≤ r.toInt ∧ r.toInt ≤ 1) ∧ True) (fun u9 t => va_P (dC, dI) vwCl [(a0, .inr (6, [.int i0, .ref a1, .ref a2, .ref a3])), (a1, .inl (cI, 8, .inl xF0)), (a2, .inl (cI, 8, .inl (u9.2.1 0))), (a3, .inl (cI, 8, .inl (u9.2.1 1)))] t.heap ∧ va_D (va_A [(a0, .inr (6, [.int i0, .ref a1, .ref a2, .ref a3])), (a1, .inl (cI, 8, .inl xF0)), (a2, .inl (cI, 8, .inl xF1)), (a3, .inl (cI, 8, .inl xF2))] sz) [(a0, .inr (6, [.int i0, .ref a1, .ref a2, .ref a3])), (a1, .inl (cI, 8, .inl xF0)), (a2, .inl (cI, 8, .inl (u9.2.1 0))), (a3, .inl (cI, 8, .inl (u9.2.1 1)))]) (va_A [(a0, .inr (6, [.int i0, .ref a1, .ref a2, .ref a3])), (a1, .inl (cI, 8, .inl xF0)), (a2, .inl (cI, 8, .inl xF1)), (a3, .inl (cI, 8, .inl xF2))] sz)) 0 0 (va_A [(a0, .inr (6, [.int i0, .ref a1, .ref a2, .ref a3])), (a1, .inl (cI, 8, .inl xF0)), (a2, .inl (cI, 8, .inl xF1)), (a3, .inl (cI, 8, .inl xF2))] sz) := by
  refine kEnter (by decide) (Nat.le_of_ble_eq_true rfl) ?_
  intro p e s m below meth c ls hx hb hr hml hown hlocks hin hwd hsz hP hK hD hl
  subst hsz
  generalize hAe : va_A [(a0, .inr (6, [.int i0, .ref a1, .ref a2, .ref a3])), (a1, .inl (cI, 8, .inl xF0)), (a2, .inl (cI, 8, .inl xF1)), (a3, .inl (cI, 8, .inl xF2))] s.heap.size = A at hD ⊢
  have hA : ∀ q : Nat, s.heap.size ≤ q → A q := fun q h => by rw [← hAe]; exact Or.inr h
  have hS : va_S A s.heap s.heap [] := va_S.rf
  have hl : lv_has ls 6 [(0, .ref a0), (1, .int p1), (2, .int p2), (3, .int p3), (4, .int p4)] := hl
  obtain ⟨Q, hQ⟩ : ∃ Q, Q = MQ below (va_Qi (fun (r : Int32) (u9 : (Nat → Int32) × (Nat → Nat → Int32) × (Nat → Nat → Int64)) => ((0 : Int) ≤ r.toInt ∧ r.toInt ≤ 1) ∧ True) (fun u9 t => va_P (dC, dI) vwCl [(a0, .inr (6, [.int i0, .ref a1, .ref a2, .ref a3])), (a1, .inl (cI, 8, .inl xF0)), (a2, .inl (cI, 8, .inl (u9.2.1 0))), (a3, .inl (cI, 8, .inl (u9.2.1 1)))] t.heap ∧ va_D A [(a0, .inr (6, [.int i0, .ref a1, .ref a2, .ref a3])), (a1, .inl (cI, 8, .inl xF0)), (a2, .inl (cI, 8, .inl (u9.2.1 0))), (a3, .inl (cI, 8, .inl (u9.2.1 1)))]) A) ([.ref a0, .int p1, .int p2, .int p3, .int p4] : List Value).toArray s 0 0 A := ⟨_, rfl⟩
  rw [← hQ]
  have k0 : (0 : Int32).toInt = 0 := by decide
  have k1 : (1 : Int32).toInt = 1 := by decide
  have k8 : (8 : Int32).toInt = 8 := by decide
  refine lv_iload_n hx hb dX6_findsRoom_0 rfl (lv_at hl 1 rfl) ?_
  refine lv_aload_n hx hb dX6_findsRoom_1 rfl (lv_at hl 0 rfl) ?_
  refine va_get (D := (dC, dI)) (ci := 6) (v := .int i0) (C := RX6) (T := TX6) (N := 4) hx hb hwd inlX6 hown hK hP 0 rfl rfl 0 (by decide) (hwd _ kr54_20) (fun _ h9 => h9) rfl dX6_findsRoom_2 ?_
  refine lv_icmp_ge (tgt := 14) hx hb dX6_findsRoom_5 (by decide) (fun c1 => ?_) (fun c1 => ?_)
  · rw [ki_le] at c1
    refine lv_iconst (v := 1) hx hb dX6_findsRoom_14 (by decide) ?_
    have hP9 := hP.sub (ws' := [(a0, .inr (6, [.int i0, .ref a1, .ref a2, .ref a3])), (a1, .inl (cI, 8, .inl xF0)), (a2, .inl (cI, 8, .inl xF1)), (a3, .inl (cI, 8, .inl xF2))]) [0, 1, 2, 3] rfl
    have hD9 := hD.sub (ws' := [(a0, .inr (6, [.int i0, .ref a1, .ref a2, .ref a3])), (a1, .inl (cI, 8, .inl xF0)), (a2, .inl (cI, 8, .inl xF1)), (a3, .inl (cI, 8, .inl xF2))]) [0, 1, 2, 3] (by decide) rfl
    rw [hQ]
    exact W.zret (v := 1) hx hb hr (by decide) (fun t ht hW => ⟨⟨1, (pickG 0 [], pickG (fun _ => 0) [xF1, xF2], pickG (fun _ => 0) []), rfl, ⟨(show (0 : Int) ≤ (1 : Int32).toInt ∧ (1 : Int32).toInt ≤ 1 from ⟨by omega, by omega⟩), trivial⟩, (by rw [ht]; exact hP9), hD9⟩, hS.F ht⟩) hS.2.2 dX6_findsRoom_15
  · rw [ki_le] at c1
    refine lv_iload_n hx hb dX6_findsRoom_8 rfl (lv_at hl 1 rfl) ?_
    refine lv_bipush (v := 8) hx hb dX6_findsRoom_9 (by decide) ?_
    refine lv_icmp_lt (tgt := 16) hx hb dX6_findsRoom_11 (by decide) (fun c2 => ?_) (fun c2 => ?_)
    · rw [ki_lt] at c2
      refine lv_iconst (v := 0) hx hb dX6_findsRoom_16 (by decide) ?_
      refine lv_istore (lv' := [(5, .int 0), (0, .ref a0), (1, .int p1), (2, .int p2), (3, .int p3), (4, .int p4)]) hx hb dX6_findsRoom_17 hl (by decide) rfl (fun ls hl => ?_)
      have lp1 : ∀ (d : Nat), ∀ (H : Heap) (locs : List Loc) (ls : Array Slot) (w5_1 : Int32) (g1_1 : Nat → Int32) (g2_1 : Nat → Int32), ((0 : Int) ≤ w5_1.toInt ∧ w5_1.toInt ≤ 8) → (8 - w5_1.toInt).toNat < d → va_P (dC, dI) vwCl [(a0, .inr (6, [.int i0, .ref a1, .ref a2, .ref a3])), (a1, .inl (cI, 8, .inl xF0)), (a2, .inl (cI, 8, .inl g1_1)), (a3, .inl (cI, 8, .inl g2_1))] H → va_D A [(a0, .inr (6, [.int i0, .ref a1, .ref a2, .ref a3])), (a1, .inl (cI, 8, .inl xF0)), (a2, .inl (cI, 8, .inl g1_1)), (a3, .inl (cI, 8, .inl g2_1))] → va_S A s.heap H locs → lv_has ls 6 [(0, .ref a0), (1, .int p1), (2, .int p2), (3, .int p3), (4, .int p4), (5, .int w5_1)] → W p l e ({ frames := 5, cells := 0, slots := 0, locals := 125 } : Room) s m ([.ref a0, .int p1, .int p2, .int p3, .int p4] : List Value).toArray below meth c H locs 0 0 Q (F0 m 19 ls []) := by
        intro d
        induction d with
        | zero =>
          intro H locs ls w5_1 g1_1 g2_1 hr_w5_1 hm hP hD hS hl
          omega
        | succ d ih1 =>
          intro H locs ls w5_1 g1_1 g2_1 hr_w5_1 hm hP hD hS hl
          refine lv_iload hx hb dX6_findsRoom_19 (lv_at hl 5 rfl) ?_
          refine lv_iload_n hx hb dX6_findsRoom_21 rfl (lv_at hl 2 rfl) ?_
          refine lv_icmp_gt (tgt := 131) hx hb dX6_findsRoom_22 (by decide) (fun c146 => ?_) (fun c146 => ?_)
          · rw [ki_lt] at c146
            refine lv_iconst (v := 0) hx hb dX6_findsRoom_131 (by decide) ?_
            have hP9 := hP.sub (ws' := [(a0, .inr (6, [.int i0, .ref a1, .ref a2, .ref a3])), (a1, .inl (cI, 8, .inl xF0)), (a2, .inl (cI, 8, .inl g1_1)), (a3, .inl (cI, 8, .inl g2_1))]) [0, 1, 2, 3] rfl
            have hD9 := hD.sub (ws' := [(a0, .inr (6, [.int i0, .ref a1, .ref a2, .ref a3])), (a1, .inl (cI, 8, .inl xF0)), (a2, .inl (cI, 8, .inl g1_1)), (a3, .inl (cI, 8, .inl g2_1))]) [0, 1, 2, 3] (by decide) rfl
            rw [hQ]
            exact W.zret (v := 0) hx hb hr (by decide) (fun t ht hW => ⟨⟨0, (pickG 0 [], pickG (fun _ => 0) [g1_1, g2_1], pickG (fun _ => 0) []), rfl, ⟨(show (0 : Int) ≤ (0 : Int32).toInt ∧ (0 : Int32).toInt ≤ 1 from ⟨by omega, by omega⟩), trivial⟩, (by rw [ht]; exact hP9), hD9⟩, hS.F ht⟩) hS.2.2 dX6_findsRoom_132
          · rw [ki_lt] at c146
            refine lv_iload hx hb dX6_findsRoom_25 (lv_at hl 5 rfl) ?_
            refine lv_iload_n hx hb dX6_findsRoom_27 rfl (lv_at hl 3 rfl) ?_
            refine lv_icmp_ge (tgt := 131) hx hb dX6_findsRoom_28 (by decide) (fun c147 => ?_) (fun c147 => ?_)
            · rw [ki_le] at c147
              refine lv_iconst (v := 0) hx hb dX6_findsRoom_131 (by decide) ?_
              have hP9 := hP.sub (ws' := [(a0, .inr (6, [.int i0, .ref a1, .ref a2, .ref a3])), (a1, .inl (cI, 8, .inl xF0)), (a2, .inl (cI, 8, .inl g1_1)), (a3, .inl (cI, 8, .inl g2_1))]) [0, 1, 2, 3] rfl
              have hD9 := hD.sub (ws' := [(a0, .inr (6, [.int i0, .ref a1, .ref a2, .ref a3])), (a1, .inl (cI, 8, .inl xF0)), (a2, .inl (cI, 8, .inl g1_1)), (a3, .inl (cI, 8, .inl g2_1))]) [0, 1, 2, 3] (by decide) rfl
              rw [hQ]
              exact W.zret (v := 0) hx hb hr (by decide) (fun t ht hW => ⟨⟨0, (pickG 0 [], pickG (fun _ => 0) [g1_1, g2_1], pickG (fun _ => 0) []), rfl, ⟨(show (0 : Int) ≤ (0 : Int32).toInt ∧ (0 : Int32).toInt ≤ 1 from ⟨by omega, by omega⟩), trivial⟩, (by rw [ht]; exact hP9), hD9⟩, hS.F ht⟩) hS.2.2 dX6_findsRoom_132
            · rw [ki_le] at c147
              refine lv_iload hx hb dX6_findsRoom_31 (lv_at hl 5 rfl) ?_
              refine lv_bipush (v := 8) hx hb dX6_findsRoom_33 (by decide) ?_
              refine lv_icmp_ge (tgt := 131) hx hb dX6_findsRoom_35 (by decide) (fun c148 => ?_) (fun c148 => ?_)
              · rw [ki_le] at c148
                refine lv_iconst (v := 0) hx hb dX6_findsRoom_131 (by decide) ?_
                have hP9 := hP.sub (ws' := [(a0, .inr (6, [.int i0, .ref a1, .ref a2, .ref a3])), (a1, .inl (cI, 8, .inl xF0)), (a2, .inl (cI, 8, .inl g1_1)), (a3, .inl (cI, 8, .inl g2_1))]) [0, 1, 2, 3] rfl
                have hD9 := hD.sub (ws' := [(a0, .inr (6, [.int i0, .ref a1, .ref a2, .ref a3])), (a1, .inl (cI, 8, .inl xF0)), (a2, .inl (cI, 8, .inl g1_1)), (a3, .inl (cI, 8, .inl g2_1))]) [0, 1, 2, 3] (by decide) rfl
                rw [hQ]
                exact W.zret (v := 0) hx hb hr (by decide) (fun t ht hW => ⟨⟨0, (pickG 0 [], pickG (fun _ => 0) [g1_1, g2_1], pickG (fun _ => 0) []), rfl, ⟨(show (0 : Int) ≤ (0 : Int32).toInt ∧ (0 : Int32).toInt ≤ 1 from ⟨by omega, by omega⟩), trivial⟩, (by rw [ht]; exact hP9), hD9⟩, hS.F ht⟩) hS.2.2 dX6_findsRoom_132
              · rw [ki_le] at c148
                refine lv_aload_n hx hb dX6_findsRoom_38 rfl (lv_at hl 0 rfl) ?_
                refine va_get (D := (dC, dI)) (ci := 6) (v := .ref a3) (C := RX6) (T := TX6) (N := 4) hx hb hwd inlX6 hown hK hP 0 rfl rfl 3 (by decide) (hwd _ kr4_17) (fun _ h9 => h9) rfl dX6_findsRoom_39 ?_
                refine lv_iload hx hb dX6_findsRoom_42 (lv_at hl 5 rfl) ?_
                have h149 : vp_in w5_1 8 := (vp_of (by omega) (by omega))
                refine va_iald hx hb hK hP 3 0 rfl rfl h149 dX6_findsRoom_44 ?_
                refine lv_topi (fun x150 ex150 => ?_)
                refine lv_aload_n hx hb dX6_findsRoom_45 rfl (lv_at hl 0 rfl) ?_
                refine va_get (D := (dC, dI)) (ci := 6) (v := .ref a1) (C := RX6) (T := TX6) (N := 4) hx hb hwd inlX6 hown hK hP 0 rfl rfl 1 (by decide) (hwd _ kr4_15) (fun _ h9 => h9) rfl dX6_findsRoom_46 ?_
                refine lv_iload_n hx hb dX6_findsRoom_49 rfl (lv_at hl 1 rfl) ?_
                have h151 : vp_in p1 8 := (vp_of (by omega) (by omega))
                refine va_iald hx hb hK hP 1 0 rfl rfl h151 dX6_findsRoom_50 ?_
                refine lv_topi (fun x152 ex152 => ?_)
                refine lv_iadd hx hb dX6_findsRoom_51 ?_
                refine lv_topi (fun x153 ex153 => ?_)
                refine lv_iload hx hb dX6_findsRoom_52 (lv_at hl 4 rfl) ?_
                refine lv_icmp_gt (tgt := 125) hx hb dX6_findsRoom_54 (by decide) (fun c154 => ?_) (fun c154 => ?_)
                · rw [ki_lt] at c154
                  obtain ⟨x155, ex155⟩ : ∃ y : Int32, y = w5_1 + 1 := ⟨_, rfl⟩
                  refine lv_iinc (v := x155) (lv' := [(5, .int x155), (0, .ref a0), (1, .int p1), (2, .int p2), (3, .int p3), (4, .int p4)]) hx hb dX6_findsRoom_125 hl (k := 5) rfl (by rw [ex155]; rfl) (by decide) rfl (fun ls hl => ?_)
                  have tx155 := ia_add (a := w5_1) (b := (1 : Int32)) (by omega) (by omega)
                  rw [← ex155] at tx155
                  refine lv_goto (tgt := 19) hx hb dX6_findsRoom_128 (by decide) ?_
                  exact ih1 _ _ ls x155 g1_1 g2_1 (show (0 : Int) ≤ x155.toInt ∧ x155.toInt ≤ 8 from ⟨by omega, by omega⟩) (by omega) (hP.sub (ws' := [(a0, .inr (6, [.int i0, .ref a1, .ref a2, .ref a3])), (a1, .inl (cI, 8, .inl xF0)), (a2, .inl (cI, 8, .inl g1_1)), (a3, .inl (cI, 8, .inl g2_1))]) [0, 1, 2, 3] rfl) (hD.sub (ws' := [(a0, .inr (6, [.int i0, .ref a1, .ref a2, .ref a3])), (a1, .inl (cI, 8, .inl xF0)), (a2, .inl (cI, 8, .inl g1_1)), (a3, .inl (cI, 8, .inl g2_1))]) [0, 1, 2, 3] (by decide) rfl) hS (lv_sub hl [1, 2, 3, 4, 5, 0] rfl)
                · rw [ki_lt] at c154
                  refine lv_aload_n hx hb dX6_findsRoom_57 rfl (lv_at hl 0 rfl) ?_
                  refine va_get (D := (dC, dI)) (ci := 6) (v := .ref a3) (C := RX6) (T := TX6) (N := 4) hx hb hwd inlX6 hown hK hP 0 rfl rfl 3 (by decide) (hwd _ kr4_17) (fun _ h9 => h9) rfl dX6_findsRoom_58 ?_
                  refine lv_iload hx hb dX6_findsRoom_61 (lv_at hl 5 rfl) ?_
                  refine lv_dup2_11 hx hb dX6_findsRoom_63 rfl rfl ?_
                  have h156 : vp_in w5_1 8 := (vp_of (by omega) (by omega))
                  refine va_iald hx hb hK hP 3 0 rfl rfl h156 dX6_findsRoom_64 ?_
                  refine lv_topi (nm_r (e' := x150) ex150.symm ?_)
                  refine lv_aload_n hx hb dX6_findsRoom_65 rfl (lv_at hl 0 rfl) ?_
                  refine va_get (D := (dC, dI)) (ci := 6) (v := .ref a1) (C := RX6) (T := TX6) (N := 4) hx hb hwd inlX6 hown hK hP 0 rfl rfl 1 (by decide) (hwd _ kr4_15) (fun _ h9 => h9) rfl dX6_findsRoom_66 ?_
                  refine lv_iload_n hx hb dX6_findsRoom_69 rfl (lv_at hl 1 rfl) ?_
                  have h157 : vp_in p1 8 := (vp_of (by omega) (by omega))
                  refine va_iald hx hb hK hP 1 0 rfl rfl h157 dX6_findsRoom_70 ?_
                  refine lv_topi (nm_r (e' := x152) ex152.symm ?_)
                  refine lv_iadd hx hb dX6_findsRoom_71 ?_
                  refine lv_topi (fun x158 ex158 => ?_)
                  refine va_iast hx hb hK hP hD hS 3 0 rfl rfl (vp_of (by omega) (by omega)) dX6_findsRoom_72 (fun H locs hP hD hS => ?_)
                  obtain ⟨f159, ef159⟩ : ∃ f, f = upd g2_1 w5_1.toNatClampNeg x158 := ⟨_, rfl⟩
                  have hP : va_P (dC, dI) vwCl [(a0, .inr (6, [.int i0, .ref a1, .ref a2, .ref a3])), (a1, .inl (cI, 8, .inl xF0)), (a2, .inl (cI, 8, .inl g1_1)), (a3, .inl (cI, 8, .inl f159))] H := by rw [ef159]; exact hP
                  have hD : va_D A [(a0, .inr (6, [.int i0, .ref a1, .ref a2, .ref a3])), (a1, .inl (cI, 8, .inl xF0)), (a2, .inl (cI, 8, .inl g1_1)), (a3, .inl (cI, 8, .inl f159))] := by rw [ef159]; exact hD
                  refine lv_aload_n hx hb dX6_findsRoom_73 rfl (lv_at hl 0 rfl) ?_
                  refine va_get (D := (dC, dI)) (ci := 6) (v := .ref a2) (C := RX6) (T := TX6) (N := 4) hx hb hwd inlX6 hown hK hP 0 rfl rfl 2 (by decide) (hwd _ kr4_16) (fun _ h9 => h9) rfl dX6_findsRoom_74 ?_
                  refine lv_iload_n hx hb dX6_findsRoom_77 rfl (lv_at hl 1 rfl) ?_
                  refine lv_iload hx hb dX6_findsRoom_78 (lv_at hl 5 rfl) ?_
                  refine va_iast hx hb hK hP hD hS 2 0 rfl rfl (vp_of (by omega) (by omega)) dX6_findsRoom_80 (fun H locs hP hD hS => ?_)
                  obtain ⟨f160, ef160⟩ : ∃ f, f = upd g1_1 p1.toNatClampNeg w5_1 := ⟨_, rfl⟩
                  have hP : va_P (dC, dI) vwCl [(a0, .inr (6, [.int i0, .ref a1, .ref a2, .ref a3])), (a1, .inl (cI, 8, .inl xF0)), (a2, .inl (cI, 8, .inl f160)), (a3, .inl (cI, 8, .inl f159))] H := by rw [ef160]; exact hP
                  have hD : va_D A [(a0, .inr (6, [.int i0, .ref a1, .ref a2, .ref a3])), (a1, .inl (cI, 8, .inl xF0)), (a2, .inl (cI, 8, .inl f160)), (a3, .inl (cI, 8, .inl f159))] := by rw [ef160]; exact hD
                  refine lv_aload_n hx hb dX6_findsRoom_81 rfl (lv_at hl 0 rfl) ?_
                  refine lv_iload_n hx hb dX6_findsRoom_82 rfl (lv_at hl 1 rfl) ?_
                  refine lv_iconst (v := 1) hx hb dX6_findsRoom_83 (by decide) ?_
                  refine lv_iadd hx hb dX6_findsRoom_84 ?_
                  refine lv_topi (fun x161 ex161 => ?_)
                  have tx161 := ia_add (a := p1) (b := (1 : Int32)) (by omega) (by omega)
                  rw [← ex161] at tx161
                  refine lv_iload hx hb dX6_findsRoom_85 (lv_at hl 5 rfl) ?_
                  refine lv_iload_n hx hb dX6_findsRoom_87 rfl (lv_at hl 2 rfl) ?_
                  have jp7 : ∀ (H : Heap) (locs : List Loc) (ls : Array Slot) (z2_7 : Int32), ((0 : Int) ≤ z2_7.toInt ∧ z2_7.toInt ≤ 2147483647) → va_P (dC, dI) vwCl [(a0, .inr (6, [.int i0, .ref a1, .ref a2, .ref a3])), (a1, .inl (cI, 8, .inl xF0)), (a2, .inl (cI, 8, .inl f160)), (a3, .inl (cI, 8, .inl f159))] H → va_D A [(a0, .inr (6, [.int i0, .ref a1, .ref a2, .ref a3])), (a1, .inl (cI, 8, .inl xF0)), (a2, .inl (cI, 8, .inl f160)), (a3, .inl (cI, 8, .inl f159))] → va_S A s.heap H locs → lv_has ls 6 [(0, .ref a0), (1, .int p1), (2, .int p2), (3, .int p3), (4, .int p4), (5, .int w5_1)] → W p l e ({ frames := 5, cells := 0, slots := 0, locals := 125 } : Room) s m ([.ref a0, .int p1, .int p2, .int p3, .int p4] : List Value).toArray below meth c H locs 0 0 Q (F0 m 98 ls [.int z2_7, .int x161, .ref a0]) := by
                    intro H locs ls z2_7 hr_z2_7 hP hD hS hl
                    refine lv_iload_n hx hb dX6_findsRoom_98 rfl (lv_at hl 3 rfl) ?_
                    refine lv_iload hx hb dX6_findsRoom_99 (lv_at hl 4 rfl) ?_
                    have hPc := hP.sub (ws' := [(a0, .inr (6, [.int i0, .ref a1, .ref a2, .ref a3])), (a1, .inl (cI, 8, .inl xF0)), (a2, .inl (cI, 8, .inl f160)), (a3, .inl (cI, 8, .inl f159))]) [0, 1, 2, 3] rfl
                    have hDc := hD.sub (ws' := [(a0, .inr (6, [.int i0, .ref a1, .ref a2, .ref a3])), (a1, .inl (cI, 8, .inl xF0)), (a2, .inl (cI, 8, .inl f160)), (a3, .inl (cI, 8, .inl f159))]) [0, 1, 2, 3] (by decide) rfl
                    have hFc := va_free (wc := [(a0, .inr (6, [.int i0, .ref a1, .ref a2, .ref a3])), (a1, .inl (cI, 8, .inl xF0)), (a2, .inl (cI, 8, .inl f160)), (a3, .inl (cI, 8, .inl f159))]) hD hS hA [0, 1, 2, 3] rfl
                    refine va_calli (va_runS (As := [.ref a0, .int x161, .int z2_7, .int p3, .int p4]) (rest := []) ⟨hx, hb, hml, hown, hwd⟩ (s_X6_findsRoom_4 l dC dI cI cZ cB cJ cM cG a0 a1 a2 a3 i0 xF0 f160 f159 x161 z2_7 p3 p4 H.size (show (0 : Int) ≤ i0.toInt ∧ i0.toInt ≤ 8 from ⟨by omega, by omega⟩) (show (4 : Int) ≤ x161.toInt ∧ x161.toInt ≤ 8 from ⟨by omega, by omega⟩)) (cwS 5 hwd (gS kr55_1 kr55_2 kr2_11 kr55_3) rfl rfl rfl (by decide +kernel) ⟨Nat.le_of_ble_eq_true rfl, Nat.le_of_ble_eq_true rfl⟩) (kPreS hPc hK hDc) rfl rfl hl.1 rfl (lv_room (Nat.le_of_ble_eq_true rfl)) dX6_findsRoom_101 ⟨Nat.le_of_ble_eq_true rfl, Nat.le_of_ble_eq_true rfl⟩) hS (fun q _ h => hFc q h) hFc (fun r175 u176 t H1 locs ht9 hvm hw hB hz1 hk1 hS => ?_)
                    obtain ⟨u177, U177, V177⟩ := u176
                    obtain ⟨hw178, -⟩ := hw
                    have hw178 : (0 : Int) ≤ r175.toInt ∧ r175.toInt ≤ 1 := hw178
                    obtain ⟨hP1, hD1⟩ := hB
                    rw [ht9] at hP1
                    obtain ⟨hP, hD⟩ := va_join (wr := []) (w1 := [(a0, .inr (6, [.int i0, .ref a1, .ref a2, .ref a3])), (a1, .inl (cI, 8, .inl xF0)), (a2, .inl (cI, 8, .inl (U177 0))), (a3, .inl (cI, 8, .inl (U177 1)))]) hP hD [0, 1, 2, 3] [] rfl rfl (by decide) (by decide) hk1 hFc hP1 hD1
                    generalize H1 = H at hP hS ⊢
                    have hP : va_P (dC, dI) vwCl [(a0, .inr (6, [.int i0, .ref a1, .ref a2, .ref a3])), (a1, .inl (cI, 8, .inl xF0)), (a2, .inl (cI, 8, .inl (U177 0))), (a3, .inl (cI, 8, .inl (U177 1)))] H := hP
                    have hD : va_D A [(a0, .inr (6, [.int i0, .ref a1, .ref a2, .ref a3])), (a1, .inl (cI, 8, .inl xF0)), (a2, .inl (cI, 8, .inl (U177 0))), (a3, .inl (cI, 8, .inl (U177 1)))] := hD
                    refine lv_if_eq (tgt := 109) hx hb dX6_findsRoom_104 (by decide) (fun c179 => ?_) (fun c179 => ?_)
                    · rw [ki_eq] at c179
                      refine lv_aload_n hx hb dX6_findsRoom_109 rfl (lv_at hl 0 rfl) ?_
                      refine va_get (D := (dC, dI)) (ci := 6) (v := .ref a3) (C := RX6) (T := TX6) (N := 4) hx hb hwd inlX6 hown hK hP 0 rfl rfl 3 (by decide) (hwd _ kr4_17) (fun _ h9 => h9) rfl dX6_findsRoom_110 ?_
                      refine lv_iload hx hb dX6_findsRoom_113 (lv_at hl 5 rfl) ?_
                      refine lv_dup2_11 hx hb dX6_findsRoom_115 rfl rfl ?_
                      have h180 : vp_in w5_1 8 := (vp_of (by omega) (by omega))
                      refine va_iald hx hb hK hP 3 0 rfl rfl h180 dX6_findsRoom_116 ?_
                      refine lv_topi (fun x181 ex181 => ?_)
                      refine lv_aload_n hx hb dX6_findsRoom_117 rfl (lv_at hl 0 rfl) ?_
                      refine va_get (D := (dC, dI)) (ci := 6) (v := .ref a1) (C := RX6) (T := TX6) (N := 4) hx hb hwd inlX6 hown hK hP 0 rfl rfl 1 (by decide) (hwd _ kr4_15) (fun _ h9 => h9) rfl dX6_findsRoom_118 ?_
                      refine lv_iload_n hx hb dX6_findsRoom_121 rfl (lv_at hl 1 rfl) ?_
                      have h182 : vp_in p1 8 := (vp_of (by omega) (by omega))
                      refine va_iald hx hb hK hP 1 0 rfl rfl h182 dX6_findsRoom_122 ?_
                      refine lv_topi (nm_r (e' := x152) ex152.symm ?_)
                      refine lv_isub hx hb dX6_findsRoom_123 ?_
                      refine lv_topi (fun x183 ex183 => ?_)
                      refine va_iast hx hb hK hP hD hS 3 0 rfl rfl (vp_of (by omega) (by omega)) dX6_findsRoom_124 (fun H locs hP hD hS => ?_)
                      obtain ⟨f184, ef184⟩ : ∃ f, f = upd (U177 1) w5_1.toNatClampNeg x183 := ⟨_, rfl⟩
                      have hP : va_P (dC, dI) vwCl [(a0, .inr (6, [.int i0, .ref a1, .ref a2, .ref a3])), (a1, .inl (cI, 8, .inl xF0)), (a2, .inl (cI, 8, .inl (U177 0))), (a3, .inl (cI, 8, .inl f184))] H := by rw [ef184]; exact hP
                      have hD : va_D A [(a0, .inr (6, [.int i0, .ref a1, .ref a2, .ref a3])), (a1, .inl (cI, 8, .inl xF0)), (a2, .inl (cI, 8, .inl (U177 0))), (a3, .inl (cI, 8, .inl f184))] := by rw [ef184]; exact hD
                      obtain ⟨x185, ex185⟩ : ∃ y : Int32, y = w5_1 + 1 := ⟨_, rfl⟩
                      refine lv_iinc (v := x185) (lv' := [(5, .int x185), (0, .ref a0), (1, .int p1), (2, .int p2), (3, .int p3), (4, .int p4)]) hx hb dX6_findsRoom_125 hl (k := 5) rfl (by rw [ex185]; rfl) (by decide) rfl (fun ls hl => ?_)
                      have tx185 := ia_add (a := w5_1) (b := (1 : Int32)) (by omega) (by omega)
                      rw [← ex185] at tx185
                      refine lv_goto (tgt := 19) hx hb dX6_findsRoom_128 (by decide) ?_
                      exact ih1 _ _ ls x185 (U177 0) f184 (show (0 : Int) ≤ x185.toInt ∧ x185.toInt ≤ 8 from ⟨by omega, by omega⟩) (by omega) (hP.sub (ws' := [(a0, .inr (6, [.int i0, .ref a1, .ref a2, .ref a3])), (a1, .inl (cI, 8, .inl xF0)), (a2, .inl (cI, 8, .inl (U177 0))), (a3, .inl (cI, 8, .inl f184))]) [0, 1, 2, 3] rfl) (hD.sub (ws' := [(a0, .inr (6, [.int i0, .ref a1, .ref a2, .ref a3])), (a1, .inl (cI, 8, .inl xF0)), (a2, .inl (cI, 8, .inl (U177 0))), (a3, .inl (cI, 8, .inl f184))]) [0, 1, 2, 3] (by decide) rfl) hS (lv_sub hl [1, 2, 3, 4, 5, 0] rfl)
                    · rw [ki_eq] at c179
                      refine lv_iconst (v := 1) hx hb dX6_findsRoom_107 (by decide) ?_
                      have hP9 := hP.sub (ws' := [(a0, .inr (6, [.int i0, .ref a1, .ref a2, .ref a3])), (a1, .inl (cI, 8, .inl xF0)), (a2, .inl (cI, 8, .inl (U177 0))), (a3, .inl (cI, 8, .inl (U177 1)))]) [0, 1, 2, 3] rfl
                      have hD9 := hD.sub (ws' := [(a0, .inr (6, [.int i0, .ref a1, .ref a2, .ref a3])), (a1, .inl (cI, 8, .inl xF0)), (a2, .inl (cI, 8, .inl (U177 0))), (a3, .inl (cI, 8, .inl (U177 1)))]) [0, 1, 2, 3] (by decide) rfl
                      rw [hQ]
                      exact W.zret (v := 1) hx hb hr (by decide) (fun t ht hW => ⟨⟨1, (pickG 0 [], pickG (fun _ => 0) [(U177 0), (U177 1)], pickG (fun _ => 0) []), rfl, ⟨(show (0 : Int) ≤ (1 : Int32).toInt ∧ (1 : Int32).toInt ≤ 1 from ⟨by omega, by omega⟩), trivial⟩, (by rw [ht]; exact hP9), hD9⟩, hS.F ht⟩) hS.2.2 dX6_findsRoom_108
                  refine lv_icmp_ne (tgt := 97) hx hb dX6_findsRoom_88 (by decide) (fun c186 => ?_) (fun c186 => ?_)
                  · rw [ki_eq] at c186
                    refine lv_iload_n hx hb dX6_findsRoom_97 rfl (lv_at hl 2 rfl) ?_
                    exact jp7 _ _ ls p2 (show (0 : Int) ≤ p2.toInt ∧ p2.toInt ≤ 2147483647 from ⟨by omega, i32_hi⟩) (hP.sub (ws' := [(a0, .inr (6, [.int i0, .ref a1, .ref a2, .ref a3])), (a1, .inl (cI, 8, .inl xF0)), (a2, .inl (cI, 8, .inl f160)), (a3, .inl (cI, 8, .inl f159))]) [0, 1, 2, 3] rfl) (hD.sub (ws' := [(a0, .inr (6, [.int i0, .ref a1, .ref a2, .ref a3])), (a1, .inl (cI, 8, .inl xF0)), (a2, .inl (cI, 8, .inl f160)), (a3, .inl (cI, 8, .inl f159))]) [0, 1, 2, 3] (by decide) rfl) hS (lv_sub hl [0, 1, 2, 3, 4, 5] rfl)
                  · rw [ki_eq] at c186
                    refine lv_iload_n hx hb dX6_findsRoom_91 rfl (lv_at hl 2 rfl) ?_
                    refine lv_iconst (v := 1) hx hb dX6_findsRoom_92 (by decide) ?_
                    refine lv_iadd hx hb dX6_findsRoom_93 ?_
                    refine lv_topi (fun x187 ex187 => ?_)
                    have tx187 := ia_add (a := p2) (b := (1 : Int32)) (by omega) (by omega)
                    rw [← ex187] at tx187
                    refine lv_goto (tgt := 98) hx hb dX6_findsRoom_94 (by decide) ?_
                    exact jp7 _ _ ls x187 (show (0 : Int) ≤ x187.toInt ∧ x187.toInt ≤ 2147483647 from ⟨by omega, i32_hi⟩) (hP.sub (ws' := [(a0, .inr (6, [.int i0, .ref a1, .ref a2, .ref a3])), (a1, .inl (cI, 8, .inl xF0)), (a2, .inl (cI, 8, .inl f160)), (a3, .inl (cI, 8, .inl f159))]) [0, 1, 2, 3] rfl) (hD.sub (ws' := [(a0, .inr (6, [.int i0, .ref a1, .ref a2, .ref a3])), (a1, .inl (cI, 8, .inl xF0)), (a2, .inl (cI, 8, .inl f160)), (a3, .inl (cI, 8, .inl f159))]) [0, 1, 2, 3] (by decide) rfl) hS (lv_sub hl [0, 1, 2, 3, 4, 5] rfl)
      exact lp1 _ _ _ ls (0) xF1 xF2 (show (0 : Int) ≤ (0 : Int32).toInt ∧ (0 : Int32).toInt ≤ 8 from ⟨by omega, by omega⟩) (Nat.lt_succ_self _) (hP.sub (ws' := [(a0, .inr (6, [.int i0, .ref a1, .ref a2, .ref a3])), (a1, .inl (cI, 8, .inl xF0)), (a2, .inl (cI, 8, .inl xF1)), (a3, .inl (cI, 8, .inl xF2))]) [0, 1, 2, 3] rfl) (hD.sub (ws' := [(a0, .inr (6, [.int i0, .ref a1, .ref a2, .ref a3])), (a1, .inl (cI, 8, .inl xF0)), (a2, .inl (cI, 8, .inl xF1)), (a3, .inl (cI, 8, .inl xF2))]) [0, 1, 2, 3] (by decide) rfl) hS (lv_sub hl [1, 2, 3, 4, 5, 0] rfl)
    · rw [ki_lt] at c2
      exfalso
      omega
