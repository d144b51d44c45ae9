theorem dX0_fillTable_0 : decode cX0_fillTable 0 = .ok (.aload_n 0, 1) := by decide +kernel
theorem dX0_fillTable_1 : decode cX0_fillTable 1 = .ok (.aload_n 1, 1) := by decide +kernel
theorem dX0_fillTable_2 : decode cX0_fillTable 2 = .ok (.getfield 48, 3) := by decide +kernel
theorem dX0_fillTable_5 : decode cX0_fillTable 5 = .ok (.aload_n 1, 1) := by decide +kernel
theorem dX0_fillTable_6 : decode cX0_fillTable 6 = .ok (.getfield 48, 3) := by decide +kernel
theorem dX0_fillTable_9 : decode cX0_fillTable 9 = .ok (.getfield 54, 3) := by decide +kernel
theorem dX0_fillTable_12 : decode cX0_fillTable 12 = .ok (.invokevirtual 55, 3) := by decide +kernel
theorem dX0_fillTable_15 : decode cX0_fillTable 15 = .ok (.iconst 0, 1) := by decide +kernel
theorem dX0_fillTable_16 : decode cX0_fillTable 16 = .ok (.istore_n 2, 1) := by decide +kernel
theorem dX0_fillTable_17 : decode cX0_fillTable 17 = .ok (.iload_n 2, 1) := by decide +kernel
theorem dX0_fillTable_18 : decode cX0_fillTable 18 = .ok (.aload_n 1, 1) := by decide +kernel
theorem dX0_fillTable_19 : decode cX0_fillTable 19 = .ok (.getfield 108, 3) := by decide +kernel
theorem dX0_fillTable_22 : decode cX0_fillTable 22 = .ok (.getfield 150, 3) := by decide +kernel
theorem dX0_fillTable_25 : decode cX0_fillTable 25 = .ok (.if_icmp .ge 32, 3) := by decide +kernel
theorem dX0_fillTable_57 : decode cX0_fillTable 57 = .ok (.return_, 1) := by decide +kernel
theorem dX0_takeHeights_0 : decode cX0_takeHeights 0 = .ok (.iconst 0, 1) := by decide +kernel
theorem dX0_takeHeights_1 : decode cX0_takeHeights 1 = .ok (.istore_n 3, 1) := by decide +kernel
theorem dX0_takeHeights_2 : decode cX0_takeHeights 2 = .ok (.iload_n 3, 1) := by decide +kernel
theorem dX0_takeHeights_3 : decode cX0_takeHeights 3 = .ok (.aload_n 1, 1) := by decide +kernel
theorem dX0_takeHeights_4 : decode cX0_takeHeights 4 = .ok (.getfield 35, 3) := by decide +kernel
theorem dX0_takeHeights_7 : decode cX0_takeHeights 7 = .ok (.if_icmp .ge 23, 3) := by decide +kernel
theorem dX0_takeHeights_30 : decode cX0_takeHeights 30 = .ok (.return_, 1) := by decide +kernel
theorem dX1_begin_0 : decode cX1_begin 0 = .ok (.iconst 0, 1) := by decide +kernel
theorem dX1_begin_1 : decode cX1_begin 1 = .ok (.istore_n 2, 1) := by decide +kernel
theorem dX1_begin_2 : decode cX1_begin 2 = .ok (.iload_n 2, 1) := by decide +kernel
theorem dX1_begin_3 : decode cX1_begin 3 = .ok (.aload_n 0, 1) := by decide +kernel
theorem dX1_begin_4 : decode cX1_begin 4 = .ok (.getfield 49, 3) := by decide +kernel
theorem dX1_begin_7 : decode cX1_begin 7 = .ok (.if_icmp .ge 64, 3) := by decide +kernel
theorem dX1_begin_71 : decode cX1_begin 71 = .ok (.return_, 1) := by decide +kernel
theorem dX2_begin_0 : decode cX2_begin 0 = .ok (.aload_n 0, 1) := by decide +kernel
theorem dX2_begin_1 : decode cX2_begin 1 = .ok (.getfield 21, 3) := by decide +kernel
theorem dX2_begin_4 : decode cX2_begin 4 = .ok (.aload_n 1, 1) := by decide +kernel
theorem dX2_begin_5 : decode cX2_begin 5 = .ok (.invokevirtual 172, 3) := by decide +kernel
theorem dX2_begin_8 : decode cX2_begin 8 = .ok (.return_, 1) := by decide +kernel
theorem dX2_clear_0 : decode cX2_clear 0 = .ok (.aload_n 0, 1) := by decide +kernel
theorem dX2_clear_1 : decode cX2_clear 1 = .ok (.iconst 0, 1) := by decide +kernel
theorem dX2_clear_2 : decode cX2_clear 2 = .ok (.putfield 43, 3) := by decide +kernel
theorem dX2_clear_5 : decode cX2_clear 5 = .ok (.aload_n 0, 1) := by decide +kernel
theorem dX2_clear_6 : decode cX2_clear 6 = .ok (.iconst 0, 1) := by decide +kernel
theorem dX2_clear_7 : decode cX2_clear 7 = .ok (.putfield 71, 3) := by decide +kernel
theorem dX2_clear_10 : decode cX2_clear 10 = .ok (.aload_n 0, 1) := by decide +kernel
theorem dX2_clear_11 : decode cX2_clear 11 = .ok (.iconst 0, 1) := by decide +kernel
theorem dX2_clear_12 : decode cX2_clear 12 = .ok (.putfield 74, 3) := by decide +kernel
theorem dX2_clear_15 : decode cX2_clear 15 = .ok (.aload_n 0, 1) := by decide +kernel
theorem dX2_clear_16 : decode cX2_clear 16 = .ok (.iconst 0, 1) := by decide +kernel
theorem dX2_clear_17 : decode cX2_clear 17 = .ok (.putfield 47, 3) := by decide +kernel
theorem dX2_clear_20 : decode cX2_clear 20 = .ok (.aload_n 0, 1) := by decide +kernel
theorem dX2_clear_21 : decode cX2_clear 21 = .ok (.iconst 0, 1) := by decide +kernel
theorem dX2_clear_22 : decode cX2_clear 22 = .ok (.putfield 77, 3) := by decide +kernel
theorem dX2_clear_25 : decode cX2_clear 25 = .ok (.aload_n 0, 1) := by decide +kernel
theorem dX2_clear_26 : decode cX2_clear 26 = .ok (.iconst 0, 1) := by decide +kernel
theorem dX2_clear_27 : decode cX2_clear 27 = .ok (.putfield 80, 3) := by decide +kernel
theorem dX2_clear_30 : decode cX2_clear 30 = .ok (.aload_n 0, 1) := by decide +kernel
theorem dX2_clear_31 : decode cX2_clear 31 = .ok (.iconst 1, 1) := by decide +kernel
theorem dX2_clear_32 : decode cX2_clear 32 = .ok (.putfield 64, 3) := by decide +kernel
theorem dX2_clear_35 : decode cX2_clear 35 = .ok (.aload_n 0, 1) := by decide +kernel
theorem dX2_clear_36 : decode cX2_clear 36 = .ok (.iconst 1, 1) := by decide +kernel
theorem dX2_clear_37 : decode cX2_clear 37 = .ok (.putfield 61, 3) := by decide +kernel
theorem dX2_clear_40 : decode cX2_clear 40 = .ok (.aload_n 0, 1) := by decide +kernel
theorem dX2_clear_41 : decode cX2_clear 41 = .ok (.iconst 0, 1) := by decide +kernel
theorem dX2_clear_42 : decode cX2_clear 42 = .ok (.putfield 84, 3) := by decide +kernel
theorem dX2_clear_45 : decode cX2_clear 45 = .ok (.aload_n 0, 1) := by decide +kernel
theorem dX2_clear_46 : decode cX2_clear 46 = .ok (.getfield 12, 3) := by decide +kernel
theorem dX2_clear_49 : decode cX2_clear 49 = .ok (.iconst 0, 1) := by decide +kernel
theorem dX2_clear_50 : decode cX2_clear 50 = .ok (.putfield 50, 3) := by decide +kernel
theorem dX2_clear_53 : decode cX2_clear 53 = .ok (.aload_n 0, 1) := by decide +kernel
theorem dX2_clear_54 : decode cX2_clear 54 = .ok (.getfield 21, 3) := by decide +kernel
theorem dX2_clear_57 : decode cX2_clear 57 = .ok (.iconst 0, 1) := by decide +kernel
theorem dX2_clear_58 : decode cX2_clear 58 = .ok (.putfield 53, 3) := by decide +kernel
theorem dX2_clear_61 : decode cX2_clear 61 = .ok (.aload_n 0, 1) := by decide +kernel
theorem dX2_clear_62 : decode cX2_clear 62 = .ok (.getfield 28, 3) := by decide +kernel
theorem dX2_clear_65 : decode cX2_clear 65 = .ok (.iconst 0, 1) := by decide +kernel
theorem dX2_clear_66 : decode cX2_clear 66 = .ok (.putfield 54, 3) := by decide +kernel
theorem dX2_clear_69 : decode cX2_clear 69 = .ok (.aload_n 0, 1) := by decide +kernel
theorem dX2_clear_70 : decode cX2_clear 70 = .ok (.getfield 35, 3) := by decide +kernel
theorem dX2_clear_73 : decode cX2_clear 73 = .ok (.invokevirtual 87, 3) := by decide +kernel
theorem dX2_clear_76 : decode cX2_clear 76 = .ok (.return_, 1) := by decide +kernel
theorem dX2_readFrom_0 : decode cX2_readFrom 0 = .ok (.iconst 0, 1) := by decide +kernel
theorem dX2_readFrom_1 : decode cX2_readFrom 1 = .ok (.istore_n 2, 1) := by decide +kernel
theorem dX2_readFrom_2 : decode cX2_readFrom 2 = .ok (.iload_n 2, 1) := by decide +kernel
theorem dX2_readFrom_3 : decode cX2_readFrom 3 = .ok (.sipush 1600, 3) := by decide +kernel
theorem dX2_readFrom_6 : decode cX2_readFrom 6 = .ok (.if_icmp .ge 37, 3) := by decide +kernel
theorem dX2_readFrom_9 : decode cX2_readFrom 9 = .ok (.aload_n 1, 1) := by decide +kernel
theorem dX2_readFrom_10 : decode cX2_readFrom 10 = .ok (.invokevirtual 111, 3) := by decide +kernel
theorem dX2_readFrom_13 : decode cX2_readFrom 13 = .ok (.ifCond .eq 30, 3) := by decide +kernel
theorem dX2_readFrom_43 : decode cX2_readFrom 43 = .ok (.return_, 1) := by decide +kernel
theorem dX7_clear_0 : decode cX7_clear 0 = .ok (.aload_n 0, 1) := by decide +kernel
theorem dX7_clear_1 : decode cX7_clear 1 = .ok (.iconst 0, 1) := by decide +kernel
theorem dX7_clear_2 : decode cX7_clear 2 = .ok (.putfield 15, 3) := by decide +kernel
theorem dX7_clear_5 : decode cX7_clear 5 = .ok (.aload_n 0, 1) := by decide +kernel
theorem dX7_clear_6 : decode cX7_clear 6 = .ok (.iconst 0, 1) := by decide +kernel
theorem dX7_clear_7 : decode cX7_clear 7 = .ok (.putfield 18, 3) := by decide +kernel
theorem dX7_clear_10 : decode cX7_clear 10 = .ok (.aload_n 0, 1) := by decide +kernel
theorem dX7_clear_11 : decode cX7_clear 11 = .ok (.iconst 0, 1) := by decide +kernel
theorem dX7_clear_12 : decode cX7_clear 12 = .ok (.putfield 21, 3) := by decide +kernel
theorem dX7_clear_15 : decode cX7_clear 15 = .ok (.aload_n 0, 1) := by decide +kernel
theorem dX7_clear_16 : decode cX7_clear 16 = .ok (.iconst 0, 1) := by decide +kernel
theorem dX7_clear_17 : decode cX7_clear 17 = .ok (.putfield 24, 3) := by decide +kernel
theorem dX7_clear_20 : decode cX7_clear 20 = .ok (.aload_n 0, 1) := by decide +kernel
theorem dX7_clear_21 : decode cX7_clear 21 = .ok (.iconst 0, 1) := by decide +kernel
theorem dX7_clear_22 : decode cX7_clear 22 = .ok (.putfield 27, 3) := by decide +kernel
theorem dX7_clear_25 : decode cX7_clear 25 = .ok (.aload_n 0, 1) := by decide +kernel
theorem dX7_clear_26 : decode cX7_clear 26 = .ok (.iconst 0, 1) := by decide +kernel
theorem dX7_clear_27 : decode cX7_clear 27 = .ok (.putfield 30, 3) := by decide +kernel
theorem dX7_clear_30 : decode cX7_clear 30 = .ok (.aload_n 0, 1) := by decide +kernel
theorem dX7_clear_31 : decode cX7_clear 31 = .ok (.iconst (-1), 1) := by decide +kernel
theorem dX7_clear_32 : decode cX7_clear 32 = .ok (.putfield 9, 3) := by decide +kernel
theorem dX7_clear_35 : decode cX7_clear 35 = .ok (.aload_n 0, 1) := by decide +kernel
theorem dX7_clear_36 : decode cX7_clear 36 = .ok (.iconst 0, 1) := by decide +kernel
theorem dX7_clear_37 : decode cX7_clear 37 = .ok (.putfield 33, 3) := by decide +kernel
theorem dX7_clear_40 : decode cX7_clear 40 = .ok (.return_, 1) := by decide +kernel
set_option maxHeartbeats 4000000 in
set_option maxRecDepth 100000 in
theorem c_X7_clear (l : Launch) (dC : Nat → ClassId) (dI : Nat → Nat → Nat) (cI cZ cB cJ cM : ClassId) (h0 : Nat) (sz : Nat) : Met l yX7_clear (kw yX7_clear cX7_clear 1 none) ({ frames := 0, cells := 0, slots := 0, locals := 0 }) (va_Pc [.ref h0] (kPre dC dI [(cI, .int), (cZ, .boolean), (cB, .byte), (cJ, .long), (cM, .object RX2)] [(h0, .inr (7, [.int 0, .int 0, .int 0, .int 0, .int 0, .int 0, .int (-1), .int 0]))] sz)) (va_Qv (fun _ : Unit => True) (fun _ t => va_P (dC, dI) vwCl [(h0, .inr (7, [.int 0, .int 0, .int 0, .int 0, .int 0, .int 0, .int (-1), .int 0]))] t.heap ∧ va_D (va_A [(h0, .inr (7, [.int 0, .int 0, .int 0, .int 0, .int 0, .int 0, .int (-1), .int 0]))] sz) [(h0, .inr (7, [.int 0, .int 0, .int 0, .int 0, .int 0, .int 0, .int (-1), .int 0]))]) (va_A [(h0, .inr (7, [.int 0, .int 0, .int 0, .int 0, .int 0, .int 0, .int (-1), .int 0]))] sz)) 0 0 (va_A [(h0, .inr (7, [.int 0, .int 0, .int 0, .int 0, .int 0, .int 0, .int (-1), .int 0]))] sz) := by
  refine kEnter (by decide) (Nat.le_of_ble_eq_true rfl) ?_
  intro p e s m below meth c ls hx hb hr hml hown hlocks hin hwd hsz hP hK hD hl
  subst hsz
  generalize hAe : va_A [(h0, .inr (7, [.int 0, .int 0, .int 0, .int 0, .int 0, .int 0, .int (-1), .int 0]))] s.heap.size = A at hD ⊢
  have hA : ∀ q : Nat, s.heap.size ≤ q → A q := fun q h => by rw [← hAe]; exact Or.inr h
  have hS : va_S A s.heap s.heap [] := va_S.rf
  have hl : lv_has ls 1 [(0, .ref h0)] := hl
  refine lv_aload_n hx hb dX7_clear_0 rfl (lv_at hl 0 rfl) ?_
  refine lv_iconst (v := 0) hx hb dX7_clear_1 (by decide) ?_
  refine va_put (D := (dC, dI)) (ci := 7) (v := .int 0) (ty := .int) (C := RX7) (T := TX7) (N := 8) hx hb hwd inlX7 tyX7 tyX7_ok nmX7 hown hK hP hD hS 0 rfl rfl 0 (by decide) (hwd _ kr10_15) (fun _ h9 => h9) rfl (by decide +kernel) rfl rfl (Nat.le_of_ble_eq_true rfl) dX7_clear_2 (fun H locs hP hD hS => ?_)
  have hP : va_P (dC, dI) vwCl [(h0, .inr (7, [.int 0, .int 0, .int 0, .int 0, .int 0, .int 0, .int (-1), .int 0]))] H := hP
  have hD : va_D A [(h0, .inr (7, [.int 0, .int 0, .int 0, .int 0, .int 0, .int 0, .int (-1), .int 0]))] := hD
  refine lv_aload_n hx hb dX7_clear_5 rfl (lv_at hl 0 rfl) ?_
  refine lv_iconst (v := 0) hx hb dX7_clear_6 (by decide) ?_
  refine va_put (D := (dC, dI)) (ci := 7) (v := .int 0) (ty := .int) (C := RX7) (T := TX7) (N := 8) hx hb hwd inlX7 tyX7 tyX7_ok nmX7 hown hK hP hD hS 0 rfl rfl 1 (by decide) (hwd _ kr10_16) (fun _ h9 => h9) rfl (by decide +kernel) rfl rfl (Nat.le_of_ble_eq_true rfl) dX7_clear_7 (fun H locs hP hD hS => ?_)
  have hP : va_P (dC, dI) vwCl [(h0, .inr (7, [.int 0, .int 0, .int 0, .int 0, .int 0, .int 0, .int (-1), .int 0]))] H := hP
  have hD : va_D A [(h0, .inr (7, [.int 0, .int 0, .int 0, .int 0, .int 0, .int 0, .int (-1), .int 0]))] := hD
  refine lv_aload_n hx hb dX7_clear_10 rfl (lv_at hl 0 rfl) ?_
  refine lv_iconst (v := 0) hx hb dX7_clear_11 (by decide) ?_
  refine va_put (D := (dC, dI)) (ci := 7) (v := .int 0) (ty := .int) (C := RX7) (T := TX7) (N := 8) hx hb hwd inlX7 tyX7 tyX7_ok nmX7 hown hK hP hD hS 0 rfl rfl 2 (by decide) (hwd _ kr10_17) (fun _ h9 => h9) rfl (by decide +kernel) rfl rfl (Nat.le_of_ble_eq_true rfl) dX7_clear_12 (fun H locs hP hD hS => ?_)
  have hP : va_P (dC, dI) vwCl [(h0, .inr (7, [.int 0, .int 0, .int 0, .int 0, .int 0, .int 0, .int (-1), .int 0]))] H := hP
  have hD : va_D A [(h0, .inr (7, [.int 0, .int 0, .int 0, .int 0, .int 0, .int 0, .int (-1), .int 0]))] := hD
  refine lv_aload_n hx hb dX7_clear_15 rfl (lv_at hl 0 rfl) ?_
  refine lv_iconst (v := 0) hx hb dX7_clear_16 (by decide) ?_
  refine va_put (D := (dC, dI)) (ci := 7) (v := .int 0) (ty := .int) (C := RX7) (T := TX7) (N := 8) hx hb hwd inlX7 tyX7 tyX7_ok nmX7 hown hK hP hD hS 0 rfl rfl 3 (by decide) (hwd _ kr10_18) (fun _ h9 => h9) rfl (by decide +kernel) rfl rfl (Nat.le_of_ble_eq_true rfl) dX7_clear_17 (fun H locs hP hD hS => ?_)
  have hP : va_P (dC, dI) vwCl [(h0, .inr (7, [.int 0, .int 0, .int 0, .int 0, .int 0, .int 0, .int (-1), .int 0]))] H := hP
  have hD : va_D A [(h0, .inr (7, [.int 0, .int 0, .int 0, .int 0, .int 0, .int 0, .int (-1), .int 0]))] := hD
  refine lv_aload_n hx hb dX7_clear_20 rfl (lv_at hl 0 rfl) ?_
  refine lv_iconst (v := 0) hx hb dX7_clear_21 (by decide) ?_
  refine va_put (D := (dC, dI)) (ci := 7) (v := .int 0) (ty := .int) (C := RX7) (T := TX7) (N := 8) hx hb hwd inlX7 tyX7 tyX7_ok nmX7 hown hK hP hD hS 0 rfl rfl 4 (by decide) (hwd _ kr10_19) (fun _ h9 => h9) rfl (by decide +kernel) rfl rfl (Nat.le_of_ble_eq_true rfl) dX7_clear_22 (fun H locs hP hD hS => ?_)
  have hP : va_P (dC, dI) vwCl [(h0, .inr (7, [.int 0, .int 0, .int 0, .int 0, .int 0, .int 0, .int (-1), .int 0]))] H := hP
  have hD : va_D A [(h0, .inr (7, [.int 0, .int 0, .int 0, .int 0, .int 0, .int 0, .int (-1), .int 0]))] := hD
  refine lv_aload_n hx hb dX7_clear_25 rfl (lv_at hl 0 rfl) ?_
  refine lv_iconst (v := 0) hx hb dX7_clear_26 (by decide) ?_
  refine va_put (D := (dC, dI)) (ci := 7) (v := .int 0) (ty := .int) (C := RX7) (T := TX7) (N := 8) hx hb hwd inlX7 tyX7 tyX7_ok nmX7 hown hK hP hD hS 0 rfl rfl 5 (by decide) (hwd _ kr10_20) (fun _ h9 => h9) rfl (by decide +kernel) rfl rfl (Nat.le_of_ble_eq_true rfl) dX7_clear_27 (fun H locs hP hD hS => ?_)
  have hP : va_P (dC, dI) vwCl [(h0, .inr (7, [.int 0, .int 0, .int 0, .int 0, .int 0, .int 0, .int (-1), .int 0]))] H := hP
  have hD : va_D A [(h0, .inr (7, [.int 0, .int 0, .int 0, .int 0, .int 0, .int 0, .int (-1), .int 0]))] := hD
  refine lv_aload_n hx hb dX7_clear_30 rfl (lv_at hl 0 rfl) ?_
  refine lv_iconst (v := (-1)) hx hb dX7_clear_31 (by decide) ?_
  refine va_put (D := (dC, dI)) (ci := 7) (v := .int (-1)) (ty := .int) (C := RX7) (T := TX7) (N := 8) hx hb hwd inlX7 tyX7 tyX7_ok nmX7 hown hK hP hD hS 0 rfl rfl 6 (by decide) (hwd _ kr6_22) (fun _ h9 => h9) rfl (by decide +kernel) rfl rfl (Nat.le_of_ble_eq_true rfl) dX7_clear_32 (fun H locs hP hD hS => ?_)
  have hP : va_P (dC, dI) vwCl [(h0, .inr (7, [.int 0, .int 0, .int 0, .int 0, .int 0, .int 0, .int (-1), .int 0]))] H := hP
  have hD : va_D A [(h0, .inr (7, [.int 0, .int 0, .int 0, .int 0, .int 0, .int 0, .int (-1), .int 0]))] := hD
  refine lv_aload_n hx hb dX7_clear_35 rfl (lv_at hl 0 rfl) ?_
  refine lv_iconst (v := 0) hx hb dX7_clear_36 (by decide) ?_
  refine va_put (D := (dC, dI)) (ci := 7) (v := .int 0) (ty := .int) (C := RX7) (T := TX7) (N := 8) hx hb hwd inlX7 tyX7 tyX7_ok nmX7 hown hK hP hD hS 0 rfl rfl 7 (by decide) (hwd _ kr10_21) (fun _ h9 => h9) rfl (by decide +kernel) rfl rfl (Nat.le_of_ble_eq_true rfl) dX7_clear_37 (fun H locs hP hD hS => ?_)
  have hP : va_P (dC, dI) vwCl [(h0, .inr (7, [.int 0, .int 0, .int 0, .int 0, .int 0, .int 0, .int (-1), .int 0]))] H := hP
  have hD : va_D A [(h0, .inr (7, [.int 0, .int 0, .int 0, .int 0, .int 0, .int 0, .int (-1), .int 0]))] := hD
  have hP9 := hP.sub (ws' := [(h0, .inr (7, [.int 0, .int 0, .int 0, .int 0, .int 0, .int 0, .int (-1), .int 0]))]) [0] rfl
  have hD9 := hD.sub (ws' := [(h0, .inr (7, [.int 0, .int 0, .int 0, .int 0, .int 0, .int 0, .int (-1), .int 0]))]) [0] (by decide) rfl
  exact W.vret hx hb hr (fun t ht hW => ⟨⟨(), rfl, trivial, (by rw [ht]; exact hP9), hD9⟩, hS.F ht⟩) hS.2.2 dX7_clear_40
set_option maxHeartbeats 4000000 in
set_option maxRecDepth 100000 in
theorem c_X2_clear (l : Launch) (dC : Nat → ClassId) (dI : Nat → Nat → Nat) (cI cZ cB cJ cM : ClassId) (h0 gn gf gp gs gr a0 a1 a2 a3 a4 a5 a6 b0 b1 b2 b3 b4 b5 b6 b7 b8 e0 e1 e2 e3 : Nat) (sz : Nat) : Met l yX2_clear (kw yX2_clear cX2_clear 1 none) ({ frames := 1, cells := 0, slots := 0, locals := 20 }) (va_Pc [.ref h0] (kPre dC dI [(cI, .int), (cZ, .boolean), (cB, .byte), (cJ, .long), (cM, .object RX2)] [(h0, .inr (2, [.int 0, .int 0, .int 0, .int 0, .int 0, .int 0, .int 0, .int 0, .int 0, .ref gn, .ref gf, .ref gp, .ref gs, .ref gr])), (gn, .inr (3, [.int 0, .ref a0, .ref a1, .ref a2, .ref a3, .ref a4, .ref a5, .ref a6])), (gf, .inr (1, [.int 0, .ref b0, .ref b1, .ref b2, .ref b3, .ref b4, .ref b5, .ref b6, .ref b7, .ref b8])), (gp, .inr (4, [.int 0, .ref e0, .ref e1, .ref e2, .ref e3])), (gs, .inr (7, [.int 0, .int 0, .int 0, .int 0, .int 0, .int 0, .int (-1), .int 0]))] sz)) (va_Qv (fun _ : Unit => True) (fun u t => va_P (dC, dI) vwCl [(h0, .inr (2, [.int 0, .int 0, .int 0, .int 0, .int 0, .int 0, .int 1, .int 1, .int 0, .ref gn, .ref gf, .ref gp, .ref gs, .ref gr])), (gn, .inr (3, [.int 0, .ref a0, .ref a1, .ref a2, .ref a3, .ref a4, .ref a5, .ref a6])), (gf, .inr (1, [.int 0, .ref b0, .ref b1, .ref b2, .ref b3, .ref b4, .ref b5, .ref b6, .ref b7, .ref b8])), (gp, .inr (4, [.int 0, .ref e0, .ref e1, .ref e2, .ref e3])), (gs, .inr (7, [.int 0, .int 0, .int 0, .int 0, .int 0, .int 0, .int (-1), .int 0]))] t.heap ∧ va_D (va_A [(h0, .inr (2, [.int 0, .int 0, .int 0, .int 0, .int 0, .int 0, .int 0, .int 0, .int 0, .ref gn, .ref gf, .ref gp, .ref gs, .ref gr])), (gn, .inr (3, [.int 0, .ref a0, .ref a1, .ref a2, .ref a3, .ref a4, .ref a5, .ref a6])), (gf, .inr (1, [.int 0, .ref b0, .ref b1, .ref b2, .ref b3, .ref b4, .ref b5, .ref b6, .ref b7, .ref b8])), (gp, .inr (4, [.int 0, .ref e0, .ref e1, .ref e2, .ref e3])), (gs, .inr (7, [.int 0, .int 0, .int 0, .int 0, .int 0, .int 0, .int (-1), .int 0]))] sz) [(h0, .inr (2, [.int 0, .int 0, .int 0, .int 0, .int 0, .int 0, .int 1, .int 1, .int 0, .ref gn, .ref gf, .ref gp, .ref gs, .ref gr])), (gn, .inr (3, [.int 0, .ref a0, .ref a1, .ref a2, .ref a3, .ref a4, .ref a5, .ref a6])), (gf, .inr (1, [.int 0, .ref b0, .ref b1, .ref b2, .ref b3, .ref b4, .ref b5, .ref b6, .ref b7, .ref b8])), (gp, .inr (4, [.int 0, .ref e0, .ref e1, .ref e2, .ref e3])), (gs, .inr (7, [.int 0, .int 0, .int 0, .int 0, .int 0, .int 0, .int (-1), .int 0]))]) (va_A [(h0, .inr (2, [.int 0, .int 0, .int 0, .int 0, .int 0, .int 0, .int 0, .int 0, .int 0, .ref gn, .ref gf, .ref gp, .ref gs, .ref gr])), (gn, .inr (3, [.int 0, .ref a0, .ref a1, .ref a2, .ref a3, .ref a4, .ref a5, .ref a6])), (gf, .inr (1, [.int 0, .ref b0, .ref b1, .ref b2, .ref b3, .ref b4, .ref b5, .ref b6, .ref b7, .ref b8])), (gp, .inr (4, [.int 0, .ref e0, .ref e1, .ref e2, .ref e3])), (gs, .inr (7, [.int 0, .int 0, .int 0, .int 0, .int 0, .int 0, .int (-1), .int 0]))] sz)) 0 0 (va_A [(h0, .inr (2, [.int 0, .int 0, .int 0, .int 0, .int 0, .int 0, .int 0, .int 0, .int 0, .ref gn, .ref gf, .ref gp, .ref gs, .ref gr])), (gn, .inr (3, [.int 0, .ref a0, .ref a1, .ref a2, .ref a3, .ref a4, .ref a5, .ref a6])), (gf, .inr (1, [.int 0, .ref b0, .ref b1, .ref b2, .ref b3, .ref b4, .ref b5, .ref b6, .ref b7, .ref b8])), (gp, .inr (4, [.int 0, .ref e0, .ref e1, .ref e2, .ref e3])), (gs, .inr (7, [.int 0, .int 0, .int 0, .int 0, .int 0, .int 0, .int (-1), .int 0]))] sz) := by
  refine kEnter (by decide) (Nat.le_of_ble_eq_true rfl) ?_
  intro p e s m below meth c ls hx hb hr hml hown hlocks hin hwd hsz hP hK hD hl
  subst hsz
  generalize hAe : va_A [(h0, .inr (2, [.int 0, .int 0, .int 0, .int 0, .int 0, .int 0, .int 0, .int 0, .int 0, .ref gn, .ref gf, .ref gp, .ref gs, .ref gr])), (gn, .inr (3, [.int 0, .ref a0, .ref a1, .ref a2, .ref a3, .ref a4, .ref a5, .ref a6])), (gf, .inr (1, [.int 0, .ref b0, .ref b1, .ref b2, .ref b3, .ref b4, .ref b5, .ref b6, .ref b7, .ref b8])), (gp, .inr (4, [.int 0, .ref e0, .ref e1, .ref e2, .ref e3])), (gs, .inr (7, [.int 0, .int 0, .int 0, .int 0, .int 0, .int 0, .int (-1), .int 0]))] s.heap.size = A at hD ⊢
  have hA : ∀ q : Nat, s.heap.size ≤ q → A q := fun q h => by rw [← hAe]; exact Or.inr h
  have hS : va_S A s.heap s.heap [] := va_S.rf
  have hl : lv_has ls 1 [(0, .ref h0)] := hl
  refine lv_aload_n hx hb dX2_clear_0 rfl (lv_at hl 0 rfl) ?_
  refine lv_iconst (v := 0) hx hb dX2_clear_1 (by decide) ?_
  refine va_put (D := (dC, dI)) (ci := 2) (v := .int 0) (ty := .int) (C := RX2) (T := TX2) (N := 14) hx hb hwd inlX2 tyX2 tyX2_ok nmX2 hown hK hP hD hS 0 rfl rfl 0 (by decide) (hwd _ kr9_23) (fun _ h9 => h9) rfl (by decide +kernel) rfl rfl (Nat.le_of_ble_eq_true rfl) dX2_clear_2 (fun H locs hP hD hS => ?_)
  have hP : va_P (dC, dI) vwCl [(h0, .inr (2, [.int 0, .int 0, .int 0, .int 0, .int 0, .int 0, .int 0, .int 0, .int 0, .ref gn, .ref gf, .ref gp, .ref gs, .ref gr])), (gn, .inr (3, [.int 0, .ref a0, .ref a1, .ref a2, .ref a3, .ref a4, .ref a5, .ref a6])), (gf, .inr (1, [.int 0, .ref b0, .ref b1, .ref b2, .ref b3, .ref b4, .ref b5, .ref b6, .ref b7, .ref b8])), (gp, .inr (4, [.int 0, .ref e0, .ref e1, .ref e2, .ref e3])), (gs, .inr (7, [.int 0, .int 0, .int 0, .int 0, .int 0, .int 0, .int (-1), .int 0]))] H := hP
  have hD : va_D A [(h0, .inr (2, [.int 0, .int 0, .int 0, .int 0, .int 0, .int 0, .int 0, .int 0, .int 0, .ref gn, .ref gf, .ref gp, .ref gs, .ref gr])), (gn, .inr (3, [.int 0, .ref a0, .ref a1, .ref a2, .ref a3, .ref a4, .ref a5, .ref a6])), (gf, .inr (1, [.int 0, .ref b0, .ref b1, .ref b2, .ref b3, .ref b4, .ref b5, .ref b6, .ref b7, .ref b8])), (gp, .inr (4, [.int 0, .ref e0, .ref e1, .ref e2, .ref e3])), (gs, .inr (7, [.int 0, .int 0, .int 0, .int 0, .int 0, .int 0, .int (-1), .int 0]))] := hD
  refine lv_aload_n hx hb dX2_clear_5 rfl (lv_at hl 0 rfl) ?_
  refine lv_iconst (v := 0) hx hb dX2_clear_6 (by decide) ?_
  refine va_put (D := (dC, dI)) (ci := 2) (v := .int 0) (ty := .int) (C := RX2) (T := TX2) (N := 14) hx hb hwd inlX2 tyX2 tyX2_ok nmX2 hown hK hP hD hS 0 rfl rfl 1 (by decide) (hwd _ kr10_0) (fun _ h9 => h9) rfl (by decide +kernel) rfl rfl (Nat.le_of_ble_eq_true rfl) dX2_clear_7 (fun H locs hP hD hS => ?_)
  have hP : va_P (dC, dI) vwCl [(h0, .inr (2, [.int 0, .int 0, .int 0, .int 0, .int 0, .int 0, .int 0, .int 0, .int 0, .ref gn, .ref gf, .ref gp, .ref gs, .ref gr])), (gn, .inr (3, [.int 0, .ref a0, .ref a1, .ref a2, .ref a3, .ref a4, .ref a5, .ref a6])), (gf, .inr (1, [.int 0, .ref b0, .ref b1, .ref b2, .ref b3, .ref b4, .ref b5, .ref b6, .ref b7, .ref b8])), (gp, .inr (4, [.int 0, .ref e0, .ref e1, .ref e2, .ref e3])), (gs, .inr (7, [.int 0, .int 0, .int 0, .int 0, .int 0, .int 0, .int (-1), .int 0]))] H := hP
  have hD : va_D A [(h0, .inr (2, [.int 0, .int 0, .int 0, .int 0, .int 0, .int 0, .int 0, .int 0, .int 0, .ref gn, .ref gf, .ref gp, .ref gs, .ref gr])), (gn, .inr (3, [.int 0, .ref a0, .ref a1, .ref a2, .ref a3, .ref a4, .ref a5, .ref a6])), (gf, .inr (1, [.int 0, .ref b0, .ref b1, .ref b2, .ref b3, .ref b4, .ref b5, .ref b6, .ref b7, .ref b8])), (gp, .inr (4, [.int 0, .ref e0, .ref e1, .ref e2, .ref e3])), (gs, .inr (7, [.int 0, .int 0, .int 0, .int 0, .int 0, .int 0, .int (-1), .int 0]))] := hD
  refine lv_aload_n hx hb dX2_clear_10 rfl (lv_at hl 0 rfl) ?_
  refine lv_iconst (v := 0) hx hb dX2_clear_11 (by decide) ?_
  refine va_put (D := (dC, dI)) (ci := 2) (v := .int 0) (ty := .int) (C := RX2) (T := TX2) (N := 14) hx hb hwd inlX2 tyX2 tyX2_ok nmX2 hown hK hP hD hS 0 rfl rfl 2 (by decide) (hwd _ kr10_1) (fun _ h9 => h9) rfl (by decide +kernel) rfl rfl (Nat.le_of_ble_eq_true rfl) dX2_clear_12 (fun H locs hP hD hS => ?_)
  have hP : va_P (dC, dI) vwCl [(h0, .inr (2, [.int 0, .int 0, .int 0, .int 0, .int 0, .int 0, .int 0, .int 0, .int 0, .ref gn, .ref gf, .ref gp, .ref gs, .ref gr])), (gn, .inr (3, [.int 0, .ref a0, .ref a1, .ref a2, .ref a3, .ref a4, .ref a5, .ref a6])), (gf, .inr (1, [.int 0, .ref b0, .ref b1, .ref b2, .ref b3, .ref b4, .ref b5, .ref b6, .ref b7, .ref b8])), (gp, .inr (4, [.int 0, .ref e0, .ref e1, .ref e2, .ref e3])), (gs, .inr (7, [.int 0, .int 0, .int 0, .int 0, .int 0, .int 0, .int (-1), .int 0]))] H := hP
  have hD : va_D A [(h0, .inr (2, [.int 0, .int 0, .int 0, .int 0, .int 0, .int 0, .int 0, .int 0, .int 0, .ref gn, .ref gf, .ref gp, .ref gs, .ref gr])), (gn, .inr (3, [.int 0, .ref a0, .ref a1, .ref a2, .ref a3, .ref a4, .ref a5, .ref a6])), (gf, .inr (1, [.int 0, .ref b0, .ref b1, .ref b2, .ref b3, .ref b4, .ref b5, .ref b6, .ref b7, .ref b8])), (gp, .inr (4, [.int 0, .ref e0, .ref e1, .ref e2, .ref e3])), (gs, .inr (7, [.int 0, .int 0, .int 0, .int 0, .int 0, .int 0, .int (-1), .int 0]))] := hD
  refine lv_aload_n hx hb dX2_clear_15 rfl (lv_at hl 0 rfl) ?_
  refine lv_iconst (v := 0) hx hb dX2_clear_16 (by decide) ?_
  refine va_put (D := (dC, dI)) (ci := 2) (v := .int 0) (ty := .int) (C := RX2) (T := TX2) (N := 14) hx hb hwd inlX2 tyX2 tyX2_ok nmX2 hown hK hP hD hS 0 rfl rfl 3 (by decide) (hwd _ kr10_2) (fun _ h9 => h9) rfl (by decide +kernel) rfl rfl (Nat.le_of_ble_eq_true rfl) dX2_clear_17 (fun H locs hP hD hS => ?_)
  have hP : va_P (dC, dI) vwCl [(h0, .inr (2, [.int 0, .int 0, .int 0, .int 0, .int 0, .int 0, .int 0, .int 0, .int 0, .ref gn, .ref gf, .ref gp, .ref gs, .ref gr])), (gn, .inr (3, [.int 0, .ref a0, .ref a1, .ref a2, .ref a3, .ref a4, .ref a5, .ref a6])), (gf, .inr (1, [.int 0, .ref b0, .ref b1, .ref b2, .ref b3, .ref b4, .ref b5, .ref b6, .ref b7, .ref b8])), (gp, .inr (4, [.int 0, .ref e0, .ref e1, .ref e2, .ref e3])), (gs, .inr (7, [.int 0, .int 0, .int 0, .int 0, .int 0, .int 0, .int (-1), .int 0]))] H := hP
  have hD : va_D A [(h0, .inr (2, [.int 0, .int 0, .int 0, .int 0, .int 0, .int 0, .int 0, .int 0, .int 0, .ref gn, .ref gf, .ref gp, .ref gs, .ref gr])), (gn, .inr (3, [.int 0, .ref a0, .ref a1, .ref a2, .ref a3, .ref a4, .ref a5, .ref a6])), (gf, .inr (1, [.int 0, .ref b0, .ref b1, .ref b2, .ref b3, .ref b4, .ref b5, .ref b6, .ref b7, .ref b8])), (gp, .inr (4, [.int 0, .ref e0, .ref e1, .ref e2, .ref e3])), (gs, .inr (7, [.int 0, .int 0, .int 0, .int 0, .int 0, .int 0, .int (-1), .int 0]))] := hD
  refine lv_aload_n hx hb dX2_clear_20 rfl (lv_at hl 0 rfl) ?_
  refine lv_iconst (v := 0) hx hb dX2_clear_21 (by decide) ?_
  refine va_put (D := (dC, dI)) (ci := 2) (v := .int 0) (ty := .int) (C := RX2) (T := TX2) (N := 14) hx hb hwd inlX2 tyX2 tyX2_ok nmX2 hown hK hP hD hS 0 rfl rfl 4 (by decide) (hwd _ kr10_3) (fun _ h9 => h9) rfl (by decide +kernel) rfl rfl (Nat.le_of_ble_eq_true rfl) dX2_clear_22 (fun H locs hP hD hS => ?_)
  have hP : va_P (dC, dI) vwCl [(h0, .inr (2, [.int 0, .int 0, .int 0, .int 0, .int 0, .int 0, .int 0, .int 0, .int 0, .ref gn, .ref gf, .ref gp, .ref gs, .ref gr])), (gn, .inr (3, [.int 0, .ref a0, .ref a1, .ref a2, .ref a3, .ref a4, .ref a5, .ref a6])), (gf, .inr (1, [.int 0, .ref b0, .ref b1, .ref b2, .ref b3, .ref b4, .ref b5, .ref b6, .ref b7, .ref b8])), (gp, .inr (4, [.int 0, .ref e0, .ref e1, .ref e2, .ref e3])), (gs, .inr (7, [.int 0, .int 0, .int 0, .int 0, .int 0, .int 0, .int (-1), .int 0]))] H := hP
  have hD : va_D A [(h0, .inr (2, [.int 0, .int 0, .int 0, .int 0, .int 0, .int 0, .int 0, .int 0, .int 0, .ref gn, .ref gf, .ref gp, .ref gs, .ref gr])), (gn, .inr (3, [.int 0, .ref a0, .ref a1, .ref a2, .ref a3, .ref a4, .ref a5, .ref a6])), (gf, .inr (1, [.int 0, .ref b0, .ref b1, .ref b2, .ref b3, .ref b4, .ref b5, .ref b6, .ref b7, .ref b8])), (gp, .inr (4, [.int 0, .ref e0, .ref e1, .ref e2, .ref e3])), (gs, .inr (7, [.int 0, .int 0, .int 0, .int 0, .int 0, .int 0, .int (-1), .int 0]))] := hD
  refine lv_aload_n hx hb dX2_clear_25 rfl (lv_at hl 0 rfl) ?_
  refine lv_iconst (v := 0) hx hb dX2_clear_26 (by decide) ?_
  refine va_put (D := (dC, dI)) (ci := 2) (v := .int 0) (ty := .boolean) (C := RX2) (T := TX2) (N := 14) hx hb hwd inlX2 tyX2 tyX2_ok nmX2 hown hK hP hD hS 0 rfl rfl 5 (by decide) (hwd _ kr10_4) (fun _ h9 => h9) rfl (by decide +kernel) rfl rfl (Nat.le_of_ble_eq_true rfl) dX2_clear_27 (fun H locs hP hD hS => ?_)
  have hP : va_P (dC, dI) vwCl [(h0, .inr (2, [.int 0, .int 0, .int 0, .int 0, .int 0, .int 0, .int 0, .int 0, .int 0, .ref gn, .ref gf, .ref gp, .ref gs, .ref gr])), (gn, .inr (3, [.int 0, .ref a0, .ref a1, .ref a2, .ref a3, .ref a4, .ref a5, .ref a6])), (gf, .inr (1, [.int 0, .ref b0, .ref b1, .ref b2, .ref b3, .ref b4, .ref b5, .ref b6, .ref b7, .ref b8])), (gp, .inr (4, [.int 0, .ref e0, .ref e1, .ref e2, .ref e3])), (gs, .inr (7, [.int 0, .int 0, .int 0, .int 0, .int 0, .int 0, .int (-1), .int 0]))] H := hP
  have hD : va_D A [(h0, .inr (2, [.int 0, .int 0, .int 0, .int 0, .int 0, .int 0, .int 0, .int 0, .int 0, .ref gn, .ref gf, .ref gp, .ref gs, .ref gr])), (gn, .inr (3, [.int 0, .ref a0, .ref a1, .ref a2, .ref a3, .ref a4, .ref a5, .ref a6])), (gf, .inr (1, [.int 0, .ref b0, .ref b1, .ref b2, .ref b3, .ref b4, .ref b5, .ref b6, .ref b7, .ref b8])), (gp, .inr (4, [.int 0, .ref e0, .ref e1, .ref e2, .ref e3])), (gs, .inr (7, [.int 0, .int 0, .int 0, .int 0, .int 0, .int 0, .int (-1), .int 0]))] := hD
  refine lv_aload_n hx hb dX2_clear_30 rfl (lv_at hl 0 rfl) ?_
  refine lv_iconst (v := 1) hx hb dX2_clear_31 (by decide) ?_
  refine va_put (D := (dC, dI)) (ci := 2) (v := .int 1) (ty := .int) (C := RX2) (T := TX2) (N := 14) hx hb hwd inlX2 tyX2 tyX2_ok nmX2 hown hK hP hD hS 0 rfl rfl 6 (by decide) (hwd _ kr10_5) (fun _ h9 => h9) rfl (by decide +kernel) rfl rfl (Nat.le_of_ble_eq_true rfl) dX2_clear_32 (fun H locs hP hD hS => ?_)
  have hP : va_P (dC, dI) vwCl [(h0, .inr (2, [.int 0, .int 0, .int 0, .int 0, .int 0, .int 0, .int 1, .int 0, .int 0, .ref gn, .ref gf, .ref gp, .ref gs, .ref gr])), (gn, .inr (3, [.int 0, .ref a0, .ref a1, .ref a2, .ref a3, .ref a4, .ref a5, .ref a6])), (gf, .inr (1, [.int 0, .ref b0, .ref b1, .ref b2, .ref b3, .ref b4, .ref b5, .ref b6, .ref b7, .ref b8])), (gp, .inr (4, [.int 0, .ref e0, .ref e1, .ref e2, .ref e3])), (gs, .inr (7, [.int 0, .int 0, .int 0, .int 0, .int 0, .int 0, .int (-1), .int 0]))] H := hP
  have hD : va_D A [(h0, .inr (2, [.int 0, .int 0, .int 0, .int 0, .int 0, .int 0, .int 1, .int 0, .int 0, .ref gn, .ref gf, .ref gp, .ref gs, .ref gr])), (gn, .inr (3, [.int 0, .ref a0, .ref a1, .ref a2, .ref a3, .ref a4, .ref a5, .ref a6])), (gf, .inr (1, [.int 0, .ref b0, .ref b1, .ref b2, .ref b3, .ref b4, .ref b5, .ref b6, .ref b7, .ref b8])), (gp, .inr (4, [.int 0, .ref e0, .ref e1, .ref e2, .ref e3])), (gs, .inr (7, [.int 0, .int 0, .int 0, .int 0, .int 0, .int 0, .int (-1), .int 0]))] := hD
  refine lv_aload_n hx hb dX2_clear_35 rfl (lv_at hl 0 rfl) ?_
  refine lv_iconst (v := 1) hx hb dX2_clear_36 (by decide) ?_
  refine va_put (D := (dC, dI)) (ci := 2) (v := .int 1) (ty := .int) (C := RX2) (T := TX2) (N := 14) hx hb hwd inlX2 tyX2 tyX2_ok nmX2 hown hK hP hD hS 0 rfl rfl 7 (by decide) (hwd _ kr10_6) (fun _ h9 => h9) rfl (by decide +kernel) rfl rfl (Nat.le_of_ble_eq_true rfl) dX2_clear_37 (fun H locs hP hD hS => ?_)
  have hP : va_P (dC, dI) vwCl [(h0, .inr (2, [.int 0, .int 0, .int 0, .int 0, .int 0, .int 0, .int 1, .int 1, .int 0, .ref gn, .ref gf, .ref gp, .ref gs, .ref gr])), (gn, .inr (3, [.int 0, .ref a0, .ref a1, .ref a2, .ref a3, .ref a4, .ref a5, .ref a6])), (gf, .inr (1, [.int 0, .ref b0, .ref b1, .ref b2, .ref b3, .ref b4, .ref b5, .ref b6, .ref b7, .ref b8])), (gp, .inr (4, [.int 0, .ref e0, .ref e1, .ref e2, .ref e3])), (gs, .inr (7, [.int 0, .int 0, .int 0, .int 0, .int 0, .int 0, .int (-1), .int 0]))] H := hP
  have hD : va_D A [(h0, .inr (2, [.int 0, .int 0, .int 0, .int 0, .int 0, .int 0, .int 1, .int 1, .int 0, .ref gn, .ref gf, .ref gp, .ref gs, .ref gr])), (gn, .inr (3, [.int 0, .ref a0, .ref a1, .ref a2, .ref a3, .ref a4, .ref a5, .ref a6])), (gf, .inr (1, [.int 0, .ref b0, .ref b1, .ref b2, .ref b3, .ref b4, .ref b5, .ref b6, .ref b7, .ref b8])), (gp, .inr (4, [.int 0, .ref e0, .ref e1, .ref e2, .ref e3])), (gs, .inr (7, [.int 0, .int 0, .int 0, .int 0, .int 0, .int 0, .int (-1), .int 0]))] := hD
  refine lv_aload_n hx hb dX2_clear_40 rfl (lv_at hl 0 rfl) ?_
  refine lv_iconst (v := 0) hx hb dX2_clear_41 (by decide) ?_
  refine va_put (D := (dC, dI)) (ci := 2) (v := .int 0) (ty := .boolean) (C := RX2) (T := TX2) (N := 14) hx hb hwd inlX2 tyX2 tyX2_ok nmX2 hown hK hP hD hS 0 rfl rfl 8 (by decide) (hwd _ kr10_7) (fun _ h9 => h9) rfl (by decide +kernel) rfl rfl (Nat.le_of_ble_eq_true rfl) dX2_clear_42 (fun H locs hP hD hS => ?_)
  have hP : va_P (dC, dI) vwCl [(h0, .inr (2, [.int 0, .int 0, .int 0, .int 0, .int 0, .int 0, .int 1, .int 1, .int 0, .ref gn, .ref gf, .ref gp, .ref gs, .ref gr])), (gn, .inr (3, [.int 0, .ref a0, .ref a1, .ref a2, .ref a3, .ref a4, .ref a5, .ref a6])), (gf, .inr (1, [.int 0, .ref b0, .ref b1, .ref b2, .ref b3, .ref b4, .ref b5, .ref b6, .ref b7, .ref b8])), (gp, .inr (4, [.int 0, .ref e0, .ref e1, .ref e2, .ref e3])), (gs, .inr (7, [.int 0, .int 0, .int 0, .int 0, .int 0, .int 0, .int (-1), .int 0]))] H := hP
  have hD : va_D A [(h0, .inr (2, [.int 0, .int 0, .int 0, .int 0, .int 0, .int 0, .int 1, .int 1, .int 0, .ref gn, .ref gf, .ref gp, .ref gs, .ref gr])), (gn, .inr (3, [.int 0, .ref a0, .ref a1, .ref a2, .ref a3, .ref a4, .ref a5, .ref a6])), (gf, .inr (1, [.int 0, .ref b0, .ref b1, .ref b2, .ref b3, .ref b4, .ref b5, .ref b6, .ref b7, .ref b8])), (gp, .inr (4, [.int 0, .ref e0, .ref e1, .ref e2, .ref e3])), (gs, .inr (7, [.int 0, .int 0, .int 0, .int 0, .int 0, .int 0, .int (-1), .int 0]))] := hD
  refine lv_aload_n hx hb dX2_clear_45 rfl (lv_at hl 0 rfl) ?_
  refine va_get (D := (dC, dI)) (ci := 2) (v := .ref gn) (C := RX2) (T := TX2) (N := 14) hx hb hwd inlX2 hown hK hP 0 rfl rfl 9 (by decide) (hwd _ kr5_0) (fun _ h9 => h9) rfl dX2_clear_46 ?_
  refine lv_iconst (v := 0) hx hb dX2_clear_49 (by decide) ?_
  refine va_put (D := (dC, dI)) (ci := 3) (v := .int 0) (ty := .int) (C := RX3) (T := TX3) (N := 8) hx hb hwd inlX3 tyX3 tyX3_ok nmX3 hown hK hP hD hS 1 rfl rfl 0 (by decide) (hwd _ kr10_8) (fun _ h9 => h9) rfl (by decide +kernel) rfl rfl (Nat.le_of_ble_eq_true rfl) dX2_clear_50 (fun H locs hP hD hS => ?_)
  have hP : va_P (dC, dI) vwCl [(h0, .inr (2, [.int 0, .int 0, .int 0, .int 0, .int 0, .int 0, .int 1, .int 1, .int 0, .ref gn, .ref gf, .ref gp, .ref gs, .ref gr])), (gn, .inr (3, [.int 0, .ref a0, .ref a1, .ref a2, .ref a3, .ref a4, .ref a5, .ref a6])), (gf, .inr (1, [.int 0, .ref b0, .ref b1, .ref b2, .ref b3, .ref b4, .ref b5, .ref b6, .ref b7, .ref b8])), (gp, .inr (4, [.int 0, .ref e0, .ref e1, .ref e2, .ref e3])), (gs, .inr (7, [.int 0, .int 0, .int 0, .int 0, .int 0, .int 0, .int (-1), .int 0]))] H := hP
  have hD : va_D A [(h0, .inr (2, [.int 0, .int 0, .int 0, .int 0, .int 0, .int 0, .int 1, .int 1, .int 0, .ref gn, .ref gf, .ref gp, .ref gs, .ref gr])), (gn, .inr (3, [.int 0, .ref a0, .ref a1, .ref a2, .ref a3, .ref a4, .ref a5, .ref a6])), (gf, .inr (1, [.int 0, .ref b0, .ref b1, .ref b2, .ref b3, .ref b4, .ref b5, .ref b6, .ref b7, .ref b8])), (gp, .inr (4, [.int 0, .ref e0, .ref e1, .ref e2, .ref e3])), (gs, .inr (7, [.int 0, .int 0, .int 0, .int 0, .int 0, .int 0, .int (-1), .int 0]))] := hD
  refine lv_aload_n hx hb dX2_clear_53 rfl (lv_at hl 0 rfl) ?_
  refine va_get (D := (dC, dI)) (ci := 2) (v := .ref gf) (C := RX2) (T := TX2) (N := 14) hx hb hwd inlX2 hown hK hP 0 rfl rfl 10 (by decide) (hwd _ kr5_4) (fun _ h9 => h9) rfl dX2_clear_54 ?_
  refine lv_iconst (v := 0) hx hb dX2_clear_57 (by decide) ?_
  refine va_put (D := (dC, dI)) (ci := 1) (v := .int 0) (ty := .int) (C := RX1) (T := TX1) (N := 10) hx hb hwd inlX1 tyX1 tyX1_ok nmX1 hown hK hP hD hS 2 rfl rfl 0 (by decide) (hwd _ kr10_9) (fun _ h9 => h9) rfl (by decide +kernel) rfl rfl (Nat.le_of_ble_eq_true rfl) dX2_clear_58 (fun H locs hP hD hS => ?_)
  have hP : va_P (dC, dI) vwCl [(h0, .inr (2, [.int 0, .int 0, .int 0, .int 0, .int 0, .int 0, .int 1, .int 1, .int 0, .ref gn, .ref gf, .ref gp, .ref gs, .ref gr])), (gn, .inr (3, [.int 0, .ref a0, .ref a1, .ref a2, .ref a3, .ref a4, .ref a5, .ref a6])), (gf, .inr (1, [.int 0, .ref b0, .ref b1, .ref b2, .ref b3, .ref b4, .ref b5, .ref b6, .ref b7, .ref b8])), (gp, .inr (4, [.int 0, .ref e0, .ref e1, .ref e2, .ref e3])), (gs, .inr (7, [.int 0, .int 0, .int 0, .int 0, .int 0, .int 0, .int (-1), .int 0]))] H := hP
  have hD : va_D A [(h0, .inr (2, [.int 0, .int 0, .int 0, .int 0, .int 0, .int 0, .int 1, .int 1, .int 0, .ref gn, .ref gf, .ref gp, .ref gs, .ref gr])), (gn, .inr (3, [.int 0, .ref a0, .ref a1, .ref a2, .ref a3, .ref a4, .ref a5, .ref a6])), (gf, .inr (1, [.int 0, .ref b0, .ref b1, .ref b2, .ref b3, .ref b4, .ref b5, .ref b6, .ref b7, .ref b8])), (gp, .inr (4, [.int 0, .ref e0, .ref e1, .ref e2, .ref e3])), (gs, .inr (7, [.int 0, .int 0, .int 0, .int 0, .int 0, .int 0, .int (-1), .int 0]))] := hD
  refine lv_aload_n hx hb dX2_clear_61 rfl (lv_at hl 0 rfl) ?_
  refine va_get (D := (dC, dI)) (ci := 2) (v := .ref gp) (C := RX2) (T := TX2) (N := 14) hx hb hwd inlX2 hown hK hP 0 rfl rfl 11 (by decide) (hwd _ kr5_8) (fun _ h9 => h9) rfl dX2_clear_62 ?_
  refine lv_iconst (v := 0) hx hb dX2_clear_65 (by decide) ?_
  refine va_put (D := (dC, dI)) (ci := 4) (v := .int 0) (ty := .int) (C := RX4) (T := TX4) (N := 5) hx hb hwd inlX4 tyX4 tyX4_ok nmX4 hown hK hP hD hS 3 rfl rfl 0 (by decide) (hwd _ kr10_10) (fun _ h9 => h9) rfl (by decide +kernel) rfl rfl (Nat.le_of_ble_eq_true rfl) dX2_clear_66 (fun H locs hP hD hS => ?_)
  have hP : va_P (dC, dI) vwCl [(h0, .inr (2, [.int 0, .int 0, .int 0, .int 0, .int 0, .int 0, .int 1, .int 1, .int 0, .ref gn, .ref gf, .ref gp, .ref gs, .ref gr])), (gn, .inr (3, [.int 0, .ref a0, .ref a1, .ref a2, .ref a3, .ref a4, .ref a5, .ref a6])), (gf, .inr (1, [.int 0, .ref b0, .ref b1, .ref b2, .ref b3, .ref b4, .ref b5, .ref b6, .ref b7, .ref b8])), (gp, .inr (4, [.int 0, .ref e0, .ref e1, .ref e2, .ref e3])), (gs, .inr (7, [.int 0, .int 0, .int 0, .int 0, .int 0, .int 0, .int (-1), .int 0]))] H := hP
  have hD : va_D A [(h0, .inr (2, [.int 0, .int 0, .int 0, .int 0, .int 0, .int 0, .int 1, .int 1, .int 0, .ref gn, .ref gf, .ref gp, .ref gs, .ref gr])), (gn, .inr (3, [.int 0, .ref a0, .ref a1, .ref a2, .ref a3, .ref a4, .ref a5, .ref a6])), (gf, .inr (1, [.int 0, .ref b0, .ref b1, .ref b2, .ref b3, .ref b4, .ref b5, .ref b6, .ref b7, .ref b8])), (gp, .inr (4, [.int 0, .ref e0, .ref e1, .ref e2, .ref e3])), (gs, .inr (7, [.int 0, .int 0, .int 0, .int 0, .int 0, .int 0, .int (-1), .int 0]))] := hD
  refine lv_aload_n hx hb dX2_clear_69 rfl (lv_at hl 0 rfl) ?_
  refine va_get (D := (dC, dI)) (ci := 2) (v := .ref gs) (C := RX2) (T := TX2) (N := 14) hx hb hwd inlX2 hown hK hP 0 rfl rfl 12 (by decide) (hwd _ kr5_12) (fun _ h9 => h9) rfl dX2_clear_70 ?_
  have hPc := hP.sub (ws' := [(gs, .inr (7, [.int 0, .int 0, .int 0, .int 0, .int 0, .int 0, .int (-1), .int 0]))]) [4] rfl
  have hDc := hD.sub (ws' := [(gs, .inr (7, [.int 0, .int 0, .int 0, .int 0, .int 0, .int 0, .int (-1), .int 0]))]) [4] (by decide) rfl
  have hFc := va_free (wc := [(gs, .inr (7, [.int 0, .int 0, .int 0, .int 0, .int 0, .int 0, .int (-1), .int 0]))]) hD hS hA [4] rfl
  refine va_callv (va_runV (As := []) (rest := []) ⟨hx, hb, hml, hown, hwd⟩ (c_X7_clear l dC dI cI cZ cB cJ cM gs H.size) (cwV 0 hwd (gV kr10_11 kr10_12 kr10_13 kr5_11 kr10_14) rfl rfl rfl (by decide +kernel) ⟨Nat.le_of_ble_eq_true rfl, Nat.le_of_ble_eq_true rfl⟩) (kPreV hPc hK hDc (ci := 7) (q0 := 0) rfl rfl) rfl rfl hl.1 rfl (lv_room (Nat.le_of_ble_eq_true rfl)) dX2_clear_73 ⟨Nat.le_of_ble_eq_true rfl, Nat.le_of_ble_eq_true rfl⟩) hS (fun q _ h => hFc q h) hFc (fun u2 t H1 locs ht9 hvm hw hB hz1 hk1 hS => ?_)
  obtain ⟨hP1, hD1⟩ := hB
  rw [ht9] at hP1
  obtain ⟨hP, hD⟩ := va_join (wr := [(h0, .inr (2, [.int 0, .int 0, .int 0, .int 0, .int 0, .int 0, .int 1, .int 1, .int 0, .ref gn, .ref gf, .ref gp, .ref gs, .ref gr])), (gn, .inr (3, [.int 0, .ref a0, .ref a1, .ref a2, .ref a3, .ref a4, .ref a5, .ref a6])), (gf, .inr (1, [.int 0, .ref b0, .ref b1, .ref b2, .ref b3, .ref b4, .ref b5, .ref b6, .ref b7, .ref b8])), (gp, .inr (4, [.int 0, .ref e0, .ref e1, .ref e2, .ref e3]))]) (w1 := [(gs, .inr (7, [.int 0, .int 0, .int 0, .int 0, .int 0, .int 0, .int (-1), .int 0]))]) hP hD [4] [0, 1, 2, 3] rfl rfl (by decide) (by decide) hk1 hFc hP1 hD1
  generalize H1 = H at hP hS ⊢
  have hP : va_P (dC, dI) vwCl [(h0, .inr (2, [.int 0, .int 0, .int 0, .int 0, .int 0, .int 0, .int 1, .int 1, .int 0, .ref gn, .ref gf, .ref gp, .ref gs, .ref gr])), (gn, .inr (3, [.int 0, .ref a0, .ref a1, .ref a2, .ref a3, .ref a4, .ref a5, .ref a6])), (gf, .inr (1, [.int 0, .ref b0, .ref b1, .ref b2, .ref b3, .ref b4, .ref b5, .ref b6, .ref b7, .ref b8])), (gp, .inr (4, [.int 0, .ref e0, .ref e1, .ref e2, .ref e3])), (gs, .inr (7, [.int 0, .int 0, .int 0, .int 0, .int 0, .int 0, .int (-1), .int 0]))] H := hP
  have hD : va_D A [(h0, .inr (2, [.int 0, .int 0, .int 0, .int 0, .int 0, .int 0, .int 1, .int 1, .int 0, .ref gn, .ref gf, .ref gp, .ref gs, .ref gr])), (gn, .inr (3, [.int 0, .ref a0, .ref a1, .ref a2, .ref a3, .ref a4, .ref a5, .ref a6])), (gf, .inr (1, [.int 0, .ref b0, .ref b1, .ref b2, .ref b3, .ref b4, .ref b5, .ref b6, .ref b7, .ref b8])), (gp, .inr (4, [.int 0, .ref e0, .ref e1, .ref e2, .ref e3])), (gs, .inr (7, [.int 0, .int 0, .int 0, .int 0, .int 0, .int 0, .int (-1), .int 0]))] := hD
  have hP9 := hP.sub (ws' := [(h0, .inr (2, [.int 0, .int 0, .int 0, .int 0, .int 0, .int 0, .int 1, .int 1, .int 0, .ref gn, .ref gf, .ref gp, .ref gs, .ref gr])), (gn, .inr (3, [.int 0, .ref a0, .ref a1, .ref a2, .ref a3, .ref a4, .ref a5, .ref a6])), (gf, .inr (1, [.int 0, .ref b0, .ref b1, .ref b2, .ref b3, .ref b4, .ref b5, .ref b6, .ref b7, .ref b8])), (gp, .inr (4, [.int 0, .ref e0, .ref e1, .ref e2, .ref e3])), (gs, .inr (7, [.int 0, .int 0, .int 0, .int 0, .int 0, .int 0, .int (-1), .int 0]))]) [0, 1, 2, 3, 4] rfl
  have hD9 := hD.sub (ws' := [(h0, .inr (2, [.int 0, .int 0, .int 0, .int 0, .int 0, .int 0, .int 1, .int 1, .int 0, .ref gn, .ref gf, .ref gp, .ref gs, .ref gr])), (gn, .inr (3, [.int 0, .ref a0, .ref a1, .ref a2, .ref a3, .ref a4, .ref a5, .ref a6])), (gf, .inr (1, [.int 0, .ref b0, .ref b1, .ref b2, .ref b3, .ref b4, .ref b5, .ref b6, .ref b7, .ref b8])), (gp, .inr (4, [.int 0, .ref e0, .ref e1, .ref e2, .ref e3])), (gs, .inr (7, [.int 0, .int 0, .int 0, .int 0, .int 0, .int 0, .int (-1), .int 0]))]) [0, 1, 2, 3, 4] (by decide) rfl
  exact W.vret hx hb hr (fun t ht hW => ⟨⟨(), rfl, trivial, (by rw [ht]; exact hP9), hD9⟩, hS.F ht⟩) hS.2.2 dX2_clear_76
set_option maxHeartbeats 4000000 in
set_option maxRecDepth 100000 in
theorem c_X2_readFrom (l : Launch) (dC : Nat → ClassId) (dI : Nat → Nat → Nat) (cI cZ cB cJ cM : ClassId) (h0 gn gf gp gs gr t0 a0 : Nat) (sz : Nat) : Met l yX2_readFrom (kw yX2_readFrom cX2_readFrom 3 none) ({ frames := 1, cells := 0, slots := 0, locals := 20 }) (va_Pc [.ref h0, .ref t0] (kPre dC dI [(cI, .int), (cZ, .boolean), (cB, .byte), (cJ, .long), (cM, .object RX2)] [(h0, .inr (2, [.int 0, .int 0, .int 0, .int 0, .int 0, .int 0, .int 1, .int 1, .int 0, .ref gn, .ref gf, .ref gp, .ref gs, .ref gr])), (t0, .inr (10, [.ref a0, .int 0, .int 0, .int (-1), .int 0, .int 0, .int 0, .int 0]))] sz)) (va_Qv (fun _ : Unit => True) (fun _ t => va_P (dC, dI) vwCl [(h0, .inr (2, [.int 0, .int 0, .int 0, .int 0, .int 0, .int 0, .int 1, .int 1, .int 0, .ref gn, .ref gf, .ref gp, .ref gs, .ref gr])), (t0, .inr (10, [.ref a0, .int 0, .int 0, .int (-1), .int 0, .int 0, .int 0, .int 0]))] t.heap ∧ va_D (va_A [(h0, .inr (2, [.int 0, .int 0, .int 0, .int 0, .int 0, .int 0, .int 1, .int 1, .int 0, .ref gn, .ref gf, .ref gp, .ref gs, .ref gr])), (t0, .inr (10, [.ref a0, .int 0, .int 0, .int (-1), .int 0, .int 0, .int 0, .int 0]))] sz) [(h0, .inr (2, [.int 0, .int 0, .int 0, .int 0, .int 0, .int 0, .int 1, .int 1, .int 0, .ref gn, .ref gf, .ref gp, .ref gs, .ref gr])), (t0, .inr (10, [.ref a0, .int 0, .int 0, .int (-1), .int 0, .int 0, .int 0, .int 0]))]) (va_A [(h0, .inr (2, [.int 0, .int 0, .int 0, .int 0, .int 0, .int 0, .int 1, .int 1, .int 0, .ref gn, .ref gf, .ref gp, .ref gs, .ref gr])), (t0, .inr (10, [.ref a0, .int 0, .int 0, .int (-1), .int 0, .int 0, .int 0, .int 0]))] sz)) 0 0 (va_A [(h0, .inr (2, [.int 0, .int 0, .int 0, .int 0, .int 0, .int 0, .int 1, .int 1, .int 0, .ref gn, .ref gf, .ref gp, .ref gs, .ref gr])), (t0, .inr (10, [.ref a0, .int 0, .int 0, .int (-1), .int 0, .int 0, .int 0, .int 0]))] sz) := by
  refine kEnter (by decide) (Nat.le_of_ble_eq_true rfl) ?_
  intro p e s m below meth c ls hx hb hr hml hown hlocks hin hwd hsz hP hK hD hl
  subst hsz
  generalize hAe : va_A [(h0, .inr (2, [.int 0, .int 0, .int 0, .int 0, .int 0, .int 0, .int 1, .int 1, .int 0, .ref gn, .ref gf, .ref gp, .ref gs, .ref gr])), (t0, .inr (10, [.ref a0, .int 0, .int 0, .int (-1), .int 0, .int 0, .int 0, .int 0]))] s.heap.size = A at hD ⊢
  have hA : ∀ q : Nat, s.heap.size ≤ q → A q := fun q h => by rw [← hAe]; exact Or.inr h
  have hS : va_S A s.heap s.heap [] := va_S.rf
  have hl : lv_has ls 3 [(0, .ref h0), (1, .ref t0)] := hl
  refine lv_iconst (v := 0) hx hb dX2_readFrom_0 (by decide) ?_
  refine lv_istore_n (lv' := [(2, .int 0), (0, .ref h0), (1, .ref t0)]) hx hb dX2_readFrom_1 rfl hl (by decide) rfl (fun ls hl => ?_)
  refine lv_iload_n hx hb dX2_readFrom_2 rfl (lv_at hl 0 rfl) ?_
  refine lv_sipush (v := 1600) hx hb dX2_readFrom_3 (by decide) ?_
  refine lv_icmp_ge (tgt := 43) hx hb dX2_readFrom_6 (by decide) (fun c1 => absurd c1 (by decide)) (fun c1 => ?_)
  refine lv_aload_n hx hb dX2_readFrom_9 rfl (lv_at hl 2 rfl) ?_
  have hPc := hP.sub (ws' := [(t0, .inr (10, [.ref a0, .int 0, .int 0, .int (-1), .int 0, .int 0, .int 0, .int 0]))]) [1] rfl
  have hDc := hD.sub (ws' := [(t0, .inr (10, [.ref a0, .int 0, .int 0, .int (-1), .int 0, .int 0, .int 0, .int 0]))]) [1] (by decide) rfl
  have hFc := va_free (wc := [(t0, .inr (10, [.ref a0, .int 0, .int 0, .int (-1), .int 0, .int 0, .int 0, .int 0]))]) hD hS hA [1] rfl
  refine va_calli (va_runV (As := []) (rest := []) ⟨hx, hb, hml, hown, hwd⟩ (c_X10_goesOn l dC dI cI cZ cB cJ cM t0 a0 s.heap.size) (cwV 0 hwd (gV kr11_22 kr11_23 kr12_0 kr1_15 kr12_1) rfl rfl rfl (by decide +kernel) ⟨Nat.le_of_ble_eq_true rfl, Nat.le_of_ble_eq_true rfl⟩) (kPreV hPc hK hDc (ci := 10) (q0 := 0) rfl rfl) rfl rfl hl.1 rfl (lv_room (Nat.le_of_ble_eq_true rfl)) dX2_readFrom_10 ⟨Nat.le_of_ble_eq_true rfl, Nat.le_of_ble_eq_true rfl⟩) hS (fun q _ h => hFc q h) hFc (fun r2 u3 t H1 locs ht9 hvm hw hB hz1 hk1 hS => ?_)
  obtain ⟨hP1, hD1⟩ := hB
  rw [ht9] at hP1
  obtain ⟨hP, hD⟩ := va_join (wr := [(h0, .inr (2, [.int 0, .int 0, .int 0, .int 0, .int 0, .int 0, .int 1, .int 1, .int 0, .ref gn, .ref gf, .ref gp, .ref gs, .ref gr]))]) (w1 := [(t0, .inr (10, [.ref a0, .int 0, .int 0, .int (-1), .int 0, .int 0, .int 0, .int 0]))]) hP hD [1] [0] rfl rfl (by decide) (by decide) hk1 hFc hP1 hD1
  generalize H1 = H at hP hS ⊢
  have hP : va_P (dC, dI) vwCl [(h0, .inr (2, [.int 0, .int 0, .int 0, .int 0, .int 0, .int 0, .int 1, .int 1, .int 0, .ref gn, .ref gf, .ref gp, .ref gs, .ref gr])), (t0, .inr (10, [.ref a0, .int 0, .int 0, .int (-1), .int 0, .int 0, .int 0, .int 0]))] H := hP
  have hD : va_D A [(h0, .inr (2, [.int 0, .int 0, .int 0, .int 0, .int 0, .int 0, .int 1, .int 1, .int 0, .ref gn, .ref gf, .ref gp, .ref gs, .ref gr])), (t0, .inr (10, [.ref a0, .int 0, .int 0, .int (-1), .int 0, .int 0, .int 0, .int 0]))] := hD
  subst hw
  refine lv_if_eq (tgt := 43) hx hb dX2_readFrom_13 (by decide) (fun c4 => ?_) (fun c4 => absurd c4 (by decide))
  have hP9 := hP.sub (ws' := [(h0, .inr (2, [.int 0, .int 0, .int 0, .int 0, .int 0, .int 0, .int 1, .int 1, .int 0, .ref gn, .ref gf, .ref gp, .ref gs, .ref gr])), (t0, .inr (10, [.ref a0, .int 0, .int 0, .int (-1), .int 0, .int 0, .int 0, .int 0]))]) [0, 1] rfl
  have hD9 := hD.sub (ws' := [(h0, .inr (2, [.int 0, .int 0, .int 0, .int 0, .int 0, .int 0, .int 1, .int 1, .int 0, .ref gn, .ref gf, .ref gp, .ref gs, .ref gr])), (t0, .inr (10, [.ref a0, .int 0, .int 0, .int (-1), .int 0, .int 0, .int 0, .int 0]))]) [0, 1] (by decide) rfl
  exact W.vret hx hb hr (fun t ht hW => ⟨⟨(), rfl, trivial, (by rw [ht]; exact hP9), hD9⟩, hS.F ht⟩) hS.2.2 dX2_readFrom_43
set_option maxHeartbeats 4000000 in
set_option maxRecDepth 100000 in
theorem c_X0_takeHeights (l : Launch) (dC : Nat → ClassId) (dI : Nat → Nat → Nat) (cI cZ cB cJ cM : ClassId) (h0 gn a0 a1 a2 a3 a4 a5 a6 k0 k1 k2 k3 k4 k5 k6 : Nat) (sz : Nat) : Met l yX0_takeHeights (kw yX0_takeHeights cX0_takeHeights 4 none) ({ frames := 0, cells := 0, slots := 0, locals := 0 }) (va_Pc [.ref h0, .ref gn, .ref a5] (kPre dC dI [(cI, .int), (cZ, .boolean), (cB, .byte), (cJ, .long), (cM, .object RX2)] [(h0, .inr (0, [.ref k0, .ref k1, .ref k2, .ref k3, .ref k4, .ref k5, .ref k6])), (gn, .inr (3, [.int 0, .ref a0, .ref a1, .ref a2, .ref a3, .ref a4, .ref a5, .ref a6]))] sz)) (va_Qv (fun _ : Unit => True) (fun _ t => va_P (dC, dI) vwCl [(h0, .inr (0, [.ref k0, .ref k1, .ref k2, .ref k3, .ref k4, .ref k5, .ref k6])), (gn, .inr (3, [.int 0, .ref a0, .ref a1, .ref a2, .ref a3, .ref a4, .ref a5, .ref a6]))] t.heap ∧ va_D (va_A [(h0, .inr (0, [.ref k0, .ref k1, .ref k2, .ref k3, .ref k4, .ref k5, .ref k6])), (gn, .inr (3, [.int 0, .ref a0, .ref a1, .ref a2, .ref a3, .ref a4, .ref a5, .ref a6]))] sz) [(h0, .inr (0, [.ref k0, .ref k1, .ref k2, .ref k3, .ref k4, .ref k5, .ref k6])), (gn, .inr (3, [.int 0, .ref a0, .ref a1, .ref a2, .ref a3, .ref a4, .ref a5, .ref a6]))]) (va_A [(h0, .inr (0, [.ref k0, .ref k1, .ref k2, .ref k3, .ref k4, .ref k5, .ref k6])), (gn, .inr (3, [.int 0, .ref a0, .ref a1, .ref a2, .ref a3, .ref a4, .ref a5, .ref a6]))] sz)) 0 0 (va_A [(h0, .inr (0, [.ref k0, .ref k1, .ref k2, .ref k3, .ref k4, .ref k5, .ref k6])), (gn, .inr (3, [.int 0, .ref a0, .ref a1, .ref a2, .ref a3, .ref a4, .ref a5, .ref a6]))] sz) := by
  refine kEnter (by decide) (Nat.le_of_ble_eq_true rfl) ?_
  intro p e s m below meth c ls hx hb hr hml hown hlocks hin hwd hsz hP hK hD hl
  subst hsz
  generalize hAe : va_A [(h0, .inr (0, [.ref k0, .ref k1, .ref k2, .ref k3, .ref k4, .ref k5, .ref k6])), (gn, .inr (3, [.int 0, .ref a0, .ref a1, .ref a2, .ref a3, .ref a4, .ref a5, .ref a6]))] s.heap.size = A at hD ⊢
  have hA : ∀ q : Nat, s.heap.size ≤ q → A q := fun q h => by rw [← hAe]; exact Or.inr h
  have hS : va_S A s.heap s.heap [] := va_S.rf
  have hl : lv_has ls 4 [(0, .ref h0), (1, .ref gn), (2, .ref a5)] := hl
  refine lv_iconst (v := 0) hx hb dX0_takeHeights_0 (by decide) ?_
  refine lv_istore_n (lv' := [(3, .int 0), (0, .ref h0), (1, .ref gn), (2, .ref a5)]) hx hb dX0_takeHeights_1 rfl hl (by decide) rfl (fun ls hl => ?_)
  refine lv_iload_n hx hb dX0_takeHeights_2 rfl (lv_at hl 0 rfl) ?_
  refine lv_aload_n hx hb dX0_takeHeights_3 rfl (lv_at hl 2 rfl) ?_
  refine va_get (D := (dC, dI)) (ci := 3) (v := .int 0) (C := RX3) (T := TX3) (N := 8) hx hb hwd inlX3 hown hK hP 1 rfl rfl 0 (by decide) (hwd _ kr12_20) (fun _ h9 => h9) rfl dX0_takeHeights_4 ?_
  refine lv_icmp_ge (tgt := 30) hx hb dX0_takeHeights_7 (by decide) (fun c1 => ?_) (fun c1 => absurd c1 (by decide))
  have hP9 := hP.sub (ws' := [(h0, .inr (0, [.ref k0, .ref k1, .ref k2, .ref k3, .ref k4, .ref k5, .ref k6])), (gn, .inr (3, [.int 0, .ref a0, .ref a1, .ref a2, .ref a3, .ref a4, .ref a5, .ref a6]))]) [0, 1] rfl
  have hD9 := hD.sub (ws' := [(h0, .inr (0, [.ref k0, .ref k1, .ref k2, .ref k3, .ref k4, .ref k5, .ref k6])), (gn, .inr (3, [.int 0, .ref a0, .ref a1, .ref a2, .ref a3, .ref a4, .ref a5, .ref a6]))]) [0, 1] (by decide) rfl
  exact W.vret hx hb hr (fun t ht hW => ⟨⟨(), rfl, trivial, (by rw [ht]; exact hP9), hD9⟩, hS.F ht⟩) hS.2.2 dX0_takeHeights_30
set_option maxHeartbeats 4000000 in
set_option maxRecDepth 100000 in
theorem c_X0_fillTable (l : Launch) (dC : Nat → ClassId) (dI : Nat → Nat → Nat) (cI cZ cB cJ cM : ClassId) (h0 m0 gn gf gp gs gr a0 a1 a2 a3 a4 a5 a6 b0 b1 b2 b3 b4 b5 b6 b7 b8 k0 k1 k2 k3 k4 k5 k6 : Nat) (sz : Nat) : Met l yX0_fillTable (kw yX0_fillTable cX0_fillTable 3 none) ({ frames := 1, cells := 0, slots := 0, locals := 23 }) (va_Pc [.ref h0, .ref m0] (kPre dC dI [(cI, .int), (cZ, .boolean), (cB, .byte), (cJ, .long), (cM, .object RX2)] [(h0, .inr (0, [.ref k0, .ref k1, .ref k2, .ref k3, .ref k4, .ref k5, .ref k6])), (m0, .inr (2, [.int 0, .int 0, .int 0, .int 0, .int 0, .int 0, .int 1, .int 1, .int 0, .ref gn, .ref gf, .ref gp, .ref gs, .ref gr])), (gn, .inr (3, [.int 0, .ref a0, .ref a1, .ref a2, .ref a3, .ref a4, .ref a5, .ref a6])), (gf, .inr (1, [.int 0, .ref b0, .ref b1, .ref b2, .ref b3, .ref b4, .ref b5, .ref b6, .ref b7, .ref b8]))] sz)) (va_Qv (fun _ : Unit => True) (fun _ t => va_P (dC, dI) vwCl [(h0, .inr (0, [.ref k0, .ref k1, .ref k2, .ref k3, .ref k4, .ref k5, .ref k6])), (m0, .inr (2, [.int 0, .int 0, .int 0, .int 0, .int 0, .int 0, .int 1, .int 1, .int 0, .ref gn, .ref gf, .ref gp, .ref gs, .ref gr])), (gn, .inr (3, [.int 0, .ref a0, .ref a1, .ref a2, .ref a3, .ref a4, .ref a5, .ref a6])), (gf, .inr (1, [.int 0, .ref b0, .ref b1, .ref b2, .ref b3, .ref b4, .ref b5, .ref b6, .ref b7, .ref b8]))] t.heap ∧ va_D (va_A [(h0, .inr (0, [.ref k0, .ref k1, .ref k2, .ref k3, .ref k4, .ref k5, .ref k6])), (m0, .inr (2, [.int 0, .int 0, .int 0, .int 0, .int 0, .int 0, .int 1, .int 1, .int 0, .ref gn, .ref gf, .ref gp, .ref gs, .ref gr])), (gn, .inr (3, [.int 0, .ref a0, .ref a1, .ref a2, .ref a3, .ref a4, .ref a5, .ref a6])), (gf, .inr (1, [.int 0, .ref b0, .ref b1, .ref b2, .ref b3, .ref b4, .ref b5, .ref b6, .ref b7, .ref b8]))] sz) [(h0, .inr (0, [.ref k0, .ref k1, .ref k2, .ref k3, .ref k4, .ref k5, .ref k6])), (m0, .inr (2, [.int 0, .int 0, .int 0, .int 0, .int 0, .int 0, .int 1, .int 1, .int 0, .ref gn, .ref gf, .ref gp, .ref gs, .ref gr])), (gn, .inr (3, [.int 0, .ref a0, .ref a1, .ref a2, .ref a3, .ref a4, .ref a5, .ref a6])), (gf, .inr (1, [.int 0, .ref b0, .ref b1, .ref b2, .ref b3, .ref b4, .ref b5, .ref b6, .ref b7, .ref b8]))]) (va_A [(h0, .inr (0, [.ref k0, .ref k1, .ref k2, .ref k3, .ref k4, .ref k5, .ref k6])), (m0, .inr (2, [.int 0, .int 0, .int 0, .int 0, .int 0, .int 0, .int 1, .int 1, .int 0, .ref gn, .ref gf, .ref gp, .ref gs, .ref gr])), (gn, .inr (3, [.int 0, .ref a0, .ref a1, .ref a2, .ref a3, .ref a4, .ref a5, .ref a6])), (gf, .inr (1, [.int 0, .ref b0, .ref b1, .ref b2, .ref b3, .ref b4, .ref b5, .ref b6, .ref b7, .ref b8]))] sz)) 0 0 (va_A [(h0, .inr (0, [.ref k0, .ref k1, .ref k2, .ref k3, .ref k4, .ref k5, .ref k6])), (m0, .inr (2, [.int 0, .int 0, .int 0, .int 0, .int 0, .int 0, .int 1, .int 1, .int 0, .ref gn, .ref gf, .ref gp, .ref gs, .ref gr])), (gn, .inr (3, [.int 0, .ref a0, .ref a1, .ref a2, .ref a3, .ref a4, .ref a5, .ref a6])), (gf, .inr (1, [.int 0, .ref b0, .ref b1, .ref b2, .ref b3, .ref b4, .ref b5, .ref b6, .ref b7, .ref b8]))] sz) := by
  refine kEnter (by decide) (Nat.le_of_ble_eq_true rfl) ?_
  intro p e s m below meth c ls hx hb hr hml hown hlocks hin hwd hsz hP hK hD hl
  subst hsz
  generalize hAe : va_A [(h0, .inr (0, [.ref k0, .ref k1, .ref k2, .ref k3, .ref k4, .ref k5, .ref k6])), (m0, .inr (2, [.int 0, .int 0, .int 0, .int 0, .int 0, .int 0, .int 1, .int 1, .int 0, .ref gn, .ref gf, .ref gp, .ref gs, .ref gr])), (gn, .inr (3, [.int 0, .ref a0, .ref a1, .ref a2, .ref a3, .ref a4, .ref a5, .ref a6])), (gf, .inr (1, [.int 0, .ref b0, .ref b1, .ref b2, .ref b3, .ref b4, .ref b5, .ref b6, .ref b7, .ref b8]))] s.heap.size = A at hD ⊢
  have hA : ∀ q : Nat, s.heap.size ≤ q → A q := fun q h => by rw [← hAe]; exact Or.inr h
  have hS : va_S A s.heap s.heap [] := va_S.rf
  have hl : lv_has ls 3 [(0, .ref h0), (1, .ref m0)] := hl
  refine lv_aload_n hx hb dX0_fillTable_0 rfl (lv_at hl 0 rfl) ?_
  refine lv_aload_n hx hb dX0_fillTable_1 rfl (lv_at hl 1 rfl) ?_
  refine va_get (D := (dC, dI)) (ci := 2) (v := .ref gn) (C := RX2) (T := TX2) (N := 14) hx hb hwd inlX2 hown hK hP 1 rfl rfl 9 (by decide) (hwd _ kr12_9) (fun _ h9 => h9) rfl dX0_fillTable_2 ?_
  refine lv_aload_n hx hb dX0_fillTable_5 rfl (lv_at hl 1 rfl) ?_
  refine va_get (D := (dC, dI)) (ci := 2) (v := .ref gn) (C := RX2) (T := TX2) (N := 14) hx hb hwd inlX2 hown hK hP 1 rfl rfl 9 (by decide) (hwd _ kr12_9) (fun _ h9 => h9) rfl dX0_fillTable_6 ?_
  refine va_get (D := (dC, dI)) (ci := 3) (v := .ref a5) (C := RX3) (T := TX3) (N := 8) hx hb hwd inlX3 hown hK hP 2 rfl rfl 6 (by decide) (hwd _ kr12_10) (fun _ h9 => h9) rfl dX0_fillTable_9 ?_
  have hPc := hP.sub (ws' := [(h0, .inr (0, [.ref k0, .ref k1, .ref k2, .ref k3, .ref k4, .ref k5, .ref k6])), (gn, .inr (3, [.int 0, .ref a0, .ref a1, .ref a2, .ref a3, .ref a4, .ref a5, .ref a6]))]) [0, 2] rfl
  have hDc := hD.sub (ws' := [(h0, .inr (0, [.ref k0, .ref k1, .ref k2, .ref k3, .ref k4, .ref k5, .ref k6])), (gn, .inr (3, [.int 0, .ref a0, .ref a1, .ref a2, .ref a3, .ref a4, .ref a5, .ref a6]))]) [0, 2] (by decide) rfl
  have hFc := va_free (wc := [(h0, .inr (0, [.ref k0, .ref k1, .ref k2, .ref k3, .ref k4, .ref k5, .ref k6])), (gn, .inr (3, [.int 0, .ref a0, .ref a1, .ref a2, .ref a3, .ref a4, .ref a5, .ref a6]))]) hD hS hA [0, 2] rfl
  refine va_callv (va_runV (As := [.ref gn, .ref a5]) (rest := []) ⟨hx, hb, hml, hown, hwd⟩ (c_X0_takeHeights l dC dI cI cZ cB cJ cM h0 gn a0 a1 a2 a3 a4 a5 a6 k0 k1 k2 k3 k4 k5 k6 s.heap.size) (cwV 2 hwd (gV kr12_16 kr12_17 kr12_18 kr1_23 kr12_19) rfl rfl rfl (by decide +kernel) ⟨Nat.le_of_ble_eq_true rfl, Nat.le_of_ble_eq_true rfl⟩) (kPreV hPc hK hDc (ci := 0) (q0 := 0) rfl rfl) rfl rfl hl.1 rfl (lv_room (Nat.le_of_ble_eq_true rfl)) dX0_fillTable_12 ⟨Nat.le_of_ble_eq_true rfl, Nat.le_of_ble_eq_true rfl⟩) hS (fun q _ h => hFc q h) hFc (fun u2 t H1 locs ht9 hvm hw hB hz1 hk1 hS => ?_)
  obtain ⟨hP1, hD1⟩ := hB
  rw [ht9] at hP1
  obtain ⟨hP, hD⟩ := va_join (wr := [(m0, .inr (2, [.int 0, .int 0, .int 0, .int 0, .int 0, .int 0, .int 1, .int 1, .int 0, .ref gn, .ref gf, .ref gp, .ref gs, .ref gr])), (gf, .inr (1, [.int 0, .ref b0, .ref b1, .ref b2, .ref b3, .ref b4, .ref b5, .ref b6, .ref b7, .ref b8]))]) (w1 := [(h0, .inr (0, [.ref k0, .ref k1, .ref k2, .ref k3, .ref k4, .ref k5, .ref k6])), (gn, .inr (3, [.int 0, .ref a0, .ref a1, .ref a2, .ref a3, .ref a4, .ref a5, .ref a6]))]) hP hD [0, 2] [1, 3] rfl rfl (by decide) (by decide) hk1 hFc hP1 hD1
  generalize H1 = H at hP hS ⊢
  have hP : va_P (dC, dI) vwCl [(m0, .inr (2, [.int 0, .int 0, .int 0, .int 0, .int 0, .int 0, .int 1, .int 1, .int 0, .ref gn, .ref gf, .ref gp, .ref gs, .ref gr])), (gf, .inr (1, [.int 0, .ref b0, .ref b1, .ref b2, .ref b3, .ref b4, .ref b5, .ref b6, .ref b7, .ref b8])), (h0, .inr (0, [.ref k0, .ref k1, .ref k2, .ref k3, .ref k4, .ref k5, .ref k6])), (gn, .inr (3, [.int 0, .ref a0, .ref a1, .ref a2, .ref a3, .ref a4, .ref a5, .ref a6]))] H := hP
  have hD : va_D A [(m0, .inr (2, [.int 0, .int 0, .int 0, .int 0, .int 0, .int 0, .int 1, .int 1, .int 0, .ref gn, .ref gf, .ref gp, .ref gs, .ref gr])), (gf, .inr (1, [.int 0, .ref b0, .ref b1, .ref b2, .ref b3, .ref b4, .ref b5, .ref b6, .ref b7, .ref b8])), (h0, .inr (0, [.ref k0, .ref k1, .ref k2, .ref k3, .ref k4, .ref k5, .ref k6])), (gn, .inr (3, [.int 0, .ref a0, .ref a1, .ref a2, .ref a3, .ref a4, .ref a5, .ref a6]))] := hD
  refine lv_iconst (v := 0) hx hb dX0_fillTable_15 (by decide) ?_
  refine lv_istore_n (lv' := [(2, .int 0), (0, .ref h0), (1, .ref m0)]) hx hb dX0_fillTable_16 rfl hl (by decide) rfl (fun ls hl => ?_)
  refine lv_iload_n hx hb dX0_fillTable_17 rfl (lv_at hl 0 rfl) ?_
  refine lv_aload_n hx hb dX0_fillTable_18 rfl (lv_at hl 2 rfl) ?_
  refine va_get (D := (dC, dI)) (ci := 2) (v := .ref gf) (C := RX2) (T := TX2) (N := 14) hx hb hwd inlX2 hown hK hP 0 rfl rfl 10 (by decide) (hwd _ kr12_11) (fun _ h9 => h9) rfl dX0_fillTable_19 ?_
  refine va_get (D := (dC, dI)) (ci := 1) (v := .int 0) (C := RX1) (T := TX1) (N := 10) hx hb hwd inlX1 hown hK hP 1 rfl rfl 0 (by decide) (hwd _ kr12_12) (fun _ h9 => h9) rfl dX0_fillTable_22 ?_
  refine lv_icmp_ge (tgt := 57) hx hb dX0_fillTable_25 (by decide) (fun c3 => ?_) (fun c3 => absurd c3 (by decide))
  have hP9 := hP.sub (ws' := [(h0, .inr (0, [.ref k0, .ref k1, .ref k2, .ref k3, .ref k4, .ref k5, .ref k6])), (m0, .inr (2, [.int 0, .int 0, .int 0, .int 0, .int 0, .int 0, .int 1, .int 1, .int 0, .ref gn, .ref gf, .ref gp, .ref gs, .ref gr])), (gn, .inr (3, [.int 0, .ref a0, .ref a1, .ref a2, .ref a3, .ref a4, .ref a5, .ref a6])), (gf, .inr (1, [.int 0, .ref b0, .ref b1, .ref b2, .ref b3, .ref b4, .ref b5, .ref b6, .ref b7, .ref b8]))]) [2, 0, 3, 1] rfl
  have hD9 := hD.sub (ws' := [(h0, .inr (0, [.ref k0, .ref k1, .ref k2, .ref k3, .ref k4, .ref k5, .ref k6])), (m0, .inr (2, [.int 0, .int 0, .int 0, .int 0, .int 0, .int 0, .int 1, .int 1, .int 0, .ref gn, .ref gf, .ref gp, .ref gs, .ref gr])), (gn, .inr (3, [.int 0, .ref a0, .ref a1, .ref a2, .ref a3, .ref a4, .ref a5, .ref a6])), (gf, .inr (1, [.int 0, .ref b0, .ref b1, .ref b2, .ref b3, .ref b4, .ref b5, .ref b6, .ref b7, .ref b8]))]) [2, 0, 3, 1] (by decide) rfl
  exact W.vret hx hb hr (fun t ht hW => ⟨⟨(), rfl, trivial, (by rw [ht]; exact hP9), hD9⟩, hS.F ht⟩) hS.2.2 dX0_fillTable_57
set_option maxHeartbeats 4000000 in
set_option maxRecDepth 100000 in
theorem c_X1_begin (l : Launch) (dC : Nat → ClassId) (dI : Nat → Nat → Nat) (cI cZ cB cJ cM : ClassId) (h0 c0 b0 b1 b2 b3 b4 b5 b6 b7 b8 : Nat) (sz : Nat) : Met l yX1_begin (kw yX1_begin cX1_begin 4 none) ({ frames := 0, cells := 0, slots := 0, locals := 0 }) (va_Pc [.ref h0, .ref c0] (kPre dC dI [(cI, .int), (cZ, .boolean), (cB, .byte), (cJ, .long), (cM, .object RX2)] [(h0, .inr (1, [.int 0, .ref b0, .ref b1, .ref b2, .ref b3, .ref b4, .ref b5, .ref b6, .ref b7, .ref b8]))] sz)) (va_Qv (fun _ : Unit => True) (fun _ t => va_P (dC, dI) vwCl [(h0, .inr (1, [.int 0, .ref b0, .ref b1, .ref b2, .ref b3, .ref b4, .ref b5, .ref b6, .ref b7, .ref b8]))] t.heap ∧ va_D (va_A [(h0, .inr (1, [.int 0, .ref b0, .ref b1, .ref b2, .ref b3, .ref b4, .ref b5, .ref b6, .ref b7, .ref b8]))] sz) [(h0, .inr (1, [.int 0, .ref b0, .ref b1, .ref b2, .ref b3, .ref b4, .ref b5, .ref b6, .ref b7, .ref b8]))]) (va_A [(h0, .inr (1, [.int 0, .ref b0, .ref b1, .ref b2, .ref b3, .ref b4, .ref b5, .ref b6, .ref b7, .ref b8]))] sz)) 0 0 (va_A [(h0, .inr (1, [.int 0, .ref b0, .ref b1, .ref b2, .ref b3, .ref b4, .ref b5, .ref b6, .ref b7, .ref b8]))] sz) := by
  refine kEnter (by decide) (Nat.le_of_ble_eq_true rfl) ?_
  intro p e s m below meth c ls hx hb hr hml hown hlocks hin hwd hsz hP hK hD hl
  subst hsz
  generalize hAe : va_A [(h0, .inr (1, [.int 0, .ref b0, .ref b1, .ref b2, .ref b3, .ref b4, .ref b5, .ref b6, .ref b7, .ref b8]))] s.heap.size = A at hD ⊢
  have hA : ∀ q : Nat, s.heap.size ≤ q → A q := fun q h => by rw [← hAe]; exact Or.inr h
  have hS : va_S A s.heap s.heap [] := va_S.rf
  have hl : lv_has ls 4 [(0, .ref h0), (1, .ref c0)] := hl
  refine lv_iconst (v := 0) hx hb dX1_begin_0 (by decide) ?_
  refine lv_istore_n (lv' := [(2, .int 0), (0, .ref h0), (1, .ref c0)]) hx hb dX1_begin_1 rfl hl (by decide) rfl (fun ls hl => ?_)
  refine lv_iload_n hx hb dX1_begin_2 rfl (lv_at hl 0 rfl) ?_
  refine lv_aload_n hx hb dX1_begin_3 rfl (lv_at hl 1 rfl) ?_
  refine va_get (D := (dC, dI)) (ci := 1) (v := .int 0) (C := RX1) (T := TX1) (N := 10) hx hb hwd inlX1 hown hK hP 0 rfl rfl 0 (by decide) (hwd _ kr12_4) (fun _ h9 => h9) rfl dX1_begin_4 ?_
  refine lv_icmp_ge (tgt := 71) hx hb dX1_begin_7 (by decide) (fun c1 => ?_) (fun c1 => absurd c1 (by decide))
  have hP9 := hP.sub (ws' := [(h0, .inr (1, [.int 0, .ref b0, .ref b1, .ref b2, .ref b3, .ref b4, .ref b5, .ref b6, .ref b7, .ref b8]))]) [0] rfl
  have hD9 := hD.sub (ws' := [(h0, .inr (1, [.int 0, .ref b0, .ref b1, .ref b2, .ref b3, .ref b4, .ref b5, .ref b6, .ref b7, .ref b8]))]) [0] (by decide) rfl
  exact W.vret hx hb hr (fun t ht hW => ⟨⟨(), rfl, trivial, (by rw [ht]; exact hP9), hD9⟩, hS.F ht⟩) hS.2.2 dX1_begin_71
set_option maxHeartbeats 4000000 in
set_option maxRecDepth 100000 in
theorem c_X2_begin (l : Launch) (dC : Nat → ClassId) (dI : Nat → Nat → Nat) (cI cZ cB cJ cM : ClassId) (h0 gn gf gp gs gr c0 b0 b1 b2 b3 b4 b5 b6 b7 b8 : Nat) (sz : Nat) : Met l yX2_begin (kw yX2_begin cX2_begin 2 none) ({ frames := 1, cells := 0, slots := 0, locals := 23 }) (va_Pc [.ref h0, .ref c0] (kPre dC dI [(cI, .int), (cZ, .boolean), (cB, .byte), (cJ, .long), (cM, .object RX2)] [(h0, .inr (2, [.int 0, .int 0, .int 0, .int 0, .int 0, .int 0, .int 1, .int 1, .int 0, .ref gn, .ref gf, .ref gp, .ref gs, .ref gr])), (gf, .inr (1, [.int 0, .ref b0, .ref b1, .ref b2, .ref b3, .ref b4, .ref b5, .ref b6, .ref b7, .ref b8]))] sz)) (va_Qv (fun _ : Unit => True) (fun _ t => va_P (dC, dI) vwCl [(h0, .inr (2, [.int 0, .int 0, .int 0, .int 0, .int 0, .int 0, .int 1, .int 1, .int 0, .ref gn, .ref gf, .ref gp, .ref gs, .ref gr])), (gf, .inr (1, [.int 0, .ref b0, .ref b1, .ref b2, .ref b3, .ref b4, .ref b5, .ref b6, .ref b7, .ref b8]))] t.heap ∧ va_D (va_A [(h0, .inr (2, [.int 0, .int 0, .int 0, .int 0, .int 0, .int 0, .int 1, .int 1, .int 0, .ref gn, .ref gf, .ref gp, .ref gs, .ref gr])), (gf, .inr (1, [.int 0, .ref b0, .ref b1, .ref b2, .ref b3, .ref b4, .ref b5, .ref b6, .ref b7, .ref b8]))] sz) [(h0, .inr (2, [.int 0, .int 0, .int 0, .int 0, .int 0, .int 0, .int 1, .int 1, .int 0, .ref gn, .ref gf, .ref gp, .ref gs, .ref gr])), (gf, .inr (1, [.int 0, .ref b0, .ref b1, .ref b2, .ref b3, .ref b4, .ref b5, .ref b6, .ref b7, .ref b8]))]) (va_A [(h0, .inr (2, [.int 0, .int 0, .int 0, .int 0, .int 0, .int 0, .int 1, .int 1, .int 0, .ref gn, .ref gf, .ref gp, .ref gs, .ref gr])), (gf, .inr (1, [.int 0, .ref b0, .ref b1, .ref b2, .ref b3, .ref b4, .ref b5, .ref b6, .ref b7, .ref b8]))] sz)) 0 0 (va_A [(h0, .inr (2, [.int 0, .int 0, .int 0, .int 0, .int 0, .int 0, .int 1, .int 1, .int 0, .ref gn, .ref gf, .ref gp, .ref gs, .ref gr])), (gf, .inr (1, [.int 0, .ref b0, .ref b1, .ref b2, .ref b3, .ref b4, .ref b5, .ref b6, .ref b7, .ref b8]))] sz) := by
  refine kEnter (by decide) (Nat.le_of_ble_eq_true rfl) ?_
  intro p e s m below meth c ls hx hb hr hml hown hlocks hin hwd hsz hP hK hD hl
  subst hsz
  generalize hAe : va_A [(h0, .inr (2, [.int 0, .int 0, .int 0, .int 0, .int 0, .int 0, .int 1, .int 1, .int 0, .ref gn, .ref gf, .ref gp, .ref gs, .ref gr])), (gf, .inr (1, [.int 0, .ref b0, .ref b1, .ref b2, .ref b3, .ref b4, .ref b5, .ref b6, .ref b7, .ref b8]))] s.heap.size = A at hD ⊢
  have hA : ∀ q : Nat, s.heap.size ≤ q → A q := fun q h => by rw [← hAe]; exact Or.inr h
  have hS : va_S A s.heap s.heap [] := va_S.rf
  have hl : lv_has ls 2 [(0, .ref h0), (1, .ref c0)] := hl
  refine lv_aload_n hx hb dX2_begin_0 rfl (lv_at hl 0 rfl) ?_
  refine va_get (D := (dC, dI)) (ci := 2) (v := .ref gf) (C := RX2) (T := TX2) (N := 14) hx hb hwd inlX2 hown hK hP 0 rfl rfl 10 (by decide) (hwd _ kr5_4) (fun _ h9 => h9) rfl dX2_begin_1 ?_
  refine lv_aload_n hx hb dX2_begin_4 rfl (lv_at hl 1 rfl) ?_
  have hPc := hP.sub (ws' := [(gf, .inr (1, [.int 0, .ref b0, .ref b1, .ref b2, .ref b3, .ref b4, .ref b5, .ref b6, .ref b7, .ref b8]))]) [1] rfl
  have hDc := hD.sub (ws' := [(gf, .inr (1, [.int 0, .ref b0, .ref b1, .ref b2, .ref b3, .ref b4, .ref b5, .ref b6, .ref b7, .ref b8]))]) [1] (by decide) rfl
  have hFc := va_free (wc := [(gf, .inr (1, [.int 0, .ref b0, .ref b1, .ref b2, .ref b3, .ref b4, .ref b5, .ref b6, .ref b7, .ref b8]))]) hD hS hA [1] rfl
  refine va_callv (va_runV (As := [.ref c0]) (rest := []) ⟨hx, hb, hml, hown, hwd⟩ (c_X1_begin l dC dI cI cZ cB cJ cM gf c0 b0 b1 b2 b3 b4 b5 b6 b7 b8 s.heap.size) (cwV 1 hwd (gV kr13_7 kr13_8 kr13_9 kr5_3 kr13_10) rfl rfl rfl (by decide +kernel) ⟨Nat.le_of_ble_eq_true rfl, Nat.le_of_ble_eq_true rfl⟩) (kPreV hPc hK hDc (ci := 1) (q0 := 0) rfl rfl) rfl rfl hl.1 rfl (lv_room (Nat.le_of_ble_eq_true rfl)) dX2_begin_5 ⟨Nat.le_of_ble_eq_true rfl, Nat.le_of_ble_eq_true rfl⟩) hS (fun q _ h => hFc q h) hFc (fun u2 t H1 locs ht9 hvm hw hB hz1 hk1 hS => ?_)
  obtain ⟨hP1, hD1⟩ := hB
  rw [ht9] at hP1
  obtain ⟨hP, hD⟩ := va_join (wr := [(h0, .inr (2, [.int 0, .int 0, .int 0, .int 0, .int 0, .int 0, .int 1, .int 1, .int 0, .ref gn, .ref gf, .ref gp, .ref gs, .ref gr]))]) (w1 := [(gf, .inr (1, [.int 0, .ref b0, .ref b1, .ref b2, .ref b3, .ref b4, .ref b5, .ref b6, .ref b7, .ref b8]))]) hP hD [1] [0] rfl rfl (by decide) (by decide) hk1 hFc hP1 hD1
  generalize H1 = H at hP hS ⊢
  have hP : va_P (dC, dI) vwCl [(h0, .inr (2, [.int 0, .int 0, .int 0, .int 0, .int 0, .int 0, .int 1, .int 1, .int 0, .ref gn, .ref gf, .ref gp, .ref gs, .ref gr])), (gf, .inr (1, [.int 0, .ref b0, .ref b1, .ref b2, .ref b3, .ref b4, .ref b5, .ref b6, .ref b7, .ref b8]))] H := hP
  have hD : va_D A [(h0, .inr (2, [.int 0, .int 0, .int 0, .int 0, .int 0, .int 0, .int 1, .int 1, .int 0, .ref gn, .ref gf, .ref gp, .ref gs, .ref gr])), (gf, .inr (1, [.int 0, .ref b0, .ref b1, .ref b2, .ref b3, .ref b4, .ref b5, .ref b6, .ref b7, .ref b8]))] := hD
  have hP9 := hP.sub (ws' := [(h0, .inr (2, [.int 0, .int 0, .int 0, .int 0, .int 0, .int 0, .int 1, .int 1, .int 0, .ref gn, .ref gf, .ref gp, .ref gs, .ref gr])), (gf, .inr (1, [.int 0, .ref b0, .ref b1, .ref b2, .ref b3, .ref b4, .ref b5, .ref b6, .ref b7, .ref b8]))]) [0, 1] rfl
  have hD9 := hD.sub (ws' := [(h0, .inr (2, [.int 0, .int 0, .int 0, .int 0, .int 0, .int 0, .int 1, .int 1, .int 0, .ref gn, .ref gf, .ref gp, .ref gs, .ref gr])), (gf, .inr (1, [.int 0, .ref b0, .ref b1, .ref b2, .ref b3, .ref b4, .ref b5, .ref b6, .ref b7, .ref b8]))]) [0, 1] (by decide) rfl
  exact W.vret hx hb hr (fun t ht hW => ⟨⟨(), rfl, trivial, (by rw [ht]; exact hP9), hD9⟩, hS.F ht⟩) hS.2.2 dX2_begin_8
