theorem dX10_beginReading_0 : decode cX10_beginReading 0 = .ok (.aload_n 0, 1) := by decide +kernel
theorem dX10_beginReading_1 : decode cX10_beginReading 1 = .ok (.iconst 0, 1) := by decide +kernel
theorem dX10_beginReading_2 : decode cX10_beginReading 2 = .ok (.putfield 22, 3) := by decide +kernel
theorem dX10_beginReading_5 : decode cX10_beginReading 5 = .ok (.aload_n 0, 1) := by decide +kernel
theorem dX10_beginReading_6 : decode cX10_beginReading 6 = .ok (.iconst (-1), 1) := by decide +kernel
theorem dX10_beginReading_7 : decode cX10_beginReading 7 = .ok (.putfield 15, 3) := by decide +kernel
theorem dX10_beginReading_10 : decode cX10_beginReading 10 = .ok (.aload_n 0, 1) := by decide +kernel
theorem dX10_beginReading_11 : decode cX10_beginReading 11 = .ok (.iconst 0, 1) := by decide +kernel
theorem dX10_beginReading_12 : decode cX10_beginReading 12 = .ok (.putfield 25, 3) := by decide +kernel
theorem dX10_beginReading_15 : decode cX10_beginReading 15 = .ok (.aload_n 0, 1) := by decide +kernel
theorem dX10_beginReading_16 : decode cX10_beginReading 16 = .ok (.invokevirtual 28, 3) := by decide +kernel
theorem dX10_beginReading_19 : decode cX10_beginReading 19 = .ok (.return_, 1) := by decide +kernel
theorem dX10_behindBlanks_0 : decode cX10_behindBlanks 0 = .ok (.iload_n 1, 1) := by decide +kernel
theorem dX10_behindBlanks_1 : decode cX10_behindBlanks 1 = .ok (.istore_n 2, 1) := by decide +kernel
theorem dX10_behindBlanks_2 : decode cX10_behindBlanks 2 = .ok (.iload_n 2, 1) := by decide +kernel
theorem dX10_behindBlanks_3 : decode cX10_behindBlanks 3 = .ok (.aload_n 0, 1) := by decide +kernel
theorem dX10_behindBlanks_4 : decode cX10_behindBlanks 4 = .ok (.getfield 19, 3) := by decide +kernel
theorem dX10_behindBlanks_7 : decode cX10_behindBlanks 7 = .ok (.if_icmp .ge 31, 3) := by decide +kernel
theorem dX10_behindBlanks_38 : decode cX10_behindBlanks 38 = .ok (.iload_n 2, 1) := by decide +kernel
theorem dX10_behindBlanks_39 : decode cX10_behindBlanks 39 = .ok (.ireturn, 1) := by decide +kernel
theorem dX10_byteAt_0 : decode cX10_byteAt 0 = .ok (.iload_n 1, 1) := by decide +kernel
theorem dX10_byteAt_1 : decode cX10_byteAt 1 = .ok (.ifCond .lt 18, 3) := by decide +kernel
theorem dX10_byteAt_4 : decode cX10_byteAt 4 = .ok (.iload_n 1, 1) := by decide +kernel
theorem dX10_byteAt_5 : decode cX10_byteAt 5 = .ok (.aload_n 0, 1) := by decide +kernel
theorem dX10_byteAt_6 : decode cX10_byteAt 6 = .ok (.getfield 19, 3) := by decide +kernel
theorem dX10_byteAt_9 : decode cX10_byteAt 9 = .ok (.if_icmp .ge 10, 3) := by decide +kernel
theorem dX10_byteAt_19 : decode cX10_byteAt 19 = .ok (.iconst (-1), 1) := by decide +kernel
theorem dX10_byteAt_20 : decode cX10_byteAt 20 = .ok (.goto 13, 3) := by decide +kernel
theorem dX10_byteAt_33 : decode cX10_byteAt 33 = .ok (.ireturn, 1) := by decide +kernel
theorem dX10_goesOn_0 : decode cX10_goesOn 0 = .ok (.aload_n 0, 1) := by decide +kernel
theorem dX10_goesOn_1 : decode cX10_goesOn 1 = .ok (.getfield 22, 3) := by decide +kernel
theorem dX10_goesOn_4 : decode cX10_goesOn 4 = .ok (.ifCond .ne 14, 3) := by decide +kernel
theorem dX10_goesOn_7 : decode cX10_goesOn 7 = .ok (.aload_n 0, 1) := by decide +kernel
theorem dX10_goesOn_8 : decode cX10_goesOn 8 = .ok (.getfield 31, 3) := by decide +kernel
theorem dX10_goesOn_11 : decode cX10_goesOn 11 = .ok (.ifCond .eq 7, 3) := by decide +kernel
theorem dX10_goesOn_18 : decode cX10_goesOn 18 = .ok (.iconst 0, 1) := by decide +kernel
theorem dX10_goesOn_19 : decode cX10_goesOn 19 = .ok (.ireturn, 1) := by decide +kernel
theorem dX10_hasRoom_0 : decode cX10_hasRoom 0 = .ok (.aload_n 0, 1) := by decide +kernel
theorem dX10_hasRoom_1 : decode cX10_hasRoom 1 = .ok (.getfield 19, 3) := by decide +kernel
theorem dX10_hasRoom_4 : decode cX10_hasRoom 4 = .ok (.sipush 1580, 3) := by decide +kernel
theorem dX10_hasRoom_7 : decode cX10_hasRoom 7 = .ok (.if_icmp .gt 7, 3) := by decide +kernel
theorem dX10_hasRoom_10 : decode cX10_hasRoom 10 = .ok (.iconst 1, 1) := by decide +kernel
theorem dX10_hasRoom_11 : decode cX10_hasRoom 11 = .ok (.goto 4, 3) := by decide +kernel
theorem dX10_hasRoom_15 : decode cX10_hasRoom 15 = .ok (.ireturn, 1) := by decide +kernel
theorem dX10_put_0 : decode cX10_put 0 = .ok (.bipush 24, 2) := by decide +kernel
theorem dX10_put_2 : decode cX10_put 2 = .ok (.istore_n 2, 1) := by decide +kernel
theorem dX10_put_3 : decode cX10_put 3 = .ok (.iload_n 2, 1) := by decide +kernel
theorem dX10_put_4 : decode cX10_put 4 = .ok (.ifCond .lt 42, 3) := by decide +kernel
theorem dX10_put_7 : decode cX10_put 7 = .ok (.aload_n 0, 1) := by decide +kernel
theorem dX10_put_8 : decode cX10_put 8 = .ok (.getfield 19, 3) := by decide +kernel
theorem dX10_put_11 : decode cX10_put 11 = .ok (.sipush 1600, 3) := by decide +kernel
theorem dX10_put_14 : decode cX10_put 14 = .ok (.if_icmp .ge 26, 3) := by decide +kernel
theorem dX10_put_17 : decode cX10_put 17 = .ok (.aload_n 0, 1) := by decide +kernel
theorem dX10_put_18 : decode cX10_put 18 = .ok (.getfield 11, 3) := by decide +kernel
theorem dX10_put_21 : decode cX10_put 21 = .ok (.aload_n 0, 1) := by decide +kernel
theorem dX10_put_22 : decode cX10_put 22 = .ok (.getfield 19, 3) := by decide +kernel
theorem dX10_put_25 : decode cX10_put 25 = .ok (.iload_n 1, 1) := by decide +kernel
theorem dX10_put_26 : decode cX10_put 26 = .ok (.iload_n 2, 1) := by decide +kernel
theorem dX10_put_27 : decode cX10_put 27 = .ok (.iushr, 1) := by decide +kernel
theorem dX10_put_28 : decode cX10_put 28 = .ok (.i2b, 1) := by decide +kernel
theorem dX10_put_29 : decode cX10_put 29 = .ok (.bastore, 1) := by decide +kernel
theorem dX10_put_30 : decode cX10_put 30 = .ok (.aload_n 0, 1) := by decide +kernel
theorem dX10_put_31 : decode cX10_put 31 = .ok (.dup, 1) := by decide +kernel
theorem dX10_put_32 : decode cX10_put 32 = .ok (.getfield 19, 3) := by decide +kernel
theorem dX10_put_35 : decode cX10_put 35 = .ok (.iconst 1, 1) := by decide +kernel
theorem dX10_put_36 : decode cX10_put 36 = .ok (.iadd, 1) := by decide +kernel
theorem dX10_put_37 : decode cX10_put 37 = .ok (.putfield 19, 3) := by decide +kernel
theorem dX10_put_40 : decode cX10_put 40 = .ok (.iinc 2 (-8), 3) := by decide +kernel
theorem dX10_put_43 : decode cX10_put 43 = .ok (.goto (-40), 3) := by decide +kernel
theorem dX10_put_46 : decode cX10_put 46 = .ok (.return_, 1) := by decide +kernel
theorem dX10_readToken_0 : decode cX10_readToken 0 = .ok (.aload_n 0, 1) := by decide +kernel
theorem dX10_readToken_1 : decode cX10_readToken 1 = .ok (.aload_n 0, 1) := by decide +kernel
theorem dX10_readToken_2 : decode cX10_readToken 2 = .ok (.aload_n 0, 1) := by decide +kernel
theorem dX10_readToken_3 : decode cX10_readToken 3 = .ok (.getfield 25, 3) := by decide +kernel
theorem dX10_readToken_6 : decode cX10_readToken 6 = .ok (.invokevirtual 37, 3) := by decide +kernel
theorem dX10_readToken_9 : decode cX10_readToken 9 = .ok (.putfield 34, 3) := by decide +kernel
theorem dX10_readToken_12 : decode cX10_readToken 12 = .ok (.aload_n 0, 1) := by decide +kernel
theorem dX10_readToken_13 : decode cX10_readToken 13 = .ok (.aload_n 0, 1) := by decide +kernel
theorem dX10_readToken_14 : decode cX10_readToken 14 = .ok (.getfield 34, 3) := by decide +kernel
theorem dX10_readToken_17 : decode cX10_readToken 17 = .ok (.invokevirtual 41, 3) := by decide +kernel
theorem dX10_readToken_20 : decode cX10_readToken 20 = .ok (.istore_n 1, 1) := by decide +kernel
theorem dX10_readToken_21 : decode cX10_readToken 21 = .ok (.iload_n 1, 1) := by decide +kernel
theorem dX10_readToken_22 : decode cX10_readToken 22 = .ok (.iconst (-1), 1) := by decide +kernel
theorem dX10_readToken_23 : decode cX10_readToken 23 = .ok (.if_icmp .ne 19, 3) := by decide +kernel
theorem dX10_readToken_26 : decode cX10_readToken 26 = .ok (.aload_n 0, 1) := by decide +kernel
theorem dX10_readToken_27 : decode cX10_readToken 27 = .ok (.iconst 0, 1) := by decide +kernel
theorem dX10_readToken_28 : decode cX10_readToken 28 = .ok (.putfield 31, 3) := by decide +kernel
theorem dX10_readToken_31 : decode cX10_readToken 31 = .ok (.aload_n 0, 1) := by decide +kernel
theorem dX10_readToken_32 : decode cX10_readToken 32 = .ok (.aload_n 0, 1) := by decide +kernel
theorem dX10_readToken_33 : decode cX10_readToken 33 = .ok (.getfield 34, 3) := by decide +kernel
theorem dX10_readToken_36 : decode cX10_readToken 36 = .ok (.putfield 25, 3) := by decide +kernel
theorem dX10_readToken_39 : decode cX10_readToken 39 = .ok (.goto 94, 3) := by decide +kernel
theorem dX10_readToken_133 : decode cX10_readToken 133 = .ok (.return_, 1) := by decide +kernel
set_option maxHeartbeats 4000000 in
set_option maxRecDepth 100000 in
theorem c_X10_hasRoom (l : Launch) (dC : Nat → ClassId) (dI : Nat → Nat → Nat) (cI cZ cB cJ cM : ClassId) (h0 a0 : Nat) (sz : Nat) : Met l yX10_hasRoom (kw yX10_hasRoom cX10_hasRoom 1 (some .boolean)) ({ frames := 0, cells := 0, slots := 0, locals := 0 }) (va_Pc [.ref h0] (kPre dC dI [(cI, .int), (cZ, .boolean), (cB, .byte), (cJ, .long), (cM, .object RX2)] [(h0, .inr (10, [.ref a0, .int 0, .int 0, .int (-1), .int 0, .int 0, .int 0, .int 0]))] sz)) (va_Qi (fun (r : Int32) (_ : Unit) => r = 1) (fun _ t => va_P (dC, dI) vwCl [(h0, .inr (10, [.ref a0, .int 0, .int 0, .int (-1), .int 0, .int 0, .int 0, .int 0]))] t.heap ∧ va_D (va_A [(h0, .inr (10, [.ref a0, .int 0, .int 0, .int (-1), .int 0, .int 0, .int 0, .int 0]))] sz) [(h0, .inr (10, [.ref a0, .int 0, .int 0, .int (-1), .int 0, .int 0, .int 0, .int 0]))]) (va_A [(h0, .inr (10, [.ref a0, .int 0, .int 0, .int (-1), .int 0, .int 0, .int 0, .int 0]))] sz)) 0 0 (va_A [(h0, .inr (10, [.ref a0, .int 0, .int 0, .int (-1), .int 0, .int 0, .int 0, .int 0]))] sz) := by
  refine kEnter (by decide) (Nat.le_of_ble_eq_true rfl) ?_
  intro p e s m below meth c ls hx hb hr hml hown hlocks hin hwd hsz hP hK hD hl
  subst hsz
  generalize hAe : va_A [(h0, .inr (10, [.ref a0, .int 0, .int 0, .int (-1), .int 0, .int 0, .int 0, .int 0]))] s.heap.size = A at hD ⊢
  have hA : ∀ q : Nat, s.heap.size ≤ q → A q := fun q h => by rw [← hAe]; exact Or.inr h
  have hS : va_S A s.heap s.heap [] := va_S.rf
  have hl : lv_has ls 1 [(0, .ref h0)] := hl
  refine lv_aload_n hx hb dX10_hasRoom_0 rfl (lv_at hl 0 rfl) ?_
  refine va_get (D := (dC, dI)) (ci := 10) (v := .int 0) (C := RX10) (T := TX10) (N := 8) hx hb hwd inlX10 hown hK hP 0 rfl rfl 1 (by decide) (hwd _ kr8_16) (fun _ h9 => h9) rfl dX10_hasRoom_1 ?_
  refine lv_sipush (v := 1580) hx hb dX10_hasRoom_4 (by decide) ?_
  refine lv_icmp_gt (tgt := 14) hx hb dX10_hasRoom_7 (by decide) (fun c1 => absurd c1 (by decide)) (fun c1 => ?_)
  refine lv_iconst (v := 1) hx hb dX10_hasRoom_10 (by decide) ?_
  refine lv_goto (tgt := 15) hx hb dX10_hasRoom_11 (by decide) ?_
  have hP9 := hP.sub (ws' := [(h0, .inr (10, [.ref a0, .int 0, .int 0, .int (-1), .int 0, .int 0, .int 0, .int 0]))]) [0] rfl
  have hD9 := hD.sub (ws' := [(h0, .inr (10, [.ref a0, .int 0, .int 0, .int (-1), .int 0, .int 0, .int 0, .int 0]))]) [0] (by decide) rfl
  exact W.zret (v := 1) hx hb hr (by decide) (fun t ht hW => ⟨⟨1, (), rfl, rfl, (by rw [ht]; exact hP9), hD9⟩, hS.F ht⟩) hS.2.2 dX10_hasRoom_15
set_option maxHeartbeats 4000000 in
set_option maxRecDepth 100000 in
theorem c_X10_put_0 (l : Launch) (dC : Nat → ClassId) (dI : Nat → Nat → Nat) (cI cZ cB cJ cM : ClassId) (h0 a0 : Nat) (f0 : Nat → Int32) (p0 : Int32) (sz : Nat) : Met l yX10_put (kw yX10_put cX10_put 3 none) ({ frames := 0, cells := 0, slots := 0, locals := 0 }) (va_Pc [.ref h0, .int p0] (kPre dC dI [(cI, .int), (cZ, .boolean), (cB, .byte), (cJ, .long), (cM, .object RX2)] [(h0, .inr (10, [.ref a0, .int 0, .int 0, .int (-1), .int 0, .int 0, .int 0, .int 0])), (a0, .inl (cB, 1600, .inl f0))] sz)) (va_Qv (fun _ : (Nat → Int32) => True) (fun u t => va_P (dC, dI) vwCl [(h0, .inr (10, [.ref a0, .int 4, .int 0, .int (-1), .int 0, .int 0, .int 0, .int 0])), (a0, .inl (cB, 1600, .inl u))] t.heap ∧ va_D (va_A [(h0, .inr (10, [.ref a0, .int 0, .int 0, .int (-1), .int 0, .int 0, .int 0, .int 0])), (a0, .inl (cB, 1600, .inl f0))] sz) [(h0, .inr (10, [.ref a0, .int 4, .int 0, .int (-1), .int 0, .int 0, .int 0, .int 0])), (a0, .inl (cB, 1600, .inl u))]) (va_A [(h0, .inr (10, [.ref a0, .int 0, .int 0, .int (-1), .int 0, .int 0, .int 0, .int 0])), (a0, .inl (cB, 1600, .inl f0))] sz)) 0 0 (va_A [(h0, .inr (10, [.ref a0, .int 0, .int 0, .int (-1), .int 0, .int 0, .int 0, .int 0])), (a0, .inl (cB, 1600, .inl f0))] sz) := by
  refine kEnter (by decide) (Nat.le_of_ble_eq_true rfl) ?_
  intro p e s m below meth c ls hx hb hr hml hown hlocks hin hwd hsz hP hK hD hl
  subst hsz
  generalize hAe : va_A [(h0, .inr (10, [.ref a0, .int 0, .int 0, .int (-1), .int 0, .int 0, .int 0, .int 0])), (a0, .inl (cB, 1600, .inl f0))] s.heap.size = A at hD ⊢
  have hA : ∀ q : Nat, s.heap.size ≤ q → A q := fun q h => by rw [← hAe]; exact Or.inr h
  have hS : va_S A s.heap s.heap [] := va_S.rf
  have hl : lv_has ls 3 [(0, .ref h0), (1, .int p0)] := hl
  refine lv_bipush (v := 24) hx hb dX10_put_0 (by decide) ?_
  refine lv_istore_n (lv' := [(2, .int 24), (0, .ref h0), (1, .int p0)]) hx hb dX10_put_2 rfl hl (by decide) rfl (fun ls hl => ?_)
  refine lv_iload_n hx hb dX10_put_3 rfl (lv_at hl 0 rfl) ?_
  refine lv_if_lt (tgt := 46) hx hb dX10_put_4 (by decide) (fun c1 => absurd c1 (by decide)) (fun c1 => ?_)
  refine lv_aload_n hx hb dX10_put_7 rfl (lv_at hl 1 rfl) ?_
  refine va_get (D := (dC, dI)) (ci := 10) (v := .int 0) (C := RX10) (T := TX10) (N := 8) hx hb hwd inlX10 hown hK hP 0 rfl rfl 1 (by decide) (hwd _ kr8_16) (fun _ h9 => h9) rfl dX10_put_8 ?_
  refine lv_sipush (v := 1600) hx hb dX10_put_11 (by decide) ?_
  refine lv_icmp_ge (tgt := 40) hx hb dX10_put_14 (by decide) (fun c2 => absurd c2 (by decide)) (fun c2 => ?_)
  refine lv_aload_n hx hb dX10_put_17 rfl (lv_at hl 1 rfl) ?_
  refine va_get (D := (dC, dI)) (ci := 10) (v := .ref a0) (C := RX10) (T := TX10) (N := 8) hx hb hwd inlX10 hown hK hP 0 rfl rfl 0 (by decide) (hwd _ kr3_1) (fun _ h9 => h9) rfl dX10_put_18 ?_
  refine lv_aload_n hx hb dX10_put_21 rfl (lv_at hl 1 rfl) ?_
  refine va_get (D := (dC, dI)) (ci := 10) (v := .int 0) (C := RX10) (T := TX10) (N := 8) hx hb hwd inlX10 hown hK hP 0 rfl rfl 1 (by decide) (hwd _ kr8_16) (fun _ h9 => h9) rfl dX10_put_22 ?_
  refine lv_iload_n hx hb dX10_put_25 rfl (lv_at hl 2 rfl) ?_
  refine lv_iload_n hx hb dX10_put_26 rfl (lv_at hl 0 rfl) ?_
  refine lv_iushr hx hb dX10_put_27 rfl ?_
  refine lv_topi (fun x3 ex3 => ?_)
  refine lv_i2b hx hb dX10_put_28 rfl ?_
  refine lv_topi (fun x4 ex4 => ?_)
  refine va_bast hx hb hK hP hD hS 1 2 rfl rfl (vin (by decide)) dX10_put_29 (fun H locs hP hD hS => ?_)
  obtain ⟨f5, ef5⟩ : ∃ f, f = upd f0 (0 : Int32).toNatClampNeg (vp_nar .byte x4) := ⟨_, rfl⟩
  have hP : va_P (dC, dI) vwCl [(h0, .inr (10, [.ref a0, .int 0, .int 0, .int (-1), .int 0, .int 0, .int 0, .int 0])), (a0, .inl (cB, 1600, .inl f5))] H := by rw [ef5]; exact hP
  have hD : va_D A [(h0, .inr (10, [.ref a0, .int 0, .int 0, .int (-1), .int 0, .int 0, .int 0, .int 0])), (a0, .inl (cB, 1600, .inl f5))] := by rw [ef5]; exact hD
  refine lv_aload_n hx hb dX10_put_30 rfl (lv_at hl 1 rfl) ?_
  refine lv_dup hx hb dX10_put_31 rfl ?_
  refine va_get (D := (dC, dI)) (ci := 10) (v := .int 0) (C := RX10) (T := TX10) (N := 8) hx hb hwd inlX10 hown hK hP 0 rfl rfl 1 (by decide) (hwd _ kr8_16) (fun _ h9 => h9) rfl dX10_put_32 ?_
  refine lv_iconst (v := 1) hx hb dX10_put_35 (by decide) ?_
  refine lv_iadd hx hb dX10_put_36 ?_
  refine lv_topi (nm_r (e' := (1)) (by decide +kernel) ?_)
  refine va_put (D := (dC, dI)) (ci := 10) (v := .int 1) (ty := .int) (C := RX10) (T := TX10) (N := 8) hx hb hwd inlX10 tyX10 tyX10_ok nmX10 hown hK hP hD hS 0 rfl rfl 1 (by decide) (hwd _ kr8_16) (fun _ h9 => h9) rfl (by decide +kernel) rfl rfl (Nat.le_of_ble_eq_true rfl) dX10_put_37 (fun H locs hP hD hS => ?_)
  have hP : va_P (dC, dI) vwCl [(h0, .inr (10, [.ref a0, .int 1, .int 0, .int (-1), .int 0, .int 0, .int 0, .int 0])), (a0, .inl (cB, 1600, .inl f5))] H := hP
  have hD : va_D A [(h0, .inr (10, [.ref a0, .int 1, .int 0, .int (-1), .int 0, .int 0, .int 0, .int 0])), (a0, .inl (cB, 1600, .inl f5))] := hD
  refine lv_iinc (v := 16) (lv' := [(2, .int 16), (0, .ref h0), (1, .int p0)]) hx hb dX10_put_40 hl (k := 0) rfl (by decide) (by decide) rfl (fun ls hl => ?_)
  refine lv_goto (tgt := 3) hx hb dX10_put_43 (by decide) ?_
  refine lv_iload_n hx hb dX10_put_3 rfl (lv_at hl 0 rfl) ?_
  refine lv_if_lt (tgt := 46) hx hb dX10_put_4 (by decide) (fun c6 => absurd c6 (by decide)) (fun c6 => ?_)
  refine lv_aload_n hx hb dX10_put_7 rfl (lv_at hl 1 rfl) ?_
  refine va_get (D := (dC, dI)) (ci := 10) (v := .int 1) (C := RX10) (T := TX10) (N := 8) hx hb hwd inlX10 hown hK hP 0 rfl rfl 1 (by decide) (hwd _ kr8_16) (fun _ h9 => h9) rfl dX10_put_8 ?_
  refine lv_sipush (v := 1600) hx hb dX10_put_11 (by decide) ?_
  refine lv_icmp_ge (tgt := 40) hx hb dX10_put_14 (by decide) (fun c7 => absurd c7 (by decide)) (fun c7 => ?_)
  refine lv_aload_n hx hb dX10_put_17 rfl (lv_at hl 1 rfl) ?_
  refine va_get (D := (dC, dI)) (ci := 10) (v := .ref a0) (C := RX10) (T := TX10) (N := 8) hx hb hwd inlX10 hown hK hP 0 rfl rfl 0 (by decide) (hwd _ kr3_1) (fun _ h9 => h9) rfl dX10_put_18 ?_
  refine lv_aload_n hx hb dX10_put_21 rfl (lv_at hl 1 rfl) ?_
  refine va_get (D := (dC, dI)) (ci := 10) (v := .int 1) (C := RX10) (T := TX10) (N := 8) hx hb hwd inlX10 hown hK hP 0 rfl rfl 1 (by decide) (hwd _ kr8_16) (fun _ h9 => h9) rfl dX10_put_22 ?_
  refine lv_iload_n hx hb dX10_put_25 rfl (lv_at hl 2 rfl) ?_
  refine lv_iload_n hx hb dX10_put_26 rfl (lv_at hl 0 rfl) ?_
  refine lv_iushr hx hb dX10_put_27 rfl ?_
  refine lv_topi (fun x8 ex8 => ?_)
  refine lv_i2b hx hb dX10_put_28 rfl ?_
  refine lv_topi (fun x9 ex9 => ?_)
  refine va_bast hx hb hK hP hD hS 1 2 rfl rfl (vin (by decide)) dX10_put_29 (fun H locs hP hD hS => ?_)
  obtain ⟨f10, ef10⟩ : ∃ f, f = upd f5 (1 : Int32).toNatClampNeg (vp_nar .byte x9) := ⟨_, rfl⟩
  have hP : va_P (dC, dI) vwCl [(h0, .inr (10, [.ref a0, .int 1, .int 0, .int (-1), .int 0, .int 0, .int 0, .int 0])), (a0, .inl (cB, 1600, .inl f10))] H := by rw [ef10]; exact hP
  have hD : va_D A [(h0, .inr (10, [.ref a0, .int 1, .int 0, .int (-1), .int 0, .int 0, .int 0, .int 0])), (a0, .inl (cB, 1600, .inl f10))] := by rw [ef10]; exact hD
  refine lv_aload_n hx hb dX10_put_30 rfl (lv_at hl 1 rfl) ?_
  refine lv_dup hx hb dX10_put_31 rfl ?_
  refine va_get (D := (dC, dI)) (ci := 10) (v := .int 1) (C := RX10) (T := TX10) (N := 8) hx hb hwd inlX10 hown hK hP 0 rfl rfl 1 (by decide) (hwd _ kr8_16) (fun _ h9 => h9) rfl dX10_put_32 ?_
  refine lv_iconst (v := 1) hx hb dX10_put_35 (by decide) ?_
  refine lv_iadd hx hb dX10_put_36 ?_
  refine lv_topi (nm_r (e' := (2)) (by decide +kernel) ?_)
  refine va_put (D := (dC, dI)) (ci := 10) (v := .int 2) (ty := .int) (C := RX10) (T := TX10) (N := 8) hx hb hwd inlX10 tyX10 tyX10_ok nmX10 hown hK hP hD hS 0 rfl rfl 1 (by decide) (hwd _ kr8_16) (fun _ h9 => h9) rfl (by decide +kernel) rfl rfl (Nat.le_of_ble_eq_true rfl) dX10_put_37 (fun H locs hP hD hS => ?_)
  have hP : va_P (dC, dI) vwCl [(h0, .inr (10, [.ref a0, .int 2, .int 0, .int (-1), .int 0, .int 0, .int 0, .int 0])), (a0, .inl (cB, 1600, .inl f10))] H := hP
  have hD : va_D A [(h0, .inr (10, [.ref a0, .int 2, .int 0, .int (-1), .int 0, .int 0, .int 0, .int 0])), (a0, .inl (cB, 1600, .inl f10))] := hD
  refine lv_iinc (v := 8) (lv' := [(2, .int 8), (0, .ref h0), (1, .int p0)]) hx hb dX10_put_40 hl (k := 0) rfl (by decide) (by decide) rfl (fun ls hl => ?_)
  refine lv_goto (tgt := 3) hx hb dX10_put_43 (by decide) ?_
  refine lv_iload_n hx hb dX10_put_3 rfl (lv_at hl 0 rfl) ?_
  refine lv_if_lt (tgt := 46) hx hb dX10_put_4 (by decide) (fun c11 => absurd c11 (by decide)) (fun c11 => ?_)
  refine lv_aload_n hx hb dX10_put_7 rfl (lv_at hl 1 rfl) ?_
  refine va_get (D := (dC, dI)) (ci := 10) (v := .int 2) (C := RX10) (T := TX10) (N := 8) hx hb hwd inlX10 hown hK hP 0 rfl rfl 1 (by decide) (hwd _ kr8_16) (fun _ h9 => h9) rfl dX10_put_8 ?_
  refine lv_sipush (v := 1600) hx hb dX10_put_11 (by decide) ?_
  refine lv_icmp_ge (tgt := 40) hx hb dX10_put_14 (by decide) (fun c12 => absurd c12 (by decide)) (fun c12 => ?_)
  refine lv_aload_n hx hb dX10_put_17 rfl (lv_at hl 1 rfl) ?_
  refine va_get (D := (dC, dI)) (ci := 10) (v := .ref a0) (C := RX10) (T := TX10) (N := 8) hx hb hwd inlX10 hown hK hP 0 rfl rfl 0 (by decide) (hwd _ kr3_1) (fun _ h9 => h9) rfl dX10_put_18 ?_
  refine lv_aload_n hx hb dX10_put_21 rfl (lv_at hl 1 rfl) ?_
  refine va_get (D := (dC, dI)) (ci := 10) (v := .int 2) (C := RX10) (T := TX10) (N := 8) hx hb hwd inlX10 hown hK hP 0 rfl rfl 1 (by decide) (hwd _ kr8_16) (fun _ h9 => h9) rfl dX10_put_22 ?_
  refine lv_iload_n hx hb dX10_put_25 rfl (lv_at hl 2 rfl) ?_
  refine lv_iload_n hx hb dX10_put_26 rfl (lv_at hl 0 rfl) ?_
  refine lv_iushr hx hb dX10_put_27 rfl ?_
  refine lv_topi (fun x13 ex13 => ?_)
  refine lv_i2b hx hb dX10_put_28 rfl ?_
  refine lv_topi (fun x14 ex14 => ?_)
  refine va_bast hx hb hK hP hD hS 1 2 rfl rfl (vin (by decide)) dX10_put_29 (fun H locs hP hD hS => ?_)
  obtain ⟨f15, ef15⟩ : ∃ f, f = upd f10 (2 : Int32).toNatClampNeg (vp_nar .byte x14) := ⟨_, rfl⟩
  have hP : va_P (dC, dI) vwCl [(h0, .inr (10, [.ref a0, .int 2, .int 0, .int (-1), .int 0, .int 0, .int 0, .int 0])), (a0, .inl (cB, 1600, .inl f15))] H := by rw [ef15]; exact hP
  have hD : va_D A [(h0, .inr (10, [.ref a0, .int 2, .int 0, .int (-1), .int 0, .int 0, .int 0, .int 0])), (a0, .inl (cB, 1600, .inl f15))] := by rw [ef15]; exact hD
  refine lv_aload_n hx hb dX10_put_30 rfl (lv_at hl 1 rfl) ?_
  refine lv_dup hx hb dX10_put_31 rfl ?_
  refine va_get (D := (dC, dI)) (ci := 10) (v := .int 2) (C := RX10) (T := TX10) (N := 8) hx hb hwd inlX10 hown hK hP 0 rfl rfl 1 (by decide) (hwd _ kr8_16) (fun _ h9 => h9) rfl dX10_put_32 ?_
  refine lv_iconst (v := 1) hx hb dX10_put_35 (by decide) ?_
  refine lv_iadd hx hb dX10_put_36 ?_
  refine lv_topi (nm_r (e' := (3)) (by decide +kernel) ?_)
  refine va_put (D := (dC, dI)) (ci := 10) (v := .int 3) (ty := .int) (C := RX10) (T := TX10) (N := 8) hx hb hwd inlX10 tyX10 tyX10_ok nmX10 hown hK hP hD hS 0 rfl rfl 1 (by decide) (hwd _ kr8_16) (fun _ h9 => h9) rfl (by decide +kernel) rfl rfl (Nat.le_of_ble_eq_true rfl) dX10_put_37 (fun H locs hP hD hS => ?_)
  have hP : va_P (dC, dI) vwCl [(h0, .inr (10, [.ref a0, .int 3, .int 0, .int (-1), .int 0, .int 0, .int 0, .int 0])), (a0, .inl (cB, 1600, .inl f15))] H := hP
  have hD : va_D A [(h0, .inr (10, [.ref a0, .int 3, .int 0, .int (-1), .int 0, .int 0, .int 0, .int 0])), (a0, .inl (cB, 1600, .inl f15))] := hD
  refine lv_iinc (v := 0) (lv' := [(2, .int 0), (0, .ref h0), (1, .int p0)]) hx hb dX10_put_40 hl (k := 0) rfl (by decide) (by decide) rfl (fun ls hl => ?_)
  refine lv_goto (tgt := 3) hx hb dX10_put_43 (by decide) ?_
  refine lv_iload_n hx hb dX10_put_3 rfl (lv_at hl 0 rfl) ?_
  refine lv_if_lt (tgt := 46) hx hb dX10_put_4 (by decide) (fun c16 => absurd c16 (by decide)) (fun c16 => ?_)
  refine lv_aload_n hx hb dX10_put_7 rfl (lv_at hl 1 rfl) ?_
  refine va_get (D := (dC, dI)) (ci := 10) (v := .int 3) (C := RX10) (T := TX10) (N := 8) hx hb hwd inlX10 hown hK hP 0 rfl rfl 1 (by decide) (hwd _ kr8_16) (fun _ h9 => h9) rfl dX10_put_8 ?_
  refine lv_sipush (v := 1600) hx hb dX10_put_11 (by decide) ?_
  refine lv_icmp_ge (tgt := 40) hx hb dX10_put_14 (by decide) (fun c17 => absurd c17 (by decide)) (fun c17 => ?_)
  refine lv_aload_n hx hb dX10_put_17 rfl (lv_at hl 1 rfl) ?_
  refine va_get (D := (dC, dI)) (ci := 10) (v := .ref a0) (C := RX10) (T := TX10) (N := 8) hx hb hwd inlX10 hown hK hP 0 rfl rfl 0 (by decide) (hwd _ kr3_1) (fun _ h9 => h9) rfl dX10_put_18 ?_
  refine lv_aload_n hx hb dX10_put_21 rfl (lv_at hl 1 rfl) ?_
  refine va_get (D := (dC, dI)) (ci := 10) (v := .int 3) (C := RX10) (T := TX10) (N := 8) hx hb hwd inlX10 hown hK hP 0 rfl rfl 1 (by decide) (hwd _ kr8_16) (fun _ h9 => h9) rfl dX10_put_22 ?_
  refine lv_iload_n hx hb dX10_put_25 rfl (lv_at hl 2 rfl) ?_
  refine lv_iload_n hx hb dX10_put_26 rfl (lv_at hl 0 rfl) ?_
  refine lv_iushr hx hb dX10_put_27 rfl ?_
  refine lv_topi (fun x18 ex18 => ?_)
  refine lv_i2b hx hb dX10_put_28 rfl ?_
  refine lv_topi (fun x19 ex19 => ?_)
  refine va_bast hx hb hK hP hD hS 1 2 rfl rfl (vin (by decide)) dX10_put_29 (fun H locs hP hD hS => ?_)
  obtain ⟨f20, ef20⟩ : ∃ f, f = upd f15 (3 : Int32).toNatClampNeg (vp_nar .byte x19) := ⟨_, rfl⟩
  have hP : va_P (dC, dI) vwCl [(h0, .inr (10, [.ref a0, .int 3, .int 0, .int (-1), .int 0, .int 0, .int 0, .int 0])), (a0, .inl (cB, 1600, .inl f20))] H := by rw [ef20]; exact hP
  have hD : va_D A [(h0, .inr (10, [.ref a0, .int 3, .int 0, .int (-1), .int 0, .int 0, .int 0, .int 0])), (a0, .inl (cB, 1600, .inl f20))] := by rw [ef20]; exact hD
  refine lv_aload_n hx hb dX10_put_30 rfl (lv_at hl 1 rfl) ?_
  refine lv_dup hx hb dX10_put_31 rfl ?_
  refine va_get (D := (dC, dI)) (ci := 10) (v := .int 3) (C := RX10) (T := TX10) (N := 8) hx hb hwd inlX10 hown hK hP 0 rfl rfl 1 (by decide) (hwd _ kr8_16) (fun _ h9 => h9) rfl dX10_put_32 ?_
  refine lv_iconst (v := 1) hx hb dX10_put_35 (by decide) ?_
  refine lv_iadd hx hb dX10_put_36 ?_
  refine lv_topi (nm_r (e' := (4)) (by decide +kernel) ?_)
  refine va_put (D := (dC, dI)) (ci := 10) (v := .int 4) (ty := .int) (C := RX10) (T := TX10) (N := 8) hx hb hwd inlX10 tyX10 tyX10_ok nmX10 hown hK hP hD hS 0 rfl rfl 1 (by decide) (hwd _ kr8_16) (fun _ h9 => h9) rfl (by decide +kernel) rfl rfl (Nat.le_of_ble_eq_true rfl) dX10_put_37 (fun H locs hP hD hS => ?_)
  have hP : va_P (dC, dI) vwCl [(h0, .inr (10, [.ref a0, .int 4, .int 0, .int (-1), .int 0, .int 0, .int 0, .int 0])), (a0, .inl (cB, 1600, .inl f20))] H := hP
  have hD : va_D A [(h0, .inr (10, [.ref a0, .int 4, .int 0, .int (-1), .int 0, .int 0, .int 0, .int 0])), (a0, .inl (cB, 1600, .inl f20))] := hD
  refine lv_iinc (v := (-8)) (lv' := [(2, .int (-8)), (0, .ref h0), (1, .int p0)]) hx hb dX10_put_40 hl (k := 0) rfl (by decide) (by decide) rfl (fun ls hl => ?_)
  refine lv_goto (tgt := 3) hx hb dX10_put_43 (by decide) ?_
  refine lv_iload_n hx hb dX10_put_3 rfl (lv_at hl 0 rfl) ?_
  refine lv_if_lt (tgt := 46) hx hb dX10_put_4 (by decide) (fun c21 => ?_) (fun c21 => absurd c21 (by decide))
  have hP9 := hP.sub (ws' := [(h0, .inr (10, [.ref a0, .int 4, .int 0, .int (-1), .int 0, .int 0, .int 0, .int 0])), (a0, .inl (cB, 1600, .inl f20))]) [0, 1] rfl
  have hD9 := hD.sub (ws' := [(h0, .inr (10, [.ref a0, .int 4, .int 0, .int (-1), .int 0, .int 0, .int 0, .int 0])), (a0, .inl (cB, 1600, .inl f20))]) [0, 1] (by decide) rfl
  exact W.vret hx hb hr (fun t ht hW => ⟨⟨f20, rfl, trivial, (by rw [ht]; exact hP9), hD9⟩, hS.F ht⟩) hS.2.2 dX10_put_46
set_option maxHeartbeats 4000000 in
set_option maxRecDepth 100000 in
theorem c_X10_put_4 (l : Launch) (dC : Nat → ClassId) (dI : Nat → Nat → Nat) (cI cZ cB cJ cM : ClassId) (h0 a0 : Nat) (f0 : Nat → Int32) (p0 : Int32) (sz : Nat) : Met l yX10_put (kw yX10_put cX10_put 3 none) ({ frames := 0, cells := 0, slots := 0, locals := 0 }) (va_Pc [.ref h0, .int p0] (kPre dC dI [(cI, .int), (cZ, .boolean), (cB, .byte), (cJ, .long), (cM, .object RX2)] [(h0, .inr (10, [.ref a0, .int 4, .int 0, .int (-1), .int 0, .int 0, .int 0, .int 0])), (a0, .inl (cB, 1600, .inl f0))] sz)) (va_Qv (fun _ : (Nat → Int32) => True) (fun u t => va_P (dC, dI) vwCl [(h0, .inr (10, [.ref a0, .int 8, .int 0, .int (-1), .int 0, .int 0, .int 0, .int 0])), (a0, .inl (cB, 1600, .inl u))] t.heap ∧ va_D (va_A [(h0, .inr (10, [.ref a0, .int 4, .int 0, .int (-1), .int 0, .int 0, .int 0, .int 0])), (a0, .inl (cB, 1600, .inl f0))] sz) [(h0, .inr (10, [.ref a0, .int 8, .int 0, .int (-1), .int 0, .int 0, .int 0, .int 0])), (a0, .inl (cB, 1600, .inl u))]) (va_A [(h0, .inr (10, [.ref a0, .int 4, .int 0, .int (-1), .int 0, .int 0, .int 0, .int 0])), (a0, .inl (cB, 1600, .inl f0))] sz)) 0 0 (va_A [(h0, .inr (10, [.ref a0, .int 4, .int 0, .int (-1), .int 0, .int 0, .int 0, .int 0])), (a0, .inl (cB, 1600, .inl f0))] sz) := by
  refine kEnter (by decide) (Nat.le_of_ble_eq_true rfl) ?_
  intro p e s m below meth c ls hx hb hr hml hown hlocks hin hwd hsz hP hK hD hl
  subst hsz
  generalize hAe : va_A [(h0, .inr (10, [.ref a0, .int 4, .int 0, .int (-1), .int 0, .int 0, .int 0, .int 0])), (a0, .inl (cB, 1600, .inl f0))] s.heap.size = A at hD ⊢
  have hA : ∀ q : Nat, s.heap.size ≤ q → A q := fun q h => by rw [← hAe]; exact Or.inr h
  have hS : va_S A s.heap s.heap [] := va_S.rf
  have hl : lv_has ls 3 [(0, .ref h0), (1, .int p0)] := hl
  refine lv_bipush (v := 24) hx hb dX10_put_0 (by decide) ?_
  refine lv_istore_n (lv' := [(2, .int 24), (0, .ref h0), (1, .int p0)]) hx hb dX10_put_2 rfl hl (by decide) rfl (fun ls hl => ?_)
  refine lv_iload_n hx hb dX10_put_3 rfl (lv_at hl 0 rfl) ?_
  refine lv_if_lt (tgt := 46) hx hb dX10_put_4 (by decide) (fun c1 => absurd c1 (by decide)) (fun c1 => ?_)
  refine lv_aload_n hx hb dX10_put_7 rfl (lv_at hl 1 rfl) ?_
  refine va_get (D := (dC, dI)) (ci := 10) (v := .int 4) (C := RX10) (T := TX10) (N := 8) hx hb hwd inlX10 hown hK hP 0 rfl rfl 1 (by decide) (hwd _ kr8_16) (fun _ h9 => h9) rfl dX10_put_8 ?_
  refine lv_sipush (v := 1600) hx hb dX10_put_11 (by decide) ?_
  refine lv_icmp_ge (tgt := 40) hx hb dX10_put_14 (by decide) (fun c2 => absurd c2 (by decide)) (fun c2 => ?_)
  refine lv_aload_n hx hb dX10_put_17 rfl (lv_at hl 1 rfl) ?_
  refine va_get (D := (dC, dI)) (ci := 10) (v := .ref a0) (C := RX10) (T := TX10) (N := 8) hx hb hwd inlX10 hown hK hP 0 rfl rfl 0 (by decide) (hwd _ kr3_1) (fun _ h9 => h9) rfl dX10_put_18 ?_
  refine lv_aload_n hx hb dX10_put_21 rfl (lv_at hl 1 rfl) ?_
  refine va_get (D := (dC, dI)) (ci := 10) (v := .int 4) (C := RX10) (T := TX10) (N := 8) hx hb hwd inlX10 hown hK hP 0 rfl rfl 1 (by decide) (hwd _ kr8_16) (fun _ h9 => h9) rfl dX10_put_22 ?_
  refine lv_iload_n hx hb dX10_put_25 rfl (lv_at hl 2 rfl) ?_
  refine lv_iload_n hx hb dX10_put_26 rfl (lv_at hl 0 rfl) ?_
  refine lv_iushr hx hb dX10_put_27 rfl ?_
  refine lv_topi (fun x3 ex3 => ?_)
  refine lv_i2b hx hb dX10_put_28 rfl ?_
  refine lv_topi (fun x4 ex4 => ?_)
  refine va_bast hx hb hK hP hD hS 1 2 rfl rfl (vin (by decide)) dX10_put_29 (fun H locs hP hD hS => ?_)
  obtain ⟨f5, ef5⟩ : ∃ f, f = upd f0 (4 : Int32).toNatClampNeg (vp_nar .byte x4) := ⟨_, rfl⟩
  have hP : va_P (dC, dI) vwCl [(h0, .inr (10, [.ref a0, .int 4, .int 0, .int (-1), .int 0, .int 0, .int 0, .int 0])), (a0, .inl (cB, 1600, .inl f5))] H := by rw [ef5]; exact hP
  have hD : va_D A [(h0, .inr (10, [.ref a0, .int 4, .int 0, .int (-1), .int 0, .int 0, .int 0, .int 0])), (a0, .inl (cB, 1600, .inl f5))] := by rw [ef5]; exact hD
  refine lv_aload_n hx hb dX10_put_30 rfl (lv_at hl 1 rfl) ?_
  refine lv_dup hx hb dX10_put_31 rfl ?_
  refine va_get (D := (dC, dI)) (ci := 10) (v := .int 4) (C := RX10) (T := TX10) (N := 8) hx hb hwd inlX10 hown hK hP 0 rfl rfl 1 (by decide) (hwd _ kr8_16) (fun _ h9 => h9) rfl dX10_put_32 ?_
  refine lv_iconst (v := 1) hx hb dX10_put_35 (by decide) ?_
  refine lv_iadd hx hb dX10_put_36 ?_
  refine lv_topi (nm_r (e' := (5)) (by decide +kernel) ?_)
  refine va_put (D := (dC, dI)) (ci := 10) (v := .int 5) (ty := .int) (C := RX10) (T := TX10) (N := 8) hx hb hwd inlX10 tyX10 tyX10_ok nmX10 hown hK hP hD hS 0 rfl rfl 1 (by decide) (hwd _ kr8_16) (fun _ h9 => h9) rfl (by decide +kernel) rfl rfl (Nat.le_of_ble_eq_true rfl) dX10_put_37 (fun H locs hP hD hS => ?_)
  have hP : va_P (dC, dI) vwCl [(h0, .inr (10, [.ref a0, .int 5, .int 0, .int (-1), .int 0, .int 0, .int 0, .int 0])), (a0, .inl (cB, 1600, .inl f5))] H := hP
  have hD : va_D A [(h0, .inr (10, [.ref a0, .int 5, .int 0, .int (-1), .int 0, .int 0, .int 0, .int 0])), (a0, .inl (cB, 1600, .inl f5))] := hD
  refine lv_iinc (v := 16) (lv' := [(2, .int 16), (0, .ref h0), (1, .int p0)]) hx hb dX10_put_40 hl (k := 0) rfl (by decide) (by decide) rfl (fun ls hl => ?_)
  refine lv_goto (tgt := 3) hx hb dX10_put_43 (by decide) ?_
  refine lv_iload_n hx hb dX10_put_3 rfl (lv_at hl 0 rfl) ?_
  refine lv_if_lt (tgt := 46) hx hb dX10_put_4 (by decide) (fun c6 => absurd c6 (by decide)) (fun c6 => ?_)
  refine lv_aload_n hx hb dX10_put_7 rfl (lv_at hl 1 rfl) ?_
  refine va_get (D := (dC, dI)) (ci := 10) (v := .int 5) (C := RX10) (T := TX10) (N := 8) hx hb hwd inlX10 hown hK hP 0 rfl rfl 1 (by decide) (hwd _ kr8_16) (fun _ h9 => h9) rfl dX10_put_8 ?_
  refine lv_sipush (v := 1600) hx hb dX10_put_11 (by decide) ?_
  refine lv_icmp_ge (tgt := 40) hx hb dX10_put_14 (by decide) (fun c7 => absurd c7 (by decide)) (fun c7 => ?_)
  refine lv_aload_n hx hb dX10_put_17 rfl (lv_at hl 1 rfl) ?_
  refine va_get (D := (dC, dI)) (ci := 10) (v := .ref a0) (C := RX10) (T := TX10) (N := 8) hx hb hwd inlX10 hown hK hP 0 rfl rfl 0 (by decide) (hwd _ kr3_1) (fun _ h9 => h9) rfl dX10_put_18 ?_
  refine lv_aload_n hx hb dX10_put_21 rfl (lv_at hl 1 rfl) ?_
  refine va_get (D := (dC, dI)) (ci := 10) (v := .int 5) (C := RX10) (T := TX10) (N := 8) hx hb hwd inlX10 hown hK hP 0 rfl rfl 1 (by decide) (hwd _ kr8_16) (fun _ h9 => h9) rfl dX10_put_22 ?_
  refine lv_iload_n hx hb dX10_put_25 rfl (lv_at hl 2 rfl) ?_
  refine lv_iload_n hx hb dX10_put_26 rfl (lv_at hl 0 rfl) ?_
  refine lv_iushr hx hb dX10_put_27 rfl ?_
  refine lv_topi (fun x8 ex8 => ?_)
  refine lv_i2b hx hb dX10_put_28 rfl ?_
  refine lv_topi (fun x9 ex9 => ?_)
  refine va_bast hx hb hK hP hD hS 1 2 rfl rfl (vin (by decide)) dX10_put_29 (fun H locs hP hD hS => ?_)
  obtain ⟨f10, ef10⟩ : ∃ f, f = upd f5 (5 : Int32).toNatClampNeg (vp_nar .byte x9) := ⟨_, rfl⟩
  have hP : va_P (dC, dI) vwCl [(h0, .inr (10, [.ref a0, .int 5, .int 0, .int (-1), .int 0, .int 0, .int 0, .int 0])), (a0, .inl (cB, 1600, .inl f10))] H := by rw [ef10]; exact hP
  have hD : va_D A [(h0, .inr (10, [.ref a0, .int 5, .int 0, .int (-1), .int 0, .int 0, .int 0, .int 0])), (a0, .inl (cB, 1600, .inl f10))] := by rw [ef10]; exact hD
  refine lv_aload_n hx hb dX10_put_30 rfl (lv_at hl 1 rfl) ?_
  refine lv_dup hx hb dX10_put_31 rfl ?_
  refine va_get (D := (dC, dI)) (ci := 10) (v := .int 5) (C := RX10) (T := TX10) (N := 8) hx hb hwd inlX10 hown hK hP 0 rfl rfl 1 (by decide) (hwd _ kr8_16) (fun _ h9 => h9) rfl dX10_put_32 ?_
  refine lv_iconst (v := 1) hx hb dX10_put_35 (by decide) ?_
  refine lv_iadd hx hb dX10_put_36 ?_
  refine lv_topi (nm_r (e' := (6)) (by decide +kernel) ?_)
  refine va_put (D := (dC, dI)) (ci := 10) (v := .int 6) (ty := .int) (C := RX10) (T := TX10) (N := 8) hx hb hwd inlX10 tyX10 tyX10_ok nmX10 hown hK hP hD hS 0 rfl rfl 1 (by decide) (hwd _ kr8_16) (fun _ h9 => h9) rfl (by decide +kernel) rfl rfl (Nat.le_of_ble_eq_true rfl) dX10_put_37 (fun H locs hP hD hS => ?_)
  have hP : va_P (dC, dI) vwCl [(h0, .inr (10, [.ref a0, .int 6, .int 0, .int (-1), .int 0, .int 0, .int 0, .int 0])), (a0, .inl (cB, 1600, .inl f10))] H := hP
  have hD : va_D A [(h0, .inr (10, [.ref a0, .int 6, .int 0, .int (-1), .int 0, .int 0, .int 0, .int 0])), (a0, .inl (cB, 1600, .inl f10))] := hD
  refine lv_iinc (v := 8) (lv' := [(2, .int 8), (0, .ref h0), (1, .int p0)]) hx hb dX10_put_40 hl (k := 0) rfl (by decide) (by decide) rfl (fun ls hl => ?_)
  refine lv_goto (tgt := 3) hx hb dX10_put_43 (by decide) ?_
  refine lv_iload_n hx hb dX10_put_3 rfl (lv_at hl 0 rfl) ?_
  refine lv_if_lt (tgt := 46) hx hb dX10_put_4 (by decide) (fun c11 => absurd c11 (by decide)) (fun c11 => ?_)
  refine lv_aload_n hx hb dX10_put_7 rfl (lv_at hl 1 rfl) ?_
  refine va_get (D := (dC, dI)) (ci := 10) (v := .int 6) (C := RX10) (T := TX10) (N := 8) hx hb hwd inlX10 hown hK hP 0 rfl rfl 1 (by decide) (hwd _ kr8_16) (fun _ h9 => h9) rfl dX10_put_8 ?_
  refine lv_sipush (v := 1600) hx hb dX10_put_11 (by decide) ?_
  refine lv_icmp_ge (tgt := 40) hx hb dX10_put_14 (by decide) (fun c12 => absurd c12 (by decide)) (fun c12 => ?_)
  refine lv_aload_n hx hb dX10_put_17 rfl (lv_at hl 1 rfl) ?_
  refine va_get (D := (dC, dI)) (ci := 10) (v := .ref a0) (C := RX10) (T := TX10) (N := 8) hx hb hwd inlX10 hown hK hP 0 rfl rfl 0 (by decide) (hwd _ kr3_1) (fun _ h9 => h9) rfl dX10_put_18 ?_
  refine lv_aload_n hx hb dX10_put_21 rfl (lv_at hl 1 rfl) ?_
  refine va_get (D := (dC, dI)) (ci := 10) (v := .int 6) (C := RX10) (T := TX10) (N := 8) hx hb hwd inlX10 hown hK hP 0 rfl rfl 1 (by decide) (hwd _ kr8_16) (fun _ h9 => h9) rfl dX10_put_22 ?_
  refine lv_iload_n hx hb dX10_put_25 rfl (lv_at hl 2 rfl) ?_
  refine lv_iload_n hx hb dX10_put_26 rfl (lv_at hl 0 rfl) ?_
  refine lv_iushr hx hb dX10_put_27 rfl ?_
  refine lv_topi (fun x13 ex13 => ?_)
  refine lv_i2b hx hb dX10_put_28 rfl ?_
  refine lv_topi (fun x14 ex14 => ?_)
  refine va_bast hx hb hK hP hD hS 1 2 rfl rfl (vin (by decide)) dX10_put_29 (fun H locs hP hD hS => ?_)
  obtain ⟨f15, ef15⟩ : ∃ f, f = upd f10 (6 : Int32).toNatClampNeg (vp_nar .byte x14) := ⟨_, rfl⟩
  have hP : va_P (dC, dI) vwCl [(h0, .inr (10, [.ref a0, .int 6, .int 0, .int (-1), .int 0, .int 0, .int 0, .int 0])), (a0, .inl (cB, 1600, .inl f15))] H := by rw [ef15]; exact hP
  have hD : va_D A [(h0, .inr (10, [.ref a0, .int 6, .int 0, .int (-1), .int 0, .int 0, .int 0, .int 0])), (a0, .inl (cB, 1600, .inl f15))] := by rw [ef15]; exact hD
  refine lv_aload_n hx hb dX10_put_30 rfl (lv_at hl 1 rfl) ?_
  refine lv_dup hx hb dX10_put_31 rfl ?_
  refine va_get (D := (dC, dI)) (ci := 10) (v := .int 6) (C := RX10) (T := TX10) (N := 8) hx hb hwd inlX10 hown hK hP 0 rfl rfl 1 (by decide) (hwd _ kr8_16) (fun _ h9 => h9) rfl dX10_put_32 ?_
  refine lv_iconst (v := 1) hx hb dX10_put_35 (by decide) ?_
  refine lv_iadd hx hb dX10_put_36 ?_
  refine lv_topi (nm_r (e' := (7)) (by decide +kernel) ?_)
  refine va_put (D := (dC, dI)) (ci := 10) (v := .int 7) (ty := .int) (C := RX10) (T := TX10) (N := 8) hx hb hwd inlX10 tyX10 tyX10_ok nmX10 hown hK hP hD hS 0 rfl rfl 1 (by decide) (hwd _ kr8_16) (fun _ h9 => h9) rfl (by decide +kernel) rfl rfl (Nat.le_of_ble_eq_true rfl) dX10_put_37 (fun H locs hP hD hS => ?_)
  have hP : va_P (dC, dI) vwCl [(h0, .inr (10, [.ref a0, .int 7, .int 0, .int (-1), .int 0, .int 0, .int 0, .int 0])), (a0, .inl (cB, 1600, .inl f15))] H := hP
  have hD : va_D A [(h0, .inr (10, [.ref a0, .int 7, .int 0, .int (-1), .int 0, .int 0, .int 0, .int 0])), (a0, .inl (cB, 1600, .inl f15))] := hD
  refine lv_iinc (v := 0) (lv' := [(2, .int 0), (0, .ref h0), (1, .int p0)]) hx hb dX10_put_40 hl (k := 0) rfl (by decide) (by decide) rfl (fun ls hl => ?_)
  refine lv_goto (tgt := 3) hx hb dX10_put_43 (by decide) ?_
  refine lv_iload_n hx hb dX10_put_3 rfl (lv_at hl 0 rfl) ?_
  refine lv_if_lt (tgt := 46) hx hb dX10_put_4 (by decide) (fun c16 => absurd c16 (by decide)) (fun c16 => ?_)
  refine lv_aload_n hx hb dX10_put_7 rfl (lv_at hl 1 rfl) ?_
  refine va_get (D := (dC, dI)) (ci := 10) (v := .int 7) (C := RX10) (T := TX10) (N := 8) hx hb hwd inlX10 hown hK hP 0 rfl rfl 1 (by decide) (hwd _ kr8_16) (fun _ h9 => h9) rfl dX10_put_8 ?_
  refine lv_sipush (v := 1600) hx hb dX10_put_11 (by decide) ?_
  refine lv_icmp_ge (tgt := 40) hx hb dX10_put_14 (by decide) (fun c17 => absurd c17 (by decide)) (fun c17 => ?_)
  refine lv_aload_n hx hb dX10_put_17 rfl (lv_at hl 1 rfl) ?_
  refine va_get (D := (dC, dI)) (ci := 10) (v := .ref a0) (C := RX10) (T := TX10) (N := 8) hx hb hwd inlX10 hown hK hP 0 rfl rfl 0 (by decide) (hwd _ kr3_1) (fun _ h9 => h9) rfl dX10_put_18 ?_
  refine lv_aload_n hx hb dX10_put_21 rfl (lv_at hl 1 rfl) ?_
  refine va_get (D := (dC, dI)) (ci := 10) (v := .int 7) (C := RX10) (T := TX10) (N := 8) hx hb hwd inlX10 hown hK hP 0 rfl rfl 1 (by decide) (hwd _ kr8_16) (fun _ h9 => h9) rfl dX10_put_22 ?_
  refine lv_iload_n hx hb dX10_put_25 rfl (lv_at hl 2 rfl) ?_
  refine lv_iload_n hx hb dX10_put_26 rfl (lv_at hl 0 rfl) ?_
  refine lv_iushr hx hb dX10_put_27 rfl ?_
  refine lv_topi (fun x18 ex18 => ?_)
  refine lv_i2b hx hb dX10_put_28 rfl ?_
  refine lv_topi (fun x19 ex19 => ?_)
  refine va_bast hx hb hK hP hD hS 1 2 rfl rfl (vin (by decide)) dX10_put_29 (fun H locs hP hD hS => ?_)
  obtain ⟨f20, ef20⟩ : ∃ f, f = upd f15 (7 : Int32).toNatClampNeg (vp_nar .byte x19) := ⟨_, rfl⟩
  have hP : va_P (dC, dI) vwCl [(h0, .inr (10, [.ref a0, .int 7, .int 0, .int (-1), .int 0, .int 0, .int 0, .int 0])), (a0, .inl (cB, 1600, .inl f20))] H := by rw [ef20]; exact hP
  have hD : va_D A [(h0, .inr (10, [.ref a0, .int 7, .int 0, .int (-1), .int 0, .int 0, .int 0, .int 0])), (a0, .inl (cB, 1600, .inl f20))] := by rw [ef20]; exact hD
  refine lv_aload_n hx hb dX10_put_30 rfl (lv_at hl 1 rfl) ?_
  refine lv_dup hx hb dX10_put_31 rfl ?_
  refine va_get (D := (dC, dI)) (ci := 10) (v := .int 7) (C := RX10) (T := TX10) (N := 8) hx hb hwd inlX10 hown hK hP 0 rfl rfl 1 (by decide) (hwd _ kr8_16) (fun _ h9 => h9) rfl dX10_put_32 ?_
  refine lv_iconst (v := 1) hx hb dX10_put_35 (by decide) ?_
  refine lv_iadd hx hb dX10_put_36 ?_
  refine lv_topi (nm_r (e' := (8)) (by decide +kernel) ?_)
  refine va_put (D := (dC, dI)) (ci := 10) (v := .int 8) (ty := .int) (C := RX10) (T := TX10) (N := 8) hx hb hwd inlX10 tyX10 tyX10_ok nmX10 hown hK hP hD hS 0 rfl rfl 1 (by decide) (hwd _ kr8_16) (fun _ h9 => h9) rfl (by decide +kernel) rfl rfl (Nat.le_of_ble_eq_true rfl) dX10_put_37 (fun H locs hP hD hS => ?_)
  have hP : va_P (dC, dI) vwCl [(h0, .inr (10, [.ref a0, .int 8, .int 0, .int (-1), .int 0, .int 0, .int 0, .int 0])), (a0, .inl (cB, 1600, .inl f20))] H := hP
  have hD : va_D A [(h0, .inr (10, [.ref a0, .int 8, .int 0, .int (-1), .int 0, .int 0, .int 0, .int 0])), (a0, .inl (cB, 1600, .inl f20))] := hD
  refine lv_iinc (v := (-8)) (lv' := [(2, .int (-8)), (0, .ref h0), (1, .int p0)]) hx hb dX10_put_40 hl (k := 0) rfl (by decide) (by decide) rfl (fun ls hl => ?_)
  refine lv_goto (tgt := 3) hx hb dX10_put_43 (by decide) ?_
  refine lv_iload_n hx hb dX10_put_3 rfl (lv_at hl 0 rfl) ?_
  refine lv_if_lt (tgt := 46) hx hb dX10_put_4 (by decide) (fun c21 => ?_) (fun c21 => absurd c21 (by decide))
  have hP9 := hP.sub (ws' := [(h0, .inr (10, [.ref a0, .int 8, .int 0, .int (-1), .int 0, .int 0, .int 0, .int 0])), (a0, .inl (cB, 1600, .inl f20))]) [0, 1] rfl
  have hD9 := hD.sub (ws' := [(h0, .inr (10, [.ref a0, .int 8, .int 0, .int (-1), .int 0, .int 0, .int 0, .int 0])), (a0, .inl (cB, 1600, .inl f20))]) [0, 1] (by decide) rfl
  exact W.vret hx hb hr (fun t ht hW => ⟨⟨f20, rfl, trivial, (by rw [ht]; exact hP9), hD9⟩, hS.F ht⟩) hS.2.2 dX10_put_46
set_option maxHeartbeats 4000000 in
set_option maxRecDepth 100000 in
theorem c_X10_put_8 (l : Launch) (dC : Nat → ClassId) (dI : Nat → Nat → Nat) (cI cZ cB cJ cM : ClassId) (h0 a0 : Nat) (f0 : Nat → Int32) (p0 : Int32) (sz : Nat) : Met l yX10_put (kw yX10_put cX10_put 3 none) ({ frames := 0, cells := 0, slots := 0, locals := 0 }) (va_Pc [.ref h0, .int p0] (kPre dC dI [(cI, .int), (cZ, .boolean), (cB, .byte), (cJ, .long), (cM, .object RX2)] [(h0, .inr (10, [.ref a0, .int 8, .int 0, .int (-1), .int 0, .int 0, .int 0, .int 0])), (a0, .inl (cB, 1600, .inl f0))] sz)) (va_Qv (fun _ : (Nat → Int32) => True) (fun u t => va_P (dC, dI) vwCl [(h0, .inr (10, [.ref a0, .int 12, .int 0, .int (-1), .int 0, .int 0, .int 0, .int 0])), (a0, .inl (cB, 1600, .inl u))] t.heap ∧ va_D (va_A [(h0, .inr (10, [.ref a0, .int 8, .int 0, .int (-1), .int 0, .int 0, .int 0, .int 0])), (a0, .inl (cB, 1600, .inl f0))] sz) [(h0, .inr (10, [.ref a0, .int 12, .int 0, .int (-1), .int 0, .int 0, .int 0, .int 0])), (a0, .inl (cB, 1600, .inl u))]) (va_A [(h0, .inr (10, [.ref a0, .int 8, .int 0, .int (-1), .int 0, .int 0, .int 0, .int 0])), (a0, .inl (cB, 1600, .inl f0))] sz)) 0 0 (va_A [(h0, .inr (10, [.ref a0, .int 8, .int 0, .int (-1), .int 0, .int 0, .int 0, .int 0])), (a0, .inl (cB, 1600, .inl f0))] sz) := by
  refine kEnter (by decide) (Nat.le_of_ble_eq_true rfl) ?_
  intro p e s m below meth c ls hx hb hr hml hown hlocks hin hwd hsz hP hK hD hl
  subst hsz
  generalize hAe : va_A [(h0, .inr (10, [.ref a0, .int 8, .int 0, .int (-1), .int 0, .int 0, .int 0, .int 0])), (a0, .inl (cB, 1600, .inl f0))] s.heap.size = A at hD ⊢
  have hA : ∀ q : Nat, s.heap.size ≤ q → A q := fun q h => by rw [← hAe]; exact Or.inr h
  have hS : va_S A s.heap s.heap [] := va_S.rf
  have hl : lv_has ls 3 [(0, .ref h0), (1, .int p0)] := hl
  refine lv_bipush (v := 24) hx hb dX10_put_0 (by decide) ?_
  refine lv_istore_n (lv' := [(2, .int 24), (0, .ref h0), (1, .int p0)]) hx hb dX10_put_2 rfl hl (by decide) rfl (fun ls hl => ?_)
  refine lv_iload_n hx hb dX10_put_3 rfl (lv_at hl 0 rfl) ?_
  refine lv_if_lt (tgt := 46) hx hb dX10_put_4 (by decide) (fun c1 => absurd c1 (by decide)) (fun c1 => ?_)
  refine lv_aload_n hx hb dX10_put_7 rfl (lv_at hl 1 rfl) ?_
  refine va_get (D := (dC, dI)) (ci := 10) (v := .int 8) (C := RX10) (T := TX10) (N := 8) hx hb hwd inlX10 hown hK hP 0 rfl rfl 1 (by decide) (hwd _ kr8_16) (fun _ h9 => h9) rfl dX10_put_8 ?_
  refine lv_sipush (v := 1600) hx hb dX10_put_11 (by decide) ?_
  refine lv_icmp_ge (tgt := 40) hx hb dX10_put_14 (by decide) (fun c2 => absurd c2 (by decide)) (fun c2 => ?_)
  refine lv_aload_n hx hb dX10_put_17 rfl (lv_at hl 1 rfl) ?_
  refine va_get (D := (dC, dI)) (ci := 10) (v := .ref a0) (C := RX10) (T := TX10) (N := 8) hx hb hwd inlX10 hown hK hP 0 rfl rfl 0 (by decide) (hwd _ kr3_1) (fun _ h9 => h9) rfl dX10_put_18 ?_
  refine lv_aload_n hx hb dX10_put_21 rfl (lv_at hl 1 rfl) ?_
  refine va_get (D := (dC, dI)) (ci := 10) (v := .int 8) (C := RX10) (T := TX10) (N := 8) hx hb hwd inlX10 hown hK hP 0 rfl rfl 1 (by decide) (hwd _ kr8_16) (fun _ h9 => h9) rfl dX10_put_22 ?_
  refine lv_iload_n hx hb dX10_put_25 rfl (lv_at hl 2 rfl) ?_
  refine lv_iload_n hx hb dX10_put_26 rfl (lv_at hl 0 rfl) ?_
  refine lv_iushr hx hb dX10_put_27 rfl ?_
  refine lv_topi (fun x3 ex3 => ?_)
  refine lv_i2b hx hb dX10_put_28 rfl ?_
  refine lv_topi (fun x4 ex4 => ?_)
  refine va_bast hx hb hK hP hD hS 1 2 rfl rfl (vin (by decide)) dX10_put_29 (fun H locs hP hD hS => ?_)
  obtain ⟨f5, ef5⟩ : ∃ f, f = upd f0 (8 : Int32).toNatClampNeg (vp_nar .byte x4) := ⟨_, rfl⟩
  have hP : va_P (dC, dI) vwCl [(h0, .inr (10, [.ref a0, .int 8, .int 0, .int (-1), .int 0, .int 0, .int 0, .int 0])), (a0, .inl (cB, 1600, .inl f5))] H := by rw [ef5]; exact hP
  have hD : va_D A [(h0, .inr (10, [.ref a0, .int 8, .int 0, .int (-1), .int 0, .int 0, .int 0, .int 0])), (a0, .inl (cB, 1600, .inl f5))] := by rw [ef5]; exact hD
  refine lv_aload_n hx hb dX10_put_30 rfl (lv_at hl 1 rfl) ?_
  refine lv_dup hx hb dX10_put_31 rfl ?_
  refine va_get (D := (dC, dI)) (ci := 10) (v := .int 8) (C := RX10) (T := TX10) (N := 8) hx hb hwd inlX10 hown hK hP 0 rfl rfl 1 (by decide) (hwd _ kr8_16) (fun _ h9 => h9) rfl dX10_put_32 ?_
  refine lv_iconst (v := 1) hx hb dX10_put_35 (by decide) ?_
  refine lv_iadd hx hb dX10_put_36 ?_
  refine lv_topi (nm_r (e' := (9)) (by decide +kernel) ?_)
  refine va_put (D := (dC, dI)) (ci := 10) (v := .int 9) (ty := .int) (C := RX10) (T := TX10) (N := 8) hx hb hwd inlX10 tyX10 tyX10_ok nmX10 hown hK hP hD hS 0 rfl rfl 1 (by decide) (hwd _ kr8_16) (fun _ h9 => h9) rfl (by decide +kernel) rfl rfl (Nat.le_of_ble_eq_true rfl) dX10_put_37 (fun H locs hP hD hS => ?_)
  have hP : va_P (dC, dI) vwCl [(h0, .inr (10, [.ref a0, .int 9, .int 0, .int (-1), .int 0, .int 0, .int 0, .int 0])), (a0, .inl (cB, 1600, .inl f5))] H := hP
  have hD : va_D A [(h0, .inr (10, [.ref a0, .int 9, .int 0, .int (-1), .int 0, .int 0, .int 0, .int 0])), (a0, .inl (cB, 1600, .inl f5))] := hD
  refine lv_iinc (v := 16) (lv' := [(2, .int 16), (0, .ref h0), (1, .int p0)]) hx hb dX10_put_40 hl (k := 0) rfl (by decide) (by decide) rfl (fun ls hl => ?_)
  refine lv_goto (tgt := 3) hx hb dX10_put_43 (by decide) ?_
  refine lv_iload_n hx hb dX10_put_3 rfl (lv_at hl 0 rfl) ?_
  refine lv_if_lt (tgt := 46) hx hb dX10_put_4 (by decide) (fun c6 => absurd c6 (by decide)) (fun c6 => ?_)
  refine lv_aload_n hx hb dX10_put_7 rfl (lv_at hl 1 rfl) ?_
  refine va_get (D := (dC, dI)) (ci := 10) (v := .int 9) (C := RX10) (T := TX10) (N := 8) hx hb hwd inlX10 hown hK hP 0 rfl rfl 1 (by decide) (hwd _ kr8_16) (fun _ h9 => h9) rfl dX10_put_8 ?_
  refine lv_sipush (v := 1600) hx hb dX10_put_11 (by decide) ?_
  refine lv_icmp_ge (tgt := 40) hx hb dX10_put_14 (by decide) (fun c7 => absurd c7 (by decide)) (fun c7 => ?_)
  refine lv_aload_n hx hb dX10_put_17 rfl (lv_at hl 1 rfl) ?_
  refine va_get (D := (dC, dI)) (ci := 10) (v := .ref a0) (C := RX10) (T := TX10) (N := 8) hx hb hwd inlX10 hown hK hP 0 rfl rfl 0 (by decide) (hwd _ kr3_1) (fun _ h9 => h9) rfl dX10_put_18 ?_
  refine lv_aload_n hx hb dX10_put_21 rfl (lv_at hl 1 rfl) ?_
  refine va_get (D := (dC, dI)) (ci := 10) (v := .int 9) (C := RX10) (T := TX10) (N := 8) hx hb hwd inlX10 hown hK hP 0 rfl rfl 1 (by decide) (hwd _ kr8_16) (fun _ h9 => h9) rfl dX10_put_22 ?_
  refine lv_iload_n hx hb dX10_put_25 rfl (lv_at hl 2 rfl) ?_
  refine lv_iload_n hx hb dX10_put_26 rfl (lv_at hl 0 rfl) ?_
  refine lv_iushr hx hb dX10_put_27 rfl ?_
  refine lv_topi (fun x8 ex8 => ?_)
  refine lv_i2b hx hb dX10_put_28 rfl ?_
  refine lv_topi (fun x9 ex9 => ?_)
  refine va_bast hx hb hK hP hD hS 1 2 rfl rfl (vin (by decide)) dX10_put_29 (fun H locs hP hD hS => ?_)
  obtain ⟨f10, ef10⟩ : ∃ f, f = upd f5 (9 : Int32).toNatClampNeg (vp_nar .byte x9) := ⟨_, rfl⟩
  have hP : va_P (dC, dI) vwCl [(h0, .inr (10, [.ref a0, .int 9, .int 0, .int (-1), .int 0, .int 0, .int 0, .int 0])), (a0, .inl (cB, 1600, .inl f10))] H := by rw [ef10]; exact hP
  have hD : va_D A [(h0, .inr (10, [.ref a0, .int 9, .int 0, .int (-1), .int 0, .int 0, .int 0, .int 0])), (a0, .inl (cB, 1600, .inl f10))] := by rw [ef10]; exact hD
  refine lv_aload_n hx hb dX10_put_30 rfl (lv_at hl 1 rfl) ?_
  refine lv_dup hx hb dX10_put_31 rfl ?_
  refine va_get (D := (dC, dI)) (ci := 10) (v := .int 9) (C := RX10) (T := TX10) (N := 8) hx hb hwd inlX10 hown hK hP 0 rfl rfl 1 (by decide) (hwd _ kr8_16) (fun _ h9 => h9) rfl dX10_put_32 ?_
  refine lv_iconst (v := 1) hx hb dX10_put_35 (by decide) ?_
  refine lv_iadd hx hb dX10_put_36 ?_
  refine lv_topi (nm_r (e' := (10)) (by decide +kernel) ?_)
  refine va_put (D := (dC, dI)) (ci := 10) (v := .int 10) (ty := .int) (C := RX10) (T := TX10) (N := 8) hx hb hwd inlX10 tyX10 tyX10_ok nmX10 hown hK hP hD hS 0 rfl rfl 1 (by decide) (hwd _ kr8_16) (fun _ h9 => h9) rfl (by decide +kernel) rfl rfl (Nat.le_of_ble_eq_true rfl) dX10_put_37 (fun H locs hP hD hS => ?_)
  have hP : va_P (dC, dI) vwCl [(h0, .inr (10, [.ref a0, .int 10, .int 0, .int (-1), .int 0, .int 0, .int 0, .int 0])), (a0, .inl (cB, 1600, .inl f10))] H := hP
  have hD : va_D A [(h0, .inr (10, [.ref a0, .int 10, .int 0, .int (-1), .int 0, .int 0, .int 0, .int 0])), (a0, .inl (cB, 1600, .inl f10))] := hD
  refine lv_iinc (v := 8) (lv' := [(2, .int 8), (0, .ref h0), (1, .int p0)]) hx hb dX10_put_40 hl (k := 0) rfl (by decide) (by decide) rfl (fun ls hl => ?_)
  refine lv_goto (tgt := 3) hx hb dX10_put_43 (by decide) ?_
  refine lv_iload_n hx hb dX10_put_3 rfl (lv_at hl 0 rfl) ?_
  refine lv_if_lt (tgt := 46) hx hb dX10_put_4 (by decide) (fun c11 => absurd c11 (by decide)) (fun c11 => ?_)
  refine lv_aload_n hx hb dX10_put_7 rfl (lv_at hl 1 rfl) ?_
  refine va_get (D := (dC, dI)) (ci := 10) (v := .int 10) (C := RX10) (T := TX10) (N := 8) hx hb hwd inlX10 hown hK hP 0 rfl rfl 1 (by decide) (hwd _ kr8_16) (fun _ h9 => h9) rfl dX10_put_8 ?_
  refine lv_sipush (v := 1600) hx hb dX10_put_11 (by decide) ?_
  refine lv_icmp_ge (tgt := 40) hx hb dX10_put_14 (by decide) (fun c12 => absurd c12 (by decide)) (fun c12 => ?_)
  refine lv_aload_n hx hb dX10_put_17 rfl (lv_at hl 1 rfl) ?_
  refine va_get (D := (dC, dI)) (ci := 10) (v := .ref a0) (C := RX10) (T := TX10) (N := 8) hx hb hwd inlX10 hown hK hP 0 rfl rfl 0 (by decide) (hwd _ kr3_1) (fun _ h9 => h9) rfl dX10_put_18 ?_
  refine lv_aload_n hx hb dX10_put_21 rfl (lv_at hl 1 rfl) ?_
  refine va_get (D := (dC, dI)) (ci := 10) (v := .int 10) (C := RX10) (T := TX10) (N := 8) hx hb hwd inlX10 hown hK hP 0 rfl rfl 1 (by decide) (hwd _ kr8_16) (fun _ h9 => h9) rfl dX10_put_22 ?_
  refine lv_iload_n hx hb dX10_put_25 rfl (lv_at hl 2 rfl) ?_
  refine lv_iload_n hx hb dX10_put_26 rfl (lv_at hl 0 rfl) ?_
  refine lv_iushr hx hb dX10_put_27 rfl ?_
  refine lv_topi (fun x13 ex13 => ?_)
  refine lv_i2b hx hb dX10_put_28 rfl ?_
  refine lv_topi (fun x14 ex14 => ?_)
  refine va_bast hx hb hK hP hD hS 1 2 rfl rfl (vin (by decide)) dX10_put_29 (fun H locs hP hD hS => ?_)
  obtain ⟨f15, ef15⟩ : ∃ f, f = upd f10 (10 : Int32).toNatClampNeg (vp_nar .byte x14) := ⟨_, rfl⟩
  have hP : va_P (dC, dI) vwCl [(h0, .inr (10, [.ref a0, .int 10, .int 0, .int (-1), .int 0, .int 0, .int 0, .int 0])), (a0, .inl (cB, 1600, .inl f15))] H := by rw [ef15]; exact hP
  have hD : va_D A [(h0, .inr (10, [.ref a0, .int 10, .int 0, .int (-1), .int 0, .int 0, .int 0, .int 0])), (a0, .inl (cB, 1600, .inl f15))] := by rw [ef15]; exact hD
  refine lv_aload_n hx hb dX10_put_30 rfl (lv_at hl 1 rfl) ?_
  refine lv_dup hx hb dX10_put_31 rfl ?_
  refine va_get (D := (dC, dI)) (ci := 10) (v := .int 10) (C := RX10) (T := TX10) (N := 8) hx hb hwd inlX10 hown hK hP 0 rfl rfl 1 (by decide) (hwd _ kr8_16) (fun _ h9 => h9) rfl dX10_put_32 ?_
  refine lv_iconst (v := 1) hx hb dX10_put_35 (by decide) ?_
  refine lv_iadd hx hb dX10_put_36 ?_
  refine lv_topi (nm_r (e' := (11)) (by decide +kernel) ?_)
  refine va_put (D := (dC, dI)) (ci := 10) (v := .int 11) (ty := .int) (C := RX10) (T := TX10) (N := 8) hx hb hwd inlX10 tyX10 tyX10_ok nmX10 hown hK hP hD hS 0 rfl rfl 1 (by decide) (hwd _ kr8_16) (fun _ h9 => h9) rfl (by decide +kernel) rfl rfl (Nat.le_of_ble_eq_true rfl) dX10_put_37 (fun H locs hP hD hS => ?_)
  have hP : va_P (dC, dI) vwCl [(h0, .inr (10, [.ref a0, .int 11, .int 0, .int (-1), .int 0, .int 0, .int 0, .int 0])), (a0, .inl (cB, 1600, .inl f15))] H := hP
  have hD : va_D A [(h0, .inr (10, [.ref a0, .int 11, .int 0, .int (-1), .int 0, .int 0, .int 0, .int 0])), (a0, .inl (cB, 1600, .inl f15))] := hD
  refine lv_iinc (v := 0) (lv' := [(2, .int 0), (0, .ref h0), (1, .int p0)]) hx hb dX10_put_40 hl (k := 0) rfl (by decide) (by decide) rfl (fun ls hl => ?_)
  refine lv_goto (tgt := 3) hx hb dX10_put_43 (by decide) ?_
  refine lv_iload_n hx hb dX10_put_3 rfl (lv_at hl 0 rfl) ?_
  refine lv_if_lt (tgt := 46) hx hb dX10_put_4 (by decide) (fun c16 => absurd c16 (by decide)) (fun c16 => ?_)
  refine lv_aload_n hx hb dX10_put_7 rfl (lv_at hl 1 rfl) ?_
  refine va_get (D := (dC, dI)) (ci := 10) (v := .int 11) (C := RX10) (T := TX10) (N := 8) hx hb hwd inlX10 hown hK hP 0 rfl rfl 1 (by decide) (hwd _ kr8_16) (fun _ h9 => h9) rfl dX10_put_8 ?_
  refine lv_sipush (v := 1600) hx hb dX10_put_11 (by decide) ?_
  refine lv_icmp_ge (tgt := 40) hx hb dX10_put_14 (by decide) (fun c17 => absurd c17 (by decide)) (fun c17 => ?_)
  refine lv_aload_n hx hb dX10_put_17 rfl (lv_at hl 1 rfl) ?_
  refine va_get (D := (dC, dI)) (ci := 10) (v := .ref a0) (C := RX10) (T := TX10) (N := 8) hx hb hwd inlX10 hown hK hP 0 rfl rfl 0 (by decide) (hwd _ kr3_1) (fun _ h9 => h9) rfl dX10_put_18 ?_
  refine lv_aload_n hx hb dX10_put_21 rfl (lv_at hl 1 rfl) ?_
  refine va_get (D := (dC, dI)) (ci := 10) (v := .int 11) (C := RX10) (T := TX10) (N := 8) hx hb hwd inlX10 hown hK hP 0 rfl rfl 1 (by decide) (hwd _ kr8_16) (fun _ h9 => h9) rfl dX10_put_22 ?_
  refine lv_iload_n hx hb dX10_put_25 rfl (lv_at hl 2 rfl) ?_
  refine lv_iload_n hx hb dX10_put_26 rfl (lv_at hl 0 rfl) ?_
  refine lv_iushr hx hb dX10_put_27 rfl ?_
  refine lv_topi (fun x18 ex18 => ?_)
  refine lv_i2b hx hb dX10_put_28 rfl ?_
  refine lv_topi (fun x19 ex19 => ?_)
  refine va_bast hx hb hK hP hD hS 1 2 rfl rfl (vin (by decide)) dX10_put_29 (fun H locs hP hD hS => ?_)
  obtain ⟨f20, ef20⟩ : ∃ f, f = upd f15 (11 : Int32).toNatClampNeg (vp_nar .byte x19) := ⟨_, rfl⟩
  have hP : va_P (dC, dI) vwCl [(h0, .inr (10, [.ref a0, .int 11, .int 0, .int (-1), .int 0, .int 0, .int 0, .int 0])), (a0, .inl (cB, 1600, .inl f20))] H := by rw [ef20]; exact hP
  have hD : va_D A [(h0, .inr (10, [.ref a0, .int 11, .int 0, .int (-1), .int 0, .int 0, .int 0, .int 0])), (a0, .inl (cB, 1600, .inl f20))] := by rw [ef20]; exact hD
  refine lv_aload_n hx hb dX10_put_30 rfl (lv_at hl 1 rfl) ?_
  refine lv_dup hx hb dX10_put_31 rfl ?_
  refine va_get (D := (dC, dI)) (ci := 10) (v := .int 11) (C := RX10) (T := TX10) (N := 8) hx hb hwd inlX10 hown hK hP 0 rfl rfl 1 (by decide) (hwd _ kr8_16) (fun _ h9 => h9) rfl dX10_put_32 ?_
  refine lv_iconst (v := 1) hx hb dX10_put_35 (by decide) ?_
  refine lv_iadd hx hb dX10_put_36 ?_
  refine lv_topi (nm_r (e' := (12)) (by decide +kernel) ?_)
  refine va_put (D := (dC, dI)) (ci := 10) (v := .int 12) (ty := .int) (C := RX10) (T := TX10) (N := 8) hx hb hwd inlX10 tyX10 tyX10_ok nmX10 hown hK hP hD hS 0 rfl rfl 1 (by decide) (hwd _ kr8_16) (fun _ h9 => h9) rfl (by decide +kernel) rfl rfl (Nat.le_of_ble_eq_true rfl) dX10_put_37 (fun H locs hP hD hS => ?_)
  have hP : va_P (dC, dI) vwCl [(h0, .inr (10, [.ref a0, .int 12, .int 0, .int (-1), .int 0, .int 0, .int 0, .int 0])), (a0, .inl (cB, 1600, .inl f20))] H := hP
  have hD : va_D A [(h0, .inr (10, [.ref a0, .int 12, .int 0, .int (-1), .int 0, .int 0, .int 0, .int 0])), (a0, .inl (cB, 1600, .inl f20))] := hD
  refine lv_iinc (v := (-8)) (lv' := [(2, .int (-8)), (0, .ref h0), (1, .int p0)]) hx hb dX10_put_40 hl (k := 0) rfl (by decide) (by decide) rfl (fun ls hl => ?_)
  refine lv_goto (tgt := 3) hx hb dX10_put_43 (by decide) ?_
  refine lv_iload_n hx hb dX10_put_3 rfl (lv_at hl 0 rfl) ?_
  refine lv_if_lt (tgt := 46) hx hb dX10_put_4 (by decide) (fun c21 => ?_) (fun c21 => absurd c21 (by decide))
  have hP9 := hP.sub (ws' := [(h0, .inr (10, [.ref a0, .int 12, .int 0, .int (-1), .int 0, .int 0, .int 0, .int 0])), (a0, .inl (cB, 1600, .inl f20))]) [0, 1] rfl
  have hD9 := hD.sub (ws' := [(h0, .inr (10, [.ref a0, .int 12, .int 0, .int (-1), .int 0, .int 0, .int 0, .int 0])), (a0, .inl (cB, 1600, .inl f20))]) [0, 1] (by decide) rfl
  exact W.vret hx hb hr (fun t ht hW => ⟨⟨f20, rfl, trivial, (by rw [ht]; exact hP9), hD9⟩, hS.F ht⟩) hS.2.2 dX10_put_46
set_option maxHeartbeats 4000000 in
set_option maxRecDepth 100000 in
theorem c_X10_put_12 (l : Launch) (dC : Nat → ClassId) (dI : Nat → Nat → Nat) (cI cZ cB cJ cM : ClassId) (h0 a0 : Nat) (f0 : Nat → Int32) (p0 : Int32) (sz : Nat) : Met l yX10_put (kw yX10_put cX10_put 3 none) ({ frames := 0, cells := 0, slots := 0, locals := 0 }) (va_Pc [.ref h0, .int p0] (kPre dC dI [(cI, .int), (cZ, .boolean), (cB, .byte), (cJ, .long), (cM, .object RX2)] [(h0, .inr (10, [.ref a0, .int 12, .int 0, .int (-1), .int 0, .int 0, .int 0, .int 0])), (a0, .inl (cB, 1600, .inl f0))] sz)) (va_Qv (fun _ : (Nat → Int32) => True) (fun u t => va_P (dC, dI) vwCl [(h0, .inr (10, [.ref a0, .int 16, .int 0, .int (-1), .int 0, .int 0, .int 0, .int 0])), (a0, .inl (cB, 1600, .inl u))] t.heap ∧ va_D (va_A [(h0, .inr (10, [.ref a0, .int 12, .int 0, .int (-1), .int 0, .int 0, .int 0, .int 0])), (a0, .inl (cB, 1600, .inl f0))] sz) [(h0, .inr (10, [.ref a0, .int 16, .int 0, .int (-1), .int 0, .int 0, .int 0, .int 0])), (a0, .inl (cB, 1600, .inl u))]) (va_A [(h0, .inr (10, [.ref a0, .int 12, .int 0, .int (-1), .int 0, .int 0, .int 0, .int 0])), (a0, .inl (cB, 1600, .inl f0))] sz)) 0 0 (va_A [(h0, .inr (10, [.ref a0, .int 12, .int 0, .int (-1), .int 0, .int 0, .int 0, .int 0])), (a0, .inl (cB, 1600, .inl f0))] sz) := by
  refine kEnter (by decide) (Nat.le_of_ble_eq_true rfl) ?_
  intro p e s m below meth c ls hx hb hr hml hown hlocks hin hwd hsz hP hK hD hl
  subst hsz
  generalize hAe : va_A [(h0, .inr (10, [.ref a0, .int 12, .int 0, .int (-1), .int 0, .int 0, .int 0, .int 0])), (a0, .inl (cB, 1600, .inl f0))] s.heap.size = A at hD ⊢
  have hA : ∀ q : Nat, s.heap.size ≤ q → A q := fun q h => by rw [← hAe]; exact Or.inr h
  have hS : va_S A s.heap s.heap [] := va_S.rf
  have hl : lv_has ls 3 [(0, .ref h0), (1, .int p0)] := hl
  refine lv_bipush (v := 24) hx hb dX10_put_0 (by decide) ?_
  refine lv_istore_n (lv' := [(2, .int 24), (0, .ref h0), (1, .int p0)]) hx hb dX10_put_2 rfl hl (by decide) rfl (fun ls hl => ?_)
  refine lv_iload_n hx hb dX10_put_3 rfl (lv_at hl 0 rfl) ?_
  refine lv_if_lt (tgt := 46) hx hb dX10_put_4 (by decide) (fun c1 => absurd c1 (by decide)) (fun c1 => ?_)
  refine lv_aload_n hx hb dX10_put_7 rfl (lv_at hl 1 rfl) ?_
  refine va_get (D := (dC, dI)) (ci := 10) (v := .int 12) (C := RX10) (T := TX10) (N := 8) hx hb hwd inlX10 hown hK hP 0 rfl rfl 1 (by decide) (hwd _ kr8_16) (fun _ h9 => h9) rfl dX10_put_8 ?_
  refine lv_sipush (v := 1600) hx hb dX10_put_11 (by decide) ?_
  refine lv_icmp_ge (tgt := 40) hx hb dX10_put_14 (by decide) (fun c2 => absurd c2 (by decide)) (fun c2 => ?_)
  refine lv_aload_n hx hb dX10_put_17 rfl (lv_at hl 1 rfl) ?_
  refine va_get (D := (dC, dI)) (ci := 10) (v := .ref a0) (C := RX10) (T := TX10) (N := 8) hx hb hwd inlX10 hown hK hP 0 rfl rfl 0 (by decide) (hwd _ kr3_1) (fun _ h9 => h9) rfl dX10_put_18 ?_
  refine lv_aload_n hx hb dX10_put_21 rfl (lv_at hl 1 rfl) ?_
  refine va_get (D := (dC, dI)) (ci := 10) (v := .int 12) (C := RX10) (T := TX10) (N := 8) hx hb hwd inlX10 hown hK hP 0 rfl rfl 1 (by decide) (hwd _ kr8_16) (fun _ h9 => h9) rfl dX10_put_22 ?_
  refine lv_iload_n hx hb dX10_put_25 rfl (lv_at hl 2 rfl) ?_
  refine lv_iload_n hx hb dX10_put_26 rfl (lv_at hl 0 rfl) ?_
  refine lv_iushr hx hb dX10_put_27 rfl ?_
  refine lv_topi (fun x3 ex3 => ?_)
  refine lv_i2b hx hb dX10_put_28 rfl ?_
  refine lv_topi (fun x4 ex4 => ?_)
  refine va_bast hx hb hK hP hD hS 1 2 rfl rfl (vin (by decide)) dX10_put_29 (fun H locs hP hD hS => ?_)
  obtain ⟨f5, ef5⟩ : ∃ f, f = upd f0 (12 : Int32).toNatClampNeg (vp_nar .byte x4) := ⟨_, rfl⟩
  have hP : va_P (dC, dI) vwCl [(h0, .inr (10, [.ref a0, .int 12, .int 0, .int (-1), .int 0, .int 0, .int 0, .int 0])), (a0, .inl (cB, 1600, .inl f5))] H := by rw [ef5]; exact hP
  have hD : va_D A [(h0, .inr (10, [.ref a0, .int 12, .int 0, .int (-1), .int 0, .int 0, .int 0, .int 0])), (a0, .inl (cB, 1600, .inl f5))] := by rw [ef5]; exact hD
  refine lv_aload_n hx hb dX10_put_30 rfl (lv_at hl 1 rfl) ?_
  refine lv_dup hx hb dX10_put_31 rfl ?_
  refine va_get (D := (dC, dI)) (ci := 10) (v := .int 12) (C := RX10) (T := TX10) (N := 8) hx hb hwd inlX10 hown hK hP 0 rfl rfl 1 (by decide) (hwd _ kr8_16) (fun _ h9 => h9) rfl dX10_put_32 ?_
  refine lv_iconst (v := 1) hx hb dX10_put_35 (by decide) ?_
  refine lv_iadd hx hb dX10_put_36 ?_
  refine lv_topi (nm_r (e' := (13)) (by decide +kernel) ?_)
  refine va_put (D := (dC, dI)) (ci := 10) (v := .int 13) (ty := .int) (C := RX10) (T := TX10) (N := 8) hx hb hwd inlX10 tyX10 tyX10_ok nmX10 hown hK hP hD hS 0 rfl rfl 1 (by decide) (hwd _ kr8_16) (fun _ h9 => h9) rfl (by decide +kernel) rfl rfl (Nat.le_of_ble_eq_true rfl) dX10_put_37 (fun H locs hP hD hS => ?_)
  have hP : va_P (dC, dI) vwCl [(h0, .inr (10, [.ref a0, .int 13, .int 0, .int (-1), .int 0, .int 0, .int 0, .int 0])), (a0, .inl (cB, 1600, .inl f5))] H := hP
  have hD : va_D A [(h0, .inr (10, [.ref a0, .int 13, .int 0, .int (-1), .int 0, .int 0, .int 0, .int 0])), (a0, .inl (cB, 1600, .inl f5))] := hD
  refine lv_iinc (v := 16) (lv' := [(2, .int 16), (0, .ref h0), (1, .int p0)]) hx hb dX10_put_40 hl (k := 0) rfl (by decide) (by decide) rfl (fun ls hl => ?_)
  refine lv_goto (tgt := 3) hx hb dX10_put_43 (by decide) ?_
  refine lv_iload_n hx hb dX10_put_3 rfl (lv_at hl 0 rfl) ?_
  refine lv_if_lt (tgt := 46) hx hb dX10_put_4 (by decide) (fun c6 => absurd c6 (by decide)) (fun c6 => ?_)
  refine lv_aload_n hx hb dX10_put_7 rfl (lv_at hl 1 rfl) ?_
  refine va_get (D := (dC, dI)) (ci := 10) (v := .int 13) (C := RX10) (T := TX10) (N := 8) hx hb hwd inlX10 hown hK hP 0 rfl rfl 1 (by decide) (hwd _ kr8_16) (fun _ h9 => h9) rfl dX10_put_8 ?_
  refine lv_sipush (v := 1600) hx hb dX10_put_11 (by decide) ?_
  refine lv_icmp_ge (tgt := 40) hx hb dX10_put_14 (by decide) (fun c7 => absurd c7 (by decide)) (fun c7 => ?_)
  refine lv_aload_n hx hb dX10_put_17 rfl (lv_at hl 1 rfl) ?_
  refine va_get (D := (dC, dI)) (ci := 10) (v := .ref a0) (C := RX10) (T := TX10) (N := 8) hx hb hwd inlX10 hown hK hP 0 rfl rfl 0 (by decide) (hwd _ kr3_1) (fun _ h9 => h9) rfl dX10_put_18 ?_
  refine lv_aload_n hx hb dX10_put_21 rfl (lv_at hl 1 rfl) ?_
  refine va_get (D := (dC, dI)) (ci := 10) (v := .int 13) (C := RX10) (T := TX10) (N := 8) hx hb hwd inlX10 hown hK hP 0 rfl rfl 1 (by decide) (hwd _ kr8_16) (fun _ h9 => h9) rfl dX10_put_22 ?_
  refine lv_iload_n hx hb dX10_put_25 rfl (lv_at hl 2 rfl) ?_
  refine lv_iload_n hx hb dX10_put_26 rfl (lv_at hl 0 rfl) ?_
  refine lv_iushr hx hb dX10_put_27 rfl ?_
  refine lv_topi (fun x8 ex8 => ?_)
  refine lv_i2b hx hb dX10_put_28 rfl ?_
  refine lv_topi (fun x9 ex9 => ?_)
  refine va_bast hx hb hK hP hD hS 1 2 rfl rfl (vin (by decide)) dX10_put_29 (fun H locs hP hD hS => ?_)
  obtain ⟨f10, ef10⟩ : ∃ f, f = upd f5 (13 : Int32).toNatClampNeg (vp_nar .byte x9) := ⟨_, rfl⟩
  have hP : va_P (dC, dI) vwCl [(h0, .inr (10, [.ref a0, .int 13, .int 0, .int (-1), .int 0, .int 0, .int 0, .int 0])), (a0, .inl (cB, 1600, .inl f10))] H := by rw [ef10]; exact hP
  have hD : va_D A [(h0, .inr (10, [.ref a0, .int 13, .int 0, .int (-1), .int 0, .int 0, .int 0, .int 0])), (a0, .inl (cB, 1600, .inl f10))] := by rw [ef10]; exact hD
  refine lv_aload_n hx hb dX10_put_30 rfl (lv_at hl 1 rfl) ?_
  refine lv_dup hx hb dX10_put_31 rfl ?_
  refine va_get (D := (dC, dI)) (ci := 10) (v := .int 13) (C := RX10) (T := TX10) (N := 8) hx hb hwd inlX10 hown hK hP 0 rfl rfl 1 (by decide) (hwd _ kr8_16) (fun _ h9 => h9) rfl dX10_put_32 ?_
  refine lv_iconst (v := 1) hx hb dX10_put_35 (by decide) ?_
  refine lv_iadd hx hb dX10_put_36 ?_
  refine lv_topi (nm_r (e' := (14)) (by decide +kernel) ?_)
  refine va_put (D := (dC, dI)) (ci := 10) (v := .int 14) (ty := .int) (C := RX10) (T := TX10) (N := 8) hx hb hwd inlX10 tyX10 tyX10_ok nmX10 hown hK hP hD hS 0 rfl rfl 1 (by decide) (hwd _ kr8_16) (fun _ h9 => h9) rfl (by decide +kernel) rfl rfl (Nat.le_of_ble_eq_true rfl) dX10_put_37 (fun H locs hP hD hS => ?_)
  have hP : va_P (dC, dI) vwCl [(h0, .inr (10, [.ref a0, .int 14, .int 0, .int (-1), .int 0, .int 0, .int 0, .int 0])), (a0, .inl (cB, 1600, .inl f10))] H := hP
  have hD : va_D A [(h0, .inr (10, [.ref a0, .int 14, .int 0, .int (-1), .int 0, .int 0, .int 0, .int 0])), (a0, .inl (cB, 1600, .inl f10))] := hD
  refine lv_iinc (v := 8) (lv' := [(2, .int 8), (0, .ref h0), (1, .int p0)]) hx hb dX10_put_40 hl (k := 0) rfl (by decide) (by decide) rfl (fun ls hl => ?_)
  refine lv_goto (tgt := 3) hx hb dX10_put_43 (by decide) ?_
  refine lv_iload_n hx hb dX10_put_3 rfl (lv_at hl 0 rfl) ?_
  refine lv_if_lt (tgt := 46) hx hb dX10_put_4 (by decide) (fun c11 => absurd c11 (by decide)) (fun c11 => ?_)
  refine lv_aload_n hx hb dX10_put_7 rfl (lv_at hl 1 rfl) ?_
  refine va_get (D := (dC, dI)) (ci := 10) (v := .int 14) (C := RX10) (T := TX10) (N := 8) hx hb hwd inlX10 hown hK hP 0 rfl rfl 1 (by decide) (hwd _ kr8_16) (fun _ h9 => h9) rfl dX10_put_8 ?_
  refine lv_sipush (v := 1600) hx hb dX10_put_11 (by decide) ?_
  refine lv_icmp_ge (tgt := 40) hx hb dX10_put_14 (by decide) (fun c12 => absurd c12 (by decide)) (fun c12 => ?_)
  refine lv_aload_n hx hb dX10_put_17 rfl (lv_at hl 1 rfl) ?_
  refine va_get (D := (dC, dI)) (ci := 10) (v := .ref a0) (C := RX10) (T := TX10) (N := 8) hx hb hwd inlX10 hown hK hP 0 rfl rfl 0 (by decide) (hwd _ kr3_1) (fun _ h9 => h9) rfl dX10_put_18 ?_
  refine lv_aload_n hx hb dX10_put_21 rfl (lv_at hl 1 rfl) ?_
  refine va_get (D := (dC, dI)) (ci := 10) (v := .int 14) (C := RX10) (T := TX10) (N := 8) hx hb hwd inlX10 hown hK hP 0 rfl rfl 1 (by decide) (hwd _ kr8_16) (fun _ h9 => h9) rfl dX10_put_22 ?_
  refine lv_iload_n hx hb dX10_put_25 rfl (lv_at hl 2 rfl) ?_
  refine lv_iload_n hx hb dX10_put_26 rfl (lv_at hl 0 rfl) ?_
  refine lv_iushr hx hb dX10_put_27 rfl ?_
  refine lv_topi (fun x13 ex13 => ?_)
  refine lv_i2b hx hb dX10_put_28 rfl ?_
  refine lv_topi (fun x14 ex14 => ?_)
  refine va_bast hx hb hK hP hD hS 1 2 rfl rfl (vin (by decide)) dX10_put_29 (fun H locs hP hD hS => ?_)
  obtain ⟨f15, ef15⟩ : ∃ f, f = upd f10 (14 : Int32).toNatClampNeg (vp_nar .byte x14) := ⟨_, rfl⟩
  have hP : va_P (dC, dI) vwCl [(h0, .inr (10, [.ref a0, .int 14, .int 0, .int (-1), .int 0, .int 0, .int 0, .int 0])), (a0, .inl (cB, 1600, .inl f15))] H := by rw [ef15]; exact hP
  have hD : va_D A [(h0, .inr (10, [.ref a0, .int 14, .int 0, .int (-1), .int 0, .int 0, .int 0, .int 0])), (a0, .inl (cB, 1600, .inl f15))] := by rw [ef15]; exact hD
  refine lv_aload_n hx hb dX10_put_30 rfl (lv_at hl 1 rfl) ?_
  refine lv_dup hx hb dX10_put_31 rfl ?_
  refine va_get (D := (dC, dI)) (ci := 10) (v := .int 14) (C := RX10) (T := TX10) (N := 8) hx hb hwd inlX10 hown hK hP 0 rfl rfl 1 (by decide) (hwd _ kr8_16) (fun _ h9 => h9) rfl dX10_put_32 ?_
  refine lv_iconst (v := 1) hx hb dX10_put_35 (by decide) ?_
  refine lv_iadd hx hb dX10_put_36 ?_
  refine lv_topi (nm_r (e' := (15)) (by decide +kernel) ?_)
  refine va_put (D := (dC, dI)) (ci := 10) (v := .int 15) (ty := .int) (C := RX10) (T := TX10) (N := 8) hx hb hwd inlX10 tyX10 tyX10_ok nmX10 hown hK hP hD hS 0 rfl rfl 1 (by decide) (hwd _ kr8_16) (fun _ h9 => h9) rfl (by decide +kernel) rfl rfl (Nat.le_of_ble_eq_true rfl) dX10_put_37 (fun H locs hP hD hS => ?_)
  have hP : va_P (dC, dI) vwCl [(h0, .inr (10, [.ref a0, .int 15, .int 0, .int (-1), .int 0, .int 0, .int 0, .int 0])), (a0, .inl (cB, 1600, .inl f15))] H := hP
  have hD : va_D A [(h0, .inr (10, [.ref a0, .int 15, .int 0, .int (-1), .int 0, .int 0, .int 0, .int 0])), (a0, .inl (cB, 1600, .inl f15))] := hD
  refine lv_iinc (v := 0) (lv' := [(2, .int 0), (0, .ref h0), (1, .int p0)]) hx hb dX10_put_40 hl (k := 0) rfl (by decide) (by decide) rfl (fun ls hl => ?_)
  refine lv_goto (tgt := 3) hx hb dX10_put_43 (by decide) ?_
  refine lv_iload_n hx hb dX10_put_3 rfl (lv_at hl 0 rfl) ?_
  refine lv_if_lt (tgt := 46) hx hb dX10_put_4 (by decide) (fun c16 => absurd c16 (by decide)) (fun c16 => ?_)
  refine lv_aload_n hx hb dX10_put_7 rfl (lv_at hl 1 rfl) ?_
  refine va_get (D := (dC, dI)) (ci := 10) (v := .int 15) (C := RX10) (T := TX10) (N := 8) hx hb hwd inlX10 hown hK hP 0 rfl rfl 1 (by decide) (hwd _ kr8_16) (fun _ h9 => h9) rfl dX10_put_8 ?_
  refine lv_sipush (v := 1600) hx hb dX10_put_11 (by decide) ?_
  refine lv_icmp_ge (tgt := 40) hx hb dX10_put_14 (by decide) (fun c17 => absurd c17 (by decide)) (fun c17 => ?_)
  refine lv_aload_n hx hb dX10_put_17 rfl (lv_at hl 1 rfl) ?_
  refine va_get (D := (dC, dI)) (ci := 10) (v := .ref a0) (C := RX10) (T := TX10) (N := 8) hx hb hwd inlX10 hown hK hP 0 rfl rfl 0 (by decide) (hwd _ kr3_1) (fun _ h9 => h9) rfl dX10_put_18 ?_
  refine lv_aload_n hx hb dX10_put_21 rfl (lv_at hl 1 rfl) ?_
  refine va_get (D := (dC, dI)) (ci := 10) (v := .int 15) (C := RX10) (T := TX10) (N := 8) hx hb hwd inlX10 hown hK hP 0 rfl rfl 1 (by decide) (hwd _ kr8_16) (fun _ h9 => h9) rfl dX10_put_22 ?_
  refine lv_iload_n hx hb dX10_put_25 rfl (lv_at hl 2 rfl) ?_
  refine lv_iload_n hx hb dX10_put_26 rfl (lv_at hl 0 rfl) ?_
  refine lv_iushr hx hb dX10_put_27 rfl ?_
  refine lv_topi (fun x18 ex18 => ?_)
  refine lv_i2b hx hb dX10_put_28 rfl ?_
  refine lv_topi (fun x19 ex19 => ?_)
  refine va_bast hx hb hK hP hD hS 1 2 rfl rfl (vin (by decide)) dX10_put_29 (fun H locs hP hD hS => ?_)
  obtain ⟨f20, ef20⟩ : ∃ f, f = upd f15 (15 : Int32).toNatClampNeg (vp_nar .byte x19) := ⟨_, rfl⟩
  have hP : va_P (dC, dI) vwCl [(h0, .inr (10, [.ref a0, .int 15, .int 0, .int (-1), .int 0, .int 0, .int 0, .int 0])), (a0, .inl (cB, 1600, .inl f20))] H := by rw [ef20]; exact hP
  have hD : va_D A [(h0, .inr (10, [.ref a0, .int 15, .int 0, .int (-1), .int 0, .int 0, .int 0, .int 0])), (a0, .inl (cB, 1600, .inl f20))] := by rw [ef20]; exact hD
  refine lv_aload_n hx hb dX10_put_30 rfl (lv_at hl 1 rfl) ?_
  refine lv_dup hx hb dX10_put_31 rfl ?_
  refine va_get (D := (dC, dI)) (ci := 10) (v := .int 15) (C := RX10) (T := TX10) (N := 8) hx hb hwd inlX10 hown hK hP 0 rfl rfl 1 (by decide) (hwd _ kr8_16) (fun _ h9 => h9) rfl dX10_put_32 ?_
  refine lv_iconst (v := 1) hx hb dX10_put_35 (by decide) ?_
  refine lv_iadd hx hb dX10_put_36 ?_
  refine lv_topi (nm_r (e' := (16)) (by decide +kernel) ?_)
  refine va_put (D := (dC, dI)) (ci := 10) (v := .int 16) (ty := .int) (C := RX10) (T := TX10) (N := 8) hx hb hwd inlX10 tyX10 tyX10_ok nmX10 hown hK hP hD hS 0 rfl rfl 1 (by decide) (hwd _ kr8_16) (fun _ h9 => h9) rfl (by decide +kernel) rfl rfl (Nat.le_of_ble_eq_true rfl) dX10_put_37 (fun H locs hP hD hS => ?_)
  have hP : va_P (dC, dI) vwCl [(h0, .inr (10, [.ref a0, .int 16, .int 0, .int (-1), .int 0, .int 0, .int 0, .int 0])), (a0, .inl (cB, 1600, .inl f20))] H := hP
  have hD : va_D A [(h0, .inr (10, [.ref a0, .int 16, .int 0, .int (-1), .int 0, .int 0, .int 0, .int 0])), (a0, .inl (cB, 1600, .inl f20))] := hD
  refine lv_iinc (v := (-8)) (lv' := [(2, .int (-8)), (0, .ref h0), (1, .int p0)]) hx hb dX10_put_40 hl (k := 0) rfl (by decide) (by decide) rfl (fun ls hl => ?_)
  refine lv_goto (tgt := 3) hx hb dX10_put_43 (by decide) ?_
  refine lv_iload_n hx hb dX10_put_3 rfl (lv_at hl 0 rfl) ?_
  refine lv_if_lt (tgt := 46) hx hb dX10_put_4 (by decide) (fun c21 => ?_) (fun c21 => absurd c21 (by decide))
  have hP9 := hP.sub (ws' := [(h0, .inr (10, [.ref a0, .int 16, .int 0, .int (-1), .int 0, .int 0, .int 0, .int 0])), (a0, .inl (cB, 1600, .inl f20))]) [0, 1] rfl
  have hD9 := hD.sub (ws' := [(h0, .inr (10, [.ref a0, .int 16, .int 0, .int (-1), .int 0, .int 0, .int 0, .int 0])), (a0, .inl (cB, 1600, .inl f20))]) [0, 1] (by decide) rfl
  exact W.vret hx hb hr (fun t ht hW => ⟨⟨f20, rfl, trivial, (by rw [ht]; exact hP9), hD9⟩, hS.F ht⟩) hS.2.2 dX10_put_46
set_option maxHeartbeats 4000000 in
set_option maxRecDepth 100000 in
theorem c_X10_put_16 (l : Launch) (dC : Nat → ClassId) (dI : Nat → Nat → Nat) (cI cZ cB cJ cM : ClassId) (h0 a0 : Nat) (f0 : Nat → Int32) (p0 : Int32) (sz : Nat) : Met l yX10_put (kw yX10_put cX10_put 3 none) ({ frames := 0, cells := 0, slots := 0, locals := 0 }) (va_Pc [.ref h0, .int p0] (kPre dC dI [(cI, .int), (cZ, .boolean), (cB, .byte), (cJ, .long), (cM, .object RX2)] [(h0, .inr (10, [.ref a0, .int 16, .int 0, .int (-1), .int 0, .int 0, .int 0, .int 0])), (a0, .inl (cB, 1600, .inl f0))] sz)) (va_Qv (fun _ : (Nat → Int32) => True) (fun u t => va_P (dC, dI) vwCl [(h0, .inr (10, [.ref a0, .int 20, .int 0, .int (-1), .int 0, .int 0, .int 0, .int 0])), (a0, .inl (cB, 1600, .inl u))] t.heap ∧ va_D (va_A [(h0, .inr (10, [.ref a0, .int 16, .int 0, .int (-1), .int 0, .int 0, .int 0, .int 0])), (a0, .inl (cB, 1600, .inl f0))] sz) [(h0, .inr (10, [.ref a0, .int 20, .int 0, .int (-1), .int 0, .int 0, .int 0, .int 0])), (a0, .inl (cB, 1600, .inl u))]) (va_A [(h0, .inr (10, [.ref a0, .int 16, .int 0, .int (-1), .int 0, .int 0, .int 0, .int 0])), (a0, .inl (cB, 1600, .inl f0))] sz)) 0 0 (va_A [(h0, .inr (10, [.ref a0, .int 16, .int 0, .int (-1), .int 0, .int 0, .int 0, .int 0])), (a0, .inl (cB, 1600, .inl f0))] sz) := by
  refine kEnter (by decide) (Nat.le_of_ble_eq_true rfl) ?_
  intro p e s m below meth c ls hx hb hr hml hown hlocks hin hwd hsz hP hK hD hl
  subst hsz
  generalize hAe : va_A [(h0, .inr (10, [.ref a0, .int 16, .int 0, .int (-1), .int 0, .int 0, .int 0, .int 0])), (a0, .inl (cB, 1600, .inl f0))] s.heap.size = A at hD ⊢
  have hA : ∀ q : Nat, s.heap.size ≤ q → A q := fun q h => by rw [← hAe]; exact Or.inr h
  have hS : va_S A s.heap s.heap [] := va_S.rf
  have hl : lv_has ls 3 [(0, .ref h0), (1, .int p0)] := hl
  refine lv_bipush (v := 24) hx hb dX10_put_0 (by decide) ?_
  refine lv_istore_n (lv' := [(2, .int 24), (0, .ref h0), (1, .int p0)]) hx hb dX10_put_2 rfl hl (by decide) rfl (fun ls hl => ?_)
  refine lv_iload_n hx hb dX10_put_3 rfl (lv_at hl 0 rfl) ?_
  refine lv_if_lt (tgt := 46) hx hb dX10_put_4 (by decide) (fun c1 => absurd c1 (by decide)) (fun c1 => ?_)
  refine lv_aload_n hx hb dX10_put_7 rfl (lv_at hl 1 rfl) ?_
  refine va_get (D := (dC, dI)) (ci := 10) (v := .int 16) (C := RX10) (T := TX10) (N := 8) hx hb hwd inlX10 hown hK hP 0 rfl rfl 1 (by decide) (hwd _ kr8_16) (fun _ h9 => h9) rfl dX10_put_8 ?_
  refine lv_sipush (v := 1600) hx hb dX10_put_11 (by decide) ?_
  refine lv_icmp_ge (tgt := 40) hx hb dX10_put_14 (by decide) (fun c2 => absurd c2 (by decide)) (fun c2 => ?_)
  refine lv_aload_n hx hb dX10_put_17 rfl (lv_at hl 1 rfl) ?_
  refine va_get (D := (dC, dI)) (ci := 10) (v := .ref a0) (C := RX10) (T := TX10) (N := 8) hx hb hwd inlX10 hown hK hP 0 rfl rfl 0 (by decide) (hwd _ kr3_1) (fun _ h9 => h9) rfl dX10_put_18 ?_
  refine lv_aload_n hx hb dX10_put_21 rfl (lv_at hl 1 rfl) ?_
  refine va_get (D := (dC, dI)) (ci := 10) (v := .int 16) (C := RX10) (T := TX10) (N := 8) hx hb hwd inlX10 hown hK hP 0 rfl rfl 1 (by decide) (hwd _ kr8_16) (fun _ h9 => h9) rfl dX10_put_22 ?_
  refine lv_iload_n hx hb dX10_put_25 rfl (lv_at hl 2 rfl) ?_
  refine lv_iload_n hx hb dX10_put_26 rfl (lv_at hl 0 rfl) ?_
  refine lv_iushr hx hb dX10_put_27 rfl ?_
  refine lv_topi (fun x3 ex3 => ?_)
  refine lv_i2b hx hb dX10_put_28 rfl ?_
  refine lv_topi (fun x4 ex4 => ?_)
  refine va_bast hx hb hK hP hD hS 1 2 rfl rfl (vin (by decide)) dX10_put_29 (fun H locs hP hD hS => ?_)
  obtain ⟨f5, ef5⟩ : ∃ f, f = upd f0 (16 : Int32).toNatClampNeg (vp_nar .byte x4) := ⟨_, rfl⟩
  have hP : va_P (dC, dI) vwCl [(h0, .inr (10, [.ref a0, .int 16, .int 0, .int (-1), .int 0, .int 0, .int 0, .int 0])), (a0, .inl (cB, 1600, .inl f5))] H := by rw [ef5]; exact hP
  have hD : va_D A [(h0, .inr (10, [.ref a0, .int 16, .int 0, .int (-1), .int 0, .int 0, .int 0, .int 0])), (a0, .inl (cB, 1600, .inl f5))] := by rw [ef5]; exact hD
  refine lv_aload_n hx hb dX10_put_30 rfl (lv_at hl 1 rfl) ?_
  refine lv_dup hx hb dX10_put_31 rfl ?_
  refine va_get (D := (dC, dI)) (ci := 10) (v := .int 16) (C := RX10) (T := TX10) (N := 8) hx hb hwd inlX10 hown hK hP 0 rfl rfl 1 (by decide) (hwd _ kr8_16) (fun _ h9 => h9) rfl dX10_put_32 ?_
  refine lv_iconst (v := 1) hx hb dX10_put_35 (by decide) ?_
  refine lv_iadd hx hb dX10_put_36 ?_
  refine lv_topi (nm_r (e' := (17)) (by decide +kernel) ?_)
  refine va_put (D := (dC, dI)) (ci := 10) (v := .int 17) (ty := .int) (C := RX10) (T := TX10) (N := 8) hx hb hwd inlX10 tyX10 tyX10_ok nmX10 hown hK hP hD hS 0 rfl rfl 1 (by decide) (hwd _ kr8_16) (fun _ h9 => h9) rfl (by decide +kernel) rfl rfl (Nat.le_of_ble_eq_true rfl) dX10_put_37 (fun H locs hP hD hS => ?_)
  have hP : va_P (dC, dI) vwCl [(h0, .inr (10, [.ref a0, .int 17, .int 0, .int (-1), .int 0, .int 0, .int 0, .int 0])), (a0, .inl (cB, 1600, .inl f5))] H := hP
  have hD : va_D A [(h0, .inr (10, [.ref a0, .int 17, .int 0, .int (-1), .int 0, .int 0, .int 0, .int 0])), (a0, .inl (cB, 1600, .inl f5))] := hD
  refine lv_iinc (v := 16) (lv' := [(2, .int 16), (0, .ref h0), (1, .int p0)]) hx hb dX10_put_40 hl (k := 0) rfl (by decide) (by decide) rfl (fun ls hl => ?_)
  refine lv_goto (tgt := 3) hx hb dX10_put_43 (by decide) ?_
  refine lv_iload_n hx hb dX10_put_3 rfl (lv_at hl 0 rfl) ?_
  refine lv_if_lt (tgt := 46) hx hb dX10_put_4 (by decide) (fun c6 => absurd c6 (by decide)) (fun c6 => ?_)
  refine lv_aload_n hx hb dX10_put_7 rfl (lv_at hl 1 rfl) ?_
  refine va_get (D := (dC, dI)) (ci := 10) (v := .int 17) (C := RX10) (T := TX10) (N := 8) hx hb hwd inlX10 hown hK hP 0 rfl rfl 1 (by decide) (hwd _ kr8_16) (fun _ h9 => h9) rfl dX10_put_8 ?_
  refine lv_sipush (v := 1600) hx hb dX10_put_11 (by decide) ?_
  refine lv_icmp_ge (tgt := 40) hx hb dX10_put_14 (by decide) (fun c7 => absurd c7 (by decide)) (fun c7 => ?_)
  refine lv_aload_n hx hb dX10_put_17 rfl (lv_at hl 1 rfl) ?_
  refine va_get (D := (dC, dI)) (ci := 10) (v := .ref a0) (C := RX10) (T := TX10) (N := 8) hx hb hwd inlX10 hown hK hP 0 rfl rfl 0 (by decide) (hwd _ kr3_1) (fun _ h9 => h9) rfl dX10_put_18 ?_
  refine lv_aload_n hx hb dX10_put_21 rfl (lv_at hl 1 rfl) ?_
  refine va_get (D := (dC, dI)) (ci := 10) (v := .int 17) (C := RX10) (T := TX10) (N := 8) hx hb hwd inlX10 hown hK hP 0 rfl rfl 1 (by decide) (hwd _ kr8_16) (fun _ h9 => h9) rfl dX10_put_22 ?_
  refine lv_iload_n hx hb dX10_put_25 rfl (lv_at hl 2 rfl) ?_
  refine lv_iload_n hx hb dX10_put_26 rfl (lv_at hl 0 rfl) ?_
  refine lv_iushr hx hb dX10_put_27 rfl ?_
  refine lv_topi (fun x8 ex8 => ?_)
  refine lv_i2b hx hb dX10_put_28 rfl ?_
  refine lv_topi (fun x9 ex9 => ?_)
  refine va_bast hx hb hK hP hD hS 1 2 rfl rfl (vin (by decide)) dX10_put_29 (fun H locs hP hD hS => ?_)
  obtain ⟨f10, ef10⟩ : ∃ f, f = upd f5 (17 : Int32).toNatClampNeg (vp_nar .byte x9) := ⟨_, rfl⟩
  have hP : va_P (dC, dI) vwCl [(h0, .inr (10, [.ref a0, .int 17, .int 0, .int (-1), .int 0, .int 0, .int 0, .int 0])), (a0, .inl (cB, 1600, .inl f10))] H := by rw [ef10]; exact hP
  have hD : va_D A [(h0, .inr (10, [.ref a0, .int 17, .int 0, .int (-1), .int 0, .int 0, .int 0, .int 0])), (a0, .inl (cB, 1600, .inl f10))] := by rw [ef10]; exact hD
  refine lv_aload_n hx hb dX10_put_30 rfl (lv_at hl 1 rfl) ?_
  refine lv_dup hx hb dX10_put_31 rfl ?_
  refine va_get (D := (dC, dI)) (ci := 10) (v := .int 17) (C := RX10) (T := TX10) (N := 8) hx hb hwd inlX10 hown hK hP 0 rfl rfl 1 (by decide) (hwd _ kr8_16) (fun _ h9 => h9) rfl dX10_put_32 ?_
  refine lv_iconst (v := 1) hx hb dX10_put_35 (by decide) ?_
  refine lv_iadd hx hb dX10_put_36 ?_
  refine lv_topi (nm_r (e' := (18)) (by decide +kernel) ?_)
  refine va_put (D := (dC, dI)) (ci := 10) (v := .int 18) (ty := .int) (C := RX10) (T := TX10) (N := 8) hx hb hwd inlX10 tyX10 tyX10_ok nmX10 hown hK hP hD hS 0 rfl rfl 1 (by decide) (hwd _ kr8_16) (fun _ h9 => h9) rfl (by decide +kernel) rfl rfl (Nat.le_of_ble_eq_true rfl) dX10_put_37 (fun H locs hP hD hS => ?_)
  have hP : va_P (dC, dI) vwCl [(h0, .inr (10, [.ref a0, .int 18, .int 0, .int (-1), .int 0, .int 0, .int 0, .int 0])), (a0, .inl (cB, 1600, .inl f10))] H := hP
  have hD : va_D A [(h0, .inr (10, [.ref a0, .int 18, .int 0, .int (-1), .int 0, .int 0, .int 0, .int 0])), (a0, .inl (cB, 1600, .inl f10))] := hD
  refine lv_iinc (v := 8) (lv' := [(2, .int 8), (0, .ref h0), (1, .int p0)]) hx hb dX10_put_40 hl (k := 0) rfl (by decide) (by decide) rfl (fun ls hl => ?_)
  refine lv_goto (tgt := 3) hx hb dX10_put_43 (by decide) ?_
  refine lv_iload_n hx hb dX10_put_3 rfl (lv_at hl 0 rfl) ?_
  refine lv_if_lt (tgt := 46) hx hb dX10_put_4 (by decide) (fun c11 => absurd c11 (by decide)) (fun c11 => ?_)
  refine lv_aload_n hx hb dX10_put_7 rfl (lv_at hl 1 rfl) ?_
  refine va_get (D := (dC, dI)) (ci := 10) (v := .int 18) (C := RX10) (T := TX10) (N := 8) hx hb hwd inlX10 hown hK hP 0 rfl rfl 1 (by decide) (hwd _ kr8_16) (fun _ h9 => h9) rfl dX10_put_8 ?_
  refine lv_sipush (v := 1600) hx hb dX10_put_11 (by decide) ?_
  refine lv_icmp_ge (tgt := 40) hx hb dX10_put_14 (by decide) (fun c12 => absurd c12 (by decide)) (fun c12 => ?_)
  refine lv_aload_n hx hb dX10_put_17 rfl (lv_at hl 1 rfl) ?_
  refine va_get (D := (dC, dI)) (ci := 10) (v := .ref a0) (C := RX10) (T := TX10) (N := 8) hx hb hwd inlX10 hown hK hP 0 rfl rfl 0 (by decide) (hwd _ kr3_1) (fun _ h9 => h9) rfl dX10_put_18 ?_
  refine lv_aload_n hx hb dX10_put_21 rfl (lv_at hl 1 rfl) ?_
  refine va_get (D := (dC, dI)) (ci := 10) (v := .int 18) (C := RX10) (T := TX10) (N := 8) hx hb hwd inlX10 hown hK hP 0 rfl rfl 1 (by decide) (hwd _ kr8_16) (fun _ h9 => h9) rfl dX10_put_22 ?_
  refine lv_iload_n hx hb dX10_put_25 rfl (lv_at hl 2 rfl) ?_
  refine lv_iload_n hx hb dX10_put_26 rfl (lv_at hl 0 rfl) ?_
  refine lv_iushr hx hb dX10_put_27 rfl ?_
  refine lv_topi (fun x13 ex13 => ?_)
  refine lv_i2b hx hb dX10_put_28 rfl ?_
  refine lv_topi (fun x14 ex14 => ?_)
  refine va_bast hx hb hK hP hD hS 1 2 rfl rfl (vin (by decide)) dX10_put_29 (fun H locs hP hD hS => ?_)
  obtain ⟨f15, ef15⟩ : ∃ f, f = upd f10 (18 : Int32).toNatClampNeg (vp_nar .byte x14) := ⟨_, rfl⟩
  have hP : va_P (dC, dI) vwCl [(h0, .inr (10, [.ref a0, .int 18, .int 0, .int (-1), .int 0, .int 0, .int 0, .int 0])), (a0, .inl (cB, 1600, .inl f15))] H := by rw [ef15]; exact hP
  have hD : va_D A [(h0, .inr (10, [.ref a0, .int 18, .int 0, .int (-1), .int 0, .int 0, .int 0, .int 0])), (a0, .inl (cB, 1600, .inl f15))] := by rw [ef15]; exact hD
  refine lv_aload_n hx hb dX10_put_30 rfl (lv_at hl 1 rfl) ?_
  refine lv_dup hx hb dX10_put_31 rfl ?_
  refine va_get (D := (dC, dI)) (ci := 10) (v := .int 18) (C := RX10) (T := TX10) (N := 8) hx hb hwd inlX10 hown hK hP 0 rfl rfl 1 (by decide) (hwd _ kr8_16) (fun _ h9 => h9) rfl dX10_put_32 ?_
  refine lv_iconst (v := 1) hx hb dX10_put_35 (by decide) ?_
  refine lv_iadd hx hb dX10_put_36 ?_
  refine lv_topi (nm_r (e' := (19)) (by decide +kernel) ?_)
  refine va_put (D := (dC, dI)) (ci := 10) (v := .int 19) (ty := .int) (C := RX10) (T := TX10) (N := 8) hx hb hwd inlX10 tyX10 tyX10_ok nmX10 hown hK hP hD hS 0 rfl rfl 1 (by decide) (hwd _ kr8_16) (fun _ h9 => h9) rfl (by decide +kernel) rfl rfl (Nat.le_of_ble_eq_true rfl) dX10_put_37 (fun H locs hP hD hS => ?_)
  have hP : va_P (dC, dI) vwCl [(h0, .inr (10, [.ref a0, .int 19, .int 0, .int (-1), .int 0, .int 0, .int 0, .int 0])), (a0, .inl (cB, 1600, .inl f15))] H := hP
  have hD : va_D A [(h0, .inr (10, [.ref a0, .int 19, .int 0, .int (-1), .int 0, .int 0, .int 0, .int 0])), (a0, .inl (cB, 1600, .inl f15))] := hD
  refine lv_iinc (v := 0) (lv' := [(2, .int 0), (0, .ref h0), (1, .int p0)]) hx hb dX10_put_40 hl (k := 0) rfl (by decide) (by decide) rfl (fun ls hl => ?_)
  refine lv_goto (tgt := 3) hx hb dX10_put_43 (by decide) ?_
  refine lv_iload_n hx hb dX10_put_3 rfl (lv_at hl 0 rfl) ?_
  refine lv_if_lt (tgt := 46) hx hb dX10_put_4 (by decide) (fun c16 => absurd c16 (by decide)) (fun c16 => ?_)
  refine lv_aload_n hx hb dX10_put_7 rfl (lv_at hl 1 rfl) ?_
  refine va_get (D := (dC, dI)) (ci := 10) (v := .int 19) (C := RX10) (T := TX10) (N := 8) hx hb hwd inlX10 hown hK hP 0 rfl rfl 1 (by decide) (hwd _ kr8_16) (fun _ h9 => h9) rfl dX10_put_8 ?_
  refine lv_sipush (v := 1600) hx hb dX10_put_11 (by decide) ?_
  refine lv_icmp_ge (tgt := 40) hx hb dX10_put_14 (by decide) (fun c17 => absurd c17 (by decide)) (fun c17 => ?_)
  refine lv_aload_n hx hb dX10_put_17 rfl (lv_at hl 1 rfl) ?_
  refine va_get (D := (dC, dI)) (ci := 10) (v := .ref a0) (C := RX10) (T := TX10) (N := 8) hx hb hwd inlX10 hown hK hP 0 rfl rfl 0 (by decide) (hwd _ kr3_1) (fun _ h9 => h9) rfl dX10_put_18 ?_
  refine lv_aload_n hx hb dX10_put_21 rfl (lv_at hl 1 rfl) ?_
  refine va_get (D := (dC, dI)) (ci := 10) (v := .int 19) (C := RX10) (T := TX10) (N := 8) hx hb hwd inlX10 hown hK hP 0 rfl rfl 1 (by decide) (hwd _ kr8_16) (fun _ h9 => h9) rfl dX10_put_22 ?_
  refine lv_iload_n hx hb dX10_put_25 rfl (lv_at hl 2 rfl) ?_
  refine lv_iload_n hx hb dX10_put_26 rfl (lv_at hl 0 rfl) ?_
  refine lv_iushr hx hb dX10_put_27 rfl ?_
  refine lv_topi (fun x18 ex18 => ?_)
  refine lv_i2b hx hb dX10_put_28 rfl ?_
  refine lv_topi (fun x19 ex19 => ?_)
  refine va_bast hx hb hK hP hD hS 1 2 rfl rfl (vin (by decide)) dX10_put_29 (fun H locs hP hD hS => ?_)
  obtain ⟨f20, ef20⟩ : ∃ f, f = upd f15 (19 : Int32).toNatClampNeg (vp_nar .byte x19) := ⟨_, rfl⟩
  have hP : va_P (dC, dI) vwCl [(h0, .inr (10, [.ref a0, .int 19, .int 0, .int (-1), .int 0, .int 0, .int 0, .int 0])), (a0, .inl (cB, 1600, .inl f20))] H := by rw [ef20]; exact hP
  have hD : va_D A [(h0, .inr (10, [.ref a0, .int 19, .int 0, .int (-1), .int 0, .int 0, .int 0, .int 0])), (a0, .inl (cB, 1600, .inl f20))] := by rw [ef20]; exact hD
  refine lv_aload_n hx hb dX10_put_30 rfl (lv_at hl 1 rfl) ?_
  refine lv_dup hx hb dX10_put_31 rfl ?_
  refine va_get (D := (dC, dI)) (ci := 10) (v := .int 19) (C := RX10) (T := TX10) (N := 8) hx hb hwd inlX10 hown hK hP 0 rfl rfl 1 (by decide) (hwd _ kr8_16) (fun _ h9 => h9) rfl dX10_put_32 ?_
  refine lv_iconst (v := 1) hx hb dX10_put_35 (by decide) ?_
  refine lv_iadd hx hb dX10_put_36 ?_
  refine lv_topi (nm_r (e' := (20)) (by decide +kernel) ?_)
  refine va_put (D := (dC, dI)) (ci := 10) (v := .int 20) (ty := .int) (C := RX10) (T := TX10) (N := 8) hx hb hwd inlX10 tyX10 tyX10_ok nmX10 hown hK hP hD hS 0 rfl rfl 1 (by decide) (hwd _ kr8_16) (fun _ h9 => h9) rfl (by decide +kernel) rfl rfl (Nat.le_of_ble_eq_true rfl) dX10_put_37 (fun H locs hP hD hS => ?_)
  have hP : va_P (dC, dI) vwCl [(h0, .inr (10, [.ref a0, .int 20, .int 0, .int (-1), .int 0, .int 0, .int 0, .int 0])), (a0, .inl (cB, 1600, .inl f20))] H := hP
  have hD : va_D A [(h0, .inr (10, [.ref a0, .int 20, .int 0, .int (-1), .int 0, .int 0, .int 0, .int 0])), (a0, .inl (cB, 1600, .inl f20))] := hD
  refine lv_iinc (v := (-8)) (lv' := [(2, .int (-8)), (0, .ref h0), (1, .int p0)]) hx hb dX10_put_40 hl (k := 0) rfl (by decide) (by decide) rfl (fun ls hl => ?_)
  refine lv_goto (tgt := 3) hx hb dX10_put_43 (by decide) ?_
  refine lv_iload_n hx hb dX10_put_3 rfl (lv_at hl 0 rfl) ?_
  refine lv_if_lt (tgt := 46) hx hb dX10_put_4 (by decide) (fun c21 => ?_) (fun c21 => absurd c21 (by decide))
  have hP9 := hP.sub (ws' := [(h0, .inr (10, [.ref a0, .int 20, .int 0, .int (-1), .int 0, .int 0, .int 0, .int 0])), (a0, .inl (cB, 1600, .inl f20))]) [0, 1] rfl
  have hD9 := hD.sub (ws' := [(h0, .inr (10, [.ref a0, .int 20, .int 0, .int (-1), .int 0, .int 0, .int 0, .int 0])), (a0, .inl (cB, 1600, .inl f20))]) [0, 1] (by decide) rfl
  exact W.vret hx hb hr (fun t ht hW => ⟨⟨f20, rfl, trivial, (by rw [ht]; exact hP9), hD9⟩, hS.F ht⟩) hS.2.2 dX10_put_46
set_option maxHeartbeats 4000000 in
set_option maxRecDepth 100000 in
theorem c_X10_goesOn (l : Launch) (dC : Nat → ClassId) (dI : Nat → Nat → Nat) (cI cZ cB cJ cM : ClassId) (h0 a0 : Nat) (sz : Nat) : Met l yX10_goesOn (kw yX10_goesOn cX10_goesOn 1 (some .boolean)) ({ frames := 0, cells := 0, slots := 0, locals := 0 }) (va_Pc [.ref h0] (kPre dC dI [(cI, .int), (cZ, .boolean), (cB, .byte), (cJ, .long), (cM, .object RX2)] [(h0, .inr (10, [.ref a0, .int 0, .int 0, .int (-1), .int 0, .int 0, .int 0, .int 0]))] sz)) (va_Qi (fun (r : Int32) (_ : Unit) => r = 0) (fun _ t => va_P (dC, dI) vwCl [(h0, .inr (10, [.ref a0, .int 0, .int 0, .int (-1), .int 0, .int 0, .int 0, .int 0]))] t.heap ∧ va_D (va_A [(h0, .inr (10, [.ref a0, .int 0, .int 0, .int (-1), .int 0, .int 0, .int 0, .int 0]))] sz) [(h0, .inr (10, [.ref a0, .int 0, .int 0, .int (-1), .int 0, .int 0, .int 0, .int 0]))]) (va_A [(h0, .inr (10, [.ref a0, .int 0, .int 0, .int (-1), .int 0, .int 0, .int 0, .int 0]))] sz)) 0 0 (va_A [(h0, .inr (10, [.ref a0, .int 0, .int 0, .int (-1), .int 0, .int 0, .int 0, .int 0]))] sz) := by
  refine kEnter (by decide) (Nat.le_of_ble_eq_true rfl) ?_
  intro p e s m below meth c ls hx hb hr hml hown hlocks hin hwd hsz hP hK hD hl
  subst hsz
  generalize hAe : va_A [(h0, .inr (10, [.ref a0, .int 0, .int 0, .int (-1), .int 0, .int 0, .int 0, .int 0]))] s.heap.size = A at hD ⊢
  have hA : ∀ q : Nat, s.heap.size ≤ q → A q := fun q h => by rw [← hAe]; exact Or.inr h
  have hS : va_S A s.heap s.heap [] := va_S.rf
  have hl : lv_has ls 1 [(0, .ref h0)] := hl
  refine lv_aload_n hx hb dX10_goesOn_0 rfl (lv_at hl 0 rfl) ?_
  refine va_get (D := (dC, dI)) (ci := 10) (v := .int 0) (C := RX10) (T := TX10) (N := 8) hx hb hwd inlX10 hown hK hP 0 rfl rfl 2 (by decide) (hwd _ kr11_2) (fun _ h9 => h9) rfl dX10_goesOn_1 ?_
  refine lv_if_ne (tgt := 18) hx hb dX10_goesOn_4 (by decide) (fun c1 => absurd c1 (by decide)) (fun c1 => ?_)
  refine lv_aload_n hx hb dX10_goesOn_7 rfl (lv_at hl 0 rfl) ?_
  refine va_get (D := (dC, dI)) (ci := 10) (v := .int 0) (C := RX10) (T := TX10) (N := 8) hx hb hwd inlX10 hown hK hP 0 rfl rfl 4 (by decide) (hwd _ kr11_9) (fun _ h9 => h9) rfl dX10_goesOn_8 ?_
  refine lv_if_eq (tgt := 18) hx hb dX10_goesOn_11 (by decide) (fun c2 => ?_) (fun c2 => absurd c2 (by decide))
  refine lv_iconst (v := 0) hx hb dX10_goesOn_18 (by decide) ?_
  have hP9 := hP.sub (ws' := [(h0, .inr (10, [.ref a0, .int 0, .int 0, .int (-1), .int 0, .int 0, .int 0, .int 0]))]) [0] rfl
  have hD9 := hD.sub (ws' := [(h0, .inr (10, [.ref a0, .int 0, .int 0, .int (-1), .int 0, .int 0, .int 0, .int 0]))]) [0] (by decide) rfl
  exact W.zret (v := 0) hx hb hr (by decide) (fun t ht hW => ⟨⟨0, (), rfl, rfl, (by rw [ht]; exact hP9), hD9⟩, hS.F ht⟩) hS.2.2 dX10_goesOn_19
set_option maxHeartbeats 4000000 in
set_option maxRecDepth 100000 in
theorem c_X10_behindBlanks (l : Launch) (dC : Nat → ClassId) (dI : Nat → Nat → Nat) (cI cZ cB cJ cM : ClassId) (h0 a0 : Nat) (sz : Nat) : Met l yX10_behindBlanks (kw yX10_behindBlanks cX10_behindBlanks 3 (some .int)) ({ frames := 0, cells := 0, slots := 0, locals := 0 }) (va_Pc [.ref h0, .int 0] (kPre dC dI [(cI, .int), (cZ, .boolean), (cB, .byte), (cJ, .long), (cM, .object RX2)] [(h0, .inr (10, [.ref a0, .int 0, .int 0, .int (-1), .int 0, .int 0, .int 0, .int 0]))] sz)) (va_Qi (fun (r : Int32) (_ : Unit) => r = 0) (fun _ t => va_P (dC, dI) vwCl [(h0, .inr (10, [.ref a0, .int 0, .int 0, .int (-1), .int 0, .int 0, .int 0, .int 0]))] t.heap ∧ va_D (va_A [(h0, .inr (10, [.ref a0, .int 0, .int 0, .int (-1), .int 0, .int 0, .int 0, .int 0]))] sz) [(h0, .inr (10, [.ref a0, .int 0, .int 0, .int (-1), .int 0, .int 0, .int 0, .int 0]))]) (va_A [(h0, .inr (10, [.ref a0, .int 0, .int 0, .int (-1), .int 0, .int 0, .int 0, .int 0]))] sz)) 0 0 (va_A [(h0, .inr (10, [.ref a0, .int 0, .int 0, .int (-1), .int 0, .int 0, .int 0, .int 0]))] sz) := by
  refine kEnter (by decide) (Nat.le_of_ble_eq_true rfl) ?_
  intro p e s m below meth c ls hx hb hr hml hown hlocks hin hwd hsz hP hK hD hl
  subst hsz
  generalize hAe : va_A [(h0, .inr (10, [.ref a0, .int 0, .int 0, .int (-1), .int 0, .int 0, .int 0, .int 0]))] s.heap.size = A at hD ⊢
  have hA : ∀ q : Nat, s.heap.size ≤ q → A q := fun q h => by rw [← hAe]; exact Or.inr h
  have hS : va_S A s.heap s.heap [] := va_S.rf
  have hl : lv_has ls 3 [(0, .ref h0), (1, .int 0)] := hl
  refine lv_iload_n hx hb dX10_behindBlanks_0 rfl (lv_at hl 1 rfl) ?_
  refine lv_istore_n (lv' := [(2, .int 0), (0, .ref h0), (1, .int 0)]) hx hb dX10_behindBlanks_1 rfl hl (by decide) rfl (fun ls hl => ?_)
  refine lv_iload_n hx hb dX10_behindBlanks_2 rfl (lv_at hl 0 rfl) ?_
  refine lv_aload_n hx hb dX10_behindBlanks_3 rfl (lv_at hl 1 rfl) ?_
  refine va_get (D := (dC, dI)) (ci := 10) (v := .int 0) (C := RX10) (T := TX10) (N := 8) hx hb hwd inlX10 hown hK hP 0 rfl rfl 1 (by decide) (hwd _ kr8_16) (fun _ h9 => h9) rfl dX10_behindBlanks_4 ?_
  refine lv_icmp_ge (tgt := 38) hx hb dX10_behindBlanks_7 (by decide) (fun c1 => ?_) (fun c1 => absurd c1 (by decide))
  refine lv_iload_n hx hb dX10_behindBlanks_38 rfl (lv_at hl 0 rfl) ?_
  have hP9 := hP.sub (ws' := [(h0, .inr (10, [.ref a0, .int 0, .int 0, .int (-1), .int 0, .int 0, .int 0, .int 0]))]) [0] rfl
  have hD9 := hD.sub (ws' := [(h0, .inr (10, [.ref a0, .int 0, .int 0, .int (-1), .int 0, .int 0, .int 0, .int 0]))]) [0] (by decide) rfl
  exact W.iret (v := 0) hx hb hr (fun t ht hW => ⟨⟨0, (), rfl, rfl, (by rw [ht]; exact hP9), hD9⟩, hS.F ht⟩) hS.2.2 dX10_behindBlanks_39
set_option maxHeartbeats 4000000 in
set_option maxRecDepth 100000 in
theorem c_X10_byteAt (l : Launch) (dC : Nat → ClassId) (dI : Nat → Nat → Nat) (cI cZ cB cJ cM : ClassId) (h0 a0 : Nat) (sz : Nat) : Met l yX10_byteAt (kw yX10_byteAt cX10_byteAt 2 (some .int)) ({ frames := 0, cells := 0, slots := 0, locals := 0 }) (va_Pc [.ref h0, .int 0] (kPre dC dI [(cI, .int), (cZ, .boolean), (cB, .byte), (cJ, .long), (cM, .object RX2)] [(h0, .inr (10, [.ref a0, .int 0, .int 0, .int (-1), .int 0, .int 0, .int 0, .int 0]))] sz)) (va_Qi (fun (r : Int32) (_ : Unit) => r = (-1)) (fun _ t => va_P (dC, dI) vwCl [(h0, .inr (10, [.ref a0, .int 0, .int 0, .int (-1), .int 0, .int 0, .int 0, .int 0]))] t.heap ∧ va_D (va_A [(h0, .inr (10, [.ref a0, .int 0, .int 0, .int (-1), .int 0, .int 0, .int 0, .int 0]))] sz) [(h0, .inr (10, [.ref a0, .int 0, .int 0, .int (-1), .int 0, .int 0, .int 0, .int 0]))]) (va_A [(h0, .inr (10, [.ref a0, .int 0, .int 0, .int (-1), .int 0, .int 0, .int 0, .int 0]))] sz)) 0 0 (va_A [(h0, .inr (10, [.ref a0, .int 0, .int 0, .int (-1), .int 0, .int 0, .int 0, .int 0]))] sz) := by
  refine kEnter (by decide) (Nat.le_of_ble_eq_true rfl) ?_
  intro p e s m below meth c ls hx hb hr hml hown hlocks hin hwd hsz hP hK hD hl
  subst hsz
  generalize hAe : va_A [(h0, .inr (10, [.ref a0, .int 0, .int 0, .int (-1), .int 0, .int 0, .int 0, .int 0]))] s.heap.size = A at hD ⊢
  have hA : ∀ q : Nat, s.heap.size ≤ q → A q := fun q h => by rw [← hAe]; exact Or.inr h
  have hS : va_S A s.heap s.heap [] := va_S.rf
  have hl : lv_has ls 2 [(0, .ref h0), (1, .int 0)] := hl
  refine lv_iload_n hx hb dX10_byteAt_0 rfl (lv_at hl 1 rfl) ?_
  refine lv_if_lt (tgt := 19) hx hb dX10_byteAt_1 (by decide) (fun c1 => absurd c1 (by decide)) (fun c1 => ?_)
  refine lv_iload_n hx hb dX10_byteAt_4 rfl (lv_at hl 1 rfl) ?_
  refine lv_aload_n hx hb dX10_byteAt_5 rfl (lv_at hl 0 rfl) ?_
  refine va_get (D := (dC, dI)) (ci := 10) (v := .int 0) (C := RX10) (T := TX10) (N := 8) hx hb hwd inlX10 hown hK hP 0 rfl rfl 1 (by decide) (hwd _ kr8_16) (fun _ h9 => h9) rfl dX10_byteAt_6 ?_
  refine lv_icmp_ge (tgt := 19) hx hb dX10_byteAt_9 (by decide) (fun c2 => ?_) (fun c2 => absurd c2 (by decide))
  refine lv_iconst (v := (-1)) hx hb dX10_byteAt_19 (by decide) ?_
  refine lv_goto (tgt := 33) hx hb dX10_byteAt_20 (by decide) ?_
  have hP9 := hP.sub (ws' := [(h0, .inr (10, [.ref a0, .int 0, .int 0, .int (-1), .int 0, .int 0, .int 0, .int 0]))]) [0] rfl
  have hD9 := hD.sub (ws' := [(h0, .inr (10, [.ref a0, .int 0, .int 0, .int (-1), .int 0, .int 0, .int 0, .int 0]))]) [0] (by decide) rfl
  exact W.iret (v := (-1)) hx hb hr (fun t ht hW => ⟨⟨(-1), (), rfl, rfl, (by rw [ht]; exact hP9), hD9⟩, hS.F ht⟩) hS.2.2 dX10_byteAt_33
set_option maxHeartbeats 4000000 in
set_option maxRecDepth 100000 in
theorem c_X10_readToken (l : Launch) (dC : Nat → ClassId) (dI : Nat → Nat → Nat) (cI cZ cB cJ cM : ClassId) (h0 a0 : Nat) (sz : Nat) : Met l yX10_readToken (kw yX10_readToken cX10_readToken 2 none) ({ frames := 1, cells := 0, slots := 0, locals := 22 }) (va_Pc [.ref h0] (kPre dC dI [(cI, .int), (cZ, .boolean), (cB, .byte), (cJ, .long), (cM, .object RX2)] [(h0, .inr (10, [.ref a0, .int 0, .int 0, .int (-1), .int 0, .int 0, .int 0, .int 0]))] sz)) (va_Qv (fun _ : Unit => True) (fun _ t => va_P (dC, dI) vwCl [(h0, .inr (10, [.ref a0, .int 0, .int 0, .int (-1), .int 0, .int 0, .int 0, .int 0]))] t.heap ∧ va_D (va_A [(h0, .inr (10, [.ref a0, .int 0, .int 0, .int (-1), .int 0, .int 0, .int 0, .int 0]))] sz) [(h0, .inr (10, [.ref a0, .int 0, .int 0, .int (-1), .int 0, .int 0, .int 0, .int 0]))]) (va_A [(h0, .inr (10, [.ref a0, .int 0, .int 0, .int (-1), .int 0, .int 0, .int 0, .int 0]))] sz)) 0 0 (va_A [(h0, .inr (10, [.ref a0, .int 0, .int 0, .int (-1), .int 0, .int 0, .int 0, .int 0]))] sz) := by
  refine kEnter (by decide) (Nat.le_of_ble_eq_true rfl) ?_
  intro p e s m below meth c ls hx hb hr hml hown hlocks hin hwd hsz hP hK hD hl
  subst hsz
  generalize hAe : va_A [(h0, .inr (10, [.ref a0, .int 0, .int 0, .int (-1), .int 0, .int 0, .int 0, .int 0]))] s.heap.size = A at hD ⊢
  have hA : ∀ q : Nat, s.heap.size ≤ q → A q := fun q h => by rw [← hAe]; exact Or.inr h
  have hS : va_S A s.heap s.heap [] := va_S.rf
  have hl : lv_has ls 2 [(0, .ref h0)] := hl
  refine lv_aload_n hx hb dX10_readToken_0 rfl (lv_at hl 0 rfl) ?_
  refine lv_aload_n hx hb dX10_readToken_1 rfl (lv_at hl 0 rfl) ?_
  refine lv_aload_n hx hb dX10_readToken_2 rfl (lv_at hl 0 rfl) ?_
  refine va_get (D := (dC, dI)) (ci := 10) (v := .int 0) (C := RX10) (T := TX10) (N := 8) hx hb hwd inlX10 hown hK hP 0 rfl rfl 6 (by decide) (hwd _ kr11_3) (fun _ h9 => h9) rfl dX10_readToken_3 ?_
  have hPc := hP.sub (ws' := [(h0, .inr (10, [.ref a0, .int 0, .int 0, .int (-1), .int 0, .int 0, .int 0, .int 0]))]) [0] rfl
  have hDc := hD.sub (ws' := [(h0, .inr (10, [.ref a0, .int 0, .int 0, .int (-1), .int 0, .int 0, .int 0, .int 0]))]) [0] (by decide) rfl
  have hFc := va_free (wc := [(h0, .inr (10, [.ref a0, .int 0, .int 0, .int (-1), .int 0, .int 0, .int 0, .int 0]))]) hD hS hA [0] rfl
  refine va_calli (va_runV (As := [.int 0]) (rest := [.ref h0]) ⟨hx, hb, hml, hown, hwd⟩ (c_X10_behindBlanks l dC dI cI cZ cB cJ cM h0 a0 s.heap.size) (cwV 1 hwd (gV kr11_10 kr11_11 kr11_12 kr1_15 kr11_13) rfl rfl rfl (by decide +kernel) ⟨Nat.le_of_ble_eq_true rfl, Nat.le_of_ble_eq_true rfl⟩) (kPreV hPc hK hDc (ci := 10) (q0 := 0) rfl rfl) rfl rfl hl.1 rfl (lv_room (Nat.le_of_ble_eq_true rfl)) dX10_readToken_6 ⟨Nat.le_of_ble_eq_true rfl, Nat.le_of_ble_eq_true rfl⟩) hS (fun q _ h => hFc q h) hFc (fun r1 u2 t H1 locs ht9 hvm hw hB hz1 hk1 hS => ?_)
  obtain ⟨hP1, hD1⟩ := hB
  rw [ht9] at hP1
  obtain ⟨hP, hD⟩ := va_join (wr := []) (w1 := [(h0, .inr (10, [.ref a0, .int 0, .int 0, .int (-1), .int 0, .int 0, .int 0, .int 0]))]) hP hD [0] [] rfl rfl (by decide) (by decide) hk1 hFc hP1 hD1
  generalize H1 = H at hP hS ⊢
  have hP : va_P (dC, dI) vwCl [(h0, .inr (10, [.ref a0, .int 0, .int 0, .int (-1), .int 0, .int 0, .int 0, .int 0]))] H := hP
  have hD : va_D A [(h0, .inr (10, [.ref a0, .int 0, .int 0, .int (-1), .int 0, .int 0, .int 0, .int 0]))] := hD
  subst hw
  refine va_put (D := (dC, dI)) (ci := 10) (v := .int 0) (ty := .int) (C := RX10) (T := TX10) (N := 8) hx hb hwd inlX10 tyX10 tyX10_ok nmX10 hown hK hP hD hS 0 rfl rfl 5 (by decide) (hwd _ kr11_8) (fun _ h9 => h9) rfl (by decide +kernel) rfl rfl (Nat.le_of_ble_eq_true rfl) dX10_readToken_9 (fun H locs hP hD hS => ?_)
  have hP : va_P (dC, dI) vwCl [(h0, .inr (10, [.ref a0, .int 0, .int 0, .int (-1), .int 0, .int 0, .int 0, .int 0]))] H := hP
  have hD : va_D A [(h0, .inr (10, [.ref a0, .int 0, .int 0, .int (-1), .int 0, .int 0, .int 0, .int 0]))] := hD
  refine lv_aload_n hx hb dX10_readToken_12 rfl (lv_at hl 0 rfl) ?_
  refine lv_aload_n hx hb dX10_readToken_13 rfl (lv_at hl 0 rfl) ?_
  refine va_get (D := (dC, dI)) (ci := 10) (v := .int 0) (C := RX10) (T := TX10) (N := 8) hx hb hwd inlX10 hown hK hP 0 rfl rfl 5 (by decide) (hwd _ kr11_8) (fun _ h9 => h9) rfl dX10_readToken_14 ?_
  have hPc := hP.sub (ws' := [(h0, .inr (10, [.ref a0, .int 0, .int 0, .int (-1), .int 0, .int 0, .int 0, .int 0]))]) [0] rfl
  have hDc := hD.sub (ws' := [(h0, .inr (10, [.ref a0, .int 0, .int 0, .int (-1), .int 0, .int 0, .int 0, .int 0]))]) [0] (by decide) rfl
  have hFc := va_free (wc := [(h0, .inr (10, [.ref a0, .int 0, .int 0, .int (-1), .int 0, .int 0, .int 0, .int 0]))]) hD hS hA [0] rfl
  refine va_calli (va_runV (As := [.int 0]) (rest := []) ⟨hx, hb, hml, hown, hwd⟩ (c_X10_byteAt l dC dI cI cZ cB cJ cM h0 a0 H.size) (cwV 1 hwd (gV kr11_14 kr11_15 kr11_16 kr1_15 kr11_17) rfl rfl rfl (by decide +kernel) ⟨Nat.le_of_ble_eq_true rfl, Nat.le_of_ble_eq_true rfl⟩) (kPreV hPc hK hDc (ci := 10) (q0 := 0) rfl rfl) rfl rfl hl.1 rfl (lv_room (Nat.le_of_ble_eq_true rfl)) dX10_readToken_17 ⟨Nat.le_of_ble_eq_true rfl, Nat.le_of_ble_eq_true rfl⟩) hS (fun q _ h => hFc q h) hFc (fun r3 u4 t H1 locs ht9 hvm hw hB hz1 hk1 hS => ?_)
  obtain ⟨hP1, hD1⟩ := hB
  rw [ht9] at hP1
  obtain ⟨hP, hD⟩ := va_join (wr := []) (w1 := [(h0, .inr (10, [.ref a0, .int 0, .int 0, .int (-1), .int 0, .int 0, .int 0, .int 0]))]) hP hD [0] [] rfl rfl (by decide) (by decide) hk1 hFc hP1 hD1
  generalize H1 = H at hP hS ⊢
  have hP : va_P (dC, dI) vwCl [(h0, .inr (10, [.ref a0, .int 0, .int 0, .int (-1), .int 0, .int 0, .int 0, .int 0]))] H := hP
  have hD : va_D A [(h0, .inr (10, [.ref a0, .int 0, .int 0, .int (-1), .int 0, .int 0, .int 0, .int 0]))] := hD
  subst hw
  refine lv_istore_n (lv' := [(1, .int (-1)), (0, .ref h0)]) hx hb dX10_readToken_20 rfl hl (by decide) rfl (fun ls hl => ?_)
  refine lv_iload_n hx hb dX10_readToken_21 rfl (lv_at hl 0 rfl) ?_
  refine lv_iconst (v := (-1)) hx hb dX10_readToken_22 (by decide) ?_
  refine lv_icmp_ne (tgt := 42) hx hb dX10_readToken_23 (by decide) (fun c5 => absurd c5 (by decide)) (fun c5 => ?_)
  refine lv_aload_n hx hb dX10_readToken_26 rfl (lv_at hl 1 rfl) ?_
  refine lv_iconst (v := 0) hx hb dX10_readToken_27 (by decide) ?_
  refine va_put (D := (dC, dI)) (ci := 10) (v := .int 0) (ty := .int) (C := RX10) (T := TX10) (N := 8) hx hb hwd inlX10 tyX10 tyX10_ok nmX10 hown hK hP hD hS 0 rfl rfl 4 (by decide) (hwd _ kr11_9) (fun _ h9 => h9) rfl (by decide +kernel) rfl rfl (Nat.le_of_ble_eq_true rfl) dX10_readToken_28 (fun H locs hP hD hS => ?_)
  have hP : va_P (dC, dI) vwCl [(h0, .inr (10, [.ref a0, .int 0, .int 0, .int (-1), .int 0, .int 0, .int 0, .int 0]))] H := hP
  have hD : va_D A [(h0, .inr (10, [.ref a0, .int 0, .int 0, .int (-1), .int 0, .int 0, .int 0, .int 0]))] := hD
  refine lv_aload_n hx hb dX10_readToken_31 rfl (lv_at hl 1 rfl) ?_
  refine lv_aload_n hx hb dX10_readToken_32 rfl (lv_at hl 1 rfl) ?_
  refine va_get (D := (dC, dI)) (ci := 10) (v := .int 0) (C := RX10) (T := TX10) (N := 8) hx hb hwd inlX10 hown hK hP 0 rfl rfl 5 (by decide) (hwd _ kr11_8) (fun _ h9 => h9) rfl dX10_readToken_33 ?_
  refine va_put (D := (dC, dI)) (ci := 10) (v := .int 0) (ty := .int) (C := RX10) (T := TX10) (N := 8) hx hb hwd inlX10 tyX10 tyX10_ok nmX10 hown hK hP hD hS 0 rfl rfl 6 (by decide) (hwd _ kr11_3) (fun _ h9 => h9) rfl (by decide +kernel) rfl rfl (Nat.le_of_ble_eq_true rfl) dX10_readToken_36 (fun H locs hP hD hS => ?_)
  have hP : va_P (dC, dI) vwCl [(h0, .inr (10, [.ref a0, .int 0, .int 0, .int (-1), .int 0, .int 0, .int 0, .int 0]))] H := hP
  have hD : va_D A [(h0, .inr (10, [.ref a0, .int 0, .int 0, .int (-1), .int 0, .int 0, .int 0, .int 0]))] := hD
  refine lv_goto (tgt := 133) hx hb dX10_readToken_39 (by decide) ?_
  have hP9 := hP.sub (ws' := [(h0, .inr (10, [.ref a0, .int 0, .int 0, .int (-1), .int 0, .int 0, .int 0, .int 0]))]) [0] rfl
  have hD9 := hD.sub (ws' := [(h0, .inr (10, [.ref a0, .int 0, .int 0, .int (-1), .int 0, .int 0, .int 0, .int 0]))]) [0] (by decide) rfl
  exact W.vret hx hb hr (fun t ht hW => ⟨⟨(), rfl, trivial, (by rw [ht]; exact hP9), hD9⟩, hS.F ht⟩) hS.2.2 dX10_readToken_133
set_option maxHeartbeats 4000000 in
set_option maxRecDepth 100000 in
theorem c_X10_beginReading (l : Launch) (dC : Nat → ClassId) (dI : Nat → Nat → Nat) (cI cZ cB cJ cM : ClassId) (h0 a0 : Nat) (sz : Nat) : Met l yX10_beginReading (kw yX10_beginReading cX10_beginReading 1 none) ({ frames := 2, cells := 0, slots := 0, locals := 43 }) (va_Pc [.ref h0] (kPre dC dI [(cI, .int), (cZ, .boolean), (cB, .byte), (cJ, .long), (cM, .object RX2)] [(h0, .inr (10, [.ref a0, .int 0, .int 0, .int (-1), .int 0, .int 0, .int 0, .int 0]))] sz)) (va_Qv (fun _ : Unit => True) (fun _ t => va_P (dC, dI) vwCl [(h0, .inr (10, [.ref a0, .int 0, .int 0, .int (-1), .int 0, .int 0, .int 0, .int 0]))] t.heap ∧ va_D (va_A [(h0, .inr (10, [.ref a0, .int 0, .int 0, .int (-1), .int 0, .int 0, .int 0, .int 0]))] sz) [(h0, .inr (10, [.ref a0, .int 0, .int 0, .int (-1), .int 0, .int 0, .int 0, .int 0]))]) (va_A [(h0, .inr (10, [.ref a0, .int 0, .int 0, .int (-1), .int 0, .int 0, .int 0, .int 0]))] sz)) 0 0 (va_A [(h0, .inr (10, [.ref a0, .int 0, .int 0, .int (-1), .int 0, .int 0, .int 0, .int 0]))] sz) := by
  refine kEnter (by decide) (Nat.le_of_ble_eq_true rfl) ?_
  intro p e s m below meth c ls hx hb hr hml hown hlocks hin hwd hsz hP hK hD hl
  subst hsz
  generalize hAe : va_A [(h0, .inr (10, [.ref a0, .int 0, .int 0, .int (-1), .int 0, .int 0, .int 0, .int 0]))] s.heap.size = A at hD ⊢
  have hA : ∀ q : Nat, s.heap.size ≤ q → A q := fun q h => by rw [← hAe]; exact Or.inr h
  have hS : va_S A s.heap s.heap [] := va_S.rf
  have hl : lv_has ls 1 [(0, .ref h0)] := hl
  refine lv_aload_n hx hb dX10_beginReading_0 rfl (lv_at hl 0 rfl) ?_
  refine lv_iconst (v := 0) hx hb dX10_beginReading_1 (by decide) ?_
  refine va_put (D := (dC, dI)) (ci := 10) (v := .int 0) (ty := .int) (C := RX10) (T := TX10) (N := 8) hx hb hwd inlX10 tyX10 tyX10_ok nmX10 hown hK hP hD hS 0 rfl rfl 2 (by decide) (hwd _ kr11_2) (fun _ h9 => h9) rfl (by decide +kernel) rfl rfl (Nat.le_of_ble_eq_true rfl) dX10_beginReading_2 (fun H locs hP hD hS => ?_)
  have hP : va_P (dC, dI) vwCl [(h0, .inr (10, [.ref a0, .int 0, .int 0, .int (-1), .int 0, .int 0, .int 0, .int 0]))] H := hP
  have hD : va_D A [(h0, .inr (10, [.ref a0, .int 0, .int 0, .int (-1), .int 0, .int 0, .int 0, .int 0]))] := hD
  refine lv_aload_n hx hb dX10_beginReading_5 rfl (lv_at hl 0 rfl) ?_
  refine lv_iconst (v := (-1)) hx hb dX10_beginReading_6 (by decide) ?_
  refine va_put (D := (dC, dI)) (ci := 10) (v := .int (-1)) (ty := .int) (C := RX10) (T := TX10) (N := 8) hx hb hwd inlX10 tyX10 tyX10_ok nmX10 hown hK hP hD hS 0 rfl rfl 3 (by decide) (hwd _ kr3_2) (fun _ h9 => h9) rfl (by decide +kernel) rfl rfl (Nat.le_of_ble_eq_true rfl) dX10_beginReading_7 (fun H locs hP hD hS => ?_)
  have hP : va_P (dC, dI) vwCl [(h0, .inr (10, [.ref a0, .int 0, .int 0, .int (-1), .int 0, .int 0, .int 0, .int 0]))] H := hP
  have hD : va_D A [(h0, .inr (10, [.ref a0, .int 0, .int 0, .int (-1), .int 0, .int 0, .int 0, .int 0]))] := hD
  refine lv_aload_n hx hb dX10_beginReading_10 rfl (lv_at hl 0 rfl) ?_
  refine lv_iconst (v := 0) hx hb dX10_beginReading_11 (by decide) ?_
  refine va_put (D := (dC, dI)) (ci := 10) (v := .int 0) (ty := .int) (C := RX10) (T := TX10) (N := 8) hx hb hwd inlX10 tyX10 tyX10_ok nmX10 hown hK hP hD hS 0 rfl rfl 6 (by decide) (hwd _ kr11_3) (fun _ h9 => h9) rfl (by decide +kernel) rfl rfl (Nat.le_of_ble_eq_true rfl) dX10_beginReading_12 (fun H locs hP hD hS => ?_)
  have hP : va_P (dC, dI) vwCl [(h0, .inr (10, [.ref a0, .int 0, .int 0, .int (-1), .int 0, .int 0, .int 0, .int 0]))] H := hP
  have hD : va_D A [(h0, .inr (10, [.ref a0, .int 0, .int 0, .int (-1), .int 0, .int 0, .int 0, .int 0]))] := hD
  refine lv_aload_n hx hb dX10_beginReading_15 rfl (lv_at hl 0 rfl) ?_
  have hPc := hP.sub (ws' := [(h0, .inr (10, [.ref a0, .int 0, .int 0, .int (-1), .int 0, .int 0, .int 0, .int 0]))]) [0] rfl
  have hDc := hD.sub (ws' := [(h0, .inr (10, [.ref a0, .int 0, .int 0, .int (-1), .int 0, .int 0, .int 0, .int 0]))]) [0] (by decide) rfl
  have hFc := va_free (wc := [(h0, .inr (10, [.ref a0, .int 0, .int 0, .int (-1), .int 0, .int 0, .int 0, .int 0]))]) hD hS hA [0] rfl
  refine va_callv (va_runV (As := []) (rest := []) ⟨hx, hb, hml, hown, hwd⟩ (c_X10_readToken l dC dI cI cZ cB cJ cM h0 a0 H.size) (cwV 0 hwd (gV kr11_4 kr11_5 kr11_6 kr1_15 kr11_7) rfl rfl rfl (by decide +kernel) ⟨Nat.le_of_ble_eq_true rfl, Nat.le_of_ble_eq_true rfl⟩) (kPreV hPc hK hDc (ci := 10) (q0 := 0) rfl rfl) rfl rfl hl.1 rfl (lv_room (Nat.le_of_ble_eq_true rfl)) dX10_beginReading_16 ⟨Nat.le_of_ble_eq_true rfl, Nat.le_of_ble_eq_true rfl⟩) hS (fun q _ h => hFc q h) hFc (fun u2 t H1 locs ht9 hvm hw hB hz1 hk1 hS => ?_)
  obtain ⟨hP1, hD1⟩ := hB
  rw [ht9] at hP1
  obtain ⟨hP, hD⟩ := va_join (wr := []) (w1 := [(h0, .inr (10, [.ref a0, .int 0, .int 0, .int (-1), .int 0, .int 0, .int 0, .int 0]))]) hP hD [0] [] rfl rfl (by decide) (by decide) hk1 hFc hP1 hD1
  generalize H1 = H at hP hS ⊢
  have hP : va_P (dC, dI) vwCl [(h0, .inr (10, [.ref a0, .int 0, .int 0, .int (-1), .int 0, .int 0, .int 0, .int 0]))] H := hP
  have hD : va_D A [(h0, .inr (10, [.ref a0, .int 0, .int 0, .int (-1), .int 0, .int 0, .int 0, .int 0]))] := hD
  have hP9 := hP.sub (ws' := [(h0, .inr (10, [.ref a0, .int 0, .int 0, .int (-1), .int 0, .int 0, .int 0, .int 0]))]) [0] rfl
  have hD9 := hD.sub (ws' := [(h0, .inr (10, [.ref a0, .int 0, .int 0, .int (-1), .int 0, .int 0, .int 0, .int 0]))]) [0] (by decide) rfl
  exact W.vret hx hb hr (fun t ht hW => ⟨⟨(), rfl, trivial, (by rw [ht]; exact hP9), hD9⟩, hS.F ht⟩) hS.2.2 dX10_beginReading_19
