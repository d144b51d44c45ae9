theorem dX10_takeSign_0 : decode cX10_takeSign 0 = .ok (.aload_n 0, 1) := by decide +kernel
theorem dX10_takeSign_1 : decode cX10_takeSign 1 = .ok (.getfield 22, 3) := by decide +kernel
theorem dX10_takeSign_4 : decode cX10_takeSign 4 = .ok (.ifCond .eq 4, 3) := by decide +kernel
theorem dX10_takeSign_7 : decode cX10_takeSign 7 = .ok (.return_, 1) := by decide +kernel
theorem dX10_takeSign_8 : decode cX10_takeSign 8 = .ok (.aload_n 0, 1) := by decide +kernel
theorem dX10_takeSign_9 : decode cX10_takeSign 9 = .ok (.iload_n 1, 1) := by decide +kernel
theorem dX10_takeSign_10 : decode cX10_takeSign 10 = .ok (.invokevirtual 74, 3) := by decide +kernel
theorem dX10_takeSign_13 : decode cX10_takeSign 13 = .ok (.ifCond .eq 10, 3) := by decide +kernel
theorem dX10_takeSign_16 : decode cX10_takeSign 16 = .ok (.aload_n 0, 1) := by decide +kernel
theorem dX10_takeSign_17 : decode cX10_takeSign 17 = .ok (.invokevirtual 28, 3) := by decide +kernel
theorem dX10_takeSign_20 : decode cX10_takeSign 20 = .ok (.goto 8, 3) := by decide +kernel
theorem dX10_takeSign_23 : decode cX10_takeSign 23 = .ok (.aload_n 0, 1) := by decide +kernel
theorem dX10_takeSign_24 : decode cX10_takeSign 24 = .ok (.iconst 1, 1) := by decide +kernel
theorem dX10_takeSign_25 : decode cX10_takeSign 25 = .ok (.invokevirtual 70, 3) := by decide +kernel
theorem dX10_takeSign_28 : decode cX10_takeSign 28 = .ok (.return_, 1) := by decide +kernel
set_option maxHeartbeats 4000000 in
set_option maxRecDepth 100000 in
theorem s_X10_takeSign (l : Launch) (dC : Nat → ClassId) (dI : Nat → Nat → Nat) (cI cZ cB cJ cM cG : ClassId) (a0 a1 : Nat) (i0 i1 i2 i3 i4 i5 i6 : Int32) (xF0 : Nat → Int32) (p0 : Int32) (sz : Nat) (p_0 : (0 : Int) ≤ i0.toInt ∧ i0.toInt ≤ 1600) (p_1 : (0 : Int) ≤ i4.toInt ∧ i4.toInt ≤ 1600) (p_2 : (0 : Int) ≤ i5.toInt ∧ i5.toInt ≤ 1600) : Met l yX10_takeSign (kw yX10_takeSign cX10_takeSign 2 none) ({ frames := 2, cells := 0, slots := 0, locals := 43 } : Room) (va_Pc [.ref a0, .int p0] (kPre dC dI [(cI, .int), (cZ, .boolean), (cB, .byte), (cJ, .long), (cM, .object RX2), (cG, .array .int)] [(a0, .inr (10, [.ref a1, .int i0, .int i1, .int i2, .int i3, .int i4, .int i5, .int i6])), (a1, .inl (cB, 1600, .inl xF0))] sz)) (va_Qv (fun (u9 : (Nat → Int32) × (Nat → Nat → Int32) × (Nat → Nat → Int64)) => ((0 : Int) ≤ (u9.1 3).toInt ∧ (u9.1 3).toInt ≤ 1600) ∧ ((0 : Int) ≤ (u9.1 4).toInt ∧ (u9.1 4).toInt ≤ 1600) ∧ True) (fun u9 t => va_P (dC, dI) vwCl [(a0, .inr (10, [.ref a1, .int i0, .int (u9.1 0), .int (u9.1 1), .int (u9.1 2), .int (u9.1 3), .int (u9.1 4), .int (u9.1 5)])), (a1, .inl (cB, 1600, .inl xF0))] t.heap ∧ va_D (va_A [(a0, .inr (10, [.ref a1, .int i0, .int i1, .int i2, .int i3, .int i4, .int i5, .int i6])), (a1, .inl (cB, 1600, .inl xF0))] sz) [(a0, .inr (10, [.ref a1, .int i0, .int (u9.1 0), .int (u9.1 1), .int (u9.1 2), .int (u9.1 3), .int (u9.1 4), .int (u9.1 5)])), (a1, .inl (cB, 1600, .inl xF0))]) (va_A [(a0, .inr (10, [.ref a1, .int i0, .int i1, .int i2, .int i3, .int i4, .int i5, .int i6])), (a1, .inl (cB, 1600, .inl xF0))] sz)) 0 0 (va_A [(a0, .inr (10, [.ref a1, .int i0, .int i1, .int i2, .int i3, .int i4, .int i5, .int i6])), (a1, .inl (cB, 1600, .inl xF0))] sz) := by
  refine kEnter (by decide) (Nat.le_of_ble_eq_true rfl) ?_
  intro p e s m below meth c ls hx hb hr hml hown hlocks hin hwd hsz hP hK hD hl
  subst hsz
  generalize hAe : va_A [(a0, .inr (10, [.ref a1, .int i0, .int i1, .int i2, .int i3, .int i4, .int i5, .int i6])), (a1, .inl (cB, 1600, .inl xF0))] s.heap.size = A at hD ⊢
  have hA : ∀ q : Nat, s.heap.size ≤ q → A q := fun q h => by rw [← hAe]; exact Or.inr h
  have hS : va_S A s.heap s.heap [] := va_S.rf
  have hl : lv_has ls 2 [(0, .ref a0), (1, .int p0)] := hl
  obtain ⟨Q, hQ⟩ : ∃ Q, Q = MQ below (va_Qv (fun (u9 : (Nat → Int32) × (Nat → Nat → Int32) × (Nat → Nat → Int64)) => ((0 : Int) ≤ (u9.1 3).toInt ∧ (u9.1 3).toInt ≤ 1600) ∧ ((0 : Int) ≤ (u9.1 4).toInt ∧ (u9.1 4).toInt ≤ 1600) ∧ True) (fun u9 t => va_P (dC, dI) vwCl [(a0, .inr (10, [.ref a1, .int i0, .int (u9.1 0), .int (u9.1 1), .int (u9.1 2), .int (u9.1 3), .int (u9.1 4), .int (u9.1 5)])), (a1, .inl (cB, 1600, .inl xF0))] t.heap ∧ va_D A [(a0, .inr (10, [.ref a1, .int i0, .int (u9.1 0), .int (u9.1 1), .int (u9.1 2), .int (u9.1 3), .int (u9.1 4), .int (u9.1 5)])), (a1, .inl (cB, 1600, .inl xF0))]) A) ([.ref a0, .int p0] : List Value).toArray s 0 0 A := ⟨_, rfl⟩
  rw [← hQ]
  have k0 : (0 : Int32).toInt = 0 := by decide
  refine lv_aload_n hx hb dX10_takeSign_0 rfl (lv_at hl 0 rfl) ?_
  refine va_get (D := (dC, dI)) (ci := 10) (v := .int i1) (C := RX10) (T := TX10) (N := 8) hx hb hwd inlX10 hown hK hP 0 rfl rfl 2 (by decide) (hwd _ kr11_2) (fun _ h9 => h9) rfl dX10_takeSign_1 ?_
  refine lv_if_eq (tgt := 8) hx hb dX10_takeSign_4 (by decide) (fun c1 => ?_) (fun c1 => ?_)
  · rw [ki_eq] at c1
    refine lv_aload_n hx hb dX10_takeSign_8 rfl (lv_at hl 0 rfl) ?_
    refine lv_iload_n hx hb dX10_takeSign_9 rfl (lv_at hl 1 rfl) ?_
    have hPc := hP.sub (ws' := [(a0, .inr (10, [.ref a1, .int i0, .int i1, .int i2, .int i3, .int i4, .int i5, .int i6])), (a1, .inl (cB, 1600, .inl xF0))]) [0, 1] rfl
    have hDc := hD.sub (ws' := [(a0, .inr (10, [.ref a1, .int i0, .int i1, .int i2, .int i3, .int i4, .int i5, .int i6])), (a1, .inl (cB, 1600, .inl xF0))]) [0, 1] (by decide) rfl
    have hFc := va_free (wc := [(a0, .inr (10, [.ref a1, .int i0, .int i1, .int i2, .int i3, .int i4, .int i5, .int i6])), (a1, .inl (cB, 1600, .inl xF0))]) hD hS hA [0, 1] rfl
    refine va_calli (va_runV (As := [.int p0]) (rest := []) ⟨hx, hb, hml, hown, hwd⟩ (s_X10_isSign l dC dI cI cZ cB cJ cM cG a0 a1 i0 i1 i2 i3 i4 i5 i6 xF0 p0 s.heap.size (show (0 : Int) ≤ i0.toInt ∧ i0.toInt ≤ 1600 from ⟨by omega, by omega⟩) (show (0 : Int) ≤ i4.toInt ∧ i4.toInt ≤ 1600 from ⟨by omega, by omega⟩) (show (0 : Int) ≤ i5.toInt ∧ i5.toInt ≤ 1600 from ⟨by omega, by omega⟩)) (cwV 1 hwd (gV kr18_1 kr18_2 kr18_3 kr1_15 kr18_4) rfl rfl rfl (by decide +kernel) ⟨Nat.le_of_ble_eq_true rfl, Nat.le_of_ble_eq_true rfl⟩) (kPreV hPc hK hDc (ci := 10) (q0 := 0) rfl rfl) rfl rfl hl.1 rfl (lv_room (Nat.le_of_ble_eq_true rfl)) dX10_takeSign_10 ⟨Nat.le_of_ble_eq_true rfl, Nat.le_of_ble_eq_true rfl⟩) hS (fun q _ h => hFc q h) hFc (fun r2 u3 t H1 locs ht9 hvm hw hB hz1 hk1 hS => ?_)
    obtain ⟨hw4, -⟩ := hw
    have hw4 : (0 : Int) ≤ r2.toInt ∧ r2.toInt ≤ 1 := hw4
    obtain ⟨hP1, hD1⟩ := hB
    rw [ht9] at hP1
    obtain ⟨hP, hD⟩ := va_join (wr := []) (w1 := [(a0, .inr (10, [.ref a1, .int i0, .int i1, .int i2, .int i3, .int i4, .int i5, .int i6])), (a1, .inl (cB, 1600, .inl xF0))]) hP hD [0, 1] [] rfl rfl (by decide) (by decide) hk1 hFc hP1 hD1
    generalize H1 = H at hP hS ⊢
    have hP : va_P (dC, dI) vwCl [(a0, .inr (10, [.ref a1, .int i0, .int i1, .int i2, .int i3, .int i4, .int i5, .int i6])), (a1, .inl (cB, 1600, .inl xF0))] H := hP
    have hD : va_D A [(a0, .inr (10, [.ref a1, .int i0, .int i1, .int i2, .int i3, .int i4, .int i5, .int i6])), (a1, .inl (cB, 1600, .inl xF0))] := hD
    refine lv_if_eq (tgt := 23) hx hb dX10_takeSign_13 (by decide) (fun c5 => ?_) (fun c5 => ?_)
    · rw [ki_eq] at c5
      refine lv_aload_n hx hb dX10_takeSign_23 rfl (lv_at hl 0 rfl) ?_
      refine lv_iconst (v := 1) hx hb dX10_takeSign_24 (by decide) ?_
      have hPc := hP.sub (ws' := [(a0, .inr (10, [.ref a1, .int i0, .int i1, .int i2, .int i3, .int i4, .int i5, .int i6]))]) [0] rfl
      have hDc := hD.sub (ws' := [(a0, .inr (10, [.ref a1, .int i0, .int i1, .int i2, .int i3, .int i4, .int i5, .int i6]))]) [0] (by decide) rfl
      have hFc := va_free (wc := [(a0, .inr (10, [.ref a1, .int i0, .int i1, .int i2, .int i3, .int i4, .int i5, .int i6]))]) hD hS hA [0] rfl
      refine va_callv (va_runV (As := [.int 1]) (rest := []) ⟨hx, hb, hml, hown, hwd⟩ (s_X10_blame l dC dI cI cZ cB cJ cM cG a0 a1 i0 i1 i2 i3 i4 i5 i6 1 H.size (show (0 : Int) ≤ i0.toInt ∧ i0.toInt ≤ 1600 from ⟨by omega, by omega⟩) (show (0 : Int) ≤ i4.toInt ∧ i4.toInt ≤ 1600 from ⟨by omega, by omega⟩) (show (0 : Int) ≤ i5.toInt ∧ i5.toInt ≤ 1600 from ⟨by omega, by omega⟩)) (cwV 1 hwd (gV kr15_11 kr15_12 kr15_13 kr1_15 kr15_14) rfl rfl rfl (by decide +kernel) ⟨Nat.le_of_ble_eq_true rfl, Nat.le_of_ble_eq_true rfl⟩) (kPreV hPc hK hDc (ci := 10) (q0 := 0) rfl rfl) rfl rfl hl.1 rfl (lv_room (Nat.le_of_ble_eq_true rfl)) dX10_takeSign_25 ⟨Nat.le_of_ble_eq_true rfl, Nat.le_of_ble_eq_true rfl⟩) hS (fun q _ h => hFc q h) hFc (fun u7 t H1 locs ht9 hvm hw hB hz1 hk1 hS => ?_)
      obtain ⟨u8, U8, V8⟩ := u7
      obtain ⟨hP1, hD1⟩ := hB
      rw [ht9] at hP1
      obtain ⟨hP, hD⟩ := va_join (wr := [(a1, .inl (cB, 1600, .inl xF0))]) (w1 := [(a0, .inr (10, [.ref a1, .int i0, .int (u8 0), .int (u8 1), .int i3, .int i4, .int i5, .int i6]))]) hP hD [0] [1] rfl rfl (by decide) (by decide) hk1 hFc hP1 hD1
      generalize H1 = H at hP hS ⊢
      have hP : va_P (dC, dI) vwCl [(a1, .inl (cB, 1600, .inl xF0)), (a0, .inr (10, [.ref a1, .int i0, .int (u8 0), .int (u8 1), .int i3, .int i4, .int i5, .int i6]))] H := hP
      have hD : va_D A [(a1, .inl (cB, 1600, .inl xF0)), (a0, .inr (10, [.ref a1, .int i0, .int (u8 0), .int (u8 1), .int i3, .int i4, .int i5, .int i6]))] := hD
      have hP9 := hP.sub (ws' := [(a0, .inr (10, [.ref a1, .int i0, .int (u8 0), .int (u8 1), .int i3, .int i4, .int i5, .int i6])), (a1, .inl (cB, 1600, .inl xF0))]) [1, 0] rfl
      have hD9 := hD.sub (ws' := [(a0, .inr (10, [.ref a1, .int i0, .int (u8 0), .int (u8 1), .int i3, .int i4, .int i5, .int i6])), (a1, .inl (cB, 1600, .inl xF0))]) [1, 0] (by decide) rfl
      rw [hQ]
      exact W.vret hx hb hr (fun t ht hW => ⟨⟨(pickG 0 [(u8 0), (u8 1), i3, i4, i5, i6], pickG (fun _ => 0) [], pickG (fun _ => 0) []), rfl, ⟨(show (0 : Int) ≤ i4.toInt ∧ i4.toInt ≤ 1600 from ⟨by omega, by omega⟩), (show (0 : Int) ≤ i5.toInt ∧ i5.toInt ≤ 1600 from ⟨by omega, by omega⟩), trivial⟩, (by rw [ht]; exact hP9), hD9⟩, hS.F ht⟩) hS.2.2 dX10_takeSign_28
    · rw [ki_eq] at c5
      refine lv_aload_n hx hb dX10_takeSign_16 rfl (lv_at hl 0 rfl) ?_
      have hPc := hP.sub (ws' := [(a0, .inr (10, [.ref a1, .int i0, .int i1, .int i2, .int i3, .int i4, .int i5, .int i6])), (a1, .inl (cB, 1600, .inl xF0))]) [0, 1] rfl
      have hDc := hD.sub (ws' := [(a0, .inr (10, [.ref a1, .int i0, .int i1, .int i2, .int i3, .int i4, .int i5, .int i6])), (a1, .inl (cB, 1600, .inl xF0))]) [0, 1] (by decide) rfl
      have hFc := va_free (wc := [(a0, .inr (10, [.ref a1, .int i0, .int i1, .int i2, .int i3, .int i4, .int i5, .int i6])), (a1, .inl (cB, 1600, .inl xF0))]) hD hS hA [0, 1] rfl
      refine va_callv (va_runV (As := []) (rest := []) ⟨hx, hb, hml, hown, hwd⟩ (s_X10_readToken l dC dI cI cZ cB cJ cM cG a0 a1 i0 i1 i2 i3 i4 i5 i6 xF0 H.size (show (0 : Int) ≤ i0.toInt ∧ i0.toInt ≤ 1600 from ⟨by omega, by omega⟩) (show (0 : Int) ≤ i4.toInt ∧ i4.toInt ≤ 1600 from ⟨by omega, by omega⟩) (show (0 : Int) ≤ i5.toInt ∧ i5.toInt ≤ 1600 from ⟨by omega, by omega⟩)) (cwV 0 hwd (gV kr11_4 kr11_5 kr11_6 kr1_15 kr11_7) rfl rfl rfl (by decide +kernel) ⟨Nat.le_of_ble_eq_true rfl, Nat.le_of_ble_eq_true rfl⟩) (kPreV hPc hK hDc (ci := 10) (q0 := 0) rfl rfl) rfl rfl hl.1 rfl (lv_room (Nat.le_of_ble_eq_true rfl)) dX10_takeSign_17 ⟨Nat.le_of_ble_eq_true rfl, Nat.le_of_ble_eq_true rfl⟩) hS (fun q _ h => hFc q h) hFc (fun u10 t H1 locs ht9 hvm hw hB hz1 hk1 hS => ?_)
      obtain ⟨u11, U11, V11⟩ := u10
      obtain ⟨hw12, hw13, -⟩ := hw
      have hw12 : (0 : Int) ≤ (u11 1).toInt ∧ (u11 1).toInt ≤ 1600 := hw12
      have hw13 : (0 : Int) ≤ (u11 2).toInt ∧ (u11 2).toInt ≤ 1600 := hw13
      obtain ⟨hP1, hD1⟩ := hB
      rw [ht9] at hP1
      obtain ⟨hP, hD⟩ := va_join (wr := []) (w1 := [(a0, .inr (10, [.ref a1, .int i0, .int i1, .int i2, .int (u11 0), .int (u11 1), .int (u11 2), .int (u11 3)])), (a1, .inl (cB, 1600, .inl xF0))]) hP hD [0, 1] [] rfl rfl (by decide) (by decide) hk1 hFc hP1 hD1
      generalize H1 = H at hP hS ⊢
      have hP : va_P (dC, dI) vwCl [(a0, .inr (10, [.ref a1, .int i0, .int i1, .int i2, .int (u11 0), .int (u11 1), .int (u11 2), .int (u11 3)])), (a1, .inl (cB, 1600, .inl xF0))] H := hP
      have hD : va_D A [(a0, .inr (10, [.ref a1, .int i0, .int i1, .int i2, .int (u11 0), .int (u11 1), .int (u11 2), .int (u11 3)])), (a1, .inl (cB, 1600, .inl xF0))] := hD
      refine lv_goto (tgt := 28) hx hb dX10_takeSign_20 (by decide) ?_
      have hP9 := hP.sub (ws' := [(a0, .inr (10, [.ref a1, .int i0, .int i1, .int i2, .int (u11 0), .int (u11 1), .int (u11 2), .int (u11 3)])), (a1, .inl (cB, 1600, .inl xF0))]) [0, 1] rfl
      have hD9 := hD.sub (ws' := [(a0, .inr (10, [.ref a1, .int i0, .int i1, .int i2, .int (u11 0), .int (u11 1), .int (u11 2), .int (u11 3)])), (a1, .inl (cB, 1600, .inl xF0))]) [0, 1] (by decide) rfl
      rw [hQ]
      exact W.vret hx hb hr (fun t ht hW => ⟨⟨(pickG 0 [i1, i2, (u11 0), (u11 1), (u11 2), (u11 3)], pickG (fun _ => 0) [], pickG (fun _ => 0) []), rfl, ⟨(show (0 : Int) ≤ (u11 1).toInt ∧ (u11 1).toInt ≤ 1600 from ⟨by omega, by omega⟩), (show (0 : Int) ≤ (u11 2).toInt ∧ (u11 2).toInt ≤ 1600 from ⟨by omega, by omega⟩), trivial⟩, (by rw [ht]; exact hP9), hD9⟩, hS.F ht⟩) hS.2.2 dX10_takeSign_28
  · rw [ki_eq] at c1
    have hP9 := hP.sub (ws' := [(a0, .inr (10, [.ref a1, .int i0, .int i1, .int i2, .int i3, .int i4, .int i5, .int i6])), (a1, .inl (cB, 1600, .inl xF0))]) [0, 1] rfl
    have hD9 := hD.sub (ws' := [(a0, .inr (10, [.ref a1, .int i0, .int i1, .int i2, .int i3, .int i4, .int i5, .int i6])), (a1, .inl (cB, 1600, .inl xF0))]) [0, 1] (by decide) rfl
    rw [hQ]
    exact W.vret hx hb hr (fun t ht hW => ⟨⟨(pickG 0 [i1, i2, i3, i4, i5, i6], pickG (fun _ => 0) [], pickG (fun _ => 0) []), rfl, ⟨(show (0 : Int) ≤ i4.toInt ∧ i4.toInt ≤ 1600 from ⟨by omega, by omega⟩), (show (0 : Int) ≤ i5.toInt ∧ i5.toInt ≤ 1600 from ⟨by omega, by omega⟩), trivial⟩, (by rw [ht]; exact hP9), hD9⟩, hS.F ht⟩) hS.2.2 dX10_takeSign_7
theorem dX10_takeNumber_0 : decode cX10_takeNumber 0 = .ok (.aload_n 0, 1) := by decide +kernel
theorem dX10_takeNumber_1 : decode cX10_takeNumber 1 = .ok (.getfield 22, 3) := by decide +kernel
theorem dX10_takeNumber_4 : decode cX10_takeNumber 4 = .ok (.ifCond .eq 5, 3) := by decide +kernel
theorem dX10_takeNumber_7 : decode cX10_takeNumber 7 = .ok (.iload_n 1, 1) := by decide +kernel
theorem dX10_takeNumber_8 : decode cX10_takeNumber 8 = .ok (.ireturn, 1) := by decide +kernel
theorem dX10_takeNumber_9 : decode cX10_takeNumber 9 = .ok (.aload_n 0, 1) := by decide +kernel
theorem dX10_takeNumber_10 : decode cX10_takeNumber 10 = .ok (.getfield 31, 3) := by decide +kernel
theorem dX10_takeNumber_13 : decode cX10_takeNumber 13 = .ok (.iconst 2, 1) := by decide +kernel
theorem dX10_takeNumber_14 : decode cX10_takeNumber 14 = .ok (.if_icmp .eq 10, 3) := by decide +kernel
theorem dX10_takeNumber_17 : decode cX10_takeNumber 17 = .ok (.aload_n 0, 1) := by decide +kernel
theorem dX10_takeNumber_18 : decode cX10_takeNumber 18 = .ok (.iconst 1, 1) := by decide +kernel
theorem dX10_takeNumber_19 : decode cX10_takeNumber 19 = .ok (.invokevirtual 70, 3) := by decide +kernel
theorem dX10_takeNumber_22 : decode cX10_takeNumber 22 = .ok (.iload_n 1, 1) := by decide +kernel
theorem dX10_takeNumber_23 : decode cX10_takeNumber 23 = .ok (.ireturn, 1) := by decide +kernel
theorem dX10_takeNumber_24 : decode cX10_takeNumber 24 = .ok (.aload_n 0, 1) := by decide +kernel
theorem dX10_takeNumber_25 : decode cX10_takeNumber 25 = .ok (.getfield 78, 3) := by decide +kernel
theorem dX10_takeNumber_28 : decode cX10_takeNumber 28 = .ok (.iload_n 1, 1) := by decide +kernel
theorem dX10_takeNumber_29 : decode cX10_takeNumber 29 = .ok (.if_icmp .lt 11, 3) := by decide +kernel
theorem dX10_takeNumber_32 : decode cX10_takeNumber 32 = .ok (.aload_n 0, 1) := by decide +kernel
theorem dX10_takeNumber_33 : decode cX10_takeNumber 33 = .ok (.getfield 78, 3) := by decide +kernel
theorem dX10_takeNumber_36 : decode cX10_takeNumber 36 = .ok (.iload_n 2, 1) := by decide +kernel
theorem dX10_takeNumber_37 : decode cX10_takeNumber 37 = .ok (.if_icmp .le 10, 3) := by decide +kernel
theorem dX10_takeNumber_40 : decode cX10_takeNumber 40 = .ok (.aload_n 0, 1) := by decide +kernel
theorem dX10_takeNumber_41 : decode cX10_takeNumber 41 = .ok (.iconst 2, 1) := by decide +kernel
theorem dX10_takeNumber_42 : decode cX10_takeNumber 42 = .ok (.invokevirtual 70, 3) := by decide +kernel
theorem dX10_takeNumber_45 : decode cX10_takeNumber 45 = .ok (.iload_n 1, 1) := by decide +kernel
theorem dX10_takeNumber_46 : decode cX10_takeNumber 46 = .ok (.ireturn, 1) := by decide +kernel
theorem dX10_takeNumber_47 : decode cX10_takeNumber 47 = .ok (.aload_n 0, 1) := by decide +kernel
theorem dX10_takeNumber_48 : decode cX10_takeNumber 48 = .ok (.getfield 78, 3) := by decide +kernel
theorem dX10_takeNumber_51 : decode cX10_takeNumber 51 = .ok (.istore_n 3, 1) := by decide +kernel
theorem dX10_takeNumber_52 : decode cX10_takeNumber 52 = .ok (.aload_n 0, 1) := by decide +kernel
theorem dX10_takeNumber_53 : decode cX10_takeNumber 53 = .ok (.invokevirtual 28, 3) := by decide +kernel
theorem dX10_takeNumber_56 : decode cX10_takeNumber 56 = .ok (.iload_n 3, 1) := by decide +kernel
theorem dX10_takeNumber_57 : decode cX10_takeNumber 57 = .ok (.ireturn, 1) := by decide +kernel
set_option maxHeartbeats 4000000 in
set_option maxRecDepth 100000 in
theorem s_X10_takeNumber (l : Launch) (dC : Nat → ClassId) (dI : Nat → Nat → Nat) (cI cZ cB cJ cM cG : ClassId) (a0 a1 : Nat) (i0 i1 i2 i3 i4 i5 i6 : Int32) (xF0 : Nat → Int32) (p0 p1 : Int32) (sz : Nat) (p_0 : (0 : Int) ≤ i0.toInt ∧ i0.toInt ≤ 1600) (p_1 : (0 : Int) ≤ i4.toInt ∧ i4.toInt ≤ 1600) (p_2 : (0 : Int) ≤ i5.toInt ∧ i5.toInt ≤ 1600) : Met l yX10_takeNumber (kw yX10_takeNumber cX10_takeNumber 4 (some .int)) ({ frames := 2, cells := 0, slots := 0, locals := 43 } : Room) (va_Pc [.ref a0, .int p0, .int p1] (kPre dC dI [(cI, .int), (cZ, .boolean), (cB, .byte), (cJ, .long), (cM, .object RX2), (cG, .array .int)] [(a0, .inr (10, [.ref a1, .int i0, .int i1, .int i2, .int i3, .int i4, .int i5, .int i6])), (a1, .inl (cB, 1600, .inl xF0))] sz)) (va_Qi (fun (r : Int32) (u9 : (Nat → Int32) × (Nat → Nat → Int32) × (Nat → Nat → Int64)) => (p0.toInt ≤ r.toInt ∧ (r.toInt ≤ p0.toInt ∨ r.toInt ≤ p1.toInt)) ∧ ((0 : Int) ≤ (u9.1 3).toInt ∧ (u9.1 3).toInt ≤ 1600) ∧ ((0 : Int) ≤ (u9.1 4).toInt ∧ (u9.1 4).toInt ≤ 1600) ∧ True) (fun u9 t => va_P (dC, dI) vwCl [(a0, .inr (10, [.ref a1, .int i0, .int (u9.1 0), .int (u9.1 1), .int (u9.1 2), .int (u9.1 3), .int (u9.1 4), .int (u9.1 5)])), (a1, .inl (cB, 1600, .inl xF0))] t.heap ∧ va_D (va_A [(a0, .inr (10, [.ref a1, .int i0, .int i1, .int i2, .int i3, .int i4, .int i5, .int i6])), (a1, .inl (cB, 1600, .inl xF0))] sz) [(a0, .inr (10, [.ref a1, .int i0, .int (u9.1 0), .int (u9.1 1), .int (u9.1 2), .int (u9.1 3), .int (u9.1 4), .int (u9.1 5)])), (a1, .inl (cB, 1600, .inl xF0))]) (va_A [(a0, .inr (10, [.ref a1, .int i0, .int i1, .int i2, .int i3, .int i4, .int i5, .int i6])), (a1, .inl (cB, 1600, .inl xF0))] sz)) 0 0 (va_A [(a0, .inr (10, [.ref a1, .int i0, .int i1, .int i2, .int i3, .int i4, .int i5, .int i6])), (a1, .inl (cB, 1600, .inl xF0))] sz) := by
  refine kEnter (by decide) (Nat.le_of_ble_eq_true rfl) ?_
  intro p e s m below meth c ls hx hb hr hml hown hlocks hin hwd hsz hP hK hD hl
  subst hsz
  generalize hAe : va_A [(a0, .inr (10, [.ref a1, .int i0, .int i1, .int i2, .int i3, .int i4, .int i5, .int i6])), (a1, .inl (cB, 1600, .inl xF0))] s.heap.size = A at hD ⊢
  have hA : ∀ q : Nat, s.heap.size ≤ q → A q := fun q h => by rw [← hAe]; exact Or.inr h
  have hS : va_S A s.heap s.heap [] := va_S.rf
  have hl : lv_has ls 4 [(0, .ref a0), (1, .int p0), (2, .int p1)] := hl
  obtain ⟨Q, hQ⟩ : ∃ Q, Q = MQ below (va_Qi (fun (r : Int32) (u9 : (Nat → Int32) × (Nat → Nat → Int32) × (Nat → Nat → Int64)) => (p0.toInt ≤ r.toInt ∧ (r.toInt ≤ p0.toInt ∨ r.toInt ≤ p1.toInt)) ∧ ((0 : Int) ≤ (u9.1 3).toInt ∧ (u9.1 3).toInt ≤ 1600) ∧ ((0 : Int) ≤ (u9.1 4).toInt ∧ (u9.1 4).toInt ≤ 1600) ∧ True) (fun u9 t => va_P (dC, dI) vwCl [(a0, .inr (10, [.ref a1, .int i0, .int (u9.1 0), .int (u9.1 1), .int (u9.1 2), .int (u9.1 3), .int (u9.1 4), .int (u9.1 5)])), (a1, .inl (cB, 1600, .inl xF0))] t.heap ∧ va_D A [(a0, .inr (10, [.ref a1, .int i0, .int (u9.1 0), .int (u9.1 1), .int (u9.1 2), .int (u9.1 3), .int (u9.1 4), .int (u9.1 5)])), (a1, .inl (cB, 1600, .inl xF0))]) A) ([.ref a0, .int p0, .int p1] : List Value).toArray s 0 0 A := ⟨_, rfl⟩
  rw [← hQ]
  have k0 : (0 : Int32).toInt = 0 := by decide
  have k2 : (2 : Int32).toInt = 2 := by decide
  refine lv_aload_n hx hb dX10_takeNumber_0 rfl (lv_at hl 0 rfl) ?_
  refine va_get (D := (dC, dI)) (ci := 10) (v := .int i1) (C := RX10) (T := TX10) (N := 8) hx hb hwd inlX10 hown hK hP 0 rfl rfl 2 (by decide) (hwd _ kr11_2) (fun _ h9 => h9) rfl dX10_takeNumber_1 ?_
  refine lv_if_eq (tgt := 9) hx hb dX10_takeNumber_4 (by decide) (fun c1 => ?_) (fun c1 => ?_)
  · rw [ki_eq] at c1
    refine lv_aload_n hx hb dX10_takeNumber_9 rfl (lv_at hl 0 rfl) ?_
    refine va_get (D := (dC, dI)) (ci := 10) (v := .int i3) (C := RX10) (T := TX10) (N := 8) hx hb hwd inlX10 hown hK hP 0 rfl rfl 4 (by decide) (hwd _ kr11_9) (fun _ h9 => h9) rfl dX10_takeNumber_10 ?_
    refine lv_iconst (v := 2) hx hb dX10_takeNumber_13 (by decide) ?_
    refine lv_icmp_eq (tgt := 24) hx hb dX10_takeNumber_14 (by decide) (fun c2 => ?_) (fun c2 => ?_)
    · rw [ki_eq] at c2
      refine lv_aload_n hx hb dX10_takeNumber_24 rfl (lv_at hl 0 rfl) ?_
      refine va_get (D := (dC, dI)) (ci := 10) (v := .int i6) (C := RX10) (T := TX10) (N := 8) hx hb hwd inlX10 hown hK hP 0 rfl rfl 7 (by decide) (hwd _ kr12_8) (fun _ h9 => h9) rfl dX10_takeNumber_25 ?_
      refine lv_iload_n hx hb dX10_takeNumber_28 rfl (lv_at hl 1 rfl) ?_
      refine lv_icmp_lt (tgt := 40) hx hb dX10_takeNumber_29 (by decide) (fun c3 => ?_) (fun c3 => ?_)
      · rw [ki_lt] at c3
        refine lv_aload_n hx hb dX10_takeNumber_40 rfl (lv_at hl 0 rfl) ?_
        refine lv_iconst (v := 2) hx hb dX10_takeNumber_41 (by decide) ?_
        have hPc := hP.sub (ws' := [(a0, .inr (10, [.ref a1, .int i0, .int i1, .int i2, .int i3, .int i4, .int i5, .int i6]))]) [0] rfl
        have hDc := hD.sub (ws' := [(a0, .inr (10, [.ref a1, .int i0, .int i1, .int i2, .int i3, .int i4, .int i5, .int i6]))]) [0] (by decide) rfl
        have hFc := va_free (wc := [(a0, .inr (10, [.ref a1, .int i0, .int i1, .int i2, .int i3, .int i4, .int i5, .int i6]))]) hD hS hA [0] rfl
        refine va_callv (va_runV (As := [.int 2]) (rest := []) ⟨hx, hb, hml, hown, hwd⟩ (s_X10_blame l dC dI cI cZ cB cJ cM cG a0 a1 i0 i1 i2 i3 i4 i5 i6 2 s.heap.size (show (0 : Int) ≤ i0.toInt ∧ i0.toInt ≤ 1600 from ⟨by omega, by omega⟩) (show (0 : Int) ≤ i4.toInt ∧ i4.toInt ≤ 1600 from ⟨by omega, by omega⟩) (show (0 : Int) ≤ i5.toInt ∧ i5.toInt ≤ 1600 from ⟨by omega, by omega⟩)) (cwV 1 hwd (gV kr15_11 kr15_12 kr15_13 kr1_15 kr15_14) rfl rfl rfl (by decide +kernel) ⟨Nat.le_of_ble_eq_true rfl, Nat.le_of_ble_eq_true rfl⟩) (kPreV hPc hK hDc (ci := 10) (q0 := 0) rfl rfl) rfl rfl hl.1 rfl (lv_room (Nat.le_of_ble_eq_true rfl)) dX10_takeNumber_42 ⟨Nat.le_of_ble_eq_true rfl, Nat.le_of_ble_eq_true rfl⟩) hS (fun q _ h => hFc q h) hFc (fun u5 t H1 locs ht9 hvm hw hB hz1 hk1 hS => ?_)
        obtain ⟨u6, U6, V6⟩ := u5
        obtain ⟨hP1, hD1⟩ := hB
        rw [ht9] at hP1
        obtain ⟨hP, hD⟩ := va_join (wr := [(a1, .inl (cB, 1600, .inl xF0))]) (w1 := [(a0, .inr (10, [.ref a1, .int i0, .int (u6 0), .int (u6 1), .int i3, .int i4, .int i5, .int i6]))]) hP hD [0] [1] rfl rfl (by decide) (by decide) hk1 hFc hP1 hD1
        generalize H1 = H at hP hS ⊢
        have hP : va_P (dC, dI) vwCl [(a1, .inl (cB, 1600, .inl xF0)), (a0, .inr (10, [.ref a1, .int i0, .int (u6 0), .int (u6 1), .int i3, .int i4, .int i5, .int i6]))] H := hP
        have hD : va_D A [(a1, .inl (cB, 1600, .inl xF0)), (a0, .inr (10, [.ref a1, .int i0, .int (u6 0), .int (u6 1), .int i3, .int i4, .int i5, .int i6]))] := hD
        refine lv_iload_n hx hb dX10_takeNumber_45 rfl (lv_at hl 1 rfl) ?_
        have hP9 := hP.sub (ws' := [(a0, .inr (10, [.ref a1, .int i0, .int (u6 0), .int (u6 1), .int i3, .int i4, .int i5, .int i6])), (a1, .inl (cB, 1600, .inl xF0))]) [1, 0] rfl
        have hD9 := hD.sub (ws' := [(a0, .inr (10, [.ref a1, .int i0, .int (u6 0), .int (u6 1), .int i3, .int i4, .int i5, .int i6])), (a1, .inl (cB, 1600, .inl xF0))]) [1, 0] (by decide) rfl
        rw [hQ]
        exact W.iret (v := p0) hx hb hr (fun t ht hW => ⟨⟨p0, (pickG 0 [(u6 0), (u6 1), i3, i4, i5, i6], pickG (fun _ => 0) [], pickG (fun _ => 0) []), rfl, ⟨(show p0.toInt ≤ p0.toInt ∧ (p0.toInt ≤ p0.toInt ∨ p0.toInt ≤ p1.toInt) from by omega), (show (0 : Int) ≤ i4.toInt ∧ i4.toInt ≤ 1600 from ⟨by omega, by omega⟩), (show (0 : Int) ≤ i5.toInt ∧ i5.toInt ≤ 1600 from ⟨by omega, by omega⟩), trivial⟩, (by rw [ht]; exact hP9), hD9⟩, hS.F ht⟩) hS.2.2 dX10_takeNumber_46
      · rw [ki_lt] at c3
        refine lv_aload_n hx hb dX10_takeNumber_32 rfl (lv_at hl 0 rfl) ?_
        refine va_get (D := (dC, dI)) (ci := 10) (v := .int i6) (C := RX10) (T := TX10) (N := 8) hx hb hwd inlX10 hown hK hP 0 rfl rfl 7 (by decide) (hwd _ kr12_8) (fun _ h9 => h9) rfl dX10_takeNumber_33 ?_
        refine lv_iload_n hx hb dX10_takeNumber_36 rfl (lv_at hl 2 rfl) ?_
        refine lv_icmp_le (tgt := 47) hx hb dX10_takeNumber_37 (by decide) (fun c7 => ?_) (fun c7 => ?_)
        · rw [ki_le] at c7
          refine lv_aload_n hx hb dX10_takeNumber_47 rfl (lv_at hl 0 rfl) ?_
          refine va_get (D := (dC, dI)) (ci := 10) (v := .int i6) (C := RX10) (T := TX10) (N := 8) hx hb hwd inlX10 hown hK hP 0 rfl rfl 7 (by decide) (hwd _ kr12_8) (fun _ h9 => h9) rfl dX10_takeNumber_48 ?_
          refine lv_istore_n (lv' := [(3, .int i6), (0, .ref a0), (1, .int p0), (2, .int p1)]) hx hb dX10_takeNumber_51 rfl hl (by decide) rfl (fun ls hl => ?_)
          refine lv_aload_n hx hb dX10_takeNumber_52 rfl (lv_at hl 1 rfl) ?_
          have hPc := hP.sub (ws' := [(a0, .inr (10, [.ref a1, .int i0, .int i1, .int i2, .int i3, .int i4, .int i5, .int i6])), (a1, .inl (cB, 1600, .inl xF0))]) [0, 1] rfl
          have hDc := hD.sub (ws' := [(a0, .inr (10, [.ref a1, .int i0, .int i1, .int i2, .int i3, .int i4, .int i5, .int i6])), (a1, .inl (cB, 1600, .inl xF0))]) [0, 1] (by decide) rfl
          have hFc := va_free (wc := [(a0, .inr (10, [.ref a1, .int i0, .int i1, .int i2, .int i3, .int i4, .int i5, .int i6])), (a1, .inl (cB, 1600, .inl xF0))]) hD hS hA [0, 1] rfl
          refine va_callv (va_runV (As := []) (rest := []) ⟨hx, hb, hml, hown, hwd⟩ (s_X10_readToken l dC dI cI cZ cB cJ cM cG a0 a1 i0 i1 i2 i3 i4 i5 i6 xF0 s.heap.size (show (0 : Int) ≤ i0.toInt ∧ i0.toInt ≤ 1600 from ⟨by omega, by omega⟩) (show (0 : Int) ≤ i4.toInt ∧ i4.toInt ≤ 1600 from ⟨by omega, by omega⟩) (show (0 : Int) ≤ i5.toInt ∧ i5.toInt ≤ 1600 from ⟨by omega, by omega⟩)) (cwV 0 hwd (gV kr11_4 kr11_5 kr11_6 kr1_15 kr11_7) rfl rfl rfl (by decide +kernel) ⟨Nat.le_of_ble_eq_true rfl, Nat.le_of_ble_eq_true rfl⟩) (kPreV hPc hK hDc (ci := 10) (q0 := 0) rfl rfl) rfl rfl hl.1 rfl (lv_room (Nat.le_of_ble_eq_true rfl)) dX10_takeNumber_53 ⟨Nat.le_of_ble_eq_true rfl, Nat.le_of_ble_eq_true rfl⟩) hS (fun q _ h => hFc q h) hFc (fun u9 t H1 locs ht9 hvm hw hB hz1 hk1 hS => ?_)
          obtain ⟨u10, U10, V10⟩ := u9
          obtain ⟨hw11, hw12, -⟩ := hw
          have hw11 : (0 : Int) ≤ (u10 1).toInt ∧ (u10 1).toInt ≤ 1600 := hw11
          have hw12 : (0 : Int) ≤ (u10 2).toInt ∧ (u10 2).toInt ≤ 1600 := hw12
          obtain ⟨hP1, hD1⟩ := hB
          rw [ht9] at hP1
          obtain ⟨hP, hD⟩ := va_join (wr := []) (w1 := [(a0, .inr (10, [.ref a1, .int i0, .int i1, .int i2, .int (u10 0), .int (u10 1), .int (u10 2), .int (u10 3)])), (a1, .inl (cB, 1600, .inl xF0))]) hP hD [0, 1] [] rfl rfl (by decide) (by decide) hk1 hFc hP1 hD1
          generalize H1 = H at hP hS ⊢
          have hP : va_P (dC, dI) vwCl [(a0, .inr (10, [.ref a1, .int i0, .int i1, .int i2, .int (u10 0), .int (u10 1), .int (u10 2), .int (u10 3)])), (a1, .inl (cB, 1600, .inl xF0))] H := hP
          have hD : va_D A [(a0, .inr (10, [.ref a1, .int i0, .int i1, .int i2, .int (u10 0), .int (u10 1), .int (u10 2), .int (u10 3)])), (a1, .inl (cB, 1600, .inl xF0))] := hD
          refine lv_iload_n hx hb dX10_takeNumber_56 rfl (lv_at hl 0 rfl) ?_
          have hP9 := hP.sub (ws' := [(a0, .inr (10, [.ref a1, .int i0, .int i1, .int i2, .int (u10 0), .int (u10 1), .int (u10 2), .int (u10 3)])), (a1, .inl (cB, 1600, .inl xF0))]) [0, 1] rfl
          have hD9 := hD.sub (ws' := [(a0, .inr (10, [.ref a1, .int i0, .int i1, .int i2, .int (u10 0), .int (u10 1), .int (u10 2), .int (u10 3)])), (a1, .inl (cB, 1600, .inl xF0))]) [0, 1] (by decide) rfl
          rw [hQ]
          exact W.iret (v := i6) hx hb hr (fun t ht hW => ⟨⟨i6, (pickG 0 [i1, i2, (u10 0), (u10 1), (u10 2), (u10 3)], pickG (fun _ => 0) [], pickG (fun _ => 0) []), rfl, ⟨(show p0.toInt ≤ i6.toInt ∧ (i6.toInt ≤ p0.toInt ∨ i6.toInt ≤ p1.toInt) from by omega), (show (0 : Int) ≤ (u10 1).toInt ∧ (u10 1).toInt ≤ 1600 from ⟨by omega, by omega⟩), (show (0 : Int) ≤ (u10 2).toInt ∧ (u10 2).toInt ≤ 1600 from ⟨by omega, by omega⟩), trivial⟩, (by rw [ht]; exact hP9), hD9⟩, hS.F ht⟩) hS.2.2 dX10_takeNumber_57
        · rw [ki_le] at c7
          refine lv_aload_n hx hb dX10_takeNumber_40 rfl (lv_at hl 0 rfl) ?_
          refine lv_iconst (v := 2) hx hb dX10_takeNumber_41 (by decide) ?_
          have hPc := hP.sub (ws' := [(a0, .inr (10, [.ref a1, .int i0, .int i1, .int i2, .int i3, .int i4, .int i5, .int i6]))]) [0] rfl
          have hDc := hD.sub (ws' := [(a0, .inr (10, [.ref a1, .int i0, .int i1, .int i2, .int i3, .int i4, .int i5, .int i6]))]) [0] (by decide) rfl
          have hFc := va_free (wc := [(a0, .inr (10, [.ref a1, .int i0, .int i1, .int i2, .int i3, .int i4, .int i5, .int i6]))]) hD hS hA [0] rfl
          refine va_callv (va_runV (As := [.int 2]) (rest := []) ⟨hx, hb, hml, hown, hwd⟩ (s_X10_blame l dC dI cI cZ cB cJ cM cG a0 a1 i0 i1 i2 i3 i4 i5 i6 2 s.heap.size (show (0 : Int) ≤ i0.toInt ∧ i0.toInt ≤ 1600 from ⟨by omega, by omega⟩) (show (0 : Int) ≤ i4.toInt ∧ i4.toInt ≤ 1600 from ⟨by omega, by omega⟩) (show (0 : Int) ≤ i5.toInt ∧ i5.toInt ≤ 1600 from ⟨by omega, by omega⟩)) (cwV 1 hwd (gV kr15_11 kr15_12 kr15_13 kr1_15 kr15_14) rfl rfl rfl (by decide +kernel) ⟨Nat.le_of_ble_eq_true rfl, Nat.le_of_ble_eq_true rfl⟩) (kPreV hPc hK hDc (ci := 10) (q0 := 0) rfl rfl) rfl rfl hl.1 rfl (lv_room (Nat.le_of_ble_eq_true rfl)) dX10_takeNumber_42 ⟨Nat.le_of_ble_eq_true rfl, Nat.le_of_ble_eq_true rfl⟩) hS (fun q _ h => hFc q h) hFc (fun u14 t H1 locs ht9 hvm hw hB hz1 hk1 hS => ?_)
          obtain ⟨u15, U15, V15⟩ := u14
          obtain ⟨hP1, hD1⟩ := hB
          rw [ht9] at hP1
          obtain ⟨hP, hD⟩ := va_join (wr := [(a1, .inl (cB, 1600, .inl xF0))]) (w1 := [(a0, .inr (10, [.ref a1, .int i0, .int (u15 0), .int (u15 1), .int i3, .int i4, .int i5, .int i6]))]) hP hD [0] [1] rfl rfl (by decide) (by decide) hk1 hFc hP1 hD1
          generalize H1 = H at hP hS ⊢
          have hP : va_P (dC, dI) vwCl [(a1, .inl (cB, 1600, .inl xF0)), (a0, .inr (10, [.ref a1, .int i0, .int (u15 0), .int (u15 1), .int i3, .int i4, .int i5, .int i6]))] H := hP
          have hD : va_D A [(a1, .inl (cB, 1600, .inl xF0)), (a0, .inr (10, [.ref a1, .int i0, .int (u15 0), .int (u15 1), .int i3, .int i4, .int i5, .int i6]))] := hD
          refine lv_iload_n hx hb dX10_takeNumber_45 rfl (lv_at hl 1 rfl) ?_
          have hP9 := hP.sub (ws' := [(a0, .inr (10, [.ref a1, .int i0, .int (u15 0), .int (u15 1), .int i3, .int i4, .int i5, .int i6])), (a1, .inl (cB, 1600, .inl xF0))]) [1, 0] rfl
          have hD9 := hD.sub (ws' := [(a0, .inr (10, [.ref a1, .int i0, .int (u15 0), .int (u15 1), .int i3, .int i4, .int i5, .int i6])), (a1, .inl (cB, 1600, .inl xF0))]) [1, 0] (by decide) rfl
          rw [hQ]
          exact W.iret (v := p0) hx hb hr (fun t ht hW => ⟨⟨p0, (pickG 0 [(u15 0), (u15 1), i3, i4, i5, i6], pickG (fun _ => 0) [], pickG (fun _ => 0) []), rfl, ⟨(show p0.toInt ≤ p0.toInt ∧ (p0.toInt ≤ p0.toInt ∨ p0.toInt ≤ p1.toInt) from by omega), (show (0 : Int) ≤ i4.toInt ∧ i4.toInt ≤ 1600 from ⟨by omega, by omega⟩), (show (0 : Int) ≤ i5.toInt ∧ i5.toInt ≤ 1600 from ⟨by omega, by omega⟩), trivial⟩, (by rw [ht]; exact hP9), hD9⟩, hS.F ht⟩) hS.2.2 dX10_takeNumber_46
    · rw [ki_eq] at c2
      refine lv_aload_n hx hb dX10_takeNumber_17 rfl (lv_at hl 0 rfl) ?_
      refine lv_iconst (v := 1) hx hb dX10_takeNumber_18 (by decide) ?_
      have hPc := hP.sub (ws' := [(a0, .inr (10, [.ref a1, .int i0, .int i1, .int i2, .int i3, .int i4, .int i5, .int i6]))]) [0] rfl
      have hDc := hD.sub (ws' := [(a0, .inr (10, [.ref a1, .int i0, .int i1, .int i2, .int i3, .int i4, .int i5, .int i6]))]) [0] (by decide) rfl
      have hFc := va_free (wc := [(a0, .inr (10, [.ref a1, .int i0, .int i1, .int i2, .int i3, .int i4, .int i5, .int i6]))]) hD hS hA [0] rfl
      refine va_callv (va_runV (As := [.int 1]) (rest := []) ⟨hx, hb, hml, hown, hwd⟩ (s_X10_blame l dC dI cI cZ cB cJ cM cG a0 a1 i0 i1 i2 i3 i4 i5 i6 1 s.heap.size (show (0 : Int) ≤ i0.toInt ∧ i0.toInt ≤ 1600 from ⟨by omega, by omega⟩) (show (0 : Int) ≤ i4.toInt ∧ i4.toInt ≤ 1600 from ⟨by omega, by omega⟩) (show (0 : Int) ≤ i5.toInt ∧ i5.toInt ≤ 1600 from ⟨by omega, by omega⟩)) (cwV 1 hwd (gV kr15_11 kr15_12 kr15_13 kr1_15 kr15_14) rfl rfl rfl (by decide +kernel) ⟨Nat.le_of_ble_eq_true rfl, Nat.le_of_ble_eq_true rfl⟩) (kPreV hPc hK hDc (ci := 10) (q0 := 0) rfl rfl) rfl rfl hl.1 rfl (lv_room (Nat.le_of_ble_eq_true rfl)) dX10_takeNumber_19 ⟨Nat.le_of_ble_eq_true rfl, Nat.le_of_ble_eq_true rfl⟩) hS (fun q _ h => hFc q h) hFc (fun u17 t H1 locs ht9 hvm hw hB hz1 hk1 hS => ?_)
      obtain ⟨u18, U18, V18⟩ := u17
      obtain ⟨hP1, hD1⟩ := hB
      rw [ht9] at hP1
      obtain ⟨hP, hD⟩ := va_join (wr := [(a1, .inl (cB, 1600, .inl xF0))]) (w1 := [(a0, .inr (10, [.ref a1, .int i0, .int (u18 0), .int (u18 1), .int i3, .int i4, .int i5, .int i6]))]) hP hD [0] [1] rfl rfl (by decide) (by decide) hk1 hFc hP1 hD1
      generalize H1 = H at hP hS ⊢
      have hP : va_P (dC, dI) vwCl [(a1, .inl (cB, 1600, .inl xF0)), (a0, .inr (10, [.ref a1, .int i0, .int (u18 0), .int (u18 1), .int i3, .int i4, .int i5, .int i6]))] H := hP
      have hD : va_D A [(a1, .inl (cB, 1600, .inl xF0)), (a0, .inr (10, [.ref a1, .int i0, .int (u18 0), .int (u18 1), .int i3, .int i4, .int i5, .int i6]))] := hD
      refine lv_iload_n hx hb dX10_takeNumber_22 rfl (lv_at hl 1 rfl) ?_
      have hP9 := hP.sub (ws' := [(a0, .inr (10, [.ref a1, .int i0, .int (u18 0), .int (u18 1), .int i3, .int i4, .int i5, .int i6])), (a1, .inl (cB, 1600, .inl xF0))]) [1, 0] rfl
      have hD9 := hD.sub (ws' := [(a0, .inr (10, [.ref a1, .int i0, .int (u18 0), .int (u18 1), .int i3, .int i4, .int i5, .int i6])), (a1, .inl (cB, 1600, .inl xF0))]) [1, 0] (by decide) rfl
      rw [hQ]
      exact W.iret (v := p0) hx hb hr (fun t ht hW => ⟨⟨p0, (pickG 0 [(u18 0), (u18 1), i3, i4, i5, i6], pickG (fun _ => 0) [], pickG (fun _ => 0) []), rfl, ⟨(show p0.toInt ≤ p0.toInt ∧ (p0.toInt ≤ p0.toInt ∨ p0.toInt ≤ p1.toInt) from by omega), (show (0 : Int) ≤ i4.toInt ∧ i4.toInt ≤ 1600 from ⟨by omega, by omega⟩), (show (0 : Int) ≤ i5.toInt ∧ i5.toInt ≤ 1600 from ⟨by omega, by omega⟩), trivial⟩, (by rw [ht]; exact hP9), hD9⟩, hS.F ht⟩) hS.2.2 dX10_takeNumber_23
  · rw [ki_eq] at c1
    refine lv_iload_n hx hb dX10_takeNumber_7 rfl (lv_at hl 1 rfl) ?_
    have hP9 := hP.sub (ws' := [(a0, .inr (10, [.ref a1, .int i0, .int i1, .int i2, .int i3, .int i4, .int i5, .int i6])), (a1, .inl (cB, 1600, .inl xF0))]) [0, 1] rfl
    have hD9 := hD.sub (ws' := [(a0, .inr (10, [.ref a1, .int i0, .int i1, .int i2, .int i3, .int i4, .int i5, .int i6])), (a1, .inl (cB, 1600, .inl xF0))]) [0, 1] (by decide) rfl
    rw [hQ]
    exact W.iret (v := p0) hx hb hr (fun t ht hW => ⟨⟨p0, (pickG 0 [i1, i2, i3, i4, i5, i6], pickG (fun _ => 0) [], pickG (fun _ => 0) []), rfl, ⟨(show p0.toInt ≤ p0.toInt ∧ (p0.toInt ≤ p0.toInt ∨ p0.toInt ≤ p1.toInt) from by omega), (show (0 : Int) ≤ i4.toInt ∧ i4.toInt ≤ 1600 from ⟨by omega, by omega⟩), (show (0 : Int) ≤ i5.toInt ∧ i5.toInt ≤ 1600 from ⟨by omega, by omega⟩), trivial⟩, (by rw [ht]; exact hP9), hD9⟩, hS.F ht⟩) hS.2.2 dX10_takeNumber_8
theorem dX10_isWord_0 : decode cX10_isWord 0 = .ok (.aload_n 0, 1) := by decide +kernel
theorem dX10_isWord_1 : decode cX10_isWord 1 = .ok (.getfield 31, 3) := by decide +kernel
theorem dX10_isWord_4 : decode cX10_isWord 4 = .ok (.iconst 1, 1) := by decide +kernel
theorem dX10_isWord_5 : decode cX10_isWord 5 = .ok (.if_icmp .ne 19, 3) := by decide +kernel
theorem dX10_isWord_8 : decode cX10_isWord 8 = .ok (.aload_n 0, 1) := by decide +kernel
theorem dX10_isWord_9 : decode cX10_isWord 9 = .ok (.getfield 25, 3) := by decide +kernel
theorem dX10_isWord_12 : decode cX10_isWord 12 = .ok (.aload_n 0, 1) := by decide +kernel
theorem dX10_isWord_13 : decode cX10_isWord 13 = .ok (.getfield 34, 3) := by decide +kernel
theorem dX10_isWord_16 : decode cX10_isWord 16 = .ok (.isub, 1) := by decide +kernel
theorem dX10_isWord_17 : decode cX10_isWord 17 = .ok (.aload_n 1, 1) := by decide +kernel
theorem dX10_isWord_18 : decode cX10_isWord 18 = .ok (.invokevirtual 57, 3) := by decide +kernel
theorem dX10_isWord_21 : decode cX10_isWord 21 = .ok (.if_icmp .eq 5, 3) := by decide +kernel
theorem dX10_isWord_24 : decode cX10_isWord 24 = .ok (.iconst 0, 1) := by decide +kernel
theorem dX10_isWord_25 : decode cX10_isWord 25 = .ok (.ireturn, 1) := by decide +kernel
theorem dX10_isWord_26 : decode cX10_isWord 26 = .ok (.iconst 0, 1) := by decide +kernel
theorem dX10_isWord_27 : decode cX10_isWord 27 = .ok (.istore_n 2, 1) := by decide +kernel
theorem dX10_isWord_28 : decode cX10_isWord 28 = .ok (.iload_n 2, 1) := by decide +kernel
theorem dX10_isWord_29 : decode cX10_isWord 29 = .ok (.aload_n 1, 1) := by decide +kernel
theorem dX10_isWord_30 : decode cX10_isWord 30 = .ok (.invokevirtual 57, 3) := by decide +kernel
theorem dX10_isWord_33 : decode cX10_isWord 33 = .ok (.if_icmp .ge 29, 3) := by decide +kernel
theorem dX10_isWord_36 : decode cX10_isWord 36 = .ok (.aload_n 0, 1) := by decide +kernel
theorem dX10_isWord_37 : decode cX10_isWord 37 = .ok (.aload_n 0, 1) := by decide +kernel
theorem dX10_isWord_38 : decode cX10_isWord 38 = .ok (.getfield 34, 3) := by decide +kernel
theorem dX10_isWord_41 : decode cX10_isWord 41 = .ok (.iload_n 2, 1) := by decide +kernel
theorem dX10_isWord_42 : decode cX10_isWord 42 = .ok (.iadd, 1) := by decide +kernel
theorem dX10_isWord_43 : decode cX10_isWord 43 = .ok (.invokevirtual 41, 3) := by decide +kernel
theorem dX10_isWord_46 : decode cX10_isWord 46 = .ok (.aload_n 1, 1) := by decide +kernel
theorem dX10_isWord_47 : decode cX10_isWord 47 = .ok (.iload_n 2, 1) := by decide +kernel
theorem dX10_isWord_48 : decode cX10_isWord 48 = .ok (.invokevirtual 62, 3) := by decide +kernel
theorem dX10_isWord_51 : decode cX10_isWord 51 = .ok (.if_icmp .eq 5, 3) := by decide +kernel
theorem dX10_isWord_54 : decode cX10_isWord 54 = .ok (.iconst 0, 1) := by decide +kernel
theorem dX10_isWord_55 : decode cX10_isWord 55 = .ok (.ireturn, 1) := by decide +kernel
theorem dX10_isWord_56 : decode cX10_isWord 56 = .ok (.iinc 2 1, 3) := by decide +kernel
theorem dX10_isWord_59 : decode cX10_isWord 59 = .ok (.goto (-31), 3) := by decide +kernel
theorem dX10_isWord_62 : decode cX10_isWord 62 = .ok (.iconst 1, 1) := by decide +kernel
theorem dX10_isWord_63 : decode cX10_isWord 63 = .ok (.ireturn, 1) := by decide +kernel
set_option maxHeartbeats 4000000 in
set_option maxRecDepth 100000 in
theorem s_X10_isWord (l : Launch) (dC : Nat → ClassId) (dI : Nat → Nat → Nat) (cI cZ cB cJ cM cG : ClassId) (a0 a1 : Nat) (i0 i1 i2 i3 i4 i5 i6 : Int32) (xF0 : Nat → Int32) (sa sav sn : Nat) (sf : Nat → Int32) (sz : Nat) (p_0 : (0 : Int) ≤ i0.toInt ∧ i0.toInt ≤ 1600) (p_1 : (0 : Int) ≤ i4.toInt ∧ i4.toInt ≤ 1600) (p_2 : (0 : Int) ≤ i5.toInt ∧ i5.toInt ≤ 1600) : Met l yX10_isWord (kw yX10_isWord cX10_isWord 3 (some .boolean)) ({ frames := 4, cells := 0, slots := 0, locals := 85 } : Room) (va_Pc [.ref a0, .ref sa] (kPreX dC dI [(cI, .int), (cZ, .boolean), (cB, .byte), (cJ, .long), (cM, .object RX2), (cG, .array .int)] [(a0, .inr (10, [.ref a1, .int i0, .int i1, .int i2, .int i3, .int i4, .int i5, .int i6])), (a1, .inl (cB, 1600, .inl xF0))] sz (NS sa sav sn sf))) (va_Qi (fun (r : Int32) (u9 : Unit) => ((0 : Int) ≤ r.toInt ∧ r.toInt ≤ 1) ∧ True) (fun u9 t => va_P (dC, dI) vwCl [(a0, .inr (10, [.ref a1, .int i0, .int i1, .int i2, .int i3, .int i4, .int i5, .int i6])), (a1, .inl (cB, 1600, .inl xF0))] t.heap ∧ va_D (va_A [(a0, .inr (10, [.ref a1, .int i0, .int i1, .int i2, .int i3, .int i4, .int i5, .int i6])), (a1, .inl (cB, 1600, .inl xF0))] sz) [(a0, .inr (10, [.ref a1, .int i0, .int i1, .int i2, .int i3, .int i4, .int i5, .int i6])), (a1, .inl (cB, 1600, .inl xF0))]) (va_A [(a0, .inr (10, [.ref a1, .int i0, .int i1, .int i2, .int i3, .int i4, .int i5, .int i6])), (a1, .inl (cB, 1600, .inl xF0))] sz)) 0 0 (va_A [(a0, .inr (10, [.ref a1, .int i0, .int i1, .int i2, .int i3, .int i4, .int i5, .int i6])), (a1, .inl (cB, 1600, .inl xF0))] sz) := by
  refine kEnterX (by decide) (Nat.le_of_ble_eq_true rfl) ?_
  intro p e s m below meth c ls hx hb hr hml hown hlocks hin hwd hsz hP hK hD hN hl
  subst hsz
  generalize hAe : va_A [(a0, .inr (10, [.ref a1, .int i0, .int i1, .int i2, .int i3, .int i4, .int i5, .int i6])), (a1, .inl (cB, 1600, .inl xF0))] s.heap.size = A at hD hN ⊢
  have hA : ∀ q : Nat, s.heap.size ≤ q → A q := fun q h => by rw [← hAe]; exact Or.inr h
  have hS : va_S A s.heap s.heap [] := va_S.rf
  have hl : lv_has ls 3 [(0, .ref a0), (1, .ref sa)] := hl
  obtain ⟨Q, hQ⟩ : ∃ Q, Q = MQ below (va_Qi (fun (r : Int32) (u9 : Unit) => ((0 : Int) ≤ r.toInt ∧ r.toInt ≤ 1) ∧ True) (fun u9 t => va_P (dC, dI) vwCl [(a0, .inr (10, [.ref a1, .int i0, .int i1, .int i2, .int i3, .int i4, .int i5, .int i6])), (a1, .inl (cB, 1600, .inl xF0))] t.heap ∧ va_D A [(a0, .inr (10, [.ref a1, .int i0, .int i1, .int i2, .int i3, .int i4, .int i5, .int i6])), (a1, .inl (cB, 1600, .inl xF0))]) A) ([.ref a0, .ref sa] : List Value).toArray s 0 0 A := ⟨_, rfl⟩
  rw [← hQ]
  have k0 : (0 : Int32).toInt = 0 := by decide
  have k1 : (1 : Int32).toInt = 1 := by decide
  refine lv_aload_n hx hb dX10_isWord_0 rfl (lv_at hl 0 rfl) ?_
  refine va_get (D := (dC, dI)) (ci := 10) (v := .int i3) (C := RX10) (T := TX10) (N := 8) hx hb hwd inlX10 hown hK hP 0 rfl rfl 4 (by decide) (hwd _ kr11_9) (fun _ h9 => h9) rfl dX10_isWord_1 ?_
  refine lv_iconst (v := 1) hx hb dX10_isWord_4 (by decide) ?_
  refine lv_icmp_ne (tgt := 24) hx hb dX10_isWord_5 (by decide) (fun c1 => ?_) (fun c1 => ?_)
  · rw [ki_eq] at c1
    refine lv_iconst (v := 0) hx hb dX10_isWord_24 (by decide) ?_
    have hP9 := hP.sub (ws' := [(a0, .inr (10, [.ref a1, .int i0, .int i1, .int i2, .int i3, .int i4, .int i5, .int i6])), (a1, .inl (cB, 1600, .inl xF0))]) [0, 1] rfl
    have hD9 := hD.sub (ws' := [(a0, .inr (10, [.ref a1, .int i0, .int i1, .int i2, .int i3, .int i4, .int i5, .int i6])), (a1, .inl (cB, 1600, .inl xF0))]) [0, 1] (by decide) rfl
    rw [hQ]
    exact W.zret (v := 0) hx hb hr (by decide) (fun t ht hW => ⟨⟨0, (), rfl, ⟨(show (0 : Int) ≤ (0 : Int32).toInt ∧ (0 : Int32).toInt ≤ 1 from ⟨by omega, by omega⟩), trivial⟩, (by rw [ht]; exact hP9), hD9⟩, hS.F ht⟩) hS.2.2 dX10_isWord_25
  · rw [ki_eq] at c1
    refine lv_aload_n hx hb dX10_isWord_8 rfl (lv_at hl 0 rfl) ?_
    refine va_get (D := (dC, dI)) (ci := 10) (v := .int i5) (C := RX10) (T := TX10) (N := 8) hx hb hwd inlX10 hown hK hP 0 rfl rfl 6 (by decide) (hwd _ kr11_3) (fun _ h9 => h9) rfl dX10_isWord_9 ?_
    refine lv_aload_n hx hb dX10_isWord_12 rfl (lv_at hl 0 rfl) ?_
    refine va_get (D := (dC, dI)) (ci := 10) (v := .int i4) (C := RX10) (T := TX10) (N := 8) hx hb hwd inlX10 hown hK hP 0 rfl rfl 5 (by decide) (hwd _ kr11_8) (fun _ h9 => h9) rfl dX10_isWord_13 ?_
    refine lv_isub hx hb dX10_isWord_16 ?_
    refine lv_topi (fun x2 ex2 => ?_)
    have tx2 := ia_sub (a := i5) (b := i4) (by omega) (by omega)
    rw [← ex2] at tx2
    refine lv_aload_n hx hb dX10_isWord_17 rfl (lv_at hl 1 rfl) ?_
    have hPc := hP.sub (ws' := []) [] rfl
    have hDc := hD.sub (ws' := []) [] (by decide) rfl
    have hFc := va_free (wc := []) hD hS hA [] rfl
    refine va_calli (va_runV (As := []) (rest := [.int x2]) ⟨hx, hb, hml, hown, hwd⟩ (s_J0_length_8abf5 l dC dI cI cZ cB cJ cM cG sa sav sn sf s.heap.size) (cwV 0 hwd (gV kr13_10 kr13_11 kr13_12 kr13_13 kr13_14) rfl rfl rfl (by decide +kernel) ⟨Nat.le_of_ble_eq_true rfl, Nat.le_of_ble_eq_true rfl⟩) (kPreVS hPc hK hDc (NS_st _ _ _ _) hN hS hFc hN.2.2.1) rfl rfl hl.1 rfl (lv_room (Nat.le_of_ble_eq_true rfl)) dX10_isWord_18 ⟨Nat.le_of_ble_eq_true rfl, Nat.le_of_ble_eq_true rfl⟩) hS (fun q _ h => hFc q h) hFc (fun r3 u4 t H1 locs ht9 hvm hw hB hz1 hk1 hS => ?_)
    obtain ⟨hw5, hw6, -⟩ := hw
    have hw5 : (0 : Int) ≤ r3.toInt ∧ r3.toInt ≤ 10 := hw5
    have hw6 : r3.toInt = (sn : Int) := hw6
    obtain ⟨hP1, hD1⟩ := hB
    rw [ht9] at hP1
    obtain ⟨hP, hD⟩ := va_join (wr := [(a0, .inr (10, [.ref a1, .int i0, .int i1, .int i2, .int i3, .int i4, .int i5, .int i6])), (a1, .inl (cB, 1600, .inl xF0))]) (w1 := []) hP hD [] [0, 1] rfl rfl (by decide) (by decide) hk1 hFc hP1 hD1
    generalize H1 = H at hP hS ⊢
    have hP : va_P (dC, dI) vwCl [(a0, .inr (10, [.ref a1, .int i0, .int i1, .int i2, .int i3, .int i4, .int i5, .int i6])), (a1, .inl (cB, 1600, .inl xF0))] H := hP
    have hD : va_D A [(a0, .inr (10, [.ref a1, .int i0, .int i1, .int i2, .int i3, .int i4, .int i5, .int i6])), (a1, .inl (cB, 1600, .inl xF0))] := hD
    refine lv_icmp_eq (tgt := 26) hx hb dX10_isWord_21 (by decide) (fun c7 => ?_) (fun c7 => ?_)
    · rw [ki_eq] at c7
      refine lv_iconst (v := 0) hx hb dX10_isWord_26 (by decide) ?_
      refine lv_istore_n (lv' := [(2, .int 0), (0, .ref a0), (1, .ref sa)]) hx hb dX10_isWord_27 rfl hl (by decide) rfl (fun ls hl => ?_)
      have lp1 : ∀ (d : Nat), ∀ (H : Heap) (locs : List Loc) (ls : Array Slot) (w2_1 : Int32), ((0 : Int) ≤ w2_1.toInt ∧ w2_1.toInt ≤ 10) → (10 - w2_1.toInt).toNat < d → va_P (dC, dI) vwCl [(a0, .inr (10, [.ref a1, .int i0, .int i1, .int i2, .int i3, .int i4, .int i5, .int i6])), (a1, .inl (cB, 1600, .inl xF0))] H → va_D A [(a0, .inr (10, [.ref a1, .int i0, .int i1, .int i2, .int i3, .int i4, .int i5, .int i6])), (a1, .inl (cB, 1600, .inl xF0))] → va_S A s.heap H locs → lv_has ls 3 [(0, .ref a0), (1, .ref sa), (2, .int w2_1)] → W p l e ({ frames := 4, cells := 0, slots := 0, locals := 85 } : Room) s m ([.ref a0, .ref sa] : List Value).toArray below meth c H locs 0 0 Q (F0 m 28 ls []) := by
        intro d
        induction d with
        | zero =>
          intro H locs ls w2_1 hr_w2_1 hm hP hD hS hl
          omega
        | succ d ih1 =>
          intro H locs ls w2_1 hr_w2_1 hm hP hD hS hl
          refine lv_iload_n hx hb dX10_isWord_28 rfl (lv_at hl 2 rfl) ?_
          refine lv_aload_n hx hb dX10_isWord_29 rfl (lv_at hl 1 rfl) ?_
          have hPc := hP.sub (ws' := []) [] rfl
          have hDc := hD.sub (ws' := []) [] (by decide) rfl
          have hFc := va_free (wc := []) hD hS hA [] rfl
          refine va_calli (va_runV (As := []) (rest := [.int w2_1]) ⟨hx, hb, hml, hown, hwd⟩ (s_J0_length_8abf5 l dC dI cI cZ cB cJ cM cG sa sav sn sf H.size) (cwV 0 hwd (gV kr13_10 kr13_11 kr13_12 kr13_13 kr13_14) rfl rfl rfl (by decide +kernel) ⟨Nat.le_of_ble_eq_true rfl, Nat.le_of_ble_eq_true rfl⟩) (kPreVS hPc hK hDc (NS_st _ _ _ _) hN hS hFc hN.2.2.1) rfl rfl hl.1 rfl (lv_room (Nat.le_of_ble_eq_true rfl)) dX10_isWord_30 ⟨Nat.le_of_ble_eq_true rfl, Nat.le_of_ble_eq_true rfl⟩) hS (fun q _ h => hFc q h) hFc (fun r87 u88 t H1 locs ht9 hvm hw hB hz1 hk1 hS => ?_)
          obtain ⟨hw89, hw90, -⟩ := hw
          have hw89 : (0 : Int) ≤ r87.toInt ∧ r87.toInt ≤ 10 := hw89
          have hw90 : r87.toInt = (sn : Int) := hw90
          obtain ⟨hP1, hD1⟩ := hB
          rw [ht9] at hP1
          obtain ⟨hP, hD⟩ := va_join (wr := [(a0, .inr (10, [.ref a1, .int i0, .int i1, .int i2, .int i3, .int i4, .int i5, .int i6])), (a1, .inl (cB, 1600, .inl xF0))]) (w1 := []) hP hD [] [0, 1] rfl rfl (by decide) (by decide) hk1 hFc hP1 hD1
          generalize H1 = H at hP hS ⊢
          have hP : va_P (dC, dI) vwCl [(a0, .inr (10, [.ref a1, .int i0, .int i1, .int i2, .int i3, .int i4, .int i5, .int i6])), (a1, .inl (cB, 1600, .inl xF0))] H := hP
          have hD : va_D A [(a0, .inr (10, [.ref a1, .int i0, .int i1, .int i2, .int i3, .int i4, .int i5, .int i6])), (a1, .inl (cB, 1600, .inl xF0))] := hD
          refine lv_icmp_ge (tgt := 62) hx hb dX10_isWord_33 (by decide) (fun c91 => ?_) (fun c91 => ?_)
          · rw [ki_le] at c91
            refine lv_iconst (v := 1) hx hb dX10_isWord_62 (by decide) ?_
            have hP9 := hP.sub (ws' := [(a0, .inr (10, [.ref a1, .int i0, .int i1, .int i2, .int i3, .int i4, .int i5, .int i6])), (a1, .inl (cB, 1600, .inl xF0))]) [0, 1] rfl
            have hD9 := hD.sub (ws' := [(a0, .inr (10, [.ref a1, .int i0, .int i1, .int i2, .int i3, .int i4, .int i5, .int i6])), (a1, .inl (cB, 1600, .inl xF0))]) [0, 1] (by decide) rfl
            rw [hQ]
            exact W.zret (v := 1) hx hb hr (by decide) (fun t ht hW => ⟨⟨1, (), rfl, ⟨(show (0 : Int) ≤ (1 : Int32).toInt ∧ (1 : Int32).toInt ≤ 1 from ⟨by omega, by omega⟩), trivial⟩, (by rw [ht]; exact hP9), hD9⟩, hS.F ht⟩) hS.2.2 dX10_isWord_63
          · rw [ki_le] at c91
            refine lv_aload_n hx hb dX10_isWord_36 rfl (lv_at hl 0 rfl) ?_
            refine lv_aload_n hx hb dX10_isWord_37 rfl (lv_at hl 0 rfl) ?_
            refine va_get (D := (dC, dI)) (ci := 10) (v := .int i4) (C := RX10) (T := TX10) (N := 8) hx hb hwd inlX10 hown hK hP 0 rfl rfl 5 (by decide) (hwd _ kr11_8) (fun _ h9 => h9) rfl dX10_isWord_38 ?_
            refine lv_iload_n hx hb dX10_isWord_41 rfl (lv_at hl 2 rfl) ?_
            refine lv_iadd hx hb dX10_isWord_42 ?_
            refine lv_topi (fun x92 ex92 => ?_)
            have tx92 := ia_add (a := i4) (b := w2_1) (by omega) (by omega)
            rw [← ex92] at tx92
            have hPc := hP.sub (ws' := [(a0, .inr (10, [.ref a1, .int i0, .int i1, .int i2, .int i3, .int i4, .int i5, .int i6])), (a1, .inl (cB, 1600, .inl xF0))]) [0, 1] rfl
            have hDc := hD.sub (ws' := [(a0, .inr (10, [.ref a1, .int i0, .int i1, .int i2, .int i3, .int i4, .int i5, .int i6])), (a1, .inl (cB, 1600, .inl xF0))]) [0, 1] (by decide) rfl
            have hFc := va_free (wc := [(a0, .inr (10, [.ref a1, .int i0, .int i1, .int i2, .int i3, .int i4, .int i5, .int i6])), (a1, .inl (cB, 1600, .inl xF0))]) hD hS hA [0, 1] rfl
            refine va_calli (va_runV (As := [.int x92]) (rest := []) ⟨hx, hb, hml, hown, hwd⟩ (s_X10_byteAt l dC dI cI cZ cB cJ cM cG a0 a1 i0 i1 i2 i3 i4 i5 i6 xF0 x92 H.size (show (0 : Int) ≤ i0.toInt ∧ i0.toInt ≤ 1600 from ⟨by omega, by omega⟩) (show (0 : Int) ≤ i4.toInt ∧ i4.toInt ≤ 1600 from ⟨by omega, by omega⟩) (show (0 : Int) ≤ i5.toInt ∧ i5.toInt ≤ 1600 from ⟨by omega, by omega⟩)) (cwV 1 hwd (gV kr11_14 kr11_15 kr11_16 kr1_15 kr11_17) rfl rfl rfl (by decide +kernel) ⟨Nat.le_of_ble_eq_true rfl, Nat.le_of_ble_eq_true rfl⟩) (kPreV hPc hK hDc (ci := 10) (q0 := 0) rfl rfl) rfl rfl hl.1 rfl (lv_room (Nat.le_of_ble_eq_true rfl)) dX10_isWord_43 ⟨Nat.le_of_ble_eq_true rfl, Nat.le_of_ble_eq_true rfl⟩) hS (fun q _ h => hFc q h) hFc (fun r93 u94 t H1 locs ht9 hvm hw hB hz1 hk1 hS => ?_)
            obtain ⟨hw95, hw96, -⟩ := hw
            have hw95 : (-1 : Int) ≤ r93.toInt ∧ r93.toInt ≤ 255 := hw95
            obtain ⟨hP1, hD1⟩ := hB
            rw [ht9] at hP1
            obtain ⟨hP, hD⟩ := va_join (wr := []) (w1 := [(a0, .inr (10, [.ref a1, .int i0, .int i1, .int i2, .int i3, .int i4, .int i5, .int i6])), (a1, .inl (cB, 1600, .inl xF0))]) hP hD [0, 1] [] rfl rfl (by decide) (by decide) hk1 hFc hP1 hD1
            generalize H1 = H at hP hS ⊢
            have hP : va_P (dC, dI) vwCl [(a0, .inr (10, [.ref a1, .int i0, .int i1, .int i2, .int i3, .int i4, .int i5, .int i6])), (a1, .inl (cB, 1600, .inl xF0))] H := hP
            have hD : va_D A [(a0, .inr (10, [.ref a1, .int i0, .int i1, .int i2, .int i3, .int i4, .int i5, .int i6])), (a1, .inl (cB, 1600, .inl xF0))] := hD
            refine lv_aload_n hx hb dX10_isWord_46 rfl (lv_at hl 1 rfl) ?_
            refine lv_iload_n hx hb dX10_isWord_47 rfl (lv_at hl 2 rfl) ?_
            have hPc := hP.sub (ws' := []) [] rfl
            have hDc := hD.sub (ws' := []) [] (by decide) rfl
            have hFc := va_free (wc := []) hD hS hA [] rfl
            refine va_calli (va_runV (As := [.int w2_1]) (rest := [.int r93]) ⟨hx, hb, hml, hown, hwd⟩ (s_J0_charAt_5068e l dC dI cI cZ cB cJ cM cG w2_1 sa sav sn sf H.size (by omega)) (cwV 1 hwd (gV kr13_22 kr13_23 kr14_0 kr13_13 kr14_1) rfl rfl rfl (by decide +kernel) ⟨Nat.le_of_ble_eq_true rfl, Nat.le_of_ble_eq_true rfl⟩) (kPreVS hPc hK hDc (NS_st _ _ _ _) hN hS hFc hN.2.2.1) rfl rfl hl.1 rfl (lv_room (Nat.le_of_ble_eq_true rfl)) dX10_isWord_48 ⟨Nat.le_of_ble_eq_true rfl, Nat.le_of_ble_eq_true rfl⟩) hS (fun q _ h => hFc q h) hFc (fun r97 u98 t H1 locs ht9 hvm hw hB hz1 hk1 hS => ?_)
            obtain ⟨hw99, hw100, -⟩ := hw
            have hw99 : (0 : Int) ≤ r97.toInt ∧ r97.toInt ≤ 255 := hw99
            obtain ⟨hP1, hD1⟩ := hB
            rw [ht9] at hP1
            obtain ⟨hP, hD⟩ := va_join (wr := [(a0, .inr (10, [.ref a1, .int i0, .int i1, .int i2, .int i3, .int i4, .int i5, .int i6])), (a1, .inl (cB, 1600, .inl xF0))]) (w1 := []) hP hD [] [0, 1] rfl rfl (by decide) (by decide) hk1 hFc hP1 hD1
            generalize H1 = H at hP hS ⊢
            have hP : va_P (dC, dI) vwCl [(a0, .inr (10, [.ref a1, .int i0, .int i1, .int i2, .int i3, .int i4, .int i5, .int i6])), (a1, .inl (cB, 1600, .inl xF0))] H := hP
            have hD : va_D A [(a0, .inr (10, [.ref a1, .int i0, .int i1, .int i2, .int i3, .int i4, .int i5, .int i6])), (a1, .inl (cB, 1600, .inl xF0))] := hD
            refine lv_icmp_eq (tgt := 56) hx hb dX10_isWord_51 (by decide) (fun c101 => ?_) (fun c101 => ?_)
            · rw [ki_eq] at c101
              have hw96q := hw96 (by omega)
              clear hw96
              obtain ⟨x102, ex102⟩ : ∃ y : Int32, y = w2_1 + 1 := ⟨_, rfl⟩
              refine lv_iinc (v := x102) (lv' := [(2, .int x102), (0, .ref a0), (1, .ref sa)]) hx hb dX10_isWord_56 hl (k := 2) rfl (by rw [ex102]; rfl) (by decide) rfl (fun ls hl => ?_)
              have tx102 := ia_add (a := w2_1) (b := (1 : Int32)) (by omega) (by omega)
              rw [← ex102] at tx102
              refine lv_goto (tgt := 28) hx hb dX10_isWord_59 (by decide) ?_
              exact ih1 _ _ ls x102 (show (0 : Int) ≤ x102.toInt ∧ x102.toInt ≤ 10 from ⟨by omega, by omega⟩) (by omega) (hP.sub (ws' := [(a0, .inr (10, [.ref a1, .int i0, .int i1, .int i2, .int i3, .int i4, .int i5, .int i6])), (a1, .inl (cB, 1600, .inl xF0))]) [0, 1] rfl) (hD.sub (ws' := [(a0, .inr (10, [.ref a1, .int i0, .int i1, .int i2, .int i3, .int i4, .int i5, .int i6])), (a1, .inl (cB, 1600, .inl xF0))]) [0, 1] (by decide) rfl) hS (lv_sub hl [1, 2, 0] rfl)
            · rw [ki_eq] at c101
              refine lv_iconst (v := 0) hx hb dX10_isWord_54 (by decide) ?_
              have hP9 := hP.sub (ws' := [(a0, .inr (10, [.ref a1, .int i0, .int i1, .int i2, .int i3, .int i4, .int i5, .int i6])), (a1, .inl (cB, 1600, .inl xF0))]) [0, 1] rfl
              have hD9 := hD.sub (ws' := [(a0, .inr (10, [.ref a1, .int i0, .int i1, .int i2, .int i3, .int i4, .int i5, .int i6])), (a1, .inl (cB, 1600, .inl xF0))]) [0, 1] (by decide) rfl
              rw [hQ]
              exact W.zret (v := 0) hx hb hr (by decide) (fun t ht hW => ⟨⟨0, (), rfl, ⟨(show (0 : Int) ≤ (0 : Int32).toInt ∧ (0 : Int32).toInt ≤ 1 from ⟨by omega, by omega⟩), trivial⟩, (by rw [ht]; exact hP9), hD9⟩, hS.F ht⟩) hS.2.2 dX10_isWord_55
      exact lp1 _ _ _ ls (0) (show (0 : Int) ≤ (0 : Int32).toInt ∧ (0 : Int32).toInt ≤ 10 from ⟨by omega, by omega⟩) (Nat.lt_succ_self _) (hP.sub (ws' := [(a0, .inr (10, [.ref a1, .int i0, .int i1, .int i2, .int i3, .int i4, .int i5, .int i6])), (a1, .inl (cB, 1600, .inl xF0))]) [0, 1] rfl) (hD.sub (ws' := [(a0, .inr (10, [.ref a1, .int i0, .int i1, .int i2, .int i3, .int i4, .int i5, .int i6])), (a1, .inl (cB, 1600, .inl xF0))]) [0, 1] (by decide) rfl) hS (lv_sub hl [1, 2, 0] rfl)
    · rw [ki_eq] at c7
      refine lv_iconst (v := 0) hx hb dX10_isWord_24 (by decide) ?_
      have hP9 := hP.sub (ws' := [(a0, .inr (10, [.ref a1, .int i0, .int i1, .int i2, .int i3, .int i4, .int i5, .int i6])), (a1, .inl (cB, 1600, .inl xF0))]) [0, 1] rfl
      have hD9 := hD.sub (ws' := [(a0, .inr (10, [.ref a1, .int i0, .int i1, .int i2, .int i3, .int i4, .int i5, .int i6])), (a1, .inl (cB, 1600, .inl xF0))]) [0, 1] (by decide) rfl
      rw [hQ]
      exact W.zret (v := 0) hx hb hr (by decide) (fun t ht hW => ⟨⟨0, (), rfl, ⟨(show (0 : Int) ≤ (0 : Int32).toInt ∧ (0 : Int32).toInt ≤ 1 from ⟨by omega, by omega⟩), trivial⟩, (by rw [ht]; exact hP9), hD9⟩, hS.F ht⟩) hS.2.2 dX10_isWord_25
theorem dX10_takeWord_0 : decode cX10_takeWord 0 = .ok (.aload_n 0, 1) := by decide +kernel
theorem dX10_takeWord_1 : decode cX10_takeWord 1 = .ok (.getfield 22, 3) := by decide +kernel
theorem dX10_takeWord_4 : decode cX10_takeWord 4 = .ok (.ifCond .eq 4, 3) := by decide +kernel
theorem dX10_takeWord_7 : decode cX10_takeWord 7 = .ok (.return_, 1) := by decide +kernel
theorem dX10_takeWord_8 : decode cX10_takeWord 8 = .ok (.aload_n 0, 1) := by decide +kernel
theorem dX10_takeWord_9 : decode cX10_takeWord 9 = .ok (.aload_n 1, 1) := by decide +kernel
theorem dX10_takeWord_10 : decode cX10_takeWord 10 = .ok (.invokevirtual 66, 3) := by decide +kernel
theorem dX10_takeWord_13 : decode cX10_takeWord 13 = .ok (.ifCond .eq 10, 3) := by decide +kernel
theorem dX10_takeWord_16 : decode cX10_takeWord 16 = .ok (.aload_n 0, 1) := by decide +kernel
theorem dX10_takeWord_17 : decode cX10_takeWord 17 = .ok (.invokevirtual 28, 3) := by decide +kernel
theorem dX10_takeWord_20 : decode cX10_takeWord 20 = .ok (.goto 8, 3) := by decide +kernel
theorem dX10_takeWord_23 : decode cX10_takeWord 23 = .ok (.aload_n 0, 1) := by decide +kernel
theorem dX10_takeWord_24 : decode cX10_takeWord 24 = .ok (.iconst 1, 1) := by decide +kernel
theorem dX10_takeWord_25 : decode cX10_takeWord 25 = .ok (.invokevirtual 70, 3) := by decide +kernel
theorem dX10_takeWord_28 : decode cX10_takeWord 28 = .ok (.return_, 1) := by decide +kernel
set_option maxHeartbeats 4000000 in
set_option maxRecDepth 100000 in
theorem s_X10_takeWord (l : Launch) (dC : Nat → ClassId) (dI : Nat → Nat → Nat) (cI cZ cB cJ cM cG : ClassId) (a0 a1 : Nat) (i0 i1 i2 i3 i4 i5 i6 : Int32) (xF0 : Nat → Int32) (sa sav sn : Nat) (sf : Nat → Int32) (sz : Nat) (p_0 : (0 : Int) ≤ i0.toInt ∧ i0.toInt ≤ 1600) (p_1 : (0 : Int) ≤ i4.toInt ∧ i4.toInt ≤ 1600) (p_2 : (0 : Int) ≤ i5.toInt ∧ i5.toInt ≤ 1600) : Met l yX10_takeWord (kw yX10_takeWord cX10_takeWord 2 none) ({ frames := 5, cells := 0, slots := 0, locals := 107 } : Room) (va_Pc [.ref a0, .ref sa] (kPreX dC dI [(cI, .int), (cZ, .boolean), (cB, .byte), (cJ, .long), (cM, .object RX2), (cG, .array .int)] [(a0, .inr (10, [.ref a1, .int i0, .int i1, .int i2, .int i3, .int i4, .int i5, .int i6])), (a1, .inl (cB, 1600, .inl xF0))] sz (NS sa sav sn sf))) (va_Qv (fun (u9 : (Nat → Int32) × (Nat → Nat → Int32) × (Nat → Nat → Int64)) => ((0 : Int) ≤ (u9.1 3).toInt ∧ (u9.1 3).toInt ≤ 1600) ∧ ((0 : Int) ≤ (u9.1 4).toInt ∧ (u9.1 4).toInt ≤ 1600) ∧ True) (fun u9 t => va_P (dC, dI) vwCl [(a0, .inr (10, [.ref a1, .int i0, .int (u9.1 0), .int (u9.1 1), .int (u9.1 2), .int (u9.1 3), .int (u9.1 4), .int (u9.1 5)])), (a1, .inl (cB, 1600, .inl xF0))] t.heap ∧ va_D (va_A [(a0, .inr (10, [.ref a1, .int i0, .int i1, .int i2, .int i3, .int i4, .int i5, .int i6])), (a1, .inl (cB, 1600, .inl xF0))] sz) [(a0, .inr (10, [.ref a1, .int i0, .int (u9.1 0), .int (u9.1 1), .int (u9.1 2), .int (u9.1 3), .int (u9.1 4), .int (u9.1 5)])), (a1, .inl (cB, 1600, .inl xF0))]) (va_A [(a0, .inr (10, [.ref a1, .int i0, .int i1, .int i2, .int i3, .int i4, .int i5, .int i6])), (a1, .inl (cB, 1600, .inl xF0))] sz)) 0 0 (va_A [(a0, .inr (10, [.ref a1, .int i0, .int i1, .int i2, .int i3, .int i4, .int i5, .int i6])), (a1, .inl (cB, 1600, .inl xF0))] sz) := by
  refine kEnterX (by decide) (Nat.le_of_ble_eq_true rfl) ?_
  intro p e s m below meth c ls hx hb hr hml hown hlocks hin hwd hsz hP hK hD hN hl
  subst hsz
  generalize hAe : va_A [(a0, .inr (10, [.ref a1, .int i0, .int i1, .int i2, .int i3, .int i4, .int i5, .int i6])), (a1, .inl (cB, 1600, .inl xF0))] s.heap.size = A at hD hN ⊢
  have hA : ∀ q : Nat, s.heap.size ≤ q → A q := fun q h => by rw [← hAe]; exact Or.inr h
  have hS : va_S A s.heap s.heap [] := va_S.rf
  have hl : lv_has ls 2 [(0, .ref a0), (1, .ref sa)] := hl
  obtain ⟨Q, hQ⟩ : ∃ Q, Q = MQ below (va_Qv (fun (u9 : (Nat → Int32) × (Nat → Nat → Int32) × (Nat → Nat → Int64)) => ((0 : Int) ≤ (u9.1 3).toInt ∧ (u9.1 3).toInt ≤ 1600) ∧ ((0 : Int) ≤ (u9.1 4).toInt ∧ (u9.1 4).toInt ≤ 1600) ∧ True) (fun u9 t => va_P (dC, dI) vwCl [(a0, .inr (10, [.ref a1, .int i0, .int (u9.1 0), .int (u9.1 1), .int (u9.1 2), .int (u9.1 3), .int (u9.1 4), .int (u9.1 5)])), (a1, .inl (cB, 1600, .inl xF0))] t.heap ∧ va_D A [(a0, .inr (10, [.ref a1, .int i0, .int (u9.1 0), .int (u9.1 1), .int (u9.1 2), .int (u9.1 3), .int (u9.1 4), .int (u9.1 5)])), (a1, .inl (cB, 1600, .inl xF0))]) A) ([.ref a0, .ref sa] : List Value).toArray s 0 0 A := ⟨_, rfl⟩
  rw [← hQ]
  have k0 : (0 : Int32).toInt = 0 := by decide
  refine lv_aload_n hx hb dX10_takeWord_0 rfl (lv_at hl 0 rfl) ?_
  refine va_get (D := (dC, dI)) (ci := 10) (v := .int i1) (C := RX10) (T := TX10) (N := 8) hx hb hwd inlX10 hown hK hP 0 rfl rfl 2 (by decide) (hwd _ kr11_2) (fun _ h9 => h9) rfl dX10_takeWord_1 ?_
  refine lv_if_eq (tgt := 8) hx hb dX10_takeWord_4 (by decide) (fun c1 => ?_) (fun c1 => ?_)
  · rw [ki_eq] at c1
    refine lv_aload_n hx hb dX10_takeWord_8 rfl (lv_at hl 0 rfl) ?_
    refine lv_aload_n hx hb dX10_takeWord_9 rfl (lv_at hl 1 rfl) ?_
    have hPc := hP.sub (ws' := [(a0, .inr (10, [.ref a1, .int i0, .int i1, .int i2, .int i3, .int i4, .int i5, .int i6])), (a1, .inl (cB, 1600, .inl xF0))]) [0, 1] rfl
    have hDc := hD.sub (ws' := [(a0, .inr (10, [.ref a1, .int i0, .int i1, .int i2, .int i3, .int i4, .int i5, .int i6])), (a1, .inl (cB, 1600, .inl xF0))]) [0, 1] (by decide) rfl
    have hFc := va_free (wc := [(a0, .inr (10, [.ref a1, .int i0, .int i1, .int i2, .int i3, .int i4, .int i5, .int i6])), (a1, .inl (cB, 1600, .inl xF0))]) hD hS hA [0, 1] rfl
    refine va_calli (va_runV (As := [.ref sa]) (rest := []) ⟨hx, hb, hml, hown, hwd⟩ (s_X10_isWord l dC dI cI cZ cB cJ cM cG a0 a1 i0 i1 i2 i3 i4 i5 i6 xF0 sa sav sn sf s.heap.size (show (0 : Int) ≤ i0.toInt ∧ i0.toInt ≤ 1600 from ⟨by omega, by omega⟩) (show (0 : Int) ≤ i4.toInt ∧ i4.toInt ≤ 1600 from ⟨by omega, by omega⟩) (show (0 : Int) ≤ i5.toInt ∧ i5.toInt ≤ 1600 from ⟨by omega, by omega⟩)) (cwV 1 hwd (gV kr13_6 kr13_7 kr13_8 kr1_15 kr13_9) rfl rfl rfl (by decide +kernel) ⟨Nat.le_of_ble_eq_true rfl, Nat.le_of_ble_eq_true rfl⟩) (kPreVX hPc hK hDc (NS_st _ _ _ _) hN hS hFc (ci := 10) (q0 := 0) rfl rfl) rfl rfl hl.1 rfl (lv_room (Nat.le_of_ble_eq_true rfl)) dX10_takeWord_10 ⟨Nat.le_of_ble_eq_true rfl, Nat.le_of_ble_eq_true rfl⟩) hS (fun q _ h => hFc q h) hFc (fun r2 u3 t H1 locs ht9 hvm hw hB hz1 hk1 hS => ?_)
    obtain ⟨hw4, -⟩ := hw
    have hw4 : (0 : Int) ≤ r2.toInt ∧ r2.toInt ≤ 1 := hw4
    obtain ⟨hP1, hD1⟩ := hB
    rw [ht9] at hP1
    obtain ⟨hP, hD⟩ := va_join (wr := []) (w1 := [(a0, .inr (10, [.ref a1, .int i0, .int i1, .int i2, .int i3, .int i4, .int i5, .int i6])), (a1, .inl (cB, 1600, .inl xF0))]) hP hD [0, 1] [] rfl rfl (by decide) (by decide) hk1 hFc hP1 hD1
    generalize H1 = H at hP hS ⊢
    have hP : va_P (dC, dI) vwCl [(a0, .inr (10, [.ref a1, .int i0, .int i1, .int i2, .int i3, .int i4, .int i5, .int i6])), (a1, .inl (cB, 1600, .inl xF0))] H := hP
    have hD : va_D A [(a0, .inr (10, [.ref a1, .int i0, .int i1, .int i2, .int i3, .int i4, .int i5, .int i6])), (a1, .inl (cB, 1600, .inl xF0))] := hD
    refine lv_if_eq (tgt := 23) hx hb dX10_takeWord_13 (by decide) (fun c5 => ?_) (fun c5 => ?_)
    · rw [ki_eq] at c5
      refine lv_aload_n hx hb dX10_takeWord_23 rfl (lv_at hl 0 rfl) ?_
      refine lv_iconst (v := 1) hx hb dX10_takeWord_24 (by decide) ?_
      have hPc := hP.sub (ws' := [(a0, .inr (10, [.ref a1, .int i0, .int i1, .int i2, .int i3, .int i4, .int i5, .int i6]))]) [0] rfl
      have hDc := hD.sub (ws' := [(a0, .inr (10, [.ref a1, .int i0, .int i1, .int i2, .int i3, .int i4, .int i5, .int i6]))]) [0] (by decide) rfl
      have hFc := va_free (wc := [(a0, .inr (10, [.ref a1, .int i0, .int i1, .int i2, .int i3, .int i4, .int i5, .int i6]))]) hD hS hA [0] rfl
      refine va_callv (va_runV (As := [.int 1]) (rest := []) ⟨hx, hb, hml, hown, hwd⟩ (s_X10_blame l dC dI cI cZ cB cJ cM cG a0 a1 i0 i1 i2 i3 i4 i5 i6 1 H.size (show (0 : Int) ≤ i0.toInt ∧ i0.toInt ≤ 1600 from ⟨by omega, by omega⟩) (show (0 : Int) ≤ i4.toInt ∧ i4.toInt ≤ 1600 from ⟨by omega, by omega⟩) (show (0 : Int) ≤ i5.toInt ∧ i5.toInt ≤ 1600 from ⟨by omega, by omega⟩)) (cwV 1 hwd (gV kr15_11 kr15_12 kr15_13 kr1_15 kr15_14) rfl rfl rfl (by decide +kernel) ⟨Nat.le_of_ble_eq_true rfl, Nat.le_of_ble_eq_true rfl⟩) (kPreV hPc hK hDc (ci := 10) (q0 := 0) rfl rfl) rfl rfl hl.1 rfl (lv_room (Nat.le_of_ble_eq_true rfl)) dX10_takeWord_25 ⟨Nat.le_of_ble_eq_true rfl, Nat.le_of_ble_eq_true rfl⟩) hS (fun q _ h => hFc q h) hFc (fun u7 t H1 locs ht9 hvm hw hB hz1 hk1 hS => ?_)
      obtain ⟨u8, U8, V8⟩ := u7
      obtain ⟨hP1, hD1⟩ := hB
      rw [ht9] at hP1
      obtain ⟨hP, hD⟩ := va_join (wr := [(a1, .inl (cB, 1600, .inl xF0))]) (w1 := [(a0, .inr (10, [.ref a1, .int i0, .int (u8 0), .int (u8 1), .int i3, .int i4, .int i5, .int i6]))]) hP hD [0] [1] rfl rfl (by decide) (by decide) hk1 hFc hP1 hD1
      generalize H1 = H at hP hS ⊢
      have hP : va_P (dC, dI) vwCl [(a1, .inl (cB, 1600, .inl xF0)), (a0, .inr (10, [.ref a1, .int i0, .int (u8 0), .int (u8 1), .int i3, .int i4, .int i5, .int i6]))] H := hP
      have hD : va_D A [(a1, .inl (cB, 1600, .inl xF0)), (a0, .inr (10, [.ref a1, .int i0, .int (u8 0), .int (u8 1), .int i3, .int i4, .int i5, .int i6]))] := hD
      have hP9 := hP.sub (ws' := [(a0, .inr (10, [.ref a1, .int i0, .int (u8 0), .int (u8 1), .int i3, .int i4, .int i5, .int i6])), (a1, .inl (cB, 1600, .inl xF0))]) [1, 0] rfl
      have hD9 := hD.sub (ws' := [(a0, .inr (10, [.ref a1, .int i0, .int (u8 0), .int (u8 1), .int i3, .int i4, .int i5, .int i6])), (a1, .inl (cB, 1600, .inl xF0))]) [1, 0] (by decide) rfl
      rw [hQ]
      exact W.vret hx hb hr (fun t ht hW => ⟨⟨(pickG 0 [(u8 0), (u8 1), i3, i4, i5, i6], pickG (fun _ => 0) [], pickG (fun _ => 0) []), rfl, ⟨(show (0 : Int) ≤ i4.toInt ∧ i4.toInt ≤ 1600 from ⟨by omega, by omega⟩), (show (0 : Int) ≤ i5.toInt ∧ i5.toInt ≤ 1600 from ⟨by omega, by omega⟩), trivial⟩, (by rw [ht]; exact hP9), hD9⟩, hS.F ht⟩) hS.2.2 dX10_takeWord_28
    · rw [ki_eq] at c5
      refine lv_aload_n hx hb dX10_takeWord_16 rfl (lv_at hl 0 rfl) ?_
      have hPc := hP.sub (ws' := [(a0, .inr (10, [.ref a1, .int i0, .int i1, .int i2, .int i3, .int i4, .int i5, .int i6])), (a1, .inl (cB, 1600, .inl xF0))]) [0, 1] rfl
      have hDc := hD.sub (ws' := [(a0, .inr (10, [.ref a1, .int i0, .int i1, .int i2, .int i3, .int i4, .int i5, .int i6])), (a1, .inl (cB, 1600, .inl xF0))]) [0, 1] (by decide) rfl
      have hFc := va_free (wc := [(a0, .inr (10, [.ref a1, .int i0, .int i1, .int i2, .int i3, .int i4, .int i5, .int i6])), (a1, .inl (cB, 1600, .inl xF0))]) hD hS hA [0, 1] rfl
      refine va_callv (va_runV (As := []) (rest := []) ⟨hx, hb, hml, hown, hwd⟩ (s_X10_readToken l dC dI cI cZ cB cJ cM cG a0 a1 i0 i1 i2 i3 i4 i5 i6 xF0 H.size (show (0 : Int) ≤ i0.toInt ∧ i0.toInt ≤ 1600 from ⟨by omega, by omega⟩) (show (0 : Int) ≤ i4.toInt ∧ i4.toInt ≤ 1600 from ⟨by omega, by omega⟩) (show (0 : Int) ≤ i5.toInt ∧ i5.toInt ≤ 1600 from ⟨by omega, by omega⟩)) (cwV 0 hwd (gV kr11_4 kr11_5 kr11_6 kr1_15 kr11_7) rfl rfl rfl (by decide +kernel) ⟨Nat.le_of_ble_eq_true rfl, Nat.le_of_ble_eq_true rfl⟩) (kPreV hPc hK hDc (ci := 10) (q0 := 0) rfl rfl) rfl rfl hl.1 rfl (lv_room (Nat.le_of_ble_eq_true rfl)) dX10_takeWord_17 ⟨Nat.le_of_ble_eq_true rfl, Nat.le_of_ble_eq_true rfl⟩) hS (fun q _ h => hFc q h) hFc (fun u10 t H1 locs ht9 hvm hw hB hz1 hk1 hS => ?_)
      obtain ⟨u11, U11, V11⟩ := u10
      obtain ⟨hw12, hw13, -⟩ := hw
      have hw12 : (0 : Int) ≤ (u11 1).toInt ∧ (u11 1).toInt ≤ 1600 := hw12
      have hw13 : (0 : Int) ≤ (u11 2).toInt ∧ (u11 2).toInt ≤ 1600 := hw13
      obtain ⟨hP1, hD1⟩ := hB
      rw [ht9] at hP1
      obtain ⟨hP, hD⟩ := va_join (wr := []) (w1 := [(a0, .inr (10, [.ref a1, .int i0, .int i1, .int i2, .int (u11 0), .int (u11 1), .int (u11 2), .int (u11 3)])), (a1, .inl (cB, 1600, .inl xF0))]) hP hD [0, 1] [] rfl rfl (by decide) (by decide) hk1 hFc hP1 hD1
      generalize H1 = H at hP hS ⊢
      have hP : va_P (dC, dI) vwCl [(a0, .inr (10, [.ref a1, .int i0, .int i1, .int i2, .int (u11 0), .int (u11 1), .int (u11 2), .int (u11 3)])), (a1, .inl (cB, 1600, .inl xF0))] H := hP
      have hD : va_D A [(a0, .inr (10, [.ref a1, .int i0, .int i1, .int i2, .int (u11 0), .int (u11 1), .int (u11 2), .int (u11 3)])), (a1, .inl (cB, 1600, .inl xF0))] := hD
      refine lv_goto (tgt := 28) hx hb dX10_takeWord_20 (by decide) ?_
      have hP9 := hP.sub (ws' := [(a0, .inr (10, [.ref a1, .int i0, .int i1, .int i2, .int (u11 0), .int (u11 1), .int (u11 2), .int (u11 3)])), (a1, .inl (cB, 1600, .inl xF0))]) [0, 1] rfl
      have hD9 := hD.sub (ws' := [(a0, .inr (10, [.ref a1, .int i0, .int i1, .int i2, .int (u11 0), .int (u11 1), .int (u11 2), .int (u11 3)])), (a1, .inl (cB, 1600, .inl xF0))]) [0, 1] (by decide) rfl
      rw [hQ]
      exact W.vret hx hb hr (fun t ht hW => ⟨⟨(pickG 0 [i1, i2, (u11 0), (u11 1), (u11 2), (u11 3)], pickG (fun _ => 0) [], pickG (fun _ => 0) []), rfl, ⟨(show (0 : Int) ≤ (u11 1).toInt ∧ (u11 1).toInt ≤ 1600 from ⟨by omega, by omega⟩), (show (0 : Int) ≤ (u11 2).toInt ∧ (u11 2).toInt ≤ 1600 from ⟨by omega, by omega⟩), trivial⟩, (by rw [ht]; exact hP9), hD9⟩, hS.F ht⟩) hS.2.2 dX10_takeWord_28
  · rw [ki_eq] at c1
    have hP9 := hP.sub (ws' := [(a0, .inr (10, [.ref a1, .int i0, .int i1, .int i2, .int i3, .int i4, .int i5, .int i6])), (a1, .inl (cB, 1600, .inl xF0))]) [0, 1] rfl
    have hD9 := hD.sub (ws' := [(a0, .inr (10, [.ref a1, .int i0, .int i1, .int i2, .int i3, .int i4, .int i5, .int i6])), (a1, .inl (cB, 1600, .inl xF0))]) [0, 1] (by decide) rfl
    rw [hQ]
    exact W.vret hx hb hr (fun t ht hW => ⟨⟨(pickG 0 [i1, i2, i3, i4, i5, i6], pickG (fun _ => 0) [], pickG (fun _ => 0) []), rfl, ⟨(show (0 : Int) ≤ i4.toInt ∧ i4.toInt ≤ 1600 from ⟨by omega, by omega⟩), (show (0 : Int) ≤ i5.toInt ∧ i5.toInt ≤ 1600 from ⟨by omega, by omega⟩), trivial⟩, (by rw [ht]; exact hP9), hD9⟩, hS.F ht⟩) hS.2.2 dX10_takeWord_7
theorem dX7_clear_0 : decode cX7_clear 0 = .ok (.aload_n 0, 1) := by decide +kernel
theorem dX7_clear_1 : decode cX7_clear 1 = .ok (.iconst 0, 1) := by decide +kernel
theorem dX7_clear_2 : decode cX7_clear 2 = .ok (.putfield 15, 3) := by decide +kernel
theorem dX7_clear_5 : decode cX7_clear 5 = .ok (.aload_n 0, 1) := by decide +kernel
theorem dX7_clear_6 : decode cX7_clear 6 = .ok (.iconst 0, 1) := by decide +kernel
theorem dX7_clear_7 : decode cX7_clear 7 = .ok (.putfield 18, 3) := by decide +kernel
theorem dX7_clear_10 : decode cX7_clear 10 = .ok (.aload_n 0, 1) := by decide +kernel
theorem dX7_clear_11 : decode cX7_clear 11 = .ok (.iconst 0, 1) := by decide +kernel
theorem dX7_clear_12 : decode cX7_clear 12 = .ok (.putfield 21, 3) := by decide +kernel
theorem dX7_clear_15 : decode cX7_clear 15 = .ok (.aload_n 0, 1) := by decide +kernel
theorem dX7_clear_16 : decode cX7_clear 16 = .ok (.iconst 0, 1) := by decide +kernel
theorem dX7_clear_17 : decode cX7_clear 17 = .ok (.putfield 24, 3) := by decide +kernel
theorem dX7_clear_20 : decode cX7_clear 20 = .ok (.aload_n 0, 1) := by decide +kernel
theorem dX7_clear_21 : decode cX7_clear 21 = .ok (.iconst 0, 1) := by decide +kernel
theorem dX7_clear_22 : decode cX7_clear 22 = .ok (.putfield 27, 3) := by decide +kernel
theorem dX7_clear_25 : decode cX7_clear 25 = .ok (.aload_n 0, 1) := by decide +kernel
theorem dX7_clear_26 : decode cX7_clear 26 = .ok (.iconst 0, 1) := by decide +kernel
theorem dX7_clear_27 : decode cX7_clear 27 = .ok (.putfield 30, 3) := by decide +kernel
theorem dX7_clear_30 : decode cX7_clear 30 = .ok (.aload_n 0, 1) := by decide +kernel
theorem dX7_clear_31 : decode cX7_clear 31 = .ok (.iconst (-1), 1) := by decide +kernel
theorem dX7_clear_32 : decode cX7_clear 32 = .ok (.putfield 9, 3) := by decide +kernel
theorem dX7_clear_35 : decode cX7_clear 35 = .ok (.aload_n 0, 1) := by decide +kernel
theorem dX7_clear_36 : decode cX7_clear 36 = .ok (.iconst 0, 1) := by decide +kernel
theorem dX7_clear_37 : decode cX7_clear 37 = .ok (.putfield 33, 3) := by decide +kernel
theorem dX7_clear_40 : decode cX7_clear 40 = .ok (.return_, 1) := by decide +kernel
set_option maxHeartbeats 4000000 in
set_option maxRecDepth 100000 in
theorem s_X7_clear (l : Launch) (dC : Nat → ClassId) (dI : Nat → Nat → Nat) (cI cZ cB cJ cM cG : ClassId) (a0 : Nat) (i0 i1 i2 i3 i4 i5 i6 i7 : Int32) (sz : Nat) : Met l yX7_clear (kw yX7_clear cX7_clear 1 none) ({ frames := 0, cells := 0, slots := 0, locals := 0 } : Room) (va_Pc [.ref a0] (kPre dC dI [(cI, .int), (cZ, .boolean), (cB, .byte), (cJ, .long), (cM, .object RX2), (cG, .array .int)] [(a0, .inr (7, [.int i0, .int i1, .int i2, .int i3, .int i4, .int i5, .int i6, .int i7]))] sz)) (va_Qv (fun (u9 : (Nat → Int32) × (Nat → Nat → Int32) × (Nat → Nat → Int64)) => True) (fun u9 t => va_P (dC, dI) vwCl [(a0, .inr (7, [.int (u9.1 0), .int (u9.1 1), .int (u9.1 2), .int (u9.1 3), .int (u9.1 4), .int (u9.1 5), .int (u9.1 6), .int (u9.1 7)]))] t.heap ∧ va_D (va_A [(a0, .inr (7, [.int i0, .int i1, .int i2, .int i3, .int i4, .int i5, .int i6, .int i7]))] sz) [(a0, .inr (7, [.int (u9.1 0), .int (u9.1 1), .int (u9.1 2), .int (u9.1 3), .int (u9.1 4), .int (u9.1 5), .int (u9.1 6), .int (u9.1 7)]))]) (va_A [(a0, .inr (7, [.int i0, .int i1, .int i2, .int i3, .int i4, .int i5, .int i6, .int i7]))] sz)) 0 0 (va_A [(a0, .inr (7, [.int i0, .int i1, .int i2, .int i3, .int i4, .int i5, .int i6, .int i7]))] sz) := by
  refine kEnter (by decide) (Nat.le_of_ble_eq_true rfl) ?_
  intro p e s m below meth c ls hx hb hr hml hown hlocks hin hwd hsz hP hK hD hl
  subst hsz
  generalize hAe : va_A [(a0, .inr (7, [.int i0, .int i1, .int i2, .int i3, .int i4, .int i5, .int i6, .int i7]))] s.heap.size = A at hD ⊢
  have hA : ∀ q : Nat, s.heap.size ≤ q → A q := fun q h => by rw [← hAe]; exact Or.inr h
  have hS : va_S A s.heap s.heap [] := va_S.rf
  have hl : lv_has ls 1 [(0, .ref a0)] := hl
  obtain ⟨Q, hQ⟩ : ∃ Q, Q = MQ below (va_Qv (fun (u9 : (Nat → Int32) × (Nat → Nat → Int32) × (Nat → Nat → Int64)) => True) (fun u9 t => va_P (dC, dI) vwCl [(a0, .inr (7, [.int (u9.1 0), .int (u9.1 1), .int (u9.1 2), .int (u9.1 3), .int (u9.1 4), .int (u9.1 5), .int (u9.1 6), .int (u9.1 7)]))] t.heap ∧ va_D A [(a0, .inr (7, [.int (u9.1 0), .int (u9.1 1), .int (u9.1 2), .int (u9.1 3), .int (u9.1 4), .int (u9.1 5), .int (u9.1 6), .int (u9.1 7)]))]) A) ([.ref a0] : List Value).toArray s 0 0 A := ⟨_, rfl⟩
  rw [← hQ]
  refine lv_aload_n hx hb dX7_clear_0 rfl (lv_at hl 0 rfl) ?_
  refine lv_iconst (v := 0) hx hb dX7_clear_1 (by decide) ?_
  refine va_put (D := (dC, dI)) (ci := 7) (v := .int 0) (ty := .int) (C := RX7) (T := TX7) (N := 8) hx hb hwd inlX7 tyX7 tyX7_ok nmX7 hown hK hP hD hS 0 rfl rfl 0 (by decide) (hwd _ kr10_15) (fun _ h9 => h9) rfl (by decide +kernel) rfl rfl (Nat.le_of_ble_eq_true rfl) dX7_clear_2 (fun H locs hP hD hS => ?_)
  have hP : va_P (dC, dI) vwCl [(a0, .inr (7, [.int 0, .int i1, .int i2, .int i3, .int i4, .int i5, .int i6, .int i7]))] H := hP
  have hD : va_D A [(a0, .inr (7, [.int 0, .int i1, .int i2, .int i3, .int i4, .int i5, .int i6, .int i7]))] := hD
  refine lv_aload_n hx hb dX7_clear_5 rfl (lv_at hl 0 rfl) ?_
  refine lv_iconst (v := 0) hx hb dX7_clear_6 (by decide) ?_
  refine va_put (D := (dC, dI)) (ci := 7) (v := .int 0) (ty := .int) (C := RX7) (T := TX7) (N := 8) hx hb hwd inlX7 tyX7 tyX7_ok nmX7 hown hK hP hD hS 0 rfl rfl 1 (by decide) (hwd _ kr10_16) (fun _ h9 => h9) rfl (by decide +kernel) rfl rfl (Nat.le_of_ble_eq_true rfl) dX7_clear_7 (fun H locs hP hD hS => ?_)
  have hP : va_P (dC, dI) vwCl [(a0, .inr (7, [.int 0, .int 0, .int i2, .int i3, .int i4, .int i5, .int i6, .int i7]))] H := hP
  have hD : va_D A [(a0, .inr (7, [.int 0, .int 0, .int i2, .int i3, .int i4, .int i5, .int i6, .int i7]))] := hD
  refine lv_aload_n hx hb dX7_clear_10 rfl (lv_at hl 0 rfl) ?_
  refine lv_iconst (v := 0) hx hb dX7_clear_11 (by decide) ?_
  refine va_put (D := (dC, dI)) (ci := 7) (v := .int 0) (ty := .int) (C := RX7) (T := TX7) (N := 8) hx hb hwd inlX7 tyX7 tyX7_ok nmX7 hown hK hP hD hS 0 rfl rfl 2 (by decide) (hwd _ kr10_17) (fun _ h9 => h9) rfl (by decide +kernel) rfl rfl (Nat.le_of_ble_eq_true rfl) dX7_clear_12 (fun H locs hP hD hS => ?_)
  have hP : va_P (dC, dI) vwCl [(a0, .inr (7, [.int 0, .int 0, .int 0, .int i3, .int i4, .int i5, .int i6, .int i7]))] H := hP
  have hD : va_D A [(a0, .inr (7, [.int 0, .int 0, .int 0, .int i3, .int i4, .int i5, .int i6, .int i7]))] := hD
  refine lv_aload_n hx hb dX7_clear_15 rfl (lv_at hl 0 rfl) ?_
  refine lv_iconst (v := 0) hx hb dX7_clear_16 (by decide) ?_
  refine va_put (D := (dC, dI)) (ci := 7) (v := .int 0) (ty := .int) (C := RX7) (T := TX7) (N := 8) hx hb hwd inlX7 tyX7 tyX7_ok nmX7 hown hK hP hD hS 0 rfl rfl 3 (by decide) (hwd _ kr10_18) (fun _ h9 => h9) rfl (by decide +kernel) rfl rfl (Nat.le_of_ble_eq_true rfl) dX7_clear_17 (fun H locs hP hD hS => ?_)
  have hP : va_P (dC, dI) vwCl [(a0, .inr (7, [.int 0, .int 0, .int 0, .int 0, .int i4, .int i5, .int i6, .int i7]))] H := hP
  have hD : va_D A [(a0, .inr (7, [.int 0, .int 0, .int 0, .int 0, .int i4, .int i5, .int i6, .int i7]))] := hD
  refine lv_aload_n hx hb dX7_clear_20 rfl (lv_at hl 0 rfl) ?_
  refine lv_iconst (v := 0) hx hb dX7_clear_21 (by decide) ?_
  refine va_put (D := (dC, dI)) (ci := 7) (v := .int 0) (ty := .int) (C := RX7) (T := TX7) (N := 8) hx hb hwd inlX7 tyX7 tyX7_ok nmX7 hown hK hP hD hS 0 rfl rfl 4 (by decide) (hwd _ kr10_19) (fun _ h9 => h9) rfl (by decide +kernel) rfl rfl (Nat.le_of_ble_eq_true rfl) dX7_clear_22 (fun H locs hP hD hS => ?_)
  have hP : va_P (dC, dI) vwCl [(a0, .inr (7, [.int 0, .int 0, .int 0, .int 0, .int 0, .int i5, .int i6, .int i7]))] H := hP
  have hD : va_D A [(a0, .inr (7, [.int 0, .int 0, .int 0, .int 0, .int 0, .int i5, .int i6, .int i7]))] := hD
  refine lv_aload_n hx hb dX7_clear_25 rfl (lv_at hl 0 rfl) ?_
  refine lv_iconst (v := 0) hx hb dX7_clear_26 (by decide) ?_
  refine va_put (D := (dC, dI)) (ci := 7) (v := .int 0) (ty := .int) (C := RX7) (T := TX7) (N := 8) hx hb hwd inlX7 tyX7 tyX7_ok nmX7 hown hK hP hD hS 0 rfl rfl 5 (by decide) (hwd _ kr10_20) (fun _ h9 => h9) rfl (by decide +kernel) rfl rfl (Nat.le_of_ble_eq_true rfl) dX7_clear_27 (fun H locs hP hD hS => ?_)
  have hP : va_P (dC, dI) vwCl [(a0, .inr (7, [.int 0, .int 0, .int 0, .int 0, .int 0, .int 0, .int i6, .int i7]))] H := hP
  have hD : va_D A [(a0, .inr (7, [.int 0, .int 0, .int 0, .int 0, .int 0, .int 0, .int i6, .int i7]))] := hD
  refine lv_aload_n hx hb dX7_clear_30 rfl (lv_at hl 0 rfl) ?_
  refine lv_iconst (v := (-1)) hx hb dX7_clear_31 (by decide) ?_
  refine va_put (D := (dC, dI)) (ci := 7) (v := .int (-1)) (ty := .int) (C := RX7) (T := TX7) (N := 8) hx hb hwd inlX7 tyX7 tyX7_ok nmX7 hown hK hP hD hS 0 rfl rfl 6 (by decide) (hwd _ kr6_22) (fun _ h9 => h9) rfl (by decide +kernel) rfl rfl (Nat.le_of_ble_eq_true rfl) dX7_clear_32 (fun H locs hP hD hS => ?_)
  have hP : va_P (dC, dI) vwCl [(a0, .inr (7, [.int 0, .int 0, .int 0, .int 0, .int 0, .int 0, .int (-1), .int i7]))] H := hP
  have hD : va_D A [(a0, .inr (7, [.int 0, .int 0, .int 0, .int 0, .int 0, .int 0, .int (-1), .int i7]))] := hD
  refine lv_aload_n hx hb dX7_clear_35 rfl (lv_at hl 0 rfl) ?_
  refine lv_iconst (v := 0) hx hb dX7_clear_36 (by decide) ?_
  refine va_put (D := (dC, dI)) (ci := 7) (v := .int 0) (ty := .int) (C := RX7) (T := TX7) (N := 8) hx hb hwd inlX7 tyX7 tyX7_ok nmX7 hown hK hP hD hS 0 rfl rfl 7 (by decide) (hwd _ kr10_21) (fun _ h9 => h9) rfl (by decide +kernel) rfl rfl (Nat.le_of_ble_eq_true rfl) dX7_clear_37 (fun H locs hP hD hS => ?_)
  have hP : va_P (dC, dI) vwCl [(a0, .inr (7, [.int 0, .int 0, .int 0, .int 0, .int 0, .int 0, .int (-1), .int 0]))] H := hP
  have hD : va_D A [(a0, .inr (7, [.int 0, .int 0, .int 0, .int 0, .int 0, .int 0, .int (-1), .int 0]))] := hD
  have hP9 := hP.sub (ws' := [(a0, .inr (7, [.int 0, .int 0, .int 0, .int 0, .int 0, .int 0, .int (-1), .int 0]))]) [0] rfl
  have hD9 := hD.sub (ws' := [(a0, .inr (7, [.int 0, .int 0, .int 0, .int 0, .int 0, .int 0, .int (-1), .int 0]))]) [0] (by decide) rfl
  rw [hQ]
  exact W.vret hx hb hr (fun t ht hW => ⟨⟨(pickG 0 [0, 0, 0, 0, 0, 0, (-1), 0], pickG (fun _ => 0) [], pickG (fun _ => 0) []), rfl, trivial, (by rw [ht]; exact hP9), hD9⟩, hS.F ht⟩) hS.2.2 dX7_clear_40
theorem dX7_copyFrom_0 : decode cX7_copyFrom 0 = .ok (.aload_n 0, 1) := by decide +kernel
theorem dX7_copyFrom_1 : decode cX7_copyFrom 1 = .ok (.aload_n 1, 1) := by decide +kernel
theorem dX7_copyFrom_2 : decode cX7_copyFrom 2 = .ok (.getfield 15, 3) := by decide +kernel
theorem dX7_copyFrom_5 : decode cX7_copyFrom 5 = .ok (.putfield 15, 3) := by decide +kernel
theorem dX7_copyFrom_8 : decode cX7_copyFrom 8 = .ok (.aload_n 0, 1) := by decide +kernel
theorem dX7_copyFrom_9 : decode cX7_copyFrom 9 = .ok (.aload_n 1, 1) := by decide +kernel
theorem dX7_copyFrom_10 : decode cX7_copyFrom 10 = .ok (.getfield 18, 3) := by decide +kernel
theorem dX7_copyFrom_13 : decode cX7_copyFrom 13 = .ok (.putfield 18, 3) := by decide +kernel
theorem dX7_copyFrom_16 : decode cX7_copyFrom 16 = .ok (.aload_n 0, 1) := by decide +kernel
theorem dX7_copyFrom_17 : decode cX7_copyFrom 17 = .ok (.aload_n 1, 1) := by decide +kernel
theorem dX7_copyFrom_18 : decode cX7_copyFrom 18 = .ok (.getfield 21, 3) := by decide +kernel
theorem dX7_copyFrom_21 : decode cX7_copyFrom 21 = .ok (.putfield 21, 3) := by decide +kernel
theorem dX7_copyFrom_24 : decode cX7_copyFrom 24 = .ok (.aload_n 0, 1) := by decide +kernel
theorem dX7_copyFrom_25 : decode cX7_copyFrom 25 = .ok (.aload_n 1, 1) := by decide +kernel
theorem dX7_copyFrom_26 : decode cX7_copyFrom 26 = .ok (.getfield 24, 3) := by decide +kernel
theorem dX7_copyFrom_29 : decode cX7_copyFrom 29 = .ok (.putfield 24, 3) := by decide +kernel
theorem dX7_copyFrom_32 : decode cX7_copyFrom 32 = .ok (.aload_n 0, 1) := by decide +kernel
theorem dX7_copyFrom_33 : decode cX7_copyFrom 33 = .ok (.aload_n 1, 1) := by decide +kernel
theorem dX7_copyFrom_34 : decode cX7_copyFrom 34 = .ok (.getfield 27, 3) := by decide +kernel
theorem dX7_copyFrom_37 : decode cX7_copyFrom 37 = .ok (.putfield 27, 3) := by decide +kernel
theorem dX7_copyFrom_40 : decode cX7_copyFrom 40 = .ok (.aload_n 0, 1) := by decide +kernel
theorem dX7_copyFrom_41 : decode cX7_copyFrom 41 = .ok (.aload_n 1, 1) := by decide +kernel
theorem dX7_copyFrom_42 : decode cX7_copyFrom 42 = .ok (.getfield 30, 3) := by decide +kernel
theorem dX7_copyFrom_45 : decode cX7_copyFrom 45 = .ok (.putfield 30, 3) := by decide +kernel
theorem dX7_copyFrom_48 : decode cX7_copyFrom 48 = .ok (.aload_n 0, 1) := by decide +kernel
theorem dX7_copyFrom_49 : decode cX7_copyFrom 49 = .ok (.aload_n 1, 1) := by decide +kernel
theorem dX7_copyFrom_50 : decode cX7_copyFrom 50 = .ok (.getfield 9, 3) := by decide +kernel
theorem dX7_copyFrom_53 : decode cX7_copyFrom 53 = .ok (.putfield 9, 3) := by decide +kernel
theorem dX7_copyFrom_56 : decode cX7_copyFrom 56 = .ok (.aload_n 0, 1) := by decide +kernel
theorem dX7_copyFrom_57 : decode cX7_copyFrom 57 = .ok (.aload_n 1, 1) := by decide +kernel
theorem dX7_copyFrom_58 : decode cX7_copyFrom 58 = .ok (.getfield 33, 3) := by decide +kernel
theorem dX7_copyFrom_61 : decode cX7_copyFrom 61 = .ok (.putfield 33, 3) := by decide +kernel
theorem dX7_copyFrom_64 : decode cX7_copyFrom 64 = .ok (.return_, 1) := by decide +kernel
set_option maxHeartbeats 4000000 in
set_option maxRecDepth 100000 in
theorem s_X7_copyFrom (l : Launch) (dC : Nat → ClassId) (dI : Nat → Nat → Nat) (cI cZ cB cJ cM cG : ClassId) (a0 a1 : Nat) (i0 i1 i2 i3 i4 i5 i6 i7 i8 i9 i10 i11 i12 i13 i14 i15 : Int32) (sz : Nat) : Met l yX7_copyFrom (kw yX7_copyFrom cX7_copyFrom 2 none) ({ frames := 0, cells := 0, slots := 0, locals := 0 } : Room) (va_Pc [.ref a0, .ref a1] (kPre dC dI [(cI, .int), (cZ, .boolean), (cB, .byte), (cJ, .long), (cM, .object RX2), (cG, .array .int)] [(a0, .inr (7, [.int i0, .int i1, .int i2, .int i3, .int i4, .int i5, .int i6, .int i7])), (a1, .inr (7, [.int i8, .int i9, .int i10, .int i11, .int i12, .int i13, .int i14, .int i15]))] sz)) (va_Qv (fun (u9 : (Nat → Int32) × (Nat → Nat → Int32) × (Nat → Nat → Int64)) => True) (fun u9 t => va_P (dC, dI) vwCl [(a0, .inr (7, [.int (u9.1 0), .int (u9.1 1), .int (u9.1 2), .int (u9.1 3), .int (u9.1 4), .int (u9.1 5), .int (u9.1 6), .int (u9.1 7)])), (a1, .inr (7, [.int i8, .int i9, .int i10, .int i11, .int i12, .int i13, .int i14, .int i15]))] t.heap ∧ va_D (va_A [(a0, .inr (7, [.int i0, .int i1, .int i2, .int i3, .int i4, .int i5, .int i6, .int i7])), (a1, .inr (7, [.int i8, .int i9, .int i10, .int i11, .int i12, .int i13, .int i14, .int i15]))] sz) [(a0, .inr (7, [.int (u9.1 0), .int (u9.1 1), .int (u9.1 2), .int (u9.1 3), .int (u9.1 4), .int (u9.1 5), .int (u9.1 6), .int (u9.1 7)])), (a1, .inr (7, [.int i8, .int i9, .int i10, .int i11, .int i12, .int i13, .int i14, .int i15]))]) (va_A [(a0, .inr (7, [.int i0, .int i1, .int i2, .int i3, .int i4, .int i5, .int i6, .int i7])), (a1, .inr (7, [.int i8, .int i9, .int i10, .int i11, .int i12, .int i13, .int i14, .int i15]))] sz)) 0 0 (va_A [(a0, .inr (7, [.int i0, .int i1, .int i2, .int i3, .int i4, .int i5, .int i6, .int i7])), (a1, .inr (7, [.int i8, .int i9, .int i10, .int i11, .int i12, .int i13, .int i14, .int i15]))] sz) := by
  refine kEnter (by decide) (Nat.le_of_ble_eq_true rfl) ?_
  intro p e s m below meth c ls hx hb hr hml hown hlocks hin hwd hsz hP hK hD hl
  subst hsz
  generalize hAe : va_A [(a0, .inr (7, [.int i0, .int i1, .int i2, .int i3, .int i4, .int i5, .int i6, .int i7])), (a1, .inr (7, [.int i8, .int i9, .int i10, .int i11, .int i12, .int i13, .int i14, .int i15]))] s.heap.size = A at hD ⊢
  have hA : ∀ q : Nat, s.heap.size ≤ q → A q := fun q h => by rw [← hAe]; exact Or.inr h
  have hS : va_S A s.heap s.heap [] := va_S.rf
  have hl : lv_has ls 2 [(0, .ref a0), (1, .ref a1)] := hl
  obtain ⟨Q, hQ⟩ : ∃ Q, Q = MQ below (va_Qv (fun (u9 : (Nat → Int32) × (Nat → Nat → Int32) × (Nat → Nat → Int64)) => True) (fun u9 t => va_P (dC, dI) vwCl [(a0, .inr (7, [.int (u9.1 0), .int (u9.1 1), .int (u9.1 2), .int (u9.1 3), .int (u9.1 4), .int (u9.1 5), .int (u9.1 6), .int (u9.1 7)])), (a1, .inr (7, [.int i8, .int i9, .int i10, .int i11, .int i12, .int i13, .int i14, .int i15]))] t.heap ∧ va_D A [(a0, .inr (7, [.int (u9.1 0), .int (u9.1 1), .int (u9.1 2), .int (u9.1 3), .int (u9.1 4), .int (u9.1 5), .int (u9.1 6), .int (u9.1 7)])), (a1, .inr (7, [.int i8, .int i9, .int i10, .int i11, .int i12, .int i13, .int i14, .int i15]))]) A) ([.ref a0, .ref a1] : List Value).toArray s 0 0 A := ⟨_, rfl⟩
  rw [← hQ]
  refine lv_aload_n hx hb dX7_copyFrom_0 rfl (lv_at hl 0 rfl) ?_
  refine lv_aload_n hx hb dX7_copyFrom_1 rfl (lv_at hl 1 rfl) ?_
  refine va_get (D := (dC, dI)) (ci := 7) (v := .int i8) (C := RX7) (T := TX7) (N := 8) hx hb hwd inlX7 hown hK hP 1 rfl rfl 0 (by decide) (hwd _ kr10_15) (fun _ h9 => h9) rfl dX7_copyFrom_2 ?_
  refine va_put (D := (dC, dI)) (ci := 7) (v := .int i8) (ty := .int) (C := RX7) (T := TX7) (N := 8) hx hb hwd inlX7 tyX7 tyX7_ok nmX7 hown hK hP hD hS 0 rfl rfl 0 (by decide) (hwd _ kr10_15) (fun _ h9 => h9) rfl (by decide +kernel) rfl rfl (Nat.le_of_ble_eq_true rfl) dX7_copyFrom_5 (fun H locs hP hD hS => ?_)
  have hP : va_P (dC, dI) vwCl [(a0, .inr (7, [.int i8, .int i1, .int i2, .int i3, .int i4, .int i5, .int i6, .int i7])), (a1, .inr (7, [.int i8, .int i9, .int i10, .int i11, .int i12, .int i13, .int i14, .int i15]))] H := hP
  have hD : va_D A [(a0, .inr (7, [.int i8, .int i1, .int i2, .int i3, .int i4, .int i5, .int i6, .int i7])), (a1, .inr (7, [.int i8, .int i9, .int i10, .int i11, .int i12, .int i13, .int i14, .int i15]))] := hD
  refine lv_aload_n hx hb dX7_copyFrom_8 rfl (lv_at hl 0 rfl) ?_
  refine lv_aload_n hx hb dX7_copyFrom_9 rfl (lv_at hl 1 rfl) ?_
  refine va_get (D := (dC, dI)) (ci := 7) (v := .int i9) (C := RX7) (T := TX7) (N := 8) hx hb hwd inlX7 hown hK hP 1 rfl rfl 1 (by decide) (hwd _ kr10_16) (fun _ h9 => h9) rfl dX7_copyFrom_10 ?_
  refine va_put (D := (dC, dI)) (ci := 7) (v := .int i9) (ty := .int) (C := RX7) (T := TX7) (N := 8) hx hb hwd inlX7 tyX7 tyX7_ok nmX7 hown hK hP hD hS 0 rfl rfl 1 (by decide) (hwd _ kr10_16) (fun _ h9 => h9) rfl (by decide +kernel) rfl rfl (Nat.le_of_ble_eq_true rfl) dX7_copyFrom_13 (fun H locs hP hD hS => ?_)
  have hP : va_P (dC, dI) vwCl [(a0, .inr (7, [.int i8, .int i9, .int i2, .int i3, .int i4, .int i5, .int i6, .int i7])), (a1, .inr (7, [.int i8, .int i9, .int i10, .int i11, .int i12, .int i13, .int i14, .int i15]))] H := hP
  have hD : va_D A [(a0, .inr (7, [.int i8, .int i9, .int i2, .int i3, .int i4, .int i5, .int i6, .int i7])), (a1, .inr (7, [.int i8, .int i9, .int i10, .int i11, .int i12, .int i13, .int i14, .int i15]))] := hD
  refine lv_aload_n hx hb dX7_copyFrom_16 rfl (lv_at hl 0 rfl) ?_
  refine lv_aload_n hx hb dX7_copyFrom_17 rfl (lv_at hl 1 rfl) ?_
  refine va_get (D := (dC, dI)) (ci := 7) (v := .int i10) (C := RX7) (T := TX7) (N := 8) hx hb hwd inlX7 hown hK hP 1 rfl rfl 2 (by decide) (hwd _ kr10_17) (fun _ h9 => h9) rfl dX7_copyFrom_18 ?_
  refine va_put (D := (dC, dI)) (ci := 7) (v := .int i10) (ty := .int) (C := RX7) (T := TX7) (N := 8) hx hb hwd inlX7 tyX7 tyX7_ok nmX7 hown hK hP hD hS 0 rfl rfl 2 (by decide) (hwd _ kr10_17) (fun _ h9 => h9) rfl (by decide +kernel) rfl rfl (Nat.le_of_ble_eq_true rfl) dX7_copyFrom_21 (fun H locs hP hD hS => ?_)
  have hP : va_P (dC, dI) vwCl [(a0, .inr (7, [.int i8, .int i9, .int i10, .int i3, .int i4, .int i5, .int i6, .int i7])), (a1, .inr (7, [.int i8, .int i9, .int i10, .int i11, .int i12, .int i13, .int i14, .int i15]))] H := hP
  have hD : va_D A [(a0, .inr (7, [.int i8, .int i9, .int i10, .int i3, .int i4, .int i5, .int i6, .int i7])), (a1, .inr (7, [.int i8, .int i9, .int i10, .int i11, .int i12, .int i13, .int i14, .int i15]))] := hD
  refine lv_aload_n hx hb dX7_copyFrom_24 rfl (lv_at hl 0 rfl) ?_
  refine lv_aload_n hx hb dX7_copyFrom_25 rfl (lv_at hl 1 rfl) ?_
  refine va_get (D := (dC, dI)) (ci := 7) (v := .int i11) (C := RX7) (T := TX7) (N := 8) hx hb hwd inlX7 hown hK hP 1 rfl rfl 3 (by decide) (hwd _ kr10_18) (fun _ h9 => h9) rfl dX7_copyFrom_26 ?_
  refine va_put (D := (dC, dI)) (ci := 7) (v := .int i11) (ty := .int) (C := RX7) (T := TX7) (N := 8) hx hb hwd inlX7 tyX7 tyX7_ok nmX7 hown hK hP hD hS 0 rfl rfl 3 (by decide) (hwd _ kr10_18) (fun _ h9 => h9) rfl (by decide +kernel) rfl rfl (Nat.le_of_ble_eq_true rfl) dX7_copyFrom_29 (fun H locs hP hD hS => ?_)
  have hP : va_P (dC, dI) vwCl [(a0, .inr (7, [.int i8, .int i9, .int i10, .int i11, .int i4, .int i5, .int i6, .int i7])), (a1, .inr (7, [.int i8, .int i9, .int i10, .int i11, .int i12, .int i13, .int i14, .int i15]))] H := hP
  have hD : va_D A [(a0, .inr (7, [.int i8, .int i9, .int i10, .int i11, .int i4, .int i5, .int i6, .int i7])), (a1, .inr (7, [.int i8, .int i9, .int i10, .int i11, .int i12, .int i13, .int i14, .int i15]))] := hD
  refine lv_aload_n hx hb dX7_copyFrom_32 rfl (lv_at hl 0 rfl) ?_
  refine lv_aload_n hx hb dX7_copyFrom_33 rfl (lv_at hl 1 rfl) ?_
  refine va_get (D := (dC, dI)) (ci := 7) (v := .int i12) (C := RX7) (T := TX7) (N := 8) hx hb hwd inlX7 hown hK hP 1 rfl rfl 4 (by decide) (hwd _ kr10_19) (fun _ h9 => h9) rfl dX7_copyFrom_34 ?_
  refine va_put (D := (dC, dI)) (ci := 7) (v := .int i12) (ty := .int) (C := RX7) (T := TX7) (N := 8) hx hb hwd inlX7 tyX7 tyX7_ok nmX7 hown hK hP hD hS 0 rfl rfl 4 (by decide) (hwd _ kr10_19) (fun _ h9 => h9) rfl (by decide +kernel) rfl rfl (Nat.le_of_ble_eq_true rfl) dX7_copyFrom_37 (fun H locs hP hD hS => ?_)
  have hP : va_P (dC, dI) vwCl [(a0, .inr (7, [.int i8, .int i9, .int i10, .int i11, .int i12, .int i5, .int i6, .int i7])), (a1, .inr (7, [.int i8, .int i9, .int i10, .int i11, .int i12, .int i13, .int i14, .int i15]))] H := hP
  have hD : va_D A [(a0, .inr (7, [.int i8, .int i9, .int i10, .int i11, .int i12, .int i5, .int i6, .int i7])), (a1, .inr (7, [.int i8, .int i9, .int i10, .int i11, .int i12, .int i13, .int i14, .int i15]))] := hD
  refine lv_aload_n hx hb dX7_copyFrom_40 rfl (lv_at hl 0 rfl) ?_
  refine lv_aload_n hx hb dX7_copyFrom_41 rfl (lv_at hl 1 rfl) ?_
  refine va_get (D := (dC, dI)) (ci := 7) (v := .int i13) (C := RX7) (T := TX7) (N := 8) hx hb hwd inlX7 hown hK hP 1 rfl rfl 5 (by decide) (hwd _ kr10_20) (fun _ h9 => h9) rfl dX7_copyFrom_42 ?_
  refine va_put (D := (dC, dI)) (ci := 7) (v := .int i13) (ty := .int) (C := RX7) (T := TX7) (N := 8) hx hb hwd inlX7 tyX7 tyX7_ok nmX7 hown hK hP hD hS 0 rfl rfl 5 (by decide) (hwd _ kr10_20) (fun _ h9 => h9) rfl (by decide +kernel) rfl rfl (Nat.le_of_ble_eq_true rfl) dX7_copyFrom_45 (fun H locs hP hD hS => ?_)
  have hP : va_P (dC, dI) vwCl [(a0, .inr (7, [.int i8, .int i9, .int i10, .int i11, .int i12, .int i13, .int i6, .int i7])), (a1, .inr (7, [.int i8, .int i9, .int i10, .int i11, .int i12, .int i13, .int i14, .int i15]))] H := hP
  have hD : va_D A [(a0, .inr (7, [.int i8, .int i9, .int i10, .int i11, .int i12, .int i13, .int i6, .int i7])), (a1, .inr (7, [.int i8, .int i9, .int i10, .int i11, .int i12, .int i13, .int i14, .int i15]))] := hD
  refine lv_aload_n hx hb dX7_copyFrom_48 rfl (lv_at hl 0 rfl) ?_
  refine lv_aload_n hx hb dX7_copyFrom_49 rfl (lv_at hl 1 rfl) ?_
  refine va_get (D := (dC, dI)) (ci := 7) (v := .int i14) (C := RX7) (T := TX7) (N := 8) hx hb hwd inlX7 hown hK hP 1 rfl rfl 6 (by decide) (hwd _ kr6_22) (fun _ h9 => h9) rfl dX7_copyFrom_50 ?_
  refine va_put (D := (dC, dI)) (ci := 7) (v := .int i14) (ty := .int) (C := RX7) (T := TX7) (N := 8) hx hb hwd inlX7 tyX7 tyX7_ok nmX7 hown hK hP hD hS 0 rfl rfl 6 (by decide) (hwd _ kr6_22) (fun _ h9 => h9) rfl (by decide +kernel) rfl rfl (Nat.le_of_ble_eq_true rfl) dX7_copyFrom_53 (fun H locs hP hD hS => ?_)
  have hP : va_P (dC, dI) vwCl [(a0, .inr (7, [.int i8, .int i9, .int i10, .int i11, .int i12, .int i13, .int i14, .int i7])), (a1, .inr (7, [.int i8, .int i9, .int i10, .int i11, .int i12, .int i13, .int i14, .int i15]))] H := hP
  have hD : va_D A [(a0, .inr (7, [.int i8, .int i9, .int i10, .int i11, .int i12, .int i13, .int i14, .int i7])), (a1, .inr (7, [.int i8, .int i9, .int i10, .int i11, .int i12, .int i13, .int i14, .int i15]))] := hD
  refine lv_aload_n hx hb dX7_copyFrom_56 rfl (lv_at hl 0 rfl) ?_
  refine lv_aload_n hx hb dX7_copyFrom_57 rfl (lv_at hl 1 rfl) ?_
  refine va_get (D := (dC, dI)) (ci := 7) (v := .int i15) (C := RX7) (T := TX7) (N := 8) hx hb hwd inlX7 hown hK hP 1 rfl rfl 7 (by decide) (hwd _ kr10_21) (fun _ h9 => h9) rfl dX7_copyFrom_58 ?_
  refine va_put (D := (dC, dI)) (ci := 7) (v := .int i15) (ty := .int) (C := RX7) (T := TX7) (N := 8) hx hb hwd inlX7 tyX7 tyX7_ok nmX7 hown hK hP hD hS 0 rfl rfl 7 (by decide) (hwd _ kr10_21) (fun _ h9 => h9) rfl (by decide +kernel) rfl rfl (Nat.le_of_ble_eq_true rfl) dX7_copyFrom_61 (fun H locs hP hD hS => ?_)
  have hP : va_P (dC, dI) vwCl [(a0, .inr (7, [.int i8, .int i9, .int i10, .int i11, .int i12, .int i13, .int i14, .int i15])), (a1, .inr (7, [.int i8, .int i9, .int i10, .int i11, .int i12, .int i13, .int i14, .int i15]))] H := hP
  have hD : va_D A [(a0, .inr (7, [.int i8, .int i9, .int i10, .int i11, .int i12, .int i13, .int i14, .int i15])), (a1, .inr (7, [.int i8, .int i9, .int i10, .int i11, .int i12, .int i13, .int i14, .int i15]))] := hD
  have hP9 := hP.sub (ws' := [(a0, .inr (7, [.int i8, .int i9, .int i10, .int i11, .int i12, .int i13, .int i14, .int i15])), (a1, .inr (7, [.int i8, .int i9, .int i10, .int i11, .int i12, .int i13, .int i14, .int i15]))]) [0, 1] rfl
  have hD9 := hD.sub (ws' := [(a0, .inr (7, [.int i8, .int i9, .int i10, .int i11, .int i12, .int i13, .int i14, .int i15])), (a1, .inr (7, [.int i8, .int i9, .int i10, .int i11, .int i12, .int i13, .int i14, .int i15]))]) [0, 1] (by decide) rfl
  rw [hQ]
  exact W.vret hx hb hr (fun t ht hW => ⟨⟨(pickG 0 [i8, i9, i10, i11, i12, i13, i14, i15], pickG (fun _ => 0) [], pickG (fun _ => 0) []), rfl, trivial, (by rw [ht]; exact hP9), hD9⟩, hS.F ht⟩) hS.2.2 dX7_copyFrom_64
theorem dX7_slackFor_0 : decode cX7_slackFor 0 = .ok (.aload_n 0, 1) := by decide +kernel
theorem dX7_slackFor_1 : decode cX7_slackFor 1 = .ok (.getfield 33, 3) := by decide +kernel
theorem dX7_slackFor_4 : decode cX7_slackFor 4 = .ok (.iload_n 1, 1) := by decide +kernel
theorem dX7_slackFor_5 : decode cX7_slackFor 5 = .ok (.ineg, 1) := by decide +kernel
theorem dX7_slackFor_6 : decode cX7_slackFor 6 = .ok (.if_icmp .ne 7, 3) := by decide +kernel
theorem dX7_slackFor_9 : decode cX7_slackFor 9 = .ok (.iload_n 2, 1) := by decide +kernel
theorem dX7_slackFor_10 : decode cX7_slackFor 10 = .ok (.goto 7, 3) := by decide +kernel
theorem dX7_slackFor_13 : decode cX7_slackFor 13 = .ok (.aload_n 0, 1) := by decide +kernel
theorem dX7_slackFor_14 : decode cX7_slackFor 14 = .ok (.getfield 27, 3) := by decide +kernel
theorem dX7_slackFor_17 : decode cX7_slackFor 17 = .ok (.ireturn, 1) := by decide +kernel
set_option maxHeartbeats 4000000 in
set_option maxRecDepth 100000 in
theorem s_X7_slackFor (l : Launch) (dC : Nat → ClassId) (dI : Nat → Nat → Nat) (cI cZ cB cJ cM cG : ClassId) (a0 : Nat) (i0 i1 i2 i3 i4 i5 i6 i7 : Int32) (p0 p1 : Int32) (sz : Nat) : Met l yX7_slackFor (kw yX7_slackFor cX7_slackFor 3 (some .int)) ({ frames := 0, cells := 0, slots := 0, locals := 0 } : Room) (va_Pc [.ref a0, .int p0, .int p1] (kPre dC dI [(cI, .int), (cZ, .boolean), (cB, .byte), (cJ, .long), (cM, .object RX2), (cG, .array .int)] [(a0, .inr (7, [.int i0, .int i1, .int i2, .int i3, .int i4, .int i5, .int i6, .int i7]))] sz)) (va_Qi (fun (r : Int32) (u9 : Unit) => True) (fun u9 t => va_P (dC, dI) vwCl [(a0, .inr (7, [.int i0, .int i1, .int i2, .int i3, .int i4, .int i5, .int i6, .int i7]))] t.heap ∧ va_D (va_A [(a0, .inr (7, [.int i0, .int i1, .int i2, .int i3, .int i4, .int i5, .int i6, .int i7]))] sz) [(a0, .inr (7, [.int i0, .int i1, .int i2, .int i3, .int i4, .int i5, .int i6, .int i7]))]) (va_A [(a0, .inr (7, [.int i0, .int i1, .int i2, .int i3, .int i4, .int i5, .int i6, .int i7]))] sz)) 0 0 (va_A [(a0, .inr (7, [.int i0, .int i1, .int i2, .int i3, .int i4, .int i5, .int i6, .int i7]))] sz) := by
  refine kEnter (by decide) (Nat.le_of_ble_eq_true rfl) ?_
  intro p e s m below meth c ls hx hb hr hml hown hlocks hin hwd hsz hP hK hD hl
  subst hsz
  generalize hAe : va_A [(a0, .inr (7, [.int i0, .int i1, .int i2, .int i3, .int i4, .int i5, .int i6, .int i7]))] s.heap.size = A at hD ⊢
  have hA : ∀ q : Nat, s.heap.size ≤ q → A q := fun q h => by rw [← hAe]; exact Or.inr h
  have hS : va_S A s.heap s.heap [] := va_S.rf
  have hl : lv_has ls 3 [(0, .ref a0), (1, .int p0), (2, .int p1)] := hl
  obtain ⟨Q, hQ⟩ : ∃ Q, Q = MQ below (va_Qi (fun (r : Int32) (u9 : Unit) => True) (fun u9 t => va_P (dC, dI) vwCl [(a0, .inr (7, [.int i0, .int i1, .int i2, .int i3, .int i4, .int i5, .int i6, .int i7]))] t.heap ∧ va_D A [(a0, .inr (7, [.int i0, .int i1, .int i2, .int i3, .int i4, .int i5, .int i6, .int i7]))]) A) ([.ref a0, .int p0, .int p1] : List Value).toArray s 0 0 A := ⟨_, rfl⟩
  rw [← hQ]
  refine lv_aload_n hx hb dX7_slackFor_0 rfl (lv_at hl 0 rfl) ?_
  refine va_get (D := (dC, dI)) (ci := 7) (v := .int i7) (C := RX7) (T := TX7) (N := 8) hx hb hwd inlX7 hown hK hP 0 rfl rfl 7 (by decide) (hwd _ kr10_21) (fun _ h9 => h9) rfl dX7_slackFor_1 ?_
  refine lv_iload_n hx hb dX7_slackFor_4 rfl (lv_at hl 1 rfl) ?_
  refine lv_ineg hx hb dX7_slackFor_5 ?_
  refine lv_topi (fun x1 ex1 => ?_)
  refine lv_icmp_ne (tgt := 13) hx hb dX7_slackFor_6 (by decide) (fun c2 => ?_) (fun c2 => ?_)
  · rw [ki_eq] at c2
    refine lv_aload_n hx hb dX7_slackFor_13 rfl (lv_at hl 0 rfl) ?_
    refine va_get (D := (dC, dI)) (ci := 7) (v := .int i4) (C := RX7) (T := TX7) (N := 8) hx hb hwd inlX7 hown hK hP 0 rfl rfl 4 (by decide) (hwd _ kr10_19) (fun _ h9 => h9) rfl dX7_slackFor_14 ?_
    have hP9 := hP.sub (ws' := [(a0, .inr (7, [.int i0, .int i1, .int i2, .int i3, .int i4, .int i5, .int i6, .int i7]))]) [0] rfl
    have hD9 := hD.sub (ws' := [(a0, .inr (7, [.int i0, .int i1, .int i2, .int i3, .int i4, .int i5, .int i6, .int i7]))]) [0] (by decide) rfl
    rw [hQ]
    exact W.iret (v := i4) hx hb hr (fun t ht hW => ⟨⟨i4, (), rfl, trivial, (by rw [ht]; exact hP9), hD9⟩, hS.F ht⟩) hS.2.2 dX7_slackFor_17
  · rw [ki_eq] at c2
    refine lv_iload_n hx hb dX7_slackFor_9 rfl (lv_at hl 2 rfl) ?_
    refine lv_goto (tgt := 17) hx hb dX7_slackFor_10 (by decide) ?_
    have hP9 := hP.sub (ws' := [(a0, .inr (7, [.int i0, .int i1, .int i2, .int i3, .int i4, .int i5, .int i6, .int i7]))]) [0] rfl
    have hD9 := hD.sub (ws' := [(a0, .inr (7, [.int i0, .int i1, .int i2, .int i3, .int i4, .int i5, .int i6, .int i7]))]) [0] (by decide) rfl
    rw [hQ]
    exact W.iret (v := p1) hx hb hr (fun t ht hW => ⟨⟨p1, (), rfl, trivial, (by rw [ht]; exact hP9), hD9⟩, hS.F ht⟩) hS.2.2 dX7_slackFor_17
theorem dX7_take_0 : decode cX7_take 0 = .ok (.aload_n 0, 1) := by decide +kernel
theorem dX7_take_1 : decode cX7_take 1 = .ok (.iload_n 1, 1) := by decide +kernel
theorem dX7_take_2 : decode cX7_take 2 = .ok (.putfield 33, 3) := by decide +kernel
theorem dX7_take_5 : decode cX7_take 5 = .ok (.aload_n 0, 1) := by decide +kernel
theorem dX7_take_6 : decode cX7_take 6 = .ok (.iload_n 2, 1) := by decide +kernel
theorem dX7_take_7 : decode cX7_take 7 = .ok (.putfield 27, 3) := by decide +kernel
theorem dX7_take_10 : decode cX7_take 10 = .ok (.aload_n 0, 1) := by decide +kernel
theorem dX7_take_11 : decode cX7_take 11 = .ok (.dup, 1) := by decide +kernel
theorem dX7_take_12 : decode cX7_take 12 = .ok (.getfield 18, 3) := by decide +kernel
theorem dX7_take_15 : decode cX7_take 15 = .ok (.iconst 1, 1) := by decide +kernel
theorem dX7_take_16 : decode cX7_take 16 = .ok (.iadd, 1) := by decide +kernel
theorem dX7_take_17 : decode cX7_take 17 = .ok (.putfield 18, 3) := by decide +kernel
theorem dX7_take_20 : decode cX7_take 20 = .ok (.return_, 1) := by decide +kernel
set_option maxHeartbeats 4000000 in
set_option maxRecDepth 100000 in
theorem s_X7_take (l : Launch) (dC : Nat → ClassId) (dI : Nat → Nat → Nat) (cI cZ cB cJ cM cG : ClassId) (a0 : Nat) (i0 i1 i2 i3 i4 i5 i6 i7 : Int32) (p0 p1 : Int32) (sz : Nat) : Met l yX7_take (kw yX7_take cX7_take 3 none) ({ frames := 0, cells := 0, slots := 0, locals := 0 } : Room) (va_Pc [.ref a0, .int p0, .int p1] (kPre dC dI [(cI, .int), (cZ, .boolean), (cB, .byte), (cJ, .long), (cM, .object RX2), (cG, .array .int)] [(a0, .inr (7, [.int i0, .int i1, .int i2, .int i3, .int i4, .int i5, .int i6, .int i7]))] sz)) (va_Qv (fun (u9 : (Nat → Int32) × (Nat → Nat → Int32) × (Nat → Nat → Int64)) => True) (fun u9 t => va_P (dC, dI) vwCl [(a0, .inr (7, [.int i0, .int (u9.1 0), .int i2, .int i3, .int (u9.1 1), .int i5, .int i6, .int (u9.1 2)]))] t.heap ∧ va_D (va_A [(a0, .inr (7, [.int i0, .int i1, .int i2, .int i3, .int i4, .int i5, .int i6, .int i7]))] sz) [(a0, .inr (7, [.int i0, .int (u9.1 0), .int i2, .int i3, .int (u9.1 1), .int i5, .int i6, .int (u9.1 2)]))]) (va_A [(a0, .inr (7, [.int i0, .int i1, .int i2, .int i3, .int i4, .int i5, .int i6, .int i7]))] sz)) 0 0 (va_A [(a0, .inr (7, [.int i0, .int i1, .int i2, .int i3, .int i4, .int i5, .int i6, .int i7]))] sz) := by
  refine kEnter (by decide) (Nat.le_of_ble_eq_true rfl) ?_
  intro p e s m below meth c ls hx hb hr hml hown hlocks hin hwd hsz hP hK hD hl
  subst hsz
  generalize hAe : va_A [(a0, .inr (7, [.int i0, .int i1, .int i2, .int i3, .int i4, .int i5, .int i6, .int i7]))] s.heap.size = A at hD ⊢
  have hA : ∀ q : Nat, s.heap.size ≤ q → A q := fun q h => by rw [← hAe]; exact Or.inr h
  have hS : va_S A s.heap s.heap [] := va_S.rf
  have hl : lv_has ls 3 [(0, .ref a0), (1, .int p0), (2, .int p1)] := hl
  obtain ⟨Q, hQ⟩ : ∃ Q, Q = MQ below (va_Qv (fun (u9 : (Nat → Int32) × (Nat → Nat → Int32) × (Nat → Nat → Int64)) => True) (fun u9 t => va_P (dC, dI) vwCl [(a0, .inr (7, [.int i0, .int (u9.1 0), .int i2, .int i3, .int (u9.1 1), .int i5, .int i6, .int (u9.1 2)]))] t.heap ∧ va_D A [(a0, .inr (7, [.int i0, .int (u9.1 0), .int i2, .int i3, .int (u9.1 1), .int i5, .int i6, .int (u9.1 2)]))]) A) ([.ref a0, .int p0, .int p1] : List Value).toArray s 0 0 A := ⟨_, rfl⟩
  rw [← hQ]
  refine lv_aload_n hx hb dX7_take_0 rfl (lv_at hl 0 rfl) ?_
  refine lv_iload_n hx hb dX7_take_1 rfl (lv_at hl 1 rfl) ?_
  refine va_put (D := (dC, dI)) (ci := 7) (v := .int p0) (ty := .int) (C := RX7) (T := TX7) (N := 8) hx hb hwd inlX7 tyX7 tyX7_ok nmX7 hown hK hP hD hS 0 rfl rfl 7 (by decide) (hwd _ kr10_21) (fun _ h9 => h9) rfl (by decide +kernel) rfl rfl (Nat.le_of_ble_eq_true rfl) dX7_take_2 (fun H locs hP hD hS => ?_)
  have hP : va_P (dC, dI) vwCl [(a0, .inr (7, [.int i0, .int i1, .int i2, .int i3, .int i4, .int i5, .int i6, .int p0]))] H := hP
  have hD : va_D A [(a0, .inr (7, [.int i0, .int i1, .int i2, .int i3, .int i4, .int i5, .int i6, .int p0]))] := hD
  refine lv_aload_n hx hb dX7_take_5 rfl (lv_at hl 0 rfl) ?_
  refine lv_iload_n hx hb dX7_take_6 rfl (lv_at hl 2 rfl) ?_
  refine va_put (D := (dC, dI)) (ci := 7) (v := .int p1) (ty := .int) (C := RX7) (T := TX7) (N := 8) hx hb hwd inlX7 tyX7 tyX7_ok nmX7 hown hK hP hD hS 0 rfl rfl 4 (by decide) (hwd _ kr10_19) (fun _ h9 => h9) rfl (by decide +kernel) rfl rfl (Nat.le_of_ble_eq_true rfl) dX7_take_7 (fun H locs hP hD hS => ?_)
  have hP : va_P (dC, dI) vwCl [(a0, .inr (7, [.int i0, .int i1, .int i2, .int i3, .int p1, .int i5, .int i6, .int p0]))] H := hP
  have hD : va_D A [(a0, .inr (7, [.int i0, .int i1, .int i2, .int i3, .int p1, .int i5, .int i6, .int p0]))] := hD
  refine lv_aload_n hx hb dX7_take_10 rfl (lv_at hl 0 rfl) ?_
  refine lv_dup hx hb dX7_take_11 rfl ?_
  refine va_get (D := (dC, dI)) (ci := 7) (v := .int i1) (C := RX7) (T := TX7) (N := 8) hx hb hwd inlX7 hown hK hP 0 rfl rfl 1 (by decide) (hwd _ kr10_16) (fun _ h9 => h9) rfl dX7_take_12 ?_
  refine lv_iconst (v := 1) hx hb dX7_take_15 (by decide) ?_
  refine lv_iadd hx hb dX7_take_16 ?_
  refine lv_topi (fun x1 ex1 => ?_)
  refine va_put (D := (dC, dI)) (ci := 7) (v := .int x1) (ty := .int) (C := RX7) (T := TX7) (N := 8) hx hb hwd inlX7 tyX7 tyX7_ok nmX7 hown hK hP hD hS 0 rfl rfl 1 (by decide) (hwd _ kr10_16) (fun _ h9 => h9) rfl (by decide +kernel) rfl rfl (Nat.le_of_ble_eq_true rfl) dX7_take_17 (fun H locs hP hD hS => ?_)
  have hP : va_P (dC, dI) vwCl [(a0, .inr (7, [.int i0, .int x1, .int i2, .int i3, .int p1, .int i5, .int i6, .int p0]))] H := hP
  have hD : va_D A [(a0, .inr (7, [.int i0, .int x1, .int i2, .int i3, .int p1, .int i5, .int i6, .int p0]))] := hD
  have hP9 := hP.sub (ws' := [(a0, .inr (7, [.int i0, .int x1, .int i2, .int i3, .int p1, .int i5, .int i6, .int p0]))]) [0] rfl
  have hD9 := hD.sub (ws' := [(a0, .inr (7, [.int i0, .int x1, .int i2, .int i3, .int p1, .int i5, .int i6, .int p0]))]) [0] (by decide) rfl
  rw [hQ]
  exact W.vret hx hb hr (fun t ht hW => ⟨⟨(pickG 0 [x1, p1, p0], pickG (fun _ => 0) [], pickG (fun _ => 0) []), rfl, trivial, (by rw [ht]; exact hP9), hD9⟩, hS.F ht⟩) hS.2.2 dX7_take_20
theorem dX7_turnOn_0 : decode cX7_turnOn 0 = .ok (.aload_n 0, 1) := by decide +kernel
theorem dX7_turnOn_1 : decode cX7_turnOn 1 = .ok (.dup, 1) := by decide +kernel
theorem dX7_turnOn_2 : decode cX7_turnOn 2 = .ok (.getfield 15, 3) := by decide +kernel
theorem dX7_turnOn_5 : decode cX7_turnOn 5 = .ok (.iload_n 1, 1) := by decide +kernel
theorem dX7_turnOn_6 : decode cX7_turnOn 6 = .ok (.iadd, 1) := by decide +kernel
theorem dX7_turnOn_7 : decode cX7_turnOn 7 = .ok (.putfield 15, 3) := by decide +kernel
theorem dX7_turnOn_10 : decode cX7_turnOn 10 = .ok (.aload_n 0, 1) := by decide +kernel
theorem dX7_turnOn_11 : decode cX7_turnOn 11 = .ok (.dup, 1) := by decide +kernel
theorem dX7_turnOn_12 : decode cX7_turnOn 12 = .ok (.getfield 21, 3) := by decide +kernel
theorem dX7_turnOn_15 : decode cX7_turnOn 15 = .ok (.iconst 1, 1) := by decide +kernel
theorem dX7_turnOn_16 : decode cX7_turnOn 16 = .ok (.iadd, 1) := by decide +kernel
theorem dX7_turnOn_17 : decode cX7_turnOn 17 = .ok (.putfield 21, 3) := by decide +kernel
theorem dX7_turnOn_20 : decode cX7_turnOn 20 = .ok (.return_, 1) := by decide +kernel
set_option maxHeartbeats 4000000 in
set_option maxRecDepth 100000 in
theorem s_X7_turnOn (l : Launch) (dC : Nat → ClassId) (dI : Nat → Nat → Nat) (cI cZ cB cJ cM cG : ClassId) (a0 : Nat) (i0 i1 i2 i3 i4 i5 i6 i7 : Int32) (p0 : Int32) (sz : Nat) : Met l yX7_turnOn (kw yX7_turnOn cX7_turnOn 2 none) ({ frames := 0, cells := 0, slots := 0, locals := 0 } : Room) (va_Pc [.ref a0, .int p0] (kPre dC dI [(cI, .int), (cZ, .boolean), (cB, .byte), (cJ, .long), (cM, .object RX2), (cG, .array .int)] [(a0, .inr (7, [.int i0, .int i1, .int i2, .int i3, .int i4, .int i5, .int i6, .int i7]))] sz)) (va_Qv (fun (u9 : (Nat → Int32) × (Nat → Nat → Int32) × (Nat → Nat → Int64)) => True) (fun u9 t => va_P (dC, dI) vwCl [(a0, .inr (7, [.int (u9.1 0), .int i1, .int (u9.1 1), .int i3, .int i4, .int i5, .int i6, .int i7]))] t.heap ∧ va_D (va_A [(a0, .inr (7, [.int i0, .int i1, .int i2, .int i3, .int i4, .int i5, .int i6, .int i7]))] sz) [(a0, .inr (7, [.int (u9.1 0), .int i1, .int (u9.1 1), .int i3, .int i4, .int i5, .int i6, .int i7]))]) (va_A [(a0, .inr (7, [.int i0, .int i1, .int i2, .int i3, .int i4, .int i5, .int i6, .int i7]))] sz)) 0 0 (va_A [(a0, .inr (7, [.int i0, .int i1, .int i2, .int i3, .int i4, .int i5, .int i6, .int i7]))] sz) := by
  refine kEnter (by decide) (Nat.le_of_ble_eq_true rfl) ?_
  intro p e s m below meth c ls hx hb hr hml hown hlocks hin hwd hsz hP hK hD hl
  subst hsz
  generalize hAe : va_A [(a0, .inr (7, [.int i0, .int i1, .int i2, .int i3, .int i4, .int i5, .int i6, .int i7]))] s.heap.size = A at hD ⊢
  have hA : ∀ q : Nat, s.heap.size ≤ q → A q := fun q h => by rw [← hAe]; exact Or.inr h
  have hS : va_S A s.heap s.heap [] := va_S.rf
  have hl : lv_has ls 2 [(0, .ref a0), (1, .int p0)] := hl
  obtain ⟨Q, hQ⟩ : ∃ Q, Q = MQ below (va_Qv (fun (u9 : (Nat → Int32) × (Nat → Nat → Int32) × (Nat → Nat → Int64)) => True) (fun u9 t => va_P (dC, dI) vwCl [(a0, .inr (7, [.int (u9.1 0), .int i1, .int (u9.1 1), .int i3, .int i4, .int i5, .int i6, .int i7]))] t.heap ∧ va_D A [(a0, .inr (7, [.int (u9.1 0), .int i1, .int (u9.1 1), .int i3, .int i4, .int i5, .int i6, .int i7]))]) A) ([.ref a0, .int p0] : List Value).toArray s 0 0 A := ⟨_, rfl⟩
  rw [← hQ]
  refine lv_aload_n hx hb dX7_turnOn_0 rfl (lv_at hl 0 rfl) ?_
  refine lv_dup hx hb dX7_turnOn_1 rfl ?_
  refine va_get (D := (dC, dI)) (ci := 7) (v := .int i0) (C := RX7) (T := TX7) (N := 8) hx hb hwd inlX7 hown hK hP 0 rfl rfl 0 (by decide) (hwd _ kr10_15) (fun _ h9 => h9) rfl dX7_turnOn_2 ?_
  refine lv_iload_n hx hb dX7_turnOn_5 rfl (lv_at hl 1 rfl) ?_
  refine lv_iadd hx hb dX7_turnOn_6 ?_
  refine lv_topi (fun x1 ex1 => ?_)
  refine va_put (D := (dC, dI)) (ci := 7) (v := .int x1) (ty := .int) (C := RX7) (T := TX7) (N := 8) hx hb hwd inlX7 tyX7 tyX7_ok nmX7 hown hK hP hD hS 0 rfl rfl 0 (by decide) (hwd _ kr10_15) (fun _ h9 => h9) rfl (by decide +kernel) rfl rfl (Nat.le_of_ble_eq_true rfl) dX7_turnOn_7 (fun H locs hP hD hS => ?_)
  have hP : va_P (dC, dI) vwCl [(a0, .inr (7, [.int x1, .int i1, .int i2, .int i3, .int i4, .int i5, .int i6, .int i7]))] H := hP
  have hD : va_D A [(a0, .inr (7, [.int x1, .int i1, .int i2, .int i3, .int i4, .int i5, .int i6, .int i7]))] := hD
  refine lv_aload_n hx hb dX7_turnOn_10 rfl (lv_at hl 0 rfl) ?_
  refine lv_dup hx hb dX7_turnOn_11 rfl ?_
  refine va_get (D := (dC, dI)) (ci := 7) (v := .int i2) (C := RX7) (T := TX7) (N := 8) hx hb hwd inlX7 hown hK hP 0 rfl rfl 2 (by decide) (hwd _ kr10_17) (fun _ h9 => h9) rfl dX7_turnOn_12 ?_
  refine lv_iconst (v := 1) hx hb dX7_turnOn_15 (by decide) ?_
  refine lv_iadd hx hb dX7_turnOn_16 ?_
  refine lv_topi (fun x2 ex2 => ?_)
  refine va_put (D := (dC, dI)) (ci := 7) (v := .int x2) (ty := .int) (C := RX7) (T := TX7) (N := 8) hx hb hwd inlX7 tyX7 tyX7_ok nmX7 hown hK hP hD hS 0 rfl rfl 2 (by decide) (hwd _ kr10_17) (fun _ h9 => h9) rfl (by decide +kernel) rfl rfl (Nat.le_of_ble_eq_true rfl) dX7_turnOn_17 (fun H locs hP hD hS => ?_)
  have hP : va_P (dC, dI) vwCl [(a0, .inr (7, [.int x1, .int i1, .int x2, .int i3, .int i4, .int i5, .int i6, .int i7]))] H := hP
  have hD : va_D A [(a0, .inr (7, [.int x1, .int i1, .int x2, .int i3, .int i4, .int i5, .int i6, .int i7]))] := hD
  have hP9 := hP.sub (ws' := [(a0, .inr (7, [.int x1, .int i1, .int x2, .int i3, .int i4, .int i5, .int i6, .int i7]))]) [0] rfl
  have hD9 := hD.sub (ws' := [(a0, .inr (7, [.int x1, .int i1, .int x2, .int i3, .int i4, .int i5, .int i6, .int i7]))]) [0] (by decide) rfl
  rw [hQ]
  exact W.vret hx hb hr (fun t ht hW => ⟨⟨(pickG 0 [x1, x2], pickG (fun _ => 0) [], pickG (fun _ => 0) []), rfl, trivial, (by rw [ht]; exact hP9), hD9⟩, hS.F ht⟩) hS.2.2 dX7_turnOn_20
theorem dX7_jamBy_0 : decode cX7_jamBy 0 = .ok (.aload_n 0, 1) := by decide +kernel
theorem dX7_jamBy_1 : decode cX7_jamBy 1 = .ok (.dup, 1) := by decide +kernel
theorem dX7_jamBy_2 : decode cX7_jamBy 2 = .ok (.getfield 30, 3) := by decide +kernel
theorem dX7_jamBy_5 : decode cX7_jamBy 5 = .ok (.iconst 1, 1) := by decide +kernel
theorem dX7_jamBy_6 : decode cX7_jamBy 6 = .ok (.iadd, 1) := by decide +kernel
theorem dX7_jamBy_7 : decode cX7_jamBy 7 = .ok (.putfield 30, 3) := by decide +kernel
theorem dX7_jamBy_10 : decode cX7_jamBy 10 = .ok (.aload_n 0, 1) := by decide +kernel
theorem dX7_jamBy_11 : decode cX7_jamBy 11 = .ok (.iload_n 1, 1) := by decide +kernel
theorem dX7_jamBy_12 : decode cX7_jamBy 12 = .ok (.putfield 9, 3) := by decide +kernel
theorem dX7_jamBy_15 : decode cX7_jamBy 15 = .ok (.return_, 1) := by decide +kernel
set_option maxHeartbeats 4000000 in
set_option maxRecDepth 100000 in
theorem s_X7_jamBy (l : Launch) (dC : Nat → ClassId) (dI : Nat → Nat → Nat) (cI cZ cB cJ cM cG : ClassId) (a0 : Nat) (i0 i1 i2 i3 i4 i5 i6 i7 : Int32) (p0 : Int32) (sz : Nat) : Met l yX7_jamBy (kw yX7_jamBy cX7_jamBy 2 none) ({ frames := 0, cells := 0, slots := 0, locals := 0 } : Room) (va_Pc [.ref a0, .int p0] (kPre dC dI [(cI, .int), (cZ, .boolean), (cB, .byte), (cJ, .long), (cM, .object RX2), (cG, .array .int)] [(a0, .inr (7, [.int i0, .int i1, .int i2, .int i3, .int i4, .int i5, .int i6, .int i7]))] sz)) (va_Qv (fun (u9 : (Nat → Int32) × (Nat → Nat → Int32) × (Nat → Nat → Int64)) => True) (fun u9 t => va_P (dC, dI) vwCl [(a0, .inr (7, [.int i0, .int i1, .int i2, .int i3, .int i4, .int (u9.1 0), .int (u9.1 1), .int i7]))] t.heap ∧ va_D (va_A [(a0, .inr (7, [.int i0, .int i1, .int i2, .int i3, .int i4, .int i5, .int i6, .int i7]))] sz) [(a0, .inr (7, [.int i0, .int i1, .int i2, .int i3, .int i4, .int (u9.1 0), .int (u9.1 1), .int i7]))]) (va_A [(a0, .inr (7, [.int i0, .int i1, .int i2, .int i3, .int i4, .int i5, .int i6, .int i7]))] sz)) 0 0 (va_A [(a0, .inr (7, [.int i0, .int i1, .int i2, .int i3, .int i4, .int i5, .int i6, .int i7]))] sz) := by
  refine kEnter (by decide) (Nat.le_of_ble_eq_true rfl) ?_
  intro p e s m below meth c ls hx hb hr hml hown hlocks hin hwd hsz hP hK hD hl
  subst hsz
  generalize hAe : va_A [(a0, .inr (7, [.int i0, .int i1, .int i2, .int i3, .int i4, .int i5, .int i6, .int i7]))] s.heap.size = A at hD ⊢
  have hA : ∀ q : Nat, s.heap.size ≤ q → A q := fun q h => by rw [← hAe]; exact Or.inr h
  have hS : va_S A s.heap s.heap [] := va_S.rf
  have hl : lv_has ls 2 [(0, .ref a0), (1, .int p0)] := hl
  obtain ⟨Q, hQ⟩ : ∃ Q, Q = MQ below (va_Qv (fun (u9 : (Nat → Int32) × (Nat → Nat → Int32) × (Nat → Nat → Int64)) => True) (fun u9 t => va_P (dC, dI) vwCl [(a0, .inr (7, [.int i0, .int i1, .int i2, .int i3, .int i4, .int (u9.1 0), .int (u9.1 1), .int i7]))] t.heap ∧ va_D A [(a0, .inr (7, [.int i0, .int i1, .int i2, .int i3, .int i4, .int (u9.1 0), .int (u9.1 1), .int i7]))]) A) ([.ref a0, .int p0] : List Value).toArray s 0 0 A := ⟨_, rfl⟩
  rw [← hQ]
  refine lv_aload_n hx hb dX7_jamBy_0 rfl (lv_at hl 0 rfl) ?_
  refine lv_dup hx hb dX7_jamBy_1 rfl ?_
  refine va_get (D := (dC, dI)) (ci := 7) (v := .int i5) (C := RX7) (T := TX7) (N := 8) hx hb hwd inlX7 hown hK hP 0 rfl rfl 5 (by decide) (hwd _ kr10_20) (fun _ h9 => h9) rfl dX7_jamBy_2 ?_
  refine lv_iconst (v := 1) hx hb dX7_jamBy_5 (by decide) ?_
  refine lv_iadd hx hb dX7_jamBy_6 ?_
  refine lv_topi (fun x1 ex1 => ?_)
  refine va_put (D := (dC, dI)) (ci := 7) (v := .int x1) (ty := .int) (C := RX7) (T := TX7) (N := 8) hx hb hwd inlX7 tyX7 tyX7_ok nmX7 hown hK hP hD hS 0 rfl rfl 5 (by decide) (hwd _ kr10_20) (fun _ h9 => h9) rfl (by decide +kernel) rfl rfl (Nat.le_of_ble_eq_true rfl) dX7_jamBy_7 (fun H locs hP hD hS => ?_)
  have hP : va_P (dC, dI) vwCl [(a0, .inr (7, [.int i0, .int i1, .int i2, .int i3, .int i4, .int x1, .int i6, .int i7]))] H := hP
  have hD : va_D A [(a0, .inr (7, [.int i0, .int i1, .int i2, .int i3, .int i4, .int x1, .int i6, .int i7]))] := hD
  refine lv_aload_n hx hb dX7_jamBy_10 rfl (lv_at hl 0 rfl) ?_
  refine lv_iload_n hx hb dX7_jamBy_11 rfl (lv_at hl 1 rfl) ?_
  refine va_put (D := (dC, dI)) (ci := 7) (v := .int p0) (ty := .int) (C := RX7) (T := TX7) (N := 8) hx hb hwd inlX7 tyX7 tyX7_ok nmX7 hown hK hP hD hS 0 rfl rfl 6 (by decide) (hwd _ kr6_22) (fun _ h9 => h9) rfl (by decide +kernel) rfl rfl (Nat.le_of_ble_eq_true rfl) dX7_jamBy_12 (fun H locs hP hD hS => ?_)
  have hP : va_P (dC, dI) vwCl [(a0, .inr (7, [.int i0, .int i1, .int i2, .int i3, .int i4, .int x1, .int p0, .int i7]))] H := hP
  have hD : va_D A [(a0, .inr (7, [.int i0, .int i1, .int i2, .int i3, .int i4, .int x1, .int p0, .int i7]))] := hD
  have hP9 := hP.sub (ws' := [(a0, .inr (7, [.int i0, .int i1, .int i2, .int i3, .int i4, .int x1, .int p0, .int i7]))]) [0] rfl
  have hD9 := hD.sub (ws' := [(a0, .inr (7, [.int i0, .int i1, .int i2, .int i3, .int i4, .int x1, .int p0, .int i7]))]) [0] (by decide) rfl
  rw [hQ]
  exact W.vret hx hb hr (fun t ht hW => ⟨⟨(pickG 0 [x1, p0], pickG (fun _ => 0) [], pickG (fun _ => 0) []), rfl, trivial, (by rw [ht]; exact hP9), hD9⟩, hS.F ht⟩) hS.2.2 dX7_jamBy_15
theorem dX3_copyFrom_0 : decode cX3_copyFrom 0 = .ok (.aload_n 0, 1) := by decide +kernel
theorem dX3_copyFrom_1 : decode cX3_copyFrom 1 = .ok (.aload_n 1, 1) := by decide +kernel
theorem dX3_copyFrom_2 : decode cX3_copyFrom 2 = .ok (.getfield 34, 3) := by decide +kernel
theorem dX3_copyFrom_5 : decode cX3_copyFrom 5 = .ok (.putfield 34, 3) := by decide +kernel
theorem dX3_copyFrom_8 : decode cX3_copyFrom 8 = .ok (.aload_n 1, 1) := by decide +kernel
theorem dX3_copyFrom_9 : decode cX3_copyFrom 9 = .ok (.getfield 9, 3) := by decide +kernel
theorem dX3_copyFrom_12 : decode cX3_copyFrom 12 = .ok (.iconst 0, 1) := by decide +kernel
theorem dX3_copyFrom_13 : decode cX3_copyFrom 13 = .ok (.aload_n 0, 1) := by decide +kernel
theorem dX3_copyFrom_14 : decode cX3_copyFrom 14 = .ok (.getfield 9, 3) := by decide +kernel
theorem dX3_copyFrom_17 : decode cX3_copyFrom 17 = .ok (.iconst 0, 1) := by decide +kernel
theorem dX3_copyFrom_18 : decode cX3_copyFrom 18 = .ok (.bipush 24, 2) := by decide +kernel
theorem dX3_copyFrom_20 : decode cX3_copyFrom 20 = .ok (.invokestatic 61, 3) := by decide +kernel
theorem dX3_copyFrom_23 : decode cX3_copyFrom 23 = .ok (.aload_n 1, 1) := by decide +kernel
theorem dX3_copyFrom_24 : decode cX3_copyFrom 24 = .ok (.getfield 15, 3) := by decide +kernel
theorem dX3_copyFrom_27 : decode cX3_copyFrom 27 = .ok (.iconst 0, 1) := by decide +kernel
theorem dX3_copyFrom_28 : decode cX3_copyFrom 28 = .ok (.aload_n 0, 1) := by decide +kernel
theorem dX3_copyFrom_29 : decode cX3_copyFrom 29 = .ok (.getfield 15, 3) := by decide +kernel
theorem dX3_copyFrom_32 : decode cX3_copyFrom 32 = .ok (.iconst 0, 1) := by decide +kernel
theorem dX3_copyFrom_33 : decode cX3_copyFrom 33 = .ok (.bipush 24, 2) := by decide +kernel
theorem dX3_copyFrom_35 : decode cX3_copyFrom 35 = .ok (.invokestatic 61, 3) := by decide +kernel
theorem dX3_copyFrom_38 : decode cX3_copyFrom 38 = .ok (.aload_n 1, 1) := by decide +kernel
theorem dX3_copyFrom_39 : decode cX3_copyFrom 39 = .ok (.getfield 18, 3) := by decide +kernel
theorem dX3_copyFrom_42 : decode cX3_copyFrom 42 = .ok (.iconst 0, 1) := by decide +kernel
theorem dX3_copyFrom_43 : decode cX3_copyFrom 43 = .ok (.aload_n 0, 1) := by decide +kernel
theorem dX3_copyFrom_44 : decode cX3_copyFrom 44 = .ok (.getfield 18, 3) := by decide +kernel
theorem dX3_copyFrom_47 : decode cX3_copyFrom 47 = .ok (.iconst 0, 1) := by decide +kernel
theorem dX3_copyFrom_48 : decode cX3_copyFrom 48 = .ok (.bipush 24, 2) := by decide +kernel
theorem dX3_copyFrom_50 : decode cX3_copyFrom 50 = .ok (.invokestatic 61, 3) := by decide +kernel
theorem dX3_copyFrom_53 : decode cX3_copyFrom 53 = .ok (.aload_n 1, 1) := by decide +kernel
theorem dX3_copyFrom_54 : decode cX3_copyFrom 54 = .ok (.getfield 21, 3) := by decide +kernel
theorem dX3_copyFrom_57 : decode cX3_copyFrom 57 = .ok (.iconst 0, 1) := by decide +kernel
theorem dX3_copyFrom_58 : decode cX3_copyFrom 58 = .ok (.aload_n 0, 1) := by decide +kernel
theorem dX3_copyFrom_59 : decode cX3_copyFrom 59 = .ok (.getfield 21, 3) := by decide +kernel
theorem dX3_copyFrom_62 : decode cX3_copyFrom 62 = .ok (.iconst 0, 1) := by decide +kernel
theorem dX3_copyFrom_63 : decode cX3_copyFrom 63 = .ok (.bipush 24, 2) := by decide +kernel
theorem dX3_copyFrom_65 : decode cX3_copyFrom 65 = .ok (.invokestatic 61, 3) := by decide +kernel
theorem dX3_copyFrom_68 : decode cX3_copyFrom 68 = .ok (.aload_n 1, 1) := by decide +kernel
theorem dX3_copyFrom_69 : decode cX3_copyFrom 69 = .ok (.getfield 24, 3) := by decide +kernel
theorem dX3_copyFrom_72 : decode cX3_copyFrom 72 = .ok (.iconst 0, 1) := by decide +kernel
theorem dX3_copyFrom_73 : decode cX3_copyFrom 73 = .ok (.aload_n 0, 1) := by decide +kernel
theorem dX3_copyFrom_74 : decode cX3_copyFrom 74 = .ok (.getfield 24, 3) := by decide +kernel
theorem dX3_copyFrom_77 : decode cX3_copyFrom 77 = .ok (.iconst 0, 1) := by decide +kernel
theorem dX3_copyFrom_78 : decode cX3_copyFrom 78 = .ok (.bipush 24, 2) := by decide +kernel
theorem dX3_copyFrom_80 : decode cX3_copyFrom 80 = .ok (.invokestatic 61, 3) := by decide +kernel
theorem dX3_copyFrom_83 : decode cX3_copyFrom 83 = .ok (.aload_n 1, 1) := by decide +kernel
theorem dX3_copyFrom_84 : decode cX3_copyFrom 84 = .ok (.getfield 27, 3) := by decide +kernel
theorem dX3_copyFrom_87 : decode cX3_copyFrom 87 = .ok (.iconst 0, 1) := by decide +kernel
theorem dX3_copyFrom_88 : decode cX3_copyFrom 88 = .ok (.aload_n 0, 1) := by decide +kernel
theorem dX3_copyFrom_89 : decode cX3_copyFrom 89 = .ok (.getfield 27, 3) := by decide +kernel
theorem dX3_copyFrom_92 : decode cX3_copyFrom 92 = .ok (.iconst 0, 1) := by decide +kernel
theorem dX3_copyFrom_93 : decode cX3_copyFrom 93 = .ok (.bipush 24, 2) := by decide +kernel
theorem dX3_copyFrom_95 : decode cX3_copyFrom 95 = .ok (.invokestatic 61, 3) := by decide +kernel
theorem dX3_copyFrom_98 : decode cX3_copyFrom 98 = .ok (.aload_n 1, 1) := by decide +kernel
theorem dX3_copyFrom_99 : decode cX3_copyFrom 99 = .ok (.getfield 30, 3) := by decide +kernel
theorem dX3_copyFrom_102 : decode cX3_copyFrom 102 = .ok (.iconst 0, 1) := by decide +kernel
theorem dX3_copyFrom_103 : decode cX3_copyFrom 103 = .ok (.aload_n 0, 1) := by decide +kernel
theorem dX3_copyFrom_104 : decode cX3_copyFrom 104 = .ok (.getfield 30, 3) := by decide +kernel
theorem dX3_copyFrom_107 : decode cX3_copyFrom 107 = .ok (.iconst 0, 1) := by decide +kernel
theorem dX3_copyFrom_108 : decode cX3_copyFrom 108 = .ok (.bipush 24, 2) := by decide +kernel
theorem dX3_copyFrom_110 : decode cX3_copyFrom 110 = .ok (.invokestatic 61, 3) := by decide +kernel
theorem dX3_copyFrom_113 : decode cX3_copyFrom 113 = .ok (.return_, 1) := by decide +kernel
set_option maxHeartbeats 4000000 in
set_option maxRecDepth 100000 in
theorem s_X3_copyFrom (l : Launch) (dC : Nat → ClassId) (dI : Nat → Nat → Nat) (cI cZ cB cJ cM cG : ClassId) (a0 a1 a2 a3 a4 a5 a6 a7 a8 a9 a10 a11 a12 a13 a14 a15 : Nat) (i0 i1 : Int32) (xF0 xF1 xF2 xF3 xF4 xF5 xF6 xF7 xF8 xF9 xF10 xF11 xF12 xF13 : Nat → Int32) (sz : Nat) (p_0 : (0 : Int) ≤ i0.toInt ∧ i0.toInt ≤ 24) (p_1 : rng xF3 24 0 60) (p_2 : rng xF6 24 0 1) (p_3 : (0 : Int) ≤ i1.toInt ∧ i1.toInt ≤ 24) (p_4 : rng xF10 24 0 60) (p_5 : rng xF13 24 0 1) : Met l yX3_copyFrom (kw yX3_copyFrom cX3_copyFrom 2 none) ({ frames := 1, cells := 0, slots := 0, locals := 64 } : Room) (va_Pc [.ref a0, .ref a8] (kPre dC dI [(cI, .int), (cZ, .boolean), (cB, .byte), (cJ, .long), (cM, .object RX2), (cG, .array .int)] [(a0, .inr (3, [.int i0, .ref a1, .ref a2, .ref a3, .ref a4, .ref a5, .ref a6, .ref a7])), (a1, .inl (cI, 24, .inl xF0)), (a2, .inl (cI, 24, .inl xF1)), (a3, .inl (cI, 24, .inl xF2)), (a4, .inl (cI, 24, .inl xF3)), (a5, .inl (cI, 24, .inl xF4)), (a6, .inl (cI, 24, .inl xF5)), (a7, .inl (cZ, 24, .inl xF6)), (a8, .inr (3, [.int i1, .ref a9, .ref a10, .ref a11, .ref a12, .ref a13, .ref a14, .ref a15])), (a9, .inl (cI, 24, .inl xF7)), (a10, .inl (cI, 24, .inl xF8)), (a11, .inl (cI, 24, .inl xF9)), (a12, .inl (cI, 24, .inl xF10)), (a13, .inl (cI, 24, .inl xF11)), (a14, .inl (cI, 24, .inl xF12)), (a15, .inl (cZ, 24, .inl xF13))] sz)) (va_Qv (fun (u9 : (Nat → Int32) × (Nat → Nat → Int32) × (Nat → Nat → Int64)) => ((0 : Int) ≤ (u9.1 0).toInt ∧ (u9.1 0).toInt ≤ 24) ∧ (rng (u9.2.1 3) 24 0 60) ∧ (rng (u9.2.1 6) 24 0 1) ∧ True) (fun u9 t => va_P (dC, dI) vwCl [(a0, .inr (3, [.int (u9.1 0), .ref a1, .ref a2, .ref a3, .ref a4, .ref a5, .ref a6, .ref a7])), (a1, .inl (cI, 24, .inl (u9.2.1 0))), (a2, .inl (cI, 24, .inl (u9.2.1 1))), (a3, .inl (cI, 24, .inl (u9.2.1 2))), (a4, .inl (cI, 24, .inl (u9.2.1 3))), (a5, .inl (cI, 24, .inl (u9.2.1 4))), (a6, .inl (cI, 24, .inl (u9.2.1 5))), (a7, .inl (cZ, 24, .inl (u9.2.1 6))), (a8, .inr (3, [.int i1, .ref a9, .ref a10, .ref a11, .ref a12, .ref a13, .ref a14, .ref a15])), (a9, .inl (cI, 24, .inl xF7)), (a10, .inl (cI, 24, .inl xF8)), (a11, .inl (cI, 24, .inl xF9)), (a12, .inl (cI, 24, .inl xF10)), (a13, .inl (cI, 24, .inl xF11)), (a14, .inl (cI, 24, .inl xF12)), (a15, .inl (cZ, 24, .inl xF13))] t.heap ∧ va_D (va_A [(a0, .inr (3, [.int i0, .ref a1, .ref a2, .ref a3, .ref a4, .ref a5, .ref a6, .ref a7])), (a1, .inl (cI, 24, .inl xF0)), (a2, .inl (cI, 24, .inl xF1)), (a3, .inl (cI, 24, .inl xF2)), (a4, .inl (cI, 24, .inl xF3)), (a5, .inl (cI, 24, .inl xF4)), (a6, .inl (cI, 24, .inl xF5)), (a7, .inl (cZ, 24, .inl xF6)), (a8, .inr (3, [.int i1, .ref a9, .ref a10, .ref a11, .ref a12, .ref a13, .ref a14, .ref a15])), (a9, .inl (cI, 24, .inl xF7)), (a10, .inl (cI, 24, .inl xF8)), (a11, .inl (cI, 24, .inl xF9)), (a12, .inl (cI, 24, .inl xF10)), (a13, .inl (cI, 24, .inl xF11)), (a14, .inl (cI, 24, .inl xF12)), (a15, .inl (cZ, 24, .inl xF13))] sz) [(a0, .inr (3, [.int (u9.1 0), .ref a1, .ref a2, .ref a3, .ref a4, .ref a5, .ref a6, .ref a7])), (a1, .inl (cI, 24, .inl (u9.2.1 0))), (a2, .inl (cI, 24, .inl (u9.2.1 1))), (a3, .inl (cI, 24, .inl (u9.2.1 2))), (a4, .inl (cI, 24, .inl (u9.2.1 3))), (a5, .inl (cI, 24, .inl (u9.2.1 4))), (a6, .inl (cI, 24, .inl (u9.2.1 5))), (a7, .inl (cZ, 24, .inl (u9.2.1 6))), (a8, .inr (3, [.int i1, .ref a9, .ref a10, .ref a11, .ref a12, .ref a13, .ref a14, .ref a15])), (a9, .inl (cI, 24, .inl xF7)), (a10, .inl (cI, 24, .inl xF8)), (a11, .inl (cI, 24, .inl xF9)), (a12, .inl (cI, 24, .inl xF10)), (a13, .inl (cI, 24, .inl xF11)), (a14, .inl (cI, 24, .inl xF12)), (a15, .inl (cZ, 24, .inl xF13))]) (va_A [(a0, .inr (3, [.int i0, .ref a1, .ref a2, .ref a3, .ref a4, .ref a5, .ref a6, .ref a7])), (a1, .inl (cI, 24, .inl xF0)), (a2, .inl (cI, 24, .inl xF1)), (a3, .inl (cI, 24, .inl xF2)), (a4, .inl (cI, 24, .inl xF3)), (a5, .inl (cI, 24, .inl xF4)), (a6, .inl (cI, 24, .inl xF5)), (a7, .inl (cZ, 24, .inl xF6)), (a8, .inr (3, [.int i1, .ref a9, .ref a10, .ref a11, .ref a12, .ref a13, .ref a14, .ref a15])), (a9, .inl (cI, 24, .inl xF7)), (a10, .inl (cI, 24, .inl xF8)), (a11, .inl (cI, 24, .inl xF9)), (a12, .inl (cI, 24, .inl xF10)), (a13, .inl (cI, 24, .inl xF11)), (a14, .inl (cI, 24, .inl xF12)), (a15, .inl (cZ, 24, .inl xF13))] sz)) 0 0 (va_A [(a0, .inr (3, [.int i0, .ref a1, .ref a2, .ref a3, .ref a4, .ref a5, .ref a6, .ref a7])), (a1, .inl (cI, 24, .inl xF0)), (a2, .inl (cI, 24, .inl xF1)), (a3, .inl (cI, 24, .inl xF2)), (a4, .inl (cI, 24, .inl xF3)), (a5, .inl (cI, 24, .inl xF4)), (a6, .inl (cI, 24, .inl xF5)), (a7, .inl (cZ, 24, .inl xF6)), (a8, .inr (3, [.int i1, .ref a9, .ref a10, .ref a11, .ref a12, .ref a13, .ref a14, .ref a15])), (a9, .inl (cI, 24, .inl xF7)), (a10, .inl (cI, 24, .inl xF8)), (a11, .inl (cI, 24, .inl xF9)), (a12, .inl (cI, 24, .inl xF10)), (a13, .inl (cI, 24, .inl xF11)), (a14, .inl (cI, 24, .inl xF12)), (a15, .inl (cZ, 24, .inl xF13))] sz) := by
  refine kEnter (by decide) (Nat.le_of_ble_eq_true rfl) ?_
  intro p e s m below meth c ls hx hb hr hml hown hlocks hin hwd hsz hP hK hD hl
  subst hsz
  generalize hAe : va_A [(a0, .inr (3, [.int i0, .ref a1, .ref a2, .ref a3, .ref a4, .ref a5, .ref a6, .ref a7])), (a1, .inl (cI, 24, .inl xF0)), (a2, .inl (cI, 24, .inl xF1)), (a3, .inl (cI, 24, .inl xF2)), (a4, .inl (cI, 24, .inl xF3)), (a5, .inl (cI, 24, .inl xF4)), (a6, .inl (cI, 24, .inl xF5)), (a7, .inl (cZ, 24, .inl xF6)), (a8, .inr (3, [.int i1, .ref a9, .ref a10, .ref a11, .ref a12, .ref a13, .ref a14, .ref a15])), (a9, .inl (cI, 24, .inl xF7)), (a10, .inl (cI, 24, .inl xF8)), (a11, .inl (cI, 24, .inl xF9)), (a12, .inl (cI, 24, .inl xF10)), (a13, .inl (cI, 24, .inl xF11)), (a14, .inl (cI, 24, .inl xF12)), (a15, .inl (cZ, 24, .inl xF13))] s.heap.size = A at hD ⊢
  have hA : ∀ q : Nat, s.heap.size ≤ q → A q := fun q h => by rw [← hAe]; exact Or.inr h
  have hS : va_S A s.heap s.heap [] := va_S.rf
  have hl : lv_has ls 2 [(0, .ref a0), (1, .ref a8)] := hl
  obtain ⟨Q, hQ⟩ : ∃ Q, Q = MQ below (va_Qv (fun (u9 : (Nat → Int32) × (Nat → Nat → Int32) × (Nat → Nat → Int64)) => ((0 : Int) ≤ (u9.1 0).toInt ∧ (u9.1 0).toInt ≤ 24) ∧ (rng (u9.2.1 3) 24 0 60) ∧ (rng (u9.2.1 6) 24 0 1) ∧ True) (fun u9 t => va_P (dC, dI) vwCl [(a0, .inr (3, [.int (u9.1 0), .ref a1, .ref a2, .ref a3, .ref a4, .ref a5, .ref a6, .ref a7])), (a1, .inl (cI, 24, .inl (u9.2.1 0))), (a2, .inl (cI, 24, .inl (u9.2.1 1))), (a3, .inl (cI, 24, .inl (u9.2.1 2))), (a4, .inl (cI, 24, .inl (u9.2.1 3))), (a5, .inl (cI, 24, .inl (u9.2.1 4))), (a6, .inl (cI, 24, .inl (u9.2.1 5))), (a7, .inl (cZ, 24, .inl (u9.2.1 6))), (a8, .inr (3, [.int i1, .ref a9, .ref a10, .ref a11, .ref a12, .ref a13, .ref a14, .ref a15])), (a9, .inl (cI, 24, .inl xF7)), (a10, .inl (cI, 24, .inl xF8)), (a11, .inl (cI, 24, .inl xF9)), (a12, .inl (cI, 24, .inl xF10)), (a13, .inl (cI, 24, .inl xF11)), (a14, .inl (cI, 24, .inl xF12)), (a15, .inl (cZ, 24, .inl xF13))] t.heap ∧ va_D A [(a0, .inr (3, [.int (u9.1 0), .ref a1, .ref a2, .ref a3, .ref a4, .ref a5, .ref a6, .ref a7])), (a1, .inl (cI, 24, .inl (u9.2.1 0))), (a2, .inl (cI, 24, .inl (u9.2.1 1))), (a3, .inl (cI, 24, .inl (u9.2.1 2))), (a4, .inl (cI, 24, .inl (u9.2.1 3))), (a5, .inl (cI, 24, .inl (u9.2.1 4))), (a6, .inl (cI, 24, .inl (u9.2.1 5))), (a7, .inl (cZ, 24, .inl (u9.2.1 6))), (a8, .inr (3, [.int i1, .ref a9, .ref a10, .ref a11, .ref a12, .ref a13, .ref a14, .ref a15])), (a9, .inl (cI, 24, .inl xF7)), (a10, .inl (cI, 24, .inl xF8)), (a11, .inl (cI, 24, .inl xF9)), (a12, .inl (cI, 24, .inl xF10)), (a13, .inl (cI, 24, .inl xF11)), (a14, .inl (cI, 24, .inl xF12)), (a15, .inl (cZ, 24, .inl xF13))]) A) ([.ref a0, .ref a8] : List Value).toArray s 0 0 A := ⟨_, rfl⟩
  rw [← hQ]
  refine lv_aload_n hx hb dX3_copyFrom_0 rfl (lv_at hl 0 rfl) ?_
  refine lv_aload_n hx hb dX3_copyFrom_1 rfl (lv_at hl 1 rfl) ?_
  refine va_get (D := (dC, dI)) (ci := 3) (v := .int i1) (C := RX3) (T := TX3) (N := 8) hx hb hwd inlX3 hown hK hP 8 rfl rfl 0 (by decide) (hwd _ kr16_6) (fun _ h9 => h9) rfl dX3_copyFrom_2 ?_
  refine va_put (D := (dC, dI)) (ci := 3) (v := .int i1) (ty := .int) (C := RX3) (T := TX3) (N := 8) hx hb hwd inlX3 tyX3 tyX3_ok nmX3 hown hK hP hD hS 0 rfl rfl 0 (by decide) (hwd _ kr16_6) (fun _ h9 => h9) rfl (by decide +kernel) rfl rfl (Nat.le_of_ble_eq_true rfl) dX3_copyFrom_5 (fun H locs hP hD hS => ?_)
  have hP : va_P (dC, dI) vwCl [(a0, .inr (3, [.int i1, .ref a1, .ref a2, .ref a3, .ref a4, .ref a5, .ref a6, .ref a7])), (a1, .inl (cI, 24, .inl xF0)), (a2, .inl (cI, 24, .inl xF1)), (a3, .inl (cI, 24, .inl xF2)), (a4, .inl (cI, 24, .inl xF3)), (a5, .inl (cI, 24, .inl xF4)), (a6, .inl (cI, 24, .inl xF5)), (a7, .inl (cZ, 24, .inl xF6)), (a8, .inr (3, [.int i1, .ref a9, .ref a10, .ref a11, .ref a12, .ref a13, .ref a14, .ref a15])), (a9, .inl (cI, 24, .inl xF7)), (a10, .inl (cI, 24, .inl xF8)), (a11, .inl (cI, 24, .inl xF9)), (a12, .inl (cI, 24, .inl xF10)), (a13, .inl (cI, 24, .inl xF11)), (a14, .inl (cI, 24, .inl xF12)), (a15, .inl (cZ, 24, .inl xF13))] H := hP
  have hD : va_D A [(a0, .inr (3, [.int i1, .ref a1, .ref a2, .ref a3, .ref a4, .ref a5, .ref a6, .ref a7])), (a1, .inl (cI, 24, .inl xF0)), (a2, .inl (cI, 24, .inl xF1)), (a3, .inl (cI, 24, .inl xF2)), (a4, .inl (cI, 24, .inl xF3)), (a5, .inl (cI, 24, .inl xF4)), (a6, .inl (cI, 24, .inl xF5)), (a7, .inl (cZ, 24, .inl xF6)), (a8, .inr (3, [.int i1, .ref a9, .ref a10, .ref a11, .ref a12, .ref a13, .ref a14, .ref a15])), (a9, .inl (cI, 24, .inl xF7)), (a10, .inl (cI, 24, .inl xF8)), (a11, .inl (cI, 24, .inl xF9)), (a12, .inl (cI, 24, .inl xF10)), (a13, .inl (cI, 24, .inl xF11)), (a14, .inl (cI, 24, .inl xF12)), (a15, .inl (cZ, 24, .inl xF13))] := hD
  refine lv_aload_n hx hb dX3_copyFrom_8 rfl (lv_at hl 1 rfl) ?_
  refine va_get (D := (dC, dI)) (ci := 3) (v := .ref a9) (C := RX3) (T := TX3) (N := 8) hx hb hwd inlX3 hown hK hP 8 rfl rfl 1 (by decide) (hwd _ kr5_17) (fun _ h9 => h9) rfl dX3_copyFrom_9 ?_
  refine lv_iconst (v := 0) hx hb dX3_copyFrom_12 (by decide) ?_
  refine lv_aload_n hx hb dX3_copyFrom_13 rfl (lv_at hl 0 rfl) ?_
  refine va_get (D := (dC, dI)) (ci := 3) (v := .ref a1) (C := RX3) (T := TX3) (N := 8) hx hb hwd inlX3 hown hK hP 0 rfl rfl 1 (by decide) (hwd _ kr5_17) (fun _ h9 => h9) rfl dX3_copyFrom_14 ?_
  refine lv_iconst (v := 0) hx hb dX3_copyFrom_17 (by decide) ?_
  refine lv_bipush (v := 24) hx hb dX3_copyFrom_18 (by decide) ?_
  refine va_copyi hx hb (by rw [hml]; exact hl.1.symm) hown (hwd _ kr65_21) (hwd _ kr18_14) (hwd _ kr18_15) (hwd _ kr18_16) hK hP hD hS 9 1 0 0 rfl rfl rfl rfl rfl (by decide) (by decide) (by decide) (by decide) (by decide) (fun _ _ => rfl) (Nat.le_of_ble_eq_true rfl) (Nat.le_of_ble_eq_true rfl) dX3_copyFrom_20 (fun H locs hP hD hS => ?_)
  obtain ⟨f1, ef1⟩ : ∃ f : Nat → Int32, f = va_cpy xF7 xF0 (0 : Int32).toNatClampNeg (0 : Int32).toNatClampNeg (24 : Int32).toNatClampNeg := ⟨_, rfl⟩
  have hP : va_P (dC, dI) vwCl [(a0, .inr (3, [.int i1, .ref a1, .ref a2, .ref a3, .ref a4, .ref a5, .ref a6, .ref a7])), (a1, .inl (cI, 24, .inl f1)), (a2, .inl (cI, 24, .inl xF1)), (a3, .inl (cI, 24, .inl xF2)), (a4, .inl (cI, 24, .inl xF3)), (a5, .inl (cI, 24, .inl xF4)), (a6, .inl (cI, 24, .inl xF5)), (a7, .inl (cZ, 24, .inl xF6)), (a8, .inr (3, [.int i1, .ref a9, .ref a10, .ref a11, .ref a12, .ref a13, .ref a14, .ref a15])), (a9, .inl (cI, 24, .inl xF7)), (a10, .inl (cI, 24, .inl xF8)), (a11, .inl (cI, 24, .inl xF9)), (a12, .inl (cI, 24, .inl xF10)), (a13, .inl (cI, 24, .inl xF11)), (a14, .inl (cI, 24, .inl xF12)), (a15, .inl (cZ, 24, .inl xF13))] H := by rw [ef1]; exact hP
  have hD : va_D A [(a0, .inr (3, [.int i1, .ref a1, .ref a2, .ref a3, .ref a4, .ref a5, .ref a6, .ref a7])), (a1, .inl (cI, 24, .inl f1)), (a2, .inl (cI, 24, .inl xF1)), (a3, .inl (cI, 24, .inl xF2)), (a4, .inl (cI, 24, .inl xF3)), (a5, .inl (cI, 24, .inl xF4)), (a6, .inl (cI, 24, .inl xF5)), (a7, .inl (cZ, 24, .inl xF6)), (a8, .inr (3, [.int i1, .ref a9, .ref a10, .ref a11, .ref a12, .ref a13, .ref a14, .ref a15])), (a9, .inl (cI, 24, .inl xF7)), (a10, .inl (cI, 24, .inl xF8)), (a11, .inl (cI, 24, .inl xF9)), (a12, .inl (cI, 24, .inl xF10)), (a13, .inl (cI, 24, .inl xF11)), (a14, .inl (cI, 24, .inl xF12)), (a15, .inl (cZ, 24, .inl xF13))] := by rw [ef1]; exact hD
  refine lv_aload_n hx hb dX3_copyFrom_23 rfl (lv_at hl 1 rfl) ?_
  refine va_get (D := (dC, dI)) (ci := 3) (v := .ref a10) (C := RX3) (T := TX3) (N := 8) hx hb hwd inlX3 hown hK hP 8 rfl rfl 2 (by decide) (hwd _ kr5_18) (fun _ h9 => h9) rfl dX3_copyFrom_24 ?_
  refine lv_iconst (v := 0) hx hb dX3_copyFrom_27 (by decide) ?_
  refine lv_aload_n hx hb dX3_copyFrom_28 rfl (lv_at hl 0 rfl) ?_
  refine va_get (D := (dC, dI)) (ci := 3) (v := .ref a2) (C := RX3) (T := TX3) (N := 8) hx hb hwd inlX3 hown hK hP 0 rfl rfl 2 (by decide) (hwd _ kr5_18) (fun _ h9 => h9) rfl dX3_copyFrom_29 ?_
  refine lv_iconst (v := 0) hx hb dX3_copyFrom_32 (by decide) ?_
  refine lv_bipush (v := 24) hx hb dX3_copyFrom_33 (by decide) ?_
  refine va_copyi hx hb (by rw [hml]; exact hl.1.symm) hown (hwd _ kr65_21) (hwd _ kr18_14) (hwd _ kr18_15) (hwd _ kr18_16) hK hP hD hS 10 2 0 0 rfl rfl rfl rfl rfl (by decide) (by decide) (by decide) (by decide) (by decide) (fun _ _ => rfl) (Nat.le_of_ble_eq_true rfl) (Nat.le_of_ble_eq_true rfl) dX3_copyFrom_35 (fun H locs hP hD hS => ?_)
  obtain ⟨f2, ef2⟩ : ∃ f : Nat → Int32, f = va_cpy xF8 xF1 (0 : Int32).toNatClampNeg (0 : Int32).toNatClampNeg (24 : Int32).toNatClampNeg := ⟨_, rfl⟩
  have hP : va_P (dC, dI) vwCl [(a0, .inr (3, [.int i1, .ref a1, .ref a2, .ref a3, .ref a4, .ref a5, .ref a6, .ref a7])), (a1, .inl (cI, 24, .inl f1)), (a2, .inl (cI, 24, .inl f2)), (a3, .inl (cI, 24, .inl xF2)), (a4, .inl (cI, 24, .inl xF3)), (a5, .inl (cI, 24, .inl xF4)), (a6, .inl (cI, 24, .inl xF5)), (a7, .inl (cZ, 24, .inl xF6)), (a8, .inr (3, [.int i1, .ref a9, .ref a10, .ref a11, .ref a12, .ref a13, .ref a14, .ref a15])), (a9, .inl (cI, 24, .inl xF7)), (a10, .inl (cI, 24, .inl xF8)), (a11, .inl (cI, 24, .inl xF9)), (a12, .inl (cI, 24, .inl xF10)), (a13, .inl (cI, 24, .inl xF11)), (a14, .inl (cI, 24, .inl xF12)), (a15, .inl (cZ, 24, .inl xF13))] H := by rw [ef2]; exact hP
  have hD : va_D A [(a0, .inr (3, [.int i1, .ref a1, .ref a2, .ref a3, .ref a4, .ref a5, .ref a6, .ref a7])), (a1, .inl (cI, 24, .inl f1)), (a2, .inl (cI, 24, .inl f2)), (a3, .inl (cI, 24, .inl xF2)), (a4, .inl (cI, 24, .inl xF3)), (a5, .inl (cI, 24, .inl xF4)), (a6, .inl (cI, 24, .inl xF5)), (a7, .inl (cZ, 24, .inl xF6)), (a8, .inr (3, [.int i1, .ref a9, .ref a10, .ref a11, .ref a12, .ref a13, .ref a14, .ref a15])), (a9, .inl (cI, 24, .inl xF7)), (a10, .inl (cI, 24, .inl xF8)), (a11, .inl (cI, 24, .inl xF9)), (a12, .inl (cI, 24, .inl xF10)), (a13, .inl (cI, 24, .inl xF11)), (a14, .inl (cI, 24, .inl xF12)), (a15, .inl (cZ, 24, .inl xF13))] := by rw [ef2]; exact hD
  refine lv_aload_n hx hb dX3_copyFrom_38 rfl (lv_at hl 1 rfl) ?_
  refine va_get (D := (dC, dI)) (ci := 3) (v := .ref a11) (C := RX3) (T := TX3) (N := 8) hx hb hwd inlX3 hown hK hP 8 rfl rfl 3 (by decide) (hwd _ kr5_19) (fun _ h9 => h9) rfl dX3_copyFrom_39 ?_
  refine lv_iconst (v := 0) hx hb dX3_copyFrom_42 (by decide) ?_
  refine lv_aload_n hx hb dX3_copyFrom_43 rfl (lv_at hl 0 rfl) ?_
  refine va_get (D := (dC, dI)) (ci := 3) (v := .ref a3) (C := RX3) (T := TX3) (N := 8) hx hb hwd inlX3 hown hK hP 0 rfl rfl 3 (by decide) (hwd _ kr5_19) (fun _ h9 => h9) rfl dX3_copyFrom_44 ?_
  refine lv_iconst (v := 0) hx hb dX3_copyFrom_47 (by decide) ?_
  refine lv_bipush (v := 24) hx hb dX3_copyFrom_48 (by decide) ?_
  refine va_copyi hx hb (by rw [hml]; exact hl.1.symm) hown (hwd _ kr65_21) (hwd _ kr18_14) (hwd _ kr18_15) (hwd _ kr18_16) hK hP hD hS 11 3 0 0 rfl rfl rfl rfl rfl (by decide) (by decide) (by decide) (by decide) (by decide) (fun _ _ => rfl) (Nat.le_of_ble_eq_true rfl) (Nat.le_of_ble_eq_true rfl) dX3_copyFrom_50 (fun H locs hP hD hS => ?_)
  obtain ⟨f3, ef3⟩ : ∃ f : Nat → Int32, f = va_cpy xF9 xF2 (0 : Int32).toNatClampNeg (0 : Int32).toNatClampNeg (24 : Int32).toNatClampNeg := ⟨_, rfl⟩
  have hP : va_P (dC, dI) vwCl [(a0, .inr (3, [.int i1, .ref a1, .ref a2, .ref a3, .ref a4, .ref a5, .ref a6, .ref a7])), (a1, .inl (cI, 24, .inl f1)), (a2, .inl (cI, 24, .inl f2)), (a3, .inl (cI, 24, .inl f3)), (a4, .inl (cI, 24, .inl xF3)), (a5, .inl (cI, 24, .inl xF4)), (a6, .inl (cI, 24, .inl xF5)), (a7, .inl (cZ, 24, .inl xF6)), (a8, .inr (3, [.int i1, .ref a9, .ref a10, .ref a11, .ref a12, .ref a13, .ref a14, .ref a15])), (a9, .inl (cI, 24, .inl xF7)), (a10, .inl (cI, 24, .inl xF8)), (a11, .inl (cI, 24, .inl xF9)), (a12, .inl (cI, 24, .inl xF10)), (a13, .inl (cI, 24, .inl xF11)), (a14, .inl (cI, 24, .inl xF12)), (a15, .inl (cZ, 24, .inl xF13))] H := by rw [ef3]; exact hP
  have hD : va_D A [(a0, .inr (3, [.int i1, .ref a1, .ref a2, .ref a3, .ref a4, .ref a5, .ref a6, .ref a7])), (a1, .inl (cI, 24, .inl f1)), (a2, .inl (cI, 24, .inl f2)), (a3, .inl (cI, 24, .inl f3)), (a4, .inl (cI, 24, .inl xF3)), (a5, .inl (cI, 24, .inl xF4)), (a6, .inl (cI, 24, .inl xF5)), (a7, .inl (cZ, 24, .inl xF6)), (a8, .inr (3, [.int i1, .ref a9, .ref a10, .ref a11, .ref a12, .ref a13, .ref a14, .ref a15])), (a9, .inl (cI, 24, .inl xF7)), (a10, .inl (cI, 24, .inl xF8)), (a11, .inl (cI, 24, .inl xF9)), (a12, .inl (cI, 24, .inl xF10)), (a13, .inl (cI, 24, .inl xF11)), (a14, .inl (cI, 24, .inl xF12)), (a15, .inl (cZ, 24, .inl xF13))] := by rw [ef3]; exact hD
  refine lv_aload_n hx hb dX3_copyFrom_53 rfl (lv_at hl 1 rfl) ?_
  refine va_get (D := (dC, dI)) (ci := 3) (v := .ref a12) (C := RX3) (T := TX3) (N := 8) hx hb hwd inlX3 hown hK hP 8 rfl rfl 4 (by decide) (hwd _ kr5_20) (fun _ h9 => h9) rfl dX3_copyFrom_54 ?_
  refine lv_iconst (v := 0) hx hb dX3_copyFrom_57 (by decide) ?_
  refine lv_aload_n hx hb dX3_copyFrom_58 rfl (lv_at hl 0 rfl) ?_
  refine va_get (D := (dC, dI)) (ci := 3) (v := .ref a4) (C := RX3) (T := TX3) (N := 8) hx hb hwd inlX3 hown hK hP 0 rfl rfl 4 (by decide) (hwd _ kr5_20) (fun _ h9 => h9) rfl dX3_copyFrom_59 ?_
  refine lv_iconst (v := 0) hx hb dX3_copyFrom_62 (by decide) ?_
  refine lv_bipush (v := 24) hx hb dX3_copyFrom_63 (by decide) ?_
  refine va_copyi hx hb (by rw [hml]; exact hl.1.symm) hown (hwd _ kr65_21) (hwd _ kr18_14) (hwd _ kr18_15) (hwd _ kr18_16) hK hP hD hS 12 4 0 0 rfl rfl rfl rfl rfl (by decide) (by decide) (by decide) (by decide) (by decide) (fun _ _ => rfl) (Nat.le_of_ble_eq_true rfl) (Nat.le_of_ble_eq_true rfl) dX3_copyFrom_65 (fun H locs hP hD hS => ?_)
  obtain ⟨f4, ef4⟩ : ∃ f : Nat → Int32, f = va_cpy xF10 xF3 (0 : Int32).toNatClampNeg (0 : Int32).toNatClampNeg (24 : Int32).toNatClampNeg := ⟨_, rfl⟩
  have rf4 : rng f4 24 0 60 := by rw [ef4]; exact rng_cpyA p_4 (by decide)
  have hP : va_P (dC, dI) vwCl [(a0, .inr (3, [.int i1, .ref a1, .ref a2, .ref a3, .ref a4, .ref a5, .ref a6, .ref a7])), (a1, .inl (cI, 24, .inl f1)), (a2, .inl (cI, 24, .inl f2)), (a3, .inl (cI, 24, .inl f3)), (a4, .inl (cI, 24, .inl f4)), (a5, .inl (cI, 24, .inl xF4)), (a6, .inl (cI, 24, .inl xF5)), (a7, .inl (cZ, 24, .inl xF6)), (a8, .inr (3, [.int i1, .ref a9, .ref a10, .ref a11, .ref a12, .ref a13, .ref a14, .ref a15])), (a9, .inl (cI, 24, .inl xF7)), (a10, .inl (cI, 24, .inl xF8)), (a11, .inl (cI, 24, .inl xF9)), (a12, .inl (cI, 24, .inl xF10)), (a13, .inl (cI, 24, .inl xF11)), (a14, .inl (cI, 24, .inl xF12)), (a15, .inl (cZ, 24, .inl xF13))] H := by rw [ef4]; exact hP
  have hD : va_D A [(a0, .inr (3, [.int i1, .ref a1, .ref a2, .ref a3, .ref a4, .ref a5, .ref a6, .ref a7])), (a1, .inl (cI, 24, .inl f1)), (a2, .inl (cI, 24, .inl f2)), (a3, .inl (cI, 24, .inl f3)), (a4, .inl (cI, 24, .inl f4)), (a5, .inl (cI, 24, .inl xF4)), (a6, .inl (cI, 24, .inl xF5)), (a7, .inl (cZ, 24, .inl xF6)), (a8, .inr (3, [.int i1, .ref a9, .ref a10, .ref a11, .ref a12, .ref a13, .ref a14, .ref a15])), (a9, .inl (cI, 24, .inl xF7)), (a10, .inl (cI, 24, .inl xF8)), (a11, .inl (cI, 24, .inl xF9)), (a12, .inl (cI, 24, .inl xF10)), (a13, .inl (cI, 24, .inl xF11)), (a14, .inl (cI, 24, .inl xF12)), (a15, .inl (cZ, 24, .inl xF13))] := by rw [ef4]; exact hD
  refine lv_aload_n hx hb dX3_copyFrom_68 rfl (lv_at hl 1 rfl) ?_
  refine va_get (D := (dC, dI)) (ci := 3) (v := .ref a13) (C := RX3) (T := TX3) (N := 8) hx hb hwd inlX3 hown hK hP 8 rfl rfl 5 (by decide) (hwd _ kr5_21) (fun _ h9 => h9) rfl dX3_copyFrom_69 ?_
  refine lv_iconst (v := 0) hx hb dX3_copyFrom_72 (by decide) ?_
  refine lv_aload_n hx hb dX3_copyFrom_73 rfl (lv_at hl 0 rfl) ?_
  refine va_get (D := (dC, dI)) (ci := 3) (v := .ref a5) (C := RX3) (T := TX3) (N := 8) hx hb hwd inlX3 hown hK hP 0 rfl rfl 5 (by decide) (hwd _ kr5_21) (fun _ h9 => h9) rfl dX3_copyFrom_74 ?_
  refine lv_iconst (v := 0) hx hb dX3_copyFrom_77 (by decide) ?_
  refine lv_bipush (v := 24) hx hb dX3_copyFrom_78 (by decide) ?_
  refine va_copyi hx hb (by rw [hml]; exact hl.1.symm) hown (hwd _ kr65_21) (hwd _ kr18_14) (hwd _ kr18_15) (hwd _ kr18_16) hK hP hD hS 13 5 0 0 rfl rfl rfl rfl rfl (by decide) (by decide) (by decide) (by decide) (by decide) (fun _ _ => rfl) (Nat.le_of_ble_eq_true rfl) (Nat.le_of_ble_eq_true rfl) dX3_copyFrom_80 (fun H locs hP hD hS => ?_)
  obtain ⟨f5, ef5⟩ : ∃ f : Nat → Int32, f = va_cpy xF11 xF4 (0 : Int32).toNatClampNeg (0 : Int32).toNatClampNeg (24 : Int32).toNatClampNeg := ⟨_, rfl⟩
  have hP : va_P (dC, dI) vwCl [(a0, .inr (3, [.int i1, .ref a1, .ref a2, .ref a3, .ref a4, .ref a5, .ref a6, .ref a7])), (a1, .inl (cI, 24, .inl f1)), (a2, .inl (cI, 24, .inl f2)), (a3, .inl (cI, 24, .inl f3)), (a4, .inl (cI, 24, .inl f4)), (a5, .inl (cI, 24, .inl f5)), (a6, .inl (cI, 24, .inl xF5)), (a7, .inl (cZ, 24, .inl xF6)), (a8, .inr (3, [.int i1, .ref a9, .ref a10, .ref a11, .ref a12, .ref a13, .ref a14, .ref a15])), (a9, .inl (cI, 24, .inl xF7)), (a10, .inl (cI, 24, .inl xF8)), (a11, .inl (cI, 24, .inl xF9)), (a12, .inl (cI, 24, .inl xF10)), (a13, .inl (cI, 24, .inl xF11)), (a14, .inl (cI, 24, .inl xF12)), (a15, .inl (cZ, 24, .inl xF13))] H := by rw [ef5]; exact hP
  have hD : va_D A [(a0, .inr (3, [.int i1, .ref a1, .ref a2, .ref a3, .ref a4, .ref a5, .ref a6, .ref a7])), (a1, .inl (cI, 24, .inl f1)), (a2, .inl (cI, 24, .inl f2)), (a3, .inl (cI, 24, .inl f3)), (a4, .inl (cI, 24, .inl f4)), (a5, .inl (cI, 24, .inl f5)), (a6, .inl (cI, 24, .inl xF5)), (a7, .inl (cZ, 24, .inl xF6)), (a8, .inr (3, [.int i1, .ref a9, .ref a10, .ref a11, .ref a12, .ref a13, .ref a14, .ref a15])), (a9, .inl (cI, 24, .inl xF7)), (a10, .inl (cI, 24, .inl xF8)), (a11, .inl (cI, 24, .inl xF9)), (a12, .inl (cI, 24, .inl xF10)), (a13, .inl (cI, 24, .inl xF11)), (a14, .inl (cI, 24, .inl xF12)), (a15, .inl (cZ, 24, .inl xF13))] := by rw [ef5]; exact hD
  refine lv_aload_n hx hb dX3_copyFrom_83 rfl (lv_at hl 1 rfl) ?_
  refine va_get (D := (dC, dI)) (ci := 3) (v := .ref a14) (C := RX3) (T := TX3) (N := 8) hx hb hwd inlX3 hown hK hP 8 rfl rfl 6 (by decide) (hwd _ kr5_22) (fun _ h9 => h9) rfl dX3_copyFrom_84 ?_
  refine lv_iconst (v := 0) hx hb dX3_copyFrom_87 (by decide) ?_
  refine lv_aload_n hx hb dX3_copyFrom_88 rfl (lv_at hl 0 rfl) ?_
  refine va_get (D := (dC, dI)) (ci := 3) (v := .ref a6) (C := RX3) (T := TX3) (N := 8) hx hb hwd inlX3 hown hK hP 0 rfl rfl 6 (by decide) (hwd _ kr5_22) (fun _ h9 => h9) rfl dX3_copyFrom_89 ?_
  refine lv_iconst (v := 0) hx hb dX3_copyFrom_92 (by decide) ?_
  refine lv_bipush (v := 24) hx hb dX3_copyFrom_93 (by decide) ?_
  refine va_copyi hx hb (by rw [hml]; exact hl.1.symm) hown (hwd _ kr65_21) (hwd _ kr18_14) (hwd _ kr18_15) (hwd _ kr18_16) hK hP hD hS 14 6 0 0 rfl rfl rfl rfl rfl (by decide) (by decide) (by decide) (by decide) (by decide) (fun _ _ => rfl) (Nat.le_of_ble_eq_true rfl) (Nat.le_of_ble_eq_true rfl) dX3_copyFrom_95 (fun H locs hP hD hS => ?_)
  obtain ⟨f6, ef6⟩ : ∃ f : Nat → Int32, f = va_cpy xF12 xF5 (0 : Int32).toNatClampNeg (0 : Int32).toNatClampNeg (24 : Int32).toNatClampNeg := ⟨_, rfl⟩
  have hP : va_P (dC, dI) vwCl [(a0, .inr (3, [.int i1, .ref a1, .ref a2, .ref a3, .ref a4, .ref a5, .ref a6, .ref a7])), (a1, .inl (cI, 24, .inl f1)), (a2, .inl (cI, 24, .inl f2)), (a3, .inl (cI, 24, .inl f3)), (a4, .inl (cI, 24, .inl f4)), (a5, .inl (cI, 24, .inl f5)), (a6, .inl (cI, 24, .inl f6)), (a7, .inl (cZ, 24, .inl xF6)), (a8, .inr (3, [.int i1, .ref a9, .ref a10, .ref a11, .ref a12, .ref a13, .ref a14, .ref a15])), (a9, .inl (cI, 24, .inl xF7)), (a10, .inl (cI, 24, .inl xF8)), (a11, .inl (cI, 24, .inl xF9)), (a12, .inl (cI, 24, .inl xF10)), (a13, .inl (cI, 24, .inl xF11)), (a14, .inl (cI, 24, .inl xF12)), (a15, .inl (cZ, 24, .inl xF13))] H := by rw [ef6]; exact hP
  have hD : va_D A [(a0, .inr (3, [.int i1, .ref a1, .ref a2, .ref a3, .ref a4, .ref a5, .ref a6, .ref a7])), (a1, .inl (cI, 24, .inl f1)), (a2, .inl (cI, 24, .inl f2)), (a3, .inl (cI, 24, .inl f3)), (a4, .inl (cI, 24, .inl f4)), (a5, .inl (cI, 24, .inl f5)), (a6, .inl (cI, 24, .inl f6)), (a7, .inl (cZ, 24, .inl xF6)), (a8, .inr (3, [.int i1, .ref a9, .ref a10, .ref a11, .ref a12, .ref a13, .ref a14, .ref a15])), (a9, .inl (cI, 24, .inl xF7)), (a10, .inl (cI, 24, .inl xF8)), (a11, .inl (cI, 24, .inl xF9)), (a12, .inl (cI, 24, .inl xF10)), (a13, .inl (cI, 24, .inl xF11)), (a14, .inl (cI, 24, .inl xF12)), (a15, .inl (cZ, 24, .inl xF13))] := by rw [ef6]; exact hD
  refine lv_aload_n hx hb dX3_copyFrom_98 rfl (lv_at hl 1 rfl) ?_
  refine va_get (D := (dC, dI)) (ci := 3) (v := .ref a15) (C := RX3) (T := TX3) (N := 8) hx hb hwd inlX3 hown hK hP 8 rfl rfl 7 (by decide) (hwd _ kr5_23) (fun _ h9 => h9) rfl dX3_copyFrom_99 ?_
  refine lv_iconst (v := 0) hx hb dX3_copyFrom_102 (by decide) ?_
  refine lv_aload_n hx hb dX3_copyFrom_103 rfl (lv_at hl 0 rfl) ?_
  refine va_get (D := (dC, dI)) (ci := 3) (v := .ref a7) (C := RX3) (T := TX3) (N := 8) hx hb hwd inlX3 hown hK hP 0 rfl rfl 7 (by decide) (hwd _ kr5_23) (fun _ h9 => h9) rfl dX3_copyFrom_104 ?_
  refine lv_iconst (v := 0) hx hb dX3_copyFrom_107 (by decide) ?_
  refine lv_bipush (v := 24) hx hb dX3_copyFrom_108 (by decide) ?_
  refine va_copyi hx hb (by rw [hml]; exact hl.1.symm) hown (hwd _ kr65_21) (hwd _ kr18_14) (hwd _ kr18_15) (hwd _ kr18_16) hK hP hD hS 15 7 1 1 rfl rfl rfl rfl rfl (by decide) (by decide) (by decide) (by decide) (by decide) (fun i hi => fit_z (p_5 _ (by have := (by decide : (0 : Int32).toNatClampNeg = 0); have := (by decide : (24 : Int32).toNatClampNeg = 24); omega))) (Nat.le_of_ble_eq_true rfl) (Nat.le_of_ble_eq_true rfl) dX3_copyFrom_110 (fun H locs hP hD hS => ?_)
  obtain ⟨f7, ef7⟩ : ∃ f : Nat → Int32, f = va_cpy xF13 xF6 (0 : Int32).toNatClampNeg (0 : Int32).toNatClampNeg (24 : Int32).toNatClampNeg := ⟨_, rfl⟩
  have rf7 : rng f7 24 0 1 := by rw [ef7]; exact rng_cpyA p_5 (by decide)
  have hP : va_P (dC, dI) vwCl [(a0, .inr (3, [.int i1, .ref a1, .ref a2, .ref a3, .ref a4, .ref a5, .ref a6, .ref a7])), (a1, .inl (cI, 24, .inl f1)), (a2, .inl (cI, 24, .inl f2)), (a3, .inl (cI, 24, .inl f3)), (a4, .inl (cI, 24, .inl f4)), (a5, .inl (cI, 24, .inl f5)), (a6, .inl (cI, 24, .inl f6)), (a7, .inl (cZ, 24, .inl f7)), (a8, .inr (3, [.int i1, .ref a9, .ref a10, .ref a11, .ref a12, .ref a13, .ref a14, .ref a15])), (a9, .inl (cI, 24, .inl xF7)), (a10, .inl (cI, 24, .inl xF8)), (a11, .inl (cI, 24, .inl xF9)), (a12, .inl (cI, 24, .inl xF10)), (a13, .inl (cI, 24, .inl xF11)), (a14, .inl (cI, 24, .inl xF12)), (a15, .inl (cZ, 24, .inl xF13))] H := by rw [ef7]; exact hP
  have hD : va_D A [(a0, .inr (3, [.int i1, .ref a1, .ref a2, .ref a3, .ref a4, .ref a5, .ref a6, .ref a7])), (a1, .inl (cI, 24, .inl f1)), (a2, .inl (cI, 24, .inl f2)), (a3, .inl (cI, 24, .inl f3)), (a4, .inl (cI, 24, .inl f4)), (a5, .inl (cI, 24, .inl f5)), (a6, .inl (cI, 24, .inl f6)), (a7, .inl (cZ, 24, .inl f7)), (a8, .inr (3, [.int i1, .ref a9, .ref a10, .ref a11, .ref a12, .ref a13, .ref a14, .ref a15])), (a9, .inl (cI, 24, .inl xF7)), (a10, .inl (cI, 24, .inl xF8)), (a11, .inl (cI, 24, .inl xF9)), (a12, .inl (cI, 24, .inl xF10)), (a13, .inl (cI, 24, .inl xF11)), (a14, .inl (cI, 24, .inl xF12)), (a15, .inl (cZ, 24, .inl xF13))] := by rw [ef7]; exact hD
  have hP9 := hP.sub (ws' := [(a0, .inr (3, [.int i1, .ref a1, .ref a2, .ref a3, .ref a4, .ref a5, .ref a6, .ref a7])), (a1, .inl (cI, 24, .inl f1)), (a2, .inl (cI, 24, .inl f2)), (a3, .inl (cI, 24, .inl f3)), (a4, .inl (cI, 24, .inl f4)), (a5, .inl (cI, 24, .inl f5)), (a6, .inl (cI, 24, .inl f6)), (a7, .inl (cZ, 24, .inl f7)), (a8, .inr (3, [.int i1, .ref a9, .ref a10, .ref a11, .ref a12, .ref a13, .ref a14, .ref a15])), (a9, .inl (cI, 24, .inl xF7)), (a10, .inl (cI, 24, .inl xF8)), (a11, .inl (cI, 24, .inl xF9)), (a12, .inl (cI, 24, .inl xF10)), (a13, .inl (cI, 24, .inl xF11)), (a14, .inl (cI, 24, .inl xF12)), (a15, .inl (cZ, 24, .inl xF13))]) [0, 1, 2, 3, 4, 5, 6, 7, 8, 9, 10, 11, 12, 13, 14, 15] rfl
  have hD9 := hD.sub (ws' := [(a0, .inr (3, [.int i1, .ref a1, .ref a2, .ref a3, .ref a4, .ref a5, .ref a6, .ref a7])), (a1, .inl (cI, 24, .inl f1)), (a2, .inl (cI, 24, .inl f2)), (a3, .inl (cI, 24, .inl f3)), (a4, .inl (cI, 24, .inl f4)), (a5, .inl (cI, 24, .inl f5)), (a6, .inl (cI, 24, .inl f6)), (a7, .inl (cZ, 24, .inl f7)), (a8, .inr (3, [.int i1, .ref a9, .ref a10, .ref a11, .ref a12, .ref a13, .ref a14, .ref a15])), (a9, .inl (cI, 24, .inl xF7)), (a10, .inl (cI, 24, .inl xF8)), (a11, .inl (cI, 24, .inl xF9)), (a12, .inl (cI, 24, .inl xF10)), (a13, .inl (cI, 24, .inl xF11)), (a14, .inl (cI, 24, .inl xF12)), (a15, .inl (cZ, 24, .inl xF13))]) [0, 1, 2, 3, 4, 5, 6, 7, 8, 9, 10, 11, 12, 13, 14, 15] (by decide) rfl
  rw [hQ]
  exact W.vret hx hb hr (fun t ht hW => ⟨⟨(pickG 0 [i1], pickG (fun _ => 0) [f1, f2, f3, f4, f5, f6, f7], pickG (fun _ => 0) []), rfl, ⟨(show (0 : Int) ≤ i1.toInt ∧ i1.toInt ≤ 24 from ⟨by omega, by omega⟩), (show rng f4 24 0 60 from rf4), (show rng f7 24 0 1 from rf7), trivial⟩, (by rw [ht]; exact hP9), hD9⟩, hS.F ht⟩) hS.2.2 dX3_copyFrom_113
theorem dX3_brokenBits_0 : decode cX3_brokenBits 0 = .ok (.iconst 0, 1) := by decide +kernel
theorem dX3_brokenBits_1 : decode cX3_brokenBits 1 = .ok (.istore_n 1, 1) := by decide +kernel
theorem dX3_brokenBits_2 : decode cX3_brokenBits 2 = .ok (.iconst 0, 1) := by decide +kernel
theorem dX3_brokenBits_3 : decode cX3_brokenBits 3 = .ok (.istore_n 2, 1) := by decide +kernel
theorem dX3_brokenBits_4 : decode cX3_brokenBits 4 = .ok (.iload_n 2, 1) := by decide +kernel
theorem dX3_brokenBits_5 : decode cX3_brokenBits 5 = .ok (.aload_n 0, 1) := by decide +kernel
theorem dX3_brokenBits_6 : decode cX3_brokenBits 6 = .ok (.getfield 34, 3) := by decide +kernel
theorem dX3_brokenBits_9 : decode cX3_brokenBits 9 = .ok (.if_icmp .ge 24, 3) := by decide +kernel
theorem dX3_brokenBits_12 : decode cX3_brokenBits 12 = .ok (.aload_n 0, 1) := by decide +kernel
theorem dX3_brokenBits_13 : decode cX3_brokenBits 13 = .ok (.getfield 30, 3) := by decide +kernel
theorem dX3_brokenBits_16 : decode cX3_brokenBits 16 = .ok (.iload_n 2, 1) := by decide +kernel
theorem dX3_brokenBits_17 : decode cX3_brokenBits 17 = .ok (.baload, 1) := by decide +kernel
theorem dX3_brokenBits_18 : decode cX3_brokenBits 18 = .ok (.ifCond .eq 9, 3) := by decide +kernel
theorem dX3_brokenBits_21 : decode cX3_brokenBits 21 = .ok (.iload_n 1, 1) := by decide +kernel
theorem dX3_brokenBits_22 : decode cX3_brokenBits 22 = .ok (.iconst 1, 1) := by decide +kernel
theorem dX3_brokenBits_23 : decode cX3_brokenBits 23 = .ok (.iload_n 2, 1) := by decide +kernel
theorem dX3_brokenBits_24 : decode cX3_brokenBits 24 = .ok (.ishl, 1) := by decide +kernel
theorem dX3_brokenBits_25 : decode cX3_brokenBits 25 = .ok (.ior, 1) := by decide +kernel
theorem dX3_brokenBits_26 : decode cX3_brokenBits 26 = .ok (.istore_n 1, 1) := by decide +kernel
theorem dX3_brokenBits_27 : decode cX3_brokenBits 27 = .ok (.iinc 2 1, 3) := by decide +kernel
theorem dX3_brokenBits_30 : decode cX3_brokenBits 30 = .ok (.goto (-26), 3) := by decide +kernel
theorem dX3_brokenBits_33 : decode cX3_brokenBits 33 = .ok (.iload_n 1, 1) := by decide +kernel
theorem dX3_brokenBits_34 : decode cX3_brokenBits 34 = .ok (.ireturn, 1) := by decide +kernel
set_option maxHeartbeats 4000000 in
set_option maxRecDepth 100000 in
theorem s_X3_brokenBits (l : Launch) (dC : Nat → ClassId) (dI : Nat → Nat → Nat) (cI cZ cB cJ cM cG : ClassId) (a0 a1 a2 a3 a4 a5 a6 a7 : Nat) (i0 : Int32) (xF6 : Nat → Int32) (sz : Nat) (p_0 : (0 : Int) ≤ i0.toInt ∧ i0.toInt ≤ 24) (p_1 : rng xF6 24 0 1) : Met l yX3_brokenBits (kw yX3_brokenBits cX3_brokenBits 3 (some .int)) ({ frames := 0, cells := 0, slots := 0, locals := 0 } : Room) (va_Pc [.ref a0] (kPre dC dI [(cI, .int), (cZ, .boolean), (cB, .byte), (cJ, .long), (cM, .object RX2), (cG, .array .int)] [(a0, .inr (3, [.int i0, .ref a1, .ref a2, .ref a3, .ref a4, .ref a5, .ref a6, .ref a7])), (a7, .inl (cZ, 24, .inl xF6))] sz)) (va_Qi (fun (r : Int32) (u9 : Unit) => True) (fun u9 t => va_P (dC, dI) vwCl [(a0, .inr (3, [.int i0, .ref a1, .ref a2, .ref a3, .ref a4, .ref a5, .ref a6, .ref a7])), (a7, .inl (cZ, 24, .inl xF6))] t.heap ∧ va_D (va_A [(a0, .inr (3, [.int i0, .ref a1, .ref a2, .ref a3, .ref a4, .ref a5, .ref a6, .ref a7])), (a7, .inl (cZ, 24, .inl xF6))] sz) [(a0, .inr (3, [.int i0, .ref a1, .ref a2, .ref a3, .ref a4, .ref a5, .ref a6, .ref a7])), (a7, .inl (cZ, 24, .inl xF6))]) (va_A [(a0, .inr (3, [.int i0, .ref a1, .ref a2, .ref a3, .ref a4, .ref a5, .ref a6, .ref a7])), (a7, .inl (cZ, 24, .inl xF6))] sz)) 0 0 (va_A [(a0, .inr (3, [.int i0, .ref a1, .ref a2, .ref a3, .ref a4, .ref a5, .ref a6, .ref a7])), (a7, .inl (cZ, 24, .inl xF6))] sz) := by
  refine kEnter (by decide) (Nat.le_of_ble_eq_true rfl) ?_
  intro p e s m below meth c ls hx hb hr hml hown hlocks hin hwd hsz hP hK hD hl
  subst hsz
  generalize hAe : va_A [(a0, .inr (3, [.int i0, .ref a1, .ref a2, .ref a3, .ref a4, .ref a5, .ref a6, .ref a7])), (a7, .inl (cZ, 24, .inl xF6))] s.heap.size = A at hD ⊢
  have hA : ∀ q : Nat, s.heap.size ≤ q → A q := fun q h => by rw [← hAe]; exact Or.inr h
  have hS : va_S A s.heap s.heap [] := va_S.rf
  have hl : lv_has ls 3 [(0, .ref a0)] := hl
  obtain ⟨Q, hQ⟩ : ∃ Q, Q = MQ below (va_Qi (fun (r : Int32) (u9 : Unit) => True) (fun u9 t => va_P (dC, dI) vwCl [(a0, .inr (3, [.int i0, .ref a1, .ref a2, .ref a3, .ref a4, .ref a5, .ref a6, .ref a7])), (a7, .inl (cZ, 24, .inl xF6))] t.heap ∧ va_D A [(a0, .inr (3, [.int i0, .ref a1, .ref a2, .ref a3, .ref a4, .ref a5, .ref a6, .ref a7])), (a7, .inl (cZ, 24, .inl xF6))]) A) ([.ref a0] : List Value).toArray s 0 0 A := ⟨_, rfl⟩
  rw [← hQ]
  have k0 : (0 : Int32).toInt = 0 := by decide
  have k1 : (1 : Int32).toInt = 1 := by decide
  refine lv_iconst (v := 0) hx hb dX3_brokenBits_0 (by decide) ?_
  refine lv_istore_n (lv' := [(1, .int 0), (0, .ref a0)]) hx hb dX3_brokenBits_1 rfl hl (by decide) rfl (fun ls hl => ?_)
  refine lv_iconst (v := 0) hx hb dX3_brokenBits_2 (by decide) ?_
  refine lv_istore_n (lv' := [(2, .int 0), (1, .int 0), (0, .ref a0)]) hx hb dX3_brokenBits_3 rfl hl (by decide) rfl (fun ls hl => ?_)
  have lp1 : ∀ (d : Nat), ∀ (H : Heap) (locs : List Loc) (ls : Array Slot) (w1_1 : Int32) (w2_1 : Int32), ((0 : Int) ≤ w2_1.toInt ∧ w2_1.toInt ≤ 24) → (24 - w2_1.toInt).toNat < d → va_P (dC, dI) vwCl [(a0, .inr (3, [.int i0, .ref a1, .ref a2, .ref a3, .ref a4, .ref a5, .ref a6, .ref a7])), (a7, .inl (cZ, 24, .inl xF6))] H → va_D A [(a0, .inr (3, [.int i0, .ref a1, .ref a2, .ref a3, .ref a4, .ref a5, .ref a6, .ref a7])), (a7, .inl (cZ, 24, .inl xF6))] → va_S A s.heap H locs → lv_has ls 3 [(0, .ref a0), (1, .int w1_1), (2, .int w2_1)] → W p l e ({ frames := 0, cells := 0, slots := 0, locals := 0 } : Room) s m ([.ref a0] : List Value).toArray below meth c H locs 0 0 Q (F0 m 4 ls []) := by
    intro d
    induction d with
    | zero =>
      intro H locs ls w1_1 w2_1 hr_w2_1 hm hP hD hS hl
      omega
    | succ d ih1 =>
      intro H locs ls w1_1 w2_1 hr_w2_1 hm hP hD hS hl
      refine lv_iload_n hx hb dX3_brokenBits_4 rfl (lv_at hl 2 rfl) ?_
      refine lv_aload_n hx hb dX3_brokenBits_5 rfl (lv_at hl 0 rfl) ?_
      refine va_get (D := (dC, dI)) (ci := 3) (v := .int i0) (C := RX3) (T := TX3) (N := 8) hx hb hwd inlX3 hown hK hP 0 rfl rfl 0 (by decide) (hwd _ kr16_6) (fun _ h9 => h9) rfl dX3_brokenBits_6 ?_
      refine lv_icmp_ge (tgt := 33) hx hb dX3_brokenBits_9 (by decide) (fun c47 => ?_) (fun c47 => ?_)
      · rw [ki_le] at c47
        refine lv_iload_n hx hb dX3_brokenBits_33 rfl (lv_at hl 1 rfl) ?_
        have hP9 := hP.sub (ws' := [(a0, .inr (3, [.int i0, .ref a1, .ref a2, .ref a3, .ref a4, .ref a5, .ref a6, .ref a7])), (a7, .inl (cZ, 24, .inl xF6))]) [0, 1] rfl
        have hD9 := hD.sub (ws' := [(a0, .inr (3, [.int i0, .ref a1, .ref a2, .ref a3, .ref a4, .ref a5, .ref a6, .ref a7])), (a7, .inl (cZ, 24, .inl xF6))]) [0, 1] (by decide) rfl
        rw [hQ]
        exact W.iret (v := w1_1) hx hb hr (fun t ht hW => ⟨⟨w1_1, (), rfl, trivial, (by rw [ht]; exact hP9), hD9⟩, hS.F ht⟩) hS.2.2 dX3_brokenBits_34
      · rw [ki_le] at c47
        refine lv_aload_n hx hb dX3_brokenBits_12 rfl (lv_at hl 0 rfl) ?_
        refine va_get (D := (dC, dI)) (ci := 3) (v := .ref a7) (C := RX3) (T := TX3) (N := 8) hx hb hwd inlX3 hown hK hP 0 rfl rfl 7 (by decide) (hwd _ kr5_23) (fun _ h9 => h9) rfl dX3_brokenBits_13 ?_
        refine lv_iload_n hx hb dX3_brokenBits_16 rfl (lv_at hl 2 rfl) ?_
        have h48 : vp_in w2_1 24 := (vp_of (by omega) (by omega))
        refine va_zald hx hb hK hP 1 1 rfl rfl h48 dX3_brokenBits_17 ?_
        refine lv_topi (fun x49 ex49 => ?_)
        have tx49 : (0 : Int) ≤ x49.toInt ∧ x49.toInt ≤ 1 := by rw [ex49]; exact p_1 _ (vp_nat h48)
        refine lv_if_eq (tgt := 27) hx hb dX3_brokenBits_18 (by decide) (fun c50 => ?_) (fun c50 => ?_)
        · rw [ki_eq] at c50
          obtain ⟨x51, ex51⟩ : ∃ y : Int32, y = w2_1 + 1 := ⟨_, rfl⟩
          refine lv_iinc (v := x51) (lv' := [(2, .int x51), (0, .ref a0), (1, .int w1_1)]) hx hb dX3_brokenBits_27 hl (k := 2) rfl (by rw [ex51]; rfl) (by decide) rfl (fun ls hl => ?_)
          have tx51 := ia_add (a := w2_1) (b := (1 : Int32)) (by omega) (by omega)
          rw [← ex51] at tx51
          refine lv_goto (tgt := 4) hx hb dX3_brokenBits_30 (by decide) ?_
          exact ih1 _ _ ls w1_1 x51 (show (0 : Int) ≤ x51.toInt ∧ x51.toInt ≤ 24 from ⟨by omega, by omega⟩) (by omega) (hP.sub (ws' := [(a0, .inr (3, [.int i0, .ref a1, .ref a2, .ref a3, .ref a4, .ref a5, .ref a6, .ref a7])), (a7, .inl (cZ, 24, .inl xF6))]) [0, 1] rfl) (hD.sub (ws' := [(a0, .inr (3, [.int i0, .ref a1, .ref a2, .ref a3, .ref a4, .ref a5, .ref a6, .ref a7])), (a7, .inl (cZ, 24, .inl xF6))]) [0, 1] (by decide) rfl) hS (lv_sub hl [1, 2, 0] rfl)
        · rw [ki_eq] at c50
          refine lv_iload_n hx hb dX3_brokenBits_21 rfl (lv_at hl 1 rfl) ?_
          refine lv_iconst (v := 1) hx hb dX3_brokenBits_22 (by decide) ?_
          refine lv_iload_n hx hb dX3_brokenBits_23 rfl (lv_at hl 2 rfl) ?_
          refine lv_ishl hx hb dX3_brokenBits_24 ?_
          refine lv_topi (fun x52 ex52 => ?_)
          refine lv_ior hx hb dX3_brokenBits_25 ?_
          refine lv_topi (fun x53 ex53 => ?_)
          refine lv_istore_n (lv' := [(1, .int x53), (0, .ref a0), (2, .int w2_1)]) hx hb dX3_brokenBits_26 rfl hl (by decide) rfl (fun ls hl => ?_)
          obtain ⟨x54, ex54⟩ : ∃ y : Int32, y = w2_1 + 1 := ⟨_, rfl⟩
          refine lv_iinc (v := x54) (lv' := [(2, .int x54), (1, .int x53), (0, .ref a0)]) hx hb dX3_brokenBits_27 hl (k := 2) rfl (by rw [ex54]; rfl) (by decide) rfl (fun ls hl => ?_)
          have tx54 := ia_add (a := w2_1) (b := (1 : Int32)) (by omega) (by omega)
          rw [← ex54] at tx54
          refine lv_goto (tgt := 4) hx hb dX3_brokenBits_30 (by decide) ?_
          exact ih1 _ _ ls x53 x54 (show (0 : Int) ≤ x54.toInt ∧ x54.toInt ≤ 24 from ⟨by omega, by omega⟩) (by omega) (hP.sub (ws' := [(a0, .inr (3, [.int i0, .ref a1, .ref a2, .ref a3, .ref a4, .ref a5, .ref a6, .ref a7])), (a7, .inl (cZ, 24, .inl xF6))]) [0, 1] rfl) (hD.sub (ws' := [(a0, .inr (3, [.int i0, .ref a1, .ref a2, .ref a3, .ref a4, .ref a5, .ref a6, .ref a7])), (a7, .inl (cZ, 24, .inl xF6))]) [0, 1] (by decide) rfl) hS (lv_sub hl [2, 1, 0] rfl)
  exact lp1 _ _ _ ls (0) (0) (show (0 : Int) ≤ (0 : Int32).toInt ∧ (0 : Int32).toInt ≤ 24 from ⟨by omega, by omega⟩) (Nat.lt_succ_self _) (hP.sub (ws' := [(a0, .inr (3, [.int i0, .ref a1, .ref a2, .ref a3, .ref a4, .ref a5, .ref a6, .ref a7])), (a7, .inl (cZ, 24, .inl xF6))]) [0, 1] rfl) (hD.sub (ws' := [(a0, .inr (3, [.int i0, .ref a1, .ref a2, .ref a3, .ref a4, .ref a5, .ref a6, .ref a7])), (a7, .inl (cZ, 24, .inl xF6))]) [0, 1] (by decide) rfl) hS (lv_sub hl [2, 1, 0] rfl)
theorem dX3_wornTogether_0 : decode cX3_wornTogether 0 = .ok (.iconst 0, 1) := by decide +kernel
theorem dX3_wornTogether_1 : decode cX3_wornTogether 1 = .ok (.istore_n 1, 1) := by decide +kernel
theorem dX3_wornTogether_2 : decode cX3_wornTogether 2 = .ok (.iconst 0, 1) := by decide +kernel
theorem dX3_wornTogether_3 : decode cX3_wornTogether 3 = .ok (.istore_n 2, 1) := by decide +kernel
theorem dX3_wornTogether_4 : decode cX3_wornTogether 4 = .ok (.iload_n 2, 1) := by decide +kernel
theorem dX3_wornTogether_5 : decode cX3_wornTogether 5 = .ok (.aload_n 0, 1) := by decide +kernel
theorem dX3_wornTogether_6 : decode cX3_wornTogether 6 = .ok (.getfield 34, 3) := by decide +kernel
theorem dX3_wornTogether_9 : decode cX3_wornTogether 9 = .ok (.if_icmp .ge 18, 3) := by decide +kernel
theorem dX3_wornTogether_12 : decode cX3_wornTogether 12 = .ok (.iload_n 1, 1) := by decide +kernel
theorem dX3_wornTogether_13 : decode cX3_wornTogether 13 = .ok (.aload_n 0, 1) := by decide +kernel
theorem dX3_wornTogether_14 : decode cX3_wornTogether 14 = .ok (.getfield 27, 3) := by decide +kernel
theorem dX3_wornTogether_17 : decode cX3_wornTogether 17 = .ok (.iload_n 2, 1) := by decide +kernel
theorem dX3_wornTogether_18 : decode cX3_wornTogether 18 = .ok (.iaload, 1) := by decide +kernel
theorem dX3_wornTogether_19 : decode cX3_wornTogether 19 = .ok (.iadd, 1) := by decide +kernel
theorem dX3_wornTogether_20 : decode cX3_wornTogether 20 = .ok (.istore_n 1, 1) := by decide +kernel
theorem dX3_wornTogether_21 : decode cX3_wornTogether 21 = .ok (.iinc 2 1, 3) := by decide +kernel
theorem dX3_wornTogether_24 : decode cX3_wornTogether 24 = .ok (.goto (-20), 3) := by decide +kernel
theorem dX3_wornTogether_27 : decode cX3_wornTogether 27 = .ok (.iload_n 1, 1) := by decide +kernel
theorem dX3_wornTogether_28 : decode cX3_wornTogether 28 = .ok (.ireturn, 1) := by decide +kernel
set_option maxHeartbeats 4000000 in
set_option maxRecDepth 100000 in
theorem s_X3_wornTogether (l : Launch) (dC : Nat → ClassId) (dI : Nat → Nat → Nat) (cI cZ cB cJ cM cG : ClassId) (a0 a1 a2 a3 a4 a5 a6 a7 : Nat) (i0 : Int32) (xF5 : Nat → Int32) (sz : Nat) (p_0 : (0 : Int) ≤ i0.toInt ∧ i0.toInt ≤ 24) : Met l yX3_wornTogether (kw yX3_wornTogether cX3_wornTogether 3 (some .int)) ({ frames := 0, cells := 0, slots := 0, locals := 0 } : Room) (va_Pc [.ref a0] (kPre dC dI [(cI, .int), (cZ, .boolean), (cB, .byte), (cJ, .long), (cM, .object RX2), (cG, .array .int)] [(a0, .inr (3, [.int i0, .ref a1, .ref a2, .ref a3, .ref a4, .ref a5, .ref a6, .ref a7])), (a6, .inl (cI, 24, .inl xF5))] sz)) (va_Qi (fun (r : Int32) (u9 : Unit) => True) (fun u9 t => va_P (dC, dI) vwCl [(a0, .inr (3, [.int i0, .ref a1, .ref a2, .ref a3, .ref a4, .ref a5, .ref a6, .ref a7])), (a6, .inl (cI, 24, .inl xF5))] t.heap ∧ va_D (va_A [(a0, .inr (3, [.int i0, .ref a1, .ref a2, .ref a3, .ref a4, .ref a5, .ref a6, .ref a7])), (a6, .inl (cI, 24, .inl xF5))] sz) [(a0, .inr (3, [.int i0, .ref a1, .ref a2, .ref a3, .ref a4, .ref a5, .ref a6, .ref a7])), (a6, .inl (cI, 24, .inl xF5))]) (va_A [(a0, .inr (3, [.int i0, .ref a1, .ref a2, .ref a3, .ref a4, .ref a5, .ref a6, .ref a7])), (a6, .inl (cI, 24, .inl xF5))] sz)) 0 0 (va_A [(a0, .inr (3, [.int i0, .ref a1, .ref a2, .ref a3, .ref a4, .ref a5, .ref a6, .ref a7])), (a6, .inl (cI, 24, .inl xF5))] sz) := by
  refine kEnter (by decide) (Nat.le_of_ble_eq_true rfl) ?_
  intro p e s m below meth c ls hx hb hr hml hown hlocks hin hwd hsz hP hK hD hl
  subst hsz
  generalize hAe : va_A [(a0, .inr (3, [.int i0, .ref a1, .ref a2, .ref a3, .ref a4, .ref a5, .ref a6, .ref a7])), (a6, .inl (cI, 24, .inl xF5))] s.heap.size = A at hD ⊢
  have hA : ∀ q : Nat, s.heap.size ≤ q → A q := fun q h => by rw [← hAe]; exact Or.inr h
  have hS : va_S A s.heap s.heap [] := va_S.rf
  have hl : lv_has ls 3 [(0, .ref a0)] := hl
  obtain ⟨Q, hQ⟩ : ∃ Q, Q = MQ below (va_Qi (fun (r : Int32) (u9 : Unit) => True) (fun u9 t => va_P (dC, dI) vwCl [(a0, .inr (3, [.int i0, .ref a1, .ref a2, .ref a3, .ref a4, .ref a5, .ref a6, .ref a7])), (a6, .inl (cI, 24, .inl xF5))] t.heap ∧ va_D A [(a0, .inr (3, [.int i0, .ref a1, .ref a2, .ref a3, .ref a4, .ref a5, .ref a6, .ref a7])), (a6, .inl (cI, 24, .inl xF5))]) A) ([.ref a0] : List Value).toArray s 0 0 A := ⟨_, rfl⟩
  rw [← hQ]
  have k0 : (0 : Int32).toInt = 0 := by decide
  have k1 : (1 : Int32).toInt = 1 := by decide
  refine lv_iconst (v := 0) hx hb dX3_wornTogether_0 (by decide) ?_
  refine lv_istore_n (lv' := [(1, .int 0), (0, .ref a0)]) hx hb dX3_wornTogether_1 rfl hl (by decide) rfl (fun ls hl => ?_)
  refine lv_iconst (v := 0) hx hb dX3_wornTogether_2 (by decide) ?_
  refine lv_istore_n (lv' := [(2, .int 0), (1, .int 0), (0, .ref a0)]) hx hb dX3_wornTogether_3 rfl hl (by decide) rfl (fun ls hl => ?_)
  have lp1 : ∀ (d : Nat), ∀ (H : Heap) (locs : List Loc) (ls : Array Slot) (w1_1 : Int32) (w2_1 : Int32), ((0 : Int) ≤ w2_1.toInt ∧ w2_1.toInt ≤ 24) → (24 - w2_1.toInt).toNat < d → va_P (dC, dI) vwCl [(a0, .inr (3, [.int i0, .ref a1, .ref a2, .ref a3, .ref a4, .ref a5, .ref a6, .ref a7])), (a6, .inl (cI, 24, .inl xF5))] H → va_D A [(a0, .inr (3, [.int i0, .ref a1, .ref a2, .ref a3, .ref a4, .ref a5, .ref a6, .ref a7])), (a6, .inl (cI, 24, .inl xF5))] → va_S A s.heap H locs → lv_has ls 3 [(0, .ref a0), (1, .int w1_1), (2, .int w2_1)] → W p l e ({ frames := 0, cells := 0, slots := 0, locals := 0 } : Room) s m ([.ref a0] : List Value).toArray below meth c H locs 0 0 Q (F0 m 4 ls []) := by
    intro d
    induction d with
    | zero =>
      intro H locs ls w1_1 w2_1 hr_w2_1 hm hP hD hS hl
      omega
    | succ d ih1 =>
      intro H locs ls w1_1 w2_1 hr_w2_1 hm hP hD hS hl
      refine lv_iload_n hx hb dX3_wornTogether_4 rfl (lv_at hl 2 rfl) ?_
      refine lv_aload_n hx hb dX3_wornTogether_5 rfl (lv_at hl 0 rfl) ?_
      refine va_get (D := (dC, dI)) (ci := 3) (v := .int i0) (C := RX3) (T := TX3) (N := 8) hx hb hwd inlX3 hown hK hP 0 rfl rfl 0 (by decide) (hwd _ kr16_6) (fun _ h9 => h9) rfl dX3_wornTogether_6 ?_
      refine lv_icmp_ge (tgt := 27) hx hb dX3_wornTogether_9 (by decide) (fun c31 => ?_) (fun c31 => ?_)
      · rw [ki_le] at c31
        refine lv_iload_n hx hb dX3_wornTogether_27 rfl (lv_at hl 1 rfl) ?_
        have hP9 := hP.sub (ws' := [(a0, .inr (3, [.int i0, .ref a1, .ref a2, .ref a3, .ref a4, .ref a5, .ref a6, .ref a7])), (a6, .inl (cI, 24, .inl xF5))]) [0, 1] rfl
        have hD9 := hD.sub (ws' := [(a0, .inr (3, [.int i0, .ref a1, .ref a2, .ref a3, .ref a4, .ref a5, .ref a6, .ref a7])), (a6, .inl (cI, 24, .inl xF5))]) [0, 1] (by decide) rfl
        rw [hQ]
        exact W.iret (v := w1_1) hx hb hr (fun t ht hW => ⟨⟨w1_1, (), rfl, trivial, (by rw [ht]; exact hP9), hD9⟩, hS.F ht⟩) hS.2.2 dX3_wornTogether_28
      · rw [ki_le] at c31
        refine lv_iload_n hx hb dX3_wornTogether_12 rfl (lv_at hl 1 rfl) ?_
        refine lv_aload_n hx hb dX3_wornTogether_13 rfl (lv_at hl 0 rfl) ?_
        refine va_get (D := (dC, dI)) (ci := 3) (v := .ref a6) (C := RX3) (T := TX3) (N := 8) hx hb hwd inlX3 hown hK hP 0 rfl rfl 6 (by decide) (hwd _ kr5_22) (fun _ h9 => h9) rfl dX3_wornTogether_14 ?_
        refine lv_iload_n hx hb dX3_wornTogether_17 rfl (lv_at hl 2 rfl) ?_
        have h32 : vp_in w2_1 24 := (vp_of (by omega) (by omega))
        refine va_iald hx hb hK hP 1 0 rfl rfl h32 dX3_wornTogether_18 ?_
        refine lv_topi (fun x33 ex33 => ?_)
        refine lv_iadd hx hb dX3_wornTogether_19 ?_
        refine lv_topi (fun x34 ex34 => ?_)
        refine lv_istore_n (lv' := [(1, .int x34), (0, .ref a0), (2, .int w2_1)]) hx hb dX3_wornTogether_20 rfl hl (by decide) rfl (fun ls hl => ?_)
        obtain ⟨x35, ex35⟩ : ∃ y : Int32, y = w2_1 + 1 := ⟨_, rfl⟩
        refine lv_iinc (v := x35) (lv' := [(2, .int x35), (1, .int x34), (0, .ref a0)]) hx hb dX3_wornTogether_21 hl (k := 2) rfl (by rw [ex35]; rfl) (by decide) rfl (fun ls hl => ?_)
        have tx35 := ia_add (a := w2_1) (b := (1 : Int32)) (by omega) (by omega)
        rw [← ex35] at tx35
        refine lv_goto (tgt := 4) hx hb dX3_wornTogether_24 (by decide) ?_
        exact ih1 _ _ ls x34 x35 (show (0 : Int) ≤ x35.toInt ∧ x35.toInt ≤ 24 from ⟨by omega, by omega⟩) (by omega) (hP.sub (ws' := [(a0, .inr (3, [.int i0, .ref a1, .ref a2, .ref a3, .ref a4, .ref a5, .ref a6, .ref a7])), (a6, .inl (cI, 24, .inl xF5))]) [0, 1] rfl) (hD.sub (ws' := [(a0, .inr (3, [.int i0, .ref a1, .ref a2, .ref a3, .ref a4, .ref a5, .ref a6, .ref a7])), (a6, .inl (cI, 24, .inl xF5))]) [0, 1] (by decide) rfl) hS (lv_sub hl [2, 1, 0] rfl)
  exact lp1 _ _ _ ls (0) (0) (show (0 : Int) ≤ (0 : Int32).toInt ∧ (0 : Int32).toInt ≤ 24 from ⟨by omega, by omega⟩) (Nat.lt_succ_self _) (hP.sub (ws' := [(a0, .inr (3, [.int i0, .ref a1, .ref a2, .ref a3, .ref a4, .ref a5, .ref a6, .ref a7])), (a6, .inl (cI, 24, .inl xF5))]) [0, 1] rfl) (hD.sub (ws' := [(a0, .inr (3, [.int i0, .ref a1, .ref a2, .ref a3, .ref a4, .ref a5, .ref a6, .ref a7])), (a6, .inl (cI, 24, .inl xF5))]) [0, 1] (by decide) rfl) hS (lv_sub hl [2, 1, 0] rfl)
theorem dX3_heightOf_0 : decode cX3_heightOf 0 = .ok (.aload_n 0, 1) := by decide +kernel
theorem dX3_heightOf_1 : decode cX3_heightOf 1 = .ok (.getfield 30, 3) := by decide +kernel
theorem dX3_heightOf_4 : decode cX3_heightOf 4 = .ok (.iload_n 1, 1) := by decide +kernel
theorem dX3_heightOf_5 : decode cX3_heightOf 5 = .ok (.baload, 1) := by decide +kernel
theorem dX3_heightOf_6 : decode cX3_heightOf 6 = .ok (.ifCond .eq 7, 3) := by decide +kernel
theorem dX3_heightOf_9 : decode cX3_heightOf 9 = .ok (.iconst 0, 1) := by decide +kernel
theorem dX3_heightOf_10 : decode cX3_heightOf 10 = .ok (.goto 15, 3) := by decide +kernel
theorem dX3_heightOf_13 : decode cX3_heightOf 13 = .ok (.iconst 0, 1) := by decide +kernel
theorem dX3_heightOf_14 : decode cX3_heightOf 14 = .ok (.aload_n 0, 1) := by decide +kernel
theorem dX3_heightOf_15 : decode cX3_heightOf 15 = .ok (.getfield 21, 3) := by decide +kernel
theorem dX3_heightOf_18 : decode cX3_heightOf 18 = .ok (.iload_n 1, 1) := by decide +kernel
theorem dX3_heightOf_19 : decode cX3_heightOf 19 = .ok (.iaload, 1) := by decide +kernel
theorem dX3_heightOf_20 : decode cX3_heightOf 20 = .ok (.iload_n 2, 1) := by decide +kernel
theorem dX3_heightOf_21 : decode cX3_heightOf 21 = .ok (.isub, 1) := by decide +kernel
theorem dX3_heightOf_22 : decode cX3_heightOf 22 = .ok (.invokestatic 67, 3) := by decide +kernel
theorem dX3_heightOf_25 : decode cX3_heightOf 25 = .ok (.ireturn, 1) := by decide +kernel
set_option maxHeartbeats 4000000 in
set_option maxRecDepth 100000 in
theorem s_X3_heightOf (l : Launch) (dC : Nat → ClassId) (dI : Nat → Nat → Nat) (cI cZ cB cJ cM cG : ClassId) (a0 a1 a2 a3 a4 a5 a6 a7 : Nat) (i0 : Int32) (xF3 xF6 : Nat → Int32) (p0 p1 : Int32) (sz : Nat) (p_0 : (0 : Int) ≤ i0.toInt ∧ i0.toInt ≤ 24) (p_1 : rng xF3 24 0 60) (p_2 : rng xF6 24 0 1) (p_3 : (0 : Int) ≤ p0.toInt ∧ p0.toInt ≤ 23) : Met l yX3_heightOf (kw yX3_heightOf cX3_heightOf 3 (some .int)) ({ frames := 1, cells := 0, slots := 0, locals := 24 } : Room) (va_Pc [.ref a0, .int p0, .int p1] (kPre dC dI [(cI, .int), (cZ, .boolean), (cB, .byte), (cJ, .long), (cM, .object RX2), (cG, .array .int)] [(a0, .inr (3, [.int i0, .ref a1, .ref a2, .ref a3, .ref a4, .ref a5, .ref a6, .ref a7])), (a4, .inl (cI, 24, .inl xF3)), (a7, .inl (cZ, 24, .inl xF6))] sz)) (va_Qi (fun (r : Int32) (u9 : Unit) => ((0 : Int) ≤ r.toInt ∧ r.toInt ≤ 2147483647) ∧ True) (fun u9 t => va_P (dC, dI) vwCl [(a0, .inr (3, [.int i0, .ref a1, .ref a2, .ref a3, .ref a4, .ref a5, .ref a6, .ref a7])), (a4, .inl (cI, 24, .inl xF3)), (a7, .inl (cZ, 24, .inl xF6))] t.heap ∧ va_D (va_A [(a0, .inr (3, [.int i0, .ref a1, .ref a2, .ref a3, .ref a4, .ref a5, .ref a6, .ref a7])), (a4, .inl (cI, 24, .inl xF3)), (a7, .inl (cZ, 24, .inl xF6))] sz) [(a0, .inr (3, [.int i0, .ref a1, .ref a2, .ref a3, .ref a4, .ref a5, .ref a6, .ref a7])), (a4, .inl (cI, 24, .inl xF3)), (a7, .inl (cZ, 24, .inl xF6))]) (va_A [(a0, .inr (3, [.int i0, .ref a1, .ref a2, .ref a3, .ref a4, .ref a5, .ref a6, .ref a7])), (a4, .inl (cI, 24, .inl xF3)), (a7, .inl (cZ, 24, .inl xF6))] sz)) 0 0 (va_A [(a0, .inr (3, [.int i0, .ref a1, .ref a2, .ref a3, .ref a4, .ref a5, .ref a6, .ref a7])), (a4, .inl (cI, 24, .inl xF3)), (a7, .inl (cZ, 24, .inl xF6))] sz) := by
  refine kEnter (by decide) (Nat.le_of_ble_eq_true rfl) ?_
  intro p e s m below meth c ls hx hb hr hml hown hlocks hin hwd hsz hP hK hD hl
  subst hsz
  generalize hAe : va_A [(a0, .inr (3, [.int i0, .ref a1, .ref a2, .ref a3, .ref a4, .ref a5, .ref a6, .ref a7])), (a4, .inl (cI, 24, .inl xF3)), (a7, .inl (cZ, 24, .inl xF6))] s.heap.size = A at hD ⊢
  have hA : ∀ q : Nat, s.heap.size ≤ q → A q := fun q h => by rw [← hAe]; exact Or.inr h
  have hS : va_S A s.heap s.heap [] := va_S.rf
  have hl : lv_has ls 3 [(0, .ref a0), (1, .int p0), (2, .int p1)] := hl
  obtain ⟨Q, hQ⟩ : ∃ Q, Q = MQ below (va_Qi (fun (r : Int32) (u9 : Unit) => ((0 : Int) ≤ r.toInt ∧ r.toInt ≤ 2147483647) ∧ True) (fun u9 t => va_P (dC, dI) vwCl [(a0, .inr (3, [.int i0, .ref a1, .ref a2, .ref a3, .ref a4, .ref a5, .ref a6, .ref a7])), (a4, .inl (cI, 24, .inl xF3)), (a7, .inl (cZ, 24, .inl xF6))] t.heap ∧ va_D A [(a0, .inr (3, [.int i0, .ref a1, .ref a2, .ref a3, .ref a4, .ref a5, .ref a6, .ref a7])), (a4, .inl (cI, 24, .inl xF3)), (a7, .inl (cZ, 24, .inl xF6))]) A) ([.ref a0, .int p0, .int p1] : List Value).toArray s 0 0 A := ⟨_, rfl⟩
  rw [← hQ]
  have k0 : (0 : Int32).toInt = 0 := by decide
  refine lv_aload_n hx hb dX3_heightOf_0 rfl (lv_at hl 0 rfl) ?_
  refine va_get (D := (dC, dI)) (ci := 3) (v := .ref a7) (C := RX3) (T := TX3) (N := 8) hx hb hwd inlX3 hown hK hP 0 rfl rfl 7 (by decide) (hwd _ kr5_23) (fun _ h9 => h9) rfl dX3_heightOf_1 ?_
  refine lv_iload_n hx hb dX3_heightOf_4 rfl (lv_at hl 1 rfl) ?_
  have h1 : vp_in p0 24 := (vp_of (by omega) (by omega))
  refine va_zald hx hb hK hP 2 1 rfl rfl h1 dX3_heightOf_5 ?_
  refine lv_topi (fun x2 ex2 => ?_)
  have tx2 : (0 : Int) ≤ x2.toInt ∧ x2.toInt ≤ 1 := by rw [ex2]; exact p_2 _ (vp_nat h1)
  refine lv_if_eq (tgt := 13) hx hb dX3_heightOf_6 (by decide) (fun c3 => ?_) (fun c3 => ?_)
  · rw [ki_eq] at c3
    refine lv_iconst (v := 0) hx hb dX3_heightOf_13 (by decide) ?_
    refine lv_aload_n hx hb dX3_heightOf_14 rfl (lv_at hl 0 rfl) ?_
    refine va_get (D := (dC, dI)) (ci := 3) (v := .ref a4) (C := RX3) (T := TX3) (N := 8) hx hb hwd inlX3 hown hK hP 0 rfl rfl 4 (by decide) (hwd _ kr5_20) (fun _ h9 => h9) rfl dX3_heightOf_15 ?_
    refine lv_iload_n hx hb dX3_heightOf_18 rfl (lv_at hl 1 rfl) ?_
    have h4 : vp_in p0 24 := (vp_of (by omega) (by omega))
    refine va_iald hx hb hK hP 1 0 rfl rfl h4 dX3_heightOf_19 ?_
    refine lv_topi (fun x5 ex5 => ?_)
    have tx5 : (0 : Int) ≤ x5.toInt ∧ x5.toInt ≤ 60 := by rw [ex5]; exact p_1 _ (vp_nat h4)
    refine lv_iload_n hx hb dX3_heightOf_20 rfl (lv_at hl 2 rfl) ?_
    refine lv_isub hx hb dX3_heightOf_21 ?_
    refine lv_topi (fun x6 ex6 => ?_)
    refine va_mmax hx hb (by rw [hml]; exact hl.1.symm) hown (hwd _ kr19_2) (hwd _ kr19_3) (hwd _ kr19_4) (hwd _ kr19_5) (Nat.le_of_ble_eq_true rfl) (Nat.le_of_ble_eq_true rfl) (Nat.le_of_ble_eq_true rfl) (Nat.le_of_ble_eq_true rfl) dX3_heightOf_22 ?_
    refine lv_topi (fun x7 ex7 => ?_)
    have tx7 := mx_max (0 : Int32) x6
    rw [← ex7] at tx7
    have hP9 := hP.sub (ws' := [(a0, .inr (3, [.int i0, .ref a1, .ref a2, .ref a3, .ref a4, .ref a5, .ref a6, .ref a7])), (a4, .inl (cI, 24, .inl xF3)), (a7, .inl (cZ, 24, .inl xF6))]) [0, 1, 2] rfl
    have hD9 := hD.sub (ws' := [(a0, .inr (3, [.int i0, .ref a1, .ref a2, .ref a3, .ref a4, .ref a5, .ref a6, .ref a7])), (a4, .inl (cI, 24, .inl xF3)), (a7, .inl (cZ, 24, .inl xF6))]) [0, 1, 2] (by decide) rfl
    rw [hQ]
    exact W.iret (v := x7) hx hb hr (fun t ht hW => ⟨⟨x7, (), rfl, ⟨(show (0 : Int) ≤ x7.toInt ∧ x7.toInt ≤ 2147483647 from ⟨by omega, i32_hi⟩), trivial⟩, (by rw [ht]; exact hP9), hD9⟩, hS.F ht⟩) hS.2.2 dX3_heightOf_25
  · rw [ki_eq] at c3
    refine lv_iconst (v := 0) hx hb dX3_heightOf_9 (by decide) ?_
    refine lv_goto (tgt := 25) hx hb dX3_heightOf_10 (by decide) ?_
    have hP9 := hP.sub (ws' := [(a0, .inr (3, [.int i0, .ref a1, .ref a2, .ref a3, .ref a4, .ref a5, .ref a6, .ref a7])), (a4, .inl (cI, 24, .inl xF3)), (a7, .inl (cZ, 24, .inl xF6))]) [0, 1, 2] rfl
    have hD9 := hD.sub (ws' := [(a0, .inr (3, [.int i0, .ref a1, .ref a2, .ref a3, .ref a4, .ref a5, .ref a6, .ref a7])), (a4, .inl (cI, 24, .inl xF3)), (a7, .inl (cZ, 24, .inl xF6))]) [0, 1, 2] (by decide) rfl
    rw [hQ]
    exact W.iret (v := 0) hx hb hr (fun t ht hW => ⟨⟨0, (), rfl, ⟨(show (0 : Int) ≤ (0 : Int32).toInt ∧ (0 : Int32).toInt ≤ 2147483647 from ⟨by omega, i32_hi⟩), trivial⟩, (by rw [ht]; exact hP9), hD9⟩, hS.F ht⟩) hS.2.2 dX3_heightOf_25
theorem dX3_passYear_0 : decode cX3_passYear 0 = .ok (.lload_n 2, 1) := by decide +kernel
theorem dX3_passYear_1 : decode cX3_passYear 1 = .ok (.lstore 5, 2) := by decide +kernel
theorem dX3_passYear_3 : decode cX3_passYear 3 = .ok (.iconst 0, 1) := by decide +kernel
theorem dX3_passYear_4 : decode cX3_passYear 4 = .ok (.istore 7, 2) := by decide +kernel
theorem dX3_passYear_6 : decode cX3_passYear 6 = .ok (.iload 7, 2) := by decide +kernel
theorem dX3_passYear_8 : decode cX3_passYear 8 = .ok (.aload_n 0, 1) := by decide +kernel
theorem dX3_passYear_9 : decode cX3_passYear 9 = .ok (.getfield 34, 3) := by decide +kernel
theorem dX3_passYear_12 : decode cX3_passYear 12 = .ok (.if_icmp .ge 64, 3) := by decide +kernel
theorem dX3_passYear_15 : decode cX3_passYear 15 = .ok (.ldc2_w 72, 3) := by decide +kernel
theorem dX3_passYear_18 : decode cX3_passYear 18 = .ok (.lload 5, 2) := by decide +kernel
theorem dX3_passYear_20 : decode cX3_passYear 20 = .ok (.lmul, 1) := by decide +kernel
theorem dX3_passYear_21 : decode cX3_passYear 21 = .ok (.ldc2_w 74, 3) := by decide +kernel
theorem dX3_passYear_24 : decode cX3_passYear 24 = .ok (.ladd, 1) := by decide +kernel
theorem dX3_passYear_25 : decode cX3_passYear 25 = .ok (.ldc2_w 76, 3) := by decide +kernel
theorem dX3_passYear_28 : decode cX3_passYear 28 = .ok (.land, 1) := by decide +kernel
theorem dX3_passYear_29 : decode cX3_passYear 29 = .ok (.lstore 5, 2) := by decide +kernel
theorem dX3_passYear_31 : decode cX3_passYear 31 = .ok (.lload 5, 2) := by decide +kernel
theorem dX3_passYear_33 : decode cX3_passYear 33 = .ok (.ldc2_w 78, 3) := by decide +kernel
theorem dX3_passYear_36 : decode cX3_passYear 36 = .ok (.ldiv, 1) := by decide +kernel
theorem dX3_passYear_37 : decode cX3_passYear 37 = .ok (.ldc2_w 80, 3) := by decide +kernel
theorem dX3_passYear_40 : decode cX3_passYear 40 = .ok (.lrem, 1) := by decide +kernel
theorem dX3_passYear_41 : decode cX3_passYear 41 = .ok (.iload 4, 2) := by decide +kernel
theorem dX3_passYear_43 : decode cX3_passYear 43 = .ok (.i2l, 1) := by decide +kernel
theorem dX3_passYear_44 : decode cX3_passYear 44 = .ok (.lcmp, 1) := by decide +kernel
theorem dX3_passYear_45 : decode cX3_passYear 45 = .ok (.ifCond .ge 25, 3) := by decide +kernel
theorem dX3_passYear_48 : decode cX3_passYear 48 = .ok (.aload_n 1, 1) := by decide +kernel
theorem dX3_passYear_49 : decode cX3_passYear 49 = .ok (.iload 7, 2) := by decide +kernel
theorem dX3_passYear_51 : decode cX3_passYear 51 = .ok (.iaload, 1) := by decide +kernel
theorem dX3_passYear_52 : decode cX3_passYear 52 = .ok (.aload_n 0, 1) := by decide +kernel
theorem dX3_passYear_53 : decode cX3_passYear 53 = .ok (.getfield 21, 3) := by decide +kernel
theorem dX3_passYear_56 : decode cX3_passYear 56 = .ok (.iload 7, 2) := by decide +kernel
theorem dX3_passYear_58 : decode cX3_passYear 58 = .ok (.iaload, 1) := by decide +kernel
theorem dX3_passYear_59 : decode cX3_passYear 59 = .ok (.if_icmp .ge 11, 3) := by decide +kernel
theorem dX3_passYear_62 : decode cX3_passYear 62 = .ok (.aload_n 1, 1) := by decide +kernel
theorem dX3_passYear_63 : decode cX3_passYear 63 = .ok (.iload 7, 2) := by decide +kernel
theorem dX3_passYear_65 : decode cX3_passYear 65 = .ok (.dup2, 1) := by decide +kernel
theorem dX3_passYear_66 : decode cX3_passYear 66 = .ok (.iaload, 1) := by decide +kernel
theorem dX3_passYear_67 : decode cX3_passYear 67 = .ok (.iconst 1, 1) := by decide +kernel
theorem dX3_passYear_68 : decode cX3_passYear 68 = .ok (.iadd, 1) := by decide +kernel
theorem dX3_passYear_69 : decode cX3_passYear 69 = .ok (.iastore, 1) := by decide +kernel
theorem dX3_passYear_70 : decode cX3_passYear 70 = .ok (.iinc 7 1, 3) := by decide +kernel
theorem dX3_passYear_73 : decode cX3_passYear 73 = .ok (.goto (-67), 3) := by decide +kernel
theorem dX3_passYear_76 : decode cX3_passYear 76 = .ok (.lload 5, 2) := by decide +kernel
theorem dX3_passYear_78 : decode cX3_passYear 78 = .ok (.lreturn, 1) := by decide +kernel
set_option maxHeartbeats 4000000 in
set_option maxRecDepth 100000 in
theorem s_X3_passYear (l : Launch) (dC : Nat → ClassId) (dI : Nat → Nat → Nat) (cI cZ cB cJ cM cG : ClassId) (a0 a1 a2 a3 a4 a5 a6 a7 a8 : Nat) (i0 : Int32) (xF3 xF7 : Nat → Int32) (p2 : Int32) (y1 : Int64) (sz : Nat) (p_0 : (0 : Int) ≤ i0.toInt ∧ i0.toInt ≤ 24) (p_1 : rng xF3 24 0 60) : Met l yX3_passYear (kw yX3_passYear cX3_passYear 8 (some .long)) ({ frames := 0, cells := 0, slots := 0, locals := 0 } : Room) (va_Pc [.ref a0, .ref a8, .long y1, .int p2] (kPre dC dI [(cI, .int), (cZ, .boolean), (cB, .byte), (cJ, .long), (cM, .object RX2), (cG, .array .int)] [(a0, .inr (3, [.int i0, .ref a1, .ref a2, .ref a3, .ref a4, .ref a5, .ref a6, .ref a7])), (a4, .inl (cI, 24, .inl xF3)), (a8, .inl (cI, 24, .inl xF7))] sz)) (va_Ql (fun (r : Int64) (u9 : (Nat → Int32) × (Nat → Nat → Int32) × (Nat → Nat → Int64)) => True) (fun u9 t => va_P (dC, dI) vwCl [(a0, .inr (3, [.int i0, .ref a1, .ref a2, .ref a3, .ref a4, .ref a5, .ref a6, .ref a7])), (a4, .inl (cI, 24, .inl xF3)), (a8, .inl (cI, 24, .inl (u9.2.1 0)))] t.heap ∧ va_D (va_A [(a0, .inr (3, [.int i0, .ref a1, .ref a2, .ref a3, .ref a4, .ref a5, .ref a6, .ref a7])), (a4, .inl (cI, 24, .inl xF3)), (a8, .inl (cI, 24, .inl xF7))] sz) [(a0, .inr (3, [.int i0, .ref a1, .ref a2, .ref a3, .ref a4, .ref a5, .ref a6, .ref a7])), (a4, .inl (cI, 24, .inl xF3)), (a8, .inl (cI, 24, .inl (u9.2.1 0)))]) (va_A [(a0, .inr (3, [.int i0, .ref a1, .ref a2, .ref a3, .ref a4, .ref a5, .ref a6, .ref a7])), (a4, .inl (cI, 24, .inl xF3)), (a8, .inl (cI, 24, .inl xF7))] sz)) 0 0 (va_A [(a0, .inr (3, [.int i0, .ref a1, .ref a2, .ref a3, .ref a4, .ref a5, .ref a6, .ref a7])), (a4, .inl (cI, 24, .inl xF3)), (a8, .inl (cI, 24, .inl xF7))] sz) := by
  refine kEnter (by decide) (Nat.le_of_ble_eq_true rfl) ?_
  intro p e s m below meth c ls hx hb hr hml hown hlocks hin hwd hsz hP hK hD hl
  subst hsz
  generalize hAe : va_A [(a0, .inr (3, [.int i0, .ref a1, .ref a2, .ref a3, .ref a4, .ref a5, .ref a6, .ref a7])), (a4, .inl (cI, 24, .inl xF3)), (a8, .inl (cI, 24, .inl xF7))] s.heap.size = A at hD ⊢
  have hA : ∀ q : Nat, s.heap.size ≤ q → A q := fun q h => by rw [← hAe]; exact Or.inr h
  have hS : va_S A s.heap s.heap [] := va_S.rf
  have hl : lv_has ls 8 [(0, .ref a0), (1, .ref a8), (2, .long y1), (4, .int p2)] := hl
  obtain ⟨Q, hQ⟩ : ∃ Q, Q = MQ below (va_Ql (fun (r : Int64) (u9 : (Nat → Int32) × (Nat → Nat → Int32) × (Nat → Nat → Int64)) => True) (fun u9 t => va_P (dC, dI) vwCl [(a0, .inr (3, [.int i0, .ref a1, .ref a2, .ref a3, .ref a4, .ref a5, .ref a6, .ref a7])), (a4, .inl (cI, 24, .inl xF3)), (a8, .inl (cI, 24, .inl (u9.2.1 0)))] t.heap ∧ va_D A [(a0, .inr (3, [.int i0, .ref a1, .ref a2, .ref a3, .ref a4, .ref a5, .ref a6, .ref a7])), (a4, .inl (cI, 24, .inl xF3)), (a8, .inl (cI, 24, .inl (u9.2.1 0)))]) A) ([.ref a0, .ref a8, .long y1, .int p2] : List Value).toArray s 0 0 A := ⟨_, rfl⟩
  rw [← hQ]
  have k0 : (0 : Int32).toInt = 0 := by decide
  have k1 : (1 : Int32).toInt = 1 := by decide
  refine lv_lload_n hx hb dX3_passYear_0 rfl (lv_at hl 2 rfl) ?_
  refine lv_lstore (lv' := [(5, .long y1), (0, .ref a0), (1, .ref a8), (2, .long y1), (4, .int p2)]) hx hb dX3_passYear_1 hl (by decide) rfl (fun ls hl => ?_)
  refine lv_iconst (v := 0) hx hb dX3_passYear_3 (by decide) ?_
  refine lv_istore (lv' := [(7, .int 0), (5, .long y1), (0, .ref a0), (1, .ref a8), (2, .long y1), (4, .int p2)]) hx hb dX3_passYear_4 hl (by decide) rfl (fun ls hl => ?_)
  have lp1 : ∀ (d : Nat), ∀ (H : Heap) (locs : List Loc) (ls : Array Slot) (w5_1 : Int64) (w7_1 : Int32) (g2_1 : Nat → Int32), ((0 : Int) ≤ w7_1.toInt ∧ w7_1.toInt ≤ 24) → (24 - w7_1.toInt).toNat < d → va_P (dC, dI) vwCl [(a0, .inr (3, [.int i0, .ref a1, .ref a2, .ref a3, .ref a4, .ref a5, .ref a6, .ref a7])), (a4, .inl (cI, 24, .inl xF3)), (a8, .inl (cI, 24, .inl g2_1))] H → va_D A [(a0, .inr (3, [.int i0, .ref a1, .ref a2, .ref a3, .ref a4, .ref a5, .ref a6, .ref a7])), (a4, .inl (cI, 24, .inl xF3)), (a8, .inl (cI, 24, .inl g2_1))] → va_S A s.heap H locs → lv_has ls 8 [(0, .ref a0), (1, .ref a8), (2, .long y1), (4, .int p2), (5, .long w5_1), (7, .int w7_1)] → W p l e ({ frames := 0, cells := 0, slots := 0, locals := 0 } : Room) s m ([.ref a0, .ref a8, .long y1, .int p2] : List Value).toArray below meth c H locs 0 0 Q (F0 m 6 ls []) := by
    intro d
    induction d with
    | zero =>
      intro H locs ls w5_1 w7_1 g2_1 hr_w7_1 hm hP hD hS hl
      omega
    | succ d ih1 =>
      intro H locs ls w5_1 w7_1 g2_1 hr_w7_1 hm hP hD hS hl
      refine lv_iload hx hb dX3_passYear_6 (lv_at hl 5 rfl) ?_
      refine lv_aload_n hx hb dX3_passYear_8 rfl (lv_at hl 0 rfl) ?_
      refine va_get (D := (dC, dI)) (ci := 3) (v := .int i0) (C := RX3) (T := TX3) (N := 8) hx hb hwd inlX3 hown hK hP 0 rfl rfl 0 (by decide) (hwd _ kr16_6) (fun _ h9 => h9) rfl dX3_passYear_9 ?_
      refine lv_icmp_ge (tgt := 76) hx hb dX3_passYear_12 (by decide) (fun c112 => ?_) (fun c112 => ?_)
      · rw [ki_le] at c112
        refine lv_lload hx hb dX3_passYear_76 (lv_at hl 4 rfl) ?_
        have hP9 := hP.sub (ws' := [(a0, .inr (3, [.int i0, .ref a1, .ref a2, .ref a3, .ref a4, .ref a5, .ref a6, .ref a7])), (a4, .inl (cI, 24, .inl xF3)), (a8, .inl (cI, 24, .inl g2_1))]) [0, 1, 2] rfl
        have hD9 := hD.sub (ws' := [(a0, .inr (3, [.int i0, .ref a1, .ref a2, .ref a3, .ref a4, .ref a5, .ref a6, .ref a7])), (a4, .inl (cI, 24, .inl xF3)), (a8, .inl (cI, 24, .inl g2_1))]) [0, 1, 2] (by decide) rfl
        rw [hQ]
        exact W.lret (v := w5_1) hx hb hr (fun t ht hW => ⟨⟨w5_1, (pickG 0 [], pickG (fun _ => 0) [g2_1], pickG (fun _ => 0) []), rfl, trivial, (by rw [ht]; exact hP9), hD9⟩, hS.F ht⟩) hS.2.2 dX3_passYear_78
      · rw [ki_le] at c112
        refine lv_ldc2 (v := 1103515245) hx hb hown (hwd _ kr63_0) dX3_passYear_15 ?_
        refine lv_lload hx hb dX3_passYear_18 (lv_at hl 4 rfl) ?_
        refine lv_lmul hx hb dX3_passYear_20 ?_
        refine lv_topl (fun x113 ex113 => ?_)
        refine lv_ldc2 (v := 12345) hx hb hown (hwd _ kr63_1) dX3_passYear_21 ?_
        refine lv_ladd hx hb dX3_passYear_24 ?_
        refine lv_topl (fun x114 ex114 => ?_)
        refine lv_ldc2 (v := 2147483647) hx hb hown (hwd _ kr63_2) dX3_passYear_25 ?_
        refine lv_land hx hb dX3_passYear_28 ?_
        refine lv_topl (fun x115 ex115 => ?_)
        refine lv_lstore (lv' := [(5, .long x115), (0, .ref a0), (1, .ref a8), (2, .long y1), (4, .int p2), (7, .int w7_1)]) hx hb dX3_passYear_29 hl (by decide) rfl (fun ls hl => ?_)
        refine lv_lload hx hb dX3_passYear_31 (lv_at hl 0 rfl) ?_
        refine lv_ldc2 (v := 65536) hx hb hown (hwd _ kr63_3) dX3_passYear_33 ?_
        refine lv_ldiv hx hb dX3_passYear_36 (by decide) ?_
        refine lv_topl (fun x116 ex116 => ?_)
        refine lv_ldc2 (v := 100) hx hb hown (hwd _ kr63_4) dX3_passYear_37 ?_
        refine lv_lrem hx hb dX3_passYear_40 (by decide) ?_
        refine lv_topl (fun x117 ex117 => ?_)
        refine lv_iload hx hb dX3_passYear_41 (lv_at hl 4 rfl) ?_
        refine lv_i2l hx hb dX3_passYear_43 rfl ?_
        refine W.lcmp hx hb dX3_passYear_44 ?_
        refine lv_if_ge (tgt := 70) hx hb dX3_passYear_45 (by decide) (fun c118 => ?_) (fun c118 => ?_)
        · clear c118
          obtain ⟨x119, ex119⟩ : ∃ y : Int32, y = w7_1 + 1 := ⟨_, rfl⟩
          refine lv_iinc (v := x119) (lv' := [(7, .int x119), (5, .long x115), (0, .ref a0), (1, .ref a8), (2, .long y1), (4, .int p2)]) hx hb dX3_passYear_70 hl (k := 5) rfl (by rw [ex119]; rfl) (by decide) rfl (fun ls hl => ?_)
          have tx119 := ia_add (a := w7_1) (b := (1 : Int32)) (by omega) (by omega)
          rw [← ex119] at tx119
          refine lv_goto (tgt := 6) hx hb dX3_passYear_73 (by decide) ?_
          exact ih1 _ _ ls x115 x119 g2_1 (show (0 : Int) ≤ x119.toInt ∧ x119.toInt ≤ 24 from ⟨by omega, by omega⟩) (by omega) (hP.sub (ws' := [(a0, .inr (3, [.int i0, .ref a1, .ref a2, .ref a3, .ref a4, .ref a5, .ref a6, .ref a7])), (a4, .inl (cI, 24, .inl xF3)), (a8, .inl (cI, 24, .inl g2_1))]) [0, 1, 2] rfl) (hD.sub (ws' := [(a0, .inr (3, [.int i0, .ref a1, .ref a2, .ref a3, .ref a4, .ref a5, .ref a6, .ref a7])), (a4, .inl (cI, 24, .inl xF3)), (a8, .inl (cI, 24, .inl g2_1))]) [0, 1, 2] (by decide) rfl) hS (lv_sub hl [2, 3, 4, 5, 1, 0] rfl)
        · clear c118
          refine lv_aload_n hx hb dX3_passYear_48 rfl (lv_at hl 2 rfl) ?_
          refine lv_iload hx hb dX3_passYear_49 (lv_at hl 5 rfl) ?_
          have h120 : vp_in w7_1 24 := (vp_of (by omega) (by omega))
          refine va_iald hx hb hK hP 2 0 rfl rfl h120 dX3_passYear_51 ?_
          refine lv_topi (fun x121 ex121 => ?_)
          refine lv_aload_n hx hb dX3_passYear_52 rfl (lv_at hl 1 rfl) ?_
          refine va_get (D := (dC, dI)) (ci := 3) (v := .ref a4) (C := RX3) (T := TX3) (N := 8) hx hb hwd inlX3 hown hK hP 0 rfl rfl 4 (by decide) (hwd _ kr5_20) (fun _ h9 => h9) rfl dX3_passYear_53 ?_
          refine lv_iload hx hb dX3_passYear_56 (lv_at hl 5 rfl) ?_
          have h122 : vp_in w7_1 24 := (vp_of (by omega) (by omega))
          refine va_iald hx hb hK hP 1 0 rfl rfl h122 dX3_passYear_58 ?_
          refine lv_topi (fun x123 ex123 => ?_)
          have tx123 : (0 : Int) ≤ x123.toInt ∧ x123.toInt ≤ 60 := by rw [ex123]; exact p_1 _ (vp_nat h122)
          refine lv_icmp_ge (tgt := 70) hx hb dX3_passYear_59 (by decide) (fun c124 => ?_) (fun c124 => ?_)
          · rw [ki_le] at c124
            obtain ⟨x125, ex125⟩ : ∃ y : Int32, y = w7_1 + 1 := ⟨_, rfl⟩
            refine lv_iinc (v := x125) (lv' := [(7, .int x125), (5, .long x115), (0, .ref a0), (1, .ref a8), (2, .long y1), (4, .int p2)]) hx hb dX3_passYear_70 hl (k := 5) rfl (by rw [ex125]; rfl) (by decide) rfl (fun ls hl => ?_)
            have tx125 := ia_add (a := w7_1) (b := (1 : Int32)) (by omega) (by omega)
            rw [← ex125] at tx125
            refine lv_goto (tgt := 6) hx hb dX3_passYear_73 (by decide) ?_
            exact ih1 _ _ ls x115 x125 g2_1 (show (0 : Int) ≤ x125.toInt ∧ x125.toInt ≤ 24 from ⟨by omega, by omega⟩) (by omega) (hP.sub (ws' := [(a0, .inr (3, [.int i0, .ref a1, .ref a2, .ref a3, .ref a4, .ref a5, .ref a6, .ref a7])), (a4, .inl (cI, 24, .inl xF3)), (a8, .inl (cI, 24, .inl g2_1))]) [0, 1, 2] rfl) (hD.sub (ws' := [(a0, .inr (3, [.int i0, .ref a1, .ref a2, .ref a3, .ref a4, .ref a5, .ref a6, .ref a7])), (a4, .inl (cI, 24, .inl xF3)), (a8, .inl (cI, 24, .inl g2_1))]) [0, 1, 2] (by decide) rfl) hS (lv_sub hl [2, 3, 4, 5, 1, 0] rfl)
          · rw [ki_le] at c124
            refine lv_aload_n hx hb dX3_passYear_62 rfl (lv_at hl 2 rfl) ?_
            refine lv_iload hx hb dX3_passYear_63 (lv_at hl 5 rfl) ?_
            refine lv_dup2_11 hx hb dX3_passYear_65 rfl rfl ?_
            have h126 : vp_in w7_1 24 := (vp_of (by omega) (by omega))
            refine va_iald hx hb hK hP 2 0 rfl rfl h126 dX3_passYear_66 ?_
            refine lv_topi (nm_r (e' := x121) ex121.symm ?_)
            refine lv_iconst (v := 1) hx hb dX3_passYear_67 (by decide) ?_
            refine lv_iadd hx hb dX3_passYear_68 ?_
            refine lv_topi (fun x127 ex127 => ?_)
            have b_b128 := i32_b x121
            have tx127 := ia_add (a := x121) (b := (1 : Int32)) (by omega) (by omega)
            rw [← ex127] at tx127
            refine va_iast hx hb hK hP hD hS 2 0 rfl rfl (vp_of (by omega) (by omega)) dX3_passYear_69 (fun H locs hP hD hS => ?_)
            obtain ⟨f129, ef129⟩ : ∃ f, f = upd g2_1 w7_1.toNatClampNeg x127 := ⟨_, rfl⟩
            have hP : va_P (dC, dI) vwCl [(a0, .inr (3, [.int i0, .ref a1, .ref a2, .ref a3, .ref a4, .ref a5, .ref a6, .ref a7])), (a4, .inl (cI, 24, .inl xF3)), (a8, .inl (cI, 24, .inl f129))] H := by rw [ef129]; exact hP
            have hD : va_D A [(a0, .inr (3, [.int i0, .ref a1, .ref a2, .ref a3, .ref a4, .ref a5, .ref a6, .ref a7])), (a4, .inl (cI, 24, .inl xF3)), (a8, .inl (cI, 24, .inl f129))] := by rw [ef129]; exact hD
            obtain ⟨x130, ex130⟩ : ∃ y : Int32, y = w7_1 + 1 := ⟨_, rfl⟩
            refine lv_iinc (v := x130) (lv' := [(7, .int x130), (5, .long x115), (0, .ref a0), (1, .ref a8), (2, .long y1), (4, .int p2)]) hx hb dX3_passYear_70 hl (k := 5) rfl (by rw [ex130]; rfl) (by decide) rfl (fun ls hl => ?_)
            have tx130 := ia_add (a := w7_1) (b := (1 : Int32)) (by omega) (by omega)
            rw [← ex130] at tx130
            refine lv_goto (tgt := 6) hx hb dX3_passYear_73 (by decide) ?_
            exact ih1 _ _ ls x115 x130 f129 (show (0 : Int) ≤ x130.toInt ∧ x130.toInt ≤ 24 from ⟨by omega, by omega⟩) (by omega) (hP.sub (ws' := [(a0, .inr (3, [.int i0, .ref a1, .ref a2, .ref a3, .ref a4, .ref a5, .ref a6, .ref a7])), (a4, .inl (cI, 24, .inl xF3)), (a8, .inl (cI, 24, .inl f129))]) [0, 1, 2] rfl) (hD.sub (ws' := [(a0, .inr (3, [.int i0, .ref a1, .ref a2, .ref a3, .ref a4, .ref a5, .ref a6, .ref a7])), (a4, .inl (cI, 24, .inl xF3)), (a8, .inl (cI, 24, .inl f129))]) [0, 1, 2] (by decide) rfl) hS (lv_sub hl [2, 3, 4, 5, 1, 0] rfl)
  exact lp1 _ _ _ ls y1 (0) xF7 (show (0 : Int) ≤ (0 : Int32).toInt ∧ (0 : Int32).toInt ≤ 24 from ⟨by omega, by omega⟩) (Nat.lt_succ_self _) (hP.sub (ws' := [(a0, .inr (3, [.int i0, .ref a1, .ref a2, .ref a3, .ref a4, .ref a5, .ref a6, .ref a7])), (a4, .inl (cI, 24, .inl xF3)), (a8, .inl (cI, 24, .inl xF7))]) [0, 1, 2] rfl) (hD.sub (ws' := [(a0, .inr (3, [.int i0, .ref a1, .ref a2, .ref a3, .ref a4, .ref a5, .ref a6, .ref a7])), (a4, .inl (cI, 24, .inl xF3)), (a8, .inl (cI, 24, .inl xF7))]) [0, 1, 2] (by decide) rfl) hS (lv_sub hl [2, 3, 4, 5, 1, 0] rfl)
