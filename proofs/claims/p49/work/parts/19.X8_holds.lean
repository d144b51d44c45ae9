theorem dX8_holds_0 : decode cX8_holds 0 = .ok (.iload_n 2, 1) := by decide +kernel
theorem dX8_holds_1 : decode cX8_holds 1 = .ok (.ifCond .lt 27, 3) := by decide +kernel
theorem dX8_holds_4 : decode cX8_holds 4 = .ok (.iload_n 3, 1) := by decide +kernel
theorem dX8_holds_5 : decode cX8_holds 5 = .ok (.ifCond .lt 23, 3) := by decide +kernel
theorem dX8_holds_8 : decode cX8_holds 8 = .ok (.iload_n 2, 1) := by decide +kernel
theorem dX8_holds_9 : decode cX8_holds 9 = .ok (.i2l, 1) := by decide +kernel
theorem dX8_holds_10 : decode cX8_holds 10 = .ok (.iload_n 3, 1) := by decide +kernel
theorem dX8_holds_11 : decode cX8_holds 11 = .ok (.i2l, 1) := by decide +kernel
theorem dX8_holds_12 : decode cX8_holds 12 = .ok (.ladd, 1) := by decide +kernel
theorem dX8_holds_13 : decode cX8_holds 13 = .ok (.aload_n 0, 1) := by decide +kernel
theorem dX8_holds_14 : decode cX8_holds 14 = .ok (.getfield 15, 3) := by decide +kernel
theorem dX8_holds_17 : decode cX8_holds 17 = .ok (.iload_n 1, 1) := by decide +kernel
theorem dX8_holds_18 : decode cX8_holds 18 = .ok (.iaload, 1) := by decide +kernel
theorem dX8_holds_19 : decode cX8_holds 19 = .ok (.i2l, 1) := by decide +kernel
theorem dX8_holds_20 : decode cX8_holds 20 = .ok (.lcmp, 1) := by decide +kernel
theorem dX8_holds_21 : decode cX8_holds 21 = .ok (.ifCond .gt 7, 3) := by decide +kernel
theorem dX8_holds_24 : decode cX8_holds 24 = .ok (.iconst 1, 1) := by decide +kernel
theorem dX8_holds_25 : decode cX8_holds 25 = .ok (.goto 4, 3) := by decide +kernel
theorem dX8_holds_28 : decode cX8_holds 28 = .ok (.iconst 0, 1) := by decide +kernel
theorem dX8_holds_29 : decode cX8_holds 29 = .ok (.ireturn, 1) := by decide +kernel
set_option maxHeartbeats 4000000 in
set_option maxRecDepth 100000 in
theorem s_X8_holds (l : Launch) (dC : Nat → ClassId) (dI : Nat → Nat → Nat) (cI cZ cB cJ cM cG : ClassId) (a0 a1 a2 a3 a4 : Nat) (xF1 : Nat → Int32) (p0 p1 p2 : Int32) (sz : Nat) (p_0 : rng xF1 4 0 60) (p_1 : (0 : Int) ≤ p0.toInt ∧ p0.toInt ≤ 3) : Met l yX8_holds (kw yX8_holds cX8_holds 4 (some .boolean)) ({ frames := 0, cells := 0, slots := 0, locals := 0 } : Room) (va_Pc [.ref a0, .int p0, .int p1, .int p2] (kPre dC dI [(cI, .int), (cZ, .boolean), (cB, .byte), (cJ, .long), (cM, .object RX2), (cG, .array .int)] [(a0, .inr (8, [.ref a1, .ref a2, .ref a3, .ref a4])), (a2, .inl (cI, 4, .inl xF1))] sz)) (va_Qi (fun (r : Int32) (u9 : Unit) => ((0 : Int) ≤ r.toInt ∧ r.toInt ≤ 1) ∧ ((r.toInt ≠ 0 → p1.toInt ≥ 0 ∧ p2.toInt ≥ 0 ∧ p1.toInt ≤ 60 ∧ p2.toInt ≤ 60 ∧ p1.toInt + p2.toInt ≤ 60)) ∧ True) (fun u9 t => va_P (dC, dI) vwCl [(a0, .inr (8, [.ref a1, .ref a2, .ref a3, .ref a4])), (a2, .inl (cI, 4, .inl xF1))] t.heap ∧ va_D (va_A [(a0, .inr (8, [.ref a1, .ref a2, .ref a3, .ref a4])), (a2, .inl (cI, 4, .inl xF1))] sz) [(a0, .inr (8, [.ref a1, .ref a2, .ref a3, .ref a4])), (a2, .inl (cI, 4, .inl xF1))]) (va_A [(a0, .inr (8, [.ref a1, .ref a2, .ref a3, .ref a4])), (a2, .inl (cI, 4, .inl xF1))] sz)) 0 0 (va_A [(a0, .inr (8, [.ref a1, .ref a2, .ref a3, .ref a4])), (a2, .inl (cI, 4, .inl xF1))] sz) := by
  refine kEnter (by decide) (Nat.le_of_ble_eq_true rfl) ?_
  intro p e s m below meth c ls hx hb hr hml hown hlocks hin hwd hsz hP hK hD hl
  subst hsz
  generalize hAe : va_A [(a0, .inr (8, [.ref a1, .ref a2, .ref a3, .ref a4])), (a2, .inl (cI, 4, .inl xF1))] s.heap.size = A at hD ⊢
  have hA : ∀ q : Nat, s.heap.size ≤ q → A q := fun q h => by rw [← hAe]; exact Or.inr h
  have hS : va_S A s.heap s.heap [] := va_S.rf
  have hl : lv_has ls 4 [(0, .ref a0), (1, .int p0), (2, .int p1), (3, .int p2)] := hl
  obtain ⟨Q, hQ⟩ : ∃ Q, Q = MQ below (va_Qi (fun (r : Int32) (u9 : Unit) => ((0 : Int) ≤ r.toInt ∧ r.toInt ≤ 1) ∧ ((r.toInt ≠ 0 → p1.toInt ≥ 0 ∧ p2.toInt ≥ 0 ∧ p1.toInt ≤ 60 ∧ p2.toInt ≤ 60 ∧ p1.toInt + p2.toInt ≤ 60)) ∧ True) (fun u9 t => va_P (dC, dI) vwCl [(a0, .inr (8, [.ref a1, .ref a2, .ref a3, .ref a4])), (a2, .inl (cI, 4, .inl xF1))] t.heap ∧ va_D A [(a0, .inr (8, [.ref a1, .ref a2, .ref a3, .ref a4])), (a2, .inl (cI, 4, .inl xF1))]) A) ([.ref a0, .int p0, .int p1, .int p2] : List Value).toArray s 0 0 A := ⟨_, rfl⟩
  rw [← hQ]
  have k0 : (0 : Int32).toInt = 0 := by decide
  have k1 : (1 : Int32).toInt = 1 := by decide
  refine lv_iload_n hx hb dX8_holds_0 rfl (lv_at hl 2 rfl) ?_
  refine lv_if_lt (tgt := 28) hx hb dX8_holds_1 (by decide) (fun c1 => ?_) (fun c1 => ?_)
  · rw [ki_lt] at c1
    refine lv_iconst (v := 0) hx hb dX8_holds_28 (by decide) ?_
    have hP9 := hP.sub (ws' := [(a0, .inr (8, [.ref a1, .ref a2, .ref a3, .ref a4])), (a2, .inl (cI, 4, .inl xF1))]) [0, 1] rfl
    have hD9 := hD.sub (ws' := [(a0, .inr (8, [.ref a1, .ref a2, .ref a3, .ref a4])), (a2, .inl (cI, 4, .inl xF1))]) [0, 1] (by decide) rfl
    rw [hQ]
    exact W.zret (v := 0) hx hb hr (by decide) (fun t ht hW => ⟨⟨0, (), rfl, ⟨(show (0 : Int) ≤ (0 : Int32).toInt ∧ (0 : Int32).toInt ≤ 1 from ⟨by omega, by omega⟩), (show ((0 : Int32).toInt ≠ 0 → p1.toInt ≥ 0 ∧ p2.toInt ≥ 0 ∧ p1.toInt ≤ 60 ∧ p2.toInt ≤ 60 ∧ p1.toInt + p2.toInt ≤ 60) from by omega), trivial⟩, (by rw [ht]; exact hP9), hD9⟩, hS.F ht⟩) hS.2.2 dX8_holds_29
  · rw [ki_lt] at c1
    refine lv_iload_n hx hb dX8_holds_4 rfl (lv_at hl 3 rfl) ?_
    refine lv_if_lt (tgt := 28) hx hb dX8_holds_5 (by decide) (fun c2 => ?_) (fun c2 => ?_)
    · rw [ki_lt] at c2
      refine lv_iconst (v := 0) hx hb dX8_holds_28 (by decide) ?_
      have hP9 := hP.sub (ws' := [(a0, .inr (8, [.ref a1, .ref a2, .ref a3, .ref a4])), (a2, .inl (cI, 4, .inl xF1))]) [0, 1] rfl
      have hD9 := hD.sub (ws' := [(a0, .inr (8, [.ref a1, .ref a2, .ref a3, .ref a4])), (a2, .inl (cI, 4, .inl xF1))]) [0, 1] (by decide) rfl
      rw [hQ]
      exact W.zret (v := 0) hx hb hr (by decide) (fun t ht hW => ⟨⟨0, (), rfl, ⟨(show (0 : Int) ≤ (0 : Int32).toInt ∧ (0 : Int32).toInt ≤ 1 from ⟨by omega, by omega⟩), (show ((0 : Int32).toInt ≠ 0 → p1.toInt ≥ 0 ∧ p2.toInt ≥ 0 ∧ p1.toInt ≤ 60 ∧ p2.toInt ≤ 60 ∧ p1.toInt + p2.toInt ≤ 60) from by omega), trivial⟩, (by rw [ht]; exact hP9), hD9⟩, hS.F ht⟩) hS.2.2 dX8_holds_29
    · rw [ki_lt] at c2
      refine lv_iload_n hx hb dX8_holds_8 rfl (lv_at hl 2 rfl) ?_
      refine lv_i2l hx hb dX8_holds_9 rfl ?_
      refine lv_iload_n hx hb dX8_holds_10 rfl (lv_at hl 3 rfl) ?_
      refine lv_i2l hx hb dX8_holds_11 rfl ?_
      refine lv_ladd hx hb dX8_holds_12 ?_
      refine lv_topl (fun x3 ex3 => ?_)
      refine lv_aload_n hx hb dX8_holds_13 rfl (lv_at hl 0 rfl) ?_
      refine va_get (D := (dC, dI)) (ci := 8) (v := .ref a2) (C := RX8) (T := TX8) (N := 4) hx hb hwd inlX8 hown hK hP 0 rfl rfl 1 (by decide) (hwd _ kr9_21) (fun _ h9 => h9) rfl dX8_holds_14 ?_
      refine lv_iload_n hx hb dX8_holds_17 rfl (lv_at hl 1 rfl) ?_
      have h4 : vp_in p0 4 := (vp_of (by omega) (by omega))
      refine va_iald hx hb hK hP 1 0 rfl rfl h4 dX8_holds_18 ?_
      refine lv_topi (fun x5 ex5 => ?_)
      have tx5 : (0 : Int) ≤ x5.toInt ∧ x5.toInt ≤ 60 := by rw [ex5]; exact p_0 _ (vp_nat h4)
      refine lv_i2l hx hb dX8_holds_19 rfl ?_
      refine W.lcmp hx hb dX8_holds_20 ?_
      refine lv_if_gt (tgt := 28) hx hb dX8_holds_21 (by decide) (fun c6 => ?_) (fun c6 => ?_)
      · rw [hl_gt ex3] at c6
        refine lv_iconst (v := 0) hx hb dX8_holds_28 (by decide) ?_
        have hP9 := hP.sub (ws' := [(a0, .inr (8, [.ref a1, .ref a2, .ref a3, .ref a4])), (a2, .inl (cI, 4, .inl xF1))]) [0, 1] rfl
        have hD9 := hD.sub (ws' := [(a0, .inr (8, [.ref a1, .ref a2, .ref a3, .ref a4])), (a2, .inl (cI, 4, .inl xF1))]) [0, 1] (by decide) rfl
        rw [hQ]
        exact W.zret (v := 0) hx hb hr (by decide) (fun t ht hW => ⟨⟨0, (), rfl, ⟨(show (0 : Int) ≤ (0 : Int32).toInt ∧ (0 : Int32).toInt ≤ 1 from ⟨by omega, by omega⟩), (show ((0 : Int32).toInt ≠ 0 → p1.toInt ≥ 0 ∧ p2.toInt ≥ 0 ∧ p1.toInt ≤ 60 ∧ p2.toInt ≤ 60 ∧ p1.toInt + p2.toInt ≤ 60) from by omega), trivial⟩, (by rw [ht]; exact hP9), hD9⟩, hS.F ht⟩) hS.2.2 dX8_holds_29
      · rw [hl_gt ex3] at c6
        refine lv_iconst (v := 1) hx hb dX8_holds_24 (by decide) ?_
        refine lv_goto (tgt := 29) hx hb dX8_holds_25 (by decide) ?_
        have hP9 := hP.sub (ws' := [(a0, .inr (8, [.ref a1, .ref a2, .ref a3, .ref a4])), (a2, .inl (cI, 4, .inl xF1))]) [0, 1] rfl
        have hD9 := hD.sub (ws' := [(a0, .inr (8, [.ref a1, .ref a2, .ref a3, .ref a4])), (a2, .inl (cI, 4, .inl xF1))]) [0, 1] (by decide) rfl
        rw [hQ]
        exact W.zret (v := 1) hx hb hr (by decide) (fun t ht hW => ⟨⟨1, (), rfl, ⟨(show (0 : Int) ≤ (1 : Int32).toInt ∧ (1 : Int32).toInt ≤ 1 from ⟨by omega, by omega⟩), (show ((1 : Int32).toInt ≠ 0 → p1.toInt ≥ 0 ∧ p2.toInt ≥ 0 ∧ p1.toInt ≤ 60 ∧ p2.toInt ≤ 60 ∧ p1.toInt + p2.toInt ≤ 60) from by omega), trivial⟩, (by rw [ht]; exact hP9), hD9⟩, hS.F ht⟩) hS.2.2 dX8_holds_29
theorem dX8_copyNumbers_0 : decode cX8_copyNumbers 0 = .ok (.aload_n 0, 1) := by decide +kernel
theorem dX8_copyNumbers_1 : decode cX8_copyNumbers 1 = .ok (.getfield 22, 3) := by decide +kernel
theorem dX8_copyNumbers_4 : decode cX8_copyNumbers 4 = .ok (.iload_n 1, 1) := by decide +kernel
theorem dX8_copyNumbers_5 : decode cX8_copyNumbers 5 = .ok (.bipush 60, 2) := by decide +kernel
theorem dX8_copyNumbers_7 : decode cX8_copyNumbers 7 = .ok (.imul, 1) := by decide +kernel
theorem dX8_copyNumbers_8 : decode cX8_copyNumbers 8 = .ok (.iload_n 2, 1) := by decide +kernel
theorem dX8_copyNumbers_9 : decode cX8_copyNumbers 9 = .ok (.iadd, 1) := by decide +kernel
theorem dX8_copyNumbers_10 : decode cX8_copyNumbers 10 = .ok (.aload_n 0, 1) := by decide +kernel
theorem dX8_copyNumbers_11 : decode cX8_copyNumbers 11 = .ok (.getfield 22, 3) := by decide +kernel
theorem dX8_copyNumbers_14 : decode cX8_copyNumbers 14 = .ok (.iload_n 3, 1) := by decide +kernel
theorem dX8_copyNumbers_15 : decode cX8_copyNumbers 15 = .ok (.bipush 60, 2) := by decide +kernel
theorem dX8_copyNumbers_17 : decode cX8_copyNumbers 17 = .ok (.imul, 1) := by decide +kernel
theorem dX8_copyNumbers_18 : decode cX8_copyNumbers 18 = .ok (.iload 4, 2) := by decide +kernel
theorem dX8_copyNumbers_20 : decode cX8_copyNumbers 20 = .ok (.iadd, 1) := by decide +kernel
theorem dX8_copyNumbers_21 : decode cX8_copyNumbers 21 = .ok (.iload 5, 2) := by decide +kernel
theorem dX8_copyNumbers_23 : decode cX8_copyNumbers 23 = .ok (.invokestatic 30, 3) := by decide +kernel
theorem dX8_copyNumbers_26 : decode cX8_copyNumbers 26 = .ok (.return_, 1) := by decide +kernel
set_option maxHeartbeats 4000000 in
set_option maxRecDepth 100000 in
theorem s_X8_copyNumbers (l : Launch) (dC : Nat → ClassId) (dI : Nat → Nat → Nat) (cI cZ cB cJ cM cG : ClassId) (a0 a1 a2 a3 a4 : Nat) (xG3 : Nat → Int64) (p0 p1 p2 p3 p4 : Int32) (sz : Nat) (p_0 : p1.toInt + p4.toInt ≤ 60 ∧ p3.toInt + p4.toInt ≤ 60) (p_1 : (0 : Int) ≤ p0.toInt ∧ p0.toInt ≤ 3) (p_2 : (0 : Int) ≤ p1.toInt ∧ p1.toInt ≤ 60) (p_3 : (0 : Int) ≤ p2.toInt ∧ p2.toInt ≤ 3) (p_4 : (0 : Int) ≤ p3.toInt ∧ p3.toInt ≤ 60) (p_5 : (0 : Int) ≤ p4.toInt ∧ p4.toInt ≤ 60) : Met l yX8_copyNumbers (kw yX8_copyNumbers cX8_copyNumbers 6 none) ({ frames := 1, cells := 0, slots := 0, locals := 64 } : Room) (va_Pc [.ref a0, .int p0, .int p1, .int p2, .int p3, .int p4] (kPre dC dI [(cI, .int), (cZ, .boolean), (cB, .byte), (cJ, .long), (cM, .object RX2), (cG, .array .int)] [(a0, .inr (8, [.ref a1, .ref a2, .ref a3, .ref a4])), (a4, .inl (cJ, 240, .inr (.inl xG3)))] sz)) (va_Qv (fun (u9 : (Nat → Int32) × (Nat → Nat → Int32) × (Nat → Nat → Int64)) => True) (fun u9 t => va_P (dC, dI) vwCl [(a0, .inr (8, [.ref a1, .ref a2, .ref a3, .ref a4])), (a4, .inl (cJ, 240, .inr (.inl (u9.2.2 0))))] t.heap ∧ va_D (va_A [(a0, .inr (8, [.ref a1, .ref a2, .ref a3, .ref a4])), (a4, .inl (cJ, 240, .inr (.inl xG3)))] sz) [(a0, .inr (8, [.ref a1, .ref a2, .ref a3, .ref a4])), (a4, .inl (cJ, 240, .inr (.inl (u9.2.2 0))))]) (va_A [(a0, .inr (8, [.ref a1, .ref a2, .ref a3, .ref a4])), (a4, .inl (cJ, 240, .inr (.inl xG3)))] sz)) 0 0 (va_A [(a0, .inr (8, [.ref a1, .ref a2, .ref a3, .ref a4])), (a4, .inl (cJ, 240, .inr (.inl xG3)))] sz) := by
  refine kEnter (by decide) (Nat.le_of_ble_eq_true rfl) ?_
  intro p e s m below meth c ls hx hb hr hml hown hlocks hin hwd hsz hP hK hD hl
  subst hsz
  generalize hAe : va_A [(a0, .inr (8, [.ref a1, .ref a2, .ref a3, .ref a4])), (a4, .inl (cJ, 240, .inr (.inl xG3)))] s.heap.size = A at hD ⊢
  have hA : ∀ q : Nat, s.heap.size ≤ q → A q := fun q h => by rw [← hAe]; exact Or.inr h
  have hS : va_S A s.heap s.heap [] := va_S.rf
  have hl : lv_has ls 6 [(0, .ref a0), (1, .int p0), (2, .int p1), (3, .int p2), (4, .int p3), (5, .int p4)] := hl
  obtain ⟨Q, hQ⟩ : ∃ Q, Q = MQ below (va_Qv (fun (u9 : (Nat → Int32) × (Nat → Nat → Int32) × (Nat → Nat → Int64)) => True) (fun u9 t => va_P (dC, dI) vwCl [(a0, .inr (8, [.ref a1, .ref a2, .ref a3, .ref a4])), (a4, .inl (cJ, 240, .inr (.inl (u9.2.2 0))))] t.heap ∧ va_D A [(a0, .inr (8, [.ref a1, .ref a2, .ref a3, .ref a4])), (a4, .inl (cJ, 240, .inr (.inl (u9.2.2 0))))]) A) ([.ref a0, .int p0, .int p1, .int p2, .int p3, .int p4] : List Value).toArray s 0 0 A := ⟨_, rfl⟩
  rw [← hQ]
  have k0 : (0 : Int32).toInt = 0 := by decide
  have k60 : (60 : Int32).toInt = 60 := by decide
  refine lv_aload_n hx hb dX8_copyNumbers_0 rfl (lv_at hl 0 rfl) ?_
  refine va_get (D := (dC, dI)) (ci := 8) (v := .ref a4) (C := RX8) (T := TX8) (N := 4) hx hb hwd inlX8 hown hK hP 0 rfl rfl 3 (by decide) (hwd _ kr10_0) (fun _ h9 => h9) rfl dX8_copyNumbers_1 ?_
  refine lv_iload_n hx hb dX8_copyNumbers_4 rfl (lv_at hl 1 rfl) ?_
  refine lv_bipush (v := 60) hx hb dX8_copyNumbers_5 (by decide) ?_
  refine lv_imul hx hb dX8_copyNumbers_7 ?_
  refine lv_topi (fun x1 ex1 => ?_)
  have tx1 := ia_mulr (a := p0) (b := (60 : Int32)) 60 (by decide) (by omega) (by omega)
  rw [← ex1] at tx1
  refine lv_iload_n hx hb dX8_copyNumbers_8 rfl (lv_at hl 2 rfl) ?_
  refine lv_iadd hx hb dX8_copyNumbers_9 ?_
  refine lv_topi (fun x2 ex2 => ?_)
  have tx2 := ia_add (a := x1) (b := p1) (by omega) (by omega)
  rw [← ex2] at tx2
  refine lv_aload_n hx hb dX8_copyNumbers_10 rfl (lv_at hl 0 rfl) ?_
  refine va_get (D := (dC, dI)) (ci := 8) (v := .ref a4) (C := RX8) (T := TX8) (N := 4) hx hb hwd inlX8 hown hK hP 0 rfl rfl 3 (by decide) (hwd _ kr10_0) (fun _ h9 => h9) rfl dX8_copyNumbers_11 ?_
  refine lv_iload_n hx hb dX8_copyNumbers_14 rfl (lv_at hl 3 rfl) ?_
  refine lv_bipush (v := 60) hx hb dX8_copyNumbers_15 (by decide) ?_
  refine lv_imul hx hb dX8_copyNumbers_17 ?_
  refine lv_topi (fun x3 ex3 => ?_)
  have tx3 := ia_mulr (a := p2) (b := (60 : Int32)) 60 (by decide) (by omega) (by omega)
  rw [← ex3] at tx3
  refine lv_iload hx hb dX8_copyNumbers_18 (lv_at hl 4 rfl) ?_
  refine lv_iadd hx hb dX8_copyNumbers_20 ?_
  refine lv_topi (fun x4 ex4 => ?_)
  have tx4 := ia_add (a := x3) (b := p3) (by omega) (by omega)
  rw [← ex4] at tx4
  refine lv_iload hx hb dX8_copyNumbers_21 (lv_at hl 5 rfl) ?_
  refine va_copyl hx hb (by rw [hml]; exact hl.1.symm) hown (hwd _ kr48_16) (hwd _ kr27_6) (hwd _ kr27_5) (hwd _ kr6_6) hK hP hD hS 1 1 3 3 rfl rfl rfl rfl rfl (fun h9 => by rw [ki_lt] at h9; omega) (fun h9 => by rw [ki_lt] at h9; omega) (fun h9 => by rw [ki_lt] at h9; omega) (cn_le (by omega) (by omega) (by omega)) (cn_le (by omega) (by omega) (by omega)) (fun _ _ => rfl) (Nat.le_of_ble_eq_true rfl) (Nat.le_of_ble_eq_true rfl) dX8_copyNumbers_23 (fun H locs hP hD hS => ?_)
  obtain ⟨f5, ef5⟩ : ∃ f : Nat → Int64, f = va_cpy xG3 xG3 x2.toNatClampNeg x4.toNatClampNeg p4.toNatClampNeg := ⟨_, rfl⟩
  replace hP : va_P (dC, dI) vwCl [(a0, .inr (8, [.ref a1, .ref a2, .ref a3, .ref a4])), (a4, .inl (cJ, 240, .inr (.inl f5)))] H := by rw [ef5]; exact hP
  replace hD : va_D A [(a0, .inr (8, [.ref a1, .ref a2, .ref a3, .ref a4])), (a4, .inl (cJ, 240, .inr (.inl f5)))] := by rw [ef5]; exact hD
  have hP9 := hP.sub (ws' := [(a0, .inr (8, [.ref a1, .ref a2, .ref a3, .ref a4])), (a4, .inl (cJ, 240, .inr (.inl f5)))]) [0, 1] rfl
  have hD9 := hD.sub (ws' := [(a0, .inr (8, [.ref a1, .ref a2, .ref a3, .ref a4])), (a4, .inl (cJ, 240, .inr (.inl f5)))]) [0, 1] (by decide) rfl
  rw [hQ]
  exact W.vret hx hb hr (fun t ht hW => ⟨⟨(pickG 0 [], pickG (fun _ => 0) [], pickG (fun _ => 0) [f5]), rfl, trivial, (by rw [ht]; exact hP9), hD9⟩, hS.F ht⟩) hS.2.2 dX8_copyNumbers_26
theorem dX6_findsRoom_0 : decode cX6_findsRoom 0 = .ok (.iload_n 1, 1) := by decide +kernel
theorem dX6_findsRoom_1 : decode cX6_findsRoom 1 = .ok (.aload_n 0, 1) := by decide +kernel
theorem dX6_findsRoom_2 : decode cX6_findsRoom 2 = .ok (.getfield 19, 3) := by decide +kernel
theorem dX6_findsRoom_5 : decode cX6_findsRoom 5 = .ok (.if_icmp .ge 9, 3) := by decide +kernel
theorem dX6_findsRoom_14 : decode cX6_findsRoom 14 = .ok (.iconst 1, 1) := by decide +kernel
theorem dX6_findsRoom_15 : decode cX6_findsRoom 15 = .ok (.ireturn, 1) := by decide +kernel
set_option maxHeartbeats 4000000 in
set_option maxRecDepth 100000 in
theorem s_X6_findsRoom_8 (l : Launch) (dC : Nat → ClassId) (dI : Nat → Nat → Nat) (cI cZ cB cJ cM cG : ClassId) (a0 a1 a2 a3 : Nat) (i0 : Int32) (p1 p2 p3 p4 : Int32) (sz : Nat) (p_0 : (0 : Int) ≤ i0.toInt ∧ i0.toInt ≤ 8) (p_1 : (8 : Int) ≤ p1.toInt ∧ p1.toInt ≤ 8) : Met l yX6_findsRoom (kw yX6_findsRoom cX6_findsRoom 6 (some .boolean)) ({ frames := 0, cells := 0, slots := 0, locals := 0 } : Room) (va_Pc [.ref a0, .int p1, .int p2, .int p3, .int p4] (kPre dC dI [(cI, .int), (cZ, .boolean), (cB, .byte), (cJ, .long), (cM, .object RX2), (cG, .array .int)] [(a0, .inr (6, [.int i0, .ref a1, .ref a2, .ref a3]))] sz)) (va_Qi (fun (r : Int32) (u9 : Unit) => ((1 : Int) ≤ r.toInt ∧ r.toInt ≤ 1) ∧ True) (fun u9 t => va_P (dC, dI) vwCl [(a0, .inr (6, [.int i0, .ref a1, .ref a2, .ref a3]))] t.heap ∧ va_D (va_A [(a0, .inr (6, [.int i0, .ref a1, .ref a2, .ref a3]))] sz) [(a0, .inr (6, [.int i0, .ref a1, .ref a2, .ref a3]))]) (va_A [(a0, .inr (6, [.int i0, .ref a1, .ref a2, .ref a3]))] sz)) 0 0 (va_A [(a0, .inr (6, [.int i0, .ref a1, .ref a2, .ref a3]))] sz) := by
  refine kEnter (by decide) (Nat.le_of_ble_eq_true rfl) ?_
  intro p e s m below meth c ls hx hb hr hml hown hlocks hin hwd hsz hP hK hD hl
  subst hsz
  generalize hAe : va_A [(a0, .inr (6, [.int i0, .ref a1, .ref a2, .ref a3]))] s.heap.size = A at hD ⊢
  have hA : ∀ q : Nat, s.heap.size ≤ q → A q := fun q h => by rw [← hAe]; exact Or.inr h
  have hS : va_S A s.heap s.heap [] := va_S.rf
  have hl : lv_has ls 6 [(0, .ref a0), (1, .int p1), (2, .int p2), (3, .int p3), (4, .int p4)] := hl
  obtain ⟨Q, hQ⟩ : ∃ Q, Q = MQ below (va_Qi (fun (r : Int32) (u9 : Unit) => ((1 : Int) ≤ r.toInt ∧ r.toInt ≤ 1) ∧ True) (fun u9 t => va_P (dC, dI) vwCl [(a0, .inr (6, [.int i0, .ref a1, .ref a2, .ref a3]))] t.heap ∧ va_D A [(a0, .inr (6, [.int i0, .ref a1, .ref a2, .ref a3]))]) A) ([.ref a0, .int p1, .int p2, .int p3, .int p4] : List Value).toArray s 0 0 A := ⟨_, rfl⟩
  rw [← hQ]
  have k1 : (1 : Int32).toInt = 1 := by decide
  refine lv_iload_n hx hb dX6_findsRoom_0 rfl (lv_at hl 1 rfl) ?_
  refine lv_aload_n hx hb dX6_findsRoom_1 rfl (lv_at hl 0 rfl) ?_
  refine va_get (D := (dC, dI)) (ci := 6) (v := .int i0) (C := RX6) (T := TX6) (N := 4) hx hb hwd inlX6 hown hK hP 0 rfl rfl 0 (by decide) (hwd _ kr10_8) (fun _ h9 => h9) rfl dX6_findsRoom_2 ?_
  refine lv_icmp_ge (tgt := 14) hx hb dX6_findsRoom_5 (by decide) (fun c1 => ?_) (fun c1 => ?_)
  · rw [ki_le] at c1
    refine lv_iconst (v := 1) hx hb dX6_findsRoom_14 (by decide) ?_
    have hP9 := hP.sub (ws' := [(a0, .inr (6, [.int i0, .ref a1, .ref a2, .ref a3]))]) [0] rfl
    have hD9 := hD.sub (ws' := [(a0, .inr (6, [.int i0, .ref a1, .ref a2, .ref a3]))]) [0] (by decide) rfl
    rw [hQ]
    exact W.zret (v := 1) hx hb hr (by decide) (fun t ht hW => ⟨⟨1, (), rfl, ⟨(show (1 : Int) ≤ (1 : Int32).toInt ∧ (1 : Int32).toInt ≤ 1 from ⟨by omega, by omega⟩), trivial⟩, (by rw [ht]; exact hP9), hD9⟩, hS.F ht⟩) hS.2.2 dX6_findsRoom_15
  · rw [ki_le] at c1
    exfalso
    omega
theorem dX6_findsRoom_8 : decode cX6_findsRoom 8 = .ok (.iload_n 1, 1) := by decide +kernel
theorem dX6_findsRoom_9 : decode cX6_findsRoom 9 = .ok (.bipush 8, 2) := by decide +kernel
theorem dX6_findsRoom_11 : decode cX6_findsRoom 11 = .ok (.if_icmp .lt 5, 3) := by decide +kernel
theorem dX6_findsRoom_16 : decode cX6_findsRoom 16 = .ok (.iconst 0, 1) := by decide +kernel
theorem dX6_findsRoom_17 : decode cX6_findsRoom 17 = .ok (.istore 5, 2) := by decide +kernel
theorem dX6_findsRoom_19 : decode cX6_findsRoom 19 = .ok (.iload 5, 2) := by decide +kernel
theorem dX6_findsRoom_21 : decode cX6_findsRoom 21 = .ok (.iload_n 2, 1) := by decide +kernel
theorem dX6_findsRoom_22 : decode cX6_findsRoom 22 = .ok (.if_icmp .gt 109, 3) := by decide +kernel
theorem dX6_findsRoom_25 : decode cX6_findsRoom 25 = .ok (.iload 5, 2) := by decide +kernel
theorem dX6_findsRoom_27 : decode cX6_findsRoom 27 = .ok (.iload_n 3, 1) := by decide +kernel
theorem dX6_findsRoom_28 : decode cX6_findsRoom 28 = .ok (.if_icmp .ge 103, 3) := by decide +kernel
theorem dX6_findsRoom_31 : decode cX6_findsRoom 31 = .ok (.iload 5, 2) := by decide +kernel
theorem dX6_findsRoom_33 : decode cX6_findsRoom 33 = .ok (.bipush 8, 2) := by decide +kernel
theorem dX6_findsRoom_35 : decode cX6_findsRoom 35 = .ok (.if_icmp .ge 96, 3) := by decide +kernel
theorem dX6_findsRoom_38 : decode cX6_findsRoom 38 = .ok (.aload_n 0, 1) := by decide +kernel
theorem dX6_findsRoom_39 : decode cX6_findsRoom 39 = .ok (.getfield 16, 3) := by decide +kernel
theorem dX6_findsRoom_42 : decode cX6_findsRoom 42 = .ok (.iload 5, 2) := by decide +kernel
theorem dX6_findsRoom_44 : decode cX6_findsRoom 44 = .ok (.iaload, 1) := by decide +kernel
theorem dX6_findsRoom_45 : decode cX6_findsRoom 45 = .ok (.aload_n 0, 1) := by decide +kernel
theorem dX6_findsRoom_46 : decode cX6_findsRoom 46 = .ok (.getfield 9, 3) := by decide +kernel
theorem dX6_findsRoom_49 : decode cX6_findsRoom 49 = .ok (.iload_n 1, 1) := by decide +kernel
theorem dX6_findsRoom_50 : decode cX6_findsRoom 50 = .ok (.iaload, 1) := by decide +kernel
theorem dX6_findsRoom_51 : decode cX6_findsRoom 51 = .ok (.iadd, 1) := by decide +kernel
theorem dX6_findsRoom_52 : decode cX6_findsRoom 52 = .ok (.iload 4, 2) := by decide +kernel
theorem dX6_findsRoom_54 : decode cX6_findsRoom 54 = .ok (.if_icmp .gt 71, 3) := by decide +kernel
theorem dX6_findsRoom_57 : decode cX6_findsRoom 57 = .ok (.aload_n 0, 1) := by decide +kernel
theorem dX6_findsRoom_58 : decode cX6_findsRoom 58 = .ok (.getfield 16, 3) := by decide +kernel
theorem dX6_findsRoom_61 : decode cX6_findsRoom 61 = .ok (.iload 5, 2) := by decide +kernel
theorem dX6_findsRoom_63 : decode cX6_findsRoom 63 = .ok (.dup2, 1) := by decide +kernel
theorem dX6_findsRoom_64 : decode cX6_findsRoom 64 = .ok (.iaload, 1) := by decide +kernel
theorem dX6_findsRoom_65 : decode cX6_findsRoom 65 = .ok (.aload_n 0, 1) := by decide +kernel
theorem dX6_findsRoom_66 : decode cX6_findsRoom 66 = .ok (.getfield 9, 3) := by decide +kernel
theorem dX6_findsRoom_69 : decode cX6_findsRoom 69 = .ok (.iload_n 1, 1) := by decide +kernel
theorem dX6_findsRoom_70 : decode cX6_findsRoom 70 = .ok (.iaload, 1) := by decide +kernel
theorem dX6_findsRoom_71 : decode cX6_findsRoom 71 = .ok (.iadd, 1) := by decide +kernel
theorem dX6_findsRoom_72 : decode cX6_findsRoom 72 = .ok (.iastore, 1) := by decide +kernel
theorem dX6_findsRoom_73 : decode cX6_findsRoom 73 = .ok (.aload_n 0, 1) := by decide +kernel
theorem dX6_findsRoom_74 : decode cX6_findsRoom 74 = .ok (.getfield 13, 3) := by decide +kernel
theorem dX6_findsRoom_77 : decode cX6_findsRoom 77 = .ok (.iload_n 1, 1) := by decide +kernel
theorem dX6_findsRoom_78 : decode cX6_findsRoom 78 = .ok (.iload 5, 2) := by decide +kernel
theorem dX6_findsRoom_80 : decode cX6_findsRoom 80 = .ok (.iastore, 1) := by decide +kernel
theorem dX6_findsRoom_81 : decode cX6_findsRoom 81 = .ok (.aload_n 0, 1) := by decide +kernel
theorem dX6_findsRoom_82 : decode cX6_findsRoom 82 = .ok (.iload_n 1, 1) := by decide +kernel
theorem dX6_findsRoom_83 : decode cX6_findsRoom 83 = .ok (.iconst 1, 1) := by decide +kernel
theorem dX6_findsRoom_84 : decode cX6_findsRoom 84 = .ok (.iadd, 1) := by decide +kernel
theorem dX6_findsRoom_85 : decode cX6_findsRoom 85 = .ok (.iload 5, 2) := by decide +kernel
theorem dX6_findsRoom_87 : decode cX6_findsRoom 87 = .ok (.iload_n 2, 1) := by decide +kernel
theorem dX6_findsRoom_88 : decode cX6_findsRoom 88 = .ok (.if_icmp .ne 9, 3) := by decide +kernel
theorem dX6_findsRoom_91 : decode cX6_findsRoom 91 = .ok (.iload_n 2, 1) := by decide +kernel
theorem dX6_findsRoom_92 : decode cX6_findsRoom 92 = .ok (.iconst 1, 1) := by decide +kernel
theorem dX6_findsRoom_93 : decode cX6_findsRoom 93 = .ok (.iadd, 1) := by decide +kernel
theorem dX6_findsRoom_94 : decode cX6_findsRoom 94 = .ok (.goto 4, 3) := by decide +kernel
theorem dX6_findsRoom_97 : decode cX6_findsRoom 97 = .ok (.iload_n 2, 1) := by decide +kernel
theorem dX6_findsRoom_98 : decode cX6_findsRoom 98 = .ok (.iload_n 3, 1) := by decide +kernel
theorem dX6_findsRoom_99 : decode cX6_findsRoom 99 = .ok (.iload 4, 2) := by decide +kernel
theorem dX6_findsRoom_101 : decode cX6_findsRoom 101 = .ok (.invokestatic 26, 3) := by decide +kernel
theorem dX6_findsRoom_104 : decode cX6_findsRoom 104 = .ok (.ifCond .eq 5, 3) := by decide +kernel
theorem dX6_findsRoom_107 : decode cX6_findsRoom 107 = .ok (.iconst 1, 1) := by decide +kernel
theorem dX6_findsRoom_108 : decode cX6_findsRoom 108 = .ok (.ireturn, 1) := by decide +kernel
theorem dX6_findsRoom_125 : decode cX6_findsRoom 125 = .ok (.iinc 5 1, 3) := by decide +kernel
theorem dX6_findsRoom_128 : decode cX6_findsRoom 128 = .ok (.goto (-109), 3) := by decide +kernel
theorem dX6_findsRoom_131 : decode cX6_findsRoom 131 = .ok (.iconst 0, 1) := by decide +kernel
theorem dX6_findsRoom_132 : decode cX6_findsRoom 132 = .ok (.ireturn, 1) := by decide +kernel
set_option maxHeartbeats 4000000 in
set_option maxRecDepth 100000 in
theorem s_X6_findsRoom_7 (l : Launch) (dC : Nat → ClassId) (dI : Nat → Nat → Nat) (cI cZ cB cJ cM cG : ClassId) (a0 a1 a2 a3 : Nat) (i0 : Int32) (xF0 xF1 xF2 : Nat → Int32) (p1 p2 p3 p4 : Int32) (sz : Nat) (p_0 : (0 : Int) ≤ i0.toInt ∧ i0.toInt ≤ 8) (p_1 : (7 : Int) ≤ p1.toInt ∧ p1.toInt ≤ 8) : Met l yX6_findsRoom (kw yX6_findsRoom cX6_findsRoom 6 (some .boolean)) ({ frames := 1, cells := 0, slots := 0, locals := 25 } : Room) (va_Pc [.ref a0, .int p1, .int p2, .int p3, .int p4] (kPre dC dI [(cI, .int), (cZ, .boolean), (cB, .byte), (cJ, .long), (cM, .object RX2), (cG, .array .int)] [(a0, .inr (6, [.int i0, .ref a1, .ref a2, .ref a3])), (a1, .inl (cI, 8, .inl xF0)), (a2, .inl (cI, 8, .inl xF1)), (a3, .inl (cI, 8, .inl xF2))] sz)) (va_Qi (fun (r : Int32) (u9 : (Nat → Int32) × (Nat → Nat → Int32) × (Nat → Nat → Int64)) => ((0 : Int) ≤ r.toInt ∧ r.toInt ≤ 1) ∧ True) (fun u9 t => va_P (dC, dI) vwCl [(a0, .inr (6, [.int i0, .ref a1, .ref a2, .ref a3])), (a1, .inl (cI, 8, .inl xF0)), (a2, .inl (cI, 8, .inl (u9.2.1 0))), (a3, .inl (cI, 8, .inl (u9.2.1 1)))] t.heap ∧ va_D (va_A [(a0, .inr (6, [.int i0, .ref a1, .ref a2, .ref a3])), (a1, .inl (cI, 8, .inl xF0)), (a2, .inl (cI, 8, .inl xF1)), (a3, .inl (cI, 8, .inl xF2))] sz) [(a0, .inr (6, [.int i0, .ref a1, .ref a2, .ref a3])), (a1, .inl (cI, 8, .inl xF0)), (a2, .inl (cI, 8, .inl (u9.2.1 0))), (a3, .inl (cI, 8, .inl (u9.2.1 1)))]) (va_A [(a0, .inr (6, [.int i0, .ref a1, .ref a2, .ref a3])), (a1, .inl (cI, 8, .inl xF0)), (a2, .inl (cI, 8, .inl xF1)), (a3, .inl (cI, 8, .inl xF2))] sz)) 0 0 (va_A [(a0, .inr (6, [.int i0, .ref a1, .ref a2, .ref a3])), (a1, .inl (cI, 8, .inl xF0)), (a2, .inl (cI, 8, .inl xF1)), (a3, .inl (cI, 8, .inl xF2))] sz) := by
  refine kEnter (by decide) (Nat.le_of_ble_eq_true rfl) ?_
  intro p e s m below meth c ls hx hb hr hml hown hlocks hin hwd hsz hP hK hD hl
  subst hsz
  generalize hAe : va_A [(a0, .inr (6, [.int i0, .ref a1, .ref a2, .ref a3])), (a1, .inl (cI, 8, .inl xF0)), (a2, .inl (cI, 8, .inl xF1)), (a3, .inl (cI, 8, .inl xF2))] s.heap.size = A at hD ⊢
  have hA : ∀ q : Nat, s.heap.size ≤ q → A q := fun q h => by rw [← hAe]; exact Or.inr h
  have hS : va_S A s.heap s.heap [] := va_S.rf
  have hl : lv_has ls 6 [(0, .ref a0), (1, .int p1), (2, .int p2), (3, .int p3), (4, .int p4)] := hl
  obtain ⟨Q, hQ⟩ : ∃ Q, Q = MQ below (va_Qi (fun (r : Int32) (u9 : (Nat → Int32) × (Nat → Nat → Int32) × (Nat → Nat → Int64)) => ((0 : Int) ≤ r.toInt ∧ r.toInt ≤ 1) ∧ True) (fun u9 t => va_P (dC, dI) vwCl [(a0, .inr (6, [.int i0, .ref a1, .ref a2, .ref a3])), (a1, .inl (cI, 8, .inl xF0)), (a2, .inl (cI, 8, .inl (u9.2.1 0))), (a3, .inl (cI, 8, .inl (u9.2.1 1)))] t.heap ∧ va_D A [(a0, .inr (6, [.int i0, .ref a1, .ref a2, .ref a3])), (a1, .inl (cI, 8, .inl xF0)), (a2, .inl (cI, 8, .inl (u9.2.1 0))), (a3, .inl (cI, 8, .inl (u9.2.1 1)))]) A) ([.ref a0, .int p1, .int p2, .int p3, .int p4] : List Value).toArray s 0 0 A := ⟨_, rfl⟩
  rw [← hQ]
  have k0 : (0 : Int32).toInt = 0 := by decide
  have k1 : (1 : Int32).toInt = 1 := by decide
  have k8 : (8 : Int32).toInt = 8 := by decide
  refine lv_iload_n hx hb dX6_findsRoom_0 rfl (lv_at hl 1 rfl) ?_
  refine lv_aload_n hx hb dX6_findsRoom_1 rfl (lv_at hl 0 rfl) ?_
  refine va_get (D := (dC, dI)) (ci := 6) (v := .int i0) (C := RX6) (T := TX6) (N := 4) hx hb hwd inlX6 hown hK hP 0 rfl rfl 0 (by decide) (hwd _ kr10_8) (fun _ h9 => h9) rfl dX6_findsRoom_2 ?_
  refine lv_icmp_ge (tgt := 14) hx hb dX6_findsRoom_5 (by decide) (fun c1 => ?_) (fun c1 => ?_)
  · rw [ki_le] at c1
    refine lv_iconst (v := 1) hx hb dX6_findsRoom_14 (by decide) ?_
    have hP9 := hP.sub (ws' := [(a0, .inr (6, [.int i0, .ref a1, .ref a2, .ref a3])), (a1, .inl (cI, 8, .inl xF0)), (a2, .inl (cI, 8, .inl xF1)), (a3, .inl (cI, 8, .inl xF2))]) [0, 1, 2, 3] rfl
    have hD9 := hD.sub (ws' := [(a0, .inr (6, [.int i0, .ref a1, .ref a2, .ref a3])), (a1, .inl (cI, 8, .inl xF0)), (a2, .inl (cI, 8, .inl xF1)), (a3, .inl (cI, 8, .inl xF2))]) [0, 1, 2, 3] (by decide) rfl
    rw [hQ]
    exact W.zret (v := 1) hx hb hr (by decide) (fun t ht hW => ⟨⟨1, (pickG 0 [], pickG (fun _ => 0) [xF1, xF2], pickG (fun _ => 0) []), rfl, ⟨(show (0 : Int) ≤ (1 : Int32).toInt ∧ (1 : Int32).toInt ≤ 1 from ⟨by omega, by omega⟩), trivial⟩, (by rw [ht]; exact hP9), hD9⟩, hS.F ht⟩) hS.2.2 dX6_findsRoom_15
  · rw [ki_le] at c1
    refine lv_iload_n hx hb dX6_findsRoom_8 rfl (lv_at hl 1 rfl) ?_
    refine lv_bipush (v := 8) hx hb dX6_findsRoom_9 (by decide) ?_
    refine lv_icmp_lt (tgt := 16) hx hb dX6_findsRoom_11 (by decide) (fun c2 => ?_) (fun c2 => ?_)
    · rw [ki_lt] at c2
      refine lv_iconst (v := 0) hx hb dX6_findsRoom_16 (by decide) ?_
      refine lv_istore (lv' := [(5, .int 0), (0, .ref a0), (1, .int p1), (2, .int p2), (3, .int p3), (4, .int p4)]) hx hb dX6_findsRoom_17 hl (by decide) rfl (fun ls hl => ?_)
      have lp1 : ∀ (d : Nat), ∀ (H : Heap) (locs : List Loc) (ls : Array Slot) (w5_1 : Int32), ((0 : Int) ≤ w5_1.toInt ∧ w5_1.toInt ≤ 8) → (8 - w5_1.toInt).toNat < d → va_P (dC, dI) vwCl [(a0, .inr (6, [.int i0, .ref a1, .ref a2, .ref a3])), (a1, .inl (cI, 8, .inl xF0)), (a2, .inl (cI, 8, .inl xF1)), (a3, .inl (cI, 8, .inl xF2))] H → va_D A [(a0, .inr (6, [.int i0, .ref a1, .ref a2, .ref a3])), (a1, .inl (cI, 8, .inl xF0)), (a2, .inl (cI, 8, .inl xF1)), (a3, .inl (cI, 8, .inl xF2))] → va_S A s.heap H locs → lv_has ls 6 [(0, .ref a0), (1, .int p1), (2, .int p2), (3, .int p3), (4, .int p4), (5, .int w5_1)] → W p l e ({ frames := 1, cells := 0, slots := 0, locals := 25 } : Room) s m ([.ref a0, .int p1, .int p2, .int p3, .int p4] : List Value).toArray below meth c H locs 0 0 Q (F0 m 19 ls []) := by
        intro d
        induction d with
        | zero =>
          intro H locs ls w5_1 hr_w5_1 hm hP hD hS hl
          omega
        | succ d ih1 =>
          intro H locs ls w5_1 hr_w5_1 hm hP hD hS hl
          refine lv_iload hx hb dX6_findsRoom_19 (lv_at hl 5 rfl) ?_
          refine lv_iload_n hx hb dX6_findsRoom_21 rfl (lv_at hl 2 rfl) ?_
          refine lv_icmp_gt (tgt := 131) hx hb dX6_findsRoom_22 (by decide) (fun c112 => ?_) (fun c112 => ?_)
          · rw [ki_lt] at c112
            refine lv_iconst (v := 0) hx hb dX6_findsRoom_131 (by decide) ?_
            have hP9 := hP.sub (ws' := [(a0, .inr (6, [.int i0, .ref a1, .ref a2, .ref a3])), (a1, .inl (cI, 8, .inl xF0)), (a2, .inl (cI, 8, .inl xF1)), (a3, .inl (cI, 8, .inl xF2))]) [0, 1, 2, 3] rfl
            have hD9 := hD.sub (ws' := [(a0, .inr (6, [.int i0, .ref a1, .ref a2, .ref a3])), (a1, .inl (cI, 8, .inl xF0)), (a2, .inl (cI, 8, .inl xF1)), (a3, .inl (cI, 8, .inl xF2))]) [0, 1, 2, 3] (by decide) rfl
            rw [hQ]
            exact W.zret (v := 0) hx hb hr (by decide) (fun t ht hW => ⟨⟨0, (pickG 0 [], pickG (fun _ => 0) [xF1, xF2], pickG (fun _ => 0) []), rfl, ⟨(show (0 : Int) ≤ (0 : Int32).toInt ∧ (0 : Int32).toInt ≤ 1 from ⟨by omega, by omega⟩), trivial⟩, (by rw [ht]; exact hP9), hD9⟩, hS.F ht⟩) hS.2.2 dX6_findsRoom_132
          · rw [ki_lt] at c112
            refine lv_iload hx hb dX6_findsRoom_25 (lv_at hl 5 rfl) ?_
            refine lv_iload_n hx hb dX6_findsRoom_27 rfl (lv_at hl 3 rfl) ?_
            refine lv_icmp_ge (tgt := 131) hx hb dX6_findsRoom_28 (by decide) (fun c113 => ?_) (fun c113 => ?_)
            · rw [ki_le] at c113
              refine lv_iconst (v := 0) hx hb dX6_findsRoom_131 (by decide) ?_
              have hP9 := hP.sub (ws' := [(a0, .inr (6, [.int i0, .ref a1, .ref a2, .ref a3])), (a1, .inl (cI, 8, .inl xF0)), (a2, .inl (cI, 8, .inl xF1)), (a3, .inl (cI, 8, .inl xF2))]) [0, 1, 2, 3] rfl
              have hD9 := hD.sub (ws' := [(a0, .inr (6, [.int i0, .ref a1, .ref a2, .ref a3])), (a1, .inl (cI, 8, .inl xF0)), (a2, .inl (cI, 8, .inl xF1)), (a3, .inl (cI, 8, .inl xF2))]) [0, 1, 2, 3] (by decide) rfl
              rw [hQ]
              exact W.zret (v := 0) hx hb hr (by decide) (fun t ht hW => ⟨⟨0, (pickG 0 [], pickG (fun _ => 0) [xF1, xF2], pickG (fun _ => 0) []), rfl, ⟨(show (0 : Int) ≤ (0 : Int32).toInt ∧ (0 : Int32).toInt ≤ 1 from ⟨by omega, by omega⟩), trivial⟩, (by rw [ht]; exact hP9), hD9⟩, hS.F ht⟩) hS.2.2 dX6_findsRoom_132
            · rw [ki_le] at c113
              refine lv_iload hx hb dX6_findsRoom_31 (lv_at hl 5 rfl) ?_
              refine lv_bipush (v := 8) hx hb dX6_findsRoom_33 (by decide) ?_
              refine lv_icmp_ge (tgt := 131) hx hb dX6_findsRoom_35 (by decide) (fun c114 => ?_) (fun c114 => ?_)
              · rw [ki_le] at c114
                refine lv_iconst (v := 0) hx hb dX6_findsRoom_131 (by decide) ?_
                have hP9 := hP.sub (ws' := [(a0, .inr (6, [.int i0, .ref a1, .ref a2, .ref a3])), (a1, .inl (cI, 8, .inl xF0)), (a2, .inl (cI, 8, .inl xF1)), (a3, .inl (cI, 8, .inl xF2))]) [0, 1, 2, 3] rfl
                have hD9 := hD.sub (ws' := [(a0, .inr (6, [.int i0, .ref a1, .ref a2, .ref a3])), (a1, .inl (cI, 8, .inl xF0)), (a2, .inl (cI, 8, .inl xF1)), (a3, .inl (cI, 8, .inl xF2))]) [0, 1, 2, 3] (by decide) rfl
                rw [hQ]
                exact W.zret (v := 0) hx hb hr (by decide) (fun t ht hW => ⟨⟨0, (pickG 0 [], pickG (fun _ => 0) [xF1, xF2], pickG (fun _ => 0) []), rfl, ⟨(show (0 : Int) ≤ (0 : Int32).toInt ∧ (0 : Int32).toInt ≤ 1 from ⟨by omega, by omega⟩), trivial⟩, (by rw [ht]; exact hP9), hD9⟩, hS.F ht⟩) hS.2.2 dX6_findsRoom_132
              · rw [ki_le] at c114
                refine lv_aload_n hx hb dX6_findsRoom_38 rfl (lv_at hl 0 rfl) ?_
                refine va_get (D := (dC, dI)) (ci := 6) (v := .ref a3) (C := RX6) (T := TX6) (N := 4) hx hb hwd inlX6 hown hK hP 0 rfl rfl 3 (by decide) (hwd _ kr10_14) (fun _ h9 => h9) rfl dX6_findsRoom_39 ?_
                refine lv_iload hx hb dX6_findsRoom_42 (lv_at hl 5 rfl) ?_
                have h115 : vp_in w5_1 8 := (vp_of (by omega) (by omega))
                refine va_iald hx hb hK hP 3 0 rfl rfl h115 dX6_findsRoom_44 ?_
                refine lv_topi (fun x116 ex116 => ?_)
                refine lv_aload_n hx hb dX6_findsRoom_45 rfl (lv_at hl 0 rfl) ?_
                refine va_get (D := (dC, dI)) (ci := 6) (v := .ref a1) (C := RX6) (T := TX6) (N := 4) hx hb hwd inlX6 hown hK hP 0 rfl rfl 1 (by decide) (hwd _ kr10_10) (fun _ h9 => h9) rfl dX6_findsRoom_46 ?_
                refine lv_iload_n hx hb dX6_findsRoom_49 rfl (lv_at hl 1 rfl) ?_
                have h117 : vp_in p1 8 := (vp_of (by omega) (by omega))
                refine va_iald hx hb hK hP 1 0 rfl rfl h117 dX6_findsRoom_50 ?_
                refine lv_topi (fun x118 ex118 => ?_)
                refine lv_iadd hx hb dX6_findsRoom_51 ?_
                refine lv_topi (fun x119 ex119 => ?_)
                refine lv_iload hx hb dX6_findsRoom_52 (lv_at hl 4 rfl) ?_
                refine lv_icmp_gt (tgt := 125) hx hb dX6_findsRoom_54 (by decide) (fun c120 => ?_) (fun c120 => ?_)
                · rw [ki_lt] at c120
                  obtain ⟨x121, ex121⟩ : ∃ y : Int32, y = w5_1 + 1 := ⟨_, rfl⟩
                  refine lv_iinc (v := x121) (lv' := [(5, .int x121), (0, .ref a0), (1, .int p1), (2, .int p2), (3, .int p3), (4, .int p4)]) hx hb dX6_findsRoom_125 hl (k := 5) rfl (by rw [ex121]; rfl) (by decide) rfl (fun ls hl => ?_)
                  have tx121 := ia_add (a := w5_1) (b := (1 : Int32)) (by omega) (by omega)
                  rw [← ex121] at tx121
                  refine lv_goto (tgt := 19) hx hb dX6_findsRoom_128 (by decide) ?_
                  exact ih1 _ _ ls x121 (show (0 : Int) ≤ x121.toInt ∧ x121.toInt ≤ 8 from ⟨by omega, by omega⟩) (by omega) (hP.sub (ws' := [(a0, .inr (6, [.int i0, .ref a1, .ref a2, .ref a3])), (a1, .inl (cI, 8, .inl xF0)), (a2, .inl (cI, 8, .inl xF1)), (a3, .inl (cI, 8, .inl xF2))]) [0, 1, 2, 3] rfl) (hD.sub (ws' := [(a0, .inr (6, [.int i0, .ref a1, .ref a2, .ref a3])), (a1, .inl (cI, 8, .inl xF0)), (a2, .inl (cI, 8, .inl xF1)), (a3, .inl (cI, 8, .inl xF2))]) [0, 1, 2, 3] (by decide) rfl) hS (lv_sub hl [1, 2, 3, 4, 5, 0] rfl)
                · rw [ki_lt] at c120
                  refine lv_aload_n hx hb dX6_findsRoom_57 rfl (lv_at hl 0 rfl) ?_
                  refine va_get (D := (dC, dI)) (ci := 6) (v := .ref a3) (C := RX6) (T := TX6) (N := 4) hx hb hwd inlX6 hown hK hP 0 rfl rfl 3 (by decide) (hwd _ kr10_14) (fun _ h9 => h9) rfl dX6_findsRoom_58 ?_
                  refine lv_iload hx hb dX6_findsRoom_61 (lv_at hl 5 rfl) ?_
                  refine lv_dup2_11 hx hb dX6_findsRoom_63 rfl rfl ?_
                  have h122 : vp_in w5_1 8 := (vp_of (by omega) (by omega))
                  refine va_iald hx hb hK hP 3 0 rfl rfl h122 dX6_findsRoom_64 ?_
                  refine lv_topi (nm_r (e' := x116) ex116.symm ?_)
                  refine lv_aload_n hx hb dX6_findsRoom_65 rfl (lv_at hl 0 rfl) ?_
                  refine va_get (D := (dC, dI)) (ci := 6) (v := .ref a1) (C := RX6) (T := TX6) (N := 4) hx hb hwd inlX6 hown hK hP 0 rfl rfl 1 (by decide) (hwd _ kr10_10) (fun _ h9 => h9) rfl dX6_findsRoom_66 ?_
                  refine lv_iload_n hx hb dX6_findsRoom_69 rfl (lv_at hl 1 rfl) ?_
                  have h123 : vp_in p1 8 := (vp_of (by omega) (by omega))
                  refine va_iald hx hb hK hP 1 0 rfl rfl h123 dX6_findsRoom_70 ?_
                  refine lv_topi (nm_r (e' := x118) ex118.symm ?_)
                  refine lv_iadd hx hb dX6_findsRoom_71 ?_
                  refine lv_topi (fun x124 ex124 => ?_)
                  refine va_iast hx hb hK hP hD hS 3 0 rfl rfl (vp_of (by omega) (by omega)) dX6_findsRoom_72 (fun H locs hP hD hS => ?_)
                  obtain ⟨f125, ef125⟩ : ∃ f, f = upd xF2 w5_1.toNatClampNeg x124 := ⟨_, rfl⟩
                  replace hP : va_P (dC, dI) vwCl [(a0, .inr (6, [.int i0, .ref a1, .ref a2, .ref a3])), (a1, .inl (cI, 8, .inl xF0)), (a2, .inl (cI, 8, .inl xF1)), (a3, .inl (cI, 8, .inl f125))] H := by rw [ef125]; exact hP
                  replace hD : va_D A [(a0, .inr (6, [.int i0, .ref a1, .ref a2, .ref a3])), (a1, .inl (cI, 8, .inl xF0)), (a2, .inl (cI, 8, .inl xF1)), (a3, .inl (cI, 8, .inl f125))] := by rw [ef125]; exact hD
                  refine lv_aload_n hx hb dX6_findsRoom_73 rfl (lv_at hl 0 rfl) ?_
                  refine va_get (D := (dC, dI)) (ci := 6) (v := .ref a2) (C := RX6) (T := TX6) (N := 4) hx hb hwd inlX6 hown hK hP 0 rfl rfl 2 (by decide) (hwd _ kr10_12) (fun _ h9 => h9) rfl dX6_findsRoom_74 ?_
                  refine lv_iload_n hx hb dX6_findsRoom_77 rfl (lv_at hl 1 rfl) ?_
                  refine lv_iload hx hb dX6_findsRoom_78 (lv_at hl 5 rfl) ?_
                  refine va_iast hx hb hK hP hD hS 2 0 rfl rfl (vp_of (by omega) (by omega)) dX6_findsRoom_80 (fun H locs hP hD hS => ?_)
                  obtain ⟨f126, ef126⟩ : ∃ f, f = upd xF1 p1.toNatClampNeg w5_1 := ⟨_, rfl⟩
                  replace hP : va_P (dC, dI) vwCl [(a0, .inr (6, [.int i0, .ref a1, .ref a2, .ref a3])), (a1, .inl (cI, 8, .inl xF0)), (a2, .inl (cI, 8, .inl f126)), (a3, .inl (cI, 8, .inl f125))] H := by rw [ef126]; exact hP
                  replace hD : va_D A [(a0, .inr (6, [.int i0, .ref a1, .ref a2, .ref a3])), (a1, .inl (cI, 8, .inl xF0)), (a2, .inl (cI, 8, .inl f126)), (a3, .inl (cI, 8, .inl f125))] := by rw [ef126]; exact hD
                  refine lv_aload_n hx hb dX6_findsRoom_81 rfl (lv_at hl 0 rfl) ?_
                  refine lv_iload_n hx hb dX6_findsRoom_82 rfl (lv_at hl 1 rfl) ?_
                  refine lv_iconst (v := 1) hx hb dX6_findsRoom_83 (by decide) ?_
                  refine lv_iadd hx hb dX6_findsRoom_84 ?_
                  refine lv_topi (fun x127 ex127 => ?_)
                  have tx127 := ia_add (a := p1) (b := (1 : Int32)) (by omega) (by omega)
                  rw [← ex127] at tx127
                  refine lv_iload hx hb dX6_findsRoom_85 (lv_at hl 5 rfl) ?_
                  refine lv_iload_n hx hb dX6_findsRoom_87 rfl (lv_at hl 2 rfl) ?_
                  have jp7 : ∀ (H : Heap) (locs : List Loc) (ls : Array Slot) (z2_7 : Int32), ((0 : Int) ≤ z2_7.toInt ∧ z2_7.toInt ≤ 2147483647) → va_P (dC, dI) vwCl [(a0, .inr (6, [.int i0, .ref a1, .ref a2, .ref a3])), (a1, .inl (cI, 8, .inl xF0)), (a2, .inl (cI, 8, .inl f126)), (a3, .inl (cI, 8, .inl f125))] H → va_D A [(a0, .inr (6, [.int i0, .ref a1, .ref a2, .ref a3])), (a1, .inl (cI, 8, .inl xF0)), (a2, .inl (cI, 8, .inl f126)), (a3, .inl (cI, 8, .inl f125))] → va_S A s.heap H locs → lv_has ls 6 [(0, .ref a0), (1, .int p1), (2, .int p2), (3, .int p3), (4, .int p4), (5, .int w5_1)] → W p l e ({ frames := 1, cells := 0, slots := 0, locals := 25 } : Room) s m ([.ref a0, .int p1, .int p2, .int p3, .int p4] : List Value).toArray below meth c H locs 0 0 Q (F0 m 98 ls [.int z2_7, .int x127, .ref a0]) := by
                    intro H locs ls z2_7 hr_z2_7 hP hD hS hl
                    refine lv_iload_n hx hb dX6_findsRoom_98 rfl (lv_at hl 3 rfl) ?_
                    refine lv_iload hx hb dX6_findsRoom_99 (lv_at hl 4 rfl) ?_
                    have hPc := hP.sub (ws' := [(a0, .inr (6, [.int i0, .ref a1, .ref a2, .ref a3]))]) [0] rfl
                    have hDc := hD.sub (ws' := [(a0, .inr (6, [.int i0, .ref a1, .ref a2, .ref a3]))]) [0] (by decide) rfl
                    have hFc := va_free (wc := [(a0, .inr (6, [.int i0, .ref a1, .ref a2, .ref a3]))]) hD hS hA [0] rfl
                    refine va_calli (va_runS (As := [.ref a0, .int x127, .int z2_7, .int p3, .int p4]) (rest := []) ⟨hx, hb, hml, hown, hwd⟩ (s_X6_findsRoom_8 l dC dI cI cZ cB cJ cM cG a0 a1 a2 a3 i0 x127 z2_7 p3 p4 H.size (show (0 : Int) ≤ i0.toInt ∧ i0.toInt ≤ 8 from p_0) (show (8 : Int) ≤ x127.toInt ∧ x127.toInt ≤ 8 from ⟨by omega, by omega⟩)) (cwS 5 hwd (gS kr41_6 kr41_7 kr5_17 kr41_8) rfl rfl rfl (by decide +kernel) ⟨Nat.le_of_ble_eq_true rfl, Nat.le_of_ble_eq_true rfl⟩) (kPreS hPc hK hDc) rfl rfl hl.1 rfl (lv_room (Nat.le_of_ble_eq_true rfl)) dX6_findsRoom_101 ⟨Nat.le_of_ble_eq_true rfl, Nat.le_of_ble_eq_true rfl⟩) hS (fun q _ h => hFc q h) hFc (fun r134 u135 t H1 locs ht9 hvm hw hB hz1 hk1 hS => ?_)
                    obtain ⟨hw136, -⟩ := hw
                    replace hw136 : (1 : Int) ≤ r134.toInt ∧ r134.toInt ≤ 1 := hw136
                    obtain ⟨hP1, hD1⟩ := hB
                    rw [ht9] at hP1
                    obtain ⟨hP, hD⟩ := va_join (wr := [(a1, .inl (cI, 8, .inl xF0)), (a2, .inl (cI, 8, .inl f126)), (a3, .inl (cI, 8, .inl f125))]) (w1 := [(a0, .inr (6, [.int i0, .ref a1, .ref a2, .ref a3]))]) hP hD [0] [1, 2, 3] rfl rfl (by decide) (by decide) hk1 hFc hP1 hD1
                    generalize H1 = H at hP hS ⊢
                    replace hP : va_P (dC, dI) vwCl [(a1, .inl (cI, 8, .inl xF0)), (a2, .inl (cI, 8, .inl f126)), (a3, .inl (cI, 8, .inl f125)), (a0, .inr (6, [.int i0, .ref a1, .ref a2, .ref a3]))] H := hP
                    replace hD : va_D A [(a1, .inl (cI, 8, .inl xF0)), (a2, .inl (cI, 8, .inl f126)), (a3, .inl (cI, 8, .inl f125)), (a0, .inr (6, [.int i0, .ref a1, .ref a2, .ref a3]))] := hD
                    have er134 : r134 = 1 := (ki_eq _ _).mpr (by omega)
                    subst er134
                    refine lv_if_eq (tgt := 109) hx hb dX6_findsRoom_104 (by decide) (fun c137 => absurd c137 (by decide)) (fun c137 => ?_)
                    refine lv_iconst (v := 1) hx hb dX6_findsRoom_107 (by decide) ?_
                    have hP9 := hP.sub (ws' := [(a0, .inr (6, [.int i0, .ref a1, .ref a2, .ref a3])), (a1, .inl (cI, 8, .inl xF0)), (a2, .inl (cI, 8, .inl f126)), (a3, .inl (cI, 8, .inl f125))]) [3, 0, 1, 2] rfl
                    have hD9 := hD.sub (ws' := [(a0, .inr (6, [.int i0, .ref a1, .ref a2, .ref a3])), (a1, .inl (cI, 8, .inl xF0)), (a2, .inl (cI, 8, .inl f126)), (a3, .inl (cI, 8, .inl f125))]) [3, 0, 1, 2] (by decide) rfl
                    rw [hQ]
                    exact W.zret (v := 1) hx hb hr (by decide) (fun t ht hW => ⟨⟨1, (pickG 0 [], pickG (fun _ => 0) [f126, f125], pickG (fun _ => 0) []), rfl, ⟨(show (0 : Int) ≤ (1 : Int32).toInt ∧ (1 : Int32).toInt ≤ 1 from ⟨by omega, by omega⟩), trivial⟩, (by rw [ht]; exact hP9), hD9⟩, hS.F ht⟩) hS.2.2 dX6_findsRoom_108
                  refine lv_icmp_ne (tgt := 97) hx hb dX6_findsRoom_88 (by decide) (fun c138 => ?_) (fun c138 => ?_)
                  · rw [ki_eq] at c138
                    refine lv_iload_n hx hb dX6_findsRoom_97 rfl (lv_at hl 2 rfl) ?_
                    exact jp7 _ _ ls p2 (show (0 : Int) ≤ p2.toInt ∧ p2.toInt ≤ 2147483647 from ⟨by omega, i32_hi⟩) (hP.sub (ws' := [(a0, .inr (6, [.int i0, .ref a1, .ref a2, .ref a3])), (a1, .inl (cI, 8, .inl xF0)), (a2, .inl (cI, 8, .inl f126)), (a3, .inl (cI, 8, .inl f125))]) [0, 1, 2, 3] rfl) (hD.sub (ws' := [(a0, .inr (6, [.int i0, .ref a1, .ref a2, .ref a3])), (a1, .inl (cI, 8, .inl xF0)), (a2, .inl (cI, 8, .inl f126)), (a3, .inl (cI, 8, .inl f125))]) [0, 1, 2, 3] (by decide) rfl) hS (lv_sub hl [0, 1, 2, 3, 4, 5] rfl)
                  · rw [ki_eq] at c138
                    refine lv_iload_n hx hb dX6_findsRoom_91 rfl (lv_at hl 2 rfl) ?_
                    refine lv_iconst (v := 1) hx hb dX6_findsRoom_92 (by decide) ?_
                    refine lv_iadd hx hb dX6_findsRoom_93 ?_
                    refine lv_topi (fun x139 ex139 => ?_)
                    have tx139 := ia_add (a := p2) (b := (1 : Int32)) (by omega) (by omega)
                    rw [← ex139] at tx139
                    refine lv_goto (tgt := 98) hx hb dX6_findsRoom_94 (by decide) ?_
                    exact jp7 _ _ ls x139 (show (0 : Int) ≤ x139.toInt ∧ x139.toInt ≤ 2147483647 from ⟨by omega, i32_hi⟩) (hP.sub (ws' := [(a0, .inr (6, [.int i0, .ref a1, .ref a2, .ref a3])), (a1, .inl (cI, 8, .inl xF0)), (a2, .inl (cI, 8, .inl f126)), (a3, .inl (cI, 8, .inl f125))]) [0, 1, 2, 3] rfl) (hD.sub (ws' := [(a0, .inr (6, [.int i0, .ref a1, .ref a2, .ref a3])), (a1, .inl (cI, 8, .inl xF0)), (a2, .inl (cI, 8, .inl f126)), (a3, .inl (cI, 8, .inl f125))]) [0, 1, 2, 3] (by decide) rfl) hS (lv_sub hl [0, 1, 2, 3, 4, 5] rfl)
      exact lp1 _ _ _ ls (0) (show (0 : Int) ≤ (0 : Int32).toInt ∧ (0 : Int32).toInt ≤ 8 from ⟨by omega, by omega⟩) (Nat.lt_succ_self _) (hP.sub (ws' := [(a0, .inr (6, [.int i0, .ref a1, .ref a2, .ref a3])), (a1, .inl (cI, 8, .inl xF0)), (a2, .inl (cI, 8, .inl xF1)), (a3, .inl (cI, 8, .inl xF2))]) [0, 1, 2, 3] rfl) (hD.sub (ws' := [(a0, .inr (6, [.int i0, .ref a1, .ref a2, .ref a3])), (a1, .inl (cI, 8, .inl xF0)), (a2, .inl (cI, 8, .inl xF1)), (a3, .inl (cI, 8, .inl xF2))]) [0, 1, 2, 3] (by decide) rfl) hS (lv_sub hl [1, 2, 3, 4, 5, 0] rfl)
    · rw [ki_lt] at c2
      exfalso
      omega
theorem dX6_findsRoom_109 : decode cX6_findsRoom 109 = .ok (.aload_n 0, 1) := by decide +kernel
theorem dX6_findsRoom_110 : decode cX6_findsRoom 110 = .ok (.getfield 16, 3) := by decide +kernel
theorem dX6_findsRoom_113 : decode cX6_findsRoom 113 = .ok (.iload 5, 2) := by decide +kernel
theorem dX6_findsRoom_115 : decode cX6_findsRoom 115 = .ok (.dup2, 1) := by decide +kernel
theorem dX6_findsRoom_116 : decode cX6_findsRoom 116 = .ok (.iaload, 1) := by decide +kernel
theorem dX6_findsRoom_117 : decode cX6_findsRoom 117 = .ok (.aload_n 0, 1) := by decide +kernel
theorem dX6_findsRoom_118 : decode cX6_findsRoom 118 = .ok (.getfield 9, 3) := by decide +kernel
theorem dX6_findsRoom_121 : decode cX6_findsRoom 121 = .ok (.iload_n 1, 1) := by decide +kernel
theorem dX6_findsRoom_122 : decode cX6_findsRoom 122 = .ok (.iaload, 1) := by decide +kernel
theorem dX6_findsRoom_123 : decode cX6_findsRoom 123 = .ok (.isub, 1) := by decide +kernel
theorem dX6_findsRoom_124 : decode cX6_findsRoom 124 = .ok (.iastore, 1) := by decide +kernel
set_option maxHeartbeats 4000000 in
set_option maxRecDepth 100000 in
theorem s_X6_findsRoom_6 (l : Launch) (dC : Nat → ClassId) (dI : Nat → Nat → Nat) (cI cZ cB cJ cM cG : ClassId) (a0 a1 a2 a3 : Nat) (i0 : Int32) (xF0 xF1 xF2 : Nat → Int32) (p1 p2 p3 p4 : Int32) (sz : Nat) (p_0 : (0 : Int) ≤ i0.toInt ∧ i0.toInt ≤ 8) (p_1 : (6 : Int) ≤ p1.toInt ∧ p1.toInt ≤ 8) : Met l yX6_findsRoom (kw yX6_findsRoom cX6_findsRoom 6 (some .boolean)) ({ frames := 2, cells := 0, slots := 0, locals := 50 } : Room) (va_Pc [.ref a0, .int p1, .int p2, .int p3, .int p4] (kPre dC dI [(cI, .int), (cZ, .boolean), (cB, .byte), (cJ, .long), (cM, .object RX2), (cG, .array .int)] [(a0, .inr (6, [.int i0, .ref a1, .ref a2, .ref a3])), (a1, .inl (cI, 8, .inl xF0)), (a2, .inl (cI, 8, .inl xF1)), (a3, .inl (cI, 8, .inl xF2))] sz)) (va_Qi (fun (r : Int32) (u9 : (Nat → Int32) × (Nat → Nat → Int32) × (Nat → Nat → Int64)) => ((0 : Int) ≤ r.toInt ∧ r.toInt ≤ 1) ∧ True) (fun u9 t => va_P (dC, dI) vwCl [(a0, .inr (6, [.int i0, .ref a1, .ref a2, .ref a3])), (a1, .inl (cI, 8, .inl xF0)), (a2, .inl (cI, 8, .inl (u9.2.1 0))), (a3, .inl (cI, 8, .inl (u9.2.1 1)))] t.heap ∧ va_D (va_A [(a0, .inr (6, [.int i0, .ref a1, .ref a2, .ref a3])), (a1, .inl (cI, 8, .inl xF0)), (a2, .inl (cI, 8, .inl xF1)), (a3, .inl (cI, 8, .inl xF2))] sz) [(a0, .inr (6, [.int i0, .ref a1, .ref a2, .ref a3])), (a1, .inl (cI, 8, .inl xF0)), (a2, .inl (cI, 8, .inl (u9.2.1 0))), (a3, .inl (cI, 8, .inl (u9.2.1 1)))]) (va_A [(a0, .inr (6, [.int i0, .ref a1, .ref a2, .ref a3])), (a1, .inl (cI, 8, .inl xF0)), (a2, .inl (cI, 8, .inl xF1)), (a3, .inl (cI, 8, .inl xF2))] sz)) 0 0 (va_A [(a0, .inr (6, [.int i0, .ref a1, .ref a2, .ref a3])), (a1, .inl (cI, 8, .inl xF0)), (a2, .inl (cI, 8, .inl xF1)), (a3, .inl (cI, 8, .inl xF2))] sz) := by
  refine kEnter (by decide) (Nat.le_of_ble_eq_true rfl) ?_
  intro p e s m below meth c ls hx hb hr hml hown hlocks hin hwd hsz hP hK hD hl
  subst hsz
  generalize hAe : va_A [(a0, .inr (6, [.int i0, .ref a1, .ref a2, .ref a3])), (a1, .inl (cI, 8, .inl xF0)), (a2, .inl (cI, 8, .inl xF1)), (a3, .inl (cI, 8, .inl xF2))] s.heap.size = A at hD ⊢
  have hA : ∀ q : Nat, s.heap.size ≤ q → A q := fun q h => by rw [← hAe]; exact Or.inr h
  have hS : va_S A s.heap s.heap [] := va_S.rf
  have hl : lv_has ls 6 [(0, .ref a0), (1, .int p1), (2, .int p2), (3, .int p3), (4, .int p4)] := hl
  obtain ⟨Q, hQ⟩ : ∃ Q, Q = MQ below (va_Qi (fun (r : Int32) (u9 : (Nat → Int32) × (Nat → Nat → Int32) × (Nat → Nat → Int64)) => ((0 : Int) ≤ r.toInt ∧ r.toInt ≤ 1) ∧ True) (fun u9 t => va_P (dC, dI) vwCl [(a0, .inr (6, [.int i0, .ref a1, .ref a2, .ref a3])), (a1, .inl (cI, 8, .inl xF0)), (a2, .inl (cI, 8, .inl (u9.2.1 0))), (a3, .inl (cI, 8, .inl (u9.2.1 1)))] t.heap ∧ va_D A [(a0, .inr (6, [.int i0, .ref a1, .ref a2, .ref a3])), (a1, .inl (cI, 8, .inl xF0)), (a2, .inl (cI, 8, .inl (u9.2.1 0))), (a3, .inl (cI, 8, .inl (u9.2.1 1)))]) A) ([.ref a0, .int p1, .int p2, .int p3, .int p4] : List Value).toArray s 0 0 A := ⟨_, rfl⟩
  rw [← hQ]
  have k0 : (0 : Int32).toInt = 0 := by decide
  have k1 : (1 : Int32).toInt = 1 := by decide
  have k8 : (8 : Int32).toInt = 8 := by decide
  refine lv_iload_n hx hb dX6_findsRoom_0 rfl (lv_at hl 1 rfl) ?_
  refine lv_aload_n hx hb dX6_findsRoom_1 rfl (lv_at hl 0 rfl) ?_
  refine va_get (D := (dC, dI)) (ci := 6) (v := .int i0) (C := RX6) (T := TX6) (N := 4) hx hb hwd inlX6 hown hK hP 0 rfl rfl 0 (by decide) (hwd _ kr10_8) (fun _ h9 => h9) rfl dX6_findsRoom_2 ?_
  refine lv_icmp_ge (tgt := 14) hx hb dX6_findsRoom_5 (by decide) (fun c1 => ?_) (fun c1 => ?_)
  · rw [ki_le] at c1
    refine lv_iconst (v := 1) hx hb dX6_findsRoom_14 (by decide) ?_
    have hP9 := hP.sub (ws' := [(a0, .inr (6, [.int i0, .ref a1, .ref a2, .ref a3])), (a1, .inl (cI, 8, .inl xF0)), (a2, .inl (cI, 8, .inl xF1)), (a3, .inl (cI, 8, .inl xF2))]) [0, 1, 2, 3] rfl
    have hD9 := hD.sub (ws' := [(a0, .inr (6, [.int i0, .ref a1, .ref a2, .ref a3])), (a1, .inl (cI, 8, .inl xF0)), (a2, .inl (cI, 8, .inl xF1)), (a3, .inl (cI, 8, .inl xF2))]) [0, 1, 2, 3] (by decide) rfl
    rw [hQ]
    exact W.zret (v := 1) hx hb hr (by decide) (fun t ht hW => ⟨⟨1, (pickG 0 [], pickG (fun _ => 0) [xF1, xF2], pickG (fun _ => 0) []), rfl, ⟨(show (0 : Int) ≤ (1 : Int32).toInt ∧ (1 : Int32).toInt ≤ 1 from ⟨by omega, by omega⟩), trivial⟩, (by rw [ht]; exact hP9), hD9⟩, hS.F ht⟩) hS.2.2 dX6_findsRoom_15
  · rw [ki_le] at c1
    refine lv_iload_n hx hb dX6_findsRoom_8 rfl (lv_at hl 1 rfl) ?_
    refine lv_bipush (v := 8) hx hb dX6_findsRoom_9 (by decide) ?_
    refine lv_icmp_lt (tgt := 16) hx hb dX6_findsRoom_11 (by decide) (fun c2 => ?_) (fun c2 => ?_)
    · rw [ki_lt] at c2
      refine lv_iconst (v := 0) hx hb dX6_findsRoom_16 (by decide) ?_
      refine lv_istore (lv' := [(5, .int 0), (0, .ref a0), (1, .int p1), (2, .int p2), (3, .int p3), (4, .int p4)]) hx hb dX6_findsRoom_17 hl (by decide) rfl (fun ls hl => ?_)
      have lp1 : ∀ (d : Nat), ∀ (H : Heap) (locs : List Loc) (ls : Array Slot) (w5_1 : Int32) (g1_1 : Nat → Int32) (g2_1 : Nat → Int32), ((0 : Int) ≤ w5_1.toInt ∧ w5_1.toInt ≤ 8) → (8 - w5_1.toInt).toNat < d → va_P (dC, dI) vwCl [(a0, .inr (6, [.int i0, .ref a1, .ref a2, .ref a3])), (a1, .inl (cI, 8, .inl xF0)), (a2, .inl (cI, 8, .inl g1_1)), (a3, .inl (cI, 8, .inl g2_1))] H → va_D A [(a0, .inr (6, [.int i0, .ref a1, .ref a2, .ref a3])), (a1, .inl (cI, 8, .inl xF0)), (a2, .inl (cI, 8, .inl g1_1)), (a3, .inl (cI, 8, .inl g2_1))] → va_S A s.heap H locs → lv_has ls 6 [(0, .ref a0), (1, .int p1), (2, .int p2), (3, .int p3), (4, .int p4), (5, .int w5_1)] → W p l e ({ frames := 2, cells := 0, slots := 0, locals := 50 } : Room) s m ([.ref a0, .int p1, .int p2, .int p3, .int p4] : List Value).toArray below meth c H locs 0 0 Q (F0 m 19 ls []) := by
        intro d
        induction d with
        | zero =>
          intro H locs ls w5_1 g1_1 g2_1 hr_w5_1 hm hP hD hS hl
          omega
        | succ d ih1 =>
          intro H locs ls w5_1 g1_1 g2_1 hr_w5_1 hm hP hD hS hl
          refine lv_iload hx hb dX6_findsRoom_19 (lv_at hl 5 rfl) ?_
          refine lv_iload_n hx hb dX6_findsRoom_21 rfl (lv_at hl 2 rfl) ?_
          refine lv_icmp_gt (tgt := 131) hx hb dX6_findsRoom_22 (by decide) (fun c146 => ?_) (fun c146 => ?_)
          · rw [ki_lt] at c146
            refine lv_iconst (v := 0) hx hb dX6_findsRoom_131 (by decide) ?_
            have hP9 := hP.sub (ws' := [(a0, .inr (6, [.int i0, .ref a1, .ref a2, .ref a3])), (a1, .inl (cI, 8, .inl xF0)), (a2, .inl (cI, 8, .inl g1_1)), (a3, .inl (cI, 8, .inl g2_1))]) [0, 1, 2, 3] rfl
            have hD9 := hD.sub (ws' := [(a0, .inr (6, [.int i0, .ref a1, .ref a2, .ref a3])), (a1, .inl (cI, 8, .inl xF0)), (a2, .inl (cI, 8, .inl g1_1)), (a3, .inl (cI, 8, .inl g2_1))]) [0, 1, 2, 3] (by decide) rfl
            rw [hQ]
            exact W.zret (v := 0) hx hb hr (by decide) (fun t ht hW => ⟨⟨0, (pickG 0 [], pickG (fun _ => 0) [g1_1, g2_1], pickG (fun _ => 0) []), rfl, ⟨(show (0 : Int) ≤ (0 : Int32).toInt ∧ (0 : Int32).toInt ≤ 1 from ⟨by omega, by omega⟩), trivial⟩, (by rw [ht]; exact hP9), hD9⟩, hS.F ht⟩) hS.2.2 dX6_findsRoom_132
          · rw [ki_lt] at c146
            refine lv_iload hx hb dX6_findsRoom_25 (lv_at hl 5 rfl) ?_
            refine lv_iload_n hx hb dX6_findsRoom_27 rfl (lv_at hl 3 rfl) ?_
            refine lv_icmp_ge (tgt := 131) hx hb dX6_findsRoom_28 (by decide) (fun c147 => ?_) (fun c147 => ?_)
            · rw [ki_le] at c147
              refine lv_iconst (v := 0) hx hb dX6_findsRoom_131 (by decide) ?_
              have hP9 := hP.sub (ws' := [(a0, .inr (6, [.int i0, .ref a1, .ref a2, .ref a3])), (a1, .inl (cI, 8, .inl xF0)), (a2, .inl (cI, 8, .inl g1_1)), (a3, .inl (cI, 8, .inl g2_1))]) [0, 1, 2, 3] rfl
              have hD9 := hD.sub (ws' := [(a0, .inr (6, [.int i0, .ref a1, .ref a2, .ref a3])), (a1, .inl (cI, 8, .inl xF0)), (a2, .inl (cI, 8, .inl g1_1)), (a3, .inl (cI, 8, .inl g2_1))]) [0, 1, 2, 3] (by decide) rfl
              rw [hQ]
              exact W.zret (v := 0) hx hb hr (by decide) (fun t ht hW => ⟨⟨0, (pickG 0 [], pickG (fun _ => 0) [g1_1, g2_1], pickG (fun _ => 0) []), rfl, ⟨(show (0 : Int) ≤ (0 : Int32).toInt ∧ (0 : Int32).toInt ≤ 1 from ⟨by omega, by omega⟩), trivial⟩, (by rw [ht]; exact hP9), hD9⟩, hS.F ht⟩) hS.2.2 dX6_findsRoom_132
            · rw [ki_le] at c147
              refine lv_iload hx hb dX6_findsRoom_31 (lv_at hl 5 rfl) ?_
              refine lv_bipush (v := 8) hx hb dX6_findsRoom_33 (by decide) ?_
              refine lv_icmp_ge (tgt := 131) hx hb dX6_findsRoom_35 (by decide) (fun c148 => ?_) (fun c148 => ?_)
              · rw [ki_le] at c148
                refine lv_iconst (v := 0) hx hb dX6_findsRoom_131 (by decide) ?_
                have hP9 := hP.sub (ws' := [(a0, .inr (6, [.int i0, .ref a1, .ref a2, .ref a3])), (a1, .inl (cI, 8, .inl xF0)), (a2, .inl (cI, 8, .inl g1_1)), (a3, .inl (cI, 8, .inl g2_1))]) [0, 1, 2, 3] rfl
                have hD9 := hD.sub (ws' := [(a0, .inr (6, [.int i0, .ref a1, .ref a2, .ref a3])), (a1, .inl (cI, 8, .inl xF0)), (a2, .inl (cI, 8, .inl g1_1)), (a3, .inl (cI, 8, .inl g2_1))]) [0, 1, 2, 3] (by decide) rfl
                rw [hQ]
                exact W.zret (v := 0) hx hb hr (by decide) (fun t ht hW => ⟨⟨0, (pickG 0 [], pickG (fun _ => 0) [g1_1, g2_1], pickG (fun _ => 0) []), rfl, ⟨(show (0 : Int) ≤ (0 : Int32).toInt ∧ (0 : Int32).toInt ≤ 1 from ⟨by omega, by omega⟩), trivial⟩, (by rw [ht]; exact hP9), hD9⟩, hS.F ht⟩) hS.2.2 dX6_findsRoom_132
              · rw [ki_le] at c148
                refine lv_aload_n hx hb dX6_findsRoom_38 rfl (lv_at hl 0 rfl) ?_
                refine va_get (D := (dC, dI)) (ci := 6) (v := .ref a3) (C := RX6) (T := TX6) (N := 4) hx hb hwd inlX6 hown hK hP 0 rfl rfl 3 (by decide) (hwd _ kr10_14) (fun _ h9 => h9) rfl dX6_findsRoom_39 ?_
                refine lv_iload hx hb dX6_findsRoom_42 (lv_at hl 5 rfl) ?_
                have h149 : vp_in w5_1 8 := (vp_of (by omega) (by omega))
                refine va_iald hx hb hK hP 3 0 rfl rfl h149 dX6_findsRoom_44 ?_
                refine lv_topi (fun x150 ex150 => ?_)
                refine lv_aload_n hx hb dX6_findsRoom_45 rfl (lv_at hl 0 rfl) ?_
                refine va_get (D := (dC, dI)) (ci := 6) (v := .ref a1) (C := RX6) (T := TX6) (N := 4) hx hb hwd inlX6 hown hK hP 0 rfl rfl 1 (by decide) (hwd _ kr10_10) (fun _ h9 => h9) rfl dX6_findsRoom_46 ?_
                refine lv_iload_n hx hb dX6_findsRoom_49 rfl (lv_at hl 1 rfl) ?_
                have h151 : vp_in p1 8 := (vp_of (by omega) (by omega))
                refine va_iald hx hb hK hP 1 0 rfl rfl h151 dX6_findsRoom_50 ?_
                refine lv_topi (fun x152 ex152 => ?_)
                refine lv_iadd hx hb dX6_findsRoom_51 ?_
                refine lv_topi (fun x153 ex153 => ?_)
                refine lv_iload hx hb dX6_findsRoom_52 (lv_at hl 4 rfl) ?_
                refine lv_icmp_gt (tgt := 125) hx hb dX6_findsRoom_54 (by decide) (fun c154 => ?_) (fun c154 => ?_)
                · rw [ki_lt] at c154
                  obtain ⟨x155, ex155⟩ : ∃ y : Int32, y = w5_1 + 1 := ⟨_, rfl⟩
                  refine lv_iinc (v := x155) (lv' := [(5, .int x155), (0, .ref a0), (1, .int p1), (2, .int p2), (3, .int p3), (4, .int p4)]) hx hb dX6_findsRoom_125 hl (k := 5) rfl (by rw [ex155]; rfl) (by decide) rfl (fun ls hl => ?_)
                  have tx155 := ia_add (a := w5_1) (b := (1 : Int32)) (by omega) (by omega)
                  rw [← ex155] at tx155
                  refine lv_goto (tgt := 19) hx hb dX6_findsRoom_128 (by decide) ?_
                  exact ih1 _ _ ls x155 g1_1 g2_1 (show (0 : Int) ≤ x155.toInt ∧ x155.toInt ≤ 8 from ⟨by omega, by omega⟩) (by omega) (hP.sub (ws' := [(a0, .inr (6, [.int i0, .ref a1, .ref a2, .ref a3])), (a1, .inl (cI, 8, .inl xF0)), (a2, .inl (cI, 8, .inl g1_1)), (a3, .inl (cI, 8, .inl g2_1))]) [0, 1, 2, 3] rfl) (hD.sub (ws' := [(a0, .inr (6, [.int i0, .ref a1, .ref a2, .ref a3])), (a1, .inl (cI, 8, .inl xF0)), (a2, .inl (cI, 8, .inl g1_1)), (a3, .inl (cI, 8, .inl g2_1))]) [0, 1, 2, 3] (by decide) rfl) hS (lv_sub hl [1, 2, 3, 4, 5, 0] rfl)
                · rw [ki_lt] at c154
                  refine lv_aload_n hx hb dX6_findsRoom_57 rfl (lv_at hl 0 rfl) ?_
                  refine va_get (D := (dC, dI)) (ci := 6) (v := .ref a3) (C := RX6) (T := TX6) (N := 4) hx hb hwd inlX6 hown hK hP 0 rfl rfl 3 (by decide) (hwd _ kr10_14) (fun _ h9 => h9) rfl dX6_findsRoom_58 ?_
                  refine lv_iload hx hb dX6_findsRoom_61 (lv_at hl 5 rfl) ?_
                  refine lv_dup2_11 hx hb dX6_findsRoom_63 rfl rfl ?_
                  have h156 : vp_in w5_1 8 := (vp_of (by omega) (by omega))
                  refine va_iald hx hb hK hP 3 0 rfl rfl h156 dX6_findsRoom_64 ?_
                  refine lv_topi (nm_r (e' := x150) ex150.symm ?_)
                  refine lv_aload_n hx hb dX6_findsRoom_65 rfl (lv_at hl 0 rfl) ?_
                  refine va_get (D := (dC, dI)) (ci := 6) (v := .ref a1) (C := RX6) (T := TX6) (N := 4) hx hb hwd inlX6 hown hK hP 0 rfl rfl 1 (by decide) (hwd _ kr10_10) (fun _ h9 => h9) rfl dX6_findsRoom_66 ?_
                  refine lv_iload_n hx hb dX6_findsRoom_69 rfl (lv_at hl 1 rfl) ?_
                  have h157 : vp_in p1 8 := (vp_of (by omega) (by omega))
                  refine va_iald hx hb hK hP 1 0 rfl rfl h157 dX6_findsRoom_70 ?_
                  refine lv_topi (nm_r (e' := x152) ex152.symm ?_)
                  refine lv_iadd hx hb dX6_findsRoom_71 ?_
                  refine lv_topi (fun x158 ex158 => ?_)
                  refine va_iast hx hb hK hP hD hS 3 0 rfl rfl (vp_of (by omega) (by omega)) dX6_findsRoom_72 (fun H locs hP hD hS => ?_)
                  obtain ⟨f159, ef159⟩ : ∃ f, f = upd g2_1 w5_1.toNatClampNeg x158 := ⟨_, rfl⟩
                  replace hP : va_P (dC, dI) vwCl [(a0, .inr (6, [.int i0, .ref a1, .ref a2, .ref a3])), (a1, .inl (cI, 8, .inl xF0)), (a2, .inl (cI, 8, .inl g1_1)), (a3, .inl (cI, 8, .inl f159))] H := by rw [ef159]; exact hP
                  replace hD : va_D A [(a0, .inr (6, [.int i0, .ref a1, .ref a2, .ref a3])), (a1, .inl (cI, 8, .inl xF0)), (a2, .inl (cI, 8, .inl g1_1)), (a3, .inl (cI, 8, .inl f159))] := by rw [ef159]; exact hD
                  refine lv_aload_n hx hb dX6_findsRoom_73 rfl (lv_at hl 0 rfl) ?_
                  refine va_get (D := (dC, dI)) (ci := 6) (v := .ref a2) (C := RX6) (T := TX6) (N := 4) hx hb hwd inlX6 hown hK hP 0 rfl rfl 2 (by decide) (hwd _ kr10_12) (fun _ h9 => h9) rfl dX6_findsRoom_74 ?_
                  refine lv_iload_n hx hb dX6_findsRoom_77 rfl (lv_at hl 1 rfl) ?_
                  refine lv_iload hx hb dX6_findsRoom_78 (lv_at hl 5 rfl) ?_
                  refine va_iast hx hb hK hP hD hS 2 0 rfl rfl (vp_of (by omega) (by omega)) dX6_findsRoom_80 (fun H locs hP hD hS => ?_)
                  obtain ⟨f160, ef160⟩ : ∃ f, f = upd g1_1 p1.toNatClampNeg w5_1 := ⟨_, rfl⟩
                  replace hP : va_P (dC, dI) vwCl [(a0, .inr (6, [.int i0, .ref a1, .ref a2, .ref a3])), (a1, .inl (cI, 8, .inl xF0)), (a2, .inl (cI, 8, .inl f160)), (a3, .inl (cI, 8, .inl f159))] H := by rw [ef160]; exact hP
                  replace hD : va_D A [(a0, .inr (6, [.int i0, .ref a1, .ref a2, .ref a3])), (a1, .inl (cI, 8, .inl xF0)), (a2, .inl (cI, 8, .inl f160)), (a3, .inl (cI, 8, .inl f159))] := by rw [ef160]; exact hD
                  refine lv_aload_n hx hb dX6_findsRoom_81 rfl (lv_at hl 0 rfl) ?_
                  refine lv_iload_n hx hb dX6_findsRoom_82 rfl (lv_at hl 1 rfl) ?_
                  refine lv_iconst (v := 1) hx hb dX6_findsRoom_83 (by decide) ?_
                  refine lv_iadd hx hb dX6_findsRoom_84 ?_
                  refine lv_topi (fun x161 ex161 => ?_)
                  have tx161 := ia_add (a := p1) (b := (1 : Int32)) (by omega) (by omega)
                  rw [← ex161] at tx161
                  refine lv_iload hx hb dX6_findsRoom_85 (lv_at hl 5 rfl) ?_
                  refine lv_iload_n hx hb dX6_findsRoom_87 rfl (lv_at hl 2 rfl) ?_
                  have jp7 : ∀ (H : Heap) (locs : List Loc) (ls : Array Slot) (z2_7 : Int32), ((0 : Int) ≤ z2_7.toInt ∧ z2_7.toInt ≤ 2147483647) → va_P (dC, dI) vwCl [(a0, .inr (6, [.int i0, .ref a1, .ref a2, .ref a3])), (a1, .inl (cI, 8, .inl xF0)), (a2, .inl (cI, 8, .inl f160)), (a3, .inl (cI, 8, .inl f159))] H → va_D A [(a0, .inr (6, [.int i0, .ref a1, .ref a2, .ref a3])), (a1, .inl (cI, 8, .inl xF0)), (a2, .inl (cI, 8, .inl f160)), (a3, .inl (cI, 8, .inl f159))] → va_S A s.heap H locs → lv_has ls 6 [(0, .ref a0), (1, .int p1), (2, .int p2), (3, .int p3), (4, .int p4), (5, .int w5_1)] → W p l e ({ frames := 2, cells := 0, slots := 0, locals := 50 } : Room) s m ([.ref a0, .int p1, .int p2, .int p3, .int p4] : List Value).toArray below meth c H locs 0 0 Q (F0 m 98 ls [.int z2_7, .int x161, .ref a0]) := by
                    intro H locs ls z2_7 hr_z2_7 hP hD hS hl
                    refine lv_iload_n hx hb dX6_findsRoom_98 rfl (lv_at hl 3 rfl) ?_
                    refine lv_iload hx hb dX6_findsRoom_99 (lv_at hl 4 rfl) ?_
                    have hPc := hP.sub (ws' := [(a0, .inr (6, [.int i0, .ref a1, .ref a2, .ref a3])), (a1, .inl (cI, 8, .inl xF0)), (a2, .inl (cI, 8, .inl f160)), (a3, .inl (cI, 8, .inl f159))]) [0, 1, 2, 3] rfl
                    have hDc := hD.sub (ws' := [(a0, .inr (6, [.int i0, .ref a1, .ref a2, .ref a3])), (a1, .inl (cI, 8, .inl xF0)), (a2, .inl (cI, 8, .inl f160)), (a3, .inl (cI, 8, .inl f159))]) [0, 1, 2, 3] (by decide) rfl
                    have hFc := va_free (wc := [(a0, .inr (6, [.int i0, .ref a1, .ref a2, .ref a3])), (a1, .inl (cI, 8, .inl xF0)), (a2, .inl (cI, 8, .inl f160)), (a3, .inl (cI, 8, .inl f159))]) hD hS hA [0, 1, 2, 3] rfl
                    refine va_calli (va_runS (As := [.ref a0, .int x161, .int z2_7, .int p3, .int p4]) (rest := []) ⟨hx, hb, hml, hown, hwd⟩ (s_X6_findsRoom_7 l dC dI cI cZ cB cJ cM cG a0 a1 a2 a3 i0 xF0 f160 f159 x161 z2_7 p3 p4 H.size (show (0 : Int) ≤ i0.toInt ∧ i0.toInt ≤ 8 from p_0) (show (7 : Int) ≤ x161.toInt ∧ x161.toInt ≤ 8 from ⟨by omega, by omega⟩)) (cwS 5 hwd (gS kr41_6 kr41_7 kr5_17 kr41_8) rfl rfl rfl (by decide +kernel) ⟨Nat.le_of_ble_eq_true rfl, Nat.le_of_ble_eq_true rfl⟩) (kPreS hPc hK hDc) rfl rfl hl.1 rfl (lv_room (Nat.le_of_ble_eq_true rfl)) dX6_findsRoom_101 ⟨Nat.le_of_ble_eq_true rfl, Nat.le_of_ble_eq_true rfl⟩) hS (fun q _ h => hFc q h) hFc (fun r175 u176 t H1 locs ht9 hvm hw hB hz1 hk1 hS => ?_)
                    obtain ⟨u177, U177, V177⟩ := u176
                    obtain ⟨hw178, -⟩ := hw
                    replace hw178 : (0 : Int) ≤ r175.toInt ∧ r175.toInt ≤ 1 := hw178
                    obtain ⟨hP1, hD1⟩ := hB
                    rw [ht9] at hP1
                    obtain ⟨hP, hD⟩ := va_join (wr := []) (w1 := [(a0, .inr (6, [.int i0, .ref a1, .ref a2, .ref a3])), (a1, .inl (cI, 8, .inl xF0)), (a2, .inl (cI, 8, .inl (U177 0))), (a3, .inl (cI, 8, .inl (U177 1)))]) hP hD [0, 1, 2, 3] [] rfl rfl (by decide) (by decide) hk1 hFc hP1 hD1
                    generalize H1 = H at hP hS ⊢
                    replace hP : va_P (dC, dI) vwCl [(a0, .inr (6, [.int i0, .ref a1, .ref a2, .ref a3])), (a1, .inl (cI, 8, .inl xF0)), (a2, .inl (cI, 8, .inl (U177 0))), (a3, .inl (cI, 8, .inl (U177 1)))] H := hP
                    replace hD : va_D A [(a0, .inr (6, [.int i0, .ref a1, .ref a2, .ref a3])), (a1, .inl (cI, 8, .inl xF0)), (a2, .inl (cI, 8, .inl (U177 0))), (a3, .inl (cI, 8, .inl (U177 1)))] := hD
                    refine lv_if_eq (tgt := 109) hx hb dX6_findsRoom_104 (by decide) (fun c179 => ?_) (fun c179 => ?_)
                    · rw [ki_eq] at c179
                      refine lv_aload_n hx hb dX6_findsRoom_109 rfl (lv_at hl 0 rfl) ?_
                      refine va_get (D := (dC, dI)) (ci := 6) (v := .ref a3) (C := RX6) (T := TX6) (N := 4) hx hb hwd inlX6 hown hK hP 0 rfl rfl 3 (by decide) (hwd _ kr10_14) (fun _ h9 => h9) rfl dX6_findsRoom_110 ?_
                      refine lv_iload hx hb dX6_findsRoom_113 (lv_at hl 5 rfl) ?_
                      refine lv_dup2_11 hx hb dX6_findsRoom_115 rfl rfl ?_
                      have h180 : vp_in w5_1 8 := (vp_of (by omega) (by omega))
                      refine va_iald hx hb hK hP 3 0 rfl rfl h180 dX6_findsRoom_116 ?_
                      refine lv_topi (fun x181 ex181 => ?_)
                      refine lv_aload_n hx hb dX6_findsRoom_117 rfl (lv_at hl 0 rfl) ?_
                      refine va_get (D := (dC, dI)) (ci := 6) (v := .ref a1) (C := RX6) (T := TX6) (N := 4) hx hb hwd inlX6 hown hK hP 0 rfl rfl 1 (by decide) (hwd _ kr10_10) (fun _ h9 => h9) rfl dX6_findsRoom_118 ?_
                      refine lv_iload_n hx hb dX6_findsRoom_121 rfl (lv_at hl 1 rfl) ?_
                      have h182 : vp_in p1 8 := (vp_of (by omega) (by omega))
                      refine va_iald hx hb hK hP 1 0 rfl rfl h182 dX6_findsRoom_122 ?_
                      refine lv_topi (nm_r (e' := x152) ex152.symm ?_)
                      refine lv_isub hx hb dX6_findsRoom_123 ?_
                      refine lv_topi (fun x183 ex183 => ?_)
                      refine va_iast hx hb hK hP hD hS 3 0 rfl rfl (vp_of (by omega) (by omega)) dX6_findsRoom_124 (fun H locs hP hD hS => ?_)
                      obtain ⟨f184, ef184⟩ : ∃ f, f = upd (U177 1) w5_1.toNatClampNeg x183 := ⟨_, rfl⟩
                      replace hP : va_P (dC, dI) vwCl [(a0, .inr (6, [.int i0, .ref a1, .ref a2, .ref a3])), (a1, .inl (cI, 8, .inl xF0)), (a2, .inl (cI, 8, .inl (U177 0))), (a3, .inl (cI, 8, .inl f184))] H := by rw [ef184]; exact hP
                      replace hD : va_D A [(a0, .inr (6, [.int i0, .ref a1, .ref a2, .ref a3])), (a1, .inl (cI, 8, .inl xF0)), (a2, .inl (cI, 8, .inl (U177 0))), (a3, .inl (cI, 8, .inl f184))] := by rw [ef184]; exact hD
                      obtain ⟨x185, ex185⟩ : ∃ y : Int32, y = w5_1 + 1 := ⟨_, rfl⟩
                      refine lv_iinc (v := x185) (lv' := [(5, .int x185), (0, .ref a0), (1, .int p1), (2, .int p2), (3, .int p3), (4, .int p4)]) hx hb dX6_findsRoom_125 hl (k := 5) rfl (by rw [ex185]; rfl) (by decide) rfl (fun ls hl => ?_)
                      have tx185 := ia_add (a := w5_1) (b := (1 : Int32)) (by omega) (by omega)
                      rw [← ex185] at tx185
                      refine lv_goto (tgt := 19) hx hb dX6_findsRoom_128 (by decide) ?_
                      exact ih1 _ _ ls x185 (U177 0) f184 (show (0 : Int) ≤ x185.toInt ∧ x185.toInt ≤ 8 from ⟨by omega, by omega⟩) (by omega) (hP.sub (ws' := [(a0, .inr (6, [.int i0, .ref a1, .ref a2, .ref a3])), (a1, .inl (cI, 8, .inl xF0)), (a2, .inl (cI, 8, .inl (U177 0))), (a3, .inl (cI, 8, .inl f184))]) [0, 1, 2, 3] rfl) (hD.sub (ws' := [(a0, .inr (6, [.int i0, .ref a1, .ref a2, .ref a3])), (a1, .inl (cI, 8, .inl xF0)), (a2, .inl (cI, 8, .inl (U177 0))), (a3, .inl (cI, 8, .inl f184))]) [0, 1, 2, 3] (by decide) rfl) hS (lv_sub hl [1, 2, 3, 4, 5, 0] rfl)
                    · rw [ki_eq] at c179
                      refine lv_iconst (v := 1) hx hb dX6_findsRoom_107 (by decide) ?_
                      have hP9 := hP.sub (ws' := [(a0, .inr (6, [.int i0, .ref a1, .ref a2, .ref a3])), (a1, .inl (cI, 8, .inl xF0)), (a2, .inl (cI, 8, .inl (U177 0))), (a3, .inl (cI, 8, .inl (U177 1)))]) [0, 1, 2, 3] rfl
                      have hD9 := hD.sub (ws' := [(a0, .inr (6, [.int i0, .ref a1, .ref a2, .ref a3])), (a1, .inl (cI, 8, .inl xF0)), (a2, .inl (cI, 8, .inl (U177 0))), (a3, .inl (cI, 8, .inl (U177 1)))]) [0, 1, 2, 3] (by decide) rfl
                      rw [hQ]
                      exact W.zret (v := 1) hx hb hr (by decide) (fun t ht hW => ⟨⟨1, (pickG 0 [], pickG (fun _ => 0) [(U177 0), (U177 1)], pickG (fun _ => 0) []), rfl, ⟨(show (0 : Int) ≤ (1 : Int32).toInt ∧ (1 : Int32).toInt ≤ 1 from ⟨by omega, by omega⟩), trivial⟩, (by rw [ht]; exact hP9), hD9⟩, hS.F ht⟩) hS.2.2 dX6_findsRoom_108
                  refine lv_icmp_ne (tgt := 97) hx hb dX6_findsRoom_88 (by decide) (fun c186 => ?_) (fun c186 => ?_)
                  · rw [ki_eq] at c186
                    refine lv_iload_n hx hb dX6_findsRoom_97 rfl (lv_at hl 2 rfl) ?_
                    exact jp7 _ _ ls p2 (show (0 : Int) ≤ p2.toInt ∧ p2.toInt ≤ 2147483647 from ⟨by omega, i32_hi⟩) (hP.sub (ws' := [(a0, .inr (6, [.int i0, .ref a1, .ref a2, .ref a3])), (a1, .inl (cI, 8, .inl xF0)), (a2, .inl (cI, 8, .inl f160)), (a3, .inl (cI, 8, .inl f159))]) [0, 1, 2, 3] rfl) (hD.sub (ws' := [(a0, .inr (6, [.int i0, .ref a1, .ref a2, .ref a3])), (a1, .inl (cI, 8, .inl xF0)), (a2, .inl (cI, 8, .inl f160)), (a3, .inl (cI, 8, .inl f159))]) [0, 1, 2, 3] (by decide) rfl) hS (lv_sub hl [0, 1, 2, 3, 4, 5] rfl)
                  · rw [ki_eq] at c186
                    refine lv_iload_n hx hb dX6_findsRoom_91 rfl (lv_at hl 2 rfl) ?_
                    refine lv_iconst (v := 1) hx hb dX6_findsRoom_92 (by decide) ?_
                    refine lv_iadd hx hb dX6_findsRoom_93 ?_
                    refine lv_topi (fun x187 ex187 => ?_)
                    have tx187 := ia_add (a := p2) (b := (1 : Int32)) (by omega) (by omega)
                    rw [← ex187] at tx187
                    refine lv_goto (tgt := 98) hx hb dX6_findsRoom_94 (by decide) ?_
                    exact jp7 _ _ ls x187 (show (0 : Int) ≤ x187.toInt ∧ x187.toInt ≤ 2147483647 from ⟨by omega, i32_hi⟩) (hP.sub (ws' := [(a0, .inr (6, [.int i0, .ref a1, .ref a2, .ref a3])), (a1, .inl (cI, 8, .inl xF0)), (a2, .inl (cI, 8, .inl f160)), (a3, .inl (cI, 8, .inl f159))]) [0, 1, 2, 3] rfl) (hD.sub (ws' := [(a0, .inr (6, [.int i0, .ref a1, .ref a2, .ref a3])), (a1, .inl (cI, 8, .inl xF0)), (a2, .inl (cI, 8, .inl f160)), (a3, .inl (cI, 8, .inl f159))]) [0, 1, 2, 3] (by decide) rfl) hS (lv_sub hl [0, 1, 2, 3, 4, 5] rfl)
      exact lp1 _ _ _ ls (0) xF1 xF2 (show (0 : Int) ≤ (0 : Int32).toInt ∧ (0 : Int32).toInt ≤ 8 from ⟨by omega, by omega⟩) (Nat.lt_succ_self _) (hP.sub (ws' := [(a0, .inr (6, [.int i0, .ref a1, .ref a2, .ref a3])), (a1, .inl (cI, 8, .inl xF0)), (a2, .inl (cI, 8, .inl xF1)), (a3, .inl (cI, 8, .inl xF2))]) [0, 1, 2, 3] rfl) (hD.sub (ws' := [(a0, .inr (6, [.int i0, .ref a1, .ref a2, .ref a3])), (a1, .inl (cI, 8, .inl xF0)), (a2, .inl (cI, 8, .inl xF1)), (a3, .inl (cI, 8, .inl xF2))]) [0, 1, 2, 3] (by decide) rfl) hS (lv_sub hl [1, 2, 3, 4, 5, 0] rfl)
    · rw [ki_lt] at c2
      exfalso
      omega
set_option maxHeartbeats 4000000 in
set_option maxRecDepth 100000 in
theorem s_X6_findsRoom_5 (l : Launch) (dC : Nat → ClassId) (dI : Nat → Nat → Nat) (cI cZ cB cJ cM cG : ClassId) (a0 a1 a2 a3 : Nat) (i0 : Int32) (xF0 xF1 xF2 : Nat → Int32) (p1 p2 p3 p4 : Int32) (sz : Nat) (p_0 : (0 : Int) ≤ i0.toInt ∧ i0.toInt ≤ 8) (p_1 : (5 : Int) ≤ p1.toInt ∧ p1.toInt ≤ 8) : Met l yX6_findsRoom (kw yX6_findsRoom cX6_findsRoom 6 (some .boolean)) ({ frames := 3, cells := 0, slots := 0, locals := 75 } : Room) (va_Pc [.ref a0, .int p1, .int p2, .int p3, .int p4] (kPre dC dI [(cI, .int), (cZ, .boolean), (cB, .byte), (cJ, .long), (cM, .object RX2), (cG, .array .int)] [(a0, .inr (6, [.int i0, .ref a1, .ref a2, .ref a3])), (a1, .inl (cI, 8, .inl xF0)), (a2, .inl (cI, 8, .inl xF1)), (a3, .inl (cI, 8, .inl xF2))] sz)) (va_Qi (fun (r : Int32) (u9 : (Nat → Int32) × (Nat → Nat → Int32) × (Nat → Nat → Int64)) => ((0 : Int) ≤ r.toInt ∧ r.toInt ≤ 1) ∧ True) (fun u9 t => va_P (dC, dI) vwCl [(a0, .inr (6, [.int i0, .ref a1, .ref a2, .ref a3])), (a1, .inl (cI, 8, .inl xF0)), (a2, .inl (cI, 8, .inl (u9.2.1 0))), (a3, .inl (cI, 8, .inl (u9.2.1 1)))] t.heap ∧ va_D (va_A [(a0, .inr (6, [.int i0, .ref a1, .ref a2, .ref a3])), (a1, .inl (cI, 8, .inl xF0)), (a2, .inl (cI, 8, .inl xF1)), (a3, .inl (cI, 8, .inl xF2))] sz) [(a0, .inr (6, [.int i0, .ref a1, .ref a2, .ref a3])), (a1, .inl (cI, 8, .inl xF0)), (a2, .inl (cI, 8, .inl (u9.2.1 0))), (a3, .inl (cI, 8, .inl (u9.2.1 1)))]) (va_A [(a0, .inr (6, [.int i0, .ref a1, .ref a2, .ref a3])), (a1, .inl (cI, 8, .inl xF0)), (a2, .inl (cI, 8, .inl xF1)), (a3, .inl (cI, 8, .inl xF2))] sz)) 0 0 (va_A [(a0, .inr (6, [.int i0, .ref a1, .ref a2, .ref a3])), (a1, .inl (cI, 8, .inl xF0)), (a2, .inl (cI, 8, .inl xF1)), (a3, .inl (cI, 8, .inl xF2))] sz) := by
  refine kEnter (by decide) (Nat.le_of_ble_eq_true rfl) ?_
  intro p e s m below meth c ls hx hb hr hml hown hlocks hin hwd hsz hP hK hD hl
  subst hsz
  generalize hAe : va_A [(a0, .inr (6, [.int i0, .ref a1, .ref a2, .ref a3])), (a1, .inl (cI, 8, .inl xF0)), (a2, .inl (cI, 8, .inl xF1)), (a3, .inl (cI, 8, .inl xF2))] s.heap.size = A at hD ⊢
  have hA : ∀ q : Nat, s.heap.size ≤ q → A q := fun q h => by rw [← hAe]; exact Or.inr h
  have hS : va_S A s.heap s.heap [] := va_S.rf
  have hl : lv_has ls 6 [(0, .ref a0), (1, .int p1), (2, .int p2), (3, .int p3), (4, .int p4)] := hl
  obtain ⟨Q, hQ⟩ : ∃ Q, Q = MQ below (va_Qi (fun (r : Int32) (u9 : (Nat → Int32) × (Nat → Nat → Int32) × (Nat → Nat → Int64)) => ((0 : Int) ≤ r.toInt ∧ r.toInt ≤ 1) ∧ True) (fun u9 t => va_P (dC, dI) vwCl [(a0, .inr (6, [.int i0, .ref a1, .ref a2, .ref a3])), (a1, .inl (cI, 8, .inl xF0)), (a2, .inl (cI, 8, .inl (u9.2.1 0))), (a3, .inl (cI, 8, .inl (u9.2.1 1)))] t.heap ∧ va_D A [(a0, .inr (6, [.int i0, .ref a1, .ref a2, .ref a3])), (a1, .inl (cI, 8, .inl xF0)), (a2, .inl (cI, 8, .inl (u9.2.1 0))), (a3, .inl (cI, 8, .inl (u9.2.1 1)))]) A) ([.ref a0, .int p1, .int p2, .int p3, .int p4] : List Value).toArray s 0 0 A := ⟨_, rfl⟩
  rw [← hQ]
  have k0 : (0 : Int32).toInt = 0 := by decide
  have k1 : (1 : Int32).toInt = 1 := by decide
  have k8 : (8 : Int32).toInt = 8 := by decide
  refine lv_iload_n hx hb dX6_findsRoom_0 rfl (lv_at hl 1 rfl) ?_
  refine lv_aload_n hx hb dX6_findsRoom_1 rfl (lv_at hl 0 rfl) ?_
  refine va_get (D := (dC, dI)) (ci := 6) (v := .int i0) (C := RX6) (T := TX6) (N := 4) hx hb hwd inlX6 hown hK hP 0 rfl rfl 0 (by decide) (hwd _ kr10_8) (fun _ h9 => h9) rfl dX6_findsRoom_2 ?_
  refine lv_icmp_ge (tgt := 14) hx hb dX6_findsRoom_5 (by decide) (fun c1 => ?_) (fun c1 => ?_)
  · rw [ki_le] at c1
    refine lv_iconst (v := 1) hx hb dX6_findsRoom_14 (by decide) ?_
    have hP9 := hP.sub (ws' := [(a0, .inr (6, [.int i0, .ref a1, .ref a2, .ref a3])), (a1, .inl (cI, 8, .inl xF0)), (a2, .inl (cI, 8, .inl xF1)), (a3, .inl (cI, 8, .inl xF2))]) [0, 1, 2, 3] rfl
    have hD9 := hD.sub (ws' := [(a0, .inr (6, [.int i0, .ref a1, .ref a2, .ref a3])), (a1, .inl (cI, 8, .inl xF0)), (a2, .inl (cI, 8, .inl xF1)), (a3, .inl (cI, 8, .inl xF2))]) [0, 1, 2, 3] (by decide) rfl
    rw [hQ]
    exact W.zret (v := 1) hx hb hr (by decide) (fun t ht hW => ⟨⟨1, (pickG 0 [], pickG (fun _ => 0) [xF1, xF2], pickG (fun _ => 0) []), rfl, ⟨(show (0 : Int) ≤ (1 : Int32).toInt ∧ (1 : Int32).toInt ≤ 1 from ⟨by omega, by omega⟩), trivial⟩, (by rw [ht]; exact hP9), hD9⟩, hS.F ht⟩) hS.2.2 dX6_findsRoom_15
  · rw [ki_le] at c1
    refine lv_iload_n hx hb dX6_findsRoom_8 rfl (lv_at hl 1 rfl) ?_
    refine lv_bipush (v := 8) hx hb dX6_findsRoom_9 (by decide) ?_
    refine lv_icmp_lt (tgt := 16) hx hb dX6_findsRoom_11 (by decide) (fun c2 => ?_) (fun c2 => ?_)
    · rw [ki_lt] at c2
      refine lv_iconst (v := 0) hx hb dX6_findsRoom_16 (by decide) ?_
      refine lv_istore (lv' := [(5, .int 0), (0, .ref a0), (1, .int p1), (2, .int p2), (3, .int p3), (4, .int p4)]) hx hb dX6_findsRoom_17 hl (by decide) rfl (fun ls hl => ?_)
      have lp1 : ∀ (d : Nat), ∀ (H : Heap) (locs : List Loc) (ls : Array Slot) (w5_1 : Int32) (g1_1 : Nat → Int32) (g2_1 : Nat → Int32), ((0 : Int) ≤ w5_1.toInt ∧ w5_1.toInt ≤ 8) → (8 - w5_1.toInt).toNat < d → va_P (dC, dI) vwCl [(a0, .inr (6, [.int i0, .ref a1, .ref a2, .ref a3])), (a1, .inl (cI, 8, .inl xF0)), (a2, .inl (cI, 8, .inl g1_1)), (a3, .inl (cI, 8, .inl g2_1))] H → va_D A [(a0, .inr (6, [.int i0, .ref a1, .ref a2, .ref a3])), (a1, .inl (cI, 8, .inl xF0)), (a2, .inl (cI, 8, .inl g1_1)), (a3, .inl (cI, 8, .inl g2_1))] → va_S A s.heap H locs → lv_has ls 6 [(0, .ref a0), (1, .int p1), (2, .int p2), (3, .int p3), (4, .int p4), (5, .int w5_1)] → W p l e ({ frames := 3, cells := 0, slots := 0, locals := 75 } : Room) s m ([.ref a0, .int p1, .int p2, .int p3, .int p4] : List Value).toArray below meth c H locs 0 0 Q (F0 m 19 ls []) := by
        intro d
        induction d with
        | zero =>
          intro H locs ls w5_1 g1_1 g2_1 hr_w5_1 hm hP hD hS hl
          omega
        | succ d ih1 =>
          intro H locs ls w5_1 g1_1 g2_1 hr_w5_1 hm hP hD hS hl
          refine lv_iload hx hb dX6_findsRoom_19 (lv_at hl 5 rfl) ?_
          refine lv_iload_n hx hb dX6_findsRoom_21 rfl (lv_at hl 2 rfl) ?_
          refine lv_icmp_gt (tgt := 131) hx hb dX6_findsRoom_22 (by decide) (fun c146 => ?_) (fun c146 => ?_)
          · rw [ki_lt] at c146
            refine lv_iconst (v := 0) hx hb dX6_findsRoom_131 (by decide) ?_
            have hP9 := hP.sub (ws' := [(a0, .inr (6, [.int i0, .ref a1, .ref a2, .ref a3])), (a1, .inl (cI, 8, .inl xF0)), (a2, .inl (cI, 8, .inl g1_1)), (a3, .inl (cI, 8, .inl g2_1))]) [0, 1, 2, 3] rfl
            have hD9 := hD.sub (ws' := [(a0, .inr (6, [.int i0, .ref a1, .ref a2, .ref a3])), (a1, .inl (cI, 8, .inl xF0)), (a2, .inl (cI, 8, .inl g1_1)), (a3, .inl (cI, 8, .inl g2_1))]) [0, 1, 2, 3] (by decide) rfl
            rw [hQ]
            exact W.zret (v := 0) hx hb hr (by decide) (fun t ht hW => ⟨⟨0, (pickG 0 [], pickG (fun _ => 0) [g1_1, g2_1], pickG (fun _ => 0) []), rfl, ⟨(show (0 : Int) ≤ (0 : Int32).toInt ∧ (0 : Int32).toInt ≤ 1 from ⟨by omega, by omega⟩), trivial⟩, (by rw [ht]; exact hP9), hD9⟩, hS.F ht⟩) hS.2.2 dX6_findsRoom_132
          · rw [ki_lt] at c146
            refine lv_iload hx hb dX6_findsRoom_25 (lv_at hl 5 rfl) ?_
            refine lv_iload_n hx hb dX6_findsRoom_27 rfl (lv_at hl 3 rfl) ?_
            refine lv_icmp_ge (tgt := 131) hx hb dX6_findsRoom_28 (by decide) (fun c147 => ?_) (fun c147 => ?_)
            · rw [ki_le] at c147
              refine lv_iconst (v := 0) hx hb dX6_findsRoom_131 (by decide) ?_
              have hP9 := hP.sub (ws' := [(a0, .inr (6, [.int i0, .ref a1, .ref a2, .ref a3])), (a1, .inl (cI, 8, .inl xF0)), (a2, .inl (cI, 8, .inl g1_1)), (a3, .inl (cI, 8, .inl g2_1))]) [0, 1, 2, 3] rfl
              have hD9 := hD.sub (ws' := [(a0, .inr (6, [.int i0, .ref a1, .ref a2, .ref a3])), (a1, .inl (cI, 8, .inl xF0)), (a2, .inl (cI, 8, .inl g1_1)), (a3, .inl (cI, 8, .inl g2_1))]) [0, 1, 2, 3] (by decide) rfl
              rw [hQ]
              exact W.zret (v := 0) hx hb hr (by decide) (fun t ht hW => ⟨⟨0, (pickG 0 [], pickG (fun _ => 0) [g1_1, g2_1], pickG (fun _ => 0) []), rfl, ⟨(show (0 : Int) ≤ (0 : Int32).toInt ∧ (0 : Int32).toInt ≤ 1 from ⟨by omega, by omega⟩), trivial⟩, (by rw [ht]; exact hP9), hD9⟩, hS.F ht⟩) hS.2.2 dX6_findsRoom_132
            · rw [ki_le] at c147
              refine lv_iload hx hb dX6_findsRoom_31 (lv_at hl 5 rfl) ?_
              refine lv_bipush (v := 8) hx hb dX6_findsRoom_33 (by decide) ?_
              refine lv_icmp_ge (tgt := 131) hx hb dX6_findsRoom_35 (by decide) (fun c148 => ?_) (fun c148 => ?_)
              · rw [ki_le] at c148
                refine lv_iconst (v := 0) hx hb dX6_findsRoom_131 (by decide) ?_
                have hP9 := hP.sub (ws' := [(a0, .inr (6, [.int i0, .ref a1, .ref a2, .ref a3])), (a1, .inl (cI, 8, .inl xF0)), (a2, .inl (cI, 8, .inl g1_1)), (a3, .inl (cI, 8, .inl g2_1))]) [0, 1, 2, 3] rfl
                have hD9 := hD.sub (ws' := [(a0, .inr (6, [.int i0, .ref a1, .ref a2, .ref a3])), (a1, .inl (cI, 8, .inl xF0)), (a2, .inl (cI, 8, .inl g1_1)), (a3, .inl (cI, 8, .inl g2_1))]) [0, 1, 2, 3] (by decide) rfl
                rw [hQ]
                exact W.zret (v := 0) hx hb hr (by decide) (fun t ht hW => ⟨⟨0, (pickG 0 [], pickG (fun _ => 0) [g1_1, g2_1], pickG (fun _ => 0) []), rfl, ⟨(show (0 : Int) ≤ (0 : Int32).toInt ∧ (0 : Int32).toInt ≤ 1 from ⟨by omega, by omega⟩), trivial⟩, (by rw [ht]; exact hP9), hD9⟩, hS.F ht⟩) hS.2.2 dX6_findsRoom_132
              · rw [ki_le] at c148
                refine lv_aload_n hx hb dX6_findsRoom_38 rfl (lv_at hl 0 rfl) ?_
                refine va_get (D := (dC, dI)) (ci := 6) (v := .ref a3) (C := RX6) (T := TX6) (N := 4) hx hb hwd inlX6 hown hK hP 0 rfl rfl 3 (by decide) (hwd _ kr10_14) (fun _ h9 => h9) rfl dX6_findsRoom_39 ?_
                refine lv_iload hx hb dX6_findsRoom_42 (lv_at hl 5 rfl) ?_
                have h149 : vp_in w5_1 8 := (vp_of (by omega) (by omega))
                refine va_iald hx hb hK hP 3 0 rfl rfl h149 dX6_findsRoom_44 ?_
                refine lv_topi (fun x150 ex150 => ?_)
                refine lv_aload_n hx hb dX6_findsRoom_45 rfl (lv_at hl 0 rfl) ?_
                refine va_get (D := (dC, dI)) (ci := 6) (v := .ref a1) (C := RX6) (T := TX6) (N := 4) hx hb hwd inlX6 hown hK hP 0 rfl rfl 1 (by decide) (hwd _ kr10_10) (fun _ h9 => h9) rfl dX6_findsRoom_46 ?_
                refine lv_iload_n hx hb dX6_findsRoom_49 rfl (lv_at hl 1 rfl) ?_
                have h151 : vp_in p1 8 := (vp_of (by omega) (by omega))
                refine va_iald hx hb hK hP 1 0 rfl rfl h151 dX6_findsRoom_50 ?_
                refine lv_topi (fun x152 ex152 => ?_)
                refine lv_iadd hx hb dX6_findsRoom_51 ?_
                refine lv_topi (fun x153 ex153 => ?_)
                refine lv_iload hx hb dX6_findsRoom_52 (lv_at hl 4 rfl) ?_
                refine lv_icmp_gt (tgt := 125) hx hb dX6_findsRoom_54 (by decide) (fun c154 => ?_) (fun c154 => ?_)
                · rw [ki_lt] at c154
                  obtain ⟨x155, ex155⟩ : ∃ y : Int32, y = w5_1 + 1 := ⟨_, rfl⟩
                  refine lv_iinc (v := x155) (lv' := [(5, .int x155), (0, .ref a0), (1, .int p1), (2, .int p2), (3, .int p3), (4, .int p4)]) hx hb dX6_findsRoom_125 hl (k := 5) rfl (by rw [ex155]; rfl) (by decide) rfl (fun ls hl => ?_)
                  have tx155 := ia_add (a := w5_1) (b := (1 : Int32)) (by omega) (by omega)
                  rw [← ex155] at tx155
                  refine lv_goto (tgt := 19) hx hb dX6_findsRoom_128 (by decide) ?_
                  exact ih1 _ _ ls x155 g1_1 g2_1 (show (0 : Int) ≤ x155.toInt ∧ x155.toInt ≤ 8 from ⟨by omega, by omega⟩) (by omega) (hP.sub (ws' := [(a0, .inr (6, [.int i0, .ref a1, .ref a2, .ref a3])), (a1, .inl (cI, 8, .inl xF0)), (a2, .inl (cI, 8, .inl g1_1)), (a3, .inl (cI, 8, .inl g2_1))]) [0, 1, 2, 3] rfl) (hD.sub (ws' := [(a0, .inr (6, [.int i0, .ref a1, .ref a2, .ref a3])), (a1, .inl (cI, 8, .inl xF0)), (a2, .inl (cI, 8, .inl g1_1)), (a3, .inl (cI, 8, .inl g2_1))]) [0, 1, 2, 3] (by decide) rfl) hS (lv_sub hl [1, 2, 3, 4, 5, 0] rfl)
                · rw [ki_lt] at c154
                  refine lv_aload_n hx hb dX6_findsRoom_57 rfl (lv_at hl 0 rfl) ?_
                  refine va_get (D := (dC, dI)) (ci := 6) (v := .ref a3) (C := RX6) (T := TX6) (N := 4) hx hb hwd inlX6 hown hK hP 0 rfl rfl 3 (by decide) (hwd _ kr10_14) (fun _ h9 => h9) rfl dX6_findsRoom_58 ?_
                  refine lv_iload hx hb dX6_findsRoom_61 (lv_at hl 5 rfl) ?_
                  refine lv_dup2_11 hx hb dX6_findsRoom_63 rfl rfl ?_
                  have h156 : vp_in w5_1 8 := (vp_of (by omega) (by omega))
                  refine va_iald hx hb hK hP 3 0 rfl rfl h156 dX6_findsRoom_64 ?_
                  refine lv_topi (nm_r (e' := x150) ex150.symm ?_)
                  refine lv_aload_n hx hb dX6_findsRoom_65 rfl (lv_at hl 0 rfl) ?_
                  refine va_get (D := (dC, dI)) (ci := 6) (v := .ref a1) (C := RX6) (T := TX6) (N := 4) hx hb hwd inlX6 hown hK hP 0 rfl rfl 1 (by decide) (hwd _ kr10_10) (fun _ h9 => h9) rfl dX6_findsRoom_66 ?_
                  refine lv_iload_n hx hb dX6_findsRoom_69 rfl (lv_at hl 1 rfl) ?_
                  have h157 : vp_in p1 8 := (vp_of (by omega) (by omega))
                  refine va_iald hx hb hK hP 1 0 rfl rfl h157 dX6_findsRoom_70 ?_
                  refine lv_topi (nm_r (e' := x152) ex152.symm ?_)
                  refine lv_iadd hx hb dX6_findsRoom_71 ?_
                  refine lv_topi (fun x158 ex158 => ?_)
                  refine va_iast hx hb hK hP hD hS 3 0 rfl rfl (vp_of (by omega) (by omega)) dX6_findsRoom_72 (fun H locs hP hD hS => ?_)
                  obtain ⟨f159, ef159⟩ : ∃ f, f = upd g2_1 w5_1.toNatClampNeg x158 := ⟨_, rfl⟩
                  replace hP : va_P (dC, dI) vwCl [(a0, .inr (6, [.int i0, .ref a1, .ref a2, .ref a3])), (a1, .inl (cI, 8, .inl xF0)), (a2, .inl (cI, 8, .inl g1_1)), (a3, .inl (cI, 8, .inl f159))] H := by rw [ef159]; exact hP
                  replace hD : va_D A [(a0, .inr (6, [.int i0, .ref a1, .ref a2, .ref a3])), (a1, .inl (cI, 8, .inl xF0)), (a2, .inl (cI, 8, .inl g1_1)), (a3, .inl (cI, 8, .inl f159))] := by rw [ef159]; exact hD
                  refine lv_aload_n hx hb dX6_findsRoom_73 rfl (lv_at hl 0 rfl) ?_
                  refine va_get (D := (dC, dI)) (ci := 6) (v := .ref a2) (C := RX6) (T := TX6) (N := 4) hx hb hwd inlX6 hown hK hP 0 rfl rfl 2 (by decide) (hwd _ kr10_12) (fun _ h9 => h9) rfl dX6_findsRoom_74 ?_
                  refine lv_iload_n hx hb dX6_findsRoom_77 rfl (lv_at hl 1 rfl) ?_
                  refine lv_iload hx hb dX6_findsRoom_78 (lv_at hl 5 rfl) ?_
                  refine va_iast hx hb hK hP hD hS 2 0 rfl rfl (vp_of (by omega) (by omega)) dX6_findsRoom_80 (fun H locs hP hD hS => ?_)
                  obtain ⟨f160, ef160⟩ : ∃ f, f = upd g1_1 p1.toNatClampNeg w5_1 := ⟨_, rfl⟩
                  replace hP : va_P (dC, dI) vwCl [(a0, .inr (6, [.int i0, .ref a1, .ref a2, .ref a3])), (a1, .inl (cI, 8, .inl xF0)), (a2, .inl (cI, 8, .inl f160)), (a3, .inl (cI, 8, .inl f159))] H := by rw [ef160]; exact hP
                  replace hD : va_D A [(a0, .inr (6, [.int i0, .ref a1, .ref a2, .ref a3])), (a1, .inl (cI, 8, .inl xF0)), (a2, .inl (cI, 8, .inl f160)), (a3, .inl (cI, 8, .inl f159))] := by rw [ef160]; exact hD
                  refine lv_aload_n hx hb dX6_findsRoom_81 rfl (lv_at hl 0 rfl) ?_
                  refine lv_iload_n hx hb dX6_findsRoom_82 rfl (lv_at hl 1 rfl) ?_
                  refine lv_iconst (v := 1) hx hb dX6_findsRoom_83 (by decide) ?_
                  refine lv_iadd hx hb dX6_findsRoom_84 ?_
                  refine lv_topi (fun x161 ex161 => ?_)
                  have tx161 := ia_add (a := p1) (b := (1 : Int32)) (by omega) (by omega)
                  rw [← ex161] at tx161
                  refine lv_iload hx hb dX6_findsRoom_85 (lv_at hl 5 rfl) ?_
                  refine lv_iload_n hx hb dX6_findsRoom_87 rfl (lv_at hl 2 rfl) ?_
                  have jp7 : ∀ (H : Heap) (locs : List Loc) (ls : Array Slot) (z2_7 : Int32), ((0 : Int) ≤ z2_7.toInt ∧ z2_7.toInt ≤ 2147483647) → va_P (dC, dI) vwCl [(a0, .inr (6, [.int i0, .ref a1, .ref a2, .ref a3])), (a1, .inl (cI, 8, .inl xF0)), (a2, .inl (cI, 8, .inl f160)), (a3, .inl (cI, 8, .inl f159))] H → va_D A [(a0, .inr (6, [.int i0, .ref a1, .ref a2, .ref a3])), (a1, .inl (cI, 8, .inl xF0)), (a2, .inl (cI, 8, .inl f160)), (a3, .inl (cI, 8, .inl f159))] → va_S A s.heap H locs → lv_has ls 6 [(0, .ref a0), (1, .int p1), (2, .int p2), (3, .int p3), (4, .int p4), (5, .int w5_1)] → W p l e ({ frames := 3, cells := 0, slots := 0, locals := 75 } : Room) s m ([.ref a0, .int p1, .int p2, .int p3, .int p4] : List Value).toArray below meth c H locs 0 0 Q (F0 m 98 ls [.int z2_7, .int x161, .ref a0]) := by
                    intro H locs ls z2_7 hr_z2_7 hP hD hS hl
                    refine lv_iload_n hx hb dX6_findsRoom_98 rfl (lv_at hl 3 rfl) ?_
                    refine lv_iload hx hb dX6_findsRoom_99 (lv_at hl 4 rfl) ?_
                    have hPc := hP.sub (ws' := [(a0, .inr (6, [.int i0, .ref a1, .ref a2, .ref a3])), (a1, .inl (cI, 8, .inl xF0)), (a2, .inl (cI, 8, .inl f160)), (a3, .inl (cI, 8, .inl f159))]) [0, 1, 2, 3] rfl
                    have hDc := hD.sub (ws' := [(a0, .inr (6, [.int i0, .ref a1, .ref a2, .ref a3])), (a1, .inl (cI, 8, .inl xF0)), (a2, .inl (cI, 8, .inl f160)), (a3, .inl (cI, 8, .inl f159))]) [0, 1, 2, 3] (by decide) rfl
                    have hFc := va_free (wc := [(a0, .inr (6, [.int i0, .ref a1, .ref a2, .ref a3])), (a1, .inl (cI, 8, .inl xF0)), (a2, .inl (cI, 8, .inl f160)), (a3, .inl (cI, 8, .inl f159))]) hD hS hA [0, 1, 2, 3] rfl
                    refine va_calli (va_runS (As := [.ref a0, .int x161, .int z2_7, .int p3, .int p4]) (rest := []) ⟨hx, hb, hml, hown, hwd⟩ (s_X6_findsRoom_6 l dC dI cI cZ cB cJ cM cG a0 a1 a2 a3 i0 xF0 f160 f159 x161 z2_7 p3 p4 H.size (show (0 : Int) ≤ i0.toInt ∧ i0.toInt ≤ 8 from p_0) (show (6 : Int) ≤ x161.toInt ∧ x161.toInt ≤ 8 from ⟨by omega, by omega⟩)) (cwS 5 hwd (gS kr41_6 kr41_7 kr5_17 kr41_8) rfl rfl rfl (by decide +kernel) ⟨Nat.le_of_ble_eq_true rfl, Nat.le_of_ble_eq_true rfl⟩) (kPreS hPc hK hDc) rfl rfl hl.1 rfl (lv_room (Nat.le_of_ble_eq_true rfl)) dX6_findsRoom_101 ⟨Nat.le_of_ble_eq_true rfl, Nat.le_of_ble_eq_true rfl⟩) hS (fun q _ h => hFc q h) hFc (fun r175 u176 t H1 locs ht9 hvm hw hB hz1 hk1 hS => ?_)
                    obtain ⟨u177, U177, V177⟩ := u176
                    obtain ⟨hw178, -⟩ := hw
                    replace hw178 : (0 : Int) ≤ r175.toInt ∧ r175.toInt ≤ 1 := hw178
                    obtain ⟨hP1, hD1⟩ := hB
                    rw [ht9] at hP1
                    obtain ⟨hP, hD⟩ := va_join (wr := []) (w1 := [(a0, .inr (6, [.int i0, .ref a1, .ref a2, .ref a3])), (a1, .inl (cI, 8, .inl xF0)), (a2, .inl (cI, 8, .inl (U177 0))), (a3, .inl (cI, 8, .inl (U177 1)))]) hP hD [0, 1, 2, 3] [] rfl rfl (by decide) (by decide) hk1 hFc hP1 hD1
                    generalize H1 = H at hP hS ⊢
                    replace hP : va_P (dC, dI) vwCl [(a0, .inr (6, [.int i0, .ref a1, .ref a2, .ref a3])), (a1, .inl (cI, 8, .inl xF0)), (a2, .inl (cI, 8, .inl (U177 0))), (a3, .inl (cI, 8, .inl (U177 1)))] H := hP
                    replace hD : va_D A [(a0, .inr (6, [.int i0, .ref a1, .ref a2, .ref a3])), (a1, .inl (cI, 8, .inl xF0)), (a2, .inl (cI, 8, .inl (U177 0))), (a3, .inl (cI, 8, .inl (U177 1)))] := hD
                    refine lv_if_eq (tgt := 109) hx hb dX6_findsRoom_104 (by decide) (fun c179 => ?_) (fun c179 => ?_)
                    · rw [ki_eq] at c179
                      refine lv_aload_n hx hb dX6_findsRoom_109 rfl (lv_at hl 0 rfl) ?_
                      refine va_get (D := (dC, dI)) (ci := 6) (v := .ref a3) (C := RX6) (T := TX6) (N := 4) hx hb hwd inlX6 hown hK hP 0 rfl rfl 3 (by decide) (hwd _ kr10_14) (fun _ h9 => h9) rfl dX6_findsRoom_110 ?_
                      refine lv_iload hx hb dX6_findsRoom_113 (lv_at hl 5 rfl) ?_
                      refine lv_dup2_11 hx hb dX6_findsRoom_115 rfl rfl ?_
                      have h180 : vp_in w5_1 8 := (vp_of (by omega) (by omega))
                      refine va_iald hx hb hK hP 3 0 rfl rfl h180 dX6_findsRoom_116 ?_
                      refine lv_topi (fun x181 ex181 => ?_)
                      refine lv_aload_n hx hb dX6_findsRoom_117 rfl (lv_at hl 0 rfl) ?_
                      refine va_get (D := (dC, dI)) (ci := 6) (v := .ref a1) (C := RX6) (T := TX6) (N := 4) hx hb hwd inlX6 hown hK hP 0 rfl rfl 1 (by decide) (hwd _ kr10_10) (fun _ h9 => h9) rfl dX6_findsRoom_118 ?_
                      refine lv_iload_n hx hb dX6_findsRoom_121 rfl (lv_at hl 1 rfl) ?_
                      have h182 : vp_in p1 8 := (vp_of (by omega) (by omega))
                      refine va_iald hx hb hK hP 1 0 rfl rfl h182 dX6_findsRoom_122 ?_
                      refine lv_topi (nm_r (e' := x152) ex152.symm ?_)
                      refine lv_isub hx hb dX6_findsRoom_123 ?_
                      refine lv_topi (fun x183 ex183 => ?_)
                      refine va_iast hx hb hK hP hD hS 3 0 rfl rfl (vp_of (by omega) (by omega)) dX6_findsRoom_124 (fun H locs hP hD hS => ?_)
                      obtain ⟨f184, ef184⟩ : ∃ f, f = upd (U177 1) w5_1.toNatClampNeg x183 := ⟨_, rfl⟩
                      replace hP : va_P (dC, dI) vwCl [(a0, .inr (6, [.int i0, .ref a1, .ref a2, .ref a3])), (a1, .inl (cI, 8, .inl xF0)), (a2, .inl (cI, 8, .inl (U177 0))), (a3, .inl (cI, 8, .inl f184))] H := by rw [ef184]; exact hP
                      replace hD : va_D A [(a0, .inr (6, [.int i0, .ref a1, .ref a2, .ref a3])), (a1, .inl (cI, 8, .inl xF0)), (a2, .inl (cI, 8, .inl (U177 0))), (a3, .inl (cI, 8, .inl f184))] := by rw [ef184]; exact hD
                      obtain ⟨x185, ex185⟩ : ∃ y : Int32, y = w5_1 + 1 := ⟨_, rfl⟩
                      refine lv_iinc (v := x185) (lv' := [(5, .int x185), (0, .ref a0), (1, .int p1), (2, .int p2), (3, .int p3), (4, .int p4)]) hx hb dX6_findsRoom_125 hl (k := 5) rfl (by rw [ex185]; rfl) (by decide) rfl (fun ls hl => ?_)
                      have tx185 := ia_add (a := w5_1) (b := (1 : Int32)) (by omega) (by omega)
                      rw [← ex185] at tx185
                      refine lv_goto (tgt := 19) hx hb dX6_findsRoom_128 (by decide) ?_
                      exact ih1 _ _ ls x185 (U177 0) f184 (show (0 : Int) ≤ x185.toInt ∧ x185.toInt ≤ 8 from ⟨by omega, by omega⟩) (by omega) (hP.sub (ws' := [(a0, .inr (6, [.int i0, .ref a1, .ref a2, .ref a3])), (a1, .inl (cI, 8, .inl xF0)), (a2, .inl (cI, 8, .inl (U177 0))), (a3, .inl (cI, 8, .inl f184))]) [0, 1, 2, 3] rfl) (hD.sub (ws' := [(a0, .inr (6, [.int i0, .ref a1, .ref a2, .ref a3])), (a1, .inl (cI, 8, .inl xF0)), (a2, .inl (cI, 8, .inl (U177 0))), (a3, .inl (cI, 8, .inl f184))]) [0, 1, 2, 3] (by decide) rfl) hS (lv_sub hl [1, 2, 3, 4, 5, 0] rfl)
                    · rw [ki_eq] at c179
                      refine lv_iconst (v := 1) hx hb dX6_findsRoom_107 (by decide) ?_
                      have hP9 := hP.sub (ws' := [(a0, .inr (6, [.int i0, .ref a1, .ref a2, .ref a3])), (a1, .inl (cI, 8, .inl xF0)), (a2, .inl (cI, 8, .inl (U177 0))), (a3, .inl (cI, 8, .inl (U177 1)))]) [0, 1, 2, 3] rfl
                      have hD9 := hD.sub (ws' := [(a0, .inr (6, [.int i0, .ref a1, .ref a2, .ref a3])), (a1, .inl (cI, 8, .inl xF0)), (a2, .inl (cI, 8, .inl (U177 0))), (a3, .inl (cI, 8, .inl (U177 1)))]) [0, 1, 2, 3] (by decide) rfl
                      rw [hQ]
                      exact W.zret (v := 1) hx hb hr (by decide) (fun t ht hW => ⟨⟨1, (pickG 0 [], pickG (fun _ => 0) [(U177 0), (U177 1)], pickG (fun _ => 0) []), rfl, ⟨(show (0 : Int) ≤ (1 : Int32).toInt ∧ (1 : Int32).toInt ≤ 1 from ⟨by omega, by omega⟩), trivial⟩, (by rw [ht]; exact hP9), hD9⟩, hS.F ht⟩) hS.2.2 dX6_findsRoom_108
                  refine lv_icmp_ne (tgt := 97) hx hb dX6_findsRoom_88 (by decide) (fun c186 => ?_) (fun c186 => ?_)
                  · rw [ki_eq] at c186
                    refine lv_iload_n hx hb dX6_findsRoom_97 rfl (lv_at hl 2 rfl) ?_
                    exact jp7 _ _ ls p2 (show (0 : Int) ≤ p2.toInt ∧ p2.toInt ≤ 2147483647 from ⟨by omega, i32_hi⟩) (hP.sub (ws' := [(a0, .inr (6, [.int i0, .ref a1, .ref a2, .ref a3])), (a1, .inl (cI, 8, .inl xF0)), (a2, .inl (cI, 8, .inl f160)), (a3, .inl (cI, 8, .inl f159))]) [0, 1, 2, 3] rfl) (hD.sub (ws' := [(a0, .inr (6, [.int i0, .ref a1, .ref a2, .ref a3])), (a1, .inl (cI, 8, .inl xF0)), (a2, .inl (cI, 8, .inl f160)), (a3, .inl (cI, 8, .inl f159))]) [0, 1, 2, 3] (by decide) rfl) hS (lv_sub hl [0, 1, 2, 3, 4, 5] rfl)
                  · rw [ki_eq] at c186
                    refine lv_iload_n hx hb dX6_findsRoom_91 rfl (lv_at hl 2 rfl) ?_
                    refine lv_iconst (v := 1) hx hb dX6_findsRoom_92 (by decide) ?_
                    refine lv_iadd hx hb dX6_findsRoom_93 ?_
                    refine lv_topi (fun x187 ex187 => ?_)
                    have tx187 := ia_add (a := p2) (b := (1 : Int32)) (by omega) (by omega)
                    rw [← ex187] at tx187
                    refine lv_goto (tgt := 98) hx hb dX6_findsRoom_94 (by decide) ?_
                    exact jp7 _ _ ls x187 (show (0 : Int) ≤ x187.toInt ∧ x187.toInt ≤ 2147483647 from ⟨by omega, i32_hi⟩) (hP.sub (ws' := [(a0, .inr (6, [.int i0, .ref a1, .ref a2, .ref a3])), (a1, .inl (cI, 8, .inl xF0)), (a2, .inl (cI, 8, .inl f160)), (a3, .inl (cI, 8, .inl f159))]) [0, 1, 2, 3] rfl) (hD.sub (ws' := [(a0, .inr (6, [.int i0, .ref a1, .ref a2, .ref a3])), (a1, .inl (cI, 8, .inl xF0)), (a2, .inl (cI, 8, .inl f160)), (a3, .inl (cI, 8, .inl f159))]) [0, 1, 2, 3] (by decide) rfl) hS (lv_sub hl [0, 1, 2, 3, 4, 5] rfl)
      exact lp1 _ _ _ ls (0) xF1 xF2 (show (0 : Int) ≤ (0 : Int32).toInt ∧ (0 : Int32).toInt ≤ 8 from ⟨by omega, by omega⟩) (Nat.lt_succ_self _) (hP.sub (ws' := [(a0, .inr (6, [.int i0, .ref a1, .ref a2, .ref a3])), (a1, .inl (cI, 8, .inl xF0)), (a2, .inl (cI, 8, .inl xF1)), (a3, .inl (cI, 8, .inl xF2))]) [0, 1, 2, 3] rfl) (hD.sub (ws' := [(a0, .inr (6, [.int i0, .ref a1, .ref a2, .ref a3])), (a1, .inl (cI, 8, .inl xF0)), (a2, .inl (cI, 8, .inl xF1)), (a3, .inl (cI, 8, .inl xF2))]) [0, 1, 2, 3] (by decide) rfl) hS (lv_sub hl [1, 2, 3, 4, 5, 0] rfl)
    · rw [ki_lt] at c2
      exfalso
      omega
set_option maxHeartbeats 4000000 in
set_option maxRecDepth 100000 in
theorem s_X6_findsRoom_4 (l : Launch) (dC : Nat → ClassId) (dI : Nat → Nat → Nat) (cI cZ cB cJ cM cG : ClassId) (a0 a1 a2 a3 : Nat) (i0 : Int32) (xF0 xF1 xF2 : Nat → Int32) (p1 p2 p3 p4 : Int32) (sz : Nat) (p_0 : (0 : Int) ≤ i0.toInt ∧ i0.toInt ≤ 8) (p_1 : (4 : Int) ≤ p1.toInt ∧ p1.toInt ≤ 8) : Met l yX6_findsRoom (kw yX6_findsRoom cX6_findsRoom 6 (some .boolean)) ({ frames := 4, cells := 0, slots := 0, locals := 100 } : Room) (va_Pc [.ref a0, .int p1, .int p2, .int p3, .int p4] (kPre dC dI [(cI, .int), (cZ, .boolean), (cB, .byte), (cJ, .long), (cM, .object RX2), (cG, .array .int)] [(a0, .inr (6, [.int i0, .ref a1, .ref a2, .ref a3])), (a1, .inl (cI, 8, .inl xF0)), (a2, .inl (cI, 8, .inl xF1)), (a3, .inl (cI, 8, .inl xF2))] sz)) (va_Qi (fun (r : Int32) (u9 : (Nat → Int32) × (Nat → Nat → Int32) × (Nat → Nat → Int64)) => ((0 : Int) ≤ r.toInt ∧ r.toInt ≤ 1) ∧ True) (fun u9 t => va_P (dC, dI) vwCl [(a0, .inr (6, [.int i0, .ref a1, .ref a2, .ref a3])), (a1, .inl (cI, 8, .inl xF0)), (a2, .inl (cI, 8, .inl (u9.2.1 0))), (a3, .inl (cI, 8, .inl (u9.2.1 1)))] t.heap ∧ va_D (va_A [(a0, .inr (6, [.int i0, .ref a1, .ref a2, .ref a3])), (a1, .inl (cI, 8, .inl xF0)), (a2, .inl (cI, 8, .inl xF1)), (a3, .inl (cI, 8, .inl xF2))] sz) [(a0, .inr (6, [.int i0, .ref a1, .ref a2, .ref a3])), (a1, .inl (cI, 8, .inl xF0)), (a2, .inl (cI, 8, .inl (u9.2.1 0))), (a3, .inl (cI, 8, .inl (u9.2.1 1)))]) (va_A [(a0, .inr (6, [.int i0, .ref a1, .ref a2, .ref a3])), (a1, .inl (cI, 8, .inl xF0)), (a2, .inl (cI, 8, .inl xF1)), (a3, .inl (cI, 8, .inl xF2))] sz)) 0 0 (va_A [(a0, .inr (6, [.int i0, .ref a1, .ref a2, .ref a3])), (a1, .inl (cI, 8, .inl xF0)), (a2, .inl (cI, 8, .inl xF1)), (a3, .inl (cI, 8, .inl xF2))] sz) := by
  refine kEnter (by decide) (Nat.le_of_ble_eq_true rfl) ?_
  intro p e s m below meth c ls hx hb hr hml hown hlocks hin hwd hsz hP hK hD hl
  subst hsz
  generalize hAe : va_A [(a0, .inr (6, [.int i0, .ref a1, .ref a2, .ref a3])), (a1, .inl (cI, 8, .inl xF0)), (a2, .inl (cI, 8, .inl xF1)), (a3, .inl (cI, 8, .inl xF2))] s.heap.size = A at hD ⊢
  have hA : ∀ q : Nat, s.heap.size ≤ q → A q := fun q h => by rw [← hAe]; exact Or.inr h
  have hS : va_S A s.heap s.heap [] := va_S.rf
  have hl : lv_has ls 6 [(0, .ref a0), (1, .int p1), (2, .int p2), (3, .int p3), (4, .int p4)] := hl
  obtain ⟨Q, hQ⟩ : ∃ Q, Q = MQ below (va_Qi (fun (r : Int32) (u9 : (Nat → Int32) × (Nat → Nat → Int32) × (Nat → Nat → Int64)) => ((0 : Int) ≤ r.toInt ∧ r.toInt ≤ 1) ∧ True) (fun u9 t => va_P (dC, dI) vwCl [(a0, .inr (6, [.int i0, .ref a1, .ref a2, .ref a3])), (a1, .inl (cI, 8, .inl xF0)), (a2, .inl (cI, 8, .inl (u9.2.1 0))), (a3, .inl (cI, 8, .inl (u9.2.1 1)))] t.heap ∧ va_D A [(a0, .inr (6, [.int i0, .ref a1, .ref a2, .ref a3])), (a1, .inl (cI, 8, .inl xF0)), (a2, .inl (cI, 8, .inl (u9.2.1 0))), (a3, .inl (cI, 8, .inl (u9.2.1 1)))]) A) ([.ref a0, .int p1, .int p2, .int p3, .int p4] : List Value).toArray s 0 0 A := ⟨_, rfl⟩
  rw [← hQ]
  have k0 : (0 : Int32).toInt = 0 := by decide
  have k1 : (1 : Int32).toInt = 1 := by decide
  have k8 : (8 : Int32).toInt = 8 := by decide
  refine lv_iload_n hx hb dX6_findsRoom_0 rfl (lv_at hl 1 rfl) ?_
  refine lv_aload_n hx hb dX6_findsRoom_1 rfl (lv_at hl 0 rfl) ?_
  refine va_get (D := (dC, dI)) (ci := 6) (v := .int i0) (C := RX6) (T := TX6) (N := 4) hx hb hwd inlX6 hown hK hP 0 rfl rfl 0 (by decide) (hwd _ kr10_8) (fun _ h9 => h9) rfl dX6_findsRoom_2 ?_
  refine lv_icmp_ge (tgt := 14) hx hb dX6_findsRoom_5 (by decide) (fun c1 => ?_) (fun c1 => ?_)
  · rw [ki_le] at c1
    refine lv_iconst (v := 1) hx hb dX6_findsRoom_14 (by decide) ?_
    have hP9 := hP.sub (ws' := [(a0, .inr (6, [.int i0, .ref a1, .ref a2, .ref a3])), (a1, .inl (cI, 8, .inl xF0)), (a2, .inl (cI, 8, .inl xF1)), (a3, .inl (cI, 8, .inl xF2))]) [0, 1, 2, 3] rfl
    have hD9 := hD.sub (ws' := [(a0, .inr (6, [.int i0, .ref a1, .ref a2, .ref a3])), (a1, .inl (cI, 8, .inl xF0)), (a2, .inl (cI, 8, .inl xF1)), (a3, .inl (cI, 8, .inl xF2))]) [0, 1, 2, 3] (by decide) rfl
    rw [hQ]
    exact W.zret (v := 1) hx hb hr (by decide) (fun t ht hW => ⟨⟨1, (pickG 0 [], pickG (fun _ => 0) [xF1, xF2], pickG (fun _ => 0) []), rfl, ⟨(show (0 : Int) ≤ (1 : Int32).toInt ∧ (1 : Int32).toInt ≤ 1 from ⟨by omega, by omega⟩), trivial⟩, (by rw [ht]; exact hP9), hD9⟩, hS.F ht⟩) hS.2.2 dX6_findsRoom_15
  · rw [ki_le] at c1
    refine lv_iload_n hx hb dX6_findsRoom_8 rfl (lv_at hl 1 rfl) ?_
    refine lv_bipush (v := 8) hx hb dX6_findsRoom_9 (by decide) ?_
    refine lv_icmp_lt (tgt := 16) hx hb dX6_findsRoom_11 (by decide) (fun c2 => ?_) (fun c2 => ?_)
    · rw [ki_lt] at c2
      refine lv_iconst (v := 0) hx hb dX6_findsRoom_16 (by decide) ?_
      refine lv_istore (lv' := [(5, .int 0), (0, .ref a0), (1, .int p1), (2, .int p2), (3, .int p3), (4, .int p4)]) hx hb dX6_findsRoom_17 hl (by decide) rfl (fun ls hl => ?_)
      have lp1 : ∀ (d : Nat), ∀ (H : Heap) (locs : List Loc) (ls : Array Slot) (w5_1 : Int32) (g1_1 : Nat → Int32) (g2_1 : Nat → Int32), ((0 : Int) ≤ w5_1.toInt ∧ w5_1.toInt ≤ 8) → (8 - w5_1.toInt).toNat < d → va_P (dC, dI) vwCl [(a0, .inr (6, [.int i0, .ref a1, .ref a2, .ref a3])), (a1, .inl (cI, 8, .inl xF0)), (a2, .inl (cI, 8, .inl g1_1)), (a3, .inl (cI, 8, .inl g2_1))] H → va_D A [(a0, .inr (6, [.int i0, .ref a1, .ref a2, .ref a3])), (a1, .inl (cI, 8, .inl xF0)), (a2, .inl (cI, 8, .inl g1_1)), (a3, .inl (cI, 8, .inl g2_1))] → va_S A s.heap H locs → lv_has ls 6 [(0, .ref a0), (1, .int p1), (2, .int p2), (3, .int p3), (4, .int p4), (5, .int w5_1)] → W p l e ({ frames := 4, cells := 0, slots := 0, locals := 100 } : Room) s m ([.ref a0, .int p1, .int p2, .int p3, .int p4] : List Value).toArray below meth c H locs 0 0 Q (F0 m 19 ls []) := by
        intro d
        induction d with
        | zero =>
          intro H locs ls w5_1 g1_1 g2_1 hr_w5_1 hm hP hD hS hl
          omega
        | succ d ih1 =>
          intro H locs ls w5_1 g1_1 g2_1 hr_w5_1 hm hP hD hS hl
          refine lv_iload hx hb dX6_findsRoom_19 (lv_at hl 5 rfl) ?_
          refine lv_iload_n hx hb dX6_findsRoom_21 rfl (lv_at hl 2 rfl) ?_
          refine lv_icmp_gt (tgt := 131) hx hb dX6_findsRoom_22 (by decide) (fun c146 => ?_) (fun c146 => ?_)
          · rw [ki_lt] at c146
            refine lv_iconst (v := 0) hx hb dX6_findsRoom_131 (by decide) ?_
            have hP9 := hP.sub (ws' := [(a0, .inr (6, [.int i0, .ref a1, .ref a2, .ref a3])), (a1, .inl (cI, 8, .inl xF0)), (a2, .inl (cI, 8, .inl g1_1)), (a3, .inl (cI, 8, .inl g2_1))]) [0, 1, 2, 3] rfl
            have hD9 := hD.sub (ws' := [(a0, .inr (6, [.int i0, .ref a1, .ref a2, .ref a3])), (a1, .inl (cI, 8, .inl xF0)), (a2, .inl (cI, 8, .inl g1_1)), (a3, .inl (cI, 8, .inl g2_1))]) [0, 1, 2, 3] (by decide) rfl
            rw [hQ]
            exact W.zret (v := 0) hx hb hr (by decide) (fun t ht hW => ⟨⟨0, (pickG 0 [], pickG (fun _ => 0) [g1_1, g2_1], pickG (fun _ => 0) []), rfl, ⟨(show (0 : Int) ≤ (0 : Int32).toInt ∧ (0 : Int32).toInt ≤ 1 from ⟨by omega, by omega⟩), trivial⟩, (by rw [ht]; exact hP9), hD9⟩, hS.F ht⟩) hS.2.2 dX6_findsRoom_132
          · rw [ki_lt] at c146
            refine lv_iload hx hb dX6_findsRoom_25 (lv_at hl 5 rfl) ?_
            refine lv_iload_n hx hb dX6_findsRoom_27 rfl (lv_at hl 3 rfl) ?_
            refine lv_icmp_ge (tgt := 131) hx hb dX6_findsRoom_28 (by decide) (fun c147 => ?_) (fun c147 => ?_)
            · rw [ki_le] at c147
              refine lv_iconst (v := 0) hx hb dX6_findsRoom_131 (by decide) ?_
              have hP9 := hP.sub (ws' := [(a0, .inr (6, [.int i0, .ref a1, .ref a2, .ref a3])), (a1, .inl (cI, 8, .inl xF0)), (a2, .inl (cI, 8, .inl g1_1)), (a3, .inl (cI, 8, .inl g2_1))]) [0, 1, 2, 3] rfl
              have hD9 := hD.sub (ws' := [(a0, .inr (6, [.int i0, .ref a1, .ref a2, .ref a3])), (a1, .inl (cI, 8, .inl xF0)), (a2, .inl (cI, 8, .inl g1_1)), (a3, .inl (cI, 8, .inl g2_1))]) [0, 1, 2, 3] (by decide) rfl
              rw [hQ]
              exact W.zret (v := 0) hx hb hr (by decide) (fun t ht hW => ⟨⟨0, (pickG 0 [], pickG (fun _ => 0) [g1_1, g2_1], pickG (fun _ => 0) []), rfl, ⟨(show (0 : Int) ≤ (0 : Int32).toInt ∧ (0 : Int32).toInt ≤ 1 from ⟨by omega, by omega⟩), trivial⟩, (by rw [ht]; exact hP9), hD9⟩, hS.F ht⟩) hS.2.2 dX6_findsRoom_132
            · rw [ki_le] at c147
              refine lv_iload hx hb dX6_findsRoom_31 (lv_at hl 5 rfl) ?_
              refine lv_bipush (v := 8) hx hb dX6_findsRoom_33 (by decide) ?_
              refine lv_icmp_ge (tgt := 131) hx hb dX6_findsRoom_35 (by decide) (fun c148 => ?_) (fun c148 => ?_)
              · rw [ki_le] at c148
                refine lv_iconst (v := 0) hx hb dX6_findsRoom_131 (by decide) ?_
                have hP9 := hP.sub (ws' := [(a0, .inr (6, [.int i0, .ref a1, .ref a2, .ref a3])), (a1, .inl (cI, 8, .inl xF0)), (a2, .inl (cI, 8, .inl g1_1)), (a3, .inl (cI, 8, .inl g2_1))]) [0, 1, 2, 3] rfl
                have hD9 := hD.sub (ws' := [(a0, .inr (6, [.int i0, .ref a1, .ref a2, .ref a3])), (a1, .inl (cI, 8, .inl xF0)), (a2, .inl (cI, 8, .inl g1_1)), (a3, .inl (cI, 8, .inl g2_1))]) [0, 1, 2, 3] (by decide) rfl
                rw [hQ]
                exact W.zret (v := 0) hx hb hr (by decide) (fun t ht hW => ⟨⟨0, (pickG 0 [], pickG (fun _ => 0) [g1_1, g2_1], pickG (fun _ => 0) []), rfl, ⟨(show (0 : Int) ≤ (0 : Int32).toInt ∧ (0 : Int32).toInt ≤ 1 from ⟨by omega, by omega⟩), trivial⟩, (by rw [ht]; exact hP9), hD9⟩, hS.F ht⟩) hS.2.2 dX6_findsRoom_132
              · rw [ki_le] at c148
                refine lv_aload_n hx hb dX6_findsRoom_38 rfl (lv_at hl 0 rfl) ?_
                refine va_get (D := (dC, dI)) (ci := 6) (v := .ref a3) (C := RX6) (T := TX6) (N := 4) hx hb hwd inlX6 hown hK hP 0 rfl rfl 3 (by decide) (hwd _ kr10_14) (fun _ h9 => h9) rfl dX6_findsRoom_39 ?_
                refine lv_iload hx hb dX6_findsRoom_42 (lv_at hl 5 rfl) ?_
                have h149 : vp_in w5_1 8 := (vp_of (by omega) (by omega))
                refine va_iald hx hb hK hP 3 0 rfl rfl h149 dX6_findsRoom_44 ?_
                refine lv_topi (fun x150 ex150 => ?_)
                refine lv_aload_n hx hb dX6_findsRoom_45 rfl (lv_at hl 0 rfl) ?_
                refine va_get (D := (dC, dI)) (ci := 6) (v := .ref a1) (C := RX6) (T := TX6) (N := 4) hx hb hwd inlX6 hown hK hP 0 rfl rfl 1 (by decide) (hwd _ kr10_10) (fun _ h9 => h9) rfl dX6_findsRoom_46 ?_
                refine lv_iload_n hx hb dX6_findsRoom_49 rfl (lv_at hl 1 rfl) ?_
                have h151 : vp_in p1 8 := (vp_of (by omega) (by omega))
                refine va_iald hx hb hK hP 1 0 rfl rfl h151 dX6_findsRoom_50 ?_
                refine lv_topi (fun x152 ex152 => ?_)
                refine lv_iadd hx hb dX6_findsRoom_51 ?_
                refine lv_topi (fun x153 ex153 => ?_)
                refine lv_iload hx hb dX6_findsRoom_52 (lv_at hl 4 rfl) ?_
                refine lv_icmp_gt (tgt := 125) hx hb dX6_findsRoom_54 (by decide) (fun c154 => ?_) (fun c154 => ?_)
                · rw [ki_lt] at c154
                  obtain ⟨x155, ex155⟩ : ∃ y : Int32, y = w5_1 + 1 := ⟨_, rfl⟩
                  refine lv_iinc (v := x155) (lv' := [(5, .int x155), (0, .ref a0), (1, .int p1), (2, .int p2), (3, .int p3), (4, .int p4)]) hx hb dX6_findsRoom_125 hl (k := 5) rfl (by rw [ex155]; rfl) (by decide) rfl (fun ls hl => ?_)
                  have tx155 := ia_add (a := w5_1) (b := (1 : Int32)) (by omega) (by omega)
                  rw [← ex155] at tx155
                  refine lv_goto (tgt := 19) hx hb dX6_findsRoom_128 (by decide) ?_
                  exact ih1 _ _ ls x155 g1_1 g2_1 (show (0 : Int) ≤ x155.toInt ∧ x155.toInt ≤ 8 from ⟨by omega, by omega⟩) (by omega) (hP.sub (ws' := [(a0, .inr (6, [.int i0, .ref a1, .ref a2, .ref a3])), (a1, .inl (cI, 8, .inl xF0)), (a2, .inl (cI, 8, .inl g1_1)), (a3, .inl (cI, 8, .inl g2_1))]) [0, 1, 2, 3] rfl) (hD.sub (ws' := [(a0, .inr (6, [.int i0, .ref a1, .ref a2, .ref a3])), (a1, .inl (cI, 8, .inl xF0)), (a2, .inl (cI, 8, .inl g1_1)), (a3, .inl (cI, 8, .inl g2_1))]) [0, 1, 2, 3] (by decide) rfl) hS (lv_sub hl [1, 2, 3, 4, 5, 0] rfl)
                · rw [ki_lt] at c154
                  refine lv_aload_n hx hb dX6_findsRoom_57 rfl (lv_at hl 0 rfl) ?_
                  refine va_get (D := (dC, dI)) (ci := 6) (v := .ref a3) (C := RX6) (T := TX6) (N := 4) hx hb hwd inlX6 hown hK hP 0 rfl rfl 3 (by decide) (hwd _ kr10_14) (fun _ h9 => h9) rfl dX6_findsRoom_58 ?_
                  refine lv_iload hx hb dX6_findsRoom_61 (lv_at hl 5 rfl) ?_
                  refine lv_dup2_11 hx hb dX6_findsRoom_63 rfl rfl ?_
                  have h156 : vp_in w5_1 8 := (vp_of (by omega) (by omega))
                  refine va_iald hx hb hK hP 3 0 rfl rfl h156 dX6_findsRoom_64 ?_
                  refine lv_topi (nm_r (e' := x150) ex150.symm ?_)
                  refine lv_aload_n hx hb dX6_findsRoom_65 rfl (lv_at hl 0 rfl) ?_
                  refine va_get (D := (dC, dI)) (ci := 6) (v := .ref a1) (C := RX6) (T := TX6) (N := 4) hx hb hwd inlX6 hown hK hP 0 rfl rfl 1 (by decide) (hwd _ kr10_10) (fun _ h9 => h9) rfl dX6_findsRoom_66 ?_
                  refine lv_iload_n hx hb dX6_findsRoom_69 rfl (lv_at hl 1 rfl) ?_
                  have h157 : vp_in p1 8 := (vp_of (by omega) (by omega))
                  refine va_iald hx hb hK hP 1 0 rfl rfl h157 dX6_findsRoom_70 ?_
                  refine lv_topi (nm_r (e' := x152) ex152.symm ?_)
                  refine lv_iadd hx hb dX6_findsRoom_71 ?_
                  refine lv_topi (fun x158 ex158 => ?_)
                  refine va_iast hx hb hK hP hD hS 3 0 rfl rfl (vp_of (by omega) (by omega)) dX6_findsRoom_72 (fun H locs hP hD hS => ?_)
                  obtain ⟨f159, ef159⟩ : ∃ f, f = upd g2_1 w5_1.toNatClampNeg x158 := ⟨_, rfl⟩
                  replace hP : va_P (dC, dI) vwCl [(a0, .inr (6, [.int i0, .ref a1, .ref a2, .ref a3])), (a1, .inl (cI, 8, .inl xF0)), (a2, .inl (cI, 8, .inl g1_1)), (a3, .inl (cI, 8, .inl f159))] H := by rw [ef159]; exact hP
                  replace hD : va_D A [(a0, .inr (6, [.int i0, .ref a1, .ref a2, .ref a3])), (a1, .inl (cI, 8, .inl xF0)), (a2, .inl (cI, 8, .inl g1_1)), (a3, .inl (cI, 8, .inl f159))] := by rw [ef159]; exact hD
                  refine lv_aload_n hx hb dX6_findsRoom_73 rfl (lv_at hl 0 rfl) ?_
                  refine va_get (D := (dC, dI)) (ci := 6) (v := .ref a2) (C := RX6) (T := TX6) (N := 4) hx hb hwd inlX6 hown hK hP 0 rfl rfl 2 (by decide) (hwd _ kr10_12) (fun _ h9 => h9) rfl dX6_findsRoom_74 ?_
                  refine lv_iload_n hx hb dX6_findsRoom_77 rfl (lv_at hl 1 rfl) ?_
                  refine lv_iload hx hb dX6_findsRoom_78 (lv_at hl 5 rfl) ?_
                  refine va_iast hx hb hK hP hD hS 2 0 rfl rfl (vp_of (by omega) (by omega)) dX6_findsRoom_80 (fun H locs hP hD hS => ?_)
                  obtain ⟨f160, ef160⟩ : ∃ f, f = upd g1_1 p1.toNatClampNeg w5_1 := ⟨_, rfl⟩
                  replace hP : va_P (dC, dI) vwCl [(a0, .inr (6, [.int i0, .ref a1, .ref a2, .ref a3])), (a1, .inl (cI, 8, .inl xF0)), (a2, .inl (cI, 8, .inl f160)), (a3, .inl (cI, 8, .inl f159))] H := by rw [ef160]; exact hP
                  replace hD : va_D A [(a0, .inr (6, [.int i0, .ref a1, .ref a2, .ref a3])), (a1, .inl (cI, 8, .inl xF0)), (a2, .inl (cI, 8, .inl f160)), (a3, .inl (cI, 8, .inl f159))] := by rw [ef160]; exact hD
                  refine lv_aload_n hx hb dX6_findsRoom_81 rfl (lv_at hl 0 rfl) ?_
                  refine lv_iload_n hx hb dX6_findsRoom_82 rfl (lv_at hl 1 rfl) ?_
                  refine lv_iconst (v := 1) hx hb dX6_findsRoom_83 (by decide) ?_
                  refine lv_iadd hx hb dX6_findsRoom_84 ?_
                  refine lv_topi (fun x161 ex161 => ?_)
                  have tx161 := ia_add (a := p1) (b := (1 : Int32)) (by omega) (by omega)
                  rw [← ex161] at tx161
                  refine lv_iload hx hb dX6_findsRoom_85 (lv_at hl 5 rfl) ?_
                  refine lv_iload_n hx hb dX6_findsRoom_87 rfl (lv_at hl 2 rfl) ?_
                  have jp7 : ∀ (H : Heap) (locs : List Loc) (ls : Array Slot) (z2_7 : Int32), ((0 : Int) ≤ z2_7.toInt ∧ z2_7.toInt ≤ 2147483647) → va_P (dC, dI) vwCl [(a0, .inr (6, [.int i0, .ref a1, .ref a2, .ref a3])), (a1, .inl (cI, 8, .inl xF0)), (a2, .inl (cI, 8, .inl f160)), (a3, .inl (cI, 8, .inl f159))] H → va_D A [(a0, .inr (6, [.int i0, .ref a1, .ref a2, .ref a3])), (a1, .inl (cI, 8, .inl xF0)), (a2, .inl (cI, 8, .inl f160)), (a3, .inl (cI, 8, .inl f159))] → va_S A s.heap H locs → lv_has ls 6 [(0, .ref a0), (1, .int p1), (2, .int p2), (3, .int p3), (4, .int p4), (5, .int w5_1)] → W p l e ({ frames := 4, cells := 0, slots := 0, locals := 100 } : Room) s m ([.ref a0, .int p1, .int p2, .int p3, .int p4] : List Value).toArray below meth c H locs 0 0 Q (F0 m 98 ls [.int z2_7, .int x161, .ref a0]) := by
                    intro H locs ls z2_7 hr_z2_7 hP hD hS hl
                    refine lv_iload_n hx hb dX6_findsRoom_98 rfl (lv_at hl 3 rfl) ?_
                    refine lv_iload hx hb dX6_findsRoom_99 (lv_at hl 4 rfl) ?_
                    have hPc := hP.sub (ws' := [(a0, .inr (6, [.int i0, .ref a1, .ref a2, .ref a3])), (a1, .inl (cI, 8, .inl xF0)), (a2, .inl (cI, 8, .inl f160)), (a3, .inl (cI, 8, .inl f159))]) [0, 1, 2, 3] rfl
                    have hDc := hD.sub (ws' := [(a0, .inr (6, [.int i0, .ref a1, .ref a2, .ref a3])), (a1, .inl (cI, 8, .inl xF0)), (a2, .inl (cI, 8, .inl f160)), (a3, .inl (cI, 8, .inl f159))]) [0, 1, 2, 3] (by decide) rfl
                    have hFc := va_free (wc := [(a0, .inr (6, [.int i0, .ref a1, .ref a2, .ref a3])), (a1, .inl (cI, 8, .inl xF0)), (a2, .inl (cI, 8, .inl f160)), (a3, .inl (cI, 8, .inl f159))]) hD hS hA [0, 1, 2, 3] rfl
                    refine va_calli (va_runS (As := [.ref a0, .int x161, .int z2_7, .int p3, .int p4]) (rest := []) ⟨hx, hb, hml, hown, hwd⟩ (s_X6_findsRoom_5 l dC dI cI cZ cB cJ cM cG a0 a1 a2 a3 i0 xF0 f160 f159 x161 z2_7 p3 p4 H.size (show (0 : Int) ≤ i0.toInt ∧ i0.toInt ≤ 8 from p_0) (show (5 : Int) ≤ x161.toInt ∧ x161.toInt ≤ 8 from ⟨by omega, by omega⟩)) (cwS 5 hwd (gS kr41_6 kr41_7 kr5_17 kr41_8) rfl rfl rfl (by decide +kernel) ⟨Nat.le_of_ble_eq_true rfl, Nat.le_of_ble_eq_true rfl⟩) (kPreS hPc hK hDc) rfl rfl hl.1 rfl (lv_room (Nat.le_of_ble_eq_true rfl)) dX6_findsRoom_101 ⟨Nat.le_of_ble_eq_true rfl, Nat.le_of_ble_eq_true rfl⟩) hS (fun q _ h => hFc q h) hFc (fun r175 u176 t H1 locs ht9 hvm hw hB hz1 hk1 hS => ?_)
                    obtain ⟨u177, U177, V177⟩ := u176
                    obtain ⟨hw178, -⟩ := hw
                    replace hw178 : (0 : Int) ≤ r175.toInt ∧ r175.toInt ≤ 1 := hw178
                    obtain ⟨hP1, hD1⟩ := hB
                    rw [ht9] at hP1
                    obtain ⟨hP, hD⟩ := va_join (wr := []) (w1 := [(a0, .inr (6, [.int i0, .ref a1, .ref a2, .ref a3])), (a1, .inl (cI, 8, .inl xF0)), (a2, .inl (cI, 8, .inl (U177 0))), (a3, .inl (cI, 8, .inl (U177 1)))]) hP hD [0, 1, 2, 3] [] rfl rfl (by decide) (by decide) hk1 hFc hP1 hD1
                    generalize H1 = H at hP hS ⊢
                    replace hP : va_P (dC, dI) vwCl [(a0, .inr (6, [.int i0, .ref a1, .ref a2, .ref a3])), (a1, .inl (cI, 8, .inl xF0)), (a2, .inl (cI, 8, .inl (U177 0))), (a3, .inl (cI, 8, .inl (U177 1)))] H := hP
                    replace hD : va_D A [(a0, .inr (6, [.int i0, .ref a1, .ref a2, .ref a3])), (a1, .inl (cI, 8, .inl xF0)), (a2, .inl (cI, 8, .inl (U177 0))), (a3, .inl (cI, 8, .inl (U177 1)))] := hD
                    refine lv_if_eq (tgt := 109) hx hb dX6_findsRoom_104 (by decide) (fun c179 => ?_) (fun c179 => ?_)
                    · rw [ki_eq] at c179
                      refine lv_aload_n hx hb dX6_findsRoom_109 rfl (lv_at hl 0 rfl) ?_
                      refine va_get (D := (dC, dI)) (ci := 6) (v := .ref a3) (C := RX6) (T := TX6) (N := 4) hx hb hwd inlX6 hown hK hP 0 rfl rfl 3 (by decide) (hwd _ kr10_14) (fun _ h9 => h9) rfl dX6_findsRoom_110 ?_
                      refine lv_iload hx hb dX6_findsRoom_113 (lv_at hl 5 rfl) ?_
                      refine lv_dup2_11 hx hb dX6_findsRoom_115 rfl rfl ?_
                      have h180 : vp_in w5_1 8 := (vp_of (by omega) (by omega))
                      refine va_iald hx hb hK hP 3 0 rfl rfl h180 dX6_findsRoom_116 ?_
                      refine lv_topi (fun x181 ex181 => ?_)
                      refine lv_aload_n hx hb dX6_findsRoom_117 rfl (lv_at hl 0 rfl) ?_
                      refine va_get (D := (dC, dI)) (ci := 6) (v := .ref a1) (C := RX6) (T := TX6) (N := 4) hx hb hwd inlX6 hown hK hP 0 rfl rfl 1 (by decide) (hwd _ kr10_10) (fun _ h9 => h9) rfl dX6_findsRoom_118 ?_
                      refine lv_iload_n hx hb dX6_findsRoom_121 rfl (lv_at hl 1 rfl) ?_
                      have h182 : vp_in p1 8 := (vp_of (by omega) (by omega))
                      refine va_iald hx hb hK hP 1 0 rfl rfl h182 dX6_findsRoom_122 ?_
                      refine lv_topi (nm_r (e' := x152) ex152.symm ?_)
                      refine lv_isub hx hb dX6_findsRoom_123 ?_
                      refine lv_topi (fun x183 ex183 => ?_)
                      refine va_iast hx hb hK hP hD hS 3 0 rfl rfl (vp_of (by omega) (by omega)) dX6_findsRoom_124 (fun H locs hP hD hS => ?_)
                      obtain ⟨f184, ef184⟩ : ∃ f, f = upd (U177 1) w5_1.toNatClampNeg x183 := ⟨_, rfl⟩
                      replace hP : va_P (dC, dI) vwCl [(a0, .inr (6, [.int i0, .ref a1, .ref a2, .ref a3])), (a1, .inl (cI, 8, .inl xF0)), (a2, .inl (cI, 8, .inl (U177 0))), (a3, .inl (cI, 8, .inl f184))] H := by rw [ef184]; exact hP
                      replace hD : va_D A [(a0, .inr (6, [.int i0, .ref a1, .ref a2, .ref a3])), (a1, .inl (cI, 8, .inl xF0)), (a2, .inl (cI, 8, .inl (U177 0))), (a3, .inl (cI, 8, .inl f184))] := by rw [ef184]; exact hD
                      obtain ⟨x185, ex185⟩ : ∃ y : Int32, y = w5_1 + 1 := ⟨_, rfl⟩
                      refine lv_iinc (v := x185) (lv' := [(5, .int x185), (0, .ref a0), (1, .int p1), (2, .int p2), (3, .int p3), (4, .int p4)]) hx hb dX6_findsRoom_125 hl (k := 5) rfl (by rw [ex185]; rfl) (by decide) rfl (fun ls hl => ?_)
                      have tx185 := ia_add (a := w5_1) (b := (1 : Int32)) (by omega) (by omega)
                      rw [← ex185] at tx185
                      refine lv_goto (tgt := 19) hx hb dX6_findsRoom_128 (by decide) ?_
                      exact ih1 _ _ ls x185 (U177 0) f184 (show (0 : Int) ≤ x185.toInt ∧ x185.toInt ≤ 8 from ⟨by omega, by omega⟩) (by omega) (hP.sub (ws' := [(a0, .inr (6, [.int i0, .ref a1, .ref a2, .ref a3])), (a1, .inl (cI, 8, .inl xF0)), (a2, .inl (cI, 8, .inl (U177 0))), (a3, .inl (cI, 8, .inl f184))]) [0, 1, 2, 3] rfl) (hD.sub (ws' := [(a0, .inr (6, [.int i0, .ref a1, .ref a2, .ref a3])), (a1, .inl (cI, 8, .inl xF0)), (a2, .inl (cI, 8, .inl (U177 0))), (a3, .inl (cI, 8, .inl f184))]) [0, 1, 2, 3] (by decide) rfl) hS (lv_sub hl [1, 2, 3, 4, 5, 0] rfl)
                    · rw [ki_eq] at c179
                      refine lv_iconst (v := 1) hx hb dX6_findsRoom_107 (by decide) ?_
                      have hP9 := hP.sub (ws' := [(a0, .inr (6, [.int i0, .ref a1, .ref a2, .ref a3])), (a1, .inl (cI, 8, .inl xF0)), (a2, .inl (cI, 8, .inl (U177 0))), (a3, .inl (cI, 8, .inl (U177 1)))]) [0, 1, 2, 3] rfl
                      have hD9 := hD.sub (ws' := [(a0, .inr (6, [.int i0, .ref a1, .ref a2, .ref a3])), (a1, .inl (cI, 8, .inl xF0)), (a2, .inl (cI, 8, .inl (U177 0))), (a3, .inl (cI, 8, .inl (U177 1)))]) [0, 1, 2, 3] (by decide) rfl
                      rw [hQ]
                      exact W.zret (v := 1) hx hb hr (by decide) (fun t ht hW => ⟨⟨1, (pickG 0 [], pickG (fun _ => 0) [(U177 0), (U177 1)], pickG (fun _ => 0) []), rfl, ⟨(show (0 : Int) ≤ (1 : Int32).toInt ∧ (1 : Int32).toInt ≤ 1 from ⟨by omega, by omega⟩), trivial⟩, (by rw [ht]; exact hP9), hD9⟩, hS.F ht⟩) hS.2.2 dX6_findsRoom_108
                  refine lv_icmp_ne (tgt := 97) hx hb dX6_findsRoom_88 (by decide) (fun c186 => ?_) (fun c186 => ?_)
                  · rw [ki_eq] at c186
                    refine lv_iload_n hx hb dX6_findsRoom_97 rfl (lv_at hl 2 rfl) ?_
                    exact jp7 _ _ ls p2 (show (0 : Int) ≤ p2.toInt ∧ p2.toInt ≤ 2147483647 from ⟨by omega, i32_hi⟩) (hP.sub (ws' := [(a0, .inr (6, [.int i0, .ref a1, .ref a2, .ref a3])), (a1, .inl (cI, 8, .inl xF0)), (a2, .inl (cI, 8, .inl f160)), (a3, .inl (cI, 8, .inl f159))]) [0, 1, 2, 3] rfl) (hD.sub (ws' := [(a0, .inr (6, [.int i0, .ref a1, .ref a2, .ref a3])), (a1, .inl (cI, 8, .inl xF0)), (a2, .inl (cI, 8, .inl f160)), (a3, .inl (cI, 8, .inl f159))]) [0, 1, 2, 3] (by decide) rfl) hS (lv_sub hl [0, 1, 2, 3, 4, 5] rfl)
                  · rw [ki_eq] at c186
                    refine lv_iload_n hx hb dX6_findsRoom_91 rfl (lv_at hl 2 rfl) ?_
                    refine lv_iconst (v := 1) hx hb dX6_findsRoom_92 (by decide) ?_
                    refine lv_iadd hx hb dX6_findsRoom_93 ?_
                    refine lv_topi (fun x187 ex187 => ?_)
                    have tx187 := ia_add (a := p2) (b := (1 : Int32)) (by omega) (by omega)
                    rw [← ex187] at tx187
                    refine lv_goto (tgt := 98) hx hb dX6_findsRoom_94 (by decide) ?_
                    exact jp7 _ _ ls x187 (show (0 : Int) ≤ x187.toInt ∧ x187.toInt ≤ 2147483647 from ⟨by omega, i32_hi⟩) (hP.sub (ws' := [(a0, .inr (6, [.int i0, .ref a1, .ref a2, .ref a3])), (a1, .inl (cI, 8, .inl xF0)), (a2, .inl (cI, 8, .inl f160)), (a3, .inl (cI, 8, .inl f159))]) [0, 1, 2, 3] rfl) (hD.sub (ws' := [(a0, .inr (6, [.int i0, .ref a1, .ref a2, .ref a3])), (a1, .inl (cI, 8, .inl xF0)), (a2, .inl (cI, 8, .inl f160)), (a3, .inl (cI, 8, .inl f159))]) [0, 1, 2, 3] (by decide) rfl) hS (lv_sub hl [0, 1, 2, 3, 4, 5] rfl)
      exact lp1 _ _ _ ls (0) xF1 xF2 (show (0 : Int) ≤ (0 : Int32).toInt ∧ (0 : Int32).toInt ≤ 8 from ⟨by omega, by omega⟩) (Nat.lt_succ_self _) (hP.sub (ws' := [(a0, .inr (6, [.int i0, .ref a1, .ref a2, .ref a3])), (a1, .inl (cI, 8, .inl xF0)), (a2, .inl (cI, 8, .inl xF1)), (a3, .inl (cI, 8, .inl xF2))]) [0, 1, 2, 3] rfl) (hD.sub (ws' := [(a0, .inr (6, [.int i0, .ref a1, .ref a2, .ref a3])), (a1, .inl (cI, 8, .inl xF0)), (a2, .inl (cI, 8, .inl xF1)), (a3, .inl (cI, 8, .inl xF2))]) [0, 1, 2, 3] (by decide) rfl) hS (lv_sub hl [1, 2, 3, 4, 5, 0] rfl)
    · rw [ki_lt] at c2
      exfalso
      omega
set_option maxHeartbeats 4000000 in
set_option maxRecDepth 100000 in
theorem s_X6_findsRoom_3 (l : Launch) (dC : Nat → ClassId) (dI : Nat → Nat → Nat) (cI cZ cB cJ cM cG : ClassId) (a0 a1 a2 a3 : Nat) (i0 : Int32) (xF0 xF1 xF2 : Nat → Int32) (p1 p2 p3 p4 : Int32) (sz : Nat) (p_0 : (0 : Int) ≤ i0.toInt ∧ i0.toInt ≤ 8) (p_1 : (3 : Int) ≤ p1.toInt ∧ p1.toInt ≤ 8) : Met l yX6_findsRoom (kw yX6_findsRoom cX6_findsRoom 6 (some .boolean)) ({ frames := 5, cells := 0, slots := 0, locals := 125 } : Room) (va_Pc [.ref a0, .int p1, .int p2, .int p3, .int p4] (kPre dC dI [(cI, .int), (cZ, .boolean), (cB, .byte), (cJ, .long), (cM, .object RX2), (cG, .array .int)] [(a0, .inr (6, [.int i0, .ref a1, .ref a2, .ref a3])), (a1, .inl (cI, 8, .inl xF0)), (a2, .inl (cI, 8, .inl xF1)), (a3, .inl (cI, 8, .inl xF2))] sz)) (va_Qi (fun (r : Int32) (u9 : (Nat → Int32) × (Nat → Nat → Int32) × (Nat → Nat → Int64)) => ((0 : Int) ≤ r.toInt ∧ r.toInt ≤ 1) ∧ True) (fun u9 t => va_P (dC, dI) vwCl [(a0, .inr (6, [.int i0, .ref a1, .ref a2, .ref a3])), (a1, .inl (cI, 8, .inl xF0)), (a2, .inl (cI, 8, .inl (u9.2.1 0))), (a3, .inl (cI, 8, .inl (u9.2.1 1)))] t.heap ∧ va_D (va_A [(a0, .inr (6, [.int i0, .ref a1, .ref a2, .ref a3])), (a1, .inl (cI, 8, .inl xF0)), (a2, .inl (cI, 8, .inl xF1)), (a3, .inl (cI, 8, .inl xF2))] sz) [(a0, .inr (6, [.int i0, .ref a1, .ref a2, .ref a3])), (a1, .inl (cI, 8, .inl xF0)), (a2, .inl (cI, 8, .inl (u9.2.1 0))), (a3, .inl (cI, 8, .inl (u9.2.1 1)))]) (va_A [(a0, .inr (6, [.int i0, .ref a1, .ref a2, .ref a3])), (a1, .inl (cI, 8, .inl xF0)), (a2, .inl (cI, 8, .inl xF1)), (a3, .inl (cI, 8, .inl xF2))] sz)) 0 0 (va_A [(a0, .inr (6, [.int i0, .ref a1, .ref a2, .ref a3])), (a1, .inl (cI, 8, .inl xF0)), (a2, .inl (cI, 8, .inl xF1)), (a3, .inl (cI, 8, .inl xF2))] sz) := by
  refine kEnter (by decide) (Nat.le_of_ble_eq_true rfl) ?_
  intro p e s m below meth c ls hx hb hr hml hown hlocks hin hwd hsz hP hK hD hl
  subst hsz
  generalize hAe : va_A [(a0, .inr (6, [.int i0, .ref a1, .ref a2, .ref a3])), (a1, .inl (cI, 8, .inl xF0)), (a2, .inl (cI, 8, .inl xF1)), (a3, .inl (cI, 8, .inl xF2))] s.heap.size = A at hD ⊢
  have hA : ∀ q : Nat, s.heap.size ≤ q → A q := fun q h => by rw [← hAe]; exact Or.inr h
  have hS : va_S A s.heap s.heap [] := va_S.rf
  have hl : lv_has ls 6 [(0, .ref a0), (1, .int p1), (2, .int p2), (3, .int p3), (4, .int p4)] := hl
  obtain ⟨Q, hQ⟩ : ∃ Q, Q = MQ below (va_Qi (fun (r : Int32) (u9 : (Nat → Int32) × (Nat → Nat → Int32) × (Nat → Nat → Int64)) => ((0 : Int) ≤ r.toInt ∧ r.toInt ≤ 1) ∧ True) (fun u9 t => va_P (dC, dI) vwCl [(a0, .inr (6, [.int i0, .ref a1, .ref a2, .ref a3])), (a1, .inl (cI, 8, .inl xF0)), (a2, .inl (cI, 8, .inl (u9.2.1 0))), (a3, .inl (cI, 8, .inl (u9.2.1 1)))] t.heap ∧ va_D A [(a0, .inr (6, [.int i0, .ref a1, .ref a2, .ref a3])), (a1, .inl (cI, 8, .inl xF0)), (a2, .inl (cI, 8, .inl (u9.2.1 0))), (a3, .inl (cI, 8, .inl (u9.2.1 1)))]) A) ([.ref a0, .int p1, .int p2, .int p3, .int p4] : List Value).toArray s 0 0 A := ⟨_, rfl⟩
  rw [← hQ]
  have k0 : (0 : Int32).toInt = 0 := by decide
  have k1 : (1 : Int32).toInt = 1 := by decide
  have k8 : (8 : Int32).toInt = 8 := by decide
  refine lv_iload_n hx hb dX6_findsRoom_0 rfl (lv_at hl 1 rfl) ?_
  refine lv_aload_n hx hb dX6_findsRoom_1 rfl (lv_at hl 0 rfl) ?_
  refine va_get (D := (dC, dI)) (ci := 6) (v := .int i0) (C := RX6) (T := TX6) (N := 4) hx hb hwd inlX6 hown hK hP 0 rfl rfl 0 (by decide) (hwd _ kr10_8) (fun _ h9 => h9) rfl dX6_findsRoom_2 ?_
  refine lv_icmp_ge (tgt := 14) hx hb dX6_findsRoom_5 (by decide) (fun c1 => ?_) (fun c1 => ?_)
  · rw [ki_le] at c1
    refine lv_iconst (v := 1) hx hb dX6_findsRoom_14 (by decide) ?_
    have hP9 := hP.sub (ws' := [(a0, .inr (6, [.int i0, .ref a1, .ref a2, .ref a3])), (a1, .inl (cI, 8, .inl xF0)), (a2, .inl (cI, 8, .inl xF1)), (a3, .inl (cI, 8, .inl xF2))]) [0, 1, 2, 3] rfl
    have hD9 := hD.sub (ws' := [(a0, .inr (6, [.int i0, .ref a1, .ref a2, .ref a3])), (a1, .inl (cI, 8, .inl xF0)), (a2, .inl (cI, 8, .inl xF1)), (a3, .inl (cI, 8, .inl xF2))]) [0, 1, 2, 3] (by decide) rfl
    rw [hQ]
    exact W.zret (v := 1) hx hb hr (by decide) (fun t ht hW => ⟨⟨1, (pickG 0 [], pickG (fun _ => 0) [xF1, xF2], pickG (fun _ => 0) []), rfl, ⟨(show (0 : Int) ≤ (1 : Int32).toInt ∧ (1 : Int32).toInt ≤ 1 from ⟨by omega, by omega⟩), trivial⟩, (by rw [ht]; exact hP9), hD9⟩, hS.F ht⟩) hS.2.2 dX6_findsRoom_15
  · rw [ki_le] at c1
    refine lv_iload_n hx hb dX6_findsRoom_8 rfl (lv_at hl 1 rfl) ?_
    refine lv_bipush (v := 8) hx hb dX6_findsRoom_9 (by decide) ?_
    refine lv_icmp_lt (tgt := 16) hx hb dX6_findsRoom_11 (by decide) (fun c2 => ?_) (fun c2 => ?_)
    · rw [ki_lt] at c2
      refine lv_iconst (v := 0) hx hb dX6_findsRoom_16 (by decide) ?_
      refine lv_istore (lv' := [(5, .int 0), (0, .ref a0), (1, .int p1), (2, .int p2), (3, .int p3), (4, .int p4)]) hx hb dX6_findsRoom_17 hl (by decide) rfl (fun ls hl => ?_)
      have lp1 : ∀ (d : Nat), ∀ (H : Heap) (locs : List Loc) (ls : Array Slot) (w5_1 : Int32) (g1_1 : Nat → Int32) (g2_1 : Nat → Int32), ((0 : Int) ≤ w5_1.toInt ∧ w5_1.toInt ≤ 8) → (8 - w5_1.toInt).toNat < d → va_P (dC, dI) vwCl [(a0, .inr (6, [.int i0, .ref a1, .ref a2, .ref a3])), (a1, .inl (cI, 8, .inl xF0)), (a2, .inl (cI, 8, .inl g1_1)), (a3, .inl (cI, 8, .inl g2_1))] H → va_D A [(a0, .inr (6, [.int i0, .ref a1, .ref a2, .ref a3])), (a1, .inl (cI, 8, .inl xF0)), (a2, .inl (cI, 8, .inl g1_1)), (a3, .inl (cI, 8, .inl g2_1))] → va_S A s.heap H locs → lv_has ls 6 [(0, .ref a0), (1, .int p1), (2, .int p2), (3, .int p3), (4, .int p4), (5, .int w5_1)] → W p l e ({ frames := 5, cells := 0, slots := 0, locals := 125 } : Room) s m ([.ref a0, .int p1, .int p2, .int p3, .int p4] : List Value).toArray below meth c H locs 0 0 Q (F0 m 19 ls []) := by
        intro d
        induction d with
        | zero =>
          intro H locs ls w5_1 g1_1 g2_1 hr_w5_1 hm hP hD hS hl
          omega
        | succ d ih1 =>
          intro H locs ls w5_1 g1_1 g2_1 hr_w5_1 hm hP hD hS hl
          refine lv_iload hx hb dX6_findsRoom_19 (lv_at hl 5 rfl) ?_
          refine lv_iload_n hx hb dX6_findsRoom_21 rfl (lv_at hl 2 rfl) ?_
          refine lv_icmp_gt (tgt := 131) hx hb dX6_findsRoom_22 (by decide) (fun c146 => ?_) (fun c146 => ?_)
          · rw [ki_lt] at c146
            refine lv_iconst (v := 0) hx hb dX6_findsRoom_131 (by decide) ?_
            have hP9 := hP.sub (ws' := [(a0, .inr (6, [.int i0, .ref a1, .ref a2, .ref a3])), (a1, .inl (cI, 8, .inl xF0)), (a2, .inl (cI, 8, .inl g1_1)), (a3, .inl (cI, 8, .inl g2_1))]) [0, 1, 2, 3] rfl
            have hD9 := hD.sub (ws' := [(a0, .inr (6, [.int i0, .ref a1, .ref a2, .ref a3])), (a1, .inl (cI, 8, .inl xF0)), (a2, .inl (cI, 8, .inl g1_1)), (a3, .inl (cI, 8, .inl g2_1))]) [0, 1, 2, 3] (by decide) rfl
            rw [hQ]
            exact W.zret (v := 0) hx hb hr (by decide) (fun t ht hW => ⟨⟨0, (pickG 0 [], pickG (fun _ => 0) [g1_1, g2_1], pickG (fun _ => 0) []), rfl, ⟨(show (0 : Int) ≤ (0 : Int32).toInt ∧ (0 : Int32).toInt ≤ 1 from ⟨by omega, by omega⟩), trivial⟩, (by rw [ht]; exact hP9), hD9⟩, hS.F ht⟩) hS.2.2 dX6_findsRoom_132
          · rw [ki_lt] at c146
            refine lv_iload hx hb dX6_findsRoom_25 (lv_at hl 5 rfl) ?_
            refine lv_iload_n hx hb dX6_findsRoom_27 rfl (lv_at hl 3 rfl) ?_
            refine lv_icmp_ge (tgt := 131) hx hb dX6_findsRoom_28 (by decide) (fun c147 => ?_) (fun c147 => ?_)
            · rw [ki_le] at c147
              refine lv_iconst (v := 0) hx hb dX6_findsRoom_131 (by decide) ?_
              have hP9 := hP.sub (ws' := [(a0, .inr (6, [.int i0, .ref a1, .ref a2, .ref a3])), (a1, .inl (cI, 8, .inl xF0)), (a2, .inl (cI, 8, .inl g1_1)), (a3, .inl (cI, 8, .inl g2_1))]) [0, 1, 2, 3] rfl
              have hD9 := hD.sub (ws' := [(a0, .inr (6, [.int i0, .ref a1, .ref a2, .ref a3])), (a1, .inl (cI, 8, .inl xF0)), (a2, .inl (cI, 8, .inl g1_1)), (a3, .inl (cI, 8, .inl g2_1))]) [0, 1, 2, 3] (by decide) rfl
              rw [hQ]
              exact W.zret (v := 0) hx hb hr (by decide) (fun t ht hW => ⟨⟨0, (pickG 0 [], pickG (fun _ => 0) [g1_1, g2_1], pickG (fun _ => 0) []), rfl, ⟨(show (0 : Int) ≤ (0 : Int32).toInt ∧ (0 : Int32).toInt ≤ 1 from ⟨by omega, by omega⟩), trivial⟩, (by rw [ht]; exact hP9), hD9⟩, hS.F ht⟩) hS.2.2 dX6_findsRoom_132
            · rw [ki_le] at c147
              refine lv_iload hx hb dX6_findsRoom_31 (lv_at hl 5 rfl) ?_
              refine lv_bipush (v := 8) hx hb dX6_findsRoom_33 (by decide) ?_
              refine lv_icmp_ge (tgt := 131) hx hb dX6_findsRoom_35 (by decide) (fun c148 => ?_) (fun c148 => ?_)
              · rw [ki_le] at c148
                refine lv_iconst (v := 0) hx hb dX6_findsRoom_131 (by decide) ?_
                have hP9 := hP.sub (ws' := [(a0, .inr (6, [.int i0, .ref a1, .ref a2, .ref a3])), (a1, .inl (cI, 8, .inl xF0)), (a2, .inl (cI, 8, .inl g1_1)), (a3, .inl (cI, 8, .inl g2_1))]) [0, 1, 2, 3] rfl
                have hD9 := hD.sub (ws' := [(a0, .inr (6, [.int i0, .ref a1, .ref a2, .ref a3])), (a1, .inl (cI, 8, .inl xF0)), (a2, .inl (cI, 8, .inl g1_1)), (a3, .inl (cI, 8, .inl g2_1))]) [0, 1, 2, 3] (by decide) rfl
                rw [hQ]
                exact W.zret (v := 0) hx hb hr (by decide) (fun t ht hW => ⟨⟨0, (pickG 0 [], pickG (fun _ => 0) [g1_1, g2_1], pickG (fun _ => 0) []), rfl, ⟨(show (0 : Int) ≤ (0 : Int32).toInt ∧ (0 : Int32).toInt ≤ 1 from ⟨by omega, by omega⟩), trivial⟩, (by rw [ht]; exact hP9), hD9⟩, hS.F ht⟩) hS.2.2 dX6_findsRoom_132
              · rw [ki_le] at c148
                refine lv_aload_n hx hb dX6_findsRoom_38 rfl (lv_at hl 0 rfl) ?_
                refine va_get (D := (dC, dI)) (ci := 6) (v := .ref a3) (C := RX6) (T := TX6) (N := 4) hx hb hwd inlX6 hown hK hP 0 rfl rfl 3 (by decide) (hwd _ kr10_14) (fun _ h9 => h9) rfl dX6_findsRoom_39 ?_
                refine lv_iload hx hb dX6_findsRoom_42 (lv_at hl 5 rfl) ?_
                have h149 : vp_in w5_1 8 := (vp_of (by omega) (by omega))
                refine va_iald hx hb hK hP 3 0 rfl rfl h149 dX6_findsRoom_44 ?_
                refine lv_topi (fun x150 ex150 => ?_)
                refine lv_aload_n hx hb dX6_findsRoom_45 rfl (lv_at hl 0 rfl) ?_
                refine va_get (D := (dC, dI)) (ci := 6) (v := .ref a1) (C := RX6) (T := TX6) (N := 4) hx hb hwd inlX6 hown hK hP 0 rfl rfl 1 (by decide) (hwd _ kr10_10) (fun _ h9 => h9) rfl dX6_findsRoom_46 ?_
                refine lv_iload_n hx hb dX6_findsRoom_49 rfl (lv_at hl 1 rfl) ?_
                have h151 : vp_in p1 8 := (vp_of (by omega) (by omega))
                refine va_iald hx hb hK hP 1 0 rfl rfl h151 dX6_findsRoom_50 ?_
                refine lv_topi (fun x152 ex152 => ?_)
                refine lv_iadd hx hb dX6_findsRoom_51 ?_
                refine lv_topi (fun x153 ex153 => ?_)
                refine lv_iload hx hb dX6_findsRoom_52 (lv_at hl 4 rfl) ?_
                refine lv_icmp_gt (tgt := 125) hx hb dX6_findsRoom_54 (by decide) (fun c154 => ?_) (fun c154 => ?_)
                · rw [ki_lt] at c154
                  obtain ⟨x155, ex155⟩ : ∃ y : Int32, y = w5_1 + 1 := ⟨_, rfl⟩
                  refine lv_iinc (v := x155) (lv' := [(5, .int x155), (0, .ref a0), (1, .int p1), (2, .int p2), (3, .int p3), (4, .int p4)]) hx hb dX6_findsRoom_125 hl (k := 5) rfl (by rw [ex155]; rfl) (by decide) rfl (fun ls hl => ?_)
                  have tx155 := ia_add (a := w5_1) (b := (1 : Int32)) (by omega) (by omega)
                  rw [← ex155] at tx155
                  refine lv_goto (tgt := 19) hx hb dX6_findsRoom_128 (by decide) ?_
                  exact ih1 _ _ ls x155 g1_1 g2_1 (show (0 : Int) ≤ x155.toInt ∧ x155.toInt ≤ 8 from ⟨by omega, by omega⟩) (by omega) (hP.sub (ws' := [(a0, .inr (6, [.int i0, .ref a1, .ref a2, .ref a3])), (a1, .inl (cI, 8, .inl xF0)), (a2, .inl (cI, 8, .inl g1_1)), (a3, .inl (cI, 8, .inl g2_1))]) [0, 1, 2, 3] rfl) (hD.sub (ws' := [(a0, .inr (6, [.int i0, .ref a1, .ref a2, .ref a3])), (a1, .inl (cI, 8, .inl xF0)), (a2, .inl (cI, 8, .inl g1_1)), (a3, .inl (cI, 8, .inl g2_1))]) [0, 1, 2, 3] (by decide) rfl) hS (lv_sub hl [1, 2, 3, 4, 5, 0] rfl)
                · rw [ki_lt] at c154
                  refine lv_aload_n hx hb dX6_findsRoom_57 rfl (lv_at hl 0 rfl) ?_
                  refine va_get (D := (dC, dI)) (ci := 6) (v := .ref a3) (C := RX6) (T := TX6) (N := 4) hx hb hwd inlX6 hown hK hP 0 rfl rfl 3 (by decide) (hwd _ kr10_14) (fun _ h9 => h9) rfl dX6_findsRoom_58 ?_
                  refine lv_iload hx hb dX6_findsRoom_61 (lv_at hl 5 rfl) ?_
                  refine lv_dup2_11 hx hb dX6_findsRoom_63 rfl rfl ?_
                  have h156 : vp_in w5_1 8 := (vp_of (by omega) (by omega))
                  refine va_iald hx hb hK hP 3 0 rfl rfl h156 dX6_findsRoom_64 ?_
                  refine lv_topi (nm_r (e' := x150) ex150.symm ?_)
                  refine lv_aload_n hx hb dX6_findsRoom_65 rfl (lv_at hl 0 rfl) ?_
                  refine va_get (D := (dC, dI)) (ci := 6) (v := .ref a1) (C := RX6) (T := TX6) (N := 4) hx hb hwd inlX6 hown hK hP 0 rfl rfl 1 (by decide) (hwd _ kr10_10) (fun _ h9 => h9) rfl dX6_findsRoom_66 ?_
                  refine lv_iload_n hx hb dX6_findsRoom_69 rfl (lv_at hl 1 rfl) ?_
                  have h157 : vp_in p1 8 := (vp_of (by omega) (by omega))
                  refine va_iald hx hb hK hP 1 0 rfl rfl h157 dX6_findsRoom_70 ?_
                  refine lv_topi (nm_r (e' := x152) ex152.symm ?_)
                  refine lv_iadd hx hb dX6_findsRoom_71 ?_
                  refine lv_topi (fun x158 ex158 => ?_)
                  refine va_iast hx hb hK hP hD hS 3 0 rfl rfl (vp_of (by omega) (by omega)) dX6_findsRoom_72 (fun H locs hP hD hS => ?_)
                  obtain ⟨f159, ef159⟩ : ∃ f, f = upd g2_1 w5_1.toNatClampNeg x158 := ⟨_, rfl⟩
                  replace hP : va_P (dC, dI) vwCl [(a0, .inr (6, [.int i0, .ref a1, .ref a2, .ref a3])), (a1, .inl (cI, 8, .inl xF0)), (a2, .inl (cI, 8, .inl g1_1)), (a3, .inl (cI, 8, .inl f159))] H := by rw [ef159]; exact hP
                  replace hD : va_D A [(a0, .inr (6, [.int i0, .ref a1, .ref a2, .ref a3])), (a1, .inl (cI, 8, .inl xF0)), (a2, .inl (cI, 8, .inl g1_1)), (a3, .inl (cI, 8, .inl f159))] := by rw [ef159]; exact hD
                  refine lv_aload_n hx hb dX6_findsRoom_73 rfl (lv_at hl 0 rfl) ?_
                  refine va_get (D := (dC, dI)) (ci := 6) (v := .ref a2) (C := RX6) (T := TX6) (N := 4) hx hb hwd inlX6 hown hK hP 0 rfl rfl 2 (by decide) (hwd _ kr10_12) (fun _ h9 => h9) rfl dX6_findsRoom_74 ?_
                  refine lv_iload_n hx hb dX6_findsRoom_77 rfl (lv_at hl 1 rfl) ?_
                  refine lv_iload hx hb dX6_findsRoom_78 (lv_at hl 5 rfl) ?_
                  refine va_iast hx hb hK hP hD hS 2 0 rfl rfl (vp_of (by omega) (by omega)) dX6_findsRoom_80 (fun H locs hP hD hS => ?_)
                  obtain ⟨f160, ef160⟩ : ∃ f, f = upd g1_1 p1.toNatClampNeg w5_1 := ⟨_, rfl⟩
                  replace hP : va_P (dC, dI) vwCl [(a0, .inr (6, [.int i0, .ref a1, .ref a2, .ref a3])), (a1, .inl (cI, 8, .inl xF0)), (a2, .inl (cI, 8, .inl f160)), (a3, .inl (cI, 8, .inl f159))] H := by rw [ef160]; exact hP
                  replace hD : va_D A [(a0, .inr (6, [.int i0, .ref a1, .ref a2, .ref a3])), (a1, .inl (cI, 8, .inl xF0)), (a2, .inl (cI, 8, .inl f160)), (a3, .inl (cI, 8, .inl f159))] := by rw [ef160]; exact hD
                  refine lv_aload_n hx hb dX6_findsRoom_81 rfl (lv_at hl 0 rfl) ?_
                  refine lv_iload_n hx hb dX6_findsRoom_82 rfl (lv_at hl 1 rfl) ?_
                  refine lv_iconst (v := 1) hx hb dX6_findsRoom_83 (by decide) ?_
                  refine lv_iadd hx hb dX6_findsRoom_84 ?_
                  refine lv_topi (fun x161 ex161 => ?_)
                  have tx161 := ia_add (a := p1) (b := (1 : Int32)) (by omega) (by omega)
                  rw [← ex161] at tx161
                  refine lv_iload hx hb dX6_findsRoom_85 (lv_at hl 5 rfl) ?_
                  refine lv_iload_n hx hb dX6_findsRoom_87 rfl (lv_at hl 2 rfl) ?_
                  have jp7 : ∀ (H : Heap) (locs : List Loc) (ls : Array Slot) (z2_7 : Int32), ((0 : Int) ≤ z2_7.toInt ∧ z2_7.toInt ≤ 2147483647) → va_P (dC, dI) vwCl [(a0, .inr (6, [.int i0, .ref a1, .ref a2, .ref a3])), (a1, .inl (cI, 8, .inl xF0)), (a2, .inl (cI, 8, .inl f160)), (a3, .inl (cI, 8, .inl f159))] H → va_D A [(a0, .inr (6, [.int i0, .ref a1, .ref a2, .ref a3])), (a1, .inl (cI, 8, .inl xF0)), (a2, .inl (cI, 8, .inl f160)), (a3, .inl (cI, 8, .inl f159))] → va_S A s.heap H locs → lv_has ls 6 [(0, .ref a0), (1, .int p1), (2, .int p2), (3, .int p3), (4, .int p4), (5, .int w5_1)] → W p l e ({ frames := 5, cells := 0, slots := 0, locals := 125 } : Room) s m ([.ref a0, .int p1, .int p2, .int p3, .int p4] : List Value).toArray below meth c H locs 0 0 Q (F0 m 98 ls [.int z2_7, .int x161, .ref a0]) := by
                    intro H locs ls z2_7 hr_z2_7 hP hD hS hl
                    refine lv_iload_n hx hb dX6_findsRoom_98 rfl (lv_at hl 3 rfl) ?_
                    refine lv_iload hx hb dX6_findsRoom_99 (lv_at hl 4 rfl) ?_
                    have hPc := hP.sub (ws' := [(a0, .inr (6, [.int i0, .ref a1, .ref a2, .ref a3])), (a1, .inl (cI, 8, .inl xF0)), (a2, .inl (cI, 8, .inl f160)), (a3, .inl (cI, 8, .inl f159))]) [0, 1, 2, 3] rfl
                    have hDc := hD.sub (ws' := [(a0, .inr (6, [.int i0, .ref a1, .ref a2, .ref a3])), (a1, .inl (cI, 8, .inl xF0)), (a2, .inl (cI, 8, .inl f160)), (a3, .inl (cI, 8, .inl f159))]) [0, 1, 2, 3] (by decide) rfl
                    have hFc := va_free (wc := [(a0, .inr (6, [.int i0, .ref a1, .ref a2, .ref a3])), (a1, .inl (cI, 8, .inl xF0)), (a2, .inl (cI, 8, .inl f160)), (a3, .inl (cI, 8, .inl f159))]) hD hS hA [0, 1, 2, 3] rfl
                    refine va_calli (va_runS (As := [.ref a0, .int x161, .int z2_7, .int p3, .int p4]) (rest := []) ⟨hx, hb, hml, hown, hwd⟩ (s_X6_findsRoom_4 l dC dI cI cZ cB cJ cM cG a0 a1 a2 a3 i0 xF0 f160 f159 x161 z2_7 p3 p4 H.size (show (0 : Int) ≤ i0.toInt ∧ i0.toInt ≤ 8 from p_0) (show (4 : Int) ≤ x161.toInt ∧ x161.toInt ≤ 8 from ⟨by omega, by omega⟩)) (cwS 5 hwd (gS kr41_6 kr41_7 kr5_17 kr41_8) rfl rfl rfl (by decide +kernel) ⟨Nat.le_of_ble_eq_true rfl, Nat.le_of_ble_eq_true rfl⟩) (kPreS hPc hK hDc) rfl rfl hl.1 rfl (lv_room (Nat.le_of_ble_eq_true rfl)) dX6_findsRoom_101 ⟨Nat.le_of_ble_eq_true rfl, Nat.le_of_ble_eq_true rfl⟩) hS (fun q _ h => hFc q h) hFc (fun r175 u176 t H1 locs ht9 hvm hw hB hz1 hk1 hS => ?_)
                    obtain ⟨u177, U177, V177⟩ := u176
                    obtain ⟨hw178, -⟩ := hw
                    replace hw178 : (0 : Int) ≤ r175.toInt ∧ r175.toInt ≤ 1 := hw178
                    obtain ⟨hP1, hD1⟩ := hB
                    rw [ht9] at hP1
                    obtain ⟨hP, hD⟩ := va_join (wr := []) (w1 := [(a0, .inr (6, [.int i0, .ref a1, .ref a2, .ref a3])), (a1, .inl (cI, 8, .inl xF0)), (a2, .inl (cI, 8, .inl (U177 0))), (a3, .inl (cI, 8, .inl (U177 1)))]) hP hD [0, 1, 2, 3] [] rfl rfl (by decide) (by decide) hk1 hFc hP1 hD1
                    generalize H1 = H at hP hS ⊢
                    replace hP : va_P (dC, dI) vwCl [(a0, .inr (6, [.int i0, .ref a1, .ref a2, .ref a3])), (a1, .inl (cI, 8, .inl xF0)), (a2, .inl (cI, 8, .inl (U177 0))), (a3, .inl (cI, 8, .inl (U177 1)))] H := hP
                    replace hD : va_D A [(a0, .inr (6, [.int i0, .ref a1, .ref a2, .ref a3])), (a1, .inl (cI, 8, .inl xF0)), (a2, .inl (cI, 8, .inl (U177 0))), (a3, .inl (cI, 8, .inl (U177 1)))] := hD
                    refine lv_if_eq (tgt := 109) hx hb dX6_findsRoom_104 (by decide) (fun c179 => ?_) (fun c179 => ?_)
                    · rw [ki_eq] at c179
                      refine lv_aload_n hx hb dX6_findsRoom_109 rfl (lv_at hl 0 rfl) ?_
                      refine va_get (D := (dC, dI)) (ci := 6) (v := .ref a3) (C := RX6) (T := TX6) (N := 4) hx hb hwd inlX6 hown hK hP 0 rfl rfl 3 (by decide) (hwd _ kr10_14) (fun _ h9 => h9) rfl dX6_findsRoom_110 ?_
                      refine lv_iload hx hb dX6_findsRoom_113 (lv_at hl 5 rfl) ?_
                      refine lv_dup2_11 hx hb dX6_findsRoom_115 rfl rfl ?_
                      have h180 : vp_in w5_1 8 := (vp_of (by omega) (by omega))
                      refine va_iald hx hb hK hP 3 0 rfl rfl h180 dX6_findsRoom_116 ?_
                      refine lv_topi (fun x181 ex181 => ?_)
                      refine lv_aload_n hx hb dX6_findsRoom_117 rfl (lv_at hl 0 rfl) ?_
                      refine va_get (D := (dC, dI)) (ci := 6) (v := .ref a1) (C := RX6) (T := TX6) (N := 4) hx hb hwd inlX6 hown hK hP 0 rfl rfl 1 (by decide) (hwd _ kr10_10) (fun _ h9 => h9) rfl dX6_findsRoom_118 ?_
                      refine lv_iload_n hx hb dX6_findsRoom_121 rfl (lv_at hl 1 rfl) ?_
                      have h182 : vp_in p1 8 := (vp_of (by omega) (by omega))
                      refine va_iald hx hb hK hP 1 0 rfl rfl h182 dX6_findsRoom_122 ?_
                      refine lv_topi (nm_r (e' := x152) ex152.symm ?_)
                      refine lv_isub hx hb dX6_findsRoom_123 ?_
                      refine lv_topi (fun x183 ex183 => ?_)
                      refine va_iast hx hb hK hP hD hS 3 0 rfl rfl (vp_of (by omega) (by omega)) dX6_findsRoom_124 (fun H locs hP hD hS => ?_)
                      obtain ⟨f184, ef184⟩ : ∃ f, f = upd (U177 1) w5_1.toNatClampNeg x183 := ⟨_, rfl⟩
                      replace hP : va_P (dC, dI) vwCl [(a0, .inr (6, [.int i0, .ref a1, .ref a2, .ref a3])), (a1, .inl (cI, 8, .inl xF0)), (a2, .inl (cI, 8, .inl (U177 0))), (a3, .inl (cI, 8, .inl f184))] H := by rw [ef184]; exact hP
                      replace hD : va_D A [(a0, .inr (6, [.int i0, .ref a1, .ref a2, .ref a3])), (a1, .inl (cI, 8, .inl xF0)), (a2, .inl (cI, 8, .inl (U177 0))), (a3, .inl (cI, 8, .inl f184))] := by rw [ef184]; exact hD
                      obtain ⟨x185, ex185⟩ : ∃ y : Int32, y = w5_1 + 1 := ⟨_, rfl⟩
                      refine lv_iinc (v := x185) (lv' := [(5, .int x185), (0, .ref a0), (1, .int p1), (2, .int p2), (3, .int p3), (4, .int p4)]) hx hb dX6_findsRoom_125 hl (k := 5) rfl (by rw [ex185]; rfl) (by decide) rfl (fun ls hl => ?_)
                      have tx185 := ia_add (a := w5_1) (b := (1 : Int32)) (by omega) (by omega)
                      rw [← ex185] at tx185
                      refine lv_goto (tgt := 19) hx hb dX6_findsRoom_128 (by decide) ?_
                      exact ih1 _ _ ls x185 (U177 0) f184 (show (0 : Int) ≤ x185.toInt ∧ x185.toInt ≤ 8 from ⟨by omega, by omega⟩) (by omega) (hP.sub (ws' := [(a0, .inr (6, [.int i0, .ref a1, .ref a2, .ref a3])), (a1, .inl (cI, 8, .inl xF0)), (a2, .inl (cI, 8, .inl (U177 0))), (a3, .inl (cI, 8, .inl f184))]) [0, 1, 2, 3] rfl) (hD.sub (ws' := [(a0, .inr (6, [.int i0, .ref a1, .ref a2, .ref a3])), (a1, .inl (cI, 8, .inl xF0)), (a2, .inl (cI, 8, .inl (U177 0))), (a3, .inl (cI, 8, .inl f184))]) [0, 1, 2, 3] (by decide) rfl) hS (lv_sub hl [1, 2, 3, 4, 5, 0] rfl)
                    · rw [ki_eq] at c179
                      refine lv_iconst (v := 1) hx hb dX6_findsRoom_107 (by decide) ?_
                      have hP9 := hP.sub (ws' := [(a0, .inr (6, [.int i0, .ref a1, .ref a2, .ref a3])), (a1, .inl (cI, 8, .inl xF0)), (a2, .inl (cI, 8, .inl (U177 0))), (a3, .inl (cI, 8, .inl (U177 1)))]) [0, 1, 2, 3] rfl
                      have hD9 := hD.sub (ws' := [(a0, .inr (6, [.int i0, .ref a1, .ref a2, .ref a3])), (a1, .inl (cI, 8, .inl xF0)), (a2, .inl (cI, 8, .inl (U177 0))), (a3, .inl (cI, 8, .inl (U177 1)))]) [0, 1, 2, 3] (by decide) rfl
                      rw [hQ]
                      exact W.zret (v := 1) hx hb hr (by decide) (fun t ht hW => ⟨⟨1, (pickG 0 [], pickG (fun _ => 0) [(U177 0), (U177 1)], pickG (fun _ => 0) []), rfl, ⟨(show (0 : Int) ≤ (1 : Int32).toInt ∧ (1 : Int32).toInt ≤ 1 from ⟨by omega, by omega⟩), trivial⟩, (by rw [ht]; exact hP9), hD9⟩, hS.F ht⟩) hS.2.2 dX6_findsRoom_108
                  refine lv_icmp_ne (tgt := 97) hx hb dX6_findsRoom_88 (by decide) (fun c186 => ?_) (fun c186 => ?_)
                  · rw [ki_eq] at c186
                    refine lv_iload_n hx hb dX6_findsRoom_97 rfl (lv_at hl 2 rfl) ?_
                    exact jp7 _ _ ls p2 (show (0 : Int) ≤ p2.toInt ∧ p2.toInt ≤ 2147483647 from ⟨by omega, i32_hi⟩) (hP.sub (ws' := [(a0, .inr (6, [.int i0, .ref a1, .ref a2, .ref a3])), (a1, .inl (cI, 8, .inl xF0)), (a2, .inl (cI, 8, .inl f160)), (a3, .inl (cI, 8, .inl f159))]) [0, 1, 2, 3] rfl) (hD.sub (ws' := [(a0, .inr (6, [.int i0, .ref a1, .ref a2, .ref a3])), (a1, .inl (cI, 8, .inl xF0)), (a2, .inl (cI, 8, .inl f160)), (a3, .inl (cI, 8, .inl f159))]) [0, 1, 2, 3] (by decide) rfl) hS (lv_sub hl [0, 1, 2, 3, 4, 5] rfl)
                  · rw [ki_eq] at c186
                    refine lv_iload_n hx hb dX6_findsRoom_91 rfl (lv_at hl 2 rfl) ?_
                    refine lv_iconst (v := 1) hx hb dX6_findsRoom_92 (by decide) ?_
                    refine lv_iadd hx hb dX6_findsRoom_93 ?_
                    refine lv_topi (fun x187 ex187 => ?_)
                    have tx187 := ia_add (a := p2) (b := (1 : Int32)) (by omega) (by omega)
                    rw [← ex187] at tx187
                    refine lv_goto (tgt := 98) hx hb dX6_findsRoom_94 (by decide) ?_
                    exact jp7 _ _ ls x187 (show (0 : Int) ≤ x187.toInt ∧ x187.toInt ≤ 2147483647 from ⟨by omega, i32_hi⟩) (hP.sub (ws' := [(a0, .inr (6, [.int i0, .ref a1, .ref a2, .ref a3])), (a1, .inl (cI, 8, .inl xF0)), (a2, .inl (cI, 8, .inl f160)), (a3, .inl (cI, 8, .inl f159))]) [0, 1, 2, 3] rfl) (hD.sub (ws' := [(a0, .inr (6, [.int i0, .ref a1, .ref a2, .ref a3])), (a1, .inl (cI, 8, .inl xF0)), (a2, .inl (cI, 8, .inl f160)), (a3, .inl (cI, 8, .inl f159))]) [0, 1, 2, 3] (by decide) rfl) hS (lv_sub hl [0, 1, 2, 3, 4, 5] rfl)
      exact lp1 _ _ _ ls (0) xF1 xF2 (show (0 : Int) ≤ (0 : Int32).toInt ∧ (0 : Int32).toInt ≤ 8 from ⟨by omega, by omega⟩) (Nat.lt_succ_self _) (hP.sub (ws' := [(a0, .inr (6, [.int i0, .ref a1, .ref a2, .ref a3])), (a1, .inl (cI, 8, .inl xF0)), (a2, .inl (cI, 8, .inl xF1)), (a3, .inl (cI, 8, .inl xF2))]) [0, 1, 2, 3] rfl) (hD.sub (ws' := [(a0, .inr (6, [.int i0, .ref a1, .ref a2, .ref a3])), (a1, .inl (cI, 8, .inl xF0)), (a2, .inl (cI, 8, .inl xF1)), (a3, .inl (cI, 8, .inl xF2))]) [0, 1, 2, 3] (by decide) rfl) hS (lv_sub hl [1, 2, 3, 4, 5, 0] rfl)
    · rw [ki_lt] at c2
      exfalso
      omega
set_option maxHeartbeats 4000000 in
set_option maxRecDepth 100000 in
theorem s_X6_findsRoom_2 (l : Launch) (dC : Nat → ClassId) (dI : Nat → Nat → Nat) (cI cZ cB cJ cM cG : ClassId) (a0 a1 a2 a3 : Nat) (i0 : Int32) (xF0 xF1 xF2 : Nat → Int32) (p1 p2 p3 p4 : Int32) (sz : Nat) (p_0 : (0 : Int) ≤ i0.toInt ∧ i0.toInt ≤ 8) (p_1 : (2 : Int) ≤ p1.toInt ∧ p1.toInt ≤ 8) : Met l yX6_findsRoom (kw yX6_findsRoom cX6_findsRoom 6 (some .boolean)) ({ frames := 6, cells := 0, slots := 0, locals := 150 } : Room) (va_Pc [.ref a0, .int p1, .int p2, .int p3, .int p4] (kPre dC dI [(cI, .int), (cZ, .boolean), (cB, .byte), (cJ, .long), (cM, .object RX2), (cG, .array .int)] [(a0, .inr (6, [.int i0, .ref a1, .ref a2, .ref a3])), (a1, .inl (cI, 8, .inl xF0)), (a2, .inl (cI, 8, .inl xF1)), (a3, .inl (cI, 8, .inl xF2))] sz)) (va_Qi (fun (r : Int32) (u9 : (Nat → Int32) × (Nat → Nat → Int32) × (Nat → Nat → Int64)) => ((0 : Int) ≤ r.toInt ∧ r.toInt ≤ 1) ∧ True) (fun u9 t => va_P (dC, dI) vwCl [(a0, .inr (6, [.int i0, .ref a1, .ref a2, .ref a3])), (a1, .inl (cI, 8, .inl xF0)), (a2, .inl (cI, 8, .inl (u9.2.1 0))), (a3, .inl (cI, 8, .inl (u9.2.1 1)))] t.heap ∧ va_D (va_A [(a0, .inr (6, [.int i0, .ref a1, .ref a2, .ref a3])), (a1, .inl (cI, 8, .inl xF0)), (a2, .inl (cI, 8, .inl xF1)), (a3, .inl (cI, 8, .inl xF2))] sz) [(a0, .inr (6, [.int i0, .ref a1, .ref a2, .ref a3])), (a1, .inl (cI, 8, .inl xF0)), (a2, .inl (cI, 8, .inl (u9.2.1 0))), (a3, .inl (cI, 8, .inl (u9.2.1 1)))]) (va_A [(a0, .inr (6, [.int i0, .ref a1, .ref a2, .ref a3])), (a1, .inl (cI, 8, .inl xF0)), (a2, .inl (cI, 8, .inl xF1)), (a3, .inl (cI, 8, .inl xF2))] sz)) 0 0 (va_A [(a0, .inr (6, [.int i0, .ref a1, .ref a2, .ref a3])), (a1, .inl (cI, 8, .inl xF0)), (a2, .inl (cI, 8, .inl xF1)), (a3, .inl (cI, 8, .inl xF2))] sz) := by
  refine kEnter (by decide) (Nat.le_of_ble_eq_true rfl) ?_
  intro p e s m below meth c ls hx hb hr hml hown hlocks hin hwd hsz hP hK hD hl
  subst hsz
  generalize hAe : va_A [(a0, .inr (6, [.int i0, .ref a1, .ref a2, .ref a3])), (a1, .inl (cI, 8, .inl xF0)), (a2, .inl (cI, 8, .inl xF1)), (a3, .inl (cI, 8, .inl xF2))] s.heap.size = A at hD ⊢
  have hA : ∀ q : Nat, s.heap.size ≤ q → A q := fun q h => by rw [← hAe]; exact Or.inr h
  have hS : va_S A s.heap s.heap [] := va_S.rf
  have hl : lv_has ls 6 [(0, .ref a0), (1, .int p1), (2, .int p2), (3, .int p3), (4, .int p4)] := hl
  obtain ⟨Q, hQ⟩ : ∃ Q, Q = MQ below (va_Qi (fun (r : Int32) (u9 : (Nat → Int32) × (Nat → Nat → Int32) × (Nat → Nat → Int64)) => ((0 : Int) ≤ r.toInt ∧ r.toInt ≤ 1) ∧ True) (fun u9 t => va_P (dC, dI) vwCl [(a0, .inr (6, [.int i0, .ref a1, .ref a2, .ref a3])), (a1, .inl (cI, 8, .inl xF0)), (a2, .inl (cI, 8, .inl (u9.2.1 0))), (a3, .inl (cI, 8, .inl (u9.2.1 1)))] t.heap ∧ va_D A [(a0, .inr (6, [.int i0, .ref a1, .ref a2, .ref a3])), (a1, .inl (cI, 8, .inl xF0)), (a2, .inl (cI, 8, .inl (u9.2.1 0))), (a3, .inl (cI, 8, .inl (u9.2.1 1)))]) A) ([.ref a0, .int p1, .int p2, .int p3, .int p4] : List Value).toArray s 0 0 A := ⟨_, rfl⟩
  rw [← hQ]
  have k0 : (0 : Int32).toInt = 0 := by decide
  have k1 : (1 : Int32).toInt = 1 := by decide
  have k8 : (8 : Int32).toInt = 8 := by decide
  refine lv_iload_n hx hb dX6_findsRoom_0 rfl (lv_at hl 1 rfl) ?_
  refine lv_aload_n hx hb dX6_findsRoom_1 rfl (lv_at hl 0 rfl) ?_
  refine va_get (D := (dC, dI)) (ci := 6) (v := .int i0) (C := RX6) (T := TX6) (N := 4) hx hb hwd inlX6 hown hK hP 0 rfl rfl 0 (by decide) (hwd _ kr10_8) (fun _ h9 => h9) rfl dX6_findsRoom_2 ?_
  refine lv_icmp_ge (tgt := 14) hx hb dX6_findsRoom_5 (by decide) (fun c1 => ?_) (fun c1 => ?_)
  · rw [ki_le] at c1
    refine lv_iconst (v := 1) hx hb dX6_findsRoom_14 (by decide) ?_
    have hP9 := hP.sub (ws' := [(a0, .inr (6, [.int i0, .ref a1, .ref a2, .ref a3])), (a1, .inl (cI, 8, .inl xF0)), (a2, .inl (cI, 8, .inl xF1)), (a3, .inl (cI, 8, .inl xF2))]) [0, 1, 2, 3] rfl
    have hD9 := hD.sub (ws' := [(a0, .inr (6, [.int i0, .ref a1, .ref a2, .ref a3])), (a1, .inl (cI, 8, .inl xF0)), (a2, .inl (cI, 8, .inl xF1)), (a3, .inl (cI, 8, .inl xF2))]) [0, 1, 2, 3] (by decide) rfl
    rw [hQ]
    exact W.zret (v := 1) hx hb hr (by decide) (fun t ht hW => ⟨⟨1, (pickG 0 [], pickG (fun _ => 0) [xF1, xF2], pickG (fun _ => 0) []), rfl, ⟨(show (0 : Int) ≤ (1 : Int32).toInt ∧ (1 : Int32).toInt ≤ 1 from ⟨by omega, by omega⟩), trivial⟩, (by rw [ht]; exact hP9), hD9⟩, hS.F ht⟩) hS.2.2 dX6_findsRoom_15
  · rw [ki_le] at c1
    refine lv_iload_n hx hb dX6_findsRoom_8 rfl (lv_at hl 1 rfl) ?_
    refine lv_bipush (v := 8) hx hb dX6_findsRoom_9 (by decide) ?_
    refine lv_icmp_lt (tgt := 16) hx hb dX6_findsRoom_11 (by decide) (fun c2 => ?_) (fun c2 => ?_)
    · rw [ki_lt] at c2
      refine lv_iconst (v := 0) hx hb dX6_findsRoom_16 (by decide) ?_
      refine lv_istore (lv' := [(5, .int 0), (0, .ref a0), (1, .int p1), (2, .int p2), (3, .int p3), (4, .int p4)]) hx hb dX6_findsRoom_17 hl (by decide) rfl (fun ls hl => ?_)
      have lp1 : ∀ (d : Nat), ∀ (H : Heap) (locs : List Loc) (ls : Array Slot) (w5_1 : Int32) (g1_1 : Nat → Int32) (g2_1 : Nat → Int32), ((0 : Int) ≤ w5_1.toInt ∧ w5_1.toInt ≤ 8) → (8 - w5_1.toInt).toNat < d → va_P (dC, dI) vwCl [(a0, .inr (6, [.int i0, .ref a1, .ref a2, .ref a3])), (a1, .inl (cI, 8, .inl xF0)), (a2, .inl (cI, 8, .inl g1_1)), (a3, .inl (cI, 8, .inl g2_1))] H → va_D A [(a0, .inr (6, [.int i0, .ref a1, .ref a2, .ref a3])), (a1, .inl (cI, 8, .inl xF0)), (a2, .inl (cI, 8, .inl g1_1)), (a3, .inl (cI, 8, .inl g2_1))] → va_S A s.heap H locs → lv_has ls 6 [(0, .ref a0), (1, .int p1), (2, .int p2), (3, .int p3), (4, .int p4), (5, .int w5_1)] → W p l e ({ frames := 6, cells := 0, slots := 0, locals := 150 } : Room) s m ([.ref a0, .int p1, .int p2, .int p3, .int p4] : List Value).toArray below meth c H locs 0 0 Q (F0 m 19 ls []) := by
        intro d
        induction d with
        | zero =>
          intro H locs ls w5_1 g1_1 g2_1 hr_w5_1 hm hP hD hS hl
          omega
        | succ d ih1 =>
          intro H locs ls w5_1 g1_1 g2_1 hr_w5_1 hm hP hD hS hl
          refine lv_iload hx hb dX6_findsRoom_19 (lv_at hl 5 rfl) ?_
          refine lv_iload_n hx hb dX6_findsRoom_21 rfl (lv_at hl 2 rfl) ?_
          refine lv_icmp_gt (tgt := 131) hx hb dX6_findsRoom_22 (by decide) (fun c146 => ?_) (fun c146 => ?_)
          · rw [ki_lt] at c146
            refine lv_iconst (v := 0) hx hb dX6_findsRoom_131 (by decide) ?_
            have hP9 := hP.sub (ws' := [(a0, .inr (6, [.int i0, .ref a1, .ref a2, .ref a3])), (a1, .inl (cI, 8, .inl xF0)), (a2, .inl (cI, 8, .inl g1_1)), (a3, .inl (cI, 8, .inl g2_1))]) [0, 1, 2, 3] rfl
            have hD9 := hD.sub (ws' := [(a0, .inr (6, [.int i0, .ref a1, .ref a2, .ref a3])), (a1, .inl (cI, 8, .inl xF0)), (a2, .inl (cI, 8, .inl g1_1)), (a3, .inl (cI, 8, .inl g2_1))]) [0, 1, 2, 3] (by decide) rfl
            rw [hQ]
            exact W.zret (v := 0) hx hb hr (by decide) (fun t ht hW => ⟨⟨0, (pickG 0 [], pickG (fun _ => 0) [g1_1, g2_1], pickG (fun _ => 0) []), rfl, ⟨(show (0 : Int) ≤ (0 : Int32).toInt ∧ (0 : Int32).toInt ≤ 1 from ⟨by omega, by omega⟩), trivial⟩, (by rw [ht]; exact hP9), hD9⟩, hS.F ht⟩) hS.2.2 dX6_findsRoom_132
          · rw [ki_lt] at c146
            refine lv_iload hx hb dX6_findsRoom_25 (lv_at hl 5 rfl) ?_
            refine lv_iload_n hx hb dX6_findsRoom_27 rfl (lv_at hl 3 rfl) ?_
            refine lv_icmp_ge (tgt := 131) hx hb dX6_findsRoom_28 (by decide) (fun c147 => ?_) (fun c147 => ?_)
            · rw [ki_le] at c147
              refine lv_iconst (v := 0) hx hb dX6_findsRoom_131 (by decide) ?_
              have hP9 := hP.sub (ws' := [(a0, .inr (6, [.int i0, .ref a1, .ref a2, .ref a3])), (a1, .inl (cI, 8, .inl xF0)), (a2, .inl (cI, 8, .inl g1_1)), (a3, .inl (cI, 8, .inl g2_1))]) [0, 1, 2, 3] rfl
              have hD9 := hD.sub (ws' := [(a0, .inr (6, [.int i0, .ref a1, .ref a2, .ref a3])), (a1, .inl (cI, 8, .inl xF0)), (a2, .inl (cI, 8, .inl g1_1)), (a3, .inl (cI, 8, .inl g2_1))]) [0, 1, 2, 3] (by decide) rfl
              rw [hQ]
              exact W.zret (v := 0) hx hb hr (by decide) (fun t ht hW => ⟨⟨0, (pickG 0 [], pickG (fun _ => 0) [g1_1, g2_1], pickG (fun _ => 0) []), rfl, ⟨(show (0 : Int) ≤ (0 : Int32).toInt ∧ (0 : Int32).toInt ≤ 1 from ⟨by omega, by omega⟩), trivial⟩, (by rw [ht]; exact hP9), hD9⟩, hS.F ht⟩) hS.2.2 dX6_findsRoom_132
            · rw [ki_le] at c147
              refine lv_iload hx hb dX6_findsRoom_31 (lv_at hl 5 rfl) ?_
              refine lv_bipush (v := 8) hx hb dX6_findsRoom_33 (by decide) ?_
              refine lv_icmp_ge (tgt := 131) hx hb dX6_findsRoom_35 (by decide) (fun c148 => ?_) (fun c148 => ?_)
              · rw [ki_le] at c148
                refine lv_iconst (v := 0) hx hb dX6_findsRoom_131 (by decide) ?_
                have hP9 := hP.sub (ws' := [(a0, .inr (6, [.int i0, .ref a1, .ref a2, .ref a3])), (a1, .inl (cI, 8, .inl xF0)), (a2, .inl (cI, 8, .inl g1_1)), (a3, .inl (cI, 8, .inl g2_1))]) [0, 1, 2, 3] rfl
                have hD9 := hD.sub (ws' := [(a0, .inr (6, [.int i0, .ref a1, .ref a2, .ref a3])), (a1, .inl (cI, 8, .inl xF0)), (a2, .inl (cI, 8, .inl g1_1)), (a3, .inl (cI, 8, .inl g2_1))]) [0, 1, 2, 3] (by decide) rfl
                rw [hQ]
                exact W.zret (v := 0) hx hb hr (by decide) (fun t ht hW => ⟨⟨0, (pickG 0 [], pickG (fun _ => 0) [g1_1, g2_1], pickG (fun _ => 0) []), rfl, ⟨(show (0 : Int) ≤ (0 : Int32).toInt ∧ (0 : Int32).toInt ≤ 1 from ⟨by omega, by omega⟩), trivial⟩, (by rw [ht]; exact hP9), hD9⟩, hS.F ht⟩) hS.2.2 dX6_findsRoom_132
              · rw [ki_le] at c148
                refine lv_aload_n hx hb dX6_findsRoom_38 rfl (lv_at hl 0 rfl) ?_
                refine va_get (D := (dC, dI)) (ci := 6) (v := .ref a3) (C := RX6) (T := TX6) (N := 4) hx hb hwd inlX6 hown hK hP 0 rfl rfl 3 (by decide) (hwd _ kr10_14) (fun _ h9 => h9) rfl dX6_findsRoom_39 ?_
                refine lv_iload hx hb dX6_findsRoom_42 (lv_at hl 5 rfl) ?_
                have h149 : vp_in w5_1 8 := (vp_of (by omega) (by omega))
                refine va_iald hx hb hK hP 3 0 rfl rfl h149 dX6_findsRoom_44 ?_
                refine lv_topi (fun x150 ex150 => ?_)
                refine lv_aload_n hx hb dX6_findsRoom_45 rfl (lv_at hl 0 rfl) ?_
                refine va_get (D := (dC, dI)) (ci := 6) (v := .ref a1) (C := RX6) (T := TX6) (N := 4) hx hb hwd inlX6 hown hK hP 0 rfl rfl 1 (by decide) (hwd _ kr10_10) (fun _ h9 => h9) rfl dX6_findsRoom_46 ?_
                refine lv_iload_n hx hb dX6_findsRoom_49 rfl (lv_at hl 1 rfl) ?_
                have h151 : vp_in p1 8 := (vp_of (by omega) (by omega))
                refine va_iald hx hb hK hP 1 0 rfl rfl h151 dX6_findsRoom_50 ?_
                refine lv_topi (fun x152 ex152 => ?_)
                refine lv_iadd hx hb dX6_findsRoom_51 ?_
                refine lv_topi (fun x153 ex153 => ?_)
                refine lv_iload hx hb dX6_findsRoom_52 (lv_at hl 4 rfl) ?_
                refine lv_icmp_gt (tgt := 125) hx hb dX6_findsRoom_54 (by decide) (fun c154 => ?_) (fun c154 => ?_)
                · rw [ki_lt] at c154
                  obtain ⟨x155, ex155⟩ : ∃ y : Int32, y = w5_1 + 1 := ⟨_, rfl⟩
                  refine lv_iinc (v := x155) (lv' := [(5, .int x155), (0, .ref a0), (1, .int p1), (2, .int p2), (3, .int p3), (4, .int p4)]) hx hb dX6_findsRoom_125 hl (k := 5) rfl (by rw [ex155]; rfl) (by decide) rfl (fun ls hl => ?_)
                  have tx155 := ia_add (a := w5_1) (b := (1 : Int32)) (by omega) (by omega)
                  rw [← ex155] at tx155
                  refine lv_goto (tgt := 19) hx hb dX6_findsRoom_128 (by decide) ?_
                  exact ih1 _ _ ls x155 g1_1 g2_1 (show (0 : Int) ≤ x155.toInt ∧ x155.toInt ≤ 8 from ⟨by omega, by omega⟩) (by omega) (hP.sub (ws' := [(a0, .inr (6, [.int i0, .ref a1, .ref a2, .ref a3])), (a1, .inl (cI, 8, .inl xF0)), (a2, .inl (cI, 8, .inl g1_1)), (a3, .inl (cI, 8, .inl g2_1))]) [0, 1, 2, 3] rfl) (hD.sub (ws' := [(a0, .inr (6, [.int i0, .ref a1, .ref a2, .ref a3])), (a1, .inl (cI, 8, .inl xF0)), (a2, .inl (cI, 8, .inl g1_1)), (a3, .inl (cI, 8, .inl g2_1))]) [0, 1, 2, 3] (by decide) rfl) hS (lv_sub hl [1, 2, 3, 4, 5, 0] rfl)
                · rw [ki_lt] at c154
                  refine lv_aload_n hx hb dX6_findsRoom_57 rfl (lv_at hl 0 rfl) ?_
                  refine va_get (D := (dC, dI)) (ci := 6) (v := .ref a3) (C := RX6) (T := TX6) (N := 4) hx hb hwd inlX6 hown hK hP 0 rfl rfl 3 (by decide) (hwd _ kr10_14) (fun _ h9 => h9) rfl dX6_findsRoom_58 ?_
                  refine lv_iload hx hb dX6_findsRoom_61 (lv_at hl 5 rfl) ?_
                  refine lv_dup2_11 hx hb dX6_findsRoom_63 rfl rfl ?_
                  have h156 : vp_in w5_1 8 := (vp_of (by omega) (by omega))
                  refine va_iald hx hb hK hP 3 0 rfl rfl h156 dX6_findsRoom_64 ?_
                  refine lv_topi (nm_r (e' := x150) ex150.symm ?_)
                  refine lv_aload_n hx hb dX6_findsRoom_65 rfl (lv_at hl 0 rfl) ?_
                  refine va_get (D := (dC, dI)) (ci := 6) (v := .ref a1) (C := RX6) (T := TX6) (N := 4) hx hb hwd inlX6 hown hK hP 0 rfl rfl 1 (by decide) (hwd _ kr10_10) (fun _ h9 => h9) rfl dX6_findsRoom_66 ?_
                  refine lv_iload_n hx hb dX6_findsRoom_69 rfl (lv_at hl 1 rfl) ?_
                  have h157 : vp_in p1 8 := (vp_of (by omega) (by omega))
                  refine va_iald hx hb hK hP 1 0 rfl rfl h157 dX6_findsRoom_70 ?_
                  refine lv_topi (nm_r (e' := x152) ex152.symm ?_)
                  refine lv_iadd hx hb dX6_findsRoom_71 ?_
                  refine lv_topi (fun x158 ex158 => ?_)
                  refine va_iast hx hb hK hP hD hS 3 0 rfl rfl (vp_of (by omega) (by omega)) dX6_findsRoom_72 (fun H locs hP hD hS => ?_)
                  obtain ⟨f159, ef159⟩ : ∃ f, f = upd g2_1 w5_1.toNatClampNeg x158 := ⟨_, rfl⟩
                  replace hP : va_P (dC, dI) vwCl [(a0, .inr (6, [.int i0, .ref a1, .ref a2, .ref a3])), (a1, .inl (cI, 8, .inl xF0)), (a2, .inl (cI, 8, .inl g1_1)), (a3, .inl (cI, 8, .inl f159))] H := by rw [ef159]; exact hP
                  replace hD : va_D A [(a0, .inr (6, [.int i0, .ref a1, .ref a2, .ref a3])), (a1, .inl (cI, 8, .inl xF0)), (a2, .inl (cI, 8, .inl g1_1)), (a3, .inl (cI, 8, .inl f159))] := by rw [ef159]; exact hD
                  refine lv_aload_n hx hb dX6_findsRoom_73 rfl (lv_at hl 0 rfl) ?_
                  refine va_get (D := (dC, dI)) (ci := 6) (v := .ref a2) (C := RX6) (T := TX6) (N := 4) hx hb hwd inlX6 hown hK hP 0 rfl rfl 2 (by decide) (hwd _ kr10_12) (fun _ h9 => h9) rfl dX6_findsRoom_74 ?_
                  refine lv_iload_n hx hb dX6_findsRoom_77 rfl (lv_at hl 1 rfl) ?_
                  refine lv_iload hx hb dX6_findsRoom_78 (lv_at hl 5 rfl) ?_
                  refine va_iast hx hb hK hP hD hS 2 0 rfl rfl (vp_of (by omega) (by omega)) dX6_findsRoom_80 (fun H locs hP hD hS => ?_)
                  obtain ⟨f160, ef160⟩ : ∃ f, f = upd g1_1 p1.toNatClampNeg w5_1 := ⟨_, rfl⟩
                  replace hP : va_P (dC, dI) vwCl [(a0, .inr (6, [.int i0, .ref a1, .ref a2, .ref a3])), (a1, .inl (cI, 8, .inl xF0)), (a2, .inl (cI, 8, .inl f160)), (a3, .inl (cI, 8, .inl f159))] H := by rw [ef160]; exact hP
                  replace hD : va_D A [(a0, .inr (6, [.int i0, .ref a1, .ref a2, .ref a3])), (a1, .inl (cI, 8, .inl xF0)), (a2, .inl (cI, 8, .inl f160)), (a3, .inl (cI, 8, .inl f159))] := by rw [ef160]; exact hD
                  refine lv_aload_n hx hb dX6_findsRoom_81 rfl (lv_at hl 0 rfl) ?_
                  refine lv_iload_n hx hb dX6_findsRoom_82 rfl (lv_at hl 1 rfl) ?_
                  refine lv_iconst (v := 1) hx hb dX6_findsRoom_83 (by decide) ?_
                  refine lv_iadd hx hb dX6_findsRoom_84 ?_
                  refine lv_topi (fun x161 ex161 => ?_)
                  have tx161 := ia_add (a := p1) (b := (1 : Int32)) (by omega) (by omega)
                  rw [← ex161] at tx161
                  refine lv_iload hx hb dX6_findsRoom_85 (lv_at hl 5 rfl) ?_
                  refine lv_iload_n hx hb dX6_findsRoom_87 rfl (lv_at hl 2 rfl) ?_
                  have jp7 : ∀ (H : Heap) (locs : List Loc) (ls : Array Slot) (z2_7 : Int32), ((0 : Int) ≤ z2_7.toInt ∧ z2_7.toInt ≤ 2147483647) → va_P (dC, dI) vwCl [(a0, .inr (6, [.int i0, .ref a1, .ref a2, .ref a3])), (a1, .inl (cI, 8, .inl xF0)), (a2, .inl (cI, 8, .inl f160)), (a3, .inl (cI, 8, .inl f159))] H → va_D A [(a0, .inr (6, [.int i0, .ref a1, .ref a2, .ref a3])), (a1, .inl (cI, 8, .inl xF0)), (a2, .inl (cI, 8, .inl f160)), (a3, .inl (cI, 8, .inl f159))] → va_S A s.heap H locs → lv_has ls 6 [(0, .ref a0), (1, .int p1), (2, .int p2), (3, .int p3), (4, .int p4), (5, .int w5_1)] → W p l e ({ frames := 6, cells := 0, slots := 0, locals := 150 } : Room) s m ([.ref a0, .int p1, .int p2, .int p3, .int p4] : List Value).toArray below meth c H locs 0 0 Q (F0 m 98 ls [.int z2_7, .int x161, .ref a0]) := by
                    intro H locs ls z2_7 hr_z2_7 hP hD hS hl
                    refine lv_iload_n hx hb dX6_findsRoom_98 rfl (lv_at hl 3 rfl) ?_
                    refine lv_iload hx hb dX6_findsRoom_99 (lv_at hl 4 rfl) ?_
                    have hPc := hP.sub (ws' := [(a0, .inr (6, [.int i0, .ref a1, .ref a2, .ref a3])), (a1, .inl (cI, 8, .inl xF0)), (a2, .inl (cI, 8, .inl f160)), (a3, .inl (cI, 8, .inl f159))]) [0, 1, 2, 3] rfl
                    have hDc := hD.sub (ws' := [(a0, .inr (6, [.int i0, .ref a1, .ref a2, .ref a3])), (a1, .inl (cI, 8, .inl xF0)), (a2, .inl (cI, 8, .inl f160)), (a3, .inl (cI, 8, .inl f159))]) [0, 1, 2, 3] (by decide) rfl
                    have hFc := va_free (wc := [(a0, .inr (6, [.int i0, .ref a1, .ref a2, .ref a3])), (a1, .inl (cI, 8, .inl xF0)), (a2, .inl (cI, 8, .inl f160)), (a3, .inl (cI, 8, .inl f159))]) hD hS hA [0, 1, 2, 3] rfl
                    refine va_calli (va_runS (As := [.ref a0, .int x161, .int z2_7, .int p3, .int p4]) (rest := []) ⟨hx, hb, hml, hown, hwd⟩ (s_X6_findsRoom_3 l dC dI cI cZ cB cJ cM cG a0 a1 a2 a3 i0 xF0 f160 f159 x161 z2_7 p3 p4 H.size (show (0 : Int) ≤ i0.toInt ∧ i0.toInt ≤ 8 from p_0) (show (3 : Int) ≤ x161.toInt ∧ x161.toInt ≤ 8 from ⟨by omega, by omega⟩)) (cwS 5 hwd (gS kr41_6 kr41_7 kr5_17 kr41_8) rfl rfl rfl (by decide +kernel) ⟨Nat.le_of_ble_eq_true rfl, Nat.le_of_ble_eq_true rfl⟩) (kPreS hPc hK hDc) rfl rfl hl.1 rfl (lv_room (Nat.le_of_ble_eq_true rfl)) dX6_findsRoom_101 ⟨Nat.le_of_ble_eq_true rfl, Nat.le_of_ble_eq_true rfl⟩) hS (fun q _ h => hFc q h) hFc (fun r175 u176 t H1 locs ht9 hvm hw hB hz1 hk1 hS => ?_)
                    obtain ⟨u177, U177, V177⟩ := u176
                    obtain ⟨hw178, -⟩ := hw
                    replace hw178 : (0 : Int) ≤ r175.toInt ∧ r175.toInt ≤ 1 := hw178
                    obtain ⟨hP1, hD1⟩ := hB
                    rw [ht9] at hP1
                    obtain ⟨hP, hD⟩ := va_join (wr := []) (w1 := [(a0, .inr (6, [.int i0, .ref a1, .ref a2, .ref a3])), (a1, .inl (cI, 8, .inl xF0)), (a2, .inl (cI, 8, .inl (U177 0))), (a3, .inl (cI, 8, .inl (U177 1)))]) hP hD [0, 1, 2, 3] [] rfl rfl (by decide) (by decide) hk1 hFc hP1 hD1
                    generalize H1 = H at hP hS ⊢
                    replace hP : va_P (dC, dI) vwCl [(a0, .inr (6, [.int i0, .ref a1, .ref a2, .ref a3])), (a1, .inl (cI, 8, .inl xF0)), (a2, .inl (cI, 8, .inl (U177 0))), (a3, .inl (cI, 8, .inl (U177 1)))] H := hP
                    replace hD : va_D A [(a0, .inr (6, [.int i0, .ref a1, .ref a2, .ref a3])), (a1, .inl (cI, 8, .inl xF0)), (a2, .inl (cI, 8, .inl (U177 0))), (a3, .inl (cI, 8, .inl (U177 1)))] := hD
                    refine lv_if_eq (tgt := 109) hx hb dX6_findsRoom_104 (by decide) (fun c179 => ?_) (fun c179 => ?_)
                    · rw [ki_eq] at c179
                      refine lv_aload_n hx hb dX6_findsRoom_109 rfl (lv_at hl 0 rfl) ?_
                      refine va_get (D := (dC, dI)) (ci := 6) (v := .ref a3) (C := RX6) (T := TX6) (N := 4) hx hb hwd inlX6 hown hK hP 0 rfl rfl 3 (by decide) (hwd _ kr10_14) (fun _ h9 => h9) rfl dX6_findsRoom_110 ?_
                      refine lv_iload hx hb dX6_findsRoom_113 (lv_at hl 5 rfl) ?_
                      refine lv_dup2_11 hx hb dX6_findsRoom_115 rfl rfl ?_
                      have h180 : vp_in w5_1 8 := (vp_of (by omega) (by omega))
                      refine va_iald hx hb hK hP 3 0 rfl rfl h180 dX6_findsRoom_116 ?_
                      refine lv_topi (fun x181 ex181 => ?_)
                      refine lv_aload_n hx hb dX6_findsRoom_117 rfl (lv_at hl 0 rfl) ?_
                      refine va_get (D := (dC, dI)) (ci := 6) (v := .ref a1) (C := RX6) (T := TX6) (N := 4) hx hb hwd inlX6 hown hK hP 0 rfl rfl 1 (by decide) (hwd _ kr10_10) (fun _ h9 => h9) rfl dX6_findsRoom_118 ?_
                      refine lv_iload_n hx hb dX6_findsRoom_121 rfl (lv_at hl 1 rfl) ?_
                      have h182 : vp_in p1 8 := (vp_of (by omega) (by omega))
                      refine va_iald hx hb hK hP 1 0 rfl rfl h182 dX6_findsRoom_122 ?_
                      refine lv_topi (nm_r (e' := x152) ex152.symm ?_)
                      refine lv_isub hx hb dX6_findsRoom_123 ?_
                      refine lv_topi (fun x183 ex183 => ?_)
                      refine va_iast hx hb hK hP hD hS 3 0 rfl rfl (vp_of (by omega) (by omega)) dX6_findsRoom_124 (fun H locs hP hD hS => ?_)
                      obtain ⟨f184, ef184⟩ : ∃ f, f = upd (U177 1) w5_1.toNatClampNeg x183 := ⟨_, rfl⟩
                      replace hP : va_P (dC, dI) vwCl [(a0, .inr (6, [.int i0, .ref a1, .ref a2, .ref a3])), (a1, .inl (cI, 8, .inl xF0)), (a2, .inl (cI, 8, .inl (U177 0))), (a3, .inl (cI, 8, .inl f184))] H := by rw [ef184]; exact hP
                      replace hD : va_D A [(a0, .inr (6, [.int i0, .ref a1, .ref a2, .ref a3])), (a1, .inl (cI, 8, .inl xF0)), (a2, .inl (cI, 8, .inl (U177 0))), (a3, .inl (cI, 8, .inl f184))] := by rw [ef184]; exact hD
                      obtain ⟨x185, ex185⟩ : ∃ y : Int32, y = w5_1 + 1 := ⟨_, rfl⟩
                      refine lv_iinc (v := x185) (lv' := [(5, .int x185), (0, .ref a0), (1, .int p1), (2, .int p2), (3, .int p3), (4, .int p4)]) hx hb dX6_findsRoom_125 hl (k := 5) rfl (by rw [ex185]; rfl) (by decide) rfl (fun ls hl => ?_)
                      have tx185 := ia_add (a := w5_1) (b := (1 : Int32)) (by omega) (by omega)
                      rw [← ex185] at tx185
                      refine lv_goto (tgt := 19) hx hb dX6_findsRoom_128 (by decide) ?_
                      exact ih1 _ _ ls x185 (U177 0) f184 (show (0 : Int) ≤ x185.toInt ∧ x185.toInt ≤ 8 from ⟨by omega, by omega⟩) (by omega) (hP.sub (ws' := [(a0, .inr (6, [.int i0, .ref a1, .ref a2, .ref a3])), (a1, .inl (cI, 8, .inl xF0)), (a2, .inl (cI, 8, .inl (U177 0))), (a3, .inl (cI, 8, .inl f184))]) [0, 1, 2, 3] rfl) (hD.sub (ws' := [(a0, .inr (6, [.int i0, .ref a1, .ref a2, .ref a3])), (a1, .inl (cI, 8, .inl xF0)), (a2, .inl (cI, 8, .inl (U177 0))), (a3, .inl (cI, 8, .inl f184))]) [0, 1, 2, 3] (by decide) rfl) hS (lv_sub hl [1, 2, 3, 4, 5, 0] rfl)
                    · rw [ki_eq] at c179
                      refine lv_iconst (v := 1) hx hb dX6_findsRoom_107 (by decide) ?_
                      have hP9 := hP.sub (ws' := [(a0, .inr (6, [.int i0, .ref a1, .ref a2, .ref a3])), (a1, .inl (cI, 8, .inl xF0)), (a2, .inl (cI, 8, .inl (U177 0))), (a3, .inl (cI, 8, .inl (U177 1)))]) [0, 1, 2, 3] rfl
                      have hD9 := hD.sub (ws' := [(a0, .inr (6, [.int i0, .ref a1, .ref a2, .ref a3])), (a1, .inl (cI, 8, .inl xF0)), (a2, .inl (cI, 8, .inl (U177 0))), (a3, .inl (cI, 8, .inl (U177 1)))]) [0, 1, 2, 3] (by decide) rfl
                      rw [hQ]
                      exact W.zret (v := 1) hx hb hr (by decide) (fun t ht hW => ⟨⟨1, (pickG 0 [], pickG (fun _ => 0) [(U177 0), (U177 1)], pickG (fun _ => 0) []), rfl, ⟨(show (0 : Int) ≤ (1 : Int32).toInt ∧ (1 : Int32).toInt ≤ 1 from ⟨by omega, by omega⟩), trivial⟩, (by rw [ht]; exact hP9), hD9⟩, hS.F ht⟩) hS.2.2 dX6_findsRoom_108
                  refine lv_icmp_ne (tgt := 97) hx hb dX6_findsRoom_88 (by decide) (fun c186 => ?_) (fun c186 => ?_)
                  · rw [ki_eq] at c186
                    refine lv_iload_n hx hb dX6_findsRoom_97 rfl (lv_at hl 2 rfl) ?_
                    exact jp7 _ _ ls p2 (show (0 : Int) ≤ p2.toInt ∧ p2.toInt ≤ 2147483647 from ⟨by omega, i32_hi⟩) (hP.sub (ws' := [(a0, .inr (6, [.int i0, .ref a1, .ref a2, .ref a3])), (a1, .inl (cI, 8, .inl xF0)), (a2, .inl (cI, 8, .inl f160)), (a3, .inl (cI, 8, .inl f159))]) [0, 1, 2, 3] rfl) (hD.sub (ws' := [(a0, .inr (6, [.int i0, .ref a1, .ref a2, .ref a3])), (a1, .inl (cI, 8, .inl xF0)), (a2, .inl (cI, 8, .inl f160)), (a3, .inl (cI, 8, .inl f159))]) [0, 1, 2, 3] (by decide) rfl) hS (lv_sub hl [0, 1, 2, 3, 4, 5] rfl)
                  · rw [ki_eq] at c186
                    refine lv_iload_n hx hb dX6_findsRoom_91 rfl (lv_at hl 2 rfl) ?_
                    refine lv_iconst (v := 1) hx hb dX6_findsRoom_92 (by decide) ?_
                    refine lv_iadd hx hb dX6_findsRoom_93 ?_
                    refine lv_topi (fun x187 ex187 => ?_)
                    have tx187 := ia_add (a := p2) (b := (1 : Int32)) (by omega) (by omega)
                    rw [← ex187] at tx187
                    refine lv_goto (tgt := 98) hx hb dX6_findsRoom_94 (by decide) ?_
                    exact jp7 _ _ ls x187 (show (0 : Int) ≤ x187.toInt ∧ x187.toInt ≤ 2147483647 from ⟨by omega, i32_hi⟩) (hP.sub (ws' := [(a0, .inr (6, [.int i0, .ref a1, .ref a2, .ref a3])), (a1, .inl (cI, 8, .inl xF0)), (a2, .inl (cI, 8, .inl f160)), (a3, .inl (cI, 8, .inl f159))]) [0, 1, 2, 3] rfl) (hD.sub (ws' := [(a0, .inr (6, [.int i0, .ref a1, .ref a2, .ref a3])), (a1, .inl (cI, 8, .inl xF0)), (a2, .inl (cI, 8, .inl f160)), (a3, .inl (cI, 8, .inl f159))]) [0, 1, 2, 3] (by decide) rfl) hS (lv_sub hl [0, 1, 2, 3, 4, 5] rfl)
      exact lp1 _ _ _ ls (0) xF1 xF2 (show (0 : Int) ≤ (0 : Int32).toInt ∧ (0 : Int32).toInt ≤ 8 from ⟨by omega, by omega⟩) (Nat.lt_succ_self _) (hP.sub (ws' := [(a0, .inr (6, [.int i0, .ref a1, .ref a2, .ref a3])), (a1, .inl (cI, 8, .inl xF0)), (a2, .inl (cI, 8, .inl xF1)), (a3, .inl (cI, 8, .inl xF2))]) [0, 1, 2, 3] rfl) (hD.sub (ws' := [(a0, .inr (6, [.int i0, .ref a1, .ref a2, .ref a3])), (a1, .inl (cI, 8, .inl xF0)), (a2, .inl (cI, 8, .inl xF1)), (a3, .inl (cI, 8, .inl xF2))]) [0, 1, 2, 3] (by decide) rfl) hS (lv_sub hl [1, 2, 3, 4, 5, 0] rfl)
    · rw [ki_lt] at c2
      exfalso
      omega
set_option maxHeartbeats 4000000 in
set_option maxRecDepth 100000 in
theorem s_X6_findsRoom_1 (l : Launch) (dC : Nat → ClassId) (dI : Nat → Nat → Nat) (cI cZ cB cJ cM cG : ClassId) (a0 a1 a2 a3 : Nat) (i0 : Int32) (xF0 xF1 xF2 : Nat → Int32) (p1 p2 p3 p4 : Int32) (sz : Nat) (p_0 : (0 : Int) ≤ i0.toInt ∧ i0.toInt ≤ 8) (p_1 : (1 : Int) ≤ p1.toInt ∧ p1.toInt ≤ 8) : Met l yX6_findsRoom (kw yX6_findsRoom cX6_findsRoom 6 (some .boolean)) ({ frames := 7, cells := 0, slots := 0, locals := 175 } : Room) (va_Pc [.ref a0, .int p1, .int p2, .int p3, .int p4] (kPre dC dI [(cI, .int), (cZ, .boolean), (cB, .byte), (cJ, .long), (cM, .object RX2), (cG, .array .int)] [(a0, .inr (6, [.int i0, .ref a1, .ref a2, .ref a3])), (a1, .inl (cI, 8, .inl xF0)), (a2, .inl (cI, 8, .inl xF1)), (a3, .inl (cI, 8, .inl xF2))] sz)) (va_Qi (fun (r : Int32) (u9 : (Nat → Int32) × (Nat → Nat → Int32) × (Nat → Nat → Int64)) => ((0 : Int) ≤ r.toInt ∧ r.toInt ≤ 1) ∧ True) (fun u9 t => va_P (dC, dI) vwCl [(a0, .inr (6, [.int i0, .ref a1, .ref a2, .ref a3])), (a1, .inl (cI, 8, .inl xF0)), (a2, .inl (cI, 8, .inl (u9.2.1 0))), (a3, .inl (cI, 8, .inl (u9.2.1 1)))] t.heap ∧ va_D (va_A [(a0, .inr (6, [.int i0, .ref a1, .ref a2, .ref a3])), (a1, .inl (cI, 8, .inl xF0)), (a2, .inl (cI, 8, .inl xF1)), (a3, .inl (cI, 8, .inl xF2))] sz) [(a0, .inr (6, [.int i0, .ref a1, .ref a2, .ref a3])), (a1, .inl (cI, 8, .inl xF0)), (a2, .inl (cI, 8, .inl (u9.2.1 0))), (a3, .inl (cI, 8, .inl (u9.2.1 1)))]) (va_A [(a0, .inr (6, [.int i0, .ref a1, .ref a2, .ref a3])), (a1, .inl (cI, 8, .inl xF0)), (a2, .inl (cI, 8, .inl xF1)), (a3, .inl (cI, 8, .inl xF2))] sz)) 0 0 (va_A [(a0, .inr (6, [.int i0, .ref a1, .ref a2, .ref a3])), (a1, .inl (cI, 8, .inl xF0)), (a2, .inl (cI, 8, .inl xF1)), (a3, .inl (cI, 8, .inl xF2))] sz) := by
  refine kEnter (by decide) (Nat.le_of_ble_eq_true rfl) ?_
  intro p e s m below meth c ls hx hb hr hml hown hlocks hin hwd hsz hP hK hD hl
  subst hsz
  generalize hAe : va_A [(a0, .inr (6, [.int i0, .ref a1, .ref a2, .ref a3])), (a1, .inl (cI, 8, .inl xF0)), (a2, .inl (cI, 8, .inl xF1)), (a3, .inl (cI, 8, .inl xF2))] s.heap.size = A at hD ⊢
  have hA : ∀ q : Nat, s.heap.size ≤ q → A q := fun q h => by rw [← hAe]; exact Or.inr h
  have hS : va_S A s.heap s.heap [] := va_S.rf
  have hl : lv_has ls 6 [(0, .ref a0), (1, .int p1), (2, .int p2), (3, .int p3), (4, .int p4)] := hl
  obtain ⟨Q, hQ⟩ : ∃ Q, Q = MQ below (va_Qi (fun (r : Int32) (u9 : (Nat → Int32) × (Nat → Nat → Int32) × (Nat → Nat → Int64)) => ((0 : Int) ≤ r.toInt ∧ r.toInt ≤ 1) ∧ True) (fun u9 t => va_P (dC, dI) vwCl [(a0, .inr (6, [.int i0, .ref a1, .ref a2, .ref a3])), (a1, .inl (cI, 8, .inl xF0)), (a2, .inl (cI, 8, .inl (u9.2.1 0))), (a3, .inl (cI, 8, .inl (u9.2.1 1)))] t.heap ∧ va_D A [(a0, .inr (6, [.int i0, .ref a1, .ref a2, .ref a3])), (a1, .inl (cI, 8, .inl xF0)), (a2, .inl (cI, 8, .inl (u9.2.1 0))), (a3, .inl (cI, 8, .inl (u9.2.1 1)))]) A) ([.ref a0, .int p1, .int p2, .int p3, .int p4] : List Value).toArray s 0 0 A := ⟨_, rfl⟩
  rw [← hQ]
  have k0 : (0 : Int32).toInt = 0 := by decide
  have k1 : (1 : Int32).toInt = 1 := by decide
  have k8 : (8 : Int32).toInt = 8 := by decide
  refine lv_iload_n hx hb dX6_findsRoom_0 rfl (lv_at hl 1 rfl) ?_
  refine lv_aload_n hx hb dX6_findsRoom_1 rfl (lv_at hl 0 rfl) ?_
  refine va_get (D := (dC, dI)) (ci := 6) (v := .int i0) (C := RX6) (T := TX6) (N := 4) hx hb hwd inlX6 hown hK hP 0 rfl rfl 0 (by decide) (hwd _ kr10_8) (fun _ h9 => h9) rfl dX6_findsRoom_2 ?_
  refine lv_icmp_ge (tgt := 14) hx hb dX6_findsRoom_5 (by decide) (fun c1 => ?_) (fun c1 => ?_)
  · rw [ki_le] at c1
    refine lv_iconst (v := 1) hx hb dX6_findsRoom_14 (by decide) ?_
    have hP9 := hP.sub (ws' := [(a0, .inr (6, [.int i0, .ref a1, .ref a2, .ref a3])), (a1, .inl (cI, 8, .inl xF0)), (a2, .inl (cI, 8, .inl xF1)), (a3, .inl (cI, 8, .inl xF2))]) [0, 1, 2, 3] rfl
    have hD9 := hD.sub (ws' := [(a0, .inr (6, [.int i0, .ref a1, .ref a2, .ref a3])), (a1, .inl (cI, 8, .inl xF0)), (a2, .inl (cI, 8, .inl xF1)), (a3, .inl (cI, 8, .inl xF2))]) [0, 1, 2, 3] (by decide) rfl
    rw [hQ]
    exact W.zret (v := 1) hx hb hr (by decide) (fun t ht hW => ⟨⟨1, (pickG 0 [], pickG (fun _ => 0) [xF1, xF2], pickG (fun _ => 0) []), rfl, ⟨(show (0 : Int) ≤ (1 : Int32).toInt ∧ (1 : Int32).toInt ≤ 1 from ⟨by omega, by omega⟩), trivial⟩, (by rw [ht]; exact hP9), hD9⟩, hS.F ht⟩) hS.2.2 dX6_findsRoom_15
  · rw [ki_le] at c1
    refine lv_iload_n hx hb dX6_findsRoom_8 rfl (lv_at hl 1 rfl) ?_
    refine lv_bipush (v := 8) hx hb dX6_findsRoom_9 (by decide) ?_
    refine lv_icmp_lt (tgt := 16) hx hb dX6_findsRoom_11 (by decide) (fun c2 => ?_) (fun c2 => ?_)
    · rw [ki_lt] at c2
      refine lv_iconst (v := 0) hx hb dX6_findsRoom_16 (by decide) ?_
      refine lv_istore (lv' := [(5, .int 0), (0, .ref a0), (1, .int p1), (2, .int p2), (3, .int p3), (4, .int p4)]) hx hb dX6_findsRoom_17 hl (by decide) rfl (fun ls hl => ?_)
      have lp1 : ∀ (d : Nat), ∀ (H : Heap) (locs : List Loc) (ls : Array Slot) (w5_1 : Int32) (g1_1 : Nat → Int32) (g2_1 : Nat → Int32), ((0 : Int) ≤ w5_1.toInt ∧ w5_1.toInt ≤ 8) → (8 - w5_1.toInt).toNat < d → va_P (dC, dI) vwCl [(a0, .inr (6, [.int i0, .ref a1, .ref a2, .ref a3])), (a1, .inl (cI, 8, .inl xF0)), (a2, .inl (cI, 8, .inl g1_1)), (a3, .inl (cI, 8, .inl g2_1))] H → va_D A [(a0, .inr (6, [.int i0, .ref a1, .ref a2, .ref a3])), (a1, .inl (cI, 8, .inl xF0)), (a2, .inl (cI, 8, .inl g1_1)), (a3, .inl (cI, 8, .inl g2_1))] → va_S A s.heap H locs → lv_has ls 6 [(0, .ref a0), (1, .int p1), (2, .int p2), (3, .int p3), (4, .int p4), (5, .int w5_1)] → W p l e ({ frames := 7, cells := 0, slots := 0, locals := 175 } : Room) s m ([.ref a0, .int p1, .int p2, .int p3, .int p4] : List Value).toArray below meth c H locs 0 0 Q (F0 m 19 ls []) := by
        intro d
        induction d with
        | zero =>
          intro H locs ls w5_1 g1_1 g2_1 hr_w5_1 hm hP hD hS hl
          omega
        | succ d ih1 =>
          intro H locs ls w5_1 g1_1 g2_1 hr_w5_1 hm hP hD hS hl
          refine lv_iload hx hb dX6_findsRoom_19 (lv_at hl 5 rfl) ?_
          refine lv_iload_n hx hb dX6_findsRoom_21 rfl (lv_at hl 2 rfl) ?_
          refine lv_icmp_gt (tgt := 131) hx hb dX6_findsRoom_22 (by decide) (fun c146 => ?_) (fun c146 => ?_)
          · rw [ki_lt] at c146
            refine lv_iconst (v := 0) hx hb dX6_findsRoom_131 (by decide) ?_
            have hP9 := hP.sub (ws' := [(a0, .inr (6, [.int i0, .ref a1, .ref a2, .ref a3])), (a1, .inl (cI, 8, .inl xF0)), (a2, .inl (cI, 8, .inl g1_1)), (a3, .inl (cI, 8, .inl g2_1))]) [0, 1, 2, 3] rfl
            have hD9 := hD.sub (ws' := [(a0, .inr (6, [.int i0, .ref a1, .ref a2, .ref a3])), (a1, .inl (cI, 8, .inl xF0)), (a2, .inl (cI, 8, .inl g1_1)), (a3, .inl (cI, 8, .inl g2_1))]) [0, 1, 2, 3] (by decide) rfl
            rw [hQ]
            exact W.zret (v := 0) hx hb hr (by decide) (fun t ht hW => ⟨⟨0, (pickG 0 [], pickG (fun _ => 0) [g1_1, g2_1], pickG (fun _ => 0) []), rfl, ⟨(show (0 : Int) ≤ (0 : Int32).toInt ∧ (0 : Int32).toInt ≤ 1 from ⟨by omega, by omega⟩), trivial⟩, (by rw [ht]; exact hP9), hD9⟩, hS.F ht⟩) hS.2.2 dX6_findsRoom_132
          · rw [ki_lt] at c146
            refine lv_iload hx hb dX6_findsRoom_25 (lv_at hl 5 rfl) ?_
            refine lv_iload_n hx hb dX6_findsRoom_27 rfl (lv_at hl 3 rfl) ?_
            refine lv_icmp_ge (tgt := 131) hx hb dX6_findsRoom_28 (by decide) (fun c147 => ?_) (fun c147 => ?_)
            · rw [ki_le] at c147
              refine lv_iconst (v := 0) hx hb dX6_findsRoom_131 (by decide) ?_
              have hP9 := hP.sub (ws' := [(a0, .inr (6, [.int i0, .ref a1, .ref a2, .ref a3])), (a1, .inl (cI, 8, .inl xF0)), (a2, .inl (cI, 8, .inl g1_1)), (a3, .inl (cI, 8, .inl g2_1))]) [0, 1, 2, 3] rfl
              have hD9 := hD.sub (ws' := [(a0, .inr (6, [.int i0, .ref a1, .ref a2, .ref a3])), (a1, .inl (cI, 8, .inl xF0)), (a2, .inl (cI, 8, .inl g1_1)), (a3, .inl (cI, 8, .inl g2_1))]) [0, 1, 2, 3] (by decide) rfl
              rw [hQ]
              exact W.zret (v := 0) hx hb hr (by decide) (fun t ht hW => ⟨⟨0, (pickG 0 [], pickG (fun _ => 0) [g1_1, g2_1], pickG (fun _ => 0) []), rfl, ⟨(show (0 : Int) ≤ (0 : Int32).toInt ∧ (0 : Int32).toInt ≤ 1 from ⟨by omega, by omega⟩), trivial⟩, (by rw [ht]; exact hP9), hD9⟩, hS.F ht⟩) hS.2.2 dX6_findsRoom_132
            · rw [ki_le] at c147
              refine lv_iload hx hb dX6_findsRoom_31 (lv_at hl 5 rfl) ?_
              refine lv_bipush (v := 8) hx hb dX6_findsRoom_33 (by decide) ?_
              refine lv_icmp_ge (tgt := 131) hx hb dX6_findsRoom_35 (by decide) (fun c148 => ?_) (fun c148 => ?_)
              · rw [ki_le] at c148
                refine lv_iconst (v := 0) hx hb dX6_findsRoom_131 (by decide) ?_
                have hP9 := hP.sub (ws' := [(a0, .inr (6, [.int i0, .ref a1, .ref a2, .ref a3])), (a1, .inl (cI, 8, .inl xF0)), (a2, .inl (cI, 8, .inl g1_1)), (a3, .inl (cI, 8, .inl g2_1))]) [0, 1, 2, 3] rfl
                have hD9 := hD.sub (ws' := [(a0, .inr (6, [.int i0, .ref a1, .ref a2, .ref a3])), (a1, .inl (cI, 8, .inl xF0)), (a2, .inl (cI, 8, .inl g1_1)), (a3, .inl (cI, 8, .inl g2_1))]) [0, 1, 2, 3] (by decide) rfl
                rw [hQ]
                exact W.zret (v := 0) hx hb hr (by decide) (fun t ht hW => ⟨⟨0, (pickG 0 [], pickG (fun _ => 0) [g1_1, g2_1], pickG (fun _ => 0) []), rfl, ⟨(show (0 : Int) ≤ (0 : Int32).toInt ∧ (0 : Int32).toInt ≤ 1 from ⟨by omega, by omega⟩), trivial⟩, (by rw [ht]; exact hP9), hD9⟩, hS.F ht⟩) hS.2.2 dX6_findsRoom_132
              · rw [ki_le] at c148
                refine lv_aload_n hx hb dX6_findsRoom_38 rfl (lv_at hl 0 rfl) ?_
                refine va_get (D := (dC, dI)) (ci := 6) (v := .ref a3) (C := RX6) (T := TX6) (N := 4) hx hb hwd inlX6 hown hK hP 0 rfl rfl 3 (by decide) (hwd _ kr10_14) (fun _ h9 => h9) rfl dX6_findsRoom_39 ?_
                refine lv_iload hx hb dX6_findsRoom_42 (lv_at hl 5 rfl) ?_
                have h149 : vp_in w5_1 8 := (vp_of (by omega) (by omega))
                refine va_iald hx hb hK hP 3 0 rfl rfl h149 dX6_findsRoom_44 ?_
                refine lv_topi (fun x150 ex150 => ?_)
                refine lv_aload_n hx hb dX6_findsRoom_45 rfl (lv_at hl 0 rfl) ?_
                refine va_get (D := (dC, dI)) (ci := 6) (v := .ref a1) (C := RX6) (T := TX6) (N := 4) hx hb hwd inlX6 hown hK hP 0 rfl rfl 1 (by decide) (hwd _ kr10_10) (fun _ h9 => h9) rfl dX6_findsRoom_46 ?_
                refine lv_iload_n hx hb dX6_findsRoom_49 rfl (lv_at hl 1 rfl) ?_
                have h151 : vp_in p1 8 := (vp_of (by omega) (by omega))
                refine va_iald hx hb hK hP 1 0 rfl rfl h151 dX6_findsRoom_50 ?_
                refine lv_topi (fun x152 ex152 => ?_)
                refine lv_iadd hx hb dX6_findsRoom_51 ?_
                refine lv_topi (fun x153 ex153 => ?_)
                refine lv_iload hx hb dX6_findsRoom_52 (lv_at hl 4 rfl) ?_
                refine lv_icmp_gt (tgt := 125) hx hb dX6_findsRoom_54 (by decide) (fun c154 => ?_) (fun c154 => ?_)
                · rw [ki_lt] at c154
                  obtain ⟨x155, ex155⟩ : ∃ y : Int32, y = w5_1 + 1 := ⟨_, rfl⟩
                  refine lv_iinc (v := x155) (lv' := [(5, .int x155), (0, .ref a0), (1, .int p1), (2, .int p2), (3, .int p3), (4, .int p4)]) hx hb dX6_findsRoom_125 hl (k := 5) rfl (by rw [ex155]; rfl) (by decide) rfl (fun ls hl => ?_)
                  have tx155 := ia_add (a := w5_1) (b := (1 : Int32)) (by omega) (by omega)
                  rw [← ex155] at tx155
                  refine lv_goto (tgt := 19) hx hb dX6_findsRoom_128 (by decide) ?_
                  exact ih1 _ _ ls x155 g1_1 g2_1 (show (0 : Int) ≤ x155.toInt ∧ x155.toInt ≤ 8 from ⟨by omega, by omega⟩) (by omega) (hP.sub (ws' := [(a0, .inr (6, [.int i0, .ref a1, .ref a2, .ref a3])), (a1, .inl (cI, 8, .inl xF0)), (a2, .inl (cI, 8, .inl g1_1)), (a3, .inl (cI, 8, .inl g2_1))]) [0, 1, 2, 3] rfl) (hD.sub (ws' := [(a0, .inr (6, [.int i0, .ref a1, .ref a2, .ref a3])), (a1, .inl (cI, 8, .inl xF0)), (a2, .inl (cI, 8, .inl g1_1)), (a3, .inl (cI, 8, .inl g2_1))]) [0, 1, 2, 3] (by decide) rfl) hS (lv_sub hl [1, 2, 3, 4, 5, 0] rfl)
                · rw [ki_lt] at c154
                  refine lv_aload_n hx hb dX6_findsRoom_57 rfl (lv_at hl 0 rfl) ?_
                  refine va_get (D := (dC, dI)) (ci := 6) (v := .ref a3) (C := RX6) (T := TX6) (N := 4) hx hb hwd inlX6 hown hK hP 0 rfl rfl 3 (by decide) (hwd _ kr10_14) (fun _ h9 => h9) rfl dX6_findsRoom_58 ?_
                  refine lv_iload hx hb dX6_findsRoom_61 (lv_at hl 5 rfl) ?_
                  refine lv_dup2_11 hx hb dX6_findsRoom_63 rfl rfl ?_
                  have h156 : vp_in w5_1 8 := (vp_of (by omega) (by omega))
                  refine va_iald hx hb hK hP 3 0 rfl rfl h156 dX6_findsRoom_64 ?_
                  refine lv_topi (nm_r (e' := x150) ex150.symm ?_)
                  refine lv_aload_n hx hb dX6_findsRoom_65 rfl (lv_at hl 0 rfl) ?_
                  refine va_get (D := (dC, dI)) (ci := 6) (v := .ref a1) (C := RX6) (T := TX6) (N := 4) hx hb hwd inlX6 hown hK hP 0 rfl rfl 1 (by decide) (hwd _ kr10_10) (fun _ h9 => h9) rfl dX6_findsRoom_66 ?_
                  refine lv_iload_n hx hb dX6_findsRoom_69 rfl (lv_at hl 1 rfl) ?_
                  have h157 : vp_in p1 8 := (vp_of (by omega) (by omega))
                  refine va_iald hx hb hK hP 1 0 rfl rfl h157 dX6_findsRoom_70 ?_
                  refine lv_topi (nm_r (e' := x152) ex152.symm ?_)
                  refine lv_iadd hx hb dX6_findsRoom_71 ?_
                  refine lv_topi (fun x158 ex158 => ?_)
                  refine va_iast hx hb hK hP hD hS 3 0 rfl rfl (vp_of (by omega) (by omega)) dX6_findsRoom_72 (fun H locs hP hD hS => ?_)
                  obtain ⟨f159, ef159⟩ : ∃ f, f = upd g2_1 w5_1.toNatClampNeg x158 := ⟨_, rfl⟩
                  replace hP : va_P (dC, dI) vwCl [(a0, .inr (6, [.int i0, .ref a1, .ref a2, .ref a3])), (a1, .inl (cI, 8, .inl xF0)), (a2, .inl (cI, 8, .inl g1_1)), (a3, .inl (cI, 8, .inl f159))] H := by rw [ef159]; exact hP
                  replace hD : va_D A [(a0, .inr (6, [.int i0, .ref a1, .ref a2, .ref a3])), (a1, .inl (cI, 8, .inl xF0)), (a2, .inl (cI, 8, .inl g1_1)), (a3, .inl (cI, 8, .inl f159))] := by rw [ef159]; exact hD
                  refine lv_aload_n hx hb dX6_findsRoom_73 rfl (lv_at hl 0 rfl) ?_
                  refine va_get (D := (dC, dI)) (ci := 6) (v := .ref a2) (C := RX6) (T := TX6) (N := 4) hx hb hwd inlX6 hown hK hP 0 rfl rfl 2 (by decide) (hwd _ kr10_12) (fun _ h9 => h9) rfl dX6_findsRoom_74 ?_
                  refine lv_iload_n hx hb dX6_findsRoom_77 rfl (lv_at hl 1 rfl) ?_
                  refine lv_iload hx hb dX6_findsRoom_78 (lv_at hl 5 rfl) ?_
                  refine va_iast hx hb hK hP hD hS 2 0 rfl rfl (vp_of (by omega) (by omega)) dX6_findsRoom_80 (fun H locs hP hD hS => ?_)
                  obtain ⟨f160, ef160⟩ : ∃ f, f = upd g1_1 p1.toNatClampNeg w5_1 := ⟨_, rfl⟩
                  replace hP : va_P (dC, dI) vwCl [(a0, .inr (6, [.int i0, .ref a1, .ref a2, .ref a3])), (a1, .inl (cI, 8, .inl xF0)), (a2, .inl (cI, 8, .inl f160)), (a3, .inl (cI, 8, .inl f159))] H := by rw [ef160]; exact hP
                  replace hD : va_D A [(a0, .inr (6, [.int i0, .ref a1, .ref a2, .ref a3])), (a1, .inl (cI, 8, .inl xF0)), (a2, .inl (cI, 8, .inl f160)), (a3, .inl (cI, 8, .inl f159))] := by rw [ef160]; exact hD
                  refine lv_aload_n hx hb dX6_findsRoom_81 rfl (lv_at hl 0 rfl) ?_
                  refine lv_iload_n hx hb dX6_findsRoom_82 rfl (lv_at hl 1 rfl) ?_
                  refine lv_iconst (v := 1) hx hb dX6_findsRoom_83 (by decide) ?_
                  refine lv_iadd hx hb dX6_findsRoom_84 ?_
                  refine lv_topi (fun x161 ex161 => ?_)
                  have tx161 := ia_add (a := p1) (b := (1 : Int32)) (by omega) (by omega)
                  rw [← ex161] at tx161
                  refine lv_iload hx hb dX6_findsRoom_85 (lv_at hl 5 rfl) ?_
                  refine lv_iload_n hx hb dX6_findsRoom_87 rfl (lv_at hl 2 rfl) ?_
                  have jp7 : ∀ (H : Heap) (locs : List Loc) (ls : Array Slot) (z2_7 : Int32), ((0 : Int) ≤ z2_7.toInt ∧ z2_7.toInt ≤ 2147483647) → va_P (dC, dI) vwCl [(a0, .inr (6, [.int i0, .ref a1, .ref a2, .ref a3])), (a1, .inl (cI, 8, .inl xF0)), (a2, .inl (cI, 8, .inl f160)), (a3, .inl (cI, 8, .inl f159))] H → va_D A [(a0, .inr (6, [.int i0, .ref a1, .ref a2, .ref a3])), (a1, .inl (cI, 8, .inl xF0)), (a2, .inl (cI, 8, .inl f160)), (a3, .inl (cI, 8, .inl f159))] → va_S A s.heap H locs → lv_has ls 6 [(0, .ref a0), (1, .int p1), (2, .int p2), (3, .int p3), (4, .int p4), (5, .int w5_1)] → W p l e ({ frames := 7, cells := 0, slots := 0, locals := 175 } : Room) s m ([.ref a0, .int p1, .int p2, .int p3, .int p4] : List Value).toArray below meth c H locs 0 0 Q (F0 m 98 ls [.int z2_7, .int x161, .ref a0]) := by
                    intro H locs ls z2_7 hr_z2_7 hP hD hS hl
                    refine lv_iload_n hx hb dX6_findsRoom_98 rfl (lv_at hl 3 rfl) ?_
                    refine lv_iload hx hb dX6_findsRoom_99 (lv_at hl 4 rfl) ?_
                    have hPc := hP.sub (ws' := [(a0, .inr (6, [.int i0, .ref a1, .ref a2, .ref a3])), (a1, .inl (cI, 8, .inl xF0)), (a2, .inl (cI, 8, .inl f160)), (a3, .inl (cI, 8, .inl f159))]) [0, 1, 2, 3] rfl
                    have hDc := hD.sub (ws' := [(a0, .inr (6, [.int i0, .ref a1, .ref a2, .ref a3])), (a1, .inl (cI, 8, .inl xF0)), (a2, .inl (cI, 8, .inl f160)), (a3, .inl (cI, 8, .inl f159))]) [0, 1, 2, 3] (by decide) rfl
                    have hFc := va_free (wc := [(a0, .inr (6, [.int i0, .ref a1, .ref a2, .ref a3])), (a1, .inl (cI, 8, .inl xF0)), (a2, .inl (cI, 8, .inl f160)), (a3, .inl (cI, 8, .inl f159))]) hD hS hA [0, 1, 2, 3] rfl
                    refine va_calli (va_runS (As := [.ref a0, .int x161, .int z2_7, .int p3, .int p4]) (rest := []) ⟨hx, hb, hml, hown, hwd⟩ (s_X6_findsRoom_2 l dC dI cI cZ cB cJ cM cG a0 a1 a2 a3 i0 xF0 f160 f159 x161 z2_7 p3 p4 H.size (show (0 : Int) ≤ i0.toInt ∧ i0.toInt ≤ 8 from p_0) (show (2 : Int) ≤ x161.toInt ∧ x161.toInt ≤ 8 from ⟨by omega, by omega⟩)) (cwS 5 hwd (gS kr41_6 kr41_7 kr5_17 kr41_8) rfl rfl rfl (by decide +kernel) ⟨Nat.le_of_ble_eq_true rfl, Nat.le_of_ble_eq_true rfl⟩) (kPreS hPc hK hDc) rfl rfl hl.1 rfl (lv_room (Nat.le_of_ble_eq_true rfl)) dX6_findsRoom_101 ⟨Nat.le_of_ble_eq_true rfl, Nat.le_of_ble_eq_true rfl⟩) hS (fun q _ h => hFc q h) hFc (fun r175 u176 t H1 locs ht9 hvm hw hB hz1 hk1 hS => ?_)
                    obtain ⟨u177, U177, V177⟩ := u176
                    obtain ⟨hw178, -⟩ := hw
                    replace hw178 : (0 : Int) ≤ r175.toInt ∧ r175.toInt ≤ 1 := hw178
                    obtain ⟨hP1, hD1⟩ := hB
                    rw [ht9] at hP1
                    obtain ⟨hP, hD⟩ := va_join (wr := []) (w1 := [(a0, .inr (6, [.int i0, .ref a1, .ref a2, .ref a3])), (a1, .inl (cI, 8, .inl xF0)), (a2, .inl (cI, 8, .inl (U177 0))), (a3, .inl (cI, 8, .inl (U177 1)))]) hP hD [0, 1, 2, 3] [] rfl rfl (by decide) (by decide) hk1 hFc hP1 hD1
                    generalize H1 = H at hP hS ⊢
                    replace hP : va_P (dC, dI) vwCl [(a0, .inr (6, [.int i0, .ref a1, .ref a2, .ref a3])), (a1, .inl (cI, 8, .inl xF0)), (a2, .inl (cI, 8, .inl (U177 0))), (a3, .inl (cI, 8, .inl (U177 1)))] H := hP
                    replace hD : va_D A [(a0, .inr (6, [.int i0, .ref a1, .ref a2, .ref a3])), (a1, .inl (cI, 8, .inl xF0)), (a2, .inl (cI, 8, .inl (U177 0))), (a3, .inl (cI, 8, .inl (U177 1)))] := hD
                    refine lv_if_eq (tgt := 109) hx hb dX6_findsRoom_104 (by decide) (fun c179 => ?_) (fun c179 => ?_)
                    · rw [ki_eq] at c179
                      refine lv_aload_n hx hb dX6_findsRoom_109 rfl (lv_at hl 0 rfl) ?_
                      refine va_get (D := (dC, dI)) (ci := 6) (v := .ref a3) (C := RX6) (T := TX6) (N := 4) hx hb hwd inlX6 hown hK hP 0 rfl rfl 3 (by decide) (hwd _ kr10_14) (fun _ h9 => h9) rfl dX6_findsRoom_110 ?_
                      refine lv_iload hx hb dX6_findsRoom_113 (lv_at hl 5 rfl) ?_
                      refine lv_dup2_11 hx hb dX6_findsRoom_115 rfl rfl ?_
                      have h180 : vp_in w5_1 8 := (vp_of (by omega) (by omega))
                      refine va_iald hx hb hK hP 3 0 rfl rfl h180 dX6_findsRoom_116 ?_
                      refine lv_topi (fun x181 ex181 => ?_)
                      refine lv_aload_n hx hb dX6_findsRoom_117 rfl (lv_at hl 0 rfl) ?_
                      refine va_get (D := (dC, dI)) (ci := 6) (v := .ref a1) (C := RX6) (T := TX6) (N := 4) hx hb hwd inlX6 hown hK hP 0 rfl rfl 1 (by decide) (hwd _ kr10_10) (fun _ h9 => h9) rfl dX6_findsRoom_118 ?_
                      refine lv_iload_n hx hb dX6_findsRoom_121 rfl (lv_at hl 1 rfl) ?_
                      have h182 : vp_in p1 8 := (vp_of (by omega) (by omega))
                      refine va_iald hx hb hK hP 1 0 rfl rfl h182 dX6_findsRoom_122 ?_
                      refine lv_topi (nm_r (e' := x152) ex152.symm ?_)
                      refine lv_isub hx hb dX6_findsRoom_123 ?_
                      refine lv_topi (fun x183 ex183 => ?_)
                      refine va_iast hx hb hK hP hD hS 3 0 rfl rfl (vp_of (by omega) (by omega)) dX6_findsRoom_124 (fun H locs hP hD hS => ?_)
                      obtain ⟨f184, ef184⟩ : ∃ f, f = upd (U177 1) w5_1.toNatClampNeg x183 := ⟨_, rfl⟩
                      replace hP : va_P (dC, dI) vwCl [(a0, .inr (6, [.int i0, .ref a1, .ref a2, .ref a3])), (a1, .inl (cI, 8, .inl xF0)), (a2, .inl (cI, 8, .inl (U177 0))), (a3, .inl (cI, 8, .inl f184))] H := by rw [ef184]; exact hP
                      replace hD : va_D A [(a0, .inr (6, [.int i0, .ref a1, .ref a2, .ref a3])), (a1, .inl (cI, 8, .inl xF0)), (a2, .inl (cI, 8, .inl (U177 0))), (a3, .inl (cI, 8, .inl f184))] := by rw [ef184]; exact hD
                      obtain ⟨x185, ex185⟩ : ∃ y : Int32, y = w5_1 + 1 := ⟨_, rfl⟩
                      refine lv_iinc (v := x185) (lv' := [(5, .int x185), (0, .ref a0), (1, .int p1), (2, .int p2), (3, .int p3), (4, .int p4)]) hx hb dX6_findsRoom_125 hl (k := 5) rfl (by rw [ex185]; rfl) (by decide) rfl (fun ls hl => ?_)
                      have tx185 := ia_add (a := w5_1) (b := (1 : Int32)) (by omega) (by omega)
                      rw [← ex185] at tx185
                      refine lv_goto (tgt := 19) hx hb dX6_findsRoom_128 (by decide) ?_
                      exact ih1 _ _ ls x185 (U177 0) f184 (show (0 : Int) ≤ x185.toInt ∧ x185.toInt ≤ 8 from ⟨by omega, by omega⟩) (by omega) (hP.sub (ws' := [(a0, .inr (6, [.int i0, .ref a1, .ref a2, .ref a3])), (a1, .inl (cI, 8, .inl xF0)), (a2, .inl (cI, 8, .inl (U177 0))), (a3, .inl (cI, 8, .inl f184))]) [0, 1, 2, 3] rfl) (hD.sub (ws' := [(a0, .inr (6, [.int i0, .ref a1, .ref a2, .ref a3])), (a1, .inl (cI, 8, .inl xF0)), (a2, .inl (cI, 8, .inl (U177 0))), (a3, .inl (cI, 8, .inl f184))]) [0, 1, 2, 3] (by decide) rfl) hS (lv_sub hl [1, 2, 3, 4, 5, 0] rfl)
                    · rw [ki_eq] at c179
                      refine lv_iconst (v := 1) hx hb dX6_findsRoom_107 (by decide) ?_
                      have hP9 := hP.sub (ws' := [(a0, .inr (6, [.int i0, .ref a1, .ref a2, .ref a3])), (a1, .inl (cI, 8, .inl xF0)), (a2, .inl (cI, 8, .inl (U177 0))), (a3, .inl (cI, 8, .inl (U177 1)))]) [0, 1, 2, 3] rfl
                      have hD9 := hD.sub (ws' := [(a0, .inr (6, [.int i0, .ref a1, .ref a2, .ref a3])), (a1, .inl (cI, 8, .inl xF0)), (a2, .inl (cI, 8, .inl (U177 0))), (a3, .inl (cI, 8, .inl (U177 1)))]) [0, 1, 2, 3] (by decide) rfl
                      rw [hQ]
                      exact W.zret (v := 1) hx hb hr (by decide) (fun t ht hW => ⟨⟨1, (pickG 0 [], pickG (fun _ => 0) [(U177 0), (U177 1)], pickG (fun _ => 0) []), rfl, ⟨(show (0 : Int) ≤ (1 : Int32).toInt ∧ (1 : Int32).toInt ≤ 1 from ⟨by omega, by omega⟩), trivial⟩, (by rw [ht]; exact hP9), hD9⟩, hS.F ht⟩) hS.2.2 dX6_findsRoom_108
                  refine lv_icmp_ne (tgt := 97) hx hb dX6_findsRoom_88 (by decide) (fun c186 => ?_) (fun c186 => ?_)
                  · rw [ki_eq] at c186
                    refine lv_iload_n hx hb dX6_findsRoom_97 rfl (lv_at hl 2 rfl) ?_
                    exact jp7 _ _ ls p2 (show (0 : Int) ≤ p2.toInt ∧ p2.toInt ≤ 2147483647 from ⟨by omega, i32_hi⟩) (hP.sub (ws' := [(a0, .inr (6, [.int i0, .ref a1, .ref a2, .ref a3])), (a1, .inl (cI, 8, .inl xF0)), (a2, .inl (cI, 8, .inl f160)), (a3, .inl (cI, 8, .inl f159))]) [0, 1, 2, 3] rfl) (hD.sub (ws' := [(a0, .inr (6, [.int i0, .ref a1, .ref a2, .ref a3])), (a1, .inl (cI, 8, .inl xF0)), (a2, .inl (cI, 8, .inl f160)), (a3, .inl (cI, 8, .inl f159))]) [0, 1, 2, 3] (by decide) rfl) hS (lv_sub hl [0, 1, 2, 3, 4, 5] rfl)
                  · rw [ki_eq] at c186
                    refine lv_iload_n hx hb dX6_findsRoom_91 rfl (lv_at hl 2 rfl) ?_
                    refine lv_iconst (v := 1) hx hb dX6_findsRoom_92 (by decide) ?_
                    refine lv_iadd hx hb dX6_findsRoom_93 ?_
                    refine lv_topi (fun x187 ex187 => ?_)
                    have tx187 := ia_add (a := p2) (b := (1 : Int32)) (by omega) (by omega)
                    rw [← ex187] at tx187
                    refine lv_goto (tgt := 98) hx hb dX6_findsRoom_94 (by decide) ?_
                    exact jp7 _ _ ls x187 (show (0 : Int) ≤ x187.toInt ∧ x187.toInt ≤ 2147483647 from ⟨by omega, i32_hi⟩) (hP.sub (ws' := [(a0, .inr (6, [.int i0, .ref a1, .ref a2, .ref a3])), (a1, .inl (cI, 8, .inl xF0)), (a2, .inl (cI, 8, .inl f160)), (a3, .inl (cI, 8, .inl f159))]) [0, 1, 2, 3] rfl) (hD.sub (ws' := [(a0, .inr (6, [.int i0, .ref a1, .ref a2, .ref a3])), (a1, .inl (cI, 8, .inl xF0)), (a2, .inl (cI, 8, .inl f160)), (a3, .inl (cI, 8, .inl f159))]) [0, 1, 2, 3] (by decide) rfl) hS (lv_sub hl [0, 1, 2, 3, 4, 5] rfl)
      exact lp1 _ _ _ ls (0) xF1 xF2 (show (0 : Int) ≤ (0 : Int32).toInt ∧ (0 : Int32).toInt ≤ 8 from ⟨by omega, by omega⟩) (Nat.lt_succ_self _) (hP.sub (ws' := [(a0, .inr (6, [.int i0, .ref a1, .ref a2, .ref a3])), (a1, .inl (cI, 8, .inl xF0)), (a2, .inl (cI, 8, .inl xF1)), (a3, .inl (cI, 8, .inl xF2))]) [0, 1, 2, 3] rfl) (hD.sub (ws' := [(a0, .inr (6, [.int i0, .ref a1, .ref a2, .ref a3])), (a1, .inl (cI, 8, .inl xF0)), (a2, .inl (cI, 8, .inl xF1)), (a3, .inl (cI, 8, .inl xF2))]) [0, 1, 2, 3] (by decide) rfl) hS (lv_sub hl [1, 2, 3, 4, 5, 0] rfl)
    · rw [ki_lt] at c2
      exfalso
      omega
set_option maxHeartbeats 4000000 in
set_option maxRecDepth 100000 in
theorem s_X6_findsRoom_0 (l : Launch) (dC : Nat → ClassId) (dI : Nat → Nat → Nat) (cI cZ cB cJ cM cG : ClassId) (a0 a1 a2 a3 : Nat) (i0 : Int32) (xF0 xF1 xF2 : Nat → Int32) (p1 p2 p3 p4 : Int32) (sz : Nat) (p_0 : (0 : Int) ≤ i0.toInt ∧ i0.toInt ≤ 8) (p_1 : (0 : Int) ≤ p1.toInt ∧ p1.toInt ≤ 8) : Met l yX6_findsRoom (kw yX6_findsRoom cX6_findsRoom 6 (some .boolean)) ({ frames := 8, cells := 0, slots := 0, locals := 200 } : Room) (va_Pc [.ref a0, .int p1, .int p2, .int p3, .int p4] (kPre dC dI [(cI, .int), (cZ, .boolean), (cB, .byte), (cJ, .long), (cM, .object RX2), (cG, .array .int)] [(a0, .inr (6, [.int i0, .ref a1, .ref a2, .ref a3])), (a1, .inl (cI, 8, .inl xF0)), (a2, .inl (cI, 8, .inl xF1)), (a3, .inl (cI, 8, .inl xF2))] sz)) (va_Qi (fun (r : Int32) (u9 : (Nat → Int32) × (Nat → Nat → Int32) × (Nat → Nat → Int64)) => ((0 : Int) ≤ r.toInt ∧ r.toInt ≤ 1) ∧ True) (fun u9 t => va_P (dC, dI) vwCl [(a0, .inr (6, [.int i0, .ref a1, .ref a2, .ref a3])), (a1, .inl (cI, 8, .inl xF0)), (a2, .inl (cI, 8, .inl (u9.2.1 0))), (a3, .inl (cI, 8, .inl (u9.2.1 1)))] t.heap ∧ va_D (va_A [(a0, .inr (6, [.int i0, .ref a1, .ref a2, .ref a3])), (a1, .inl (cI, 8, .inl xF0)), (a2, .inl (cI, 8, .inl xF1)), (a3, .inl (cI, 8, .inl xF2))] sz) [(a0, .inr (6, [.int i0, .ref a1, .ref a2, .ref a3])), (a1, .inl (cI, 8, .inl xF0)), (a2, .inl (cI, 8, .inl (u9.2.1 0))), (a3, .inl (cI, 8, .inl (u9.2.1 1)))]) (va_A [(a0, .inr (6, [.int i0, .ref a1, .ref a2, .ref a3])), (a1, .inl (cI, 8, .inl xF0)), (a2, .inl (cI, 8, .inl xF1)), (a3, .inl (cI, 8, .inl xF2))] sz)) 0 0 (va_A [(a0, .inr (6, [.int i0, .ref a1, .ref a2, .ref a3])), (a1, .inl (cI, 8, .inl xF0)), (a2, .inl (cI, 8, .inl xF1)), (a3, .inl (cI, 8, .inl xF2))] sz) := by
  refine kEnter (by decide) (Nat.le_of_ble_eq_true rfl) ?_
  intro p e s m below meth c ls hx hb hr hml hown hlocks hin hwd hsz hP hK hD hl
  subst hsz
  generalize hAe : va_A [(a0, .inr (6, [.int i0, .ref a1, .ref a2, .ref a3])), (a1, .inl (cI, 8, .inl xF0)), (a2, .inl (cI, 8, .inl xF1)), (a3, .inl (cI, 8, .inl xF2))] s.heap.size = A at hD ⊢
  have hA : ∀ q : Nat, s.heap.size ≤ q → A q := fun q h => by rw [← hAe]; exact Or.inr h
  have hS : va_S A s.heap s.heap [] := va_S.rf
  have hl : lv_has ls 6 [(0, .ref a0), (1, .int p1), (2, .int p2), (3, .int p3), (4, .int p4)] := hl
  obtain ⟨Q, hQ⟩ : ∃ Q, Q = MQ below (va_Qi (fun (r : Int32) (u9 : (Nat → Int32) × (Nat → Nat → Int32) × (Nat → Nat → Int64)) => ((0 : Int) ≤ r.toInt ∧ r.toInt ≤ 1) ∧ True) (fun u9 t => va_P (dC, dI) vwCl [(a0, .inr (6, [.int i0, .ref a1, .ref a2, .ref a3])), (a1, .inl (cI, 8, .inl xF0)), (a2, .inl (cI, 8, .inl (u9.2.1 0))), (a3, .inl (cI, 8, .inl (u9.2.1 1)))] t.heap ∧ va_D A [(a0, .inr (6, [.int i0, .ref a1, .ref a2, .ref a3])), (a1, .inl (cI, 8, .inl xF0)), (a2, .inl (cI, 8, .inl (u9.2.1 0))), (a3, .inl (cI, 8, .inl (u9.2.1 1)))]) A) ([.ref a0, .int p1, .int p2, .int p3, .int p4] : List Value).toArray s 0 0 A := ⟨_, rfl⟩
  rw [← hQ]
  have k0 : (0 : Int32).toInt = 0 := by decide
  have k1 : (1 : Int32).toInt = 1 := by decide
  have k8 : (8 : Int32).toInt = 8 := by decide
  refine lv_iload_n hx hb dX6_findsRoom_0 rfl (lv_at hl 1 rfl) ?_
  refine lv_aload_n hx hb dX6_findsRoom_1 rfl (lv_at hl 0 rfl) ?_
  refine va_get (D := (dC, dI)) (ci := 6) (v := .int i0) (C := RX6) (T := TX6) (N := 4) hx hb hwd inlX6 hown hK hP 0 rfl rfl 0 (by decide) (hwd _ kr10_8) (fun _ h9 => h9) rfl dX6_findsRoom_2 ?_
  refine lv_icmp_ge (tgt := 14) hx hb dX6_findsRoom_5 (by decide) (fun c1 => ?_) (fun c1 => ?_)
  · rw [ki_le] at c1
    refine lv_iconst (v := 1) hx hb dX6_findsRoom_14 (by decide) ?_
    have hP9 := hP.sub (ws' := [(a0, .inr (6, [.int i0, .ref a1, .ref a2, .ref a3])), (a1, .inl (cI, 8, .inl xF0)), (a2, .inl (cI, 8, .inl xF1)), (a3, .inl (cI, 8, .inl xF2))]) [0, 1, 2, 3] rfl
    have hD9 := hD.sub (ws' := [(a0, .inr (6, [.int i0, .ref a1, .ref a2, .ref a3])), (a1, .inl (cI, 8, .inl xF0)), (a2, .inl (cI, 8, .inl xF1)), (a3, .inl (cI, 8, .inl xF2))]) [0, 1, 2, 3] (by decide) rfl
    rw [hQ]
    exact W.zret (v := 1) hx hb hr (by decide) (fun t ht hW => ⟨⟨1, (pickG 0 [], pickG (fun _ => 0) [xF1, xF2], pickG (fun _ => 0) []), rfl, ⟨(show (0 : Int) ≤ (1 : Int32).toInt ∧ (1 : Int32).toInt ≤ 1 from ⟨by omega, by omega⟩), trivial⟩, (by rw [ht]; exact hP9), hD9⟩, hS.F ht⟩) hS.2.2 dX6_findsRoom_15
  · rw [ki_le] at c1
    refine lv_iload_n hx hb dX6_findsRoom_8 rfl (lv_at hl 1 rfl) ?_
    refine lv_bipush (v := 8) hx hb dX6_findsRoom_9 (by decide) ?_
    refine lv_icmp_lt (tgt := 16) hx hb dX6_findsRoom_11 (by decide) (fun c2 => ?_) (fun c2 => ?_)
    · rw [ki_lt] at c2
      refine lv_iconst (v := 0) hx hb dX6_findsRoom_16 (by decide) ?_
      refine lv_istore (lv' := [(5, .int 0), (0, .ref a0), (1, .int p1), (2, .int p2), (3, .int p3), (4, .int p4)]) hx hb dX6_findsRoom_17 hl (by decide) rfl (fun ls hl => ?_)
      have lp1 : ∀ (d : Nat), ∀ (H : Heap) (locs : List Loc) (ls : Array Slot) (w5_1 : Int32) (g1_1 : Nat → Int32) (g2_1 : Nat → Int32), ((0 : Int) ≤ w5_1.toInt ∧ w5_1.toInt ≤ 8) → (8 - w5_1.toInt).toNat < d → va_P (dC, dI) vwCl [(a0, .inr (6, [.int i0, .ref a1, .ref a2, .ref a3])), (a1, .inl (cI, 8, .inl xF0)), (a2, .inl (cI, 8, .inl g1_1)), (a3, .inl (cI, 8, .inl g2_1))] H → va_D A [(a0, .inr (6, [.int i0, .ref a1, .ref a2, .ref a3])), (a1, .inl (cI, 8, .inl xF0)), (a2, .inl (cI, 8, .inl g1_1)), (a3, .inl (cI, 8, .inl g2_1))] → va_S A s.heap H locs → lv_has ls 6 [(0, .ref a0), (1, .int p1), (2, .int p2), (3, .int p3), (4, .int p4), (5, .int w5_1)] → W p l e ({ frames := 8, cells := 0, slots := 0, locals := 200 } : Room) s m ([.ref a0, .int p1, .int p2, .int p3, .int p4] : List Value).toArray below meth c H locs 0 0 Q (F0 m 19 ls []) := by
        intro d
        induction d with
        | zero =>
          intro H locs ls w5_1 g1_1 g2_1 hr_w5_1 hm hP hD hS hl
          omega
        | succ d ih1 =>
          intro H locs ls w5_1 g1_1 g2_1 hr_w5_1 hm hP hD hS hl
          refine lv_iload hx hb dX6_findsRoom_19 (lv_at hl 5 rfl) ?_
          refine lv_iload_n hx hb dX6_findsRoom_21 rfl (lv_at hl 2 rfl) ?_
          refine lv_icmp_gt (tgt := 131) hx hb dX6_findsRoom_22 (by decide) (fun c146 => ?_) (fun c146 => ?_)
          · rw [ki_lt] at c146
            refine lv_iconst (v := 0) hx hb dX6_findsRoom_131 (by decide) ?_
            have hP9 := hP.sub (ws' := [(a0, .inr (6, [.int i0, .ref a1, .ref a2, .ref a3])), (a1, .inl (cI, 8, .inl xF0)), (a2, .inl (cI, 8, .inl g1_1)), (a3, .inl (cI, 8, .inl g2_1))]) [0, 1, 2, 3] rfl
            have hD9 := hD.sub (ws' := [(a0, .inr (6, [.int i0, .ref a1, .ref a2, .ref a3])), (a1, .inl (cI, 8, .inl xF0)), (a2, .inl (cI, 8, .inl g1_1)), (a3, .inl (cI, 8, .inl g2_1))]) [0, 1, 2, 3] (by decide) rfl
            rw [hQ]
            exact W.zret (v := 0) hx hb hr (by decide) (fun t ht hW => ⟨⟨0, (pickG 0 [], pickG (fun _ => 0) [g1_1, g2_1], pickG (fun _ => 0) []), rfl, ⟨(show (0 : Int) ≤ (0 : Int32).toInt ∧ (0 : Int32).toInt ≤ 1 from ⟨by omega, by omega⟩), trivial⟩, (by rw [ht]; exact hP9), hD9⟩, hS.F ht⟩) hS.2.2 dX6_findsRoom_132
          · rw [ki_lt] at c146
            refine lv_iload hx hb dX6_findsRoom_25 (lv_at hl 5 rfl) ?_
            refine lv_iload_n hx hb dX6_findsRoom_27 rfl (lv_at hl 3 rfl) ?_
            refine lv_icmp_ge (tgt := 131) hx hb dX6_findsRoom_28 (by decide) (fun c147 => ?_) (fun c147 => ?_)
            · rw [ki_le] at c147
              refine lv_iconst (v := 0) hx hb dX6_findsRoom_131 (by decide) ?_
              have hP9 := hP.sub (ws' := [(a0, .inr (6, [.int i0, .ref a1, .ref a2, .ref a3])), (a1, .inl (cI, 8, .inl xF0)), (a2, .inl (cI, 8, .inl g1_1)), (a3, .inl (cI, 8, .inl g2_1))]) [0, 1, 2, 3] rfl
              have hD9 := hD.sub (ws' := [(a0, .inr (6, [.int i0, .ref a1, .ref a2, .ref a3])), (a1, .inl (cI, 8, .inl xF0)), (a2, .inl (cI, 8, .inl g1_1)), (a3, .inl (cI, 8, .inl g2_1))]) [0, 1, 2, 3] (by decide) rfl
              rw [hQ]
              exact W.zret (v := 0) hx hb hr (by decide) (fun t ht hW => ⟨⟨0, (pickG 0 [], pickG (fun _ => 0) [g1_1, g2_1], pickG (fun _ => 0) []), rfl, ⟨(show (0 : Int) ≤ (0 : Int32).toInt ∧ (0 : Int32).toInt ≤ 1 from ⟨by omega, by omega⟩), trivial⟩, (by rw [ht]; exact hP9), hD9⟩, hS.F ht⟩) hS.2.2 dX6_findsRoom_132
            · rw [ki_le] at c147
              refine lv_iload hx hb dX6_findsRoom_31 (lv_at hl 5 rfl) ?_
              refine lv_bipush (v := 8) hx hb dX6_findsRoom_33 (by decide) ?_
              refine lv_icmp_ge (tgt := 131) hx hb dX6_findsRoom_35 (by decide) (fun c148 => ?_) (fun c148 => ?_)
              · rw [ki_le] at c148
                refine lv_iconst (v := 0) hx hb dX6_findsRoom_131 (by decide) ?_
                have hP9 := hP.sub (ws' := [(a0, .inr (6, [.int i0, .ref a1, .ref a2, .ref a3])), (a1, .inl (cI, 8, .inl xF0)), (a2, .inl (cI, 8, .inl g1_1)), (a3, .inl (cI, 8, .inl g2_1))]) [0, 1, 2, 3] rfl
                have hD9 := hD.sub (ws' := [(a0, .inr (6, [.int i0, .ref a1, .ref a2, .ref a3])), (a1, .inl (cI, 8, .inl xF0)), (a2, .inl (cI, 8, .inl g1_1)), (a3, .inl (cI, 8, .inl g2_1))]) [0, 1, 2, 3] (by decide) rfl
                rw [hQ]
                exact W.zret (v := 0) hx hb hr (by decide) (fun t ht hW => ⟨⟨0, (pickG 0 [], pickG (fun _ => 0) [g1_1, g2_1], pickG (fun _ => 0) []), rfl, ⟨(show (0 : Int) ≤ (0 : Int32).toInt ∧ (0 : Int32).toInt ≤ 1 from ⟨by omega, by omega⟩), trivial⟩, (by rw [ht]; exact hP9), hD9⟩, hS.F ht⟩) hS.2.2 dX6_findsRoom_132
              · rw [ki_le] at c148
                refine lv_aload_n hx hb dX6_findsRoom_38 rfl (lv_at hl 0 rfl) ?_
                refine va_get (D := (dC, dI)) (ci := 6) (v := .ref a3) (C := RX6) (T := TX6) (N := 4) hx hb hwd inlX6 hown hK hP 0 rfl rfl 3 (by decide) (hwd _ kr10_14) (fun _ h9 => h9) rfl dX6_findsRoom_39 ?_
                refine lv_iload hx hb dX6_findsRoom_42 (lv_at hl 5 rfl) ?_
                have h149 : vp_in w5_1 8 := (vp_of (by omega) (by omega))
                refine va_iald hx hb hK hP 3 0 rfl rfl h149 dX6_findsRoom_44 ?_
                refine lv_topi (fun x150 ex150 => ?_)
                refine lv_aload_n hx hb dX6_findsRoom_45 rfl (lv_at hl 0 rfl) ?_
                refine va_get (D := (dC, dI)) (ci := 6) (v := .ref a1) (C := RX6) (T := TX6) (N := 4) hx hb hwd inlX6 hown hK hP 0 rfl rfl 1 (by decide) (hwd _ kr10_10) (fun _ h9 => h9) rfl dX6_findsRoom_46 ?_
                refine lv_iload_n hx hb dX6_findsRoom_49 rfl (lv_at hl 1 rfl) ?_
                have h151 : vp_in p1 8 := (vp_of (by omega) (by omega))
                refine va_iald hx hb hK hP 1 0 rfl rfl h151 dX6_findsRoom_50 ?_
                refine lv_topi (fun x152 ex152 => ?_)
                refine lv_iadd hx hb dX6_findsRoom_51 ?_
                refine lv_topi (fun x153 ex153 => ?_)
                refine lv_iload hx hb dX6_findsRoom_52 (lv_at hl 4 rfl) ?_
                refine lv_icmp_gt (tgt := 125) hx hb dX6_findsRoom_54 (by decide) (fun c154 => ?_) (fun c154 => ?_)
                · rw [ki_lt] at c154
                  obtain ⟨x155, ex155⟩ : ∃ y : Int32, y = w5_1 + 1 := ⟨_, rfl⟩
                  refine lv_iinc (v := x155) (lv' := [(5, .int x155), (0, .ref a0), (1, .int p1), (2, .int p2), (3, .int p3), (4, .int p4)]) hx hb dX6_findsRoom_125 hl (k := 5) rfl (by rw [ex155]; rfl) (by decide) rfl (fun ls hl => ?_)
                  have tx155 := ia_add (a := w5_1) (b := (1 : Int32)) (by omega) (by omega)
                  rw [← ex155] at tx155
                  refine lv_goto (tgt := 19) hx hb dX6_findsRoom_128 (by decide) ?_
                  exact ih1 _ _ ls x155 g1_1 g2_1 (show (0 : Int) ≤ x155.toInt ∧ x155.toInt ≤ 8 from ⟨by omega, by omega⟩) (by omega) (hP.sub (ws' := [(a0, .inr (6, [.int i0, .ref a1, .ref a2, .ref a3])), (a1, .inl (cI, 8, .inl xF0)), (a2, .inl (cI, 8, .inl g1_1)), (a3, .inl (cI, 8, .inl g2_1))]) [0, 1, 2, 3] rfl) (hD.sub (ws' := [(a0, .inr (6, [.int i0, .ref a1, .ref a2, .ref a3])), (a1, .inl (cI, 8, .inl xF0)), (a2, .inl (cI, 8, .inl g1_1)), (a3, .inl (cI, 8, .inl g2_1))]) [0, 1, 2, 3] (by decide) rfl) hS (lv_sub hl [1, 2, 3, 4, 5, 0] rfl)
                · rw [ki_lt] at c154
                  refine lv_aload_n hx hb dX6_findsRoom_57 rfl (lv_at hl 0 rfl) ?_
                  refine va_get (D := (dC, dI)) (ci := 6) (v := .ref a3) (C := RX6) (T := TX6) (N := 4) hx hb hwd inlX6 hown hK hP 0 rfl rfl 3 (by decide) (hwd _ kr10_14) (fun _ h9 => h9) rfl dX6_findsRoom_58 ?_
                  refine lv_iload hx hb dX6_findsRoom_61 (lv_at hl 5 rfl) ?_
                  refine lv_dup2_11 hx hb dX6_findsRoom_63 rfl rfl ?_
                  have h156 : vp_in w5_1 8 := (vp_of (by omega) (by omega))
                  refine va_iald hx hb hK hP 3 0 rfl rfl h156 dX6_findsRoom_64 ?_
                  refine lv_topi (nm_r (e' := x150) ex150.symm ?_)
                  refine lv_aload_n hx hb dX6_findsRoom_65 rfl (lv_at hl 0 rfl) ?_
                  refine va_get (D := (dC, dI)) (ci := 6) (v := .ref a1) (C := RX6) (T := TX6) (N := 4) hx hb hwd inlX6 hown hK hP 0 rfl rfl 1 (by decide) (hwd _ kr10_10) (fun _ h9 => h9) rfl dX6_findsRoom_66 ?_
                  refine lv_iload_n hx hb dX6_findsRoom_69 rfl (lv_at hl 1 rfl) ?_
                  have h157 : vp_in p1 8 := (vp_of (by omega) (by omega))
                  refine va_iald hx hb hK hP 1 0 rfl rfl h157 dX6_findsRoom_70 ?_
                  refine lv_topi (nm_r (e' := x152) ex152.symm ?_)
                  refine lv_iadd hx hb dX6_findsRoom_71 ?_
                  refine lv_topi (fun x158 ex158 => ?_)
                  refine va_iast hx hb hK hP hD hS 3 0 rfl rfl (vp_of (by omega) (by omega)) dX6_findsRoom_72 (fun H locs hP hD hS => ?_)
                  obtain ⟨f159, ef159⟩ : ∃ f, f = upd g2_1 w5_1.toNatClampNeg x158 := ⟨_, rfl⟩
                  replace hP : va_P (dC, dI) vwCl [(a0, .inr (6, [.int i0, .ref a1, .ref a2, .ref a3])), (a1, .inl (cI, 8, .inl xF0)), (a2, .inl (cI, 8, .inl g1_1)), (a3, .inl (cI, 8, .inl f159))] H := by rw [ef159]; exact hP
                  replace hD : va_D A [(a0, .inr (6, [.int i0, .ref a1, .ref a2, .ref a3])), (a1, .inl (cI, 8, .inl xF0)), (a2, .inl (cI, 8, .inl g1_1)), (a3, .inl (cI, 8, .inl f159))] := by rw [ef159]; exact hD
                  refine lv_aload_n hx hb dX6_findsRoom_73 rfl (lv_at hl 0 rfl) ?_
                  refine va_get (D := (dC, dI)) (ci := 6) (v := .ref a2) (C := RX6) (T := TX6) (N := 4) hx hb hwd inlX6 hown hK hP 0 rfl rfl 2 (by decide) (hwd _ kr10_12) (fun _ h9 => h9) rfl dX6_findsRoom_74 ?_
                  refine lv_iload_n hx hb dX6_findsRoom_77 rfl (lv_at hl 1 rfl) ?_
                  refine lv_iload hx hb dX6_findsRoom_78 (lv_at hl 5 rfl) ?_
                  refine va_iast hx hb hK hP hD hS 2 0 rfl rfl (vp_of (by omega) (by omega)) dX6_findsRoom_80 (fun H locs hP hD hS => ?_)
                  obtain ⟨f160, ef160⟩ : ∃ f, f = upd g1_1 p1.toNatClampNeg w5_1 := ⟨_, rfl⟩
                  replace hP : va_P (dC, dI) vwCl [(a0, .inr (6, [.int i0, .ref a1, .ref a2, .ref a3])), (a1, .inl (cI, 8, .inl xF0)), (a2, .inl (cI, 8, .inl f160)), (a3, .inl (cI, 8, .inl f159))] H := by rw [ef160]; exact hP
                  replace hD : va_D A [(a0, .inr (6, [.int i0, .ref a1, .ref a2, .ref a3])), (a1, .inl (cI, 8, .inl xF0)), (a2, .inl (cI, 8, .inl f160)), (a3, .inl (cI, 8, .inl f159))] := by rw [ef160]; exact hD
                  refine lv_aload_n hx hb dX6_findsRoom_81 rfl (lv_at hl 0 rfl) ?_
                  refine lv_iload_n hx hb dX6_findsRoom_82 rfl (lv_at hl 1 rfl) ?_
                  refine lv_iconst (v := 1) hx hb dX6_findsRoom_83 (by decide) ?_
                  refine lv_iadd hx hb dX6_findsRoom_84 ?_
                  refine lv_topi (fun x161 ex161 => ?_)
                  have tx161 := ia_add (a := p1) (b := (1 : Int32)) (by omega) (by omega)
                  rw [← ex161] at tx161
                  refine lv_iload hx hb dX6_findsRoom_85 (lv_at hl 5 rfl) ?_
                  refine lv_iload_n hx hb dX6_findsRoom_87 rfl (lv_at hl 2 rfl) ?_
                  have jp7 : ∀ (H : Heap) (locs : List Loc) (ls : Array Slot) (z2_7 : Int32), ((0 : Int) ≤ z2_7.toInt ∧ z2_7.toInt ≤ 2147483647) → va_P (dC, dI) vwCl [(a0, .inr (6, [.int i0, .ref a1, .ref a2, .ref a3])), (a1, .inl (cI, 8, .inl xF0)), (a2, .inl (cI, 8, .inl f160)), (a3, .inl (cI, 8, .inl f159))] H → va_D A [(a0, .inr (6, [.int i0, .ref a1, .ref a2, .ref a3])), (a1, .inl (cI, 8, .inl xF0)), (a2, .inl (cI, 8, .inl f160)), (a3, .inl (cI, 8, .inl f159))] → va_S A s.heap H locs → lv_has ls 6 [(0, .ref a0), (1, .int p1), (2, .int p2), (3, .int p3), (4, .int p4), (5, .int w5_1)] → W p l e ({ frames := 8, cells := 0, slots := 0, locals := 200 } : Room) s m ([.ref a0, .int p1, .int p2, .int p3, .int p4] : List Value).toArray below meth c H locs 0 0 Q (F0 m 98 ls [.int z2_7, .int x161, .ref a0]) := by
                    intro H locs ls z2_7 hr_z2_7 hP hD hS hl
                    refine lv_iload_n hx hb dX6_findsRoom_98 rfl (lv_at hl 3 rfl) ?_
                    refine lv_iload hx hb dX6_findsRoom_99 (lv_at hl 4 rfl) ?_
                    have hPc := hP.sub (ws' := [(a0, .inr (6, [.int i0, .ref a1, .ref a2, .ref a3])), (a1, .inl (cI, 8, .inl xF0)), (a2, .inl (cI, 8, .inl f160)), (a3, .inl (cI, 8, .inl f159))]) [0, 1, 2, 3] rfl
                    have hDc := hD.sub (ws' := [(a0, .inr (6, [.int i0, .ref a1, .ref a2, .ref a3])), (a1, .inl (cI, 8, .inl xF0)), (a2, .inl (cI, 8, .inl f160)), (a3, .inl (cI, 8, .inl f159))]) [0, 1, 2, 3] (by decide) rfl
                    have hFc := va_free (wc := [(a0, .inr (6, [.int i0, .ref a1, .ref a2, .ref a3])), (a1, .inl (cI, 8, .inl xF0)), (a2, .inl (cI, 8, .inl f160)), (a3, .inl (cI, 8, .inl f159))]) hD hS hA [0, 1, 2, 3] rfl
                    refine va_calli (va_runS (As := [.ref a0, .int x161, .int z2_7, .int p3, .int p4]) (rest := []) ⟨hx, hb, hml, hown, hwd⟩ (s_X6_findsRoom_1 l dC dI cI cZ cB cJ cM cG a0 a1 a2 a3 i0 xF0 f160 f159 x161 z2_7 p3 p4 H.size (show (0 : Int) ≤ i0.toInt ∧ i0.toInt ≤ 8 from p_0) (show (1 : Int) ≤ x161.toInt ∧ x161.toInt ≤ 8 from ⟨by omega, by omega⟩)) (cwS 5 hwd (gS kr41_6 kr41_7 kr5_17 kr41_8) rfl rfl rfl (by decide +kernel) ⟨Nat.le_of_ble_eq_true rfl, Nat.le_of_ble_eq_true rfl⟩) (kPreS hPc hK hDc) rfl rfl hl.1 rfl (lv_room (Nat.le_of_ble_eq_true rfl)) dX6_findsRoom_101 ⟨Nat.le_of_ble_eq_true rfl, Nat.le_of_ble_eq_true rfl⟩) hS (fun q _ h => hFc q h) hFc (fun r175 u176 t H1 locs ht9 hvm hw hB hz1 hk1 hS => ?_)
                    obtain ⟨u177, U177, V177⟩ := u176
                    obtain ⟨hw178, -⟩ := hw
                    replace hw178 : (0 : Int) ≤ r175.toInt ∧ r175.toInt ≤ 1 := hw178
                    obtain ⟨hP1, hD1⟩ := hB
                    rw [ht9] at hP1
                    obtain ⟨hP, hD⟩ := va_join (wr := []) (w1 := [(a0, .inr (6, [.int i0, .ref a1, .ref a2, .ref a3])), (a1, .inl (cI, 8, .inl xF0)), (a2, .inl (cI, 8, .inl (U177 0))), (a3, .inl (cI, 8, .inl (U177 1)))]) hP hD [0, 1, 2, 3] [] rfl rfl (by decide) (by decide) hk1 hFc hP1 hD1
                    generalize H1 = H at hP hS ⊢
                    replace hP : va_P (dC, dI) vwCl [(a0, .inr (6, [.int i0, .ref a1, .ref a2, .ref a3])), (a1, .inl (cI, 8, .inl xF0)), (a2, .inl (cI, 8, .inl (U177 0))), (a3, .inl (cI, 8, .inl (U177 1)))] H := hP
                    replace hD : va_D A [(a0, .inr (6, [.int i0, .ref a1, .ref a2, .ref a3])), (a1, .inl (cI, 8, .inl xF0)), (a2, .inl (cI, 8, .inl (U177 0))), (a3, .inl (cI, 8, .inl (U177 1)))] := hD
                    refine lv_if_eq (tgt := 109) hx hb dX6_findsRoom_104 (by decide) (fun c179 => ?_) (fun c179 => ?_)
                    · rw [ki_eq] at c179
                      refine lv_aload_n hx hb dX6_findsRoom_109 rfl (lv_at hl 0 rfl) ?_
                      refine va_get (D := (dC, dI)) (ci := 6) (v := .ref a3) (C := RX6) (T := TX6) (N := 4) hx hb hwd inlX6 hown hK hP 0 rfl rfl 3 (by decide) (hwd _ kr10_14) (fun _ h9 => h9) rfl dX6_findsRoom_110 ?_
                      refine lv_iload hx hb dX6_findsRoom_113 (lv_at hl 5 rfl) ?_
                      refine lv_dup2_11 hx hb dX6_findsRoom_115 rfl rfl ?_
                      have h180 : vp_in w5_1 8 := (vp_of (by omega) (by omega))
                      refine va_iald hx hb hK hP 3 0 rfl rfl h180 dX6_findsRoom_116 ?_
                      refine lv_topi (fun x181 ex181 => ?_)
                      refine lv_aload_n hx hb dX6_findsRoom_117 rfl (lv_at hl 0 rfl) ?_
                      refine va_get (D := (dC, dI)) (ci := 6) (v := .ref a1) (C := RX6) (T := TX6) (N := 4) hx hb hwd inlX6 hown hK hP 0 rfl rfl 1 (by decide) (hwd _ kr10_10) (fun _ h9 => h9) rfl dX6_findsRoom_118 ?_
                      refine lv_iload_n hx hb dX6_findsRoom_121 rfl (lv_at hl 1 rfl) ?_
                      have h182 : vp_in p1 8 := (vp_of (by omega) (by omega))
                      refine va_iald hx hb hK hP 1 0 rfl rfl h182 dX6_findsRoom_122 ?_
                      refine lv_topi (nm_r (e' := x152) ex152.symm ?_)
                      refine lv_isub hx hb dX6_findsRoom_123 ?_
                      refine lv_topi (fun x183 ex183 => ?_)
                      refine va_iast hx hb hK hP hD hS 3 0 rfl rfl (vp_of (by omega) (by omega)) dX6_findsRoom_124 (fun H locs hP hD hS => ?_)
                      obtain ⟨f184, ef184⟩ : ∃ f, f = upd (U177 1) w5_1.toNatClampNeg x183 := ⟨_, rfl⟩
                      replace hP : va_P (dC, dI) vwCl [(a0, .inr (6, [.int i0, .ref a1, .ref a2, .ref a3])), (a1, .inl (cI, 8, .inl xF0)), (a2, .inl (cI, 8, .inl (U177 0))), (a3, .inl (cI, 8, .inl f184))] H := by rw [ef184]; exact hP
                      replace hD : va_D A [(a0, .inr (6, [.int i0, .ref a1, .ref a2, .ref a3])), (a1, .inl (cI, 8, .inl xF0)), (a2, .inl (cI, 8, .inl (U177 0))), (a3, .inl (cI, 8, .inl f184))] := by rw [ef184]; exact hD
                      obtain ⟨x185, ex185⟩ : ∃ y : Int32, y = w5_1 + 1 := ⟨_, rfl⟩
                      refine lv_iinc (v := x185) (lv' := [(5, .int x185), (0, .ref a0), (1, .int p1), (2, .int p2), (3, .int p3), (4, .int p4)]) hx hb dX6_findsRoom_125 hl (k := 5) rfl (by rw [ex185]; rfl) (by decide) rfl (fun ls hl => ?_)
                      have tx185 := ia_add (a := w5_1) (b := (1 : Int32)) (by omega) (by omega)
                      rw [← ex185] at tx185
                      refine lv_goto (tgt := 19) hx hb dX6_findsRoom_128 (by decide) ?_
                      exact ih1 _ _ ls x185 (U177 0) f184 (show (0 : Int) ≤ x185.toInt ∧ x185.toInt ≤ 8 from ⟨by omega, by omega⟩) (by omega) (hP.sub (ws' := [(a0, .inr (6, [.int i0, .ref a1, .ref a2, .ref a3])), (a1, .inl (cI, 8, .inl xF0)), (a2, .inl (cI, 8, .inl (U177 0))), (a3, .inl (cI, 8, .inl f184))]) [0, 1, 2, 3] rfl) (hD.sub (ws' := [(a0, .inr (6, [.int i0, .ref a1, .ref a2, .ref a3])), (a1, .inl (cI, 8, .inl xF0)), (a2, .inl (cI, 8, .inl (U177 0))), (a3, .inl (cI, 8, .inl f184))]) [0, 1, 2, 3] (by decide) rfl) hS (lv_sub hl [1, 2, 3, 4, 5, 0] rfl)
                    · rw [ki_eq] at c179
                      refine lv_iconst (v := 1) hx hb dX6_findsRoom_107 (by decide) ?_
                      have hP9 := hP.sub (ws' := [(a0, .inr (6, [.int i0, .ref a1, .ref a2, .ref a3])), (a1, .inl (cI, 8, .inl xF0)), (a2, .inl (cI, 8, .inl (U177 0))), (a3, .inl (cI, 8, .inl (U177 1)))]) [0, 1, 2, 3] rfl
                      have hD9 := hD.sub (ws' := [(a0, .inr (6, [.int i0, .ref a1, .ref a2, .ref a3])), (a1, .inl (cI, 8, .inl xF0)), (a2, .inl (cI, 8, .inl (U177 0))), (a3, .inl (cI, 8, .inl (U177 1)))]) [0, 1, 2, 3] (by decide) rfl
                      rw [hQ]
                      exact W.zret (v := 1) hx hb hr (by decide) (fun t ht hW => ⟨⟨1, (pickG 0 [], pickG (fun _ => 0) [(U177 0), (U177 1)], pickG (fun _ => 0) []), rfl, ⟨(show (0 : Int) ≤ (1 : Int32).toInt ∧ (1 : Int32).toInt ≤ 1 from ⟨by omega, by omega⟩), trivial⟩, (by rw [ht]; exact hP9), hD9⟩, hS.F ht⟩) hS.2.2 dX6_findsRoom_108
                  refine lv_icmp_ne (tgt := 97) hx hb dX6_findsRoom_88 (by decide) (fun c186 => ?_) (fun c186 => ?_)
                  · rw [ki_eq] at c186
                    refine lv_iload_n hx hb dX6_findsRoom_97 rfl (lv_at hl 2 rfl) ?_
                    exact jp7 _ _ ls p2 (show (0 : Int) ≤ p2.toInt ∧ p2.toInt ≤ 2147483647 from ⟨by omega, i32_hi⟩) (hP.sub (ws' := [(a0, .inr (6, [.int i0, .ref a1, .ref a2, .ref a3])), (a1, .inl (cI, 8, .inl xF0)), (a2, .inl (cI, 8, .inl f160)), (a3, .inl (cI, 8, .inl f159))]) [0, 1, 2, 3] rfl) (hD.sub (ws' := [(a0, .inr (6, [.int i0, .ref a1, .ref a2, .ref a3])), (a1, .inl (cI, 8, .inl xF0)), (a2, .inl (cI, 8, .inl f160)), (a3, .inl (cI, 8, .inl f159))]) [0, 1, 2, 3] (by decide) rfl) hS (lv_sub hl [0, 1, 2, 3, 4, 5] rfl)
                  · rw [ki_eq] at c186
                    refine lv_iload_n hx hb dX6_findsRoom_91 rfl (lv_at hl 2 rfl) ?_
                    refine lv_iconst (v := 1) hx hb dX6_findsRoom_92 (by decide) ?_
                    refine lv_iadd hx hb dX6_findsRoom_93 ?_
                    refine lv_topi (fun x187 ex187 => ?_)
                    have tx187 := ia_add (a := p2) (b := (1 : Int32)) (by omega) (by omega)
                    rw [← ex187] at tx187
                    refine lv_goto (tgt := 98) hx hb dX6_findsRoom_94 (by decide) ?_
                    exact jp7 _ _ ls x187 (show (0 : Int) ≤ x187.toInt ∧ x187.toInt ≤ 2147483647 from ⟨by omega, i32_hi⟩) (hP.sub (ws' := [(a0, .inr (6, [.int i0, .ref a1, .ref a2, .ref a3])), (a1, .inl (cI, 8, .inl xF0)), (a2, .inl (cI, 8, .inl f160)), (a3, .inl (cI, 8, .inl f159))]) [0, 1, 2, 3] rfl) (hD.sub (ws' := [(a0, .inr (6, [.int i0, .ref a1, .ref a2, .ref a3])), (a1, .inl (cI, 8, .inl xF0)), (a2, .inl (cI, 8, .inl f160)), (a3, .inl (cI, 8, .inl f159))]) [0, 1, 2, 3] (by decide) rfl) hS (lv_sub hl [0, 1, 2, 3, 4, 5] rfl)
      exact lp1 _ _ _ ls (0) xF1 xF2 (show (0 : Int) ≤ (0 : Int32).toInt ∧ (0 : Int32).toInt ≤ 8 from ⟨by omega, by omega⟩) (Nat.lt_succ_self _) (hP.sub (ws' := [(a0, .inr (6, [.int i0, .ref a1, .ref a2, .ref a3])), (a1, .inl (cI, 8, .inl xF0)), (a2, .inl (cI, 8, .inl xF1)), (a3, .inl (cI, 8, .inl xF2))]) [0, 1, 2, 3] rfl) (hD.sub (ws' := [(a0, .inr (6, [.int i0, .ref a1, .ref a2, .ref a3])), (a1, .inl (cI, 8, .inl xF0)), (a2, .inl (cI, 8, .inl xF1)), (a3, .inl (cI, 8, .inl xF2))]) [0, 1, 2, 3] (by decide) rfl) hS (lv_sub hl [1, 2, 3, 4, 5, 0] rfl)
    · rw [ki_lt] at c2
      exfalso
      omega
theorem dX6_fewestTracks_0 : decode cX6_fewestTracks 0 = .ok (.iconst 1, 1) := by decide +kernel
theorem dX6_fewestTracks_1 : decode cX6_fewestTracks 1 = .ok (.istore_n 2, 1) := by decide +kernel
theorem dX6_fewestTracks_2 : decode cX6_fewestTracks 2 = .ok (.iload_n 2, 1) := by decide +kernel
theorem dX6_fewestTracks_3 : decode cX6_fewestTracks 3 = .ok (.aload_n 0, 1) := by decide +kernel
theorem dX6_fewestTracks_4 : decode cX6_fewestTracks 4 = .ok (.getfield 19, 3) := by decide +kernel
theorem dX6_fewestTracks_7 : decode cX6_fewestTracks 7 = .ok (.if_icmp .ge 26, 3) := by decide +kernel
theorem dX6_fewestTracks_10 : decode cX6_fewestTracks 10 = .ok (.aload_n 0, 1) := by decide +kernel
theorem dX6_fewestTracks_11 : decode cX6_fewestTracks 11 = .ok (.invokevirtual 23, 3) := by decide +kernel
theorem dX6_fewestTracks_14 : decode cX6_fewestTracks 14 = .ok (.aload_n 0, 1) := by decide +kernel
theorem dX6_fewestTracks_15 : decode cX6_fewestTracks 15 = .ok (.iconst 0, 1) := by decide +kernel
theorem dX6_fewestTracks_16 : decode cX6_fewestTracks 16 = .ok (.iconst 0, 1) := by decide +kernel
theorem dX6_fewestTracks_17 : decode cX6_fewestTracks 17 = .ok (.iload_n 2, 1) := by decide +kernel
theorem dX6_fewestTracks_18 : decode cX6_fewestTracks 18 = .ok (.iload_n 1, 1) := by decide +kernel
theorem dX6_fewestTracks_19 : decode cX6_fewestTracks 19 = .ok (.invokestatic 26, 3) := by decide +kernel
theorem dX6_fewestTracks_22 : decode cX6_fewestTracks 22 = .ok (.ifCond .eq 5, 3) := by decide +kernel
theorem dX6_fewestTracks_25 : decode cX6_fewestTracks 25 = .ok (.iload_n 2, 1) := by decide +kernel
theorem dX6_fewestTracks_26 : decode cX6_fewestTracks 26 = .ok (.ireturn, 1) := by decide +kernel
theorem dX6_fewestTracks_27 : decode cX6_fewestTracks 27 = .ok (.iinc 2 1, 3) := by decide +kernel
theorem dX6_fewestTracks_30 : decode cX6_fewestTracks 30 = .ok (.goto (-28), 3) := by decide +kernel
theorem dX6_fewestTracks_33 : decode cX6_fewestTracks 33 = .ok (.aload_n 0, 1) := by decide +kernel
theorem dX6_fewestTracks_34 : decode cX6_fewestTracks 34 = .ok (.invokevirtual 23, 3) := by decide +kernel
theorem dX6_fewestTracks_37 : decode cX6_fewestTracks 37 = .ok (.aload_n 0, 1) := by decide +kernel
theorem dX6_fewestTracks_38 : decode cX6_fewestTracks 38 = .ok (.iconst 0, 1) := by decide +kernel
theorem dX6_fewestTracks_39 : decode cX6_fewestTracks 39 = .ok (.iconst 0, 1) := by decide +kernel
theorem dX6_fewestTracks_40 : decode cX6_fewestTracks 40 = .ok (.aload_n 0, 1) := by decide +kernel
theorem dX6_fewestTracks_41 : decode cX6_fewestTracks 41 = .ok (.getfield 19, 3) := by decide +kernel
theorem dX6_fewestTracks_44 : decode cX6_fewestTracks 44 = .ok (.iload_n 1, 1) := by decide +kernel
theorem dX6_fewestTracks_45 : decode cX6_fewestTracks 45 = .ok (.invokestatic 26, 3) := by decide +kernel
theorem dX6_fewestTracks_48 : decode cX6_fewestTracks 48 = .ok (.pop, 1) := by decide +kernel
theorem dX6_fewestTracks_49 : decode cX6_fewestTracks 49 = .ok (.aload_n 0, 1) := by decide +kernel
theorem dX6_fewestTracks_50 : decode cX6_fewestTracks 50 = .ok (.getfield 19, 3) := by decide +kernel
theorem dX6_fewestTracks_53 : decode cX6_fewestTracks 53 = .ok (.ireturn, 1) := by decide +kernel
set_option maxHeartbeats 4000000 in
set_option maxRecDepth 100000 in
theorem s_X6_fewestTracks (l : Launch) (dC : Nat → ClassId) (dI : Nat → Nat → Nat) (cI cZ cB cJ cM cG : ClassId) (a0 a1 a2 a3 : Nat) (i0 : Int32) (xF0 xF1 xF2 : Nat → Int32) (p0 : Int32) (sz : Nat) (p_0 : (0 : Int) ≤ i0.toInt ∧ i0.toInt ≤ 8) : Met l yX6_fewestTracks (kw yX6_fewestTracks cX6_fewestTracks 3 (some .int)) ({ frames := 9, cells := 0, slots := 0, locals := 225 } : Room) (va_Pc [.ref a0, .int p0] (kPre dC dI [(cI, .int), (cZ, .boolean), (cB, .byte), (cJ, .long), (cM, .object RX2), (cG, .array .int)] [(a0, .inr (6, [.int i0, .ref a1, .ref a2, .ref a3])), (a1, .inl (cI, 8, .inl xF0)), (a2, .inl (cI, 8, .inl xF1)), (a3, .inl (cI, 8, .inl xF2))] sz)) (va_Qi (fun (r : Int32) (u9 : (Nat → Int32) × (Nat → Nat → Int32) × (Nat → Nat → Int64)) => ((0 : Int) ≤ r.toInt ∧ r.toInt ≤ 8) ∧ True) (fun u9 t => va_P (dC, dI) vwCl [(a0, .inr (6, [.int i0, .ref a1, .ref a2, .ref a3])), (a1, .inl (cI, 8, .inl xF0)), (a2, .inl (cI, 8, .inl (u9.2.1 0))), (a3, .inl (cI, 8, .inl (u9.2.1 1)))] t.heap ∧ va_D (va_A [(a0, .inr (6, [.int i0, .ref a1, .ref a2, .ref a3])), (a1, .inl (cI, 8, .inl xF0)), (a2, .inl (cI, 8, .inl xF1)), (a3, .inl (cI, 8, .inl xF2))] sz) [(a0, .inr (6, [.int i0, .ref a1, .ref a2, .ref a3])), (a1, .inl (cI, 8, .inl xF0)), (a2, .inl (cI, 8, .inl (u9.2.1 0))), (a3, .inl (cI, 8, .inl (u9.2.1 1)))]) (va_A [(a0, .inr (6, [.int i0, .ref a1, .ref a2, .ref a3])), (a1, .inl (cI, 8, .inl xF0)), (a2, .inl (cI, 8, .inl xF1)), (a3, .inl (cI, 8, .inl xF2))] sz)) 0 0 (va_A [(a0, .inr (6, [.int i0, .ref a1, .ref a2, .ref a3])), (a1, .inl (cI, 8, .inl xF0)), (a2, .inl (cI, 8, .inl xF1)), (a3, .inl (cI, 8, .inl xF2))] sz) := by
  refine kEnter (by decide) (Nat.le_of_ble_eq_true rfl) ?_
  intro p e s m below meth c ls hx hb hr hml hown hlocks hin hwd hsz hP hK hD hl
  subst hsz
  generalize hAe : va_A [(a0, .inr (6, [.int i0, .ref a1, .ref a2, .ref a3])), (a1, .inl (cI, 8, .inl xF0)), (a2, .inl (cI, 8, .inl xF1)), (a3, .inl (cI, 8, .inl xF2))] s.heap.size = A at hD ⊢
  have hA : ∀ q : Nat, s.heap.size ≤ q → A q := fun q h => by rw [← hAe]; exact Or.inr h
  have hS : va_S A s.heap s.heap [] := va_S.rf
  have hl : lv_has ls 3 [(0, .ref a0), (1, .int p0)] := hl
  obtain ⟨Q, hQ⟩ : ∃ Q, Q = MQ below (va_Qi (fun (r : Int32) (u9 : (Nat → Int32) × (Nat → Nat → Int32) × (Nat → Nat → Int64)) => ((0 : Int) ≤ r.toInt ∧ r.toInt ≤ 8) ∧ True) (fun u9 t => va_P (dC, dI) vwCl [(a0, .inr (6, [.int i0, .ref a1, .ref a2, .ref a3])), (a1, .inl (cI, 8, .inl xF0)), (a2, .inl (cI, 8, .inl (u9.2.1 0))), (a3, .inl (cI, 8, .inl (u9.2.1 1)))] t.heap ∧ va_D A [(a0, .inr (6, [.int i0, .ref a1, .ref a2, .ref a3])), (a1, .inl (cI, 8, .inl xF0)), (a2, .inl (cI, 8, .inl (u9.2.1 0))), (a3, .inl (cI, 8, .inl (u9.2.1 1)))]) A) ([.ref a0, .int p0] : List Value).toArray s 0 0 A := ⟨_, rfl⟩
  rw [← hQ]
  have k0 : (0 : Int32).toInt = 0 := by decide
  have k1 : (1 : Int32).toInt = 1 := by decide
  refine lv_iconst (v := 1) hx hb dX6_fewestTracks_0 (by decide) ?_
  refine lv_istore_n (lv' := [(2, .int 1), (0, .ref a0), (1, .int p0)]) hx hb dX6_fewestTracks_1 rfl hl (by decide) rfl (fun ls hl => ?_)
  have lp1 : ∀ (d : Nat), ∀ (H : Heap) (locs : List Loc) (ls : Array Slot) (w2_1 : Int32) (g1_1 : Nat → Int32) (g2_1 : Nat → Int32), ((1 : Int) ≤ w2_1.toInt ∧ w2_1.toInt ≤ 8) → (8 - w2_1.toInt).toNat < d → va_P (dC, dI) vwCl [(a0, .inr (6, [.int i0, .ref a1, .ref a2, .ref a3])), (a1, .inl (cI, 8, .inl xF0)), (a2, .inl (cI, 8, .inl g1_1)), (a3, .inl (cI, 8, .inl g2_1))] H → va_D A [(a0, .inr (6, [.int i0, .ref a1, .ref a2, .ref a3])), (a1, .inl (cI, 8, .inl xF0)), (a2, .inl (cI, 8, .inl g1_1)), (a3, .inl (cI, 8, .inl g2_1))] → va_S A s.heap H locs → lv_has ls 3 [(0, .ref a0), (1, .int p0), (2, .int w2_1)] → W p l e ({ frames := 9, cells := 0, slots := 0, locals := 225 } : Room) s m ([.ref a0, .int p0] : List Value).toArray below meth c H locs 0 0 Q (F0 m 2 ls []) := by
    intro d
    induction d with
    | zero =>
      intro H locs ls w2_1 g1_1 g2_1 hr_w2_1 hm hP hD hS hl
      omega
    | succ d ih1 =>
      intro H locs ls w2_1 g1_1 g2_1 hr_w2_1 hm hP hD hS hl
      refine lv_iload_n hx hb dX6_fewestTracks_2 rfl (lv_at hl 2 rfl) ?_
      refine lv_aload_n hx hb dX6_fewestTracks_3 rfl (lv_at hl 0 rfl) ?_
      refine va_get (D := (dC, dI)) (ci := 6) (v := .int i0) (C := RX6) (T := TX6) (N := 4) hx hb hwd inlX6 hown hK hP 0 rfl rfl 0 (by decide) (hwd _ kr10_8) (fun _ h9 => h9) rfl dX6_fewestTracks_4 ?_
      refine lv_icmp_ge (tgt := 33) hx hb dX6_fewestTracks_7 (by decide) (fun c50 => ?_) (fun c50 => ?_)
      · rw [ki_le] at c50
        refine lv_aload_n hx hb dX6_fewestTracks_33 rfl (lv_at hl 0 rfl) ?_
        have hPc := hP.sub (ws' := [(a0, .inr (6, [.int i0, .ref a1, .ref a2, .ref a3])), (a3, .inl (cI, 8, .inl g2_1))]) [0, 3] rfl
        have hDc := hD.sub (ws' := [(a0, .inr (6, [.int i0, .ref a1, .ref a2, .ref a3])), (a3, .inl (cI, 8, .inl g2_1))]) [0, 3] (by decide) rfl
        have hFc := va_free (wc := [(a0, .inr (6, [.int i0, .ref a1, .ref a2, .ref a3])), (a3, .inl (cI, 8, .inl g2_1))]) hD hS hA [0, 3] rfl
        refine va_callv (va_runV (As := []) (rest := []) ⟨hx, hb, hml, hown, hwd⟩ (s_X6_clearLoads l dC dI cI cZ cB cJ cM cG a0 a1 a2 a3 i0 g2_1 H.size (show (0 : Int) ≤ i0.toInt ∧ i0.toInt ≤ 8 from p_0)) (cwV 0 hwd (gV kr41_3 kr41_4 kr2_7 kr5_17 kr41_5) rfl rfl rfl (by decide +kernel) ⟨Nat.le_of_ble_eq_true rfl, Nat.le_of_ble_eq_true rfl⟩) (kPreV hPc hK hDc (ci := 6) (q0 := 0) rfl rfl) rfl rfl hl.1 rfl (lv_room (Nat.le_of_ble_eq_true rfl)) dX6_fewestTracks_34 ⟨Nat.le_of_ble_eq_true rfl, Nat.le_of_ble_eq_true rfl⟩) hS (fun q _ h => hFc q h) hFc (fun u52 t H1 locs ht9 hvm hw hB hz1 hk1 hS => ?_)
        obtain ⟨u53, U53, V53⟩ := u52
        obtain ⟨hP1, hD1⟩ := hB
        rw [ht9] at hP1
        obtain ⟨hP, hD⟩ := va_join (wr := [(a1, .inl (cI, 8, .inl xF0)), (a2, .inl (cI, 8, .inl g1_1))]) (w1 := [(a0, .inr (6, [.int i0, .ref a1, .ref a2, .ref a3])), (a3, .inl (cI, 8, .inl (U53 0)))]) hP hD [0, 3] [1, 2] rfl rfl (by decide) (by decide) hk1 hFc hP1 hD1
        generalize H1 = H at hP hS ⊢
        replace hP : va_P (dC, dI) vwCl [(a1, .inl (cI, 8, .inl xF0)), (a2, .inl (cI, 8, .inl g1_1)), (a0, .inr (6, [.int i0, .ref a1, .ref a2, .ref a3])), (a3, .inl (cI, 8, .inl (U53 0)))] H := hP
        replace hD : va_D A [(a1, .inl (cI, 8, .inl xF0)), (a2, .inl (cI, 8, .inl g1_1)), (a0, .inr (6, [.int i0, .ref a1, .ref a2, .ref a3])), (a3, .inl (cI, 8, .inl (U53 0)))] := hD
        refine lv_aload_n hx hb dX6_fewestTracks_37 rfl (lv_at hl 0 rfl) ?_
        refine lv_iconst (v := 0) hx hb dX6_fewestTracks_38 (by decide) ?_
        refine lv_iconst (v := 0) hx hb dX6_fewestTracks_39 (by decide) ?_
        refine lv_aload_n hx hb dX6_fewestTracks_40 rfl (lv_at hl 0 rfl) ?_
        refine va_get (D := (dC, dI)) (ci := 6) (v := .int i0) (C := RX6) (T := TX6) (N := 4) hx hb hwd inlX6 hown hK hP 2 rfl rfl 0 (by decide) (hwd _ kr10_8) (fun _ h9 => h9) rfl dX6_fewestTracks_41 ?_
        refine lv_iload_n hx hb dX6_fewestTracks_44 rfl (lv_at hl 1 rfl) ?_
        have hPc := hP.sub (ws' := [(a0, .inr (6, [.int i0, .ref a1, .ref a2, .ref a3])), (a1, .inl (cI, 8, .inl xF0)), (a2, .inl (cI, 8, .inl g1_1)), (a3, .inl (cI, 8, .inl (U53 0)))]) [2, 0, 1, 3] rfl
        have hDc := hD.sub (ws' := [(a0, .inr (6, [.int i0, .ref a1, .ref a2, .ref a3])), (a1, .inl (cI, 8, .inl xF0)), (a2, .inl (cI, 8, .inl g1_1)), (a3, .inl (cI, 8, .inl (U53 0)))]) [2, 0, 1, 3] (by decide) rfl
        have hFc := va_free (wc := [(a0, .inr (6, [.int i0, .ref a1, .ref a2, .ref a3])), (a1, .inl (cI, 8, .inl xF0)), (a2, .inl (cI, 8, .inl g1_1)), (a3, .inl (cI, 8, .inl (U53 0)))]) hD hS hA [2, 0, 1, 3] rfl
        refine va_calli (va_runS (As := [.ref a0, .int 0, .int 0, .int i0, .int p0]) (rest := []) ⟨hx, hb, hml, hown, hwd⟩ (s_X6_findsRoom_0 l dC dI cI cZ cB cJ cM cG a0 a1 a2 a3 i0 xF0 g1_1 (U53 0) 0 0 i0 p0 H.size (show (0 : Int) ≤ i0.toInt ∧ i0.toInt ≤ 8 from p_0) (show (0 : Int) ≤ (0 : Int32).toInt ∧ (0 : Int32).toInt ≤ 8 from ⟨by omega, by omega⟩)) (cwS 5 hwd (gS kr41_6 kr41_7 kr5_17 kr41_8) rfl rfl rfl (by decide +kernel) ⟨Nat.le_of_ble_eq_true rfl, Nat.le_of_ble_eq_true rfl⟩) (kPreS hPc hK hDc) rfl rfl hl.1 rfl (lv_room (Nat.le_of_ble_eq_true rfl)) dX6_fewestTracks_45 ⟨Nat.le_of_ble_eq_true rfl, Nat.le_of_ble_eq_true rfl⟩) hS (fun q _ h => hFc q h) hFc (fun r54 u55 t H1 locs ht9 hvm hw hB hz1 hk1 hS => ?_)
        obtain ⟨u56, U56, V56⟩ := u55
        obtain ⟨hw57, -⟩ := hw
        replace hw57 : (0 : Int) ≤ r54.toInt ∧ r54.toInt ≤ 1 := hw57
        obtain ⟨hP1, hD1⟩ := hB
        rw [ht9] at hP1
        obtain ⟨hP, hD⟩ := va_join (wr := []) (w1 := [(a0, .inr (6, [.int i0, .ref a1, .ref a2, .ref a3])), (a1, .inl (cI, 8, .inl xF0)), (a2, .inl (cI, 8, .inl (U56 0))), (a3, .inl (cI, 8, .inl (U56 1)))]) hP hD [2, 0, 1, 3] [] rfl rfl (by decide) (by decide) hk1 hFc hP1 hD1
        generalize H1 = H at hP hS ⊢
        replace hP : va_P (dC, dI) vwCl [(a0, .inr (6, [.int i0, .ref a1, .ref a2, .ref a3])), (a1, .inl (cI, 8, .inl xF0)), (a2, .inl (cI, 8, .inl (U56 0))), (a3, .inl (cI, 8, .inl (U56 1)))] H := hP
        replace hD : va_D A [(a0, .inr (6, [.int i0, .ref a1, .ref a2, .ref a3])), (a1, .inl (cI, 8, .inl xF0)), (a2, .inl (cI, 8, .inl (U56 0))), (a3, .inl (cI, 8, .inl (U56 1)))] := hD
        refine lv_pop hx hb dX6_fewestTracks_48 rfl ?_
        refine lv_aload_n hx hb dX6_fewestTracks_49 rfl (lv_at hl 0 rfl) ?_
        refine va_get (D := (dC, dI)) (ci := 6) (v := .int i0) (C := RX6) (T := TX6) (N := 4) hx hb hwd inlX6 hown hK hP 0 rfl rfl 0 (by decide) (hwd _ kr10_8) (fun _ h9 => h9) rfl dX6_fewestTracks_50 ?_
        have hP9 := hP.sub (ws' := [(a0, .inr (6, [.int i0, .ref a1, .ref a2, .ref a3])), (a1, .inl (cI, 8, .inl xF0)), (a2, .inl (cI, 8, .inl (U56 0))), (a3, .inl (cI, 8, .inl (U56 1)))]) [0, 1, 2, 3] rfl
        have hD9 := hD.sub (ws' := [(a0, .inr (6, [.int i0, .ref a1, .ref a2, .ref a3])), (a1, .inl (cI, 8, .inl xF0)), (a2, .inl (cI, 8, .inl (U56 0))), (a3, .inl (cI, 8, .inl (U56 1)))]) [0, 1, 2, 3] (by decide) rfl
        rw [hQ]
        exact W.iret (v := i0) hx hb hr (fun t ht hW => ⟨⟨i0, (pickG 0 [], pickG (fun _ => 0) [(U56 0), (U56 1)], pickG (fun _ => 0) []), rfl, ⟨(show (0 : Int) ≤ i0.toInt ∧ i0.toInt ≤ 8 from p_0), trivial⟩, (by rw [ht]; exact hP9), hD9⟩, hS.F ht⟩) hS.2.2 dX6_fewestTracks_53
      · rw [ki_le] at c50
        refine lv_aload_n hx hb dX6_fewestTracks_10 rfl (lv_at hl 0 rfl) ?_
        have hPc := hP.sub (ws' := [(a0, .inr (6, [.int i0, .ref a1, .ref a2, .ref a3])), (a3, .inl (cI, 8, .inl g2_1))]) [0, 3] rfl
        have hDc := hD.sub (ws' := [(a0, .inr (6, [.int i0, .ref a1, .ref a2, .ref a3])), (a3, .inl (cI, 8, .inl g2_1))]) [0, 3] (by decide) rfl
        have hFc := va_free (wc := [(a0, .inr (6, [.int i0, .ref a1, .ref a2, .ref a3])), (a3, .inl (cI, 8, .inl g2_1))]) hD hS hA [0, 3] rfl
        refine va_callv (va_runV (As := []) (rest := []) ⟨hx, hb, hml, hown, hwd⟩ (s_X6_clearLoads l dC dI cI cZ cB cJ cM cG a0 a1 a2 a3 i0 g2_1 H.size (show (0 : Int) ≤ i0.toInt ∧ i0.toInt ≤ 8 from p_0)) (cwV 0 hwd (gV kr41_3 kr41_4 kr2_7 kr5_17 kr41_5) rfl rfl rfl (by decide +kernel) ⟨Nat.le_of_ble_eq_true rfl, Nat.le_of_ble_eq_true rfl⟩) (kPreV hPc hK hDc (ci := 6) (q0 := 0) rfl rfl) rfl rfl hl.1 rfl (lv_room (Nat.le_of_ble_eq_true rfl)) dX6_fewestTracks_11 ⟨Nat.le_of_ble_eq_true rfl, Nat.le_of_ble_eq_true rfl⟩) hS (fun q _ h => hFc q h) hFc (fun u59 t H1 locs ht9 hvm hw hB hz1 hk1 hS => ?_)
        obtain ⟨u60, U60, V60⟩ := u59
        obtain ⟨hP1, hD1⟩ := hB
        rw [ht9] at hP1
        obtain ⟨hP, hD⟩ := va_join (wr := [(a1, .inl (cI, 8, .inl xF0)), (a2, .inl (cI, 8, .inl g1_1))]) (w1 := [(a0, .inr (6, [.int i0, .ref a1, .ref a2, .ref a3])), (a3, .inl (cI, 8, .inl (U60 0)))]) hP hD [0, 3] [1, 2] rfl rfl (by decide) (by decide) hk1 hFc hP1 hD1
        generalize H1 = H at hP hS ⊢
        replace hP : va_P (dC, dI) vwCl [(a1, .inl (cI, 8, .inl xF0)), (a2, .inl (cI, 8, .inl g1_1)), (a0, .inr (6, [.int i0, .ref a1, .ref a2, .ref a3])), (a3, .inl (cI, 8, .inl (U60 0)))] H := hP
        replace hD : va_D A [(a1, .inl (cI, 8, .inl xF0)), (a2, .inl (cI, 8, .inl g1_1)), (a0, .inr (6, [.int i0, .ref a1, .ref a2, .ref a3])), (a3, .inl (cI, 8, .inl (U60 0)))] := hD
        refine lv_aload_n hx hb dX6_fewestTracks_14 rfl (lv_at hl 0 rfl) ?_
        refine lv_iconst (v := 0) hx hb dX6_fewestTracks_15 (by decide) ?_
        refine lv_iconst (v := 0) hx hb dX6_fewestTracks_16 (by decide) ?_
        refine lv_iload_n hx hb dX6_fewestTracks_17 rfl (lv_at hl 2 rfl) ?_
        refine lv_iload_n hx hb dX6_fewestTracks_18 rfl (lv_at hl 1 rfl) ?_
        have hPc := hP.sub (ws' := [(a0, .inr (6, [.int i0, .ref a1, .ref a2, .ref a3])), (a1, .inl (cI, 8, .inl xF0)), (a2, .inl (cI, 8, .inl g1_1)), (a3, .inl (cI, 8, .inl (U60 0)))]) [2, 0, 1, 3] rfl
        have hDc := hD.sub (ws' := [(a0, .inr (6, [.int i0, .ref a1, .ref a2, .ref a3])), (a1, .inl (cI, 8, .inl xF0)), (a2, .inl (cI, 8, .inl g1_1)), (a3, .inl (cI, 8, .inl (U60 0)))]) [2, 0, 1, 3] (by decide) rfl
        have hFc := va_free (wc := [(a0, .inr (6, [.int i0, .ref a1, .ref a2, .ref a3])), (a1, .inl (cI, 8, .inl xF0)), (a2, .inl (cI, 8, .inl g1_1)), (a3, .inl (cI, 8, .inl (U60 0)))]) hD hS hA [2, 0, 1, 3] rfl
        refine va_calli (va_runS (As := [.ref a0, .int 0, .int 0, .int w2_1, .int p0]) (rest := []) ⟨hx, hb, hml, hown, hwd⟩ (s_X6_findsRoom_0 l dC dI cI cZ cB cJ cM cG a0 a1 a2 a3 i0 xF0 g1_1 (U60 0) 0 0 w2_1 p0 H.size (show (0 : Int) ≤ i0.toInt ∧ i0.toInt ≤ 8 from p_0) (show (0 : Int) ≤ (0 : Int32).toInt ∧ (0 : Int32).toInt ≤ 8 from ⟨by omega, by omega⟩)) (cwS 5 hwd (gS kr41_6 kr41_7 kr5_17 kr41_8) rfl rfl rfl (by decide +kernel) ⟨Nat.le_of_ble_eq_true rfl, Nat.le_of_ble_eq_true rfl⟩) (kPreS hPc hK hDc) rfl rfl hl.1 rfl (lv_room (Nat.le_of_ble_eq_true rfl)) dX6_fewestTracks_19 ⟨Nat.le_of_ble_eq_true rfl, Nat.le_of_ble_eq_true rfl⟩) hS (fun q _ h => hFc q h) hFc (fun r61 u62 t H1 locs ht9 hvm hw hB hz1 hk1 hS => ?_)
        obtain ⟨u63, U63, V63⟩ := u62
        obtain ⟨hw64, -⟩ := hw
        replace hw64 : (0 : Int) ≤ r61.toInt ∧ r61.toInt ≤ 1 := hw64
        obtain ⟨hP1, hD1⟩ := hB
        rw [ht9] at hP1
        obtain ⟨hP, hD⟩ := va_join (wr := []) (w1 := [(a0, .inr (6, [.int i0, .ref a1, .ref a2, .ref a3])), (a1, .inl (cI, 8, .inl xF0)), (a2, .inl (cI, 8, .inl (U63 0))), (a3, .inl (cI, 8, .inl (U63 1)))]) hP hD [2, 0, 1, 3] [] rfl rfl (by decide) (by decide) hk1 hFc hP1 hD1
        generalize H1 = H at hP hS ⊢
        replace hP : va_P (dC, dI) vwCl [(a0, .inr (6, [.int i0, .ref a1, .ref a2, .ref a3])), (a1, .inl (cI, 8, .inl xF0)), (a2, .inl (cI, 8, .inl (U63 0))), (a3, .inl (cI, 8, .inl (U63 1)))] H := hP
        replace hD : va_D A [(a0, .inr (6, [.int i0, .ref a1, .ref a2, .ref a3])), (a1, .inl (cI, 8, .inl xF0)), (a2, .inl (cI, 8, .inl (U63 0))), (a3, .inl (cI, 8, .inl (U63 1)))] := hD
        refine lv_if_eq (tgt := 27) hx hb dX6_fewestTracks_22 (by decide) (fun c65 => ?_) (fun c65 => ?_)
        · rw [ki_eq] at c65
          obtain ⟨x66, ex66⟩ : ∃ y : Int32, y = w2_1 + 1 := ⟨_, rfl⟩
          refine lv_iinc (v := x66) (lv' := [(2, .int x66), (0, .ref a0), (1, .int p0)]) hx hb dX6_fewestTracks_27 hl (k := 2) rfl (by rw [ex66]; rfl) (by decide) rfl (fun ls hl => ?_)
          have tx66 := ia_add (a := w2_1) (b := (1 : Int32)) (by omega) (by omega)
          rw [← ex66] at tx66
          refine lv_goto (tgt := 2) hx hb dX6_fewestTracks_30 (by decide) ?_
          exact ih1 _ _ ls x66 (U63 0) (U63 1) (show (1 : Int) ≤ x66.toInt ∧ x66.toInt ≤ 8 from ⟨by omega, by omega⟩) (by omega) (hP.sub (ws' := [(a0, .inr (6, [.int i0, .ref a1, .ref a2, .ref a3])), (a1, .inl (cI, 8, .inl xF0)), (a2, .inl (cI, 8, .inl (U63 0))), (a3, .inl (cI, 8, .inl (U63 1)))]) [0, 1, 2, 3] rfl) (hD.sub (ws' := [(a0, .inr (6, [.int i0, .ref a1, .ref a2, .ref a3])), (a1, .inl (cI, 8, .inl xF0)), (a2, .inl (cI, 8, .inl (U63 0))), (a3, .inl (cI, 8, .inl (U63 1)))]) [0, 1, 2, 3] (by decide) rfl) hS (lv_sub hl [1, 2, 0] rfl)
        · rw [ki_eq] at c65
          refine lv_iload_n hx hb dX6_fewestTracks_25 rfl (lv_at hl 2 rfl) ?_
          have hP9 := hP.sub (ws' := [(a0, .inr (6, [.int i0, .ref a1, .ref a2, .ref a3])), (a1, .inl (cI, 8, .inl xF0)), (a2, .inl (cI, 8, .inl (U63 0))), (a3, .inl (cI, 8, .inl (U63 1)))]) [0, 1, 2, 3] rfl
          have hD9 := hD.sub (ws' := [(a0, .inr (6, [.int i0, .ref a1, .ref a2, .ref a3])), (a1, .inl (cI, 8, .inl xF0)), (a2, .inl (cI, 8, .inl (U63 0))), (a3, .inl (cI, 8, .inl (U63 1)))]) [0, 1, 2, 3] (by decide) rfl
          rw [hQ]
          exact W.iret (v := w2_1) hx hb hr (fun t ht hW => ⟨⟨w2_1, (pickG 0 [], pickG (fun _ => 0) [(U63 0), (U63 1)], pickG (fun _ => 0) []), rfl, ⟨(show (0 : Int) ≤ w2_1.toInt ∧ w2_1.toInt ≤ 8 from ⟨by omega, by omega⟩), trivial⟩, (by rw [ht]; exact hP9), hD9⟩, hS.F ht⟩) hS.2.2 dX6_fewestTracks_26
  exact lp1 _ _ _ ls (1) xF1 xF2 (show (1 : Int) ≤ (1 : Int32).toInt ∧ (1 : Int32).toInt ≤ 8 from ⟨by omega, by omega⟩) (Nat.lt_succ_self _) (hP.sub (ws' := [(a0, .inr (6, [.int i0, .ref a1, .ref a2, .ref a3])), (a1, .inl (cI, 8, .inl xF0)), (a2, .inl (cI, 8, .inl xF1)), (a3, .inl (cI, 8, .inl xF2))]) [0, 1, 2, 3] rfl) (hD.sub (ws' := [(a0, .inr (6, [.int i0, .ref a1, .ref a2, .ref a3])), (a1, .inl (cI, 8, .inl xF0)), (a2, .inl (cI, 8, .inl xF1)), (a3, .inl (cI, 8, .inl xF2))]) [0, 1, 2, 3] (by decide) rfl) hS (lv_sub hl [1, 2, 0] rfl)
theorem dX11_isSlot_0 : decode cX11_isSlot 0 = .ok (.iload_n 0, 1) := by decide +kernel
theorem dX11_isSlot_1 : decode cX11_isSlot 1 = .ok (.ifCond .lt 12, 3) := by decide +kernel
theorem dX11_isSlot_4 : decode cX11_isSlot 4 = .ok (.iload_n 0, 1) := by decide +kernel
theorem dX11_isSlot_5 : decode cX11_isSlot 5 = .ok (.iconst 4, 1) := by decide +kernel
theorem dX11_isSlot_6 : decode cX11_isSlot 6 = .ok (.if_icmp .ge 7, 3) := by decide +kernel
theorem dX11_isSlot_9 : decode cX11_isSlot 9 = .ok (.iconst 1, 1) := by decide +kernel
theorem dX11_isSlot_10 : decode cX11_isSlot 10 = .ok (.goto 4, 3) := by decide +kernel
theorem dX11_isSlot_13 : decode cX11_isSlot 13 = .ok (.iconst 0, 1) := by decide +kernel
theorem dX11_isSlot_14 : decode cX11_isSlot 14 = .ok (.ireturn, 1) := by decide +kernel
set_option maxHeartbeats 4000000 in
set_option maxRecDepth 100000 in
theorem s_X11_isSlot (l : Launch) (dC : Nat → ClassId) (dI : Nat → Nat → Nat) (cI cZ cB cJ cM cG : ClassId) (p0 : Int32) (sz : Nat) : Met l yX11_isSlot (kw yX11_isSlot cX11_isSlot 1 (some .boolean)) ({ frames := 0, cells := 0, slots := 0, locals := 0 } : Room) (va_Pc [.int p0] (kPre dC dI [(cI, .int), (cZ, .boolean), (cB, .byte), (cJ, .long), (cM, .object RX2), (cG, .array .int)] [] sz)) (va_Qi (fun (r : Int32) (u9 : Unit) => ((0 : Int) ≤ r.toInt ∧ r.toInt ≤ 1) ∧ ((r.toInt ≠ 0 → p0.toInt ≥ 0 ∧ p0.toInt ≤ 3)) ∧ True) (fun u9 t => va_P (dC, dI) vwCl [] t.heap ∧ va_D (va_A [] sz) []) (va_A [] sz)) 0 0 (va_A [] sz) := by
  refine kEnter (by decide) (Nat.le_of_ble_eq_true rfl) ?_
  intro p e s m below meth c ls hx hb hr hml hown hlocks hin hwd hsz hP hK hD hl
  subst hsz
  generalize hAe : va_A [] s.heap.size = A at hD ⊢
  have hA : ∀ q : Nat, s.heap.size ≤ q → A q := fun q h => by rw [← hAe]; exact Or.inr h
  have hS : va_S A s.heap s.heap [] := va_S.rf
  have hl : lv_has ls 1 [(0, .int p0)] := hl
  obtain ⟨Q, hQ⟩ : ∃ Q, Q = MQ below (va_Qi (fun (r : Int32) (u9 : Unit) => ((0 : Int) ≤ r.toInt ∧ r.toInt ≤ 1) ∧ ((r.toInt ≠ 0 → p0.toInt ≥ 0 ∧ p0.toInt ≤ 3)) ∧ True) (fun u9 t => va_P (dC, dI) vwCl [] t.heap ∧ va_D A []) A) ([.int p0] : List Value).toArray s 0 0 A := ⟨_, rfl⟩
  rw [← hQ]
  have k0 : (0 : Int32).toInt = 0 := by decide
  have k1 : (1 : Int32).toInt = 1 := by decide
  have k4 : (4 : Int32).toInt = 4 := by decide
  refine lv_iload_n hx hb dX11_isSlot_0 rfl (lv_at hl 0 rfl) ?_
  refine lv_if_lt (tgt := 13) hx hb dX11_isSlot_1 (by decide) (fun c1 => ?_) (fun c1 => ?_)
  · rw [ki_lt] at c1
    refine lv_iconst (v := 0) hx hb dX11_isSlot_13 (by decide) ?_
    have hP9 := hP.sub (ws' := []) [] rfl
    have hD9 := hD.sub (ws' := []) [] (by decide) rfl
    rw [hQ]
    exact W.zret (v := 0) hx hb hr (by decide) (fun t ht hW => ⟨⟨0, (), rfl, ⟨(show (0 : Int) ≤ (0 : Int32).toInt ∧ (0 : Int32).toInt ≤ 1 from ⟨by omega, by omega⟩), (show ((0 : Int32).toInt ≠ 0 → p0.toInt ≥ 0 ∧ p0.toInt ≤ 3) from by omega), trivial⟩, (by rw [ht]; exact hP9), hD9⟩, hS.F ht⟩) hS.2.2 dX11_isSlot_14
  · rw [ki_lt] at c1
    refine lv_iload_n hx hb dX11_isSlot_4 rfl (lv_at hl 0 rfl) ?_
    refine lv_iconst (v := 4) hx hb dX11_isSlot_5 (by decide) ?_
    refine lv_icmp_ge (tgt := 13) hx hb dX11_isSlot_6 (by decide) (fun c2 => ?_) (fun c2 => ?_)
    · rw [ki_le] at c2
      refine lv_iconst (v := 0) hx hb dX11_isSlot_13 (by decide) ?_
      have hP9 := hP.sub (ws' := []) [] rfl
      have hD9 := hD.sub (ws' := []) [] (by decide) rfl
      rw [hQ]
      exact W.zret (v := 0) hx hb hr (by decide) (fun t ht hW => ⟨⟨0, (), rfl, ⟨(show (0 : Int) ≤ (0 : Int32).toInt ∧ (0 : Int32).toInt ≤ 1 from ⟨by omega, by omega⟩), (show ((0 : Int32).toInt ≠ 0 → p0.toInt ≥ 0 ∧ p0.toInt ≤ 3) from by omega), trivial⟩, (by rw [ht]; exact hP9), hD9⟩, hS.F ht⟩) hS.2.2 dX11_isSlot_14
    · rw [ki_le] at c2
      refine lv_iconst (v := 1) hx hb dX11_isSlot_9 (by decide) ?_
      refine lv_goto (tgt := 14) hx hb dX11_isSlot_10 (by decide) ?_
      have hP9 := hP.sub (ws' := []) [] rfl
      have hD9 := hD.sub (ws' := []) [] (by decide) rfl
      rw [hQ]
      exact W.zret (v := 1) hx hb hr (by decide) (fun t ht hW => ⟨⟨1, (), rfl, ⟨(show (0 : Int) ≤ (1 : Int32).toInt ∧ (1 : Int32).toInt ≤ 1 from ⟨by omega, by omega⟩), (show ((1 : Int32).toInt ≠ 0 → p0.toInt ≥ 0 ∧ p0.toInt ≤ 3) from by omega), trivial⟩, (by rw [ht]; exact hP9), hD9⟩, hS.F ht⟩) hS.2.2 dX11_isSlot_14
theorem dX11_isHeardHeight_0 : decode cX11_isHeardHeight 0 = .ok (.iload_n 0, 1) := by decide +kernel
theorem dX11_isHeardHeight_1 : decode cX11_isHeardHeight 1 = .ok (.iconst 1, 1) := by decide +kernel
theorem dX11_isHeardHeight_2 : decode cX11_isHeardHeight 2 = .ok (.if_icmp .lt 13, 3) := by decide +kernel
theorem dX11_isHeardHeight_5 : decode cX11_isHeardHeight 5 = .ok (.iload_n 0, 1) := by decide +kernel
theorem dX11_isHeardHeight_6 : decode cX11_isHeardHeight 6 = .ok (.bipush 99, 2) := by decide +kernel
theorem dX11_isHeardHeight_8 : decode cX11_isHeardHeight 8 = .ok (.if_icmp .gt 7, 3) := by decide +kernel
theorem dX11_isHeardHeight_11 : decode cX11_isHeardHeight 11 = .ok (.iconst 1, 1) := by decide +kernel
theorem dX11_isHeardHeight_12 : decode cX11_isHeardHeight 12 = .ok (.goto 4, 3) := by decide +kernel
theorem dX11_isHeardHeight_15 : decode cX11_isHeardHeight 15 = .ok (.iconst 0, 1) := by decide +kernel
theorem dX11_isHeardHeight_16 : decode cX11_isHeardHeight 16 = .ok (.ireturn, 1) := by decide +kernel
set_option maxHeartbeats 4000000 in
set_option maxRecDepth 100000 in
theorem s_X11_isHeardHeight (l : Launch) (dC : Nat → ClassId) (dI : Nat → Nat → Nat) (cI cZ cB cJ cM cG : ClassId) (p0 : Int32) (sz : Nat) : Met l yX11_isHeardHeight (kw yX11_isHeardHeight cX11_isHeardHeight 1 (some .boolean)) ({ frames := 0, cells := 0, slots := 0, locals := 0 } : Room) (va_Pc [.int p0] (kPre dC dI [(cI, .int), (cZ, .boolean), (cB, .byte), (cJ, .long), (cM, .object RX2), (cG, .array .int)] [] sz)) (va_Qi (fun (r : Int32) (u9 : Unit) => ((0 : Int) ≤ r.toInt ∧ r.toInt ≤ 1) ∧ True) (fun u9 t => va_P (dC, dI) vwCl [] t.heap ∧ va_D (va_A [] sz) []) (va_A [] sz)) 0 0 (va_A [] sz) := by
  refine kEnter (by decide) (Nat.le_of_ble_eq_true rfl) ?_
  intro p e s m below meth c ls hx hb hr hml hown hlocks hin hwd hsz hP hK hD hl
  subst hsz
  generalize hAe : va_A [] s.heap.size = A at hD ⊢
  have hA : ∀ q : Nat, s.heap.size ≤ q → A q := fun q h => by rw [← hAe]; exact Or.inr h
  have hS : va_S A s.heap s.heap [] := va_S.rf
  have hl : lv_has ls 1 [(0, .int p0)] := hl
  obtain ⟨Q, hQ⟩ : ∃ Q, Q = MQ below (va_Qi (fun (r : Int32) (u9 : Unit) => ((0 : Int) ≤ r.toInt ∧ r.toInt ≤ 1) ∧ True) (fun u9 t => va_P (dC, dI) vwCl [] t.heap ∧ va_D A []) A) ([.int p0] : List Value).toArray s 0 0 A := ⟨_, rfl⟩
  rw [← hQ]
  have k0 : (0 : Int32).toInt = 0 := by decide
  have k1 : (1 : Int32).toInt = 1 := by decide
  have k99 : (99 : Int32).toInt = 99 := by decide
  refine lv_iload_n hx hb dX11_isHeardHeight_0 rfl (lv_at hl 0 rfl) ?_
  refine lv_iconst (v := 1) hx hb dX11_isHeardHeight_1 (by decide) ?_
  refine lv_icmp_lt (tgt := 15) hx hb dX11_isHeardHeight_2 (by decide) (fun c1 => ?_) (fun c1 => ?_)
  · rw [ki_lt] at c1
    refine lv_iconst (v := 0) hx hb dX11_isHeardHeight_15 (by decide) ?_
    have hP9 := hP.sub (ws' := []) [] rfl
    have hD9 := hD.sub (ws' := []) [] (by decide) rfl
    rw [hQ]
    exact W.zret (v := 0) hx hb hr (by decide) (fun t ht hW => ⟨⟨0, (), rfl, ⟨(show (0 : Int) ≤ (0 : Int32).toInt ∧ (0 : Int32).toInt ≤ 1 from ⟨by omega, by omega⟩), trivial⟩, (by rw [ht]; exact hP9), hD9⟩, hS.F ht⟩) hS.2.2 dX11_isHeardHeight_16
  · rw [ki_lt] at c1
    refine lv_iload_n hx hb dX11_isHeardHeight_5 rfl (lv_at hl 0 rfl) ?_
    refine lv_bipush (v := 99) hx hb dX11_isHeardHeight_6 (by decide) ?_
    refine lv_icmp_gt (tgt := 15) hx hb dX11_isHeardHeight_8 (by decide) (fun c2 => ?_) (fun c2 => ?_)
    · rw [ki_lt] at c2
      refine lv_iconst (v := 0) hx hb dX11_isHeardHeight_15 (by decide) ?_
      have hP9 := hP.sub (ws' := []) [] rfl
      have hD9 := hD.sub (ws' := []) [] (by decide) rfl
      rw [hQ]
      exact W.zret (v := 0) hx hb hr (by decide) (fun t ht hW => ⟨⟨0, (), rfl, ⟨(show (0 : Int) ≤ (0 : Int32).toInt ∧ (0 : Int32).toInt ≤ 1 from ⟨by omega, by omega⟩), trivial⟩, (by rw [ht]; exact hP9), hD9⟩, hS.F ht⟩) hS.2.2 dX11_isHeardHeight_16
    · rw [ki_lt] at c2
      refine lv_iconst (v := 1) hx hb dX11_isHeardHeight_11 (by decide) ?_
      refine lv_goto (tgt := 16) hx hb dX11_isHeardHeight_12 (by decide) ?_
      have hP9 := hP.sub (ws' := []) [] rfl
      have hD9 := hD.sub (ws' := []) [] (by decide) rfl
      rw [hQ]
      exact W.zret (v := 1) hx hb hr (by decide) (fun t ht hW => ⟨⟨1, (), rfl, ⟨(show (0 : Int) ≤ (1 : Int32).toInt ∧ (1 : Int32).toInt ≤ 1 from ⟨by omega, by omega⟩), trivial⟩, (by rw [ht]; exact hP9), hD9⟩, hS.F ht⟩) hS.2.2 dX11_isHeardHeight_16
theorem dX11_areYears_0 : decode cX11_areYears 0 = .ok (.iload_n 0, 1) := by decide +kernel
theorem dX11_areYears_1 : decode cX11_areYears 1 = .ok (.ifCond .lt 35, 3) := by decide +kernel
theorem dX11_areYears_4 : decode cX11_areYears 4 = .ok (.iload_n 0, 1) := by decide +kernel
theorem dX11_areYears_5 : decode cX11_areYears 5 = .ok (.ldc_w 433, 3) := by decide +kernel
theorem dX11_areYears_8 : decode cX11_areYears 8 = .ok (.if_icmp .gt 28, 3) := by decide +kernel
theorem dX11_areYears_11 : decode cX11_areYears 11 = .ok (.iload_n 1, 1) := by decide +kernel
theorem dX11_areYears_12 : decode cX11_areYears 12 = .ok (.iconst 1, 1) := by decide +kernel
theorem dX11_areYears_13 : decode cX11_areYears 13 = .ok (.if_icmp .lt 23, 3) := by decide +kernel
theorem dX11_areYears_16 : decode cX11_areYears 16 = .ok (.iload_n 1, 1) := by decide +kernel
theorem dX11_areYears_17 : decode cX11_areYears 17 = .ok (.bipush 60, 2) := by decide +kernel
theorem dX11_areYears_19 : decode cX11_areYears 19 = .ok (.if_icmp .gt 17, 3) := by decide +kernel
theorem dX11_areYears_22 : decode cX11_areYears 22 = .ok (.iload_n 2, 1) := by decide +kernel
theorem dX11_areYears_23 : decode cX11_areYears 23 = .ok (.ifCond .lt 13, 3) := by decide +kernel
theorem dX11_areYears_26 : decode cX11_areYears 26 = .ok (.iload_n 2, 1) := by decide +kernel
theorem dX11_areYears_27 : decode cX11_areYears 27 = .ok (.bipush 100, 2) := by decide +kernel
theorem dX11_areYears_29 : decode cX11_areYears 29 = .ok (.if_icmp .gt 7, 3) := by decide +kernel
theorem dX11_areYears_32 : decode cX11_areYears 32 = .ok (.iconst 1, 1) := by decide +kernel
theorem dX11_areYears_33 : decode cX11_areYears 33 = .ok (.goto 4, 3) := by decide +kernel
theorem dX11_areYears_36 : decode cX11_areYears 36 = .ok (.iconst 0, 1) := by decide +kernel
theorem dX11_areYears_37 : decode cX11_areYears 37 = .ok (.ireturn, 1) := by decide +kernel
set_option maxHeartbeats 4000000 in
set_option maxRecDepth 100000 in
theorem s_X11_areYears (l : Launch) (dC : Nat → ClassId) (dI : Nat → Nat → Nat) (cI cZ cB cJ cM cG : ClassId) (p0 p1 p2 : Int32) (sz : Nat) : Met l yX11_areYears (kw yX11_areYears cX11_areYears 3 (some .boolean)) ({ frames := 0, cells := 0, slots := 0, locals := 0 } : Room) (va_Pc [.int p0, .int p1, .int p2] (kPre dC dI [(cI, .int), (cZ, .boolean), (cB, .byte), (cJ, .long), (cM, .object RX2), (cG, .array .int)] [] sz)) (va_Qi (fun (r : Int32) (u9 : Unit) => ((0 : Int) ≤ r.toInt ∧ r.toInt ≤ 1) ∧ ((r.toInt ≠ 0 → p1.toInt ≥ 1 ∧ p1.toInt ≤ 60)) ∧ True) (fun u9 t => va_P (dC, dI) vwCl [] t.heap ∧ va_D (va_A [] sz) []) (va_A [] sz)) 0 0 (va_A [] sz) := by
  refine kEnter (by decide) (Nat.le_of_ble_eq_true rfl) ?_
  intro p e s m below meth c ls hx hb hr hml hown hlocks hin hwd hsz hP hK hD hl
  subst hsz
  generalize hAe : va_A [] s.heap.size = A at hD ⊢
  have hA : ∀ q : Nat, s.heap.size ≤ q → A q := fun q h => by rw [← hAe]; exact Or.inr h
  have hS : va_S A s.heap s.heap [] := va_S.rf
  have hl : lv_has ls 3 [(0, .int p0), (1, .int p1), (2, .int p2)] := hl
  obtain ⟨Q, hQ⟩ : ∃ Q, Q = MQ below (va_Qi (fun (r : Int32) (u9 : Unit) => ((0 : Int) ≤ r.toInt ∧ r.toInt ≤ 1) ∧ ((r.toInt ≠ 0 → p1.toInt ≥ 1 ∧ p1.toInt ≤ 60)) ∧ True) (fun u9 t => va_P (dC, dI) vwCl [] t.heap ∧ va_D A []) A) ([.int p0, .int p1, .int p2] : List Value).toArray s 0 0 A := ⟨_, rfl⟩
  rw [← hQ]
  have k0 : (0 : Int32).toInt = 0 := by decide
  have k1 : (1 : Int32).toInt = 1 := by decide
  have k60 : (60 : Int32).toInt = 60 := by decide
  have k100 : (100 : Int32).toInt = 100 := by decide
  have k2000000000 : (2000000000 : Int32).toInt = 2000000000 := by decide
  refine lv_iload_n hx hb dX11_areYears_0 rfl (lv_at hl 0 rfl) ?_
  refine lv_if_lt (tgt := 36) hx hb dX11_areYears_1 (by decide) (fun c1 => ?_) (fun c1 => ?_)
  · rw [ki_lt] at c1
    refine lv_iconst (v := 0) hx hb dX11_areYears_36 (by decide) ?_
    have hP9 := hP.sub (ws' := []) [] rfl
    have hD9 := hD.sub (ws' := []) [] (by decide) rfl
    rw [hQ]
    exact W.zret (v := 0) hx hb hr (by decide) (fun t ht hW => ⟨⟨0, (), rfl, ⟨(show (0 : Int) ≤ (0 : Int32).toInt ∧ (0 : Int32).toInt ≤ 1 from ⟨by omega, by omega⟩), (show ((0 : Int32).toInt ≠ 0 → p1.toInt ≥ 1 ∧ p1.toInt ≤ 60) from by omega), trivial⟩, (by rw [ht]; exact hP9), hD9⟩, hS.F ht⟩) hS.2.2 dX11_areYears_37
  · rw [ki_lt] at c1
    refine lv_iload_n hx hb dX11_areYears_4 rfl (lv_at hl 0 rfl) ?_
    refine lv_ldcw (v := 2000000000) hx hb hown (hwd _ kr44_18) dX11_areYears_5 ?_
    refine lv_icmp_gt (tgt := 36) hx hb dX11_areYears_8 (by decide) (fun c2 => ?_) (fun c2 => ?_)
    · rw [ki_lt] at c2
      refine lv_iconst (v := 0) hx hb dX11_areYears_36 (by decide) ?_
      have hP9 := hP.sub (ws' := []) [] rfl
      have hD9 := hD.sub (ws' := []) [] (by decide) rfl
      rw [hQ]
      exact W.zret (v := 0) hx hb hr (by decide) (fun t ht hW => ⟨⟨0, (), rfl, ⟨(show (0 : Int) ≤ (0 : Int32).toInt ∧ (0 : Int32).toInt ≤ 1 from ⟨by omega, by omega⟩), (show ((0 : Int32).toInt ≠ 0 → p1.toInt ≥ 1 ∧ p1.toInt ≤ 60) from by omega), trivial⟩, (by rw [ht]; exact hP9), hD9⟩, hS.F ht⟩) hS.2.2 dX11_areYears_37
    · rw [ki_lt] at c2
      refine lv_iload_n hx hb dX11_areYears_11 rfl (lv_at hl 1 rfl) ?_
      refine lv_iconst (v := 1) hx hb dX11_areYears_12 (by decide) ?_
      refine lv_icmp_lt (tgt := 36) hx hb dX11_areYears_13 (by decide) (fun c3 => ?_) (fun c3 => ?_)
      · rw [ki_lt] at c3
        refine lv_iconst (v := 0) hx hb dX11_areYears_36 (by decide) ?_
        have hP9 := hP.sub (ws' := []) [] rfl
        have hD9 := hD.sub (ws' := []) [] (by decide) rfl
        rw [hQ]
        exact W.zret (v := 0) hx hb hr (by decide) (fun t ht hW => ⟨⟨0, (), rfl, ⟨(show (0 : Int) ≤ (0 : Int32).toInt ∧ (0 : Int32).toInt ≤ 1 from ⟨by omega, by omega⟩), (show ((0 : Int32).toInt ≠ 0 → p1.toInt ≥ 1 ∧ p1.toInt ≤ 60) from by omega), trivial⟩, (by rw [ht]; exact hP9), hD9⟩, hS.F ht⟩) hS.2.2 dX11_areYears_37
      · rw [ki_lt] at c3
        refine lv_iload_n hx hb dX11_areYears_16 rfl (lv_at hl 1 rfl) ?_
        refine lv_bipush (v := 60) hx hb dX11_areYears_17 (by decide) ?_
        refine lv_icmp_gt (tgt := 36) hx hb dX11_areYears_19 (by decide) (fun c4 => ?_) (fun c4 => ?_)
        · rw [ki_lt] at c4
          refine lv_iconst (v := 0) hx hb dX11_areYears_36 (by decide) ?_
          have hP9 := hP.sub (ws' := []) [] rfl
          have hD9 := hD.sub (ws' := []) [] (by decide) rfl
          rw [hQ]
          exact W.zret (v := 0) hx hb hr (by decide) (fun t ht hW => ⟨⟨0, (), rfl, ⟨(show (0 : Int) ≤ (0 : Int32).toInt ∧ (0 : Int32).toInt ≤ 1 from ⟨by omega, by omega⟩), (show ((0 : Int32).toInt ≠ 0 → p1.toInt ≥ 1 ∧ p1.toInt ≤ 60) from by omega), trivial⟩, (by rw [ht]; exact hP9), hD9⟩, hS.F ht⟩) hS.2.2 dX11_areYears_37
        · rw [ki_lt] at c4
          refine lv_iload_n hx hb dX11_areYears_22 rfl (lv_at hl 2 rfl) ?_
          refine lv_if_lt (tgt := 36) hx hb dX11_areYears_23 (by decide) (fun c5 => ?_) (fun c5 => ?_)
          · rw [ki_lt] at c5
            refine lv_iconst (v := 0) hx hb dX11_areYears_36 (by decide) ?_
            have hP9 := hP.sub (ws' := []) [] rfl
            have hD9 := hD.sub (ws' := []) [] (by decide) rfl
            rw [hQ]
            exact W.zret (v := 0) hx hb hr (by decide) (fun t ht hW => ⟨⟨0, (), rfl, ⟨(show (0 : Int) ≤ (0 : Int32).toInt ∧ (0 : Int32).toInt ≤ 1 from ⟨by omega, by omega⟩), (show ((0 : Int32).toInt ≠ 0 → p1.toInt ≥ 1 ∧ p1.toInt ≤ 60) from by omega), trivial⟩, (by rw [ht]; exact hP9), hD9⟩, hS.F ht⟩) hS.2.2 dX11_areYears_37
          · rw [ki_lt] at c5
            refine lv_iload_n hx hb dX11_areYears_26 rfl (lv_at hl 2 rfl) ?_
            refine lv_bipush (v := 100) hx hb dX11_areYears_27 (by decide) ?_
            refine lv_icmp_gt (tgt := 36) hx hb dX11_areYears_29 (by decide) (fun c6 => ?_) (fun c6 => ?_)
            · rw [ki_lt] at c6
              refine lv_iconst (v := 0) hx hb dX11_areYears_36 (by decide) ?_
              have hP9 := hP.sub (ws' := []) [] rfl
              have hD9 := hD.sub (ws' := []) [] (by decide) rfl
              rw [hQ]
              exact W.zret (v := 0) hx hb hr (by decide) (fun t ht hW => ⟨⟨0, (), rfl, ⟨(show (0 : Int) ≤ (0 : Int32).toInt ∧ (0 : Int32).toInt ≤ 1 from ⟨by omega, by omega⟩), (show ((0 : Int32).toInt ≠ 0 → p1.toInt ≥ 1 ∧ p1.toInt ≤ 60) from by omega), trivial⟩, (by rw [ht]; exact hP9), hD9⟩, hS.F ht⟩) hS.2.2 dX11_areYears_37
            · rw [ki_lt] at c6
              refine lv_iconst (v := 1) hx hb dX11_areYears_32 (by decide) ?_
              refine lv_goto (tgt := 37) hx hb dX11_areYears_33 (by decide) ?_
              have hP9 := hP.sub (ws' := []) [] rfl
              have hD9 := hD.sub (ws' := []) [] (by decide) rfl
              rw [hQ]
              exact W.zret (v := 1) hx hb hr (by decide) (fun t ht hW => ⟨⟨1, (), rfl, ⟨(show (0 : Int) ≤ (1 : Int32).toInt ∧ (1 : Int32).toInt ≤ 1 from ⟨by omega, by omega⟩), (show ((1 : Int32).toInt ≠ 0 → p1.toInt ≥ 1 ∧ p1.toInt ≤ 60) from by omega), trivial⟩, (by rw [ht]; exact hP9), hD9⟩, hS.F ht⟩) hS.2.2 dX11_areYears_37
theorem dX11_isCutter_0 : decode cX11_isCutter 0 = .ok (.iload_n 0, 1) := by decide +kernel
theorem dX11_isCutter_1 : decode cX11_isCutter 1 = .ok (.ifCond .ne 13, 3) := by decide +kernel
theorem dX11_isCutter_4 : decode cX11_isCutter 4 = .ok (.iload_n 1, 1) := by decide +kernel
theorem dX11_isCutter_5 : decode cX11_isCutter 5 = .ok (.ifCond .ne 7, 3) := by decide +kernel
theorem dX11_isCutter_8 : decode cX11_isCutter 8 = .ok (.iconst 1, 1) := by decide +kernel
theorem dX11_isCutter_9 : decode cX11_isCutter 9 = .ok (.goto 4, 3) := by decide +kernel
theorem dX11_isCutter_12 : decode cX11_isCutter 12 = .ok (.iconst 0, 1) := by decide +kernel
theorem dX11_isCutter_13 : decode cX11_isCutter 13 = .ok (.ireturn, 1) := by decide +kernel
theorem dX11_isCutter_14 : decode cX11_isCutter 14 = .ok (.iload_n 0, 1) := by decide +kernel
theorem dX11_isCutter_15 : decode cX11_isCutter 15 = .ok (.iconst 1, 1) := by decide +kernel
theorem dX11_isCutter_16 : decode cX11_isCutter 16 = .ok (.if_icmp .eq 8, 3) := by decide +kernel
theorem dX11_isCutter_19 : decode cX11_isCutter 19 = .ok (.iload_n 0, 1) := by decide +kernel
theorem dX11_isCutter_20 : decode cX11_isCutter 20 = .ok (.iconst 2, 1) := by decide +kernel
theorem dX11_isCutter_21 : decode cX11_isCutter 21 = .ok (.if_icmp .ne 17, 3) := by decide +kernel
theorem dX11_isCutter_24 : decode cX11_isCutter 24 = .ok (.iload_n 1, 1) := by decide +kernel
theorem dX11_isCutter_25 : decode cX11_isCutter 25 = .ok (.ifCond .lt 13, 3) := by decide +kernel
theorem dX11_isCutter_28 : decode cX11_isCutter 28 = .ok (.iload_n 1, 1) := by decide +kernel
theorem dX11_isCutter_29 : decode cX11_isCutter 29 = .ok (.bipush 9, 2) := by decide +kernel
theorem dX11_isCutter_31 : decode cX11_isCutter 31 = .ok (.if_icmp .gt 7, 3) := by decide +kernel
theorem dX11_isCutter_34 : decode cX11_isCutter 34 = .ok (.iconst 1, 1) := by decide +kernel
theorem dX11_isCutter_35 : decode cX11_isCutter 35 = .ok (.goto 4, 3) := by decide +kernel
theorem dX11_isCutter_38 : decode cX11_isCutter 38 = .ok (.iconst 0, 1) := by decide +kernel
theorem dX11_isCutter_39 : decode cX11_isCutter 39 = .ok (.ireturn, 1) := by decide +kernel
set_option maxHeartbeats 4000000 in
set_option maxRecDepth 100000 in
theorem s_X11_isCutter (l : Launch) (dC : Nat → ClassId) (dI : Nat → Nat → Nat) (cI cZ cB cJ cM cG : ClassId) (p0 p1 : Int32) (sz : Nat) : Met l yX11_isCutter (kw yX11_isCutter cX11_isCutter 2 (some .boolean)) ({ frames := 0, cells := 0, slots := 0, locals := 0 } : Room) (va_Pc [.int p0, .int p1] (kPre dC dI [(cI, .int), (cZ, .boolean), (cB, .byte), (cJ, .long), (cM, .object RX2), (cG, .array .int)] [] sz)) (va_Qi (fun (r : Int32) (u9 : Unit) => ((0 : Int) ≤ r.toInt ∧ r.toInt ≤ 1) ∧ ((r.toInt ≠ 0 → p1.toInt ≥ 0 ∧ p1.toInt ≤ 9)) ∧ True) (fun u9 t => va_P (dC, dI) vwCl [] t.heap ∧ va_D (va_A [] sz) []) (va_A [] sz)) 0 0 (va_A [] sz) := by
  refine kEnter (by decide) (Nat.le_of_ble_eq_true rfl) ?_
  intro p e s m below meth c ls hx hb hr hml hown hlocks hin hwd hsz hP hK hD hl
  subst hsz
  generalize hAe : va_A [] s.heap.size = A at hD ⊢
  have hA : ∀ q : Nat, s.heap.size ≤ q → A q := fun q h => by rw [← hAe]; exact Or.inr h
  have hS : va_S A s.heap s.heap [] := va_S.rf
  have hl : lv_has ls 2 [(0, .int p0), (1, .int p1)] := hl
  obtain ⟨Q, hQ⟩ : ∃ Q, Q = MQ below (va_Qi (fun (r : Int32) (u9 : Unit) => ((0 : Int) ≤ r.toInt ∧ r.toInt ≤ 1) ∧ ((r.toInt ≠ 0 → p1.toInt ≥ 0 ∧ p1.toInt ≤ 9)) ∧ True) (fun u9 t => va_P (dC, dI) vwCl [] t.heap ∧ va_D A []) A) ([.int p0, .int p1] : List Value).toArray s 0 0 A := ⟨_, rfl⟩
  rw [← hQ]
  have k0 : (0 : Int32).toInt = 0 := by decide
  have k1 : (1 : Int32).toInt = 1 := by decide
  have k2 : (2 : Int32).toInt = 2 := by decide
  have k9 : (9 : Int32).toInt = 9 := by decide
  refine lv_iload_n hx hb dX11_isCutter_0 rfl (lv_at hl 0 rfl) ?_
  refine lv_if_ne (tgt := 14) hx hb dX11_isCutter_1 (by decide) (fun c1 => ?_) (fun c1 => ?_)
  · rw [ki_eq] at c1
    refine lv_iload_n hx hb dX11_isCutter_14 rfl (lv_at hl 0 rfl) ?_
    refine lv_iconst (v := 1) hx hb dX11_isCutter_15 (by decide) ?_
    have jp1 : ∀ (H : Heap) (locs : List Loc) (ls : Array Slot), va_P (dC, dI) vwCl [] H → va_D A [] → va_S A s.heap H locs → lv_has ls 2 [(0, .int p0), (1, .int p1)] → W p l e ({ frames := 0, cells := 0, slots := 0, locals := 0 } : Room) s m ([.int p0, .int p1] : List Value).toArray below meth c H locs 0 0 Q (F0 m 24 ls []) := by
      intro H locs ls  hP hD hS hl
      refine lv_iload_n hx hb dX11_isCutter_24 rfl (lv_at hl 1 rfl) ?_
      refine lv_if_lt (tgt := 38) hx hb dX11_isCutter_25 (by decide) (fun c4 => ?_) (fun c4 => ?_)
      · rw [ki_lt] at c4
        refine lv_iconst (v := 0) hx hb dX11_isCutter_38 (by decide) ?_
        have hP9 := hP.sub (ws' := []) [] rfl
        have hD9 := hD.sub (ws' := []) [] (by decide) rfl
        rw [hQ]
        exact W.zret (v := 0) hx hb hr (by decide) (fun t ht hW => ⟨⟨0, (), rfl, ⟨(show (0 : Int) ≤ (0 : Int32).toInt ∧ (0 : Int32).toInt ≤ 1 from ⟨by omega, by omega⟩), (show ((0 : Int32).toInt ≠ 0 → p1.toInt ≥ 0 ∧ p1.toInt ≤ 9) from by omega), trivial⟩, (by rw [ht]; exact hP9), hD9⟩, hS.F ht⟩) hS.2.2 dX11_isCutter_39
      · rw [ki_lt] at c4
        refine lv_iload_n hx hb dX11_isCutter_28 rfl (lv_at hl 1 rfl) ?_
        refine lv_bipush (v := 9) hx hb dX11_isCutter_29 (by decide) ?_
        refine lv_icmp_gt (tgt := 38) hx hb dX11_isCutter_31 (by decide) (fun c5 => ?_) (fun c5 => ?_)
        · rw [ki_lt] at c5
          refine lv_iconst (v := 0) hx hb dX11_isCutter_38 (by decide) ?_
          have hP9 := hP.sub (ws' := []) [] rfl
          have hD9 := hD.sub (ws' := []) [] (by decide) rfl
          rw [hQ]
          exact W.zret (v := 0) hx hb hr (by decide) (fun t ht hW => ⟨⟨0, (), rfl, ⟨(show (0 : Int) ≤ (0 : Int32).toInt ∧ (0 : Int32).toInt ≤ 1 from ⟨by omega, by omega⟩), (show ((0 : Int32).toInt ≠ 0 → p1.toInt ≥ 0 ∧ p1.toInt ≤ 9) from by omega), trivial⟩, (by rw [ht]; exact hP9), hD9⟩, hS.F ht⟩) hS.2.2 dX11_isCutter_39
        · rw [ki_lt] at c5
          refine lv_iconst (v := 1) hx hb dX11_isCutter_34 (by decide) ?_
          refine lv_goto (tgt := 39) hx hb dX11_isCutter_35 (by decide) ?_
          have hP9 := hP.sub (ws' := []) [] rfl
          have hD9 := hD.sub (ws' := []) [] (by decide) rfl
          rw [hQ]
          exact W.zret (v := 1) hx hb hr (by decide) (fun t ht hW => ⟨⟨1, (), rfl, ⟨(show (0 : Int) ≤ (1 : Int32).toInt ∧ (1 : Int32).toInt ≤ 1 from ⟨by omega, by omega⟩), (show ((1 : Int32).toInt ≠ 0 → p1.toInt ≥ 0 ∧ p1.toInt ≤ 9) from by omega), trivial⟩, (by rw [ht]; exact hP9), hD9⟩, hS.F ht⟩) hS.2.2 dX11_isCutter_39
    refine lv_icmp_eq (tgt := 24) hx hb dX11_isCutter_16 (by decide) (fun c6 => ?_) (fun c6 => ?_)
    · rw [ki_eq] at c6
      exact jp1 _ _ ls  (hP.sub (ws' := []) [] rfl) (hD.sub (ws' := []) [] (by decide) rfl) hS (lv_sub hl [0, 1] rfl)
    · rw [ki_eq] at c6
      refine lv_iload_n hx hb dX11_isCutter_19 rfl (lv_at hl 0 rfl) ?_
      refine lv_iconst (v := 2) hx hb dX11_isCutter_20 (by decide) ?_
      refine lv_icmp_ne (tgt := 38) hx hb dX11_isCutter_21 (by decide) (fun c7 => ?_) (fun c7 => ?_)
      · rw [ki_eq] at c7
        refine lv_iconst (v := 0) hx hb dX11_isCutter_38 (by decide) ?_
        have hP9 := hP.sub (ws' := []) [] rfl
        have hD9 := hD.sub (ws' := []) [] (by decide) rfl
        rw [hQ]
        exact W.zret (v := 0) hx hb hr (by decide) (fun t ht hW => ⟨⟨0, (), rfl, ⟨(show (0 : Int) ≤ (0 : Int32).toInt ∧ (0 : Int32).toInt ≤ 1 from ⟨by omega, by omega⟩), (show ((0 : Int32).toInt ≠ 0 → p1.toInt ≥ 0 ∧ p1.toInt ≤ 9) from by omega), trivial⟩, (by rw [ht]; exact hP9), hD9⟩, hS.F ht⟩) hS.2.2 dX11_isCutter_39
      · rw [ki_eq] at c7
        exact jp1 _ _ ls  (hP.sub (ws' := []) [] rfl) (hD.sub (ws' := []) [] (by decide) rfl) hS (lv_sub hl [0, 1] rfl)
  · rw [ki_eq] at c1
    refine lv_iload_n hx hb dX11_isCutter_4 rfl (lv_at hl 1 rfl) ?_
    refine lv_if_ne (tgt := 12) hx hb dX11_isCutter_5 (by decide) (fun c8 => ?_) (fun c8 => ?_)
    · rw [ki_eq] at c8
      refine lv_iconst (v := 0) hx hb dX11_isCutter_12 (by decide) ?_
      have hP9 := hP.sub (ws' := []) [] rfl
      have hD9 := hD.sub (ws' := []) [] (by decide) rfl
      rw [hQ]
      exact W.zret (v := 0) hx hb hr (by decide) (fun t ht hW => ⟨⟨0, (), rfl, ⟨(show (0 : Int) ≤ (0 : Int32).toInt ∧ (0 : Int32).toInt ≤ 1 from ⟨by omega, by omega⟩), (show ((0 : Int32).toInt ≠ 0 → p1.toInt ≥ 0 ∧ p1.toInt ≤ 9) from by omega), trivial⟩, (by rw [ht]; exact hP9), hD9⟩, hS.F ht⟩) hS.2.2 dX11_isCutter_13
    · rw [ki_eq] at c8
      refine lv_iconst (v := 1) hx hb dX11_isCutter_8 (by decide) ?_
      refine lv_goto (tgt := 13) hx hb dX11_isCutter_9 (by decide) ?_
      have hP9 := hP.sub (ws' := []) [] rfl
      have hD9 := hD.sub (ws' := []) [] (by decide) rfl
      rw [hQ]
      exact W.zret (v := 1) hx hb hr (by decide) (fun t ht hW => ⟨⟨1, (), rfl, ⟨(show (0 : Int) ≤ (1 : Int32).toInt ∧ (1 : Int32).toInt ≤ 1 from ⟨by omega, by omega⟩), (show ((1 : Int32).toInt ≠ 0 → p1.toInt ≥ 0 ∧ p1.toInt ≤ 9) from by omega), trivial⟩, (by rw [ht]; exact hP9), hD9⟩, hS.F ht⟩) hS.2.2 dX11_isCutter_13
theorem dX11_firstUnlike_0 : decode cX11_firstUnlike 0 = .ok (.iconst 0, 1) := by decide +kernel
theorem dX11_firstUnlike_1 : decode cX11_firstUnlike 1 = .ok (.istore_n 3, 1) := by decide +kernel
theorem dX11_firstUnlike_2 : decode cX11_firstUnlike 2 = .ok (.iload_n 3, 1) := by decide +kernel
theorem dX11_firstUnlike_3 : decode cX11_firstUnlike 3 = .ok (.aload_n 0, 1) := by decide +kernel
theorem dX11_firstUnlike_4 : decode cX11_firstUnlike 4 = .ok (.getfield 62, 3) := by decide +kernel
theorem dX11_firstUnlike_7 : decode cX11_firstUnlike 7 = .ok (.getfield 155, 3) := by decide +kernel
theorem dX11_firstUnlike_10 : decode cX11_firstUnlike 10 = .ok (.if_icmp .ge 20, 3) := by decide +kernel
theorem dX11_firstUnlike_13 : decode cX11_firstUnlike 13 = .ok (.aload_n 1, 1) := by decide +kernel
theorem dX11_firstUnlike_14 : decode cX11_firstUnlike 14 = .ok (.iload_n 3, 1) := by decide +kernel
theorem dX11_firstUnlike_15 : decode cX11_firstUnlike 15 = .ok (.iaload, 1) := by decide +kernel
theorem dX11_firstUnlike_16 : decode cX11_firstUnlike 16 = .ok (.aload_n 2, 1) := by decide +kernel
theorem dX11_firstUnlike_17 : decode cX11_firstUnlike 17 = .ok (.iload_n 3, 1) := by decide +kernel
theorem dX11_firstUnlike_18 : decode cX11_firstUnlike 18 = .ok (.iaload, 1) := by decide +kernel
theorem dX11_firstUnlike_19 : decode cX11_firstUnlike 19 = .ok (.if_icmp .eq 5, 3) := by decide +kernel
theorem dX11_firstUnlike_22 : decode cX11_firstUnlike 22 = .ok (.iload_n 3, 1) := by decide +kernel
theorem dX11_firstUnlike_23 : decode cX11_firstUnlike 23 = .ok (.ireturn, 1) := by decide +kernel
theorem dX11_firstUnlike_24 : decode cX11_firstUnlike 24 = .ok (.iinc 3 1, 3) := by decide +kernel
theorem dX11_firstUnlike_27 : decode cX11_firstUnlike 27 = .ok (.goto (-25), 3) := by decide +kernel
theorem dX11_firstUnlike_30 : decode cX11_firstUnlike 30 = .ok (.iconst (-1), 1) := by decide +kernel
theorem dX11_firstUnlike_31 : decode cX11_firstUnlike 31 = .ok (.ireturn, 1) := by decide +kernel
set_option maxHeartbeats 4000000 in
set_option maxRecDepth 100000 in
theorem s_X11_firstUnlike (l : Launch) (dC : Nat → ClassId) (dI : Nat → Nat → Nat) (cI cZ cB cJ cM cG : ClassId) (a0 a1 a2 a3 a4 a5 a6 a7 a8 a9 a10 a121 a122 a123 a124 a125 a171 a172 : Nat) (i77 i78 i79 i80 i81 i82 i83 i84 i85 : Int32) (xF137 xF138 : Nat → Int32) (sz : Nat) (p_0 : (0 : Int) ≤ i77.toInt ∧ i77.toInt ≤ 60) (p_1 : (0 : Int) ≤ i80.toInt ∧ i80.toInt ≤ 6) (p_2 : (0 : Int) ≤ i82.toInt ∧ i82.toInt ≤ 1) (p_3 : (0 : Int) ≤ i85.toInt ∧ i85.toInt ≤ 1) : Met l yX11_firstUnlike (kw yX11_firstUnlike cX11_firstUnlike 4 (some .int)) ({ frames := 0, cells := 0, slots := 0, locals := 0 } : Room) (va_Pc [.ref a0, .ref a171, .ref a172] (kPre dC dI [(cI, .int), (cZ, .boolean), (cB, .byte), (cJ, .long), (cM, .object RX2), (cG, .array .int)] [(a0, .inr (11, [.ref a1, .ref a2, .ref a3, .ref a4, .ref a5, .ref a6, .ref a7, .ref a8, .ref a9, .ref a10])), (a9, .inr (2, [.int i77, .int i78, .int i79, .int i80, .int i81, .int i82, .int i83, .int i84, .int i85, .ref a121, .ref a122, .ref a123, .ref a124, .ref a125])), (a171, .inl (cI, 60, .inl xF137)), (a172, .inl (cI, 60, .inl xF138))] sz)) (va_Qi (fun (r : Int32) (u9 : Unit) => ((-1 : Int) ≤ r.toInt ∧ r.toInt ≤ 59) ∧ True) (fun u9 t => va_P (dC, dI) vwCl [(a0, .inr (11, [.ref a1, .ref a2, .ref a3, .ref a4, .ref a5, .ref a6, .ref a7, .ref a8, .ref a9, .ref a10])), (a9, .inr (2, [.int i77, .int i78, .int i79, .int i80, .int i81, .int i82, .int i83, .int i84, .int i85, .ref a121, .ref a122, .ref a123, .ref a124, .ref a125])), (a171, .inl (cI, 60, .inl xF137)), (a172, .inl (cI, 60, .inl xF138))] t.heap ∧ va_D (va_A [(a0, .inr (11, [.ref a1, .ref a2, .ref a3, .ref a4, .ref a5, .ref a6, .ref a7, .ref a8, .ref a9, .ref a10])), (a9, .inr (2, [.int i77, .int i78, .int i79, .int i80, .int i81, .int i82, .int i83, .int i84, .int i85, .ref a121, .ref a122, .ref a123, .ref a124, .ref a125])), (a171, .inl (cI, 60, .inl xF137)), (a172, .inl (cI, 60, .inl xF138))] sz) [(a0, .inr (11, [.ref a1, .ref a2, .ref a3, .ref a4, .ref a5, .ref a6, .ref a7, .ref a8, .ref a9, .ref a10])), (a9, .inr (2, [.int i77, .int i78, .int i79, .int i80, .int i81, .int i82, .int i83, .int i84, .int i85, .ref a121, .ref a122, .ref a123, .ref a124, .ref a125])), (a171, .inl (cI, 60, .inl xF137)), (a172, .inl (cI, 60, .inl xF138))]) (va_A [(a0, .inr (11, [.ref a1, .ref a2, .ref a3, .ref a4, .ref a5, .ref a6, .ref a7, .ref a8, .ref a9, .ref a10])), (a9, .inr (2, [.int i77, .int i78, .int i79, .int i80, .int i81, .int i82, .int i83, .int i84, .int i85, .ref a121, .ref a122, .ref a123, .ref a124, .ref a125])), (a171, .inl (cI, 60, .inl xF137)), (a172, .inl (cI, 60, .inl xF138))] sz)) 0 0 (va_A [(a0, .inr (11, [.ref a1, .ref a2, .ref a3, .ref a4, .ref a5, .ref a6, .ref a7, .ref a8, .ref a9, .ref a10])), (a9, .inr (2, [.int i77, .int i78, .int i79, .int i80, .int i81, .int i82, .int i83, .int i84, .int i85, .ref a121, .ref a122, .ref a123, .ref a124, .ref a125])), (a171, .inl (cI, 60, .inl xF137)), (a172, .inl (cI, 60, .inl xF138))] sz) := by
  refine kEnter (by decide) (Nat.le_of_ble_eq_true rfl) ?_
  intro p e s m below meth c ls hx hb hr hml hown hlocks hin hwd hsz hP hK hD hl
  subst hsz
  generalize hAe : va_A [(a0, .inr (11, [.ref a1, .ref a2, .ref a3, .ref a4, .ref a5, .ref a6, .ref a7, .ref a8, .ref a9, .ref a10])), (a9, .inr (2, [.int i77, .int i78, .int i79, .int i80, .int i81, .int i82, .int i83, .int i84, .int i85, .ref a121, .ref a122, .ref a123, .ref a124, .ref a125])), (a171, .inl (cI, 60, .inl xF137)), (a172, .inl (cI, 60, .inl xF138))] s.heap.size = A at hD ⊢
  have hA : ∀ q : Nat, s.heap.size ≤ q → A q := fun q h => by rw [← hAe]; exact Or.inr h
  have hS : va_S A s.heap s.heap [] := va_S.rf
  have hl : lv_has ls 4 [(0, .ref a0), (1, .ref a171), (2, .ref a172)] := hl
  obtain ⟨Q, hQ⟩ : ∃ Q, Q = MQ below (va_Qi (fun (r : Int32) (u9 : Unit) => ((-1 : Int) ≤ r.toInt ∧ r.toInt ≤ 59) ∧ True) (fun u9 t => va_P (dC, dI) vwCl [(a0, .inr (11, [.ref a1, .ref a2, .ref a3, .ref a4, .ref a5, .ref a6, .ref a7, .ref a8, .ref a9, .ref a10])), (a9, .inr (2, [.int i77, .int i78, .int i79, .int i80, .int i81, .int i82, .int i83, .int i84, .int i85, .ref a121, .ref a122, .ref a123, .ref a124, .ref a125])), (a171, .inl (cI, 60, .inl xF137)), (a172, .inl (cI, 60, .inl xF138))] t.heap ∧ va_D A [(a0, .inr (11, [.ref a1, .ref a2, .ref a3, .ref a4, .ref a5, .ref a6, .ref a7, .ref a8, .ref a9, .ref a10])), (a9, .inr (2, [.int i77, .int i78, .int i79, .int i80, .int i81, .int i82, .int i83, .int i84, .int i85, .ref a121, .ref a122, .ref a123, .ref a124, .ref a125])), (a171, .inl (cI, 60, .inl xF137)), (a172, .inl (cI, 60, .inl xF138))]) A) ([.ref a0, .ref a171, .ref a172] : List Value).toArray s 0 0 A := ⟨_, rfl⟩
  rw [← hQ]
  have km1 : ((-1) : Int32).toInt = -1 := by decide
  have k0 : (0 : Int32).toInt = 0 := by decide
  have k1 : (1 : Int32).toInt = 1 := by decide
  refine lv_iconst (v := 0) hx hb dX11_firstUnlike_0 (by decide) ?_
  refine lv_istore_n (lv' := [(3, .int 0), (0, .ref a0), (1, .ref a171), (2, .ref a172)]) hx hb dX11_firstUnlike_1 rfl hl (by decide) rfl (fun ls hl => ?_)
  have lp1 : ∀ (d : Nat), ∀ (H : Heap) (locs : List Loc) (ls : Array Slot) (w3_1 : Int32), ((0 : Int) ≤ w3_1.toInt ∧ w3_1.toInt ≤ 60) → (60 - w3_1.toInt).toNat < d → va_P (dC, dI) vwCl [(a0, .inr (11, [.ref a1, .ref a2, .ref a3, .ref a4, .ref a5, .ref a6, .ref a7, .ref a8, .ref a9, .ref a10])), (a9, .inr (2, [.int i77, .int i78, .int i79, .int i80, .int i81, .int i82, .int i83, .int i84, .int i85, .ref a121, .ref a122, .ref a123, .ref a124, .ref a125])), (a171, .inl (cI, 60, .inl xF137)), (a172, .inl (cI, 60, .inl xF138))] H → va_D A [(a0, .inr (11, [.ref a1, .ref a2, .ref a3, .ref a4, .ref a5, .ref a6, .ref a7, .ref a8, .ref a9, .ref a10])), (a9, .inr (2, [.int i77, .int i78, .int i79, .int i80, .int i81, .int i82, .int i83, .int i84, .int i85, .ref a121, .ref a122, .ref a123, .ref a124, .ref a125])), (a171, .inl (cI, 60, .inl xF137)), (a172, .inl (cI, 60, .inl xF138))] → va_S A s.heap H locs → lv_has ls 4 [(0, .ref a0), (1, .ref a171), (2, .ref a172), (3, .int w3_1)] → W p l e ({ frames := 0, cells := 0, slots := 0, locals := 0 } : Room) s m ([.ref a0, .ref a171, .ref a172] : List Value).toArray below meth c H locs 0 0 Q (F0 m 2 ls []) := by
    intro d
    induction d with
    | zero =>
      intro H locs ls w3_1 hr_w3_1 hm hP hD hS hl
      omega
    | succ d ih1 =>
      intro H locs ls w3_1 hr_w3_1 hm hP hD hS hl
      refine lv_iload_n hx hb dX11_firstUnlike_2 rfl (lv_at hl 3 rfl) ?_
      refine lv_aload_n hx hb dX11_firstUnlike_3 rfl (lv_at hl 0 rfl) ?_
      refine va_get (D := (dC, dI)) (ci := 11) (v := .ref a9) (C := RX11) (T := TX11) (N := 10) hx hb hwd inlX11 hown hK hP 0 rfl rfl 8 (by decide) (hwd _ kr16_15) (fun _ h9 => h9) rfl dX11_firstUnlike_4 ?_
      refine va_get (D := (dC, dI)) (ci := 2) (v := .int i77) (C := RX2) (T := TX2) (N := 14) hx hb hwd inlX2 hown hK hP 1 rfl rfl 0 (by decide) (hwd _ kr15_1) (fun _ h9 => h9) rfl dX11_firstUnlike_7 ?_
      refine lv_icmp_ge (tgt := 30) hx hb dX11_firstUnlike_10 (by decide) (fun c42 => ?_) (fun c42 => ?_)
      · rw [ki_le] at c42
        refine lv_iconst (v := (-1)) hx hb dX11_firstUnlike_30 (by decide) ?_
        have hP9 := hP.sub (ws' := [(a0, .inr (11, [.ref a1, .ref a2, .ref a3, .ref a4, .ref a5, .ref a6, .ref a7, .ref a8, .ref a9, .ref a10])), (a9, .inr (2, [.int i77, .int i78, .int i79, .int i80, .int i81, .int i82, .int i83, .int i84, .int i85, .ref a121, .ref a122, .ref a123, .ref a124, .ref a125])), (a171, .inl (cI, 60, .inl xF137)), (a172, .inl (cI, 60, .inl xF138))]) [0, 1, 2, 3] rfl
        have hD9 := hD.sub (ws' := [(a0, .inr (11, [.ref a1, .ref a2, .ref a3, .ref a4, .ref a5, .ref a6, .ref a7, .ref a8, .ref a9, .ref a10])), (a9, .inr (2, [.int i77, .int i78, .int i79, .int i80, .int i81, .int i82, .int i83, .int i84, .int i85, .ref a121, .ref a122, .ref a123, .ref a124, .ref a125])), (a171, .inl (cI, 60, .inl xF137)), (a172, .inl (cI, 60, .inl xF138))]) [0, 1, 2, 3] (by decide) rfl
        rw [hQ]
        exact W.iret (v := (-1)) hx hb hr (fun t ht hW => ⟨⟨(-1), (), rfl, ⟨(show (-1 : Int) ≤ ((-1) : Int32).toInt ∧ ((-1) : Int32).toInt ≤ 59 from ⟨by omega, by omega⟩), trivial⟩, (by rw [ht]; exact hP9), hD9⟩, hS.F ht⟩) hS.2.2 dX11_firstUnlike_31
      · rw [ki_le] at c42
        refine lv_aload_n hx hb dX11_firstUnlike_13 rfl (lv_at hl 1 rfl) ?_
        refine lv_iload_n hx hb dX11_firstUnlike_14 rfl (lv_at hl 3 rfl) ?_
        have h43 : vp_in w3_1 60 := (vp_of (by omega) (by omega))
        refine va_iald hx hb hK hP 2 0 rfl rfl h43 dX11_firstUnlike_15 ?_
        refine lv_topi (fun x44 ex44 => ?_)
        refine lv_aload_n hx hb dX11_firstUnlike_16 rfl (lv_at hl 2 rfl) ?_
        refine lv_iload_n hx hb dX11_firstUnlike_17 rfl (lv_at hl 3 rfl) ?_
        have h45 : vp_in w3_1 60 := (vp_of (by omega) (by omega))
        refine va_iald hx hb hK hP 3 0 rfl rfl h45 dX11_firstUnlike_18 ?_
        refine lv_topi (fun x46 ex46 => ?_)
        refine lv_icmp_eq (tgt := 24) hx hb dX11_firstUnlike_19 (by decide) (fun c47 => ?_) (fun c47 => ?_)
        · rw [ki_eq] at c47
          obtain ⟨x48, ex48⟩ : ∃ y : Int32, y = w3_1 + 1 := ⟨_, rfl⟩
          refine lv_iinc (v := x48) (lv' := [(3, .int x48), (0, .ref a0), (1, .ref a171), (2, .ref a172)]) hx hb dX11_firstUnlike_24 hl (k := 3) rfl (by rw [ex48]; rfl) (by decide) rfl (fun ls hl => ?_)
          have tx48 := ia_add (a := w3_1) (b := (1 : Int32)) (by omega) (by omega)
          rw [← ex48] at tx48
          refine lv_goto (tgt := 2) hx hb dX11_firstUnlike_27 (by decide) ?_
          exact ih1 _ _ ls x48 (show (0 : Int) ≤ x48.toInt ∧ x48.toInt ≤ 60 from ⟨by omega, by omega⟩) (by omega) (hP.sub (ws' := [(a0, .inr (11, [.ref a1, .ref a2, .ref a3, .ref a4, .ref a5, .ref a6, .ref a7, .ref a8, .ref a9, .ref a10])), (a9, .inr (2, [.int i77, .int i78, .int i79, .int i80, .int i81, .int i82, .int i83, .int i84, .int i85, .ref a121, .ref a122, .ref a123, .ref a124, .ref a125])), (a171, .inl (cI, 60, .inl xF137)), (a172, .inl (cI, 60, .inl xF138))]) [0, 1, 2, 3] rfl) (hD.sub (ws' := [(a0, .inr (11, [.ref a1, .ref a2, .ref a3, .ref a4, .ref a5, .ref a6, .ref a7, .ref a8, .ref a9, .ref a10])), (a9, .inr (2, [.int i77, .int i78, .int i79, .int i80, .int i81, .int i82, .int i83, .int i84, .int i85, .ref a121, .ref a122, .ref a123, .ref a124, .ref a125])), (a171, .inl (cI, 60, .inl xF137)), (a172, .inl (cI, 60, .inl xF138))]) [0, 1, 2, 3] (by decide) rfl) hS (lv_sub hl [1, 2, 3, 0] rfl)
        · rw [ki_eq] at c47
          refine lv_iload_n hx hb dX11_firstUnlike_22 rfl (lv_at hl 3 rfl) ?_
          have hP9 := hP.sub (ws' := [(a0, .inr (11, [.ref a1, .ref a2, .ref a3, .ref a4, .ref a5, .ref a6, .ref a7, .ref a8, .ref a9, .ref a10])), (a9, .inr (2, [.int i77, .int i78, .int i79, .int i80, .int i81, .int i82, .int i83, .int i84, .int i85, .ref a121, .ref a122, .ref a123, .ref a124, .ref a125])), (a171, .inl (cI, 60, .inl xF137)), (a172, .inl (cI, 60, .inl xF138))]) [0, 1, 2, 3] rfl
          have hD9 := hD.sub (ws' := [(a0, .inr (11, [.ref a1, .ref a2, .ref a3, .ref a4, .ref a5, .ref a6, .ref a7, .ref a8, .ref a9, .ref a10])), (a9, .inr (2, [.int i77, .int i78, .int i79, .int i80, .int i81, .int i82, .int i83, .int i84, .int i85, .ref a121, .ref a122, .ref a123, .ref a124, .ref a125])), (a171, .inl (cI, 60, .inl xF137)), (a172, .inl (cI, 60, .inl xF138))]) [0, 1, 2, 3] (by decide) rfl
          rw [hQ]
          exact W.iret (v := w3_1) hx hb hr (fun t ht hW => ⟨⟨w3_1, (), rfl, ⟨(show (-1 : Int) ≤ w3_1.toInt ∧ w3_1.toInt ≤ 59 from ⟨by omega, by omega⟩), trivial⟩, (by rw [ht]; exact hP9), hD9⟩, hS.F ht⟩) hS.2.2 dX11_firstUnlike_23
  exact lp1 _ _ _ ls (0) (show (0 : Int) ≤ (0 : Int32).toInt ∧ (0 : Int32).toInt ≤ 60 from ⟨by omega, by omega⟩) (Nat.lt_succ_self _) (hP.sub (ws' := [(a0, .inr (11, [.ref a1, .ref a2, .ref a3, .ref a4, .ref a5, .ref a6, .ref a7, .ref a8, .ref a9, .ref a10])), (a9, .inr (2, [.int i77, .int i78, .int i79, .int i80, .int i81, .int i82, .int i83, .int i84, .int i85, .ref a121, .ref a122, .ref a123, .ref a124, .ref a125])), (a171, .inl (cI, 60, .inl xF137)), (a172, .inl (cI, 60, .inl xF138))]) [0, 1, 2, 3] rfl) (hD.sub (ws' := [(a0, .inr (11, [.ref a1, .ref a2, .ref a3, .ref a4, .ref a5, .ref a6, .ref a7, .ref a8, .ref a9, .ref a10])), (a9, .inr (2, [.int i77, .int i78, .int i79, .int i80, .int i81, .int i82, .int i83, .int i84, .int i85, .ref a121, .ref a122, .ref a123, .ref a124, .ref a125])), (a171, .inl (cI, 60, .inl xF137)), (a172, .inl (cI, 60, .inl xF138))]) [0, 1, 2, 3] (by decide) rfl) hS (lv_sub hl [1, 2, 3, 0] rfl)
theorem dX11_firstRise_0 : decode cX11_firstRise 0 = .ok (.iconst 0, 1) := by decide +kernel
theorem dX11_firstRise_1 : decode cX11_firstRise 1 = .ok (.istore_n 3, 1) := by decide +kernel
theorem dX11_firstRise_2 : decode cX11_firstRise 2 = .ok (.iload_n 3, 1) := by decide +kernel
theorem dX11_firstRise_3 : decode cX11_firstRise 3 = .ok (.aload_n 0, 1) := by decide +kernel
theorem dX11_firstRise_4 : decode cX11_firstRise 4 = .ok (.getfield 62, 3) := by decide +kernel
theorem dX11_firstRise_7 : decode cX11_firstRise 7 = .ok (.getfield 155, 3) := by decide +kernel
theorem dX11_firstRise_10 : decode cX11_firstRise 10 = .ok (.if_icmp .ge 31, 3) := by decide +kernel
theorem dX11_firstRise_13 : decode cX11_firstRise 13 = .ok (.aload_n 1, 1) := by decide +kernel
theorem dX11_firstRise_14 : decode cX11_firstRise 14 = .ok (.iload_n 3, 1) := by decide +kernel
theorem dX11_firstRise_15 : decode cX11_firstRise 15 = .ok (.iaload, 1) := by decide +kernel
theorem dX11_firstRise_16 : decode cX11_firstRise 16 = .ok (.aload_n 1, 1) := by decide +kernel
theorem dX11_firstRise_17 : decode cX11_firstRise 17 = .ok (.aload_n 0, 1) := by decide +kernel
theorem dX11_firstRise_18 : decode cX11_firstRise 18 = .ok (.getfield 62, 3) := by decide +kernel
theorem dX11_firstRise_21 : decode cX11_firstRise 21 = .ok (.iload_n 3, 1) := by decide +kernel
theorem dX11_firstRise_22 : decode cX11_firstRise 22 = .ok (.iconst 1, 1) := by decide +kernel
theorem dX11_firstRise_23 : decode cX11_firstRise 23 = .ok (.isub, 1) := by decide +kernel
theorem dX11_firstRise_24 : decode cX11_firstRise 24 = .ok (.invokevirtual 158, 3) := by decide +kernel
theorem dX11_firstRise_27 : decode cX11_firstRise 27 = .ok (.iaload, 1) := by decide +kernel
theorem dX11_firstRise_28 : decode cX11_firstRise 28 = .ok (.isub, 1) := by decide +kernel
theorem dX11_firstRise_29 : decode cX11_firstRise 29 = .ok (.iload_n 2, 1) := by decide +kernel
theorem dX11_firstRise_30 : decode cX11_firstRise 30 = .ok (.if_icmp .le 5, 3) := by decide +kernel
theorem dX11_firstRise_33 : decode cX11_firstRise 33 = .ok (.iload_n 3, 1) := by decide +kernel
theorem dX11_firstRise_34 : decode cX11_firstRise 34 = .ok (.ireturn, 1) := by decide +kernel
theorem dX11_firstRise_35 : decode cX11_firstRise 35 = .ok (.iinc 3 1, 3) := by decide +kernel
theorem dX11_firstRise_38 : decode cX11_firstRise 38 = .ok (.goto (-36), 3) := by decide +kernel
theorem dX11_firstRise_41 : decode cX11_firstRise 41 = .ok (.iconst (-1), 1) := by decide +kernel
theorem dX11_firstRise_42 : decode cX11_firstRise 42 = .ok (.ireturn, 1) := by decide +kernel
set_option maxHeartbeats 4000000 in
set_option maxRecDepth 100000 in
theorem s_X11_firstRise (l : Launch) (dC : Nat → ClassId) (dI : Nat → Nat → Nat) (cI cZ cB cJ cM cG : ClassId) (a0 a1 a2 a3 a4 a5 a6 a7 a8 a9 a10 a121 a122 a123 a124 a125 a171 : Nat) (i77 i78 i79 i80 i81 i82 i83 i84 i85 : Int32) (xF137 : Nat → Int32) (p1 : Int32) (sz : Nat) (p_0 : (0 : Int) ≤ i77.toInt ∧ i77.toInt ≤ 60) (p_1 : (0 : Int) ≤ i80.toInt ∧ i80.toInt ≤ 6) (p_2 : (0 : Int) ≤ i82.toInt ∧ i82.toInt ≤ 1) (p_3 : (0 : Int) ≤ i85.toInt ∧ i85.toInt ≤ 1) : Met l yX11_firstRise (kw yX11_firstRise cX11_firstRise 4 (some .int)) ({ frames := 2, cells := 0, slots := 0, locals := 43 } : Room) (va_Pc [.ref a0, .ref a171, .int p1] (kPre dC dI [(cI, .int), (cZ, .boolean), (cB, .byte), (cJ, .long), (cM, .object RX2), (cG, .array .int)] [(a0, .inr (11, [.ref a1, .ref a2, .ref a3, .ref a4, .ref a5, .ref a6, .ref a7, .ref a8, .ref a9, .ref a10])), (a9, .inr (2, [.int i77, .int i78, .int i79, .int i80, .int i81, .int i82, .int i83, .int i84, .int i85, .ref a121, .ref a122, .ref a123, .ref a124, .ref a125])), (a171, .inl (cI, 60, .inl xF137))] sz)) (va_Qi (fun (r : Int32) (u9 : Unit) => ((-1 : Int) ≤ r.toInt ∧ r.toInt ≤ 59) ∧ True) (fun u9 t => va_P (dC, dI) vwCl [(a0, .inr (11, [.ref a1, .ref a2, .ref a3, .ref a4, .ref a5, .ref a6, .ref a7, .ref a8, .ref a9, .ref a10])), (a9, .inr (2, [.int i77, .int i78, .int i79, .int i80, .int i81, .int i82, .int i83, .int i84, .int i85, .ref a121, .ref a122, .ref a123, .ref a124, .ref a125])), (a171, .inl (cI, 60, .inl xF137))] t.heap ∧ va_D (va_A [(a0, .inr (11, [.ref a1, .ref a2, .ref a3, .ref a4, .ref a5, .ref a6, .ref a7, .ref a8, .ref a9, .ref a10])), (a9, .inr (2, [.int i77, .int i78, .int i79, .int i80, .int i81, .int i82, .int i83, .int i84, .int i85, .ref a121, .ref a122, .ref a123, .ref a124, .ref a125])), (a171, .inl (cI, 60, .inl xF137))] sz) [(a0, .inr (11, [.ref a1, .ref a2, .ref a3, .ref a4, .ref a5, .ref a6, .ref a7, .ref a8, .ref a9, .ref a10])), (a9, .inr (2, [.int i77, .int i78, .int i79, .int i80, .int i81, .int i82, .int i83, .int i84, .int i85, .ref a121, .ref a122, .ref a123, .ref a124, .ref a125])), (a171, .inl (cI, 60, .inl xF137))]) (va_A [(a0, .inr (11, [.ref a1, .ref a2, .ref a3, .ref a4, .ref a5, .ref a6, .ref a7, .ref a8, .ref a9, .ref a10])), (a9, .inr (2, [.int i77, .int i78, .int i79, .int i80, .int i81, .int i82, .int i83, .int i84, .int i85, .ref a121, .ref a122, .ref a123, .ref a124, .ref a125])), (a171, .inl (cI, 60, .inl xF137))] sz)) 0 0 (va_A [(a0, .inr (11, [.ref a1, .ref a2, .ref a3, .ref a4, .ref a5, .ref a6, .ref a7, .ref a8, .ref a9, .ref a10])), (a9, .inr (2, [.int i77, .int i78, .int i79, .int i80, .int i81, .int i82, .int i83, .int i84, .int i85, .ref a121, .ref a122, .ref a123, .ref a124, .ref a125])), (a171, .inl (cI, 60, .inl xF137))] sz) := by
  refine kEnter (by decide) (Nat.le_of_ble_eq_true rfl) ?_
  intro p e s m below meth c ls hx hb hr hml hown hlocks hin hwd hsz hP hK hD hl
  subst hsz
  generalize hAe : va_A [(a0, .inr (11, [.ref a1, .ref a2, .ref a3, .ref a4, .ref a5, .ref a6, .ref a7, .ref a8, .ref a9, .ref a10])), (a9, .inr (2, [.int i77, .int i78, .int i79, .int i80, .int i81, .int i82, .int i83, .int i84, .int i85, .ref a121, .ref a122, .ref a123, .ref a124, .ref a125])), (a171, .inl (cI, 60, .inl xF137))] s.heap.size = A at hD ⊢
  have hA : ∀ q : Nat, s.heap.size ≤ q → A q := fun q h => by rw [← hAe]; exact Or.inr h
  have hS : va_S A s.heap s.heap [] := va_S.rf
  have hl : lv_has ls 4 [(0, .ref a0), (1, .ref a171), (2, .int p1)] := hl
  obtain ⟨Q, hQ⟩ : ∃ Q, Q = MQ below (va_Qi (fun (r : Int32) (u9 : Unit) => ((-1 : Int) ≤ r.toInt ∧ r.toInt ≤ 59) ∧ True) (fun u9 t => va_P (dC, dI) vwCl [(a0, .inr (11, [.ref a1, .ref a2, .ref a3, .ref a4, .ref a5, .ref a6, .ref a7, .ref a8, .ref a9, .ref a10])), (a9, .inr (2, [.int i77, .int i78, .int i79, .int i80, .int i81, .int i82, .int i83, .int i84, .int i85, .ref a121, .ref a122, .ref a123, .ref a124, .ref a125])), (a171, .inl (cI, 60, .inl xF137))] t.heap ∧ va_D A [(a0, .inr (11, [.ref a1, .ref a2, .ref a3, .ref a4, .ref a5, .ref a6, .ref a7, .ref a8, .ref a9, .ref a10])), (a9, .inr (2, [.int i77, .int i78, .int i79, .int i80, .int i81, .int i82, .int i83, .int i84, .int i85, .ref a121, .ref a122, .ref a123, .ref a124, .ref a125])), (a171, .inl (cI, 60, .inl xF137))]) A) ([.ref a0, .ref a171, .int p1] : List Value).toArray s 0 0 A := ⟨_, rfl⟩
  rw [← hQ]
  have km1 : ((-1) : Int32).toInt = -1 := by decide
  have k0 : (0 : Int32).toInt = 0 := by decide
  have k1 : (1 : Int32).toInt = 1 := by decide
  refine lv_iconst (v := 0) hx hb dX11_firstRise_0 (by decide) ?_
  refine lv_istore_n (lv' := [(3, .int 0), (0, .ref a0), (1, .ref a171), (2, .int p1)]) hx hb dX11_firstRise_1 rfl hl (by decide) rfl (fun ls hl => ?_)
  have lp1 : ∀ (d : Nat), ∀ (H : Heap) (locs : List Loc) (ls : Array Slot) (w3_1 : Int32), ((0 : Int) ≤ w3_1.toInt ∧ w3_1.toInt ≤ 60) → (60 - w3_1.toInt).toNat < d → va_P (dC, dI) vwCl [(a0, .inr (11, [.ref a1, .ref a2, .ref a3, .ref a4, .ref a5, .ref a6, .ref a7, .ref a8, .ref a9, .ref a10])), (a9, .inr (2, [.int i77, .int i78, .int i79, .int i80, .int i81, .int i82, .int i83, .int i84, .int i85, .ref a121, .ref a122, .ref a123, .ref a124, .ref a125])), (a171, .inl (cI, 60, .inl xF137))] H → va_D A [(a0, .inr (11, [.ref a1, .ref a2, .ref a3, .ref a4, .ref a5, .ref a6, .ref a7, .ref a8, .ref a9, .ref a10])), (a9, .inr (2, [.int i77, .int i78, .int i79, .int i80, .int i81, .int i82, .int i83, .int i84, .int i85, .ref a121, .ref a122, .ref a123, .ref a124, .ref a125])), (a171, .inl (cI, 60, .inl xF137))] → va_S A s.heap H locs → lv_has ls 4 [(0, .ref a0), (1, .ref a171), (2, .int p1), (3, .int w3_1)] → W p l e ({ frames := 2, cells := 0, slots := 0, locals := 43 } : Room) s m ([.ref a0, .ref a171, .int p1] : List Value).toArray below meth c H locs 0 0 Q (F0 m 2 ls []) := by
    intro d
    induction d with
    | zero =>
      intro H locs ls w3_1 hr_w3_1 hm hP hD hS hl
      omega
    | succ d ih1 =>
      intro H locs ls w3_1 hr_w3_1 hm hP hD hS hl
      refine lv_iload_n hx hb dX11_firstRise_2 rfl (lv_at hl 3 rfl) ?_
      refine lv_aload_n hx hb dX11_firstRise_3 rfl (lv_at hl 0 rfl) ?_
      refine va_get (D := (dC, dI)) (ci := 11) (v := .ref a9) (C := RX11) (T := TX11) (N := 10) hx hb hwd inlX11 hown hK hP 0 rfl rfl 8 (by decide) (hwd _ kr16_15) (fun _ h9 => h9) rfl dX11_firstRise_4 ?_
      refine va_get (D := (dC, dI)) (ci := 2) (v := .int i77) (C := RX2) (T := TX2) (N := 14) hx hb hwd inlX2 hown hK hP 1 rfl rfl 0 (by decide) (hwd _ kr15_1) (fun _ h9 => h9) rfl dX11_firstRise_7 ?_
      refine lv_icmp_ge (tgt := 41) hx hb dX11_firstRise_10 (by decide) (fun c71 => ?_) (fun c71 => ?_)
      · rw [ki_le] at c71
        refine lv_iconst (v := (-1)) hx hb dX11_firstRise_41 (by decide) ?_
        have hP9 := hP.sub (ws' := [(a0, .inr (11, [.ref a1, .ref a2, .ref a3, .ref a4, .ref a5, .ref a6, .ref a7, .ref a8, .ref a9, .ref a10])), (a9, .inr (2, [.int i77, .int i78, .int i79, .int i80, .int i81, .int i82, .int i83, .int i84, .int i85, .ref a121, .ref a122, .ref a123, .ref a124, .ref a125])), (a171, .inl (cI, 60, .inl xF137))]) [0, 1, 2] rfl
        have hD9 := hD.sub (ws' := [(a0, .inr (11, [.ref a1, .ref a2, .ref a3, .ref a4, .ref a5, .ref a6, .ref a7, .ref a8, .ref a9, .ref a10])), (a9, .inr (2, [.int i77, .int i78, .int i79, .int i80, .int i81, .int i82, .int i83, .int i84, .int i85, .ref a121, .ref a122, .ref a123, .ref a124, .ref a125])), (a171, .inl (cI, 60, .inl xF137))]) [0, 1, 2] (by decide) rfl
        rw [hQ]
        exact W.iret (v := (-1)) hx hb hr (fun t ht hW => ⟨⟨(-1), (), rfl, ⟨(show (-1 : Int) ≤ ((-1) : Int32).toInt ∧ ((-1) : Int32).toInt ≤ 59 from ⟨by omega, by omega⟩), trivial⟩, (by rw [ht]; exact hP9), hD9⟩, hS.F ht⟩) hS.2.2 dX11_firstRise_42
      · rw [ki_le] at c71
        refine lv_aload_n hx hb dX11_firstRise_13 rfl (lv_at hl 1 rfl) ?_
        refine lv_iload_n hx hb dX11_firstRise_14 rfl (lv_at hl 3 rfl) ?_
        have h72 : vp_in w3_1 60 := (vp_of (by omega) (by omega))
        refine va_iald hx hb hK hP 2 0 rfl rfl h72 dX11_firstRise_15 ?_
        refine lv_topi (fun x73 ex73 => ?_)
        refine lv_aload_n hx hb dX11_firstRise_16 rfl (lv_at hl 1 rfl) ?_
        refine lv_aload_n hx hb dX11_firstRise_17 rfl (lv_at hl 0 rfl) ?_
        refine va_get (D := (dC, dI)) (ci := 11) (v := .ref a9) (C := RX11) (T := TX11) (N := 10) hx hb hwd inlX11 hown hK hP 0 rfl rfl 8 (by decide) (hwd _ kr16_15) (fun _ h9 => h9) rfl dX11_firstRise_18 ?_
        refine lv_iload_n hx hb dX11_firstRise_21 rfl (lv_at hl 3 rfl) ?_
        refine lv_iconst (v := 1) hx hb dX11_firstRise_22 (by decide) ?_
        refine lv_isub hx hb dX11_firstRise_23 ?_
        refine lv_topi (fun x74 ex74 => ?_)
        have tx74 := ia_sub (a := w3_1) (b := (1 : Int32)) (by omega) (by omega)
        rw [← ex74] at tx74
        have hPc := hP.sub (ws' := [(a9, .inr (2, [.int i77, .int i78, .int i79, .int i80, .int i81, .int i82, .int i83, .int i84, .int i85, .ref a121, .ref a122, .ref a123, .ref a124, .ref a125]))]) [1] rfl
        have hDc := hD.sub (ws' := [(a9, .inr (2, [.int i77, .int i78, .int i79, .int i80, .int i81, .int i82, .int i83, .int i84, .int i85, .ref a121, .ref a122, .ref a123, .ref a124, .ref a125]))]) [1] (by decide) rfl
        have hFc := va_free (wc := [(a9, .inr (2, [.int i77, .int i78, .int i79, .int i80, .int i81, .int i82, .int i83, .int i84, .int i85, .ref a121, .ref a122, .ref a123, .ref a124, .ref a125]))]) hD hS hA [1] rfl
        refine va_calli (va_runV (As := [.int x74]) (rest := [.ref a171, .int x73]) ⟨hx, hb, hml, hown, hwd⟩ (s_X2_round l dC dI cI cZ cB cJ cM cG a9 a121 a122 a123 a124 a125 i77 i78 i79 i80 i81 i82 i83 i84 i85 x74 H.size (show (0 : Int) ≤ i77.toInt ∧ i77.toInt ≤ 60 from p_0) (show (0 : Int) ≤ i80.toInt ∧ i80.toInt ≤ 6 from p_1) (show (0 : Int) ≤ i82.toInt ∧ i82.toInt ≤ 1 from p_2) (show (0 : Int) ≤ i85.toInt ∧ i85.toInt ≤ 1 from p_3)) (cwV 1 hwd (gV kr31_7 kr26_4 kr26_5 kr5_18 kr26_6) rfl rfl rfl (by decide +kernel) ⟨Nat.le_of_ble_eq_true rfl, Nat.le_of_ble_eq_true rfl⟩) (kPreV hPc hK hDc (ci := 2) (q0 := 0) rfl rfl) rfl rfl hl.1 rfl (lv_room (Nat.le_of_ble_eq_true rfl)) dX11_firstRise_24 ⟨Nat.le_of_ble_eq_true rfl, Nat.le_of_ble_eq_true rfl⟩) hS (fun q _ h => hFc q h) hFc (fun r75 u76 t H1 locs ht9 hvm hw hB hz1 hk1 hS => ?_)
        obtain ⟨hw77, -⟩ := hw
        replace hw77 : (0 : Int) ≤ r75.toInt ∧ r75.toInt ≤ 59 := hw77
        obtain ⟨hP1, hD1⟩ := hB
        rw [ht9] at hP1
        obtain ⟨hP, hD⟩ := va_join (wr := [(a0, .inr (11, [.ref a1, .ref a2, .ref a3, .ref a4, .ref a5, .ref a6, .ref a7, .ref a8, .ref a9, .ref a10])), (a171, .inl (cI, 60, .inl xF137))]) (w1 := [(a9, .inr (2, [.int i77, .int i78, .int i79, .int i80, .int i81, .int i82, .int i83, .int i84, .int i85, .ref a121, .ref a122, .ref a123, .ref a124, .ref a125]))]) hP hD [1] [0, 2] rfl rfl (by decide) (by decide) hk1 hFc hP1 hD1
        generalize H1 = H at hP hS ⊢
        replace hP : va_P (dC, dI) vwCl [(a0, .inr (11, [.ref a1, .ref a2, .ref a3, .ref a4, .ref a5, .ref a6, .ref a7, .ref a8, .ref a9, .ref a10])), (a171, .inl (cI, 60, .inl xF137)), (a9, .inr (2, [.int i77, .int i78, .int i79, .int i80, .int i81, .int i82, .int i83, .int i84, .int i85, .ref a121, .ref a122, .ref a123, .ref a124, .ref a125]))] H := hP
        replace hD : va_D A [(a0, .inr (11, [.ref a1, .ref a2, .ref a3, .ref a4, .ref a5, .ref a6, .ref a7, .ref a8, .ref a9, .ref a10])), (a171, .inl (cI, 60, .inl xF137)), (a9, .inr (2, [.int i77, .int i78, .int i79, .int i80, .int i81, .int i82, .int i83, .int i84, .int i85, .ref a121, .ref a122, .ref a123, .ref a124, .ref a125]))] := hD
        have h78 : vp_in r75 60 := (vp_of (by omega) (by omega))
        refine va_iald hx hb hK hP 1 0 rfl rfl h78 dX11_firstRise_27 ?_
        refine lv_topi (fun x79 ex79 => ?_)
        refine lv_isub hx hb dX11_firstRise_28 ?_
        refine lv_topi (fun x80 ex80 => ?_)
        refine lv_iload_n hx hb dX11_firstRise_29 rfl (lv_at hl 2 rfl) ?_
        refine lv_icmp_le (tgt := 35) hx hb dX11_firstRise_30 (by decide) (fun c81 => ?_) (fun c81 => ?_)
        · rw [ki_le] at c81
          obtain ⟨x82, ex82⟩ : ∃ y : Int32, y = w3_1 + 1 := ⟨_, rfl⟩
          refine lv_iinc (v := x82) (lv' := [(3, .int x82), (0, .ref a0), (1, .ref a171), (2, .int p1)]) hx hb dX11_firstRise_35 hl (k := 3) rfl (by rw [ex82]; rfl) (by decide) rfl (fun ls hl => ?_)
          have tx82 := ia_add (a := w3_1) (b := (1 : Int32)) (by omega) (by omega)
          rw [← ex82] at tx82
          refine lv_goto (tgt := 2) hx hb dX11_firstRise_38 (by decide) ?_
          exact ih1 _ _ ls x82 (show (0 : Int) ≤ x82.toInt ∧ x82.toInt ≤ 60 from ⟨by omega, by omega⟩) (by omega) (hP.sub (ws' := [(a0, .inr (11, [.ref a1, .ref a2, .ref a3, .ref a4, .ref a5, .ref a6, .ref a7, .ref a8, .ref a9, .ref a10])), (a9, .inr (2, [.int i77, .int i78, .int i79, .int i80, .int i81, .int i82, .int i83, .int i84, .int i85, .ref a121, .ref a122, .ref a123, .ref a124, .ref a125])), (a171, .inl (cI, 60, .inl xF137))]) [0, 2, 1] rfl) (hD.sub (ws' := [(a0, .inr (11, [.ref a1, .ref a2, .ref a3, .ref a4, .ref a5, .ref a6, .ref a7, .ref a8, .ref a9, .ref a10])), (a9, .inr (2, [.int i77, .int i78, .int i79, .int i80, .int i81, .int i82, .int i83, .int i84, .int i85, .ref a121, .ref a122, .ref a123, .ref a124, .ref a125])), (a171, .inl (cI, 60, .inl xF137))]) [0, 2, 1] (by decide) rfl) hS (lv_sub hl [1, 2, 3, 0] rfl)
        · rw [ki_le] at c81
          refine lv_iload_n hx hb dX11_firstRise_33 rfl (lv_at hl 3 rfl) ?_
          have hP9 := hP.sub (ws' := [(a0, .inr (11, [.ref a1, .ref a2, .ref a3, .ref a4, .ref a5, .ref a6, .ref a7, .ref a8, .ref a9, .ref a10])), (a9, .inr (2, [.int i77, .int i78, .int i79, .int i80, .int i81, .int i82, .int i83, .int i84, .int i85, .ref a121, .ref a122, .ref a123, .ref a124, .ref a125])), (a171, .inl (cI, 60, .inl xF137))]) [0, 2, 1] rfl
          have hD9 := hD.sub (ws' := [(a0, .inr (11, [.ref a1, .ref a2, .ref a3, .ref a4, .ref a5, .ref a6, .ref a7, .ref a8, .ref a9, .ref a10])), (a9, .inr (2, [.int i77, .int i78, .int i79, .int i80, .int i81, .int i82, .int i83, .int i84, .int i85, .ref a121, .ref a122, .ref a123, .ref a124, .ref a125])), (a171, .inl (cI, 60, .inl xF137))]) [0, 2, 1] (by decide) rfl
          rw [hQ]
          exact W.iret (v := w3_1) hx hb hr (fun t ht hW => ⟨⟨w3_1, (), rfl, ⟨(show (-1 : Int) ≤ w3_1.toInt ∧ w3_1.toInt ≤ 59 from ⟨by omega, by omega⟩), trivial⟩, (by rw [ht]; exact hP9), hD9⟩, hS.F ht⟩) hS.2.2 dX11_firstRise_34
  exact lp1 _ _ _ ls (0) (show (0 : Int) ≤ (0 : Int32).toInt ∧ (0 : Int32).toInt ≤ 60 from ⟨by omega, by omega⟩) (Nat.lt_succ_self _) (hP.sub (ws' := [(a0, .inr (11, [.ref a1, .ref a2, .ref a3, .ref a4, .ref a5, .ref a6, .ref a7, .ref a8, .ref a9, .ref a10])), (a9, .inr (2, [.int i77, .int i78, .int i79, .int i80, .int i81, .int i82, .int i83, .int i84, .int i85, .ref a121, .ref a122, .ref a123, .ref a124, .ref a125])), (a171, .inl (cI, 60, .inl xF137))]) [0, 1, 2] rfl) (hD.sub (ws' := [(a0, .inr (11, [.ref a1, .ref a2, .ref a3, .ref a4, .ref a5, .ref a6, .ref a7, .ref a8, .ref a9, .ref a10])), (a9, .inr (2, [.int i77, .int i78, .int i79, .int i80, .int i81, .int i82, .int i83, .int i84, .int i85, .ref a121, .ref a122, .ref a123, .ref a124, .ref a125])), (a171, .inl (cI, 60, .inl xF137))]) [0, 1, 2] (by decide) rfl) hS (lv_sub hl [1, 2, 3, 0] rfl)
theorem dX11_firstFall_0 : decode cX11_firstFall 0 = .ok (.iconst 0, 1) := by decide +kernel
theorem dX11_firstFall_1 : decode cX11_firstFall 1 = .ok (.istore_n 3, 1) := by decide +kernel
theorem dX11_firstFall_2 : decode cX11_firstFall 2 = .ok (.iload_n 3, 1) := by decide +kernel
theorem dX11_firstFall_3 : decode cX11_firstFall 3 = .ok (.aload_n 0, 1) := by decide +kernel
theorem dX11_firstFall_4 : decode cX11_firstFall 4 = .ok (.getfield 62, 3) := by decide +kernel
theorem dX11_firstFall_7 : decode cX11_firstFall 7 = .ok (.getfield 155, 3) := by decide +kernel
theorem dX11_firstFall_10 : decode cX11_firstFall 10 = .ok (.if_icmp .ge 31, 3) := by decide +kernel
theorem dX11_firstFall_13 : decode cX11_firstFall 13 = .ok (.aload_n 1, 1) := by decide +kernel
theorem dX11_firstFall_14 : decode cX11_firstFall 14 = .ok (.aload_n 0, 1) := by decide +kernel
theorem dX11_firstFall_15 : decode cX11_firstFall 15 = .ok (.getfield 62, 3) := by decide +kernel
theorem dX11_firstFall_18 : decode cX11_firstFall 18 = .ok (.iload_n 3, 1) := by decide +kernel
theorem dX11_firstFall_19 : decode cX11_firstFall 19 = .ok (.iconst 1, 1) := by decide +kernel
theorem dX11_firstFall_20 : decode cX11_firstFall 20 = .ok (.isub, 1) := by decide +kernel
theorem dX11_firstFall_21 : decode cX11_firstFall 21 = .ok (.invokevirtual 158, 3) := by decide +kernel
theorem dX11_firstFall_24 : decode cX11_firstFall 24 = .ok (.iaload, 1) := by decide +kernel
theorem dX11_firstFall_25 : decode cX11_firstFall 25 = .ok (.aload_n 1, 1) := by decide +kernel
theorem dX11_firstFall_26 : decode cX11_firstFall 26 = .ok (.iload_n 3, 1) := by decide +kernel
theorem dX11_firstFall_27 : decode cX11_firstFall 27 = .ok (.iaload, 1) := by decide +kernel
theorem dX11_firstFall_28 : decode cX11_firstFall 28 = .ok (.isub, 1) := by decide +kernel
theorem dX11_firstFall_29 : decode cX11_firstFall 29 = .ok (.iload_n 2, 1) := by decide +kernel
theorem dX11_firstFall_30 : decode cX11_firstFall 30 = .ok (.if_icmp .le 5, 3) := by decide +kernel
theorem dX11_firstFall_33 : decode cX11_firstFall 33 = .ok (.iload_n 3, 1) := by decide +kernel
theorem dX11_firstFall_34 : decode cX11_firstFall 34 = .ok (.ireturn, 1) := by decide +kernel
theorem dX11_firstFall_35 : decode cX11_firstFall 35 = .ok (.iinc 3 1, 3) := by decide +kernel
theorem dX11_firstFall_38 : decode cX11_firstFall 38 = .ok (.goto (-36), 3) := by decide +kernel
theorem dX11_firstFall_41 : decode cX11_firstFall 41 = .ok (.iconst (-1), 1) := by decide +kernel
theorem dX11_firstFall_42 : decode cX11_firstFall 42 = .ok (.ireturn, 1) := by decide +kernel
set_option maxHeartbeats 4000000 in
set_option maxRecDepth 100000 in
theorem s_X11_firstFall (l : Launch) (dC : Nat → ClassId) (dI : Nat → Nat → Nat) (cI cZ cB cJ cM cG : ClassId) (a0 a1 a2 a3 a4 a5 a6 a7 a8 a9 a10 a121 a122 a123 a124 a125 a171 : Nat) (i77 i78 i79 i80 i81 i82 i83 i84 i85 : Int32) (xF137 : Nat → Int32) (p1 : Int32) (sz : Nat) (p_0 : (0 : Int) ≤ i77.toInt ∧ i77.toInt ≤ 60) (p_1 : (0 : Int) ≤ i80.toInt ∧ i80.toInt ≤ 6) (p_2 : (0 : Int) ≤ i82.toInt ∧ i82.toInt ≤ 1) (p_3 : (0 : Int) ≤ i85.toInt ∧ i85.toInt ≤ 1) : Met l yX11_firstFall (kw yX11_firstFall cX11_firstFall 4 (some .int)) ({ frames := 2, cells := 0, slots := 0, locals := 43 } : Room) (va_Pc [.ref a0, .ref a171, .int p1] (kPre dC dI [(cI, .int), (cZ, .boolean), (cB, .byte), (cJ, .long), (cM, .object RX2), (cG, .array .int)] [(a0, .inr (11, [.ref a1, .ref a2, .ref a3, .ref a4, .ref a5, .ref a6, .ref a7, .ref a8, .ref a9, .ref a10])), (a9, .inr (2, [.int i77, .int i78, .int i79, .int i80, .int i81, .int i82, .int i83, .int i84, .int i85, .ref a121, .ref a122, .ref a123, .ref a124, .ref a125])), (a171, .inl (cI, 60, .inl xF137))] sz)) (va_Qi (fun (r : Int32) (u9 : Unit) => ((-1 : Int) ≤ r.toInt ∧ r.toInt ≤ 59) ∧ True) (fun u9 t => va_P (dC, dI) vwCl [(a0, .inr (11, [.ref a1, .ref a2, .ref a3, .ref a4, .ref a5, .ref a6, .ref a7, .ref a8, .ref a9, .ref a10])), (a9, .inr (2, [.int i77, .int i78, .int i79, .int i80, .int i81, .int i82, .int i83, .int i84, .int i85, .ref a121, .ref a122, .ref a123, .ref a124, .ref a125])), (a171, .inl (cI, 60, .inl xF137))] t.heap ∧ va_D (va_A [(a0, .inr (11, [.ref a1, .ref a2, .ref a3, .ref a4, .ref a5, .ref a6, .ref a7, .ref a8, .ref a9, .ref a10])), (a9, .inr (2, [.int i77, .int i78, .int i79, .int i80, .int i81, .int i82, .int i83, .int i84, .int i85, .ref a121, .ref a122, .ref a123, .ref a124, .ref a125])), (a171, .inl (cI, 60, .inl xF137))] sz) [(a0, .inr (11, [.ref a1, .ref a2, .ref a3, .ref a4, .ref a5, .ref a6, .ref a7, .ref a8, .ref a9, .ref a10])), (a9, .inr (2, [.int i77, .int i78, .int i79, .int i80, .int i81, .int i82, .int i83, .int i84, .int i85, .ref a121, .ref a122, .ref a123, .ref a124, .ref a125])), (a171, .inl (cI, 60, .inl xF137))]) (va_A [(a0, .inr (11, [.ref a1, .ref a2, .ref a3, .ref a4, .ref a5, .ref a6, .ref a7, .ref a8, .ref a9, .ref a10])), (a9, .inr (2, [.int i77, .int i78, .int i79, .int i80, .int i81, .int i82, .int i83, .int i84, .int i85, .ref a121, .ref a122, .ref a123, .ref a124, .ref a125])), (a171, .inl (cI, 60, .inl xF137))] sz)) 0 0 (va_A [(a0, .inr (11, [.ref a1, .ref a2, .ref a3, .ref a4, .ref a5, .ref a6, .ref a7, .ref a8, .ref a9, .ref a10])), (a9, .inr (2, [.int i77, .int i78, .int i79, .int i80, .int i81, .int i82, .int i83, .int i84, .int i85, .ref a121, .ref a122, .ref a123, .ref a124, .ref a125])), (a171, .inl (cI, 60, .inl xF137))] sz) := by
  refine kEnter (by decide) (Nat.le_of_ble_eq_true rfl) ?_
  intro p e s m below meth c ls hx hb hr hml hown hlocks hin hwd hsz hP hK hD hl
  subst hsz
  generalize hAe : va_A [(a0, .inr (11, [.ref a1, .ref a2, .ref a3, .ref a4, .ref a5, .ref a6, .ref a7, .ref a8, .ref a9, .ref a10])), (a9, .inr (2, [.int i77, .int i78, .int i79, .int i80, .int i81, .int i82, .int i83, .int i84, .int i85, .ref a121, .ref a122, .ref a123, .ref a124, .ref a125])), (a171, .inl (cI, 60, .inl xF137))] s.heap.size = A at hD ⊢
  have hA : ∀ q : Nat, s.heap.size ≤ q → A q := fun q h => by rw [← hAe]; exact Or.inr h
  have hS : va_S A s.heap s.heap [] := va_S.rf
  have hl : lv_has ls 4 [(0, .ref a0), (1, .ref a171), (2, .int p1)] := hl
  obtain ⟨Q, hQ⟩ : ∃ Q, Q = MQ below (va_Qi (fun (r : Int32) (u9 : Unit) => ((-1 : Int) ≤ r.toInt ∧ r.toInt ≤ 59) ∧ True) (fun u9 t => va_P (dC, dI) vwCl [(a0, .inr (11, [.ref a1, .ref a2, .ref a3, .ref a4, .ref a5, .ref a6, .ref a7, .ref a8, .ref a9, .ref a10])), (a9, .inr (2, [.int i77, .int i78, .int i79, .int i80, .int i81, .int i82, .int i83, .int i84, .int i85, .ref a121, .ref a122, .ref a123, .ref a124, .ref a125])), (a171, .inl (cI, 60, .inl xF137))] t.heap ∧ va_D A [(a0, .inr (11, [.ref a1, .ref a2, .ref a3, .ref a4, .ref a5, .ref a6, .ref a7, .ref a8, .ref a9, .ref a10])), (a9, .inr (2, [.int i77, .int i78, .int i79, .int i80, .int i81, .int i82, .int i83, .int i84, .int i85, .ref a121, .ref a122, .ref a123, .ref a124, .ref a125])), (a171, .inl (cI, 60, .inl xF137))]) A) ([.ref a0, .ref a171, .int p1] : List Value).toArray s 0 0 A := ⟨_, rfl⟩
  rw [← hQ]
  have km1 : ((-1) : Int32).toInt = -1 := by decide
  have k0 : (0 : Int32).toInt = 0 := by decide
  have k1 : (1 : Int32).toInt = 1 := by decide
  refine lv_iconst (v := 0) hx hb dX11_firstFall_0 (by decide) ?_
  refine lv_istore_n (lv' := [(3, .int 0), (0, .ref a0), (1, .ref a171), (2, .int p1)]) hx hb dX11_firstFall_1 rfl hl (by decide) rfl (fun ls hl => ?_)
  have lp1 : ∀ (d : Nat), ∀ (H : Heap) (locs : List Loc) (ls : Array Slot) (w3_1 : Int32), ((0 : Int) ≤ w3_1.toInt ∧ w3_1.toInt ≤ 60) → (60 - w3_1.toInt).toNat < d → va_P (dC, dI) vwCl [(a0, .inr (11, [.ref a1, .ref a2, .ref a3, .ref a4, .ref a5, .ref a6, .ref a7, .ref a8, .ref a9, .ref a10])), (a9, .inr (2, [.int i77, .int i78, .int i79, .int i80, .int i81, .int i82, .int i83, .int i84, .int i85, .ref a121, .ref a122, .ref a123, .ref a124, .ref a125])), (a171, .inl (cI, 60, .inl xF137))] H → va_D A [(a0, .inr (11, [.ref a1, .ref a2, .ref a3, .ref a4, .ref a5, .ref a6, .ref a7, .ref a8, .ref a9, .ref a10])), (a9, .inr (2, [.int i77, .int i78, .int i79, .int i80, .int i81, .int i82, .int i83, .int i84, .int i85, .ref a121, .ref a122, .ref a123, .ref a124, .ref a125])), (a171, .inl (cI, 60, .inl xF137))] → va_S A s.heap H locs → lv_has ls 4 [(0, .ref a0), (1, .ref a171), (2, .int p1), (3, .int w3_1)] → W p l e ({ frames := 2, cells := 0, slots := 0, locals := 43 } : Room) s m ([.ref a0, .ref a171, .int p1] : List Value).toArray below meth c H locs 0 0 Q (F0 m 2 ls []) := by
    intro d
    induction d with
    | zero =>
      intro H locs ls w3_1 hr_w3_1 hm hP hD hS hl
      omega
    | succ d ih1 =>
      intro H locs ls w3_1 hr_w3_1 hm hP hD hS hl
      refine lv_iload_n hx hb dX11_firstFall_2 rfl (lv_at hl 3 rfl) ?_
      refine lv_aload_n hx hb dX11_firstFall_3 rfl (lv_at hl 0 rfl) ?_
      refine va_get (D := (dC, dI)) (ci := 11) (v := .ref a9) (C := RX11) (T := TX11) (N := 10) hx hb hwd inlX11 hown hK hP 0 rfl rfl 8 (by decide) (hwd _ kr16_15) (fun _ h9 => h9) rfl dX11_firstFall_4 ?_
      refine va_get (D := (dC, dI)) (ci := 2) (v := .int i77) (C := RX2) (T := TX2) (N := 14) hx hb hwd inlX2 hown hK hP 1 rfl rfl 0 (by decide) (hwd _ kr15_1) (fun _ h9 => h9) rfl dX11_firstFall_7 ?_
      refine lv_icmp_ge (tgt := 41) hx hb dX11_firstFall_10 (by decide) (fun c71 => ?_) (fun c71 => ?_)
      · rw [ki_le] at c71
        refine lv_iconst (v := (-1)) hx hb dX11_firstFall_41 (by decide) ?_
        have hP9 := hP.sub (ws' := [(a0, .inr (11, [.ref a1, .ref a2, .ref a3, .ref a4, .ref a5, .ref a6, .ref a7, .ref a8, .ref a9, .ref a10])), (a9, .inr (2, [.int i77, .int i78, .int i79, .int i80, .int i81, .int i82, .int i83, .int i84, .int i85, .ref a121, .ref a122, .ref a123, .ref a124, .ref a125])), (a171, .inl (cI, 60, .inl xF137))]) [0, 1, 2] rfl
        have hD9 := hD.sub (ws' := [(a0, .inr (11, [.ref a1, .ref a2, .ref a3, .ref a4, .ref a5, .ref a6, .ref a7, .ref a8, .ref a9, .ref a10])), (a9, .inr (2, [.int i77, .int i78, .int i79, .int i80, .int i81, .int i82, .int i83, .int i84, .int i85, .ref a121, .ref a122, .ref a123, .ref a124, .ref a125])), (a171, .inl (cI, 60, .inl xF137))]) [0, 1, 2] (by decide) rfl
        rw [hQ]
        exact W.iret (v := (-1)) hx hb hr (fun t ht hW => ⟨⟨(-1), (), rfl, ⟨(show (-1 : Int) ≤ ((-1) : Int32).toInt ∧ ((-1) : Int32).toInt ≤ 59 from ⟨by omega, by omega⟩), trivial⟩, (by rw [ht]; exact hP9), hD9⟩, hS.F ht⟩) hS.2.2 dX11_firstFall_42
      · rw [ki_le] at c71
        refine lv_aload_n hx hb dX11_firstFall_13 rfl (lv_at hl 1 rfl) ?_
        refine lv_aload_n hx hb dX11_firstFall_14 rfl (lv_at hl 0 rfl) ?_
        refine va_get (D := (dC, dI)) (ci := 11) (v := .ref a9) (C := RX11) (T := TX11) (N := 10) hx hb hwd inlX11 hown hK hP 0 rfl rfl 8 (by decide) (hwd _ kr16_15) (fun _ h9 => h9) rfl dX11_firstFall_15 ?_
        refine lv_iload_n hx hb dX11_firstFall_18 rfl (lv_at hl 3 rfl) ?_
        refine lv_iconst (v := 1) hx hb dX11_firstFall_19 (by decide) ?_
        refine lv_isub hx hb dX11_firstFall_20 ?_
        refine lv_topi (fun x72 ex72 => ?_)
        have tx72 := ia_sub (a := w3_1) (b := (1 : Int32)) (by omega) (by omega)
        rw [← ex72] at tx72
        have hPc := hP.sub (ws' := [(a9, .inr (2, [.int i77, .int i78, .int i79, .int i80, .int i81, .int i82, .int i83, .int i84, .int i85, .ref a121, .ref a122, .ref a123, .ref a124, .ref a125]))]) [1] rfl
        have hDc := hD.sub (ws' := [(a9, .inr (2, [.int i77, .int i78, .int i79, .int i80, .int i81, .int i82, .int i83, .int i84, .int i85, .ref a121, .ref a122, .ref a123, .ref a124, .ref a125]))]) [1] (by decide) rfl
        have hFc := va_free (wc := [(a9, .inr (2, [.int i77, .int i78, .int i79, .int i80, .int i81, .int i82, .int i83, .int i84, .int i85, .ref a121, .ref a122, .ref a123, .ref a124, .ref a125]))]) hD hS hA [1] rfl
        refine va_calli (va_runV (As := [.int x72]) (rest := [.ref a171]) ⟨hx, hb, hml, hown, hwd⟩ (s_X2_round l dC dI cI cZ cB cJ cM cG a9 a121 a122 a123 a124 a125 i77 i78 i79 i80 i81 i82 i83 i84 i85 x72 H.size (show (0 : Int) ≤ i77.toInt ∧ i77.toInt ≤ 60 from p_0) (show (0 : Int) ≤ i80.toInt ∧ i80.toInt ≤ 6 from p_1) (show (0 : Int) ≤ i82.toInt ∧ i82.toInt ≤ 1 from p_2) (show (0 : Int) ≤ i85.toInt ∧ i85.toInt ≤ 1 from p_3)) (cwV 1 hwd (gV kr31_7 kr26_4 kr26_5 kr5_18 kr26_6) rfl rfl rfl (by decide +kernel) ⟨Nat.le_of_ble_eq_true rfl, Nat.le_of_ble_eq_true rfl⟩) (kPreV hPc hK hDc (ci := 2) (q0 := 0) rfl rfl) rfl rfl hl.1 rfl (lv_room (Nat.le_of_ble_eq_true rfl)) dX11_firstFall_21 ⟨Nat.le_of_ble_eq_true rfl, Nat.le_of_ble_eq_true rfl⟩) hS (fun q _ h => hFc q h) hFc (fun r73 u74 t H1 locs ht9 hvm hw hB hz1 hk1 hS => ?_)
        obtain ⟨hw75, -⟩ := hw
        replace hw75 : (0 : Int) ≤ r73.toInt ∧ r73.toInt ≤ 59 := hw75
        obtain ⟨hP1, hD1⟩ := hB
        rw [ht9] at hP1
        obtain ⟨hP, hD⟩ := va_join (wr := [(a0, .inr (11, [.ref a1, .ref a2, .ref a3, .ref a4, .ref a5, .ref a6, .ref a7, .ref a8, .ref a9, .ref a10])), (a171, .inl (cI, 60, .inl xF137))]) (w1 := [(a9, .inr (2, [.int i77, .int i78, .int i79, .int i80, .int i81, .int i82, .int i83, .int i84, .int i85, .ref a121, .ref a122, .ref a123, .ref a124, .ref a125]))]) hP hD [1] [0, 2] rfl rfl (by decide) (by decide) hk1 hFc hP1 hD1
        generalize H1 = H at hP hS ⊢
        replace hP : va_P (dC, dI) vwCl [(a0, .inr (11, [.ref a1, .ref a2, .ref a3, .ref a4, .ref a5, .ref a6, .ref a7, .ref a8, .ref a9, .ref a10])), (a171, .inl (cI, 60, .inl xF137)), (a9, .inr (2, [.int i77, .int i78, .int i79, .int i80, .int i81, .int i82, .int i83, .int i84, .int i85, .ref a121, .ref a122, .ref a123, .ref a124, .ref a125]))] H := hP
        replace hD : va_D A [(a0, .inr (11, [.ref a1, .ref a2, .ref a3, .ref a4, .ref a5, .ref a6, .ref a7, .ref a8, .ref a9, .ref a10])), (a171, .inl (cI, 60, .inl xF137)), (a9, .inr (2, [.int i77, .int i78, .int i79, .int i80, .int i81, .int i82, .int i83, .int i84, .int i85, .ref a121, .ref a122, .ref a123, .ref a124, .ref a125]))] := hD
        have h76 : vp_in r73 60 := (vp_of (by omega) (by omega))
        refine va_iald hx hb hK hP 1 0 rfl rfl h76 dX11_firstFall_24 ?_
        refine lv_topi (fun x77 ex77 => ?_)
        refine lv_aload_n hx hb dX11_firstFall_25 rfl (lv_at hl 1 rfl) ?_
        refine lv_iload_n hx hb dX11_firstFall_26 rfl (lv_at hl 3 rfl) ?_
        have h78 : vp_in w3_1 60 := (vp_of (by omega) (by omega))
        refine va_iald hx hb hK hP 1 0 rfl rfl h78 dX11_firstFall_27 ?_
        refine lv_topi (fun x79 ex79 => ?_)
        refine lv_isub hx hb dX11_firstFall_28 ?_
        refine lv_topi (fun x80 ex80 => ?_)
        refine lv_iload_n hx hb dX11_firstFall_29 rfl (lv_at hl 2 rfl) ?_
        refine lv_icmp_le (tgt := 35) hx hb dX11_firstFall_30 (by decide) (fun c81 => ?_) (fun c81 => ?_)
        · rw [ki_le] at c81
          obtain ⟨x82, ex82⟩ : ∃ y : Int32, y = w3_1 + 1 := ⟨_, rfl⟩
          refine lv_iinc (v := x82) (lv' := [(3, .int x82), (0, .ref a0), (1, .ref a171), (2, .int p1)]) hx hb dX11_firstFall_35 hl (k := 3) rfl (by rw [ex82]; rfl) (by decide) rfl (fun ls hl => ?_)
          have tx82 := ia_add (a := w3_1) (b := (1 : Int32)) (by omega) (by omega)
          rw [← ex82] at tx82
          refine lv_goto (tgt := 2) hx hb dX11_firstFall_38 (by decide) ?_
          exact ih1 _ _ ls x82 (show (0 : Int) ≤ x82.toInt ∧ x82.toInt ≤ 60 from ⟨by omega, by omega⟩) (by omega) (hP.sub (ws' := [(a0, .inr (11, [.ref a1, .ref a2, .ref a3, .ref a4, .ref a5, .ref a6, .ref a7, .ref a8, .ref a9, .ref a10])), (a9, .inr (2, [.int i77, .int i78, .int i79, .int i80, .int i81, .int i82, .int i83, .int i84, .int i85, .ref a121, .ref a122, .ref a123, .ref a124, .ref a125])), (a171, .inl (cI, 60, .inl xF137))]) [0, 2, 1] rfl) (hD.sub (ws' := [(a0, .inr (11, [.ref a1, .ref a2, .ref a3, .ref a4, .ref a5, .ref a6, .ref a7, .ref a8, .ref a9, .ref a10])), (a9, .inr (2, [.int i77, .int i78, .int i79, .int i80, .int i81, .int i82, .int i83, .int i84, .int i85, .ref a121, .ref a122, .ref a123, .ref a124, .ref a125])), (a171, .inl (cI, 60, .inl xF137))]) [0, 2, 1] (by decide) rfl) hS (lv_sub hl [1, 2, 3, 0] rfl)
        · rw [ki_le] at c81
          refine lv_iload_n hx hb dX11_firstFall_33 rfl (lv_at hl 3 rfl) ?_
          have hP9 := hP.sub (ws' := [(a0, .inr (11, [.ref a1, .ref a2, .ref a3, .ref a4, .ref a5, .ref a6, .ref a7, .ref a8, .ref a9, .ref a10])), (a9, .inr (2, [.int i77, .int i78, .int i79, .int i80, .int i81, .int i82, .int i83, .int i84, .int i85, .ref a121, .ref a122, .ref a123, .ref a124, .ref a125])), (a171, .inl (cI, 60, .inl xF137))]) [0, 2, 1] rfl
          have hD9 := hD.sub (ws' := [(a0, .inr (11, [.ref a1, .ref a2, .ref a3, .ref a4, .ref a5, .ref a6, .ref a7, .ref a8, .ref a9, .ref a10])), (a9, .inr (2, [.int i77, .int i78, .int i79, .int i80, .int i81, .int i82, .int i83, .int i84, .int i85, .ref a121, .ref a122, .ref a123, .ref a124, .ref a125])), (a171, .inl (cI, 60, .inl xF137))]) [0, 2, 1] (by decide) rfl
          rw [hQ]
          exact W.iret (v := w3_1) hx hb hr (fun t ht hW => ⟨⟨w3_1, (), rfl, ⟨(show (-1 : Int) ≤ w3_1.toInt ∧ w3_1.toInt ≤ 59 from ⟨by omega, by omega⟩), trivial⟩, (by rw [ht]; exact hP9), hD9⟩, hS.F ht⟩) hS.2.2 dX11_firstFall_34
  exact lp1 _ _ _ ls (0) (show (0 : Int) ≤ (0 : Int32).toInt ∧ (0 : Int32).toInt ≤ 60 from ⟨by omega, by omega⟩) (Nat.lt_succ_self _) (hP.sub (ws' := [(a0, .inr (11, [.ref a1, .ref a2, .ref a3, .ref a4, .ref a5, .ref a6, .ref a7, .ref a8, .ref a9, .ref a10])), (a9, .inr (2, [.int i77, .int i78, .int i79, .int i80, .int i81, .int i82, .int i83, .int i84, .int i85, .ref a121, .ref a122, .ref a123, .ref a124, .ref a125])), (a171, .inl (cI, 60, .inl xF137))]) [0, 1, 2] rfl) (hD.sub (ws' := [(a0, .inr (11, [.ref a1, .ref a2, .ref a3, .ref a4, .ref a5, .ref a6, .ref a7, .ref a8, .ref a9, .ref a10])), (a9, .inr (2, [.int i77, .int i78, .int i79, .int i80, .int i81, .int i82, .int i83, .int i84, .int i85, .ref a121, .ref a122, .ref a123, .ref a124, .ref a125])), (a171, .inl (cI, 60, .inl xF137))]) [0, 1, 2] (by decide) rfl) hS (lv_sub hl [1, 2, 3, 0] rfl)
theorem dX11_firstNotBrought_0 : decode cX11_firstNotBrought 0 = .ok (.aload_n 0, 1) := by decide +kernel
theorem dX11_firstNotBrought_1 : decode cX11_firstNotBrought 1 = .ok (.getfield 26, 3) := by decide +kernel
theorem dX11_firstNotBrought_4 : decode cX11_firstNotBrought 4 = .ok (.aload_n 0, 1) := by decide +kernel
theorem dX11_firstNotBrought_5 : decode cX11_firstNotBrought 5 = .ok (.getfield 62, 3) := by decide +kernel
theorem dX11_firstNotBrought_8 : decode cX11_firstNotBrought 8 = .ok (.iload_n 1, 1) := by decide +kernel
theorem dX11_firstNotBrought_9 : decode cX11_firstNotBrought 9 = .ok (.iload_n 2, 1) := by decide +kernel
theorem dX11_firstNotBrought_10 : decode cX11_firstNotBrought 10 = .ok (.invokevirtual 310, 3) := by decide +kernel
theorem dX11_firstNotBrought_13 : decode cX11_firstNotBrought 13 = .ok (.aload_n 0, 1) := by decide +kernel
theorem dX11_firstNotBrought_14 : decode cX11_firstNotBrought 14 = .ok (.getfield 26, 3) := by decide +kernel
theorem dX11_firstNotBrought_17 : decode cX11_firstNotBrought 17 = .ok (.aload_n 0, 1) := by decide +kernel
theorem dX11_firstNotBrought_18 : decode cX11_firstNotBrought 18 = .ok (.getfield 62, 3) := by decide +kernel
theorem dX11_firstNotBrought_21 : decode cX11_firstNotBrought 21 = .ok (.iload_n 1, 1) := by decide +kernel
theorem dX11_firstNotBrought_22 : decode cX11_firstNotBrought 22 = .ok (.iload_n 2, 1) := by decide +kernel
theorem dX11_firstNotBrought_23 : decode cX11_firstNotBrought 23 = .ok (.invokevirtual 434, 3) := by decide +kernel
theorem dX11_firstNotBrought_26 : decode cX11_firstNotBrought 26 = .ok (.aload_n 0, 1) := by decide +kernel
theorem dX11_firstNotBrought_27 : decode cX11_firstNotBrought 27 = .ok (.aload_n 0, 1) := by decide +kernel
theorem dX11_firstNotBrought_28 : decode cX11_firstNotBrought 28 = .ok (.getfield 62, 3) := by decide +kernel
theorem dX11_firstNotBrought_31 : decode cX11_firstNotBrought 31 = .ok (.getfield 303, 3) := by decide +kernel
theorem dX11_firstNotBrought_34 : decode cX11_firstNotBrought 34 = .ok (.aload_n 0, 1) := by decide +kernel
theorem dX11_firstNotBrought_35 : decode cX11_firstNotBrought 35 = .ok (.getfield 26, 3) := by decide +kernel
theorem dX11_firstNotBrought_38 : decode cX11_firstNotBrought 38 = .ok (.getfield 152, 3) := by decide +kernel
theorem dX11_firstNotBrought_41 : decode cX11_firstNotBrought 41 = .ok (.invokevirtual 320, 3) := by decide +kernel
theorem dX11_firstNotBrought_44 : decode cX11_firstNotBrought 44 = .ok (.ireturn, 1) := by decide +kernel
set_option maxHeartbeats 4000000 in
set_option maxRecDepth 100000 in
theorem s_X11_firstNotBrought (l : Launch) (dC : Nat → ClassId) (dI : Nat → Nat → Nat) (cI cZ cB cJ cM cG : ClassId) (a0 a1 a2 a3 a4 a5 a6 a7 a8 a9 a10 a19 a20 a21 a22 a23 a24 a25 a121 a122 a123 a124 a125 : Nat) (i77 i78 i79 i80 i81 i82 i83 i84 i85 : Int32) (xF10 xF11 xF115 : Nat → Int32) (p0 p1 : Int32) (sz : Nat) (p_0 : (0 : Int) ≤ i77.toInt ∧ i77.toInt ≤ 60) (p_1 : (0 : Int) ≤ i80.toInt ∧ i80.toInt ≤ 6) (p_2 : (0 : Int) ≤ i82.toInt ∧ i82.toInt ≤ 1) (p_3 : (0 : Int) ≤ i85.toInt ∧ i85.toInt ≤ 1) (p_4 : (0 : Int) ≤ p1.toInt ∧ p1.toInt ≤ 9) : Met l yX11_firstNotBrought (kw yX11_firstNotBrought cX11_firstNotBrought 3 (some .int)) ({ frames := 3, cells := 0, slots := 0, locals := 71 } : Room) (va_Pc [.ref a0, .int p0, .int p1] (kPre dC dI [(cI, .int), (cZ, .boolean), (cB, .byte), (cJ, .long), (cM, .object RX2), (cG, .array .int)] [(a0, .inr (11, [.ref a1, .ref a2, .ref a3, .ref a4, .ref a5, .ref a6, .ref a7, .ref a8, .ref a9, .ref a10])), (a3, .inr (0, [.ref a19, .ref a20, .ref a21, .ref a22, .ref a23, .ref a24, .ref a25])), (a21, .inl (cI, 60, .inl xF10)), (a22, .inl (cI, 60, .inl xF11)), (a9, .inr (2, [.int i77, .int i78, .int i79, .int i80, .int i81, .int i82, .int i83, .int i84, .int i85, .ref a121, .ref a122, .ref a123, .ref a124, .ref a125])), (a125, .inl (cI, 60, .inl xF115))] sz)) (va_Qi (fun (r : Int32) (u9 : (Nat → Int32) × (Nat → Nat → Int32) × (Nat → Nat → Int64)) => ((-1 : Int) ≤ r.toInt ∧ r.toInt ≤ 59) ∧ True) (fun u9 t => va_P (dC, dI) vwCl [(a0, .inr (11, [.ref a1, .ref a2, .ref a3, .ref a4, .ref a5, .ref a6, .ref a7, .ref a8, .ref a9, .ref a10])), (a3, .inr (0, [.ref a19, .ref a20, .ref a21, .ref a22, .ref a23, .ref a24, .ref a25])), (a21, .inl (cI, 60, .inl (u9.2.1 0))), (a22, .inl (cI, 60, .inl (u9.2.1 1))), (a9, .inr (2, [.int i77, .int i78, .int i79, .int i80, .int i81, .int i82, .int i83, .int i84, .int i85, .ref a121, .ref a122, .ref a123, .ref a124, .ref a125])), (a125, .inl (cI, 60, .inl xF115))] t.heap ∧ va_D (va_A [(a0, .inr (11, [.ref a1, .ref a2, .ref a3, .ref a4, .ref a5, .ref a6, .ref a7, .ref a8, .ref a9, .ref a10])), (a3, .inr (0, [.ref a19, .ref a20, .ref a21, .ref a22, .ref a23, .ref a24, .ref a25])), (a21, .inl (cI, 60, .inl xF10)), (a22, .inl (cI, 60, .inl xF11)), (a9, .inr (2, [.int i77, .int i78, .int i79, .int i80, .int i81, .int i82, .int i83, .int i84, .int i85, .ref a121, .ref a122, .ref a123, .ref a124, .ref a125])), (a125, .inl (cI, 60, .inl xF115))] sz) [(a0, .inr (11, [.ref a1, .ref a2, .ref a3, .ref a4, .ref a5, .ref a6, .ref a7, .ref a8, .ref a9, .ref a10])), (a3, .inr (0, [.ref a19, .ref a20, .ref a21, .ref a22, .ref a23, .ref a24, .ref a25])), (a21, .inl (cI, 60, .inl (u9.2.1 0))), (a22, .inl (cI, 60, .inl (u9.2.1 1))), (a9, .inr (2, [.int i77, .int i78, .int i79, .int i80, .int i81, .int i82, .int i83, .int i84, .int i85, .ref a121, .ref a122, .ref a123, .ref a124, .ref a125])), (a125, .inl (cI, 60, .inl xF115))]) (va_A [(a0, .inr (11, [.ref a1, .ref a2, .ref a3, .ref a4, .ref a5, .ref a6, .ref a7, .ref a8, .ref a9, .ref a10])), (a3, .inr (0, [.ref a19, .ref a20, .ref a21, .ref a22, .ref a23, .ref a24, .ref a25])), (a21, .inl (cI, 60, .inl xF10)), (a22, .inl (cI, 60, .inl xF11)), (a9, .inr (2, [.int i77, .int i78, .int i79, .int i80, .int i81, .int i82, .int i83, .int i84, .int i85, .ref a121, .ref a122, .ref a123, .ref a124, .ref a125])), (a125, .inl (cI, 60, .inl xF115))] sz)) 0 0 (va_A [(a0, .inr (11, [.ref a1, .ref a2, .ref a3, .ref a4, .ref a5, .ref a6, .ref a7, .ref a8, .ref a9, .ref a10])), (a3, .inr (0, [.ref a19, .ref a20, .ref a21, .ref a22, .ref a23, .ref a24, .ref a25])), (a21, .inl (cI, 60, .inl xF10)), (a22, .inl (cI, 60, .inl xF11)), (a9, .inr (2, [.int i77, .int i78, .int i79, .int i80, .int i81, .int i82, .int i83, .int i84, .int i85, .ref a121, .ref a122, .ref a123, .ref a124, .ref a125])), (a125, .inl (cI, 60, .inl xF115))] sz) := by
  refine kEnter (by decide) (Nat.le_of_ble_eq_true rfl) ?_
  intro p e s m below meth c ls hx hb hr hml hown hlocks hin hwd hsz hP hK hD hl
  subst hsz
  generalize hAe : va_A [(a0, .inr (11, [.ref a1, .ref a2, .ref a3, .ref a4, .ref a5, .ref a6, .ref a7, .ref a8, .ref a9, .ref a10])), (a3, .inr (0, [.ref a19, .ref a20, .ref a21, .ref a22, .ref a23, .ref a24, .ref a25])), (a21, .inl (cI, 60, .inl xF10)), (a22, .inl (cI, 60, .inl xF11)), (a9, .inr (2, [.int i77, .int i78, .int i79, .int i80, .int i81, .int i82, .int i83, .int i84, .int i85, .ref a121, .ref a122, .ref a123, .ref a124, .ref a125])), (a125, .inl (cI, 60, .inl xF115))] s.heap.size = A at hD ⊢
  have hA : ∀ q : Nat, s.heap.size ≤ q → A q := fun q h => by rw [← hAe]; exact Or.inr h
  have hS : va_S A s.heap s.heap [] := va_S.rf
  have hl : lv_has ls 3 [(0, .ref a0), (1, .int p0), (2, .int p1)] := hl
  obtain ⟨Q, hQ⟩ : ∃ Q, Q = MQ below (va_Qi (fun (r : Int32) (u9 : (Nat → Int32) × (Nat → Nat → Int32) × (Nat → Nat → Int64)) => ((-1 : Int) ≤ r.toInt ∧ r.toInt ≤ 59) ∧ True) (fun u9 t => va_P (dC, dI) vwCl [(a0, .inr (11, [.ref a1, .ref a2, .ref a3, .ref a4, .ref a5, .ref a6, .ref a7, .ref a8, .ref a9, .ref a10])), (a3, .inr (0, [.ref a19, .ref a20, .ref a21, .ref a22, .ref a23, .ref a24, .ref a25])), (a21, .inl (cI, 60, .inl (u9.2.1 0))), (a22, .inl (cI, 60, .inl (u9.2.1 1))), (a9, .inr (2, [.int i77, .int i78, .int i79, .int i80, .int i81, .int i82, .int i83, .int i84, .int i85, .ref a121, .ref a122, .ref a123, .ref a124, .ref a125])), (a125, .inl (cI, 60, .inl xF115))] t.heap ∧ va_D A [(a0, .inr (11, [.ref a1, .ref a2, .ref a3, .ref a4, .ref a5, .ref a6, .ref a7, .ref a8, .ref a9, .ref a10])), (a3, .inr (0, [.ref a19, .ref a20, .ref a21, .ref a22, .ref a23, .ref a24, .ref a25])), (a21, .inl (cI, 60, .inl (u9.2.1 0))), (a22, .inl (cI, 60, .inl (u9.2.1 1))), (a9, .inr (2, [.int i77, .int i78, .int i79, .int i80, .int i81, .int i82, .int i83, .int i84, .int i85, .ref a121, .ref a122, .ref a123, .ref a124, .ref a125])), (a125, .inl (cI, 60, .inl xF115))]) A) ([.ref a0, .int p0, .int p1] : List Value).toArray s 0 0 A := ⟨_, rfl⟩
  rw [← hQ]
  refine lv_aload_n hx hb dX11_firstNotBrought_0 rfl (lv_at hl 0 rfl) ?_
  refine va_get (D := (dC, dI)) (ci := 11) (v := .ref a3) (C := RX11) (T := TX11) (N := 10) hx hb hwd inlX11 hown hK hP 0 rfl rfl 2 (by decide) (hwd _ kr16_9) (fun _ h9 => h9) rfl dX11_firstNotBrought_1 ?_
  refine lv_aload_n hx hb dX11_firstNotBrought_4 rfl (lv_at hl 0 rfl) ?_
  refine va_get (D := (dC, dI)) (ci := 11) (v := .ref a9) (C := RX11) (T := TX11) (N := 10) hx hb hwd inlX11 hown hK hP 0 rfl rfl 8 (by decide) (hwd _ kr16_15) (fun _ h9 => h9) rfl dX11_firstNotBrought_5 ?_
  refine lv_iload_n hx hb dX11_firstNotBrought_8 rfl (lv_at hl 1 rfl) ?_
  refine lv_iload_n hx hb dX11_firstNotBrought_9 rfl (lv_at hl 2 rfl) ?_
  have hPc := hP.sub (ws' := [(a3, .inr (0, [.ref a19, .ref a20, .ref a21, .ref a22, .ref a23, .ref a24, .ref a25])), (a21, .inl (cI, 60, .inl xF10)), (a9, .inr (2, [.int i77, .int i78, .int i79, .int i80, .int i81, .int i82, .int i83, .int i84, .int i85, .ref a121, .ref a122, .ref a123, .ref a124, .ref a125])), (a125, .inl (cI, 60, .inl xF115))]) [1, 2, 4, 5] rfl
  have hDc := hD.sub (ws' := [(a3, .inr (0, [.ref a19, .ref a20, .ref a21, .ref a22, .ref a23, .ref a24, .ref a25])), (a21, .inl (cI, 60, .inl xF10)), (a9, .inr (2, [.int i77, .int i78, .int i79, .int i80, .int i81, .int i82, .int i83, .int i84, .int i85, .ref a121, .ref a122, .ref a123, .ref a124, .ref a125])), (a125, .inl (cI, 60, .inl xF115))]) [1, 2, 4, 5] (by decide) rfl
  have hFc := va_free (wc := [(a3, .inr (0, [.ref a19, .ref a20, .ref a21, .ref a22, .ref a23, .ref a24, .ref a25])), (a21, .inl (cI, 60, .inl xF10)), (a9, .inr (2, [.int i77, .int i78, .int i79, .int i80, .int i81, .int i82, .int i83, .int i84, .int i85, .ref a121, .ref a122, .ref a123, .ref a124, .ref a125])), (a125, .inl (cI, 60, .inl xF115))]) hD hS hA [1, 2, 4, 5] rfl
  refine va_callv (va_runV (As := [.ref a9, .int p0, .int p1]) (rest := []) ⟨hx, hb, hml, hown, hwd⟩ (s_X0_fillCut l dC dI cI cZ cB cJ cM cG a3 a19 a20 a21 a22 a23 a24 a25 a9 a121 a122 a123 a124 a125 i77 i78 i79 i80 i81 i82 i83 i84 i85 xF10 xF115 p0 p1 s.heap.size (show (0 : Int) ≤ i77.toInt ∧ i77.toInt ≤ 60 from p_0) (show (0 : Int) ≤ i80.toInt ∧ i80.toInt ≤ 6 from p_1) (show (0 : Int) ≤ i82.toInt ∧ i82.toInt ≤ 1 from p_2) (show (0 : Int) ≤ i85.toInt ∧ i85.toInt ≤ 1 from p_3) (show (0 : Int) ≤ p1.toInt ∧ p1.toInt ≤ 9 from p_4)) (cwV 3 hwd (gV kr38_4 kr38_5 kr38_6 kr5_14 kr38_7) rfl rfl rfl (by decide +kernel) ⟨Nat.le_of_ble_eq_true rfl, Nat.le_of_ble_eq_true rfl⟩) (kPreV hPc hK hDc (ci := 0) (q0 := 0) rfl rfl) rfl rfl hl.1 rfl (lv_room (Nat.le_of_ble_eq_true rfl)) dX11_firstNotBrought_10 ⟨Nat.le_of_ble_eq_true rfl, Nat.le_of_ble_eq_true rfl⟩) hS (fun q _ h => hFc q h) hFc (fun u2 t H1 locs ht9 hvm hw hB hz1 hk1 hS => ?_)
  obtain ⟨u3, U3, V3⟩ := u2
  obtain ⟨hP1, hD1⟩ := hB
  rw [ht9] at hP1
  obtain ⟨hP, hD⟩ := va_join (wr := [(a0, .inr (11, [.ref a1, .ref a2, .ref a3, .ref a4, .ref a5, .ref a6, .ref a7, .ref a8, .ref a9, .ref a10])), (a22, .inl (cI, 60, .inl xF11))]) (w1 := [(a3, .inr (0, [.ref a19, .ref a20, .ref a21, .ref a22, .ref a23, .ref a24, .ref a25])), (a21, .inl (cI, 60, .inl (U3 0))), (a9, .inr (2, [.int i77, .int i78, .int i79, .int i80, .int i81, .int i82, .int i83, .int i84, .int i85, .ref a121, .ref a122, .ref a123, .ref a124, .ref a125])), (a125, .inl (cI, 60, .inl xF115))]) hP hD [1, 2, 4, 5] [0, 3] rfl rfl (by decide) (by decide) hk1 hFc hP1 hD1
  generalize H1 = H at hP hS ⊢
  replace hP : va_P (dC, dI) vwCl [(a0, .inr (11, [.ref a1, .ref a2, .ref a3, .ref a4, .ref a5, .ref a6, .ref a7, .ref a8, .ref a9, .ref a10])), (a22, .inl (cI, 60, .inl xF11)), (a3, .inr (0, [.ref a19, .ref a20, .ref a21, .ref a22, .ref a23, .ref a24, .ref a25])), (a21, .inl (cI, 60, .inl (U3 0))), (a9, .inr (2, [.int i77, .int i78, .int i79, .int i80, .int i81, .int i82, .int i83, .int i84, .int i85, .ref a121, .ref a122, .ref a123, .ref a124, .ref a125])), (a125, .inl (cI, 60, .inl xF115))] H := hP
  replace hD : va_D A [(a0, .inr (11, [.ref a1, .ref a2, .ref a3, .ref a4, .ref a5, .ref a6, .ref a7, .ref a8, .ref a9, .ref a10])), (a22, .inl (cI, 60, .inl xF11)), (a3, .inr (0, [.ref a19, .ref a20, .ref a21, .ref a22, .ref a23, .ref a24, .ref a25])), (a21, .inl (cI, 60, .inl (U3 0))), (a9, .inr (2, [.int i77, .int i78, .int i79, .int i80, .int i81, .int i82, .int i83, .int i84, .int i85, .ref a121, .ref a122, .ref a123, .ref a124, .ref a125])), (a125, .inl (cI, 60, .inl xF115))] := hD
  refine lv_aload_n hx hb dX11_firstNotBrought_13 rfl (lv_at hl 0 rfl) ?_
  refine va_get (D := (dC, dI)) (ci := 11) (v := .ref a3) (C := RX11) (T := TX11) (N := 10) hx hb hwd inlX11 hown hK hP 0 rfl rfl 2 (by decide) (hwd _ kr16_9) (fun _ h9 => h9) rfl dX11_firstNotBrought_14 ?_
  refine lv_aload_n hx hb dX11_firstNotBrought_17 rfl (lv_at hl 0 rfl) ?_
  refine va_get (D := (dC, dI)) (ci := 11) (v := .ref a9) (C := RX11) (T := TX11) (N := 10) hx hb hwd inlX11 hown hK hP 0 rfl rfl 8 (by decide) (hwd _ kr16_15) (fun _ h9 => h9) rfl dX11_firstNotBrought_18 ?_
  refine lv_iload_n hx hb dX11_firstNotBrought_21 rfl (lv_at hl 1 rfl) ?_
  refine lv_iload_n hx hb dX11_firstNotBrought_22 rfl (lv_at hl 2 rfl) ?_
  have hPc := hP.sub (ws' := [(a3, .inr (0, [.ref a19, .ref a20, .ref a21, .ref a22, .ref a23, .ref a24, .ref a25])), (a21, .inl (cI, 60, .inl (U3 0))), (a22, .inl (cI, 60, .inl xF11)), (a9, .inr (2, [.int i77, .int i78, .int i79, .int i80, .int i81, .int i82, .int i83, .int i84, .int i85, .ref a121, .ref a122, .ref a123, .ref a124, .ref a125]))]) [2, 3, 1, 4] rfl
  have hDc := hD.sub (ws' := [(a3, .inr (0, [.ref a19, .ref a20, .ref a21, .ref a22, .ref a23, .ref a24, .ref a25])), (a21, .inl (cI, 60, .inl (U3 0))), (a22, .inl (cI, 60, .inl xF11)), (a9, .inr (2, [.int i77, .int i78, .int i79, .int i80, .int i81, .int i82, .int i83, .int i84, .int i85, .ref a121, .ref a122, .ref a123, .ref a124, .ref a125]))]) [2, 3, 1, 4] (by decide) rfl
  have hFc := va_free (wc := [(a3, .inr (0, [.ref a19, .ref a20, .ref a21, .ref a22, .ref a23, .ref a24, .ref a25])), (a21, .inl (cI, 60, .inl (U3 0))), (a22, .inl (cI, 60, .inl xF11)), (a9, .inr (2, [.int i77, .int i78, .int i79, .int i80, .int i81, .int i82, .int i83, .int i84, .int i85, .ref a121, .ref a122, .ref a123, .ref a124, .ref a125]))]) hD hS hA [2, 3, 1, 4] rfl
  refine va_callv (va_runV (As := [.ref a9, .int p0, .int p1]) (rest := []) ⟨hx, hb, hml, hown, hwd⟩ (s_X0_spread l dC dI cI cZ cB cJ cM cG a3 a19 a20 a21 a22 a23 a24 a25 a9 a121 a122 a123 a124 a125 i77 i78 i79 i80 i81 i82 i83 i84 i85 (U3 0) xF11 p0 p1 H.size (show (0 : Int) ≤ i77.toInt ∧ i77.toInt ≤ 60 from p_0) (show (0 : Int) ≤ i80.toInt ∧ i80.toInt ≤ 6 from p_1) (show (0 : Int) ≤ i82.toInt ∧ i82.toInt ≤ 1 from p_2) (show (0 : Int) ≤ i85.toInt ∧ i85.toInt ≤ 1 from p_3) (show (0 : Int) ≤ p1.toInt ∧ p1.toInt ≤ 9 from p_4)) (cwV 3 hwd (gV kr38_15 kr26_0 kr26_1 kr5_14 kr26_2) rfl rfl rfl (by decide +kernel) ⟨Nat.le_of_ble_eq_true rfl, Nat.le_of_ble_eq_true rfl⟩) (kPreV hPc hK hDc (ci := 0) (q0 := 0) rfl rfl) rfl rfl hl.1 rfl (lv_room (Nat.le_of_ble_eq_true rfl)) dX11_firstNotBrought_23 ⟨Nat.le_of_ble_eq_true rfl, Nat.le_of_ble_eq_true rfl⟩) hS (fun q _ h => hFc q h) hFc (fun u5 t H1 locs ht9 hvm hw hB hz1 hk1 hS => ?_)
  obtain ⟨u6, U6, V6⟩ := u5
  obtain ⟨hP1, hD1⟩ := hB
  rw [ht9] at hP1
  obtain ⟨hP, hD⟩ := va_join (wr := [(a0, .inr (11, [.ref a1, .ref a2, .ref a3, .ref a4, .ref a5, .ref a6, .ref a7, .ref a8, .ref a9, .ref a10])), (a125, .inl (cI, 60, .inl xF115))]) (w1 := [(a3, .inr (0, [.ref a19, .ref a20, .ref a21, .ref a22, .ref a23, .ref a24, .ref a25])), (a21, .inl (cI, 60, .inl (U3 0))), (a22, .inl (cI, 60, .inl (U6 0))), (a9, .inr (2, [.int i77, .int i78, .int i79, .int i80, .int i81, .int i82, .int i83, .int i84, .int i85, .ref a121, .ref a122, .ref a123, .ref a124, .ref a125]))]) hP hD [2, 3, 1, 4] [0, 5] rfl rfl (by decide) (by decide) hk1 hFc hP1 hD1
  generalize H1 = H at hP hS ⊢
  replace hP : va_P (dC, dI) vwCl [(a0, .inr (11, [.ref a1, .ref a2, .ref a3, .ref a4, .ref a5, .ref a6, .ref a7, .ref a8, .ref a9, .ref a10])), (a125, .inl (cI, 60, .inl xF115)), (a3, .inr (0, [.ref a19, .ref a20, .ref a21, .ref a22, .ref a23, .ref a24, .ref a25])), (a21, .inl (cI, 60, .inl (U3 0))), (a22, .inl (cI, 60, .inl (U6 0))), (a9, .inr (2, [.int i77, .int i78, .int i79, .int i80, .int i81, .int i82, .int i83, .int i84, .int i85, .ref a121, .ref a122, .ref a123, .ref a124, .ref a125]))] H := hP
  replace hD : va_D A [(a0, .inr (11, [.ref a1, .ref a2, .ref a3, .ref a4, .ref a5, .ref a6, .ref a7, .ref a8, .ref a9, .ref a10])), (a125, .inl (cI, 60, .inl xF115)), (a3, .inr (0, [.ref a19, .ref a20, .ref a21, .ref a22, .ref a23, .ref a24, .ref a25])), (a21, .inl (cI, 60, .inl (U3 0))), (a22, .inl (cI, 60, .inl (U6 0))), (a9, .inr (2, [.int i77, .int i78, .int i79, .int i80, .int i81, .int i82, .int i83, .int i84, .int i85, .ref a121, .ref a122, .ref a123, .ref a124, .ref a125]))] := hD
  refine lv_aload_n hx hb dX11_firstNotBrought_26 rfl (lv_at hl 0 rfl) ?_
  refine lv_aload_n hx hb dX11_firstNotBrought_27 rfl (lv_at hl 0 rfl) ?_
  refine va_get (D := (dC, dI)) (ci := 11) (v := .ref a9) (C := RX11) (T := TX11) (N := 10) hx hb hwd inlX11 hown hK hP 0 rfl rfl 8 (by decide) (hwd _ kr16_15) (fun _ h9 => h9) rfl dX11_firstNotBrought_28 ?_
  refine va_get (D := (dC, dI)) (ci := 2) (v := .ref a125) (C := RX2) (T := TX2) (N := 14) hx hb hwd inlX2 hown hK hP 5 rfl rfl 13 (by decide) (hwd _ kr16_6) (fun _ h9 => h9) rfl dX11_firstNotBrought_31 ?_
  refine lv_aload_n hx hb dX11_firstNotBrought_34 rfl (lv_at hl 0 rfl) ?_
  refine va_get (D := (dC, dI)) (ci := 11) (v := .ref a3) (C := RX11) (T := TX11) (N := 10) hx hb hwd inlX11 hown hK hP 0 rfl rfl 2 (by decide) (hwd _ kr16_9) (fun _ h9 => h9) rfl dX11_firstNotBrought_35 ?_
  refine va_get (D := (dC, dI)) (ci := 0) (v := .ref a22) (C := RX0) (T := TX0) (N := 7) hx hb hwd inlX0 hown hK hP 2 rfl rfl 3 (by decide) (hwd _ kr8_17) (fun _ h9 => h9) rfl dX11_firstNotBrought_38 ?_
  have hPc := hP.sub (ws' := [(a0, .inr (11, [.ref a1, .ref a2, .ref a3, .ref a4, .ref a5, .ref a6, .ref a7, .ref a8, .ref a9, .ref a10])), (a9, .inr (2, [.int i77, .int i78, .int i79, .int i80, .int i81, .int i82, .int i83, .int i84, .int i85, .ref a121, .ref a122, .ref a123, .ref a124, .ref a125])), (a125, .inl (cI, 60, .inl xF115)), (a22, .inl (cI, 60, .inl (U6 0)))]) [0, 5, 1, 4] rfl
  have hDc := hD.sub (ws' := [(a0, .inr (11, [.ref a1, .ref a2, .ref a3, .ref a4, .ref a5, .ref a6, .ref a7, .ref a8, .ref a9, .ref a10])), (a9, .inr (2, [.int i77, .int i78, .int i79, .int i80, .int i81, .int i82, .int i83, .int i84, .int i85, .ref a121, .ref a122, .ref a123, .ref a124, .ref a125])), (a125, .inl (cI, 60, .inl xF115)), (a22, .inl (cI, 60, .inl (U6 0)))]) [0, 5, 1, 4] (by decide) rfl
  have hFc := va_free (wc := [(a0, .inr (11, [.ref a1, .ref a2, .ref a3, .ref a4, .ref a5, .ref a6, .ref a7, .ref a8, .ref a9, .ref a10])), (a9, .inr (2, [.int i77, .int i78, .int i79, .int i80, .int i81, .int i82, .int i83, .int i84, .int i85, .ref a121, .ref a122, .ref a123, .ref a124, .ref a125])), (a125, .inl (cI, 60, .inl xF115)), (a22, .inl (cI, 60, .inl (U6 0)))]) hD hS hA [0, 5, 1, 4] rfl
  refine va_calli (va_runV (As := [.ref a125, .ref a22]) (rest := []) ⟨hx, hb, hml, hown, hwd⟩ (s_X11_firstUnlike l dC dI cI cZ cB cJ cM cG a0 a1 a2 a3 a4 a5 a6 a7 a8 a9 a10 a121 a122 a123 a124 a125 a125 a22 i77 i78 i79 i80 i81 i82 i83 i84 i85 xF115 (U6 0) H.size (show (0 : Int) ≤ i77.toInt ∧ i77.toInt ≤ 60 from p_0) (show (0 : Int) ≤ i80.toInt ∧ i80.toInt ≤ 6 from p_1) (show (0 : Int) ≤ i82.toInt ∧ i82.toInt ≤ 1 from p_2) (show (0 : Int) ≤ i85.toInt ∧ i85.toInt ≤ 1 from p_3)) (cwV 2 hwd (gV kr38_16 kr38_17 kr2_4 kr5_11 kr38_18) rfl rfl rfl (by decide +kernel) ⟨Nat.le_of_ble_eq_true rfl, Nat.le_of_ble_eq_true rfl⟩) (kPreV hPc hK hDc (ci := 11) (q0 := 0) rfl rfl) rfl rfl hl.1 rfl (lv_room (Nat.le_of_ble_eq_true rfl)) dX11_firstNotBrought_41 ⟨Nat.le_of_ble_eq_true rfl, Nat.le_of_ble_eq_true rfl⟩) hS (fun q _ h => hFc q h) hFc (fun r7 u8 t H1 locs ht9 hvm hw hB hz1 hk1 hS => ?_)
  obtain ⟨hw9, -⟩ := hw
  replace hw9 : (-1 : Int) ≤ r7.toInt ∧ r7.toInt ≤ 59 := hw9
  obtain ⟨hP1, hD1⟩ := hB
  rw [ht9] at hP1
  obtain ⟨hP, hD⟩ := va_join (wr := [(a3, .inr (0, [.ref a19, .ref a20, .ref a21, .ref a22, .ref a23, .ref a24, .ref a25])), (a21, .inl (cI, 60, .inl (U3 0)))]) (w1 := [(a0, .inr (11, [.ref a1, .ref a2, .ref a3, .ref a4, .ref a5, .ref a6, .ref a7, .ref a8, .ref a9, .ref a10])), (a9, .inr (2, [.int i77, .int i78, .int i79, .int i80, .int i81, .int i82, .int i83, .int i84, .int i85, .ref a121, .ref a122, .ref a123, .ref a124, .ref a125])), (a125, .inl (cI, 60, .inl xF115)), (a22, .inl (cI, 60, .inl (U6 0)))]) hP hD [0, 5, 1, 4] [2, 3] rfl rfl (by decide) (by decide) hk1 hFc hP1 hD1
  generalize H1 = H at hP hS ⊢
  replace hP : va_P (dC, dI) vwCl [(a3, .inr (0, [.ref a19, .ref a20, .ref a21, .ref a22, .ref a23, .ref a24, .ref a25])), (a21, .inl (cI, 60, .inl (U3 0))), (a0, .inr (11, [.ref a1, .ref a2, .ref a3, .ref a4, .ref a5, .ref a6, .ref a7, .ref a8, .ref a9, .ref a10])), (a9, .inr (2, [.int i77, .int i78, .int i79, .int i80, .int i81, .int i82, .int i83, .int i84, .int i85, .ref a121, .ref a122, .ref a123, .ref a124, .ref a125])), (a125, .inl (cI, 60, .inl xF115)), (a22, .inl (cI, 60, .inl (U6 0)))] H := hP
  replace hD : va_D A [(a3, .inr (0, [.ref a19, .ref a20, .ref a21, .ref a22, .ref a23, .ref a24, .ref a25])), (a21, .inl (cI, 60, .inl (U3 0))), (a0, .inr (11, [.ref a1, .ref a2, .ref a3, .ref a4, .ref a5, .ref a6, .ref a7, .ref a8, .ref a9, .ref a10])), (a9, .inr (2, [.int i77, .int i78, .int i79, .int i80, .int i81, .int i82, .int i83, .int i84, .int i85, .ref a121, .ref a122, .ref a123, .ref a124, .ref a125])), (a125, .inl (cI, 60, .inl xF115)), (a22, .inl (cI, 60, .inl (U6 0)))] := hD
  have hP9 := hP.sub (ws' := [(a0, .inr (11, [.ref a1, .ref a2, .ref a3, .ref a4, .ref a5, .ref a6, .ref a7, .ref a8, .ref a9, .ref a10])), (a3, .inr (0, [.ref a19, .ref a20, .ref a21, .ref a22, .ref a23, .ref a24, .ref a25])), (a21, .inl (cI, 60, .inl (U3 0))), (a22, .inl (cI, 60, .inl (U6 0))), (a9, .inr (2, [.int i77, .int i78, .int i79, .int i80, .int i81, .int i82, .int i83, .int i84, .int i85, .ref a121, .ref a122, .ref a123, .ref a124, .ref a125])), (a125, .inl (cI, 60, .inl xF115))]) [2, 0, 1, 5, 3, 4] rfl
  have hD9 := hD.sub (ws' := [(a0, .inr (11, [.ref a1, .ref a2, .ref a3, .ref a4, .ref a5, .ref a6, .ref a7, .ref a8, .ref a9, .ref a10])), (a3, .inr (0, [.ref a19, .ref a20, .ref a21, .ref a22, .ref a23, .ref a24, .ref a25])), (a21, .inl (cI, 60, .inl (U3 0))), (a22, .inl (cI, 60, .inl (U6 0))), (a9, .inr (2, [.int i77, .int i78, .int i79, .int i80, .int i81, .int i82, .int i83, .int i84, .int i85, .ref a121, .ref a122, .ref a123, .ref a124, .ref a125])), (a125, .inl (cI, 60, .inl xF115))]) [2, 0, 1, 5, 3, 4] (by decide) rfl
  rw [hQ]
  exact W.iret (v := r7) hx hb hr (fun t ht hW => ⟨⟨r7, (pickG 0 [], pickG (fun _ => 0) [(U3 0), (U6 0)], pickG (fun _ => 0) []), rfl, ⟨(show (-1 : Int) ≤ r7.toInt ∧ r7.toInt ≤ 59 from hw9), trivial⟩, (by rw [ht]; exact hP9), hD9⟩, hS.F ht⟩) hS.2.2 dX11_firstNotBrought_44
